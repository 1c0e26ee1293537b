/-! SETS that fit, in order: how many, the first, what is in each, in none -/
noncomputable def cntP (P : Nat → Prop) : Nat → Nat
  | 0 => 0
  | s + 1 => @ite _ (P s) (Classical.propDecidable _) (cntP P s + 1) (cntP P s)
theorem cnt_t {P : Nat → Prop} {s : Nat} (h : P s) : cntP P (s + 1) = cntP P s + 1 := if_pos h
theorem cnt_f {P : Nat → Prop} {s : Nat} (h : ¬ P s) : cntP P (s + 1) = cntP P s := if_neg h
theorem cnt_le (P : Nat → Prop) : ∀ s, cntP P s ≤ s := by
  intro s
  induction s with
  | zero => exact Nat.le_refl _
  | succ s ih =>
    by_cases h : P s
    · rw [cnt_t h]; omega
    · rw [cnt_f h]; omega
theorem cnt_up (P : Nat → Prop) (t : Nat) : ∀ k, cntP P t ≤ cntP P (t + k) := by
  intro k
  induction k with
  | zero => exact Nat.le_refl _
  | succ k ih =>
    show cntP P t ≤ cntP P (t + k + 1)
    by_cases h : P (t + k)
    · rw [cnt_t h]; omega
    · rw [cnt_f h]; omega
theorem cnt_mono {P : Nat → Prop} {t s : Nat} (h : t ≤ s) : cntP P t ≤ cntP P s := by
  obtain ⟨k, rfl⟩ := Nat.exists_eq_add_of_le h
  exact cnt_up P t k
theorem cnt_lt {P : Nat → Prop} {t s : Nat} (h : t < s) (hp : P t) : cntP P t < cntP P s := by
  have := cnt_mono (P := P) (show t + 1 ≤ s by omega)
  rw [cnt_t hp] at this
  omega
theorem cnt_0 {P : Nat → Prop} : ∀ s, (∀ t, t < s → ¬ P t) → cntP P s = 0 := by
  intro s
  induction s with
  | zero => intro _; rfl
  | succ s ih => intro h; rw [cnt_f (h s (by omega))]; exact ih (fun t ht => h t (by omega))
def lstq (P : Nat → Prop) (f : Nat → Int32) (s : Nat) : Prop := ∀ t, t < s → P t → f (cntP P t) = nI t
theorem lst_add {P : Nat → Prop} {f : Nat → Int32} {s : Nat} (h : lstq P f s) (hp : P s) : lstq P (upd f (cntP P s) (nI s)) (s + 1) := by
  intro t ht q
  by_cases e : t = s
  · subst e; exact us
  · have l := cnt_lt (P := P) (show t < s by omega) q
    rw [un (by omega)]
    exact h t (by omega) q
theorem lst_skip {P : Nat → Prop} {f : Nat → Int32} {s : Nat} (h : lstq P f s) (hp : ¬ P s) : lstq P f (s + 1) := by
  intro t ht q
  by_cases e : t = s
  · subst e; exact absurd q hp
  · exact h t (by omega) q
theorem lst_0 {P : Nat → Prop} {f : Nat → Int32} : lstq P f 0 := fun t ht => absurd ht (by omega)
theorem ex_least {P : Nat → Prop} : ∀ n, (∃ t, t < n ∧ P t) → ∃ t, t < n ∧ P t ∧ ∀ u, u < t → ¬ P u := by
  intro n
  induction n with
  | zero => rintro ⟨t, h, _⟩; exact absurd h (by omega)
  | succ n ih =>
    rintro ⟨t, h, q⟩
    by_cases e : ∃ t, t < n ∧ P t
    · obtain ⟨u, h1, h2, h3⟩ := ih e
      exact ⟨u, by omega, h2, h3⟩
    · have : t = n := by
        apply Classical.byContradiction
        intro hne
        exact e ⟨t, by omega, q⟩
      subst this
      exact ⟨t, h, q, fun u hu hp => e ⟨u, hu, hp⟩⟩
/-- the least from k on, or none -/
def fsq (P : Nat → Prop) (k n : Nat) (x : Int32) : Prop := (x = -9 ∧ ∀ t, k ≤ t → t < n → ¬ P t) ∨ ∃ t, k ≤ t ∧ t < n ∧ P t ∧ x = nI t ∧ ∀ u, k ≤ u → u < t → ¬ P u
theorem fsq_u {P : Nat → Prop} {k n : Nat} {x y : Int32} (hx : fsq P k n x) (hy : fsq P k n y) : x = y := by
  rcases hx with ⟨rfl, h1⟩ | ⟨t, t1, t2, t3, rfl, t5⟩
  · rcases hy with ⟨rfl, _⟩ | ⟨u, u1, u2, u3, _, _⟩
    · rfl
    · exact absurd u3 (h1 u u1 u2)
  · rcases hy with ⟨_, h2⟩ | ⟨u, u1, u2, u3, rfl, u5⟩
    · exact absurd t3 (h2 t t1 t2)
    · have : t = u := by
        rcases Nat.lt_trichotomy t u with h | h | h
        · exact absurd t3 (u5 t t1 h)
        · exact h
        · exact absurd u3 (t5 u u1 h)
      rw [this]
theorem fsq_t {P : Nat → Prop} {k n : Nat} {x : Int32} (hk : k < n) (hp : P k) : fsq P k n (nI k) := Or.inr ⟨k, Nat.le_refl _, hk, hp, rfl, fun u h1 h2 => absurd h2 (by omega)⟩
theorem fsq_f {P : Nat → Prop} {k n : Nat} {x : Int32} (hp : ¬ P k) (h : fsq P (k + 1) n x) : fsq P k n x := by
  rcases h with ⟨h1, h2⟩ | ⟨t, t1, t2, t3, t4, t5⟩
  · refine Or.inl ⟨h1, fun t a b => ?_⟩
    by_cases e : t = k
    · subst e; exact hp
    · exact h2 t (by omega) b
  · refine Or.inr ⟨t, by omega, t2, t3, t4, fun u a b => ?_⟩
    by_cases e : u = k
    · subst e; exact hp
    · exact t5 u (by omega) b
theorem fsq_n {P : Nat → Prop} {n : Nat} : fsq P n n (-9) := Or.inl ⟨rfl, fun t a b => absurd b (by omega)⟩
theorem fsq_l {P : Nat → Prop} {f : Nat → Int32} {n : Nat} (h : lstq P f n) : fsq P 0 n (if cntP P n = 0 then -9 else f 0) := by
  by_cases e : ∃ t, t < n ∧ P t
  · obtain ⟨t, h1, h2, h3⟩ := ex_least n e
    have c0 : cntP P t = 0 := cnt_0 t h3
    have c1 := cnt_lt h1 h2
    have q := h t h1 h2
    rw [c0] at q
    rw [if_neg (by omega), q]
    exact Or.inr ⟨t, by omega, h1, h2, rfl, fun u _ hu => h3 u hu⟩
  · have c0 : cntP P n = 0 := cnt_0 n (fun t ht hp => e ⟨t, ht, hp⟩)
    rw [if_pos c0]
    exact Or.inl ⟨rfl, fun t _ ht hp => e ⟨t, ht, hp⟩⟩
noncomputable def aeP (P : Nat → Prop) (x : Int32) : Nat → Int32
  | 0 => x
  | s + 1 => @ite _ (P s) (Classical.propDecidable _) (aeP P x s &&& nI s) (aeP P x s)
noncomputable def anP (P : Nat → Prop) (x : Int32) : Nat → Int32
  | 0 => x
  | s + 1 => @ite _ (P s) (Classical.propDecidable _) (anP P x s &&& (nI s ^^^ (-1))) (anP P x s)
theorem aeP_t {P : Nat → Prop} {x : Int32} {s : Nat} (h : P s) : aeP P x (s + 1) = aeP P x s &&& nI s := if_pos h
theorem aeP_f {P : Nat → Prop} {x : Int32} {s : Nat} (h : ¬ P s) : aeP P x (s + 1) = aeP P x s := if_neg h
theorem anP_t {P : Nat → Prop} {x : Int32} {s : Nat} (h : P s) : anP P x (s + 1) = anP P x s &&& (nI s ^^^ (-1)) := if_pos h
theorem anP_f {P : Nat → Prop} {x : Int32} {s : Nat} (h : ¬ P s) : anP P x (s + 1) = anP P x s := if_neg h
theorem ae_l {P : Nat → Prop} {f : Nat → Int32} {n : Nat} {x : Int32} (h : lstq P f n) : ∀ s, s ≤ n → ae f x (cntP P s) = aeP P x s := by
  intro s
  induction s with
  | zero => intro _; rfl
  | succ s ih =>
    intro hs
    by_cases hp : P s
    · rw [cnt_t hp, aeP_t hp]
      show ae f x (cntP P s) &&& f (cntP P s) = _
      rw [ih (by omega), h s (by omega) hp]
    · rw [cnt_f hp, aeP_f hp]; exact ih (by omega)
theorem an_l {P : Nat → Prop} {f : Nat → Int32} {n : Nat} {x : Int32} (h : lstq P f n) : ∀ s, s ≤ n → an f x (cntP P s) = anP P x s := by
  intro s
  induction s with
  | zero => intro _; rfl
  | succ s ih =>
    intro hs
    by_cases hp : P s
    · rw [cnt_t hp, anP_t hp]
      show an f x (cntP P s) &&& (f (cntP P s) ^^^ (-1)) = _
      rw [ih (by omega), h s (by omega) hp]
    · rw [cnt_f hp, anP_f hp]; exact ih (by omega)
/-- a loop downwards -/
theorem ld {α δ : Type} (n : Nat) (I : Nat → δ → Prop) (P : Nat → δ → α) (Q : α → Prop) (h0 : ∀ d, I 0 d → Q (P 0 d)) (hs : ∀ k, k < n → ∀ d, I (k + 1) d → ∃ d', I k d' ∧ P (k + 1) d = P k d') : ∀ d, I n d → Q (P n d) := by
  have key : ∀ k, k ≤ n → ∀ d, I k d → Q (P k d) := by
    intro k
    induction k with
    | zero => intro _ d h; exact h0 d h
    | succ k ih =>
      intro hk d h
      obtain ⟨d', h1, h2⟩ := hs k (by omega) d h
      rw [h2]
      exact ih (by omega) d' h1
  exact key n (Nat.le_refl n)
/-! THE GREATEST COMMON DIVISOR of the program -/
theorem gcd_st (a b : Nat) : Nat.gcd a b = Nat.gcd b (a % b) := by rw [Nat.gcd_comm a b, Nat.gcd_rec b a, Nat.gcd_comm]
theorem lcmp_0 : lg_cmp 0 0 = 0 := by decide
theorem lcmp_p {b : Nat} (h0 : 0 < b) (h : b < 2 ^ 31) : lg_cmp (lN b) 0 = 1 := by
  have : (0 : Int64) < lN b := (lN_lt (a := 0) (b := b) (by decide) h).mpr h0
  exact if_pos this
theorem lN_ne0 {b : Nat} (h0 : 0 < b) (h : b < 2 ^ 31) : ¬ lN b = 0 := fun e => by
  have := (lN_eq (a := b) (b := 0) h (by decide)).mp e
  omega
theorem half_mod {a b : Nat} (hb : 0 < b) (h : 0 < a % b) : 2 * (b % (a % b)) < b := by
  have h1 : a % b < b := Nat.mod_lt _ hb
  have h2 : b % (a % b) < a % b := Nat.mod_lt _ h
  have h3 := Nat.div_add_mod b (a % b)
  have h4 : 1 ≤ b / (a % b) := (Nat.one_le_div_iff h).mpr (by omega)
  have h5 : a % b * 1 ≤ a % b * (b / (a % b)) := Nat.mul_le_mul_left _ h4
  omega
section GC
variable {M : pm_M} {N S : Nat}
theorem gcC_0 {a0 a1 a2 a3 d9 d10 : Value} {a j : Nat} : pX 124 9 [a0, a1, a2, a3, .long (lN a), .null, .long 0, .null, .int (nI j), d9, d10] [] M N S = some (some (.long (lN a)), M, N, S) := by
  rw [i5_commonDivisor_9]
  by_cases h : nI j < 1000
  · simp only [i5_commonDivisor_11, i5_commonDivisor_14, i5_commonDivisor_17, i5_commonDivisor_19, i5_commonDivisor_20, i5_commonDivisor_21, i5_commonDivisor_45, i5_commonDivisor_47, h, lcmp_0, if_true, if_false, not_true_eq_false, not_false_eq_true, true_or, or_true]
  · simp only [i5_commonDivisor_11, i5_commonDivisor_14, i5_commonDivisor_17, i5_commonDivisor_19, i5_commonDivisor_20, i5_commonDivisor_21, i5_commonDivisor_45, i5_commonDivisor_47, h, lcmp_0, if_true, if_false, not_true_eq_false, not_false_eq_true, true_or, or_true]
theorem gcC_1 {a0 a1 a2 a3 d9 d10 : Value} {a b j : Nat} (h0 : 0 < b) (hb : b < 2 ^ 31) (ha : a < 2 ^ 31) (hj : j < 1000) : pX 124 9 [a0, a1, a2, a3, .long (lN a), .null, .long (lN b), .null, .int (nI j), d9, d10] [] M N S = pX 124 9 [a0, a1, a2, a3, .long (lN b), .null, .long (lN (a % b)), .null, .int (nI (j + 1)), .long (lN (a % b)), .null] [] M N S := by
  have q : (nI j < 1000) = True := nlt (b := 1000) hj (by decide)
  rw [i5_commonDivisor_9]
  simp only [i5_commonDivisor_11, i5_commonDivisor_14, i5_commonDivisor_17, i5_commonDivisor_19, i5_commonDivisor_20, i5_commonDivisor_21, i5_commonDivisor_24, i5_commonDivisor_26, i5_commonDivisor_28, i5_commonDivisor_29, i5_commonDivisor_31, i5_commonDivisor_33, i5_commonDivisor_35, i5_commonDivisor_37, i5_commonDivisor_39, i5_commonDivisor_42, i5_commonDivisor_45, i5_commonDivisor_47, q, lcmp_p h0 hb, n10, lN_ne0 h0 hb, pk_lRem (show a < 2 ^ 63 by omega) h0 (show b < 2 ^ 63 by omega), if_true, if_false, not_true_eq_false, not_false_eq_true, true_or, or_true, nI_1]
theorem gcC {a0 a1 a2 a3 : Value} : ∀ k a b j (d9 d10 : Value), b < 2 ^ k → b < 2 ^ 31 → a < 2 ^ 31 → j + 2 * k ≤ 1000 → pX 124 9 [a0, a1, a2, a3, .long (lN a), .null, .long (lN b), .null, .int (nI j), d9, d10] [] M N S = some (some (.long (lN (Nat.gcd a b))), M, N, S) := by
  intro k
  induction k with
  | zero =>
    intro a b j d9 d10 h1 h2 h3 h4
    have : b = 0 := by omega
    subst this
    rw [Nat.gcd_zero_right]
    exact gcC_0
  | succ k ih =>
    intro a b j d9 d10 h1 h2 h3 h4
    rcases Nat.eq_zero_or_pos b with e | h0
    · subst e
      rw [Nat.gcd_zero_right]
      exact gcC_0
    · rw [gcC_1 h0 h2 h3 (by omega), gcd_st]
      have l1 : a % b < b := Nat.mod_lt _ h0
      rcases Nat.eq_zero_or_pos (a % b) with e | h5
      · rw [e, Nat.gcd_zero_right]
        exact gcC_0
      · have l2 := half_mod h0 h5
        have l3 : b % (a % b) < a % b := Nat.mod_lt _ h5
        rw [gcC_1 h5 (by omega) h2 (by omega), gcd_st]
        refine ih _ _ _ _ _ ?_ (by omega) (by omega) (by omega)
        rw [Nat.pow_succ] at h1
        omega
theorem s5_gcd {a b : Nat} (ha : a < 2 ^ 31) (hb : b < 2 ^ 31) : pX 124 0 [.long (lN a), .null, .long (lN b), .null, .null, .null, .null, .null, .null, .null, .null] [] M N S = some (some (.long (lN (Nat.gcd a b))), M, N, S) := by
  have k := gcC (M := M) (N := N) (S := S) (a0 := .long (lN a)) (a1 := .null) (a2 := .long (lN b)) (a3 := .null) 31 a b 0 .null .null hb hb ha (by decide)
  rw [nI_0] at k
  simp only [i5_commonDivisor_0, i5_commonDivisor_1, i5_commonDivisor_3, i5_commonDivisor_4, i5_commonDivisor_6, i5_commonDivisor_7]
  exact k
end GC
section TP
variable {L : Nat} {xs : Nat → Int32} {σ : Nat → Nat → Int32} {τ : Nat → Nat → Int64} {S g d : Nat}
def ptC (τ : Nat → Nat → Int64) (u l : Int64) : Nat → Nat → Int64 := va_up (va_up τ 0 (va_up (τ 0) 11 u)) 0 (va_up ((va_up τ 0 (va_up (τ 0) 11 u)) 0) 12 l)
def ptR (τ : Nat → Nat → Int64) (u l : Int64) : Nat → Nat → Int64 := va_up (va_up τ 67 (va_up (τ 67) 12 u)) 67 (va_up ((va_up τ 67 (va_up (τ 67) 12 u)) 67) 13 l)
theorem s5_tellPart {a b : Nat} (ha : a < 2 ^ 31) (hb : b < 2 ^ 31) (h0 : 0 < b) : pX 123 0 [.ref 0, .long (lN a), .null, .long (lN b), .null, .null, .null] [] (mm L xs σ τ) 85 S = some (none, mm L xs σ (ptC τ (lN (a / Nat.gcd a b)) (lN (b / Nat.gcd a b))), 85, S) := by
  have hg : 0 < Nat.gcd a b := Nat.gcd_pos_of_pos_right a h0
  have hl : Nat.gcd a b < 2 ^ 31 := Nat.lt_of_le_of_lt (Nat.gcd_le_right a h0) hb
  have q : (0 : Int32) < 1 := by decide
  unfold ptC
  simp only [i5_tellPart_0, i5_tellPart_1, i5_tellPart_2, i5_tellPart_5, i5_tellPart_7, i5_tellPart_9, i5_tellPart_10, i5_tellPart_11, i5_tellPart_14, i5_tellPart_15, i5_tellPart_16, i5_tellPart_18, i5_tellPart_19, i5_tellPart_22, i5_tellPart_23, i5_tellPart_24, i5_tellPart_26, i5_tellPart_27, i5_tellPart_30, s5_gcd ha hb, pK_l, lcmp_p hg hl, q, lN_ne0 hg hl, pk_lDiv (show a < 2 ^ 63 by omega) hg (show Nat.gcd a b < 2 ^ 63 by omega), pk_lDiv (show b < 2 ^ 63 by omega) hg (show Nat.gcd a b < 2 ^ 63 by omega), if_true, if_false, not_true_eq_false, not_false_eq_true, true_or, or_true]
theorem s5_tellPart1 {a : Nat} (ha : a < 2 ^ 31) : pX 123 0 [.ref 0, .long (lN a), .null, .long 1, .null, .null, .null] [] (mm L xs σ τ) 85 S = some (none, mm L xs σ (ptC τ (lN a) 1), 85, S) := by
  have k := s5_tellPart (L := L) (xs := xs) (σ := σ) (τ := τ) (S := S) ha (b := 1) (by decide) (by decide)
  rw [Nat.gcd_one_right, Nat.div_one, Nat.div_one] at k
  exact k
/-- both told the same part -/
theorem Rel_pt {u l : Int64} (R : Rel g d σ τ) : Rel g d σ (ptR (ptC τ u l) u l) := by
  obtain ⟨a1, a2, a3, a4, a5, ⟨b1, b2, _, _, b5⟩⟩ := R
  refine ⟨a1, a2, a3, a4, a5, ⟨b1, b2, ?_, ?_, b5⟩⟩
  · unfold ptR ptC
    rw [vn (show 0 ≠ 67 by decide), vn (show 0 ≠ 67 by decide), vs, vn (show 11 ≠ 12 by decide), vs, vs, vs, vn (show 12 ≠ 13 by decide), vs, vs]
  · unfold ptR ptC
    rw [vn (show 0 ≠ 67 by decide), vn (show 0 ≠ 67 by decide), vs, vs, vs, vs]
end TP
