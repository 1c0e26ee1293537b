/-! CHANCES: what is reckoned -/
def sumN (f : Nat → Nat) : Nat → Nat
  | 0 => 0
  | s + 1 => sumN f s + f s
def prN (w : Nat → Nat) : Nat → Nat
  | 0 => 1
  | i + 1 => prN w i * w i
theorem sumN_add (f : Nat → Nat) (a : Nat) : ∀ b, sumN f (a + b) = sumN f a + sumN (fun t => f (a + t)) b := by
  intro b
  induction b with
  | zero => rfl
  | succ b ih =>
    show sumN f (a + b) + f (a + b) = sumN f a + (sumN (fun t => f (a + t)) b + f (a + b))
    rw [ih]; omega
theorem sumN_c {f f' : Nat → Nat} : ∀ n, (∀ s, s < n → f s = f' s) → sumN f n = sumN f' n := by
  intro n
  induction n with
  | zero => intro _; rfl
  | succ n ih =>
    intro h
    show sumN f n + f n = sumN f' n + f' n
    rw [ih (fun s hs => h s (by omega)), h n (by omega)]
theorem sumN_mul (f : Nat → Nat) (k : Nat) : ∀ n, sumN (fun s => f s * k) n = sumN f n * k := by
  intro n
  induction n with
  | zero => exact (Nat.zero_mul k).symm
  | succ n ih =>
    show sumN (fun s => f s * k) n + f n * k = (sumN f n + f n) * k
    rw [ih, Nat.add_mul]
theorem sumN_le {f f' : Nat → Nat} : ∀ n, (∀ s, s < n → f s ≤ f' s) → sumN f n ≤ sumN f' n := by
  intro n
  induction n with
  | zero => intro _; exact Nat.le_refl _
  | succ n ih =>
    intro h
    show sumN f n + f n ≤ sumN f' n + f' n
    have h1 := ih (fun s hs => h s (by omega))
    have h2 := h n (by omega)
    omega
theorem sumN_mono (f : Nat → Nat) (a : Nat) : ∀ k, sumN f a ≤ sumN f (a + k) := by
  intro k
  induction k with
  | zero => exact Nat.le_refl _
  | succ k ih =>
    show sumN f a ≤ sumN f (a + k) + f (a + k)
    omega
theorem prN_c {w w' : Nat → Nat} : ∀ n, (∀ i, i < n → w i = w' i) → prN w n = prN w' n := by
  intro n
  induction n with
  | zero => intro _; rfl
  | succ n ih =>
    intro h
    show prN w n * w n = prN w' n * w' n
    rw [ih (fun s hs => h s (by omega)), h n (by omega)]
theorem prN_0 {w : Nat → Nat} : ∀ n i, i < n → w i = 0 → prN w n = 0 := by
  intro n
  induction n with
  | zero => intro i h; exact absurd h (by omega)
  | succ n ih =>
    intro i h h0
    show prN w n * w n = 0
    by_cases e : i = n
    · subst e; rw [h0, Nat.mul_zero]
    · rw [ih i (by omega) h0, Nat.zero_mul]
theorem prN_le {w : Nat → Nat} (k : Nat) : ∀ n, (∀ i, i < n → w i ≤ k) → prN w n ≤ k ^ n := by
  intro n
  induction n with
  | zero => intro _; exact Nat.le_refl _
  | succ n ih =>
    intro h
    show prN w n * w n ≤ k ^ (n + 1)
    rw [Nat.pow_succ]
    exact Nat.mul_le_mul (ih (fun i hi => h i (by omega))) (h n (by omega))
theorem prN_pos {w : Nat → Nat} : ∀ n, (∀ i, i < n → 0 < w i) → 0 < prN w n := by
  intro n
  induction n with
  | zero => intro _; exact Nat.le_refl _
  | succ n ih =>
    intro h
    exact Nat.mul_pos (ih (fun i hi => h i (by omega))) (h n (by omega))
/-- how the gate i comes in, by twelfths, when these of the open ones stick -/
def wN (q p s i : Nat) : Nat := if s.testBit i then (if q.testBit i then p else 0) else (if q.testBit i then 12 - p else 1)
def aN (q i : Nat) : Nat := if q.testBit i then 12 else 1
theorem wN_hi {q p g t i : Nat} (ht : t < 2 ^ g) (hi : i < g) : wN q p (2 ^ g + t) i = wN q p t i := by
  unfold wN
  rw [Nat.testBit_two_pow_add_gt hi]
theorem wN_top {q p g t : Nat} (ht : t < 2 ^ g) : wN q p (2 ^ g + t) g = if q.testBit g then p else 0 := by
  unfold wN
  have h : (2 ^ g + t).testBit g = true := by
    rw [Nat.testBit_two_pow_add_eq, Nat.testBit_lt_two_pow ht]; rfl
  rw [h]; rfl
theorem wN_low {q p g t : Nat} (ht : t < 2 ^ g) : wN q p t g = if q.testBit g then 12 - p else 1 := by
  unfold wN
  rw [Nat.testBit_lt_two_pow ht]; rfl
theorem all_ch {q p : Nat} (hp : p ≤ 12) : ∀ g, sumN (fun s => prN (wN q p s) g) (2 ^ g) = prN (aN q) g := by
  intro g
  induction g with
  | zero => rfl
  | succ g ih =>
    have e : 2 ^ (g + 1) = 2 ^ g + 2 ^ g := by rw [Nat.pow_succ]; omega
    rw [e, sumN_add]
    have h1 : sumN (fun s => prN (wN q p s) (g + 1)) (2 ^ g) = sumN (fun s => prN (wN q p s) g * (if q.testBit g then 12 - p else 1)) (2 ^ g) := sumN_c _ (fun s hs => by
      show prN (wN q p s) g * wN q p s g = _
      rw [wN_low hs])
    have h2 : sumN (fun t => prN (wN q p (2 ^ g + t)) (g + 1)) (2 ^ g) = sumN (fun s => prN (wN q p s) g * (if q.testBit g then p else 0)) (2 ^ g) := sumN_c _ (fun s hs => by
      show prN (wN q p (2 ^ g + s)) g * wN q p (2 ^ g + s) g = _
      rw [wN_top hs, prN_c g (fun i hi => wN_hi hs hi)])
    rw [h1, h2, sumN_mul, sumN_mul, ih, ← Nat.mul_add]
    show prN (aN q) g * _ = prN (aN q) g * aN q g
    congr 1
    unfold aN
    split <;> omega
theorem hb_tb {s i : Nat} (hs : s < 64) (hi : i < 6) : hb (nI s) (nI i) = (s.testBit i = true) := by
  have key : ∀ s, s < 64 → ∀ i, i < 6 → decide ((nI s >>> (nI i &&& 31)) &&& 1 = 1) = s.testBit i := by decide +kernel
  have h := key s hs i hi
  unfold hb
  rw [← h]
  exact (decide_eq_true_eq).symm
theorem sub_tb {s q : Nat} (hs : s < 64) (hq : q < 64) : (nI s &&& (nI q ^^^ -1) = 0) = ∀ i, i < 6 → s.testBit i = true → q.testBit i = true := by
  have key : ∀ s, s < 64 → ∀ q, q < 64 → decide (nI s &&& (nI q ^^^ -1) = 0) = (List.range 6).all (fun i => !s.testBit i || q.testBit i) := by decide +kernel
  have h := key s hs q hq
  have e : (∀ i, i < 6 → s.testBit i = true → q.testBit i = true) = ((List.range 6).all (fun i => !s.testBit i || q.testBit i) = true) := by
    rw [List.all_eq_true]
    refine propext ⟨fun k i hi => ?_, fun k i hi => ?_⟩
    · have := k i (List.mem_range.mp hi)
      cases h1 : s.testBit i
      · rfl
      · rw [this h1]; rfl
    · have := k i (List.mem_range.mpr hi)
      intro h1
      rw [h1] at this
      exact this
  rw [e]
  rw [← h]
  exact (decide_eq_true_eq).symm
theorem or_sh {q i : Nat} (hq : q < 64) (hi : i < 6) : nI q ||| sh i = nI (q ||| 2 ^ i) := by
  have key : ∀ q, q < 64 → ∀ i, i < 6 → nI q ||| sh i = nI (q ||| 2 ^ i) := by decide +kernel
  exact key q hq i hi
/-- which are open, as a number -/
theorem oo_q (K : Nat → Int32) (op : Int32) : ∀ g, g ≤ 6 → ∃ q, q < 2 ^ g ∧ oo K op g = nI q ∧ ∀ i, i < g → (isop K op i) = (q.testBit i = true) := by
  intro g
  induction g with
  | zero => intro _; exact ⟨0, by decide, rfl, fun i hi => absurd hi (by omega)⟩
  | succ g ih =>
    intro hg
    obtain ⟨q, h1, h2, h3⟩ := ih (by omega)
    have h64 := (p2_64 (g := g) (by omega)).1
    by_cases h : isop K op g
    · have e : oo K op (g + 1) = oo K op g ||| sh g := if_pos h
      refine ⟨q ||| 2 ^ g, ?_, ?_, fun i hi => ?_⟩
      · exact Nat.or_lt_two_pow (Nat.lt_of_lt_of_le h1 (Nat.pow_le_pow_right (by decide) (by omega))) (Nat.pow_lt_pow_right (by decide) (by omega))
      · rw [e, h2, or_sh (by omega) (by omega)]
      · rw [Nat.testBit_or, Nat.testBit_two_pow]
        by_cases e1 : i = g
        · subst e1
          simp [h]
        · rw [h3 i (by omega)]
          simp [show ¬ g = i from fun q => e1 q.symm]
    · have e : oo K op (g + 1) = oo K op g := if_neg h
      refine ⟨q, ?_, by rw [e, h2], fun i hi => ?_⟩
      · exact Nat.lt_of_lt_of_le h1 (Nat.pow_le_pow_right (by decide) (by omega))
      · by_cases e1 : i = g
        · subst e1
          rw [Nat.testBit_lt_two_pow h1]
          simp [h]
        · exact h3 i (by omega)
theorem wN_sub0 {q p s g i : Nat} (hi : i < g) (h1 : s.testBit i = true) (h2 : ¬ q.testBit i = true) : prN (wN q p s) g = 0 := prN_0 g i hi (by unfold wN; rw [if_pos h1, if_neg h2])
theorem inb_cl {x : Int32} {n : Nat} (h : inb x n) (hn : n < 2 ^ 31) : x = nI x.toNatClampNeg ∧ x.toNatClampNeg < n := by
  obtain ⟨j, hj, rfl⟩ := inb_of h hn
  rw [nI_clamp (by omega)]
  exact ⟨rfl, hj⟩
