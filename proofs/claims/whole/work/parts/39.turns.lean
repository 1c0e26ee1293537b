/-! TURNS: the two systems' water goes alike -/
def sysq (g : Nat) (K W K' W' : Nat → Int32) : Prop := ∀ i, i < g → K i = K' i ∧ W i = W' i ∧ kd6 (K i) ∧ wd9 (W i)
def lvs (g : Nat) (x y : Nat → Int32) : Prop := ∀ b, b ≤ g → x b = y b ∧ inb (x b) 61
theorem put2_at (x : Nat → Int32) (i : Nat) (f : Int32) (b : Nat) : put2 x i f b = if b = i + 1 then x (i + 1) + f else if b = i then x i - f else x b := by
  unfold put2
  by_cases h1 : b = i + 1
  · subst h1; rw [us, un (by omega), if_pos rfl]
  · rw [un h1, if_neg h1]
    by_cases h2 : b = i
    · subst h2; rw [us, if_pos rfl]
    · rw [un h2, if_neg h2]
theorem T1 {g : Nat} (hg6 : g ≤ 6) {K W K' W' lv f : Nat → Int32} {op nu sk : Int32} (hs : sysq g K W K' W') (hl : lvs g lv f) (h7 : f 7 = op) (h8 : f 8 = nu) : ∀ i, i ≤ g → lvs g (tl K W op nu sk lv i) (tR K' W' sk f i) ∧ tR K' W' sk f i 7 = op ∧ tR K' W' sk f i 8 = nu ∧ tm K W op nu sk lv i = tmR K' W' sk f i := by
  intro i
  induction i with
  | zero => intro _; exact ⟨hl, h7, h8, rfl⟩
  | succ i ih =>
    intro hi
    obtain ⟨a1, a2, a3, a4⟩ := ih (by omega)
    have e1 : tl K W op nu sk lv (i + 1) = put2 (tl K W op nu sk lv i) i (flw K W op nu sk (tl K W op nu sk lv i) i) := rfl
    have e2 : tR K' W' sk f (i + 1) = put2 (tR K' W' sk f i) i (flwR K' W' sk (tR K' W' sk f i) i) := rfl
    have e3 : tm K W op nu sk lv (i + 1) = if flw K W op nu sk (tl K W op nu sk lv i) i = 0 then tm K W op nu sk lv i else tm K W op nu sk lv i ||| sh i := rfl
    have e4 : tmR K' W' sk f (i + 1) = if flwR K' W' sk (tR K' W' sk f i) i = 0 then tmR K' W' sk f i else tmR K' W' sk f i ||| sh i := rfl
    rw [e1, e2, e3, e4, a4]
    generalize tl K W op nu sk lv i = x at *
    generalize tR K' W' sk f i = y at *
    obtain ⟨k1, k2, k3, k4⟩ := hs i (by omega)
    obtain ⟨b1, b2⟩ := a1 i (by omega)
    obtain ⟨c1, c2⟩ := a1 (i + 1) hi
    have key : flw K W op nu sk x i = flwR K' W' sk y i ∧ inb (x i - flw K W op nu sk x i) 61 ∧ inb (x (i + 1) + flw K W op nu sk x i) 61 := by
      unfold flw flwR
      have hop : isop K op i = isop K' (y 7) i := by unfold isop; rw [k1, a2]
      rw [← hop]
      by_cases h : isop K op i ∧ ¬ hb sk (nI i)
      · rw [if_pos h, if_pos h, ← k1, ← k2, ← b1, ← c1, a3]
        obtain ⟨q1, q2, q3⟩ := flow_eq (n := nu) k3 k4 b2 c2
        exact ⟨q1.symm, q2, q3⟩
      · rw [if_neg h, if_neg h]
        exact ⟨rfl, by rw [Int32.sub_zero]; exact b2, by rw [Int32.add_zero]; exact c2⟩
    obtain ⟨g1, g2, g3⟩ := key
    rw [← g1]
    generalize flw K W op nu sk x i = v at *
    refine ⟨fun b hb => ?_, ?_, ?_, rfl⟩
    · rw [put2_at, put2_at]
      by_cases h1 : b = i + 1
      · rw [if_pos h1, if_pos h1, ← c1]; exact ⟨rfl, g3⟩
      · rw [if_neg h1, if_neg h1]
        by_cases h2 : b = i
        · rw [if_pos h2, if_pos h2, ← b1]; exact ⟨rfl, g2⟩
        · rw [if_neg h2, if_neg h2]; exact a1 b hb
    · rw [put2_at, if_neg (by omega), if_neg (by omega)]; exact a2
    · rw [put2_at, if_neg (by omega), if_neg (by omega)]; exact a3
theorem tRs_8 {K W : Nat → Int32} {g : Nat} {sk : Int32} {f : Nat → Int32} : tRs K W g sk f 8 = tR K W sk f g 8 + 1 := by unfold tRs; exact us
theorem tRs_n {K W : Nat → Int32} {g : Nat} {sk : Int32} {f : Nat → Int32} {b : Nat} (h : b ≠ 8) : tRs K W g sk f b = tR K W sk f g b := by unfold tRs; exact un h
/-- one turn -/
theorem T2 {g : Nat} (hg6 : g ≤ 6) {K W K' W' lv f : Nat → Int32} {op nu sk : Int32} (hs : sysq g K W K' W') (hl : lvs g lv f) (h7 : f 7 = op) (h8 : f 8 = nu) : lvs g (tl K W op nu sk lv g) (tRs K' W' g sk f) ∧ tRs K' W' g sk f 7 = op ∧ tRs K' W' g sk f 8 = nu + 1 ∧ tm K W op nu sk lv g = tmR K' W' sk f g := by
  obtain ⟨a1, a2, a3, a4⟩ := T1 hg6 (sk := sk) hs hl h7 h8 g (Nat.le_refl g)
  refine ⟨fun b hb => ?_, ?_, ?_, a4⟩
  · rw [tRs_n (by omega)]; exact a1 b hb
  · rw [tRs_n (by omega)]; exact a2
  · rw [tRs_8, a3]
/-- turns -/
theorem T3 {g : Nat} (hg6 : g ≤ 6) {K W K' W' lv f : Nat → Int32} {op nu : Int32} (hs : sysq g K W K' W') (hl : lvs g lv f) (h7 : f 7 = op) (h8 : f 8 = nu) : ∀ n, lvs g (rl K W g op nu lv n) (rR K' W' g f n) ∧ rR K' W' g f n 7 = op ∧ rR K' W' g f n 8 = nu + nI n := by
  intro n
  induction n with
  | zero => exact ⟨hl, h7, by show f 8 = _; rw [h8, nI_0, Int32.add_zero]⟩
  | succ n ih =>
    obtain ⟨a1, a2, a3⟩ := ih
    obtain ⟨b1, b2, b3, _⟩ := T2 hg6 (sk := 0) hs a1 a2 a3
    exact ⟨b1, b2, by show tRs K' W' g 0 (rR K' W' g f n) 8 = _; rw [b3, Int32.add_assoc, nI_1]⟩
/-- what the last of these lets through -/
theorem T4 {g : Nat} (hg6 : g ≤ 6) {K W K' W' lv f : Nat → Int32} {op nu : Int32} (hs : sysq g K W K' W') (hl : lvs g lv f) (h7 : f 7 = op) (h8 : f 8 = nu) (n : Nat) : rmv K W g op nu lv (n + 1) = tmR K' W' 0 (rR K' W' g f n) g := by
  obtain ⟨a1, a2, a3⟩ := T3 hg6 hs hl h7 h8 n
  exact (T2 hg6 (sk := 0) hs a1 a2 a3).2.2.2
theorem sysq_sw {g : Nat} {K W K' W' K2 W2 : Nat → Int32} (h : sysq g K W K' W') (h2 : ∀ i, i < g → K2 i = K i ∧ W2 i = W i) : sysq g K2 W2 K' W' := by
  intro i hi
  obtain ⟨a1, a2, a3, a4⟩ := h i hi
  obtain ⟨b1, b2⟩ := h2 i hi
  rw [b1, b2]
  exact ⟨a1, a2, a3, a4⟩
theorem cpy_at (f g : Nat → Int32) {n i : Nat} (h : i < n) : va_cpy f g 0 0 n i = f i := by
  unfold va_cpy
  rw [if_pos ⟨Nat.zero_le _, by omega⟩, Nat.sub_zero, Nat.zero_add]
theorem sumf_c {f f' : Nat → Int32} {n : Nat} (h : ∀ i, i < n → f i = f' i) : sumf f n = sumf f' n := by
  induction n with
  | zero => rfl
  | succ n ih => show sumf f n + f n = sumf f' n + f' n; rw [ih (fun i hi => h i (by omega)), h n (by omega)]
theorem minf_c {f f' : Nat → Int32} {n : Nat} (h0 : f 0 = f' 0) (h : ∀ i, i < n → f i = f' i) : minf f n = minf f' n := by
  induction n with
  | zero => exact h0
  | succ n ih => show imn (minf f n) (f n) = imn (minf f' n) (f' n); rw [ih (fun i hi => h i (by omega)), h n (by omega)]
theorem maxf_c {f f' : Nat → Int32} {n : Nat} (h0 : f 0 = f' 0) (h : ∀ i, i < n → f i = f' i) : maxf f n = maxf f' n := by
  induction n with
  | zero => exact h0
  | succ n ih => show imx (maxf f n) (f n) = imx (maxf f' n) (f' n); rw [ih (fun i hi => h i (by omega)), h n (by omega)]
theorem wr_c {f f' : Nat → Int32} {n : Nat} (h : ∀ i, i < n → f i = f' i) : wr f n = wr f' n := by
  induction n with
  | zero => rfl
  | succ n ih => show (if f n = 3 then wr f n ||| sh n else wr f n) = (if f' n = 3 then wr f' n ||| sh n else wr f' n); rw [ih (fun i hi => h i (by omega)), h n (by omega)]
theorem wof_c {f f' : Nat → Int32} {b : Int32} {n : Nat} (h : ∀ i, i < n → f i = f' i) : wof f b n = wof f' b n := by
  induction n with
  | zero => rfl
  | succ n ih => unfold wof; rw [ih (fun i hi => h i (by omega)), h n (by omega)]
theorem hmP_c {f f' : Nat → Int32} {w : Int32} {n : Nat} (h : ∀ i, i < n → f i = f' i) : hmP f w n = hmP f' w n := by
  induction n with
  | zero => rfl
  | succ n ih => unfold hmP; rw [ih (fun i hi => h i (by omega)), h n (by omega)]
theorem dg_c {f f' : Nat → Int32} {h0 : Int64} {p p' n : Nat} (h : ∀ i, i < n → f (p + i) = f' (p' + i)) : dg h0 f p n = dg h0 f' p' n := by
  induction n with
  | zero => rfl
  | succ n ih => unfold dg; rw [ih (fun i hi => h i (by omega)), h n (by omega)]
theorem oo_eq {K : Nat → Int32} {o : Nat} (ho : o < 64) : ∀ g, g ≤ 6 → nI o &&& ag g ||| wr K g = oo K (nI o) g := by
  have bit : ∀ o, o < 64 → ∀ i, i < 6 → nI o &&& ag (i + 1) = if ((nI o) >>> (nI i &&& 31)) &&& 1 = 1 then (nI o &&& ag i) ||| sh i else nI o &&& ag i := by decide +kernel
  intro g
  induction g with
  | zero =>
    intro _
    have z : ∀ o, o < 64 → nI o &&& ag 0 ||| 0 = (0 : Int32) := by decide +kernel
    exact z o ho
  | succ i ih =>
    intro hi
    have ih := ih (by omega)
    have b := bit o ho i (by omega)
    have e1 : wr K (i + 1) = if K i = 3 then wr K i ||| sh i else wr K i := rfl
    have e2 : oo K (nI o) (i + 1) = @ite _ (isop K (nI o) i) (Classical.propDecidable _) (oo K (nI o) i ||| sh i) (oo K (nI o) i) := rfl
    rw [e1, e2, b, ← ih]
    generalize nI o &&& ag i = A
    generalize wr K i = B
    have sw : A ||| sh i ||| B = A ||| B ||| sh i := by rw [Int32.or_assoc, Int32.or_comm (sh i), ← Int32.or_assoc]
    by_cases h1 : K i = 3
    · rw [if_pos h1, if_pos (show isop K (nI o) i from Or.inl h1)]
      by_cases h2 : (nI o >>> (nI i &&& 31)) &&& 1 = 1
      · rw [if_pos h2, ← Int32.or_assoc, sw, Int32.or_assoc (A ||| B), Int32.or_self]
      · rw [if_neg h2, Int32.or_assoc]
    · rw [if_neg h1]
      by_cases h2 : (nI o >>> (nI i &&& 31)) &&& 1 = 1
      · rw [if_pos h2, if_pos (show isop K (nI o) i from Or.inr h2), sw]
      · rw [if_neg h2, if_neg (show ¬ isop K (nI o) i from fun q => q.elim h1 h2)]
