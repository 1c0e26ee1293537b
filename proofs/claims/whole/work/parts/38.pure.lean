/-! ARITHMETIC: the two ways to tell a flow come to the same -/
theorem ti_sub {a b : Int32} (h1 : -1000 ≤ a.toInt) (h2 : a.toInt ≤ 1000) (h3 : -1000 ≤ b.toInt) (h4 : b.toInt ≤ 1000) : (a - b).toInt = a.toInt - b.toInt := by
  rw [Int32.toInt_sub]; simp only [Int.bmod]; omega
theorem ti_add {a b : Int32} (h1 : -1000 ≤ a.toInt) (h2 : a.toInt ≤ 1000) (h3 : -1000 ≤ b.toInt) (h4 : b.toInt ≤ 1000) : (a + b).toInt = a.toInt + b.toInt := by
  rw [Int32.toInt_add]; simp only [Int.bmod]; omega
theorem ti_neg {a : Int32} (h1 : -1000 ≤ a.toInt) (h2 : a.toInt ≤ 1000) : (-a).toInt = -a.toInt := by
  rw [Int32.toInt_neg]; simp only [Int.bmod]; omega
theorem ti_div2 {a : Int32} (h1 : -1000 ≤ a.toInt) (h2 : a.toInt ≤ 1000) : (0 ≤ a.toInt → (a / 2).toInt = a.toInt / 2) ∧ (a.toInt < 0 → (a / 2).toInt = -(-a.toInt / 2)) := by
  have h2' : (2 : Int32).toInt = 2 := rfl
  constructor
  · intro h
    rw [Int32.toInt_div, h2', Int.tdiv_eq_ediv_of_nonneg h]
    simp only [Int.bmod]; omega
  · intro h
    have e : a.toInt.tdiv 2 = -((-a.toInt).tdiv 2) := by rw [Int.neg_tdiv, Int.neg_neg]
    rw [Int32.toInt_div, h2', e, Int.tdiv_eq_ediv_of_nonneg (by omega)]
    simp only [Int.bmod]; omega
theorem ti_imx {a b : Int32} : (imx a b).toInt = max a.toInt b.toInt := by
  unfold imx
  by_cases h : a < b
  · rw [if_pos h]; rw [Int32.lt_iff_toInt_lt] at h; omega
  · rw [if_neg h]; rw [Int32.lt_iff_toInt_lt] at h; omega
theorem ti_imn {a b : Int32} : (imn a b).toInt = min a.toInt b.toInt := by
  unfold imn
  by_cases h : b < a
  · rw [if_pos h]; rw [Int32.lt_iff_toInt_lt] at h; omega
  · rw [if_neg h]; rw [Int32.lt_iff_toInt_lt] at h; omega
theorem ti_far {a b : Int32} (h1 : -1000 ≤ a.toInt) (h2 : a.toInt ≤ 1000) (h3 : -1000 ≤ b.toInt) (h4 : b.toInt ≤ 1000) : (far a b).toInt = max (a.toInt - b.toInt) (b.toInt - a.toInt) := by
  unfold far
  by_cases h : a < b
  · rw [if_pos h, ti_sub h3 h4 h1 h2]; rw [Int32.lt_iff_toInt_lt] at h; omega
  · rw [if_neg h, ti_sub h1 h2 h3 h4]; rw [Int32.lt_iff_toInt_lt] at h; omega
theorem inb_ti {x : Int32} {n : Nat} (hn : n < 2 ^ 31) : inb x n ↔ 0 ≤ x.toInt ∧ x.toInt < n := by
  rw [inb_iff rfl hn, Int32.lt_iff_toInt_lt, Int32.lt_iff_toInt_lt, nI_toInt hn]
  have h0 : (0 : Int32).toInt = 0 := rfl
  rw [h0]
  omega
def wd9 (w : Int32) : Prop := 1 ≤ w.toInt ∧ w.toInt ≤ 9
theorem lev_ti {d w : Int32} (h1 : -1000 ≤ d.toInt) (h2 : d.toInt ≤ 1000) (hw : wd9 w) : ∃ Q : Int, (lev d w).toInt = max (-w.toInt) (min w.toInt Q) ∧ (0 ≤ d.toInt → Q = d.toInt / 2) ∧ (d.toInt < 0 → Q = -(-d.toInt / 2)) := by
  obtain ⟨q1, q2⟩ := ti_div2 h1 h2
  obtain ⟨w1, w2⟩ := hw
  refine ⟨(d / 2).toInt, ?_, q1, q2⟩
  unfold lev
  rw [ti_imx, ti_imn, ti_neg (by omega) (by omega)]
theorem ti_2w {w : Int32} (hw : wd9 w) : (2 * w).toInt = 2 * w.toInt := by
  obtain ⟨w1, w2⟩ := hw
  have h2' : (2 : Int32).toInt = 2 := rfl
  rw [Int32.toInt_mul, h2']; simp only [Int.bmod]; omega
theorem tut_0 (n : Int32) : (tut n = 0) = (rm3 n = 0) := by
  unfold tut
  have h3 : (3 : Int32).toInt = 3 := rfl
  have key : ∀ x : Int32, (rm3 x).toInt = x.toInt - x.toInt.tdiv 3 * 3 := by
    intro x
    have hb : -2147483648 ≤ x.toInt ∧ x.toInt ≤ 2147483647 := ⟨Int32.le_toInt x, by have := Int32.toInt_lt x; omega⟩
    unfold rm3
    have ht : (0 ≤ x.toInt → x.toInt.tdiv 3 = x.toInt / 3) ∧ (x.toInt < 0 → x.toInt.tdiv 3 = -(-x.toInt / 3)) := by
      constructor
      · intro h; exact Int.tdiv_eq_ediv_of_nonneg h
      · intro h; rw [show x.toInt.tdiv 3 = -((-x.toInt).tdiv 3) by rw [Int.neg_tdiv, Int.neg_neg], Int.tdiv_eq_ediv_of_nonneg (by omega)]
    rw [Int32.toInt_sub, Int32.toInt_mul, Int32.toInt_div, h3]
    generalize x.toInt.tdiv 3 = q at *
    generalize x.toInt = z at *
    simp only [Int.bmod]; omega
  have hr : -2 ≤ (rm3 n).toInt ∧ (rm3 n).toInt ≤ 2 := by
    rw [key]
    have ht : (0 ≤ n.toInt → n.toInt.tdiv 3 = n.toInt / 3) ∧ (n.toInt < 0 → n.toInt.tdiv 3 = -(-n.toInt / 3)) := by
      constructor
      · intro h; exact Int.tdiv_eq_ediv_of_nonneg h
      · intro h; rw [show n.toInt.tdiv 3 = -((-n.toInt).tdiv 3) by rw [Int.neg_tdiv, Int.neg_neg], Int.tdiv_eq_ediv_of_nonneg (by omega)]
    omega
  have z0 : (0 : Int32).toInt = 0 := rfl
  have e1 : ∀ x : Int32, (x = 0) = (x.toInt = 0) := fun x => propext ⟨fun h => by rw [h]; rfl, fun h => Int32.toInt_inj.mp (by rw [h, z0])⟩
  rw [e1, e1 (rm3 n), key]
  have hs : (3 - rm3 n).toInt = 3 - (rm3 n).toInt := ti_sub (by rw [h3]; omega) (by rw [h3]; omega) (by omega) (by omega)
  rw [hs, Int.tdiv_eq_ediv_of_nonneg (by omega)]
  apply propext
  omega
def rgf (a b c : Int32) : Prop := 0 ≤ a.toInt - c.toInt ∧ a.toInt - c.toInt < 61 ∧ 0 ≤ b.toInt + c.toInt ∧ b.toInt + c.toInt < 61
section FL
variable {w a b n : Int32}
theorem fl_0 (hw : wd9 w) (a0 : 0 ≤ a.toInt) (a1 : a.toInt < 61) (b0 : 0 ≤ b.toInt) (b1 : b.toInt < 61) : (if b < a then imn (far a b / 2) w else -(imn (far a b / 2) w)).toInt = (lev (a - b) w).toInt ∧ rgf a b (lev (a - b) w) := by
  have hw' := hw
  obtain ⟨w0, w1⟩ := hw
  have hab : (a - b).toInt = a.toInt - b.toInt := ti_sub (by omega) (by omega) (by omega) (by omega)
  have hfar : (far a b).toInt = max (a.toInt - b.toInt) (b.toInt - a.toInt) := ti_far (by omega) (by omega) (by omega) (by omega)
  have f1 := (ti_div2 (a := far a b) (by omega) (by omega)).1 (by omega)
  obtain ⟨Q, l1, l2, l3⟩ := lev_ti (d := a - b) (w := w) (by omega) (by omega) hw'
  have e8 : (imn (far a b / 2) w).toInt = min (far a b / 2).toInt w.toInt := ti_imn
  unfold rgf
  by_cases h : b < a
  · rw [if_pos h, e8]
    rw [Int32.lt_iff_toInt_lt] at h
    have l2 := l2 (by omega)
    clear l3 e8
    rw [f1, l1, l2, hfar, hab]
    refine ⟨?_, ?_, ?_, ?_, ?_⟩ <;> omega
  · rw [if_neg h, ti_neg (by rw [e8]; omega) (by rw [e8]; omega), e8]
    rw [Int32.lt_iff_toInt_lt] at h
    clear e8
    by_cases hz : a.toInt = b.toInt
    · have l2 := l2 (by omega)
      rw [f1, l1, l2, hfar, hab]
      refine ⟨?_, ?_, ?_, ?_, ?_⟩ <;> omega
    · have l3 := l3 (by omega)
      rw [f1, l1, l3, hfar, hab]
      refine ⟨?_, ?_, ?_, ?_, ?_⟩ <;> omega
theorem fl_1 (hw : wd9 w) (a0 : 0 ≤ a.toInt) (a1 : a.toInt < 61) (b0 : 0 ≤ b.toInt) (b1 : b.toInt < 61) : (if b < a then imn ((a - b) / 2) w else 0).toInt = (imx 0 (lev (a - b) w)).toInt ∧ rgf a b (imx 0 (lev (a - b) w)) := by
  have hw' := hw
  obtain ⟨w0, w1⟩ := hw
  have hab : (a - b).toInt = a.toInt - b.toInt := ti_sub (by omega) (by omega) (by omega) (by omega)
  have d1 := (ti_div2 (a := a - b) (by omega) (by omega)).1
  obtain ⟨Q, l1, l2, l3⟩ := lev_ti (d := a - b) (w := w) (by omega) (by omega) hw'
  have h0 : (0 : Int32).toInt = 0 := rfl
  have hm : (imx 0 (lev (a - b) w)).toInt = max 0 (lev (a - b) w).toInt := by rw [ti_imx, h0]
  unfold rgf
  by_cases h : b < a
  · rw [if_pos h, ti_imn]
    rw [Int32.lt_iff_toInt_lt] at h
    have l2 := l2 (by omega)
    have d1 := d1 (by omega)
    rw [d1, hm, l1, l2, hab]
    clear l3 hm l1 l2 d1
    refine ⟨?_, ?_, ?_, ?_, ?_⟩ <;> omega
  · rw [if_neg h, h0]
    rw [Int32.lt_iff_toInt_lt] at h
    by_cases hz : a.toInt = b.toInt
    · have l2 := l2 (by omega)
      rw [hm, l1, l2, hab]
      clear l3 hm l1 l2 d1
      refine ⟨?_, ?_, ?_, ?_, ?_⟩ <;> omega
    · have l3 := l3 (by omega)
      rw [hm, l1, l3, hab]
      clear l3 hm l1 l2 d1
      refine ⟨?_, ?_, ?_, ?_, ?_⟩ <;> omega
theorem fl_2 {v : Int32} (a0 : 0 ≤ a.toInt) (a1 : a.toInt < 61) (b0 : 0 ≤ b.toInt) (b1 : b.toInt < 61) (v0 : 1 ≤ v.toInt) (v1 : v.toInt ≤ 18) : (-(imn v (imn b (60 - a)))).toInt = (-(lif v a b)).toInt ∧ rgf a b (-(lif v a b)) := by
  have h60 : (60 : Int32).toInt = 60 := rfl
  have h60a : (60 - a).toInt = 60 - a.toInt := by rw [ti_sub (by omega) (by omega) (by omega) (by omega), h60]
  have hm : (lif v a b).toInt = min v.toInt (min b.toInt (60 - a.toInt)) := by unfold lif; rw [ti_imn, ti_imn, h60a]
  have hn : (-(lif v a b)).toInt = -(lif v a b).toInt := ti_neg (by omega) (by omega)
  refine ⟨rfl, ?_⟩
  unfold rgf
  rw [hn, hm]
  clear hn hm
  refine ⟨?_, ?_, ?_, ?_⟩ <;> omega
theorem fl_3 (hw : wd9 w) (a0 : 0 ≤ a.toInt) (a1 : a.toInt < 61) (b0 : 0 ≤ b.toInt) (b1 : b.toInt < 61) : (if b < a then (if 5 < far a b then imn ((far a b - 5) / 2) w else 0) else -(if 5 < far a b then imn ((far a b - 5) / 2) w else 0)).toInt = (lev (owr (a - b)) w).toInt ∧ rgf a b (lev (owr (a - b)) w) := by
  have hw' := hw
  obtain ⟨w0, w1⟩ := hw
  have hab : (a - b).toInt = a.toInt - b.toInt := ti_sub (by omega) (by omega) (by omega) (by omega)
  have hfar : (far a b).toInt = max (a.toInt - b.toInt) (b.toInt - a.toInt) := ti_far (by omega) (by omega) (by omega) (by omega)
  have h5 : (5 : Int32).toInt = 5 := rfl
  have h0 : (0 : Int32).toInt = 0 := rfl
  have ho : (owr (a - b)).toInt = if 0 < a.toInt - b.toInt then max 0 (a.toInt - b.toInt - 5) else min 0 (a.toInt - b.toInt + 5) := by
    unfold owr
    have e5 : (a - b - 5).toInt = a.toInt - b.toInt - 5 := by rw [ti_sub (by omega) (by omega) (by omega) (by omega), hab, h5]
    have e6 : (a - b + 5).toInt = a.toInt - b.toInt + 5 := by rw [ti_add (by omega) (by omega) (by omega) (by omega), hab, h5]
    by_cases h : 0 < a - b
    · rw [if_pos h]; rw [Int32.lt_iff_toInt_lt, h0, hab] at h; rw [if_pos h, ti_imx, e5, h0]
    · rw [if_neg h]; rw [Int32.lt_iff_toInt_lt, h0, hab] at h; rw [if_neg h, ti_imn, e6, h0]
  obtain ⟨Q', m1, m2, m3⟩ := lev_ti (d := owr (a - b)) (w := w) (by rw [ho]; split <;> omega) (by rw [ho]; split <;> omega) hw'
  unfold rgf
  by_cases h5f : 5 < far a b
  · rw [if_pos h5f]
    rw [Int32.lt_iff_toInt_lt, h5, hfar] at h5f
    have e7 : (far a b - 5).toInt = (far a b).toInt - 5 := by rw [ti_sub (by omega) (by omega) (by omega) (by omega), h5]
    have g1 := (ti_div2 (a := far a b - 5) (by omega) (by omega)).1 (by omega)
    have e8 : (imn ((far a b - 5) / 2) w).toInt = min ((far a b - 5) / 2).toInt w.toInt := ti_imn
    rw [g1, e7, hfar] at e8
    by_cases h : b < a
    · rw [if_pos h]
      rw [Int32.lt_iff_toInt_lt] at h
      rw [if_pos (by omega)] at ho
      have m2 := m2 (by omega)
      rw [e8, m1, m2, ho]
      clear m3 m1 m2 ho e8 g1 e7 hfar hab
      refine ⟨?_, ?_, ?_, ?_, ?_⟩ <;> omega
    · rw [if_neg h]
      rw [Int32.lt_iff_toInt_lt] at h
      rw [if_neg (by omega)] at ho
      have m3 : Q' = -(-(owr (a - b)).toInt / 2) := m3 (by omega)
      rw [ti_neg (by rw [e8]; omega) (by rw [e8]; omega), e8, m1, m3, ho]
      clear m3 m1 m2 ho e8 g1 e7 hfar hab
      refine ⟨?_, ?_, ?_, ?_, ?_⟩ <;> omega
  · rw [if_neg h5f]
    rw [Int32.lt_iff_toInt_lt, h5, hfar] at h5f
    have e0 : (-(0 : Int32)) = 0 := by decide
    have e1 : (if b < a then (0 : Int32) else -0) = 0 := by rw [e0, ite_self]
    have hz : (owr (a - b)).toInt = 0 := by
      rw [ho]
      split <;> omega
    have m2 := m2 (by omega)
    rw [e1, m1, m2, hz, h0]
    clear m3 m1 m2 ho hfar hab
    refine ⟨?_, ?_, ?_, ?_, ?_⟩ <;> omega
end FL
theorem flow_eq {k w a b n : Int32} (hk : kd6 k) (hw : wd9 w) (ha : inb a 61) (hb : inb b 61) : flR k w a b n = flC k w a b n ∧ inb (a - flC k w a b n) 61 ∧ inb (b + flC k w a b n) 61 := by
  rw [inb_ti (by decide)] at ha hb
  obtain ⟨a0, a1⟩ := ha
  obtain ⟨b0, b1⟩ := hb
  have fin : ∀ r c : Int32, (r.toInt = c.toInt ∧ rgf a b c) → r = c ∧ inb (a - c) 61 ∧ inb (b + c) 61 := by
    rintro r c ⟨e, h1, h2, h3, h4⟩
    refine ⟨Int32.toInt_inj.mp e, ?_, ?_⟩
    · rw [inb_ti (by decide), ti_sub (by omega) (by omega) (by omega) (by omega)]; exact ⟨h1, h2⟩
    · rw [inb_ti (by decide), ti_add (by omega) (by omega) (by omega) (by omega)]; exact ⟨h3, h4⟩
  have hz : (0 : Int32).toInt = (0 : Int32).toInt ∧ rgf a b 0 := by
    have h0 : (0 : Int32).toInt = 0 := rfl
    unfold rgf
    rw [h0]
    exact ⟨rfl, by omega, by omega, by omega, by omega⟩
  unfold flR flC
  rcases hk with rfl | rfl | rfl | rfl | rfl | rfl
  · simp only [if_true]
    exact fin _ _ (fl_0 hw a0 a1 b0 b1)
  · simp only [n10, if_true, if_false]
    exact fin _ _ (fl_1 hw a0 a1 b0 b1)
  · simp only [n20, n21, if_true, if_false]
    exact fin _ _ (fl_2 a0 a1 b0 b1 hw.1 (by have := hw.2; omega))
  · simp only [n30, n31, n32, if_true, if_false]
    exact fin _ _ (fl_3 hw a0 a1 b0 b1)
  · simp only [n40, n41, n42, n43, if_true, if_false]
    by_cases h2 : rm2 n = 0
    · rw [if_pos h2, if_pos h2]
      exact fin _ _ (fl_1 hw a0 a1 b0 b1)
    · rw [if_neg h2, if_neg h2, ite_self]
      exact fin _ _ hz
  · simp only [n50, n51, n52, n53, n54, if_true, if_false, tut_0]
    by_cases h3 : rm3 n = 0
    · rw [if_pos h3, if_pos h3]
      exact fin _ _ (fl_2 a0 a1 b0 b1 (by rw [ti_2w hw]; have := hw.1; omega) (by rw [ti_2w hw]; have := hw.2; omega))
    · rw [if_neg h3, if_neg h3]
      exact fin _ _ (fl_2 a0 a1 b0 b1 hw.1 (by have := hw.2; omega))
