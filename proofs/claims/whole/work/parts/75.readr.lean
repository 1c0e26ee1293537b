/-! TEXTS: the plain form's half -/
def hrq (w : Nat → Int32) (m p : Nat) : Int32 := if p < m then w p else -1000
theorem is_v {w : Nat → Int32} {m p : Nat} : (fgq w m p = -9 ∧ (hrq w m p - 48 < 0 ∨ 9 < hrq w m p - 48)) ∨ (fgq w m p = hrq w m p - 48 ∧ ¬ hrq w m p - 48 < 0 ∧ ¬ 9 < hrq w m p - 48) := by
  unfold fgq hrq
  by_cases h : p < m
  · rw [if_pos h, if_pos h]
    unfold fgf
    by_cases h1 : w p - 48 < 0
    · rw [if_pos h1]; exact Or.inl ⟨rfl, Or.inl h1⟩
    · by_cases h2 : 9 < w p - 48
      · rw [if_neg h1, if_pos h2]; exact Or.inl ⟨rfl, Or.inr h2⟩
      · rw [if_neg h1, if_neg h2]; exact Or.inr ⟨rfl, h1, h2⟩
  · rw [if_neg h, if_neg h]; exact Or.inl ⟨rfl, Or.inl (by decide)⟩
theorem isA {w : Nat → Int32} {m p : Nat} : (¬ hrq w m p - 48 < 0 ∧ ¬ 9 < hrq w m p - 48) = ¬ fgq w m p = -9 := by
  rcases is_v (w := w) (m := m) (p := p) with ⟨e, h⟩ | ⟨e, h1, h2⟩
  · rw [e]
    exact propext ⟨fun q => absurd h (by rintro (a | a); exact q.1 a; exact q.2 a), fun q => absurd rfl q⟩
  · refine propext ⟨fun _ => ?_, fun _ => ⟨h1, h2⟩⟩
    rw [e]
    intro k
    rw [k] at h1
    exact h1 (by decide)
theorem vA {w : Nat → Int32} {m p : Nat} (h : ¬ fgq w m p = -9) : hrq w m p - 48 = fgq w m p := by
  rcases is_v (w := w) (m := m) (p := p) with ⟨e, _⟩ | ⟨e, _, _⟩
  · exact absurd e h
  · exact e.symm
theorem isB {w : Nat → Int32} {m p : Nat} : (¬ hrq w m p - 48 < 1 ∧ ¬ 9 < hrq w m p - 48) = ¬ fgq w m p < 1 := by
  have z0 : (0 : Int32).toInt = 0 := rfl
  have z1 : (1 : Int32).toInt = 1 := rfl
  have z9 : (9 : Int32).toInt = 9 := rfl
  rcases is_v (w := w) (m := m) (p := p) with ⟨e, h⟩ | ⟨e, h1, h2⟩
  · rw [e]
    refine propext ⟨fun q => ?_, fun q => absurd (by decide) q⟩
    exfalso
    simp only [Int32.lt_iff_toInt_lt, z0, z1, z9] at h q
    omega
  · rw [e]
    exact propext ⟨fun q => q.1, fun q => ⟨q, h2⟩⟩
theorem isC {w : Nat → Int32} {m p : Nat} : (¬ hrq w m p - 48 < 0 ∧ ¬ 1 < hrq w m p - 48) = (fgq w m p = 0 ∨ fgq w m p = 1) := by
  have z0 : (0 : Int32).toInt = 0 := rfl
  have z1 : (1 : Int32).toInt = 1 := rfl
  have z9 : (9 : Int32).toInt = 9 := rfl
  rcases is_v (w := w) (m := m) (p := p) with ⟨e, h⟩ | ⟨e, h1, h2⟩
  · rw [e]
    refine propext ⟨fun q => ?_, fun q => ?_⟩
    · exfalso
      simp only [Int32.lt_iff_toInt_lt, z0, z1, z9] at h q
      omega
    · rcases q with q | q
      · exact absurd q (by decide)
      · exact absurd q (by decide)
  · rw [e]
    generalize hrq w m p - 48 = v at h1 h2 ⊢
    refine propext ⟨fun q => ?_, fun q => ?_⟩
    · simp only [Int32.lt_iff_toInt_lt, z0, z1, z9] at h1 h2 q
      by_cases h3 : v.toInt = 0
      · exact Or.inl (Int32.toInt_inj.mp (by omega))
      · exact Or.inr (Int32.toInt_inj.mp (by omega))
    · rcases q with rfl | rfl
      · exact ⟨by decide, by decide⟩
      · exact ⟨by decide, by decide⟩
theorem kd_h {w : Nat → Int32} {m p : Nat} : kdf (hrq w m p) = kdq w m p := by
  unfold kdq hrq
  split
  · rfl
  · decide
section DZ
variable {L : Nat} {xs : Nat → Int32} {σ e : Nat → Nat → Int32} {τ : Nat → Nat → Int64} {S g d k m p : Nat} {w : Nat → Int32}
def rtx (w : Nat → Int32) (k m : Nat) (σ : Nat → Nat → Int32) : Prop := k < 4 ∧ m ≤ 60 ∧ σ 70 k = nI m ∧ ∀ i, i < 60 → σ 71 (60 * k + i) = w i
def RT (σ e : Nat → Nat → Int32) : Prop := (∀ c, c ≠ 67 → c ≠ 78 → c ≠ 79 → c ≠ 80 → e c = σ c) ∧ ∀ i, i < 16 ∨ 19 < i → e 67 i = σ 67 i
def RQ (σ : Nat → Nat → Int32) (k p : Nat) (wr : Int32) (g : Nat) (e : Nat → Nat → Int32) : Prop := RT σ e ∧ e 67 16 = nI k ∧ e 67 17 = nI p ∧ e 67 18 = wr ∧ e 67 19 = nI g
def s17 (e : Nat → Nat → Int32) (p : Nat) : Nat → Nat → Int32 := va_up e 67 (upd (e 67) 17 (nI p))
def s18 (e : Nat → Nat → Int32) (x : Int32) : Nat → Nat → Int32 := va_up e 67 (upd (e 67) 18 x)
theorem RT_67 {i : Nat} {v : Int32} (h : RT σ e) (h1 : 16 ≤ i) (h2 : i ≤ 19) : RT σ (va_up e 67 (upd (e 67) i v)) := by
  refine ⟨fun c a b c' d' => ?_, fun j hj => ?_⟩
  · rw [vn a]; exact h.1 c a b c' d'
  · rw [vs, un (by omega)]; exact h.2 j hj
theorem RQ_17 {wr : Int32} {p' : Nat} (h : RQ σ k p wr g e) : RQ σ k p' wr g (s17 e p') := by
  obtain ⟨a, b, c, d', e'⟩ := h
  unfold s17
  refine ⟨RT_67 a (by decide) (by decide), ?_, ?_, ?_, ?_⟩
  · rw [vs, un (by decide)]; exact b
  · rw [vs, us]
  · rw [vs, un (by decide)]; exact d'
  · rw [vs, un (by decide)]; exact e'
theorem RQ_18 {wr x : Int32} (h : RQ σ k p wr g e) : RQ σ k p x g (s18 e x) := by
  obtain ⟨a, b, c, d', e'⟩ := h
  unfold s18
  refine ⟨RT_67 a (by decide) (by decide), ?_, ?_, ?_, ?_⟩
  · rw [vs, un (by decide)]; exact b
  · rw [vs, un (by decide)]; exact c
  · rw [vs, us]
  · rw [vs, un (by decide)]; exact e'
theorem RQ_a {wr : Int32} {c : Nat} {f : Nat → Int32} (h : RQ σ k p wr g e) (hc : c = 78 ∨ c = 79 ∨ c = 80) : RQ σ k p wr g (va_up e c f) := by
  obtain ⟨⟨a1, a2⟩, b⟩ := h
  have n : (67 : Nat) ≠ c := by omega
  unfold RQ RT
  rw [vn n]
  exact ⟨⟨fun c' h1 h2 h3 h4 => by rw [vn (by omega)]; exact a1 c' h1 h2 h3 h4, a2⟩, b⟩
theorem s17_n {c q : Nat} (h : c ≠ 67) : s17 e q c = e c := vn h
theorem s18_n {c : Nat} {x : Int32} (h : c ≠ 67) : s18 e x c = e c := vn h
theorem s17_s {q q' : Nat} : s17 (s17 e q) q' = s17 e q' := by unfold s17; rw [vs, uu, vu]
theorem s17_i (h : e 67 17 = nI p) : s17 e p = e := by unfold s17; rw [← h, ui, m_up_id]
theorem s6_here {wr : Int32} (t : rtx w k m σ) (h : RQ σ k p wr g e) (hp : p ≤ 200) : pX 150 0 [.ref 67] [] (mm L xs e τ) 85 S = some (some (.int (hrq w m p)), mm L xs e τ, 85, S) := by
  obtain ⟨hk, hm, hz, hw⟩ := t
  obtain ⟨a, b, c, d', e'⟩ := h
  have e70 : e 70 = σ 70 := a.1 70 (by decide) (by decide) (by decide) (by decide)
  have e71 : e 71 = σ 71 := a.1 71 (by decide) (by decide) (by decide) (by decide)
  have e60 : (60 : Int32) * nI k = nI (60 * k) := pk_mul 60 k
  unfold hrq
  by_cases hpm : p < m
  · rw [if_pos hpm, ← hw p (by omega)]
    simp only [Nat.reduceAdd, i6_here_0, i6_here_1, i6_here_4, i6_here_5, i6_here_8, i6_here_9, i6_here_12, i6_here_13, i6_here_16, i6_here_17, i6_here_20, i6_here_22, i6_here_23, i6_here_26, i6_here_27, i6_here_28, i6_here_31, i6_here_32, i6_here_33, i6_here_36, i6_here_39, k_70, l_70, k_71, l_71, b, c, e70, e71, hz, e60, nI_add, ifb_i (show k < 4 by omega) (by decide), cl (show k ≤ 5000 by omega), ifb_i (show 60 * k + p < 240 by omega) (by decide), cl (show 60 * k + p ≤ 5000 by omega), nlt hpm (by omega), if_true]
  · rw [if_neg hpm]
    simp only [Nat.reduceAdd, i6_here_0, i6_here_1, i6_here_4, i6_here_5, i6_here_8, i6_here_9, i6_here_12, i6_here_13, i6_here_16, i6_here_17, i6_here_20, i6_here_22, i6_here_23, i6_here_26, i6_here_27, i6_here_28, i6_here_31, i6_here_32, i6_here_33, i6_here_36, i6_here_39, k_70, l_70, b, c, e70, hz, ifb_i (show k < 4 by omega) (by decide), cl (show k ≤ 5000 by omega), nnl (show m ≤ p by omega) (by omega), if_false]
theorem fig_ok {a b : Int32} (t : rtx w k m σ) (h : RQ σ k p (-1) g e) (hp : p ≤ 200) (is : ¬ hrq w m p - 48 < a ∧ ¬ b < hrq w m p - 48) : pX 153 0 [.ref 67, .int a, .int b, .null, .null] [] (mm L xs e τ) 85 S = some (some (.int (hrq w m p - 48)), mm L xs (s17 e (p + 1)) τ, 85, S) := by
  have hh := s6_here (L := L) (xs := xs) (τ := τ) (S := S) t h hp
  obtain ⟨_, _, c, d', _⟩ := h
  have q : (-1 : Int32) < 0 := by decide
  have z : upd (e 67) 18 (-1) = e 67 := by rw [← d']; exact ui _ _
  unfold s17
  simp only [Nat.reduceAdd, i6_figure_0, i6_figure_1, i6_figure_4, i6_figure_6, i6_figure_7, i6_figure_8, i6_figure_9, i6_figure_12, i6_figure_15, i6_figure_16, i6_figure_17, i6_figure_18, i6_figure_21, i6_figure_24, i6_figure_25, i6_figure_28, i6_figure_29, i6_figure_31, i6_figure_32, i6_figure_33, i6_figure_36, i6_figure_39, i6_figure_41, i6_figure_44, i6_figure_45, i6_figure_48, i6_figure_51, i6_figure_52, i6_figure_55, i6_figure_58, i6_figure_59, i6_figure_60, i6_figure_63, i6_figure_65, i6_figure_68, i6_figure_69, i6_figure_72, i6_figure_73, i6_figure_74, i6_figure_77, i6_figure_79, i6_figure_82, i6_figure_83, i6_figure_86, i6_figure_87, hh, s6_in, pK_i, bi_0, d', q, is.1, is.2, z, m_up_id, c, nI_1, n10, and_self, if_true, if_false, not_true_eq_false, not_false_eq_true, true_or, or_true]
theorem fig_no {a b : Int32} (t : rtx w k m σ) (h : RQ σ k p (-1) g e) (hp : p ≤ 200) (is : ¬ (¬ hrq w m p - 48 < a ∧ ¬ b < hrq w m p - 48)) : pX 153 0 [.ref 67, .int a, .int b, .null, .null] [] (mm L xs e τ) 85 S = some (some (.int 0), mm L xs (s18 e (nI p)) τ, 85, S) := by
  have hh := s6_here (L := L) (xs := xs) (τ := τ) (S := S) t h hp
  obtain ⟨_, _, c, d', _⟩ := h
  have q : (-1 : Int32) < 0 := by decide
  have z : upd (upd (e 67) 18 (nI p)) 17 (nI p) = upd (e 67) 18 (nI p) := by
    have : (upd (e 67) 18 (nI p)) 17 = nI p := by rw [un (by decide)]; exact c
    rw [← this]
    exact ui _ _
  unfold s18
  simp only [Nat.reduceAdd, i6_figure_0, i6_figure_1, i6_figure_4, i6_figure_6, i6_figure_7, i6_figure_8, i6_figure_9, i6_figure_12, i6_figure_15, i6_figure_16, i6_figure_17, i6_figure_18, i6_figure_21, i6_figure_24, i6_figure_25, i6_figure_28, i6_figure_29, i6_figure_31, i6_figure_32, i6_figure_33, i6_figure_36, i6_figure_39, i6_figure_41, i6_figure_44, i6_figure_45, i6_figure_48, i6_figure_51, i6_figure_52, i6_figure_55, i6_figure_58, i6_figure_59, i6_figure_60, i6_figure_63, i6_figure_65, i6_figure_68, i6_figure_69, i6_figure_72, i6_figure_73, i6_figure_74, i6_figure_77, i6_figure_79, i6_figure_82, i6_figure_83, i6_figure_86, i6_figure_87, hh, s6_in, pK_i, bi_f is, d', q, c, vs, un (show (17 : Nat) ≠ 18 by decide), Int32.add_zero, z, vu, if_true, if_false, not_true_eq_false, not_false_eq_true, true_or, or_true]
theorem fig_n {a b : Int32} {x : Nat} (t : rtx w k m σ) (h : RQ σ k p (nI x) g e) (hp : p ≤ 200) (hx : x ≤ 5000) : pX 153 0 [.ref 67, .int a, .int b, .null, .null] [] (mm L xs e τ) 85 S = some (some (.int 0), mm L xs e τ, 85, S) := by
  have hh := s6_here (L := L) (xs := xs) (τ := τ) (S := S) t h hp
  obtain ⟨_, _, c, d', _⟩ := h
  have q : ¬ nI x < 0 := nI_pos (by omega)
  have z : upd (e 67) 18 (nI x) = e 67 := by rw [← d']; exact ui _ _
  have z2 : upd (e 67) 17 (nI p) = e 67 := by rw [← c]; exact ui _ _
  simp only [Nat.reduceAdd, i6_figure_0, i6_figure_1, i6_figure_4, i6_figure_6, i6_figure_7, i6_figure_8, i6_figure_9, i6_figure_12, i6_figure_15, i6_figure_16, i6_figure_17, i6_figure_18, i6_figure_21, i6_figure_24, i6_figure_25, i6_figure_28, i6_figure_29, i6_figure_31, i6_figure_32, i6_figure_33, i6_figure_36, i6_figure_39, i6_figure_41, i6_figure_44, i6_figure_45, i6_figure_48, i6_figure_51, i6_figure_52, i6_figure_55, i6_figure_58, i6_figure_59, i6_figure_60, i6_figure_63, i6_figure_65, i6_figure_68, i6_figure_69, i6_figure_72, i6_figure_73, i6_figure_74, i6_figure_77, i6_figure_79, i6_figure_82, i6_figure_83, i6_figure_86, i6_figure_87, hh, pK_i, d', q, c, Int32.add_zero, z, z2, m_up_id, if_true, if_false, not_true_eq_false, not_false_eq_true, true_or, or_true]
theorem lv_n {x : Nat} (t : rtx w k m σ) (h : RQ σ k p (nI x) g e) (hp : p ≤ 200) (hx : x ≤ 5000) : pX 154 0 [.ref 67, .null, .null] [] (mm L xs e τ) 85 S = some (some (.int (10 * 0 + 0)), mm L xs e τ, 85, S) := by
  have f1 := fun a b => fig_n (L := L) (xs := xs) (τ := τ) (S := S) (a := a) (b := b) t h hp hx
  obtain ⟨_, _, c, d', _⟩ := h
  have q : ¬ nI x < 0 := nI_pos (by omega)
  have z : upd (e 67) 18 (nI x) = e 67 := by rw [← d']; exact ui _ _
  simp only [Nat.reduceAdd, i6_levelHere_0, i6_levelHere_1, i6_levelHere_4, i6_levelHere_5, i6_levelHere_7, i6_levelHere_8, i6_levelHere_9, i6_levelHere_11, i6_levelHere_14, i6_levelHere_15, i6_levelHere_16, i6_levelHere_17, i6_levelHere_19, i6_levelHere_22, i6_levelHere_23, i6_levelHere_24, i6_levelHere_25, i6_levelHere_26, i6_levelHere_29, i6_levelHere_32, i6_levelHere_33, i6_levelHere_35, i6_levelHere_38, i6_levelHere_39, i6_levelHere_42, i6_levelHere_43, i6_levelHere_46, i6_levelHere_49, i6_levelHere_50, f1, pK_i, d', q, z, m_up_id, if_true, if_false, not_true_eq_false, not_false_eq_true, true_or, or_true]
theorem lvR (t : rtx w k m σ) (h : RQ σ k p (-1) g e) (hp : p ≤ m) : ∃ v e' p', pX 154 0 [.ref 67, .null, .null] [] (mm L xs e τ) 85 S = some (some (.int v), mm L xs e' τ, 85, S) ∧ RQ σ k p' (if lfq w m p = -9 then -1 else lfq w m p) g e' ∧ p' ≤ m ∧ (∀ c, c ≠ 67 → e' c = e c) ∧ (lfq w m p = -9 → v = lvf w m p ∧ p' = p + 2) := by
  have hm := t.2.1
  have q : (-1 : Int32) < 0 := by decide
  by_cases h1 : fgq w m p = -9
  · have el : lfq w m p = nI p := if_pos h1
    have g1 := fig_no (L := L) (xs := xs) (τ := τ) (S := S) (a := 0) (b := 9) t h (show p ≤ 200 by omega) (by rw [isA]; exact fun k => k h1)
    have r1 := RQ_18 (x := nI p) h
    have g2 := fig_n (L := L) (xs := xs) (τ := τ) (S := S) (a := 0) (b := 9) t r1 (show p ≤ 200 by omega) (show p ≤ 5000 by omega)
    have d1 := r1.2.2.2.1
    have q1 : ¬ nI p < 0 := nI_pos (by omega)
    have z : upd (s18 e (nI p) 67) 18 (nI p) = s18 e (nI p) 67 := by rw [← d1]; exact ui _ _
    refine ⟨10 * 0 + 0, s18 e (nI p), p, ?_, ?_, hp, fun c hc => s18_n hc, fun x => ?_⟩
    · simp only [Nat.reduceAdd, i6_levelHere_0, i6_levelHere_1, i6_levelHere_4, i6_levelHere_5, i6_levelHere_7, i6_levelHere_8, i6_levelHere_9, i6_levelHere_11, i6_levelHere_14, i6_levelHere_15, i6_levelHere_16, i6_levelHere_17, i6_levelHere_19, i6_levelHere_22, i6_levelHere_23, i6_levelHere_24, i6_levelHere_25, i6_levelHere_26, i6_levelHere_29, i6_levelHere_32, i6_levelHere_33, i6_levelHere_35, i6_levelHere_38, i6_levelHere_39, i6_levelHere_42, i6_levelHere_43, i6_levelHere_46, i6_levelHere_49, i6_levelHere_50, h.2.2.1, g1, g2, pK_i, d1, q1, z, m_up_id, if_true, if_false, not_true_eq_false, not_false_eq_true, true_or, or_true]
    · rw [el, if_neg (nI_9n (by omega))]; exact r1
    · rw [el] at x; exact absurd x (nI_9n (by omega))
  · have b1 := fgq_p h1
    have g1 := fig_ok (L := L) (xs := xs) (τ := τ) (S := S) (a := 0) (b := 9) t h (show p ≤ 200 by omega) (by rw [isA]; exact h1)
    rw [vA h1] at g1
    have r1 := RQ_17 (p' := p + 1) h
    by_cases h2 : fgq w m (p + 1) = -9
    · have el : lfq w m p = nI (p + 1) := by unfold lfq; rw [if_neg h1, if_pos h2]
      have g2 := fig_no (L := L) (xs := xs) (τ := τ) (S := S) (a := 0) (b := 9) t r1 (show p + 1 ≤ 200 by omega) (by rw [isA]; exact fun k => k h2)
      have r2 := RQ_18 (x := nI (p + 1)) r1
      have d1 := r2.2.2.2.1
      have q1 : ¬ nI (p + 1) < 0 := nI_pos (by omega)
      have z : upd (s18 (s17 e (p + 1)) (nI (p + 1)) 67) 18 (nI (p + 1)) = s18 (s17 e (p + 1)) (nI (p + 1)) 67 := by rw [← d1]; exact ui _ _
      refine ⟨10 * fgq w m p + 0, s18 (s17 e (p + 1)) (nI (p + 1)), p + 1, ?_, ?_, by omega, fun c hc => by rw [s18_n hc, s17_n hc], fun x => ?_⟩
      · simp only [Nat.reduceAdd, i6_levelHere_0, i6_levelHere_1, i6_levelHere_4, i6_levelHere_5, i6_levelHere_7, i6_levelHere_8, i6_levelHere_9, i6_levelHere_11, i6_levelHere_14, i6_levelHere_15, i6_levelHere_16, i6_levelHere_17, i6_levelHere_19, i6_levelHere_22, i6_levelHere_23, i6_levelHere_24, i6_levelHere_25, i6_levelHere_26, i6_levelHere_29, i6_levelHere_32, i6_levelHere_33, i6_levelHere_35, i6_levelHere_38, i6_levelHere_39, i6_levelHere_42, i6_levelHere_43, i6_levelHere_46, i6_levelHere_49, i6_levelHere_50, h.2.2.1, g1, g2, pK_i, d1, q1, z, m_up_id, if_true, if_false, not_true_eq_false, not_false_eq_true, true_or, or_true]
      · rw [el, if_neg (nI_9n (by omega))]; exact r2
      · rw [el] at x; exact absurd x (nI_9n (by omega))
    · have b2 := fgq_p h2
      have g2 := fig_ok (L := L) (xs := xs) (τ := τ) (S := S) (a := 0) (b := 9) t r1 (show p + 1 ≤ 200 by omega) (by rw [isA]; exact h2)
      rw [vA h2] at g2
      have r2 := RQ_17 (p' := p + 1 + 1) r1
      have d1 := r2.2.2.2.1
      have ev : 10 * fgq w m p + fgq w m (p + 1) = lvf w m p := rfl
      by_cases h3 : 60 < lvf w m p
      · have el : lfq w m p = nI p := by unfold lfq; rw [if_neg h1, if_neg h2, if_pos h3]
        refine ⟨lvf w m p, s18 (s17 (s17 e (p + 1)) (p + 1 + 1)) (nI p), p + 1 + 1, ?_, ?_, by omega, fun c hc => by rw [s18_n hc, s17_n hc, s17_n hc], fun x => ?_⟩
        · simp only [Nat.reduceAdd, i6_levelHere_0, i6_levelHere_1, i6_levelHere_4, i6_levelHere_5, i6_levelHere_7, i6_levelHere_8, i6_levelHere_9, i6_levelHere_11, i6_levelHere_14, i6_levelHere_15, i6_levelHere_16, i6_levelHere_17, i6_levelHere_19, i6_levelHere_22, i6_levelHere_23, i6_levelHere_24, i6_levelHere_25, i6_levelHere_26, i6_levelHere_29, i6_levelHere_32, i6_levelHere_33, i6_levelHere_35, i6_levelHere_38, i6_levelHere_39, i6_levelHere_42, i6_levelHere_43, i6_levelHere_46, i6_levelHere_49, i6_levelHere_50, h.2.2.1, g1, g2, ev, pK_i, d1, q, h3, if_true, if_false, not_true_eq_false, not_false_eq_true, true_or, or_true]
          rfl
        · rw [el, if_neg (nI_9n (by omega))]; exact RQ_18 r2
        · rw [el] at x; exact absurd x (nI_9n (by omega))
      · have el : lfq w m p = -9 := by unfold lfq; rw [if_neg h1, if_neg h2, if_neg h3]
        have z : upd (s17 (s17 e (p + 1)) (p + 1 + 1) 67) 18 (-1) = s17 (s17 e (p + 1)) (p + 1 + 1) 67 := by rw [← d1]; exact ui _ _
        refine ⟨lvf w m p, s17 (s17 e (p + 1)) (p + 1 + 1), p + 1 + 1, ?_, ?_, by omega, fun c hc => by rw [s17_n hc, s17_n hc], fun _ => ⟨rfl, rfl⟩⟩
        · simp only [Nat.reduceAdd, i6_levelHere_0, i6_levelHere_1, i6_levelHere_4, i6_levelHere_5, i6_levelHere_7, i6_levelHere_8, i6_levelHere_9, i6_levelHere_11, i6_levelHere_14, i6_levelHere_15, i6_levelHere_16, i6_levelHere_17, i6_levelHere_19, i6_levelHere_22, i6_levelHere_23, i6_levelHere_24, i6_levelHere_25, i6_levelHere_26, i6_levelHere_29, i6_levelHere_32, i6_levelHere_33, i6_levelHere_35, i6_levelHere_38, i6_levelHere_39, i6_levelHere_42, i6_levelHere_43, i6_levelHere_46, i6_levelHere_49, i6_levelHere_50, h.2.2.1, g1, g2, ev, pK_i, d1, q, h3, z, m_up_id, if_true, if_false, not_true_eq_false, not_false_eq_true, true_or, or_true]
        · rw [el, if_pos rfl]; exact r2
theorem s6_kindBy {M : pm_M} {N : Nat} {x : Int32} : pX 152 0 [.int x] [] M N S = some (some (.int (kdf x)), M, N, S) := by
  unfold kdf
  by_cases h1 : x = 103
  · simp only [i6_kindBy_0, i6_kindBy_1, i6_kindBy_3, i6_kindBy_6, i6_kindBy_7, i6_kindBy_10, i6_kindBy_11, i6_kindBy_13, i6_kindBy_16, i6_kindBy_17, i6_kindBy_20, i6_kindBy_21, i6_kindBy_23, i6_kindBy_26, i6_kindBy_27, i6_kindBy_30, i6_kindBy_31, i6_kindBy_33, i6_kindBy_36, i6_kindBy_37, i6_kindBy_40, i6_kindBy_41, i6_kindBy_43, i6_kindBy_46, i6_kindBy_47, i6_kindBy_50, i6_kindBy_51, i6_kindBy_53, i6_kindBy_56, i6_kindBy_57, i6_kindBy_60, i6_kindBy_62, h1, if_true, if_false, not_true_eq_false, not_false_eq_true, true_or, or_true]
  · by_cases h2 : x = 115
    · rw [if_neg h1]; simp only [i6_kindBy_0, i6_kindBy_1, i6_kindBy_3, i6_kindBy_6, i6_kindBy_7, i6_kindBy_10, i6_kindBy_11, i6_kindBy_13, i6_kindBy_16, i6_kindBy_17, i6_kindBy_20, i6_kindBy_21, i6_kindBy_23, i6_kindBy_26, i6_kindBy_27, i6_kindBy_30, i6_kindBy_31, i6_kindBy_33, i6_kindBy_36, i6_kindBy_37, i6_kindBy_40, i6_kindBy_41, i6_kindBy_43, i6_kindBy_46, i6_kindBy_47, i6_kindBy_50, i6_kindBy_51, i6_kindBy_53, i6_kindBy_56, i6_kindBy_57, i6_kindBy_60, i6_kindBy_62, h1, h2, if_true, if_false, not_true_eq_false, not_false_eq_true, true_or, or_true]; simp (decide := true) only [i6_kindBy_0, i6_kindBy_1, i6_kindBy_3, i6_kindBy_6, i6_kindBy_7, i6_kindBy_10, i6_kindBy_11, i6_kindBy_13, i6_kindBy_16, i6_kindBy_17, i6_kindBy_20, i6_kindBy_21, i6_kindBy_23, i6_kindBy_26, i6_kindBy_27, i6_kindBy_30, i6_kindBy_31, i6_kindBy_33, i6_kindBy_36, i6_kindBy_37, i6_kindBy_40, i6_kindBy_41, i6_kindBy_43, i6_kindBy_46, i6_kindBy_47, i6_kindBy_50, i6_kindBy_51, i6_kindBy_53, i6_kindBy_56, i6_kindBy_57, i6_kindBy_60, i6_kindBy_62, if_true, if_false, not_true_eq_false, not_false_eq_true, true_or, or_true]
    · by_cases h3 : x = 112
      · rw [if_neg h1, if_neg h2]; simp (decide := true) only [i6_kindBy_0, i6_kindBy_1, i6_kindBy_3, i6_kindBy_6, i6_kindBy_7, i6_kindBy_10, i6_kindBy_11, i6_kindBy_13, i6_kindBy_16, i6_kindBy_17, i6_kindBy_20, i6_kindBy_21, i6_kindBy_23, i6_kindBy_26, i6_kindBy_27, i6_kindBy_30, i6_kindBy_31, i6_kindBy_33, i6_kindBy_36, i6_kindBy_37, i6_kindBy_40, i6_kindBy_41, i6_kindBy_43, i6_kindBy_46, i6_kindBy_47, i6_kindBy_50, i6_kindBy_51, i6_kindBy_53, i6_kindBy_56, i6_kindBy_57, i6_kindBy_60, i6_kindBy_62, h1, h2, h3, if_true, if_false, not_true_eq_false, not_false_eq_true, true_or, or_true]
      · by_cases h4 : x = 119
        · rw [if_neg h1, if_neg h2, if_neg h3]; simp (decide := true) only [i6_kindBy_0, i6_kindBy_1, i6_kindBy_3, i6_kindBy_6, i6_kindBy_7, i6_kindBy_10, i6_kindBy_11, i6_kindBy_13, i6_kindBy_16, i6_kindBy_17, i6_kindBy_20, i6_kindBy_21, i6_kindBy_23, i6_kindBy_26, i6_kindBy_27, i6_kindBy_30, i6_kindBy_31, i6_kindBy_33, i6_kindBy_36, i6_kindBy_37, i6_kindBy_40, i6_kindBy_41, i6_kindBy_43, i6_kindBy_46, i6_kindBy_47, i6_kindBy_50, i6_kindBy_51, i6_kindBy_53, i6_kindBy_56, i6_kindBy_57, i6_kindBy_60, i6_kindBy_62, h1, h2, h3, h4, if_true, if_false, not_true_eq_false, not_false_eq_true, true_or, or_true]
        · by_cases h5 : x = 108
          · rw [if_neg h1, if_neg h2, if_neg h3, if_neg h4]; simp (decide := true) only [i6_kindBy_0, i6_kindBy_1, i6_kindBy_3, i6_kindBy_6, i6_kindBy_7, i6_kindBy_10, i6_kindBy_11, i6_kindBy_13, i6_kindBy_16, i6_kindBy_17, i6_kindBy_20, i6_kindBy_21, i6_kindBy_23, i6_kindBy_26, i6_kindBy_27, i6_kindBy_30, i6_kindBy_31, i6_kindBy_33, i6_kindBy_36, i6_kindBy_37, i6_kindBy_40, i6_kindBy_41, i6_kindBy_43, i6_kindBy_46, i6_kindBy_47, i6_kindBy_50, i6_kindBy_51, i6_kindBy_53, i6_kindBy_56, i6_kindBy_57, i6_kindBy_60, i6_kindBy_62, h1, h2, h3, h4, h5, if_true, if_false, not_true_eq_false, not_false_eq_true, true_or, or_true]
          · by_cases h6 : x = 101
            · rw [if_neg h1, if_neg h2, if_neg h3, if_neg h4, if_neg h5]; simp (decide := true) only [i6_kindBy_0, i6_kindBy_1, i6_kindBy_3, i6_kindBy_6, i6_kindBy_7, i6_kindBy_10, i6_kindBy_11, i6_kindBy_13, i6_kindBy_16, i6_kindBy_17, i6_kindBy_20, i6_kindBy_21, i6_kindBy_23, i6_kindBy_26, i6_kindBy_27, i6_kindBy_30, i6_kindBy_31, i6_kindBy_33, i6_kindBy_36, i6_kindBy_37, i6_kindBy_40, i6_kindBy_41, i6_kindBy_43, i6_kindBy_46, i6_kindBy_47, i6_kindBy_50, i6_kindBy_51, i6_kindBy_53, i6_kindBy_56, i6_kindBy_57, i6_kindBy_60, i6_kindBy_62, h1, h2, h3, h4, h5, h6, if_true, if_false, not_true_eq_false, not_false_eq_true, true_or, or_true]
            · simp only [i6_kindBy_0, i6_kindBy_1, i6_kindBy_3, i6_kindBy_6, i6_kindBy_7, i6_kindBy_10, i6_kindBy_11, i6_kindBy_13, i6_kindBy_16, i6_kindBy_17, i6_kindBy_20, i6_kindBy_21, i6_kindBy_23, i6_kindBy_26, i6_kindBy_27, i6_kindBy_30, i6_kindBy_31, i6_kindBy_33, i6_kindBy_36, i6_kindBy_37, i6_kindBy_40, i6_kindBy_41, i6_kindBy_43, i6_kindBy_46, i6_kindBy_47, i6_kindBy_50, i6_kindBy_51, i6_kindBy_53, i6_kindBy_56, i6_kindBy_57, i6_kindBy_60, i6_kindBy_62, h1, h2, h3, h4, h5, h6, if_true, if_false, not_true_eq_false, not_false_eq_true, true_or, or_true]
theorem s6_skips {wr : Int32} (t : rtx w k m σ) (h : RQ σ k p wr g e) (hp : p ≤ m) : pX 151 0 [.ref 67] [] (mm L xs e τ) 85 S = some (none, mm L xs (s17 e (bbq w m p)) τ, 85, S) := by
  have hm := t.2.1
  have key : ∀ f q, q ≤ m → m < q + f → pX 151 0 [.ref 67] [] (mm L xs (s17 e q) τ) 85 S = some (none, mm L xs (s17 e (bbf w m f q)) τ, 85, S) := by
    intro f
    induction f with
    | zero => intro q h1 h2; exact absurd h2 (by omega)
    | succ f ih =>
      intro q h1 h2
      have r1 := RQ_17 (p' := q) h
      have hh := s6_here (L := L) (xs := xs) (τ := τ) (S := S) t r1 (show q ≤ 200 by omega)
      have c := r1.2.2.1
      show _ = some (none, mm L xs (s17 e (if q < m ∧ w q = 32 then bbf w m f (q + 1) else q)) τ, 85, S)
      by_cases hq : q < m
      · have eb : hrq w m q = w q := if_pos hq
        by_cases hw : w q = 32
        · have e2 : va_up (s17 e q) 67 (upd (s17 e q 67) 17 (nI (q + 1))) = s17 e (q + 1) := s17_s
          rw [if_pos ⟨hq, hw⟩, ← ih (q + 1) (by omega) (by omega), i6_skips_0]
          simp only [Nat.reduceAdd, i6_skips_1, i6_skips_4, i6_skips_6, i6_skips_9, i6_skips_10, i6_skips_11, i6_skips_14, i6_skips_15, i6_skips_16, i6_skips_19, i6_skips_22, hh, eb, hw, pK_i, if_true, c, nI_1, e2]
        · rw [if_neg (fun e => hw e.2), i6_skips_0]
          simp only [Nat.reduceAdd, i6_skips_1, i6_skips_4, i6_skips_6, i6_skips_9, i6_skips_10, i6_skips_11, i6_skips_14, i6_skips_15, i6_skips_16, i6_skips_19, i6_skips_22, hh, eb, hw, pK_i, if_false]
      · have eb : hrq w m q = -1000 := if_neg hq
        have n32 : ¬ (-1000 : Int32) = 32 := by decide
        rw [if_neg (fun e => hq e.1), i6_skips_0]
        simp only [Nat.reduceAdd, i6_skips_1, i6_skips_4, i6_skips_6, i6_skips_9, i6_skips_10, i6_skips_11, i6_skips_14, i6_skips_15, i6_skips_16, i6_skips_19, i6_skips_22, hh, eb, n32, pK_i, if_false]
  have kk := key 61 p hp (by omega)
  rw [s17_i h.2.2.1] at kk
  exact kk
end DZ
