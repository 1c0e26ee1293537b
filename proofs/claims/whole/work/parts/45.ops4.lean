/-! THE CALLS, going on: turn, wind, rain, draw -/
theorem turn_rc {g m : Nat} {σ : Nat → Nat → Int32} (r : qN g m σ) : rc g (tl (σ 5) (σ 6) (σ 4 4) (σ 4 5) 0 (σ 7) g) (σ 4 4) (σ 4 5 + 1) (tRs (σ 72) (σ 73) g 0 (σ 74)) (m + 1) := by
  obtain ⟨k, hk, e7, e7'⟩ := r.2.2.2.2.1.2.1
  obtain ⟨v, hv, e8, e8'⟩ := r.2.2.2.2.1.2.2
  have t := T2 r.1 (sk := 0) r.2.2.2.1 (qN_w r) (e7'.trans e7.symm) (e8'.trans e8.symm)
  refine ⟨t.1, ⟨k, hk, e7, t.2.1.trans e7⟩, ⟨v + 1, by omega, by rw [e8, nI_1], ?_⟩⟩
  rw [t.2.2.1, e8, nI_1]
theorem d40 {d : Nat} (h : d ≤ 40) : (nI d = 40) = ¬ d < 40 := by
  apply propext
  constructor
  · intro e h2
    have := (nI_eq (a := d) (b := 40) (by omega) (by omega)).mp e
    omega
  · intro h2
    have : d = 40 := by omega
    subst this; rfl
theorem and1 (y : Int32) : y &&& 1 = 0 ∨ y &&& 1 = 1 := by
  obtain ⟨j, hj, e⟩ := pk_andE y (m := 1) 1 (by decide)
  rw [e]
  have : j = 0 ∨ j = 1 := by omega
  rcases this with rfl | rfl
  · exact Or.inl rfl
  · exact Or.inr rfl
theorem flp_rg {g o j : Nat} (hg : g ≤ 6) (ho : o < 2 ^ g) (hj : j < g) : ∃ k, k < 2 ^ g ∧ nI o ^^^ sh j = nI k := by
  have h64 : 2 ^ g ≤ 2 ^ 6 := Nat.pow_le_pow_right (by decide) hg
  have key : ∀ o, o < 64 → ∀ j, j < 6 → nI o ^^^ sh j = nI (o ^^^ 2 ^ j) := by decide +kernel
  exact ⟨o ^^^ 2 ^ j, Nat.xor_lt_two_pow ho (Nat.pow_lt_pow_right (by decide) hj), key o (by omega) j (by omega)⟩
section DE
variable {L : Nat} {xs : Nat → Int32} {σ : Nat → Nat → Int32} {τ : Nat → Nat → Int64} {S g d m : Nat}
theorem t4_passTurn (hg : σ 4 3 = nI g) (hg6 : g ≤ 6) : pX 41 0 [.ref 4, .int 0, .null, .null, .null] [] (mm L xs σ τ) 85 S = some (some (.int (tm (σ 5) (σ 6) (σ 4 4) (σ 4 5) 0 (σ 7) g)), mm L xs (tuC σ g) τ, 85, S) := s4_passTurn a_4 hg hg6
theorem t6_turnOn (hg : σ 67 4 = nI g) (hg6 : g ≤ 6) (hk : ∀ i, i < g → kd6 (σ 72 i)) : pX 164 0 [.ref 67, .ref 74, .int 0, .null, .null, .null] [] (mm L xs σ τ) 85 S = some (some (.int (tmR (σ 72) (σ 73) 0 (σ 74) g)), mm L xs (tuR σ g) τ, 85, S) := s6_turnOn (Or.inl rfl) hg hg6 hk
theorem t6_notes (hd : σ 67 8 = nI d) (h40 : d < 40) : pX 171 0 [.ref 67] [] (mm L xs σ τ) 85 S = some (none, mm L xs (ntR σ d) τ, 85, S) := s6_notes hd h40
theorem bdC_n {c : Nat} (h1 : c ≠ 3) (h2 : c < 8 ∨ 10 < c) : bdC σ d c = σ c := by unfold bdC; simp (disch := omega) only [vn']
theorem ntR_n {c : Nat} (h1 : c ≠ 67) (h2 : c ≠ 75) : ntR σ d c = σ c := by unfold ntR; simp (disch := omega) only [vn']
theorem tuC_n {c : Nat} (h1 : c ≠ 7) (h2 : c ≠ 4) : tuC σ g c = σ c := by unfold tuC; simp (disch := omega) only [vn']
theorem tuR_n {c : Nat} (h1 : c ≠ 74) : tuR σ g c = σ c := by unfold tuR; simp (disch := omega) only [vn']
theorem ntR_67 {i : Nat} (h : i ≠ 8) : ntR σ d 67 i = σ 67 i := by unfold ntR; rw [vs, un h]
theorem op_turn : opI L xs S (fun M => pX 61 0 [.ref 0] [] M 85 S) (fun M => pX 172 0 [.ref 67] [] M 85 S) := by
  intro g d σ τ R
  have hg6 := R.1.1
  obtain ⟨d40', hd3, hd67, _⟩ := R.2.1
  by_cases h : 0 < g
  · by_cases hd : d < 40
    · have f1 : (bdC σ d) 4 3 = nI g := by rw [bdC_n (by decide) (by decide)]; exact R.1.2.1
      have f2 : (tuC (bdC σ d) g) 67 4 = nI g := by rw [tuC_n (by decide) (by decide), bdC_n (by decide) (by decide)]; exact R.1.2.2.1
      have f3 : (tuC (bdC σ d) g) 67 8 = nI d := by rw [tuC_n (by decide) (by decide), bdC_n (by decide) (by decide)]; exact hd67
      have f4 : (ntR (tuC (bdC σ d) g) d) 67 4 = nI g := by rw [ntR_67 (by decide)]; exact f2
      have f5 : ∀ i, i < g → kd6 ((ntR (tuC (bdC σ d) g) d) 72 i) := by rw [ntR_n (by decide) (by decide), tuC_n (by decide) (by decide), bdC_n (by decide) (by decide)]; exact qN_kd R.1
      have e := (W2 R.1 (sk := 0) (K := σ 5) (W := σ 6) (lv := σ 7) (fun i _ => ⟨rfl, rfl⟩) (fun b _ => rfl)).2
      apply op_of
      · simp only [Nat.reduceAdd, i5_turn_0, i5_turn_1, i5_turn_4, i5_turn_7, i5_turn_10, i5_turn_12, i5_turn_13, i5_turn_14, i5_turn_17, i5_turn_18, i5_turn_21, i5_turn_24, i5_turn_26, i5_turn_27, i5_turn_28, i5_turn_31, i5_turn_34, i5_turn_35, i5_turn_38, i5_turn_41, i5_turn_42, i5_turn_45, s3_isThere R.1, isF1 hd3 d40', s0_beginDeed hd3 hd, t4_passTurn f1 hg6, k_3, k_4, pK_i, pK_v, bi_0, h, hd, if_true, if_false, not_true_eq_false, not_false_eq_true, true_or, or_true]
        rw [bdC_n (by decide) (by decide), bdC_n (by decide) (by decide), bdC_n (by decide) (by decide), bdC_n (by decide) (by decide), e]
      · simp only [Nat.reduceAdd, i6_turn_0, i6_turn_1, i6_turn_4, i6_turn_7, i6_turn_9, i6_turn_10, i6_turn_11, i6_turn_14, i6_turn_16, i6_turn_19, i6_turn_21, i6_turn_22, i6_turn_23, i6_turn_26, i6_turn_27, i6_turn_28, i6_turn_31, i6_turn_32, i6_turn_35, f2, f3, gN0 hg6, d40 d40', t6_notes f3 hd, t6_turnOn f4 hg6 f5, pK_i, pK_v, h, hd, if_true, if_false, not_true_eq_false, not_false_eq_true, true_or, or_true]
        rw [ntR_n (by decide) (by decide), ntR_n (by decide) (by decide), ntR_n (by decide) (by decide), tuC_n (by decide) (by decide), tuC_n (by decide) (by decide), tuC_n (by decide) (by decide), bdC_n (by decide) (by decide), bdC_n (by decide) (by decide), bdC_n (by decide) (by decide)]
      · refine Rel_deed R hd h ?_ ?_ ?_ ?_ ?_ ?_ ?_ ?_ ?_ ?_
        · intro c h1 h2 h3 h4 h5 h6 h7 h8 h9
          simp (disch := omega) only [tuR, ntR, tuC, bdC, vn']
        · intro i hi
          simp (disch := omega) only [tuR, ntR, tuC, bdC, vn', vs, un]
        · simp (disch := omega) only [tuR, ntR, tuC, bdC, vn', vs, un]
        · simp (disch := omega) only [tuR, ntR, tuC, bdC, vn', vs, us]
        · simp (disch := omega) only [tuR, ntR, tuC, bdC, vn', vs, us]
        · simp (disch := omega) only [tuR, ntR, tuC, bdC, vn', vs, us]
        · simp (disch := omega) only [tuR, ntR, tuC, bdC, vn', vs, us]
        · simp (disch := omega) only [tuR, ntR, tuC, bdC, vn', vs, us]
        · simp (disch := omega) only [tuR, ntR, tuC, bdC, vn', vs, us]
        · have q := turn_rc R.1
          simp (disch := omega) only [tuR, ntR, tuC, bdC, vn', vs, us, un]
          exact q
    · apply op_of
      · simp only [Nat.reduceAdd, i5_turn_0, i5_turn_1, i5_turn_4, i5_turn_7, i5_turn_10, i5_turn_12, i5_turn_13, i5_turn_14, i5_turn_17, i5_turn_18, i5_turn_21, i5_turn_24, i5_turn_26, i5_turn_27, i5_turn_28, i5_turn_31, i5_turn_34, i5_turn_35, i5_turn_38, i5_turn_41, i5_turn_42, i5_turn_45, s3_isThere R.1, isF1 hd3 d40', k_3, k_4, pK_i, bi_0, h, hd, if_true, if_false, not_true_eq_false, not_false_eq_true, true_or, or_true]; rfl
      · simp only [Nat.reduceAdd, i6_turn_0, i6_turn_1, i6_turn_4, i6_turn_7, i6_turn_9, i6_turn_10, i6_turn_11, i6_turn_14, i6_turn_16, i6_turn_19, i6_turn_21, i6_turn_22, i6_turn_23, i6_turn_26, i6_turn_27, i6_turn_28, i6_turn_31, i6_turn_32, i6_turn_35, R.1.2.2.1, hd67, gN0 hg6, d40 d40', h, hd, if_true, if_false, not_true_eq_false, not_false_eq_true, true_or, or_true]; rfl
      · exact R
  · apply op_of
    · simp only [Nat.reduceAdd, i5_turn_0, i5_turn_1, i5_turn_4, i5_turn_7, i5_turn_10, i5_turn_12, i5_turn_13, i5_turn_14, i5_turn_17, i5_turn_18, i5_turn_21, i5_turn_24, i5_turn_26, i5_turn_27, i5_turn_28, i5_turn_31, i5_turn_34, i5_turn_35, i5_turn_38, i5_turn_41, i5_turn_42, i5_turn_45, s3_isThere R.1, k_3, k_4, pK_i, bi_0, h, if_true, if_false, not_true_eq_false, not_false_eq_true, true_or, or_true]; rfl
    · simp only [Nat.reduceAdd, i6_turn_0, i6_turn_1, i6_turn_4, i6_turn_7, i6_turn_9, i6_turn_10, i6_turn_11, i6_turn_14, i6_turn_16, i6_turn_19, i6_turn_21, i6_turn_22, i6_turn_23, i6_turn_26, i6_turn_27, i6_turn_28, i6_turn_31, i6_turn_32, i6_turn_35, R.1.2.2.1, gN0 hg6, h, if_true, if_false, not_true_eq_false, not_false_eq_true, true_or, or_true]; rfl
    · exact R
end DE
