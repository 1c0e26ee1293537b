/-! THE CALLS, going on: what is told, what is seen of the bridge -/
def opL (L : Nat) (xs : Nat → Int32) (S : Nat) (c r : pm_M → Option pm_Rs) : Prop := ∀ g d σ τ, Rel g d σ τ → ∃ v σ1 τ1 σ2 τ2 g' d', c (mm L xs σ τ) = some (some (.long v), mm L xs σ1 τ1, 85, S) ∧ r (mm L xs σ1 τ1) = some (some (.long v), mm L xs σ2 τ2, 85, S) ∧ Rel g' d' σ2 τ2
section OS
variable {L : Nat} {xs : Nat → Int32} {σ : Nat → Nat → Int32} {τ : Nat → Nat → Int64} {S g m : Nat}
theorem op_asked : opI L xs S (fun M => pX 84 0 [.ref 0] [] M 85 S) (fun M => pX 212 0 [.ref 67] [] M 85 S) := by
  intro g d σ τ R
  have h := R.2.2.2.2.2.1
  apply op_of
  · simp only [Nat.reduceAdd, i5_asked_0, i5_asked_1, i5_asked_4, h]; rfl
  · simp only [Nat.reduceAdd, i6_asked_0, i6_asked_1, i6_asked_4]; rfl
  · exact R
theorem op_finding : opI L xs S (fun M => pX 88 0 [.ref 0] [] M 85 S) (fun M => pX 220 0 [.ref 67] [] M 85 S) := by
  intro g d σ τ R
  have h := R.2.2.2.2.2.2.1
  apply op_of
  · simp only [Nat.reduceAdd, i5_finding_0, i5_finding_1, i5_finding_4, h]; rfl
  · simp only [Nat.reduceAdd, i6_finding_0, i6_finding_1, i6_finding_4]; rfl
  · exact R
theorem op_upper : opL L xs S (fun M => pX 85 0 [.ref 0] [] M 85 S) (fun M => pX 213 0 [.ref 67] [] M 85 S) := by
  intro g d σ τ R
  have h := R.2.2.2.2.2.2.2.1
  refine ⟨τ 67 12, σ, τ, σ, τ, g, d, ?_, ?_, R⟩
  · simp only [Nat.reduceAdd, i5_upper_0, i5_upper_1, i5_upper_4, h]
  · simp only [Nat.reduceAdd, i6_upper_0, i6_upper_1, i6_upper_4]
theorem op_lower : opL L xs S (fun M => pX 86 0 [.ref 0] [] M 85 S) (fun M => pX 214 0 [.ref 67] [] M 85 S) := by
  intro g d σ τ R
  have h := R.2.2.2.2.2.2.2.2.1
  refine ⟨τ 67 13, σ, τ, σ, τ, g, d, ?_, ?_, R⟩
  · simp only [Nat.reduceAdd, i5_lower_0, i5_lower_1, i5_lower_4, h]
  · simp only [Nat.reduceAdd, i6_lower_0, i6_lower_1, i6_lower_4]
theorem op_findings {f : Int32} : opI L xs S (fun M => pX 89 0 [.ref 0, .int f] [] M 85 S) (fun M => pX 221 0 [.ref 67, .int f] [] M 85 S) := by
  intro g d σ τ R
  have h := R.2.2.2.2.2.2.2.2.2
  by_cases h1 : f < 1
  · apply op_of
    · simp only [Nat.reduceAdd, i5_findings_0, i5_findings_1, i5_findings_2, i5_findings_5, i5_findings_6, i5_findings_7, i5_findings_10, i5_findings_11, i5_findings_14, i5_findings_15, i5_findings_16, i5_findings_19, i5_findings_20, h1, if_true, if_false, not_true_eq_false, not_false_eq_true, true_or, or_true]; rfl
    · simp only [Nat.reduceAdd, i6_findings_0, i6_findings_1, i6_findings_2, i6_findings_3, i6_findings_6, i6_findings_9, i6_findings_10, i6_findings_13, i6_findings_14, i6_findings_15, i6_findings_18, i6_findings_19, s6_in, pK_i, bi_0, h1, if_true, if_false, not_true_eq_false, not_false_eq_true, true_or, or_true, false_and]; rfl
    · exact R
  · by_cases h2 : 5 < f
    · apply op_of
      · simp only [Nat.reduceAdd, i5_findings_0, i5_findings_1, i5_findings_2, i5_findings_5, i5_findings_6, i5_findings_7, i5_findings_10, i5_findings_11, i5_findings_14, i5_findings_15, i5_findings_16, i5_findings_19, i5_findings_20, h1, h2, if_true, if_false, not_true_eq_false, not_false_eq_true, true_or, or_true]; rfl
      · simp only [Nat.reduceAdd, i6_findings_0, i6_findings_1, i6_findings_2, i6_findings_3, i6_findings_6, i6_findings_9, i6_findings_10, i6_findings_13, i6_findings_14, i6_findings_15, i6_findings_18, i6_findings_19, s6_in, pK_i, bi_0, h1, h2, if_true, if_false, not_true_eq_false, not_false_eq_true, true_or, or_true, and_false]; rfl
      · exact R
    · obtain ⟨j, hj, rfl⟩ : ∃ j, j < 6 ∧ f = nI j := inb_of ((inb_iff2 (n := 5) (m := 5) rfl (by decide)).mpr ⟨by
        rw [Int32.lt_iff_toInt_lt] at h1 ⊢
        have a : (1 : Int32).toInt = 1 := rfl
        have b : (0 : Int32).toInt = 0 := rfl
        omega, h2⟩) (by decide)
      apply op_of
      · simp only [Nat.reduceAdd, i5_findings_0, i5_findings_1, i5_findings_2, i5_findings_5, i5_findings_6, i5_findings_7, i5_findings_10, i5_findings_11, i5_findings_14, i5_findings_15, i5_findings_16, i5_findings_19, i5_findings_20, h1, h2, if_true, if_false, not_true_eq_false, not_false_eq_true, true_or, or_true, k_22, l_22, ifb_i hj (by decide), cl (show j ≤ 5000 by omega), h j hj]; rfl
      · simp only [Nat.reduceAdd, i6_findings_0, i6_findings_1, i6_findings_2, i6_findings_3, i6_findings_6, i6_findings_9, i6_findings_10, i6_findings_13, i6_findings_14, i6_findings_15, i6_findings_18, i6_findings_19, s6_in, pK_i, bi_0, h1, h2, if_true, if_false, not_true_eq_false, not_false_eq_true, true_or, or_true, and_self, k_77, l_77, ifb_i hj (by decide), cl (show j ≤ 5000 by omega)]; rfl
      · exact R
theorem s0_isThere (hk : isK 0 m) (hs : stand (m + 1)) (hg : σ (m + 1) 3 = nI g) (hg6 : g ≤ 6) : pX 1 0 [.ref m] [] (mm L xs σ τ) 85 S = some (some (.int (bi (0 < g))), mm L xs σ τ, 85, S) := by
  by_cases h : 0 < g
  · have q : (0 : Int32) < nI g := nI_lt (a := 0) h (by omega)
    rw [bi_t h]
    simp only [Nat.reduceAdd, i0_isThere_0, i0_isThere_1, i0_isThere_4, i0_isThere_7, i0_isThere_10, i0_isThere_11, i0_isThere_14, i0_isThere_15, hk, st_k hs, hg, q, if_true, if_false, not_true_eq_false, not_false_eq_true, true_or, or_true]
  · have q : ¬ (0 : Int32) < nI g := nI_nlt (a := 0) (by omega) (by omega)
    rw [bi_f h]
    simp only [Nat.reduceAdd, i0_isThere_0, i0_isThere_1, i0_isThere_4, i0_isThere_7, i0_isThere_10, i0_isThere_11, i0_isThere_14, i0_isThere_15, hk, st_k hs, hg, q, if_true, if_false, not_true_eq_false, not_false_eq_true, true_or, or_true]
theorem s3_isThere (r : qN g m σ) : pX 1 0 [.ref 3] [] (mm L xs σ τ) 85 S = some (some (.int (bi (0 < g))), mm L xs σ τ, 85, S) := s0_isThere k_3 a_4 r.2.1 r.1
theorem gN0 (hg6 : g ≤ 6) : (nI g = 0) = ¬ 0 < g := by
  by_cases h : 0 < g
  · exact propext ⟨fun e => absurd e (nI_ne0 h (by omega)), fun e => absurd h e⟩
  · have : g = 0 := by omega
    subst this
    exact propext ⟨fun _ => h, fun _ => nI_0⟩
theorem h4_hasGate (r : qN g m σ) {i : Int32} : pX 32 0 [.ref 4, .int i] [] (mm L xs σ τ) 85 S = some (some (.int (bi (inb i g))), mm L xs σ τ, 85, S) := s4_hasGate a_4 r.2.1 r.1
theorem h4_hasBasin (r : qN g m σ) (h : 0 < g) {i : Int32} : pX 33 0 [.ref 4, .int i] [] (mm L xs σ τ) 85 S = some (some (.int (bi (inb i (g + 1)))), mm L xs σ τ, 85, S) := by
  have e := s4_hasBasin (L := L) (xs := xs) (τ := τ) (S := S) a_4 r.2.1 r.1 (b := i)
  unfold bs at e
  rw [if_neg (by omega)] at e
  exact e
theorem op_basin {b : Int32} : opI L xs S (fun M => pX 58 0 [.ref 0, .int b] [] M 85 S) (fun M => pX 166 0 [.ref 67, .int b] [] M 85 S) := by
  intro g d σ τ R
  have hg6 := R.1.1
  by_cases h : 0 < g
  · by_cases hb : inb b (g + 1)
    · obtain ⟨j, hj, rfl⟩ := inb_of hb (by omega)
      have hl := (qN_w R.1 j (by omega)).1
      apply op_of
      · simp only [Nat.reduceAdd, i5_basin_0, i5_basin_1, i5_basin_4, i5_basin_7, i5_basin_10, i5_basin_12, i5_basin_13, i5_basin_14, i5_basin_17, i5_basin_20, i5_basin_21, i5_basin_24, i5_basin_27, i5_basin_28, i5_basin_29, i5_basin_32, i5_basin_35, i5_basin_38, i5_basin_39, i5_basin_40, i5_basin_43, i5_basin_46, i5_basin_47, s3_isThere R.1, h4_hasBasin R.1 h, s5_tell, pK_i, bi_0, h, hb, if_true, if_false, not_true_eq_false, not_false_eq_true, true_or, or_true, k_3, k_4, k_7, l_7, ifb_i (show j < 7 by omega) (by decide), cl (show j ≤ 5000 by omega), hl]; rfl
      · simp only [Nat.reduceAdd, i6_basin_0, i6_basin_1, i6_basin_4, i6_basin_7, i6_basin_9, i6_basin_10, i6_basin_11, i6_basin_12, i6_basin_15, i6_basin_18, i6_basin_19, i6_basin_20, i6_basin_23, i6_basin_24, i6_basin_25, i6_basin_26, i6_basin_27, i6_basin_30, i6_basin_33, i6_basin_34, s6_isBasin (show (va_up σ 0 (upd (σ 0) 10 (σ 74 j))) 67 4 = nI g from R.1.2.2.1) hg6, s6_tells, pK_i, bi_0, vn (show 67 ≠ 0 by decide), vn (show 74 ≠ 0 by decide), R.1.2.2.1, gN0 hg6, h, hb, if_true, if_false, not_true_eq_false, not_false_eq_true, true_or, or_true, k_74, l_74, Int32.zero_add, ifb_i (show j < 9 by omega) (by decide), cl (show j ≤ 5000 by omega)]; rfl
      · exact Rel_t R _
    · apply op_of
      · simp only [Nat.reduceAdd, i5_basin_0, i5_basin_1, i5_basin_4, i5_basin_7, i5_basin_10, i5_basin_12, i5_basin_13, i5_basin_14, i5_basin_17, i5_basin_20, i5_basin_21, i5_basin_24, i5_basin_27, i5_basin_28, i5_basin_29, i5_basin_32, i5_basin_35, i5_basin_38, i5_basin_39, i5_basin_40, i5_basin_43, i5_basin_46, i5_basin_47, s3_isThere R.1, h4_hasBasin R.1 h, pK_i, bi_0, h, hb, if_true, if_false, not_true_eq_false, not_false_eq_true, true_or, or_true, k_3, k_4]; rfl
      · simp only [Nat.reduceAdd, i6_basin_0, i6_basin_1, i6_basin_4, i6_basin_7, i6_basin_9, i6_basin_10, i6_basin_11, i6_basin_12, i6_basin_15, i6_basin_18, i6_basin_19, i6_basin_20, i6_basin_23, i6_basin_24, i6_basin_25, i6_basin_26, i6_basin_27, i6_basin_30, i6_basin_33, i6_basin_34, s6_isBasin R.1.2.2.1 hg6, pK_i, bi_0, R.1.2.2.1, gN0 hg6, h, hb, if_true, if_false, not_true_eq_false, not_false_eq_true, true_or, or_true]; rfl
      · exact R
  · apply op_of
    · simp only [Nat.reduceAdd, i5_basin_0, i5_basin_1, i5_basin_4, i5_basin_7, i5_basin_10, i5_basin_12, i5_basin_13, i5_basin_14, i5_basin_17, i5_basin_20, i5_basin_21, i5_basin_24, i5_basin_27, i5_basin_28, i5_basin_29, i5_basin_32, i5_basin_35, i5_basin_38, i5_basin_39, i5_basin_40, i5_basin_43, i5_basin_46, i5_basin_47, s3_isThere R.1, k_3, k_4, pK_i, bi_0, h, if_true, if_false, not_true_eq_false, not_false_eq_true, true_or, or_true]; rfl
    · simp only [Nat.reduceAdd, i6_basin_0, i6_basin_1, i6_basin_4, i6_basin_7, i6_basin_9, i6_basin_10, i6_basin_11, i6_basin_12, i6_basin_15, i6_basin_18, i6_basin_19, i6_basin_20, i6_basin_23, i6_basin_24, i6_basin_25, i6_basin_26, i6_basin_27, i6_basin_30, i6_basin_33, i6_basin_34, R.1.2.2.1, gN0 hg6, h, if_true, if_false, not_true_eq_false, not_false_eq_true, true_or, or_true]; rfl
    · exact R
theorem s5_gateFact {j : Nat} (hj : j < 6) {x : Int32} : pX 99 0 [.ref 0, .int (nI j), .int x, .null] [] (mm L xs σ τ) 85 S = some (some (.int (gfv (σ 5 j) (σ 6 j) (isop (σ 5) (σ 4 4) j) (flC (σ 5 j) (σ 6 j) (σ 7 j) (σ 7 (j + 1)) (σ 4 5)) x)), mm L xs σ τ, 85, S) := by
  have hS : ∀ {α : Type} {a b : α}, ifb (nI j) 6 a b = a := ifb_i hj (by decide)
  have hC := cl (show j ≤ 5000 by omega)
  have ho := s4_isOpen (L := L) (xs := xs) (σ := σ) (τ := τ) (S := S) a_4 hj
  have hf := s4_flowNow (L := L) (xs := xs) (σ := σ) (τ := τ) (S := S) a_4 hj
  simp only [Nat.reduceAdd] at ho hf
  unfold gfv
  by_cases h0 : x = 0
  · simp only [Nat.reduceAdd, i5_gateFact_0, i5_gateFact_1, i5_gateFact_4, i5_gateFact_7, i5_gateFact_8, i5_gateFact_9, i5_gateFact_36, i5_gateFact_37, i5_gateFact_40, i5_gateFact_41, i5_gateFact_42, i5_gateFact_43, i5_gateFact_44, i5_gateFact_47, i5_gateFact_48, i5_gateFact_49, i5_gateFact_50, i5_gateFact_51, i5_gateFact_52, i5_gateFact_55, i5_gateFact_58, i5_gateFact_59, i5_gateFact_62, i5_gateFact_63, i5_gateFact_64, i5_gateFact_65, i5_gateFact_66, i5_gateFact_69, i5_gateFact_72, i5_gateFact_73, i5_gateFact_74, i5_gateFact_77, i5_gateFact_80, i5_gateFact_81, k_3, k_4, k_5, l_5, hS, hC, h0, if_true]
  · by_cases h1 : x = 1
    · simp only [Nat.reduceAdd, i5_gateFact_0, i5_gateFact_1, i5_gateFact_4, i5_gateFact_7, i5_gateFact_8, i5_gateFact_9, i5_gateFact_36, i5_gateFact_37, i5_gateFact_40, i5_gateFact_41, i5_gateFact_42, i5_gateFact_43, i5_gateFact_44, i5_gateFact_47, i5_gateFact_48, i5_gateFact_49, i5_gateFact_50, i5_gateFact_51, i5_gateFact_52, i5_gateFact_55, i5_gateFact_58, i5_gateFact_59, i5_gateFact_62, i5_gateFact_63, i5_gateFact_64, i5_gateFact_65, i5_gateFact_66, i5_gateFact_69, i5_gateFact_72, i5_gateFact_73, i5_gateFact_74, i5_gateFact_77, i5_gateFact_80, i5_gateFact_81, k_3, k_4, k_6, l_6, hS, hC, h1, n10, if_true, if_false]
    · by_cases h2 : x = 2
      · by_cases hop : isop (σ 5) (σ 4 4) j
        · simp only [Nat.reduceAdd, i5_gateFact_0, i5_gateFact_1, i5_gateFact_4, i5_gateFact_7, i5_gateFact_8, i5_gateFact_9, i5_gateFact_36, i5_gateFact_37, i5_gateFact_40, i5_gateFact_41, i5_gateFact_42, i5_gateFact_43, i5_gateFact_44, i5_gateFact_47, i5_gateFact_48, i5_gateFact_49, i5_gateFact_50, i5_gateFact_51, i5_gateFact_52, i5_gateFact_55, i5_gateFact_58, i5_gateFact_59, i5_gateFact_62, i5_gateFact_63, i5_gateFact_64, i5_gateFact_65, i5_gateFact_66, i5_gateFact_69, i5_gateFact_72, i5_gateFact_73, i5_gateFact_74, i5_gateFact_77, i5_gateFact_80, i5_gateFact_81, k_3, k_4, ho, pK_i, bi_0, hop, h2, n20, n21, if_true, if_false, not_true_eq_false, not_false_eq_true, true_or, or_true]
        · simp only [Nat.reduceAdd, i5_gateFact_0, i5_gateFact_1, i5_gateFact_4, i5_gateFact_7, i5_gateFact_8, i5_gateFact_9, i5_gateFact_36, i5_gateFact_37, i5_gateFact_40, i5_gateFact_41, i5_gateFact_42, i5_gateFact_43, i5_gateFact_44, i5_gateFact_47, i5_gateFact_48, i5_gateFact_49, i5_gateFact_50, i5_gateFact_51, i5_gateFact_52, i5_gateFact_55, i5_gateFact_58, i5_gateFact_59, i5_gateFact_62, i5_gateFact_63, i5_gateFact_64, i5_gateFact_65, i5_gateFact_66, i5_gateFact_69, i5_gateFact_72, i5_gateFact_73, i5_gateFact_74, i5_gateFact_77, i5_gateFact_80, i5_gateFact_81, k_3, k_4, ho, pK_i, bi_0, hop, h2, n20, n21, if_true, if_false, not_true_eq_false, not_false_eq_true, true_or, or_true]
      · by_cases hop : isop (σ 5) (σ 4 4) j
        · simp only [Nat.reduceAdd, i5_gateFact_0, i5_gateFact_1, i5_gateFact_4, i5_gateFact_7, i5_gateFact_8, i5_gateFact_9, i5_gateFact_36, i5_gateFact_37, i5_gateFact_40, i5_gateFact_41, i5_gateFact_42, i5_gateFact_43, i5_gateFact_44, i5_gateFact_47, i5_gateFact_48, i5_gateFact_49, i5_gateFact_50, i5_gateFact_51, i5_gateFact_52, i5_gateFact_55, i5_gateFact_58, i5_gateFact_59, i5_gateFact_62, i5_gateFact_63, i5_gateFact_64, i5_gateFact_65, i5_gateFact_66, i5_gateFact_69, i5_gateFact_72, i5_gateFact_73, i5_gateFact_74, i5_gateFact_77, i5_gateFact_80, i5_gateFact_81, k_3, k_4, ho, hf, pK_i, bi_0, hop, h0, h1, h2, if_true, if_false, not_true_eq_false, not_false_eq_true, true_or, or_true]
        · simp only [Nat.reduceAdd, i5_gateFact_0, i5_gateFact_1, i5_gateFact_4, i5_gateFact_7, i5_gateFact_8, i5_gateFact_9, i5_gateFact_36, i5_gateFact_37, i5_gateFact_40, i5_gateFact_41, i5_gateFact_42, i5_gateFact_43, i5_gateFact_44, i5_gateFact_47, i5_gateFact_48, i5_gateFact_49, i5_gateFact_50, i5_gateFact_51, i5_gateFact_52, i5_gateFact_55, i5_gateFact_58, i5_gateFact_59, i5_gateFact_62, i5_gateFact_63, i5_gateFact_64, i5_gateFact_65, i5_gateFact_66, i5_gateFact_69, i5_gateFact_72, i5_gateFact_73, i5_gateFact_74, i5_gateFact_77, i5_gateFact_80, i5_gateFact_81, k_3, k_4, ho, hf, pK_i, bi_0, hop, h0, h1, h2, if_true, if_false, not_true_eq_false, not_false_eq_true, true_or, or_true]
theorem gf_eq (r : qN g m σ) {j : Nat} (hj : j < g) {x : Int32} : gfv (σ 5 j) (σ 6 j) (isop (σ 5) (σ 4 4) j) (flC (σ 5 j) (σ 6 j) (σ 7 j) (σ 7 (j + 1)) (σ 4 5)) x = gfv (σ 72 j) (σ 73 j) (isop (σ 72) (σ 74 7) j) (flR (σ 72 j) (σ 73 j) (σ 74 j) (σ 74 (j + 1)) (σ 74 8)) x := by
  obtain ⟨k1, k2, k3, k4⟩ := r.2.2.2.1 j hj
  obtain ⟨b1, b2⟩ := qN_w r j (by omega)
  obtain ⟨c1, c2⟩ := qN_w r (j + 1) (by omega)
  obtain ⟨k, _, e7, e7'⟩ := r.2.2.2.2.1.2.1
  obtain ⟨v, _, e8, e8'⟩ := r.2.2.2.2.1.2.2
  have hop : isop (σ 72) (σ 74 7) j = isop (σ 5) (σ 4 4) j := by unfold isop; rw [k1, e7, e7']
  rw [hop, ← k1, ← k2, ← b1, ← c1, e8', ← e8, (flow_eq k3 k4 b2 c2).1]
theorem op_gate {i x : Int32} : opI L xs S (fun M => pX 59 0 [.ref 0, .int i, .int x] [] M 85 S) (fun M => pX 168 0 [.ref 67, .int i, .int x] [] M 85 S) := by
  intro g d σ τ R
  have hg6 := R.1.1
  have hin : (3 < x) = ¬ (x < 4) := by
    apply propext
    rw [Int32.lt_iff_toInt_lt, Int32.lt_iff_toInt_lt]
    have a : (3 : Int32).toInt = 3 := rfl
    have b : (4 : Int32).toInt = 4 := rfl
    omega
  by_cases hi : inb i g
  · obtain ⟨j, hj, rfl⟩ := inb_of hi (by omega)
    by_cases h1 : x < 0
    · apply op_of
      · simp only [Nat.reduceAdd, i5_gate_0, i5_gate_1, i5_gate_4, i5_gate_7, i5_gate_8, i5_gate_11, i5_gate_14, i5_gate_15, i5_gate_18, i5_gate_19, i5_gate_20, i5_gate_23, i5_gate_24, i5_gate_25, i5_gate_26, i5_gate_27, i5_gate_28, i5_gate_29, i5_gate_32, i5_gate_35, h4_hasGate R.1, k_3, k_4, pK_i, bi_0, hi, h1, if_true, if_false, not_true_eq_false, not_false_eq_true, true_or, or_true]; rfl
      · simp only [Nat.reduceAdd, i6_gate_0, i6_gate_1, i6_gate_2, i6_gate_5, i6_gate_8, i6_gate_9, i6_gate_10, i6_gate_11, i6_gate_14, i6_gate_17, i6_gate_18, i6_gate_19, i6_gate_20, i6_gate_21, i6_gate_24, i6_gate_27, i6_gate_30, i6_gate_31, s6_isGate R.1.2.2.1 hg6, s6_in, pK_i, bi_0, hi, h1, if_true, if_false, not_true_eq_false, not_false_eq_true, true_or, or_true, false_and]; rfl
      · exact R
    · by_cases h2 : x < 4
      · apply op_of
        · simp only [Nat.reduceAdd, i5_gate_0, i5_gate_1, i5_gate_4, i5_gate_7, i5_gate_8, i5_gate_11, i5_gate_14, i5_gate_15, i5_gate_18, i5_gate_19, i5_gate_20, i5_gate_23, i5_gate_24, i5_gate_25, i5_gate_26, i5_gate_27, i5_gate_28, i5_gate_29, i5_gate_32, i5_gate_35, h4_hasGate R.1, s5_gateFact (show j < 6 by omega), gf_eq R.1 hj, s5_tell, k_3, k_4, pK_i, bi_0, hi, h1, h2, if_true, if_false, not_true_eq_false, not_false_eq_true, true_or, or_true]; rfl
        · have hg' : (va_up σ 0 (upd (σ 0) 10 (gfv (σ 72 j) (σ 73 j) (isop (σ 72) (σ 74 7) j) (flR (σ 72 j) (σ 73 j) (σ 74 j) (σ 74 (j + 1)) (σ 74 8)) x))) 67 4 = nI g := R.1.2.2.1
          have hk' : kd6 ((va_up σ 0 (upd (σ 0) 10 (gfv (σ 72 j) (σ 73 j) (isop (σ 72) (σ 74 7) j) (flR (σ 72 j) (σ 73 j) (σ 74 j) (σ 74 (j + 1)) (σ 74 8)) x))) 72 j) := qN_kd R.1 j hj
          simp only [Nat.reduceAdd, i6_gate_0, i6_gate_1, i6_gate_2, i6_gate_5, i6_gate_8, i6_gate_9, i6_gate_10, i6_gate_11, i6_gate_14, i6_gate_17, i6_gate_18, i6_gate_19, i6_gate_20, i6_gate_21, i6_gate_24, i6_gate_27, i6_gate_30, i6_gate_31, s6_isGate hg' hg6, s6_in, hin, s6_ofGate (show j < 6 by omega) hk', s6_tells, pK_i, bi_0, hi, h1, h2, vn (show 72 ≠ 0 by decide), vn (show 73 ≠ 0 by decide), vn (show 74 ≠ 0 by decide), vn (show 67 ≠ 0 by decide), if_true, if_false, not_true_eq_false, not_false_eq_true, true_or, or_true, and_self]; rfl
        · exact Rel_t R _
      · apply op_of
        · simp only [Nat.reduceAdd, i5_gate_0, i5_gate_1, i5_gate_4, i5_gate_7, i5_gate_8, i5_gate_11, i5_gate_14, i5_gate_15, i5_gate_18, i5_gate_19, i5_gate_20, i5_gate_23, i5_gate_24, i5_gate_25, i5_gate_26, i5_gate_27, i5_gate_28, i5_gate_29, i5_gate_32, i5_gate_35, h4_hasGate R.1, k_3, k_4, pK_i, bi_0, hi, h1, h2, if_true, if_false, not_true_eq_false, not_false_eq_true, true_or, or_true]; rfl
        · simp only [Nat.reduceAdd, i6_gate_0, i6_gate_1, i6_gate_2, i6_gate_5, i6_gate_8, i6_gate_9, i6_gate_10, i6_gate_11, i6_gate_14, i6_gate_17, i6_gate_18, i6_gate_19, i6_gate_20, i6_gate_21, i6_gate_24, i6_gate_27, i6_gate_30, i6_gate_31, s6_isGate R.1.2.2.1 hg6, s6_in, hin, pK_i, bi_0, hi, h1, h2, if_true, if_false, not_true_eq_false, not_false_eq_true, true_or, or_true, and_false]; rfl
        · exact R
  · apply op_of
    · simp only [Nat.reduceAdd, i5_gate_0, i5_gate_1, i5_gate_4, i5_gate_7, i5_gate_8, i5_gate_11, i5_gate_14, i5_gate_15, i5_gate_18, i5_gate_19, i5_gate_20, i5_gate_23, i5_gate_24, i5_gate_25, i5_gate_26, i5_gate_27, i5_gate_28, i5_gate_29, i5_gate_32, i5_gate_35, h4_hasGate R.1, k_3, k_4, pK_i, bi_0, hi, if_true, if_false, not_true_eq_false, not_false_eq_true, true_or, or_true]; rfl
    · simp only [Nat.reduceAdd, i6_gate_0, i6_gate_1, i6_gate_2, i6_gate_5, i6_gate_8, i6_gate_9, i6_gate_10, i6_gate_11, i6_gate_14, i6_gate_17, i6_gate_18, i6_gate_19, i6_gate_20, i6_gate_21, i6_gate_24, i6_gate_27, i6_gate_30, i6_gate_31, s6_isGate R.1.2.2.1 hg6, pK_i, bi_0, hi, if_true, if_false, not_true_eq_false, not_false_eq_true, true_or, or_true]; rfl
    · exact R
theorem op_flows {i a b n : Int32} : opI L xs S (fun M => pX 68 0 [.ref 0, .int i, .int a, .int b, .int n, .null] [] M 85 S) (fun M => pX 181 0 [.ref 67, .int i, .int a, .int b, .int n] [] M 85 S) := by
  intro g d σ τ R
  have hg6 := R.1.1
  have h61 : ∀ x : Int32, (¬ x < 0 ∧ ¬ 60 < x) = inb x 61 := fun x => propext (inb_iff2 (n := 60) rfl (by decide)).symm
  have h99 : (¬ n < 0 ∧ ¬ 99 < n) = inb n 100 := propext (inb_iff2 (n := 99) rfl (by decide)).symm
  have h99' : inb n 100 = (¬ n < 0 ∧ ¬ 99 < n) := h99.symm
  by_cases hi : inb i g <;> by_cases ha : inb a 61 <;> by_cases hb : inb b 61 <;> by_cases n1 : n < 0 <;> by_cases n2 : 99 < n
  all_goals first
    | (exfalso; rw [Int32.lt_iff_toInt_lt] at n1 n2; have a : (99 : Int32).toInt = 99 := rfl; have b : (0 : Int32).toInt = 0 := rfl; omega)
    | (apply op_of
       · simp only [Nat.reduceAdd, i5_flows_0, i5_flows_1, i5_flows_4, i5_flows_7, i5_flows_8, i5_flows_11, i5_flows_14, i5_flows_16, i5_flows_19, i5_flows_21, i5_flows_23, i5_flows_26, i5_flows_27, i5_flows_30, i5_flows_31, i5_flows_33, i5_flows_34, i5_flows_37, i5_flows_40, i5_flows_41, i5_flows_44, i5_flows_47, i5_flows_49, i5_flows_52, i5_flows_53, i5_flows_54, i5_flows_55, i5_flows_58, i5_flows_61, i5_flows_64, i5_flows_65, i5_flows_66, i5_flows_67, i5_flows_70, i5_flows_73, i5_flows_76, i5_flows_77, i5_flows_78, i5_flows_79, i5_flows_80, i5_flows_82, i5_flows_85, h4_hasGate R.1, s5_isLevel, k_3, k_4, pK_i, bi_0, hi, ha, hb, n1, n2, if_true, if_false, not_true_eq_false, not_false_eq_true, true_or, or_true]; rfl
       · simp only [Nat.reduceAdd, i6_flows_0, i6_flows_1, i6_flows_2, i6_flows_5, i6_flows_8, i6_flows_9, i6_flows_10, i6_flows_12, i6_flows_15, i6_flows_18, i6_flows_19, i6_flows_20, i6_flows_22, i6_flows_25, i6_flows_28, i6_flows_30, i6_flows_31, i6_flows_33, i6_flows_36, i6_flows_39, i6_flows_40, i6_flows_41, i6_flows_42, i6_flows_45, i6_flows_46, i6_flows_47, i6_flows_48, i6_flows_51, i6_flows_52, i6_flows_53, i6_flows_54, i6_flows_55, i6_flows_57, i6_flows_60, s6_isGate R.1.2.2.1 hg6, s6_in, h61, pK_i, bi_0, hi, ha, hb, n1, n2, if_true, if_false, not_true_eq_false, not_false_eq_true, true_or, or_true, false_and, and_false]; rfl
       · exact R)
    | (obtain ⟨j, hj, rfl⟩ := inb_of hi (by omega)
       obtain ⟨k1, k2, k3, k4⟩ := R.1.2.2.2.1 j hj
       have f := (flow_eq (n := n) k3 k4 ha hb).1
       rw [k1, k2] at f
       have k3' := k3
       rw [k1] at k3'
       apply op_of
       · simp only [Nat.reduceAdd, i5_flows_0, i5_flows_1, i5_flows_4, i5_flows_7, i5_flows_8, i5_flows_11, i5_flows_14, i5_flows_16, i5_flows_19, i5_flows_21, i5_flows_23, i5_flows_26, i5_flows_27, i5_flows_30, i5_flows_31, i5_flows_33, i5_flows_34, i5_flows_37, i5_flows_40, i5_flows_41, i5_flows_44, i5_flows_47, i5_flows_49, i5_flows_52, i5_flows_53, i5_flows_54, i5_flows_55, i5_flows_58, i5_flows_61, i5_flows_64, i5_flows_65, i5_flows_66, i5_flows_67, i5_flows_70, i5_flows_73, i5_flows_76, i5_flows_77, i5_flows_78, i5_flows_79, i5_flows_80, i5_flows_82, i5_flows_85, h4_hasGate R.1, s5_isLevel, k_3, k_4, k_5, l_5, k_6, l_6, ifb_i (show j < 6 by omega) (by decide), cl (show j ≤ 5000 by omega), s5_flowOf, pK_i, bi_0, hi, ha, hb, n1, n2, if_true, if_false, not_true_eq_false, not_false_eq_true, true_or, or_true, n10, k1, k2, ← f]; rfl
       · simp only [Nat.reduceAdd, i6_flows_0, i6_flows_1, i6_flows_2, i6_flows_5, i6_flows_8, i6_flows_9, i6_flows_10, i6_flows_12, i6_flows_15, i6_flows_18, i6_flows_19, i6_flows_20, i6_flows_22, i6_flows_25, i6_flows_28, i6_flows_30, i6_flows_31, i6_flows_33, i6_flows_36, i6_flows_39, i6_flows_40, i6_flows_41, i6_flows_42, i6_flows_45, i6_flows_46, i6_flows_47, i6_flows_48, i6_flows_51, i6_flows_52, i6_flows_53, i6_flows_54, i6_flows_55, i6_flows_57, i6_flows_60, s6_isGate R.1.2.2.1 hg6, s6_in, h61, k_72, l_72, k_73, l_73, ifb_i (show j < 6 by omega) (by decide), cl (show j ≤ 5000 by omega), s6_flowBy k3', pK_i, bi_0, hi, ha, hb, n1, n2, if_true, if_false, not_true_eq_false, not_false_eq_true, true_or, or_true, and_self]; rfl
       · exact R)
end OS
