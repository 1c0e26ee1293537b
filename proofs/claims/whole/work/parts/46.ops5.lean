/-! THE CALLS, going on: wind, rain, draw -/
theorem ch_rc {g m j : Nat} {n : Int32} {σ : Nat → Nat → Int32} (r : qN g m σ) (hj : j ≤ g) (q1 : imx 0 (imn 60 (σ 7 j + n)) = cha (σ 7 j) n) (q2 : inb (imx 0 (imn 60 (σ 7 j + n))) 61) : rc g (upd (σ 7) j (imx 0 (imn 60 (σ 7 j + n)))) (σ 4 4) (σ 4 5) (upd (σ 74) j (cha (σ 74 j) n)) (m + 1) := by
  have hg6 := r.1
  obtain ⟨r1, r2, ⟨v, hv, e8, e8'⟩⟩ := r.2.2.2.2.1
  refine ⟨fun b hb => ?_, ?_, ⟨v, by omega, e8, by rw [un (by omega)]; exact e8'⟩⟩
  · by_cases e : b = j
    · subst e
      rw [us, us, ← (r1 b hb).1]
      exact ⟨q1, q2⟩
    · rw [un e, un e]; exact r1 b hb
  · rw [un (by omega)]; exact r2
theorem flp_rc {g m j : Nat} {σ : Nat → Nat → Int32} (r : qN g m σ) (hj : j < g) : rc g (σ 7) (σ 4 4 ^^^ sh j) (σ 4 5) (upd (σ 74) 7 (σ 74 7 ^^^ sh j)) (m + 1) := by
  have hg6 := r.1
  obtain ⟨r1, ⟨o, ho, e7, e7'⟩, ⟨v, hv, e8, e8'⟩⟩ := r.2.2.2.2.1
  refine ⟨fun b hb => ?_, ?_, ⟨v, by omega, e8, by rw [un (by omega)]; exact e8'⟩⟩
  · rw [un (by omega)]; exact r1 b hb
  · obtain ⟨k, hk, e⟩ := flp_rg hg6 ho hj
    refine ⟨k, hk, ?_, ?_⟩
    · rw [e7]; exact e
    · rw [us, e7']; exact e
section DF
variable {L : Nat} {xs : Nat → Int32} {σ : Nat → Nat → Int32} {τ : Nat → Nat → Int64} {S g d m : Nat}
theorem t4_change {j : Nat} {n : Int32} (hj : j < 7) : pX 43 0 [.ref 4, .int (nI j), .int n] [] (mm L xs σ τ) 85 S = some (none, mm L xs (chC σ j n) τ, 85, S) := s4_change a_4 hj
theorem t6_comes {j : Nat} {n : Int32} (hj : j < 9) : pX 174 0 [.ref 67, .int (nI j), .int n, .null] [] (mm L xs σ τ) 85 S = some (none, mm L xs (chR σ j n) τ, 85, S) := s6_comes hj
theorem op_rain {b n : Int32} : opI L xs S (fun M => pX 63 0 [.ref 0, .int b, .int n] [] M 85 S) (fun M => pX 175 0 [.ref 67, .int b, .int n] [] M 85 S) := by
  intro g d σ τ R
  have hg6 := R.1.1
  obtain ⟨d40', hd3, hd67, _⟩ := R.2.1
  by_cases h : 0 < g
  · by_cases hb : inb b (g + 1)
    · by_cases n1 : n < 1
      · apply op_of
        · simp only [Nat.reduceAdd, i5_rain_0, i5_rain_1, i5_rain_2, i5_rain_3, i5_rain_4, i5_rain_6, i5_rain_9, i5_changeLevel_0, i5_changeLevel_1, i5_changeLevel_4, i5_changeLevel_7, i5_changeLevel_10, i5_changeLevel_12, i5_changeLevel_13, i5_changeLevel_14, i5_changeLevel_17, i5_changeLevel_20, i5_changeLevel_21, i5_changeLevel_24, i5_changeLevel_27, i5_changeLevel_28, i5_changeLevel_29, i5_changeLevel_32, i5_changeLevel_33, i5_changeLevel_35, i5_changeLevel_38, i5_changeLevel_39, i5_changeLevel_40, i5_changeLevel_41, i5_changeLevel_44, i5_changeLevel_47, i5_changeLevel_50, i5_changeLevel_51, i5_changeLevel_52, i5_changeLevel_54, i5_changeLevel_57, i5_changeLevel_59, i5_changeLevel_60, i5_changeLevel_61, i5_changeLevel_64, i5_changeLevel_65, i5_changeLevel_68, i5_changeLevel_71, i5_changeLevel_73, i5_changeLevel_74, i5_changeLevel_75, i5_changeLevel_78, i5_changeLevel_81, i5_changeLevel_82, i5_changeLevel_85, i5_changeLevel_88, i5_changeLevel_89, i5_changeLevel_90, i5_changeLevel_93, i5_changeLevel_94, i5_changeLevel_97, i5_changeLevel_100, i5_changeLevel_103, i5_changeLevel_104, i5_changeLevel_105, s3_isThere R.1, h4_hasBasin R.1 h, k_3, k_4, pK_i, bi_0, h, hb, n1, if_true, if_false, not_true_eq_false, not_false_eq_true, true_or, or_true]; rfl
        · simp only [Nat.reduceAdd, i6_rain_0, i6_rain_1, i6_rain_4, i6_rain_7, i6_rain_9, i6_rain_10, i6_rain_11, i6_rain_12, i6_rain_15, i6_rain_18, i6_rain_19, i6_rain_20, i6_rain_22, i6_rain_25, i6_rain_28, i6_rain_29, i6_rain_30, i6_rain_31, i6_rain_34, i6_rain_35, i6_rain_36, i6_rain_37, i6_rain_38, i6_rain_40, i6_rain_43, i6_rain_45, i6_rain_46, i6_rain_47, i6_rain_50, i6_rain_52, i6_rain_55, i6_rain_57, i6_rain_58, i6_rain_59, i6_rain_62, i6_rain_63, i6_rain_64, i6_rain_65, i6_rain_68, i6_rain_69, i6_rain_72, i6_rain_73, i6_rain_74, i6_rain_75, i6_rain_76, R.1.2.2.1, gN0 hg6, s6_isBasin R.1.2.2.1 hg6, s6_in, pK_i, bi_0, h, hb, n1, if_true, if_false, not_true_eq_false, not_false_eq_true, true_or, or_true, false_and]; rfl
        · exact R
      · by_cases n9 : 9 < n
        · apply op_of
          · simp only [Nat.reduceAdd, i5_rain_0, i5_rain_1, i5_rain_2, i5_rain_3, i5_rain_4, i5_rain_6, i5_rain_9, i5_changeLevel_0, i5_changeLevel_1, i5_changeLevel_4, i5_changeLevel_7, i5_changeLevel_10, i5_changeLevel_12, i5_changeLevel_13, i5_changeLevel_14, i5_changeLevel_17, i5_changeLevel_20, i5_changeLevel_21, i5_changeLevel_24, i5_changeLevel_27, i5_changeLevel_28, i5_changeLevel_29, i5_changeLevel_32, i5_changeLevel_33, i5_changeLevel_35, i5_changeLevel_38, i5_changeLevel_39, i5_changeLevel_40, i5_changeLevel_41, i5_changeLevel_44, i5_changeLevel_47, i5_changeLevel_50, i5_changeLevel_51, i5_changeLevel_52, i5_changeLevel_54, i5_changeLevel_57, i5_changeLevel_59, i5_changeLevel_60, i5_changeLevel_61, i5_changeLevel_64, i5_changeLevel_65, i5_changeLevel_68, i5_changeLevel_71, i5_changeLevel_73, i5_changeLevel_74, i5_changeLevel_75, i5_changeLevel_78, i5_changeLevel_81, i5_changeLevel_82, i5_changeLevel_85, i5_changeLevel_88, i5_changeLevel_89, i5_changeLevel_90, i5_changeLevel_93, i5_changeLevel_94, i5_changeLevel_97, i5_changeLevel_100, i5_changeLevel_103, i5_changeLevel_104, i5_changeLevel_105, s3_isThere R.1, h4_hasBasin R.1 h, k_3, k_4, pK_i, bi_0, h, hb, n1, n9, if_true, if_false, not_true_eq_false, not_false_eq_true, true_or, or_true]; rfl
          · simp only [Nat.reduceAdd, i6_rain_0, i6_rain_1, i6_rain_4, i6_rain_7, i6_rain_9, i6_rain_10, i6_rain_11, i6_rain_12, i6_rain_15, i6_rain_18, i6_rain_19, i6_rain_20, i6_rain_22, i6_rain_25, i6_rain_28, i6_rain_29, i6_rain_30, i6_rain_31, i6_rain_34, i6_rain_35, i6_rain_36, i6_rain_37, i6_rain_38, i6_rain_40, i6_rain_43, i6_rain_45, i6_rain_46, i6_rain_47, i6_rain_50, i6_rain_52, i6_rain_55, i6_rain_57, i6_rain_58, i6_rain_59, i6_rain_62, i6_rain_63, i6_rain_64, i6_rain_65, i6_rain_68, i6_rain_69, i6_rain_72, i6_rain_73, i6_rain_74, i6_rain_75, i6_rain_76, R.1.2.2.1, gN0 hg6, s6_isBasin R.1.2.2.1 hg6, s6_in, pK_i, bi_0, h, hb, n1, n9, if_true, if_false, not_true_eq_false, not_false_eq_true, true_or, or_true, and_false]; rfl
          · exact R
        · obtain ⟨j, hj, rfl⟩ := inb_of hb (by omega)
          obtain ⟨l1, l2⟩ := qN_w R.1 j (by omega)
          have i7' : ∀ {α : Type} {a b : α}, ifb (nI j) 7 a b = a := ifb_i (by omega) (by decide)
          have i9' : ∀ {α : Type} {a b : α}, ifb (nI j) 9 a b = a := ifb_i (by omega) (by decide)
          have hC := cl (show j ≤ 5000 by omega)
          have nr : 1 ≤ n.toInt ∧ n.toInt ≤ 9 := by
            rw [Int32.lt_iff_toInt_lt] at n1 n9
            have a : (1 : Int32).toInt = 1 := rfl
            have b : (9 : Int32).toInt = 9 := rfl
            omega
          have nn : (-n).toInt = -n.toInt := ti_neg (by omega) (by omega)
          obtain ⟨q1, q2⟩ := cha_eq (n := n) l2 (by omega) (by omega)
          by_cases he : σ 74 j = 60
          · apply op_of
            · simp only [Nat.reduceAdd, i5_rain_0, i5_rain_1, i5_rain_2, i5_rain_3, i5_rain_4, i5_rain_6, i5_rain_9, i5_changeLevel_0, i5_changeLevel_1, i5_changeLevel_4, i5_changeLevel_7, i5_changeLevel_10, i5_changeLevel_12, i5_changeLevel_13, i5_changeLevel_14, i5_changeLevel_17, i5_changeLevel_20, i5_changeLevel_21, i5_changeLevel_24, i5_changeLevel_27, i5_changeLevel_28, i5_changeLevel_29, i5_changeLevel_32, i5_changeLevel_33, i5_changeLevel_35, i5_changeLevel_38, i5_changeLevel_39, i5_changeLevel_40, i5_changeLevel_41, i5_changeLevel_44, i5_changeLevel_47, i5_changeLevel_50, i5_changeLevel_51, i5_changeLevel_52, i5_changeLevel_54, i5_changeLevel_57, i5_changeLevel_59, i5_changeLevel_60, i5_changeLevel_61, i5_changeLevel_64, i5_changeLevel_65, i5_changeLevel_68, i5_changeLevel_71, i5_changeLevel_73, i5_changeLevel_74, i5_changeLevel_75, i5_changeLevel_78, i5_changeLevel_81, i5_changeLevel_82, i5_changeLevel_85, i5_changeLevel_88, i5_changeLevel_89, i5_changeLevel_90, i5_changeLevel_93, i5_changeLevel_94, i5_changeLevel_97, i5_changeLevel_100, i5_changeLevel_103, i5_changeLevel_104, i5_changeLevel_105, s3_isThere R.1, h4_hasBasin R.1 h, k_3, k_4, k_7, l_7, i7', hC, pK_i, bi_0, h, hb, n1, n9, l1, he, if_true, if_false, not_true_eq_false, not_false_eq_true, true_or, or_true]; rfl
            · simp only [Nat.reduceAdd, i6_rain_0, i6_rain_1, i6_rain_4, i6_rain_7, i6_rain_9, i6_rain_10, i6_rain_11, i6_rain_12, i6_rain_15, i6_rain_18, i6_rain_19, i6_rain_20, i6_rain_22, i6_rain_25, i6_rain_28, i6_rain_29, i6_rain_30, i6_rain_31, i6_rain_34, i6_rain_35, i6_rain_36, i6_rain_37, i6_rain_38, i6_rain_40, i6_rain_43, i6_rain_45, i6_rain_46, i6_rain_47, i6_rain_50, i6_rain_52, i6_rain_55, i6_rain_57, i6_rain_58, i6_rain_59, i6_rain_62, i6_rain_63, i6_rain_64, i6_rain_65, i6_rain_68, i6_rain_69, i6_rain_72, i6_rain_73, i6_rain_74, i6_rain_75, i6_rain_76, R.1.2.2.1, gN0 hg6, s6_isBasin R.1.2.2.1 hg6, s6_in, k_74, l_74, i9', hC, Int32.zero_add, pK_i, bi_0, h, hb, n1, n9, he, if_true, if_false, not_true_eq_false, not_false_eq_true, true_or, or_true, and_self]; rfl
            · exact R
          · by_cases hd : d < 40
            · have f1 : (bdC σ d) 7 j = σ 7 j := by rw [bdC_n (by decide) (by decide)]
              have t := t4_change (L := L) (xs := xs) (σ := bdC σ d) (τ := τ) (S := S) (j := j) (n := n) (by omega)
              have f2 : (chC (bdC σ d) j n) 67 = σ 67 := by unfold chC bdC; simp (disch := omega) only [vn']
              have f3 : (chC (bdC σ d) j n) 74 = σ 74 := by unfold chC bdC; simp (disch := omega) only [vn']
              have f4 : (chC (bdC σ d) j n) 7 j = cha (σ 74 j) n := by unfold chC; rw [vs, us, f1, q1, l1]
              have f5 : (ntR (chC (bdC σ d) j n) d) 74 = σ 74 := by rw [ntR_n (by decide) (by decide)]; exact f3
              have g1 : (chC (bdC σ d) j n) 67 4 = nI g := by rw [f2]; exact R.1.2.2.1
              have g2 : (chC (bdC σ d) j n) 67 8 = nI d := by rw [f2]; exact hd67
              have e := t6_comes (L := L) (xs := xs) (σ := ntR (chC (bdC σ d) j n) d) (τ := τ) (S := S) (j := j) (n := n) (by omega)
              have f6 : (chR (ntR (chC (bdC σ d) j n) d) j n) 74 j = cha (σ 74 j) n := by unfold chR; rw [vs, us, f5]
              apply op_of
              · simp only [Nat.reduceAdd, i5_rain_0, i5_rain_1, i5_rain_2, i5_rain_3, i5_rain_4, i5_rain_6, i5_rain_9, i5_changeLevel_0, i5_changeLevel_1, i5_changeLevel_4, i5_changeLevel_7, i5_changeLevel_10, i5_changeLevel_12, i5_changeLevel_13, i5_changeLevel_14, i5_changeLevel_17, i5_changeLevel_20, i5_changeLevel_21, i5_changeLevel_24, i5_changeLevel_27, i5_changeLevel_28, i5_changeLevel_29, i5_changeLevel_32, i5_changeLevel_33, i5_changeLevel_35, i5_changeLevel_38, i5_changeLevel_39, i5_changeLevel_40, i5_changeLevel_41, i5_changeLevel_44, i5_changeLevel_47, i5_changeLevel_50, i5_changeLevel_51, i5_changeLevel_52, i5_changeLevel_54, i5_changeLevel_57, i5_changeLevel_59, i5_changeLevel_60, i5_changeLevel_61, i5_changeLevel_64, i5_changeLevel_65, i5_changeLevel_68, i5_changeLevel_71, i5_changeLevel_73, i5_changeLevel_74, i5_changeLevel_75, i5_changeLevel_78, i5_changeLevel_81, i5_changeLevel_82, i5_changeLevel_85, i5_changeLevel_88, i5_changeLevel_89, i5_changeLevel_90, i5_changeLevel_93, i5_changeLevel_94, i5_changeLevel_97, i5_changeLevel_100, i5_changeLevel_103, i5_changeLevel_104, i5_changeLevel_105, s3_isThere R.1, h4_hasBasin R.1 h, isF1 hd3 d40', s0_beginDeed hd3 hd, t, k_3, k_4, k_7, l_7, i7', hC, pK_i, pK_v, bi_0, h, hb, n1, n9, l1, he, hd, f4, if_true, if_false, not_true_eq_false, not_false_eq_true, true_or, or_true]; rfl
              · simp only [Nat.reduceAdd, i6_rain_0, i6_rain_1, i6_rain_4, i6_rain_7, i6_rain_9, i6_rain_10, i6_rain_11, i6_rain_12, i6_rain_15, i6_rain_18, i6_rain_19, i6_rain_20, i6_rain_22, i6_rain_25, i6_rain_28, i6_rain_29, i6_rain_30, i6_rain_31, i6_rain_34, i6_rain_35, i6_rain_36, i6_rain_37, i6_rain_38, i6_rain_40, i6_rain_43, i6_rain_45, i6_rain_46, i6_rain_47, i6_rain_50, i6_rain_52, i6_rain_55, i6_rain_57, i6_rain_58, i6_rain_59, i6_rain_62, i6_rain_63, i6_rain_64, i6_rain_65, i6_rain_68, i6_rain_69, i6_rain_72, i6_rain_73, i6_rain_74, i6_rain_75, i6_rain_76, g1, g2, f3, f6, gN0 hg6, s6_isBasin g1 hg6, s6_in, k_74, l_74, i9', hC, Int32.zero_add, d40 d40', t6_notes g2 hd, e, pK_i, pK_v, bi_0, h, hb, n1, n9, he, hd, if_true, if_false, not_true_eq_false, not_false_eq_true, true_or, or_true, and_self]; rfl
              · refine Rel_deed R hd h ?_ ?_ ?_ ?_ ?_ ?_ ?_ ?_ ?_ ?_
                · intro c h1 h2 h3 h4 h5 h6 h7 h8 h9
                  simp (disch := omega) only [chR, ntR, chC, bdC, vn']
                · intro i hi
                  simp (disch := omega) only [chR, ntR, chC, bdC, vn', vs, un]
                · simp (disch := omega) only [chR, ntR, chC, bdC, vn', vs, un]
                · simp (disch := omega) only [chR, ntR, chC, bdC, vn', vs, us]
                · simp (disch := omega) only [chR, ntR, chC, bdC, vn', vs, us]
                · simp (disch := omega) only [chR, ntR, chC, bdC, vn', vs, us]
                · simp (disch := omega) only [chR, ntR, chC, bdC, vn', vs, us]
                · simp (disch := omega) only [chR, ntR, chC, bdC, vn', vs, us]
                · simp (disch := omega) only [chR, ntR, chC, bdC, vn', vs, us]
                · have q := ch_rc R.1 (show j ≤ g by omega) q1 q2
                  simp (disch := omega) only [chR, ntR, chC, bdC, vn', vs, us, un]
                  exact q
            · apply op_of
              · simp only [Nat.reduceAdd, i5_rain_0, i5_rain_1, i5_rain_2, i5_rain_3, i5_rain_4, i5_rain_6, i5_rain_9, i5_changeLevel_0, i5_changeLevel_1, i5_changeLevel_4, i5_changeLevel_7, i5_changeLevel_10, i5_changeLevel_12, i5_changeLevel_13, i5_changeLevel_14, i5_changeLevel_17, i5_changeLevel_20, i5_changeLevel_21, i5_changeLevel_24, i5_changeLevel_27, i5_changeLevel_28, i5_changeLevel_29, i5_changeLevel_32, i5_changeLevel_33, i5_changeLevel_35, i5_changeLevel_38, i5_changeLevel_39, i5_changeLevel_40, i5_changeLevel_41, i5_changeLevel_44, i5_changeLevel_47, i5_changeLevel_50, i5_changeLevel_51, i5_changeLevel_52, i5_changeLevel_54, i5_changeLevel_57, i5_changeLevel_59, i5_changeLevel_60, i5_changeLevel_61, i5_changeLevel_64, i5_changeLevel_65, i5_changeLevel_68, i5_changeLevel_71, i5_changeLevel_73, i5_changeLevel_74, i5_changeLevel_75, i5_changeLevel_78, i5_changeLevel_81, i5_changeLevel_82, i5_changeLevel_85, i5_changeLevel_88, i5_changeLevel_89, i5_changeLevel_90, i5_changeLevel_93, i5_changeLevel_94, i5_changeLevel_97, i5_changeLevel_100, i5_changeLevel_103, i5_changeLevel_104, i5_changeLevel_105, s3_isThere R.1, h4_hasBasin R.1 h, isF1 hd3 d40', k_3, k_4, k_7, l_7, i7', hC, pK_i, bi_0, h, hb, n1, n9, l1, he, hd, if_true, if_false, not_true_eq_false, not_false_eq_true, true_or, or_true]; rfl
              · simp only [Nat.reduceAdd, i6_rain_0, i6_rain_1, i6_rain_4, i6_rain_7, i6_rain_9, i6_rain_10, i6_rain_11, i6_rain_12, i6_rain_15, i6_rain_18, i6_rain_19, i6_rain_20, i6_rain_22, i6_rain_25, i6_rain_28, i6_rain_29, i6_rain_30, i6_rain_31, i6_rain_34, i6_rain_35, i6_rain_36, i6_rain_37, i6_rain_38, i6_rain_40, i6_rain_43, i6_rain_45, i6_rain_46, i6_rain_47, i6_rain_50, i6_rain_52, i6_rain_55, i6_rain_57, i6_rain_58, i6_rain_59, i6_rain_62, i6_rain_63, i6_rain_64, i6_rain_65, i6_rain_68, i6_rain_69, i6_rain_72, i6_rain_73, i6_rain_74, i6_rain_75, i6_rain_76, R.1.2.2.1, hd67, gN0 hg6, s6_isBasin R.1.2.2.1 hg6, s6_in, k_74, l_74, i9', hC, Int32.zero_add, d40 d40', pK_i, bi_0, h, hb, n1, n9, he, hd, if_true, if_false, not_true_eq_false, not_false_eq_true, true_or, or_true, and_self]; rfl
              · exact R
    · apply op_of
      · simp only [Nat.reduceAdd, i5_rain_0, i5_rain_1, i5_rain_2, i5_rain_3, i5_rain_4, i5_rain_6, i5_rain_9, i5_changeLevel_0, i5_changeLevel_1, i5_changeLevel_4, i5_changeLevel_7, i5_changeLevel_10, i5_changeLevel_12, i5_changeLevel_13, i5_changeLevel_14, i5_changeLevel_17, i5_changeLevel_20, i5_changeLevel_21, i5_changeLevel_24, i5_changeLevel_27, i5_changeLevel_28, i5_changeLevel_29, i5_changeLevel_32, i5_changeLevel_33, i5_changeLevel_35, i5_changeLevel_38, i5_changeLevel_39, i5_changeLevel_40, i5_changeLevel_41, i5_changeLevel_44, i5_changeLevel_47, i5_changeLevel_50, i5_changeLevel_51, i5_changeLevel_52, i5_changeLevel_54, i5_changeLevel_57, i5_changeLevel_59, i5_changeLevel_60, i5_changeLevel_61, i5_changeLevel_64, i5_changeLevel_65, i5_changeLevel_68, i5_changeLevel_71, i5_changeLevel_73, i5_changeLevel_74, i5_changeLevel_75, i5_changeLevel_78, i5_changeLevel_81, i5_changeLevel_82, i5_changeLevel_85, i5_changeLevel_88, i5_changeLevel_89, i5_changeLevel_90, i5_changeLevel_93, i5_changeLevel_94, i5_changeLevel_97, i5_changeLevel_100, i5_changeLevel_103, i5_changeLevel_104, i5_changeLevel_105, s3_isThere R.1, h4_hasBasin R.1 h, k_3, k_4, pK_i, bi_0, h, hb, if_true, if_false, not_true_eq_false, not_false_eq_true, true_or, or_true]; rfl
      · simp only [Nat.reduceAdd, i6_rain_0, i6_rain_1, i6_rain_4, i6_rain_7, i6_rain_9, i6_rain_10, i6_rain_11, i6_rain_12, i6_rain_15, i6_rain_18, i6_rain_19, i6_rain_20, i6_rain_22, i6_rain_25, i6_rain_28, i6_rain_29, i6_rain_30, i6_rain_31, i6_rain_34, i6_rain_35, i6_rain_36, i6_rain_37, i6_rain_38, i6_rain_40, i6_rain_43, i6_rain_45, i6_rain_46, i6_rain_47, i6_rain_50, i6_rain_52, i6_rain_55, i6_rain_57, i6_rain_58, i6_rain_59, i6_rain_62, i6_rain_63, i6_rain_64, i6_rain_65, i6_rain_68, i6_rain_69, i6_rain_72, i6_rain_73, i6_rain_74, i6_rain_75, i6_rain_76, R.1.2.2.1, gN0 hg6, s6_isBasin R.1.2.2.1 hg6, pK_i, bi_0, h, hb, if_true, if_false, not_true_eq_false, not_false_eq_true, true_or, or_true]; rfl
      · exact R
  · apply op_of
    · simp only [Nat.reduceAdd, i5_rain_0, i5_rain_1, i5_rain_2, i5_rain_3, i5_rain_4, i5_rain_6, i5_rain_9, i5_changeLevel_0, i5_changeLevel_1, i5_changeLevel_4, i5_changeLevel_7, i5_changeLevel_10, i5_changeLevel_12, i5_changeLevel_13, i5_changeLevel_14, i5_changeLevel_17, i5_changeLevel_20, i5_changeLevel_21, i5_changeLevel_24, i5_changeLevel_27, i5_changeLevel_28, i5_changeLevel_29, i5_changeLevel_32, i5_changeLevel_33, i5_changeLevel_35, i5_changeLevel_38, i5_changeLevel_39, i5_changeLevel_40, i5_changeLevel_41, i5_changeLevel_44, i5_changeLevel_47, i5_changeLevel_50, i5_changeLevel_51, i5_changeLevel_52, i5_changeLevel_54, i5_changeLevel_57, i5_changeLevel_59, i5_changeLevel_60, i5_changeLevel_61, i5_changeLevel_64, i5_changeLevel_65, i5_changeLevel_68, i5_changeLevel_71, i5_changeLevel_73, i5_changeLevel_74, i5_changeLevel_75, i5_changeLevel_78, i5_changeLevel_81, i5_changeLevel_82, i5_changeLevel_85, i5_changeLevel_88, i5_changeLevel_89, i5_changeLevel_90, i5_changeLevel_93, i5_changeLevel_94, i5_changeLevel_97, i5_changeLevel_100, i5_changeLevel_103, i5_changeLevel_104, i5_changeLevel_105, s3_isThere R.1, k_3, k_4, pK_i, bi_0, h, if_true, if_false, not_true_eq_false, not_false_eq_true, true_or, or_true]; rfl
    · simp only [Nat.reduceAdd, i6_rain_0, i6_rain_1, i6_rain_4, i6_rain_7, i6_rain_9, i6_rain_10, i6_rain_11, i6_rain_12, i6_rain_15, i6_rain_18, i6_rain_19, i6_rain_20, i6_rain_22, i6_rain_25, i6_rain_28, i6_rain_29, i6_rain_30, i6_rain_31, i6_rain_34, i6_rain_35, i6_rain_36, i6_rain_37, i6_rain_38, i6_rain_40, i6_rain_43, i6_rain_45, i6_rain_46, i6_rain_47, i6_rain_50, i6_rain_52, i6_rain_55, i6_rain_57, i6_rain_58, i6_rain_59, i6_rain_62, i6_rain_63, i6_rain_64, i6_rain_65, i6_rain_68, i6_rain_69, i6_rain_72, i6_rain_73, i6_rain_74, i6_rain_75, i6_rain_76, R.1.2.2.1, gN0 hg6, h, if_true, if_false, not_true_eq_false, not_false_eq_true, true_or, or_true]; rfl
    · exact R
theorem op_draw {b n : Int32} : opI L xs S (fun M => pX 64 0 [.ref 0, .int b, .int n] [] M 85 S) (fun M => pX 176 0 [.ref 67, .int b, .int n] [] M 85 S) := by
  intro g d σ τ R
  have hg6 := R.1.1
  obtain ⟨d40', hd3, hd67, _⟩ := R.2.1
  by_cases h : 0 < g
  · by_cases hb : inb b (g + 1)
    · by_cases n1 : n < 1
      · apply op_of
        · simp only [Nat.reduceAdd, i5_draw_0, i5_draw_1, i5_draw_2, i5_draw_3, i5_draw_4, i5_draw_5, i5_draw_6, i5_draw_9, i5_changeLevel_0, i5_changeLevel_1, i5_changeLevel_4, i5_changeLevel_7, i5_changeLevel_10, i5_changeLevel_12, i5_changeLevel_13, i5_changeLevel_14, i5_changeLevel_17, i5_changeLevel_20, i5_changeLevel_21, i5_changeLevel_24, i5_changeLevel_27, i5_changeLevel_28, i5_changeLevel_29, i5_changeLevel_32, i5_changeLevel_33, i5_changeLevel_35, i5_changeLevel_38, i5_changeLevel_39, i5_changeLevel_40, i5_changeLevel_41, i5_changeLevel_44, i5_changeLevel_47, i5_changeLevel_50, i5_changeLevel_51, i5_changeLevel_52, i5_changeLevel_54, i5_changeLevel_57, i5_changeLevel_59, i5_changeLevel_60, i5_changeLevel_61, i5_changeLevel_64, i5_changeLevel_65, i5_changeLevel_68, i5_changeLevel_71, i5_changeLevel_73, i5_changeLevel_74, i5_changeLevel_75, i5_changeLevel_78, i5_changeLevel_81, i5_changeLevel_82, i5_changeLevel_85, i5_changeLevel_88, i5_changeLevel_89, i5_changeLevel_90, i5_changeLevel_93, i5_changeLevel_94, i5_changeLevel_97, i5_changeLevel_100, i5_changeLevel_103, i5_changeLevel_104, i5_changeLevel_105, s3_isThere R.1, h4_hasBasin R.1 h, k_3, k_4, pK_i, bi_0, h, hb, n1, if_true, if_false, not_true_eq_false, not_false_eq_true, true_or, or_true]; rfl
        · simp only [Nat.reduceAdd, i6_draw_0, i6_draw_1, i6_draw_4, i6_draw_7, i6_draw_9, i6_draw_10, i6_draw_11, i6_draw_12, i6_draw_15, i6_draw_18, i6_draw_19, i6_draw_20, i6_draw_22, i6_draw_25, i6_draw_28, i6_draw_29, i6_draw_30, i6_draw_31, i6_draw_34, i6_draw_35, i6_draw_36, i6_draw_37, i6_draw_38, i6_draw_41, i6_draw_43, i6_draw_44, i6_draw_45, i6_draw_48, i6_draw_50, i6_draw_53, i6_draw_55, i6_draw_56, i6_draw_57, i6_draw_60, i6_draw_61, i6_draw_62, i6_draw_63, i6_draw_64, i6_draw_67, i6_draw_68, i6_draw_71, i6_draw_72, i6_draw_73, i6_draw_74, i6_draw_75, R.1.2.2.1, gN0 hg6, s6_isBasin R.1.2.2.1 hg6, s6_in, pK_i, bi_0, h, hb, n1, if_true, if_false, not_true_eq_false, not_false_eq_true, true_or, or_true, false_and]; rfl
        · exact R
      · by_cases n9 : 9 < n
        · apply op_of
          · simp only [Nat.reduceAdd, i5_draw_0, i5_draw_1, i5_draw_2, i5_draw_3, i5_draw_4, i5_draw_5, i5_draw_6, i5_draw_9, i5_changeLevel_0, i5_changeLevel_1, i5_changeLevel_4, i5_changeLevel_7, i5_changeLevel_10, i5_changeLevel_12, i5_changeLevel_13, i5_changeLevel_14, i5_changeLevel_17, i5_changeLevel_20, i5_changeLevel_21, i5_changeLevel_24, i5_changeLevel_27, i5_changeLevel_28, i5_changeLevel_29, i5_changeLevel_32, i5_changeLevel_33, i5_changeLevel_35, i5_changeLevel_38, i5_changeLevel_39, i5_changeLevel_40, i5_changeLevel_41, i5_changeLevel_44, i5_changeLevel_47, i5_changeLevel_50, i5_changeLevel_51, i5_changeLevel_52, i5_changeLevel_54, i5_changeLevel_57, i5_changeLevel_59, i5_changeLevel_60, i5_changeLevel_61, i5_changeLevel_64, i5_changeLevel_65, i5_changeLevel_68, i5_changeLevel_71, i5_changeLevel_73, i5_changeLevel_74, i5_changeLevel_75, i5_changeLevel_78, i5_changeLevel_81, i5_changeLevel_82, i5_changeLevel_85, i5_changeLevel_88, i5_changeLevel_89, i5_changeLevel_90, i5_changeLevel_93, i5_changeLevel_94, i5_changeLevel_97, i5_changeLevel_100, i5_changeLevel_103, i5_changeLevel_104, i5_changeLevel_105, s3_isThere R.1, h4_hasBasin R.1 h, k_3, k_4, pK_i, bi_0, h, hb, n1, n9, if_true, if_false, not_true_eq_false, not_false_eq_true, true_or, or_true]; rfl
          · simp only [Nat.reduceAdd, i6_draw_0, i6_draw_1, i6_draw_4, i6_draw_7, i6_draw_9, i6_draw_10, i6_draw_11, i6_draw_12, i6_draw_15, i6_draw_18, i6_draw_19, i6_draw_20, i6_draw_22, i6_draw_25, i6_draw_28, i6_draw_29, i6_draw_30, i6_draw_31, i6_draw_34, i6_draw_35, i6_draw_36, i6_draw_37, i6_draw_38, i6_draw_41, i6_draw_43, i6_draw_44, i6_draw_45, i6_draw_48, i6_draw_50, i6_draw_53, i6_draw_55, i6_draw_56, i6_draw_57, i6_draw_60, i6_draw_61, i6_draw_62, i6_draw_63, i6_draw_64, i6_draw_67, i6_draw_68, i6_draw_71, i6_draw_72, i6_draw_73, i6_draw_74, i6_draw_75, R.1.2.2.1, gN0 hg6, s6_isBasin R.1.2.2.1 hg6, s6_in, pK_i, bi_0, h, hb, n1, n9, if_true, if_false, not_true_eq_false, not_false_eq_true, true_or, or_true, and_false]; rfl
          · exact R
        · obtain ⟨j, hj, rfl⟩ := inb_of hb (by omega)
          obtain ⟨l1, l2⟩ := qN_w R.1 j (by omega)
          have i7' : ∀ {α : Type} {a b : α}, ifb (nI j) 7 a b = a := ifb_i (by omega) (by decide)
          have i9' : ∀ {α : Type} {a b : α}, ifb (nI j) 9 a b = a := ifb_i (by omega) (by decide)
          have hC := cl (show j ≤ 5000 by omega)
          have nr : 1 ≤ n.toInt ∧ n.toInt ≤ 9 := by
            rw [Int32.lt_iff_toInt_lt] at n1 n9
            have a : (1 : Int32).toInt = 1 := rfl
            have b : (9 : Int32).toInt = 9 := rfl
            omega
          have nn : (-n).toInt = -n.toInt := ti_neg (by omega) (by omega)
          obtain ⟨q1, q2⟩ := cha_eq (n := (-n)) l2 (by omega) (by omega)
          by_cases he : σ 74 j = 0
          · apply op_of
            · simp only [Nat.reduceAdd, i5_draw_0, i5_draw_1, i5_draw_2, i5_draw_3, i5_draw_4, i5_draw_5, i5_draw_6, i5_draw_9, i5_changeLevel_0, i5_changeLevel_1, i5_changeLevel_4, i5_changeLevel_7, i5_changeLevel_10, i5_changeLevel_12, i5_changeLevel_13, i5_changeLevel_14, i5_changeLevel_17, i5_changeLevel_20, i5_changeLevel_21, i5_changeLevel_24, i5_changeLevel_27, i5_changeLevel_28, i5_changeLevel_29, i5_changeLevel_32, i5_changeLevel_33, i5_changeLevel_35, i5_changeLevel_38, i5_changeLevel_39, i5_changeLevel_40, i5_changeLevel_41, i5_changeLevel_44, i5_changeLevel_47, i5_changeLevel_50, i5_changeLevel_51, i5_changeLevel_52, i5_changeLevel_54, i5_changeLevel_57, i5_changeLevel_59, i5_changeLevel_60, i5_changeLevel_61, i5_changeLevel_64, i5_changeLevel_65, i5_changeLevel_68, i5_changeLevel_71, i5_changeLevel_73, i5_changeLevel_74, i5_changeLevel_75, i5_changeLevel_78, i5_changeLevel_81, i5_changeLevel_82, i5_changeLevel_85, i5_changeLevel_88, i5_changeLevel_89, i5_changeLevel_90, i5_changeLevel_93, i5_changeLevel_94, i5_changeLevel_97, i5_changeLevel_100, i5_changeLevel_103, i5_changeLevel_104, i5_changeLevel_105, s3_isThere R.1, h4_hasBasin R.1 h, k_3, k_4, k_7, l_7, i7', hC, pK_i, bi_0, h, hb, n1, n9, l1, he, if_true, if_false, not_true_eq_false, not_false_eq_true, true_or, or_true]; rfl
            · simp only [Nat.reduceAdd, i6_draw_0, i6_draw_1, i6_draw_4, i6_draw_7, i6_draw_9, i6_draw_10, i6_draw_11, i6_draw_12, i6_draw_15, i6_draw_18, i6_draw_19, i6_draw_20, i6_draw_22, i6_draw_25, i6_draw_28, i6_draw_29, i6_draw_30, i6_draw_31, i6_draw_34, i6_draw_35, i6_draw_36, i6_draw_37, i6_draw_38, i6_draw_41, i6_draw_43, i6_draw_44, i6_draw_45, i6_draw_48, i6_draw_50, i6_draw_53, i6_draw_55, i6_draw_56, i6_draw_57, i6_draw_60, i6_draw_61, i6_draw_62, i6_draw_63, i6_draw_64, i6_draw_67, i6_draw_68, i6_draw_71, i6_draw_72, i6_draw_73, i6_draw_74, i6_draw_75, R.1.2.2.1, gN0 hg6, s6_isBasin R.1.2.2.1 hg6, s6_in, k_74, l_74, i9', hC, Int32.zero_add, pK_i, bi_0, h, hb, n1, n9, he, if_true, if_false, not_true_eq_false, not_false_eq_true, true_or, or_true, and_self]; rfl
            · exact R
          · by_cases hd : d < 40
            · have f1 : (bdC σ d) 7 j = σ 7 j := by rw [bdC_n (by decide) (by decide)]
              have t := t4_change (L := L) (xs := xs) (σ := bdC σ d) (τ := τ) (S := S) (j := j) (n := (-n)) (by omega)
              have f2 : (chC (bdC σ d) j (-n)) 67 = σ 67 := by unfold chC bdC; simp (disch := omega) only [vn']
              have f3 : (chC (bdC σ d) j (-n)) 74 = σ 74 := by unfold chC bdC; simp (disch := omega) only [vn']
              have f4 : (chC (bdC σ d) j (-n)) 7 j = cha (σ 74 j) (-n) := by unfold chC; rw [vs, us, f1, q1, l1]
              have f5 : (ntR (chC (bdC σ d) j (-n)) d) 74 = σ 74 := by rw [ntR_n (by decide) (by decide)]; exact f3
              have g1 : (chC (bdC σ d) j (-n)) 67 4 = nI g := by rw [f2]; exact R.1.2.2.1
              have g2 : (chC (bdC σ d) j (-n)) 67 8 = nI d := by rw [f2]; exact hd67
              have e := t6_comes (L := L) (xs := xs) (σ := ntR (chC (bdC σ d) j (-n)) d) (τ := τ) (S := S) (j := j) (n := (-n)) (by omega)
              have f6 : (chR (ntR (chC (bdC σ d) j (-n)) d) j (-n)) 74 j = cha (σ 74 j) (-n) := by unfold chR; rw [vs, us, f5]
              apply op_of
              · simp only [Nat.reduceAdd, i5_draw_0, i5_draw_1, i5_draw_2, i5_draw_3, i5_draw_4, i5_draw_5, i5_draw_6, i5_draw_9, i5_changeLevel_0, i5_changeLevel_1, i5_changeLevel_4, i5_changeLevel_7, i5_changeLevel_10, i5_changeLevel_12, i5_changeLevel_13, i5_changeLevel_14, i5_changeLevel_17, i5_changeLevel_20, i5_changeLevel_21, i5_changeLevel_24, i5_changeLevel_27, i5_changeLevel_28, i5_changeLevel_29, i5_changeLevel_32, i5_changeLevel_33, i5_changeLevel_35, i5_changeLevel_38, i5_changeLevel_39, i5_changeLevel_40, i5_changeLevel_41, i5_changeLevel_44, i5_changeLevel_47, i5_changeLevel_50, i5_changeLevel_51, i5_changeLevel_52, i5_changeLevel_54, i5_changeLevel_57, i5_changeLevel_59, i5_changeLevel_60, i5_changeLevel_61, i5_changeLevel_64, i5_changeLevel_65, i5_changeLevel_68, i5_changeLevel_71, i5_changeLevel_73, i5_changeLevel_74, i5_changeLevel_75, i5_changeLevel_78, i5_changeLevel_81, i5_changeLevel_82, i5_changeLevel_85, i5_changeLevel_88, i5_changeLevel_89, i5_changeLevel_90, i5_changeLevel_93, i5_changeLevel_94, i5_changeLevel_97, i5_changeLevel_100, i5_changeLevel_103, i5_changeLevel_104, i5_changeLevel_105, s3_isThere R.1, h4_hasBasin R.1 h, isF1 hd3 d40', s0_beginDeed hd3 hd, t, k_3, k_4, k_7, l_7, i7', hC, pK_i, pK_v, bi_0, h, hb, n1, n9, l1, he, hd, f4, if_true, if_false, not_true_eq_false, not_false_eq_true, true_or, or_true]; rfl
              · simp only [Nat.reduceAdd, i6_draw_0, i6_draw_1, i6_draw_4, i6_draw_7, i6_draw_9, i6_draw_10, i6_draw_11, i6_draw_12, i6_draw_15, i6_draw_18, i6_draw_19, i6_draw_20, i6_draw_22, i6_draw_25, i6_draw_28, i6_draw_29, i6_draw_30, i6_draw_31, i6_draw_34, i6_draw_35, i6_draw_36, i6_draw_37, i6_draw_38, i6_draw_41, i6_draw_43, i6_draw_44, i6_draw_45, i6_draw_48, i6_draw_50, i6_draw_53, i6_draw_55, i6_draw_56, i6_draw_57, i6_draw_60, i6_draw_61, i6_draw_62, i6_draw_63, i6_draw_64, i6_draw_67, i6_draw_68, i6_draw_71, i6_draw_72, i6_draw_73, i6_draw_74, i6_draw_75, g1, g2, f3, f6, gN0 hg6, s6_isBasin g1 hg6, s6_in, k_74, l_74, i9', hC, Int32.zero_add, d40 d40', t6_notes g2 hd, e, pK_i, pK_v, bi_0, h, hb, n1, n9, he, hd, if_true, if_false, not_true_eq_false, not_false_eq_true, true_or, or_true, and_self]; rfl
              · refine Rel_deed R hd h ?_ ?_ ?_ ?_ ?_ ?_ ?_ ?_ ?_ ?_
                · intro c h1 h2 h3 h4 h5 h6 h7 h8 h9
                  simp (disch := omega) only [chR, ntR, chC, bdC, vn']
                · intro i hi
                  simp (disch := omega) only [chR, ntR, chC, bdC, vn', vs, un]
                · simp (disch := omega) only [chR, ntR, chC, bdC, vn', vs, un]
                · simp (disch := omega) only [chR, ntR, chC, bdC, vn', vs, us]
                · simp (disch := omega) only [chR, ntR, chC, bdC, vn', vs, us]
                · simp (disch := omega) only [chR, ntR, chC, bdC, vn', vs, us]
                · simp (disch := omega) only [chR, ntR, chC, bdC, vn', vs, us]
                · simp (disch := omega) only [chR, ntR, chC, bdC, vn', vs, us]
                · simp (disch := omega) only [chR, ntR, chC, bdC, vn', vs, us]
                · have q := ch_rc R.1 (show j ≤ g by omega) q1 q2
                  simp (disch := omega) only [chR, ntR, chC, bdC, vn', vs, us, un]
                  exact q
            · apply op_of
              · simp only [Nat.reduceAdd, i5_draw_0, i5_draw_1, i5_draw_2, i5_draw_3, i5_draw_4, i5_draw_5, i5_draw_6, i5_draw_9, i5_changeLevel_0, i5_changeLevel_1, i5_changeLevel_4, i5_changeLevel_7, i5_changeLevel_10, i5_changeLevel_12, i5_changeLevel_13, i5_changeLevel_14, i5_changeLevel_17, i5_changeLevel_20, i5_changeLevel_21, i5_changeLevel_24, i5_changeLevel_27, i5_changeLevel_28, i5_changeLevel_29, i5_changeLevel_32, i5_changeLevel_33, i5_changeLevel_35, i5_changeLevel_38, i5_changeLevel_39, i5_changeLevel_40, i5_changeLevel_41, i5_changeLevel_44, i5_changeLevel_47, i5_changeLevel_50, i5_changeLevel_51, i5_changeLevel_52, i5_changeLevel_54, i5_changeLevel_57, i5_changeLevel_59, i5_changeLevel_60, i5_changeLevel_61, i5_changeLevel_64, i5_changeLevel_65, i5_changeLevel_68, i5_changeLevel_71, i5_changeLevel_73, i5_changeLevel_74, i5_changeLevel_75, i5_changeLevel_78, i5_changeLevel_81, i5_changeLevel_82, i5_changeLevel_85, i5_changeLevel_88, i5_changeLevel_89, i5_changeLevel_90, i5_changeLevel_93, i5_changeLevel_94, i5_changeLevel_97, i5_changeLevel_100, i5_changeLevel_103, i5_changeLevel_104, i5_changeLevel_105, s3_isThere R.1, h4_hasBasin R.1 h, isF1 hd3 d40', k_3, k_4, k_7, l_7, i7', hC, pK_i, bi_0, h, hb, n1, n9, l1, he, hd, if_true, if_false, not_true_eq_false, not_false_eq_true, true_or, or_true]; rfl
              · simp only [Nat.reduceAdd, i6_draw_0, i6_draw_1, i6_draw_4, i6_draw_7, i6_draw_9, i6_draw_10, i6_draw_11, i6_draw_12, i6_draw_15, i6_draw_18, i6_draw_19, i6_draw_20, i6_draw_22, i6_draw_25, i6_draw_28, i6_draw_29, i6_draw_30, i6_draw_31, i6_draw_34, i6_draw_35, i6_draw_36, i6_draw_37, i6_draw_38, i6_draw_41, i6_draw_43, i6_draw_44, i6_draw_45, i6_draw_48, i6_draw_50, i6_draw_53, i6_draw_55, i6_draw_56, i6_draw_57, i6_draw_60, i6_draw_61, i6_draw_62, i6_draw_63, i6_draw_64, i6_draw_67, i6_draw_68, i6_draw_71, i6_draw_72, i6_draw_73, i6_draw_74, i6_draw_75, R.1.2.2.1, hd67, gN0 hg6, s6_isBasin R.1.2.2.1 hg6, s6_in, k_74, l_74, i9', hC, Int32.zero_add, d40 d40', pK_i, bi_0, h, hb, n1, n9, he, hd, if_true, if_false, not_true_eq_false, not_false_eq_true, true_or, or_true, and_self]; rfl
              · exact R
    · apply op_of
      · simp only [Nat.reduceAdd, i5_draw_0, i5_draw_1, i5_draw_2, i5_draw_3, i5_draw_4, i5_draw_5, i5_draw_6, i5_draw_9, i5_changeLevel_0, i5_changeLevel_1, i5_changeLevel_4, i5_changeLevel_7, i5_changeLevel_10, i5_changeLevel_12, i5_changeLevel_13, i5_changeLevel_14, i5_changeLevel_17, i5_changeLevel_20, i5_changeLevel_21, i5_changeLevel_24, i5_changeLevel_27, i5_changeLevel_28, i5_changeLevel_29, i5_changeLevel_32, i5_changeLevel_33, i5_changeLevel_35, i5_changeLevel_38, i5_changeLevel_39, i5_changeLevel_40, i5_changeLevel_41, i5_changeLevel_44, i5_changeLevel_47, i5_changeLevel_50, i5_changeLevel_51, i5_changeLevel_52, i5_changeLevel_54, i5_changeLevel_57, i5_changeLevel_59, i5_changeLevel_60, i5_changeLevel_61, i5_changeLevel_64, i5_changeLevel_65, i5_changeLevel_68, i5_changeLevel_71, i5_changeLevel_73, i5_changeLevel_74, i5_changeLevel_75, i5_changeLevel_78, i5_changeLevel_81, i5_changeLevel_82, i5_changeLevel_85, i5_changeLevel_88, i5_changeLevel_89, i5_changeLevel_90, i5_changeLevel_93, i5_changeLevel_94, i5_changeLevel_97, i5_changeLevel_100, i5_changeLevel_103, i5_changeLevel_104, i5_changeLevel_105, s3_isThere R.1, h4_hasBasin R.1 h, k_3, k_4, pK_i, bi_0, h, hb, if_true, if_false, not_true_eq_false, not_false_eq_true, true_or, or_true]; rfl
      · simp only [Nat.reduceAdd, i6_draw_0, i6_draw_1, i6_draw_4, i6_draw_7, i6_draw_9, i6_draw_10, i6_draw_11, i6_draw_12, i6_draw_15, i6_draw_18, i6_draw_19, i6_draw_20, i6_draw_22, i6_draw_25, i6_draw_28, i6_draw_29, i6_draw_30, i6_draw_31, i6_draw_34, i6_draw_35, i6_draw_36, i6_draw_37, i6_draw_38, i6_draw_41, i6_draw_43, i6_draw_44, i6_draw_45, i6_draw_48, i6_draw_50, i6_draw_53, i6_draw_55, i6_draw_56, i6_draw_57, i6_draw_60, i6_draw_61, i6_draw_62, i6_draw_63, i6_draw_64, i6_draw_67, i6_draw_68, i6_draw_71, i6_draw_72, i6_draw_73, i6_draw_74, i6_draw_75, R.1.2.2.1, gN0 hg6, s6_isBasin R.1.2.2.1 hg6, pK_i, bi_0, h, hb, if_true, if_false, not_true_eq_false, not_false_eq_true, true_or, or_true]; rfl
      · exact R
  · apply op_of
    · simp only [Nat.reduceAdd, i5_draw_0, i5_draw_1, i5_draw_2, i5_draw_3, i5_draw_4, i5_draw_5, i5_draw_6, i5_draw_9, i5_changeLevel_0, i5_changeLevel_1, i5_changeLevel_4, i5_changeLevel_7, i5_changeLevel_10, i5_changeLevel_12, i5_changeLevel_13, i5_changeLevel_14, i5_changeLevel_17, i5_changeLevel_20, i5_changeLevel_21, i5_changeLevel_24, i5_changeLevel_27, i5_changeLevel_28, i5_changeLevel_29, i5_changeLevel_32, i5_changeLevel_33, i5_changeLevel_35, i5_changeLevel_38, i5_changeLevel_39, i5_changeLevel_40, i5_changeLevel_41, i5_changeLevel_44, i5_changeLevel_47, i5_changeLevel_50, i5_changeLevel_51, i5_changeLevel_52, i5_changeLevel_54, i5_changeLevel_57, i5_changeLevel_59, i5_changeLevel_60, i5_changeLevel_61, i5_changeLevel_64, i5_changeLevel_65, i5_changeLevel_68, i5_changeLevel_71, i5_changeLevel_73, i5_changeLevel_74, i5_changeLevel_75, i5_changeLevel_78, i5_changeLevel_81, i5_changeLevel_82, i5_changeLevel_85, i5_changeLevel_88, i5_changeLevel_89, i5_changeLevel_90, i5_changeLevel_93, i5_changeLevel_94, i5_changeLevel_97, i5_changeLevel_100, i5_changeLevel_103, i5_changeLevel_104, i5_changeLevel_105, s3_isThere R.1, k_3, k_4, pK_i, bi_0, h, if_true, if_false, not_true_eq_false, not_false_eq_true, true_or, or_true]; rfl
    · simp only [Nat.reduceAdd, i6_draw_0, i6_draw_1, i6_draw_4, i6_draw_7, i6_draw_9, i6_draw_10, i6_draw_11, i6_draw_12, i6_draw_15, i6_draw_18, i6_draw_19, i6_draw_20, i6_draw_22, i6_draw_25, i6_draw_28, i6_draw_29, i6_draw_30, i6_draw_31, i6_draw_34, i6_draw_35, i6_draw_36, i6_draw_37, i6_draw_38, i6_draw_41, i6_draw_43, i6_draw_44, i6_draw_45, i6_draw_48, i6_draw_50, i6_draw_53, i6_draw_55, i6_draw_56, i6_draw_57, i6_draw_60, i6_draw_61, i6_draw_62, i6_draw_63, i6_draw_64, i6_draw_67, i6_draw_68, i6_draw_71, i6_draw_72, i6_draw_73, i6_draw_74, i6_draw_75, R.1.2.2.1, gN0 hg6, h, if_true, if_false, not_true_eq_false, not_false_eq_true, true_or, or_true]; rfl
    · exact R
theorem op_wind {i : Int32} : opI L xs S (fun M => pX 62 0 [.ref 0, .int i] [] M 85 S) (fun M => pX 173 0 [.ref 67, .int i] [] M 85 S) := by
  intro g d σ τ R
  have hg6 := R.1.1
  obtain ⟨d40', hd3, hd67, _⟩ := R.2.1
  by_cases hi : inb i g
  · obtain ⟨j, hj, rfl⟩ := inb_of hi (by omega)
    have h : 0 < g := by omega
    have hj6 : j < 6 := by omega
    have i6' : ∀ {α : Type} {a b : α}, ifb (nI j) 6 a b = a := ifb_i (by omega) (by decide)
    have hC := cl (show j ≤ 5000 by omega)
    have k1 := (R.1.2.2.2.1 j hj).1
    have hw : pX 34 0 [.ref 4, .int (nI j)] [] (mm L xs σ τ) 85 S = some (some (.int (bi (σ 72 j = 3))), mm L xs σ τ, 85, S) := by rw [← k1]; exact s4_isWeir a_4 hj6
    by_cases hk : σ 72 j = 3
    · apply op_of
      · simp only [Nat.reduceAdd, i5_wind_0, i5_wind_1, i5_wind_4, i5_wind_7, i5_wind_8, i5_wind_11, i5_wind_14, i5_wind_15, i5_wind_16, i5_wind_17, i5_wind_20, i5_wind_23, i5_wind_24, i5_wind_27, i5_wind_30, i5_wind_32, i5_wind_33, i5_wind_34, i5_wind_37, i5_wind_38, i5_wind_41, i5_wind_44, i5_wind_46, i5_wind_47, i5_wind_48, i5_wind_51, i5_wind_54, i5_wind_55, i5_wind_58, i5_wind_61, i5_wind_62, i5_wind_65, i5_wind_66, i5_wind_67, i5_wind_68, i5_wind_69, i5_wind_72, i5_wind_73, i5_wind_76, i5_wind_79, i5_wind_80, i5_wind_83, i5_wind_86, i5_wind_87, i5_wind_90, i5_wind_91, h4_hasGate R.1, hw, k_3, k_4, pK_i, bi_0, hi, hk, if_true, if_false, not_true_eq_false, not_false_eq_true, true_or, or_true]; rfl
      · simp only [Nat.reduceAdd, i6_wind_0, i6_wind_1, i6_wind_2, i6_wind_5, i6_wind_8, i6_wind_9, i6_wind_10, i6_wind_11, i6_wind_14, i6_wind_15, i6_wind_16, i6_wind_17, i6_wind_20, i6_wind_22, i6_wind_23, i6_wind_24, i6_wind_27, i6_wind_29, i6_wind_32, i6_wind_34, i6_wind_35, i6_wind_36, i6_wind_39, i6_wind_40, i6_wind_43, i6_wind_45, i6_wind_46, i6_wind_47, i6_wind_48, i6_wind_49, i6_wind_50, i6_wind_51, i6_wind_52, i6_wind_53, i6_wind_56, i6_wind_58, i6_wind_59, i6_wind_60, i6_wind_61, i6_wind_62, i6_wind_63, s6_isGate R.1.2.2.1 hg6, k_72, l_72, i6', hC, pK_i, bi_0, hi, hk, if_true, if_false, not_true_eq_false, not_false_eq_true, true_or, or_true]; rfl
      · exact R
    · by_cases hd : d < 40
      · have e4 : σ 4 4 = σ 74 7 := by
          obtain ⟨o, _, e7, e7'⟩ := R.1.2.2.2.2.1.2.1
          rw [e7, e7']
        have b4 : (bdC σ d) 4 = σ 4 := bdC_n (by decide) (by decide)
        have b5 : (bdC σ d) 5 = σ 5 := bdC_n (by decide) (by decide)
        have u := s4_isOpen (L := L) (xs := xs) (σ := va_up (bdC σ d) 4 (upd (σ 4) 4 (σ 4 4 ^^^ 1 <<< (nI j &&& 31)))) (τ := τ) (S := S) a_4 hj6
        have q : isop ((va_up (bdC σ d) 4 (upd (σ 4) 4 (σ 4 4 ^^^ 1 <<< (nI j &&& 31)))) 5) ((va_up (bdC σ d) 4 (upd (σ 4) 4 (σ 4 4 ^^^ 1 <<< (nI j &&& 31)))) 4 4) j = ((σ 74 7 ^^^ 1 <<< (nI j &&& 31)) >>> (nI j &&& 31) &&& 1 = 1) := by
          rw [vs, us, vn (show 5 ≠ 4 by decide), b5, e4]
          unfold isop hb
          rw [k1]
          exact propext ⟨fun q => q.elim (fun q => absurd q hk) (fun q => q), Or.inr⟩
        simp only [Nat.reduceAdd] at u
        rw [q] at u
        have f2 : (flpC (bdC σ d) j) 67 = σ 67 := by unfold flpC bdC; simp (disch := omega) only [vn']
        have f3 : (flpC (bdC σ d) j) 74 = σ 74 := by unfold flpC bdC; simp (disch := omega) only [vn']
        have f7 : (flpC (bdC σ d) j) 72 = σ 72 := by unfold flpC bdC; simp (disch := omega) only [vn']
        have f5 : (ntR (flpC (bdC σ d) j) d) 74 = σ 74 := by rw [ntR_n (by decide) (by decide)]; exact f3
        have g1 : (flpC (bdC σ d) j) 67 4 = nI g := by rw [f2]; exact R.1.2.2.1
        have g2 : (flpC (bdC σ d) j) 67 8 = nI d := by rw [f2]; exact hd67
        have hq : flpC (bdC σ d) j = va_up (bdC σ d) 4 (upd (σ 4) 4 (σ 4 4 ^^^ 1 <<< (nI j &&& 31))) := by unfold flpC; rw [b4]; rfl
        refine op_of (v := (σ 74 7 ^^^ 1 <<< (nI j &&& 31)) >>> (nI j &&& 31) &&& 1) (σ1 := flpC (bdC σ d) j) (σ2 := flpR (ntR (flpC (bdC σ d) j) d) j) (τ1 := τ) (τ2 := τ) (g := g) (d := d + 1) ?_ ?_ ?_
        · rw [hq]
          by_cases c1 : (σ 74 7 ^^^ 1 <<< (nI j &&& 31)) >>> (nI j &&& 31) &&& 1 = 1
          · simp only [Nat.reduceAdd, i5_wind_0, i5_wind_1, i5_wind_4, i5_wind_7, i5_wind_8, i5_wind_11, i5_wind_14, i5_wind_15, i5_wind_16, i5_wind_17, i5_wind_20, i5_wind_23, i5_wind_24, i5_wind_27, i5_wind_30, i5_wind_32, i5_wind_33, i5_wind_34, i5_wind_37, i5_wind_38, i5_wind_41, i5_wind_44, i5_wind_46, i5_wind_47, i5_wind_48, i5_wind_51, i5_wind_54, i5_wind_55, i5_wind_58, i5_wind_61, i5_wind_62, i5_wind_65, i5_wind_66, i5_wind_67, i5_wind_68, i5_wind_69, i5_wind_72, i5_wind_73, i5_wind_76, i5_wind_79, i5_wind_80, i5_wind_83, i5_wind_86, i5_wind_87, i5_wind_90, i5_wind_91, h4_hasGate R.1, hw, isF1 hd3 d40', s0_beginDeed hd3 hd, u, b4, k_3, k_4, pK_i, pK_v, bi_0, hi, hk, hd, c1, if_true, if_false, not_true_eq_false, not_false_eq_true, true_or, or_true]
          · have c0 := (and1 ((σ 74 7 ^^^ 1 <<< (nI j &&& 31)) >>> (nI j &&& 31))).resolve_right c1
            simp only [Nat.reduceAdd, i5_wind_0, i5_wind_1, i5_wind_4, i5_wind_7, i5_wind_8, i5_wind_11, i5_wind_14, i5_wind_15, i5_wind_16, i5_wind_17, i5_wind_20, i5_wind_23, i5_wind_24, i5_wind_27, i5_wind_30, i5_wind_32, i5_wind_33, i5_wind_34, i5_wind_37, i5_wind_38, i5_wind_41, i5_wind_44, i5_wind_46, i5_wind_47, i5_wind_48, i5_wind_51, i5_wind_54, i5_wind_55, i5_wind_58, i5_wind_61, i5_wind_62, i5_wind_65, i5_wind_66, i5_wind_67, i5_wind_68, i5_wind_69, i5_wind_72, i5_wind_73, i5_wind_76, i5_wind_79, i5_wind_80, i5_wind_83, i5_wind_86, i5_wind_87, i5_wind_90, i5_wind_91, h4_hasGate R.1, hw, isF1 hd3 d40', s0_beginDeed hd3 hd, u, b4, k_3, k_4, pK_i, pK_v, bi_0, hi, hk, hd, c0, c1, n01, if_true, if_false, not_true_eq_false, not_false_eq_true, true_or, or_true]
        · simp only [Nat.reduceAdd, i6_wind_0, i6_wind_1, i6_wind_2, i6_wind_5, i6_wind_8, i6_wind_9, i6_wind_10, i6_wind_11, i6_wind_14, i6_wind_15, i6_wind_16, i6_wind_17, i6_wind_20, i6_wind_22, i6_wind_23, i6_wind_24, i6_wind_27, i6_wind_29, i6_wind_32, i6_wind_34, i6_wind_35, i6_wind_36, i6_wind_39, i6_wind_40, i6_wind_43, i6_wind_45, i6_wind_46, i6_wind_47, i6_wind_48, i6_wind_49, i6_wind_50, i6_wind_51, i6_wind_52, i6_wind_53, i6_wind_56, i6_wind_58, i6_wind_59, i6_wind_60, i6_wind_61, i6_wind_62, i6_wind_63, s6_isGate g1 hg6, t6_notes g2 hd, f7, g2, f5, d40 d40', k_72, l_72, i6', hC, k_74, l_74, i7, z7, vs, us, pK_i, pK_v, bi_0, hi, hk, hd, if_true, if_false, not_true_eq_false, not_false_eq_true, true_or, or_true, flpR, sh]
        · refine Rel_deed R hd h ?_ ?_ ?_ ?_ ?_ ?_ ?_ ?_ ?_ ?_
          · intro c h1 h2 h3 h4 h5 h6 h7 h8 h9
            simp (disch := omega) only [flpR, ntR, flpC, bdC, vn']
          · intro i hi
            simp (disch := omega) only [flpR, ntR, flpC, bdC, vn', vs, un]
          · simp (disch := omega) only [flpR, ntR, flpC, bdC, vn', vs, un]
          · simp (disch := omega) only [flpR, ntR, flpC, bdC, vn', vs, us]
          · simp (disch := omega) only [flpR, ntR, flpC, bdC, vn', vs, us]
          · simp (disch := omega) only [flpR, ntR, flpC, bdC, vn', vs, us]
          · simp (disch := omega) only [flpR, ntR, flpC, bdC, vn', vs, us]
          · simp (disch := omega) only [flpR, ntR, flpC, bdC, vn', vs, us]
          · simp (disch := omega) only [flpR, ntR, flpC, bdC, vn', vs, us]
          · have q := flp_rc R.1 hj
            simp (disch := omega) only [flpR, ntR, flpC, bdC, vn', vs, us, un]
            exact q
      · apply op_of
        · simp only [Nat.reduceAdd, i5_wind_0, i5_wind_1, i5_wind_4, i5_wind_7, i5_wind_8, i5_wind_11, i5_wind_14, i5_wind_15, i5_wind_16, i5_wind_17, i5_wind_20, i5_wind_23, i5_wind_24, i5_wind_27, i5_wind_30, i5_wind_32, i5_wind_33, i5_wind_34, i5_wind_37, i5_wind_38, i5_wind_41, i5_wind_44, i5_wind_46, i5_wind_47, i5_wind_48, i5_wind_51, i5_wind_54, i5_wind_55, i5_wind_58, i5_wind_61, i5_wind_62, i5_wind_65, i5_wind_66, i5_wind_67, i5_wind_68, i5_wind_69, i5_wind_72, i5_wind_73, i5_wind_76, i5_wind_79, i5_wind_80, i5_wind_83, i5_wind_86, i5_wind_87, i5_wind_90, i5_wind_91, h4_hasGate R.1, hw, isF1 hd3 d40', k_3, k_4, pK_i, bi_0, hi, hk, hd, if_true, if_false, not_true_eq_false, not_false_eq_true, true_or, or_true]; rfl
        · simp only [Nat.reduceAdd, i6_wind_0, i6_wind_1, i6_wind_2, i6_wind_5, i6_wind_8, i6_wind_9, i6_wind_10, i6_wind_11, i6_wind_14, i6_wind_15, i6_wind_16, i6_wind_17, i6_wind_20, i6_wind_22, i6_wind_23, i6_wind_24, i6_wind_27, i6_wind_29, i6_wind_32, i6_wind_34, i6_wind_35, i6_wind_36, i6_wind_39, i6_wind_40, i6_wind_43, i6_wind_45, i6_wind_46, i6_wind_47, i6_wind_48, i6_wind_49, i6_wind_50, i6_wind_51, i6_wind_52, i6_wind_53, i6_wind_56, i6_wind_58, i6_wind_59, i6_wind_60, i6_wind_61, i6_wind_62, i6_wind_63, s6_isGate R.1.2.2.1 hg6, hd67, d40 d40', k_72, l_72, i6', hC, pK_i, bi_0, hi, hk, hd, if_true, if_false, not_true_eq_false, not_false_eq_true, true_or, or_true]; rfl
        · exact R
  · apply op_of
    · simp only [Nat.reduceAdd, i5_wind_0, i5_wind_1, i5_wind_4, i5_wind_7, i5_wind_8, i5_wind_11, i5_wind_14, i5_wind_15, i5_wind_16, i5_wind_17, i5_wind_20, i5_wind_23, i5_wind_24, i5_wind_27, i5_wind_30, i5_wind_32, i5_wind_33, i5_wind_34, i5_wind_37, i5_wind_38, i5_wind_41, i5_wind_44, i5_wind_46, i5_wind_47, i5_wind_48, i5_wind_51, i5_wind_54, i5_wind_55, i5_wind_58, i5_wind_61, i5_wind_62, i5_wind_65, i5_wind_66, i5_wind_67, i5_wind_68, i5_wind_69, i5_wind_72, i5_wind_73, i5_wind_76, i5_wind_79, i5_wind_80, i5_wind_83, i5_wind_86, i5_wind_87, i5_wind_90, i5_wind_91, h4_hasGate R.1, k_3, k_4, pK_i, bi_0, hi, if_true, if_false, not_true_eq_false, not_false_eq_true, true_or, or_true]; rfl
    · simp only [Nat.reduceAdd, i6_wind_0, i6_wind_1, i6_wind_2, i6_wind_5, i6_wind_8, i6_wind_9, i6_wind_10, i6_wind_11, i6_wind_14, i6_wind_15, i6_wind_16, i6_wind_17, i6_wind_20, i6_wind_22, i6_wind_23, i6_wind_24, i6_wind_27, i6_wind_29, i6_wind_32, i6_wind_34, i6_wind_35, i6_wind_36, i6_wind_39, i6_wind_40, i6_wind_43, i6_wind_45, i6_wind_46, i6_wind_47, i6_wind_48, i6_wind_49, i6_wind_50, i6_wind_51, i6_wind_52, i6_wind_53, i6_wind_56, i6_wind_58, i6_wind_59, i6_wind_60, i6_wind_61, i6_wind_62, i6_wind_63, s6_isGate R.1.2.2.1 hg6, pK_i, bi_0, hi, if_true, if_false, not_true_eq_false, not_false_eq_true, true_or, or_true]; rfl
    · exact R
end DF
