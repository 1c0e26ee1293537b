/-! BY HOW ONE STOOD: what is refused; the program's sets that fit -/
section DQ
variable {L : Nat} {xs : Nat → Int32} {σ σj : Nat → Nat → Int32} {τ : Nat → Nat → Int64} {S g d m j : Nat} {K W f : Nat → Int32}
theorem seenC {k : Nat} (hk : k < 6) (hz : σ (23 + 2 * k) 1 = nI m) (hm : m ≤ 40) {b r : Int32} : ((∀ t, t < m → inb (σ (23 + 2 * k + 1) t) 61) → pX 119 90 [.ref 0, .int 1, .int b, .int r, .ref (23 + 2 * k), .int 0] [] (mm L xs σ τ) 85 S = some (some (.int 0), mm L xs σ τ, 85, S)) ∧ (¬ (∀ t, t < m → inb (σ (23 + 2 * k + 1) t) 61) → pX 119 90 [.ref 0, .int 1, .int b, .int r, .ref (23 + 2 * k), .int 0] [] (mm L xs σ τ) 85 S = some (some (.int (-3)), mm L xs (fC σ 3) τ, 85, S)) := by
  have h0 : ∀ (P : Prop), pX 119 90 [.ref 0, .int 1, .int b, .int r, .ref (23 + 2 * k), .int (nI m)] [] (mm L xs σ τ) 85 S = some (some (.int 0), mm L xs σ τ, 85, S) := fun _ => by
    simp only [Nat.reduceAdd, i5_refusalOfSeen_90, i5_refusalOfSeen_92, i5_refusalOfSeen_94, i5_refusalOfSeen_97, i5_refusalOfSeen_126, i5_refusalOfSeen_127, ro_k hk, hz, Int32.lt_irrefl, if_false]
  have hn : ∀ j, j < m → inb (σ (23 + 2 * k + 1) j) 61 → pX 119 90 [.ref 0, .int 1, .int b, .int r, .ref (23 + 2 * k), .int (nI j)] [] (mm L xs σ τ) 85 S = pX 119 90 [.ref 0, .int 1, .int b, .int r, .ref (23 + 2 * k), .int (nI (j + 1))] [] (mm L xs σ τ) 85 S := fun j hj q => by
    rw [i5_refusalOfSeen_90]
    simp only [Nat.reduceAdd, i5_refusalOfSeen_92, i5_refusalOfSeen_94, i5_refusalOfSeen_97, i5_refusalOfSeen_100, i5_refusalOfSeen_102, i5_refusalOfSeen_105, i5_refusalOfSeen_107, i5_refusalOfSeen_108, i5_refusalOfSeen_111, i5_refusalOfSeen_114, i5_refusalOfSeen_115, i5_refusalOfSeen_116, i5_refusalOfSeen_119, i5_refusalOfSeen_120, i5_refusalOfSeen_123, i5_refusalOfSeen_126, i5_refusalOfSeen_127, ro_k hk, ro_p hk, ro_l hk, hz, nlt hj (by omega), ifb_i (show j < 40 by omega) (by decide), cl (show j ≤ 5000 by omega), s5_isLevel, pK_i, bi_0, q, if_true, if_false, not_true_eq_false, not_false_eq_true, true_or, or_true, nI_1]
  constructor
  · intro hall
    have key := lq (δ := Unit) m (fun _ _ => True) (fun j _ => pX 119 90 [.ref 0, .int 1, .int b, .int r, .ref (23 + 2 * k), .int (nI j)] [] (mm L xs σ τ) 85 S) (fun o => o = some (some (.int 0), mm L xs σ τ, 85, S)) (fun _ _ => h0 True) (fun j hj _ _ => Or.inr ⟨(), trivial, hn j hj (hall j hj)⟩)
    exact key () trivial
  · intro hall
    have key := lq (δ := Unit) m (fun j _ => ∀ t, t < j → inb (σ (23 + 2 * k + 1) t) 61) (fun j _ => pX 119 90 [.ref 0, .int 1, .int b, .int r, .ref (23 + 2 * k), .int (nI j)] [] (mm L xs σ τ) 85 S) (fun o => o = some (some (.int (-3)), mm L xs (fC σ 3) τ, 85, S)) (fun _ h => absurd h hall) (fun j hj _ h => by
      by_cases q : inb (σ (23 + 2 * k + 1) j) 61
      · refine Or.inr ⟨(), fun t ht => ?_, hn j hj q⟩
        by_cases e : t = j
        · subst e; exact q
        · exact h t (by omega)
      · refine Or.inl ?_
        rw [i5_refusalOfSeen_90]
        simp only [Nat.reduceAdd, i5_refusalOfSeen_92, i5_refusalOfSeen_94, i5_refusalOfSeen_97, i5_refusalOfSeen_100, i5_refusalOfSeen_102, i5_refusalOfSeen_105, i5_refusalOfSeen_107, i5_refusalOfSeen_108, i5_refusalOfSeen_111, i5_refusalOfSeen_114, i5_refusalOfSeen_115, i5_refusalOfSeen_116, i5_refusalOfSeen_119, i5_refusalOfSeen_120, i5_refusalOfSeen_123, i5_refusalOfSeen_126, i5_refusalOfSeen_127, ro_k hk, ro_p hk, ro_l hk, hz, nlt hj (by omega), ifb_i (show j < 40 by omega) (by decide), cl (show j ≤ 5000 by omega), s5_isLevel, rf3, pK_i, bi_0, q, if_true, if_false, not_true_eq_false, not_false_eq_true, true_or, or_true])
    exact key () (fun t ht => absurd ht (by omega))
theorem in61 {v : Int32} : (¬ v < 0 ∧ ¬ 60 < v) = inb v 61 := propext (inb_iff2 (n := 60) rfl (by decide)).symm
theorem seenR {k : Nat} (hk : k < 6) (hz : σ 68 k = nI m) (hm : m ≤ 40) : ((∀ t, t < m → inb (σ 69 (40 * k + t)) 61) → pX 189 38 [.ref 67, .int (nI k), .int 0] [] (mm L xs σ τ) 85 S = some (some (.int 0), mm L xs σ τ, 85, S)) ∧ (¬ (∀ t, t < m → inb (σ 69 (40 * k + t)) 61) → pX 189 38 [.ref 67, .int (nI k), .int 0] [] (mm L xs σ τ) 85 S = some (some (.int (-3)), mm L xs (fR σ 3) τ, 85, S)) := by
  have hS : ∀ {α : Type} {a b : α}, ifb (nI k) 6 a b = a := ifb_i hk (by decide)
  have hC := cl (show k ≤ 5000 by omega)
  have e40 : (40 : Int32) * nI k = nI (40 * k) := pk_mul 40 k
  have h0 : ∀ (P : Prop), pX 189 38 [.ref 67, .int (nI k), .int (nI m)] [] (mm L xs σ τ) 85 S = some (some (.int 0), mm L xs σ τ, 85, S) := fun _ => by
    simp only [Nat.reduceAdd, i6_wrongRow_38, i6_wrongRow_39, i6_wrongRow_40, i6_wrongRow_43, i6_wrongRow_44, i6_wrongRow_45, i6_wrongRow_80, i6_wrongRow_81, k_68, l_68, hS, hC, hz, Int32.lt_irrefl, if_false]
  have hn : ∀ j, j < m → inb (σ 69 (40 * k + j)) 61 → pX 189 38 [.ref 67, .int (nI k), .int (nI j)] [] (mm L xs σ τ) 85 S = pX 189 38 [.ref 67, .int (nI k), .int (nI (j + 1))] [] (mm L xs σ τ) 85 S := fun j hj q => by
    rw [i6_wrongRow_38]
    simp only [Nat.reduceAdd, i6_wrongRow_39, i6_wrongRow_40, i6_wrongRow_43, i6_wrongRow_44, i6_wrongRow_45, i6_wrongRow_48, i6_wrongRow_49, i6_wrongRow_52, i6_wrongRow_54, i6_wrongRow_55, i6_wrongRow_56, i6_wrongRow_57, i6_wrongRow_58, i6_wrongRow_59, i6_wrongRow_60, i6_wrongRow_62, i6_wrongRow_65, i6_wrongRow_68, i6_wrongRow_69, i6_wrongRow_70, i6_wrongRow_73, i6_wrongRow_74, i6_wrongRow_77, i6_wrongRow_80, i6_wrongRow_81, k_68, l_68, k_69, l_69, hS, hC, hz, e40, nI_add, nlt hj (by omega), ifb_i (show 40 * k + j < 240 by omega) (by decide), cl (show 40 * k + j ≤ 5000 by omega), s6_in, in61, pK_i, bi_0, q, if_true, if_false, not_true_eq_false, not_false_eq_true, true_or, or_true, nI_1]
  constructor
  · intro hall
    have key := lq (δ := Unit) m (fun _ _ => True) (fun j _ => pX 189 38 [.ref 67, .int (nI k), .int (nI j)] [] (mm L xs σ τ) 85 S) (fun o => o = some (some (.int 0), mm L xs σ τ, 85, S)) (fun _ _ => h0 True) (fun j hj _ _ => Or.inr ⟨(), trivial, hn j hj (hall j hj)⟩)
    exact key () trivial
  · intro hall
    have key := lq (δ := Unit) m (fun j _ => ∀ t, t < j → inb (σ 69 (40 * k + t)) 61) (fun j _ => pX 189 38 [.ref 67, .int (nI k), .int (nI j)] [] (mm L xs σ τ) 85 S) (fun o => o = some (some (.int (-3)), mm L xs (fR σ 3) τ, 85, S)) (fun _ h => absurd h hall) (fun j hj _ h => by
      by_cases q : inb (σ 69 (40 * k + j)) 61
      · refine Or.inr ⟨(), fun t ht => ?_, hn j hj q⟩
        by_cases e : t = j
        · subst e; exact q
        · exact h t (by omega)
      · refine Or.inl ?_
        rw [i6_wrongRow_38]
        simp only [Nat.reduceAdd, i6_wrongRow_39, i6_wrongRow_40, i6_wrongRow_43, i6_wrongRow_44, i6_wrongRow_45, i6_wrongRow_48, i6_wrongRow_49, i6_wrongRow_52, i6_wrongRow_54, i6_wrongRow_55, i6_wrongRow_56, i6_wrongRow_57, i6_wrongRow_58, i6_wrongRow_59, i6_wrongRow_60, i6_wrongRow_62, i6_wrongRow_65, i6_wrongRow_68, i6_wrongRow_69, i6_wrongRow_70, i6_wrongRow_73, i6_wrongRow_74, i6_wrongRow_77, i6_wrongRow_80, i6_wrongRow_81, k_68, l_68, k_69, l_69, hS, hC, hz, e40, nI_add, nlt hj (by omega), ifb_i (show 40 * k + j < 240 by omega) (by decide), cl (show 40 * k + j ≤ 5000 by omega), s6_in, in61, fd3, pK_i, bi_0, q, if_true, if_false, not_true_eq_false, not_false_eq_true, true_or, or_true])
    exact key () (fun t ht => absurd ht (by omega))
theorem fC_n {c q : Nat} (h : c ≠ 0) (h2 : c ≠ 22) : fC σ q c = σ c := by unfold fC; rw [vn h2, vn h]
/-- both refuse alike, or neither -/
theorem refS (R : Rel g d σ τ) (b r : Int32) : (∃ x σ1 σ2, ¬ x = 0 ∧ pX 119 0 [.ref 0, .int 1, .int b, .int r, .null, .null] [] (mm L xs σ τ) 85 S = some (some (.int x), mm L xs σ1 τ, 85, S) ∧ pX 192 0 [.ref 67, .int b, .int r] [] (mm L xs σ1 τ) 85 S = some (some (.int x), mm L xs σ2 τ, 85, S) ∧ Rel g d σ2 τ ∧ σ1 67 4 = σ 67 4) ∨ (0 < g ∧ ∃ bj k m, bj ≤ g ∧ b = nI bj ∧ k < 6 ∧ r = nI k ∧ σ 68 k = nI m ∧ 1 ≤ m ∧ m ≤ 10 ∧ pX 119 0 [.ref 0, .int 1, .int b, .int r, .null, .null] [] (mm L xs σ τ) 85 S = some (some (.int 0), mm L xs σ τ, 85, S) ∧ ∀ σ' τ', σ' 67 4 = σ 67 4 → σ' 68 = σ 68 → σ' 69 = σ 69 → pX 192 0 [.ref 67, .int b, .int r] [] (mm L xs σ' τ') 85 S = some (some (.int 0), mm L xs σ' τ', 85, S)) := by
  have hg6 := R.1.1
  by_cases h : 0 < g
  · by_cases hb : inb b (g + 1)
    · by_cases hr : inb r 6
      · obtain ⟨bj, hbj, rfl⟩ := inb_of hb (by omega)
        obtain ⟨k, hk, rfl⟩ := inb_of hr (by decide)
        obtain ⟨e1, e2, e3⟩ := R.2.2.2.1 k hk
        have hS : ∀ {α : Type} {a b : α}, ifb (nI k) 6 a b = a := ifb_i hk (by decide)
        have hC := cl (show k ≤ 5000 by omega)
        have g1 : ∀ q, (fC σ q) 67 4 = nI g := fun q => by rw [fC_n (by decide) (by decide)]; exact R.1.2.2.1
        have g1' : ∀ q, (fC σ q) 67 4 = σ 67 4 := fun q => by rw [fC_n (by decide) (by decide)]
        rcases e2 with hz | ⟨m, hm, hz⟩
        · have q : (-1 : Int32) < 0 := by decide
          refine Or.inl ⟨-3, fC σ 1, fR (fC σ 1) 1, by decide, ?_, ?_, Rel_f R 1, g1' 1⟩
          · simp only [Nat.reduceAdd, i5_refusalOfSeen_0, i5_refusalOfSeen_1, i5_refusalOfSeen_4, i5_refusalOfSeen_7, i5_refusalOfSeen_10, i5_refusalOfSeen_12, i5_refusalOfSeen_13, i5_refusalOfSeen_14, i5_refusalOfSeen_17, i5_refusalOfSeen_18, i5_refusalOfSeen_21, i5_refusalOfSeen_24, i5_refusalOfSeen_25, i5_refusalOfSeen_28, i5_refusalOfSeen_31, i5_refusalOfSeen_32, i5_refusalOfSeen_35, i5_refusalOfSeen_38, i5_refusalOfSeen_39, i5_refusalOfSeen_40, i5_refusalOfSeen_41, i5_refusalOfSeen_44, i5_refusalOfSeen_45_r1, i5_refusalOfSeen_45_r2, i5_refusalOfSeen_45_r11, i5_refusalOfSeen_46, i5_refusalOfSeen_48, i5_refusalOfSeen_50, i5_refusalOfSeen_53, i5_refusalOfSeen_56, i5_refusalOfSeen_57, i5_refusalOfSeen_58, i5_refusalOfSeen_61, i5_refusalOfSeen_62, i5_refusalOfSeen_64, i5_refusalOfSeen_67, i5_refusalOfSeen_68, i5_refusalOfSeen_71, i5_refusalOfSeen_73, i5_refusalOfSeen_76, i5_refusalOfSeen_78, i5_refusalOfSeen_81, i5_refusalOfSeen_82, i5_refusalOfSeen_83, i5_refusalOfSeen_86, i5_refusalOfSeen_87, i5_refusalOfSeen_88, i2_isThere_0, i2_isThere_1, i2_isThere_4, i2_isThere_5, i2_isThere_8, i2_isThere_9, i2_isThere_12, i2_isThere_13, s3_isThere R.1, h4_hasBasin R.1 h, s5_isRow, pK_i, bi_0, h, hb, hr, if_true, if_false, not_true_eq_false, not_false_eq_true, true_or, or_true, n10, k_3, k_4, hS, hC, ro_k hk, e1, hz, rf1]
          · simp only [Nat.reduceAdd, i6_refusedBy_0, i6_refusedBy_1, i6_refusedBy_4, i6_refusedBy_7, i6_refusedBy_9, i6_refusedBy_10, i6_refusedBy_11, i6_refusedBy_12, i6_refusedBy_15, i6_refusedBy_18, i6_refusedBy_19, i6_refusedBy_20, i6_refusedBy_23, i6_refusedBy_26, i6_refusedBy_27, i6_refusedBy_28, i6_refusedBy_31, i6_refusedBy_34, i6_refusedBy_35, i6_wrongRow_0, i6_wrongRow_1, i6_wrongRow_4, i6_wrongRow_5, i6_wrongRow_6, i6_wrongRow_9, i6_wrongRow_10, i6_wrongRow_11, i6_wrongRow_14, i6_wrongRow_15, i6_wrongRow_16, i6_wrongRow_19, i6_wrongRow_20, i6_wrongRow_21, i6_wrongRow_22, i6_wrongRow_24, i6_wrongRow_27, i6_wrongRow_30, i6_wrongRow_31, i6_wrongRow_32, i6_wrongRow_35, i6_wrongRow_36, i6_wrongRow_37, g1, gN0 hg6, s6_isBasin (g1 1) hg6, s6_isRow, fC_n (σ := σ) (q := 1) (show 68 ≠ 0 by decide) (show 68 ≠ 22 by decide), k_68, l_68, hS, hC, hz, q, fd1, pK_i, bi_0, h, hb, hr, if_true, if_false, not_true_eq_false, not_false_eq_true, true_or, or_true]
        · have q : ¬ nI m < 0 := nI_pos (by omega)
          have q2 : ¬ nI m = -1 := fun e => q (by rw [e]; decide)
          by_cases m0 : m = 0
          · subst m0
            have q1 : nI 0 < 1 := by decide
            refine Or.inl ⟨-3, fC σ 5, fR (fC σ 5) 5, by decide, ?_, ?_, Rel_f R 5, g1' 5⟩
            · simp only [Nat.reduceAdd, i5_refusalOfSeen_0, i5_refusalOfSeen_1, i5_refusalOfSeen_4, i5_refusalOfSeen_7, i5_refusalOfSeen_10, i5_refusalOfSeen_12, i5_refusalOfSeen_13, i5_refusalOfSeen_14, i5_refusalOfSeen_17, i5_refusalOfSeen_18, i5_refusalOfSeen_21, i5_refusalOfSeen_24, i5_refusalOfSeen_25, i5_refusalOfSeen_28, i5_refusalOfSeen_31, i5_refusalOfSeen_32, i5_refusalOfSeen_35, i5_refusalOfSeen_38, i5_refusalOfSeen_39, i5_refusalOfSeen_40, i5_refusalOfSeen_41, i5_refusalOfSeen_44, i5_refusalOfSeen_45_r1, i5_refusalOfSeen_45_r2, i5_refusalOfSeen_45_r11, i5_refusalOfSeen_46, i5_refusalOfSeen_48, i5_refusalOfSeen_50, i5_refusalOfSeen_53, i5_refusalOfSeen_56, i5_refusalOfSeen_57, i5_refusalOfSeen_58, i5_refusalOfSeen_61, i5_refusalOfSeen_62, i5_refusalOfSeen_64, i5_refusalOfSeen_67, i5_refusalOfSeen_68, i5_refusalOfSeen_71, i5_refusalOfSeen_73, i5_refusalOfSeen_76, i5_refusalOfSeen_78, i5_refusalOfSeen_81, i5_refusalOfSeen_82, i5_refusalOfSeen_83, i5_refusalOfSeen_86, i5_refusalOfSeen_87, i5_refusalOfSeen_88, i2_isThere_0, i2_isThere_1, i2_isThere_4, i2_isThere_5, i2_isThere_8, i2_isThere_9, i2_isThere_12, i2_isThere_13, s3_isThere R.1, h4_hasBasin R.1 h, s5_isRow, pK_i, bi_0, h, hb, hr, if_true, if_false, not_true_eq_false, not_false_eq_true, true_or, or_true, n10, k_3, k_4, hS, hC, ro_k hk, e1, hz, q2, q1, rf5]
            · simp only [Nat.reduceAdd, i6_refusedBy_0, i6_refusedBy_1, i6_refusedBy_4, i6_refusedBy_7, i6_refusedBy_9, i6_refusedBy_10, i6_refusedBy_11, i6_refusedBy_12, i6_refusedBy_15, i6_refusedBy_18, i6_refusedBy_19, i6_refusedBy_20, i6_refusedBy_23, i6_refusedBy_26, i6_refusedBy_27, i6_refusedBy_28, i6_refusedBy_31, i6_refusedBy_34, i6_refusedBy_35, i6_wrongRow_0, i6_wrongRow_1, i6_wrongRow_4, i6_wrongRow_5, i6_wrongRow_6, i6_wrongRow_9, i6_wrongRow_10, i6_wrongRow_11, i6_wrongRow_14, i6_wrongRow_15, i6_wrongRow_16, i6_wrongRow_19, i6_wrongRow_20, i6_wrongRow_21, i6_wrongRow_22, i6_wrongRow_24, i6_wrongRow_27, i6_wrongRow_30, i6_wrongRow_31, i6_wrongRow_32, i6_wrongRow_35, i6_wrongRow_36, i6_wrongRow_37, g1, gN0 hg6, s6_isBasin (g1 5) hg6, s6_isRow, s6_in, fC_n (σ := σ) (q := 5) (show 68 ≠ 0 by decide) (show 68 ≠ 22 by decide), k_68, l_68, hS, hC, hz, q, q1, fd5, pK_i, bi_0, h, hb, hr, if_true, if_false, not_true_eq_false, not_false_eq_true, true_or, or_true, false_and]
          · have q1 : (nI m < 1) = False := nnl (a := m) (b := 1) (by omega) (by omega)
            by_cases m10 : 10 < m
            · have q3 : ((10 : Int32) < nI m) = True := nlt (a := 10) m10 (by omega)
              refine Or.inl ⟨-3, fC σ 5, fR (fC σ 5) 5, by decide, ?_, ?_, Rel_f R 5, g1' 5⟩
              · simp only [Nat.reduceAdd, i5_refusalOfSeen_0, i5_refusalOfSeen_1, i5_refusalOfSeen_4, i5_refusalOfSeen_7, i5_refusalOfSeen_10, i5_refusalOfSeen_12, i5_refusalOfSeen_13, i5_refusalOfSeen_14, i5_refusalOfSeen_17, i5_refusalOfSeen_18, i5_refusalOfSeen_21, i5_refusalOfSeen_24, i5_refusalOfSeen_25, i5_refusalOfSeen_28, i5_refusalOfSeen_31, i5_refusalOfSeen_32, i5_refusalOfSeen_35, i5_refusalOfSeen_38, i5_refusalOfSeen_39, i5_refusalOfSeen_40, i5_refusalOfSeen_41, i5_refusalOfSeen_44, i5_refusalOfSeen_45_r1, i5_refusalOfSeen_45_r2, i5_refusalOfSeen_45_r11, i5_refusalOfSeen_46, i5_refusalOfSeen_48, i5_refusalOfSeen_50, i5_refusalOfSeen_53, i5_refusalOfSeen_56, i5_refusalOfSeen_57, i5_refusalOfSeen_58, i5_refusalOfSeen_61, i5_refusalOfSeen_62, i5_refusalOfSeen_64, i5_refusalOfSeen_67, i5_refusalOfSeen_68, i5_refusalOfSeen_71, i5_refusalOfSeen_73, i5_refusalOfSeen_76, i5_refusalOfSeen_78, i5_refusalOfSeen_81, i5_refusalOfSeen_82, i5_refusalOfSeen_83, i5_refusalOfSeen_86, i5_refusalOfSeen_87, i5_refusalOfSeen_88, i2_isThere_0, i2_isThere_1, i2_isThere_4, i2_isThere_5, i2_isThere_8, i2_isThere_9, i2_isThere_12, i2_isThere_13, s3_isThere R.1, h4_hasBasin R.1 h, s5_isRow, pK_i, bi_0, h, hb, hr, if_true, if_false, not_true_eq_false, not_false_eq_true, true_or, or_true, n10, k_3, k_4, hS, hC, ro_k hk, e1, hz, q2, q1, q3, rf5]
              · simp only [Nat.reduceAdd, i6_refusedBy_0, i6_refusedBy_1, i6_refusedBy_4, i6_refusedBy_7, i6_refusedBy_9, i6_refusedBy_10, i6_refusedBy_11, i6_refusedBy_12, i6_refusedBy_15, i6_refusedBy_18, i6_refusedBy_19, i6_refusedBy_20, i6_refusedBy_23, i6_refusedBy_26, i6_refusedBy_27, i6_refusedBy_28, i6_refusedBy_31, i6_refusedBy_34, i6_refusedBy_35, i6_wrongRow_0, i6_wrongRow_1, i6_wrongRow_4, i6_wrongRow_5, i6_wrongRow_6, i6_wrongRow_9, i6_wrongRow_10, i6_wrongRow_11, i6_wrongRow_14, i6_wrongRow_15, i6_wrongRow_16, i6_wrongRow_19, i6_wrongRow_20, i6_wrongRow_21, i6_wrongRow_22, i6_wrongRow_24, i6_wrongRow_27, i6_wrongRow_30, i6_wrongRow_31, i6_wrongRow_32, i6_wrongRow_35, i6_wrongRow_36, i6_wrongRow_37, g1, gN0 hg6, s6_isBasin (g1 5) hg6, s6_isRow, s6_in, fC_n (σ := σ) (q := 5) (show 68 ≠ 0 by decide) (show 68 ≠ 22 by decide), k_68, l_68, hS, hC, hz, q, q1, q3, fd5, pK_i, bi_0, h, hb, hr, if_true, if_false, not_true_eq_false, not_false_eq_true, true_or, or_true, and_false]
            · have q3 : ((10 : Int32) < nI m) = False := nnl (a := 10) (b := m) (by omega) (by omega)
              have sC := seenC (L := L) (xs := xs) (τ := τ) (S := S) hk (e1.trans hz) hm (b := nI bj) (r := nI k)
              have ew : (∀ t, t < m → inb (σ (23 + 2 * k + 1) t) 61) = (∀ t, t < m → inb (σ 69 (40 * k + t)) 61) := propext ⟨fun q t ht => by rw [← e3 t (by omega)]; exact q t ht, fun q t ht => by rw [e3 t (by omega)]; exact q t ht⟩
              rw [ew] at sC
              by_cases hall : ∀ t, t < m → inb (σ 69 (40 * k + t)) 61
              · have pC := sC.1 hall
                refine Or.inr ⟨h, bj, k, m, by omega, rfl, hk, rfl, hz, by omega, by omega, ?_, fun σ' τ' a1 a2 a3 => ?_⟩
                · simp only [Nat.reduceAdd, i5_refusalOfSeen_0, i5_refusalOfSeen_1, i5_refusalOfSeen_4, i5_refusalOfSeen_7, i5_refusalOfSeen_10, i5_refusalOfSeen_12, i5_refusalOfSeen_13, i5_refusalOfSeen_14, i5_refusalOfSeen_17, i5_refusalOfSeen_18, i5_refusalOfSeen_21, i5_refusalOfSeen_24, i5_refusalOfSeen_25, i5_refusalOfSeen_28, i5_refusalOfSeen_31, i5_refusalOfSeen_32, i5_refusalOfSeen_35, i5_refusalOfSeen_38, i5_refusalOfSeen_39, i5_refusalOfSeen_40, i5_refusalOfSeen_41, i5_refusalOfSeen_44, i5_refusalOfSeen_45_r1, i5_refusalOfSeen_45_r2, i5_refusalOfSeen_45_r11, i5_refusalOfSeen_46, i5_refusalOfSeen_48, i5_refusalOfSeen_50, i5_refusalOfSeen_53, i5_refusalOfSeen_56, i5_refusalOfSeen_57, i5_refusalOfSeen_58, i5_refusalOfSeen_61, i5_refusalOfSeen_62, i5_refusalOfSeen_64, i5_refusalOfSeen_67, i5_refusalOfSeen_68, i5_refusalOfSeen_71, i5_refusalOfSeen_73, i5_refusalOfSeen_76, i5_refusalOfSeen_78, i5_refusalOfSeen_81, i5_refusalOfSeen_82, i5_refusalOfSeen_83, i5_refusalOfSeen_86, i5_refusalOfSeen_87, i5_refusalOfSeen_88, i2_isThere_0, i2_isThere_1, i2_isThere_4, i2_isThere_5, i2_isThere_8, i2_isThere_9, i2_isThere_12, i2_isThere_13, s3_isThere R.1, h4_hasBasin R.1 h, s5_isRow, pK_i, bi_0, h, hb, hr, if_true, if_false, not_true_eq_false, not_false_eq_true, true_or, or_true, n10, k_3, k_4, hS, hC, ro_k hk, e1, hz, q2, q1, q3, pC]
                · have g2 : σ' 67 4 = nI g := a1.trans R.1.2.2.1
                  have pR := (seenR (L := L) (xs := xs) (σ := σ') (τ := τ') (S := S) hk (by rw [a2]; exact hz) hm).1 (by rw [a3]; exact hall)
                  simp only [Nat.reduceAdd, i6_refusedBy_0, i6_refusedBy_1, i6_refusedBy_4, i6_refusedBy_7, i6_refusedBy_9, i6_refusedBy_10, i6_refusedBy_11, i6_refusedBy_12, i6_refusedBy_15, i6_refusedBy_18, i6_refusedBy_19, i6_refusedBy_20, i6_refusedBy_23, i6_refusedBy_26, i6_refusedBy_27, i6_refusedBy_28, i6_refusedBy_31, i6_refusedBy_34, i6_refusedBy_35, i6_wrongRow_0, i6_wrongRow_1, i6_wrongRow_4, i6_wrongRow_5, i6_wrongRow_6, i6_wrongRow_9, i6_wrongRow_10, i6_wrongRow_11, i6_wrongRow_14, i6_wrongRow_15, i6_wrongRow_16, i6_wrongRow_19, i6_wrongRow_20, i6_wrongRow_21, i6_wrongRow_22, i6_wrongRow_24, i6_wrongRow_27, i6_wrongRow_30, i6_wrongRow_31, i6_wrongRow_32, i6_wrongRow_35, i6_wrongRow_36, i6_wrongRow_37, g2, gN0 hg6, s6_isBasin g2 hg6, s6_isRow, s6_in, a2, k_68, l_68, hS, hC, hz, q, q1, q3, pR, pK_i, bi_0, h, hb, hr, if_true, if_false, not_true_eq_false, not_false_eq_true, true_or, or_true, and_self]
              · have pC := sC.2 hall
                have pR := (seenR (L := L) (xs := xs) (σ := fC σ 3) (τ := τ) (S := S) hk (by rw [fC_n (by decide) (by decide)]; exact hz) hm).2 (by rw [fC_n (by decide) (by decide)]; exact hall)
                refine Or.inl ⟨-3, fC σ 3, fR (fC σ 3) 3, by decide, ?_, ?_, Rel_f R 3, g1' 3⟩
                · simp only [Nat.reduceAdd, i5_refusalOfSeen_0, i5_refusalOfSeen_1, i5_refusalOfSeen_4, i5_refusalOfSeen_7, i5_refusalOfSeen_10, i5_refusalOfSeen_12, i5_refusalOfSeen_13, i5_refusalOfSeen_14, i5_refusalOfSeen_17, i5_refusalOfSeen_18, i5_refusalOfSeen_21, i5_refusalOfSeen_24, i5_refusalOfSeen_25, i5_refusalOfSeen_28, i5_refusalOfSeen_31, i5_refusalOfSeen_32, i5_refusalOfSeen_35, i5_refusalOfSeen_38, i5_refusalOfSeen_39, i5_refusalOfSeen_40, i5_refusalOfSeen_41, i5_refusalOfSeen_44, i5_refusalOfSeen_45_r1, i5_refusalOfSeen_45_r2, i5_refusalOfSeen_45_r11, i5_refusalOfSeen_46, i5_refusalOfSeen_48, i5_refusalOfSeen_50, i5_refusalOfSeen_53, i5_refusalOfSeen_56, i5_refusalOfSeen_57, i5_refusalOfSeen_58, i5_refusalOfSeen_61, i5_refusalOfSeen_62, i5_refusalOfSeen_64, i5_refusalOfSeen_67, i5_refusalOfSeen_68, i5_refusalOfSeen_71, i5_refusalOfSeen_73, i5_refusalOfSeen_76, i5_refusalOfSeen_78, i5_refusalOfSeen_81, i5_refusalOfSeen_82, i5_refusalOfSeen_83, i5_refusalOfSeen_86, i5_refusalOfSeen_87, i5_refusalOfSeen_88, i2_isThere_0, i2_isThere_1, i2_isThere_4, i2_isThere_5, i2_isThere_8, i2_isThere_9, i2_isThere_12, i2_isThere_13, s3_isThere R.1, h4_hasBasin R.1 h, s5_isRow, pK_i, bi_0, h, hb, hr, if_true, if_false, not_true_eq_false, not_false_eq_true, true_or, or_true, n10, k_3, k_4, hS, hC, ro_k hk, e1, hz, q2, q1, q3, pC]
                · simp only [Nat.reduceAdd, i6_refusedBy_0, i6_refusedBy_1, i6_refusedBy_4, i6_refusedBy_7, i6_refusedBy_9, i6_refusedBy_10, i6_refusedBy_11, i6_refusedBy_12, i6_refusedBy_15, i6_refusedBy_18, i6_refusedBy_19, i6_refusedBy_20, i6_refusedBy_23, i6_refusedBy_26, i6_refusedBy_27, i6_refusedBy_28, i6_refusedBy_31, i6_refusedBy_34, i6_refusedBy_35, i6_wrongRow_0, i6_wrongRow_1, i6_wrongRow_4, i6_wrongRow_5, i6_wrongRow_6, i6_wrongRow_9, i6_wrongRow_10, i6_wrongRow_11, i6_wrongRow_14, i6_wrongRow_15, i6_wrongRow_16, i6_wrongRow_19, i6_wrongRow_20, i6_wrongRow_21, i6_wrongRow_22, i6_wrongRow_24, i6_wrongRow_27, i6_wrongRow_30, i6_wrongRow_31, i6_wrongRow_32, i6_wrongRow_35, i6_wrongRow_36, i6_wrongRow_37, g1, gN0 hg6, s6_isBasin (g1 3) hg6, s6_isRow, s6_in, fC_n (σ := σ) (q := 3) (show 68 ≠ 0 by decide) (show 68 ≠ 22 by decide), k_68, l_68, hS, hC, hz, q, q1, q3, pR, pK_i, bi_0, h, hb, hr, if_true, if_false, not_true_eq_false, not_false_eq_true, true_or, or_true, and_self]
      · refine Or.inl ⟨-1, σ, σ, by decide, ?_, ?_, R, rfl⟩
        · simp only [Nat.reduceAdd, i5_refusalOfSeen_0, i5_refusalOfSeen_1, i5_refusalOfSeen_4, i5_refusalOfSeen_7, i5_refusalOfSeen_10, i5_refusalOfSeen_12, i5_refusalOfSeen_13, i5_refusalOfSeen_14, i5_refusalOfSeen_17, i5_refusalOfSeen_18, i5_refusalOfSeen_21, i5_refusalOfSeen_24, i5_refusalOfSeen_25, i5_refusalOfSeen_28, i5_refusalOfSeen_31, i5_refusalOfSeen_32, i5_refusalOfSeen_35, i5_refusalOfSeen_38, i5_refusalOfSeen_39, i5_refusalOfSeen_40, i5_refusalOfSeen_41, i5_refusalOfSeen_44, i5_refusalOfSeen_45_r1, i5_refusalOfSeen_45_r2, i5_refusalOfSeen_45_r11, i5_refusalOfSeen_46, i5_refusalOfSeen_48, i5_refusalOfSeen_50, i5_refusalOfSeen_53, i5_refusalOfSeen_56, i5_refusalOfSeen_57, i5_refusalOfSeen_58, i5_refusalOfSeen_61, i5_refusalOfSeen_62, i5_refusalOfSeen_64, i5_refusalOfSeen_67, i5_refusalOfSeen_68, i5_refusalOfSeen_71, i5_refusalOfSeen_73, i5_refusalOfSeen_76, i5_refusalOfSeen_78, i5_refusalOfSeen_81, i5_refusalOfSeen_82, i5_refusalOfSeen_83, i5_refusalOfSeen_86, i5_refusalOfSeen_87, i5_refusalOfSeen_88, s3_isThere R.1, h4_hasBasin R.1 h, s5_isRow, pK_i, bi_0, h, hb, hr, if_true, if_false, not_true_eq_false, not_false_eq_true, true_or, or_true, n10, k_3, k_4]
        · simp only [Nat.reduceAdd, i6_refusedBy_0, i6_refusedBy_1, i6_refusedBy_4, i6_refusedBy_7, i6_refusedBy_9, i6_refusedBy_10, i6_refusedBy_11, i6_refusedBy_12, i6_refusedBy_15, i6_refusedBy_18, i6_refusedBy_19, i6_refusedBy_20, i6_refusedBy_23, i6_refusedBy_26, i6_refusedBy_27, i6_refusedBy_28, i6_refusedBy_31, i6_refusedBy_34, i6_refusedBy_35, R.1.2.2.1, gN0 hg6, s6_isBasin R.1.2.2.1 hg6, s6_isRow, pK_i, bi_0, h, hb, hr, if_true, if_false, not_true_eq_false, not_false_eq_true, true_or, or_true]
    · refine Or.inl ⟨-1, σ, σ, by decide, ?_, ?_, R, rfl⟩
      · simp only [Nat.reduceAdd, i5_refusalOfSeen_0, i5_refusalOfSeen_1, i5_refusalOfSeen_4, i5_refusalOfSeen_7, i5_refusalOfSeen_10, i5_refusalOfSeen_12, i5_refusalOfSeen_13, i5_refusalOfSeen_14, i5_refusalOfSeen_17, i5_refusalOfSeen_18, i5_refusalOfSeen_21, i5_refusalOfSeen_24, i5_refusalOfSeen_25, i5_refusalOfSeen_28, i5_refusalOfSeen_31, i5_refusalOfSeen_32, i5_refusalOfSeen_35, i5_refusalOfSeen_38, i5_refusalOfSeen_39, i5_refusalOfSeen_40, i5_refusalOfSeen_41, i5_refusalOfSeen_44, i5_refusalOfSeen_45_r1, i5_refusalOfSeen_45_r2, i5_refusalOfSeen_45_r11, i5_refusalOfSeen_46, i5_refusalOfSeen_48, i5_refusalOfSeen_50, i5_refusalOfSeen_53, i5_refusalOfSeen_56, i5_refusalOfSeen_57, i5_refusalOfSeen_58, i5_refusalOfSeen_61, i5_refusalOfSeen_62, i5_refusalOfSeen_64, i5_refusalOfSeen_67, i5_refusalOfSeen_68, i5_refusalOfSeen_71, i5_refusalOfSeen_73, i5_refusalOfSeen_76, i5_refusalOfSeen_78, i5_refusalOfSeen_81, i5_refusalOfSeen_82, i5_refusalOfSeen_83, i5_refusalOfSeen_86, i5_refusalOfSeen_87, i5_refusalOfSeen_88, s3_isThere R.1, h4_hasBasin R.1 h, pK_i, bi_0, h, hb, if_true, if_false, not_true_eq_false, not_false_eq_true, true_or, or_true, n10, k_3, k_4]
      · simp only [Nat.reduceAdd, i6_refusedBy_0, i6_refusedBy_1, i6_refusedBy_4, i6_refusedBy_7, i6_refusedBy_9, i6_refusedBy_10, i6_refusedBy_11, i6_refusedBy_12, i6_refusedBy_15, i6_refusedBy_18, i6_refusedBy_19, i6_refusedBy_20, i6_refusedBy_23, i6_refusedBy_26, i6_refusedBy_27, i6_refusedBy_28, i6_refusedBy_31, i6_refusedBy_34, i6_refusedBy_35, R.1.2.2.1, gN0 hg6, s6_isBasin R.1.2.2.1 hg6, pK_i, bi_0, h, hb, if_true, if_false, not_true_eq_false, not_false_eq_true, true_or, or_true]
  · refine Or.inl ⟨-4, σ, σ, by decide, ?_, ?_, R, rfl⟩
    · simp only [Nat.reduceAdd, i5_refusalOfSeen_0, i5_refusalOfSeen_1, i5_refusalOfSeen_4, i5_refusalOfSeen_7, i5_refusalOfSeen_10, i5_refusalOfSeen_12, i5_refusalOfSeen_13, i5_refusalOfSeen_14, i5_refusalOfSeen_17, i5_refusalOfSeen_18, i5_refusalOfSeen_21, i5_refusalOfSeen_24, i5_refusalOfSeen_25, i5_refusalOfSeen_28, i5_refusalOfSeen_31, i5_refusalOfSeen_32, i5_refusalOfSeen_35, i5_refusalOfSeen_38, i5_refusalOfSeen_39, i5_refusalOfSeen_40, i5_refusalOfSeen_41, i5_refusalOfSeen_44, i5_refusalOfSeen_45_r1, i5_refusalOfSeen_45_r2, i5_refusalOfSeen_45_r11, i5_refusalOfSeen_46, i5_refusalOfSeen_48, i5_refusalOfSeen_50, i5_refusalOfSeen_53, i5_refusalOfSeen_56, i5_refusalOfSeen_57, i5_refusalOfSeen_58, i5_refusalOfSeen_61, i5_refusalOfSeen_62, i5_refusalOfSeen_64, i5_refusalOfSeen_67, i5_refusalOfSeen_68, i5_refusalOfSeen_71, i5_refusalOfSeen_73, i5_refusalOfSeen_76, i5_refusalOfSeen_78, i5_refusalOfSeen_81, i5_refusalOfSeen_82, i5_refusalOfSeen_83, i5_refusalOfSeen_86, i5_refusalOfSeen_87, i5_refusalOfSeen_88, s3_isThere R.1, pK_i, bi_0, h, if_true, if_false, not_true_eq_false, not_false_eq_true, true_or, or_true, k_3, k_4]
    · simp only [Nat.reduceAdd, i6_refusedBy_0, i6_refusedBy_1, i6_refusedBy_4, i6_refusedBy_7, i6_refusedBy_9, i6_refusedBy_10, i6_refusedBy_11, i6_refusedBy_12, i6_refusedBy_15, i6_refusedBy_18, i6_refusedBy_19, i6_refusedBy_20, i6_refusedBy_23, i6_refusedBy_26, i6_refusedBy_27, i6_refusedBy_28, i6_refusedBy_31, i6_refusedBy_34, i6_refusedBy_35, R.1.2.2.1, gN0 hg6, pK_i, h, if_true, if_false, not_true_eq_false, not_false_eq_true, true_or, or_true]
/-- the aside stand is on as a row tells -/
theorem asC (hg6 : g ≤ 6) (h : sok g K W f) (hA : AS σ g K W f 0 σj) {b k : Nat} (hb : b ≤ g) (hk : k < 6) (hz : σ (23 + 2 * k) 1 = nI m) (hm : m ≤ 40) : ∃ σ', pX 105 0 [.ref 0, .int (nI b), .ref (23 + 2 * k), .null] [] (mm L xs σj τ) 85 S = some (some (.int (bi (soR K W g f b (σ (23 + 2 * k + 1)) m))), mm L xs σ' τ, 85, S) ∧ (∃ i, AS σ g K W f i σ') ∧ (soR K W g f b (σ (23 + 2 * k + 1)) m → AS σ g K W f m σ') := by
  have key := lq (δ := Nat → Nat → Int32) m (fun j e => AS σ g K W f j e ∧ ∀ i, i < j → rR K W g f (i + 1) b = σ (23 + 2 * k + 1) i) (fun j e => pX 105 2 [.ref 0, .int (nI b), .ref (23 + 2 * k), .int (nI j)] [] (mm L xs e τ) 85 S) (fun o => ∃ σ', o = some (some (.int (bi (soR K W g f b (σ (23 + 2 * k + 1)) m))), mm L xs σ' τ, 85, S) ∧ (∃ i, AS σ g K W f i σ') ∧ (soR K W g f b (σ (23 + 2 * k + 1)) m → AS σ g K W f m σ')) (fun e he => ⟨e, by
    have hz' : e (23 + 2 * k) 1 = nI m := by rw [he.1.2.1 _ (by omega)]; exact hz
    have hs : soR K W g f b (σ (23 + 2 * k + 1)) m := he.2
    rw [bi_t hs]
    simp only [Nat.reduceAdd, i5_asideStandsAs_2, i5_asideStandsAs_3, i5_asideStandsAs_4, i5_asideStandsAs_7, i5_asideStandsAs_45, i5_asideStandsAs_46, ro_k hk, hz', Int32.lt_irrefl, if_false, or_true], ⟨m, he.1⟩, fun _ => he.1⟩) (fun j hj e he => by
    have hz' : e (23 + 2 * k) 1 = nI m := by rw [he.1.2.1 _ (by omega)]; exact hz
    obtain ⟨σ', p, q⟩ := AS_step (L := L) (xs := xs) (τ := τ) (S := S) hg6 h he.1
    have hp : σ' (23 + 2 * k + 1) = σ (23 + 2 * k + 1) := q.2.1 _ (by omega)
    have hl := q.2.2.2.2.2.2 b hb
    by_cases w : rR K W g f (j + 1) b = σ (23 + 2 * k + 1) j
    · refine Or.inr ⟨σ', ⟨q, fun i hi => ?_⟩, ?_⟩
      · by_cases e : i = j
        · subst e; exact w
        · exact he.2 i (by omega)
      · rw [i5_asideStandsAs_2]
        simp only [Nat.reduceAdd, i5_asideStandsAs_3, i5_asideStandsAs_4, i5_asideStandsAs_7, i5_asideStandsAs_10, i5_asideStandsAs_11, i5_asideStandsAs_14, i5_asideStandsAs_15, i5_asideStandsAs_18, i5_asideStandsAs_19, i5_asideStandsAs_20, i5_asideStandsAs_23, i5_asideStandsAs_26, i5_asideStandsAs_27, i5_asideStandsAs_28, i5_asideStandsAs_29, i5_asideStandsAs_32, i5_asideStandsAs_33, i5_asideStandsAs_34, i5_asideStandsAs_37, i5_asideStandsAs_38, i5_asideStandsAs_39, i5_asideStandsAs_42, i5_asideStandsAs_45, i5_asideStandsAs_46, k_12, k_15, l_15, ro_k hk, ro_p hk, ro_l hk, hz', nlt hj (by omega), ifb_i (show b < 7 by omega) (by decide), ifb_i (show j < 40 by omega) (by decide), cl (show b ≤ 5000 by omega), cl (show j ≤ 5000 by omega), p, hp, hl, w, pK_i, if_true, if_false, not_true_eq_false, not_false_eq_true, true_or, or_true, nI_1]
    · refine Or.inl ⟨σ', ?_, ⟨j + 1, q⟩, fun hs => absurd (hs j hj) w⟩
      rw [bi_f (show ¬ soR K W g f b (σ (23 + 2 * k + 1)) m from fun hs => w (hs j hj))]
      rw [i5_asideStandsAs_2]
      simp only [Nat.reduceAdd, i5_asideStandsAs_3, i5_asideStandsAs_4, i5_asideStandsAs_7, i5_asideStandsAs_10, i5_asideStandsAs_11, i5_asideStandsAs_14, i5_asideStandsAs_15, i5_asideStandsAs_18, i5_asideStandsAs_19, i5_asideStandsAs_20, i5_asideStandsAs_23, i5_asideStandsAs_26, i5_asideStandsAs_27, i5_asideStandsAs_28, i5_asideStandsAs_29, i5_asideStandsAs_32, i5_asideStandsAs_33, i5_asideStandsAs_34, i5_asideStandsAs_37, i5_asideStandsAs_38, i5_asideStandsAs_39, i5_asideStandsAs_42, i5_asideStandsAs_45, i5_asideStandsAs_46, k_12, k_15, l_15, ro_k hk, ro_p hk, ro_l hk, hz', nlt hj (by omega), ifb_i (show b < 7 by omega) (by decide), ifb_i (show j < 40 by omega) (by decide), cl (show b ≤ 5000 by omega), cl (show j ≤ 5000 by omega), p, hp, hl, w, pK_i, if_true, if_false, not_true_eq_false, not_false_eq_true, true_or, or_true])
  have k1 := key σj ⟨hA, fun i hi => absurd hi (by omega)⟩
  rw [nI_0] at k1
  simp only [i5_asideStandsAs_0, i5_asideStandsAs_1]
  exact k1
/-- other gates are open -/
theorem AS_op (hg6 : g ≤ 6) {op : Int32} (hA : AS σ g K W f 0 σj) : AS σ g K W (upd f 7 op) 0 (va_up σj 12 (upd (σj 12) 4 op)) := by
  obtain ⟨a1, a0, a2, a3, a4, a5, a6⟩ := hA
  refine ⟨agr_u a1 (by unfold scr; omega), fun c hc => ?_, ?_, ?_, ?_, fun i hi => ?_, fun b hb => ?_⟩
  · rw [vn (by omega)]; exact a0 c hc
  · rw [vs, un (by decide)]; exact a2
  · rw [vs, us, us]
  · rw [vs, un (by decide), un (by decide)]; exact a4
  · rw [vn (by decide), vn (by decide)]; exact a5 i hi
  · rw [vn (by decide)]
    show σj 15 b = upd f 7 op b
    rw [un (by omega)]; exact a6 b hb
theorem sok_op (hg6 : g ≤ 6) {op : Int32} (h : sok g K W f) : sok g K W (upd f 7 op) := ⟨h.1, fun b hb => by rw [un (by omega)]; exact h.2 b hb⟩
/-- the sets that fit -/
def psn (σ : Nat → Nat → Int32) (g b k m s : Nat) : Prop := nI s &&& wr (σ 72) g = 0 ∧ ∀ i, i < m → wat σ g (nI s) (i + 1) b = σ 69 (40 * k + i)
def lvq (σ : Nat → Nat → Int32) (g m : Nat) (P : Nat → Prop) (x : Nat → Int32) (s : Nat) : Prop := ∀ t, t < s → P t → ∀ c, c ≤ g → x (7 * cntP P t + c) = wat σ g (nI t) m c
theorem fsC (R : Rel g d σ τ) {b k : Nat} (hb : b ≤ g) (hk : k < 6) (hz : σ 68 k = nI m) (hm : m ≤ 40) : ∃ σ', pX 106 0 [.ref 0, .int (nI b), .ref (23 + 2 * k), .null, .null] [] (mm L xs σ τ) 85 S = some (none, mm L xs σ' τ, 85, S) ∧ agr σ σ' ∧ σ' 16 3 = nI (cntP (psn σ g b k m) (2 ^ g)) ∧ lstq (psn σ g b k m) (σ' 17) (2 ^ g) ∧ lvq σ g m (psn σ g b k m) (σ' 18) (2 ^ g) := by
  have r := R.1
  have hg6 := r.1
  obtain ⟨p64, p0⟩ := p2_64 hg6
  obtain ⟨e1, _, e3⟩ := R.2.2.2.1 k hk
  have key := lq (δ := Nat → Nat → Int32) (2 ^ g) (fun s e => agr σ e ∧ e 16 3 = nI (cntP (psn σ g b k m) s) ∧ lstq (psn σ g b k m) (e 17) s ∧ lvq σ g m (psn σ g b k m) (e 18) s) (fun s e => pX 106 21 [.ref 0, .int (nI b), .ref (23 + 2 * k), .int (wr (σ 72) g), .int (nI s)] [] (mm L xs e τ) 85 S) (fun o => ∃ σ', o = some (none, mm L xs σ' τ, 85, S) ∧ agr σ σ' ∧ σ' 16 3 = nI (cntP (psn σ g b k m) (2 ^ g)) ∧ lstq (psn σ g b k m) (σ' 17) (2 ^ g) ∧ lvq σ g m (psn σ g b k m) (σ' 18) (2 ^ g)) (fun e he => ⟨e, by
    have al := s4_allGates (L := L) (xs := xs) (σ := e) (τ := τ) (S := S) a_4 (qN_agr he.1 r).2.1 hg6
    simp only [Nat.reduceAdd, i5_findSetsBySeen_21, i5_findSetsBySeen_23, i5_findSetsBySeen_24, i5_findSetsBySeen_27, i5_findSetsBySeen_30, i5_findSetsBySeen_33, i5_findSetsBySeen_100, k_3, k_4, al, pK_i, ag_lt hg6 (show 2 ^ g ≤ 5000 by omega), Nat.lt_irrefl, not_false_eq_true, if_true], he⟩) (fun s hs e he => Or.inr (by
    obtain ⟨ha, hn, hl, hv⟩ := he
    have r' := qN_agr ha r
    have al := s4_allGates (L := L) (xs := xs) (σ := e) (τ := τ) (S := S) a_4 r'.2.1 hg6
    have lt := ag_lt hg6 (show s ≤ 5000 by omega)
    have c64 : cntP (psn σ g b k m) s < 64 := Nat.lt_of_le_of_lt (cnt_le _ s) (by omega)
    have e72 : e 72 = σ 72 := ha.1 72 (by unfold scr; omega) (by decide)
    have e73 : e 73 = σ 73 := ha.1 73 (by unfold scr; omega) (by decide)
    have e74 : e 74 = σ 74 := ha.1 74 (by unfold scr; omega) (by decide)
    have eR : e (23 + 2 * k) = σ (23 + 2 * k) := ha.1 _ (by unfold scr; omega) (by omega)
    have eP : e (23 + 2 * k + 1) = σ (23 + 2 * k + 1) := ha.1 _ (by unfold scr; omega) (by omega)
    by_cases h1 : nI s &&& wr (σ 72) g = 0
    · have so := sok_N r' (f := σ 74) (K := σ 72) (W := σ 73) (fun _ _ => by rw [e74]) (fun _ _ => by rw [e72, e73]; exact ⟨rfl, rfl⟩)
      have A0 := AS_0 r' (f := σ 74) (K := σ 72) (W := σ 73) (fun _ _ => by rw [e74]) (by rw [e74]) (by rw [e74]) (fun _ _ => by rw [e72, e73]; exact ⟨rfl, rfl⟩)
      have A1 := AS_op hg6 (op := nI s) A0
      obtain ⟨σ', p, ⟨i, q1⟩, q2⟩ := asC (L := L) (xs := xs) (τ := τ) (S := S) hg6 (sok_op hg6 (op := nI s) so) A1 hb hk (by rw [eR]; exact e1.trans hz) hm
      have hsw : soR (σ 72) (σ 73) g (upd (σ 74) 7 (nI s)) b (e (23 + 2 * k + 1)) m = ∀ i, i < m → wat σ g (nI s) (i + 1) b = σ 69 (40 * k + i) := by
        rw [eP]
        refine propext ⟨fun h i hi => ?_, fun h i hi => ?_⟩
        · rw [← e3 i (by omega)]; exact h i hi
        · rw [e3 i (by omega)]; exact h i hi
      rw [hsw] at p q2
      have ag' : agr σ σ' := agr_t ha q1.1
      have n16 : σ' 16 = e 16 := q1.2.1 16 (by omega)
      have n17 : σ' 17 = e 17 := q1.2.1 17 (by omega)
      have n18 : σ' 18 = e 18 := q1.2.1 18 (by omega)
      by_cases hw : ∀ i, i < m → wat σ g (nI s) (i + 1) b = σ 69 (40 * k + i)
      · have hp : psn σ g b k m s := ⟨h1, hw⟩
        have q3 := q2 hw
        have ad := s3_addWithLevels (L := L) (xs := xs) (σ := σ') (τ := τ) (S := S) (a := 15) (by rw [n16]; exact hn) c64 k_15 l_15 (v := nI s)
        rw [bi_t hw] at p
        refine ⟨va_up (va_up (va_up σ' 18 (va_cpy (σ' 15) (σ' 18) 0 (7 * cntP (psn σ g b k m) s) 7)) 17 (upd (σ' 17) (cntP (psn σ g b k m) s) (nI s))) 16 (upd (σ' 16) 3 (nI (cntP (psn σ g b k m) s + 1))), ⟨agr_u (agr_u (agr_u ag' (by unfold scr; omega)) (by unfold scr; omega)) (by unfold scr; omega), ?_, ?_, ?_⟩, ?_⟩
        rotate_left 3
        · rw [i5_findSetsBySeen_21]
          simp only [Nat.reduceAdd, i5_findSetsBySeen_23, i5_findSetsBySeen_24, i5_findSetsBySeen_27, i5_findSetsBySeen_30, i5_findSetsBySeen_33, i5_findSetsBySeen_36, i5_findSetsBySeen_38, i5_findSetsBySeen_39, i5_findSetsBySeen_40, i5_findSetsBySeen_43, i5_findSetsBySeen_46, i5_findSetsBySeen_47, i5_findSetsBySeen_50, i5_findSetsBySeen_51, i5_findSetsBySeen_54, i5_findSetsBySeen_57, i5_findSetsBySeen_60, i5_findSetsBySeen_61, i5_findSetsBySeen_64, i5_findSetsBySeen_66, i5_findSetsBySeen_69, i5_findSetsBySeen_70, i5_findSetsBySeen_71, i5_findSetsBySeen_72, i5_findSetsBySeen_75, i5_findSetsBySeen_78, i5_findSetsBySeen_79, i5_findSetsBySeen_82, i5_findSetsBySeen_84, i5_findSetsBySeen_85, i5_findSetsBySeen_88, i5_findSetsBySeen_91, i5_findSetsBySeen_94, i5_findSetsBySeen_97, k_3, k_4, k_12, al, s4_takeFrom a_12 a_4 (by decide), p, ad, pK_i, pK_v, n10, lt, hs, h1, if_true, if_false, not_true_eq_false, not_false_eq_true, true_or, or_true, nI_1]
        · rw [vs, us, cnt_t hp]
        · rw [vn (by decide), vs, n17]; exact lst_add hl hp
        · rw [vn (by decide), vn (by decide), vs]
          intro t ht ht2 c hc
          by_cases et : t = s
          · subst et
            rw [cpy_in _ _ (by omega), Nat.zero_add]
            exact q3.2.2.2.2.2.2 c hc
          · have cl := cnt_lt (P := psn σ g b k m) (show t < s by omega) ht2
            rw [cpy_out _ _ (by omega), n18]
            exact hv t (by omega) ht2 c hc
      · have hp : ¬ psn σ g b k m s := fun q => hw q.2
        refine ⟨σ', ⟨ag', ?_, ?_, ?_⟩, ?_⟩
        · rw [n16, cnt_f hp]; exact hn
        · rw [n17]; exact lst_skip hl hp
        · rw [n18]
          intro t ht ht2
          exact hv t (by
            have : t ≠ s := by rintro rfl; exact hp ht2
            omega) ht2
        · rw [i5_findSetsBySeen_21]
          rw [bi_f hw] at p
          simp only [Nat.reduceAdd, i5_findSetsBySeen_23, i5_findSetsBySeen_24, i5_findSetsBySeen_27, i5_findSetsBySeen_30, i5_findSetsBySeen_33, i5_findSetsBySeen_36, i5_findSetsBySeen_38, i5_findSetsBySeen_39, i5_findSetsBySeen_40, i5_findSetsBySeen_43, i5_findSetsBySeen_46, i5_findSetsBySeen_47, i5_findSetsBySeen_50, i5_findSetsBySeen_51, i5_findSetsBySeen_54, i5_findSetsBySeen_57, i5_findSetsBySeen_60, i5_findSetsBySeen_61, i5_findSetsBySeen_64, i5_findSetsBySeen_66, i5_findSetsBySeen_69, i5_findSetsBySeen_70, i5_findSetsBySeen_71, i5_findSetsBySeen_72, i5_findSetsBySeen_75, i5_findSetsBySeen_78, i5_findSetsBySeen_79, i5_findSetsBySeen_82, i5_findSetsBySeen_84, i5_findSetsBySeen_85, i5_findSetsBySeen_88, i5_findSetsBySeen_91, i5_findSetsBySeen_94, i5_findSetsBySeen_97, k_3, k_4, k_12, al, s4_takeFrom a_12 a_4 (by decide), p, pK_i, pK_v, lt, hs, h1, if_true, if_false, not_true_eq_false, not_false_eq_true, true_or, or_true, nI_1]
    · have hp : ¬ psn σ g b k m s := fun q => h1 q.1
      refine ⟨e, ⟨ha, ?_, ?_, ?_⟩, ?_⟩
      · rw [cnt_f hp]; exact hn
      · exact lst_skip hl hp
      · intro t ht ht2
        exact hv t (by
          have : t ≠ s := by rintro rfl; exact hp ht2
          omega) ht2
      · rw [i5_findSetsBySeen_21]
        simp only [Nat.reduceAdd, i5_findSetsBySeen_23, i5_findSetsBySeen_24, i5_findSetsBySeen_27, i5_findSetsBySeen_30, i5_findSetsBySeen_33, i5_findSetsBySeen_36, i5_findSetsBySeen_38, i5_findSetsBySeen_39, i5_findSetsBySeen_40, i5_findSetsBySeen_43, i5_findSetsBySeen_46, i5_findSetsBySeen_47, i5_findSetsBySeen_50, i5_findSetsBySeen_51, i5_findSetsBySeen_54, i5_findSetsBySeen_57, i5_findSetsBySeen_60, i5_findSetsBySeen_61, i5_findSetsBySeen_64, i5_findSetsBySeen_66, i5_findSetsBySeen_69, i5_findSetsBySeen_70, i5_findSetsBySeen_71, i5_findSetsBySeen_72, i5_findSetsBySeen_75, i5_findSetsBySeen_78, i5_findSetsBySeen_79, i5_findSetsBySeen_82, i5_findSetsBySeen_84, i5_findSetsBySeen_85, i5_findSetsBySeen_88, i5_findSetsBySeen_91, i5_findSetsBySeen_94, i5_findSetsBySeen_97, k_3, k_4, al, pK_i, lt, hs, h1, if_true, if_false, not_true_eq_false, not_false_eq_true, true_or, or_true, nI_1]))
  obtain ⟨σ', q, a'⟩ := key (va_up σ 16 (upd (σ 16) 3 0)) ⟨agr_u (agr_r σ) (by unfold scr; omega), by rw [vs, us]; rfl, lst_0, fun t ht => absurd ht (by omega)⟩
  have wC := s4_weirs (L := L) (xs := xs) (σ := σ) (τ := τ) (S := S) a_4 r.2.1 hg6
  simp only [Nat.reduceAdd, wr_eq r] at wC
  refine ⟨σ', ?_, a'⟩
  rw [nI_0] at q
  simp only [Nat.reduceAdd, i5_findSetsBySeen_0, i5_findSetsBySeen_1, i5_findSetsBySeen_4, i5_findSetsBySeen_7, i5_findSetsBySeen_10, i5_findSetsBySeen_11, i5_findSetsBySeen_12, i5_findSetsBySeen_15, i5_findSetsBySeen_18, i5_findSetsBySeen_19, i3_empty_0, i3_empty_1, i3_empty_2, i3_empty_5, wC, k_3, k_4, pK_i, pK_v]
  exact q
end DQ
