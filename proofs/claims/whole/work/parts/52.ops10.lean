/-! THE CALLS: level -/
noncomputable def lastm (g : Nat) (K W f : Nat → Int32) : Nat → Int32
  | 0 => 0
  | j + 1 => mvq g K W f j
theorem lm0 (g : Nat) (K W f : Nat → Int32) : lastm g K W f 0 = 0 := rfl
section DL
variable {L : Nat} {xs : Nat → Int32} {σ σj : Nat → Nat → Int32} {τ : Nat → Nat → Int64} {S g d m j : Nat} {K W f : Nat → Int32}
theorem AS_turns (hg6 : g ≤ 6) (h : sok g K W f) (hA : AS σ g K W f 0 σj) {n : Nat} (hn : n ≤ 100) : ∃ σ', pX 42 0 [.ref 12, .int (nI n), .null, .null] [] (mm L xs σj τ) 85 S = some (some (.int (lastm g K W f n)), mm L xs σ' τ, 85, S) ∧ AS σ g K W f n σ' := by
  have key := lq (δ := Nat → Nat → Int32) n (fun j e => AS σ g K W f j e) (fun j e => pX 42 4 [.ref 12, .int (nI n), .int (lastm g K W f j), .int (nI j)] [] (mm L xs e τ) 85 S) (fun o => ∃ σ', o = some (some (.int (lastm g K W f n)), mm L xs σ' τ, 85, S) ∧ AS σ g K W f n σ') (fun e he => ⟨e, by
    simp only [i4_passTurns_4, i4_passTurns_5, i4_passTurns_6, i4_passTurns_21, i4_passTurns_22, Int32.lt_irrefl, if_false], he⟩) (fun j hj e he => Or.inr (by
    obtain ⟨σ', p, q⟩ := AS_step (L := L) (xs := xs) (τ := τ) (S := S) hg6 h he
    refine ⟨σ', q, ?_⟩
    rw [i4_passTurns_4]
    simp only [i4_passTurns_5, i4_passTurns_6, i4_passTurns_9, i4_passTurns_10, i4_passTurns_11, i4_passTurns_14, i4_passTurns_15, i4_passTurns_18, i4_passTurns_21, i4_passTurns_22, k_12, nlt hj (by omega), if_true, p, pK_i, nI_1, lastm]))
  have k := key σj hA
  simp only [lm0, nI_0] at k
  simp only [i4_passTurns_0, i4_passTurns_1, i4_passTurns_2, i4_passTurns_3]
  exact k
theorem op_level {b n : Int32} : opI L xs S (fun M => pX 69 0 [.ref 0, .int b, .int n] [] M 85 S) (fun M => pX 182 0 [.ref 67, .int b, .int n, .null, .null] [] M 85 S) := by
  intro g d σ τ R
  have hg6 := R.1.1
  by_cases h : 0 < g
  · by_cases hb : inb b (g + 1)
    · by_cases n0 : n < 0
      · apply op_of
        · simp only [Nat.reduceAdd, i5_level_0, i5_level_1, i5_level_4, i5_level_7, i5_level_10, i5_level_12, i5_level_13, i5_level_14, i5_level_17, i5_level_20, i5_level_21, i5_level_24, i5_level_27, i5_level_28, i5_level_31, i5_level_32, i5_level_34, i5_level_37, i5_level_38, i5_level_39, i5_level_40, i5_level_43, i5_level_44, i5_level_47, i5_level_50, i5_level_53, i5_level_54, i5_level_55, i5_level_58, i5_level_59, i5_level_62, i5_level_65, i5_level_66, i5_level_67, i5_level_70, i5_level_73, i5_level_74, i5_level_75, s3_isThere R.1, h4_hasBasin R.1 h, k_3, k_4, pK_i, bi_0, h, hb, n0, if_true, if_false, not_true_eq_false, not_false_eq_true, true_or, or_true]; rfl
        · simp only [Nat.reduceAdd, i6_level_0, i6_level_1, i6_level_4, i6_level_7, i6_level_9, i6_level_10, i6_level_11, i6_level_12, i6_level_15, i6_level_18, i6_level_19, i6_level_20, i6_level_22, i6_level_25, i6_level_28, i6_level_29, i6_level_30, i6_level_31, i6_level_32, i6_level_33, i6_level_36, i6_level_37, i6_level_39, i6_level_41, i6_level_42, i6_level_45, i6_level_46, i6_level_47, i6_level_50, i6_level_51, i6_level_54, i6_level_55, i6_level_58, i6_level_61, i6_level_62, i6_level_63, i6_level_66, i6_level_67, i6_level_70, i6_level_71, i6_level_72, i6_level_73, i6_level_74, R.1.2.2.1, gN0 hg6, s6_isBasin R.1.2.2.1 hg6, s6_in, pK_i, bi_0, h, hb, n0, if_true, if_false, not_true_eq_false, not_false_eq_true, true_or, or_true, false_and]; rfl
        · exact R
      · by_cases n40 : 40 < n
        · apply op_of
          · simp only [Nat.reduceAdd, i5_level_0, i5_level_1, i5_level_4, i5_level_7, i5_level_10, i5_level_12, i5_level_13, i5_level_14, i5_level_17, i5_level_20, i5_level_21, i5_level_24, i5_level_27, i5_level_28, i5_level_31, i5_level_32, i5_level_34, i5_level_37, i5_level_38, i5_level_39, i5_level_40, i5_level_43, i5_level_44, i5_level_47, i5_level_50, i5_level_53, i5_level_54, i5_level_55, i5_level_58, i5_level_59, i5_level_62, i5_level_65, i5_level_66, i5_level_67, i5_level_70, i5_level_73, i5_level_74, i5_level_75, s3_isThere R.1, h4_hasBasin R.1 h, k_3, k_4, pK_i, bi_0, h, hb, n0, n40, if_true, if_false, not_true_eq_false, not_false_eq_true, true_or, or_true]; rfl
          · simp only [Nat.reduceAdd, i6_level_0, i6_level_1, i6_level_4, i6_level_7, i6_level_9, i6_level_10, i6_level_11, i6_level_12, i6_level_15, i6_level_18, i6_level_19, i6_level_20, i6_level_22, i6_level_25, i6_level_28, i6_level_29, i6_level_30, i6_level_31, i6_level_32, i6_level_33, i6_level_36, i6_level_37, i6_level_39, i6_level_41, i6_level_42, i6_level_45, i6_level_46, i6_level_47, i6_level_50, i6_level_51, i6_level_54, i6_level_55, i6_level_58, i6_level_61, i6_level_62, i6_level_63, i6_level_66, i6_level_67, i6_level_70, i6_level_71, i6_level_72, i6_level_73, i6_level_74, R.1.2.2.1, gN0 hg6, s6_isBasin R.1.2.2.1 hg6, s6_in, pK_i, bi_0, h, hb, n0, n40, if_true, if_false, not_true_eq_false, not_false_eq_true, true_or, or_true, and_false]; rfl
          · exact R
        · obtain ⟨j, hj, rfl⟩ := inb_of hb (by omega)
          obtain ⟨m, hm, rfl⟩ : ∃ m, m < 41 ∧ n = nI m := inb_of ((inb_iff2 (n := 40) (m := 40) rfl (by decide)).mpr ⟨n0, n40⟩) (by decide)
          have so := sok_N R.1 (f := σ 74) (K := σ 72) (W := σ 73) (fun _ _ => rfl) (fun _ _ => ⟨rfl, rfl⟩)
          have A0 := AS_0 R.1 (f := σ 74) (K := σ 72) (W := σ 73) (fun _ _ => rfl) rfl rfl (fun _ _ => ⟨rfl, rfl⟩)
          obtain ⟨σ1, p1, A1⟩ := AS_turns (L := L) (xs := xs) (τ := τ) (S := S) hg6 so A0 (n := m) (by omega)
          obtain ⟨ag1, ac1, _, _, _, _, lv1⟩ := A1
          obtain ⟨σc, hσc⟩ : ∃ x, x = va_up σ1 0 (upd (σ1 0) 10 (lastm g (σ 72) (σ 73) (σ 74) m)) := ⟨_, rfl⟩
          have c67 : ∀ c, 15 < c → σc c = σ c := fun c hc => by rw [hσc, vn (by omega)]; exact ac1 c (Or.inr hc)
          have hgc : σc 67 4 = nI g := by rw [c67 67 (by decide)]; exact R.1.2.2.1
          have key := lq (δ := Nat → Nat → Int32) m (fun i e => RS g (σ 72) (σ 73) (σ 74) i (e 81) ∧ ∀ c, c ≠ 81 → e c = σc c) (fun i e => pX 182 39 [.ref 67, .int (nI j), .int (nI m), .int (lastm g (σ 72) (σ 73) (σ 74) i), .int (nI i)] [] (mm L xs e τ) 85 S) (fun o => ∃ e, o = some (some (.int (rR (σ 72) (σ 73) g (σ 74) m j)), mm L xs (va_up e 67 (upd (σc 67) 11 (lastm g (σ 72) (σ 73) (σ 74) m))) τ, 85, S) ∧ ∀ c, c ≠ 81 → e c = σc c) (fun e he => ⟨e, by
            have e67 := he.2 67 (by decide)
            have e81 := he.1.1 j (by omega)
            simp only [i6_level_39, i6_level_41, i6_level_42, i6_level_61, i6_level_62, i6_level_63, i6_level_66, i6_level_67, i6_level_70, i6_level_71, i6_level_72, i6_level_73, i6_level_74, e67, Int32.lt_irrefl, if_false, k_81, l_81, Int32.zero_add, ifb_i (show j < 9 by omega) (by decide), cl (show j ≤ 5000 by omega), vn (show 81 ≠ 67 by decide), e81], he.2⟩) (fun i hi e he => Or.inr (by
            have e67 := he.2 67 (by decide)
            have e72 : e 72 = σ 72 := (he.2 72 (by decide)).trans (c67 72 (by decide))
            have e73 : e 73 = σ 73 := (he.2 73 (by decide)).trans (c67 73 (by decide))
            obtain ⟨q1, q2⟩ := RS_step hg6 so he.1
            have t := s6_turnOn (L := L) (xs := xs) (σ := e) (τ := τ) (S := S) (show rst 81 from Or.inr rfl) (by rw [e67]; exact hgc) hg6 (by rw [e72]; exact qN_kd R.1) (sk := 0)
            rw [e72, e73, q1] at t
            refine ⟨va_up e 81 (tRs (σ 72) (σ 73) g 0 (e 81)), ⟨?_, ?_⟩, ?_⟩
            · rw [vs]; exact q2
            · intro c hc; rw [vn hc]; exact he.2 c hc
            · rw [i6_level_39]
              simp only [i6_level_41, i6_level_42, i6_level_45, i6_level_46, i6_level_47, i6_level_50, i6_level_51, i6_level_54, i6_level_55, i6_level_58, nlt hi (by omega), if_true, t, pK_i, nI_1, lastm]))
          have f9 : ∀ b, b < 9 → (va_up σc 81 (va_cpy (σc 74) (σc 81) 0 0 9)) 81 b = σ 74 b := fun b hb => by rw [vs, cpy_at _ _ hb, c67 74 (by decide)]
          obtain ⟨e, k1, k2⟩ := key (va_up σc 81 (va_cpy (σc 74) (σc 81) 0 0 9)) ⟨RS_0 f9 hg6, fun c hc => vn hc⟩
          simp only [lm0, nI_0] at k1
          refine op_of (v := rR (σ 72) (σ 73) g (σ 74) m j) (σ1 := σc) (σ2 := va_up e 67 (upd (σc 67) 11 (lastm g (σ 72) (σ 73) (σ 74) m))) (τ1 := τ) (τ2 := τ) (g := g) (d := d) ?_ ?_ ?_
          · simp only [Nat.reduceAdd, i5_level_0, i5_level_1, i5_level_4, i5_level_7, i5_level_10, i5_level_12, i5_level_13, i5_level_14, i5_level_17, i5_level_20, i5_level_21, i5_level_24, i5_level_27, i5_level_28, i5_level_31, i5_level_32, i5_level_34, i5_level_37, i5_level_38, i5_level_39, i5_level_40, i5_level_43, i5_level_44, i5_level_47, i5_level_50, i5_level_53, i5_level_54, i5_level_55, i5_level_58, i5_level_59, i5_level_62, i5_level_65, i5_level_66, i5_level_67, i5_level_70, i5_level_73, i5_level_74, i5_level_75, s3_isThere R.1, h4_hasBasin R.1 h, s4_takeFrom a_12 a_4 (by decide), p1, s5_tell, k_3, k_4, k_12, k_15, l_15, ifb_i (show j < 7 by omega) (by decide), cl (show j ≤ 5000 by omega), vn (show 15 ≠ 0 by decide), lv1 j (by omega), pK_i, pK_v, bi_0, h, hb, n0, n40, if_true, if_false, not_true_eq_false, not_false_eq_true, true_or, or_true, hσc]
          · simp only [Nat.reduceAdd, i6_level_0, i6_level_1, i6_level_4, i6_level_7, i6_level_9, i6_level_10, i6_level_11, i6_level_12, i6_level_15, i6_level_18, i6_level_19, i6_level_20, i6_level_22, i6_level_25, i6_level_28, i6_level_29, i6_level_30, i6_level_31, i6_level_32, i6_level_33, i6_level_36, i6_level_37, hgc, gN0 hg6, s6_isBasin hgc hg6, s6_in, s6_asItIs, k1, pK_i, pK_v, bi_0, h, hb, n0, n40, if_true, if_false, not_true_eq_false, not_false_eq_true, true_or, or_true, and_self]
          · refine Rel_st R (fun c hc h1 h2 => ?_) (fun i hi => ?_) (fun i hi => ?_) ?_
            · rw [vn h2, k2 c (by rintro rfl; exact hc (by unfold scr; omega)), hσc, vn h1]; exact ag1.1 c hc h2
            · rw [vn (by decide), k2 0 (by decide), hσc, vs, un hi, ac1 0 (by omega)]
            · rw [vs, un (by omega), c67 67 (by decide)]
            · rw [vn (by decide), k2 0 (by decide), hσc, vs, us, vs, us]
    · apply op_of
      · simp only [Nat.reduceAdd, i5_level_0, i5_level_1, i5_level_4, i5_level_7, i5_level_10, i5_level_12, i5_level_13, i5_level_14, i5_level_17, i5_level_20, i5_level_21, i5_level_24, i5_level_27, i5_level_28, i5_level_31, i5_level_32, i5_level_34, i5_level_37, i5_level_38, i5_level_39, i5_level_40, i5_level_43, i5_level_44, i5_level_47, i5_level_50, i5_level_53, i5_level_54, i5_level_55, i5_level_58, i5_level_59, i5_level_62, i5_level_65, i5_level_66, i5_level_67, i5_level_70, i5_level_73, i5_level_74, i5_level_75, s3_isThere R.1, h4_hasBasin R.1 h, k_3, k_4, pK_i, bi_0, h, hb, if_true, if_false, not_true_eq_false, not_false_eq_true, true_or, or_true]; rfl
      · simp only [Nat.reduceAdd, i6_level_0, i6_level_1, i6_level_4, i6_level_7, i6_level_9, i6_level_10, i6_level_11, i6_level_12, i6_level_15, i6_level_18, i6_level_19, i6_level_20, i6_level_22, i6_level_25, i6_level_28, i6_level_29, i6_level_30, i6_level_31, i6_level_32, i6_level_33, i6_level_36, i6_level_37, i6_level_39, i6_level_41, i6_level_42, i6_level_45, i6_level_46, i6_level_47, i6_level_50, i6_level_51, i6_level_54, i6_level_55, i6_level_58, i6_level_61, i6_level_62, i6_level_63, i6_level_66, i6_level_67, i6_level_70, i6_level_71, i6_level_72, i6_level_73, i6_level_74, R.1.2.2.1, gN0 hg6, s6_isBasin R.1.2.2.1 hg6, pK_i, bi_0, h, hb, if_true, if_false, not_true_eq_false, not_false_eq_true, true_or, or_true]; rfl
      · exact R
  · apply op_of
    · simp only [Nat.reduceAdd, i5_level_0, i5_level_1, i5_level_4, i5_level_7, i5_level_10, i5_level_12, i5_level_13, i5_level_14, i5_level_17, i5_level_20, i5_level_21, i5_level_24, i5_level_27, i5_level_28, i5_level_31, i5_level_32, i5_level_34, i5_level_37, i5_level_38, i5_level_39, i5_level_40, i5_level_43, i5_level_44, i5_level_47, i5_level_50, i5_level_53, i5_level_54, i5_level_55, i5_level_58, i5_level_59, i5_level_62, i5_level_65, i5_level_66, i5_level_67, i5_level_70, i5_level_73, i5_level_74, i5_level_75, s3_isThere R.1, k_3, k_4, pK_i, bi_0, h, if_true, if_false, not_true_eq_false, not_false_eq_true, true_or, or_true]; rfl
    · simp only [Nat.reduceAdd, i6_level_0, i6_level_1, i6_level_4, i6_level_7, i6_level_9, i6_level_10, i6_level_11, i6_level_12, i6_level_15, i6_level_18, i6_level_19, i6_level_20, i6_level_22, i6_level_25, i6_level_28, i6_level_29, i6_level_30, i6_level_31, i6_level_32, i6_level_33, i6_level_36, i6_level_37, i6_level_39, i6_level_41, i6_level_42, i6_level_45, i6_level_46, i6_level_47, i6_level_50, i6_level_51, i6_level_54, i6_level_55, i6_level_58, i6_level_61, i6_level_62, i6_level_63, i6_level_66, i6_level_67, i6_level_70, i6_level_71, i6_level_72, i6_level_73, i6_level_74, R.1.2.2.1, gN0 hg6, h, if_true, if_false, not_true_eq_false, not_false_eq_true, true_or, or_true]; rfl
    · exact R
end DL
