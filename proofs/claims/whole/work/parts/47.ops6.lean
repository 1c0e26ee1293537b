/-! THE CALLS, going on: undo, mark -/
theorem Rel_back {g d n : Nat} {σ σ' : Nat → Nat → Int32} {τ : Nat → Nat → Int64} (r : Rel g d σ τ) (hn : n < d) (h : ∀ c, c ≠ 3 → c ≠ 4 → c ≠ 7 → c ≠ 67 → c ≠ 74 → σ' c = σ c) (h67 : ∀ i, i ≠ 8 → σ' 67 i = σ 67 i) (h4 : σ' 4 3 = σ 4 3) (d1 : σ' 3 4 = nI n) (d2 : σ' 67 8 = nI n) (p7 : σ' 7 = va_cpy (σ 8) (σ 7) (7 * n) 0 7) (p4 : σ' 4 4 = σ 9 n) (p5 : σ' 4 5 = σ 10 n) (p74 : σ' 74 = va_cpy (σ 75) (σ 74) (9 * n) 0 9) : Rel g n σ' τ := by
  obtain ⟨⟨a1, a2, a3, a4, a5, a6⟩, ⟨b1, b2, b3, b4⟩, c1, e1, f1, s1⟩ := r
  have hh : ∀ c, (c < 3 ∨ c = 5 ∨ c = 6 ∨ 7 < c) → c ≠ 67 → c ≠ 74 → σ' c = σ c := fun c hc h1 h2 => h c (by omega) (by omega) (by omega) h1 h2
  refine ⟨⟨a1, h4.trans a2, (h67 4 (by decide)).trans a3, ?_, ?_, fun e => ?_⟩, ⟨by omega, d1, d2, ?_⟩, qK_c (fun c hc => hh c (by omega) (by omega) (by omega)) c1, qR_c (fun c hc => hh c (by omega) (by omega) (by omega)) e1, qT_c (fun c hc => hh c (by omega) (by omega) (by omega)) f1, qS_c (hh 0 (by omega) (by omega) (by omega)) (h67 11 (by decide)) (h67 14 (by decide)) (hh 22 (by omega) (by omega) (by omega)) (hh 77 (by omega) (by omega) (by omega)) s1⟩
  · rw [hh 5 (by omega) (by omega) (by omega), hh 6 (by omega) (by omega) (by omega), hh 72 (by omega) (by omega) (by omega), hh 73 (by omega) (by omega) (by omega)]
    exact a4
  · rw [p7, p4, p5, p74]
    obtain ⟨r1, r2, r3⟩ := b4 n hn
    have q1 : ∀ b, b < 7 → va_cpy (σ 8) (σ 7) (7 * n) 0 7 b = σ 8 (7 * n + b) := fun b hb => by
      unfold va_cpy; rw [if_pos (by omega)]; congr 1
    have q2 : ∀ b, b < 9 → va_cpy (σ 75) (σ 74) (9 * n) 0 9 b = σ 75 (9 * n + b) := fun b hb => by
      unfold va_cpy; rw [if_pos (by omega)]; congr 1
    refine ⟨fun b hb => ?_, ?_, ?_⟩
    · rw [q1 b (by omega), q2 b (by omega)]; exact r1 b hb
    · rw [q2 7 (by omega)]; exact r2
    · rw [q2 8 (by omega)]; exact r3
  · exact absurd (a6 e).2 (by omega)
  · intro j hj
    rw [hh 8 (by omega) (by omega) (by omega), hh 9 (by omega) (by omega) (by omega), hh 10 (by omega) (by omega) (by omega), hh 75 (by omega) (by omega) (by omega)]
    exact b4 j (by omega)
section DG
variable {L : Nat} {xs : Nat → Int32} {σ : Nat → Nat → Int32} {τ : Nat → Nat → Int64} {S g d m : Nat}
theorem op_undo {n : Int32} : opI L xs S (fun M => pX 65 0 [.ref 0, .int n, .null] [] M 85 S) (fun M => pX 177 0 [.ref 67, .int n, .null] [] M 85 S) := by
  intro g d σ τ R
  have hg6 := R.1.1
  obtain ⟨d40', hd3, hd67, _⟩ := R.2.1
  by_cases n0 : n < 0
  · apply op_of
    · simp only [Nat.reduceAdd, i5_undo_0, i5_undo_1, i5_undo_4, i5_undo_5, i5_undo_6, i5_undo_9, i5_undo_12, i5_undo_15, i5_undo_16, i5_undo_17, i5_undo_18, i5_undo_21, i5_undo_24, i5_undo_25, i5_undo_26, i5_undo_27, i5_undo_28, i5_undo_31, i5_undo_32, i5_undo_35, i5_undo_36, n0, if_true, if_false, not_true_eq_false, not_false_eq_true, true_or, or_true]; rfl
    · simp only [Nat.reduceAdd, i6_undo_0, i6_undo_1, i6_undo_2, i6_undo_3, i6_undo_6, i6_undo_9, i6_undo_12, i6_undo_13, i6_undo_14, i6_undo_15, i6_undo_18, i6_undo_19, i6_undo_20, i6_undo_21, i6_undo_22, i6_undo_25, i6_undo_26, i6_undo_29, i6_undo_31, i6_undo_32, i6_undo_33, i6_undo_34, i6_undo_37, i6_undo_38, i6_undo_40, i6_undo_43, i6_undo_44, i6_undo_45, i6_undo_48, i6_undo_49, s6_in, hd67, pK_i, bi_0, n0, if_true, if_false, not_true_eq_false, not_false_eq_true, true_or, or_true, false_and]; rfl
    · exact R
  · by_cases n1 : nI d < n
    · apply op_of
      · simp only [Nat.reduceAdd, i5_undo_0, i5_undo_1, i5_undo_4, i5_undo_5, i5_undo_6, i5_undo_9, i5_undo_12, i5_undo_15, i5_undo_16, i5_undo_17, i5_undo_18, i5_undo_21, i5_undo_24, i5_undo_25, i5_undo_26, i5_undo_27, i5_undo_28, i5_undo_31, i5_undo_32, i5_undo_35, i5_undo_36, k_3, hd3, n0, n1, if_true, if_false, not_true_eq_false, not_false_eq_true, true_or, or_true]; rfl
      · simp only [Nat.reduceAdd, i6_undo_0, i6_undo_1, i6_undo_2, i6_undo_3, i6_undo_6, i6_undo_9, i6_undo_12, i6_undo_13, i6_undo_14, i6_undo_15, i6_undo_18, i6_undo_19, i6_undo_20, i6_undo_21, i6_undo_22, i6_undo_25, i6_undo_26, i6_undo_29, i6_undo_31, i6_undo_32, i6_undo_33, i6_undo_34, i6_undo_37, i6_undo_38, i6_undo_40, i6_undo_43, i6_undo_44, i6_undo_45, i6_undo_48, i6_undo_49, s6_in, hd67, pK_i, bi_0, n0, n1, if_true, if_false, not_true_eq_false, not_false_eq_true, true_or, or_true, and_false]; rfl
      · exact R
    · obtain ⟨j, hj, rfl⟩ : ∃ j, j < d + 1 ∧ n = nI j := inb_of ((inb_iff2 (n := d) (m := nI d) rfl (by omega)).mpr ⟨n0, n1⟩) (by omega)
      have es : nI d - nI j = nI (d - j) := pk_sub (by omega)
      by_cases hjd : j < d
      · have a1 : (nI d ≤ nI j) = False := eq_false (nI_ge hjd (by omega))
        have a2 : (nI j < nI d) = True := nlt hjd (by omega)
        have a3 : (nI j < 40) = True := nlt (b := 40) (by omega) (by omega)
        have a4 : (0 : Int32) < nI (d - j) := nI_lt (a := 0) (by omega) (by omega)
        have a5 : ¬ nI (d - j) ≤ 0 := nI_nle (by omega) (by omega)
        have e7 : nI j * 7 = nI (7 * j) := by rw [show (7 : Int32) = nI 7 from rfl, pk_mul, Nat.mul_comm]
        have e9 : (9 : Int32) * nI j = nI (9 * j) := pk_mul 9 j
        have c : cpk 8 7 (nI (7 * j)) 0 7 := by
          unfold cpk
          rw [l_7, l_8, cl (show 7 * j ≤ 5000 by omega), show (0 : Int32).toNatClampNeg = 0 from rfl, show (7 : Int32).toNatClampNeg = 7 from rfl]
          exact ⟨nI_pos (by omega), by decide, by decide, by omega, by omega⟩
        obtain ⟨σ1, hσ1⟩ : ∃ x, x = va_up (va_up (va_up σ 7 (va_cpy (σ 8) (σ 7) (7 * j) 0 7)) 4 (upd (upd (σ 4) 4 (σ 9 j)) 5 (σ 10 j))) 3 (upd (σ 3) 4 (nI j)) := ⟨_, rfl⟩
        have f1 : σ1 67 = σ 67 := by rw [hσ1]; simp (disch := omega) only [vn']
        have f2 : σ1 74 = σ 74 := by rw [hσ1]; simp (disch := omega) only [vn']
        have f3 : σ1 75 = σ 75 := by rw [hσ1]; simp (disch := omega) only [vn']
        have e := s6_bring (L := L) (xs := xs) (σ := σ1) (τ := τ) (S := S) (a := 75) (b := 74) (i := 9 * j) (j := 0) (n := 9) k_75 k_74 (by decide) (by rw [l_75]; omega) (by decide +kernel) (by decide +kernel) (by decide +kernel)
        rw [show nI 0 = 0 from rfl, show nI 9 = 9 from rfl] at e
        refine op_of (v := nI (d - j)) (σ1 := σ1) (σ2 := va_up (va_up σ1 74 (va_cpy (σ1 75) (σ1 74) (9 * j) 0 9)) 67 (upd (σ1 67) 8 (nI j))) (τ1 := τ) (τ2 := τ) (g := g) (d := j) ?_ ?_ ?_
        · rw [hσ1]
          simp (decide := true) only [Nat.reduceAdd, i5_undo_0, i5_undo_1, i5_undo_4, i5_undo_5, i5_undo_6, i5_undo_9, i5_undo_12, i5_undo_15, i5_undo_16, i5_undo_17, i5_undo_18, i5_undo_21, i5_undo_24, i5_undo_25, i5_undo_26, i5_undo_27, i5_undo_28, i5_undo_31, i5_undo_32, i5_undo_35, i5_undo_36, i0_goBackTo_0, i0_goBackTo_1, i0_goBackTo_4, i0_goBackTo_5, i0_goBackTo_6, i0_goBackTo_9, i0_goBackTo_12, i0_goBackTo_13, i0_goBackTo_15, i0_goBackTo_18, i0_goBackTo_19, i0_goBackTo_20, i0_goBackTo_23, i0_goBackTo_24, i0_goBackTo_26, i0_goBackTo_27, i0_goBackTo_28, i0_goBackTo_31, i0_goBackTo_34, i0_goBackTo_35, i0_goBackTo_37, i0_goBackTo_40, i0_goBackTo_41, i0_goBackTo_44, i0_goBackTo_45, i0_goBackTo_48, i0_goBackTo_49, i0_goBackTo_50, i0_goBackTo_53, i0_goBackTo_54, i0_goBackTo_57, i0_goBackTo_58, i0_goBackTo_61, i0_goBackTo_62, i0_goBackTo_63, i0_goBackTo_66, i0_goBackTo_67, i0_goBackTo_68, i0_goBackTo_71, k_3, k_4, k_7, k_8, k_9, k_10, l_9, l_10, hd3, n0, n1, a1, a2, a3, es, e7, c, z0, z7, cl (show 7 * j ≤ 5000 by omega), cl (show j ≤ 5000 by omega), ifb_i (show j < 40 by omega) (by decide), pK_v, vn', vs, vu, us, un, if_true, if_false, not_true_eq_false, not_false_eq_true, true_or, or_true]
        · simp only [Nat.reduceAdd, i6_undo_0, i6_undo_1, i6_undo_2, i6_undo_3, i6_undo_6, i6_undo_9, i6_undo_12, i6_undo_13, i6_undo_14, i6_undo_15, i6_undo_18, i6_undo_19, i6_undo_20, i6_undo_21, i6_undo_22, i6_undo_25, i6_undo_26, i6_undo_29, i6_undo_31, i6_undo_32, i6_undo_33, i6_undo_34, i6_undo_37, i6_undo_38, i6_undo_40, i6_undo_43, i6_undo_44, i6_undo_45, i6_undo_48, i6_undo_49, s6_in, f1, hd67, es, a4, a5, e9, e, pK_i, pK_v, bi_0, n0, n1, if_true, if_false, not_true_eq_false, not_false_eq_true, true_or, or_true, and_self, vn (show 67 ≠ 74 by decide)]
        · refine Rel_back R hjd ?_ ?_ ?_ ?_ ?_ ?_ ?_ ?_ ?_
          · intro c h1 h2 h3 h4 h5
            rw [hσ1]; simp (disch := omega) only [vn']
          · intro i hi
            rw [hσ1]; simp (disch := omega) only [vn', vs, un]
          · rw [hσ1]; simp (disch := omega) only [vn', vs, un]
          · rw [hσ1]; simp (disch := omega) only [vn', vs, us]
          · rw [hσ1]; simp (disch := omega) only [vn', vs, us]
          · rw [hσ1]; simp (disch := omega) only [vn', vs, us]
          · rw [hσ1]; simp (disch := omega) only [vn', vs, us, un]
          · rw [hσ1]; simp (disch := omega) only [vn', vs, us]
          · rw [hσ1]; simp (disch := omega) only [vn', vs, us]
      · have : j = d := by omega
        subst this
        have a1 : (nI j ≤ nI j) = True := eq_true (nI_le (Nat.le_refl j) (by omega))
        have a2 : (nI j < nI j) = False := nnl (Nat.le_refl j) (by omega)
        have a6 : nI (j - j) = 0 := by rw [Nat.sub_self]; rfl
        apply op_of
        · simp only [Nat.reduceAdd, i5_undo_0, i5_undo_1, i5_undo_4, i5_undo_5, i5_undo_6, i5_undo_9, i5_undo_12, i5_undo_15, i5_undo_16, i5_undo_17, i5_undo_18, i5_undo_21, i5_undo_24, i5_undo_25, i5_undo_26, i5_undo_27, i5_undo_28, i5_undo_31, i5_undo_32, i5_undo_35, i5_undo_36, i0_goBackTo_0, i0_goBackTo_1, i0_goBackTo_4, i0_goBackTo_5, i0_goBackTo_6, i0_goBackTo_9, i0_goBackTo_12, i0_goBackTo_13, i0_goBackTo_15, i0_goBackTo_18, i0_goBackTo_19, i0_goBackTo_20, i0_goBackTo_23, i0_goBackTo_24, i0_goBackTo_26, i0_goBackTo_27, i0_goBackTo_28, i0_goBackTo_31, i0_goBackTo_34, i0_goBackTo_35, i0_goBackTo_37, i0_goBackTo_40, i0_goBackTo_41, i0_goBackTo_44, i0_goBackTo_45, i0_goBackTo_48, i0_goBackTo_49, i0_goBackTo_50, i0_goBackTo_53, i0_goBackTo_54, i0_goBackTo_57, i0_goBackTo_58, i0_goBackTo_61, i0_goBackTo_62, i0_goBackTo_63, i0_goBackTo_66, i0_goBackTo_67, i0_goBackTo_68, i0_goBackTo_71, k_3, k_4, hd3, n0, n1, a1, a2, es, a6, pK_v, if_true, if_false, not_true_eq_false, not_false_eq_true, true_or, or_true]; rfl
        · simp only [Nat.reduceAdd, i6_undo_0, i6_undo_1, i6_undo_2, i6_undo_3, i6_undo_6, i6_undo_9, i6_undo_12, i6_undo_13, i6_undo_14, i6_undo_15, i6_undo_18, i6_undo_19, i6_undo_20, i6_undo_21, i6_undo_22, i6_undo_25, i6_undo_26, i6_undo_29, i6_undo_31, i6_undo_32, i6_undo_33, i6_undo_34, i6_undo_37, i6_undo_38, i6_undo_40, i6_undo_43, i6_undo_44, i6_undo_45, i6_undo_48, i6_undo_49, s6_in, hd67, es, a6, Int32.lt_irrefl, Int32.le_refl, pK_i, pK_v, bi_0, n0, n1, if_true, if_false, not_true_eq_false, not_false_eq_true, true_or, or_true, and_self]; rfl
        · rw [show va_up σ 67 (upd (σ 67) 8 (nI j)) = σ by rw [← hd67, ui, m_up_id]]; exact R
end DG
