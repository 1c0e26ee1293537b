/-! THE CALLS: keep, on -/
theorem rc_cc {g m : Nat} {x x' y y' : Nat → Int32} {o o' n n' : Int32} (hg : g ≤ 6) (hx : ∀ b, b ≤ g → x' b = x b) (ho : o' = o) (hn : n' = n) (hy : ∀ b, b < 9 → y' b = y b) (r : rc g x o n y m) : rc g x' o' n' y' m := by
  obtain ⟨r1, r2, r3⟩ := r
  refine ⟨fun b hb => ?_, ?_, ?_⟩
  · rw [hx b hb, hy b (by omega)]; exact r1 b hb
  · rw [ho, hy 7 (by decide)]; exact r2
  · rw [hn, hy 8 (by decide)]; exact r3
theorem qK1_cc {g k : Nat} {σ σ' : Nat → Nat → Int32} (hg : g ≤ 6) (h5 : ∀ i, i < g → σ' 5 i = σ 5 i ∧ σ' 6 i = σ 6 i) (h : ∀ c, 43 + 8 * k ≤ c → c ≤ 43 + 8 * k + 7 → σ' c = σ c) (h76 : ∀ i, i < 370 → σ' 76 (370 * k + i) = σ 76 (370 * k + i)) (r : qK1 g k σ) : qK1 g k σ' := by
  have z : σ' 76 (370 * k) = σ 76 (370 * k) := h76 0 (by decide)
  unfold qK1 at *
  rw [h (43 + 8 * k) (by omega) (by omega), h (43 + 8 * k + 1) (by omega) (by omega), h (43 + 8 * k + 2) (by omega) (by omega), h (43 + 8 * k + 3) (by omega) (by omega), h (43 + 8 * k + 4) (by omega) (by omega), h (43 + 8 * k + 5) (by omega) (by omega), h (43 + 8 * k + 6) (by omega) (by omega), h (43 + 8 * k + 7) (by omega) (by omega), z]
  rcases r with r | ⟨r1, r2, r3, e, he, r4, r5, r6, r7⟩
  · exact Or.inl r
  · refine Or.inr ⟨r1, r2, fun i hi => ?_, e, he, r4, r5, ?_, fun j hj => ?_⟩
    · rw [(h5 i hi).1, (h5 i hi).2]; exact r3 i hi
    · exact rc_cc hg (fun _ _ => rfl) rfl rfl (fun b hb => by show σ' 76 (370 * k + 1 + b) = σ 76 (370 * k + 1 + b); rw [Nat.add_assoc]; exact h76 _ (by omega)) r6
    · exact rc_cc hg (fun _ _ => rfl) rfl rfl (fun b hb => by show σ' 76 (370 * k + 10 + (9 * j + b)) = σ 76 (370 * k + 10 + (9 * j + b)); rw [Nat.add_assoc]; exact h76 _ (by omega)) (r7 j hj)
theorem cpy_in (f g : Nat → Int32) {s p n i : Nat} (h : i < n) : va_cpy f g s p n (p + i) = f (s + i) := by
  unfold va_cpy; rw [if_pos ⟨by omega, by omega⟩]; congr 1; omega
theorem cpy_out (f g : Nat → Int32) {s p n i : Nat} (h : i < p ∨ p + n ≤ i) : va_cpy f g s p n i = g i := by
  unfold va_cpy; rw [if_neg (by omega)]
section DJ
variable {L : Nat} {xs : Nat → Int32} {σ : Nat → Nat → Int32} {τ : Nat → Nat → Int64} {S g d m : Nat}
theorem nI_9 (a : Nat) : nI a + 9 = nI (a + 9) := nI_add a 9
theorem op_keep {k : Int32} : opI L xs S (fun M => pX 66 0 [.ref 0, .int k] [] M 85 S) (fun M => pX 178 0 [.ref 67, .int k, .null] [] M 85 S) := by
  intro g d σ τ R
  have hg6 := R.1.1
  obtain ⟨d40', hd3, hd67, hrec⟩ := R.2.1
  have h3 : (¬ k < 0 ∧ ¬ 2 < k) = inb k 3 := propext (inb_iff2 (n := 2) rfl (by decide)).symm
  by_cases hk : inb k 3
  · by_cases h : 0 < g
    · obtain ⟨j, hj, rfl⟩ := inb_of hk (by decide)
      have e370 : (370 : Int32) * nI j = nI (370 * j) := pk_mul 370 j
      have e9 : (9 : Int32) * nI d = nI (9 * d) := pk_mul 9 d
      have tB := s0_takeFrom (L := L) (xs := xs) (σ := σ) (τ := τ) (S := S) (bd_of hj) (Or.inl rfl) (by omega)
      obtain ⟨σ1, hσ1⟩ : ∃ x, x = tkB σ (43 + 8 * j) 3 := ⟨_, rfl⟩
      rw [← hσ1] at tB
      have n1 : ∀ c, c < 43 + 8 * j ∨ 43 + 8 * j + 7 < c → σ1 c = σ c := fun c hc => by rw [hσ1]; exact tkB_n hc
      have f67 : σ1 67 = σ 67 := n1 67 (by omega)
      have f74 : σ1 74 = σ 74 := n1 74 (by omega)
      have f75 : σ1 75 = σ 75 := n1 75 (by omega)
      have f76 : σ1 76 = σ 76 := n1 76 (by omega)
      have f3 : σ1 3 = σ 3 := n1 3 (by omega)
      have b1 := s6_bring (L := L) (xs := xs) (σ := va_up σ1 76 (upd (σ 76) (370 * j) (nI d))) (τ := τ) (S := S) (a := 74) (b := 76) (i := 0) (j := 370 * j + 1) (n := 9) k_74 k_76 (by decide) (by decide +kernel) (by rw [l_76]; omega) (by decide +kernel) (by decide +kernel)
      rw [show nI 0 = 0 from rfl, show nI 9 = 9 from rfl, vs, vu, vn (show 74 ≠ 76 by decide), f74] at b1
      have b2 := s6_bring (L := L) (xs := xs) (σ := va_up σ1 76 (va_cpy (σ 74) (upd (σ 76) (370 * j) (nI d)) 0 (370 * j + 1) 9)) (τ := τ) (S := S) (a := 75) (b := 76) (i := 0) (j := 370 * j + 1 + 9) (n := 9 * d) k_75 k_76 (by decide) (by rw [l_75]; omega) (by rw [l_76]; omega) (by decide +kernel) (by decide +kernel)
      rw [show nI 0 = 0 from rfl, vs, vu, vn (show 75 ≠ 76 by decide), f75] at b2
      obtain ⟨σ2, hσ2⟩ : ∃ x, x = va_up σ1 76 (va_cpy (σ 75) (va_cpy (σ 74) (upd (σ 76) (370 * j) (nI d)) 0 (370 * j + 1) 9) 0 (370 * j + 1 + 9) (9 * d)) := ⟨_, rfl⟩
      rw [← hσ2] at b2
      have n2 : ∀ c, c < 43 + 8 * j ∨ 43 + 8 * j + 7 < c → c ≠ 76 → σ2 c = σ c := fun c hc h => by rw [hσ2, vn h]; exact n1 c hc
      have n3 : ∀ c, c ≠ 76 → σ2 c = σ1 c := fun c h => by rw [hσ2, vn h]
      have p0 : σ2 76 (370 * j) = nI d := by rw [hσ2, vs, cpy_out _ _ (by omega), cpy_out _ _ (by omega), us]
      have p1 : ∀ b, b < 9 → σ2 76 (370 * j + 1 + b) = σ 74 b := fun b hb => by rw [hσ2, vs, cpy_out _ _ (by omega), cpy_in _ _ hb, Nat.zero_add]
      have p2 : ∀ b, b < 9 * d → σ2 76 (370 * j + 10 + b) = σ 75 b := fun b hb => by rw [hσ2, vs, show 370 * j + 10 + b = 370 * j + 1 + 9 + b by omega, cpy_in _ _ hb, Nat.zero_add]
      have p3 : ∀ i, i < 370 * j ∨ 370 * j + 370 ≤ i → σ2 76 i = σ 76 i := fun i hi => by rw [hσ2, vs, cpy_out _ _ (by omega), cpy_out _ _ (by omega), un (by omega)]
      refine op_of (v := nI d) (σ1 := σ1) (σ2 := σ2) (τ1 := τ) (τ2 := τ) (g := g) (d := d) ?_ ?_ ?_
      · simp only [Nat.reduceAdd, i5_keep_0, i5_keep_1, i5_keep_4, i5_keep_7, i5_keep_8, i5_keep_9, i5_keep_10, i5_keep_13, i5_keep_16, i5_keep_19, i5_keep_21, i5_keep_22, i5_keep_23, i5_keep_26, i5_keep_27_r1, i5_keep_27_r2, i5_keep_27_r11, i5_keep_28, i5_keep_29, i5_keep_32, i5_keep_35, i5_keep_36, i5_keep_39, i5_keep_42, s5_isKeptPlace, s3_isThere R.1, k_3, k_4, bd_k (bd_of hj), ifb_i hj (by decide), cl (show j ≤ 5000 by omega), tB, f3, hd3, pK_i, pK_v, bi_0, hk, h, if_true, if_false, not_true_eq_false, not_false_eq_true, true_or, or_true]
      · have q67 : σ2 67 8 = nI d := by rw [n2 67 (by omega) (by decide)]; exact hd67
        simp only [Nat.reduceAdd, i6_keep_0, i6_keep_1, i6_keep_2, i6_keep_3, i6_keep_6, i6_keep_9, i6_keep_10, i6_keep_11, i6_keep_12, i6_keep_15, i6_keep_18, i6_keep_20, i6_keep_21, i6_keep_24, i6_keep_25, i6_keep_26, i6_keep_27, i6_keep_28, i6_keep_31, i6_keep_32, i6_keep_33, i6_keep_36, i6_keep_37, i6_keep_38, i6_keep_41, i6_keep_42, i6_keep_43, i6_keep_46, i6_keep_47, i6_keep_48, i6_keep_49, i6_keep_51, i6_keep_54, i6_keep_55, i6_keep_58, i6_keep_59, i6_keep_60, i6_keep_63, i6_keep_64, i6_keep_65, i6_keep_66, i6_keep_68, i6_keep_69, i6_keep_71, i6_keep_72, i6_keep_75, i6_keep_76, i6_keep_79, i6_keep_80, i6_keep_83, s6_in, h3, f67, f76, R.1.2.2.1, hd67, gN0 hg6, e370, e9, nI_1, nI_9, k_76, l_76, ifb_i (show 370 * j < 1110 by omega) (by decide), cl (show 370 * j ≤ 5000 by omega), vn (show 67 ≠ 76 by decide), b1, b2, q67, pK_i, pK_v, bi_0, hk, h, if_true, if_false, not_true_eq_false, not_false_eq_true, true_or, or_true]
      · obtain ⟨a1, a2, a3, a4, a5, a6⟩ := R
        refine ⟨qN_c (fun c hc => n2 c (by omega) (by omega)) (by rw [n2 67 (by omega) (by omega)]) a1, qD_c (fun c hc => n2 c (by omega) (by omega)) (by rw [n2 67 (by omega) (by omega)]) a2, ?_, qR_c (fun c hc => n2 c (by omega) (by omega)) a4, qT_c (fun c hc => n2 c (by omega) (by omega)) a5, qS_c (n2 0 (by omega) (by omega)) (by rw [n2 67 (by omega) (by omega)]) (by rw [n2 67 (by omega) (by omega)]) (n2 22 (by omega) (by omega)) (n2 77 (by omega) (by omega)) a6⟩
        intro i hi
        by_cases hij : i = j
        · subst hij
          refine Or.inr ⟨h, ?_, fun c hc => ?_, d, d40', ?_, p0, ?_, fun c hc => ?_⟩
          · rw [n3 _ (by omega), hσ1, tkB_1, un (by decide), un (by decide), us]; exact a1.2.1
          · rw [n3 (43 + 8 * i + 2) (by omega), n3 (43 + 8 * i + 3) (by omega), n2 5 (by omega) (by omega), n2 6 (by omega) (by omega), hσ1, tkB_2, tkB_3, cpy_at _ _ (by omega), cpy_at _ _ (by omega)]
            exact ⟨rfl, rfl⟩
          · rw [n3 _ (by omega), hσ1, tkB_x, if_pos rfl]; exact hd3
          · rw [n3 (43 + 8 * i + 4) (by omega), n3 (43 + 8 * i + 1) (by omega), hσ1, tkB_1, tkB_4]
            exact rc_cc hg6 (fun b hb => cpy_at _ _ (by omega)) (by rw [un (by decide), us]) us (fun b hb => p1 b hb) a1.2.2.2.2.1
          · rw [n3 (43 + 8 * i + 5) (by omega), n3 (43 + 8 * i + 6) (by omega), n3 (43 + 8 * i + 7) (by omega), hσ1, tkB_5, tkB_6, tkB_7]
            exact rc_cc hg6 (fun b hb => cpy_at _ _ (by omega)) (cpy_at _ _ (by omega)) (cpy_at _ _ (by omega)) (fun b hb => p2 _ (by omega)) (hrec c hc)
        · exact qK1_cc hg6 (fun c _ => by rw [n2 5 (by omega) (by omega), n2 6 (by omega) (by omega)]; exact ⟨rfl, rfl⟩) (fun c h1 h2 => n2 c (by omega) (by omega)) (fun c hc => p3 _ (by omega)) (a3 i hi)
    · apply op_of
      · simp only [Nat.reduceAdd, i5_keep_0, i5_keep_1, i5_keep_4, i5_keep_7, i5_keep_8, i5_keep_9, i5_keep_10, i5_keep_13, i5_keep_16, i5_keep_19, i5_keep_21, i5_keep_22, i5_keep_23, i5_keep_26, i5_keep_27_r1, i5_keep_27_r2, i5_keep_27_r11, i5_keep_28, i5_keep_29, i5_keep_32, i5_keep_35, i5_keep_36, i5_keep_39, i5_keep_42, s5_isKeptPlace, s3_isThere R.1, k_3, k_4, pK_i, bi_0, hk, h, if_true, if_false, not_true_eq_false, not_false_eq_true, true_or, or_true]; rfl
      · simp only [Nat.reduceAdd, i6_keep_0, i6_keep_1, i6_keep_2, i6_keep_3, i6_keep_6, i6_keep_9, i6_keep_10, i6_keep_11, i6_keep_12, i6_keep_15, i6_keep_18, i6_keep_20, i6_keep_21, i6_keep_24, i6_keep_25, i6_keep_26, i6_keep_27, i6_keep_28, i6_keep_31, i6_keep_32, i6_keep_33, i6_keep_36, i6_keep_37, i6_keep_38, i6_keep_41, i6_keep_42, i6_keep_43, i6_keep_46, i6_keep_47, i6_keep_48, i6_keep_49, i6_keep_51, i6_keep_54, i6_keep_55, i6_keep_58, i6_keep_59, i6_keep_60, i6_keep_63, i6_keep_64, i6_keep_65, i6_keep_66, i6_keep_68, i6_keep_69, i6_keep_71, i6_keep_72, i6_keep_75, i6_keep_76, i6_keep_79, i6_keep_80, i6_keep_83, s6_in, h3, R.1.2.2.1, gN0 hg6, pK_i, bi_0, hk, h, if_true, if_false, not_true_eq_false, not_false_eq_true, true_or, or_true]; rfl
      · exact R
  · apply op_of
    · simp only [Nat.reduceAdd, i5_keep_0, i5_keep_1, i5_keep_4, i5_keep_7, i5_keep_8, i5_keep_9, i5_keep_10, i5_keep_13, i5_keep_16, i5_keep_19, i5_keep_21, i5_keep_22, i5_keep_23, i5_keep_26, i5_keep_27_r1, i5_keep_27_r2, i5_keep_27_r11, i5_keep_28, i5_keep_29, i5_keep_32, i5_keep_35, i5_keep_36, i5_keep_39, i5_keep_42, s5_isKeptPlace, pK_i, bi_0, hk, if_true, if_false, not_true_eq_false, not_false_eq_true, true_or, or_true]; rfl
    · simp only [Nat.reduceAdd, i6_keep_0, i6_keep_1, i6_keep_2, i6_keep_3, i6_keep_6, i6_keep_9, i6_keep_10, i6_keep_11, i6_keep_12, i6_keep_15, i6_keep_18, i6_keep_20, i6_keep_21, i6_keep_24, i6_keep_25, i6_keep_26, i6_keep_27, i6_keep_28, i6_keep_31, i6_keep_32, i6_keep_33, i6_keep_36, i6_keep_37, i6_keep_38, i6_keep_41, i6_keep_42, i6_keep_43, i6_keep_46, i6_keep_47, i6_keep_48, i6_keep_49, i6_keep_51, i6_keep_54, i6_keep_55, i6_keep_58, i6_keep_59, i6_keep_60, i6_keep_63, i6_keep_64, i6_keep_65, i6_keep_66, i6_keep_68, i6_keep_69, i6_keep_71, i6_keep_72, i6_keep_75, i6_keep_76, i6_keep_79, i6_keep_80, i6_keep_83, s6_in, h3, pK_i, bi_0, hk, if_true, if_false, not_true_eq_false, not_false_eq_true, true_or, or_true]; rfl
    · exact R
theorem op_on {k : Int32} : opI L xs S (fun M => pX 67 0 [.ref 0, .int k] [] M 85 S) (fun M => pX 179 0 [.ref 67, .int k, .null] [] M 85 S) := by
  intro g d σ τ R
  have hg6 := R.1.1
  have h3 : (¬ k < 0 ∧ ¬ 2 < k) = inb k 3 := propext (inb_iff2 (n := 2) rfl (by decide)).symm
  by_cases hk : inb k 3
  · obtain ⟨j, hj, rfl⟩ := inb_of hk (by decide)
    have e370 : (370 : Int32) * nI j = nI (370 * j) := pk_mul 370 j
    have hm1 : (-1 : Int32) < 0 := by decide
    rcases R.2.2.1 j hj with ⟨u1, u2⟩ | ⟨h, u1, u2, e, he, u3, u4, u5, u6⟩
    · have t := s0_isThere (L := L) (xs := xs) (σ := σ) (τ := τ) (S := S) (g := 0) (bd_k (bd_of hj)) (bd_s (bd_of hj)) (by rw [u1]; rfl) (by decide)
      apply op_of
      · simp only [Nat.reduceAdd, i5_on_0, i5_on_1, i5_on_4, i5_on_7, i5_on_8, i5_on_9, i5_on_10, i5_on_13, i5_on_14_r1, i5_on_14_r2, i5_on_14_r11, i5_on_15, i5_on_18, i5_on_21, i5_on_22, i5_on_23, i5_on_26, i5_on_27, i5_on_28, i5_on_31, i5_on_32, i5_on_35, i5_on_36_r1, i5_on_36_r2, i5_on_36_r11, i5_on_37, i5_on_40, i5_on_41, i5_on_44, i5_on_47, s5_isKeptPlace, t, bd_k (bd_of hj), ifb_i hj (by decide), cl (show j ≤ 5000 by omega), rf1, pK_i, bi_0, hk, Nat.lt_irrefl, if_true, if_false, not_true_eq_false, not_false_eq_true, true_or, or_true]; rfl
      · simp (decide := true) only [Nat.reduceAdd, i6_on_0, i6_on_1, i6_on_2, i6_on_3, i6_on_6, i6_on_9, i6_on_10, i6_on_11, i6_on_14, i6_on_15, i6_on_16, i6_on_17, i6_on_18, i6_on_21, i6_on_22, i6_on_23, i6_on_26, i6_on_27, i6_on_28, i6_on_31, i6_on_32, i6_on_33, i6_on_34, i6_on_37, i6_on_38, i6_on_39, i6_on_42, i6_on_43, i6_on_46, i6_on_47, i6_on_48, i6_on_49, i6_on_50, i6_on_53, i6_on_54, i6_on_56, i6_on_59, i6_on_60, i6_on_63, i6_on_64, i6_on_65, i6_on_66, i6_on_68, i6_on_69, i6_on_70, i6_on_73, i6_on_74, i6_on_76, i6_on_77, i6_on_80, i6_on_81, i6_on_84, i6_on_85, i6_on_88, s6_in, h3, e370, k_76, l_76, ifb_i (show 370 * j < 1110 by omega) (by decide), cl (show 370 * j ≤ 5000 by omega), fC, vn', u2, hm1, fd1, pK_i, bi_0, hk, if_true, if_false, not_true_eq_false, not_false_eq_true, true_or, or_true]; rfl
      · exact Rel_f R 1
    · have t := s0_isThere (L := L) (xs := xs) (σ := σ) (τ := τ) (S := S) (g := g) (bd_k (bd_of hj)) (bd_s (bd_of hj)) u1 hg6
      have tB := s0_takeFrom (L := L) (xs := xs) (σ := σ) (τ := τ) (S := S) (x := 3) (o := 43 + 8 * j) (Or.inl rfl) (bd_of hj) (by omega)
      have he0 : ¬ nI e < 0 := nI_pos (by omega)
      have e9 : (9 : Int32) * nI e = nI (9 * e) := pk_mul 9 e
      obtain ⟨σ1, hσ1⟩ : ∃ x, x = tkB σ 3 (43 + 8 * j) := ⟨_, rfl⟩
      rw [← hσ1] at tB
      have n1 : ∀ c, c < 3 ∨ 10 < c → σ1 c = σ c := fun c hc => by rw [hσ1]; exact tkB_n (by omega)
      have f67 : σ1 67 = σ 67 := n1 67 (by omega)
      have f74 : σ1 74 = σ 74 := n1 74 (by omega)
      have f75 : σ1 75 = σ 75 := n1 75 (by omega)
      have f76 : σ1 76 = σ 76 := n1 76 (by omega)
      have f3 : σ1 3 4 = nI e := by rw [hσ1, tkB_x, if_pos rfl]; exact u3
      have b1 := s6_bring (L := L) (xs := xs) (σ := va_up σ1 67 (upd (σ 67) 8 (nI e))) (τ := τ) (S := S) (a := 76) (b := 74) (i := 370 * j + 1) (j := 0) (n := 9) k_76 k_74 (by decide) (by rw [l_76]; omega) (by decide +kernel) (by decide +kernel) (by decide +kernel)
      rw [show nI 0 = 0 from rfl, show nI 9 = 9 from rfl, vn (show 74 ≠ 67 by decide), vn (show 76 ≠ 67 by decide), f74, f76] at b1
      have b2 := s6_bring (L := L) (xs := xs) (σ := va_up (va_up σ1 67 (upd (σ 67) 8 (nI e))) 74 (va_cpy (σ 76) (σ 74) (370 * j + 1) 0 9)) (τ := τ) (S := S) (a := 76) (b := 75) (i := 370 * j + 1 + 9) (j := 0) (n := 9 * e) k_76 k_75 (by decide) (by rw [l_76]; omega) (by rw [l_75]; omega) (by decide +kernel) (by decide +kernel)
      rw [show nI 0 = 0 from rfl, vn (show 75 ≠ 74 by decide), vn (show 75 ≠ 67 by decide), vn (show 76 ≠ 74 by decide), vn (show 76 ≠ 67 by decide), f75, f76] at b2
      obtain ⟨σ2, hσ2⟩ : ∃ x, x = va_up (va_up (va_up σ1 67 (upd (σ 67) 8 (nI e))) 74 (va_cpy (σ 76) (σ 74) (370 * j + 1) 0 9)) 75 (va_cpy (σ 76) (σ 75) (370 * j + 1 + 9) 0 (9 * e)) := ⟨_, rfl⟩
      rw [← hσ2] at b2
      have n3 : ∀ c, c ≠ 67 → c ≠ 74 → c ≠ 75 → σ2 c = σ1 c := fun c h1 h2 h3 => by rw [hσ2, vn h3, vn h2, vn h1]
      have n2 : ∀ c, c < 3 ∨ 10 < c → c ≠ 67 → c ≠ 74 → c ≠ 75 → σ2 c = σ c := fun c hc h1 h2 h3 => by rw [n3 c h1 h2 h3]; exact n1 c hc
      have q67 : σ2 67 = upd (σ 67) 8 (nI e) := by rw [hσ2, vn (by decide), vn (by decide), vs]
      have q74 : ∀ b, b < 9 → σ2 74 b = σ 76 (370 * j + 1 + b) := fun b hb => by
        have := cpy_in (σ 76) (σ 74) (s := 370 * j + 1) (p := 0) (n := 9) hb
        rw [Nat.zero_add] at this
        rw [hσ2, vn (by decide), vs, this]
      have q75 : ∀ b, b < 9 * e → σ2 75 b = σ 76 (370 * j + 10 + b) := fun b hb => by
        have := cpy_in (σ 76) (σ 75) (s := 370 * j + 1 + 9) (p := 0) (n := 9 * e) hb
        rw [Nat.zero_add] at this
        rw [hσ2, vs, this]
      have q5 : ∀ i, i < g → σ2 5 i = σ 5 i ∧ σ2 6 i = σ 6 i := fun i hi => by
        rw [n3 5 (by decide) (by decide) (by decide), n3 6 (by decide) (by decide) (by decide), hσ1, show (5 : Nat) = 3 + 2 from rfl, show (6 : Nat) = 3 + 3 from rfl, tkB_2, tkB_3, cpy_at _ _ (by omega), cpy_at _ _ (by omega)]
        exact u2 i hi
      refine op_of (v := nI e) (σ1 := σ1) (σ2 := σ2) (τ1 := τ) (τ2 := τ) (g := g) (d := e) ?_ ?_ ?_
      · simp only [Nat.reduceAdd, i5_on_0, i5_on_1, i5_on_4, i5_on_7, i5_on_8, i5_on_9, i5_on_10, i5_on_13, i5_on_14_r1, i5_on_14_r2, i5_on_14_r11, i5_on_15, i5_on_18, i5_on_21, i5_on_22, i5_on_23, i5_on_26, i5_on_27, i5_on_28, i5_on_31, i5_on_32, i5_on_35, i5_on_36_r1, i5_on_36_r2, i5_on_36_r11, i5_on_37, i5_on_40, i5_on_41, i5_on_44, i5_on_47, s5_isKeptPlace, t, k_3, k_4, bd_k (bd_of hj), ifb_i hj (by decide), cl (show j ≤ 5000 by omega), tB, f3, pK_i, pK_v, bi_0, hk, h, if_true, if_false, not_true_eq_false, not_false_eq_true, true_or, or_true]
      · have q8 : σ2 67 8 = nI e := by rw [q67, us]
        simp only [Nat.reduceAdd, i6_on_0, i6_on_1, i6_on_2, i6_on_3, i6_on_6, i6_on_9, i6_on_10, i6_on_11, i6_on_14, i6_on_15, i6_on_16, i6_on_17, i6_on_18, i6_on_21, i6_on_22, i6_on_23, i6_on_26, i6_on_27, i6_on_28, i6_on_31, i6_on_32, i6_on_33, i6_on_34, i6_on_37, i6_on_38, i6_on_39, i6_on_42, i6_on_43, i6_on_46, i6_on_47, i6_on_48, i6_on_49, i6_on_50, i6_on_53, i6_on_54, i6_on_56, i6_on_59, i6_on_60, i6_on_63, i6_on_64, i6_on_65, i6_on_66, i6_on_68, i6_on_69, i6_on_70, i6_on_73, i6_on_74, i6_on_76, i6_on_77, i6_on_80, i6_on_81, i6_on_84, i6_on_85, i6_on_88, s6_in, h3, f67, f76, u4, he0, e370, e9, nI_1, nI_9, k_76, l_76, ifb_i (show 370 * j < 1110 by omega) (by decide), cl (show 370 * j ≤ 5000 by omega), vn (show 76 ≠ 67 by decide), vn (show 67 ≠ 74 by decide), vs, us, b1, b2, q8, pK_i, pK_v, bi_0, hk, if_true, if_false, not_true_eq_false, not_false_eq_true, true_or, or_true]
      · obtain ⟨a1, a2, a3, a4, a5, a6⟩ := R
        refine ⟨⟨hg6, ?_, ?_, ?_, ?_, fun q => by omega⟩, ⟨he, ?_, ?_, fun c hc => ?_⟩, fun i hi => qK1_cc hg6 q5 (fun c h1 h2 => n2 c (by omega) (by omega) (by omega) (by omega)) (fun c hc => by rw [n2 76 (by omega) (by omega) (by omega) (by omega)]) (a3 i hi), qR_c (fun c hc => n2 c (by omega) (by omega) (by omega) (by omega)) a4, qT_c (fun c hc => n2 c (by omega) (by omega) (by omega) (by omega)) a5, qS_c (n2 0 (by omega) (by omega) (by omega) (by omega)) (by rw [q67, un (by decide)]) (by rw [q67, un (by decide)]) (n2 22 (by omega) (by omega) (by omega) (by omega)) (n2 77 (by omega) (by omega) (by omega) (by omega)) a6⟩
        · rw [n3 4 (by decide) (by decide) (by decide), hσ1, show (4 : Nat) = 3 + 1 from rfl, tkB_1, un (by decide), un (by decide), us]; exact u1
        · rw [q67, un (by decide)]; exact a1.2.2.1
        · rw [n2 72 (by omega) (by omega) (by omega) (by omega), n2 73 (by omega) (by omega) (by omega) (by omega)]
          exact sysq_sw a1.2.2.2.1 q5
        · refine rc_cc hg6 (fun b hb => ?_) ?_ ?_ q74 u5
          · rw [n3 7 (by decide) (by decide) (by decide), hσ1, show (7 : Nat) = 3 + 4 from rfl, tkB_4, cpy_at _ _ (by omega)]
          · rw [n3 4 (by decide) (by decide) (by decide), hσ1]; show tkB σ 3 (43 + 8 * j) (3 + 1) 4 = _; rw [tkB_1, un (by decide), us]
          · rw [n3 4 (by decide) (by decide) (by decide), hσ1]; show tkB σ 3 (43 + 8 * j) (3 + 1) 5 = _; rw [tkB_1, us]
        · rw [n3 3 (by decide) (by decide) (by decide)]; exact f3
        · rw [q67, us]
        · refine rc_cc hg6 (fun b hb => ?_) ?_ ?_ (fun b hb => q75 _ (by omega)) (u6 c hc)
          · show σ2 8 (7 * c + b) = _; rw [n3 8 (by decide) (by decide) (by decide), hσ1]; show tkB σ 3 (43 + 8 * j) (3 + 5) _ = _; rw [tkB_5, cpy_at _ _ (by omega)]
          · rw [n3 9 (by decide) (by decide) (by decide), hσ1]; show tkB σ 3 (43 + 8 * j) (3 + 6) _ = _; rw [tkB_6, cpy_at _ _ (by omega)]
          · rw [n3 10 (by decide) (by decide) (by decide), hσ1]; show tkB σ 3 (43 + 8 * j) (3 + 7) _ = _; rw [tkB_7, cpy_at _ _ (by omega)]
  · apply op_of
    · simp only [Nat.reduceAdd, i5_on_0, i5_on_1, i5_on_4, i5_on_7, i5_on_8, i5_on_9, i5_on_10, i5_on_13, i5_on_14_r1, i5_on_14_r2, i5_on_14_r11, i5_on_15, i5_on_18, i5_on_21, i5_on_22, i5_on_23, i5_on_26, i5_on_27, i5_on_28, i5_on_31, i5_on_32, i5_on_35, i5_on_36_r1, i5_on_36_r2, i5_on_36_r11, i5_on_37, i5_on_40, i5_on_41, i5_on_44, i5_on_47, s5_isKeptPlace, pK_i, bi_0, hk, if_true, if_false, not_true_eq_false, not_false_eq_true, true_or, or_true]; rfl
    · simp only [Nat.reduceAdd, i6_on_0, i6_on_1, i6_on_2, i6_on_3, i6_on_6, i6_on_9, i6_on_10, i6_on_11, i6_on_14, i6_on_15, i6_on_16, i6_on_17, i6_on_18, i6_on_21, i6_on_22, i6_on_23, i6_on_26, i6_on_27, i6_on_28, i6_on_31, i6_on_32, i6_on_33, i6_on_34, i6_on_37, i6_on_38, i6_on_39, i6_on_42, i6_on_43, i6_on_46, i6_on_47, i6_on_48, i6_on_49, i6_on_50, i6_on_53, i6_on_54, i6_on_56, i6_on_59, i6_on_60, i6_on_63, i6_on_64, i6_on_65, i6_on_66, i6_on_68, i6_on_69, i6_on_70, i6_on_73, i6_on_74, i6_on_76, i6_on_77, i6_on_80, i6_on_81, i6_on_84, i6_on_85, i6_on_88, s6_in, h3, pK_i, bi_0, hk, if_true, if_false, not_true_eq_false, not_false_eq_true, true_or, or_true]; rfl
    · exact R
end DJ
