/-! THE CALLS, going on: rows and texts made, torn, their mean -/
def sml (f : Nat → Int32) (p : Nat) : Nat → Int64
  | 0 => 0
  | i + 1 => sml f p i + (f (p + i)).toInt64
section OQ
variable {L : Nat} {xs : Nat → Int32} {σ : Nat → Nat → Int32} {τ : Nat → Nat → Int64} {S : Nat}
theorem s6_rowL {k m : Nat} (hk : k < 6) (hm : m ≤ 40) : pX 141 35 [.ref 67, .int (nI k), .int (nI m), .int 0] [] (mm L xs σ τ) 85 S = some (some (.int (nI m)), mm L xs (va_up σ 69 (filp (σ 69) (40 * k) 0 m)) τ, 85, S) := by
  have e40 : (40 : Int32) * nI k = nI (40 * k) := pk_mul 40 k
  have key := lp (δ := Unit) m (fun j _ => pX 141 35 [.ref 67, .int (nI k), .int (nI m), .int (nI j)] [] (mm L xs (va_up σ 69 (filp (σ 69) (40 * k) 0 j)) τ) 85 S) (some (some (.int (nI m)), mm L xs (va_up σ 69 (filp (σ 69) (40 * k) 0 m)) τ, 85, S)) (fun _ => by
    simp only [i6_row_35, i6_row_36, i6_row_37, i6_row_40, i6_row_41, i6_row_44, i6_row_46, i6_row_47, i6_row_48, i6_row_49, i6_row_50, i6_row_51, i6_row_52, i6_row_55, i6_row_58, i6_row_59, Int32.lt_irrefl, if_false]) (fun j hj _ => ⟨(), by
    rw [i6_row_35]
    simp only [i6_row_36, i6_row_37, i6_row_40, i6_row_41, i6_row_44, i6_row_46, i6_row_47, i6_row_48, i6_row_49, i6_row_50, i6_row_51, i6_row_52, i6_row_55, i6_row_58, i6_row_59, nlt hj (by omega), if_true, k_69, l_69, e40, nI_add, ifb_i (show 40 * k + j < 240 by omega) (by decide), cl (show 40 * k + j ≤ 5000 by omega), vs, vu, filp_s, nI_1]⟩)
  have k := key ()
  simp only [filp_0, nI_0, m_up_id] at k
  exact k
theorem op_row {r n : Int32} : opI L xs S (fun M => pX 48 0 [.ref 0, .int r, .int n] [] M 85 S) (fun M => pX 141 0 [.ref 67, .int r, .int n, .null] [] M 85 S) := by
  intro g d σ τ R
  by_cases hr : inb r 6
  · obtain ⟨k, hk, rfl⟩ := inb_of hr (by decide)
    obtain ⟨e1, e2, e3⟩ := R.2.2.2.1 k hk
    have hS : ∀ {α : Type} {a b : α}, ifb (nI k) 6 a b = a := ifb_i hk (by decide)
    have hC := cl (show k ≤ 5000 by omega)
    have l40 : (nI 40 : Int32) = 40 := rfl
    by_cases h1 : 40 < n
    · apply op_of
      · simp only [Nat.reduceAdd, i5_row_0, i5_row_1, i5_row_4, i5_row_7, i5_row_8, i5_row_9, i5_row_12, i5_row_13_r1, i5_row_13_r2, i5_row_13_r11, i5_row_14, i5_row_15, i5_row_16, i5_row_19, i5_row_22, i5_row_23, i5_makeRow_0, i5_makeRow_1, i5_makeRow_2, i5_makeRow_5, i5_makeRow_5_r1, i5_makeRow_5_r2, i5_makeRow_5_r11, i5_makeRow_5_r1000, i5_makeRow_6, i5_makeRow_9, i5_makeRow_10, i5_makeRow_11, i5_makeRow_12, i5_makeRow_15, i5_makeRow_16, i5_makeRow_17, i5_makeRow_20, i5_makeRow_21, i5_makeRow_22, i5_makeRow_23, i5_makeRow_24, i5_makeRow_27, i5_makeRow_28, s5_isRow, pK_i, bi_0, hr, if_true, if_false, not_true_eq_false, not_false_eq_true, true_or, or_true, hS, hC, ro_k hk, ro_p hk, ro_l hk, l40, h1]; rfl
      · simp only [Nat.reduceAdd, i6_row_0, i6_row_1, i6_row_2, i6_row_5, i6_row_8, i6_row_9, i6_row_11, i6_row_14, i6_row_15, i6_row_16, i6_row_17, i6_row_20, i6_row_21, i6_row_22, i6_row_25, i6_row_26, i6_row_27, i6_row_30, i6_row_31, i6_row_32, i6_row_33, i6_row_34, i6_row_35, i6_row_36, i6_row_37, i6_row_40, i6_row_41, i6_row_44, i6_row_46, i6_row_47, i6_row_48, i6_row_49, i6_row_50, i6_row_51, i6_row_52, i6_row_55, i6_row_58, i6_row_59, s6_isRow, pK_i, bi_0, hr, if_true, if_false, not_true_eq_false, not_false_eq_true, true_or, or_true, h1]; rfl
      · exact R
    · by_cases h2 : n < 0
      · apply op_of
        · simp only [Nat.reduceAdd, i5_row_0, i5_row_1, i5_row_4, i5_row_7, i5_row_8, i5_row_9, i5_row_12, i5_row_13_r1, i5_row_13_r2, i5_row_13_r11, i5_row_14, i5_row_15, i5_row_16, i5_row_19, i5_row_22, i5_row_23, i5_makeRow_0, i5_makeRow_1, i5_makeRow_2, i5_makeRow_5, i5_makeRow_5_r1, i5_makeRow_5_r2, i5_makeRow_5_r11, i5_makeRow_5_r1000, i5_makeRow_6, i5_makeRow_9, i5_makeRow_10, i5_makeRow_11, i5_makeRow_12, i5_makeRow_15, i5_makeRow_16, i5_makeRow_17, i5_makeRow_20, i5_makeRow_21, i5_makeRow_22, i5_makeRow_23, i5_makeRow_24, i5_makeRow_27, i5_makeRow_28, s5_isRow, pK_i, bi_0, hr, if_true, if_false, not_true_eq_false, not_false_eq_true, true_or, or_true, hS, hC, ro_k hk, ro_p hk, ro_l hk, l40, h1, h2, rf5]; rfl
        · simp only [Nat.reduceAdd, i6_row_0, i6_row_1, i6_row_2, i6_row_5, i6_row_8, i6_row_9, i6_row_11, i6_row_14, i6_row_15, i6_row_16, i6_row_17, i6_row_20, i6_row_21, i6_row_22, i6_row_25, i6_row_26, i6_row_27, i6_row_30, i6_row_31, i6_row_32, i6_row_33, i6_row_34, i6_row_35, i6_row_36, i6_row_37, i6_row_40, i6_row_41, i6_row_44, i6_row_46, i6_row_47, i6_row_48, i6_row_49, i6_row_50, i6_row_51, i6_row_52, i6_row_55, i6_row_58, i6_row_59, s6_isRow, pK_i, bi_0, hr, if_true, if_false, not_true_eq_false, not_false_eq_true, true_or, or_true, h1, h2, fd5]; rfl
        · exact Rel_f R 5
      · obtain ⟨m, hm, rfl⟩ : ∃ m, m < 40 + 1 ∧ n = nI m := inb_of ((inb_iff2 (m := 40) rfl (by decide)).mpr ⟨h2, h1⟩) (by decide)
        have hmk := s2_make (L := L) (xs := xs) (σ := σ) (τ := τ) (S := S) (m := m) (v := 0) (ro_k hk) (ro_p hk) (by rw [ro_l hk]; omega) (by rw [ro_l hk]; decide)
        apply op_of
        · simp only [Nat.reduceAdd, i5_row_0, i5_row_1, i5_row_4, i5_row_7, i5_row_8, i5_row_9, i5_row_12, i5_row_13_r1, i5_row_13_r2, i5_row_13_r11, i5_row_14, i5_row_15, i5_row_16, i5_row_19, i5_row_22, i5_row_23, i5_makeRow_0, i5_makeRow_1, i5_makeRow_2, i5_makeRow_5, i5_makeRow_5_r1, i5_makeRow_5_r2, i5_makeRow_5_r11, i5_makeRow_5_r1000, i5_makeRow_6, i5_makeRow_9, i5_makeRow_10, i5_makeRow_11, i5_makeRow_12, i5_makeRow_15, i5_makeRow_16, i5_makeRow_17, i5_makeRow_20, i5_makeRow_21, i5_makeRow_22, i5_makeRow_23, i5_makeRow_24, i5_makeRow_27, i5_makeRow_28, s5_isRow, pK_i, pK_v, bi_0, hr, if_true, if_false, not_true_eq_false, not_false_eq_true, true_or, or_true, hS, hC, ro_k hk, ro_p hk, ro_l hk, l40, h1, h2, hmk]; rfl
        · simp only [Nat.reduceAdd, i6_row_0, i6_row_1, i6_row_2, i6_row_5, i6_row_8, i6_row_9, i6_row_11, i6_row_14, i6_row_15, i6_row_16, i6_row_17, i6_row_20, i6_row_21, i6_row_22, i6_row_25, i6_row_26, i6_row_27, i6_row_30, i6_row_31, i6_row_32, i6_row_33, i6_row_34, s6_isRow, pK_i, bi_0, hr, if_true, if_false, not_true_eq_false, not_false_eq_true, true_or, or_true, k_68, l_68, hS, hC, h1, h2, s6_rowL hk (show m ≤ 40 by omega)]; rfl
        · refine Rel_row R hk (fun c h1 h2 h3 h4 => ?_) (fun c h => ?_) (fun c a h h' => ?_) ⟨?_, ?_, fun a ha => ?_⟩
          · simp (disch := omega) only [vn']
          · simp (disch := omega) only [vn', vs, un]
          · simp (disch := omega) only [vn', vs]
            unfold filp
            rw [if_neg (by omega)]
          · simp (disch := omega) only [vn', vs, us]
          · simp (disch := omega) only [vn', vs, us]; exact Or.inr ⟨m, by omega, rfl⟩
          · simp (disch := omega) only [vn', vs]
            unfold fil filp
            by_cases q : a < m
            · rw [if_pos q, if_pos (by omega)]
            · rw [if_neg q, if_neg (by omega)]; exact e3 a ha
  · apply op_of
    · simp only [i5_row_0, i5_row_1, i5_row_4, i5_row_7, i5_row_8, i5_row_9, i5_row_12, i5_row_13_r1, i5_row_13_r2, i5_row_13_r11, i5_row_14, i5_row_15, i5_row_16, i5_row_19, i5_row_22, i5_row_23, s5_isRow, pK_i, bi_0, hr, if_true, if_false, not_true_eq_false, not_false_eq_true, true_or, or_true]; rfl
    · simp only [i6_row_0, i6_row_1, i6_row_2, i6_row_5, i6_row_8, i6_row_9, i6_row_11, i6_row_14, i6_row_15, i6_row_16, i6_row_17, i6_row_20, i6_row_21, i6_row_22, i6_row_25, i6_row_26, i6_row_27, i6_row_30, i6_row_31, i6_row_32, i6_row_33, i6_row_34, i6_row_35, i6_row_36, i6_row_37, i6_row_40, i6_row_41, i6_row_44, i6_row_46, i6_row_47, i6_row_48, i6_row_49, i6_row_50, i6_row_51, i6_row_52, i6_row_55, i6_row_58, i6_row_59, s6_isRow, pK_i, bi_0, hr, if_true, if_false, not_true_eq_false, not_false_eq_true, true_or, or_true]; rfl
    · exact R
theorem s6_textL {k m : Nat} (hk : k < 4) (hm : m ≤ 60) : pX 148 35 [.ref 67, .int (nI k), .int (nI m), .int 0] [] (mm L xs σ τ) 85 S = some (some (.int (nI m)), mm L xs (va_up σ 71 (filp (σ 71) (60 * k) 32 m)) τ, 85, S) := by
  have e40 : (60 : Int32) * nI k = nI (60 * k) := pk_mul 60 k
  have key := lp (δ := Unit) m (fun j _ => pX 148 35 [.ref 67, .int (nI k), .int (nI m), .int (nI j)] [] (mm L xs (va_up σ 71 (filp (σ 71) (60 * k) 32 j)) τ) 85 S) (some (some (.int (nI m)), mm L xs (va_up σ 71 (filp (σ 71) (60 * k) 32 m)) τ, 85, S)) (fun _ => by
    simp only [i6_text_35, i6_text_36, i6_text_37, i6_text_40, i6_text_41, i6_text_44, i6_text_46, i6_text_47, i6_text_48, i6_text_49, i6_text_50, i6_text_52, i6_text_53, i6_text_56, i6_text_59, i6_text_60, Int32.lt_irrefl, if_false]) (fun j hj _ => ⟨(), by
    rw [i6_text_35]
    simp only [i6_text_36, i6_text_37, i6_text_40, i6_text_41, i6_text_44, i6_text_46, i6_text_47, i6_text_48, i6_text_49, i6_text_50, i6_text_52, i6_text_53, i6_text_56, i6_text_59, i6_text_60, nlt hj (by omega), if_true, k_71, l_71, e40, nI_add, ifb_i (show 60 * k + j < 240 by omega) (by decide), cl (show 60 * k + j ≤ 5000 by omega), vs, vu, filp_s, nI_1]⟩)
  have k := key ()
  simp only [filp_0, nI_0, m_up_id] at k
  exact k
theorem op_text {r n : Int32} : opI L xs S (fun M => pX 54 0 [.ref 0, .int r, .int n] [] M 85 S) (fun M => pX 148 0 [.ref 67, .int r, .int n, .null] [] M 85 S) := by
  intro g d σ τ R
  by_cases hr : inb r 4
  · obtain ⟨k, hk, rfl⟩ := inb_of hr (by decide)
    obtain ⟨e1, e2, e3⟩ := R.2.2.2.2.1 k hk
    have hS : ∀ {α : Type} {a b : α}, ifb (nI k) 4 a b = a := ifb_i hk (by decide)
    have hC := cl (show k ≤ 5000 by omega)
    have l40 : (nI 60 : Int32) = 60 := rfl
    by_cases h1 : 60 < n
    · apply op_of
      · simp only [Nat.reduceAdd, i5_text_0, i5_text_1, i5_text_4, i5_text_7, i5_text_8, i5_text_9, i5_text_12, i5_text_13_r1, i5_text_13_r2, i5_text_13_r11, i5_text_14, i5_text_15, i5_text_17, i5_text_20, i5_text_23, i5_text_24, i5_makeRow_0, i5_makeRow_1, i5_makeRow_2, i5_makeRow_5, i5_makeRow_5_r1, i5_makeRow_5_r2, i5_makeRow_5_r11, i5_makeRow_5_r1000, i5_makeRow_6, i5_makeRow_9, i5_makeRow_10, i5_makeRow_11, i5_makeRow_12, i5_makeRow_15, i5_makeRow_16, i5_makeRow_17, i5_makeRow_20, i5_makeRow_21, i5_makeRow_22, i5_makeRow_23, i5_makeRow_24, i5_makeRow_27, i5_makeRow_28, s5_isText, pK_i, bi_0, hr, if_true, if_false, not_true_eq_false, not_false_eq_true, true_or, or_true, hS, hC, te_k hk, te_p hk, te_l hk, l40, h1]; rfl
      · simp only [Nat.reduceAdd, i6_text_0, i6_text_1, i6_text_2, i6_text_5, i6_text_8, i6_text_9, i6_text_11, i6_text_14, i6_text_15, i6_text_16, i6_text_17, i6_text_20, i6_text_21, i6_text_22, i6_text_25, i6_text_26, i6_text_27, i6_text_30, i6_text_31, i6_text_32, i6_text_33, i6_text_34, i6_text_35, i6_text_36, i6_text_37, i6_text_40, i6_text_41, i6_text_44, i6_text_46, i6_text_47, i6_text_48, i6_text_49, i6_text_50, i6_text_52, i6_text_53, i6_text_56, i6_text_59, i6_text_60, s6_isText, pK_i, bi_0, hr, if_true, if_false, not_true_eq_false, not_false_eq_true, true_or, or_true, h1]; rfl
      · exact R
    · by_cases h2 : n < 0
      · apply op_of
        · simp only [Nat.reduceAdd, i5_text_0, i5_text_1, i5_text_4, i5_text_7, i5_text_8, i5_text_9, i5_text_12, i5_text_13_r1, i5_text_13_r2, i5_text_13_r11, i5_text_14, i5_text_15, i5_text_17, i5_text_20, i5_text_23, i5_text_24, i5_makeRow_0, i5_makeRow_1, i5_makeRow_2, i5_makeRow_5, i5_makeRow_5_r1, i5_makeRow_5_r2, i5_makeRow_5_r11, i5_makeRow_5_r1000, i5_makeRow_6, i5_makeRow_9, i5_makeRow_10, i5_makeRow_11, i5_makeRow_12, i5_makeRow_15, i5_makeRow_16, i5_makeRow_17, i5_makeRow_20, i5_makeRow_21, i5_makeRow_22, i5_makeRow_23, i5_makeRow_24, i5_makeRow_27, i5_makeRow_28, s5_isText, pK_i, bi_0, hr, if_true, if_false, not_true_eq_false, not_false_eq_true, true_or, or_true, hS, hC, te_k hk, te_p hk, te_l hk, l40, h1, h2, rf5]; rfl
        · simp only [Nat.reduceAdd, i6_text_0, i6_text_1, i6_text_2, i6_text_5, i6_text_8, i6_text_9, i6_text_11, i6_text_14, i6_text_15, i6_text_16, i6_text_17, i6_text_20, i6_text_21, i6_text_22, i6_text_25, i6_text_26, i6_text_27, i6_text_30, i6_text_31, i6_text_32, i6_text_33, i6_text_34, i6_text_35, i6_text_36, i6_text_37, i6_text_40, i6_text_41, i6_text_44, i6_text_46, i6_text_47, i6_text_48, i6_text_49, i6_text_50, i6_text_52, i6_text_53, i6_text_56, i6_text_59, i6_text_60, s6_isText, pK_i, bi_0, hr, if_true, if_false, not_true_eq_false, not_false_eq_true, true_or, or_true, h1, h2, fd5]; rfl
        · exact Rel_f R 5
      · obtain ⟨m, hm, rfl⟩ : ∃ m, m < 60 + 1 ∧ n = nI m := inb_of ((inb_iff2 (m := 60) rfl (by decide)).mpr ⟨h2, h1⟩) (by decide)
        have hmk := s2_make (L := L) (xs := xs) (σ := σ) (τ := τ) (S := S) (m := m) (v := 32) (te_k hk) (te_p hk) (by rw [te_l hk]; omega) (by rw [te_l hk]; decide)
        apply op_of
        · simp only [Nat.reduceAdd, i5_text_0, i5_text_1, i5_text_4, i5_text_7, i5_text_8, i5_text_9, i5_text_12, i5_text_13_r1, i5_text_13_r2, i5_text_13_r11, i5_text_14, i5_text_15, i5_text_17, i5_text_20, i5_text_23, i5_text_24, i5_makeRow_0, i5_makeRow_1, i5_makeRow_2, i5_makeRow_5, i5_makeRow_5_r1, i5_makeRow_5_r2, i5_makeRow_5_r11, i5_makeRow_5_r1000, i5_makeRow_6, i5_makeRow_9, i5_makeRow_10, i5_makeRow_11, i5_makeRow_12, i5_makeRow_15, i5_makeRow_16, i5_makeRow_17, i5_makeRow_20, i5_makeRow_21, i5_makeRow_22, i5_makeRow_23, i5_makeRow_24, i5_makeRow_27, i5_makeRow_28, s5_isText, pK_i, pK_v, bi_0, hr, if_true, if_false, not_true_eq_false, not_false_eq_true, true_or, or_true, hS, hC, te_k hk, te_p hk, te_l hk, l40, h1, h2, hmk]; rfl
        · simp only [Nat.reduceAdd, i6_text_0, i6_text_1, i6_text_2, i6_text_5, i6_text_8, i6_text_9, i6_text_11, i6_text_14, i6_text_15, i6_text_16, i6_text_17, i6_text_20, i6_text_21, i6_text_22, i6_text_25, i6_text_26, i6_text_27, i6_text_30, i6_text_31, i6_text_32, i6_text_33, i6_text_34, s6_isText, pK_i, bi_0, hr, if_true, if_false, not_true_eq_false, not_false_eq_true, true_or, or_true, k_70, l_70, hS, hC, h1, h2, s6_textL hk (show m ≤ 60 by omega)]; rfl
        · refine Rel_text R hk (fun c h1 h2 h3 h4 => ?_) (fun c h => ?_) (fun c a h h' => ?_) ⟨?_, ?_, fun a ha => ?_⟩
          · simp (disch := omega) only [vn']
          · simp (disch := omega) only [vn', vs, un]
          · simp (disch := omega) only [vn', vs]
            unfold filp
            rw [if_neg (by omega)]
          · simp (disch := omega) only [vn', vs, us]
          · simp (disch := omega) only [vn', vs, us]; exact Or.inr ⟨m, by omega, rfl⟩
          · simp (disch := omega) only [vn', vs]
            unfold fil filp
            by_cases q : a < m
            · rw [if_pos q, if_pos (by omega)]
            · rw [if_neg q, if_neg (by omega)]; exact e3 a ha
  · apply op_of
    · simp only [i5_text_0, i5_text_1, i5_text_4, i5_text_7, i5_text_8, i5_text_9, i5_text_12, i5_text_13_r1, i5_text_13_r2, i5_text_13_r11, i5_text_14, i5_text_15, i5_text_17, i5_text_20, i5_text_23, i5_text_24, s5_isText, pK_i, bi_0, hr, if_true, if_false, not_true_eq_false, not_false_eq_true, true_or, or_true]; rfl
    · simp only [i6_text_0, i6_text_1, i6_text_2, i6_text_5, i6_text_8, i6_text_9, i6_text_11, i6_text_14, i6_text_15, i6_text_16, i6_text_17, i6_text_20, i6_text_21, i6_text_22, i6_text_25, i6_text_26, i6_text_27, i6_text_30, i6_text_31, i6_text_32, i6_text_33, i6_text_34, i6_text_35, i6_text_36, i6_text_37, i6_text_40, i6_text_41, i6_text_44, i6_text_46, i6_text_47, i6_text_48, i6_text_49, i6_text_50, i6_text_52, i6_text_53, i6_text_56, i6_text_59, i6_text_60, s6_isText, pK_i, bi_0, hr, if_true, if_false, not_true_eq_false, not_false_eq_true, true_or, or_true]; rfl
    · exact R
theorem op_tear {r : Int32} : opI L xs S (fun M => pX 51 0 [.ref 0, .int r] [] M 85 S) (fun M => pX 144 0 [.ref 67, .int r] [] M 85 S) := by
  intro g d σ τ R
  by_cases hr : inb r 6
  · obtain ⟨k, hk, rfl⟩ := inb_of hr (by decide)
    obtain ⟨e1, e2, e3⟩ := R.2.2.2.1 k hk
    have hS : ∀ {α : Type} {a b : α}, ifb (nI k) 6 a b = a := ifb_i hk (by decide)
    have hC := cl (show k ≤ 5000 by omega)
    rcases e2 with h | ⟨m, hm, h⟩
    · have q : (-1 : Int32) < 0 := by decide
      apply op_of
      · simp only [Nat.reduceAdd, i5_tear_0, i5_tear_1, i5_tear_4, i5_tear_7, i5_tear_8, i5_tear_9, i5_tear_10, i5_tear_13, i5_tear_14_r1, i5_tear_14_r2, i5_tear_14_r11, i5_tear_15, i5_tear_18, i5_tear_21, i5_tear_22, i5_tear_23, i5_tear_26, i5_tear_27, i5_tear_28, i5_tear_31, i5_tear_32_r1, i5_tear_32_r2, i5_tear_32_r11, i5_tear_33, i5_tear_34, i5_tear_37, i5_tear_38, i2_isThere_0, i2_isThere_1, i2_isThere_4, i2_isThere_5, i2_isThere_8, i2_isThere_9, i2_isThere_12, i2_isThere_13, s5_isRow, pK_i, bi_0, hr, if_true, if_false, not_true_eq_false, not_false_eq_true, true_or, or_true, hS, hC, ro_k hk, e1, h, rf1]; rfl
      · simp (decide := true) only [Nat.reduceAdd, i6_tear_0, i6_tear_1, i6_tear_2, i6_tear_5, i6_tear_8, i6_tear_9, i6_tear_10, i6_tear_11, i6_tear_14, i6_tear_15, i6_tear_16, i6_tear_19, i6_tear_20, i6_tear_21, i6_tear_24, i6_tear_25, i6_tear_26, i6_tear_29, i6_tear_30, i6_tear_31, i6_tear_32, i6_tear_33, s6_isRow, pK_i, bi_0, hr, if_true, if_false, not_true_eq_false, not_false_eq_true, true_or, or_true, k_68, l_68, hS, hC, fC, vn', h, q, fd1]; rfl
      · exact Rel_f R 1
    · have q : ¬ nI m < 0 := nI_pos (by omega)
      have q2 : ¬ nI m = -1 := fun e => q (by rw [e]; decide)
      apply op_of
      · simp only [Nat.reduceAdd, i5_tear_0, i5_tear_1, i5_tear_4, i5_tear_7, i5_tear_8, i5_tear_9, i5_tear_10, i5_tear_13, i5_tear_14_r1, i5_tear_14_r2, i5_tear_14_r11, i5_tear_15, i5_tear_18, i5_tear_21, i5_tear_22, i5_tear_23, i5_tear_26, i5_tear_27, i5_tear_28, i5_tear_31, i5_tear_32_r1, i5_tear_32_r2, i5_tear_32_r11, i5_tear_33, i5_tear_34, i5_tear_37, i5_tear_38, i2_isThere_0, i2_isThere_1, i2_isThere_4, i2_isThere_5, i2_isThere_8, i2_isThere_9, i2_isThere_12, i2_isThere_13, s5_isRow, pK_i, bi_0, hr, if_true, if_false, not_true_eq_false, not_false_eq_true, true_or, or_true, hS, hC, ro_k hk, e1, h, q2, n10]; rfl
      · simp only [Nat.reduceAdd, i6_tear_0, i6_tear_1, i6_tear_2, i6_tear_5, i6_tear_8, i6_tear_9, i6_tear_10, i6_tear_11, i6_tear_14, i6_tear_15, i6_tear_16, i6_tear_19, i6_tear_20, i6_tear_21, i6_tear_24, i6_tear_25, i6_tear_26, i6_tear_29, i6_tear_30, i6_tear_31, i6_tear_32, i6_tear_33, s6_isRow, pK_i, bi_0, hr, if_true, if_false, not_true_eq_false, not_false_eq_true, true_or, or_true, k_68, l_68, hS, hC, vn (show 68 ≠ 23 + 2 * k by omega), h, q]; rfl
      · refine Rel_row R hk (fun c h1 h2 h3 h4 => ?_) (fun c h => ?_) (fun c a h h' => ?_) ⟨?_, ?_, fun a ha => ?_⟩
        · simp (disch := omega) only [vn']
        · simp (disch := omega) only [vn', vs, un]
        · simp (disch := omega) only [vn']
        · simp (disch := omega) only [vn', vs, us]
        · simp (disch := omega) only [vn', vs, us]; exact Or.inl rfl
        · simp (disch := omega) only [vn']; exact e3 a ha
  · apply op_of
    · simp only [i5_tear_0, i5_tear_1, i5_tear_4, i5_tear_7, i5_tear_8, i5_tear_9, i5_tear_10, i5_tear_13, i5_tear_14_r1, i5_tear_14_r2, i5_tear_14_r11, i5_tear_15, i5_tear_18, i5_tear_21, i5_tear_22, i5_tear_23, i5_tear_26, i5_tear_27, i5_tear_28, i5_tear_31, i5_tear_32_r1, i5_tear_32_r2, i5_tear_32_r11, i5_tear_33, i5_tear_34, i5_tear_37, i5_tear_38, s5_isRow, pK_i, bi_0, hr, if_true, if_false, not_true_eq_false, not_false_eq_true, true_or, or_true]; rfl
    · simp only [i6_tear_0, i6_tear_1, i6_tear_2, i6_tear_5, i6_tear_8, i6_tear_9, i6_tear_10, i6_tear_11, i6_tear_14, i6_tear_15, i6_tear_16, i6_tear_19, i6_tear_20, i6_tear_21, i6_tear_24, i6_tear_25, i6_tear_26, i6_tear_29, i6_tear_30, i6_tear_31, i6_tear_32, i6_tear_33, s6_isRow, pK_i, bi_0, hr, if_true, if_false, not_true_eq_false, not_false_eq_true, true_or, or_true]; rfl
    · exact R
theorem sml_c {f f' : Nat → Int32} {p p' n : Nat} (h : ∀ i, i < n → f (p + i) = f' (p' + i)) : sml f p n = sml f' p' n := by
  induction n with
  | zero => rfl
  | succ n ih => unfold sml; rw [ih (fun i hi => h i (by omega)), h n (by omega)]
theorem op_mean {r : Int32} : opI L xs S (fun M => pX 53 0 [.ref 0, .int r, .null, .null, .null, .null] [] M 85 S) (fun M => pX 147 0 [.ref 67, .int r, .null, .null, .null] [] M 85 S) := by
  intro g d σ τ R
  by_cases hr : inb r 6
  · obtain ⟨k, hk, rfl⟩ := inb_of hr (by decide)
    obtain ⟨e1, e2, e3⟩ := R.2.2.2.1 k hk
    have hS : ∀ {α : Type} {a b : α}, ifb (nI k) 6 a b = a := ifb_i hk (by decide)
    have hC := cl (show k ≤ 5000 by omega)
    have e40 : (40 : Int32) * nI k = nI (40 * k) := pk_mul 40 k
    rcases e2 with h | ⟨m, hm, h⟩
    · have q : (-1 : Int32) < 0 := by decide
      apply op_of
      · simp only [Nat.reduceAdd, i5_mean_0, i5_mean_1, i5_mean_4, i5_mean_7, i5_mean_8, i5_mean_9, i5_mean_10, i5_mean_13, i5_mean_14_r1, i5_mean_14_r2, i5_mean_14_r11, i5_mean_15, i5_mean_18, i5_mean_21, i5_mean_22, i5_mean_23, i5_mean_26, i5_mean_27, i5_mean_28, i5_mean_31, i5_mean_32_r1, i5_mean_32_r2, i5_mean_32_r11, i5_mean_33, i5_mean_36, i5_mean_37, i5_mean_38, i5_mean_41, i5_mean_42, i5_mean_43, i5_mean_46, i5_mean_47, i5_mean_48, i5_mean_49, i5_mean_50, i5_mean_52, i5_mean_54, i5_mean_55, i5_mean_58, i5_mean_59, i5_mean_60, i5_mean_63, i5_mean_64_r1, i5_mean_64_r2, i5_mean_64_r11, i5_mean_65, i5_mean_68, i5_mean_70, i5_mean_71, i5_mean_72, i5_mean_73, i5_mean_74, i5_mean_77, i5_mean_80, i5_mean_81, i5_mean_82, i5_mean_83, i5_mean_84, i5_mean_85, i5_mean_86, i5_mean_89, i2_isThere_0, i2_isThere_1, i2_isThere_4, i2_isThere_5, i2_isThere_8, i2_isThere_9, i2_isThere_12, i2_isThere_13, s5_isRow, pK_i, bi_0, hr, if_true, if_false, not_true_eq_false, not_false_eq_true, true_or, or_true, hS, hC, ro_k hk, e1, h, rf1]; rfl
      · simp (decide := true) only [Nat.reduceAdd, i6_mean_0, i6_mean_1, i6_mean_2, i6_mean_5, i6_mean_8, i6_mean_9, i6_mean_10, i6_mean_11, i6_mean_14, i6_mean_15, i6_mean_16, i6_mean_19, i6_mean_20, i6_mean_21, i6_mean_24, i6_mean_25, i6_mean_26, i6_mean_29, i6_mean_30, i6_mean_31, i6_mean_34, i6_mean_35, i6_mean_36, i6_mean_39, i6_mean_40, i6_mean_41, i6_mean_42, i6_mean_43, i6_mean_45, i6_mean_47, i6_mean_48, i6_mean_51, i6_mean_52, i6_mean_53, i6_mean_56, i6_mean_57, i6_mean_58, i6_mean_61, i6_mean_63, i6_mean_64, i6_mean_65, i6_mean_67, i6_mean_68, i6_mean_69, i6_mean_70, i6_mean_71, i6_mean_72, i6_mean_75, i6_mean_78, i6_mean_79, i6_mean_80, i6_mean_81, i6_mean_84, i6_mean_85, i6_mean_86, i6_mean_87, i6_mean_88, i6_mean_89, i6_mean_92, s6_isRow, pK_i, bi_0, hr, if_true, if_false, not_true_eq_false, not_false_eq_true, true_or, or_true, k_68, l_68, hS, hC, fC, vn', h, q, fd1]; rfl
      · exact Rel_f R 1
    · have q : ¬ nI m < 0 := nI_pos (by omega)
      have q2 : ¬ nI m = -1 := fun e => q (by rw [e]; decide)
      by_cases hm0 : m = 0
      · subst hm0
        rw [nI_0] at h q2 q
        apply op_of
        · simp only [Nat.reduceAdd, i5_mean_0, i5_mean_1, i5_mean_4, i5_mean_7, i5_mean_8, i5_mean_9, i5_mean_10, i5_mean_13, i5_mean_14_r1, i5_mean_14_r2, i5_mean_14_r11, i5_mean_15, i5_mean_18, i5_mean_21, i5_mean_22, i5_mean_23, i5_mean_26, i5_mean_27, i5_mean_28, i5_mean_31, i5_mean_32_r1, i5_mean_32_r2, i5_mean_32_r11, i5_mean_33, i5_mean_36, i5_mean_37, i5_mean_38, i5_mean_41, i5_mean_42, i5_mean_43, i5_mean_46, i5_mean_47, i5_mean_48, i5_mean_49, i5_mean_50, i2_isThere_0, i2_isThere_1, i2_isThere_4, i2_isThere_5, i2_isThere_8, i2_isThere_9, i2_isThere_12, i2_isThere_13, s5_isRow, pK_i, bi_0, hr, if_true, if_false, not_true_eq_false, not_false_eq_true, true_or, or_true, hS, hC, ro_k hk, e1, h, q2, n10, Int32.lt_irrefl, Int32.le_refl, rf4]; rfl
        · simp (decide := true) only [Nat.reduceAdd, i6_mean_0, i6_mean_1, i6_mean_2, i6_mean_5, i6_mean_8, i6_mean_9, i6_mean_10, i6_mean_11, i6_mean_14, i6_mean_15, i6_mean_16, i6_mean_19, i6_mean_20, i6_mean_21, i6_mean_24, i6_mean_25, i6_mean_26, i6_mean_29, i6_mean_30, i6_mean_31, i6_mean_34, i6_mean_35, i6_mean_36, i6_mean_39, i6_mean_40, i6_mean_41, i6_mean_42, i6_mean_43, s6_isRow, pK_i, bi_0, hr, if_true, if_false, not_true_eq_false, not_false_eq_true, true_or, or_true, k_68, l_68, hS, hC, fC, vn', h, Int32.lt_irrefl, fd4]; rfl
        · exact Rel_f R 4
      · have p0 : ¬ nI m = 0 := nI_ne0 (by omega) (by omega)
        have p1 : (0 : Int32) < nI m := nI_lt (a := 0) (by omega) (by omega)
        have p2 : ¬ nI m ≤ 0 := nI_nle (by omega) (by omega)
        have p3 : ¬ (nI m).toInt64 = 0 := by
          rw [nI_l (by omega)]
          intro e
          have : (lN m).toInt32 = (0 : Int64).toInt32 := by rw [e]
          rw [lN_i] at this
          exact p0 this
        have keyC := lp (δ := Unit) m (fun j _ => pX 53 52 [.ref 0, .int (nI k), .int (nI m), .long (sml (σ (23 + 2 * k + 1)) 0 j), .null, .int (nI j)] [] (mm L xs σ τ) 85 S) (some (some (.int 1), mm L xs (va_up σ 0 (upd (σ 0) 10 (sml (σ (23 + 2 * k + 1)) 0 m / (nI m).toInt64).toInt32)) τ, 85, S)) (fun _ => by
          simp only [Nat.reduceAdd, i5_mean_52, i5_mean_54, i5_mean_55, i5_mean_58, i5_mean_59, i5_mean_60, i5_mean_63, i5_mean_64_r1, i5_mean_64_r2, i5_mean_64_r11, i5_mean_65, i5_mean_68, i5_mean_70, i5_mean_71, i5_mean_72, i5_mean_73, i5_mean_74, i5_mean_77, i5_mean_80, i5_mean_81, i5_mean_82, i5_mean_83, i5_mean_84, i5_mean_85, i5_mean_86, i5_mean_89, Int32.lt_irrefl, p3, if_true, if_false, not_true_eq_false, not_false_eq_true, true_or, or_true, s5_tell, pK_i]) (fun j hj _ => ⟨(), by
          rw [i5_mean_52]
          simp only [Nat.reduceAdd, i5_mean_54, i5_mean_55, i5_mean_58, i5_mean_59, i5_mean_60, i5_mean_63, i5_mean_64_r1, i5_mean_64_r2, i5_mean_64_r11, i5_mean_65, i5_mean_68, i5_mean_70, i5_mean_71, i5_mean_72, i5_mean_73, i5_mean_74, i5_mean_77, i5_mean_80, i5_mean_81, i5_mean_82, i5_mean_83, i5_mean_84, i5_mean_85, i5_mean_86, i5_mean_89, nlt hj (by omega), if_true, if_false, not_true_eq_false, not_false_eq_true, true_or, or_true, hS, hC, ro_k hk, ro_p hk, ro_l hk, ifb_i (show j < 40 by omega) (by decide), cl (show j ≤ 5000 by omega), sml, Nat.zero_add, nI_1]⟩)
        have keyR := lp (δ := Unit) m (fun j _ => pX 147 45 [.ref 67, .int (nI k), .long (sml (σ 69) (40 * k) j), .null, .int (nI j)] [] (mm L xs (va_up σ 0 (upd (σ 0) 10 (sml (σ (23 + 2 * k + 1)) 0 m / (nI m).toInt64).toInt32)) τ) 85 S) (some (some (.int 1), mm L xs (va_up (va_up σ 0 (upd (σ 0) 10 (sml (σ (23 + 2 * k + 1)) 0 m / (nI m).toInt64).toInt32)) 67 (upd (σ 67) 11 (sml (σ 69) (40 * k) m / (nI m).toInt64).toInt32)) τ, 85, S)) (fun _ => by
          simp only [Nat.reduceAdd, i6_mean_45, i6_mean_47, i6_mean_48, i6_mean_51, i6_mean_52, i6_mean_53, i6_mean_56, i6_mean_57, i6_mean_58, i6_mean_61, i6_mean_63, i6_mean_64, i6_mean_65, i6_mean_67, i6_mean_68, i6_mean_69, i6_mean_70, i6_mean_71, i6_mean_72, i6_mean_75, i6_mean_78, i6_mean_79, i6_mean_80, i6_mean_81, i6_mean_84, i6_mean_85, i6_mean_86, i6_mean_87, i6_mean_88, i6_mean_89, i6_mean_92, vn (show 68 ≠ 0 by decide), vn (show 67 ≠ 0 by decide), k_68, l_68, hS, hC, h, Int32.lt_irrefl, p3, if_true, if_false, not_true_eq_false, not_false_eq_true, true_or, or_true, s6_tells, pK_i]) (fun j hj _ => ⟨(), by
          rw [i6_mean_45]
          simp only [Nat.reduceAdd, i6_mean_47, i6_mean_48, i6_mean_51, i6_mean_52, i6_mean_53, i6_mean_56, i6_mean_57, i6_mean_58, i6_mean_61, i6_mean_63, i6_mean_64, i6_mean_65, i6_mean_67, i6_mean_68, i6_mean_69, i6_mean_70, i6_mean_71, i6_mean_72, i6_mean_75, i6_mean_78, i6_mean_79, i6_mean_80, i6_mean_81, i6_mean_84, i6_mean_85, i6_mean_86, i6_mean_87, i6_mean_88, i6_mean_89, i6_mean_92, vn (show 68 ≠ 0 by decide), vn (show 69 ≠ 0 by decide), k_68, l_68, k_69, l_69, hS, hC, h, nlt hj (by omega), if_true, if_false, not_true_eq_false, not_false_eq_true, true_or, or_true, e40, nI_add, ifb_i (show 40 * k + j < 240 by omega) (by decide), cl (show 40 * k + j ≤ 5000 by omega), sml, nI_1]⟩)
        have kC := keyC ()
        have kR := keyR ()
        simp only [sml, nI_0] at kC kR
        rw [← sml_c (f := σ (23 + 2 * k + 1)) (f' := σ 69) (p := 0) (p' := 40 * k) (n := m) (fun i hi => by rw [Nat.zero_add]; exact e3 i (by omega))] at kR
        apply op_of
        · simp only [Nat.reduceAdd, i5_mean_0, i5_mean_1, i5_mean_4, i5_mean_7, i5_mean_8, i5_mean_9, i5_mean_10, i5_mean_13, i5_mean_14_r1, i5_mean_14_r2, i5_mean_14_r11, i5_mean_15, i5_mean_18, i5_mean_21, i5_mean_22, i5_mean_23, i5_mean_26, i5_mean_27, i5_mean_28, i5_mean_31, i5_mean_32_r1, i5_mean_32_r2, i5_mean_32_r11, i5_mean_33, i5_mean_36, i5_mean_37, i5_mean_38, i5_mean_41, i5_mean_42, i5_mean_43, i5_mean_46, i5_mean_47, i5_mean_48, i5_mean_49, i5_mean_50, i2_isThere_0, i2_isThere_1, i2_isThere_4, i2_isThere_5, i2_isThere_8, i2_isThere_9, i2_isThere_12, i2_isThere_13, s5_isRow, pK_i, bi_0, hr, if_true, if_false, not_true_eq_false, not_false_eq_true, true_or, or_true, hS, hC, ro_k hk, e1, h, q2, n10, p1, p2, kC]; rfl
        · simp only [Nat.reduceAdd, i6_mean_0, i6_mean_1, i6_mean_2, i6_mean_5, i6_mean_8, i6_mean_9, i6_mean_10, i6_mean_11, i6_mean_14, i6_mean_15, i6_mean_16, i6_mean_19, i6_mean_20, i6_mean_21, i6_mean_24, i6_mean_25, i6_mean_26, i6_mean_29, i6_mean_30, i6_mean_31, i6_mean_34, i6_mean_35, i6_mean_36, i6_mean_39, i6_mean_40, i6_mean_41, i6_mean_42, i6_mean_43, s6_isRow, pK_i, bi_0, hr, if_true, if_false, not_true_eq_false, not_false_eq_true, true_or, or_true, k_68, l_68, hS, hC, vn (show 68 ≠ 0 by decide), h, q, p0, kR]; rfl
        · exact Rel_t R _
  · apply op_of
    · simp only [i5_mean_0, i5_mean_1, i5_mean_4, i5_mean_7, i5_mean_8, i5_mean_9, i5_mean_10, i5_mean_13, i5_mean_14_r1, i5_mean_14_r2, i5_mean_14_r11, i5_mean_15, i5_mean_18, i5_mean_21, i5_mean_22, i5_mean_23, i5_mean_26, i5_mean_27, i5_mean_28, i5_mean_31, i5_mean_32_r1, i5_mean_32_r2, i5_mean_32_r11, i5_mean_33, i5_mean_36, i5_mean_37, i5_mean_38, i5_mean_41, i5_mean_42, i5_mean_43, i5_mean_46, i5_mean_47, i5_mean_48, i5_mean_49, i5_mean_50, i5_mean_52, i5_mean_54, i5_mean_55, i5_mean_58, i5_mean_59, i5_mean_60, i5_mean_63, i5_mean_64_r1, i5_mean_64_r2, i5_mean_64_r11, i5_mean_65, i5_mean_68, i5_mean_70, i5_mean_71, i5_mean_72, i5_mean_73, i5_mean_74, i5_mean_77, i5_mean_80, i5_mean_81, i5_mean_82, i5_mean_83, i5_mean_84, i5_mean_85, i5_mean_86, i5_mean_89, s5_isRow, pK_i, bi_0, hr, if_true, if_false, not_true_eq_false, not_false_eq_true, true_or, or_true]; rfl
    · simp only [i6_mean_0, i6_mean_1, i6_mean_2, i6_mean_5, i6_mean_8, i6_mean_9, i6_mean_10, i6_mean_11, i6_mean_14, i6_mean_15, i6_mean_16, i6_mean_19, i6_mean_20, i6_mean_21, i6_mean_24, i6_mean_25, i6_mean_26, i6_mean_29, i6_mean_30, i6_mean_31, i6_mean_34, i6_mean_35, i6_mean_36, i6_mean_39, i6_mean_40, i6_mean_41, i6_mean_42, i6_mean_43, i6_mean_45, i6_mean_47, i6_mean_48, i6_mean_51, i6_mean_52, i6_mean_53, i6_mean_56, i6_mean_57, i6_mean_58, i6_mean_61, i6_mean_63, i6_mean_64, i6_mean_65, i6_mean_67, i6_mean_68, i6_mean_69, i6_mean_70, i6_mean_71, i6_mean_72, i6_mean_75, i6_mean_78, i6_mean_79, i6_mean_80, i6_mean_81, i6_mean_84, i6_mean_85, i6_mean_86, i6_mean_87, i6_mean_88, i6_mean_89, i6_mean_92, s6_isRow, pK_i, bi_0, hr, if_true, if_false, not_true_eq_false, not_false_eq_true, true_or, or_true]; rfl
    · exact R
end OQ
