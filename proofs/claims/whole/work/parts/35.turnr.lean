/-! THE PLAIN FORM: a turn, and what goes through all gates -/
def rst (s : Nat) : Prop := s = 74 ∨ s = 81
theorem rst_k {s : Nat} (h : rst s) : isK 6 s := by rcases h with rfl | rfl <;> exact ⟨by decide +kernel, by decide⟩
theorem rst_l {s : Nat} (h : rst s) : m_len s = 9 := by rcases h with rfl | rfl <;> decide +kernel
theorem i7 {α : Type} {a b : α} : ifb 7 9 a b = a := ifb_i (j := 7) (n := 9) (by decide) (by decide)
theorem i8 {α : Type} {a b : α} : ifb 8 9 a b = a := ifb_i (j := 8) (n := 9) (by decide) (by decide)
theorem i09 {α : Type} {a b : α} : ifb 0 9 a b = a := ifb_i (j := 0) (n := 9) (by decide) (by decide)
theorem z0 : (0 : Int32).toNatClampNeg = 0 := rfl
theorem z7 : (7 : Int32).toNatClampNeg = 7 := rfl
theorem z8 : (8 : Int32).toNatClampNeg = 8 := rfl
noncomputable def flwR (K Wd : Nat → Int32) (sk : Int32) (f : Nat → Int32) (i : Nat) : Int32 := @ite _ (isop K (f 7) i ∧ ¬ hb sk (nI i)) (Classical.propDecidable _) (flR (K i) (Wd i) (f i) (f (i + 1)) (f 8)) 0
noncomputable def tR (K Wd : Nat → Int32) (sk : Int32) (f : Nat → Int32) : Nat → Nat → Int32
  | 0 => f
  | i + 1 => put2 (tR K Wd sk f i) i (flwR K Wd sk (tR K Wd sk f i) i)
noncomputable def tmR (K Wd : Nat → Int32) (sk : Int32) (f : Nat → Int32) : Nat → Int32
  | 0 => 0
  | i + 1 => if flwR K Wd sk (tR K Wd sk f i) i = 0 then tmR K Wd sk f i else tmR K Wd sk f i ||| sh i
noncomputable def tRs (K Wd : Nat → Int32) (g : Nat) (sk : Int32) (f : Nat → Int32) : Nat → Int32 := upd (tR K Wd sk f g) 8 (tR K Wd sk f g 8 + 1)
noncomputable def rR (K Wd : Nat → Int32) (g : Nat) (f : Nat → Int32) : Nat → Nat → Int32
  | 0 => f
  | n + 1 => tRs K Wd g 0 (rR K Wd g f n)
noncomputable def oo (K : Nat → Int32) (op : Int32) : Nat → Int32
  | 0 => 0
  | i + 1 => @ite _ (isop K op i) (Classical.propDecidable _) (oo K op i ||| sh i) (oo K op i)
noncomputable def wof (Wd : Nat → Int32) (b : Int32) : Nat → Int32
  | 0 => 0
  | i + 1 => @ite _ (hb b (nI i)) (Classical.propDecidable _) (wof Wd b i + Wd i) (wof Wd b i)
def isaP (k w : Int32) : Prop := k = w ∨ (w = 1 ∧ k = 4) ∨ (w = 2 ∧ k = 5)
section R3
variable {L : Nat} {xs : Nat → Int32} {σ : Nat → Nat → Int32} {τ : Nat → Nat → Int64} {S s g : Nat}
theorem s6_isOpen (hs : rst s) {j : Nat} (hj : j < 6) : pX 162 0 [.ref 67, .ref s, .int (nI j)] [] (mm L xs σ τ) 85 S = some (some (.int (bi (isop (σ 72) (σ s 7) j))), mm L xs σ τ, 85, S) := by
  unfold isop
  by_cases h : σ 72 j = 3
  · rw [bi_t (Or.inl h)]
    simp only [i6_isOpen_0, i6_isOpen_1, i6_isOpen_4, i6_isOpen_5, i6_isOpen_6, i6_isOpen_7, i6_isOpen_10, i6_isOpen_11, i6_isOpen_13, i6_isOpen_14, i6_isOpen_15, i6_isOpen_18, i6_isOpen_21, i6_isOpen_22, i6_isOpen_25, i6_isOpen_26, k_72, l_72, ifb_i hj (by decide), cl (show j ≤ 5000 by omega), h, if_true, or_true]
  · by_cases h2 : hb (σ s 7) (nI j)
    · rw [bi_t (Or.inr h2)]
      simp only [i6_isOpen_0, i6_isOpen_1, i6_isOpen_4, i6_isOpen_5, i6_isOpen_6, i6_isOpen_7, i6_isOpen_10, i6_isOpen_11, i6_isOpen_13, i6_isOpen_14, i6_isOpen_15, i6_isOpen_18, i6_isOpen_21, i6_isOpen_22, i6_isOpen_25, i6_isOpen_26, k_72, l_72, rst_k hs, rst_l hs, i7, z7, ifb_i hj (by decide), cl (show j ≤ 5000 by omega), s6_has, pK_i, bi_0, h, h2, not_true_eq_false, if_false, or_true]
    · rw [bi_f (fun q => q.elim h h2)]
      simp only [i6_isOpen_0, i6_isOpen_1, i6_isOpen_4, i6_isOpen_5, i6_isOpen_6, i6_isOpen_7, i6_isOpen_10, i6_isOpen_11, i6_isOpen_13, i6_isOpen_14, i6_isOpen_15, i6_isOpen_18, i6_isOpen_21, i6_isOpen_22, i6_isOpen_25, i6_isOpen_26, k_72, l_72, rst_k hs, rst_l hs, i7, z7, ifb_i hj (by decide), cl (show j ≤ 5000 by omega), s6_has, pK_i, bi_0, h, h2, not_false_eq_true, if_true, if_false, true_or]
theorem s6_flowOn (hs : rst s) {j : Nat} (hj : j < 6) (hk : kd6 (σ 72 j)) : pX 163 0 [.ref 67, .ref s, .int (nI j)] [] (mm L xs σ τ) 85 S = some (some (.int (flR (σ 72 j) (σ 73 j) (σ s j) (σ s (j + 1)) (σ s 8))), mm L xs σ τ, 85, S) := by
  simp only [i6_flowOn_0, i6_flowOn_1, i6_flowOn_4, i6_flowOn_5, i6_flowOn_6, i6_flowOn_7, i6_flowOn_10, i6_flowOn_11, i6_flowOn_12, i6_flowOn_13, i6_flowOn_14, i6_flowOn_15, i6_flowOn_16, i6_flowOn_17, i6_flowOn_18, i6_flowOn_19, i6_flowOn_20, i6_flowOn_21, i6_flowOn_22, i6_flowOn_23, i6_flowOn_24, i6_flowOn_25, i6_flowOn_27, i6_flowOn_28, i6_flowOn_31, k_72, l_72, k_73, l_73, rst_k hs, rst_l hs, i8, z8, Int32.zero_add, nI_1, ifb_i hj (by decide), ifb_i (show j < 9 by omega) (by decide), ifb_i (show j + 1 < 9 by omega) (by decide), cl (show j ≤ 5000 by omega), cl (show j + 1 ≤ 5000 by omega), s6_flowBy hk, pK_i]
theorem s6_turnOn (hs : rst s) (hg : σ 67 4 = nI g) (hg6 : g ≤ 6) (hk : ∀ i, i < g → kd6 (σ 72 i)) {sk : Int32} : pX 164 0 [.ref 67, .ref s, .int sk, .null, .null, .null] [] (mm L xs σ τ) 85 S = some (some (.int (tmR (σ 72) (σ 73) sk (σ s) g)), mm L xs (va_up σ s (tRs (σ 72) (σ 73) g sk (σ s))) τ, 85, S) := by
  have n1 : 72 ≠ s := by rcases hs with rfl | rfl <;> decide
  have n2 : 73 ≠ s := by rcases hs with rfl | rfl <;> decide
  have n3 : 67 ≠ s := by rcases hs with rfl | rfl <;> decide
  have key := lp (δ := Value) g (fun j d => pX 164 5 [.ref 67, .ref s, .int sk, .int (tmR (σ 72) (σ 73) sk (σ s) j), .int (nI j), d] [] (mm L xs (va_up σ s (tR (σ 72) (σ 73) sk (σ s) j)) τ) 85 S) (some (some (.int (tmR (σ 72) (σ 73) sk (σ s) g)), mm L xs (va_up σ s (tRs (σ 72) (σ 73) g sk (σ s))) τ, 85, S)) (fun d => by
    simp only [i6_turnOn_0, i6_turnOn_1, i6_turnOn_2, i6_turnOn_3, i6_turnOn_5, i6_turnOn_7, i6_turnOn_8, i6_turnOn_11, i6_turnOn_14, i6_turnOn_15, i6_turnOn_16, i6_turnOn_18, i6_turnOn_21, i6_turnOn_24, i6_turnOn_25, i6_turnOn_27, i6_turnOn_30, i6_turnOn_33, i6_turnOn_34, i6_turnOn_35, i6_turnOn_37, i6_turnOn_40, i6_turnOn_43, i6_turnOn_44, i6_turnOn_46, i6_turnOn_47, i6_turnOn_48, i6_turnOn_50, i6_turnOn_51, i6_turnOn_52, i6_turnOn_53, i6_turnOn_55, i6_turnOn_56, i6_turnOn_57, i6_turnOn_58, i6_turnOn_59, i6_turnOn_61, i6_turnOn_62, i6_turnOn_63, i6_turnOn_64, i6_turnOn_65, i6_turnOn_66, i6_turnOn_68, i6_turnOn_69, i6_turnOn_70, i6_turnOn_71, i6_turnOn_73, i6_turnOn_76, i6_turnOn_77, i6_turnOn_80, i6_turnOn_81, i6_turnOn_83, i6_turnOn_84, i6_turnOn_85, i6_turnOn_86, i6_turnOn_89, i6_turnOn_92, i6_turnOn_93, i6_turnOn_95, i6_turnOn_96, i6_turnOn_97, i6_turnOn_98, i6_turnOn_99, i6_turnOn_100, i6_turnOn_101, vn n3, hg, Int32.lt_irrefl, if_false, rst_k hs, rst_l hs, i8, z8, vs, vu, tRs]) (fun j hj d => ⟨.int (flwR (σ 72) (σ 73) sk (tR (σ 72) (σ 73) sk (σ s) j) j), by
    have h6 : j < 6 := by omega
    generalize hlv : tR (σ 72) (σ 73) sk (σ s) j = lv
    have e1 : tR (σ 72) (σ 73) sk (σ s) (j + 1) = put2 lv j (flwR (σ 72) (σ 73) sk lv j) := by rw [← hlv]; rfl
    have e2 : tmR (σ 72) (σ 73) sk (σ s) (j + 1) = if flwR (σ 72) (σ 73) sk lv j = 0 then tmR (σ 72) (σ 73) sk (σ s) j else tmR (σ 72) (σ 73) sk (σ s) j ||| sh j := by rw [← hlv]; rfl
    rw [e1, e2]
    generalize tmR (σ 72) (σ 73) sk (σ s) j = mv
    have tail : ∀ (f : Int32), pX 164 44 [.ref 67, .ref s, .int sk, .int mv, .int (nI j), d] [.int f] (mm L xs (va_up σ s lv) τ) 85 S = pX 164 5 [.ref 67, .ref s, .int sk, .int (if f = 0 then mv else mv ||| sh j), .int (nI (j + 1)), .int f] [] (mm L xs (va_up σ s (put2 lv j f)) τ) 85 S := by
      intro f
      by_cases h0 : f = 0
      · simp only [i6_turnOn_44, i6_turnOn_46, i6_turnOn_47, i6_turnOn_48, i6_turnOn_50, i6_turnOn_51, i6_turnOn_52, i6_turnOn_53, i6_turnOn_55, i6_turnOn_56, i6_turnOn_57, i6_turnOn_58, i6_turnOn_59, i6_turnOn_61, i6_turnOn_62, i6_turnOn_63, i6_turnOn_64, i6_turnOn_65, i6_turnOn_66, i6_turnOn_68, i6_turnOn_69, i6_turnOn_70, i6_turnOn_71, i6_turnOn_73, i6_turnOn_76, i6_turnOn_77, i6_turnOn_80, i6_turnOn_81, i6_turnOn_83, i6_turnOn_84, i6_turnOn_85, i6_turnOn_86, i6_turnOn_89, rst_k hs, rst_l hs, Int32.zero_add, nI_1, ifb_i (show j < 9 by omega) (by decide), ifb_i (show j + 1 < 9 by omega) (by decide), cl (show j ≤ 5000 by omega), cl (show j + 1 ≤ 5000 by omega), vs, vu, h0, if_true, put2, Int32.or_zero]
      · simp only [i6_turnOn_44, i6_turnOn_46, i6_turnOn_47, i6_turnOn_48, i6_turnOn_50, i6_turnOn_51, i6_turnOn_52, i6_turnOn_53, i6_turnOn_55, i6_turnOn_56, i6_turnOn_57, i6_turnOn_58, i6_turnOn_59, i6_turnOn_61, i6_turnOn_62, i6_turnOn_63, i6_turnOn_64, i6_turnOn_65, i6_turnOn_66, i6_turnOn_68, i6_turnOn_69, i6_turnOn_70, i6_turnOn_71, i6_turnOn_73, i6_turnOn_76, i6_turnOn_77, i6_turnOn_80, i6_turnOn_81, i6_turnOn_83, i6_turnOn_84, i6_turnOn_85, i6_turnOn_86, i6_turnOn_89, rst_k hs, rst_l hs, Int32.zero_add, nI_1, ifb_i (show j < 9 by omega) (by decide), ifb_i (show j + 1 < 9 by omega) (by decide), cl (show j ≤ 5000 by omega), cl (show j + 1 ≤ 5000 by omega), vs, vu, h0, if_false, put2, sh]
    rw [i6_turnOn_5]
    have hkj : kd6 ((va_up σ s lv) 72 j) := by rw [vn n1]; exact hk j hj
    by_cases ho : isop (σ 72) (lv 7) j
    · by_cases hk : hb sk (nI j)
      · have ef : flwR (σ 72) (σ 73) sk lv j = 0 := if_neg (fun q => q.2 hk)
        rw [ef, ← tail 0]
        simp only [i6_turnOn_7, i6_turnOn_8, i6_turnOn_11, i6_turnOn_14, i6_turnOn_15, i6_turnOn_16, i6_turnOn_18, i6_turnOn_21, i6_turnOn_24, i6_turnOn_25, i6_turnOn_27, i6_turnOn_30, i6_turnOn_33, i6_turnOn_34, i6_turnOn_35, i6_turnOn_37, i6_turnOn_40, i6_turnOn_43, vs, vn n1, vn n3, hg, nlt hj (by omega), if_true, s6_isOpen hs h6, s6_has, pK_i, bi_0, ho, hk, not_true_eq_false, if_false]
      · have ef : flwR (σ 72) (σ 73) sk lv j = flR (σ 72 j) (σ 73 j) (lv j) (lv (j + 1)) (lv 8) := if_pos ⟨ho, hk⟩
        rw [ef, ← tail]
        simp only [i6_turnOn_7, i6_turnOn_8, i6_turnOn_11, i6_turnOn_14, i6_turnOn_15, i6_turnOn_16, i6_turnOn_18, i6_turnOn_21, i6_turnOn_24, i6_turnOn_25, i6_turnOn_27, i6_turnOn_30, i6_turnOn_33, i6_turnOn_34, i6_turnOn_35, i6_turnOn_37, i6_turnOn_40, i6_turnOn_43, vn n1, vn n2, vn n3, vs, hg, nlt hj (by omega), if_true, s6_isOpen hs h6, s6_flowOn hs h6 hkj, s6_has, pK_i, bi_0, ho, hk, not_true_eq_false, not_false_eq_true, if_false]
    · have ef : flwR (σ 72) (σ 73) sk lv j = 0 := if_neg (fun q => ho q.1)
      rw [ef, ← tail 0]
      simp only [i6_turnOn_7, i6_turnOn_8, i6_turnOn_11, i6_turnOn_14, i6_turnOn_15, i6_turnOn_16, i6_turnOn_18, i6_turnOn_21, i6_turnOn_24, i6_turnOn_25, i6_turnOn_27, i6_turnOn_30, i6_turnOn_33, i6_turnOn_34, i6_turnOn_35, i6_turnOn_37, i6_turnOn_40, i6_turnOn_43, vs, vn n1, vn n3, hg, nlt hj (by omega), if_true, s6_isOpen hs h6, pK_i, bi_0, ho, not_false_eq_true]⟩)
  have k := key .null
  simp only [tmR, tR, nI_0, m_up_id] at k
  simp only [i6_turnOn_0, i6_turnOn_1, i6_turnOn_2, i6_turnOn_3]
  exact k
theorem s6_weirs (hg : σ 67 4 = nI g) (hg6 : g ≤ 6) : pX 184 0 [.ref 67, .null, .null] [] (mm L xs σ τ) 85 S = some (some (.int (wr (σ 72) g)), mm L xs σ τ, 85, S) := by
  have key := lp (δ := Unit) g (fun j _ => pX 184 4 [.ref 67, .int (wr (σ 72) j), .int (nI j)] [] (mm L xs σ τ) 85 S) (some (some (.int (wr (σ 72) g)), mm L xs σ τ, 85, S)) (fun _ => by
    simp only [i6_weirs_0, i6_weirs_1, i6_weirs_2, i6_weirs_3, i6_weirs_4, i6_weirs_5, i6_weirs_6, i6_weirs_9, i6_weirs_12, i6_weirs_13, i6_weirs_14, i6_weirs_17, i6_weirs_18, i6_weirs_19, i6_weirs_20, i6_weirs_23, i6_weirs_24, i6_weirs_25, i6_weirs_26, i6_weirs_29, i6_weirs_30, i6_weirs_31, i6_weirs_32, i6_weirs_35, i6_weirs_38, i6_weirs_39, hg, Int32.lt_irrefl, if_false]) (fun j hj _ => ⟨(), by
    rw [i6_weirs_4]
    have h6 : j < 6 := by omega
    by_cases h : σ 72 j = 3
    · simp only [i6_weirs_5, i6_weirs_6, i6_weirs_9, i6_weirs_12, i6_weirs_13, i6_weirs_14, i6_weirs_17, i6_weirs_18, i6_weirs_19, i6_weirs_20, i6_weirs_23, i6_weirs_24, i6_weirs_25, i6_weirs_26, i6_weirs_29, i6_weirs_30, i6_weirs_31, i6_weirs_32, i6_weirs_35, i6_weirs_38, i6_weirs_39, k_72, l_72, hg, nlt hj (by omega), if_true, ifb_i h6 (by decide), cl (show j ≤ 5000 by omega), h, nI_1, wr, sh]
    · simp only [i6_weirs_5, i6_weirs_6, i6_weirs_9, i6_weirs_12, i6_weirs_13, i6_weirs_14, i6_weirs_17, i6_weirs_18, i6_weirs_19, i6_weirs_20, i6_weirs_23, i6_weirs_24, i6_weirs_25, i6_weirs_26, i6_weirs_29, i6_weirs_30, i6_weirs_31, i6_weirs_32, i6_weirs_35, i6_weirs_38, i6_weirs_39, k_72, l_72, hg, nlt hj (by omega), if_true, ifb_i h6 (by decide), cl (show j ≤ 5000 by omega), h, if_false, Int32.or_zero, nI_1, wr]⟩)
  have k := key ()
  simp only [wr, nI_0] at k
  simp only [i6_weirs_0, i6_weirs_1, i6_weirs_2, i6_weirs_3]
  exact k
theorem s6_openOnes (hg : σ 67 4 = nI g) (hg6 : g ≤ 6) : pX 165 0 [.ref 67, .null, .null] [] (mm L xs σ τ) 85 S = some (some (.int (oo (σ 72) (σ 74 7) g)), mm L xs σ τ, 85, S) := by
  have hs : rst 74 := Or.inl rfl
  have key := lp (δ := Unit) g (fun j _ => pX 165 4 [.ref 67, .int (oo (σ 72) (σ 74 7) j), .int (nI j)] [] (mm L xs σ τ) 85 S) (some (some (.int (oo (σ 72) (σ 74 7) g)), mm L xs σ τ, 85, S)) (fun _ => by
    simp only [i6_openOnes_0, i6_openOnes_1, i6_openOnes_2, i6_openOnes_3, i6_openOnes_4, i6_openOnes_5, i6_openOnes_6, i6_openOnes_9, i6_openOnes_12, i6_openOnes_13, i6_openOnes_14, i6_openOnes_15, i6_openOnes_18, i6_openOnes_19, i6_openOnes_22, i6_openOnes_25, i6_openOnes_26, i6_openOnes_27, i6_openOnes_28, i6_openOnes_31, i6_openOnes_32, i6_openOnes_33, i6_openOnes_34, i6_openOnes_37, i6_openOnes_40, i6_openOnes_41, hg, Int32.lt_irrefl, if_false]) (fun j hj _ => ⟨(), by
    rw [i6_openOnes_4]
    have h6 : j < 6 := by omega
    by_cases h : isop (σ 72) (σ 74 7) j
    · simp only [i6_openOnes_5, i6_openOnes_6, i6_openOnes_9, i6_openOnes_12, i6_openOnes_13, i6_openOnes_14, i6_openOnes_15, i6_openOnes_18, i6_openOnes_19, i6_openOnes_22, i6_openOnes_25, i6_openOnes_26, i6_openOnes_27, i6_openOnes_28, i6_openOnes_31, i6_openOnes_32, i6_openOnes_33, i6_openOnes_34, i6_openOnes_37, i6_openOnes_40, i6_openOnes_41, hg, nlt hj (by omega), if_true, s6_isOpen hs h6, pK_i, bi_0, h, not_true_eq_false, if_false, nI_1, oo, sh]
    · simp only [i6_openOnes_5, i6_openOnes_6, i6_openOnes_9, i6_openOnes_12, i6_openOnes_13, i6_openOnes_14, i6_openOnes_15, i6_openOnes_18, i6_openOnes_19, i6_openOnes_22, i6_openOnes_25, i6_openOnes_26, i6_openOnes_27, i6_openOnes_28, i6_openOnes_31, i6_openOnes_32, i6_openOnes_33, i6_openOnes_34, i6_openOnes_37, i6_openOnes_40, i6_openOnes_41, hg, nlt hj (by omega), if_true, s6_isOpen hs h6, pK_i, bi_0, h, not_false_eq_true, if_false, Int32.or_zero, nI_1, oo]⟩)
  have k := key ()
  simp only [oo, nI_0] at k
  simp only [i6_openOnes_0, i6_openOnes_1, i6_openOnes_2, i6_openOnes_3]
  exact k
theorem s6_widthOf (hg : σ 67 4 = nI g) (hg6 : g ≤ 6) {b : Int32} : pX 200 0 [.ref 67, .int b, .null, .null] [] (mm L xs σ τ) 85 S = some (some (.int (wof (σ 73) b g)), mm L xs σ τ, 85, S) := by
  have key := lp (δ := Unit) g (fun j _ => pX 200 4 [.ref 67, .int b, .int (wof (σ 73) b j), .int (nI j)] [] (mm L xs σ τ) 85 S) (some (some (.int (wof (σ 73) b g)), mm L xs σ τ, 85, S)) (fun _ => by
    simp only [i6_widthOf_0, i6_widthOf_1, i6_widthOf_2, i6_widthOf_3, i6_widthOf_4, i6_widthOf_5, i6_widthOf_6, i6_widthOf_9, i6_widthOf_12, i6_widthOf_13, i6_widthOf_14, i6_widthOf_15, i6_widthOf_18, i6_widthOf_21, i6_widthOf_22, i6_widthOf_25, i6_widthOf_26, i6_widthOf_27, i6_widthOf_30, i6_widthOf_31, i6_widthOf_32, i6_widthOf_33, i6_widthOf_36, i6_widthOf_39, i6_widthOf_40, hg, Int32.lt_irrefl, if_false]) (fun j hj _ => ⟨(), by
    rw [i6_widthOf_4]
    have h6 : j < 6 := by omega
    by_cases h : hb b (nI j)
    · simp only [i6_widthOf_5, i6_widthOf_6, i6_widthOf_9, i6_widthOf_12, i6_widthOf_13, i6_widthOf_14, i6_widthOf_15, i6_widthOf_18, i6_widthOf_21, i6_widthOf_22, i6_widthOf_25, i6_widthOf_26, i6_widthOf_27, i6_widthOf_30, i6_widthOf_31, i6_widthOf_32, i6_widthOf_33, i6_widthOf_36, i6_widthOf_39, i6_widthOf_40, k_73, l_73, hg, nlt hj (by omega), if_true, s6_has, ifb_i h6 (by decide), cl (show j ≤ 5000 by omega), pK_i, bi_0, h, not_true_eq_false, if_false, nI_1, wof]
    · simp only [i6_widthOf_5, i6_widthOf_6, i6_widthOf_9, i6_widthOf_12, i6_widthOf_13, i6_widthOf_14, i6_widthOf_15, i6_widthOf_18, i6_widthOf_21, i6_widthOf_22, i6_widthOf_25, i6_widthOf_26, i6_widthOf_27, i6_widthOf_30, i6_widthOf_31, i6_widthOf_32, i6_widthOf_33, i6_widthOf_36, i6_widthOf_39, i6_widthOf_40, hg, nlt hj (by omega), if_true, s6_has, pK_i, bi_0, h, not_false_eq_true, if_false, Int32.add_zero, nI_1, wof]⟩)
  have k := key ()
  simp only [wof, nI_0] at k
  simp only [i6_widthOf_0, i6_widthOf_1, i6_widthOf_2, i6_widthOf_3]
  exact k
theorem s6_asItIs : pX 180 0 [.ref 67] [] (mm L xs σ τ) 85 S = some (none, mm L xs (va_up σ 81 (va_cpy (σ 74) (σ 81) 0 0 9)) τ, 85, S) := by
  have e := s6_bring (L := L) (xs := xs) (σ := σ) (τ := τ) (S := S) (a := 74) (b := 81) (i := 0) (j := 0) (n := 9) k_74 k_81 (by decide) (by decide +kernel) (by decide +kernel) (by decide +kernel) (by decide +kernel)
  rw [show nI 0 = 0 from rfl, show nI 9 = 9 from rfl] at e
  simp only [i6_asItIs_0, i6_asItIs_1, i6_asItIs_4, i6_asItIs_5, i6_asItIs_6, i6_asItIs_9, i6_asItIs_10, i6_asItIs_12, i6_asItIs_15, e, pK_v]
theorem s6_tries (hg : σ 67 4 = nI g) (hg6 : g ≤ 6) (hk : ∀ i, i < g → kd6 (σ 72 i)) {op : Int32} {n : Nat} (hn : n ≤ 100) : pX 185 0 [.ref 67, .int op, .int (nI n), .null] [] (mm L xs σ τ) 85 S = some (none, mm L xs (va_up σ 81 (rR (σ 72) (σ 73) g (upd (va_cpy (σ 74) (σ 81) 0 0 9) 7 op) n)) τ, 85, S) := by
  have hs : rst 81 := Or.inr rfl
  have n1 : 72 ≠ 81 := by decide
  have n2 : 73 ≠ 81 := by decide
  have n3 : 67 ≠ 81 := by decide
  have key := lp (δ := Unit) n (fun j _ => pX 185 14 [.ref 67, .int op, .int (nI n), .int (nI j)] [] (mm L xs (va_up σ 81 (rR (σ 72) (σ 73) g (upd (va_cpy (σ 74) (σ 81) 0 0 9) 7 op) j)) τ) 85 S) (some (none, mm L xs (va_up σ 81 (rR (σ 72) (σ 73) g (upd (va_cpy (σ 74) (σ 81) 0 0 9) 7 op) n)) τ, 85, S)) (fun _ => by
    simp only [i6_tries_0, i6_tries_1, i6_tries_4, i6_tries_5, i6_tries_8, i6_tries_10, i6_tries_11, i6_tries_12, i6_tries_13, i6_tries_14, i6_tries_15, i6_tries_16, i6_tries_19, i6_tries_20, i6_tries_21, i6_tries_24, i6_tries_25, i6_tries_28, i6_tries_29, i6_tries_32, i6_tries_35, Int32.lt_irrefl, if_false]) (fun j hj _ => ⟨(), by
    rw [i6_tries_14]
    generalize hlv : rR (σ 72) (σ 73) g (upd (va_cpy (σ 74) (σ 81) 0 0 9) 7 op) j = lv
    have e1 : rR (σ 72) (σ 73) g (upd (va_cpy (σ 74) (σ 81) 0 0 9) 7 op) (j + 1) = tRs (σ 72) (σ 73) g 0 lv := by rw [← hlv]; rfl
    have hg' : (va_up σ 81 lv) 67 4 = nI g := by rw [vn n3]; exact hg
    have hk' : ∀ i, i < g → kd6 ((va_up σ 81 lv) 72 i) := by rw [vn n1]; exact hk
    simp only [i6_tries_15, i6_tries_16, i6_tries_19, i6_tries_20, i6_tries_21, i6_tries_24, i6_tries_25, i6_tries_28, i6_tries_29, i6_tries_32, i6_tries_35, nlt hj (by omega), if_true, s6_turnOn hs hg' hg6 hk', pK_i, vs, vu, vn n1, vn n2, nI_1, e1]⟩)
  have k := key ()
  simp only [rR, nI_0] at k
  simp only [i6_tries_0, i6_tries_1, i6_tries_4, i6_tries_5, i6_tries_8, i6_tries_10, i6_tries_11, i6_tries_12, i6_tries_13, s6_asItIs, pK_v, k_81, l_81, i7, z7, vs, vu]
  exact k
theorem s6_notes {d : Nat} (hd : σ 67 8 = nI d) (h40 : d < 40) : pX 171 0 [.ref 67] [] (mm L xs σ τ) 85 S = some (none, mm L xs (va_up (va_up σ 75 (va_cpy (σ 74) (σ 75) 0 (9 * d) 9)) 67 (upd (σ 67) 8 (nI (d + 1)))) τ, 85, S) := by
  have e := s6_bring (L := L) (xs := xs) (σ := σ) (τ := τ) (S := S) (a := 74) (b := 75) (i := 0) (j := 9 * d) (n := 9) k_74 k_75 (by decide) (by decide +kernel) (by rw [l_75]; omega) (by decide +kernel) (by decide +kernel)
  rw [show nI 0 = 0 from rfl, show nI 9 = 9 from rfl] at e
  have e9 : (9 : Int32) * nI d = nI (9 * d) := pk_mul 9 d
  simp only [i6_notes_0, i6_notes_1, i6_notes_4, i6_notes_5, i6_notes_6, i6_notes_9, i6_notes_11, i6_notes_12, i6_notes_15, i6_notes_16, i6_notes_18, i6_notes_21, i6_notes_22, i6_notes_23, i6_notes_26, i6_notes_27, i6_notes_28, i6_notes_31, hd, e9, e, pK_v, vn (show 67 ≠ 75 by decide), nI_1]
theorem s6_comes {j : Nat} (hj : j < 9) {n : Int32} : pX 174 0 [.ref 67, .int (nI j), .int n, .null] [] (mm L xs σ τ) 85 S = some (none, mm L xs (va_up σ 74 (upd (σ 74) j (if σ 74 j + n < 0 then 0 else if 60 < σ 74 j + n then 60 else σ 74 j + n))) τ, 85, S) := by
  by_cases h1 : σ 74 j + n < 0
  · simp only [i6_comes_0, i6_comes_1, i6_comes_4, i6_comes_5, i6_comes_6, i6_comes_7, i6_comes_8, i6_comes_9, i6_comes_10, i6_comes_11, i6_comes_12, i6_comes_15, i6_comes_16, i6_comes_17, i6_comes_18, i6_comes_19, i6_comes_22, i6_comes_23, i6_comes_26, i6_comes_27, i6_comes_29, i6_comes_32, i6_comes_34, i6_comes_37, i6_comes_38, i6_comes_39, k_74, l_74, Int32.zero_add, ifb_i hj (by decide), cl (show j ≤ 5000 by omega), h1, if_true]
  · by_cases h2 : 60 < σ 74 j + n
    · simp only [i6_comes_0, i6_comes_1, i6_comes_4, i6_comes_5, i6_comes_6, i6_comes_7, i6_comes_8, i6_comes_9, i6_comes_10, i6_comes_11, i6_comes_12, i6_comes_15, i6_comes_16, i6_comes_17, i6_comes_18, i6_comes_19, i6_comes_22, i6_comes_23, i6_comes_26, i6_comes_27, i6_comes_29, i6_comes_32, i6_comes_34, i6_comes_37, i6_comes_38, i6_comes_39, k_74, l_74, Int32.zero_add, ifb_i hj (by decide), cl (show j ≤ 5000 by omega), h1, h2, if_true, if_false]
    · simp only [i6_comes_0, i6_comes_1, i6_comes_4, i6_comes_5, i6_comes_6, i6_comes_7, i6_comes_8, i6_comes_9, i6_comes_10, i6_comes_11, i6_comes_12, i6_comes_15, i6_comes_16, i6_comes_17, i6_comes_18, i6_comes_19, i6_comes_22, i6_comes_23, i6_comes_26, i6_comes_27, i6_comes_29, i6_comes_32, i6_comes_34, i6_comes_37, i6_comes_38, i6_comes_39, k_74, l_74, Int32.zero_add, ifb_i hj (by decide), cl (show j ≤ 5000 by omega), h1, h2, if_false]
theorem s6_isA {j : Nat} (hj : j < 6) {w : Int32} : pX 169 0 [.ref 67, .int (nI j), .int w] [] (mm L xs σ τ) 85 S = some (some (.int (bi (isaP (σ 72 j) w))), mm L xs σ τ, 85, S) := by
  have hS : ∀ {α : Type} {a b : α}, ifb (nI j) 6 a b = a := ifb_i hj (by decide)
  have hC := cl (show j ≤ 5000 by omega)
  by_cases h0 : σ 72 j = w
  · rw [bi_t (show isaP (σ 72 j) w from Or.inl h0)]
    simp only [i6_isA_0, i6_isA_1, i6_isA_4, i6_isA_5, i6_isA_6, i6_isA_7, i6_isA_10, i6_isA_11, i6_isA_12, i6_isA_15, i6_isA_16, i6_isA_19, i6_isA_20, i6_isA_21, i6_isA_22, i6_isA_25, i6_isA_26, i6_isA_27, i6_isA_30, i6_isA_31, i6_isA_34, i6_isA_35, i6_isA_36, i6_isA_37, i6_isA_40, i6_isA_41, i6_isA_44, i6_isA_45, k_72, l_72, hS, hC, h0, if_true, or_true]
  · by_cases h1 : w = 1
    · subst h1
      by_cases h2 : σ 72 j = 4
      · rw [bi_t (show isaP (σ 72 j) 1 from Or.inr (Or.inl ⟨rfl, h2⟩))]
        simp only [i6_isA_0, i6_isA_1, i6_isA_4, i6_isA_5, i6_isA_6, i6_isA_7, i6_isA_10, i6_isA_11, i6_isA_12, i6_isA_15, i6_isA_16, i6_isA_19, i6_isA_20, i6_isA_21, i6_isA_22, i6_isA_25, i6_isA_26, i6_isA_27, i6_isA_30, i6_isA_31, i6_isA_34, i6_isA_35, i6_isA_36, i6_isA_37, i6_isA_40, i6_isA_41, i6_isA_44, i6_isA_45, k_72, l_72, hS, hC, h2, n41, if_true, if_false, or_true]
      · rw [bi_f (show ¬ isaP (σ 72 j) 1 from fun q => q.elim h0 (fun q => q.elim (fun q => h2 q.2) (fun q => absurd q.1 (by decide))))]
        simp only [i6_isA_0, i6_isA_1, i6_isA_4, i6_isA_5, i6_isA_6, i6_isA_7, i6_isA_10, i6_isA_11, i6_isA_12, i6_isA_15, i6_isA_16, i6_isA_19, i6_isA_20, i6_isA_21, i6_isA_22, i6_isA_25, i6_isA_26, i6_isA_27, i6_isA_30, i6_isA_31, i6_isA_34, i6_isA_35, i6_isA_36, i6_isA_37, i6_isA_40, i6_isA_41, i6_isA_44, i6_isA_45, k_72, l_72, hS, hC, h0, h2, n12, if_true, if_false, true_or]
    · by_cases h3 : w = 2
      · subst h3
        by_cases h2 : σ 72 j = 5
        · rw [bi_t (show isaP (σ 72 j) 2 from Or.inr (Or.inr ⟨rfl, h2⟩))]
          simp only [i6_isA_0, i6_isA_1, i6_isA_4, i6_isA_5, i6_isA_6, i6_isA_7, i6_isA_10, i6_isA_11, i6_isA_12, i6_isA_15, i6_isA_16, i6_isA_19, i6_isA_20, i6_isA_21, i6_isA_22, i6_isA_25, i6_isA_26, i6_isA_27, i6_isA_30, i6_isA_31, i6_isA_34, i6_isA_35, i6_isA_36, i6_isA_37, i6_isA_40, i6_isA_41, i6_isA_44, i6_isA_45, k_72, l_72, hS, hC, h2, n52, n21, if_true, if_false, or_true]
        · rw [bi_f (show ¬ isaP (σ 72 j) 2 from fun q => q.elim h0 (fun q => q.elim (fun q => absurd q.1 (by decide)) (fun q => h2 q.2)))]
          simp only [i6_isA_0, i6_isA_1, i6_isA_4, i6_isA_5, i6_isA_6, i6_isA_7, i6_isA_10, i6_isA_11, i6_isA_12, i6_isA_15, i6_isA_16, i6_isA_19, i6_isA_20, i6_isA_21, i6_isA_22, i6_isA_25, i6_isA_26, i6_isA_27, i6_isA_30, i6_isA_31, i6_isA_34, i6_isA_35, i6_isA_36, i6_isA_37, i6_isA_40, i6_isA_41, i6_isA_44, i6_isA_45, k_72, l_72, hS, hC, h0, h2, n21, if_true, if_false, true_or]
      · rw [bi_f (show ¬ isaP (σ 72 j) w from fun q => q.elim h0 (fun q => q.elim (fun q => h1 q.1) (fun q => h3 q.1)))]
        simp only [i6_isA_0, i6_isA_1, i6_isA_4, i6_isA_5, i6_isA_6, i6_isA_7, i6_isA_10, i6_isA_11, i6_isA_12, i6_isA_15, i6_isA_16, i6_isA_19, i6_isA_20, i6_isA_21, i6_isA_22, i6_isA_25, i6_isA_26, i6_isA_27, i6_isA_30, i6_isA_31, i6_isA_34, i6_isA_35, i6_isA_36, i6_isA_37, i6_isA_40, i6_isA_41, i6_isA_44, i6_isA_45, k_72, l_72, hS, hC, h0, h1, h3, if_false, true_or]
end R3
