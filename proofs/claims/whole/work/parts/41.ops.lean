/-! THE CALLS, one by one: rows -/
def opQ (L : Nat) (xs : Nat → Int32) (S : Nat) (c r : pm_M → Option pm_Rs) (σ : Nat → Nat → Int32) (τ : Nat → Nat → Int64) : Prop := ∃ v σ1 τ1 σ2 τ2 g' d', c (mm L xs σ τ) = some (some (.int v), mm L xs σ1 τ1, 85, S) ∧ r (mm L xs σ1 τ1) = some (some (.int v), mm L xs σ2 τ2, 85, S) ∧ Rel g' d' σ2 τ2
def opI (L : Nat) (xs : Nat → Int32) (S : Nat) (c r : pm_M → Option pm_Rs) : Prop := ∀ g d σ τ, Rel g d σ τ → opQ L xs S c r σ τ
theorem op_of {L : Nat} {xs : Nat → Int32} {S : Nat} {c r : pm_M → Option pm_Rs} {σ σ1 σ2 : Nat → Nat → Int32} {τ τ1 τ2 : Nat → Nat → Int64} {v : Int32} {g d : Nat} (h1 : c (mm L xs σ τ) = some (some (.int v), mm L xs σ1 τ1, 85, S)) (h2 : r (mm L xs σ1 τ1) = some (some (.int v), mm L xs σ2 τ2, 85, S)) (h3 : Rel g d σ2 τ2) : opQ L xs S c r σ τ := ⟨v, σ1, τ1, σ2, τ2, g, d, h1, h2, h3⟩
theorem inb_of {x : Int32} {n : Nat} (h : inb x n) (hn : n < 2 ^ 31) : ∃ j, j < n ∧ x = nI j := vp_in_of h hn
theorem vn' {α : Type} {f : Nat → α} {k j : Nat} {v : α} (h : j ≠ k) : va_up f k v j = f j := if_neg h
theorem Rel_f {g d : Nat} {σ : Nat → Nat → Int32} {τ : Nat → Nat → Int64} (r : Rel g d σ τ) (j : Nat) : Rel g d (fR (fC σ j) j) τ := by
  obtain ⟨a1, a2, a3, a4, a5, a6⟩ := r
  have h : ∀ c, c ≠ 0 → c ≠ 22 → c ≠ 67 → c ≠ 77 → fR (fC σ j) j c = σ c := by
    intro c h1 h2 h3 h4
    unfold fR fC
    rw [vn h4, vn h3, vn h2, vn h1]
  have h67 : ∀ i, i ≠ 14 → fR (fC σ j) j 67 i = σ 67 i := by
    intro i hi
    unfold fR fC
    rw [vn (by decide), vs, un hi, vn (by decide), vn (by decide)]
  refine ⟨qN_c (fun c hc => h c (by omega) (by omega) (by omega) (by omega)) (h67 4 (by decide)) a1, qD_c (fun c hc => h c (by omega) (by omega) (by omega) (by omega)) (h67 8 (by decide)) a2, qK_c (fun c hc => h c (by omega) (by omega) (by omega) (by omega)) a3, qR_c (fun c hc => h c (by omega) (by omega) (by omega) (by omega)) a4, qT_c (fun c hc => h c (by omega) (by omega) (by omega) (by omega)) a5, ?_⟩
  obtain ⟨b1, b2, b3, b4, b5⟩ := a6
  unfold fR fC
  refine ⟨?_, ?_, b3, b4, ?_⟩
  · simp (decide := true) only [vn', vs, un]; exact b1
  · simp (decide := true) only [vn', vs, us]
  · intro i hi
    by_cases hij : i = j
    · subst hij
      simp (decide := true) only [vn', vs, us, b5 i hi]
    · simp (decide := true) only [vn', vs, un hij, b5 i hi]
theorem Rel_t {g d : Nat} {σ : Nat → Nat → Int32} {τ : Nat → Nat → Int64} (r : Rel g d σ τ) (v : Int32) : Rel g d (va_up (va_up σ 0 (upd (σ 0) 10 v)) 67 (upd (σ 67) 11 v)) τ := by
  obtain ⟨a1, a2, a3, a4, a5, a6⟩ := r
  have h : ∀ c, c ≠ 0 → c ≠ 67 → (va_up (va_up σ 0 (upd (σ 0) 10 v)) 67 (upd (σ 67) 11 v)) c = σ c := by
    intro c h1 h2
    rw [vn h2, vn h1]
  have h67 : ∀ i, i ≠ 11 → (va_up (va_up σ 0 (upd (σ 0) 10 v)) 67 (upd (σ 67) 11 v)) 67 i = σ 67 i := by
    intro i hi
    rw [vs, un hi]
  refine ⟨qN_c (fun c hc => h c (by omega) (by omega)) (h67 4 (by decide)) a1, qD_c (fun c hc => h c (by omega) (by omega)) (h67 8 (by decide)) a2, qK_c (fun c hc => h c (by omega) (by omega)) a3, qR_c (fun c hc => h c (by omega) (by omega)) a4, qT_c (fun c hc => h c (by omega) (by omega)) a5, ?_⟩
  obtain ⟨b1, b2, b3, b4, b5⟩ := a6
  refine ⟨?_, ?_, b3, b4, ?_⟩
  · simp (decide := true) only [vn', vs, us]
  · simp (decide := true) only [vn', vs, un]; exact b2
  · intro i hi
    simp (decide := true) only [vn', b5 i hi]
theorem Rel_tell {g d : Nat} {σ σ' : Nat → Nat → Int32} {τ : Nat → Nat → Int64} (r : Rel g d σ τ) (h : ∀ c, c ≠ 0 → c ≠ 67 → σ' c = σ c) (h0 : ∀ i, i ≠ 10 → σ' 0 i = σ 0 i) (h67 : ∀ i, i ≠ 11 → σ' 67 i = σ 67 i) (hv : σ' 0 10 = σ' 67 11) : Rel g d σ' τ := by
  obtain ⟨a1, a2, a3, a4, a5, a6⟩ := r
  refine ⟨qN_c (fun c hc => h c (by omega) (by omega)) (h67 4 (by decide)) a1, qD_c (fun c hc => h c (by omega) (by omega)) (h67 8 (by decide)) a2, qK_c (fun c hc => h c (by omega) (by omega)) a3, qR_c (fun c hc => h c (by omega) (by omega)) a4, qT_c (fun c hc => h c (by omega) (by omega)) a5, ?_⟩
  obtain ⟨b1, b2, b3, b4, b5⟩ := a6
  refine ⟨hv, by rw [h0 9 (by decide), h67 14 (by decide)]; exact b2, b3, b4, ?_⟩
  rw [h 22 (by decide) (by decide), h 77 (by decide) (by decide)]
  exact b5
theorem Rel_row {g d k : Nat} {σ σ' : Nat → Nat → Int32} {τ : Nat → Nat → Int64} (r : Rel g d σ τ) (hk : k < 6) (h : ∀ c, c ≠ 23 + 2 * k → c ≠ 23 + 2 * k + 1 → c ≠ 68 → c ≠ 69 → σ' c = σ c) (h1 : ∀ j, j ≠ k → σ' 68 j = σ 68 j) (h2 : ∀ j i, j ≠ k → i < 40 → σ' 69 (40 * j + i) = σ 69 (40 * j + i)) (hn : σ' (23 + 2 * k) 1 = σ' 68 k ∧ sz 40 (σ' 68 k) ∧ ∀ i, i < 40 → σ' (23 + 2 * k + 1) i = σ' 69 (40 * k + i)) : Rel g d σ' τ := by
  obtain ⟨a1, a2, a3, a4, a5, a6⟩ := r
  have hh : ∀ c, c < 23 ∨ (34 < c ∧ c ≠ 68 ∧ c ≠ 69) → σ' c = σ c := fun c hc => h c (by omega) (by omega) (by omega) (by omega)
  refine ⟨qN_c (fun c hc => hh c (by omega)) (by rw [hh 67 (by omega)]) a1, qD_c (fun c hc => hh c (by omega)) (by rw [hh 67 (by omega)]) a2, qK_c (fun c hc => hh c (by omega)) a3, ?_, qT_c (fun c hc => hh c (by omega)) a5, qS_c (hh 0 (by omega)) (by rw [hh 67 (by omega)]) (by rw [hh 67 (by omega)]) (hh 22 (by omega)) (hh 77 (by omega)) a6⟩
  intro j hj
  by_cases e : j = k
  · subst e; exact hn
  · obtain ⟨b1, b2, b3⟩ := a4 j hj
    rw [h (23 + 2 * j) (by omega) (by omega) (by omega) (by omega), h (23 + 2 * j + 1) (by omega) (by omega) (by omega) (by omega), h1 j e]
    exact ⟨b1, b2, fun i hi => by rw [h2 j i e hi]; exact b3 i hi⟩
theorem Rel_text {g d k : Nat} {σ σ' : Nat → Nat → Int32} {τ : Nat → Nat → Int64} (r : Rel g d σ τ) (hk : k < 4) (h : ∀ c, c ≠ 35 + 2 * k → c ≠ 35 + 2 * k + 1 → c ≠ 70 → c ≠ 71 → σ' c = σ c) (h1 : ∀ j, j ≠ k → σ' 70 j = σ 70 j) (h2 : ∀ j i, j ≠ k → i < 60 → σ' 71 (60 * j + i) = σ 71 (60 * j + i)) (hn : σ' (35 + 2 * k) 1 = σ' 70 k ∧ sz 60 (σ' 70 k) ∧ ∀ i, i < 60 → σ' (35 + 2 * k + 1) i = σ' 71 (60 * k + i)) : Rel g d σ' τ := by
  obtain ⟨a1, a2, a3, a4, a5, a6⟩ := r
  have hh : ∀ c, c < 35 ∨ (42 < c ∧ c ≠ 70 ∧ c ≠ 71) → σ' c = σ c := fun c hc => h c (by omega) (by omega) (by omega) (by omega)
  refine ⟨qN_c (fun c hc => hh c (by omega)) (by rw [hh 67 (by omega)]) a1, qD_c (fun c hc => hh c (by omega)) (by rw [hh 67 (by omega)]) a2, qK_c (fun c hc => hh c (by omega)) a3, qR_c (fun c hc => hh c (by omega)) a4, ?_, qS_c (hh 0 (by omega)) (by rw [hh 67 (by omega)]) (by rw [hh 67 (by omega)]) (hh 22 (by omega)) (hh 77 (by omega)) a6⟩
  intro j hj
  by_cases e : j = k
  · subst e; exact hn
  · obtain ⟨b1, b2, b3⟩ := a5 j hj
    rw [h (35 + 2 * j) (by omega) (by omega) (by omega) (by omega), h (35 + 2 * j + 1) (by omega) (by omega) (by omega) (by omega), h1 j e]
    exact ⟨b1, b2, fun i hi => by rw [h2 j i e hi]; exact b3 i hi⟩
theorem inP {i : Int32} {m : Nat} (hm : m ≤ 5000) : (¬ i < 0 ∧ ¬ nI m - 1 < i) = inb i m := by
  cases m with
  | zero =>
    refine propext ⟨fun h => ?_, fun h => ?_⟩
    · exfalso
      have h1 := h.1
      have h2 := h.2
      rw [Int32.lt_iff_toInt_lt] at h1 h2
      have h3 : (nI 0 - 1).toInt = -1 := rfl
      have h4 : (0 : Int32).toInt = 0 := rfl
      omega
    · exact absurd (Or.inr (Nat.zero_le _)) h
  | succ n => rw [nI_pred]; exact propext (inb_iff2 rfl (by omega)).symm
/-- a part of a long row filled -/
def filp (f : Nat → Int32) (p : Nat) (v : Int32) (m : Nat) : Nat → Int32 := fun j => if p ≤ j ∧ j < p + m then v else f j
theorem filp_0 (f : Nat → Int32) (p : Nat) (v : Int32) : filp f p v 0 = f := by funext j; unfold filp; rw [if_neg (by omega)]
theorem filp_s (f : Nat → Int32) (p : Nat) (v : Int32) (m : Nat) : filp f p v (m + 1) = upd (filp f p v m) (p + m) v := by
  funext j
  by_cases h : j = p + m
  · subst h; rw [us]; unfold filp; rw [if_pos (by omega)]
  · rw [un h]; unfold filp
    by_cases h2 : p ≤ j ∧ j < p + m
    · rw [if_pos h2, if_pos (by omega)]
    · rw [if_neg h2, if_neg (by omega)]
theorem byte_eq (v : Int32) : v.toInt8.toInt32 = v <<< (24 &&& 31) >>> (24 &&& 31) := by
  apply Int32.toBitVec_inj.mp
  have e : ((24 : Int32) &&& 31).toBitVec.smod 32 = 24#32 := by decide
  rw [Int32.toBitVec_shiftRight, Int32.toBitVec_shiftLeft, e, Int8.toBitVec_toInt32, Int32.toBitVec_toInt8]
  generalize v.toBitVec = w
  apply BitVec.eq_of_getLsbD_eq
  intro i hi
  simp [BitVec.getLsbD_signExtend, BitVec.getLsbD_sshiftRight, BitVec.getLsbD_shiftLeft]
  by_cases h1 : i < 8
  · simp [h1, hi, show 24 + i < 32 by omega, show ¬ 24 + i < 24 by omega, show ¬ 32 ≤ i by omega]
  · simp [h1, hi, show ¬ 24 + i < 32 by omega, show ¬ 32 ≤ i by omega, BitVec.msb_eq_getLsbD_last, BitVec.getElem_signExtend, BitVec.getMsbD]
section OP
variable {L : Nat} {xs : Nat → Int32} {σ : Nat → Nat → Int32} {τ : Nat → Nat → Int64} {S : Nat}
theorem s2_hasPlace {k m : Nat} (hk : isK 1 k) (h : σ k 1 = nI m) (hm : m ≤ 5000) {i : Int32} : pX 19 0 [.ref k, .int i] [] (mm L xs σ τ) 85 S = some (some (.int (bi (inb i m))), mm L xs σ τ, 85, S) := by
  rw [show inb i m = (¬ i < 0 ∧ i < nI m) from propext (inb_iff rfl (by omega))]
  by_cases h1 : i < 0
  · rw [bi_f (fun h => h.1 h1)]
    simp only [i2_hasPlace_0, i2_hasPlace_1, i2_hasPlace_4, i2_hasPlace_5, i2_hasPlace_6, i2_hasPlace_9, i2_hasPlace_12, i2_hasPlace_13, i2_hasPlace_16, i2_hasPlace_17, h1, if_true, if_false, not_true_eq_false, not_false_eq_true, true_or, or_true]
  · by_cases h2 : i < nI m
    · rw [bi_t ⟨h1, h2⟩]
      simp only [i2_hasPlace_0, i2_hasPlace_1, i2_hasPlace_4, i2_hasPlace_5, i2_hasPlace_6, i2_hasPlace_9, i2_hasPlace_12, i2_hasPlace_13, i2_hasPlace_16, i2_hasPlace_17, hk, h, h1, h2, if_true, if_false, not_true_eq_false, not_false_eq_true, true_or, or_true]
    · rw [bi_f (fun h => h2 h.2)]
      simp only [i2_hasPlace_0, i2_hasPlace_1, i2_hasPlace_4, i2_hasPlace_5, i2_hasPlace_6, i2_hasPlace_9, i2_hasPlace_12, i2_hasPlace_13, i2_hasPlace_16, i2_hasPlace_17, hk, h, h1, h2, if_true, if_false, not_true_eq_false, not_false_eq_true, true_or, or_true]
theorem op_at {r i : Int32} : opI L xs S (fun M => pX 50 0 [.ref 0, .int r, .int i, .null] [] M 85 S) (fun M => pX 143 0 [.ref 67, .int r, .int i] [] M 85 S) := by
  intro g d σ τ R
  by_cases hr : inb r 6
  · obtain ⟨k, hk, rfl⟩ := inb_of hr (by decide)
    obtain ⟨e1, e2, e3⟩ := R.2.2.2.1 k hk
    have hS : ∀ {α : Type} {a b : α}, ifb (nI k) 6 a b = a := ifb_i hk (by decide)
    have hC := cl (show k ≤ 5000 by omega)
    have e40 : (40 : Int32) * nI k = nI (40 * k) := pk_mul 40 k
    rcases e2 with h | ⟨m, hm, h⟩
    · have q : (-1 : Int32) < 0 := by decide
      apply op_of
      · simp only [Nat.reduceAdd, i5_at_0, i5_at_1, i5_at_4, i5_at_7, i5_at_8, i5_at_9, i5_at_10, i5_at_11, i5_at_14, i5_at_15_r1, i5_at_15_r2, i5_at_15_r11, i5_at_16, i5_at_17, i5_at_20, i5_at_21, i5_at_22, i5_at_25, i5_at_26, i5_at_29, i5_at_30, i5_at_31, i5_at_34, i5_at_35_r1, i5_at_35_r2, i5_at_35_r11, i5_at_36, i5_at_39, i5_at_40, i5_at_41, i5_at_44, i5_refusalOfPlace_0, i5_refusalOfPlace_1, i5_refusalOfPlace_4, i5_refusalOfPlace_7, i5_refusalOfPlace_8, i5_refusalOfPlace_9, i5_refusalOfPlace_12, i5_refusalOfPlace_13, i5_refusalOfPlace_14, i5_refusalOfPlace_15, i5_refusalOfPlace_18, i5_refusalOfPlace_21, i5_refusalOfPlace_22, i5_refusalOfPlace_25, i5_refusalOfPlace_26, i5_refusalOfPlace_27, i5_refusalOfPlace_30, i2_isThere_0, i2_isThere_1, i2_isThere_4, i2_isThere_5, i2_isThere_8, i2_isThere_9, i2_isThere_12, i2_isThere_13, s5_isRow, pK_i, bi_0, hr, if_true, if_false, not_true_eq_false, not_false_eq_true, true_or, or_true, hS, hC, ro_k hk, e1, h, rf1]; rfl
      · simp (decide := true) only [Nat.reduceAdd, i6_at_0, i6_at_1, i6_at_2, i6_at_5, i6_at_8, i6_at_9, i6_at_10, i6_at_11, i6_at_14, i6_at_15, i6_at_16, i6_at_19, i6_at_20, i6_at_21, i6_at_24, i6_at_25, i6_at_26, i6_at_27, i6_at_28, i6_at_31, i6_at_32, i6_at_33, i6_at_34, i6_at_35, i6_at_38, i6_at_41, i6_at_42, i6_at_43, i6_at_46, i6_at_48, i6_at_49, i6_at_50, i6_at_51, i6_at_52, i6_at_53, i6_at_56, i6_at_59, i6_at_60, i6_at_61, i6_at_64, s6_isRow, pK_i, bi_0, hr, if_true, if_false, not_true_eq_false, not_false_eq_true, true_or, or_true, k_68, l_68, hS, hC, fC, vn', h, q, fd1]; rfl
      · exact Rel_f R 1
    · have q : ¬ nI m < 0 := nI_pos (by omega)
      have q2 : ¬ nI m = -1 := fun e => q (by rw [e]; decide)
      have hP := s2_hasPlace (L := L) (xs := xs) (τ := τ) (S := S) (ro_k hk) (e1.trans h) (by omega) (i := i)
      by_cases hi : inb i m
      · obtain ⟨j, hj, rfl⟩ := inb_of hi (by omega)
        have hj40 : j < 40 := by omega
        apply op_of
        · simp only [Nat.reduceAdd, i5_at_0, i5_at_1, i5_at_4, i5_at_7, i5_at_8, i5_at_9, i5_at_10, i5_at_11, i5_at_14, i5_at_15_r1, i5_at_15_r2, i5_at_15_r11, i5_at_16, i5_at_17, i5_at_20, i5_at_21, i5_at_22, i5_at_25, i5_at_26, i5_at_29, i5_at_30, i5_at_31, i5_at_34, i5_at_35_r1, i5_at_35_r2, i5_at_35_r11, i5_at_36, i5_at_39, i5_at_40, i5_at_41, i5_at_44, i5_refusalOfPlace_0, i5_refusalOfPlace_1, i5_refusalOfPlace_4, i5_refusalOfPlace_7, i5_refusalOfPlace_8, i5_refusalOfPlace_9, i5_refusalOfPlace_12, i5_refusalOfPlace_13, i5_refusalOfPlace_14, i5_refusalOfPlace_15, i5_refusalOfPlace_18, i5_refusalOfPlace_21, i5_refusalOfPlace_22, i5_refusalOfPlace_25, i5_refusalOfPlace_26, i5_refusalOfPlace_27, i5_refusalOfPlace_30, i2_isThere_0, i2_isThere_1, i2_isThere_4, i2_isThere_5, i2_isThere_8, i2_isThere_9, i2_isThere_12, i2_isThere_13, hP, s5_isRow, s5_tell, pK_i, bi_0, hr, hi, if_true, if_false, not_true_eq_false, not_false_eq_true, true_or, or_true, hS, hC, ro_k hk, ro_p hk, ro_l hk, ifb_i hj40 (by decide), cl (show j ≤ 5000 by omega), e1, h, q2, n10]; rfl
        · simp (disch := (first | omega | exact k_68 | exact k_69 | exact k_70 | exact k_71 | exact k_72 | exact k_73 | exact k_74 | exact k_75 | exact k_76 | exact k_77 | exact k_81)) only [Nat.reduceAdd, i6_at_0, i6_at_1, i6_at_2, i6_at_5, i6_at_8, i6_at_9, i6_at_10, i6_at_11, i6_at_14, i6_at_15, i6_at_16, i6_at_19, i6_at_20, i6_at_21, i6_at_24, i6_at_25, i6_at_26, i6_at_27, i6_at_28, i6_at_31, i6_at_32, i6_at_33, i6_at_34, i6_at_35, i6_at_38, i6_at_41, i6_at_42, i6_at_43, i6_at_46, i6_at_48, i6_at_49, i6_at_50, i6_at_51, i6_at_52, i6_at_53, i6_at_56, i6_at_59, i6_at_60, i6_at_61, i6_at_64, s6_isRow, s6_in, inP (show m ≤ 5000 by omega), s6_tells, pK_i, bi_0, hr, hi, if_true, if_false, not_true_eq_false, not_false_eq_true, true_or, or_true, k_68, l_68, k_69, l_69, hS, hC, vn', h, q, e40, nI_add, ifb_i (show 40 * k + j < 240 by omega) (by decide), cl (show 40 * k + j ≤ 5000 by omega), e3 j hj40]; rfl
        · exact Rel_t R _
      · apply op_of
        · simp only [Nat.reduceAdd, i5_at_0, i5_at_1, i5_at_4, i5_at_7, i5_at_8, i5_at_9, i5_at_10, i5_at_11, i5_at_14, i5_at_15_r1, i5_at_15_r2, i5_at_15_r11, i5_at_16, i5_at_17, i5_at_20, i5_at_21, i5_at_22, i5_at_25, i5_at_26, i5_at_29, i5_at_30, i5_at_31, i5_at_34, i5_at_35_r1, i5_at_35_r2, i5_at_35_r11, i5_at_36, i5_at_39, i5_at_40, i5_at_41, i5_at_44, i5_refusalOfPlace_0, i5_refusalOfPlace_1, i5_refusalOfPlace_4, i5_refusalOfPlace_7, i5_refusalOfPlace_8, i5_refusalOfPlace_9, i5_refusalOfPlace_12, i5_refusalOfPlace_13, i5_refusalOfPlace_14, i5_refusalOfPlace_15, i5_refusalOfPlace_18, i5_refusalOfPlace_21, i5_refusalOfPlace_22, i5_refusalOfPlace_25, i5_refusalOfPlace_26, i5_refusalOfPlace_27, i5_refusalOfPlace_30, i2_isThere_0, i2_isThere_1, i2_isThere_4, i2_isThere_5, i2_isThere_8, i2_isThere_9, i2_isThere_12, i2_isThere_13, hP, s5_isRow, pK_i, bi_0, hr, hi, if_true, if_false, not_true_eq_false, not_false_eq_true, true_or, or_true, hS, hC, ro_k hk, e1, h, q2, n10, rf2]; rfl
        · simp (decide := true) only [Nat.reduceAdd, i6_at_0, i6_at_1, i6_at_2, i6_at_5, i6_at_8, i6_at_9, i6_at_10, i6_at_11, i6_at_14, i6_at_15, i6_at_16, i6_at_19, i6_at_20, i6_at_21, i6_at_24, i6_at_25, i6_at_26, i6_at_27, i6_at_28, i6_at_31, i6_at_32, i6_at_33, i6_at_34, i6_at_35, i6_at_38, i6_at_41, i6_at_42, i6_at_43, i6_at_46, i6_at_48, i6_at_49, i6_at_50, i6_at_51, i6_at_52, i6_at_53, i6_at_56, i6_at_59, i6_at_60, i6_at_61, i6_at_64, s6_isRow, s6_in, inP (show m ≤ 5000 by omega), pK_i, bi_0, hr, hi, if_true, if_false, not_true_eq_false, not_false_eq_true, true_or, or_true, k_68, l_68, hS, hC, fC, vn', h, q, fd2]; rfl
        · exact Rel_f R 2
  · apply op_of
    · simp only [i5_at_0, i5_at_1, i5_at_4, i5_at_7, i5_at_8, i5_at_9, i5_at_10, i5_at_11, i5_at_14, i5_at_15_r1, i5_at_15_r2, i5_at_15_r11, i5_at_16, i5_at_17, i5_at_20, i5_at_21, i5_at_22, i5_at_25, i5_at_26, i5_at_29, i5_at_30, i5_at_31, i5_at_34, i5_at_35_r1, i5_at_35_r2, i5_at_35_r11, i5_at_36, i5_at_39, i5_at_40, i5_at_41, i5_at_44, s5_isRow, pK_i, bi_0, hr, if_true, if_false, not_true_eq_false, not_false_eq_true, true_or, or_true]; rfl
    · simp only [i6_at_0, i6_at_1, i6_at_2, i6_at_5, i6_at_8, i6_at_9, i6_at_10, i6_at_11, i6_at_14, i6_at_15, i6_at_16, i6_at_19, i6_at_20, i6_at_21, i6_at_24, i6_at_25, i6_at_26, i6_at_27, i6_at_28, i6_at_31, i6_at_32, i6_at_33, i6_at_34, i6_at_35, i6_at_38, i6_at_41, i6_at_42, i6_at_43, i6_at_46, i6_at_48, i6_at_49, i6_at_50, i6_at_51, i6_at_52, i6_at_53, i6_at_56, i6_at_59, i6_at_60, i6_at_61, i6_at_64, s6_isRow, pK_i, bi_0, hr, if_true, if_false, not_true_eq_false, not_false_eq_true, true_or, or_true]; rfl
    · exact R
theorem op_lay {r i v : Int32} : opI L xs S (fun M => pX 49 0 [.ref 0, .int r, .int i, .int v, .null] [] M 85 S) (fun M => pX 142 0 [.ref 67, .int r, .int i, .int v, .null] [] M 85 S) := by
  intro g d σ τ R
  by_cases hr : inb r 6
  · obtain ⟨k, hk, rfl⟩ := inb_of hr (by decide)
    obtain ⟨e1, e2, e3⟩ := R.2.2.2.1 k hk
    have hS : ∀ {α : Type} {a b : α}, ifb (nI k) 6 a b = a := ifb_i hk (by decide)
    have hC := cl (show k ≤ 5000 by omega)
    have e40 : (40 : Int32) * nI k = nI (40 * k) := pk_mul 40 k
    rcases e2 with h | ⟨m, hm, h⟩
    · have q : (-1 : Int32) < 0 := by decide
      apply op_of
      · simp only [Nat.reduceAdd, i5_lay_0, i5_lay_1, i5_lay_4, i5_lay_7, i5_lay_8, i5_lay_9, i5_lay_10, i5_lay_11, i5_lay_14, i5_lay_15_r1, i5_lay_15_r2, i5_lay_15_r11, i5_lay_16, i5_lay_17, i5_lay_20, i5_lay_22, i5_lay_24, i5_lay_27, i5_lay_29, i5_lay_30, i5_lay_31, i5_lay_32, i5_lay_35, i5_lay_36_r1, i5_lay_36_r2, i5_lay_36_r11, i5_lay_37, i5_lay_40, i5_lay_41, i5_lay_42, i5_lay_45, i5_lay_46, i5_lay_47, i5_lay_50, i5_lay_51_r1, i5_lay_51_r2, i5_lay_51_r11, i5_lay_52, i5_lay_55, i5_lay_56, i5_lay_57, i5_lay_58, i5_lay_59, i5_refusalOfPlace_0, i5_refusalOfPlace_1, i5_refusalOfPlace_4, i5_refusalOfPlace_7, i5_refusalOfPlace_8, i5_refusalOfPlace_9, i5_refusalOfPlace_12, i5_refusalOfPlace_13, i5_refusalOfPlace_14, i5_refusalOfPlace_15, i5_refusalOfPlace_18, i5_refusalOfPlace_21, i5_refusalOfPlace_22, i5_refusalOfPlace_25, i5_refusalOfPlace_26, i5_refusalOfPlace_27, i5_refusalOfPlace_30, i2_isThere_0, i2_isThere_1, i2_isThere_4, i2_isThere_5, i2_isThere_8, i2_isThere_9, i2_isThere_12, i2_isThere_13, s5_isRow, pK_i, bi_0, hr, if_true, if_false, not_true_eq_false, not_false_eq_true, true_or, or_true, hS, hC, ro_k hk, e1, h, rf1]; rfl
      · simp (decide := true) only [Nat.reduceAdd, i6_lay_0, i6_lay_1, i6_lay_2, i6_lay_5, i6_lay_8, i6_lay_9, i6_lay_10, i6_lay_11, i6_lay_14, i6_lay_15, i6_lay_16, i6_lay_19, i6_lay_20, i6_lay_21, i6_lay_24, i6_lay_25, i6_lay_26, i6_lay_27, i6_lay_28, i6_lay_31, i6_lay_32, i6_lay_33, i6_lay_34, i6_lay_35, i6_lay_38, i6_lay_41, i6_lay_42, i6_lay_43, i6_lay_46, i6_lay_47, i6_lay_48, i6_lay_51, i6_lay_53, i6_lay_54, i6_lay_55, i6_lay_56, i6_lay_57, i6_lay_58, i6_lay_60, i6_lay_61, i6_lay_64, i6_lay_66, i6_lay_67, i6_lay_68, i6_lay_69, i6_lay_70, i6_lay_71, i6_lay_72, i6_lay_73, i6_lay_75, i6_lay_78, s6_isRow, pK_i, bi_0, hr, if_true, if_false, not_true_eq_false, not_false_eq_true, true_or, or_true, k_68, l_68, hS, hC, fC, vn', h, q, fd1]; rfl
      · exact Rel_f R 1
    · have q : ¬ nI m < 0 := nI_pos (by omega)
      have q2 : ¬ nI m = -1 := fun e => q (by rw [e]; decide)
      have hP := s2_hasPlace (L := L) (xs := xs) (τ := τ) (S := S) (ro_k hk) (e1.trans h) (by omega) (i := i)
      by_cases hi : inb i m
      · obtain ⟨j, hj, rfl⟩ := inb_of hi (by omega)
        have hj40 : j < 40 := by omega
        apply op_of
        · simp only [Nat.reduceAdd, i5_lay_0, i5_lay_1, i5_lay_4, i5_lay_7, i5_lay_8, i5_lay_9, i5_lay_10, i5_lay_11, i5_lay_14, i5_lay_15_r1, i5_lay_15_r2, i5_lay_15_r11, i5_lay_16, i5_lay_17, i5_lay_20, i5_lay_22, i5_lay_24, i5_lay_27, i5_lay_29, i5_lay_30, i5_lay_31, i5_lay_32, i5_lay_35, i5_lay_36_r1, i5_lay_36_r2, i5_lay_36_r11, i5_lay_37, i5_lay_40, i5_lay_41, i5_lay_42, i5_lay_45, i5_lay_46, i5_lay_47, i5_lay_50, i5_lay_51_r1, i5_lay_51_r2, i5_lay_51_r11, i5_lay_52, i5_lay_55, i5_lay_56, i5_lay_57, i5_lay_58, i5_lay_59, i5_refusalOfPlace_0, i5_refusalOfPlace_1, i5_refusalOfPlace_4, i5_refusalOfPlace_7, i5_refusalOfPlace_8, i5_refusalOfPlace_9, i5_refusalOfPlace_12, i5_refusalOfPlace_13, i5_refusalOfPlace_14, i5_refusalOfPlace_15, i5_refusalOfPlace_18, i5_refusalOfPlace_21, i5_refusalOfPlace_22, i5_refusalOfPlace_25, i5_refusalOfPlace_26, i5_refusalOfPlace_27, i5_refusalOfPlace_30, i2_isThere_0, i2_isThere_1, i2_isThere_4, i2_isThere_5, i2_isThere_8, i2_isThere_9, i2_isThere_12, i2_isThere_13, hP, s5_isRow, s5_tell, pK_i, bi_0, hr, hi, if_true, if_false, not_true_eq_false, not_false_eq_true, true_or, or_true, hS, hC, ro_k hk, ro_p hk, ro_l hk, ifb_i hj40 (by decide), cl (show j ≤ 5000 by omega), e1, h, q2, n10, vn (show 23 + 2 * k + 1 ≠ 0 by omega)]; rfl
        · simp (disch := (first | omega | exact k_68 | exact k_69 | exact k_70 | exact k_71 | exact k_72 | exact k_73 | exact k_74 | exact k_75 | exact k_76 | exact k_77 | exact k_81)) only [Nat.reduceAdd, i6_lay_0, i6_lay_1, i6_lay_2, i6_lay_5, i6_lay_8, i6_lay_9, i6_lay_10, i6_lay_11, i6_lay_14, i6_lay_15, i6_lay_16, i6_lay_19, i6_lay_20, i6_lay_21, i6_lay_24, i6_lay_25, i6_lay_26, i6_lay_27, i6_lay_28, i6_lay_31, i6_lay_32, i6_lay_33, i6_lay_34, i6_lay_35, i6_lay_38, i6_lay_41, i6_lay_42, i6_lay_43, i6_lay_46, i6_lay_47, i6_lay_48, i6_lay_51, i6_lay_53, i6_lay_54, i6_lay_55, i6_lay_56, i6_lay_57, i6_lay_58, i6_lay_60, i6_lay_61, i6_lay_64, i6_lay_66, i6_lay_67, i6_lay_68, i6_lay_69, i6_lay_70, i6_lay_71, i6_lay_72, i6_lay_73, i6_lay_75, i6_lay_78, s6_isRow, s6_in, inP (show m ≤ 5000 by omega), s6_tells, pK_i, bi_0, hr, hi, if_true, if_false, not_true_eq_false, not_false_eq_true, true_or, or_true, k_68, l_68, k_69, l_69, hS, hC, vn', h, q, e40, nI_add, ifb_i (show 40 * k + j < 240 by omega) (by decide), cl (show 40 * k + j ≤ 5000 by omega), e3 j hj40, vs, us]; rfl
        · refine Rel_tell (Rel_row (σ' := va_up (va_up σ (23 + 2 * k + 1) (upd (σ (23 + 2 * k + 1)) j v)) 69 (upd (σ 69) (40 * k + j) v)) R hk (fun c h1 h2 h3 h4 => ?_) (fun c h => ?_) (fun c a h h' => ?_) ⟨?_, ?_, fun a ha => ?_⟩) (fun c h1 h2 => ?_) (fun c h => ?_) (fun c h => ?_) ?_
          · rw [vn h4, vn h2]
          · rw [vn (by decide), vn (by omega)]
          · rw [vs, un (by omega)]
          · rw [vn (by omega), vn (by omega), vn (by omega), vn (by omega)]; exact e1
          · rw [vn (by omega), vn (by omega), h]; exact Or.inr ⟨m, hm, rfl⟩
          · rw [vs, vn (by omega), vs]
            by_cases q : a = j
            · subst q; rw [us, us]
            · rw [un q, un (by omega)]; exact e3 a ha
          · by_cases q1 : c = 69
            · subst q1; simp (disch := omega) only [vn', vs]
            · by_cases q2 : c = 23 + 2 * k + 1
              · subst q2; simp (disch := omega) only [vn', vs]
              · simp (disch := omega) only [vn', vs]
          · simp (disch := omega) only [vn', vs, un]
          · simp (disch := omega) only [vn', vs, un]
          · simp (disch := omega) only [vn', vs, us]
      · apply op_of
        · simp only [Nat.reduceAdd, i5_lay_0, i5_lay_1, i5_lay_4, i5_lay_7, i5_lay_8, i5_lay_9, i5_lay_10, i5_lay_11, i5_lay_14, i5_lay_15_r1, i5_lay_15_r2, i5_lay_15_r11, i5_lay_16, i5_lay_17, i5_lay_20, i5_lay_22, i5_lay_24, i5_lay_27, i5_lay_29, i5_lay_30, i5_lay_31, i5_lay_32, i5_lay_35, i5_lay_36_r1, i5_lay_36_r2, i5_lay_36_r11, i5_lay_37, i5_lay_40, i5_lay_41, i5_lay_42, i5_lay_45, i5_lay_46, i5_lay_47, i5_lay_50, i5_lay_51_r1, i5_lay_51_r2, i5_lay_51_r11, i5_lay_52, i5_lay_55, i5_lay_56, i5_lay_57, i5_lay_58, i5_lay_59, i5_refusalOfPlace_0, i5_refusalOfPlace_1, i5_refusalOfPlace_4, i5_refusalOfPlace_7, i5_refusalOfPlace_8, i5_refusalOfPlace_9, i5_refusalOfPlace_12, i5_refusalOfPlace_13, i5_refusalOfPlace_14, i5_refusalOfPlace_15, i5_refusalOfPlace_18, i5_refusalOfPlace_21, i5_refusalOfPlace_22, i5_refusalOfPlace_25, i5_refusalOfPlace_26, i5_refusalOfPlace_27, i5_refusalOfPlace_30, i2_isThere_0, i2_isThere_1, i2_isThere_4, i2_isThere_5, i2_isThere_8, i2_isThere_9, i2_isThere_12, i2_isThere_13, hP, s5_isRow, pK_i, bi_0, hr, hi, if_true, if_false, not_true_eq_false, not_false_eq_true, true_or, or_true, hS, hC, ro_k hk, e1, h, q2, n10, rf2]; rfl
        · simp (decide := true) only [Nat.reduceAdd, i6_lay_0, i6_lay_1, i6_lay_2, i6_lay_5, i6_lay_8, i6_lay_9, i6_lay_10, i6_lay_11, i6_lay_14, i6_lay_15, i6_lay_16, i6_lay_19, i6_lay_20, i6_lay_21, i6_lay_24, i6_lay_25, i6_lay_26, i6_lay_27, i6_lay_28, i6_lay_31, i6_lay_32, i6_lay_33, i6_lay_34, i6_lay_35, i6_lay_38, i6_lay_41, i6_lay_42, i6_lay_43, i6_lay_46, i6_lay_47, i6_lay_48, i6_lay_51, i6_lay_53, i6_lay_54, i6_lay_55, i6_lay_56, i6_lay_57, i6_lay_58, i6_lay_60, i6_lay_61, i6_lay_64, i6_lay_66, i6_lay_67, i6_lay_68, i6_lay_69, i6_lay_70, i6_lay_71, i6_lay_72, i6_lay_73, i6_lay_75, i6_lay_78, s6_isRow, s6_in, inP (show m ≤ 5000 by omega), pK_i, bi_0, hr, hi, if_true, if_false, not_true_eq_false, not_false_eq_true, true_or, or_true, k_68, l_68, hS, hC, fC, vn', h, q, fd2]; rfl
        · exact Rel_f R 2
  · apply op_of
    · simp only [i5_lay_0, i5_lay_1, i5_lay_4, i5_lay_7, i5_lay_8, i5_lay_9, i5_lay_10, i5_lay_11, i5_lay_14, i5_lay_15_r1, i5_lay_15_r2, i5_lay_15_r11, i5_lay_16, i5_lay_17, i5_lay_20, i5_lay_22, i5_lay_24, i5_lay_27, i5_lay_29, i5_lay_30, i5_lay_31, i5_lay_32, i5_lay_35, i5_lay_36_r1, i5_lay_36_r2, i5_lay_36_r11, i5_lay_37, i5_lay_40, i5_lay_41, i5_lay_42, i5_lay_45, i5_lay_46, i5_lay_47, i5_lay_50, i5_lay_51_r1, i5_lay_51_r2, i5_lay_51_r11, i5_lay_52, i5_lay_55, i5_lay_56, i5_lay_57, i5_lay_58, i5_lay_59, s5_isRow, pK_i, bi_0, hr, if_true, if_false, not_true_eq_false, not_false_eq_true, true_or, or_true]; rfl
    · simp only [i6_lay_0, i6_lay_1, i6_lay_2, i6_lay_5, i6_lay_8, i6_lay_9, i6_lay_10, i6_lay_11, i6_lay_14, i6_lay_15, i6_lay_16, i6_lay_19, i6_lay_20, i6_lay_21, i6_lay_24, i6_lay_25, i6_lay_26, i6_lay_27, i6_lay_28, i6_lay_31, i6_lay_32, i6_lay_33, i6_lay_34, i6_lay_35, i6_lay_38, i6_lay_41, i6_lay_42, i6_lay_43, i6_lay_46, i6_lay_47, i6_lay_48, i6_lay_51, i6_lay_53, i6_lay_54, i6_lay_55, i6_lay_56, i6_lay_57, i6_lay_58, i6_lay_60, i6_lay_61, i6_lay_64, i6_lay_66, i6_lay_67, i6_lay_68, i6_lay_69, i6_lay_70, i6_lay_71, i6_lay_72, i6_lay_73, i6_lay_75, i6_lay_78, s6_isRow, pK_i, bi_0, hr, if_true, if_false, not_true_eq_false, not_false_eq_true, true_or, or_true]; rfl
    · exact R
theorem op_put {r i v : Int32} : opI L xs S (fun M => pX 55 0 [.ref 0, .int r, .int i, .int v, .null, .null] [] M 85 S) (fun M => pX 149 0 [.ref 67, .int r, .int i, .int v, .null] [] M 85 S) := by
  intro g d σ τ R
  by_cases hr : inb r 4
  · obtain ⟨k, hk, rfl⟩ := inb_of hr (by decide)
    obtain ⟨e1, e2, e3⟩ := R.2.2.2.2.1 k hk
    have hS : ∀ {α : Type} {a b : α}, ifb (nI k) 4 a b = a := ifb_i hk (by decide)
    have hC := cl (show k ≤ 5000 by omega)
    have e40 : (60 : Int32) * nI k = nI (60 * k) := pk_mul 60 k
    rcases e2 with h | ⟨m, hm, h⟩
    · have q : (-1 : Int32) < 0 := by decide
      apply op_of
      · simp only [Nat.reduceAdd, i5_put_0, i5_put_1, i5_put_4, i5_put_7, i5_put_8, i5_put_9, i5_put_10, i5_put_11, i5_put_14, i5_put_15_r1, i5_put_15_r2, i5_put_15_r11, i5_put_16, i5_put_17, i5_put_20, i5_put_22, i5_put_24, i5_put_27, i5_put_29, i5_put_30, i5_put_31, i5_put_34, i5_put_35_r1, i5_put_35_r2, i5_put_35_r11, i5_put_36, i5_put_39, i5_put_40, i5_put_41, i5_put_43, i5_put_44, i5_put_47, i5_put_48_r1, i5_put_48_r2, i5_put_48_r11, i5_put_49, i5_put_52, i5_put_53, i5_put_54, i5_put_55, i5_put_56, i5_put_58, i5_put_61, i5_put_62, i5_refusalOfPlace_0, i5_refusalOfPlace_1, i5_refusalOfPlace_4, i5_refusalOfPlace_7, i5_refusalOfPlace_8, i5_refusalOfPlace_9, i5_refusalOfPlace_12, i5_refusalOfPlace_13, i5_refusalOfPlace_14, i5_refusalOfPlace_15, i5_refusalOfPlace_18, i5_refusalOfPlace_21, i5_refusalOfPlace_22, i5_refusalOfPlace_25, i5_refusalOfPlace_26, i5_refusalOfPlace_27, i5_refusalOfPlace_30, i2_isThere_0, i2_isThere_1, i2_isThere_4, i2_isThere_5, i2_isThere_8, i2_isThere_9, i2_isThere_12, i2_isThere_13, s5_isText, pK_i, bi_0, hr, if_true, if_false, not_true_eq_false, not_false_eq_true, true_or, or_true, hS, hC, te_k hk, e1, h, rf1]; rfl
      · simp (decide := true) only [Nat.reduceAdd, i6_put_0, i6_put_1, i6_put_2, i6_put_5, i6_put_8, i6_put_9, i6_put_10, i6_put_11, i6_put_14, i6_put_15, i6_put_16, i6_put_19, i6_put_20, i6_put_21, i6_put_24, i6_put_25, i6_put_26, i6_put_27, i6_put_28, i6_put_31, i6_put_32, i6_put_33, i6_put_34, i6_put_35, i6_put_38, i6_put_41, i6_put_42, i6_put_43, i6_put_46, i6_put_47, i6_put_48, i6_put_51, i6_put_53, i6_put_54, i6_put_55, i6_put_56, i6_put_57, i6_put_58, i6_put_60, i6_put_61, i6_put_64, i6_put_66, i6_put_67, i6_put_68, i6_put_69, i6_put_70, i6_put_71, i6_put_73, i6_put_74, i6_put_76, i6_put_77, i6_put_78, i6_put_81, i6_put_83, i6_put_84, s6_isText, pK_i, bi_0, hr, if_true, if_false, not_true_eq_false, not_false_eq_true, true_or, or_true, k_70, l_70, hS, hC, fC, vn', h, q, fd1]; rfl
      · exact Rel_f R 1
    · have q : ¬ nI m < 0 := nI_pos (by omega)
      have q2 : ¬ nI m = -1 := fun e => q (by rw [e]; decide)
      have hP := s2_hasPlace (L := L) (xs := xs) (τ := τ) (S := S) (te_k hk) (e1.trans h) (by omega) (i := i)
      by_cases hi : inb i m
      · obtain ⟨j, hj, rfl⟩ := inb_of hi (by omega)
        have hj40 : j < 60 := by omega
        apply op_of
        · simp only [Nat.reduceAdd, i5_put_0, i5_put_1, i5_put_4, i5_put_7, i5_put_8, i5_put_9, i5_put_10, i5_put_11, i5_put_14, i5_put_15_r1, i5_put_15_r2, i5_put_15_r11, i5_put_16, i5_put_17, i5_put_20, i5_put_22, i5_put_24, i5_put_27, i5_put_29, i5_put_30, i5_put_31, i5_put_34, i5_put_35_r1, i5_put_35_r2, i5_put_35_r11, i5_put_36, i5_put_39, i5_put_40, i5_put_41, i5_put_43, i5_put_44, i5_put_47, i5_put_48_r1, i5_put_48_r2, i5_put_48_r11, i5_put_49, i5_put_52, i5_put_53, i5_put_54, i5_put_55, i5_put_56, i5_put_58, i5_put_61, i5_put_62, i5_refusalOfPlace_0, i5_refusalOfPlace_1, i5_refusalOfPlace_4, i5_refusalOfPlace_7, i5_refusalOfPlace_8, i5_refusalOfPlace_9, i5_refusalOfPlace_12, i5_refusalOfPlace_13, i5_refusalOfPlace_14, i5_refusalOfPlace_15, i5_refusalOfPlace_18, i5_refusalOfPlace_21, i5_refusalOfPlace_22, i5_refusalOfPlace_25, i5_refusalOfPlace_26, i5_refusalOfPlace_27, i5_refusalOfPlace_30, i2_isThere_0, i2_isThere_1, i2_isThere_4, i2_isThere_5, i2_isThere_8, i2_isThere_9, i2_isThere_12, i2_isThere_13, hP, s5_isText, s5_tell, pK_i, bi_0, hr, hi, if_true, if_false, not_true_eq_false, not_false_eq_true, true_or, or_true, hS, hC, te_k hk, te_p hk, te_l hk, ifb_i hj40 (by decide), cl (show j ≤ 5000 by omega), e1, h, q2, n10]; rfl
        · simp (disch := (first | omega | exact k_68 | exact k_69 | exact k_70 | exact k_71 | exact k_72 | exact k_73 | exact k_74 | exact k_75 | exact k_76 | exact k_77 | exact k_81)) only [Nat.reduceAdd, i6_put_0, i6_put_1, i6_put_2, i6_put_5, i6_put_8, i6_put_9, i6_put_10, i6_put_11, i6_put_14, i6_put_15, i6_put_16, i6_put_19, i6_put_20, i6_put_21, i6_put_24, i6_put_25, i6_put_26, i6_put_27, i6_put_28, i6_put_31, i6_put_32, i6_put_33, i6_put_34, i6_put_35, i6_put_38, i6_put_41, i6_put_42, i6_put_43, i6_put_46, i6_put_47, i6_put_48, i6_put_51, i6_put_53, i6_put_54, i6_put_55, i6_put_56, i6_put_57, i6_put_58, i6_put_60, i6_put_61, i6_put_64, i6_put_66, i6_put_67, i6_put_68, i6_put_69, i6_put_70, i6_put_71, i6_put_73, i6_put_74, i6_put_76, i6_put_77, i6_put_78, i6_put_81, i6_put_83, i6_put_84, s6_isText, s6_in, inP (show m ≤ 5000 by omega), s6_tells, pK_i, bi_0, hr, hi, if_true, if_false, not_true_eq_false, not_false_eq_true, true_or, or_true, k_70, l_70, k_71, l_71, hS, hC, vn', h, q, e40, nI_add, ifb_i (show 60 * k + j < 240 by omega) (by decide), cl (show 60 * k + j ≤ 5000 by omega), e3 j hj40, Int32.add_comm 1000]; rfl
        · refine Rel_text R hk (fun c h1 h2 h3 h4 => ?_) (fun c h => ?_) (fun c a h h' => ?_) ⟨?_, ?_, fun a ha => ?_⟩
          · simp (disch := omega) only [vn']
          · simp (disch := omega) only [vn']
          · simp (disch := omega) only [vn', vs, un]
          · simp (disch := omega) only [vn']; exact e1
          · simp (disch := omega) only [vn']; rw [h]; exact Or.inr ⟨m, hm, rfl⟩
          · simp (disch := omega) only [vn', vs]
            by_cases q : a = j
            · subst q; rw [us, us, byte_eq]
            · rw [un q, un (by omega)]; exact e3 a ha
      · apply op_of
        · simp only [Nat.reduceAdd, i5_put_0, i5_put_1, i5_put_4, i5_put_7, i5_put_8, i5_put_9, i5_put_10, i5_put_11, i5_put_14, i5_put_15_r1, i5_put_15_r2, i5_put_15_r11, i5_put_16, i5_put_17, i5_put_20, i5_put_22, i5_put_24, i5_put_27, i5_put_29, i5_put_30, i5_put_31, i5_put_34, i5_put_35_r1, i5_put_35_r2, i5_put_35_r11, i5_put_36, i5_put_39, i5_put_40, i5_put_41, i5_put_43, i5_put_44, i5_put_47, i5_put_48_r1, i5_put_48_r2, i5_put_48_r11, i5_put_49, i5_put_52, i5_put_53, i5_put_54, i5_put_55, i5_put_56, i5_put_58, i5_put_61, i5_put_62, i5_refusalOfPlace_0, i5_refusalOfPlace_1, i5_refusalOfPlace_4, i5_refusalOfPlace_7, i5_refusalOfPlace_8, i5_refusalOfPlace_9, i5_refusalOfPlace_12, i5_refusalOfPlace_13, i5_refusalOfPlace_14, i5_refusalOfPlace_15, i5_refusalOfPlace_18, i5_refusalOfPlace_21, i5_refusalOfPlace_22, i5_refusalOfPlace_25, i5_refusalOfPlace_26, i5_refusalOfPlace_27, i5_refusalOfPlace_30, i2_isThere_0, i2_isThere_1, i2_isThere_4, i2_isThere_5, i2_isThere_8, i2_isThere_9, i2_isThere_12, i2_isThere_13, hP, s5_isText, pK_i, bi_0, hr, hi, if_true, if_false, not_true_eq_false, not_false_eq_true, true_or, or_true, hS, hC, te_k hk, e1, h, q2, n10, rf2]; rfl
        · simp (decide := true) only [Nat.reduceAdd, i6_put_0, i6_put_1, i6_put_2, i6_put_5, i6_put_8, i6_put_9, i6_put_10, i6_put_11, i6_put_14, i6_put_15, i6_put_16, i6_put_19, i6_put_20, i6_put_21, i6_put_24, i6_put_25, i6_put_26, i6_put_27, i6_put_28, i6_put_31, i6_put_32, i6_put_33, i6_put_34, i6_put_35, i6_put_38, i6_put_41, i6_put_42, i6_put_43, i6_put_46, i6_put_47, i6_put_48, i6_put_51, i6_put_53, i6_put_54, i6_put_55, i6_put_56, i6_put_57, i6_put_58, i6_put_60, i6_put_61, i6_put_64, i6_put_66, i6_put_67, i6_put_68, i6_put_69, i6_put_70, i6_put_71, i6_put_73, i6_put_74, i6_put_76, i6_put_77, i6_put_78, i6_put_81, i6_put_83, i6_put_84, s6_isText, s6_in, inP (show m ≤ 5000 by omega), pK_i, bi_0, hr, hi, if_true, if_false, not_true_eq_false, not_false_eq_true, true_or, or_true, k_70, l_70, hS, hC, fC, vn', h, q, fd2]; rfl
        · exact Rel_f R 2
  · apply op_of
    · simp only [i5_put_0, i5_put_1, i5_put_4, i5_put_7, i5_put_8, i5_put_9, i5_put_10, i5_put_11, i5_put_14, i5_put_15_r1, i5_put_15_r2, i5_put_15_r11, i5_put_16, i5_put_17, i5_put_20, i5_put_22, i5_put_24, i5_put_27, i5_put_29, i5_put_30, i5_put_31, i5_put_34, i5_put_35_r1, i5_put_35_r2, i5_put_35_r11, i5_put_36, i5_put_39, i5_put_40, i5_put_41, i5_put_43, i5_put_44, i5_put_47, i5_put_48_r1, i5_put_48_r2, i5_put_48_r11, i5_put_49, i5_put_52, i5_put_53, i5_put_54, i5_put_55, i5_put_56, i5_put_58, i5_put_61, i5_put_62, s5_isText, pK_i, bi_0, hr, if_true, if_false, not_true_eq_false, not_false_eq_true, true_or, or_true]; rfl
    · simp only [i6_put_0, i6_put_1, i6_put_2, i6_put_5, i6_put_8, i6_put_9, i6_put_10, i6_put_11, i6_put_14, i6_put_15, i6_put_16, i6_put_19, i6_put_20, i6_put_21, i6_put_24, i6_put_25, i6_put_26, i6_put_27, i6_put_28, i6_put_31, i6_put_32, i6_put_33, i6_put_34, i6_put_35, i6_put_38, i6_put_41, i6_put_42, i6_put_43, i6_put_46, i6_put_47, i6_put_48, i6_put_51, i6_put_53, i6_put_54, i6_put_55, i6_put_56, i6_put_57, i6_put_58, i6_put_60, i6_put_61, i6_put_64, i6_put_66, i6_put_67, i6_put_68, i6_put_69, i6_put_70, i6_put_71, i6_put_73, i6_put_74, i6_put_76, i6_put_77, i6_put_78, i6_put_81, i6_put_83, i6_put_84, s6_isText, pK_i, bi_0, hr, if_true, if_false, not_true_eq_false, not_false_eq_true, true_or, or_true]; rfl
    · exact R
end OP
