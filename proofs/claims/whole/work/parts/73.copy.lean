/-! THE CALLS: copy -/
def pq (i n : Int32) (m : Nat) : Prop := 0 ≤ i.toInt ∧ 0 ≤ n.toInt ∧ i.toInt + n.toInt ≤ m
theorem sub_ti {m : Nat} {n : Int32} (hm : m ≤ 60) (hn : 0 ≤ n.toInt) : (nI m - n).toInt = (m : Int) - n.toInt := by
  have h1 := n.toInt_lt
  rw [Int32.toInt_sub, nI_toInt (show m < 2 ^ 31 by omega)]
  simp only [Int.bmod]; omega
theorem cpy_p (f g : Nat → Int32) (s p n : Nat) : va_cpy f g s p (n + 1) = upd (va_cpy f g (s + 1) (p + 1) n) p (f s) := by
  funext k
  by_cases h : k = p
  · subst h
    rw [us]; unfold va_cpy; rw [if_pos (by omega), Nat.sub_self]; rfl
  · rw [un h]; unfold va_cpy
    by_cases h2 : p + 1 ≤ k ∧ k < p + 1 + n
    · rw [if_pos h2, if_pos (by omega)]; congr 1; omega
    · rw [if_neg h2, if_neg (by omega)]
section DX
variable {L : Nat} {xs : Nat → Int32} {σ : Nat → Nat → Int32} {τ : Nat → Nat → Int64} {S g d : Nat}
theorem s2_hasPlaces {k m : Nat} (hk : isK 1 k) (h : σ k 1 = nI m) (hm : m ≤ 60) {i n : Int32} : pX 20 0 [.ref k, .int i, .int n] [] (mm L xs σ τ) 85 S = some (some (.int (bi (pq i n m))), mm L xs σ τ, 85, S) := by
  have z : (0 : Int32).toInt = 0 := rfl
  by_cases h1 : i < 0
  · rw [bi_f (fun q => by rw [Int32.lt_iff_toInt_lt, z] at h1; have := q.1; omega)]
    simp only [i2_hasPlaces_0, i2_hasPlaces_1, i2_hasPlaces_4, i2_hasPlaces_5, i2_hasPlaces_8, i2_hasPlaces_9, i2_hasPlaces_10, i2_hasPlaces_13, i2_hasPlaces_14, i2_hasPlaces_15, i2_hasPlaces_18, i2_hasPlaces_19, i2_hasPlaces_22, i2_hasPlaces_23, h1, if_true, if_false, not_true_eq_false, not_false_eq_true, true_or, or_true]
  · by_cases h2 : n < 0
    · rw [bi_f (fun q => by rw [Int32.lt_iff_toInt_lt, z] at h2; have := q.2.1; omega)]
      simp only [i2_hasPlaces_0, i2_hasPlaces_1, i2_hasPlaces_4, i2_hasPlaces_5, i2_hasPlaces_8, i2_hasPlaces_9, i2_hasPlaces_10, i2_hasPlaces_13, i2_hasPlaces_14, i2_hasPlaces_15, i2_hasPlaces_18, i2_hasPlaces_19, i2_hasPlaces_22, i2_hasPlaces_23, h1, h2, if_true, if_false, not_true_eq_false, not_false_eq_true, true_or, or_true]
    · have e := sub_ti (n := n) hm (by rw [Int32.lt_iff_toInt_lt, z] at h2; omega)
      by_cases h3 : nI m - n < i
      · rw [bi_f (fun q => by rw [Int32.lt_iff_toInt_lt, e] at h3; have := q.2.2; omega)]
        simp only [i2_hasPlaces_0, i2_hasPlaces_1, i2_hasPlaces_4, i2_hasPlaces_5, i2_hasPlaces_8, i2_hasPlaces_9, i2_hasPlaces_10, i2_hasPlaces_13, i2_hasPlaces_14, i2_hasPlaces_15, i2_hasPlaces_18, i2_hasPlaces_19, i2_hasPlaces_22, i2_hasPlaces_23, hk, h, h1, h2, h3, if_true, if_false, not_true_eq_false, not_false_eq_true, true_or, or_true]
      · rw [bi_t (show pq i n m from by
          rw [Int32.lt_iff_toInt_lt] at h1 h2 h3
          rw [z] at h1 h2
          rw [e] at h3
          exact ⟨by omega, by omega, by omega⟩)]
        simp only [i2_hasPlaces_0, i2_hasPlaces_1, i2_hasPlaces_4, i2_hasPlaces_5, i2_hasPlaces_8, i2_hasPlaces_9, i2_hasPlaces_10, i2_hasPlaces_13, i2_hasPlaces_14, i2_hasPlaces_15, i2_hasPlaces_18, i2_hasPlaces_19, i2_hasPlaces_22, i2_hasPlaces_23, hk, h, h1, h2, h3, if_true, if_false, not_true_eq_false, not_false_eq_true, true_or, or_true]
theorem s6_isPart {M : pm_M} {N : Nat} {m : Nat} (hm : m ≤ 60) {i n : Int32} (hn : ¬ n < 0) : pX 145 0 [.int i, .int n, .int (nI m)] [] M N S = some (some (.int (bi (pq i n m))), M, N, S) := by
  have z : (0 : Int32).toInt = 0 := rfl
  have zm : (nI m).toInt = m := nI_toInt (by omega)
  by_cases h1 : i < 0
  · rw [bi_f (fun q => by rw [Int32.lt_iff_toInt_lt, z] at h1; have := q.1; omega)]
    simp only [i6_isPart_0, i6_isPart_1, i6_isPart_4, i6_isPart_5, i6_isPart_6, i6_isPart_9, i6_isPart_10, i6_isPart_11, i6_isPart_12, i6_isPart_13, i6_isPart_16, i6_isPart_17, i6_isPart_20, i6_isPart_21, h1, if_true, if_false, not_true_eq_false, not_false_eq_true, true_or, or_true]
  · by_cases h2 : nI m < n
    · rw [bi_f (fun q => by rw [Int32.lt_iff_toInt_lt, zm] at h2; have := q.2.2; have := q.1; omega)]
      simp only [i6_isPart_0, i6_isPart_1, i6_isPart_4, i6_isPart_5, i6_isPart_6, i6_isPart_9, i6_isPart_10, i6_isPart_11, i6_isPart_12, i6_isPart_13, i6_isPart_16, i6_isPart_17, i6_isPart_20, i6_isPart_21, h1, h2, if_true, if_false, not_true_eq_false, not_false_eq_true, true_or, or_true]
    · have e := sub_ti (n := n) hm (by rw [Int32.lt_iff_toInt_lt, z] at hn; omega)
      by_cases h3 : nI m - n < i
      · rw [bi_f (fun q => by rw [Int32.lt_iff_toInt_lt, e] at h3; have := q.2.2; omega)]
        simp only [i6_isPart_0, i6_isPart_1, i6_isPart_4, i6_isPart_5, i6_isPart_6, i6_isPart_9, i6_isPart_10, i6_isPart_11, i6_isPart_12, i6_isPart_13, i6_isPart_16, i6_isPart_17, i6_isPart_20, i6_isPart_21, h1, h2, h3, if_true, if_false, not_true_eq_false, not_false_eq_true, true_or, or_true]
      · rw [bi_t (show pq i n m from by
          rw [Int32.lt_iff_toInt_lt] at h1 h3 hn
          rw [z] at h1 hn
          rw [e] at h3
          exact ⟨by omega, by omega, by omega⟩)]
        simp only [i6_isPart_0, i6_isPart_1, i6_isPart_4, i6_isPart_5, i6_isPart_6, i6_isPart_9, i6_isPart_10, i6_isPart_11, i6_isPart_12, i6_isPart_13, i6_isPart_16, i6_isPart_17, i6_isPart_20, i6_isPart_21, h1, h2, h3, if_true, if_false, not_true_eq_false, not_false_eq_true, true_or, or_true]
theorem pq_n {i n : Int32} {m : Nat} (hm : m ≤ 60) (h : pq i n m) : ∃ a b, i = nI a ∧ n = nI b ∧ a + b ≤ m := by
  obtain ⟨h1, h2, h3⟩ := h
  refine ⟨i.toNatClampNeg, n.toNatClampNeg, ?_, ?_, ?_⟩
  · refine (inb_cl (n := 61) ((inb_ti (by decide)).mpr ⟨h1, by omega⟩) (by decide)).1
  · refine (inb_cl (n := 61) ((inb_ti (by decide)).mpr ⟨h2, by omega⟩) (by decide)).1
  · have e1 : i.toNatClampNeg = i.toInt.toNat := rfl
    have e2 : n.toNatClampNeg = n.toInt.toNat := rfl
    omega
theorem cpR0 {k t i j n : Nat} (hk : k < 6) (ht : t < 6) (hi : i + n ≤ 40) (hj : j + n ≤ 40) (hij : ¬ i < j) : pX 146 106 [.ref 67, .int (nI k), .int (nI i), .int (nI t), .int (nI j), .int (nI n), .int 0, .int 0, .null] [] (mm L xs σ τ) 85 S = some (some (.int 1), mm L xs (va_up σ 69 (va_cpy (σ 69) (σ 69) (40 * k + i) (40 * t + j) n)) τ, 85, S) := by
  have e40k : (40 : Int32) * nI k = nI (40 * k) := pk_mul 40 k
  have e40t : (40 : Int32) * nI t = nI (40 * t) := pk_mul 40 t
  have key := lp (δ := Value) n (fun c dd => pX 146 106 [.ref 67, .int (nI k), .int (nI i), .int (nI t), .int (nI j), .int (nI n), .int 0, .int (nI c), dd] [] (mm L xs (va_up σ 69 (va_cpy (σ 69) (σ 69) (40 * k + i) (40 * t + j) c)) τ) 85 S) (some (some (.int 1), mm L xs (va_up σ 69 (va_cpy (σ 69) (σ 69) (40 * k + i) (40 * t + j) n)) τ, 85, S)) (fun _ => by
    simp only [i6_copy_106, i6_copy_108, i6_copy_110, i6_copy_167, i6_copy_168, Int32.lt_irrefl, if_false]) (fun c hc dd => ⟨.int (nI c), by
    have rd : va_cpy (σ 69) (σ 69) (40 * k + i) (40 * t + j) c (40 * k + i + c) = σ 69 (40 * k + i + c) := cpy_out _ _ (by
      rcases Nat.lt_trichotomy k t with h | h | h
      · omega
      · subst h; omega
      · omega)
    rw [cpy_s, i6_copy_106]
    simp only [Nat.reduceAdd, i6_copy_108, i6_copy_110, i6_copy_113, i6_copy_115, i6_copy_118, i6_copy_120, i6_copy_121, i6_copy_122, i6_copy_124, i6_copy_125, i6_copy_128, i6_copy_130, i6_copy_132, i6_copy_133, i6_copy_136, i6_copy_138, i6_copy_139, i6_copy_140, i6_copy_142, i6_copy_143, i6_copy_145, i6_copy_146, i6_copy_147, i6_copy_150, i6_copy_152, i6_copy_153, i6_copy_154, i6_copy_155, i6_copy_156, i6_copy_158, i6_copy_159, i6_copy_160, i6_copy_161, i6_copy_164, nlt hc (by omega), if_true, if_false, not_true_eq_false, not_false_eq_true, true_or, or_true, k_69, l_69, e40k, e40t, nI_add, ifb_i (show 40 * k + i + c < 240 by omega) (by decide), cl (show 40 * k + i + c ≤ 5000 by omega), ifb_i (show 40 * t + j + c < 240 by omega) (by decide), cl (show 40 * t + j + c ≤ 5000 by omega), vs, vu, rd, nI_1]⟩)
  have kk := key .null
  rw [nI_0, cpy_0, m_up_id] at kk
  exact kk
theorem cpR1 {k t i j n : Nat} (hk : k < 6) (ht : t < 6) (hi : i + n ≤ 40) (hj : j + n ≤ 40) (hij : i < j) : pX 146 106 [.ref 67, .int (nI k), .int (nI i), .int (nI t), .int (nI j), .int (nI n), .int 1, .int 0, .null] [] (mm L xs σ τ) 85 S = some (some (.int 1), mm L xs (va_up σ 69 (va_cpy (σ 69) (σ 69) (40 * k + i) (40 * t + j) n)) τ, 85, S) := by
  have e40k : (40 : Int32) * nI k = nI (40 * k) := pk_mul 40 k
  have e40t : (40 : Int32) * nI t = nI (40 * t) := pk_mul 40 t
  have key := lp (δ := Value) n (fun c dd => pX 146 106 [.ref 67, .int (nI k), .int (nI i), .int (nI t), .int (nI j), .int (nI n), .int 1, .int (nI c), dd] [] (mm L xs (va_up σ 69 (va_cpy (σ 69) (σ 69) (40 * k + i + (n - c)) (40 * t + j + (n - c)) c)) τ) 85 S) (some (some (.int 1), mm L xs (va_up σ 69 (va_cpy (σ 69) (σ 69) (40 * k + i) (40 * t + j) n)) τ, 85, S)) (fun _ => by
    rw [Nat.sub_self]
    simp only [i6_copy_106, i6_copy_108, i6_copy_110, i6_copy_167, i6_copy_168, Int32.lt_irrefl, if_false, Nat.add_zero]) (fun c hc dd => ⟨.int (nI (n - 1 - c)), by
    obtain ⟨q, hq⟩ : ∃ q, q = n - 1 - c := ⟨_, rfl⟩
    have e1 : nI n - 1 = nI (n - 1) := by
      obtain ⟨n', rfl⟩ : ∃ n', n = n' + 1 := ⟨n - 1, by omega⟩
      exact nI_pred n'
    have e2 : nI (n - 1) - nI c = nI q := by rw [hq]; exact pk_sub (by omega)
    have c1 : va_cpy (σ 69) (σ 69) (40 * k + i + (n - (c + 1))) (40 * t + j + (n - (c + 1))) (c + 1) = upd (va_cpy (σ 69) (σ 69) (40 * k + i + (n - c)) (40 * t + j + (n - c)) c) (40 * t + j + q) (σ 69 (40 * k + i + q)) := by
      rw [cpy_p, show 40 * k + i + (n - (c + 1)) + 1 = 40 * k + i + (n - c) by omega, show 40 * t + j + (n - (c + 1)) + 1 = 40 * t + j + (n - c) by omega, show n - (c + 1) = q by omega]
    have rd : va_cpy (σ 69) (σ 69) (40 * k + i + (n - c)) (40 * t + j + (n - c)) c (40 * k + i + q) = σ 69 (40 * k + i + q) := cpy_out _ _ (by
      rcases Nat.lt_trichotomy k t with h | h | h
      · omega
      · subst h; omega
      · omega)
    rw [c1, ← hq, i6_copy_106]
    simp only [Nat.reduceAdd, i6_copy_108, i6_copy_110, i6_copy_113, i6_copy_115, i6_copy_118, i6_copy_120, i6_copy_121, i6_copy_122, i6_copy_124, i6_copy_125, i6_copy_128, i6_copy_130, i6_copy_132, i6_copy_133, i6_copy_136, i6_copy_138, i6_copy_139, i6_copy_140, i6_copy_142, i6_copy_143, i6_copy_145, i6_copy_146, i6_copy_147, i6_copy_150, i6_copy_152, i6_copy_153, i6_copy_154, i6_copy_155, i6_copy_156, i6_copy_158, i6_copy_159, i6_copy_160, i6_copy_161, i6_copy_164, nlt hc (by omega), if_true, if_false, not_true_eq_false, not_false_eq_true, true_or, or_true, n10, e1, e2, k_69, l_69, e40k, e40t, nI_add, ifb_i (show 40 * k + i + q < 240 by omega) (by decide), cl (show 40 * k + i + q ≤ 5000 by omega), ifb_i (show 40 * t + j + q < 240 by omega) (by decide), cl (show 40 * t + j + q ≤ 5000 by omega), vs, vu, rd, nI_1]⟩)
  have kk := key .null
  rw [nI_0, cpy_0, m_up_id] at kk
  exact kk
theorem op_copy {r i t j n : Int32} : opI L xs S (fun M => pX 52 0 [.ref 0, .int r, .int i, .int t, .int j, .int n] [] M 85 S) (fun M => pX 146 0 [.ref 67, .int r, .int i, .int t, .int j, .int n, .null, .null, .null] [] M 85 S) := by
  intro g d σ τ R
  by_cases hr : inb r 6
  · by_cases ht : inb t 6
    · by_cases n0 : n < 0
      · apply op_of
        · simp only [Nat.reduceAdd, i5_copy_0, i5_copy_1, i5_copy_4, i5_copy_7, i5_copy_8, i5_copy_11, i5_copy_14, i5_copy_15, i5_copy_16, i5_copy_18, i5_copy_21, i5_copy_22, i5_copy_23, i5_copy_26, i5_copy_27, i5_copy_28, i5_copy_31, i5_copy_32_r1, i5_copy_32_r2, i5_copy_32_r11, i5_copy_33, i5_copy_36, i5_copy_39, i5_copy_40, i5_copy_43, i5_copy_44_r1, i5_copy_44_r2, i5_copy_44_r11, i5_copy_45, i5_copy_48, i5_copy_51, i5_copy_52, i5_copy_53, i5_copy_56, i5_copy_57, i5_copy_58, i5_copy_61, i5_copy_62_r1, i5_copy_62_r2, i5_copy_62_r11, i5_copy_63, i5_copy_64, i5_copy_66, i5_copy_69, i5_copy_72, i5_copy_73, i5_copy_76, i5_copy_77_r1, i5_copy_77_r2, i5_copy_77_r11, i5_copy_78, i5_copy_80, i5_copy_82, i5_copy_85, i5_copy_88, i5_copy_89, i5_copy_90, i5_copy_93, i5_copy_94, i5_copy_95, i5_copy_98, i5_copy_99_r1, i5_copy_99_r2, i5_copy_99_r11, i5_copy_100, i5_copy_103, i5_copy_104, i5_copy_105, i5_copy_108, i5_copy_109_r1, i5_copy_109_r2, i5_copy_109_r11, i5_copy_110, i5_copy_113, i5_copy_115, i5_copy_117, i5_copy_120, i5_copy_121, s5_isRow, rf5, pK_i, bi_0, hr, ht, n0, if_true, if_false, not_true_eq_false, not_false_eq_true, true_or, or_true]; rfl
        · simp only [Nat.reduceAdd, i6_copy_0, i6_copy_1, i6_copy_2, i6_copy_5, i6_copy_8, i6_copy_9, i6_copy_10, i6_copy_13, i6_copy_16, i6_copy_17, i6_copy_18, i6_copy_20, i6_copy_23, i6_copy_24, i6_copy_25, i6_copy_28, i6_copy_29, i6_copy_30, i6_copy_33, i6_copy_34, i6_copy_35, i6_copy_38, i6_copy_39, i6_copy_42, i6_copy_43, i6_copy_44, i6_copy_47, i6_copy_48, i6_copy_49, i6_copy_52, i6_copy_53, i6_copy_54, i6_copy_56, i6_copy_57, i6_copy_60, i6_copy_61, i6_copy_62, i6_copy_65, i6_copy_68, i6_copy_70, i6_copy_72, i6_copy_73, i6_copy_76, i6_copy_77, i6_copy_78, i6_copy_81, i6_copy_84, i6_copy_85, i6_copy_86, i6_copy_89, i6_copy_90, i6_copy_92, i6_copy_93, i6_copy_96, i6_copy_97, i6_copy_100, i6_copy_101, i6_copy_103, i6_copy_104, s6_isRow, fd5, pK_i, bi_0, hr, ht, n0, if_true, if_false, not_true_eq_false, not_false_eq_true, true_or, or_true]; rfl
        · exact Rel_f R 5
      · obtain ⟨k, hk, rfl⟩ := inb_of hr (by decide)
        obtain ⟨q, hq, rfl⟩ := inb_of ht (by decide)
        obtain ⟨a1, a2, a3⟩ := R.2.2.2.1 k hk
        obtain ⟨b1, b2, b3⟩ := R.2.2.2.1 q hq
        have hS : ∀ {α : Type} {a b : α}, ifb (nI k) 6 a b = a := ifb_i hk (by decide)
        have hC := cl (show k ≤ 5000 by omega)
        have hT : ∀ {α : Type} {a b : α}, ifb (nI q) 6 a b = a := ifb_i hq (by decide)
        have hD := cl (show q ≤ 5000 by omega)
        have m1 : (-1 : Int32) < 0 := by decide
        have f68 : fC σ 1 68 = σ 68 := fC_n (by decide) (by decide)
        rcases a2 with h | ⟨m, hm, h⟩
        · apply op_of
          · simp only [Nat.reduceAdd, i5_copy_0, i5_copy_1, i5_copy_4, i5_copy_7, i5_copy_8, i5_copy_11, i5_copy_14, i5_copy_15, i5_copy_16, i5_copy_18, i5_copy_21, i5_copy_22, i5_copy_23, i5_copy_26, i5_copy_27, i5_copy_28, i5_copy_31, i5_copy_32_r1, i5_copy_32_r2, i5_copy_32_r11, i5_copy_33, i5_copy_36, i5_copy_39, i5_copy_40, i5_copy_43, i5_copy_44_r1, i5_copy_44_r2, i5_copy_44_r11, i5_copy_45, i5_copy_48, i5_copy_51, i5_copy_52, i5_copy_53, i5_copy_56, i5_copy_57, i5_copy_58, i5_copy_61, i5_copy_62_r1, i5_copy_62_r2, i5_copy_62_r11, i5_copy_63, i5_copy_64, i5_copy_66, i5_copy_69, i5_copy_72, i5_copy_73, i5_copy_76, i5_copy_77_r1, i5_copy_77_r2, i5_copy_77_r11, i5_copy_78, i5_copy_80, i5_copy_82, i5_copy_85, i5_copy_88, i5_copy_89, i5_copy_90, i5_copy_93, i5_copy_94, i5_copy_95, i5_copy_98, i5_copy_99_r1, i5_copy_99_r2, i5_copy_99_r11, i5_copy_100, i5_copy_103, i5_copy_104, i5_copy_105, i5_copy_108, i5_copy_109_r1, i5_copy_109_r2, i5_copy_109_r11, i5_copy_110, i5_copy_113, i5_copy_115, i5_copy_117, i5_copy_120, i5_copy_121, i2_isThere_0, i2_isThere_1, i2_isThere_4, i2_isThere_5, i2_isThere_8, i2_isThere_9, i2_isThere_12, i2_isThere_13, s5_isRow, pK_i, bi_0, hr, ht, n0, if_true, if_false, not_true_eq_false, not_false_eq_true, true_or, or_true, hS, hC, ro_k hk, a1, h, rf1]; rfl
          · simp only [Nat.reduceAdd, i6_copy_0, i6_copy_1, i6_copy_2, i6_copy_5, i6_copy_8, i6_copy_9, i6_copy_10, i6_copy_13, i6_copy_16, i6_copy_17, i6_copy_18, i6_copy_20, i6_copy_23, i6_copy_24, i6_copy_25, i6_copy_28, i6_copy_29, i6_copy_30, i6_copy_33, i6_copy_34, i6_copy_35, i6_copy_38, i6_copy_39, i6_copy_42, i6_copy_43, i6_copy_44, i6_copy_47, i6_copy_48, i6_copy_49, i6_copy_52, i6_copy_53, i6_copy_54, i6_copy_56, i6_copy_57, i6_copy_60, i6_copy_61, i6_copy_62, i6_copy_65, i6_copy_68, i6_copy_70, i6_copy_72, i6_copy_73, i6_copy_76, i6_copy_77, i6_copy_78, i6_copy_81, i6_copy_84, i6_copy_85, i6_copy_86, i6_copy_89, i6_copy_90, i6_copy_92, i6_copy_93, i6_copy_96, i6_copy_97, i6_copy_100, i6_copy_101, i6_copy_103, i6_copy_104, s6_isRow, pK_i, bi_0, hr, ht, n0, if_true, if_false, not_true_eq_false, not_false_eq_true, true_or, or_true, k_68, l_68, hS, hC, f68, h, m1, fd1]; rfl
          · exact Rel_f R 1
        · have p1 : ¬ nI m < 0 := nI_pos (by omega)
          have p2 : ¬ nI m = -1 := fun e => p1 (by rw [e]; decide)
          rcases b2 with h' | ⟨m', hm', h'⟩
          · apply op_of
            · simp only [Nat.reduceAdd, i5_copy_0, i5_copy_1, i5_copy_4, i5_copy_7, i5_copy_8, i5_copy_11, i5_copy_14, i5_copy_15, i5_copy_16, i5_copy_18, i5_copy_21, i5_copy_22, i5_copy_23, i5_copy_26, i5_copy_27, i5_copy_28, i5_copy_31, i5_copy_32_r1, i5_copy_32_r2, i5_copy_32_r11, i5_copy_33, i5_copy_36, i5_copy_39, i5_copy_40, i5_copy_43, i5_copy_44_r1, i5_copy_44_r2, i5_copy_44_r11, i5_copy_45, i5_copy_48, i5_copy_51, i5_copy_52, i5_copy_53, i5_copy_56, i5_copy_57, i5_copy_58, i5_copy_61, i5_copy_62_r1, i5_copy_62_r2, i5_copy_62_r11, i5_copy_63, i5_copy_64, i5_copy_66, i5_copy_69, i5_copy_72, i5_copy_73, i5_copy_76, i5_copy_77_r1, i5_copy_77_r2, i5_copy_77_r11, i5_copy_78, i5_copy_80, i5_copy_82, i5_copy_85, i5_copy_88, i5_copy_89, i5_copy_90, i5_copy_93, i5_copy_94, i5_copy_95, i5_copy_98, i5_copy_99_r1, i5_copy_99_r2, i5_copy_99_r11, i5_copy_100, i5_copy_103, i5_copy_104, i5_copy_105, i5_copy_108, i5_copy_109_r1, i5_copy_109_r2, i5_copy_109_r11, i5_copy_110, i5_copy_113, i5_copy_115, i5_copy_117, i5_copy_120, i5_copy_121, i2_isThere_0, i2_isThere_1, i2_isThere_4, i2_isThere_5, i2_isThere_8, i2_isThere_9, i2_isThere_12, i2_isThere_13, s5_isRow, pK_i, bi_0, hr, ht, n0, if_true, if_false, not_true_eq_false, not_false_eq_true, true_or, or_true, hS, hC, hT, hD, ro_k hk, ro_k hq, a1, h, b1, h', p2, n10, rf1]; rfl
            · simp only [Nat.reduceAdd, i6_copy_0, i6_copy_1, i6_copy_2, i6_copy_5, i6_copy_8, i6_copy_9, i6_copy_10, i6_copy_13, i6_copy_16, i6_copy_17, i6_copy_18, i6_copy_20, i6_copy_23, i6_copy_24, i6_copy_25, i6_copy_28, i6_copy_29, i6_copy_30, i6_copy_33, i6_copy_34, i6_copy_35, i6_copy_38, i6_copy_39, i6_copy_42, i6_copy_43, i6_copy_44, i6_copy_47, i6_copy_48, i6_copy_49, i6_copy_52, i6_copy_53, i6_copy_54, i6_copy_56, i6_copy_57, i6_copy_60, i6_copy_61, i6_copy_62, i6_copy_65, i6_copy_68, i6_copy_70, i6_copy_72, i6_copy_73, i6_copy_76, i6_copy_77, i6_copy_78, i6_copy_81, i6_copy_84, i6_copy_85, i6_copy_86, i6_copy_89, i6_copy_90, i6_copy_92, i6_copy_93, i6_copy_96, i6_copy_97, i6_copy_100, i6_copy_101, i6_copy_103, i6_copy_104, s6_isRow, pK_i, bi_0, hr, ht, n0, if_true, if_false, not_true_eq_false, not_false_eq_true, true_or, or_true, k_68, l_68, hS, hC, hT, hD, f68, h, h', p1, m1, fd1]; rfl
            · exact Rel_f R 1
          · have p1' : ¬ nI m' < 0 := nI_pos (by omega)
            have p2' : ¬ nI m' = -1 := fun e => p1' (by rw [e]; decide)
            have f68' : fC σ 2 68 = σ 68 := fC_n (by decide) (by decide)
            have hp1 := s2_hasPlaces (L := L) (xs := xs) (τ := τ) (S := S) (ro_k hk) (a1.trans h) (show m ≤ 60 by omega) (i := i) (n := n)
            have hp2 := s2_hasPlaces (L := L) (xs := xs) (τ := τ) (S := S) (ro_k hq) (b1.trans h') (show m' ≤ 60 by omega) (i := j) (n := n)
            by_cases g1 : pq i n m
            · by_cases g2 : pq j n m'
              · obtain ⟨x, z, rfl, rfl, xz⟩ := pq_n (show m ≤ 60 by omega) g1
                obtain ⟨y, z', rfl, ez, yz⟩ := pq_n (show m' ≤ 60 by omega) g2
                have hp5 : pq (nI y) (nI z) m' := g2
                have ezz : z = z' := by
                  have zb : (nI z).toInt = z := nI_toInt (by omega)
                  have zb' : (nI z').toInt = z' := nI_toInt (by omega)
                  rw [ez] at zb
                  omega
                subst ezz
                have cc : cpk (23 + 2 * k + 1) (23 + 2 * q + 1) (nI x) (nI y) (nI z) := by
                  unfold cpk
                  rw [ro_l hk, ro_l hq, cl (show x ≤ 5000 by omega), cl (show y ≤ 5000 by omega), cl (show z ≤ 5000 by omega)]
                  exact ⟨nI_pos (by omega), nI_pos (by omega), nI_pos (by omega), by omega, by omega⟩
                obtain ⟨σ1, hσ1⟩ : ∃ s, s = va_up σ (23 + 2 * q + 1) (va_cpy (σ (23 + 2 * k + 1)) (σ (23 + 2 * q + 1)) x y z) := ⟨_, rfl⟩
                have n1 : ∀ c, 66 < c → σ1 c = σ c := fun c hc => by rw [hσ1, vn (by omega)]
                have s68 : σ1 68 = σ 68 := n1 68 (by decide)
                have s69 : σ1 69 = σ 69 := n1 69 (by decide)
                have e0 : pX 146 106 [.ref 67, .int (nI k), .int (nI x), .int (nI q), .int (nI y), .int (nI z), .int (bi (x < y)), .int 0, .null] [] (mm L xs σ1 τ) 85 S = some (some (.int 1), mm L xs (va_up σ1 69 (va_cpy (σ1 69) (σ1 69) (40 * k + x) (40 * q + y) z)) τ, 85, S) := by
                  by_cases hxy : x < y
                  · rw [bi_t hxy]; exact cpR1 hk hq (by omega) (by omega) hxy
                  · rw [bi_f hxy]; exact cpR0 hk hq (by omega) (by omega) hxy
                refine op_of (v := 1) (σ1 := σ1) (σ2 := va_up σ1 69 (va_cpy (σ1 69) (σ1 69) (40 * k + x) (40 * q + y) z)) (τ1 := τ) (τ2 := τ) (g := g) (d := d) ?_ ?_ ?_
                · simp only [Nat.reduceAdd, i5_copy_0, i5_copy_1, i5_copy_4, i5_copy_7, i5_copy_8, i5_copy_11, i5_copy_14, i5_copy_15, i5_copy_16, i5_copy_18, i5_copy_21, i5_copy_22, i5_copy_23, i5_copy_26, i5_copy_27, i5_copy_28, i5_copy_31, i5_copy_32_r1, i5_copy_32_r2, i5_copy_32_r11, i5_copy_33, i5_copy_36, i5_copy_39, i5_copy_40, i5_copy_43, i5_copy_44_r1, i5_copy_44_r2, i5_copy_44_r11, i5_copy_45, i5_copy_48, i5_copy_51, i5_copy_52, i5_copy_53, i5_copy_56, i5_copy_57, i5_copy_58, i5_copy_61, i5_copy_62_r1, i5_copy_62_r2, i5_copy_62_r11, i5_copy_63, i5_copy_64, i5_copy_66, i5_copy_69, i5_copy_72, i5_copy_73, i5_copy_76, i5_copy_77_r1, i5_copy_77_r2, i5_copy_77_r11, i5_copy_78, i5_copy_80, i5_copy_82, i5_copy_85, i5_copy_88, i5_copy_89, i5_copy_90, i5_copy_93, i5_copy_94, i5_copy_95, i5_copy_98, i5_copy_99_r1, i5_copy_99_r2, i5_copy_99_r11, i5_copy_100, i5_copy_103, i5_copy_104, i5_copy_105, i5_copy_108, i5_copy_109_r1, i5_copy_109_r2, i5_copy_109_r11, i5_copy_110, i5_copy_113, i5_copy_115, i5_copy_117, i5_copy_120, i5_copy_121, i2_isThere_0, i2_isThere_1, i2_isThere_4, i2_isThere_5, i2_isThere_8, i2_isThere_9, i2_isThere_12, i2_isThere_13, s5_isRow, pK_i, bi_0, hr, ht, n0, if_true, if_false, not_true_eq_false, not_false_eq_true, true_or, or_true, hS, hC, hT, hD, ro_k hk, ro_k hq, ro_p hk, ro_p hq, a1, h, b1, h', p2, p2', n10, hp1, hp2, g1, hp5, cc, cl (show x ≤ 5000 by omega), cl (show y ≤ 5000 by omega), cl (show z ≤ 5000 by omega), hσ1]
                · have ip1 := fun (M : pm_M) (N : Nat) => s6_isPart (S := S) (M := M) (N := N) (show m ≤ 60 by omega) (i := nI x) n0
                  have ip2 := fun (M : pm_M) (N : Nat) => s6_isPart (S := S) (M := M) (N := N) (show m' ≤ 60 by omega) (i := nI y) n0
                  by_cases hxy : x < y
                  · rw [bi_t hxy] at e0
                    simp only [Nat.reduceAdd, i6_copy_0, i6_copy_1, i6_copy_2, i6_copy_5, i6_copy_8, i6_copy_9, i6_copy_10, i6_copy_13, i6_copy_16, i6_copy_17, i6_copy_18, i6_copy_20, i6_copy_23, i6_copy_24, i6_copy_25, i6_copy_28, i6_copy_29, i6_copy_30, i6_copy_33, i6_copy_34, i6_copy_35, i6_copy_38, i6_copy_39, i6_copy_42, i6_copy_43, i6_copy_44, i6_copy_47, i6_copy_48, i6_copy_49, i6_copy_52, i6_copy_53, i6_copy_54, i6_copy_56, i6_copy_57, i6_copy_60, i6_copy_61, i6_copy_62, i6_copy_65, i6_copy_68, i6_copy_70, i6_copy_72, i6_copy_73, i6_copy_76, i6_copy_77, i6_copy_78, i6_copy_81, i6_copy_84, i6_copy_85, i6_copy_86, i6_copy_89, i6_copy_90, i6_copy_92, i6_copy_93, i6_copy_96, i6_copy_97, i6_copy_100, i6_copy_101, i6_copy_103, i6_copy_104, s6_isRow, pK_i, bi_0, hr, ht, n0, if_true, if_false, not_true_eq_false, not_false_eq_true, true_or, or_true, k_68, l_68, hS, hC, hT, hD, s68, h, h', p1, p1', ip1, ip2, g1, hp5, nlt hxy (by omega)]
                    exact e0
                  · rw [bi_f hxy] at e0
                    simp only [Nat.reduceAdd, i6_copy_0, i6_copy_1, i6_copy_2, i6_copy_5, i6_copy_8, i6_copy_9, i6_copy_10, i6_copy_13, i6_copy_16, i6_copy_17, i6_copy_18, i6_copy_20, i6_copy_23, i6_copy_24, i6_copy_25, i6_copy_28, i6_copy_29, i6_copy_30, i6_copy_33, i6_copy_34, i6_copy_35, i6_copy_38, i6_copy_39, i6_copy_42, i6_copy_43, i6_copy_44, i6_copy_47, i6_copy_48, i6_copy_49, i6_copy_52, i6_copy_53, i6_copy_54, i6_copy_56, i6_copy_57, i6_copy_60, i6_copy_61, i6_copy_62, i6_copy_65, i6_copy_68, i6_copy_70, i6_copy_72, i6_copy_73, i6_copy_76, i6_copy_77, i6_copy_78, i6_copy_81, i6_copy_84, i6_copy_85, i6_copy_86, i6_copy_89, i6_copy_90, i6_copy_92, i6_copy_93, i6_copy_96, i6_copy_97, i6_copy_100, i6_copy_101, i6_copy_103, i6_copy_104, s6_isRow, pK_i, bi_0, hr, ht, n0, if_true, if_false, not_true_eq_false, not_false_eq_true, true_or, or_true, k_68, l_68, hS, hC, hT, hD, s68, h, h', p1, p1', ip1, ip2, g1, hp5, nnl (show y ≤ x by omega) (by omega)]
                    exact e0
                · rw [s69, hσ1]
                  refine Rel_row R hq (fun c h1 h2 h3 h4 => ?_) (fun c h => ?_) (fun c a h h' => ?_) ⟨?_, ?_, fun a ha => ?_⟩
                  · simp (disch := omega) only [vn']
                  · simp (disch := omega) only [vn']
                  · rw [vs, cpy_out _ _ (by omega)]
                  · simp (disch := omega) only [vn']; exact b1
                  · simp (disch := omega) only [vn']; rw [h']; exact Or.inr ⟨m', hm', rfl⟩
                  · rw [vn (by omega), vs, vs]
                    by_cases w : y ≤ a ∧ a < y + z
                    · obtain ⟨a', rfl⟩ : ∃ a', a = y + a' := ⟨a - y, by omega⟩
                      rw [cpy_in _ _ (by omega), show 40 * q + (y + a') = 40 * q + y + a' by omega, cpy_in _ _ (by omega), a3 _ (by omega)]
                      congr 1; omega
                    · rw [cpy_out _ _ (by omega), cpy_out _ _ (by omega)]; exact b3 a ha
              · apply op_of
                · simp only [Nat.reduceAdd, i5_copy_0, i5_copy_1, i5_copy_4, i5_copy_7, i5_copy_8, i5_copy_11, i5_copy_14, i5_copy_15, i5_copy_16, i5_copy_18, i5_copy_21, i5_copy_22, i5_copy_23, i5_copy_26, i5_copy_27, i5_copy_28, i5_copy_31, i5_copy_32_r1, i5_copy_32_r2, i5_copy_32_r11, i5_copy_33, i5_copy_36, i5_copy_39, i5_copy_40, i5_copy_43, i5_copy_44_r1, i5_copy_44_r2, i5_copy_44_r11, i5_copy_45, i5_copy_48, i5_copy_51, i5_copy_52, i5_copy_53, i5_copy_56, i5_copy_57, i5_copy_58, i5_copy_61, i5_copy_62_r1, i5_copy_62_r2, i5_copy_62_r11, i5_copy_63, i5_copy_64, i5_copy_66, i5_copy_69, i5_copy_72, i5_copy_73, i5_copy_76, i5_copy_77_r1, i5_copy_77_r2, i5_copy_77_r11, i5_copy_78, i5_copy_80, i5_copy_82, i5_copy_85, i5_copy_88, i5_copy_89, i5_copy_90, i5_copy_93, i5_copy_94, i5_copy_95, i5_copy_98, i5_copy_99_r1, i5_copy_99_r2, i5_copy_99_r11, i5_copy_100, i5_copy_103, i5_copy_104, i5_copy_105, i5_copy_108, i5_copy_109_r1, i5_copy_109_r2, i5_copy_109_r11, i5_copy_110, i5_copy_113, i5_copy_115, i5_copy_117, i5_copy_120, i5_copy_121, i2_isThere_0, i2_isThere_1, i2_isThere_4, i2_isThere_5, i2_isThere_8, i2_isThere_9, i2_isThere_12, i2_isThere_13, s5_isRow, pK_i, bi_0, hr, ht, n0, if_true, if_false, not_true_eq_false, not_false_eq_true, true_or, or_true, hS, hC, hT, hD, ro_k hk, ro_k hq, a1, h, b1, h', p2, p2', n10, hp1, hp2, g1, g2, rf2]; rfl
                · simp only [Nat.reduceAdd, i6_copy_0, i6_copy_1, i6_copy_2, i6_copy_5, i6_copy_8, i6_copy_9, i6_copy_10, i6_copy_13, i6_copy_16, i6_copy_17, i6_copy_18, i6_copy_20, i6_copy_23, i6_copy_24, i6_copy_25, i6_copy_28, i6_copy_29, i6_copy_30, i6_copy_33, i6_copy_34, i6_copy_35, i6_copy_38, i6_copy_39, i6_copy_42, i6_copy_43, i6_copy_44, i6_copy_47, i6_copy_48, i6_copy_49, i6_copy_52, i6_copy_53, i6_copy_54, i6_copy_56, i6_copy_57, i6_copy_60, i6_copy_61, i6_copy_62, i6_copy_65, i6_copy_68, i6_copy_70, i6_copy_72, i6_copy_73, i6_copy_76, i6_copy_77, i6_copy_78, i6_copy_81, i6_copy_84, i6_copy_85, i6_copy_86, i6_copy_89, i6_copy_90, i6_copy_92, i6_copy_93, i6_copy_96, i6_copy_97, i6_copy_100, i6_copy_101, i6_copy_103, i6_copy_104, s6_isRow, pK_i, bi_0, hr, ht, n0, if_true, if_false, not_true_eq_false, not_false_eq_true, true_or, or_true, k_68, l_68, hS, hC, hT, hD, f68', h, h', p1, p1', s6_isPart (show m ≤ 60 by omega) n0, s6_isPart (show m' ≤ 60 by omega) n0, g1, g2, fd2]; rfl
                · exact Rel_f R 2
            · apply op_of
              · simp only [Nat.reduceAdd, i5_copy_0, i5_copy_1, i5_copy_4, i5_copy_7, i5_copy_8, i5_copy_11, i5_copy_14, i5_copy_15, i5_copy_16, i5_copy_18, i5_copy_21, i5_copy_22, i5_copy_23, i5_copy_26, i5_copy_27, i5_copy_28, i5_copy_31, i5_copy_32_r1, i5_copy_32_r2, i5_copy_32_r11, i5_copy_33, i5_copy_36, i5_copy_39, i5_copy_40, i5_copy_43, i5_copy_44_r1, i5_copy_44_r2, i5_copy_44_r11, i5_copy_45, i5_copy_48, i5_copy_51, i5_copy_52, i5_copy_53, i5_copy_56, i5_copy_57, i5_copy_58, i5_copy_61, i5_copy_62_r1, i5_copy_62_r2, i5_copy_62_r11, i5_copy_63, i5_copy_64, i5_copy_66, i5_copy_69, i5_copy_72, i5_copy_73, i5_copy_76, i5_copy_77_r1, i5_copy_77_r2, i5_copy_77_r11, i5_copy_78, i5_copy_80, i5_copy_82, i5_copy_85, i5_copy_88, i5_copy_89, i5_copy_90, i5_copy_93, i5_copy_94, i5_copy_95, i5_copy_98, i5_copy_99_r1, i5_copy_99_r2, i5_copy_99_r11, i5_copy_100, i5_copy_103, i5_copy_104, i5_copy_105, i5_copy_108, i5_copy_109_r1, i5_copy_109_r2, i5_copy_109_r11, i5_copy_110, i5_copy_113, i5_copy_115, i5_copy_117, i5_copy_120, i5_copy_121, i2_isThere_0, i2_isThere_1, i2_isThere_4, i2_isThere_5, i2_isThere_8, i2_isThere_9, i2_isThere_12, i2_isThere_13, s5_isRow, pK_i, bi_0, hr, ht, n0, if_true, if_false, not_true_eq_false, not_false_eq_true, true_or, or_true, hS, hC, hT, hD, ro_k hk, ro_k hq, a1, h, b1, h', p2, p2', n10, hp1, g1, rf2]; rfl
              · simp only [Nat.reduceAdd, i6_copy_0, i6_copy_1, i6_copy_2, i6_copy_5, i6_copy_8, i6_copy_9, i6_copy_10, i6_copy_13, i6_copy_16, i6_copy_17, i6_copy_18, i6_copy_20, i6_copy_23, i6_copy_24, i6_copy_25, i6_copy_28, i6_copy_29, i6_copy_30, i6_copy_33, i6_copy_34, i6_copy_35, i6_copy_38, i6_copy_39, i6_copy_42, i6_copy_43, i6_copy_44, i6_copy_47, i6_copy_48, i6_copy_49, i6_copy_52, i6_copy_53, i6_copy_54, i6_copy_56, i6_copy_57, i6_copy_60, i6_copy_61, i6_copy_62, i6_copy_65, i6_copy_68, i6_copy_70, i6_copy_72, i6_copy_73, i6_copy_76, i6_copy_77, i6_copy_78, i6_copy_81, i6_copy_84, i6_copy_85, i6_copy_86, i6_copy_89, i6_copy_90, i6_copy_92, i6_copy_93, i6_copy_96, i6_copy_97, i6_copy_100, i6_copy_101, i6_copy_103, i6_copy_104, s6_isRow, pK_i, bi_0, hr, ht, n0, if_true, if_false, not_true_eq_false, not_false_eq_true, true_or, or_true, k_68, l_68, hS, hC, hT, hD, f68', h, h', p1, p1', s6_isPart (show m ≤ 60 by omega) n0, g1, fd2]; rfl
              · exact Rel_f R 2
    · apply op_of
      · simp only [Nat.reduceAdd, i5_copy_0, i5_copy_1, i5_copy_4, i5_copy_7, i5_copy_8, i5_copy_11, i5_copy_14, i5_copy_15, i5_copy_16, i5_copy_18, i5_copy_21, i5_copy_22, i5_copy_23, i5_copy_26, i5_copy_27, i5_copy_28, i5_copy_31, i5_copy_32_r1, i5_copy_32_r2, i5_copy_32_r11, i5_copy_33, i5_copy_36, i5_copy_39, i5_copy_40, i5_copy_43, i5_copy_44_r1, i5_copy_44_r2, i5_copy_44_r11, i5_copy_45, i5_copy_48, i5_copy_51, i5_copy_52, i5_copy_53, i5_copy_56, i5_copy_57, i5_copy_58, i5_copy_61, i5_copy_62_r1, i5_copy_62_r2, i5_copy_62_r11, i5_copy_63, i5_copy_64, i5_copy_66, i5_copy_69, i5_copy_72, i5_copy_73, i5_copy_76, i5_copy_77_r1, i5_copy_77_r2, i5_copy_77_r11, i5_copy_78, i5_copy_80, i5_copy_82, i5_copy_85, i5_copy_88, i5_copy_89, i5_copy_90, i5_copy_93, i5_copy_94, i5_copy_95, i5_copy_98, i5_copy_99_r1, i5_copy_99_r2, i5_copy_99_r11, i5_copy_100, i5_copy_103, i5_copy_104, i5_copy_105, i5_copy_108, i5_copy_109_r1, i5_copy_109_r2, i5_copy_109_r11, i5_copy_110, i5_copy_113, i5_copy_115, i5_copy_117, i5_copy_120, i5_copy_121, s5_isRow, pK_i, bi_0, hr, ht, if_true, if_false, not_true_eq_false, not_false_eq_true, true_or, or_true]; rfl
      · simp only [Nat.reduceAdd, i6_copy_0, i6_copy_1, i6_copy_2, i6_copy_5, i6_copy_8, i6_copy_9, i6_copy_10, i6_copy_13, i6_copy_16, i6_copy_17, i6_copy_18, i6_copy_20, i6_copy_23, i6_copy_24, i6_copy_25, i6_copy_28, i6_copy_29, i6_copy_30, i6_copy_33, i6_copy_34, i6_copy_35, i6_copy_38, i6_copy_39, i6_copy_42, i6_copy_43, i6_copy_44, i6_copy_47, i6_copy_48, i6_copy_49, i6_copy_52, i6_copy_53, i6_copy_54, i6_copy_56, i6_copy_57, i6_copy_60, i6_copy_61, i6_copy_62, i6_copy_65, i6_copy_68, i6_copy_70, i6_copy_72, i6_copy_73, i6_copy_76, i6_copy_77, i6_copy_78, i6_copy_81, i6_copy_84, i6_copy_85, i6_copy_86, i6_copy_89, i6_copy_90, i6_copy_92, i6_copy_93, i6_copy_96, i6_copy_97, i6_copy_100, i6_copy_101, i6_copy_103, i6_copy_104, s6_isRow, pK_i, bi_0, hr, ht, if_true, if_false, not_true_eq_false, not_false_eq_true, true_or, or_true]; rfl
      · exact R
  · apply op_of
    · simp only [Nat.reduceAdd, i5_copy_0, i5_copy_1, i5_copy_4, i5_copy_7, i5_copy_8, i5_copy_11, i5_copy_14, i5_copy_15, i5_copy_16, i5_copy_18, i5_copy_21, i5_copy_22, i5_copy_23, i5_copy_26, i5_copy_27, i5_copy_28, i5_copy_31, i5_copy_32_r1, i5_copy_32_r2, i5_copy_32_r11, i5_copy_33, i5_copy_36, i5_copy_39, i5_copy_40, i5_copy_43, i5_copy_44_r1, i5_copy_44_r2, i5_copy_44_r11, i5_copy_45, i5_copy_48, i5_copy_51, i5_copy_52, i5_copy_53, i5_copy_56, i5_copy_57, i5_copy_58, i5_copy_61, i5_copy_62_r1, i5_copy_62_r2, i5_copy_62_r11, i5_copy_63, i5_copy_64, i5_copy_66, i5_copy_69, i5_copy_72, i5_copy_73, i5_copy_76, i5_copy_77_r1, i5_copy_77_r2, i5_copy_77_r11, i5_copy_78, i5_copy_80, i5_copy_82, i5_copy_85, i5_copy_88, i5_copy_89, i5_copy_90, i5_copy_93, i5_copy_94, i5_copy_95, i5_copy_98, i5_copy_99_r1, i5_copy_99_r2, i5_copy_99_r11, i5_copy_100, i5_copy_103, i5_copy_104, i5_copy_105, i5_copy_108, i5_copy_109_r1, i5_copy_109_r2, i5_copy_109_r11, i5_copy_110, i5_copy_113, i5_copy_115, i5_copy_117, i5_copy_120, i5_copy_121, s5_isRow, pK_i, bi_0, hr, if_true, if_false, not_true_eq_false, not_false_eq_true, true_or, or_true]; rfl
    · simp only [Nat.reduceAdd, i6_copy_0, i6_copy_1, i6_copy_2, i6_copy_5, i6_copy_8, i6_copy_9, i6_copy_10, i6_copy_13, i6_copy_16, i6_copy_17, i6_copy_18, i6_copy_20, i6_copy_23, i6_copy_24, i6_copy_25, i6_copy_28, i6_copy_29, i6_copy_30, i6_copy_33, i6_copy_34, i6_copy_35, i6_copy_38, i6_copy_39, i6_copy_42, i6_copy_43, i6_copy_44, i6_copy_47, i6_copy_48, i6_copy_49, i6_copy_52, i6_copy_53, i6_copy_54, i6_copy_56, i6_copy_57, i6_copy_60, i6_copy_61, i6_copy_62, i6_copy_65, i6_copy_68, i6_copy_70, i6_copy_72, i6_copy_73, i6_copy_76, i6_copy_77, i6_copy_78, i6_copy_81, i6_copy_84, i6_copy_85, i6_copy_86, i6_copy_89, i6_copy_90, i6_copy_92, i6_copy_93, i6_copy_96, i6_copy_97, i6_copy_100, i6_copy_101, i6_copy_103, i6_copy_104, s6_isRow, pK_i, bi_0, hr, if_true, if_false, not_true_eq_false, not_false_eq_true, true_or, or_true]; rfl
    · exact R
end DX
