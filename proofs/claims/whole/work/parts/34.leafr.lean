/-! THE LEAVES of the plain form -/
def far (a b : Int32) : Int32 := if a < b then b - a else a - b
def flR (k w a b n : Int32) : Int32 := if k = 0 then (if b < a then imn (far a b / 2) w else -(imn (far a b / 2) w)) else if k = 1 then (if b < a then imn ((a - b) / 2) w else 0) else if k = 2 then -(imn w (imn b (60 - a))) else if k = 3 then (if b < a then (if 5 < far a b then imn ((far a b - 5) / 2) w else 0) else -(if 5 < far a b then imn ((far a b - 5) / 2) w else 0)) else if k = 4 then (if b < a then (if rm2 n = 0 then imn ((a - b) / 2) w else 0) else 0) else -(imn (if rm3 n = 0 then 2 * w else w) (imn b (60 - a)))
def kd6 (k : Int32) : Prop := k = 0 ∨ k = 1 ∨ k = 2 ∨ k = 3 ∨ k = 4 ∨ k = 5
theorem n12 : ((1 : Int32) = 2) = False := by decide
theorem n13 : ((1 : Int32) = 3) = False := by decide
theorem n20' : ((2 : Int32) = 0) = False := by decide
theorem n21 : ((2 : Int32) = 1) = False := by decide
theorem n25 : ((2 : Int32) = 5) = False := by decide
theorem n30' : ((3 : Int32) = 0) = False := by decide
theorem n31 : ((3 : Int32) = 1) = False := by decide
theorem n32 : ((3 : Int32) = 2) = False := by decide
theorem n40 : ((4 : Int32) = 0) = False := by decide
theorem n41 : ((4 : Int32) = 1) = False := by decide
theorem n42 : ((4 : Int32) = 2) = False := by decide
theorem n43 : ((4 : Int32) = 3) = False := by decide
theorem n50 : ((5 : Int32) = 0) = False := by decide
theorem n51 : ((5 : Int32) = 1) = False := by decide
theorem n52 : ((5 : Int32) = 2) = False := by decide
theorem n53 : ((5 : Int32) = 3) = False := by decide
theorem n54 : ((5 : Int32) = 4) = False := by decide
section R1
variable {M : pm_M} {N S : Nat}
theorem s6_in {v a b : Int32} : pX 131 0 [.int v, .int a, .int b] [] M N S = some (some (.int (bi (¬ v < a ∧ ¬ b < v))), M, N, S) := by
  by_cases h1 : v < a
  · rw [bi_f (fun h => h.1 h1)]
    simp only [i6_in_0, i6_in_1, i6_in_2, i6_in_5, i6_in_6, i6_in_7, i6_in_10, i6_in_11, i6_in_14, i6_in_15, h1, if_true, true_or]
  · by_cases h2 : b < v
    · rw [bi_f (fun h => h.2 h2)]
      simp only [i6_in_0, i6_in_1, i6_in_2, i6_in_5, i6_in_6, i6_in_7, i6_in_10, i6_in_11, i6_in_14, i6_in_15, h1, h2, if_true, if_false, true_or]
    · rw [bi_t ⟨h1, h2⟩]
      simp only [i6_in_0, i6_in_1, i6_in_2, i6_in_5, i6_in_6, i6_in_7, i6_in_10, i6_in_11, i6_in_14, i6_in_15, h1, h2, if_true, if_false, or_true]
theorem s6_has {b i : Int32} : pX 132 0 [.int b, .int i] [] M N S = some (some (.int (bi (hb b i))), M, N, S) := by
  by_cases h : hb b i
  · rw [bi_t h]
    unfold hb at h
    simp only [i6_has_0, i6_has_1, i6_has_2, i6_has_3, i6_has_4, i6_has_5, i6_has_6, i6_has_9, i6_has_10, i6_has_13, i6_has_14, h, if_true, or_true]
  · rw [bi_f h]
    unfold hb at h
    simp only [i6_has_0, i6_has_1, i6_has_2, i6_has_3, i6_has_4, i6_has_5, i6_has_6, i6_has_9, i6_has_10, i6_has_13, i6_has_14, h, if_false, true_or]
theorem s6_least {a b : Int32} : pX 159 0 [.int a, .int b] [] M N S = some (some (.int (imn a b)), M, N, S) := by
  unfold imn
  by_cases h1 : a < b
  · have h2 : ¬ b < a := by rw [Int32.lt_iff_toInt_lt] at h1 ⊢; omega
    simp only [i6_least_0, i6_least_1, i6_least_2, i6_least_5, i6_least_6, i6_least_9, i6_least_10, h1, h2, if_true, if_false]
  · by_cases h2 : b < a
    · simp only [i6_least_0, i6_least_1, i6_least_2, i6_least_5, i6_least_6, i6_least_9, i6_least_10, h1, h2, if_true, if_false]
    · have h3 : a = b := by
        rw [Int32.lt_iff_toInt_lt] at h1 h2
        exact Int32.toInt_inj.mp (by omega)
      subst h3; simp only [i6_least_0, i6_least_1, i6_least_2, i6_least_5, i6_least_6, i6_least_9, i6_least_10, Int32.lt_irrefl, if_false]
theorem s6_far {a b : Int32} : pX 160 0 [.int a, .int b] [] M N S = some (some (.int (far a b)), M, N, S) := by
  unfold far
  by_cases h1 : a < b
  · simp only [i6_far_0, i6_far_1, i6_far_2, i6_far_5, i6_far_6, i6_far_7, i6_far_8, i6_far_11, i6_far_12, i6_far_13, i6_far_14, h1, if_true]
  · simp only [i6_far_0, i6_far_1, i6_far_2, i6_far_5, i6_far_6, i6_far_7, i6_far_8, i6_far_11, i6_far_12, i6_far_13, i6_far_14, h1, if_false]
theorem s6_flowBy {k w a b n : Int32} (hk : kd6 k) : pX 161 0 [.int k, .int w, .int a, .int b, .int n, .null] [] M N S = some (some (.int (flR k w a b n)), M, N, S) := by
  unfold flR
  rcases hk with rfl | rfl | rfl | rfl | rfl | rfl
  · by_cases h1 : b < a <;> simp only [i6_flowBy_0, i6_flowBy_1, i6_flowBy_3, i6_flowBy_4, i6_flowBy_44, i6_flowBy_45, i6_flowBy_46, i6_flowBy_49, i6_flowBy_51, i6_flowBy_52, i6_flowBy_53, i6_flowBy_56, i6_flowBy_57, i6_flowBy_58, i6_flowBy_59, i6_flowBy_62, i6_flowBy_63, i6_flowBy_65, i6_flowBy_67, i6_flowBy_68, i6_flowBy_70, i6_flowBy_71, i6_flowBy_72, i6_flowBy_75, i6_flowBy_78, i6_flowBy_79, i6_flowBy_80, i6_flowBy_81, i6_flowBy_82, i6_flowBy_85, i6_flowBy_86, i6_flowBy_89, i6_flowBy_90, i6_flowBy_91, i6_flowBy_94, i6_flowBy_95, i6_flowBy_96, i6_flowBy_97, i6_flowBy_98, i6_flowBy_99, i6_flowBy_102, i6_flowBy_105, i6_flowBy_106, i6_flowBy_108, i6_flowBy_109, i6_flowBy_110, i6_flowBy_113, i6_flowBy_115, i6_flowBy_118, i6_flowBy_120, i6_flowBy_121, i6_flowBy_122, i6_flowBy_123, i6_flowBy_124, i6_flowBy_127, i6_flowBy_128, i6_flowBy_129, i6_flowBy_130, i6_flowBy_133, i6_flowBy_135, i6_flowBy_136, i6_flowBy_137, i6_flowBy_140, i6_flowBy_142, i6_flowBy_145, i6_flowBy_147, i6_flowBy_148, i6_flowBy_149, i6_flowBy_150, i6_flowBy_151, i6_flowBy_154, i6_flowBy_155, i6_flowBy_156, i6_flowBy_159, i6_flowBy_161, i6_flowBy_162, i6_flowBy_163, i6_flowBy_166, i6_flowBy_167, i6_flowBy_168, i6_flowBy_169, i6_flowBy_170, i6_flowBy_171, i6_flowBy_172, i6_flowBy_175, i6_flowBy_178, i6_flowBy_179, s6_least, s6_far, pK_i, n20, h1, if_true, if_false]
  · by_cases h1 : b < a <;> simp only [i6_flowBy_0, i6_flowBy_1, i6_flowBy_3, i6_flowBy_4, i6_flowBy_44, i6_flowBy_45, i6_flowBy_46, i6_flowBy_49, i6_flowBy_51, i6_flowBy_52, i6_flowBy_53, i6_flowBy_56, i6_flowBy_57, i6_flowBy_58, i6_flowBy_59, i6_flowBy_62, i6_flowBy_63, i6_flowBy_65, i6_flowBy_67, i6_flowBy_68, i6_flowBy_70, i6_flowBy_71, i6_flowBy_72, i6_flowBy_75, i6_flowBy_78, i6_flowBy_79, i6_flowBy_80, i6_flowBy_81, i6_flowBy_82, i6_flowBy_85, i6_flowBy_86, i6_flowBy_89, i6_flowBy_90, i6_flowBy_91, i6_flowBy_94, i6_flowBy_95, i6_flowBy_96, i6_flowBy_97, i6_flowBy_98, i6_flowBy_99, i6_flowBy_102, i6_flowBy_105, i6_flowBy_106, i6_flowBy_108, i6_flowBy_109, i6_flowBy_110, i6_flowBy_113, i6_flowBy_115, i6_flowBy_118, i6_flowBy_120, i6_flowBy_121, i6_flowBy_122, i6_flowBy_123, i6_flowBy_124, i6_flowBy_127, i6_flowBy_128, i6_flowBy_129, i6_flowBy_130, i6_flowBy_133, i6_flowBy_135, i6_flowBy_136, i6_flowBy_137, i6_flowBy_140, i6_flowBy_142, i6_flowBy_145, i6_flowBy_147, i6_flowBy_148, i6_flowBy_149, i6_flowBy_150, i6_flowBy_151, i6_flowBy_154, i6_flowBy_155, i6_flowBy_156, i6_flowBy_159, i6_flowBy_161, i6_flowBy_162, i6_flowBy_163, i6_flowBy_166, i6_flowBy_167, i6_flowBy_168, i6_flowBy_169, i6_flowBy_170, i6_flowBy_171, i6_flowBy_172, i6_flowBy_175, i6_flowBy_178, i6_flowBy_179, s6_least, s6_far, pK_i, n20, n10, h1, if_true, if_false]
  · simp only [i6_flowBy_0, i6_flowBy_1, i6_flowBy_3, i6_flowBy_4, i6_flowBy_44, i6_flowBy_45, i6_flowBy_46, i6_flowBy_49, i6_flowBy_51, i6_flowBy_52, i6_flowBy_53, i6_flowBy_56, i6_flowBy_57, i6_flowBy_58, i6_flowBy_59, i6_flowBy_62, i6_flowBy_63, i6_flowBy_65, i6_flowBy_67, i6_flowBy_68, i6_flowBy_70, i6_flowBy_71, i6_flowBy_72, i6_flowBy_75, i6_flowBy_78, i6_flowBy_79, i6_flowBy_80, i6_flowBy_81, i6_flowBy_82, i6_flowBy_85, i6_flowBy_86, i6_flowBy_89, i6_flowBy_90, i6_flowBy_91, i6_flowBy_94, i6_flowBy_95, i6_flowBy_96, i6_flowBy_97, i6_flowBy_98, i6_flowBy_99, i6_flowBy_102, i6_flowBy_105, i6_flowBy_106, i6_flowBy_108, i6_flowBy_109, i6_flowBy_110, i6_flowBy_113, i6_flowBy_115, i6_flowBy_118, i6_flowBy_120, i6_flowBy_121, i6_flowBy_122, i6_flowBy_123, i6_flowBy_124, i6_flowBy_127, i6_flowBy_128, i6_flowBy_129, i6_flowBy_130, i6_flowBy_133, i6_flowBy_135, i6_flowBy_136, i6_flowBy_137, i6_flowBy_140, i6_flowBy_142, i6_flowBy_145, i6_flowBy_147, i6_flowBy_148, i6_flowBy_149, i6_flowBy_150, i6_flowBy_151, i6_flowBy_154, i6_flowBy_155, i6_flowBy_156, i6_flowBy_159, i6_flowBy_161, i6_flowBy_162, i6_flowBy_163, i6_flowBy_166, i6_flowBy_167, i6_flowBy_168, i6_flowBy_169, i6_flowBy_170, i6_flowBy_171, i6_flowBy_172, i6_flowBy_175, i6_flowBy_178, i6_flowBy_179, s6_least, s6_far, pK_i, n20, n21, n25, if_true, if_false]
  · by_cases h1 : b < a <;> by_cases h2 : 5 < far a b <;> simp only [i6_flowBy_0, i6_flowBy_1, i6_flowBy_3, i6_flowBy_4, i6_flowBy_44, i6_flowBy_45, i6_flowBy_46, i6_flowBy_49, i6_flowBy_51, i6_flowBy_52, i6_flowBy_53, i6_flowBy_56, i6_flowBy_57, i6_flowBy_58, i6_flowBy_59, i6_flowBy_62, i6_flowBy_63, i6_flowBy_65, i6_flowBy_67, i6_flowBy_68, i6_flowBy_70, i6_flowBy_71, i6_flowBy_72, i6_flowBy_75, i6_flowBy_78, i6_flowBy_79, i6_flowBy_80, i6_flowBy_81, i6_flowBy_82, i6_flowBy_85, i6_flowBy_86, i6_flowBy_89, i6_flowBy_90, i6_flowBy_91, i6_flowBy_94, i6_flowBy_95, i6_flowBy_96, i6_flowBy_97, i6_flowBy_98, i6_flowBy_99, i6_flowBy_102, i6_flowBy_105, i6_flowBy_106, i6_flowBy_108, i6_flowBy_109, i6_flowBy_110, i6_flowBy_113, i6_flowBy_115, i6_flowBy_118, i6_flowBy_120, i6_flowBy_121, i6_flowBy_122, i6_flowBy_123, i6_flowBy_124, i6_flowBy_127, i6_flowBy_128, i6_flowBy_129, i6_flowBy_130, i6_flowBy_133, i6_flowBy_135, i6_flowBy_136, i6_flowBy_137, i6_flowBy_140, i6_flowBy_142, i6_flowBy_145, i6_flowBy_147, i6_flowBy_148, i6_flowBy_149, i6_flowBy_150, i6_flowBy_151, i6_flowBy_154, i6_flowBy_155, i6_flowBy_156, i6_flowBy_159, i6_flowBy_161, i6_flowBy_162, i6_flowBy_163, i6_flowBy_166, i6_flowBy_167, i6_flowBy_168, i6_flowBy_169, i6_flowBy_170, i6_flowBy_171, i6_flowBy_172, i6_flowBy_175, i6_flowBy_178, i6_flowBy_179, s6_least, s6_far, pK_i, n20, n30, n31, n32, h1, h2, if_true, if_false]
  · by_cases h1 : b < a <;> by_cases h2 : rm2 n = 0 <;> unfold rm2 at h2 ⊢ <;> simp only [i6_flowBy_0, i6_flowBy_1, i6_flowBy_3, i6_flowBy_4, i6_flowBy_44, i6_flowBy_45, i6_flowBy_46, i6_flowBy_49, i6_flowBy_51, i6_flowBy_52, i6_flowBy_53, i6_flowBy_56, i6_flowBy_57, i6_flowBy_58, i6_flowBy_59, i6_flowBy_62, i6_flowBy_63, i6_flowBy_65, i6_flowBy_67, i6_flowBy_68, i6_flowBy_70, i6_flowBy_71, i6_flowBy_72, i6_flowBy_75, i6_flowBy_78, i6_flowBy_79, i6_flowBy_80, i6_flowBy_81, i6_flowBy_82, i6_flowBy_85, i6_flowBy_86, i6_flowBy_89, i6_flowBy_90, i6_flowBy_91, i6_flowBy_94, i6_flowBy_95, i6_flowBy_96, i6_flowBy_97, i6_flowBy_98, i6_flowBy_99, i6_flowBy_102, i6_flowBy_105, i6_flowBy_106, i6_flowBy_108, i6_flowBy_109, i6_flowBy_110, i6_flowBy_113, i6_flowBy_115, i6_flowBy_118, i6_flowBy_120, i6_flowBy_121, i6_flowBy_122, i6_flowBy_123, i6_flowBy_124, i6_flowBy_127, i6_flowBy_128, i6_flowBy_129, i6_flowBy_130, i6_flowBy_133, i6_flowBy_135, i6_flowBy_136, i6_flowBy_137, i6_flowBy_140, i6_flowBy_142, i6_flowBy_145, i6_flowBy_147, i6_flowBy_148, i6_flowBy_149, i6_flowBy_150, i6_flowBy_151, i6_flowBy_154, i6_flowBy_155, i6_flowBy_156, i6_flowBy_159, i6_flowBy_161, i6_flowBy_162, i6_flowBy_163, i6_flowBy_166, i6_flowBy_167, i6_flowBy_168, i6_flowBy_169, i6_flowBy_170, i6_flowBy_171, i6_flowBy_172, i6_flowBy_175, i6_flowBy_178, i6_flowBy_179, s6_least, s6_far, pK_i, n20, n40, n41, n42, n43, h1, h2, if_true, if_false]
  · by_cases h2 : rm3 n = 0 <;> unfold rm3 at h2 ⊢ <;> simp only [i6_flowBy_0, i6_flowBy_1, i6_flowBy_3, i6_flowBy_4, i6_flowBy_44, i6_flowBy_45, i6_flowBy_46, i6_flowBy_49, i6_flowBy_51, i6_flowBy_52, i6_flowBy_53, i6_flowBy_56, i6_flowBy_57, i6_flowBy_58, i6_flowBy_59, i6_flowBy_62, i6_flowBy_63, i6_flowBy_65, i6_flowBy_67, i6_flowBy_68, i6_flowBy_70, i6_flowBy_71, i6_flowBy_72, i6_flowBy_75, i6_flowBy_78, i6_flowBy_79, i6_flowBy_80, i6_flowBy_81, i6_flowBy_82, i6_flowBy_85, i6_flowBy_86, i6_flowBy_89, i6_flowBy_90, i6_flowBy_91, i6_flowBy_94, i6_flowBy_95, i6_flowBy_96, i6_flowBy_97, i6_flowBy_98, i6_flowBy_99, i6_flowBy_102, i6_flowBy_105, i6_flowBy_106, i6_flowBy_108, i6_flowBy_109, i6_flowBy_110, i6_flowBy_113, i6_flowBy_115, i6_flowBy_118, i6_flowBy_120, i6_flowBy_121, i6_flowBy_122, i6_flowBy_123, i6_flowBy_124, i6_flowBy_127, i6_flowBy_128, i6_flowBy_129, i6_flowBy_130, i6_flowBy_133, i6_flowBy_135, i6_flowBy_136, i6_flowBy_137, i6_flowBy_140, i6_flowBy_142, i6_flowBy_145, i6_flowBy_147, i6_flowBy_148, i6_flowBy_149, i6_flowBy_150, i6_flowBy_151, i6_flowBy_154, i6_flowBy_155, i6_flowBy_156, i6_flowBy_159, i6_flowBy_161, i6_flowBy_162, i6_flowBy_163, i6_flowBy_166, i6_flowBy_167, i6_flowBy_168, i6_flowBy_169, i6_flowBy_170, i6_flowBy_171, i6_flowBy_172, i6_flowBy_175, i6_flowBy_178, i6_flowBy_179, s6_least, s6_far, pK_i, n30, n50, n51, n52, n53, n54, h2, if_true, if_false]
end R1
theorem cpy_0 (f g : Nat → Int32) (i j : Nat) : va_cpy f g i j 0 = g := by
  funext k
  unfold va_cpy
  simp; omega
theorem cpy_s (f g : Nat → Int32) (i j n : Nat) : va_cpy f g i j (n + 1) = upd (va_cpy f g i j n) (j + n) (f (i + n)) := by
  funext k
  by_cases h : k = j + n
  · subst h
    rw [us]
    unfold va_cpy
    simp
  · rw [un h]
    unfold va_cpy
    by_cases h1 : j ≤ k ∧ k < j + n
    · rw [if_pos h1, if_pos ⟨h1.1, by omega⟩]
    · rw [if_neg h1, if_neg (by omega)]
section R2
variable {L : Nat} {xs : Nat → Int32} {σ : Nat → Nat → Int32} {τ : Nat → Nat → Int64} {S s g : Nat}
theorem s6_bring {a b i j n : Nat} (ha : isK 6 a) (hb : isK 6 b) (hne : a ≠ b) (hi : i + n ≤ m_len a) (hj : j + n ≤ m_len b) (hl : m_len a ≤ 2401) (hl2 : m_len b ≤ 2401) : pX 134 0 [.ref a, .int (nI i), .ref b, .int (nI j), .int (nI n), .null] [] (mm L xs σ τ) 85 S = some (none, mm L xs (va_up σ b (va_cpy (σ a) (σ b) i j n)) τ, 85, S) := by
  have key := lp (δ := Unit) n (fun k _ => pX 134 3 [.ref a, .int (nI i), .ref b, .int (nI j), .int (nI n), .int (nI k)] [] (mm L xs (va_up σ b (va_cpy (σ a) (σ b) i j k)) τ) 85 S) (some (none, mm L xs (va_up σ b (va_cpy (σ a) (σ b) i j n)) τ, 85, S)) (fun _ => by
    simp only [i6_bring_0, i6_bring_1, i6_bring_3, i6_bring_5, i6_bring_7, i6_bring_10, i6_bring_11, i6_bring_12, i6_bring_14, i6_bring_15, i6_bring_16, i6_bring_17, i6_bring_19, i6_bring_20, i6_bring_21, i6_bring_22, i6_bring_25, i6_bring_28, Int32.lt_irrefl, if_false]) (fun k hk _ => ⟨(), by
    rw [i6_bring_3]
    simp only [i6_bring_5, i6_bring_7, i6_bring_10, i6_bring_11, i6_bring_12, i6_bring_14, i6_bring_15, i6_bring_16, i6_bring_17, i6_bring_19, i6_bring_20, i6_bring_21, i6_bring_22, i6_bring_25, i6_bring_28, nlt hk (by omega), if_true, ha, hb, nI_add, ifb_i (show i + k < m_len a by omega) (by omega), ifb_i (show j + k < m_len b by omega) (by omega), cl (show i + k ≤ 5000 by omega), cl (show j + k ≤ 5000 by omega), vn hne, vs, vu, cpy_s, nI_1]⟩)
  have k := key ()
  simp only [cpy_0, nI_0, m_up_id] at k
  simp only [i6_bring_0, i6_bring_1]
  exact k
end R2
