/-! THE LEAVES: what small methods answer -/
noncomputable def bi (P : Prop) : Int32 := @ite _ P (Classical.propDecidable P) 1 0
theorem bi_t {P : Prop} (h : P) : bi P = 1 := if_pos h
theorem bi_f {P : Prop} (h : ¬ P) : bi P = 0 := if_neg h
theorem bi_0 {P : Prop} : (bi P = 0) = ¬ P := by
  by_cases h : P
  · rw [bi_t h]; simp [h]
  · rw [bi_f h]; simp [h]
theorem bi_1 {P : Prop} : (bi P = 1) = P := by
  by_cases h : P
  · rw [bi_t h]; simp [h]
  · rw [bi_f h]; simp [h]
theorem bi_or {P : Prop} : bi P = 0 ∨ bi P = 1 := by
  by_cases h : P
  · exact Or.inr (bi_t h)
  · exact Or.inl (bi_f h)
theorem inb_iff {j : Int32} {n : Nat} {m : Int32} (hm : m = nI n) (hn : n < 2 ^ 31) : inb j n ↔ ¬ j < 0 ∧ j < m := by
  subst hm
  unfold inb
  rw [Int32.lt_iff_toInt_lt, Int32.lt_iff_toInt_lt, nI_toInt hn]
  have h0 : (0 : Int32).toInt = 0 := rfl
  rw [h0]
  have e : j.toNatClampNeg = j.toInt.toNat := rfl
  rw [e]
  omega
section L5
variable {M : pm_M} {N S : Nat}
theorem s5_isRow {r : Int32} : pX 112 0 [.int r] [] M N S = some (some (.int (bi (inb r 6))), M, N, S) := by
  rw [show inb r 6 = (¬ r < 0 ∧ r < 6) from propext (inb_iff rfl (by decide))]
  by_cases h1 : r < 0
  · rw [bi_f (fun h => h.1 h1)]
    simp only [i5_isRow_0, i5_isRow_1, i5_isRow_4, i5_isRow_5, i5_isRow_7, i5_isRow_10, i5_isRow_11, i5_isRow_14, i5_isRow_15, h1, if_true, true_or]
  · by_cases h2 : r < 6
    · rw [bi_t ⟨h1, h2⟩]
      simp only [i5_isRow_0, i5_isRow_1, i5_isRow_4, i5_isRow_5, i5_isRow_7, i5_isRow_10, i5_isRow_11, i5_isRow_14, i5_isRow_15, h1, h2, if_true, if_false, or_true]
    · rw [bi_f (fun h => h2 h.2)]
      simp only [i5_isRow_0, i5_isRow_1, i5_isRow_4, i5_isRow_5, i5_isRow_7, i5_isRow_10, i5_isRow_11, i5_isRow_14, i5_isRow_15, h1, h2, if_true, if_false, true_or]
end L5
