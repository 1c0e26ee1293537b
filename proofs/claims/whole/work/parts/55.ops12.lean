/-! THE CALLS: count -/
section DO
variable {L : Nat} {xs : Nat → Int32} {σ : Nat → Nat → Int32} {τ : Nat → Nat → Int64} {S g d m : Nat}
theorem op_count {x : Int32} : opI L xs S (fun M => pX 87 0 [.ref 0, .int x] [] M 85 S) (fun M => pX 219 0 [.ref 67, .int x] [] M 85 S) := by
  intro g d σ τ R
  have hin : (¬ x < 0 ∧ ¬ 10 < x) = inb x 11 := propext (inb_iff2 (n := 10) rfl (by decide)).symm
  by_cases hx : inb x 11
  · obtain ⟨k, hk, rfl⟩ := inb_of hx (by decide)
    obtain ⟨v, p, q⟩ := cnt (L := L) (xs := xs) (S := S) R hk
    exact op_of p (by simp only [Nat.reduceAdd, i6_count_0, i6_count_1, i6_count_2, i6_count_4, i6_count_7, i6_count_10, i6_count_11, i6_count_12, i6_count_15, i6_count_18, i6_count_19, s6_in, hin, hx, q, pK_i, bi_0, if_true, if_false, not_true_eq_false, not_false_eq_true, true_or, or_true]) R
  · have hn : ∀ k, k < 11 → ¬ x = nI k := fun k hk e => hx (by rw [e]; exact ib hk (by decide))
    have h0 : ¬ x = 0 := hn 0 (by decide)
    have h1 : ¬ x = 1 := hn 1 (by decide)
    have h2 : ¬ x = 2 := hn 2 (by decide)
    have h3 : ¬ x = 3 := hn 3 (by decide)
    have h4 : ¬ x = 4 := hn 4 (by decide)
    have h5 : ¬ x = 5 := hn 5 (by decide)
    have h6 : ¬ x = 6 := hn 6 (by decide)
    have h7 : ¬ x = 7 := hn 7 (by decide)
    have h8 : ¬ x = 8 := hn 8 (by decide)
    have h9 : ¬ x = 9 := hn 9 (by decide)
    have h10 : ¬ x = 10 := hn 10 (by decide)
    apply op_of
    · simp only [Nat.reduceAdd, i5_count_0, i5_count_1, i5_count_60, i5_count_61, i5_count_64, i5_count_67, i5_count_70, i5_count_71, i5_count_72, i5_count_75, i5_count_78, i5_count_81, i5_count_82, i5_count_83, i5_count_86, i5_count_89, i5_count_90, i5_count_91, i5_count_94, i5_count_97, i5_count_100, i5_count_101, i5_count_102, i5_count_105, i5_count_108, i5_count_111, i5_count_112, i5_count_113, i5_count_116, i5_count_119, i5_count_122, i5_count_123, i5_count_124, i5_count_127, i5_count_130, i5_count_131, i5_count_134, i5_count_135, i5_count_136, i5_count_139, i5_count_142, i5_count_143, i5_count_146, i5_count_147, i5_count_148, i5_count_151, i5_count_154, i5_count_155, i5_count_156, i5_count_159, i5_count_162, i5_count_163, i5_count_164, i5_count_167, i5_count_168, i5_count_169, h0, h1, h2, h3, h4, h5, h6, h7, h8, h9, h10, if_true, if_false, not_true_eq_false, not_false_eq_true, true_or, or_true]; rfl
    · simp only [Nat.reduceAdd, i6_count_0, i6_count_1, i6_count_2, i6_count_4, i6_count_7, i6_count_10, i6_count_11, i6_count_12, i6_count_15, i6_count_18, i6_count_19, s6_in, hin, hx, pK_i, bi_0, if_true, if_false, not_true_eq_false, not_false_eq_true, true_or, or_true]; rfl
    · exact R
end DO
