/-! TEXTS: gates read by the plain form; fault, bridge -/
section EA
variable {L : Nat} {xs : Nat → Int32} {σ e : Nat → Nat → Int32} {τ : Nat → Nat → Int64} {S g d k m p i : Nat} {w : Nat → Int32}
theorem zz10 : (10 : Int32) * 0 + 0 = 0 := by decide
theorem zshl {i : Nat} (hi : i < 6) : (0 : Int32) <<< (nI i &&& 31) = 0 := by
  have key : ∀ i, i < 6 → (0 : Int32) <<< (nI i &&& 31) = 0 := by decide
  exact key i hi
theorem rgR6 (t : rtx w k m σ) (h : RQ σ k p (-1) 6 e) (hp : p ≤ 60) : pX 155 0 [.ref 67, .null, .null] [] (mm L xs e τ) 85 S = some (none, mm L xs (s18 e (nI p)) τ, 85, S) := by
  have hh := s6_here (L := L) (xs := xs) (τ := τ) (S := S) t h (show p ≤ 200 by omega)
  obtain ⟨_, _, c, _, g6⟩ := h
  have z6 : (nI 6 : Int32) = 6 := rfl
  unfold s18
  simp only [Nat.reduceAdd, i6_readGate_0, i6_readGate_1, i6_readGate_4, i6_readGate_7, i6_readGate_8, i6_readGate_9, i6_readGate_12, i6_readGate_14, i6_readGate_17, i6_readGate_18, i6_readGate_20, i6_readGate_23, i6_readGate_24, i6_readGate_25, i6_readGate_28, i6_readGate_31, hh, s6_kindBy, pK_i, g6, z6, c, if_true, if_false, not_true_eq_false, not_false_eq_true, true_or, or_true]
/-- one gate read -/
theorem rgR1 (t : rtx w k m σ) (h : RQ σ k p (-1) i e) (hi : i < 6) (hp : p < m) : ∃ e' p' i', pX 155 0 [.ref 67, .null, .null] [] (mm L xs e τ) 85 S = some (none, mm L xs e' τ, 85, S) ∧ RQ σ k p' (if gfq w m p = -9 then -1 else gfq w m p) i' e' ∧ p' ≤ m ∧ (gfq w m p = -9 → p' = p + 5 ∧ i' = i + 1 ∧ e' 78 = upd (e 78) i (kdq w m p) ∧ e' 79 = upd (e 79) i (fgq w m (p + 1)) ∧ e' 80 = upd (upd (e 80) 7 (e 80 7 ||| (fgq w m (p + 2) <<< (nI i &&& 31)))) (i + 1) (lvf w m (p + 3))) := by
  have hm := t.2.1
  have hh := s6_here (L := L) (xs := xs) (τ := τ) (S := S) t h (show p ≤ 200 by omega)
  have g1 := h.2.2.2.2
  have c := h.2.2.1
  have z6 : ¬ nI i = 6 := fun q => by
    have := (nI_eq (a := i) (b := 6) (by omega) (by omega)).mp q
    omega
  have hS : ∀ {α : Type} {a b : α}, ifb (nI i) 6 a b = a := ifb_i hi (by decide)
  have hC := cl (show i ≤ 5000 by omega)
  by_cases h1 : kdq w m p = -9
  · have eg : gfq w m p = nI p := if_pos h1
    refine ⟨s18 e (nI p), p, i, ?_, ?_, by omega, fun x => ?_⟩
    · unfold s18
      simp only [Nat.reduceAdd, i6_readGate_0, i6_readGate_1, i6_readGate_4, i6_readGate_7, i6_readGate_8, i6_readGate_9, i6_readGate_12, i6_readGate_14, i6_readGate_17, i6_readGate_18, i6_readGate_20, i6_readGate_23, i6_readGate_24, i6_readGate_25, i6_readGate_28, i6_readGate_31, hh, s6_kindBy, kd_h, pK_i, g1, z6, c, h1, if_true, if_false, not_true_eq_false, not_false_eq_true, true_or, or_true]
    · rw [eg, if_neg (nI_9n (by omega))]; exact RQ_18 h
    · rw [eg] at x; exact absurd x (nI_9n (by omega))
  · obtain ⟨e1, he1⟩ : ∃ x, x = s17 e (p + 1) := ⟨_, rfl⟩
    have r1 : RQ σ k (p + 1) (-1) i e1 := by rw [he1]; exact RQ_17 h
    obtain ⟨e2, he2⟩ : ∃ x, x = va_up e1 78 (upd (e1 78) i (kdq w m p)) := ⟨_, rfl⟩
    have r2 : RQ σ k (p + 1) (-1) i e2 := by rw [he2]; exact RQ_a r1 (Or.inl rfl)
    have s1 : va_up e 67 (upd (e 67) 17 (nI (p + 1))) = e1 := he1.symm
    have g1' := r1.2.2.2.2
    have g2' := r2.2.2.2.2
    by_cases h2 : fgq w m (p + 1) < 1
    · have eg : gfq w m p = nI (p + 1) := by unfold gfq; rw [if_neg h1, if_pos h2]
      have fg := fig_no (L := L) (xs := xs) (τ := τ) (S := S) (a := 1) (b := 9) t r2 (show p + 1 ≤ 200 by omega) (by rw [isB]; exact fun k => k h2)
      obtain ⟨e3, he3⟩ : ∃ x, x = s18 e2 (nI (p + 1)) := ⟨_, rfl⟩
      rw [← he3] at fg
      have r3 : RQ σ k (p + 1) (nI (p + 1)) i e3 := by rw [he3]; exact RQ_18 r2
      obtain ⟨e4, he4⟩ : ∃ x, x = va_up e3 79 (upd (e3 79) i 0) := ⟨_, rfl⟩
      have r4 : RQ σ k (p + 1) (nI (p + 1)) i e4 := by rw [he4]; exact RQ_a r3 (Or.inr (Or.inl rfl))
      have f4 := fig_n (L := L) (xs := xs) (τ := τ) (S := S) (a := 0) (b := 1) t r4 (show p + 1 ≤ 200 by omega) (show p + 1 ≤ 5000 by omega)
      obtain ⟨e5, he5⟩ : ∃ x, x = va_up e4 80 (upd (e4 80) 7 (e4 80 7 ||| ((0 : Int32) <<< (nI i &&& 31)))) := ⟨_, rfl⟩
      have r5 : RQ σ k (p + 1) (nI (p + 1)) i e5 := by rw [he5]; exact RQ_a r4 (Or.inr (Or.inr rfl))
      have l5 := lv_n (L := L) (xs := xs) (τ := τ) (S := S) t r5 (show p + 1 ≤ 200 by omega) (show p + 1 ≤ 5000 by omega)
      have q5 : ¬ nI (p + 1) < 0 := nI_pos (by omega)
      refine ⟨e5, p + 1, i, ?_, ?_, by omega, fun x => ?_⟩
      · simp only [Nat.reduceAdd, i6_readGate_0, i6_readGate_1, i6_readGate_4, i6_readGate_7, i6_readGate_8, i6_readGate_9, i6_readGate_12, i6_readGate_14, i6_readGate_17, i6_readGate_18, i6_readGate_20, i6_readGate_23, i6_readGate_24, i6_readGate_25, i6_readGate_28, i6_readGate_31, i6_readGate_32, i6_readGate_33, i6_readGate_34, i6_readGate_37, i6_readGate_38, i6_readGate_39, i6_readGate_42, i6_readGate_43, i6_readGate_46, i6_readGate_47, i6_readGate_50, i6_readGate_51, i6_readGate_52, i6_readGate_53, i6_readGate_56, i6_readGate_57, i6_readGate_60, i6_readGate_61, i6_readGate_62, i6_readGate_64, i6_readGate_67, i6_readGate_68, i6_readGate_69, i6_readGate_72, i6_readGate_74, i6_readGate_75, i6_readGate_76, i6_readGate_77, i6_readGate_78, i6_readGate_79, i6_readGate_82, i6_readGate_83, i6_readGate_86, i6_readGate_87, i6_readGate_88, i6_readGate_89, i6_readGate_90, i6_readGate_93, i6_readGate_94, i6_readGate_95, i6_readGate_98, i6_readGate_101, i6_readGate_102, i6_readGate_103, i6_readGate_106, i6_readGate_107, i6_readGate_108, i6_readGate_111, i6_readGate_112, i6_readGate_115, i6_readGate_116, i6_readGate_117, i6_readGate_120, i6_readGate_121, i6_readGate_122, i6_readGate_123, hh, s6_kindBy, kd_h, pK_i, g1, z6, c, h1, nI_1, s1, k_78, l_78, k_79, l_79, k_80, l_80, i7, z7, hS, hC, g1', ← he2, g2', fg, ← he3, r3.2.2.2.2, ← he4, r4.2.2.2.2, f4, ← he5, l5, r5.2.2.2.1, q5, if_true, if_false, not_true_eq_false, not_false_eq_true, true_or, or_true]
      · rw [eg, if_neg (nI_9n (by omega))]; exact r5
      · rw [eg] at x; exact absurd x (nI_9n (by omega))
    · have n9 : ¬ fgq w m (p + 1) = -9 := fun q => h2 (by rw [q]; decide)
      have b1 := fgq_p n9
      have fg := fig_ok (L := L) (xs := xs) (τ := τ) (S := S) (a := 1) (b := 9) t r2 (show p + 1 ≤ 200 by omega) (by rw [isB]; exact h2)
      rw [vA n9] at fg
      obtain ⟨e3, he3⟩ : ∃ x, x = s17 e2 (p + 1 + 1) := ⟨_, rfl⟩
      rw [← he3] at fg
      have r3 : RQ σ k (p + 1 + 1) (-1) i e3 := by rw [he3]; exact RQ_17 r2
      obtain ⟨e4, he4⟩ : ∃ x, x = va_up e3 79 (upd (e3 79) i (fgq w m (p + 1))) := ⟨_, rfl⟩
      have r4 : RQ σ k (p + 1 + 1) (-1) i e4 := by rw [he4]; exact RQ_a r3 (Or.inr (Or.inl rfl))
      by_cases h3 : fgq w m (p + 2) = 0 ∨ fgq w m (p + 2) = 1
      · have n92 : ¬ fgq w m (p + 2) = -9 := fun q => by
          rw [q] at h3
          rcases h3 with h3 | h3 <;> exact absurd h3 (by decide)
        have b2 := fgq_p n92
        have f4 := fig_ok (L := L) (xs := xs) (τ := τ) (S := S) (a := 0) (b := 1) t r4 (show p + 1 + 1 ≤ 200 by omega) (by rw [isC]; exact h3)
        rw [show p + 1 + 1 = p + 2 from rfl, vA n92] at f4
        obtain ⟨e5, he5⟩ : ∃ x, x = s17 e4 (p + 2 + 1) := ⟨_, rfl⟩
        rw [← he5] at f4
        have r5 : RQ σ k (p + 2 + 1) (-1) i e5 := by rw [he5]; exact RQ_17 r4
        have e80 : e5 80 = e4 80 := by rw [he5]; exact s17_n (by decide)
        obtain ⟨e6, he6⟩ : ∃ x, x = va_up e5 80 (upd (e5 80) 7 (e4 80 7 ||| (fgq w m (p + 2) <<< (nI i &&& 31)))) := ⟨_, rfl⟩
        have r6 : RQ σ k (p + 2 + 1) (-1) i e6 := by rw [he6]; exact RQ_a r5 (Or.inr (Or.inr rfl))
        obtain ⟨v, e7, p7, t7, r7, b7, c7, l7⟩ := lvR (L := L) (xs := xs) (τ := τ) (S := S) t r6 (show p + 2 + 1 ≤ m by omega)
        have eg : gfq w m p = lfq w m (p + 3) := by unfold gfq; rw [if_neg h1, if_neg h2, if_pos h3]
        rw [eg]
        by_cases h4 : lfq w m (p + 3) = -9
        · have h4' : lfq w m (p + 2 + 1) = -9 := h4
          obtain ⟨ev, ep⟩ := l7 h4'
          rw [if_pos h4'] at r7
          obtain ⟨e8, he8⟩ : ∃ x, x = va_up e7 67 (upd (e7 67) 19 (nI (i + 1))) := ⟨_, rfl⟩
          have q8 : (-1 : Int32) < 0 := by decide
          have s8 : RQ σ k p7 (-1) (i + 1) e8 := by
            obtain ⟨a, b, c', d', e'⟩ := r7
            rw [he8]
            refine ⟨RT_67 a (by decide) (by decide), ?_, ?_, ?_, ?_⟩
            · rw [vs, un (by decide)]; exact b
            · rw [vs, un (by decide)]; exact c'
            · rw [vs, un (by decide)]; exact d'
            · rw [vs, us]
          obtain ⟨e9, he9⟩ : ∃ x, x = va_up e8 80 (upd (e8 80) (i + 1) v) := ⟨_, rfl⟩
          have r9 : RQ σ k p7 (-1) (i + 1) e9 := by rw [he9]; exact RQ_a s8 (Or.inr (Or.inr rfl))
          refine ⟨e9, p7, i + 1, ?_, ?_, b7, fun _ => ⟨?_, rfl, ?_, ?_, ?_⟩⟩
          · simp only [Nat.reduceAdd, i6_readGate_0, i6_readGate_1, i6_readGate_4, i6_readGate_7, i6_readGate_8, i6_readGate_9, i6_readGate_12, i6_readGate_14, i6_readGate_17, i6_readGate_18, i6_readGate_20, i6_readGate_23, i6_readGate_24, i6_readGate_25, i6_readGate_28, i6_readGate_31, i6_readGate_32, i6_readGate_33, i6_readGate_34, i6_readGate_37, i6_readGate_38, i6_readGate_39, i6_readGate_42, i6_readGate_43, i6_readGate_46, i6_readGate_47, i6_readGate_50, i6_readGate_51, i6_readGate_52, i6_readGate_53, i6_readGate_56, i6_readGate_57, i6_readGate_60, i6_readGate_61, i6_readGate_62, i6_readGate_64, i6_readGate_67, i6_readGate_68, i6_readGate_69, i6_readGate_72, i6_readGate_74, i6_readGate_75, i6_readGate_76, i6_readGate_77, i6_readGate_78, i6_readGate_79, i6_readGate_82, i6_readGate_83, i6_readGate_86, i6_readGate_87, i6_readGate_88, i6_readGate_89, i6_readGate_90, i6_readGate_93, i6_readGate_94, i6_readGate_95, i6_readGate_98, i6_readGate_101, i6_readGate_102, i6_readGate_103, i6_readGate_106, i6_readGate_107, i6_readGate_108, i6_readGate_111, i6_readGate_112, i6_readGate_115, i6_readGate_116, i6_readGate_117, i6_readGate_120, i6_readGate_121, i6_readGate_122, i6_readGate_123, hh, s6_kindBy, kd_h, pK_i, g1, z6, c, h1, nI_1, s1, k_78, l_78, k_79, l_79, k_80, l_80, i7, z7, hS, hC, g1', ← he2, g2', fg, ← he3, r3.2.2.2.2, ← he4, r4.2.2.2.2, f4, r5.2.2.2.2, ← he6, t7, r7.2.2.2.1, q8, r7.2.2.2.2, ← he8, s8.2.2.2.2, Int32.zero_add, ifb_i (show i + 1 < 9 by omega) (by decide), cl (show i + 1 ≤ 5000 by omega), ← he9, if_true, if_false, not_true_eq_false, not_false_eq_true, true_or, or_true]
          · rw [if_pos h4]; exact r9
          · omega
          · rw [he9, vn (by decide), he8, vn (by decide), c7 78 (by decide), he6, vn (by decide), he5, s17_n (by decide), he4, vn (by decide), he3, s17_n (by decide), he2, vs, he1, s17_n (by decide)]
          · rw [he9, vn (by decide), he8, vn (by decide), c7 79 (by decide), he6, vn (by decide), he5, s17_n (by decide), he4, vs, he3, s17_n (by decide), he2, vn (by decide), he1, s17_n (by decide)]
          · have z80 : e4 80 = e 80 := by rw [he4, vn (by decide), he3, s17_n (by decide), he2, vn (by decide), he1, s17_n (by decide)]
            rw [he9, vs, he8, vn (by decide), c7 80 (by decide), he6, vs, e80, z80, ev]
        · have h4' : ¬ lfq w m (p + 2 + 1) = -9 := h4
          rw [if_neg h4'] at r7
          have q7 : ¬ lfq w m (p + 2 + 1) < 0 := by
            unfold lfq at h4' ⊢
            split
            · exact nI_pos (by omega)
            · rename_i u1
              rw [if_neg u1] at h4'
              split
              · exact nI_pos (by omega)
              · rename_i u2
                rw [if_neg u2] at h4'
                split
                · exact nI_pos (by omega)
                · rename_i u3
                  rw [if_neg u3] at h4'
                  exact absurd rfl h4'
          refine ⟨e7, p7, i, ?_, ?_, b7, fun x => absurd x h4⟩
          · simp only [Nat.reduceAdd, i6_readGate_0, i6_readGate_1, i6_readGate_4, i6_readGate_7, i6_readGate_8, i6_readGate_9, i6_readGate_12, i6_readGate_14, i6_readGate_17, i6_readGate_18, i6_readGate_20, i6_readGate_23, i6_readGate_24, i6_readGate_25, i6_readGate_28, i6_readGate_31, i6_readGate_32, i6_readGate_33, i6_readGate_34, i6_readGate_37, i6_readGate_38, i6_readGate_39, i6_readGate_42, i6_readGate_43, i6_readGate_46, i6_readGate_47, i6_readGate_50, i6_readGate_51, i6_readGate_52, i6_readGate_53, i6_readGate_56, i6_readGate_57, i6_readGate_60, i6_readGate_61, i6_readGate_62, i6_readGate_64, i6_readGate_67, i6_readGate_68, i6_readGate_69, i6_readGate_72, i6_readGate_74, i6_readGate_75, i6_readGate_76, i6_readGate_77, i6_readGate_78, i6_readGate_79, i6_readGate_82, i6_readGate_83, i6_readGate_86, i6_readGate_87, i6_readGate_88, i6_readGate_89, i6_readGate_90, i6_readGate_93, i6_readGate_94, i6_readGate_95, i6_readGate_98, i6_readGate_101, i6_readGate_102, i6_readGate_103, i6_readGate_106, i6_readGate_107, i6_readGate_108, i6_readGate_111, i6_readGate_112, i6_readGate_115, i6_readGate_116, i6_readGate_117, i6_readGate_120, i6_readGate_121, i6_readGate_122, i6_readGate_123, hh, s6_kindBy, kd_h, pK_i, g1, z6, c, h1, nI_1, s1, k_78, l_78, k_79, l_79, k_80, l_80, i7, z7, hS, hC, g1', ← he2, g2', fg, ← he3, r3.2.2.2.2, ← he4, r4.2.2.2.2, f4, r5.2.2.2.2, ← he6, t7, r7.2.2.2.1, q7, if_true, if_false, not_true_eq_false, not_false_eq_true, true_or, or_true]
          · rw [if_neg h4]; exact r7
      · have eg : gfq w m p = nI (p + 2) := by unfold gfq; rw [if_neg h1, if_neg h2, if_neg h3]
        have f4 := fig_no (L := L) (xs := xs) (τ := τ) (S := S) (a := 0) (b := 1) t r4 (show p + 1 + 1 ≤ 200 by omega) (by rw [isC]; exact h3)
        obtain ⟨e5, he5⟩ : ∃ x, x = s18 e4 (nI (p + 2)) := ⟨_, rfl⟩
        have f4' : pX 153 0 [.ref 67, .int 0, .int 1, .null, .null] [] (mm L xs e4 τ) 85 S = some (some (.int 0), mm L xs e5 τ, 85, S) := by rw [he5]; exact f4
        have r5 : RQ σ k (p + 1 + 1) (nI (p + 2)) i e5 := by rw [he5]; exact RQ_18 r4
        obtain ⟨e6, he6⟩ : ∃ x, x = va_up e5 80 (upd (e5 80) 7 (e4 80 7 ||| ((0 : Int32) <<< (nI i &&& 31)))) := ⟨_, rfl⟩
        have r6 : RQ σ k (p + 1 + 1) (nI (p + 2)) i e6 := by rw [he6]; exact RQ_a r5 (Or.inr (Or.inr rfl))
        have l6 := lv_n (L := L) (xs := xs) (τ := τ) (S := S) t r6 (show p + 1 + 1 ≤ 200 by omega) (show p + 2 ≤ 5000 by omega)
        have q6 : ¬ nI (p + 2) < 0 := nI_pos (by omega)
        refine ⟨e6, p + 1 + 1, i, ?_, ?_, by omega, fun x => ?_⟩
        · simp only [Nat.reduceAdd, i6_readGate_0, i6_readGate_1, i6_readGate_4, i6_readGate_7, i6_readGate_8, i6_readGate_9, i6_readGate_12, i6_readGate_14, i6_readGate_17, i6_readGate_18, i6_readGate_20, i6_readGate_23, i6_readGate_24, i6_readGate_25, i6_readGate_28, i6_readGate_31, i6_readGate_32, i6_readGate_33, i6_readGate_34, i6_readGate_37, i6_readGate_38, i6_readGate_39, i6_readGate_42, i6_readGate_43, i6_readGate_46, i6_readGate_47, i6_readGate_50, i6_readGate_51, i6_readGate_52, i6_readGate_53, i6_readGate_56, i6_readGate_57, i6_readGate_60, i6_readGate_61, i6_readGate_62, i6_readGate_64, i6_readGate_67, i6_readGate_68, i6_readGate_69, i6_readGate_72, i6_readGate_74, i6_readGate_75, i6_readGate_76, i6_readGate_77, i6_readGate_78, i6_readGate_79, i6_readGate_82, i6_readGate_83, i6_readGate_86, i6_readGate_87, i6_readGate_88, i6_readGate_89, i6_readGate_90, i6_readGate_93, i6_readGate_94, i6_readGate_95, i6_readGate_98, i6_readGate_101, i6_readGate_102, i6_readGate_103, i6_readGate_106, i6_readGate_107, i6_readGate_108, i6_readGate_111, i6_readGate_112, i6_readGate_115, i6_readGate_116, i6_readGate_117, i6_readGate_120, i6_readGate_121, i6_readGate_122, i6_readGate_123, hh, s6_kindBy, kd_h, pK_i, g1, z6, c, h1, nI_1, s1, k_78, l_78, k_79, l_79, k_80, l_80, i7, z7, hS, hC, g1', ← he2, g2', fg, ← he3, r3.2.2.2.2, ← he4, r4.2.2.2.2, f4', r5.2.2.2.2, ← he6, l6, r6.2.2.2.1, q6, if_true, if_false, not_true_eq_false, not_false_eq_true, true_or, or_true]
        · rw [eg, if_neg (nI_9n (by omega))]; exact r6
        · rw [eg] at x; exact absurd x (nI_9n (by omega))
theorem lfq_0 {p : Nat} (hp : p ≤ 100) (h : ¬ lfq w m p = -9) : ∃ x, x ≤ 200 ∧ lfq w m p = nI x := by
  unfold lfq at h ⊢
  split
  · exact ⟨p, by omega, rfl⟩
  · rename_i u1
    rw [if_neg u1] at h
    split
    · exact ⟨p + 1, by omega, rfl⟩
    · rename_i u2
      rw [if_neg u2] at h
      split
      · exact ⟨p, by omega, rfl⟩
      · rename_i u3
        rw [if_neg u3] at h
        exact absurd rfl h
theorem gfq_0 {p : Nat} (hp : p ≤ 60) (h : ¬ gfq w m p = -9) : ∃ x, x ≤ 200 ∧ gfq w m p = nI x := by
  unfold gfq at h ⊢
  split
  · exact ⟨p, by omega, rfl⟩
  · rename_i u1
    rw [if_neg u1] at h
    split
    · exact ⟨p + 1, by omega, rfl⟩
    · rename_i u2
      rw [if_neg u2] at h
      split
      · rename_i u3
        rw [if_pos u3] at h
        exact lfq_0 (by omega) h
      · exact ⟨p + 2, by omega, rfl⟩
def SR (w : Nat → Int32) (m q0 : Nat) (l0 : Int32) (i : Nat) (e : Nat → Nat → Int32) : Prop := e 67 19 = nI i ∧ e 80 7 = orq w m q0 i ∧ e 80 8 = 0 ∧ e 80 0 = l0 ∧ ∀ j, j < i → e 78 j = kdq w m (psq w m q0 j) ∧ e 79 j = fgq w m (psq w m q0 j + 1) ∧ e 80 (j + 1) = lvf w m (psq w m q0 j + 3)
/-- the end of reading: wrong, or not -/
theorem rd_w {x : Nat} {d2 : Value} (hx : x ≤ 5000) (h : e 67 18 = nI x) : pX 156 83 [.ref 67, .int (nI k), d2] [] (mm L xs e τ) 85 S = some (some (.int (nI x)), mm L xs e τ, 85, S) := by
  have q : ¬ nI x < 0 := nI_pos (by omega)
  rw [i6_readBridge_83]
  simp only [Nat.reduceAdd, i6_readBridge_84, i6_readBridge_87, i6_readBridge_90, i6_readBridge_91, i6_readBridge_94, i6_readBridge_95, i6_readBridge_98, i6_readBridge_99, i6_readBridge_100, i6_readBridge_103, i6_readBridge_104, i6_readBridge_107, i6_readBridge_108, i6_readBridge_111, i6_readBridge_114, i6_readBridge_115, i6_readBridge_118, i6_readBridge_121, i6_readBridge_122, i6_readBridge_125, i6_readBridge_128, i6_readBridge_129, i6_readBridge_132, i6_readBridge_135, i6_readBridge_136, i6_readBridge_139, i6_readBridge_142, i6_readBridge_143, i6_readBridge_146, i6_readBridge_149, i6_readBridge_151, h, q, if_true, if_false, not_true_eq_false, not_false_eq_true, true_or, or_true]
theorem rgR {q0 : Nat} {l0 : Int32} {d2 : Value} (t : rtx w k m σ) : ∀ n i e, n + i = 6 → psq w m q0 i ≤ m → RQ σ k (psq w m q0 i) (-1) i e → SR w m q0 l0 i e → ∃ σ', pX 156 83 [.ref 67, .int (nI k), d2] [] (mm L xs e τ) 85 S = some (some (.int (rvq w m q0 n i)), mm L xs σ' τ, 85, S) ∧ RT σ σ' ∧ (rvq w m q0 n i = -9 → SR w m q0 l0 (gcq w m q0 n i) σ') := by
  have hm := t.2.1
  have q : (-1 : Int32) < 0 := by decide
  have hk := t.1
  intro n
  induction n with
  | zero =>
    intro i e hn hps hQ hA
    have hi : i = 6 := by omega
    subst hi
    have e70 : e 70 = σ 70 := hQ.1.1 70 (by decide) (by decide) (by decide) (by decide)
    have ev : rvq w m q0 0 6 = if psq w m q0 6 < m then nI (psq w m q0 6) else -9 := by
      show (if psq w m q0 6 < m then nI (psq w m q0 6) else if 6 = 0 then nI (psq w m q0 6) else -9) = _
      rw [if_neg (show ¬ 6 = 0 by decide)]
    rw [ev]
    by_cases hp : psq w m q0 6 < m
    · rw [if_pos hp]
      have r6 := rgR6 (L := L) (xs := xs) (τ := τ) (S := S) t hQ (show psq w m q0 6 ≤ 60 by omega)
      have r7 := RQ_18 (x := nI (psq w m q0 6)) hQ
      have q7 : ¬ nI (psq w m q0 6) < 0 := nI_pos (by omega)
      have rw_ := rd_w (L := L) (xs := xs) (τ := τ) (S := S) (k := k) (d2 := d2) (show psq w m q0 6 ≤ 5000 by omega) r7.2.2.2.1
      refine ⟨s18 e (nI (psq w m q0 6)), ?_, r7.1, fun x => absurd x (nI_9n (by omega))⟩
      rw [← rw_, i6_readBridge_83]
      simp only [Nat.reduceAdd, i6_readBridge_84, i6_readBridge_87, i6_readBridge_90, i6_readBridge_91, i6_readBridge_94, i6_readBridge_95, i6_readBridge_98, i6_readBridge_99, i6_readBridge_100, i6_readBridge_103, i6_readBridge_104, i6_readBridge_107, i6_readBridge_108, i6_readBridge_111, i6_readBridge_114, i6_readBridge_115, i6_readBridge_118, hQ.2.2.2.1, hQ.2.2.1, q, e70, t.2.2.1, k_70, l_70, ifb_i (show k < 4 by omega) (by decide), cl (show k ≤ 5000 by omega), nlt hp (by omega), r6, r7.2.2.2.1, q7, pK_v, if_true, if_false, not_true_eq_false, not_false_eq_true, true_or, or_true]
    · rw [if_neg hp]
      have z : ¬ nI 6 = 0 := by decide
      refine ⟨e, ?_, hQ.1, fun _ => hA⟩
      rw [i6_readBridge_83]
      simp only [Nat.reduceAdd, i6_readBridge_84, i6_readBridge_87, i6_readBridge_90, i6_readBridge_91, i6_readBridge_94, i6_readBridge_95, i6_readBridge_98, i6_readBridge_99, i6_readBridge_100, i6_readBridge_103, i6_readBridge_104, i6_readBridge_107, i6_readBridge_108, i6_readBridge_111, i6_readBridge_114, i6_readBridge_115, i6_readBridge_118, i6_readBridge_121, i6_readBridge_122, i6_readBridge_125, i6_readBridge_128, i6_readBridge_129, i6_readBridge_132, i6_readBridge_135, i6_readBridge_136, i6_readBridge_139, i6_readBridge_142, i6_readBridge_143, i6_readBridge_146, i6_readBridge_149, i6_readBridge_151, hQ.2.2.2.1, hQ.2.2.1, q, e70, t.2.2.1, k_70, l_70, ifb_i (show k < 4 by omega) (by decide), cl (show k ≤ 5000 by omega), nnl (show m ≤ psq w m q0 6 by omega) (by omega), hQ.2.2.2.2, z, if_true, if_false, not_true_eq_false, not_false_eq_true, true_or, or_true]
  | succ n ih =>
    intro i e hn hps hQ hA
    have e70 : e 70 = σ 70 := hQ.1.1 70 (by decide) (by decide) (by decide) (by decide)
    by_cases hp : psq w m q0 i < m
    · obtain ⟨e1, p1, i1, t1, r1, b1, c1⟩ := rgR1 (L := L) (xs := xs) (τ := τ) (S := S) t hQ (by omega) hp
      by_cases hf : gfq w m (psq w m q0 i) = -9
      · have e1' : rvq w m q0 (n + 1) i = rvq w m q0 n (i + 1) := by
          show (if _ then (if _ then _ else _) else _) = _
          rw [if_pos hp, if_pos hf]
        have e2 : gcq w m q0 (n + 1) i = gcq w m q0 n (i + 1) := if_pos hp
        obtain ⟨rfl, rfl, c78, c79, c80⟩ := c1 hf
        rw [if_pos hf] at r1
        have sk := s6_skips (L := L) (xs := xs) (τ := τ) (S := S) t r1 b1
        have r2 := RQ_17 (p' := bbq w m (psq w m q0 i + 5)) r1
        have A' : SR w m q0 l0 (i + 1) (s17 e1 (bbq w m (psq w m q0 i + 5))) := by
          obtain ⟨a1, a2, a3, a4, a5⟩ := hA
          unfold SR
          rw [s17_n (show 78 ≠ 67 by decide), s17_n (show 79 ≠ 67 by decide), s17_n (show 80 ≠ 67 by decide), c78, c79, c80]
          refine ⟨r2.2.2.2.2, ?_, ?_, ?_, fun j hj => ?_⟩
          · rw [un (by omega), us, a2]; rfl
          · rw [un (by omega), un (by decide), a3]
          · rw [un (by omega), un (by decide), a4]
          · by_cases ej : j = i
            · subst ej; rw [us, us, us]; exact ⟨rfl, rfl, rfl⟩
            · rw [un ej, un ej, un (by omega), un (by omega)]; exact a5 j (by omega)
        obtain ⟨σ', s1, s2, s3⟩ := ih (i + 1) (s17 e1 (bbq w m (psq w m q0 i + 5))) (by omega) (ps_le hm hf (by omega)) r2 A'
        refine ⟨σ', ?_, s2, by rw [e1', e2]; exact s3⟩
        rw [e1', ← s1, i6_readBridge_83]
        simp only [Nat.reduceAdd, i6_readBridge_84, i6_readBridge_87, i6_readBridge_90, i6_readBridge_91, i6_readBridge_94, i6_readBridge_95, i6_readBridge_98, i6_readBridge_99, i6_readBridge_100, i6_readBridge_103, i6_readBridge_104, i6_readBridge_107, i6_readBridge_108, i6_readBridge_111, i6_readBridge_114, i6_readBridge_115, i6_readBridge_118, hQ.2.2.2.1, hQ.2.2.1, q, e70, t.2.2.1, k_70, l_70, ifb_i (show k < 4 by omega) (by decide), cl (show k ≤ 5000 by omega), nlt hp (by omega), t1, r1.2.2.2.1, sk, pK_v, if_true, if_false, not_true_eq_false, not_false_eq_true, true_or, or_true]
      · have e1' : rvq w m q0 (n + 1) i = gfq w m (psq w m q0 i) := by
          show (if _ then (if _ then _ else _) else _) = _
          rw [if_pos hp, if_neg hf]
        obtain ⟨x, hx, ex⟩ := gfq_0 (show psq w m q0 i ≤ 60 by omega) hf
        rw [if_neg hf, ex] at r1
        have q7 : ¬ nI x < 0 := nI_pos (by omega)
        have rw_ := rd_w (L := L) (xs := xs) (τ := τ) (S := S) (k := k) (d2 := d2) (show x ≤ 5000 by omega) r1.2.2.2.1
        refine ⟨e1, ?_, r1.1, fun y => absurd (e1'.symm.trans y) hf⟩
        rw [e1', ex, ← rw_, i6_readBridge_83]
        simp only [Nat.reduceAdd, i6_readBridge_84, i6_readBridge_87, i6_readBridge_90, i6_readBridge_91, i6_readBridge_94, i6_readBridge_95, i6_readBridge_98, i6_readBridge_99, i6_readBridge_100, i6_readBridge_103, i6_readBridge_104, i6_readBridge_107, i6_readBridge_108, i6_readBridge_111, i6_readBridge_114, i6_readBridge_115, i6_readBridge_118, hQ.2.2.2.1, hQ.2.2.1, q, e70, t.2.2.1, k_70, l_70, ifb_i (show k < 4 by omega) (by decide), cl (show k ≤ 5000 by omega), nlt hp (by omega), t1, r1.2.2.2.1, q7, pK_v, if_true, if_false, not_true_eq_false, not_false_eq_true, true_or, or_true]
    · have e1' : rvq w m q0 (n + 1) i = if i = 0 then nI (psq w m q0 i) else -9 := by
        show (if _ then (if _ then _ else _) else _) = _
        rw [if_neg hp]
      have e2 : gcq w m q0 (n + 1) i = i := if_neg hp
      refine ⟨e, ?_, hQ.1, fun _ => by rw [e2]; exact hA⟩
      rw [e1', i6_readBridge_83]
      by_cases h0 : i = 0
      · subst h0
        rw [if_pos rfl]
        have h3 : e 67 19 = 0 := hQ.2.2.2.2
        simp only [Nat.reduceAdd, i6_readBridge_84, i6_readBridge_87, i6_readBridge_90, i6_readBridge_91, i6_readBridge_94, i6_readBridge_95, i6_readBridge_98, i6_readBridge_99, i6_readBridge_100, i6_readBridge_103, i6_readBridge_104, i6_readBridge_107, i6_readBridge_108, i6_readBridge_111, i6_readBridge_114, i6_readBridge_115, i6_readBridge_118, i6_readBridge_121, i6_readBridge_122, i6_readBridge_125, i6_readBridge_128, i6_readBridge_129, i6_readBridge_132, i6_readBridge_135, i6_readBridge_136, i6_readBridge_139, i6_readBridge_142, i6_readBridge_143, i6_readBridge_146, i6_readBridge_149, i6_readBridge_151, hQ.2.2.2.1, hQ.2.2.1, q, e70, t.2.2.1, k_70, l_70, ifb_i (show k < 4 by omega) (by decide), cl (show k ≤ 5000 by omega), nnl (show m ≤ psq w m q0 0 by omega) (by omega), h3, if_true, if_false, not_true_eq_false, not_false_eq_true, true_or, or_true]
      · rw [if_neg h0]
        simp only [Nat.reduceAdd, i6_readBridge_84, i6_readBridge_87, i6_readBridge_90, i6_readBridge_91, i6_readBridge_94, i6_readBridge_95, i6_readBridge_98, i6_readBridge_99, i6_readBridge_100, i6_readBridge_103, i6_readBridge_104, i6_readBridge_107, i6_readBridge_108, i6_readBridge_111, i6_readBridge_114, i6_readBridge_115, i6_readBridge_118, i6_readBridge_121, i6_readBridge_122, i6_readBridge_125, i6_readBridge_128, i6_readBridge_129, i6_readBridge_132, i6_readBridge_135, i6_readBridge_136, i6_readBridge_139, i6_readBridge_142, i6_readBridge_143, i6_readBridge_146, i6_readBridge_149, i6_readBridge_151, hQ.2.2.2.1, hQ.2.2.1, q, e70, t.2.2.1, k_70, l_70, ifb_i (show k < 4 by omega) (by decide), cl (show k ≤ 5000 by omega), nnl (show m ≤ psq w m q0 i by omega) (by omega), hQ.2.2.2.2, nI_ne0 (show 0 < i by omega) (show i < 2 ^ 31 by omega), if_true, if_false, not_true_eq_false, not_false_eq_true, true_or, or_true]
theorem s6_readBridge (t : rtx w k m σ) : ∃ σ', pX 156 0 [.ref 67, .int (nI k), .null] [] (mm L xs σ τ) 85 S = some (some (.int (rdq w m)), mm L xs σ' τ, 85, S) ∧ RT σ σ' ∧ (rdq w m = -9 → SR w m (bbq w m (bbq w m 0 + 3)) (lvf w m (bbq w m 0 + 1)) (gcq w m (bbq w m (bbq w m 0 + 3)) 6 0) σ') := by
  have hm := t.2.1
  obtain ⟨e0, he0⟩ : ∃ x, x = va_up σ 67 (upd (upd (upd (upd (σ 67) 16 (nI k)) 17 0) 18 (-1)) 19 0) := ⟨_, rfl⟩
  obtain ⟨e1, he1⟩ : ∃ x, x = va_up e0 80 (fil (e0 80) 0 9) := ⟨_, rfl⟩
  have r0 : RQ σ k 0 (-1) 0 e0 := by
    rw [he0]
    refine ⟨⟨fun c h1 _ _ _ => by rw [vn h1], fun i hi => by rw [vs, un (by omega), un (by omega), un (by omega), un (by omega)]⟩, ?_, ?_, ?_, ?_⟩
    · rw [vs, un (by decide), un (by decide), un (by decide), us]
    · rw [vs, un (by decide), un (by decide), us]; rfl
    · rw [vs, un (by decide), us]
    · rw [vs, us]; rfl
  have r1 : RQ σ k 0 (-1) 0 e1 := by rw [he1]; exact RQ_a r0 (Or.inr (Or.inr rfl))
  have key := lp (δ := Unit) 9 (fun j _ => pX 156 22 [.ref 67, .int (nI k), .int (nI j)] [] (mm L xs (va_up e0 80 (fil (e0 80) 0 j)) τ) 85 S) (pX 156 41 [.ref 67, .int (nI k), .int (nI 9)] [] (mm L xs e1 τ) 85 S) (fun _ => by
    rw [show nI 9 = 9 from rfl, ← he1]
    simp only [Nat.reduceAdd, i6_readBridge_22, i6_readBridge_23, i6_readBridge_25, Int32.lt_irrefl, if_false]) (fun j hj _ => ⟨(), by
    have a : (nI j < 9) = True := nlt (b := 9) hj (by decide)
    rw [i6_readBridge_22]
    simp only [Nat.reduceAdd, i6_readBridge_23, i6_readBridge_25, i6_readBridge_28, i6_readBridge_29, i6_readBridge_32, i6_readBridge_33, i6_readBridge_34, i6_readBridge_35, i6_readBridge_38, k_80, l_80, a, if_true, Int32.zero_add, ifb_i hj (by decide), cl (show j ≤ 5000 by omega), vs, vu, fil_s, nI_1]⟩)
  have k0 := key ()
  rw [fil_0, m_up_id, nI_0] at k0
  have sk := s6_skips (L := L) (xs := xs) (τ := τ) (S := S) t r1 (Nat.zero_le m)
  have b0 := (bbf_le (w := w) (m := m) 61 0).2 (Nat.zero_le _)
  have eb : bbf w m 61 0 = bbq w m 0 := rfl
  rw [eb] at b0
  unfold rdq
  generalize bbq w m 0 = p at b0 sk ⊢
  have r2 := RQ_17 (p' := p) r1
  have hh := s6_here (L := L) (xs := xs) (τ := τ) (S := S) t r2 (show p ≤ 200 by omega)
  have pre : pX 156 0 [.ref 67, .int (nI k), .null] [] (mm L xs σ τ) 85 S = pX 156 41 [.ref 67, .int (nI k), .int (nI 9)] [] (mm L xs e1 τ) 85 S := by
    rw [← k0]
    simp only [Nat.reduceAdd, i6_readBridge_0, i6_readBridge_1, i6_readBridge_2, i6_readBridge_5, i6_readBridge_6, i6_readBridge_7, i6_readBridge_10, i6_readBridge_11, i6_readBridge_12, i6_readBridge_15, i6_readBridge_16, i6_readBridge_17, i6_readBridge_20, i6_readBridge_21, vs, vu, ← he0]
  have ec : (cbq w m p = 104) = (hrq w m p = 104) := by
    unfold cbq hrq
    split
    · rfl
    · exact propext ⟨fun q => absurd q (by decide), fun q => absurd q (by decide)⟩
  rw [pre]
  by_cases h1 : hrq w m p = 104
  · have h1c : cbq w m p = 104 := ec.mpr h1
    rw [if_pos h1c]
    have hpm : p < m := by
      apply Classical.byContradiction
      intro q
      have : hrq w m p = -1000 := if_neg q
      rw [this] at h1
      exact absurd h1 (by decide)
    have r3 := RQ_17 (p' := p + 1) r2
    have s3 : va_up (s17 e1 p) 67 (upd (s17 e1 p 67) 17 (nI (p + 1))) = s17 (s17 e1 p) (p + 1) := rfl
    obtain ⟨v, e4, p4, t4, r4, b4, c4, l4⟩ := lvR (L := L) (xs := xs) (τ := τ) (S := S) t r3 (show p + 1 ≤ m by omega)
    obtain ⟨e5, he5⟩ : ∃ x, x = va_up e4 80 (upd (e4 80) 0 v) := ⟨_, rfl⟩
    have r5 : RQ σ k p4 (if lfq w m (p + 1) = -9 then -1 else lfq w m (p + 1)) 0 e5 := by rw [he5]; exact RQ_a r4 (Or.inr (Or.inr rfl))
    have sk2 := s6_skips (L := L) (xs := xs) (τ := τ) (S := S) t r5 b4
    have r6 := RQ_17 (p' := bbq w m p4) r5
    have pre2 : pX 156 41 [.ref 67, .int (nI k), .int (nI 9)] [] (mm L xs e1 τ) 85 S = pX 156 83 [.ref 67, .int (nI k), .int (nI 9)] [] (mm L xs (s17 e5 (bbq w m p4)) τ) 85 S := by
      simp only [Nat.reduceAdd, i6_readBridge_41, i6_readBridge_42, i6_readBridge_45, i6_readBridge_46, i6_readBridge_49, i6_readBridge_51, i6_readBridge_54, i6_readBridge_55, i6_readBridge_58, i6_readBridge_59, i6_readBridge_60, i6_readBridge_61, i6_readBridge_64, i6_readBridge_65, i6_readBridge_66, i6_readBridge_69, i6_readBridge_70, i6_readBridge_73, i6_readBridge_74, i6_readBridge_75, i6_readBridge_78, i6_readBridge_79, i6_readBridge_80, sk, hh, h1, r2.2.2.1, nI_1, s3, t4, k_80, l_80, i09, z0, ← he5, sk2, pK_i, pK_v, if_true, if_false, not_true_eq_false, not_false_eq_true, true_or, or_true]
    rw [pre2]
    by_cases h2 : lfq w m (p + 1) = -9
    · rw [if_pos h2]
      rw [if_pos h2] at r6
      obtain ⟨ev, ep⟩ := l4 h2
      have ep' : p4 = p + 3 := by omega
      subst ep'
      have bm := (bbf_le (w := w) (m := m) 61 (p + 3)).2 b4
      have z80 : e4 80 = fil (e0 80) 0 9 := by rw [c4 80 (by decide), s17_n (by decide), s17_n (by decide), he1, vs]
      refine rgR (L := L) (xs := xs) (τ := τ) (S := S) (q0 := bbq w m (p + 3)) t 6 0 _ (by decide) bm r6 ⟨r6.2.2.2.2, ?_, ?_, ?_, fun j hj => absurd hj (by omega)⟩
      · rw [s17_n (by decide), he5, vs, un (by decide), z80]; rfl
      · rw [s17_n (by decide), he5, vs, un (by decide), z80]; rfl
      · rw [s17_n (by decide), he5, vs, us]; exact ev
    · rw [if_neg h2]
      rw [if_neg h2] at r6
      obtain ⟨x, hx, ex⟩ := lfq_0 (show p + 1 ≤ 100 by omega) h2
      rw [ex] at r6 ⊢
      exact ⟨_, rd_w (by omega) r6.2.2.2.1, r6.1, fun y => absurd y (nI_9n (by omega))⟩
  · have h1c : ¬ cbq w m p = 104 := fun q => h1 (ec.mp q)
    rw [if_neg h1c]
    refine ⟨s17 e1 p, ?_, r2.1, fun x => absurd x (nI_9n (by omega))⟩
    simp only [Nat.reduceAdd, i6_readBridge_41, i6_readBridge_42, i6_readBridge_45, i6_readBridge_46, i6_readBridge_49, i6_readBridge_51, i6_readBridge_54, i6_readBridge_55, i6_readBridge_58, i6_readBridge_59, i6_readBridge_60, i6_readBridge_61, i6_readBridge_64, i6_readBridge_65, i6_readBridge_66, i6_readBridge_69, i6_readBridge_70, i6_readBridge_73, i6_readBridge_74, i6_readBridge_75, i6_readBridge_78, i6_readBridge_79, i6_readBridge_80, sk, hh, h1, r2.2.2.1, pK_i, pK_v, if_true, if_false, not_true_eq_false, not_false_eq_true, true_or, or_true]
theorem RT_agr (h : RT σ e) : agr σ e := ⟨fun c hc h67 => h.1 c h67 (fun q => hc (by unfold scr; omega)) (fun q => hc (by unfold scr; omega)) (fun q => hc (by unfold scr; omega)), h.2 4 (by omega), h.2 8 (by omega), h.2 11 (by omega), h.2 14 (by omega)⟩
theorem qT_t (R : Rel g d σ τ) (hk : k < 4) (hm : m ≤ 60) (hz : σ 70 k = nI m) : txt (fun i => σ 71 (60 * k + i)) k m σ ∧ rtx (fun i => σ 71 (60 * k + i)) k m σ := by
  obtain ⟨e1, _, e3⟩ := R.2.2.2.2.1 k hk
  exact ⟨⟨hk, hm, e1.trans hz, fun i hi => e3 i hi⟩, ⟨hk, hm, hz, fun i hi => rfl⟩⟩
theorem op_fault {r : Int32} : opI L xs S (fun M => pX 56 0 [.ref 0, .int r] [] M 85 S) (fun M => pX 157 0 [.ref 67, .int r] [] M 85 S) := by
  intro g d σ τ R
  by_cases hr : inb r 4
  · obtain ⟨k, hk, rfl⟩ := inb_of hr (by decide)
    obtain ⟨e1, e2, e3⟩ := R.2.2.2.2.1 k hk
    have hS : ∀ {α : Type} {a b : α}, ifb (nI k) 4 a b = a := ifb_i hk (by decide)
    have hC := cl (show k ≤ 5000 by omega)
    rcases e2 with h | ⟨m, hm, h⟩
    · have q : (-1 : Int32) < 0 := by decide
      apply op_of
      · simp only [Nat.reduceAdd, i5_fault_0, i5_fault_1, i5_fault_4, i5_fault_7, i5_fault_8, i5_fault_9, i5_fault_10, i5_fault_13, i5_fault_14_r1, i5_fault_14_r2, i5_fault_14_r11, i5_fault_15, i5_fault_18, i5_fault_21, i5_fault_22, i5_fault_25, i5_fault_26_r1, i5_fault_26_r2, i5_fault_26_r11, i5_fault_27, i5_fault_28, i5_fault_31, i5_fault_34, i5_fault_37, i5_fault_38, i5_fault_39, i5_fault_42, i2_isThere_0, i2_isThere_1, i2_isThere_4, i2_isThere_5, i2_isThere_8, i2_isThere_9, i2_isThere_12, i2_isThere_13, s5_isText, pK_i, bi_0, hr, if_true, if_false, not_true_eq_false, not_false_eq_true, true_or, or_true, hS, hC, te_k hk, e1, h, rf1]; rfl
      · simp (decide := true) only [Nat.reduceAdd, i6_fault_0, i6_fault_1, i6_fault_2, i6_fault_5, i6_fault_8, i6_fault_9, i6_fault_10, i6_fault_11, i6_fault_14, i6_fault_15, i6_fault_16, i6_fault_19, i6_fault_20, i6_fault_21, i6_fault_24, i6_fault_27, i6_fault_28, i6_fault_29, i6_fault_32, s6_isText, pK_i, bi_0, hr, if_true, if_false, not_true_eq_false, not_false_eq_true, true_or, or_true, k_70, l_70, hS, hC, fC, vn', h, q, fd1]; rfl
      · exact Rel_f R 1
    · have q : ¬ nI m < 0 := nI_pos (by omega)
      have q2 : ¬ nI m = -1 := fun e => q (by rw [e]; decide)
      obtain ⟨t1, t2⟩ := qT_t R hk hm h
      obtain ⟨σ1, p1, a1, _⟩ := s1_read (L := L) (xs := xs) (τ := τ) (S := S) t1
      have e70 : σ1 70 = σ 70 := a1.1 70 (by unfold scr; omega) (by decide)
      have e71 : σ1 71 = σ 71 := a1.1 71 (by unfold scr; omega) (by decide)
      have t3 : rtx (fun i => σ 71 (60 * k + i)) k m σ1 := by unfold rtx; rw [e70, e71]; exact t2
      obtain ⟨σ2, p2, a2, _⟩ := s6_readBridge (L := L) (xs := xs) (τ := τ) (S := S) t3
      refine op_of (v := rdq (fun i => σ 71 (60 * k + i)) m) (σ1 := σ1) (τ1 := τ) ?_ ?_ (Rel_agr (RT_agr a2) (Rel_agr a1 R))
      · simp only [Nat.reduceAdd, i5_fault_0, i5_fault_1, i5_fault_4, i5_fault_7, i5_fault_8, i5_fault_9, i5_fault_10, i5_fault_13, i5_fault_14_r1, i5_fault_14_r2, i5_fault_14_r11, i5_fault_15, i5_fault_18, i5_fault_21, i5_fault_22, i5_fault_25, i5_fault_26_r1, i5_fault_26_r2, i5_fault_26_r11, i5_fault_27, i5_fault_28, i5_fault_31, i5_fault_34, i5_fault_37, i5_fault_38, i5_fault_39, i5_fault_42, i2_isThere_0, i2_isThere_1, i2_isThere_4, i2_isThere_5, i2_isThere_8, i2_isThere_9, i2_isThere_12, i2_isThere_13, s5_isText, p1, pK_i, bi_0, hr, if_true, if_false, not_true_eq_false, not_false_eq_true, true_or, or_true, hS, hC, te_k hk, e1, h, q2, n10]
      · simp only [Nat.reduceAdd, i6_fault_0, i6_fault_1, i6_fault_2, i6_fault_5, i6_fault_8, i6_fault_9, i6_fault_10, i6_fault_11, i6_fault_14, i6_fault_15, i6_fault_16, i6_fault_19, i6_fault_20, i6_fault_21, i6_fault_24, i6_fault_27, i6_fault_28, i6_fault_29, i6_fault_32, s6_isText, p2, pK_i, bi_0, hr, if_true, if_false, not_true_eq_false, not_false_eq_true, true_or, or_true, k_70, l_70, hS, hC, e70, h, q]
  · apply op_of
    · simp only [Nat.reduceAdd, i5_fault_0, i5_fault_1, i5_fault_4, i5_fault_7, i5_fault_8, i5_fault_9, i5_fault_10, i5_fault_13, i5_fault_14_r1, i5_fault_14_r2, i5_fault_14_r11, i5_fault_15, i5_fault_18, i5_fault_21, i5_fault_22, i5_fault_25, i5_fault_26_r1, i5_fault_26_r2, i5_fault_26_r11, i5_fault_27, i5_fault_28, i5_fault_31, i5_fault_34, i5_fault_37, i5_fault_38, i5_fault_39, i5_fault_42, s5_isText, pK_i, bi_0, hr, if_true, if_false, not_true_eq_false, not_false_eq_true, true_or, or_true]; rfl
    · simp only [Nat.reduceAdd, i6_fault_0, i6_fault_1, i6_fault_2, i6_fault_5, i6_fault_8, i6_fault_9, i6_fault_10, i6_fault_11, i6_fault_14, i6_fault_15, i6_fault_16, i6_fault_19, i6_fault_20, i6_fault_21, i6_fault_24, i6_fault_27, i6_fault_28, i6_fault_29, i6_fault_32, s6_isText, pK_i, bi_0, hr, if_true, if_false, not_true_eq_false, not_false_eq_true, true_or, or_true]; rfl
    · exact R
end EA
