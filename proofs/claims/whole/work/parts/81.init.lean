/-! WHAT THE CONSTRUCTORS MAKE, step by step; printed by program (wip/gen/init.py) -/
theorem ini30_4 {M : pm_M} {S : Nat} (h0 : M 4 = .inr (3, [.null, .null, .null, .int 0, .int 0, .int 0])) : pX 30 0 [.ref 4] [] M 5 S = some (none, va_up (va_up (va_up (va_up (va_up (va_up M 5 (.inl (0, 6, .inl (fun _ => 0)))) 4 (.inr (3, [.ref 5, .null, .null, .int 0, .int 0, .int 0]))) 6 (.inl (0, 6, .inl (fun _ => 0)))) 4 (.inr (3, [.ref 5, .ref 6, .null, .int 0, .int 0, .int 0]))) 7 (.inl (0, 7, .inl (fun _ => 0)))) 4 (.inr (3, [.ref 5, .ref 6, .ref 7, .int 0, .int 0, .int 0])), 8, S + 6 + 6 + 7) := by
  refine Eq.trans (x_aload_n (show pm_in 30 0 = some (.aload_n 0, 1) from by decide +kernel) rfl) ?_
  refine Eq.trans (x_obj (q := (0, 0)) (show pm_in 30 1 = some (.invokespecial 3, 3) from by decide +kernel) (by decide +kernel) ⟨Nat.le_of_ble_eq_true rfl, by decide +kernel⟩) ?_
  refine Eq.trans (x_aload_n (show pm_in 30 4 = some (.aload_n 0, 1) from by decide +kernel) rfl) ?_
  refine Eq.trans (x_bipush (v := 6) (show pm_in 30 5 = some (.bipush 6, 2) from by decide +kernel) (by decide)) ?_
  have q5 : pX 30 7 [.ref 4] [.int 6, .ref 4] M 5 (S) = pX 30 9 [.ref 4] [.ref 5, .ref 4] (va_up M 5 (.inl (0, 6, .inl (fun _ => 0)))) 6 (S + 6) := x_newI (n := 6) (show pm_in 30 7 = some (.newarray .int, 2) from by decide +kernel) ⟨by decide +kernel, by decide +kernel⟩ (by decide +kernel) (by decide +kernel)
  obtain ⟨M1, e1⟩ : ∃ m : pm_M, m = va_up M 5 (.inl (0, 6, .inl (fun _ => 0))) := ⟨_, rfl⟩
  rw [← e1] at q5
  refine q5.trans ?_
  have f1_4 : M1 4 = .inr (3, [.null, .null, .null, .int 0, .int 0, .int 0]) := by rw [e1, vn (show (4 : Nat) ≠ 5 by decide)]; exact h0
  have q6 : pX 30 9 [.ref 4] [.ref 5, .ref 4] M1 6 (S + 6) = pX 30 12 [.ref 4] [] (va_up M1 4 (.inr (3, [.ref 5, .null, .null, .int 0, .int 0, .int 0]))) 6 (S + 6) := x_putf (ci := 3) (k := 0) (fs := [.null, .null, .null, .int 0, .int 0, .int 0]) (fs' := [.ref 5, .null, .null, .int 0, .int 0, .int 0]) (show pm_in 30 9 = some (.putfield 9, 3) from by decide +kernel) (by decide +kernel) f1_4 (by decide) (by decide) (by decide +kernel) (by decide +kernel) (by decide +kernel) rfl
  obtain ⟨M2, e2⟩ : ∃ m : pm_M, m = va_up M1 4 (.inr (3, [.ref 5, .null, .null, .int 0, .int 0, .int 0])) := ⟨_, rfl⟩
  rw [← e2] at q6
  refine q6.trans ?_
  have f2_4 : M2 4 = .inr (3, [.ref 5, .null, .null, .int 0, .int 0, .int 0]) := by rw [e2, vs]
  refine Eq.trans (x_aload_n (show pm_in 30 12 = some (.aload_n 0, 1) from by decide +kernel) rfl) ?_
  refine Eq.trans (x_bipush (v := 6) (show pm_in 30 13 = some (.bipush 6, 2) from by decide +kernel) (by decide)) ?_
  have q9 : pX 30 15 [.ref 4] [.int 6, .ref 4] M2 6 (S + 6) = pX 30 17 [.ref 4] [.ref 6, .ref 4] (va_up M2 6 (.inl (0, 6, .inl (fun _ => 0)))) 7 (S + 6 + 6) := x_newI (n := 6) (show pm_in 30 15 = some (.newarray .int, 2) from by decide +kernel) ⟨by decide +kernel, by decide +kernel⟩ (by decide +kernel) (by decide +kernel)
  obtain ⟨M3, e3⟩ : ∃ m : pm_M, m = va_up M2 6 (.inl (0, 6, .inl (fun _ => 0))) := ⟨_, rfl⟩
  rw [← e3] at q9
  refine q9.trans ?_
  have f3_4 : M3 4 = .inr (3, [.ref 5, .null, .null, .int 0, .int 0, .int 0]) := by rw [e3, vn (show (4 : Nat) ≠ 6 by decide)]; exact f2_4
  have q10 : pX 30 17 [.ref 4] [.ref 6, .ref 4] M3 7 (S + 6 + 6) = pX 30 20 [.ref 4] [] (va_up M3 4 (.inr (3, [.ref 5, .ref 6, .null, .int 0, .int 0, .int 0]))) 7 (S + 6 + 6) := x_putf (ci := 3) (k := 1) (fs := [.ref 5, .null, .null, .int 0, .int 0, .int 0]) (fs' := [.ref 5, .ref 6, .null, .int 0, .int 0, .int 0]) (show pm_in 30 17 = some (.putfield 15, 3) from by decide +kernel) (by decide +kernel) f3_4 (by decide) (by decide) (by decide +kernel) (by decide +kernel) (by decide +kernel) rfl
  obtain ⟨M4, e4⟩ : ∃ m : pm_M, m = va_up M3 4 (.inr (3, [.ref 5, .ref 6, .null, .int 0, .int 0, .int 0])) := ⟨_, rfl⟩
  rw [← e4] at q10
  refine q10.trans ?_
  have f4_4 : M4 4 = .inr (3, [.ref 5, .ref 6, .null, .int 0, .int 0, .int 0]) := by rw [e4, vs]
  refine Eq.trans (x_aload_n (show pm_in 30 20 = some (.aload_n 0, 1) from by decide +kernel) rfl) ?_
  refine Eq.trans (x_bipush (v := 7) (show pm_in 30 21 = some (.bipush 7, 2) from by decide +kernel) (by decide)) ?_
  have q13 : pX 30 23 [.ref 4] [.int 7, .ref 4] M4 7 (S + 6 + 6) = pX 30 25 [.ref 4] [.ref 7, .ref 4] (va_up M4 7 (.inl (0, 7, .inl (fun _ => 0)))) 8 (S + 6 + 6 + 7) := x_newI (n := 7) (show pm_in 30 23 = some (.newarray .int, 2) from by decide +kernel) ⟨by decide +kernel, by decide +kernel⟩ (by decide +kernel) (by decide +kernel)
  obtain ⟨M5, e5⟩ : ∃ m : pm_M, m = va_up M4 7 (.inl (0, 7, .inl (fun _ => 0))) := ⟨_, rfl⟩
  rw [← e5] at q13
  refine q13.trans ?_
  have f5_4 : M5 4 = .inr (3, [.ref 5, .ref 6, .null, .int 0, .int 0, .int 0]) := by rw [e5, vn (show (4 : Nat) ≠ 7 by decide)]; exact f4_4
  have q14 : pX 30 25 [.ref 4] [.ref 7, .ref 4] M5 8 (S + 6 + 6 + 7) = pX 30 28 [.ref 4] [] (va_up M5 4 (.inr (3, [.ref 5, .ref 6, .ref 7, .int 0, .int 0, .int 0]))) 8 (S + 6 + 6 + 7) := x_putf (ci := 3) (k := 2) (fs := [.ref 5, .ref 6, .null, .int 0, .int 0, .int 0]) (fs' := [.ref 5, .ref 6, .ref 7, .int 0, .int 0, .int 0]) (show pm_in 30 25 = some (.putfield 18, 3) from by decide +kernel) (by decide +kernel) f5_4 (by decide) (by decide) (by decide +kernel) (by decide +kernel) (by decide +kernel) rfl
  obtain ⟨M6, e6⟩ : ∃ m : pm_M, m = va_up M5 4 (.inr (3, [.ref 5, .ref 6, .ref 7, .int 0, .int 0, .int 0])) := ⟨_, rfl⟩
  rw [← e6] at q14
  refine q14.trans ?_
  have f6_4 : M6 4 = .inr (3, [.ref 5, .ref 6, .ref 7, .int 0, .int 0, .int 0]) := by rw [e6, vs]
  refine Eq.trans (x_return (show pm_in 30 28 = some (.return_, 1) from by decide +kernel) (by decide +kernel)) ?_
  rw [e6, e5, e4, e3, e2, e1]
theorem ini0_3 {M : pm_M} {S : Nat} (h0 : M 3 = .inr (0, [.null, .null, .null, .null, .int 0])) : pX 0 0 [.ref 3] [] M 4 S = some (none, va_up (va_up (va_up (va_up (va_up (va_up (va_up (va_up (va_up (va_up (va_up (va_up (va_up (va_up M 4 (.inr (3, [.null, .null, .null, .int 0, .int 0, .int 0]))) 5 (.inl (0, 6, .inl (fun _ => 0)))) 4 (.inr (3, [.ref 5, .null, .null, .int 0, .int 0, .int 0]))) 6 (.inl (0, 6, .inl (fun _ => 0)))) 4 (.inr (3, [.ref 5, .ref 6, .null, .int 0, .int 0, .int 0]))) 7 (.inl (0, 7, .inl (fun _ => 0)))) 4 (.inr (3, [.ref 5, .ref 6, .ref 7, .int 0, .int 0, .int 0]))) 3 (.inr (0, [.ref 4, .null, .null, .null, .int 0]))) 8 (.inl (0, 280, .inl (fun _ => 0)))) 3 (.inr (0, [.ref 4, .ref 8, .null, .null, .int 0]))) 9 (.inl (0, 40, .inl (fun _ => 0)))) 3 (.inr (0, [.ref 4, .ref 8, .ref 9, .null, .int 0]))) 10 (.inl (0, 40, .inl (fun _ => 0)))) 3 (.inr (0, [.ref 4, .ref 8, .ref 9, .ref 10, .int 0])), 11, S + 6 + 6 + 6 + 7 + 280 + 40 + 40) := by
  refine Eq.trans (x_aload_n (show pm_in 0 0 = some (.aload_n 0, 1) from by decide +kernel) rfl) ?_
  refine Eq.trans (x_obj (q := (0, 0)) (show pm_in 0 1 = some (.invokespecial 3, 3) from by decide +kernel) (by decide +kernel) ⟨Nat.le_of_ble_eq_true rfl, by decide +kernel⟩) ?_
  refine Eq.trans (x_aload_n (show pm_in 0 4 = some (.aload_n 0, 1) from by decide +kernel) rfl) ?_
  have q4 : pX 0 5 [.ref 3] [.ref 3] M 4 (S) = pX 0 8 [.ref 3] [.ref 4, .ref 3] (va_up M 4 (.inr (3, [.null, .null, .null, .int 0, .int 0, .int 0]))) 5 (S + 6) := x_new (ci := 3) (k := 6) (show pm_in 0 5 = some (.new 9, 3) from by decide +kernel) (by decide +kernel) rfl rfl (by decide +kernel)
  obtain ⟨M1, e1⟩ : ∃ m : pm_M, m = va_up M 4 (.inr (3, [.null, .null, .null, .int 0, .int 0, .int 0])) := ⟨_, rfl⟩
  rw [← e1] at q4
  refine q4.trans ?_
  have f1_3 : M1 3 = .inr (0, [.null, .null, .null, .null, .int 0]) := by rw [e1, vn (show (3 : Nat) ≠ 4 by decide)]; exact h0
  have f1_4 : M1 4 = .inr (3, [.null, .null, .null, .int 0, .int 0, .int 0]) := by rw [e1, vs]
  refine Eq.trans (x_dup (show pm_in 0 8 = some (.dup, 1) from by decide +kernel) rfl) ?_
  have q6 : pX 0 9 [.ref 3] [.ref 4, .ref 4, .ref 3] M1 5 (S + 6) = pX 0 12 [.ref 3] [.ref 4, .ref 3] (va_up (va_up (va_up (va_up (va_up (va_up M1 5 (.inl (0, 6, .inl (fun _ => 0)))) 4 (.inr (3, [.ref 5, .null, .null, .int 0, .int 0, .int 0]))) 6 (.inl (0, 6, .inl (fun _ => 0)))) 4 (.inr (3, [.ref 5, .ref 6, .null, .int 0, .int 0, .int 0]))) 7 (.inl (0, 7, .inl (fun _ => 0)))) 4 (.inr (3, [.ref 5, .ref 6, .ref 7, .int 0, .int 0, .int 0]))) 8 (S + 6 + 6 + 6 + 7) := x_callI (y' := 30) (k := 0) (kd := 4) (b := 4) (as := []) (st' := [.ref 4, .ref 3]) (show pm_in 0 9 = some (.invokespecial 11, 3) from by decide +kernel) (by decide +kernel) (by decide) rfl rfl (by decide +kernel) (Nat.le_of_ble_eq_true rfl) (by decide +kernel) (by decide +kernel) rfl (by decide +kernel) (by decide +kernel) (ini30_4 (M := M1) (S := S + 6) f1_4)
  obtain ⟨M2, e2⟩ : ∃ m : pm_M, m = va_up (va_up (va_up (va_up (va_up (va_up M1 5 (.inl (0, 6, .inl (fun _ => 0)))) 4 (.inr (3, [.ref 5, .null, .null, .int 0, .int 0, .int 0]))) 6 (.inl (0, 6, .inl (fun _ => 0)))) 4 (.inr (3, [.ref 5, .ref 6, .null, .int 0, .int 0, .int 0]))) 7 (.inl (0, 7, .inl (fun _ => 0)))) 4 (.inr (3, [.ref 5, .ref 6, .ref 7, .int 0, .int 0, .int 0])) := ⟨_, rfl⟩
  rw [← e2] at q6
  refine q6.trans ?_
  have f2_3 : M2 3 = .inr (0, [.null, .null, .null, .null, .int 0]) := by rw [e2, vn (show (3 : Nat) ≠ 4 by decide), vn (show (3 : Nat) ≠ 7 by decide), vn (show (3 : Nat) ≠ 4 by decide), vn (show (3 : Nat) ≠ 6 by decide), vn (show (3 : Nat) ≠ 4 by decide), vn (show (3 : Nat) ≠ 5 by decide)]; exact f1_3
  have f2_4 : M2 4 = .inr (3, [.ref 5, .ref 6, .ref 7, .int 0, .int 0, .int 0]) := by rw [e2, vs]
  have q7 : pX 0 12 [.ref 3] [.ref 4, .ref 3] M2 8 (S + 6 + 6 + 6 + 7) = pX 0 15 [.ref 3] [] (va_up M2 3 (.inr (0, [.ref 4, .null, .null, .null, .int 0]))) 8 (S + 6 + 6 + 6 + 7) := x_putf (ci := 0) (k := 0) (fs := [.null, .null, .null, .null, .int 0]) (fs' := [.ref 4, .null, .null, .null, .int 0]) (show pm_in 0 12 = some (.putfield 12, 3) from by decide +kernel) (by decide +kernel) f2_3 (by decide) (by decide) (by decide +kernel) (by decide +kernel) (by decide +kernel) rfl
  obtain ⟨M3, e3⟩ : ∃ m : pm_M, m = va_up M2 3 (.inr (0, [.ref 4, .null, .null, .null, .int 0])) := ⟨_, rfl⟩
  rw [← e3] at q7
  refine q7.trans ?_
  have f3_3 : M3 3 = .inr (0, [.ref 4, .null, .null, .null, .int 0]) := by rw [e3, vs]
  have f3_4 : M3 4 = .inr (3, [.ref 5, .ref 6, .ref 7, .int 0, .int 0, .int 0]) := by rw [e3, vn (show (4 : Nat) ≠ 3 by decide)]; exact f2_4
  refine Eq.trans (x_aload_n (show pm_in 0 15 = some (.aload_n 0, 1) from by decide +kernel) rfl) ?_
  refine Eq.trans (x_sipush (v := 280) (show pm_in 0 16 = some (.sipush 280, 3) from by decide +kernel) (by decide)) ?_
  have q10 : pX 0 19 [.ref 3] [.int 280, .ref 3] M3 8 (S + 6 + 6 + 6 + 7) = pX 0 21 [.ref 3] [.ref 8, .ref 3] (va_up M3 8 (.inl (0, 280, .inl (fun _ => 0)))) 9 (S + 6 + 6 + 6 + 7 + 280) := x_newI (n := 280) (show pm_in 0 19 = some (.newarray .int, 2) from by decide +kernel) ⟨by decide +kernel, by decide +kernel⟩ (by decide +kernel) (by decide +kernel)
  obtain ⟨M4, e4⟩ : ∃ m : pm_M, m = va_up M3 8 (.inl (0, 280, .inl (fun _ => 0))) := ⟨_, rfl⟩
  rw [← e4] at q10
  refine q10.trans ?_
  have f4_3 : M4 3 = .inr (0, [.ref 4, .null, .null, .null, .int 0]) := by rw [e4, vn (show (3 : Nat) ≠ 8 by decide)]; exact f3_3
  have f4_4 : M4 4 = .inr (3, [.ref 5, .ref 6, .ref 7, .int 0, .int 0, .int 0]) := by rw [e4, vn (show (4 : Nat) ≠ 8 by decide)]; exact f3_4
  have q11 : pX 0 21 [.ref 3] [.ref 8, .ref 3] M4 9 (S + 6 + 6 + 6 + 7 + 280) = pX 0 24 [.ref 3] [] (va_up M4 3 (.inr (0, [.ref 4, .ref 8, .null, .null, .int 0]))) 9 (S + 6 + 6 + 6 + 7 + 280) := x_putf (ci := 0) (k := 1) (fs := [.ref 4, .null, .null, .null, .int 0]) (fs' := [.ref 4, .ref 8, .null, .null, .int 0]) (show pm_in 0 21 = some (.putfield 18, 3) from by decide +kernel) (by decide +kernel) f4_3 (by decide) (by decide) (by decide +kernel) (by decide +kernel) (by decide +kernel) rfl
  obtain ⟨M5, e5⟩ : ∃ m : pm_M, m = va_up M4 3 (.inr (0, [.ref 4, .ref 8, .null, .null, .int 0])) := ⟨_, rfl⟩
  rw [← e5] at q11
  refine q11.trans ?_
  have f5_3 : M5 3 = .inr (0, [.ref 4, .ref 8, .null, .null, .int 0]) := by rw [e5, vs]
  have f5_4 : M5 4 = .inr (3, [.ref 5, .ref 6, .ref 7, .int 0, .int 0, .int 0]) := by rw [e5, vn (show (4 : Nat) ≠ 3 by decide)]; exact f4_4
  refine Eq.trans (x_aload_n (show pm_in 0 24 = some (.aload_n 0, 1) from by decide +kernel) rfl) ?_
  refine Eq.trans (x_bipush (v := 40) (show pm_in 0 25 = some (.bipush 40, 2) from by decide +kernel) (by decide)) ?_
  have q14 : pX 0 27 [.ref 3] [.int 40, .ref 3] M5 9 (S + 6 + 6 + 6 + 7 + 280) = pX 0 29 [.ref 3] [.ref 9, .ref 3] (va_up M5 9 (.inl (0, 40, .inl (fun _ => 0)))) 10 (S + 6 + 6 + 6 + 7 + 280 + 40) := x_newI (n := 40) (show pm_in 0 27 = some (.newarray .int, 2) from by decide +kernel) ⟨by decide +kernel, by decide +kernel⟩ (by decide +kernel) (by decide +kernel)
  obtain ⟨M6, e6⟩ : ∃ m : pm_M, m = va_up M5 9 (.inl (0, 40, .inl (fun _ => 0))) := ⟨_, rfl⟩
  rw [← e6] at q14
  refine q14.trans ?_
  have f6_3 : M6 3 = .inr (0, [.ref 4, .ref 8, .null, .null, .int 0]) := by rw [e6, vn (show (3 : Nat) ≠ 9 by decide)]; exact f5_3
  have f6_4 : M6 4 = .inr (3, [.ref 5, .ref 6, .ref 7, .int 0, .int 0, .int 0]) := by rw [e6, vn (show (4 : Nat) ≠ 9 by decide)]; exact f5_4
  have q15 : pX 0 29 [.ref 3] [.ref 9, .ref 3] M6 10 (S + 6 + 6 + 6 + 7 + 280 + 40) = pX 0 32 [.ref 3] [] (va_up M6 3 (.inr (0, [.ref 4, .ref 8, .ref 9, .null, .int 0]))) 10 (S + 6 + 6 + 6 + 7 + 280 + 40) := x_putf (ci := 0) (k := 2) (fs := [.ref 4, .ref 8, .null, .null, .int 0]) (fs' := [.ref 4, .ref 8, .ref 9, .null, .int 0]) (show pm_in 0 29 = some (.putfield 22, 3) from by decide +kernel) (by decide +kernel) f6_3 (by decide) (by decide) (by decide +kernel) (by decide +kernel) (by decide +kernel) rfl
  obtain ⟨M7, e7⟩ : ∃ m : pm_M, m = va_up M6 3 (.inr (0, [.ref 4, .ref 8, .ref 9, .null, .int 0])) := ⟨_, rfl⟩
  rw [← e7] at q15
  refine q15.trans ?_
  have f7_3 : M7 3 = .inr (0, [.ref 4, .ref 8, .ref 9, .null, .int 0]) := by rw [e7, vs]
  have f7_4 : M7 4 = .inr (3, [.ref 5, .ref 6, .ref 7, .int 0, .int 0, .int 0]) := by rw [e7, vn (show (4 : Nat) ≠ 3 by decide)]; exact f6_4
  refine Eq.trans (x_aload_n (show pm_in 0 32 = some (.aload_n 0, 1) from by decide +kernel) rfl) ?_
  refine Eq.trans (x_bipush (v := 40) (show pm_in 0 33 = some (.bipush 40, 2) from by decide +kernel) (by decide)) ?_
  have q18 : pX 0 35 [.ref 3] [.int 40, .ref 3] M7 10 (S + 6 + 6 + 6 + 7 + 280 + 40) = pX 0 37 [.ref 3] [.ref 10, .ref 3] (va_up M7 10 (.inl (0, 40, .inl (fun _ => 0)))) 11 (S + 6 + 6 + 6 + 7 + 280 + 40 + 40) := x_newI (n := 40) (show pm_in 0 35 = some (.newarray .int, 2) from by decide +kernel) ⟨by decide +kernel, by decide +kernel⟩ (by decide +kernel) (by decide +kernel)
  obtain ⟨M8, e8⟩ : ∃ m : pm_M, m = va_up M7 10 (.inl (0, 40, .inl (fun _ => 0))) := ⟨_, rfl⟩
  rw [← e8] at q18
  refine q18.trans ?_
  have f8_3 : M8 3 = .inr (0, [.ref 4, .ref 8, .ref 9, .null, .int 0]) := by rw [e8, vn (show (3 : Nat) ≠ 10 by decide)]; exact f7_3
  have f8_4 : M8 4 = .inr (3, [.ref 5, .ref 6, .ref 7, .int 0, .int 0, .int 0]) := by rw [e8, vn (show (4 : Nat) ≠ 10 by decide)]; exact f7_4
  have q19 : pX 0 37 [.ref 3] [.ref 10, .ref 3] M8 11 (S + 6 + 6 + 6 + 7 + 280 + 40 + 40) = pX 0 40 [.ref 3] [] (va_up M8 3 (.inr (0, [.ref 4, .ref 8, .ref 9, .ref 10, .int 0]))) 11 (S + 6 + 6 + 6 + 7 + 280 + 40 + 40) := x_putf (ci := 0) (k := 3) (fs := [.ref 4, .ref 8, .ref 9, .null, .int 0]) (fs' := [.ref 4, .ref 8, .ref 9, .ref 10, .int 0]) (show pm_in 0 37 = some (.putfield 25, 3) from by decide +kernel) (by decide +kernel) f8_3 (by decide) (by decide) (by decide +kernel) (by decide +kernel) (by decide +kernel) rfl
  obtain ⟨M9, e9⟩ : ∃ m : pm_M, m = va_up M8 3 (.inr (0, [.ref 4, .ref 8, .ref 9, .ref 10, .int 0])) := ⟨_, rfl⟩
  rw [← e9] at q19
  refine q19.trans ?_
  have f9_3 : M9 3 = .inr (0, [.ref 4, .ref 8, .ref 9, .ref 10, .int 0]) := by rw [e9, vs]
  have f9_4 : M9 4 = .inr (3, [.ref 5, .ref 6, .ref 7, .int 0, .int 0, .int 0]) := by rw [e9, vn (show (4 : Nat) ≠ 3 by decide)]; exact f8_4
  refine Eq.trans (x_return (show pm_in 0 40 = some (.return_, 1) from by decide +kernel) (by decide +kernel)) ?_
  rw [e9, e8, e7, e6, e5, e4, e3, e2, e1]
theorem ini30_12 {M : pm_M} {S : Nat} (h0 : M 12 = .inr (3, [.null, .null, .null, .int 0, .int 0, .int 0])) : pX 30 0 [.ref 12] [] M 13 S = some (none, va_up (va_up (va_up (va_up (va_up (va_up M 13 (.inl (0, 6, .inl (fun _ => 0)))) 12 (.inr (3, [.ref 13, .null, .null, .int 0, .int 0, .int 0]))) 14 (.inl (0, 6, .inl (fun _ => 0)))) 12 (.inr (3, [.ref 13, .ref 14, .null, .int 0, .int 0, .int 0]))) 15 (.inl (0, 7, .inl (fun _ => 0)))) 12 (.inr (3, [.ref 13, .ref 14, .ref 15, .int 0, .int 0, .int 0])), 16, S + 6 + 6 + 7) := by
  refine Eq.trans (x_aload_n (show pm_in 30 0 = some (.aload_n 0, 1) from by decide +kernel) rfl) ?_
  refine Eq.trans (x_obj (q := (0, 0)) (show pm_in 30 1 = some (.invokespecial 3, 3) from by decide +kernel) (by decide +kernel) ⟨Nat.le_of_ble_eq_true rfl, by decide +kernel⟩) ?_
  refine Eq.trans (x_aload_n (show pm_in 30 4 = some (.aload_n 0, 1) from by decide +kernel) rfl) ?_
  refine Eq.trans (x_bipush (v := 6) (show pm_in 30 5 = some (.bipush 6, 2) from by decide +kernel) (by decide)) ?_
  have q5 : pX 30 7 [.ref 12] [.int 6, .ref 12] M 13 (S) = pX 30 9 [.ref 12] [.ref 13, .ref 12] (va_up M 13 (.inl (0, 6, .inl (fun _ => 0)))) 14 (S + 6) := x_newI (n := 6) (show pm_in 30 7 = some (.newarray .int, 2) from by decide +kernel) ⟨by decide +kernel, by decide +kernel⟩ (by decide +kernel) (by decide +kernel)
  obtain ⟨M1, e1⟩ : ∃ m : pm_M, m = va_up M 13 (.inl (0, 6, .inl (fun _ => 0))) := ⟨_, rfl⟩
  rw [← e1] at q5
  refine q5.trans ?_
  have f1_12 : M1 12 = .inr (3, [.null, .null, .null, .int 0, .int 0, .int 0]) := by rw [e1, vn (show (12 : Nat) ≠ 13 by decide)]; exact h0
  have q6 : pX 30 9 [.ref 12] [.ref 13, .ref 12] M1 14 (S + 6) = pX 30 12 [.ref 12] [] (va_up M1 12 (.inr (3, [.ref 13, .null, .null, .int 0, .int 0, .int 0]))) 14 (S + 6) := x_putf (ci := 3) (k := 0) (fs := [.null, .null, .null, .int 0, .int 0, .int 0]) (fs' := [.ref 13, .null, .null, .int 0, .int 0, .int 0]) (show pm_in 30 9 = some (.putfield 9, 3) from by decide +kernel) (by decide +kernel) f1_12 (by decide) (by decide) (by decide +kernel) (by decide +kernel) (by decide +kernel) rfl
  obtain ⟨M2, e2⟩ : ∃ m : pm_M, m = va_up M1 12 (.inr (3, [.ref 13, .null, .null, .int 0, .int 0, .int 0])) := ⟨_, rfl⟩
  rw [← e2] at q6
  refine q6.trans ?_
  have f2_12 : M2 12 = .inr (3, [.ref 13, .null, .null, .int 0, .int 0, .int 0]) := by rw [e2, vs]
  refine Eq.trans (x_aload_n (show pm_in 30 12 = some (.aload_n 0, 1) from by decide +kernel) rfl) ?_
  refine Eq.trans (x_bipush (v := 6) (show pm_in 30 13 = some (.bipush 6, 2) from by decide +kernel) (by decide)) ?_
  have q9 : pX 30 15 [.ref 12] [.int 6, .ref 12] M2 14 (S + 6) = pX 30 17 [.ref 12] [.ref 14, .ref 12] (va_up M2 14 (.inl (0, 6, .inl (fun _ => 0)))) 15 (S + 6 + 6) := x_newI (n := 6) (show pm_in 30 15 = some (.newarray .int, 2) from by decide +kernel) ⟨by decide +kernel, by decide +kernel⟩ (by decide +kernel) (by decide +kernel)
  obtain ⟨M3, e3⟩ : ∃ m : pm_M, m = va_up M2 14 (.inl (0, 6, .inl (fun _ => 0))) := ⟨_, rfl⟩
  rw [← e3] at q9
  refine q9.trans ?_
  have f3_12 : M3 12 = .inr (3, [.ref 13, .null, .null, .int 0, .int 0, .int 0]) := by rw [e3, vn (show (12 : Nat) ≠ 14 by decide)]; exact f2_12
  have q10 : pX 30 17 [.ref 12] [.ref 14, .ref 12] M3 15 (S + 6 + 6) = pX 30 20 [.ref 12] [] (va_up M3 12 (.inr (3, [.ref 13, .ref 14, .null, .int 0, .int 0, .int 0]))) 15 (S + 6 + 6) := x_putf (ci := 3) (k := 1) (fs := [.ref 13, .null, .null, .int 0, .int 0, .int 0]) (fs' := [.ref 13, .ref 14, .null, .int 0, .int 0, .int 0]) (show pm_in 30 17 = some (.putfield 15, 3) from by decide +kernel) (by decide +kernel) f3_12 (by decide) (by decide) (by decide +kernel) (by decide +kernel) (by decide +kernel) rfl
  obtain ⟨M4, e4⟩ : ∃ m : pm_M, m = va_up M3 12 (.inr (3, [.ref 13, .ref 14, .null, .int 0, .int 0, .int 0])) := ⟨_, rfl⟩
  rw [← e4] at q10
  refine q10.trans ?_
  have f4_12 : M4 12 = .inr (3, [.ref 13, .ref 14, .null, .int 0, .int 0, .int 0]) := by rw [e4, vs]
  refine Eq.trans (x_aload_n (show pm_in 30 20 = some (.aload_n 0, 1) from by decide +kernel) rfl) ?_
  refine Eq.trans (x_bipush (v := 7) (show pm_in 30 21 = some (.bipush 7, 2) from by decide +kernel) (by decide)) ?_
  have q13 : pX 30 23 [.ref 12] [.int 7, .ref 12] M4 15 (S + 6 + 6) = pX 30 25 [.ref 12] [.ref 15, .ref 12] (va_up M4 15 (.inl (0, 7, .inl (fun _ => 0)))) 16 (S + 6 + 6 + 7) := x_newI (n := 7) (show pm_in 30 23 = some (.newarray .int, 2) from by decide +kernel) ⟨by decide +kernel, by decide +kernel⟩ (by decide +kernel) (by decide +kernel)
  obtain ⟨M5, e5⟩ : ∃ m : pm_M, m = va_up M4 15 (.inl (0, 7, .inl (fun _ => 0))) := ⟨_, rfl⟩
  rw [← e5] at q13
  refine q13.trans ?_
  have f5_12 : M5 12 = .inr (3, [.ref 13, .ref 14, .null, .int 0, .int 0, .int 0]) := by rw [e5, vn (show (12 : Nat) ≠ 15 by decide)]; exact f4_12
  have q14 : pX 30 25 [.ref 12] [.ref 15, .ref 12] M5 16 (S + 6 + 6 + 7) = pX 30 28 [.ref 12] [] (va_up M5 12 (.inr (3, [.ref 13, .ref 14, .ref 15, .int 0, .int 0, .int 0]))) 16 (S + 6 + 6 + 7) := x_putf (ci := 3) (k := 2) (fs := [.ref 13, .ref 14, .null, .int 0, .int 0, .int 0]) (fs' := [.ref 13, .ref 14, .ref 15, .int 0, .int 0, .int 0]) (show pm_in 30 25 = some (.putfield 18, 3) from by decide +kernel) (by decide +kernel) f5_12 (by decide) (by decide) (by decide +kernel) (by decide +kernel) (by decide +kernel) rfl
  obtain ⟨M6, e6⟩ : ∃ m : pm_M, m = va_up M5 12 (.inr (3, [.ref 13, .ref 14, .ref 15, .int 0, .int 0, .int 0])) := ⟨_, rfl⟩
  rw [← e6] at q14
  refine q14.trans ?_
  have f6_12 : M6 12 = .inr (3, [.ref 13, .ref 14, .ref 15, .int 0, .int 0, .int 0]) := by rw [e6, vs]
  refine Eq.trans (x_return (show pm_in 30 28 = some (.return_, 1) from by decide +kernel) (by decide +kernel)) ?_
  rw [e6, e5, e4, e3, e2, e1]
theorem ini22_16 {M : pm_M} {S : Nat} (h0 : M 16 = .inr (2, [.null, .null, .null, .int 0])) : pX 22 0 [.ref 16] [] M 17 S = some (none, va_up (va_up (va_up (va_up (va_up (va_up M 17 (.inl (0, 64, .inl (fun _ => 0)))) 16 (.inr (2, [.ref 17, .null, .null, .int 0]))) 18 (.inl (0, 448, .inl (fun _ => 0)))) 16 (.inr (2, [.ref 17, .ref 18, .null, .int 0]))) 19 (.inl (0, 61, .inl (fun _ => 0)))) 16 (.inr (2, [.ref 17, .ref 18, .ref 19, .int 0])), 20, S + 64 + 448 + 61) := by
  refine Eq.trans (x_aload_n (show pm_in 22 0 = some (.aload_n 0, 1) from by decide +kernel) rfl) ?_
  refine Eq.trans (x_obj (q := (0, 0)) (show pm_in 22 1 = some (.invokespecial 3, 3) from by decide +kernel) (by decide +kernel) ⟨Nat.le_of_ble_eq_true rfl, by decide +kernel⟩) ?_
  refine Eq.trans (x_aload_n (show pm_in 22 4 = some (.aload_n 0, 1) from by decide +kernel) rfl) ?_
  refine Eq.trans (x_bipush (v := 64) (show pm_in 22 5 = some (.bipush 64, 2) from by decide +kernel) (by decide)) ?_
  have q5 : pX 22 7 [.ref 16] [.int 64, .ref 16] M 17 (S) = pX 22 9 [.ref 16] [.ref 17, .ref 16] (va_up M 17 (.inl (0, 64, .inl (fun _ => 0)))) 18 (S + 64) := x_newI (n := 64) (show pm_in 22 7 = some (.newarray .int, 2) from by decide +kernel) ⟨by decide +kernel, by decide +kernel⟩ (by decide +kernel) (by decide +kernel)
  obtain ⟨M1, e1⟩ : ∃ m : pm_M, m = va_up M 17 (.inl (0, 64, .inl (fun _ => 0))) := ⟨_, rfl⟩
  rw [← e1] at q5
  refine q5.trans ?_
  have f1_16 : M1 16 = .inr (2, [.null, .null, .null, .int 0]) := by rw [e1, vn (show (16 : Nat) ≠ 17 by decide)]; exact h0
  have q6 : pX 22 9 [.ref 16] [.ref 17, .ref 16] M1 18 (S + 64) = pX 22 12 [.ref 16] [] (va_up M1 16 (.inr (2, [.ref 17, .null, .null, .int 0]))) 18 (S + 64) := x_putf (ci := 2) (k := 0) (fs := [.null, .null, .null, .int 0]) (fs' := [.ref 17, .null, .null, .int 0]) (show pm_in 22 9 = some (.putfield 9, 3) from by decide +kernel) (by decide +kernel) f1_16 (by decide) (by decide) (by decide +kernel) (by decide +kernel) (by decide +kernel) rfl
  obtain ⟨M2, e2⟩ : ∃ m : pm_M, m = va_up M1 16 (.inr (2, [.ref 17, .null, .null, .int 0])) := ⟨_, rfl⟩
  rw [← e2] at q6
  refine q6.trans ?_
  have f2_16 : M2 16 = .inr (2, [.ref 17, .null, .null, .int 0]) := by rw [e2, vs]
  refine Eq.trans (x_aload_n (show pm_in 22 12 = some (.aload_n 0, 1) from by decide +kernel) rfl) ?_
  refine Eq.trans (x_sipush (v := 448) (show pm_in 22 13 = some (.sipush 448, 3) from by decide +kernel) (by decide)) ?_
  have q9 : pX 22 16 [.ref 16] [.int 448, .ref 16] M2 18 (S + 64) = pX 22 18 [.ref 16] [.ref 18, .ref 16] (va_up M2 18 (.inl (0, 448, .inl (fun _ => 0)))) 19 (S + 64 + 448) := x_newI (n := 448) (show pm_in 22 16 = some (.newarray .int, 2) from by decide +kernel) ⟨by decide +kernel, by decide +kernel⟩ (by decide +kernel) (by decide +kernel)
  obtain ⟨M3, e3⟩ : ∃ m : pm_M, m = va_up M2 18 (.inl (0, 448, .inl (fun _ => 0))) := ⟨_, rfl⟩
  rw [← e3] at q9
  refine q9.trans ?_
  have f3_16 : M3 16 = .inr (2, [.ref 17, .null, .null, .int 0]) := by rw [e3, vn (show (16 : Nat) ≠ 18 by decide)]; exact f2_16
  have q10 : pX 22 18 [.ref 16] [.ref 18, .ref 16] M3 19 (S + 64 + 448) = pX 22 21 [.ref 16] [] (va_up M3 16 (.inr (2, [.ref 17, .ref 18, .null, .int 0]))) 19 (S + 64 + 448) := x_putf (ci := 2) (k := 1) (fs := [.ref 17, .null, .null, .int 0]) (fs' := [.ref 17, .ref 18, .null, .int 0]) (show pm_in 22 18 = some (.putfield 15, 3) from by decide +kernel) (by decide +kernel) f3_16 (by decide) (by decide) (by decide +kernel) (by decide +kernel) (by decide +kernel) rfl
  obtain ⟨M4, e4⟩ : ∃ m : pm_M, m = va_up M3 16 (.inr (2, [.ref 17, .ref 18, .null, .int 0])) := ⟨_, rfl⟩
  rw [← e4] at q10
  refine q10.trans ?_
  have f4_16 : M4 16 = .inr (2, [.ref 17, .ref 18, .null, .int 0]) := by rw [e4, vs]
  refine Eq.trans (x_aload_n (show pm_in 22 21 = some (.aload_n 0, 1) from by decide +kernel) rfl) ?_
  refine Eq.trans (x_bipush (v := 61) (show pm_in 22 22 = some (.bipush 61, 2) from by decide +kernel) (by decide)) ?_
  have q13 : pX 22 24 [.ref 16] [.int 61, .ref 16] M4 19 (S + 64 + 448) = pX 22 26 [.ref 16] [.ref 19, .ref 16] (va_up M4 19 (.inl (0, 61, .inl (fun _ => 0)))) 20 (S + 64 + 448 + 61) := x_newI (n := 61) (show pm_in 22 24 = some (.newarray .int, 2) from by decide +kernel) ⟨by decide +kernel, by decide +kernel⟩ (by decide +kernel) (by decide +kernel)
  obtain ⟨M5, e5⟩ : ∃ m : pm_M, m = va_up M4 19 (.inl (0, 61, .inl (fun _ => 0))) := ⟨_, rfl⟩
  rw [← e5] at q13
  refine q13.trans ?_
  have f5_16 : M5 16 = .inr (2, [.ref 17, .ref 18, .null, .int 0]) := by rw [e5, vn (show (16 : Nat) ≠ 19 by decide)]; exact f4_16
  have q14 : pX 22 26 [.ref 16] [.ref 19, .ref 16] M5 20 (S + 64 + 448 + 61) = pX 22 29 [.ref 16] [] (va_up M5 16 (.inr (2, [.ref 17, .ref 18, .ref 19, .int 0]))) 20 (S + 64 + 448 + 61) := x_putf (ci := 2) (k := 2) (fs := [.ref 17, .ref 18, .null, .int 0]) (fs' := [.ref 17, .ref 18, .ref 19, .int 0]) (show pm_in 22 26 = some (.putfield 18, 3) from by decide +kernel) (by decide +kernel) f5_16 (by decide) (by decide) (by decide +kernel) (by decide +kernel) (by decide +kernel) rfl
  obtain ⟨M6, e6⟩ : ∃ m : pm_M, m = va_up M5 16 (.inr (2, [.ref 17, .ref 18, .ref 19, .int 0])) := ⟨_, rfl⟩
  rw [← e6] at q14
  refine q14.trans ?_
  have f6_16 : M6 16 = .inr (2, [.ref 17, .ref 18, .ref 19, .int 0]) := by rw [e6, vs]
  refine Eq.trans (x_return (show pm_in 22 29 = some (.return_, 1) from by decide +kernel) (by decide +kernel)) ?_
  rw [e6, e5, e4, e3, e2, e1]
theorem ini17_23 {M : pm_M} {S : Nat} (h0 : M 23 = .inr (1, [.null, .int 0])) : pX 17 0 [.ref 23, .int 40] [] M 24 S = some (none, va_up (va_up (va_up M 23 (.inr (1, [.null, .int (-1)]))) 24 (.inl (0, 40, .inl (fun _ => 0)))) 23 (.inr (1, [.ref 24, .int (-1)])), 25, S + 40) := by
  refine Eq.trans (x_aload_n (show pm_in 17 0 = some (.aload_n 0, 1) from by decide +kernel) rfl) ?_
  refine Eq.trans (x_obj (q := (0, 0)) (show pm_in 17 1 = some (.invokespecial 3, 3) from by decide +kernel) (by decide +kernel) ⟨Nat.le_of_ble_eq_true rfl, by decide +kernel⟩) ?_
  refine Eq.trans (x_aload_n (show pm_in 17 4 = some (.aload_n 0, 1) from by decide +kernel) rfl) ?_
  refine Eq.trans (x_iconst (v := (-1)) (show pm_in 17 5 = some (.iconst (-1), 1) from by decide +kernel) (by decide)) ?_
  have q5 : pX 17 6 [.ref 23, .int 40] [.int (-1), .ref 23] M 24 (S) = pX 17 9 [.ref 23, .int 40] [] (va_up M 23 (.inr (1, [.null, .int (-1)]))) 24 (S) := x_putf (ci := 1) (k := 1) (fs := [.null, .int 0]) (fs' := [.null, .int (-1)]) (show pm_in 17 6 = some (.putfield 9, 3) from by decide +kernel) (by decide +kernel) h0 (by decide) (by decide) (by decide +kernel) (by decide +kernel) (by decide +kernel) rfl
  obtain ⟨M1, e1⟩ : ∃ m : pm_M, m = va_up M 23 (.inr (1, [.null, .int (-1)])) := ⟨_, rfl⟩
  rw [← e1] at q5
  refine q5.trans ?_
  have f1_23 : M1 23 = .inr (1, [.null, .int (-1)]) := by rw [e1, vs]
  refine Eq.trans (x_aload_n (show pm_in 17 9 = some (.aload_n 0, 1) from by decide +kernel) rfl) ?_
  refine Eq.trans (x_iload_n (show pm_in 17 10 = some (.iload_n 1, 1) from by decide +kernel) rfl) ?_
  have q8 : pX 17 11 [.ref 23, .int 40] [.int 40, .ref 23] M1 24 (S) = pX 17 13 [.ref 23, .int 40] [.ref 24, .ref 23] (va_up M1 24 (.inl (0, 40, .inl (fun _ => 0)))) 25 (S + 40) := x_newI (n := 40) (show pm_in 17 11 = some (.newarray .int, 2) from by decide +kernel) ⟨by decide +kernel, by decide +kernel⟩ (by decide +kernel) (by decide +kernel)
  obtain ⟨M2, e2⟩ : ∃ m : pm_M, m = va_up M1 24 (.inl (0, 40, .inl (fun _ => 0))) := ⟨_, rfl⟩
  rw [← e2] at q8
  refine q8.trans ?_
  have f2_23 : M2 23 = .inr (1, [.null, .int (-1)]) := by rw [e2, vn (show (23 : Nat) ≠ 24 by decide)]; exact f1_23
  have q9 : pX 17 13 [.ref 23, .int 40] [.ref 24, .ref 23] M2 25 (S + 40) = pX 17 16 [.ref 23, .int 40] [] (va_up M2 23 (.inr (1, [.ref 24, .int (-1)]))) 25 (S + 40) := x_putf (ci := 1) (k := 0) (fs := [.null, .int (-1)]) (fs' := [.ref 24, .int (-1)]) (show pm_in 17 13 = some (.putfield 15, 3) from by decide +kernel) (by decide +kernel) f2_23 (by decide) (by decide) (by decide +kernel) (by decide +kernel) (by decide +kernel) rfl
  obtain ⟨M3, e3⟩ : ∃ m : pm_M, m = va_up M2 23 (.inr (1, [.ref 24, .int (-1)])) := ⟨_, rfl⟩
  rw [← e3] at q9
  refine q9.trans ?_
  have f3_23 : M3 23 = .inr (1, [.ref 24, .int (-1)]) := by rw [e3, vs]
  refine Eq.trans (x_return (show pm_in 17 16 = some (.return_, 1) from by decide +kernel) (by decide +kernel)) ?_
  rw [e3, e2, e1]
theorem ini17_25 {M : pm_M} {S : Nat} (h0 : M 25 = .inr (1, [.null, .int 0])) : pX 17 0 [.ref 25, .int 40] [] M 26 S = some (none, va_up (va_up (va_up M 25 (.inr (1, [.null, .int (-1)]))) 26 (.inl (0, 40, .inl (fun _ => 0)))) 25 (.inr (1, [.ref 26, .int (-1)])), 27, S + 40) := by
  refine Eq.trans (x_aload_n (show pm_in 17 0 = some (.aload_n 0, 1) from by decide +kernel) rfl) ?_
  refine Eq.trans (x_obj (q := (0, 0)) (show pm_in 17 1 = some (.invokespecial 3, 3) from by decide +kernel) (by decide +kernel) ⟨Nat.le_of_ble_eq_true rfl, by decide +kernel⟩) ?_
  refine Eq.trans (x_aload_n (show pm_in 17 4 = some (.aload_n 0, 1) from by decide +kernel) rfl) ?_
  refine Eq.trans (x_iconst (v := (-1)) (show pm_in 17 5 = some (.iconst (-1), 1) from by decide +kernel) (by decide)) ?_
  have q5 : pX 17 6 [.ref 25, .int 40] [.int (-1), .ref 25] M 26 (S) = pX 17 9 [.ref 25, .int 40] [] (va_up M 25 (.inr (1, [.null, .int (-1)]))) 26 (S) := x_putf (ci := 1) (k := 1) (fs := [.null, .int 0]) (fs' := [.null, .int (-1)]) (show pm_in 17 6 = some (.putfield 9, 3) from by decide +kernel) (by decide +kernel) h0 (by decide) (by decide) (by decide +kernel) (by decide +kernel) (by decide +kernel) rfl
  obtain ⟨M1, e1⟩ : ∃ m : pm_M, m = va_up M 25 (.inr (1, [.null, .int (-1)])) := ⟨_, rfl⟩
  rw [← e1] at q5
  refine q5.trans ?_
  have f1_25 : M1 25 = .inr (1, [.null, .int (-1)]) := by rw [e1, vs]
  refine Eq.trans (x_aload_n (show pm_in 17 9 = some (.aload_n 0, 1) from by decide +kernel) rfl) ?_
  refine Eq.trans (x_iload_n (show pm_in 17 10 = some (.iload_n 1, 1) from by decide +kernel) rfl) ?_
  have q8 : pX 17 11 [.ref 25, .int 40] [.int 40, .ref 25] M1 26 (S) = pX 17 13 [.ref 25, .int 40] [.ref 26, .ref 25] (va_up M1 26 (.inl (0, 40, .inl (fun _ => 0)))) 27 (S + 40) := x_newI (n := 40) (show pm_in 17 11 = some (.newarray .int, 2) from by decide +kernel) ⟨by decide +kernel, by decide +kernel⟩ (by decide +kernel) (by decide +kernel)
  obtain ⟨M2, e2⟩ : ∃ m : pm_M, m = va_up M1 26 (.inl (0, 40, .inl (fun _ => 0))) := ⟨_, rfl⟩
  rw [← e2] at q8
  refine q8.trans ?_
  have f2_25 : M2 25 = .inr (1, [.null, .int (-1)]) := by rw [e2, vn (show (25 : Nat) ≠ 26 by decide)]; exact f1_25
  have q9 : pX 17 13 [.ref 25, .int 40] [.ref 26, .ref 25] M2 27 (S + 40) = pX 17 16 [.ref 25, .int 40] [] (va_up M2 25 (.inr (1, [.ref 26, .int (-1)]))) 27 (S + 40) := x_putf (ci := 1) (k := 0) (fs := [.null, .int (-1)]) (fs' := [.ref 26, .int (-1)]) (show pm_in 17 13 = some (.putfield 15, 3) from by decide +kernel) (by decide +kernel) f2_25 (by decide) (by decide) (by decide +kernel) (by decide +kernel) (by decide +kernel) rfl
  obtain ⟨M3, e3⟩ : ∃ m : pm_M, m = va_up M2 25 (.inr (1, [.ref 26, .int (-1)])) := ⟨_, rfl⟩
  rw [← e3] at q9
  refine q9.trans ?_
  have f3_25 : M3 25 = .inr (1, [.ref 26, .int (-1)]) := by rw [e3, vs]
  refine Eq.trans (x_return (show pm_in 17 16 = some (.return_, 1) from by decide +kernel) (by decide +kernel)) ?_
  rw [e3, e2, e1]
theorem ini17_27 {M : pm_M} {S : Nat} (h0 : M 27 = .inr (1, [.null, .int 0])) : pX 17 0 [.ref 27, .int 40] [] M 28 S = some (none, va_up (va_up (va_up M 27 (.inr (1, [.null, .int (-1)]))) 28 (.inl (0, 40, .inl (fun _ => 0)))) 27 (.inr (1, [.ref 28, .int (-1)])), 29, S + 40) := by
  refine Eq.trans (x_aload_n (show pm_in 17 0 = some (.aload_n 0, 1) from by decide +kernel) rfl) ?_
  refine Eq.trans (x_obj (q := (0, 0)) (show pm_in 17 1 = some (.invokespecial 3, 3) from by decide +kernel) (by decide +kernel) ⟨Nat.le_of_ble_eq_true rfl, by decide +kernel⟩) ?_
  refine Eq.trans (x_aload_n (show pm_in 17 4 = some (.aload_n 0, 1) from by decide +kernel) rfl) ?_
  refine Eq.trans (x_iconst (v := (-1)) (show pm_in 17 5 = some (.iconst (-1), 1) from by decide +kernel) (by decide)) ?_
  have q5 : pX 17 6 [.ref 27, .int 40] [.int (-1), .ref 27] M 28 (S) = pX 17 9 [.ref 27, .int 40] [] (va_up M 27 (.inr (1, [.null, .int (-1)]))) 28 (S) := x_putf (ci := 1) (k := 1) (fs := [.null, .int 0]) (fs' := [.null, .int (-1)]) (show pm_in 17 6 = some (.putfield 9, 3) from by decide +kernel) (by decide +kernel) h0 (by decide) (by decide) (by decide +kernel) (by decide +kernel) (by decide +kernel) rfl
  obtain ⟨M1, e1⟩ : ∃ m : pm_M, m = va_up M 27 (.inr (1, [.null, .int (-1)])) := ⟨_, rfl⟩
  rw [← e1] at q5
  refine q5.trans ?_
  have f1_27 : M1 27 = .inr (1, [.null, .int (-1)]) := by rw [e1, vs]
  refine Eq.trans (x_aload_n (show pm_in 17 9 = some (.aload_n 0, 1) from by decide +kernel) rfl) ?_
  refine Eq.trans (x_iload_n (show pm_in 17 10 = some (.iload_n 1, 1) from by decide +kernel) rfl) ?_
  have q8 : pX 17 11 [.ref 27, .int 40] [.int 40, .ref 27] M1 28 (S) = pX 17 13 [.ref 27, .int 40] [.ref 28, .ref 27] (va_up M1 28 (.inl (0, 40, .inl (fun _ => 0)))) 29 (S + 40) := x_newI (n := 40) (show pm_in 17 11 = some (.newarray .int, 2) from by decide +kernel) ⟨by decide +kernel, by decide +kernel⟩ (by decide +kernel) (by decide +kernel)
  obtain ⟨M2, e2⟩ : ∃ m : pm_M, m = va_up M1 28 (.inl (0, 40, .inl (fun _ => 0))) := ⟨_, rfl⟩
  rw [← e2] at q8
  refine q8.trans ?_
  have f2_27 : M2 27 = .inr (1, [.null, .int (-1)]) := by rw [e2, vn (show (27 : Nat) ≠ 28 by decide)]; exact f1_27
  have q9 : pX 17 13 [.ref 27, .int 40] [.ref 28, .ref 27] M2 29 (S + 40) = pX 17 16 [.ref 27, .int 40] [] (va_up M2 27 (.inr (1, [.ref 28, .int (-1)]))) 29 (S + 40) := x_putf (ci := 1) (k := 0) (fs := [.null, .int (-1)]) (fs' := [.ref 28, .int (-1)]) (show pm_in 17 13 = some (.putfield 15, 3) from by decide +kernel) (by decide +kernel) f2_27 (by decide) (by decide) (by decide +kernel) (by decide +kernel) (by decide +kernel) rfl
  obtain ⟨M3, e3⟩ : ∃ m : pm_M, m = va_up M2 27 (.inr (1, [.ref 28, .int (-1)])) := ⟨_, rfl⟩
  rw [← e3] at q9
  refine q9.trans ?_
  have f3_27 : M3 27 = .inr (1, [.ref 28, .int (-1)]) := by rw [e3, vs]
  refine Eq.trans (x_return (show pm_in 17 16 = some (.return_, 1) from by decide +kernel) (by decide +kernel)) ?_
  rw [e3, e2, e1]
theorem ini17_29 {M : pm_M} {S : Nat} (h0 : M 29 = .inr (1, [.null, .int 0])) : pX 17 0 [.ref 29, .int 40] [] M 30 S = some (none, va_up (va_up (va_up M 29 (.inr (1, [.null, .int (-1)]))) 30 (.inl (0, 40, .inl (fun _ => 0)))) 29 (.inr (1, [.ref 30, .int (-1)])), 31, S + 40) := by
  refine Eq.trans (x_aload_n (show pm_in 17 0 = some (.aload_n 0, 1) from by decide +kernel) rfl) ?_
  refine Eq.trans (x_obj (q := (0, 0)) (show pm_in 17 1 = some (.invokespecial 3, 3) from by decide +kernel) (by decide +kernel) ⟨Nat.le_of_ble_eq_true rfl, by decide +kernel⟩) ?_
  refine Eq.trans (x_aload_n (show pm_in 17 4 = some (.aload_n 0, 1) from by decide +kernel) rfl) ?_
  refine Eq.trans (x_iconst (v := (-1)) (show pm_in 17 5 = some (.iconst (-1), 1) from by decide +kernel) (by decide)) ?_
  have q5 : pX 17 6 [.ref 29, .int 40] [.int (-1), .ref 29] M 30 (S) = pX 17 9 [.ref 29, .int 40] [] (va_up M 29 (.inr (1, [.null, .int (-1)]))) 30 (S) := x_putf (ci := 1) (k := 1) (fs := [.null, .int 0]) (fs' := [.null, .int (-1)]) (show pm_in 17 6 = some (.putfield 9, 3) from by decide +kernel) (by decide +kernel) h0 (by decide) (by decide) (by decide +kernel) (by decide +kernel) (by decide +kernel) rfl
  obtain ⟨M1, e1⟩ : ∃ m : pm_M, m = va_up M 29 (.inr (1, [.null, .int (-1)])) := ⟨_, rfl⟩
  rw [← e1] at q5
  refine q5.trans ?_
  have f1_29 : M1 29 = .inr (1, [.null, .int (-1)]) := by rw [e1, vs]
  refine Eq.trans (x_aload_n (show pm_in 17 9 = some (.aload_n 0, 1) from by decide +kernel) rfl) ?_
  refine Eq.trans (x_iload_n (show pm_in 17 10 = some (.iload_n 1, 1) from by decide +kernel) rfl) ?_
  have q8 : pX 17 11 [.ref 29, .int 40] [.int 40, .ref 29] M1 30 (S) = pX 17 13 [.ref 29, .int 40] [.ref 30, .ref 29] (va_up M1 30 (.inl (0, 40, .inl (fun _ => 0)))) 31 (S + 40) := x_newI (n := 40) (show pm_in 17 11 = some (.newarray .int, 2) from by decide +kernel) ⟨by decide +kernel, by decide +kernel⟩ (by decide +kernel) (by decide +kernel)
  obtain ⟨M2, e2⟩ : ∃ m : pm_M, m = va_up M1 30 (.inl (0, 40, .inl (fun _ => 0))) := ⟨_, rfl⟩
  rw [← e2] at q8
  refine q8.trans ?_
  have f2_29 : M2 29 = .inr (1, [.null, .int (-1)]) := by rw [e2, vn (show (29 : Nat) ≠ 30 by decide)]; exact f1_29
  have q9 : pX 17 13 [.ref 29, .int 40] [.ref 30, .ref 29] M2 31 (S + 40) = pX 17 16 [.ref 29, .int 40] [] (va_up M2 29 (.inr (1, [.ref 30, .int (-1)]))) 31 (S + 40) := x_putf (ci := 1) (k := 0) (fs := [.null, .int (-1)]) (fs' := [.ref 30, .int (-1)]) (show pm_in 17 13 = some (.putfield 15, 3) from by decide +kernel) (by decide +kernel) f2_29 (by decide) (by decide) (by decide +kernel) (by decide +kernel) (by decide +kernel) rfl
  obtain ⟨M3, e3⟩ : ∃ m : pm_M, m = va_up M2 29 (.inr (1, [.ref 30, .int (-1)])) := ⟨_, rfl⟩
  rw [← e3] at q9
  refine q9.trans ?_
  have f3_29 : M3 29 = .inr (1, [.ref 30, .int (-1)]) := by rw [e3, vs]
  refine Eq.trans (x_return (show pm_in 17 16 = some (.return_, 1) from by decide +kernel) (by decide +kernel)) ?_
  rw [e3, e2, e1]
theorem ini17_31 {M : pm_M} {S : Nat} (h0 : M 31 = .inr (1, [.null, .int 0])) : pX 17 0 [.ref 31, .int 40] [] M 32 S = some (none, va_up (va_up (va_up M 31 (.inr (1, [.null, .int (-1)]))) 32 (.inl (0, 40, .inl (fun _ => 0)))) 31 (.inr (1, [.ref 32, .int (-1)])), 33, S + 40) := by
  refine Eq.trans (x_aload_n (show pm_in 17 0 = some (.aload_n 0, 1) from by decide +kernel) rfl) ?_
  refine Eq.trans (x_obj (q := (0, 0)) (show pm_in 17 1 = some (.invokespecial 3, 3) from by decide +kernel) (by decide +kernel) ⟨Nat.le_of_ble_eq_true rfl, by decide +kernel⟩) ?_
  refine Eq.trans (x_aload_n (show pm_in 17 4 = some (.aload_n 0, 1) from by decide +kernel) rfl) ?_
  refine Eq.trans (x_iconst (v := (-1)) (show pm_in 17 5 = some (.iconst (-1), 1) from by decide +kernel) (by decide)) ?_
  have q5 : pX 17 6 [.ref 31, .int 40] [.int (-1), .ref 31] M 32 (S) = pX 17 9 [.ref 31, .int 40] [] (va_up M 31 (.inr (1, [.null, .int (-1)]))) 32 (S) := x_putf (ci := 1) (k := 1) (fs := [.null, .int 0]) (fs' := [.null, .int (-1)]) (show pm_in 17 6 = some (.putfield 9, 3) from by decide +kernel) (by decide +kernel) h0 (by decide) (by decide) (by decide +kernel) (by decide +kernel) (by decide +kernel) rfl
  obtain ⟨M1, e1⟩ : ∃ m : pm_M, m = va_up M 31 (.inr (1, [.null, .int (-1)])) := ⟨_, rfl⟩
  rw [← e1] at q5
  refine q5.trans ?_
  have f1_31 : M1 31 = .inr (1, [.null, .int (-1)]) := by rw [e1, vs]
  refine Eq.trans (x_aload_n (show pm_in 17 9 = some (.aload_n 0, 1) from by decide +kernel) rfl) ?_
  refine Eq.trans (x_iload_n (show pm_in 17 10 = some (.iload_n 1, 1) from by decide +kernel) rfl) ?_
  have q8 : pX 17 11 [.ref 31, .int 40] [.int 40, .ref 31] M1 32 (S) = pX 17 13 [.ref 31, .int 40] [.ref 32, .ref 31] (va_up M1 32 (.inl (0, 40, .inl (fun _ => 0)))) 33 (S + 40) := x_newI (n := 40) (show pm_in 17 11 = some (.newarray .int, 2) from by decide +kernel) ⟨by decide +kernel, by decide +kernel⟩ (by decide +kernel) (by decide +kernel)
  obtain ⟨M2, e2⟩ : ∃ m : pm_M, m = va_up M1 32 (.inl (0, 40, .inl (fun _ => 0))) := ⟨_, rfl⟩
  rw [← e2] at q8
  refine q8.trans ?_
  have f2_31 : M2 31 = .inr (1, [.null, .int (-1)]) := by rw [e2, vn (show (31 : Nat) ≠ 32 by decide)]; exact f1_31
  have q9 : pX 17 13 [.ref 31, .int 40] [.ref 32, .ref 31] M2 33 (S + 40) = pX 17 16 [.ref 31, .int 40] [] (va_up M2 31 (.inr (1, [.ref 32, .int (-1)]))) 33 (S + 40) := x_putf (ci := 1) (k := 0) (fs := [.null, .int (-1)]) (fs' := [.ref 32, .int (-1)]) (show pm_in 17 13 = some (.putfield 15, 3) from by decide +kernel) (by decide +kernel) f2_31 (by decide) (by decide) (by decide +kernel) (by decide +kernel) (by decide +kernel) rfl
  obtain ⟨M3, e3⟩ : ∃ m : pm_M, m = va_up M2 31 (.inr (1, [.ref 32, .int (-1)])) := ⟨_, rfl⟩
  rw [← e3] at q9
  refine q9.trans ?_
  have f3_31 : M3 31 = .inr (1, [.ref 32, .int (-1)]) := by rw [e3, vs]
  refine Eq.trans (x_return (show pm_in 17 16 = some (.return_, 1) from by decide +kernel) (by decide +kernel)) ?_
  rw [e3, e2, e1]
theorem ini17_33 {M : pm_M} {S : Nat} (h0 : M 33 = .inr (1, [.null, .int 0])) : pX 17 0 [.ref 33, .int 40] [] M 34 S = some (none, va_up (va_up (va_up M 33 (.inr (1, [.null, .int (-1)]))) 34 (.inl (0, 40, .inl (fun _ => 0)))) 33 (.inr (1, [.ref 34, .int (-1)])), 35, S + 40) := by
  refine Eq.trans (x_aload_n (show pm_in 17 0 = some (.aload_n 0, 1) from by decide +kernel) rfl) ?_
  refine Eq.trans (x_obj (q := (0, 0)) (show pm_in 17 1 = some (.invokespecial 3, 3) from by decide +kernel) (by decide +kernel) ⟨Nat.le_of_ble_eq_true rfl, by decide +kernel⟩) ?_
  refine Eq.trans (x_aload_n (show pm_in 17 4 = some (.aload_n 0, 1) from by decide +kernel) rfl) ?_
  refine Eq.trans (x_iconst (v := (-1)) (show pm_in 17 5 = some (.iconst (-1), 1) from by decide +kernel) (by decide)) ?_
  have q5 : pX 17 6 [.ref 33, .int 40] [.int (-1), .ref 33] M 34 (S) = pX 17 9 [.ref 33, .int 40] [] (va_up M 33 (.inr (1, [.null, .int (-1)]))) 34 (S) := x_putf (ci := 1) (k := 1) (fs := [.null, .int 0]) (fs' := [.null, .int (-1)]) (show pm_in 17 6 = some (.putfield 9, 3) from by decide +kernel) (by decide +kernel) h0 (by decide) (by decide) (by decide +kernel) (by decide +kernel) (by decide +kernel) rfl
  obtain ⟨M1, e1⟩ : ∃ m : pm_M, m = va_up M 33 (.inr (1, [.null, .int (-1)])) := ⟨_, rfl⟩
  rw [← e1] at q5
  refine q5.trans ?_
  have f1_33 : M1 33 = .inr (1, [.null, .int (-1)]) := by rw [e1, vs]
  refine Eq.trans (x_aload_n (show pm_in 17 9 = some (.aload_n 0, 1) from by decide +kernel) rfl) ?_
  refine Eq.trans (x_iload_n (show pm_in 17 10 = some (.iload_n 1, 1) from by decide +kernel) rfl) ?_
  have q8 : pX 17 11 [.ref 33, .int 40] [.int 40, .ref 33] M1 34 (S) = pX 17 13 [.ref 33, .int 40] [.ref 34, .ref 33] (va_up M1 34 (.inl (0, 40, .inl (fun _ => 0)))) 35 (S + 40) := x_newI (n := 40) (show pm_in 17 11 = some (.newarray .int, 2) from by decide +kernel) ⟨by decide +kernel, by decide +kernel⟩ (by decide +kernel) (by decide +kernel)
  obtain ⟨M2, e2⟩ : ∃ m : pm_M, m = va_up M1 34 (.inl (0, 40, .inl (fun _ => 0))) := ⟨_, rfl⟩
  rw [← e2] at q8
  refine q8.trans ?_
  have f2_33 : M2 33 = .inr (1, [.null, .int (-1)]) := by rw [e2, vn (show (33 : Nat) ≠ 34 by decide)]; exact f1_33
  have q9 : pX 17 13 [.ref 33, .int 40] [.ref 34, .ref 33] M2 35 (S + 40) = pX 17 16 [.ref 33, .int 40] [] (va_up M2 33 (.inr (1, [.ref 34, .int (-1)]))) 35 (S + 40) := x_putf (ci := 1) (k := 0) (fs := [.null, .int (-1)]) (fs' := [.ref 34, .int (-1)]) (show pm_in 17 13 = some (.putfield 15, 3) from by decide +kernel) (by decide +kernel) f2_33 (by decide) (by decide) (by decide +kernel) (by decide +kernel) (by decide +kernel) rfl
  obtain ⟨M3, e3⟩ : ∃ m : pm_M, m = va_up M2 33 (.inr (1, [.ref 34, .int (-1)])) := ⟨_, rfl⟩
  rw [← e3] at q9
  refine q9.trans ?_
  have f3_33 : M3 33 = .inr (1, [.ref 34, .int (-1)]) := by rw [e3, vs]
  refine Eq.trans (x_return (show pm_in 17 16 = some (.return_, 1) from by decide +kernel) (by decide +kernel)) ?_
  rw [e3, e2, e1]
theorem ini17_35 {M : pm_M} {S : Nat} (h0 : M 35 = .inr (1, [.null, .int 0])) : pX 17 0 [.ref 35, .int 60] [] M 36 S = some (none, va_up (va_up (va_up M 35 (.inr (1, [.null, .int (-1)]))) 36 (.inl (0, 60, .inl (fun _ => 0)))) 35 (.inr (1, [.ref 36, .int (-1)])), 37, S + 60) := by
  refine Eq.trans (x_aload_n (show pm_in 17 0 = some (.aload_n 0, 1) from by decide +kernel) rfl) ?_
  refine Eq.trans (x_obj (q := (0, 0)) (show pm_in 17 1 = some (.invokespecial 3, 3) from by decide +kernel) (by decide +kernel) ⟨Nat.le_of_ble_eq_true rfl, by decide +kernel⟩) ?_
  refine Eq.trans (x_aload_n (show pm_in 17 4 = some (.aload_n 0, 1) from by decide +kernel) rfl) ?_
  refine Eq.trans (x_iconst (v := (-1)) (show pm_in 17 5 = some (.iconst (-1), 1) from by decide +kernel) (by decide)) ?_
  have q5 : pX 17 6 [.ref 35, .int 60] [.int (-1), .ref 35] M 36 (S) = pX 17 9 [.ref 35, .int 60] [] (va_up M 35 (.inr (1, [.null, .int (-1)]))) 36 (S) := x_putf (ci := 1) (k := 1) (fs := [.null, .int 0]) (fs' := [.null, .int (-1)]) (show pm_in 17 6 = some (.putfield 9, 3) from by decide +kernel) (by decide +kernel) h0 (by decide) (by decide) (by decide +kernel) (by decide +kernel) (by decide +kernel) rfl
  obtain ⟨M1, e1⟩ : ∃ m : pm_M, m = va_up M 35 (.inr (1, [.null, .int (-1)])) := ⟨_, rfl⟩
  rw [← e1] at q5
  refine q5.trans ?_
  have f1_35 : M1 35 = .inr (1, [.null, .int (-1)]) := by rw [e1, vs]
  refine Eq.trans (x_aload_n (show pm_in 17 9 = some (.aload_n 0, 1) from by decide +kernel) rfl) ?_
  refine Eq.trans (x_iload_n (show pm_in 17 10 = some (.iload_n 1, 1) from by decide +kernel) rfl) ?_
  have q8 : pX 17 11 [.ref 35, .int 60] [.int 60, .ref 35] M1 36 (S) = pX 17 13 [.ref 35, .int 60] [.ref 36, .ref 35] (va_up M1 36 (.inl (0, 60, .inl (fun _ => 0)))) 37 (S + 60) := x_newI (n := 60) (show pm_in 17 11 = some (.newarray .int, 2) from by decide +kernel) ⟨by decide +kernel, by decide +kernel⟩ (by decide +kernel) (by decide +kernel)
  obtain ⟨M2, e2⟩ : ∃ m : pm_M, m = va_up M1 36 (.inl (0, 60, .inl (fun _ => 0))) := ⟨_, rfl⟩
  rw [← e2] at q8
  refine q8.trans ?_
  have f2_35 : M2 35 = .inr (1, [.null, .int (-1)]) := by rw [e2, vn (show (35 : Nat) ≠ 36 by decide)]; exact f1_35
  have q9 : pX 17 13 [.ref 35, .int 60] [.ref 36, .ref 35] M2 37 (S + 60) = pX 17 16 [.ref 35, .int 60] [] (va_up M2 35 (.inr (1, [.ref 36, .int (-1)]))) 37 (S + 60) := x_putf (ci := 1) (k := 0) (fs := [.null, .int (-1)]) (fs' := [.ref 36, .int (-1)]) (show pm_in 17 13 = some (.putfield 15, 3) from by decide +kernel) (by decide +kernel) f2_35 (by decide) (by decide) (by decide +kernel) (by decide +kernel) (by decide +kernel) rfl
  obtain ⟨M3, e3⟩ : ∃ m : pm_M, m = va_up M2 35 (.inr (1, [.ref 36, .int (-1)])) := ⟨_, rfl⟩
  rw [← e3] at q9
  refine q9.trans ?_
  have f3_35 : M3 35 = .inr (1, [.ref 36, .int (-1)]) := by rw [e3, vs]
  refine Eq.trans (x_return (show pm_in 17 16 = some (.return_, 1) from by decide +kernel) (by decide +kernel)) ?_
  rw [e3, e2, e1]
theorem ini17_37 {M : pm_M} {S : Nat} (h0 : M 37 = .inr (1, [.null, .int 0])) : pX 17 0 [.ref 37, .int 60] [] M 38 S = some (none, va_up (va_up (va_up M 37 (.inr (1, [.null, .int (-1)]))) 38 (.inl (0, 60, .inl (fun _ => 0)))) 37 (.inr (1, [.ref 38, .int (-1)])), 39, S + 60) := by
  refine Eq.trans (x_aload_n (show pm_in 17 0 = some (.aload_n 0, 1) from by decide +kernel) rfl) ?_
  refine Eq.trans (x_obj (q := (0, 0)) (show pm_in 17 1 = some (.invokespecial 3, 3) from by decide +kernel) (by decide +kernel) ⟨Nat.le_of_ble_eq_true rfl, by decide +kernel⟩) ?_
  refine Eq.trans (x_aload_n (show pm_in 17 4 = some (.aload_n 0, 1) from by decide +kernel) rfl) ?_
  refine Eq.trans (x_iconst (v := (-1)) (show pm_in 17 5 = some (.iconst (-1), 1) from by decide +kernel) (by decide)) ?_
  have q5 : pX 17 6 [.ref 37, .int 60] [.int (-1), .ref 37] M 38 (S) = pX 17 9 [.ref 37, .int 60] [] (va_up M 37 (.inr (1, [.null, .int (-1)]))) 38 (S) := x_putf (ci := 1) (k := 1) (fs := [.null, .int 0]) (fs' := [.null, .int (-1)]) (show pm_in 17 6 = some (.putfield 9, 3) from by decide +kernel) (by decide +kernel) h0 (by decide) (by decide) (by decide +kernel) (by decide +kernel) (by decide +kernel) rfl
  obtain ⟨M1, e1⟩ : ∃ m : pm_M, m = va_up M 37 (.inr (1, [.null, .int (-1)])) := ⟨_, rfl⟩
  rw [← e1] at q5
  refine q5.trans ?_
  have f1_37 : M1 37 = .inr (1, [.null, .int (-1)]) := by rw [e1, vs]
  refine Eq.trans (x_aload_n (show pm_in 17 9 = some (.aload_n 0, 1) from by decide +kernel) rfl) ?_
  refine Eq.trans (x_iload_n (show pm_in 17 10 = some (.iload_n 1, 1) from by decide +kernel) rfl) ?_
  have q8 : pX 17 11 [.ref 37, .int 60] [.int 60, .ref 37] M1 38 (S) = pX 17 13 [.ref 37, .int 60] [.ref 38, .ref 37] (va_up M1 38 (.inl (0, 60, .inl (fun _ => 0)))) 39 (S + 60) := x_newI (n := 60) (show pm_in 17 11 = some (.newarray .int, 2) from by decide +kernel) ⟨by decide +kernel, by decide +kernel⟩ (by decide +kernel) (by decide +kernel)
  obtain ⟨M2, e2⟩ : ∃ m : pm_M, m = va_up M1 38 (.inl (0, 60, .inl (fun _ => 0))) := ⟨_, rfl⟩
  rw [← e2] at q8
  refine q8.trans ?_
  have f2_37 : M2 37 = .inr (1, [.null, .int (-1)]) := by rw [e2, vn (show (37 : Nat) ≠ 38 by decide)]; exact f1_37
  have q9 : pX 17 13 [.ref 37, .int 60] [.ref 38, .ref 37] M2 39 (S + 60) = pX 17 16 [.ref 37, .int 60] [] (va_up M2 37 (.inr (1, [.ref 38, .int (-1)]))) 39 (S + 60) := x_putf (ci := 1) (k := 0) (fs := [.null, .int (-1)]) (fs' := [.ref 38, .int (-1)]) (show pm_in 17 13 = some (.putfield 15, 3) from by decide +kernel) (by decide +kernel) f2_37 (by decide) (by decide) (by decide +kernel) (by decide +kernel) (by decide +kernel) rfl
  obtain ⟨M3, e3⟩ : ∃ m : pm_M, m = va_up M2 37 (.inr (1, [.ref 38, .int (-1)])) := ⟨_, rfl⟩
  rw [← e3] at q9
  refine q9.trans ?_
  have f3_37 : M3 37 = .inr (1, [.ref 38, .int (-1)]) := by rw [e3, vs]
  refine Eq.trans (x_return (show pm_in 17 16 = some (.return_, 1) from by decide +kernel) (by decide +kernel)) ?_
  rw [e3, e2, e1]
theorem ini17_39 {M : pm_M} {S : Nat} (h0 : M 39 = .inr (1, [.null, .int 0])) : pX 17 0 [.ref 39, .int 60] [] M 40 S = some (none, va_up (va_up (va_up M 39 (.inr (1, [.null, .int (-1)]))) 40 (.inl (0, 60, .inl (fun _ => 0)))) 39 (.inr (1, [.ref 40, .int (-1)])), 41, S + 60) := by
  refine Eq.trans (x_aload_n (show pm_in 17 0 = some (.aload_n 0, 1) from by decide +kernel) rfl) ?_
  refine Eq.trans (x_obj (q := (0, 0)) (show pm_in 17 1 = some (.invokespecial 3, 3) from by decide +kernel) (by decide +kernel) ⟨Nat.le_of_ble_eq_true rfl, by decide +kernel⟩) ?_
  refine Eq.trans (x_aload_n (show pm_in 17 4 = some (.aload_n 0, 1) from by decide +kernel) rfl) ?_
  refine Eq.trans (x_iconst (v := (-1)) (show pm_in 17 5 = some (.iconst (-1), 1) from by decide +kernel) (by decide)) ?_
  have q5 : pX 17 6 [.ref 39, .int 60] [.int (-1), .ref 39] M 40 (S) = pX 17 9 [.ref 39, .int 60] [] (va_up M 39 (.inr (1, [.null, .int (-1)]))) 40 (S) := x_putf (ci := 1) (k := 1) (fs := [.null, .int 0]) (fs' := [.null, .int (-1)]) (show pm_in 17 6 = some (.putfield 9, 3) from by decide +kernel) (by decide +kernel) h0 (by decide) (by decide) (by decide +kernel) (by decide +kernel) (by decide +kernel) rfl
  obtain ⟨M1, e1⟩ : ∃ m : pm_M, m = va_up M 39 (.inr (1, [.null, .int (-1)])) := ⟨_, rfl⟩
  rw [← e1] at q5
  refine q5.trans ?_
  have f1_39 : M1 39 = .inr (1, [.null, .int (-1)]) := by rw [e1, vs]
  refine Eq.trans (x_aload_n (show pm_in 17 9 = some (.aload_n 0, 1) from by decide +kernel) rfl) ?_
  refine Eq.trans (x_iload_n (show pm_in 17 10 = some (.iload_n 1, 1) from by decide +kernel) rfl) ?_
  have q8 : pX 17 11 [.ref 39, .int 60] [.int 60, .ref 39] M1 40 (S) = pX 17 13 [.ref 39, .int 60] [.ref 40, .ref 39] (va_up M1 40 (.inl (0, 60, .inl (fun _ => 0)))) 41 (S + 60) := x_newI (n := 60) (show pm_in 17 11 = some (.newarray .int, 2) from by decide +kernel) ⟨by decide +kernel, by decide +kernel⟩ (by decide +kernel) (by decide +kernel)
  obtain ⟨M2, e2⟩ : ∃ m : pm_M, m = va_up M1 40 (.inl (0, 60, .inl (fun _ => 0))) := ⟨_, rfl⟩
  rw [← e2] at q8
  refine q8.trans ?_
  have f2_39 : M2 39 = .inr (1, [.null, .int (-1)]) := by rw [e2, vn (show (39 : Nat) ≠ 40 by decide)]; exact f1_39
  have q9 : pX 17 13 [.ref 39, .int 60] [.ref 40, .ref 39] M2 41 (S + 60) = pX 17 16 [.ref 39, .int 60] [] (va_up M2 39 (.inr (1, [.ref 40, .int (-1)]))) 41 (S + 60) := x_putf (ci := 1) (k := 0) (fs := [.null, .int (-1)]) (fs' := [.ref 40, .int (-1)]) (show pm_in 17 13 = some (.putfield 15, 3) from by decide +kernel) (by decide +kernel) f2_39 (by decide) (by decide) (by decide +kernel) (by decide +kernel) (by decide +kernel) rfl
  obtain ⟨M3, e3⟩ : ∃ m : pm_M, m = va_up M2 39 (.inr (1, [.ref 40, .int (-1)])) := ⟨_, rfl⟩
  rw [← e3] at q9
  refine q9.trans ?_
  have f3_39 : M3 39 = .inr (1, [.ref 40, .int (-1)]) := by rw [e3, vs]
  refine Eq.trans (x_return (show pm_in 17 16 = some (.return_, 1) from by decide +kernel) (by decide +kernel)) ?_
  rw [e3, e2, e1]
theorem ini17_41 {M : pm_M} {S : Nat} (h0 : M 41 = .inr (1, [.null, .int 0])) : pX 17 0 [.ref 41, .int 60] [] M 42 S = some (none, va_up (va_up (va_up M 41 (.inr (1, [.null, .int (-1)]))) 42 (.inl (0, 60, .inl (fun _ => 0)))) 41 (.inr (1, [.ref 42, .int (-1)])), 43, S + 60) := by
  refine Eq.trans (x_aload_n (show pm_in 17 0 = some (.aload_n 0, 1) from by decide +kernel) rfl) ?_
  refine Eq.trans (x_obj (q := (0, 0)) (show pm_in 17 1 = some (.invokespecial 3, 3) from by decide +kernel) (by decide +kernel) ⟨Nat.le_of_ble_eq_true rfl, by decide +kernel⟩) ?_
  refine Eq.trans (x_aload_n (show pm_in 17 4 = some (.aload_n 0, 1) from by decide +kernel) rfl) ?_
  refine Eq.trans (x_iconst (v := (-1)) (show pm_in 17 5 = some (.iconst (-1), 1) from by decide +kernel) (by decide)) ?_
  have q5 : pX 17 6 [.ref 41, .int 60] [.int (-1), .ref 41] M 42 (S) = pX 17 9 [.ref 41, .int 60] [] (va_up M 41 (.inr (1, [.null, .int (-1)]))) 42 (S) := x_putf (ci := 1) (k := 1) (fs := [.null, .int 0]) (fs' := [.null, .int (-1)]) (show pm_in 17 6 = some (.putfield 9, 3) from by decide +kernel) (by decide +kernel) h0 (by decide) (by decide) (by decide +kernel) (by decide +kernel) (by decide +kernel) rfl
  obtain ⟨M1, e1⟩ : ∃ m : pm_M, m = va_up M 41 (.inr (1, [.null, .int (-1)])) := ⟨_, rfl⟩
  rw [← e1] at q5
  refine q5.trans ?_
  have f1_41 : M1 41 = .inr (1, [.null, .int (-1)]) := by rw [e1, vs]
  refine Eq.trans (x_aload_n (show pm_in 17 9 = some (.aload_n 0, 1) from by decide +kernel) rfl) ?_
  refine Eq.trans (x_iload_n (show pm_in 17 10 = some (.iload_n 1, 1) from by decide +kernel) rfl) ?_
  have q8 : pX 17 11 [.ref 41, .int 60] [.int 60, .ref 41] M1 42 (S) = pX 17 13 [.ref 41, .int 60] [.ref 42, .ref 41] (va_up M1 42 (.inl (0, 60, .inl (fun _ => 0)))) 43 (S + 60) := x_newI (n := 60) (show pm_in 17 11 = some (.newarray .int, 2) from by decide +kernel) ⟨by decide +kernel, by decide +kernel⟩ (by decide +kernel) (by decide +kernel)
  obtain ⟨M2, e2⟩ : ∃ m : pm_M, m = va_up M1 42 (.inl (0, 60, .inl (fun _ => 0))) := ⟨_, rfl⟩
  rw [← e2] at q8
  refine q8.trans ?_
  have f2_41 : M2 41 = .inr (1, [.null, .int (-1)]) := by rw [e2, vn (show (41 : Nat) ≠ 42 by decide)]; exact f1_41
  have q9 : pX 17 13 [.ref 41, .int 60] [.ref 42, .ref 41] M2 43 (S + 60) = pX 17 16 [.ref 41, .int 60] [] (va_up M2 41 (.inr (1, [.ref 42, .int (-1)]))) 43 (S + 60) := x_putf (ci := 1) (k := 0) (fs := [.null, .int (-1)]) (fs' := [.ref 42, .int (-1)]) (show pm_in 17 13 = some (.putfield 15, 3) from by decide +kernel) (by decide +kernel) f2_41 (by decide) (by decide) (by decide +kernel) (by decide +kernel) (by decide +kernel) rfl
  obtain ⟨M3, e3⟩ : ∃ m : pm_M, m = va_up M2 41 (.inr (1, [.ref 42, .int (-1)])) := ⟨_, rfl⟩
  rw [← e3] at q9
  refine q9.trans ?_
  have f3_41 : M3 41 = .inr (1, [.ref 42, .int (-1)]) := by rw [e3, vs]
  refine Eq.trans (x_return (show pm_in 17 16 = some (.return_, 1) from by decide +kernel) (by decide +kernel)) ?_
  rw [e3, e2, e1]
theorem ini30_44 {M : pm_M} {S : Nat} (h0 : M 44 = .inr (3, [.null, .null, .null, .int 0, .int 0, .int 0])) : pX 30 0 [.ref 44] [] M 45 S = some (none, va_up (va_up (va_up (va_up (va_up (va_up M 45 (.inl (0, 6, .inl (fun _ => 0)))) 44 (.inr (3, [.ref 45, .null, .null, .int 0, .int 0, .int 0]))) 46 (.inl (0, 6, .inl (fun _ => 0)))) 44 (.inr (3, [.ref 45, .ref 46, .null, .int 0, .int 0, .int 0]))) 47 (.inl (0, 7, .inl (fun _ => 0)))) 44 (.inr (3, [.ref 45, .ref 46, .ref 47, .int 0, .int 0, .int 0])), 48, S + 6 + 6 + 7) := by
  refine Eq.trans (x_aload_n (show pm_in 30 0 = some (.aload_n 0, 1) from by decide +kernel) rfl) ?_
  refine Eq.trans (x_obj (q := (0, 0)) (show pm_in 30 1 = some (.invokespecial 3, 3) from by decide +kernel) (by decide +kernel) ⟨Nat.le_of_ble_eq_true rfl, by decide +kernel⟩) ?_
  refine Eq.trans (x_aload_n (show pm_in 30 4 = some (.aload_n 0, 1) from by decide +kernel) rfl) ?_
  refine Eq.trans (x_bipush (v := 6) (show pm_in 30 5 = some (.bipush 6, 2) from by decide +kernel) (by decide)) ?_
  have q5 : pX 30 7 [.ref 44] [.int 6, .ref 44] M 45 (S) = pX 30 9 [.ref 44] [.ref 45, .ref 44] (va_up M 45 (.inl (0, 6, .inl (fun _ => 0)))) 46 (S + 6) := x_newI (n := 6) (show pm_in 30 7 = some (.newarray .int, 2) from by decide +kernel) ⟨by decide +kernel, by decide +kernel⟩ (by decide +kernel) (by decide +kernel)
  obtain ⟨M1, e1⟩ : ∃ m : pm_M, m = va_up M 45 (.inl (0, 6, .inl (fun _ => 0))) := ⟨_, rfl⟩
  rw [← e1] at q5
  refine q5.trans ?_
  have f1_44 : M1 44 = .inr (3, [.null, .null, .null, .int 0, .int 0, .int 0]) := by rw [e1, vn (show (44 : Nat) ≠ 45 by decide)]; exact h0
  have q6 : pX 30 9 [.ref 44] [.ref 45, .ref 44] M1 46 (S + 6) = pX 30 12 [.ref 44] [] (va_up M1 44 (.inr (3, [.ref 45, .null, .null, .int 0, .int 0, .int 0]))) 46 (S + 6) := x_putf (ci := 3) (k := 0) (fs := [.null, .null, .null, .int 0, .int 0, .int 0]) (fs' := [.ref 45, .null, .null, .int 0, .int 0, .int 0]) (show pm_in 30 9 = some (.putfield 9, 3) from by decide +kernel) (by decide +kernel) f1_44 (by decide) (by decide) (by decide +kernel) (by decide +kernel) (by decide +kernel) rfl
  obtain ⟨M2, e2⟩ : ∃ m : pm_M, m = va_up M1 44 (.inr (3, [.ref 45, .null, .null, .int 0, .int 0, .int 0])) := ⟨_, rfl⟩
  rw [← e2] at q6
  refine q6.trans ?_
  have f2_44 : M2 44 = .inr (3, [.ref 45, .null, .null, .int 0, .int 0, .int 0]) := by rw [e2, vs]
  refine Eq.trans (x_aload_n (show pm_in 30 12 = some (.aload_n 0, 1) from by decide +kernel) rfl) ?_
  refine Eq.trans (x_bipush (v := 6) (show pm_in 30 13 = some (.bipush 6, 2) from by decide +kernel) (by decide)) ?_
  have q9 : pX 30 15 [.ref 44] [.int 6, .ref 44] M2 46 (S + 6) = pX 30 17 [.ref 44] [.ref 46, .ref 44] (va_up M2 46 (.inl (0, 6, .inl (fun _ => 0)))) 47 (S + 6 + 6) := x_newI (n := 6) (show pm_in 30 15 = some (.newarray .int, 2) from by decide +kernel) ⟨by decide +kernel, by decide +kernel⟩ (by decide +kernel) (by decide +kernel)
  obtain ⟨M3, e3⟩ : ∃ m : pm_M, m = va_up M2 46 (.inl (0, 6, .inl (fun _ => 0))) := ⟨_, rfl⟩
  rw [← e3] at q9
  refine q9.trans ?_
  have f3_44 : M3 44 = .inr (3, [.ref 45, .null, .null, .int 0, .int 0, .int 0]) := by rw [e3, vn (show (44 : Nat) ≠ 46 by decide)]; exact f2_44
  have q10 : pX 30 17 [.ref 44] [.ref 46, .ref 44] M3 47 (S + 6 + 6) = pX 30 20 [.ref 44] [] (va_up M3 44 (.inr (3, [.ref 45, .ref 46, .null, .int 0, .int 0, .int 0]))) 47 (S + 6 + 6) := x_putf (ci := 3) (k := 1) (fs := [.ref 45, .null, .null, .int 0, .int 0, .int 0]) (fs' := [.ref 45, .ref 46, .null, .int 0, .int 0, .int 0]) (show pm_in 30 17 = some (.putfield 15, 3) from by decide +kernel) (by decide +kernel) f3_44 (by decide) (by decide) (by decide +kernel) (by decide +kernel) (by decide +kernel) rfl
  obtain ⟨M4, e4⟩ : ∃ m : pm_M, m = va_up M3 44 (.inr (3, [.ref 45, .ref 46, .null, .int 0, .int 0, .int 0])) := ⟨_, rfl⟩
  rw [← e4] at q10
  refine q10.trans ?_
  have f4_44 : M4 44 = .inr (3, [.ref 45, .ref 46, .null, .int 0, .int 0, .int 0]) := by rw [e4, vs]
  refine Eq.trans (x_aload_n (show pm_in 30 20 = some (.aload_n 0, 1) from by decide +kernel) rfl) ?_
  refine Eq.trans (x_bipush (v := 7) (show pm_in 30 21 = some (.bipush 7, 2) from by decide +kernel) (by decide)) ?_
  have q13 : pX 30 23 [.ref 44] [.int 7, .ref 44] M4 47 (S + 6 + 6) = pX 30 25 [.ref 44] [.ref 47, .ref 44] (va_up M4 47 (.inl (0, 7, .inl (fun _ => 0)))) 48 (S + 6 + 6 + 7) := x_newI (n := 7) (show pm_in 30 23 = some (.newarray .int, 2) from by decide +kernel) ⟨by decide +kernel, by decide +kernel⟩ (by decide +kernel) (by decide +kernel)
  obtain ⟨M5, e5⟩ : ∃ m : pm_M, m = va_up M4 47 (.inl (0, 7, .inl (fun _ => 0))) := ⟨_, rfl⟩
  rw [← e5] at q13
  refine q13.trans ?_
  have f5_44 : M5 44 = .inr (3, [.ref 45, .ref 46, .null, .int 0, .int 0, .int 0]) := by rw [e5, vn (show (44 : Nat) ≠ 47 by decide)]; exact f4_44
  have q14 : pX 30 25 [.ref 44] [.ref 47, .ref 44] M5 48 (S + 6 + 6 + 7) = pX 30 28 [.ref 44] [] (va_up M5 44 (.inr (3, [.ref 45, .ref 46, .ref 47, .int 0, .int 0, .int 0]))) 48 (S + 6 + 6 + 7) := x_putf (ci := 3) (k := 2) (fs := [.ref 45, .ref 46, .null, .int 0, .int 0, .int 0]) (fs' := [.ref 45, .ref 46, .ref 47, .int 0, .int 0, .int 0]) (show pm_in 30 25 = some (.putfield 18, 3) from by decide +kernel) (by decide +kernel) f5_44 (by decide) (by decide) (by decide +kernel) (by decide +kernel) (by decide +kernel) rfl
  obtain ⟨M6, e6⟩ : ∃ m : pm_M, m = va_up M5 44 (.inr (3, [.ref 45, .ref 46, .ref 47, .int 0, .int 0, .int 0])) := ⟨_, rfl⟩
  rw [← e6] at q14
  refine q14.trans ?_
  have f6_44 : M6 44 = .inr (3, [.ref 45, .ref 46, .ref 47, .int 0, .int 0, .int 0]) := by rw [e6, vs]
  refine Eq.trans (x_return (show pm_in 30 28 = some (.return_, 1) from by decide +kernel) (by decide +kernel)) ?_
  rw [e6, e5, e4, e3, e2, e1]
theorem ini0_43 {M : pm_M} {S : Nat} (h0 : M 43 = .inr (0, [.null, .null, .null, .null, .int 0])) : pX 0 0 [.ref 43] [] M 44 S = some (none, va_up (va_up (va_up (va_up (va_up (va_up (va_up (va_up (va_up (va_up (va_up (va_up (va_up (va_up M 44 (.inr (3, [.null, .null, .null, .int 0, .int 0, .int 0]))) 45 (.inl (0, 6, .inl (fun _ => 0)))) 44 (.inr (3, [.ref 45, .null, .null, .int 0, .int 0, .int 0]))) 46 (.inl (0, 6, .inl (fun _ => 0)))) 44 (.inr (3, [.ref 45, .ref 46, .null, .int 0, .int 0, .int 0]))) 47 (.inl (0, 7, .inl (fun _ => 0)))) 44 (.inr (3, [.ref 45, .ref 46, .ref 47, .int 0, .int 0, .int 0]))) 43 (.inr (0, [.ref 44, .null, .null, .null, .int 0]))) 48 (.inl (0, 280, .inl (fun _ => 0)))) 43 (.inr (0, [.ref 44, .ref 48, .null, .null, .int 0]))) 49 (.inl (0, 40, .inl (fun _ => 0)))) 43 (.inr (0, [.ref 44, .ref 48, .ref 49, .null, .int 0]))) 50 (.inl (0, 40, .inl (fun _ => 0)))) 43 (.inr (0, [.ref 44, .ref 48, .ref 49, .ref 50, .int 0])), 51, S + 6 + 6 + 6 + 7 + 280 + 40 + 40) := by
  refine Eq.trans (x_aload_n (show pm_in 0 0 = some (.aload_n 0, 1) from by decide +kernel) rfl) ?_
  refine Eq.trans (x_obj (q := (0, 0)) (show pm_in 0 1 = some (.invokespecial 3, 3) from by decide +kernel) (by decide +kernel) ⟨Nat.le_of_ble_eq_true rfl, by decide +kernel⟩) ?_
  refine Eq.trans (x_aload_n (show pm_in 0 4 = some (.aload_n 0, 1) from by decide +kernel) rfl) ?_
  have q4 : pX 0 5 [.ref 43] [.ref 43] M 44 (S) = pX 0 8 [.ref 43] [.ref 44, .ref 43] (va_up M 44 (.inr (3, [.null, .null, .null, .int 0, .int 0, .int 0]))) 45 (S + 6) := x_new (ci := 3) (k := 6) (show pm_in 0 5 = some (.new 9, 3) from by decide +kernel) (by decide +kernel) rfl rfl (by decide +kernel)
  obtain ⟨M1, e1⟩ : ∃ m : pm_M, m = va_up M 44 (.inr (3, [.null, .null, .null, .int 0, .int 0, .int 0])) := ⟨_, rfl⟩
  rw [← e1] at q4
  refine q4.trans ?_
  have f1_43 : M1 43 = .inr (0, [.null, .null, .null, .null, .int 0]) := by rw [e1, vn (show (43 : Nat) ≠ 44 by decide)]; exact h0
  have f1_44 : M1 44 = .inr (3, [.null, .null, .null, .int 0, .int 0, .int 0]) := by rw [e1, vs]
  refine Eq.trans (x_dup (show pm_in 0 8 = some (.dup, 1) from by decide +kernel) rfl) ?_
  have q6 : pX 0 9 [.ref 43] [.ref 44, .ref 44, .ref 43] M1 45 (S + 6) = pX 0 12 [.ref 43] [.ref 44, .ref 43] (va_up (va_up (va_up (va_up (va_up (va_up M1 45 (.inl (0, 6, .inl (fun _ => 0)))) 44 (.inr (3, [.ref 45, .null, .null, .int 0, .int 0, .int 0]))) 46 (.inl (0, 6, .inl (fun _ => 0)))) 44 (.inr (3, [.ref 45, .ref 46, .null, .int 0, .int 0, .int 0]))) 47 (.inl (0, 7, .inl (fun _ => 0)))) 44 (.inr (3, [.ref 45, .ref 46, .ref 47, .int 0, .int 0, .int 0]))) 48 (S + 6 + 6 + 6 + 7) := x_callI (y' := 30) (k := 0) (kd := 4) (b := 44) (as := []) (st' := [.ref 44, .ref 43]) (show pm_in 0 9 = some (.invokespecial 11, 3) from by decide +kernel) (by decide +kernel) (by decide) rfl rfl (by decide +kernel) (Nat.le_of_ble_eq_true rfl) (by decide +kernel) (by decide +kernel) rfl (by decide +kernel) (by decide +kernel) (ini30_44 (M := M1) (S := S + 6) f1_44)
  obtain ⟨M2, e2⟩ : ∃ m : pm_M, m = va_up (va_up (va_up (va_up (va_up (va_up M1 45 (.inl (0, 6, .inl (fun _ => 0)))) 44 (.inr (3, [.ref 45, .null, .null, .int 0, .int 0, .int 0]))) 46 (.inl (0, 6, .inl (fun _ => 0)))) 44 (.inr (3, [.ref 45, .ref 46, .null, .int 0, .int 0, .int 0]))) 47 (.inl (0, 7, .inl (fun _ => 0)))) 44 (.inr (3, [.ref 45, .ref 46, .ref 47, .int 0, .int 0, .int 0])) := ⟨_, rfl⟩
  rw [← e2] at q6
  refine q6.trans ?_
  have f2_43 : M2 43 = .inr (0, [.null, .null, .null, .null, .int 0]) := by rw [e2, vn (show (43 : Nat) ≠ 44 by decide), vn (show (43 : Nat) ≠ 47 by decide), vn (show (43 : Nat) ≠ 44 by decide), vn (show (43 : Nat) ≠ 46 by decide), vn (show (43 : Nat) ≠ 44 by decide), vn (show (43 : Nat) ≠ 45 by decide)]; exact f1_43
  have f2_44 : M2 44 = .inr (3, [.ref 45, .ref 46, .ref 47, .int 0, .int 0, .int 0]) := by rw [e2, vs]
  have q7 : pX 0 12 [.ref 43] [.ref 44, .ref 43] M2 48 (S + 6 + 6 + 6 + 7) = pX 0 15 [.ref 43] [] (va_up M2 43 (.inr (0, [.ref 44, .null, .null, .null, .int 0]))) 48 (S + 6 + 6 + 6 + 7) := x_putf (ci := 0) (k := 0) (fs := [.null, .null, .null, .null, .int 0]) (fs' := [.ref 44, .null, .null, .null, .int 0]) (show pm_in 0 12 = some (.putfield 12, 3) from by decide +kernel) (by decide +kernel) f2_43 (by decide) (by decide) (by decide +kernel) (by decide +kernel) (by decide +kernel) rfl
  obtain ⟨M3, e3⟩ : ∃ m : pm_M, m = va_up M2 43 (.inr (0, [.ref 44, .null, .null, .null, .int 0])) := ⟨_, rfl⟩
  rw [← e3] at q7
  refine q7.trans ?_
  have f3_43 : M3 43 = .inr (0, [.ref 44, .null, .null, .null, .int 0]) := by rw [e3, vs]
  have f3_44 : M3 44 = .inr (3, [.ref 45, .ref 46, .ref 47, .int 0, .int 0, .int 0]) := by rw [e3, vn (show (44 : Nat) ≠ 43 by decide)]; exact f2_44
  refine Eq.trans (x_aload_n (show pm_in 0 15 = some (.aload_n 0, 1) from by decide +kernel) rfl) ?_
  refine Eq.trans (x_sipush (v := 280) (show pm_in 0 16 = some (.sipush 280, 3) from by decide +kernel) (by decide)) ?_
  have q10 : pX 0 19 [.ref 43] [.int 280, .ref 43] M3 48 (S + 6 + 6 + 6 + 7) = pX 0 21 [.ref 43] [.ref 48, .ref 43] (va_up M3 48 (.inl (0, 280, .inl (fun _ => 0)))) 49 (S + 6 + 6 + 6 + 7 + 280) := x_newI (n := 280) (show pm_in 0 19 = some (.newarray .int, 2) from by decide +kernel) ⟨by decide +kernel, by decide +kernel⟩ (by decide +kernel) (by decide +kernel)
  obtain ⟨M4, e4⟩ : ∃ m : pm_M, m = va_up M3 48 (.inl (0, 280, .inl (fun _ => 0))) := ⟨_, rfl⟩
  rw [← e4] at q10
  refine q10.trans ?_
  have f4_43 : M4 43 = .inr (0, [.ref 44, .null, .null, .null, .int 0]) := by rw [e4, vn (show (43 : Nat) ≠ 48 by decide)]; exact f3_43
  have f4_44 : M4 44 = .inr (3, [.ref 45, .ref 46, .ref 47, .int 0, .int 0, .int 0]) := by rw [e4, vn (show (44 : Nat) ≠ 48 by decide)]; exact f3_44
  have q11 : pX 0 21 [.ref 43] [.ref 48, .ref 43] M4 49 (S + 6 + 6 + 6 + 7 + 280) = pX 0 24 [.ref 43] [] (va_up M4 43 (.inr (0, [.ref 44, .ref 48, .null, .null, .int 0]))) 49 (S + 6 + 6 + 6 + 7 + 280) := x_putf (ci := 0) (k := 1) (fs := [.ref 44, .null, .null, .null, .int 0]) (fs' := [.ref 44, .ref 48, .null, .null, .int 0]) (show pm_in 0 21 = some (.putfield 18, 3) from by decide +kernel) (by decide +kernel) f4_43 (by decide) (by decide) (by decide +kernel) (by decide +kernel) (by decide +kernel) rfl
  obtain ⟨M5, e5⟩ : ∃ m : pm_M, m = va_up M4 43 (.inr (0, [.ref 44, .ref 48, .null, .null, .int 0])) := ⟨_, rfl⟩
  rw [← e5] at q11
  refine q11.trans ?_
  have f5_43 : M5 43 = .inr (0, [.ref 44, .ref 48, .null, .null, .int 0]) := by rw [e5, vs]
  have f5_44 : M5 44 = .inr (3, [.ref 45, .ref 46, .ref 47, .int 0, .int 0, .int 0]) := by rw [e5, vn (show (44 : Nat) ≠ 43 by decide)]; exact f4_44
  refine Eq.trans (x_aload_n (show pm_in 0 24 = some (.aload_n 0, 1) from by decide +kernel) rfl) ?_
  refine Eq.trans (x_bipush (v := 40) (show pm_in 0 25 = some (.bipush 40, 2) from by decide +kernel) (by decide)) ?_
  have q14 : pX 0 27 [.ref 43] [.int 40, .ref 43] M5 49 (S + 6 + 6 + 6 + 7 + 280) = pX 0 29 [.ref 43] [.ref 49, .ref 43] (va_up M5 49 (.inl (0, 40, .inl (fun _ => 0)))) 50 (S + 6 + 6 + 6 + 7 + 280 + 40) := x_newI (n := 40) (show pm_in 0 27 = some (.newarray .int, 2) from by decide +kernel) ⟨by decide +kernel, by decide +kernel⟩ (by decide +kernel) (by decide +kernel)
  obtain ⟨M6, e6⟩ : ∃ m : pm_M, m = va_up M5 49 (.inl (0, 40, .inl (fun _ => 0))) := ⟨_, rfl⟩
  rw [← e6] at q14
  refine q14.trans ?_
  have f6_43 : M6 43 = .inr (0, [.ref 44, .ref 48, .null, .null, .int 0]) := by rw [e6, vn (show (43 : Nat) ≠ 49 by decide)]; exact f5_43
  have f6_44 : M6 44 = .inr (3, [.ref 45, .ref 46, .ref 47, .int 0, .int 0, .int 0]) := by rw [e6, vn (show (44 : Nat) ≠ 49 by decide)]; exact f5_44
  have q15 : pX 0 29 [.ref 43] [.ref 49, .ref 43] M6 50 (S + 6 + 6 + 6 + 7 + 280 + 40) = pX 0 32 [.ref 43] [] (va_up M6 43 (.inr (0, [.ref 44, .ref 48, .ref 49, .null, .int 0]))) 50 (S + 6 + 6 + 6 + 7 + 280 + 40) := x_putf (ci := 0) (k := 2) (fs := [.ref 44, .ref 48, .null, .null, .int 0]) (fs' := [.ref 44, .ref 48, .ref 49, .null, .int 0]) (show pm_in 0 29 = some (.putfield 22, 3) from by decide +kernel) (by decide +kernel) f6_43 (by decide) (by decide) (by decide +kernel) (by decide +kernel) (by decide +kernel) rfl
  obtain ⟨M7, e7⟩ : ∃ m : pm_M, m = va_up M6 43 (.inr (0, [.ref 44, .ref 48, .ref 49, .null, .int 0])) := ⟨_, rfl⟩
  rw [← e7] at q15
  refine q15.trans ?_
  have f7_43 : M7 43 = .inr (0, [.ref 44, .ref 48, .ref 49, .null, .int 0]) := by rw [e7, vs]
  have f7_44 : M7 44 = .inr (3, [.ref 45, .ref 46, .ref 47, .int 0, .int 0, .int 0]) := by rw [e7, vn (show (44 : Nat) ≠ 43 by decide)]; exact f6_44
  refine Eq.trans (x_aload_n (show pm_in 0 32 = some (.aload_n 0, 1) from by decide +kernel) rfl) ?_
  refine Eq.trans (x_bipush (v := 40) (show pm_in 0 33 = some (.bipush 40, 2) from by decide +kernel) (by decide)) ?_
  have q18 : pX 0 35 [.ref 43] [.int 40, .ref 43] M7 50 (S + 6 + 6 + 6 + 7 + 280 + 40) = pX 0 37 [.ref 43] [.ref 50, .ref 43] (va_up M7 50 (.inl (0, 40, .inl (fun _ => 0)))) 51 (S + 6 + 6 + 6 + 7 + 280 + 40 + 40) := x_newI (n := 40) (show pm_in 0 35 = some (.newarray .int, 2) from by decide +kernel) ⟨by decide +kernel, by decide +kernel⟩ (by decide +kernel) (by decide +kernel)
  obtain ⟨M8, e8⟩ : ∃ m : pm_M, m = va_up M7 50 (.inl (0, 40, .inl (fun _ => 0))) := ⟨_, rfl⟩
  rw [← e8] at q18
  refine q18.trans ?_
  have f8_43 : M8 43 = .inr (0, [.ref 44, .ref 48, .ref 49, .null, .int 0]) := by rw [e8, vn (show (43 : Nat) ≠ 50 by decide)]; exact f7_43
  have f8_44 : M8 44 = .inr (3, [.ref 45, .ref 46, .ref 47, .int 0, .int 0, .int 0]) := by rw [e8, vn (show (44 : Nat) ≠ 50 by decide)]; exact f7_44
  have q19 : pX 0 37 [.ref 43] [.ref 50, .ref 43] M8 51 (S + 6 + 6 + 6 + 7 + 280 + 40 + 40) = pX 0 40 [.ref 43] [] (va_up M8 43 (.inr (0, [.ref 44, .ref 48, .ref 49, .ref 50, .int 0]))) 51 (S + 6 + 6 + 6 + 7 + 280 + 40 + 40) := x_putf (ci := 0) (k := 3) (fs := [.ref 44, .ref 48, .ref 49, .null, .int 0]) (fs' := [.ref 44, .ref 48, .ref 49, .ref 50, .int 0]) (show pm_in 0 37 = some (.putfield 25, 3) from by decide +kernel) (by decide +kernel) f8_43 (by decide) (by decide) (by decide +kernel) (by decide +kernel) (by decide +kernel) rfl
  obtain ⟨M9, e9⟩ : ∃ m : pm_M, m = va_up M8 43 (.inr (0, [.ref 44, .ref 48, .ref 49, .ref 50, .int 0])) := ⟨_, rfl⟩
  rw [← e9] at q19
  refine q19.trans ?_
  have f9_43 : M9 43 = .inr (0, [.ref 44, .ref 48, .ref 49, .ref 50, .int 0]) := by rw [e9, vs]
  have f9_44 : M9 44 = .inr (3, [.ref 45, .ref 46, .ref 47, .int 0, .int 0, .int 0]) := by rw [e9, vn (show (44 : Nat) ≠ 43 by decide)]; exact f8_44
  refine Eq.trans (x_return (show pm_in 0 40 = some (.return_, 1) from by decide +kernel) (by decide +kernel)) ?_
  rw [e9, e8, e7, e6, e5, e4, e3, e2, e1]
theorem ini30_52 {M : pm_M} {S : Nat} (h0 : M 52 = .inr (3, [.null, .null, .null, .int 0, .int 0, .int 0])) : pX 30 0 [.ref 52] [] M 53 S = some (none, va_up (va_up (va_up (va_up (va_up (va_up M 53 (.inl (0, 6, .inl (fun _ => 0)))) 52 (.inr (3, [.ref 53, .null, .null, .int 0, .int 0, .int 0]))) 54 (.inl (0, 6, .inl (fun _ => 0)))) 52 (.inr (3, [.ref 53, .ref 54, .null, .int 0, .int 0, .int 0]))) 55 (.inl (0, 7, .inl (fun _ => 0)))) 52 (.inr (3, [.ref 53, .ref 54, .ref 55, .int 0, .int 0, .int 0])), 56, S + 6 + 6 + 7) := by
  refine Eq.trans (x_aload_n (show pm_in 30 0 = some (.aload_n 0, 1) from by decide +kernel) rfl) ?_
  refine Eq.trans (x_obj (q := (0, 0)) (show pm_in 30 1 = some (.invokespecial 3, 3) from by decide +kernel) (by decide +kernel) ⟨Nat.le_of_ble_eq_true rfl, by decide +kernel⟩) ?_
  refine Eq.trans (x_aload_n (show pm_in 30 4 = some (.aload_n 0, 1) from by decide +kernel) rfl) ?_
  refine Eq.trans (x_bipush (v := 6) (show pm_in 30 5 = some (.bipush 6, 2) from by decide +kernel) (by decide)) ?_
  have q5 : pX 30 7 [.ref 52] [.int 6, .ref 52] M 53 (S) = pX 30 9 [.ref 52] [.ref 53, .ref 52] (va_up M 53 (.inl (0, 6, .inl (fun _ => 0)))) 54 (S + 6) := x_newI (n := 6) (show pm_in 30 7 = some (.newarray .int, 2) from by decide +kernel) ⟨by decide +kernel, by decide +kernel⟩ (by decide +kernel) (by decide +kernel)
  obtain ⟨M1, e1⟩ : ∃ m : pm_M, m = va_up M 53 (.inl (0, 6, .inl (fun _ => 0))) := ⟨_, rfl⟩
  rw [← e1] at q5
  refine q5.trans ?_
  have f1_52 : M1 52 = .inr (3, [.null, .null, .null, .int 0, .int 0, .int 0]) := by rw [e1, vn (show (52 : Nat) ≠ 53 by decide)]; exact h0
  have q6 : pX 30 9 [.ref 52] [.ref 53, .ref 52] M1 54 (S + 6) = pX 30 12 [.ref 52] [] (va_up M1 52 (.inr (3, [.ref 53, .null, .null, .int 0, .int 0, .int 0]))) 54 (S + 6) := x_putf (ci := 3) (k := 0) (fs := [.null, .null, .null, .int 0, .int 0, .int 0]) (fs' := [.ref 53, .null, .null, .int 0, .int 0, .int 0]) (show pm_in 30 9 = some (.putfield 9, 3) from by decide +kernel) (by decide +kernel) f1_52 (by decide) (by decide) (by decide +kernel) (by decide +kernel) (by decide +kernel) rfl
  obtain ⟨M2, e2⟩ : ∃ m : pm_M, m = va_up M1 52 (.inr (3, [.ref 53, .null, .null, .int 0, .int 0, .int 0])) := ⟨_, rfl⟩
  rw [← e2] at q6
  refine q6.trans ?_
  have f2_52 : M2 52 = .inr (3, [.ref 53, .null, .null, .int 0, .int 0, .int 0]) := by rw [e2, vs]
  refine Eq.trans (x_aload_n (show pm_in 30 12 = some (.aload_n 0, 1) from by decide +kernel) rfl) ?_
  refine Eq.trans (x_bipush (v := 6) (show pm_in 30 13 = some (.bipush 6, 2) from by decide +kernel) (by decide)) ?_
  have q9 : pX 30 15 [.ref 52] [.int 6, .ref 52] M2 54 (S + 6) = pX 30 17 [.ref 52] [.ref 54, .ref 52] (va_up M2 54 (.inl (0, 6, .inl (fun _ => 0)))) 55 (S + 6 + 6) := x_newI (n := 6) (show pm_in 30 15 = some (.newarray .int, 2) from by decide +kernel) ⟨by decide +kernel, by decide +kernel⟩ (by decide +kernel) (by decide +kernel)
  obtain ⟨M3, e3⟩ : ∃ m : pm_M, m = va_up M2 54 (.inl (0, 6, .inl (fun _ => 0))) := ⟨_, rfl⟩
  rw [← e3] at q9
  refine q9.trans ?_
  have f3_52 : M3 52 = .inr (3, [.ref 53, .null, .null, .int 0, .int 0, .int 0]) := by rw [e3, vn (show (52 : Nat) ≠ 54 by decide)]; exact f2_52
  have q10 : pX 30 17 [.ref 52] [.ref 54, .ref 52] M3 55 (S + 6 + 6) = pX 30 20 [.ref 52] [] (va_up M3 52 (.inr (3, [.ref 53, .ref 54, .null, .int 0, .int 0, .int 0]))) 55 (S + 6 + 6) := x_putf (ci := 3) (k := 1) (fs := [.ref 53, .null, .null, .int 0, .int 0, .int 0]) (fs' := [.ref 53, .ref 54, .null, .int 0, .int 0, .int 0]) (show pm_in 30 17 = some (.putfield 15, 3) from by decide +kernel) (by decide +kernel) f3_52 (by decide) (by decide) (by decide +kernel) (by decide +kernel) (by decide +kernel) rfl
  obtain ⟨M4, e4⟩ : ∃ m : pm_M, m = va_up M3 52 (.inr (3, [.ref 53, .ref 54, .null, .int 0, .int 0, .int 0])) := ⟨_, rfl⟩
  rw [← e4] at q10
  refine q10.trans ?_
  have f4_52 : M4 52 = .inr (3, [.ref 53, .ref 54, .null, .int 0, .int 0, .int 0]) := by rw [e4, vs]
  refine Eq.trans (x_aload_n (show pm_in 30 20 = some (.aload_n 0, 1) from by decide +kernel) rfl) ?_
  refine Eq.trans (x_bipush (v := 7) (show pm_in 30 21 = some (.bipush 7, 2) from by decide +kernel) (by decide)) ?_
  have q13 : pX 30 23 [.ref 52] [.int 7, .ref 52] M4 55 (S + 6 + 6) = pX 30 25 [.ref 52] [.ref 55, .ref 52] (va_up M4 55 (.inl (0, 7, .inl (fun _ => 0)))) 56 (S + 6 + 6 + 7) := x_newI (n := 7) (show pm_in 30 23 = some (.newarray .int, 2) from by decide +kernel) ⟨by decide +kernel, by decide +kernel⟩ (by decide +kernel) (by decide +kernel)
  obtain ⟨M5, e5⟩ : ∃ m : pm_M, m = va_up M4 55 (.inl (0, 7, .inl (fun _ => 0))) := ⟨_, rfl⟩
  rw [← e5] at q13
  refine q13.trans ?_
  have f5_52 : M5 52 = .inr (3, [.ref 53, .ref 54, .null, .int 0, .int 0, .int 0]) := by rw [e5, vn (show (52 : Nat) ≠ 55 by decide)]; exact f4_52
  have q14 : pX 30 25 [.ref 52] [.ref 55, .ref 52] M5 56 (S + 6 + 6 + 7) = pX 30 28 [.ref 52] [] (va_up M5 52 (.inr (3, [.ref 53, .ref 54, .ref 55, .int 0, .int 0, .int 0]))) 56 (S + 6 + 6 + 7) := x_putf (ci := 3) (k := 2) (fs := [.ref 53, .ref 54, .null, .int 0, .int 0, .int 0]) (fs' := [.ref 53, .ref 54, .ref 55, .int 0, .int 0, .int 0]) (show pm_in 30 25 = some (.putfield 18, 3) from by decide +kernel) (by decide +kernel) f5_52 (by decide) (by decide) (by decide +kernel) (by decide +kernel) (by decide +kernel) rfl
  obtain ⟨M6, e6⟩ : ∃ m : pm_M, m = va_up M5 52 (.inr (3, [.ref 53, .ref 54, .ref 55, .int 0, .int 0, .int 0])) := ⟨_, rfl⟩
  rw [← e6] at q14
  refine q14.trans ?_
  have f6_52 : M6 52 = .inr (3, [.ref 53, .ref 54, .ref 55, .int 0, .int 0, .int 0]) := by rw [e6, vs]
  refine Eq.trans (x_return (show pm_in 30 28 = some (.return_, 1) from by decide +kernel) (by decide +kernel)) ?_
  rw [e6, e5, e4, e3, e2, e1]
theorem ini0_51 {M : pm_M} {S : Nat} (h0 : M 51 = .inr (0, [.null, .null, .null, .null, .int 0])) : pX 0 0 [.ref 51] [] M 52 S = some (none, va_up (va_up (va_up (va_up (va_up (va_up (va_up (va_up (va_up (va_up (va_up (va_up (va_up (va_up M 52 (.inr (3, [.null, .null, .null, .int 0, .int 0, .int 0]))) 53 (.inl (0, 6, .inl (fun _ => 0)))) 52 (.inr (3, [.ref 53, .null, .null, .int 0, .int 0, .int 0]))) 54 (.inl (0, 6, .inl (fun _ => 0)))) 52 (.inr (3, [.ref 53, .ref 54, .null, .int 0, .int 0, .int 0]))) 55 (.inl (0, 7, .inl (fun _ => 0)))) 52 (.inr (3, [.ref 53, .ref 54, .ref 55, .int 0, .int 0, .int 0]))) 51 (.inr (0, [.ref 52, .null, .null, .null, .int 0]))) 56 (.inl (0, 280, .inl (fun _ => 0)))) 51 (.inr (0, [.ref 52, .ref 56, .null, .null, .int 0]))) 57 (.inl (0, 40, .inl (fun _ => 0)))) 51 (.inr (0, [.ref 52, .ref 56, .ref 57, .null, .int 0]))) 58 (.inl (0, 40, .inl (fun _ => 0)))) 51 (.inr (0, [.ref 52, .ref 56, .ref 57, .ref 58, .int 0])), 59, S + 6 + 6 + 6 + 7 + 280 + 40 + 40) := by
  refine Eq.trans (x_aload_n (show pm_in 0 0 = some (.aload_n 0, 1) from by decide +kernel) rfl) ?_
  refine Eq.trans (x_obj (q := (0, 0)) (show pm_in 0 1 = some (.invokespecial 3, 3) from by decide +kernel) (by decide +kernel) ⟨Nat.le_of_ble_eq_true rfl, by decide +kernel⟩) ?_
  refine Eq.trans (x_aload_n (show pm_in 0 4 = some (.aload_n 0, 1) from by decide +kernel) rfl) ?_
  have q4 : pX 0 5 [.ref 51] [.ref 51] M 52 (S) = pX 0 8 [.ref 51] [.ref 52, .ref 51] (va_up M 52 (.inr (3, [.null, .null, .null, .int 0, .int 0, .int 0]))) 53 (S + 6) := x_new (ci := 3) (k := 6) (show pm_in 0 5 = some (.new 9, 3) from by decide +kernel) (by decide +kernel) rfl rfl (by decide +kernel)
  obtain ⟨M1, e1⟩ : ∃ m : pm_M, m = va_up M 52 (.inr (3, [.null, .null, .null, .int 0, .int 0, .int 0])) := ⟨_, rfl⟩
  rw [← e1] at q4
  refine q4.trans ?_
  have f1_51 : M1 51 = .inr (0, [.null, .null, .null, .null, .int 0]) := by rw [e1, vn (show (51 : Nat) ≠ 52 by decide)]; exact h0
  have f1_52 : M1 52 = .inr (3, [.null, .null, .null, .int 0, .int 0, .int 0]) := by rw [e1, vs]
  refine Eq.trans (x_dup (show pm_in 0 8 = some (.dup, 1) from by decide +kernel) rfl) ?_
  have q6 : pX 0 9 [.ref 51] [.ref 52, .ref 52, .ref 51] M1 53 (S + 6) = pX 0 12 [.ref 51] [.ref 52, .ref 51] (va_up (va_up (va_up (va_up (va_up (va_up M1 53 (.inl (0, 6, .inl (fun _ => 0)))) 52 (.inr (3, [.ref 53, .null, .null, .int 0, .int 0, .int 0]))) 54 (.inl (0, 6, .inl (fun _ => 0)))) 52 (.inr (3, [.ref 53, .ref 54, .null, .int 0, .int 0, .int 0]))) 55 (.inl (0, 7, .inl (fun _ => 0)))) 52 (.inr (3, [.ref 53, .ref 54, .ref 55, .int 0, .int 0, .int 0]))) 56 (S + 6 + 6 + 6 + 7) := x_callI (y' := 30) (k := 0) (kd := 4) (b := 52) (as := []) (st' := [.ref 52, .ref 51]) (show pm_in 0 9 = some (.invokespecial 11, 3) from by decide +kernel) (by decide +kernel) (by decide) rfl rfl (by decide +kernel) (Nat.le_of_ble_eq_true rfl) (by decide +kernel) (by decide +kernel) rfl (by decide +kernel) (by decide +kernel) (ini30_52 (M := M1) (S := S + 6) f1_52)
  obtain ⟨M2, e2⟩ : ∃ m : pm_M, m = va_up (va_up (va_up (va_up (va_up (va_up M1 53 (.inl (0, 6, .inl (fun _ => 0)))) 52 (.inr (3, [.ref 53, .null, .null, .int 0, .int 0, .int 0]))) 54 (.inl (0, 6, .inl (fun _ => 0)))) 52 (.inr (3, [.ref 53, .ref 54, .null, .int 0, .int 0, .int 0]))) 55 (.inl (0, 7, .inl (fun _ => 0)))) 52 (.inr (3, [.ref 53, .ref 54, .ref 55, .int 0, .int 0, .int 0])) := ⟨_, rfl⟩
  rw [← e2] at q6
  refine q6.trans ?_
  have f2_51 : M2 51 = .inr (0, [.null, .null, .null, .null, .int 0]) := by rw [e2, vn (show (51 : Nat) ≠ 52 by decide), vn (show (51 : Nat) ≠ 55 by decide), vn (show (51 : Nat) ≠ 52 by decide), vn (show (51 : Nat) ≠ 54 by decide), vn (show (51 : Nat) ≠ 52 by decide), vn (show (51 : Nat) ≠ 53 by decide)]; exact f1_51
  have f2_52 : M2 52 = .inr (3, [.ref 53, .ref 54, .ref 55, .int 0, .int 0, .int 0]) := by rw [e2, vs]
  have q7 : pX 0 12 [.ref 51] [.ref 52, .ref 51] M2 56 (S + 6 + 6 + 6 + 7) = pX 0 15 [.ref 51] [] (va_up M2 51 (.inr (0, [.ref 52, .null, .null, .null, .int 0]))) 56 (S + 6 + 6 + 6 + 7) := x_putf (ci := 0) (k := 0) (fs := [.null, .null, .null, .null, .int 0]) (fs' := [.ref 52, .null, .null, .null, .int 0]) (show pm_in 0 12 = some (.putfield 12, 3) from by decide +kernel) (by decide +kernel) f2_51 (by decide) (by decide) (by decide +kernel) (by decide +kernel) (by decide +kernel) rfl
  obtain ⟨M3, e3⟩ : ∃ m : pm_M, m = va_up M2 51 (.inr (0, [.ref 52, .null, .null, .null, .int 0])) := ⟨_, rfl⟩
  rw [← e3] at q7
  refine q7.trans ?_
  have f3_51 : M3 51 = .inr (0, [.ref 52, .null, .null, .null, .int 0]) := by rw [e3, vs]
  have f3_52 : M3 52 = .inr (3, [.ref 53, .ref 54, .ref 55, .int 0, .int 0, .int 0]) := by rw [e3, vn (show (52 : Nat) ≠ 51 by decide)]; exact f2_52
  refine Eq.trans (x_aload_n (show pm_in 0 15 = some (.aload_n 0, 1) from by decide +kernel) rfl) ?_
  refine Eq.trans (x_sipush (v := 280) (show pm_in 0 16 = some (.sipush 280, 3) from by decide +kernel) (by decide)) ?_
  have q10 : pX 0 19 [.ref 51] [.int 280, .ref 51] M3 56 (S + 6 + 6 + 6 + 7) = pX 0 21 [.ref 51] [.ref 56, .ref 51] (va_up M3 56 (.inl (0, 280, .inl (fun _ => 0)))) 57 (S + 6 + 6 + 6 + 7 + 280) := x_newI (n := 280) (show pm_in 0 19 = some (.newarray .int, 2) from by decide +kernel) ⟨by decide +kernel, by decide +kernel⟩ (by decide +kernel) (by decide +kernel)
  obtain ⟨M4, e4⟩ : ∃ m : pm_M, m = va_up M3 56 (.inl (0, 280, .inl (fun _ => 0))) := ⟨_, rfl⟩
  rw [← e4] at q10
  refine q10.trans ?_
  have f4_51 : M4 51 = .inr (0, [.ref 52, .null, .null, .null, .int 0]) := by rw [e4, vn (show (51 : Nat) ≠ 56 by decide)]; exact f3_51
  have f4_52 : M4 52 = .inr (3, [.ref 53, .ref 54, .ref 55, .int 0, .int 0, .int 0]) := by rw [e4, vn (show (52 : Nat) ≠ 56 by decide)]; exact f3_52
  have q11 : pX 0 21 [.ref 51] [.ref 56, .ref 51] M4 57 (S + 6 + 6 + 6 + 7 + 280) = pX 0 24 [.ref 51] [] (va_up M4 51 (.inr (0, [.ref 52, .ref 56, .null, .null, .int 0]))) 57 (S + 6 + 6 + 6 + 7 + 280) := x_putf (ci := 0) (k := 1) (fs := [.ref 52, .null, .null, .null, .int 0]) (fs' := [.ref 52, .ref 56, .null, .null, .int 0]) (show pm_in 0 21 = some (.putfield 18, 3) from by decide +kernel) (by decide +kernel) f4_51 (by decide) (by decide) (by decide +kernel) (by decide +kernel) (by decide +kernel) rfl
  obtain ⟨M5, e5⟩ : ∃ m : pm_M, m = va_up M4 51 (.inr (0, [.ref 52, .ref 56, .null, .null, .int 0])) := ⟨_, rfl⟩
  rw [← e5] at q11
  refine q11.trans ?_
  have f5_51 : M5 51 = .inr (0, [.ref 52, .ref 56, .null, .null, .int 0]) := by rw [e5, vs]
  have f5_52 : M5 52 = .inr (3, [.ref 53, .ref 54, .ref 55, .int 0, .int 0, .int 0]) := by rw [e5, vn (show (52 : Nat) ≠ 51 by decide)]; exact f4_52
  refine Eq.trans (x_aload_n (show pm_in 0 24 = some (.aload_n 0, 1) from by decide +kernel) rfl) ?_
  refine Eq.trans (x_bipush (v := 40) (show pm_in 0 25 = some (.bipush 40, 2) from by decide +kernel) (by decide)) ?_
  have q14 : pX 0 27 [.ref 51] [.int 40, .ref 51] M5 57 (S + 6 + 6 + 6 + 7 + 280) = pX 0 29 [.ref 51] [.ref 57, .ref 51] (va_up M5 57 (.inl (0, 40, .inl (fun _ => 0)))) 58 (S + 6 + 6 + 6 + 7 + 280 + 40) := x_newI (n := 40) (show pm_in 0 27 = some (.newarray .int, 2) from by decide +kernel) ⟨by decide +kernel, by decide +kernel⟩ (by decide +kernel) (by decide +kernel)
  obtain ⟨M6, e6⟩ : ∃ m : pm_M, m = va_up M5 57 (.inl (0, 40, .inl (fun _ => 0))) := ⟨_, rfl⟩
  rw [← e6] at q14
  refine q14.trans ?_
  have f6_51 : M6 51 = .inr (0, [.ref 52, .ref 56, .null, .null, .int 0]) := by rw [e6, vn (show (51 : Nat) ≠ 57 by decide)]; exact f5_51
  have f6_52 : M6 52 = .inr (3, [.ref 53, .ref 54, .ref 55, .int 0, .int 0, .int 0]) := by rw [e6, vn (show (52 : Nat) ≠ 57 by decide)]; exact f5_52
  have q15 : pX 0 29 [.ref 51] [.ref 57, .ref 51] M6 58 (S + 6 + 6 + 6 + 7 + 280 + 40) = pX 0 32 [.ref 51] [] (va_up M6 51 (.inr (0, [.ref 52, .ref 56, .ref 57, .null, .int 0]))) 58 (S + 6 + 6 + 6 + 7 + 280 + 40) := x_putf (ci := 0) (k := 2) (fs := [.ref 52, .ref 56, .null, .null, .int 0]) (fs' := [.ref 52, .ref 56, .ref 57, .null, .int 0]) (show pm_in 0 29 = some (.putfield 22, 3) from by decide +kernel) (by decide +kernel) f6_51 (by decide) (by decide) (by decide +kernel) (by decide +kernel) (by decide +kernel) rfl
  obtain ⟨M7, e7⟩ : ∃ m : pm_M, m = va_up M6 51 (.inr (0, [.ref 52, .ref 56, .ref 57, .null, .int 0])) := ⟨_, rfl⟩
  rw [← e7] at q15
  refine q15.trans ?_
  have f7_51 : M7 51 = .inr (0, [.ref 52, .ref 56, .ref 57, .null, .int 0]) := by rw [e7, vs]
  have f7_52 : M7 52 = .inr (3, [.ref 53, .ref 54, .ref 55, .int 0, .int 0, .int 0]) := by rw [e7, vn (show (52 : Nat) ≠ 51 by decide)]; exact f6_52
  refine Eq.trans (x_aload_n (show pm_in 0 32 = some (.aload_n 0, 1) from by decide +kernel) rfl) ?_
  refine Eq.trans (x_bipush (v := 40) (show pm_in 0 33 = some (.bipush 40, 2) from by decide +kernel) (by decide)) ?_
  have q18 : pX 0 35 [.ref 51] [.int 40, .ref 51] M7 58 (S + 6 + 6 + 6 + 7 + 280 + 40) = pX 0 37 [.ref 51] [.ref 58, .ref 51] (va_up M7 58 (.inl (0, 40, .inl (fun _ => 0)))) 59 (S + 6 + 6 + 6 + 7 + 280 + 40 + 40) := x_newI (n := 40) (show pm_in 0 35 = some (.newarray .int, 2) from by decide +kernel) ⟨by decide +kernel, by decide +kernel⟩ (by decide +kernel) (by decide +kernel)
  obtain ⟨M8, e8⟩ : ∃ m : pm_M, m = va_up M7 58 (.inl (0, 40, .inl (fun _ => 0))) := ⟨_, rfl⟩
  rw [← e8] at q18
  refine q18.trans ?_
  have f8_51 : M8 51 = .inr (0, [.ref 52, .ref 56, .ref 57, .null, .int 0]) := by rw [e8, vn (show (51 : Nat) ≠ 58 by decide)]; exact f7_51
  have f8_52 : M8 52 = .inr (3, [.ref 53, .ref 54, .ref 55, .int 0, .int 0, .int 0]) := by rw [e8, vn (show (52 : Nat) ≠ 58 by decide)]; exact f7_52
  have q19 : pX 0 37 [.ref 51] [.ref 58, .ref 51] M8 59 (S + 6 + 6 + 6 + 7 + 280 + 40 + 40) = pX 0 40 [.ref 51] [] (va_up M8 51 (.inr (0, [.ref 52, .ref 56, .ref 57, .ref 58, .int 0]))) 59 (S + 6 + 6 + 6 + 7 + 280 + 40 + 40) := x_putf (ci := 0) (k := 3) (fs := [.ref 52, .ref 56, .ref 57, .null, .int 0]) (fs' := [.ref 52, .ref 56, .ref 57, .ref 58, .int 0]) (show pm_in 0 37 = some (.putfield 25, 3) from by decide +kernel) (by decide +kernel) f8_51 (by decide) (by decide) (by decide +kernel) (by decide +kernel) (by decide +kernel) rfl
  obtain ⟨M9, e9⟩ : ∃ m : pm_M, m = va_up M8 51 (.inr (0, [.ref 52, .ref 56, .ref 57, .ref 58, .int 0])) := ⟨_, rfl⟩
  rw [← e9] at q19
  refine q19.trans ?_
  have f9_51 : M9 51 = .inr (0, [.ref 52, .ref 56, .ref 57, .ref 58, .int 0]) := by rw [e9, vs]
  have f9_52 : M9 52 = .inr (3, [.ref 53, .ref 54, .ref 55, .int 0, .int 0, .int 0]) := by rw [e9, vn (show (52 : Nat) ≠ 51 by decide)]; exact f8_52
  refine Eq.trans (x_return (show pm_in 0 40 = some (.return_, 1) from by decide +kernel) (by decide +kernel)) ?_
  rw [e9, e8, e7, e6, e5, e4, e3, e2, e1]
theorem ini30_60 {M : pm_M} {S : Nat} (h0 : M 60 = .inr (3, [.null, .null, .null, .int 0, .int 0, .int 0])) : pX 30 0 [.ref 60] [] M 61 S = some (none, va_up (va_up (va_up (va_up (va_up (va_up M 61 (.inl (0, 6, .inl (fun _ => 0)))) 60 (.inr (3, [.ref 61, .null, .null, .int 0, .int 0, .int 0]))) 62 (.inl (0, 6, .inl (fun _ => 0)))) 60 (.inr (3, [.ref 61, .ref 62, .null, .int 0, .int 0, .int 0]))) 63 (.inl (0, 7, .inl (fun _ => 0)))) 60 (.inr (3, [.ref 61, .ref 62, .ref 63, .int 0, .int 0, .int 0])), 64, S + 6 + 6 + 7) := by
  refine Eq.trans (x_aload_n (show pm_in 30 0 = some (.aload_n 0, 1) from by decide +kernel) rfl) ?_
  refine Eq.trans (x_obj (q := (0, 0)) (show pm_in 30 1 = some (.invokespecial 3, 3) from by decide +kernel) (by decide +kernel) ⟨Nat.le_of_ble_eq_true rfl, by decide +kernel⟩) ?_
  refine Eq.trans (x_aload_n (show pm_in 30 4 = some (.aload_n 0, 1) from by decide +kernel) rfl) ?_
  refine Eq.trans (x_bipush (v := 6) (show pm_in 30 5 = some (.bipush 6, 2) from by decide +kernel) (by decide)) ?_
  have q5 : pX 30 7 [.ref 60] [.int 6, .ref 60] M 61 (S) = pX 30 9 [.ref 60] [.ref 61, .ref 60] (va_up M 61 (.inl (0, 6, .inl (fun _ => 0)))) 62 (S + 6) := x_newI (n := 6) (show pm_in 30 7 = some (.newarray .int, 2) from by decide +kernel) ⟨by decide +kernel, by decide +kernel⟩ (by decide +kernel) (by decide +kernel)
  obtain ⟨M1, e1⟩ : ∃ m : pm_M, m = va_up M 61 (.inl (0, 6, .inl (fun _ => 0))) := ⟨_, rfl⟩
  rw [← e1] at q5
  refine q5.trans ?_
  have f1_60 : M1 60 = .inr (3, [.null, .null, .null, .int 0, .int 0, .int 0]) := by rw [e1, vn (show (60 : Nat) ≠ 61 by decide)]; exact h0
  have q6 : pX 30 9 [.ref 60] [.ref 61, .ref 60] M1 62 (S + 6) = pX 30 12 [.ref 60] [] (va_up M1 60 (.inr (3, [.ref 61, .null, .null, .int 0, .int 0, .int 0]))) 62 (S + 6) := x_putf (ci := 3) (k := 0) (fs := [.null, .null, .null, .int 0, .int 0, .int 0]) (fs' := [.ref 61, .null, .null, .int 0, .int 0, .int 0]) (show pm_in 30 9 = some (.putfield 9, 3) from by decide +kernel) (by decide +kernel) f1_60 (by decide) (by decide) (by decide +kernel) (by decide +kernel) (by decide +kernel) rfl
  obtain ⟨M2, e2⟩ : ∃ m : pm_M, m = va_up M1 60 (.inr (3, [.ref 61, .null, .null, .int 0, .int 0, .int 0])) := ⟨_, rfl⟩
  rw [← e2] at q6
  refine q6.trans ?_
  have f2_60 : M2 60 = .inr (3, [.ref 61, .null, .null, .int 0, .int 0, .int 0]) := by rw [e2, vs]
  refine Eq.trans (x_aload_n (show pm_in 30 12 = some (.aload_n 0, 1) from by decide +kernel) rfl) ?_
  refine Eq.trans (x_bipush (v := 6) (show pm_in 30 13 = some (.bipush 6, 2) from by decide +kernel) (by decide)) ?_
  have q9 : pX 30 15 [.ref 60] [.int 6, .ref 60] M2 62 (S + 6) = pX 30 17 [.ref 60] [.ref 62, .ref 60] (va_up M2 62 (.inl (0, 6, .inl (fun _ => 0)))) 63 (S + 6 + 6) := x_newI (n := 6) (show pm_in 30 15 = some (.newarray .int, 2) from by decide +kernel) ⟨by decide +kernel, by decide +kernel⟩ (by decide +kernel) (by decide +kernel)
  obtain ⟨M3, e3⟩ : ∃ m : pm_M, m = va_up M2 62 (.inl (0, 6, .inl (fun _ => 0))) := ⟨_, rfl⟩
  rw [← e3] at q9
  refine q9.trans ?_
  have f3_60 : M3 60 = .inr (3, [.ref 61, .null, .null, .int 0, .int 0, .int 0]) := by rw [e3, vn (show (60 : Nat) ≠ 62 by decide)]; exact f2_60
  have q10 : pX 30 17 [.ref 60] [.ref 62, .ref 60] M3 63 (S + 6 + 6) = pX 30 20 [.ref 60] [] (va_up M3 60 (.inr (3, [.ref 61, .ref 62, .null, .int 0, .int 0, .int 0]))) 63 (S + 6 + 6) := x_putf (ci := 3) (k := 1) (fs := [.ref 61, .null, .null, .int 0, .int 0, .int 0]) (fs' := [.ref 61, .ref 62, .null, .int 0, .int 0, .int 0]) (show pm_in 30 17 = some (.putfield 15, 3) from by decide +kernel) (by decide +kernel) f3_60 (by decide) (by decide) (by decide +kernel) (by decide +kernel) (by decide +kernel) rfl
  obtain ⟨M4, e4⟩ : ∃ m : pm_M, m = va_up M3 60 (.inr (3, [.ref 61, .ref 62, .null, .int 0, .int 0, .int 0])) := ⟨_, rfl⟩
  rw [← e4] at q10
  refine q10.trans ?_
  have f4_60 : M4 60 = .inr (3, [.ref 61, .ref 62, .null, .int 0, .int 0, .int 0]) := by rw [e4, vs]
  refine Eq.trans (x_aload_n (show pm_in 30 20 = some (.aload_n 0, 1) from by decide +kernel) rfl) ?_
  refine Eq.trans (x_bipush (v := 7) (show pm_in 30 21 = some (.bipush 7, 2) from by decide +kernel) (by decide)) ?_
  have q13 : pX 30 23 [.ref 60] [.int 7, .ref 60] M4 63 (S + 6 + 6) = pX 30 25 [.ref 60] [.ref 63, .ref 60] (va_up M4 63 (.inl (0, 7, .inl (fun _ => 0)))) 64 (S + 6 + 6 + 7) := x_newI (n := 7) (show pm_in 30 23 = some (.newarray .int, 2) from by decide +kernel) ⟨by decide +kernel, by decide +kernel⟩ (by decide +kernel) (by decide +kernel)
  obtain ⟨M5, e5⟩ : ∃ m : pm_M, m = va_up M4 63 (.inl (0, 7, .inl (fun _ => 0))) := ⟨_, rfl⟩
  rw [← e5] at q13
  refine q13.trans ?_
  have f5_60 : M5 60 = .inr (3, [.ref 61, .ref 62, .null, .int 0, .int 0, .int 0]) := by rw [e5, vn (show (60 : Nat) ≠ 63 by decide)]; exact f4_60
  have q14 : pX 30 25 [.ref 60] [.ref 63, .ref 60] M5 64 (S + 6 + 6 + 7) = pX 30 28 [.ref 60] [] (va_up M5 60 (.inr (3, [.ref 61, .ref 62, .ref 63, .int 0, .int 0, .int 0]))) 64 (S + 6 + 6 + 7) := x_putf (ci := 3) (k := 2) (fs := [.ref 61, .ref 62, .null, .int 0, .int 0, .int 0]) (fs' := [.ref 61, .ref 62, .ref 63, .int 0, .int 0, .int 0]) (show pm_in 30 25 = some (.putfield 18, 3) from by decide +kernel) (by decide +kernel) f5_60 (by decide) (by decide) (by decide +kernel) (by decide +kernel) (by decide +kernel) rfl
  obtain ⟨M6, e6⟩ : ∃ m : pm_M, m = va_up M5 60 (.inr (3, [.ref 61, .ref 62, .ref 63, .int 0, .int 0, .int 0])) := ⟨_, rfl⟩
  rw [← e6] at q14
  refine q14.trans ?_
  have f6_60 : M6 60 = .inr (3, [.ref 61, .ref 62, .ref 63, .int 0, .int 0, .int 0]) := by rw [e6, vs]
  refine Eq.trans (x_return (show pm_in 30 28 = some (.return_, 1) from by decide +kernel) (by decide +kernel)) ?_
  rw [e6, e5, e4, e3, e2, e1]
theorem ini0_59 {M : pm_M} {S : Nat} (h0 : M 59 = .inr (0, [.null, .null, .null, .null, .int 0])) : pX 0 0 [.ref 59] [] M 60 S = some (none, va_up (va_up (va_up (va_up (va_up (va_up (va_up (va_up (va_up (va_up (va_up (va_up (va_up (va_up M 60 (.inr (3, [.null, .null, .null, .int 0, .int 0, .int 0]))) 61 (.inl (0, 6, .inl (fun _ => 0)))) 60 (.inr (3, [.ref 61, .null, .null, .int 0, .int 0, .int 0]))) 62 (.inl (0, 6, .inl (fun _ => 0)))) 60 (.inr (3, [.ref 61, .ref 62, .null, .int 0, .int 0, .int 0]))) 63 (.inl (0, 7, .inl (fun _ => 0)))) 60 (.inr (3, [.ref 61, .ref 62, .ref 63, .int 0, .int 0, .int 0]))) 59 (.inr (0, [.ref 60, .null, .null, .null, .int 0]))) 64 (.inl (0, 280, .inl (fun _ => 0)))) 59 (.inr (0, [.ref 60, .ref 64, .null, .null, .int 0]))) 65 (.inl (0, 40, .inl (fun _ => 0)))) 59 (.inr (0, [.ref 60, .ref 64, .ref 65, .null, .int 0]))) 66 (.inl (0, 40, .inl (fun _ => 0)))) 59 (.inr (0, [.ref 60, .ref 64, .ref 65, .ref 66, .int 0])), 67, S + 6 + 6 + 6 + 7 + 280 + 40 + 40) := by
  refine Eq.trans (x_aload_n (show pm_in 0 0 = some (.aload_n 0, 1) from by decide +kernel) rfl) ?_
  refine Eq.trans (x_obj (q := (0, 0)) (show pm_in 0 1 = some (.invokespecial 3, 3) from by decide +kernel) (by decide +kernel) ⟨Nat.le_of_ble_eq_true rfl, by decide +kernel⟩) ?_
  refine Eq.trans (x_aload_n (show pm_in 0 4 = some (.aload_n 0, 1) from by decide +kernel) rfl) ?_
  have q4 : pX 0 5 [.ref 59] [.ref 59] M 60 (S) = pX 0 8 [.ref 59] [.ref 60, .ref 59] (va_up M 60 (.inr (3, [.null, .null, .null, .int 0, .int 0, .int 0]))) 61 (S + 6) := x_new (ci := 3) (k := 6) (show pm_in 0 5 = some (.new 9, 3) from by decide +kernel) (by decide +kernel) rfl rfl (by decide +kernel)
  obtain ⟨M1, e1⟩ : ∃ m : pm_M, m = va_up M 60 (.inr (3, [.null, .null, .null, .int 0, .int 0, .int 0])) := ⟨_, rfl⟩
  rw [← e1] at q4
  refine q4.trans ?_
  have f1_59 : M1 59 = .inr (0, [.null, .null, .null, .null, .int 0]) := by rw [e1, vn (show (59 : Nat) ≠ 60 by decide)]; exact h0
  have f1_60 : M1 60 = .inr (3, [.null, .null, .null, .int 0, .int 0, .int 0]) := by rw [e1, vs]
  refine Eq.trans (x_dup (show pm_in 0 8 = some (.dup, 1) from by decide +kernel) rfl) ?_
  have q6 : pX 0 9 [.ref 59] [.ref 60, .ref 60, .ref 59] M1 61 (S + 6) = pX 0 12 [.ref 59] [.ref 60, .ref 59] (va_up (va_up (va_up (va_up (va_up (va_up M1 61 (.inl (0, 6, .inl (fun _ => 0)))) 60 (.inr (3, [.ref 61, .null, .null, .int 0, .int 0, .int 0]))) 62 (.inl (0, 6, .inl (fun _ => 0)))) 60 (.inr (3, [.ref 61, .ref 62, .null, .int 0, .int 0, .int 0]))) 63 (.inl (0, 7, .inl (fun _ => 0)))) 60 (.inr (3, [.ref 61, .ref 62, .ref 63, .int 0, .int 0, .int 0]))) 64 (S + 6 + 6 + 6 + 7) := x_callI (y' := 30) (k := 0) (kd := 4) (b := 60) (as := []) (st' := [.ref 60, .ref 59]) (show pm_in 0 9 = some (.invokespecial 11, 3) from by decide +kernel) (by decide +kernel) (by decide) rfl rfl (by decide +kernel) (Nat.le_of_ble_eq_true rfl) (by decide +kernel) (by decide +kernel) rfl (by decide +kernel) (by decide +kernel) (ini30_60 (M := M1) (S := S + 6) f1_60)
  obtain ⟨M2, e2⟩ : ∃ m : pm_M, m = va_up (va_up (va_up (va_up (va_up (va_up M1 61 (.inl (0, 6, .inl (fun _ => 0)))) 60 (.inr (3, [.ref 61, .null, .null, .int 0, .int 0, .int 0]))) 62 (.inl (0, 6, .inl (fun _ => 0)))) 60 (.inr (3, [.ref 61, .ref 62, .null, .int 0, .int 0, .int 0]))) 63 (.inl (0, 7, .inl (fun _ => 0)))) 60 (.inr (3, [.ref 61, .ref 62, .ref 63, .int 0, .int 0, .int 0])) := ⟨_, rfl⟩
  rw [← e2] at q6
  refine q6.trans ?_
  have f2_59 : M2 59 = .inr (0, [.null, .null, .null, .null, .int 0]) := by rw [e2, vn (show (59 : Nat) ≠ 60 by decide), vn (show (59 : Nat) ≠ 63 by decide), vn (show (59 : Nat) ≠ 60 by decide), vn (show (59 : Nat) ≠ 62 by decide), vn (show (59 : Nat) ≠ 60 by decide), vn (show (59 : Nat) ≠ 61 by decide)]; exact f1_59
  have f2_60 : M2 60 = .inr (3, [.ref 61, .ref 62, .ref 63, .int 0, .int 0, .int 0]) := by rw [e2, vs]
  have q7 : pX 0 12 [.ref 59] [.ref 60, .ref 59] M2 64 (S + 6 + 6 + 6 + 7) = pX 0 15 [.ref 59] [] (va_up M2 59 (.inr (0, [.ref 60, .null, .null, .null, .int 0]))) 64 (S + 6 + 6 + 6 + 7) := x_putf (ci := 0) (k := 0) (fs := [.null, .null, .null, .null, .int 0]) (fs' := [.ref 60, .null, .null, .null, .int 0]) (show pm_in 0 12 = some (.putfield 12, 3) from by decide +kernel) (by decide +kernel) f2_59 (by decide) (by decide) (by decide +kernel) (by decide +kernel) (by decide +kernel) rfl
  obtain ⟨M3, e3⟩ : ∃ m : pm_M, m = va_up M2 59 (.inr (0, [.ref 60, .null, .null, .null, .int 0])) := ⟨_, rfl⟩
  rw [← e3] at q7
  refine q7.trans ?_
  have f3_59 : M3 59 = .inr (0, [.ref 60, .null, .null, .null, .int 0]) := by rw [e3, vs]
  have f3_60 : M3 60 = .inr (3, [.ref 61, .ref 62, .ref 63, .int 0, .int 0, .int 0]) := by rw [e3, vn (show (60 : Nat) ≠ 59 by decide)]; exact f2_60
  refine Eq.trans (x_aload_n (show pm_in 0 15 = some (.aload_n 0, 1) from by decide +kernel) rfl) ?_
  refine Eq.trans (x_sipush (v := 280) (show pm_in 0 16 = some (.sipush 280, 3) from by decide +kernel) (by decide)) ?_
  have q10 : pX 0 19 [.ref 59] [.int 280, .ref 59] M3 64 (S + 6 + 6 + 6 + 7) = pX 0 21 [.ref 59] [.ref 64, .ref 59] (va_up M3 64 (.inl (0, 280, .inl (fun _ => 0)))) 65 (S + 6 + 6 + 6 + 7 + 280) := x_newI (n := 280) (show pm_in 0 19 = some (.newarray .int, 2) from by decide +kernel) ⟨by decide +kernel, by decide +kernel⟩ (by decide +kernel) (by decide +kernel)
  obtain ⟨M4, e4⟩ : ∃ m : pm_M, m = va_up M3 64 (.inl (0, 280, .inl (fun _ => 0))) := ⟨_, rfl⟩
  rw [← e4] at q10
  refine q10.trans ?_
  have f4_59 : M4 59 = .inr (0, [.ref 60, .null, .null, .null, .int 0]) := by rw [e4, vn (show (59 : Nat) ≠ 64 by decide)]; exact f3_59
  have f4_60 : M4 60 = .inr (3, [.ref 61, .ref 62, .ref 63, .int 0, .int 0, .int 0]) := by rw [e4, vn (show (60 : Nat) ≠ 64 by decide)]; exact f3_60
  have q11 : pX 0 21 [.ref 59] [.ref 64, .ref 59] M4 65 (S + 6 + 6 + 6 + 7 + 280) = pX 0 24 [.ref 59] [] (va_up M4 59 (.inr (0, [.ref 60, .ref 64, .null, .null, .int 0]))) 65 (S + 6 + 6 + 6 + 7 + 280) := x_putf (ci := 0) (k := 1) (fs := [.ref 60, .null, .null, .null, .int 0]) (fs' := [.ref 60, .ref 64, .null, .null, .int 0]) (show pm_in 0 21 = some (.putfield 18, 3) from by decide +kernel) (by decide +kernel) f4_59 (by decide) (by decide) (by decide +kernel) (by decide +kernel) (by decide +kernel) rfl
  obtain ⟨M5, e5⟩ : ∃ m : pm_M, m = va_up M4 59 (.inr (0, [.ref 60, .ref 64, .null, .null, .int 0])) := ⟨_, rfl⟩
  rw [← e5] at q11
  refine q11.trans ?_
  have f5_59 : M5 59 = .inr (0, [.ref 60, .ref 64, .null, .null, .int 0]) := by rw [e5, vs]
  have f5_60 : M5 60 = .inr (3, [.ref 61, .ref 62, .ref 63, .int 0, .int 0, .int 0]) := by rw [e5, vn (show (60 : Nat) ≠ 59 by decide)]; exact f4_60
  refine Eq.trans (x_aload_n (show pm_in 0 24 = some (.aload_n 0, 1) from by decide +kernel) rfl) ?_
  refine Eq.trans (x_bipush (v := 40) (show pm_in 0 25 = some (.bipush 40, 2) from by decide +kernel) (by decide)) ?_
  have q14 : pX 0 27 [.ref 59] [.int 40, .ref 59] M5 65 (S + 6 + 6 + 6 + 7 + 280) = pX 0 29 [.ref 59] [.ref 65, .ref 59] (va_up M5 65 (.inl (0, 40, .inl (fun _ => 0)))) 66 (S + 6 + 6 + 6 + 7 + 280 + 40) := x_newI (n := 40) (show pm_in 0 27 = some (.newarray .int, 2) from by decide +kernel) ⟨by decide +kernel, by decide +kernel⟩ (by decide +kernel) (by decide +kernel)
  obtain ⟨M6, e6⟩ : ∃ m : pm_M, m = va_up M5 65 (.inl (0, 40, .inl (fun _ => 0))) := ⟨_, rfl⟩
  rw [← e6] at q14
  refine q14.trans ?_
  have f6_59 : M6 59 = .inr (0, [.ref 60, .ref 64, .null, .null, .int 0]) := by rw [e6, vn (show (59 : Nat) ≠ 65 by decide)]; exact f5_59
  have f6_60 : M6 60 = .inr (3, [.ref 61, .ref 62, .ref 63, .int 0, .int 0, .int 0]) := by rw [e6, vn (show (60 : Nat) ≠ 65 by decide)]; exact f5_60
  have q15 : pX 0 29 [.ref 59] [.ref 65, .ref 59] M6 66 (S + 6 + 6 + 6 + 7 + 280 + 40) = pX 0 32 [.ref 59] [] (va_up M6 59 (.inr (0, [.ref 60, .ref 64, .ref 65, .null, .int 0]))) 66 (S + 6 + 6 + 6 + 7 + 280 + 40) := x_putf (ci := 0) (k := 2) (fs := [.ref 60, .ref 64, .null, .null, .int 0]) (fs' := [.ref 60, .ref 64, .ref 65, .null, .int 0]) (show pm_in 0 29 = some (.putfield 22, 3) from by decide +kernel) (by decide +kernel) f6_59 (by decide) (by decide) (by decide +kernel) (by decide +kernel) (by decide +kernel) rfl
  obtain ⟨M7, e7⟩ : ∃ m : pm_M, m = va_up M6 59 (.inr (0, [.ref 60, .ref 64, .ref 65, .null, .int 0])) := ⟨_, rfl⟩
  rw [← e7] at q15
  refine q15.trans ?_
  have f7_59 : M7 59 = .inr (0, [.ref 60, .ref 64, .ref 65, .null, .int 0]) := by rw [e7, vs]
  have f7_60 : M7 60 = .inr (3, [.ref 61, .ref 62, .ref 63, .int 0, .int 0, .int 0]) := by rw [e7, vn (show (60 : Nat) ≠ 59 by decide)]; exact f6_60
  refine Eq.trans (x_aload_n (show pm_in 0 32 = some (.aload_n 0, 1) from by decide +kernel) rfl) ?_
  refine Eq.trans (x_bipush (v := 40) (show pm_in 0 33 = some (.bipush 40, 2) from by decide +kernel) (by decide)) ?_
  have q18 : pX 0 35 [.ref 59] [.int 40, .ref 59] M7 66 (S + 6 + 6 + 6 + 7 + 280 + 40) = pX 0 37 [.ref 59] [.ref 66, .ref 59] (va_up M7 66 (.inl (0, 40, .inl (fun _ => 0)))) 67 (S + 6 + 6 + 6 + 7 + 280 + 40 + 40) := x_newI (n := 40) (show pm_in 0 35 = some (.newarray .int, 2) from by decide +kernel) ⟨by decide +kernel, by decide +kernel⟩ (by decide +kernel) (by decide +kernel)
  obtain ⟨M8, e8⟩ : ∃ m : pm_M, m = va_up M7 66 (.inl (0, 40, .inl (fun _ => 0))) := ⟨_, rfl⟩
  rw [← e8] at q18
  refine q18.trans ?_
  have f8_59 : M8 59 = .inr (0, [.ref 60, .ref 64, .ref 65, .null, .int 0]) := by rw [e8, vn (show (59 : Nat) ≠ 66 by decide)]; exact f7_59
  have f8_60 : M8 60 = .inr (3, [.ref 61, .ref 62, .ref 63, .int 0, .int 0, .int 0]) := by rw [e8, vn (show (60 : Nat) ≠ 66 by decide)]; exact f7_60
  have q19 : pX 0 37 [.ref 59] [.ref 66, .ref 59] M8 67 (S + 6 + 6 + 6 + 7 + 280 + 40 + 40) = pX 0 40 [.ref 59] [] (va_up M8 59 (.inr (0, [.ref 60, .ref 64, .ref 65, .ref 66, .int 0]))) 67 (S + 6 + 6 + 6 + 7 + 280 + 40 + 40) := x_putf (ci := 0) (k := 3) (fs := [.ref 60, .ref 64, .ref 65, .null, .int 0]) (fs' := [.ref 60, .ref 64, .ref 65, .ref 66, .int 0]) (show pm_in 0 37 = some (.putfield 25, 3) from by decide +kernel) (by decide +kernel) f8_59 (by decide) (by decide) (by decide +kernel) (by decide +kernel) (by decide +kernel) rfl
  obtain ⟨M9, e9⟩ : ∃ m : pm_M, m = va_up M8 59 (.inr (0, [.ref 60, .ref 64, .ref 65, .ref 66, .int 0])) := ⟨_, rfl⟩
  rw [← e9] at q19
  refine q19.trans ?_
  have f9_59 : M9 59 = .inr (0, [.ref 60, .ref 64, .ref 65, .ref 66, .int 0]) := by rw [e9, vs]
  have f9_60 : M9 60 = .inr (3, [.ref 61, .ref 62, .ref 63, .int 0, .int 0, .int 0]) := by rw [e9, vn (show (60 : Nat) ≠ 59 by decide)]; exact f8_60
  refine Eq.trans (x_return (show pm_in 0 40 = some (.return_, 1) from by decide +kernel) (by decide +kernel)) ?_
  rw [e9, e8, e7, e6, e5, e4, e3, e2, e1]
def mem47 (M : pm_M) : pm_M := va_up (va_up (va_up (va_up (va_up (va_up (va_up (va_up (va_up (va_up (va_up (va_up (va_up (va_up (va_up (va_up (va_up (va_up (va_up (va_up (va_up (va_up (va_up (va_up (va_up (va_up (va_up (va_up (va_up (va_up (va_up (va_up (va_up (va_up (va_up (va_up (va_up (va_up (va_up (va_up (va_up (va_up (va_up (va_up (va_up (va_up (va_up (va_up (va_up (va_up (va_up (va_up (va_up (va_up (va_up (va_up (va_up (va_up (va_up (va_up (va_up (va_up (va_up (va_up (va_up (va_up (va_up (va_up (va_up (va_up (va_up (va_up (va_up (va_up (va_up (va_up (va_up (va_up (va_up (va_up (va_up (va_up (va_up (va_up (va_up (va_up (va_up (va_up (va_up (va_up (va_up (va_up (va_up (va_up (va_up (va_up (va_up (va_up (va_up (va_up (va_up (va_up (va_up (va_up (va_up (va_up (va_up (va_up (va_up (va_up (va_up (va_up (va_up (va_up (va_up (va_up (va_up (va_up (va_up (va_up (va_up (va_up (va_up (va_up (va_up (va_up (va_up (va_up (va_up (va_up (va_up (va_up (va_up (va_up (va_up (va_up (va_up (va_up (va_up (va_up (va_up (va_up (va_up M 1 (.inl (2, 6, .inr (.inr (.inr (.inr (fun _ => none))))))) 0 (.inr (4, [.ref 1, .null, .null, .null, .null, .null, .null, .null, .null, .int 0, .int 0, .long 0, .long 0]))) 2 (.inl (2, 4, .inr (.inr (.inr (.inr (fun _ => none))))))) 0 (.inr (4, [.ref 1, .ref 2, .null, .null, .null, .null, .null, .null, .null, .int 0, .int 0, .long 0, .long 0]))) 3 (.inr (0, [.null, .null, .null, .null, .int 0]))) 4 (.inr (3, [.null, .null, .null, .int 0, .int 0, .int 0]))) 5 (.inl (0, 6, .inl (fun _ => 0)))) 4 (.inr (3, [.ref 5, .null, .null, .int 0, .int 0, .int 0]))) 6 (.inl (0, 6, .inl (fun _ => 0)))) 4 (.inr (3, [.ref 5, .ref 6, .null, .int 0, .int 0, .int 0]))) 7 (.inl (0, 7, .inl (fun _ => 0)))) 4 (.inr (3, [.ref 5, .ref 6, .ref 7, .int 0, .int 0, .int 0]))) 3 (.inr (0, [.ref 4, .null, .null, .null, .int 0]))) 8 (.inl (0, 280, .inl (fun _ => 0)))) 3 (.inr (0, [.ref 4, .ref 8, .null, .null, .int 0]))) 9 (.inl (0, 40, .inl (fun _ => 0)))) 3 (.inr (0, [.ref 4, .ref 8, .ref 9, .null, .int 0]))) 10 (.inl (0, 40, .inl (fun _ => 0)))) 3 (.inr (0, [.ref 4, .ref 8, .ref 9, .ref 10, .int 0]))) 0 (.inr (4, [.ref 1, .ref 2, .ref 3, .null, .null, .null, .null, .null, .null, .int 0, .int 0, .long 0, .long 0]))) 11 (.inl (3, 3, .inr (.inr (.inr (.inr (fun _ => none))))))) 0 (.inr (4, [.ref 1, .ref 2, .ref 3, .ref 11, .null, .null, .null, .null, .null, .int 0, .int 0, .long 0, .long 0]))) 12 (.inr (3, [.null, .null, .null, .int 0, .int 0, .int 0]))) 13 (.inl (0, 6, .inl (fun _ => 0)))) 12 (.inr (3, [.ref 13, .null, .null, .int 0, .int 0, .int 0]))) 14 (.inl (0, 6, .inl (fun _ => 0)))) 12 (.inr (3, [.ref 13, .ref 14, .null, .int 0, .int 0, .int 0]))) 15 (.inl (0, 7, .inl (fun _ => 0)))) 12 (.inr (3, [.ref 13, .ref 14, .ref 15, .int 0, .int 0, .int 0]))) 0 (.inr (4, [.ref 1, .ref 2, .ref 3, .ref 11, .ref 12, .null, .null, .null, .null, .int 0, .int 0, .long 0, .long 0]))) 16 (.inr (2, [.null, .null, .null, .int 0]))) 17 (.inl (0, 64, .inl (fun _ => 0)))) 16 (.inr (2, [.ref 17, .null, .null, .int 0]))) 18 (.inl (0, 448, .inl (fun _ => 0)))) 16 (.inr (2, [.ref 17, .ref 18, .null, .int 0]))) 19 (.inl (0, 61, .inl (fun _ => 0)))) 16 (.inr (2, [.ref 17, .ref 18, .ref 19, .int 0]))) 0 (.inr (4, [.ref 1, .ref 2, .ref 3, .ref 11, .ref 12, .ref 16, .null, .null, .null, .int 0, .int 0, .long 0, .long 0]))) 20 (.inl (0, 64, .inl (fun _ => 0)))) 0 (.inr (4, [.ref 1, .ref 2, .ref 3, .ref 11, .ref 12, .ref 16, .ref 20, .null, .null, .int 0, .int 0, .long 0, .long 0]))) 21 (.inl (0, 64, .inl (fun _ => 0)))) 0 (.inr (4, [.ref 1, .ref 2, .ref 3, .ref 11, .ref 12, .ref 16, .ref 20, .ref 21, .null, .int 0, .int 0, .long 0, .long 0]))) 22 (.inl (0, 6, .inl (fun _ => 0)))) 0 (.inr (4, [.ref 1, .ref 2, .ref 3, .ref 11, .ref 12, .ref 16, .ref 20, .ref 21, .ref 22, .int 0, .int 0, .long 0, .long 0]))) 0 (.inr (4, [.ref 1, .ref 2, .ref 3, .ref 11, .ref 12, .ref 16, .ref 20, .ref 21, .ref 22, .int 0, .int 0, .long 0, .long 1]))) 23 (.inr (1, [.null, .int 0]))) 23 (.inr (1, [.null, .int (-1)]))) 24 (.inl (0, 40, .inl (fun _ => 0)))) 23 (.inr (1, [.ref 24, .int (-1)]))) 1 (.inl (2, 6, .inr (.inr (.inr (.inr (va_up (fun _ => none) 0 (some 23)))))))) 25 (.inr (1, [.null, .int 0]))) 25 (.inr (1, [.null, .int (-1)]))) 26 (.inl (0, 40, .inl (fun _ => 0)))) 25 (.inr (1, [.ref 26, .int (-1)]))) 1 (.inl (2, 6, .inr (.inr (.inr (.inr (va_up (va_up (fun _ => none) 0 (some 23)) 1 (some 25)))))))) 27 (.inr (1, [.null, .int 0]))) 27 (.inr (1, [.null, .int (-1)]))) 28 (.inl (0, 40, .inl (fun _ => 0)))) 27 (.inr (1, [.ref 28, .int (-1)]))) 1 (.inl (2, 6, .inr (.inr (.inr (.inr (va_up (va_up (va_up (fun _ => none) 0 (some 23)) 1 (some 25)) 2 (some 27)))))))) 29 (.inr (1, [.null, .int 0]))) 29 (.inr (1, [.null, .int (-1)]))) 30 (.inl (0, 40, .inl (fun _ => 0)))) 29 (.inr (1, [.ref 30, .int (-1)]))) 1 (.inl (2, 6, .inr (.inr (.inr (.inr (va_up (va_up (va_up (va_up (fun _ => none) 0 (some 23)) 1 (some 25)) 2 (some 27)) 3 (some 29)))))))) 31 (.inr (1, [.null, .int 0]))) 31 (.inr (1, [.null, .int (-1)]))) 32 (.inl (0, 40, .inl (fun _ => 0)))) 31 (.inr (1, [.ref 32, .int (-1)]))) 1 (.inl (2, 6, .inr (.inr (.inr (.inr (va_up (va_up (va_up (va_up (va_up (fun _ => none) 0 (some 23)) 1 (some 25)) 2 (some 27)) 3 (some 29)) 4 (some 31)))))))) 33 (.inr (1, [.null, .int 0]))) 33 (.inr (1, [.null, .int (-1)]))) 34 (.inl (0, 40, .inl (fun _ => 0)))) 33 (.inr (1, [.ref 34, .int (-1)]))) 1 (.inl (2, 6, .inr (.inr (.inr (.inr (va_up (va_up (va_up (va_up (va_up (va_up (fun _ => none) 0 (some 23)) 1 (some 25)) 2 (some 27)) 3 (some 29)) 4 (some 31)) 5 (some 33)))))))) 35 (.inr (1, [.null, .int 0]))) 35 (.inr (1, [.null, .int (-1)]))) 36 (.inl (0, 60, .inl (fun _ => 0)))) 35 (.inr (1, [.ref 36, .int (-1)]))) 2 (.inl (2, 4, .inr (.inr (.inr (.inr (va_up (fun _ => none) 0 (some 35)))))))) 37 (.inr (1, [.null, .int 0]))) 37 (.inr (1, [.null, .int (-1)]))) 38 (.inl (0, 60, .inl (fun _ => 0)))) 37 (.inr (1, [.ref 38, .int (-1)]))) 2 (.inl (2, 4, .inr (.inr (.inr (.inr (va_up (va_up (fun _ => none) 0 (some 35)) 1 (some 37)))))))) 39 (.inr (1, [.null, .int 0]))) 39 (.inr (1, [.null, .int (-1)]))) 40 (.inl (0, 60, .inl (fun _ => 0)))) 39 (.inr (1, [.ref 40, .int (-1)]))) 2 (.inl (2, 4, .inr (.inr (.inr (.inr (va_up (va_up (va_up (fun _ => none) 0 (some 35)) 1 (some 37)) 2 (some 39)))))))) 41 (.inr (1, [.null, .int 0]))) 41 (.inr (1, [.null, .int (-1)]))) 42 (.inl (0, 60, .inl (fun _ => 0)))) 41 (.inr (1, [.ref 42, .int (-1)]))) 2 (.inl (2, 4, .inr (.inr (.inr (.inr (va_up (va_up (va_up (va_up (fun _ => none) 0 (some 35)) 1 (some 37)) 2 (some 39)) 3 (some 41)))))))) 43 (.inr (0, [.null, .null, .null, .null, .int 0]))) 44 (.inr (3, [.null, .null, .null, .int 0, .int 0, .int 0]))) 45 (.inl (0, 6, .inl (fun _ => 0)))) 44 (.inr (3, [.ref 45, .null, .null, .int 0, .int 0, .int 0]))) 46 (.inl (0, 6, .inl (fun _ => 0)))) 44 (.inr (3, [.ref 45, .ref 46, .null, .int 0, .int 0, .int 0]))) 47 (.inl (0, 7, .inl (fun _ => 0)))) 44 (.inr (3, [.ref 45, .ref 46, .ref 47, .int 0, .int 0, .int 0]))) 43 (.inr (0, [.ref 44, .null, .null, .null, .int 0]))) 48 (.inl (0, 280, .inl (fun _ => 0)))) 43 (.inr (0, [.ref 44, .ref 48, .null, .null, .int 0]))) 49 (.inl (0, 40, .inl (fun _ => 0)))) 43 (.inr (0, [.ref 44, .ref 48, .ref 49, .null, .int 0]))) 50 (.inl (0, 40, .inl (fun _ => 0)))) 43 (.inr (0, [.ref 44, .ref 48, .ref 49, .ref 50, .int 0]))) 11 (.inl (3, 3, .inr (.inr (.inr (.inr (va_up (fun _ => none) 0 (some 43)))))))) 51 (.inr (0, [.null, .null, .null, .null, .int 0]))) 52 (.inr (3, [.null, .null, .null, .int 0, .int 0, .int 0]))) 53 (.inl (0, 6, .inl (fun _ => 0)))) 52 (.inr (3, [.ref 53, .null, .null, .int 0, .int 0, .int 0]))) 54 (.inl (0, 6, .inl (fun _ => 0)))) 52 (.inr (3, [.ref 53, .ref 54, .null, .int 0, .int 0, .int 0]))) 55 (.inl (0, 7, .inl (fun _ => 0)))) 52 (.inr (3, [.ref 53, .ref 54, .ref 55, .int 0, .int 0, .int 0]))) 51 (.inr (0, [.ref 52, .null, .null, .null, .int 0]))) 56 (.inl (0, 280, .inl (fun _ => 0)))) 51 (.inr (0, [.ref 52, .ref 56, .null, .null, .int 0]))) 57 (.inl (0, 40, .inl (fun _ => 0)))) 51 (.inr (0, [.ref 52, .ref 56, .ref 57, .null, .int 0]))) 58 (.inl (0, 40, .inl (fun _ => 0)))) 51 (.inr (0, [.ref 52, .ref 56, .ref 57, .ref 58, .int 0]))) 11 (.inl (3, 3, .inr (.inr (.inr (.inr (va_up (va_up (fun _ => none) 0 (some 43)) 1 (some 51)))))))) 59 (.inr (0, [.null, .null, .null, .null, .int 0]))) 60 (.inr (3, [.null, .null, .null, .int 0, .int 0, .int 0]))) 61 (.inl (0, 6, .inl (fun _ => 0)))) 60 (.inr (3, [.ref 61, .null, .null, .int 0, .int 0, .int 0]))) 62 (.inl (0, 6, .inl (fun _ => 0)))) 60 (.inr (3, [.ref 61, .ref 62, .null, .int 0, .int 0, .int 0]))) 63 (.inl (0, 7, .inl (fun _ => 0)))) 60 (.inr (3, [.ref 61, .ref 62, .ref 63, .int 0, .int 0, .int 0]))) 59 (.inr (0, [.ref 60, .null, .null, .null, .int 0]))) 64 (.inl (0, 280, .inl (fun _ => 0)))) 59 (.inr (0, [.ref 60, .ref 64, .null, .null, .int 0]))) 65 (.inl (0, 40, .inl (fun _ => 0)))) 59 (.inr (0, [.ref 60, .ref 64, .ref 65, .null, .int 0]))) 66 (.inl (0, 40, .inl (fun _ => 0)))) 59 (.inr (0, [.ref 60, .ref 64, .ref 65, .ref 66, .int 0]))) 11 (.inl (3, 3, .inr (.inr (.inr (.inr (va_up (va_up (va_up (fun _ => none) 0 (some 43)) 1 (some 51)) 2 (some 59)))))))
set_option maxHeartbeats 4000000 in
theorem ini47_0 {M : pm_M} {S : Nat} (h0 : M 0 = .inr (4, [.null, .null, .null, .null, .null, .null, .null, .null, .null, .int 0, .int 0, .long 0, .long 0])) : pX 47 0 [.ref 0, .null] [] M 1 S = some (none, mem47 M, 67, S + 6 + 4 + 5 + 6 + 6 + 6 + 7 + 280 + 40 + 40 + 3 + 6 + 6 + 6 + 7 + 4 + 64 + 448 + 61 + 64 + 64 + 6 + 2 + 40 + 2 + 40 + 2 + 40 + 2 + 40 + 2 + 40 + 2 + 40 + 2 + 60 + 2 + 60 + 2 + 60 + 2 + 60 + 5 + 6 + 6 + 6 + 7 + 280 + 40 + 40 + 5 + 6 + 6 + 6 + 7 + 280 + 40 + 40 + 5 + 6 + 6 + 6 + 7 + 280 + 40 + 40) := by
  refine Eq.trans (x_aload_n (show pm_in 47 0 = some (.aload_n 0, 1) from by decide +kernel) rfl) ?_
  refine Eq.trans (x_obj (q := (0, 0)) (show pm_in 47 1 = some (.invokespecial 1, 3) from by decide +kernel) (by decide +kernel) ⟨Nat.le_of_ble_eq_true rfl, by decide +kernel⟩) ?_
  refine Eq.trans (x_aload_n (show pm_in 47 4 = some (.aload_n 0, 1) from by decide +kernel) rfl) ?_
  refine Eq.trans (x_bipush (v := 6) (show pm_in 47 5 = some (.bipush 6, 2) from by decide +kernel) (by decide)) ?_
  have q5 : pX 47 7 [.ref 0, .null] [.int 6, .ref 0] M 1 (S) = pX 47 10 [.ref 0, .null] [.ref 1, .ref 0] (va_up M 1 (.inl (2, 6, .inr (.inr (.inr (.inr (fun _ => none))))))) 2 (S + 6) := x_newq (t := 2) (n := 6) (show pm_in 47 7 = some (.anewarray 9, 3) from by decide +kernel) (by decide +kernel) ⟨by decide +kernel, by decide +kernel⟩ (by decide +kernel) (by decide +kernel)
  obtain ⟨M1, e1⟩ : ∃ m : pm_M, m = va_up M 1 (.inl (2, 6, .inr (.inr (.inr (.inr (fun _ => none)))))) := ⟨_, rfl⟩
  rw [← e1] at q5
  refine q5.trans ?_
  have f1_0 : M1 0 = .inr (4, [.null, .null, .null, .null, .null, .null, .null, .null, .null, .int 0, .int 0, .long 0, .long 0]) := by rw [e1, vn (show (0 : Nat) ≠ 1 by decide)]; exact h0
  have f1_1 : M1 1 = .inl (2, 6, .inr (.inr (.inr (.inr (fun _ => none))))) := by rw [e1, vs]
  have q6 : pX 47 10 [.ref 0, .null] [.ref 1, .ref 0] M1 2 (S + 6) = pX 47 13 [.ref 0, .null] [] (va_up M1 0 (.inr (4, [.ref 1, .null, .null, .null, .null, .null, .null, .null, .null, .int 0, .int 0, .long 0, .long 0]))) 2 (S + 6) := x_putf (ci := 4) (k := 0) (fs := [.null, .null, .null, .null, .null, .null, .null, .null, .null, .int 0, .int 0, .long 0, .long 0]) (fs' := [.ref 1, .null, .null, .null, .null, .null, .null, .null, .null, .int 0, .int 0, .long 0, .long 0]) (show pm_in 47 10 = some (.putfield 11, 3) from by decide +kernel) (by decide +kernel) f1_0 (by decide) (by decide) (by decide +kernel) (by decide +kernel) (by decide +kernel) rfl
  obtain ⟨M2, e2⟩ : ∃ m : pm_M, m = va_up M1 0 (.inr (4, [.ref 1, .null, .null, .null, .null, .null, .null, .null, .null, .int 0, .int 0, .long 0, .long 0])) := ⟨_, rfl⟩
  rw [← e2] at q6
  refine q6.trans ?_
  have f2_0 : M2 0 = .inr (4, [.ref 1, .null, .null, .null, .null, .null, .null, .null, .null, .int 0, .int 0, .long 0, .long 0]) := by rw [e2, vs]
  have f2_1 : M2 1 = .inl (2, 6, .inr (.inr (.inr (.inr (fun _ => none))))) := by rw [e2, vn (show (1 : Nat) ≠ 0 by decide)]; exact f1_1
  refine Eq.trans (x_aload_n (show pm_in 47 13 = some (.aload_n 0, 1) from by decide +kernel) rfl) ?_
  refine Eq.trans (x_iconst (v := 4) (show pm_in 47 14 = some (.iconst 4, 1) from by decide +kernel) (by decide)) ?_
  have q9 : pX 47 15 [.ref 0, .null] [.int 4, .ref 0] M2 2 (S + 6) = pX 47 18 [.ref 0, .null] [.ref 2, .ref 0] (va_up M2 2 (.inl (2, 4, .inr (.inr (.inr (.inr (fun _ => none))))))) 3 (S + 6 + 4) := x_newq (t := 2) (n := 4) (show pm_in 47 15 = some (.anewarray 9, 3) from by decide +kernel) (by decide +kernel) ⟨by decide +kernel, by decide +kernel⟩ (by decide +kernel) (by decide +kernel)
  obtain ⟨M3, e3⟩ : ∃ m : pm_M, m = va_up M2 2 (.inl (2, 4, .inr (.inr (.inr (.inr (fun _ => none)))))) := ⟨_, rfl⟩
  rw [← e3] at q9
  refine q9.trans ?_
  have f3_0 : M3 0 = .inr (4, [.ref 1, .null, .null, .null, .null, .null, .null, .null, .null, .int 0, .int 0, .long 0, .long 0]) := by rw [e3, vn (show (0 : Nat) ≠ 2 by decide)]; exact f2_0
  have f3_1 : M3 1 = .inl (2, 6, .inr (.inr (.inr (.inr (fun _ => none))))) := by rw [e3, vn (show (1 : Nat) ≠ 2 by decide)]; exact f2_1
  have f3_2 : M3 2 = .inl (2, 4, .inr (.inr (.inr (.inr (fun _ => none))))) := by rw [e3, vs]
  have q10 : pX 47 18 [.ref 0, .null] [.ref 2, .ref 0] M3 3 (S + 6 + 4) = pX 47 21 [.ref 0, .null] [] (va_up M3 0 (.inr (4, [.ref 1, .ref 2, .null, .null, .null, .null, .null, .null, .null, .int 0, .int 0, .long 0, .long 0]))) 3 (S + 6 + 4) := x_putf (ci := 4) (k := 1) (fs := [.ref 1, .null, .null, .null, .null, .null, .null, .null, .null, .int 0, .int 0, .long 0, .long 0]) (fs' := [.ref 1, .ref 2, .null, .null, .null, .null, .null, .null, .null, .int 0, .int 0, .long 0, .long 0]) (show pm_in 47 18 = some (.putfield 15, 3) from by decide +kernel) (by decide +kernel) f3_0 (by decide) (by decide) (by decide +kernel) (by decide +kernel) (by decide +kernel) rfl
  obtain ⟨M4, e4⟩ : ∃ m : pm_M, m = va_up M3 0 (.inr (4, [.ref 1, .ref 2, .null, .null, .null, .null, .null, .null, .null, .int 0, .int 0, .long 0, .long 0])) := ⟨_, rfl⟩
  rw [← e4] at q10
  refine q10.trans ?_
  have f4_0 : M4 0 = .inr (4, [.ref 1, .ref 2, .null, .null, .null, .null, .null, .null, .null, .int 0, .int 0, .long 0, .long 0]) := by rw [e4, vs]
  have f4_1 : M4 1 = .inl (2, 6, .inr (.inr (.inr (.inr (fun _ => none))))) := by rw [e4, vn (show (1 : Nat) ≠ 0 by decide)]; exact f3_1
  have f4_2 : M4 2 = .inl (2, 4, .inr (.inr (.inr (.inr (fun _ => none))))) := by rw [e4, vn (show (2 : Nat) ≠ 0 by decide)]; exact f3_2
  refine Eq.trans (x_aload_n (show pm_in 47 21 = some (.aload_n 0, 1) from by decide +kernel) rfl) ?_
  have q12 : pX 47 22 [.ref 0, .null] [.ref 0] M4 3 (S + 6 + 4) = pX 47 25 [.ref 0, .null] [.ref 3, .ref 0] (va_up M4 3 (.inr (0, [.null, .null, .null, .null, .int 0]))) 4 (S + 6 + 4 + 5) := x_new (ci := 0) (k := 5) (show pm_in 47 22 = some (.new 18, 3) from by decide +kernel) (by decide +kernel) rfl rfl (by decide +kernel)
  obtain ⟨M5, e5⟩ : ∃ m : pm_M, m = va_up M4 3 (.inr (0, [.null, .null, .null, .null, .int 0])) := ⟨_, rfl⟩
  rw [← e5] at q12
  refine q12.trans ?_
  have f5_0 : M5 0 = .inr (4, [.ref 1, .ref 2, .null, .null, .null, .null, .null, .null, .null, .int 0, .int 0, .long 0, .long 0]) := by rw [e5, vn (show (0 : Nat) ≠ 3 by decide)]; exact f4_0
  have f5_1 : M5 1 = .inl (2, 6, .inr (.inr (.inr (.inr (fun _ => none))))) := by rw [e5, vn (show (1 : Nat) ≠ 3 by decide)]; exact f4_1
  have f5_2 : M5 2 = .inl (2, 4, .inr (.inr (.inr (.inr (fun _ => none))))) := by rw [e5, vn (show (2 : Nat) ≠ 3 by decide)]; exact f4_2
  have f5_3 : M5 3 = .inr (0, [.null, .null, .null, .null, .int 0]) := by rw [e5, vs]
  refine Eq.trans (x_dup (show pm_in 47 25 = some (.dup, 1) from by decide +kernel) rfl) ?_
  have q14 : pX 47 26 [.ref 0, .null] [.ref 3, .ref 3, .ref 0] M5 4 (S + 6 + 4 + 5) = pX 47 29 [.ref 0, .null] [.ref 3, .ref 0] (va_up (va_up (va_up (va_up (va_up (va_up (va_up (va_up (va_up (va_up (va_up (va_up (va_up (va_up M5 4 (.inr (3, [.null, .null, .null, .int 0, .int 0, .int 0]))) 5 (.inl (0, 6, .inl (fun _ => 0)))) 4 (.inr (3, [.ref 5, .null, .null, .int 0, .int 0, .int 0]))) 6 (.inl (0, 6, .inl (fun _ => 0)))) 4 (.inr (3, [.ref 5, .ref 6, .null, .int 0, .int 0, .int 0]))) 7 (.inl (0, 7, .inl (fun _ => 0)))) 4 (.inr (3, [.ref 5, .ref 6, .ref 7, .int 0, .int 0, .int 0]))) 3 (.inr (0, [.ref 4, .null, .null, .null, .int 0]))) 8 (.inl (0, 280, .inl (fun _ => 0)))) 3 (.inr (0, [.ref 4, .ref 8, .null, .null, .int 0]))) 9 (.inl (0, 40, .inl (fun _ => 0)))) 3 (.inr (0, [.ref 4, .ref 8, .ref 9, .null, .int 0]))) 10 (.inl (0, 40, .inl (fun _ => 0)))) 3 (.inr (0, [.ref 4, .ref 8, .ref 9, .ref 10, .int 0]))) 11 (S + 6 + 4 + 5 + 6 + 6 + 6 + 7 + 280 + 40 + 40) := x_callI (y' := 0) (k := 0) (kd := 4) (b := 3) (as := []) (st' := [.ref 3, .ref 0]) (show pm_in 47 26 = some (.invokespecial 20, 3) from by decide +kernel) (by decide +kernel) (by decide) rfl rfl (by decide +kernel) (Nat.le_of_ble_eq_true rfl) (by decide +kernel) (by decide +kernel) rfl (by decide +kernel) (by decide +kernel) (ini0_3 (M := M5) (S := S + 6 + 4 + 5) f5_3)
  obtain ⟨M6, e6⟩ : ∃ m : pm_M, m = va_up (va_up (va_up (va_up (va_up (va_up (va_up (va_up (va_up (va_up (va_up (va_up (va_up (va_up M5 4 (.inr (3, [.null, .null, .null, .int 0, .int 0, .int 0]))) 5 (.inl (0, 6, .inl (fun _ => 0)))) 4 (.inr (3, [.ref 5, .null, .null, .int 0, .int 0, .int 0]))) 6 (.inl (0, 6, .inl (fun _ => 0)))) 4 (.inr (3, [.ref 5, .ref 6, .null, .int 0, .int 0, .int 0]))) 7 (.inl (0, 7, .inl (fun _ => 0)))) 4 (.inr (3, [.ref 5, .ref 6, .ref 7, .int 0, .int 0, .int 0]))) 3 (.inr (0, [.ref 4, .null, .null, .null, .int 0]))) 8 (.inl (0, 280, .inl (fun _ => 0)))) 3 (.inr (0, [.ref 4, .ref 8, .null, .null, .int 0]))) 9 (.inl (0, 40, .inl (fun _ => 0)))) 3 (.inr (0, [.ref 4, .ref 8, .ref 9, .null, .int 0]))) 10 (.inl (0, 40, .inl (fun _ => 0)))) 3 (.inr (0, [.ref 4, .ref 8, .ref 9, .ref 10, .int 0])) := ⟨_, rfl⟩
  rw [← e6] at q14
  refine q14.trans ?_
  have f6_0 : M6 0 = .inr (4, [.ref 1, .ref 2, .null, .null, .null, .null, .null, .null, .null, .int 0, .int 0, .long 0, .long 0]) := by rw [e6, vn (show (0 : Nat) ≠ 3 by decide), vn (show (0 : Nat) ≠ 10 by decide), vn (show (0 : Nat) ≠ 3 by decide), vn (show (0 : Nat) ≠ 9 by decide), vn (show (0 : Nat) ≠ 3 by decide), vn (show (0 : Nat) ≠ 8 by decide), vn (show (0 : Nat) ≠ 3 by decide), vn (show (0 : Nat) ≠ 4 by decide), vn (show (0 : Nat) ≠ 7 by decide), vn (show (0 : Nat) ≠ 4 by decide), vn (show (0 : Nat) ≠ 6 by decide), vn (show (0 : Nat) ≠ 4 by decide), vn (show (0 : Nat) ≠ 5 by decide), vn (show (0 : Nat) ≠ 4 by decide)]; exact f5_0
  have f6_1 : M6 1 = .inl (2, 6, .inr (.inr (.inr (.inr (fun _ => none))))) := by rw [e6, vn (show (1 : Nat) ≠ 3 by decide), vn (show (1 : Nat) ≠ 10 by decide), vn (show (1 : Nat) ≠ 3 by decide), vn (show (1 : Nat) ≠ 9 by decide), vn (show (1 : Nat) ≠ 3 by decide), vn (show (1 : Nat) ≠ 8 by decide), vn (show (1 : Nat) ≠ 3 by decide), vn (show (1 : Nat) ≠ 4 by decide), vn (show (1 : Nat) ≠ 7 by decide), vn (show (1 : Nat) ≠ 4 by decide), vn (show (1 : Nat) ≠ 6 by decide), vn (show (1 : Nat) ≠ 4 by decide), vn (show (1 : Nat) ≠ 5 by decide), vn (show (1 : Nat) ≠ 4 by decide)]; exact f5_1
  have f6_2 : M6 2 = .inl (2, 4, .inr (.inr (.inr (.inr (fun _ => none))))) := by rw [e6, vn (show (2 : Nat) ≠ 3 by decide), vn (show (2 : Nat) ≠ 10 by decide), vn (show (2 : Nat) ≠ 3 by decide), vn (show (2 : Nat) ≠ 9 by decide), vn (show (2 : Nat) ≠ 3 by decide), vn (show (2 : Nat) ≠ 8 by decide), vn (show (2 : Nat) ≠ 3 by decide), vn (show (2 : Nat) ≠ 4 by decide), vn (show (2 : Nat) ≠ 7 by decide), vn (show (2 : Nat) ≠ 4 by decide), vn (show (2 : Nat) ≠ 6 by decide), vn (show (2 : Nat) ≠ 4 by decide), vn (show (2 : Nat) ≠ 5 by decide), vn (show (2 : Nat) ≠ 4 by decide)]; exact f5_2
  have f6_3 : M6 3 = .inr (0, [.ref 4, .ref 8, .ref 9, .ref 10, .int 0]) := by rw [e6, vs]
  have q15 : pX 47 29 [.ref 0, .null] [.ref 3, .ref 0] M6 11 (S + 6 + 4 + 5 + 6 + 6 + 6 + 7 + 280 + 40 + 40) = pX 47 32 [.ref 0, .null] [] (va_up M6 0 (.inr (4, [.ref 1, .ref 2, .ref 3, .null, .null, .null, .null, .null, .null, .int 0, .int 0, .long 0, .long 0]))) 11 (S + 6 + 4 + 5 + 6 + 6 + 6 + 7 + 280 + 40 + 40) := x_putf (ci := 4) (k := 2) (fs := [.ref 1, .ref 2, .null, .null, .null, .null, .null, .null, .null, .int 0, .int 0, .long 0, .long 0]) (fs' := [.ref 1, .ref 2, .ref 3, .null, .null, .null, .null, .null, .null, .int 0, .int 0, .long 0, .long 0]) (show pm_in 47 29 = some (.putfield 21, 3) from by decide +kernel) (by decide +kernel) f6_0 (by decide) (by decide) (by decide +kernel) (by decide +kernel) (by decide +kernel) rfl
  obtain ⟨M7, e7⟩ : ∃ m : pm_M, m = va_up M6 0 (.inr (4, [.ref 1, .ref 2, .ref 3, .null, .null, .null, .null, .null, .null, .int 0, .int 0, .long 0, .long 0])) := ⟨_, rfl⟩
  rw [← e7] at q15
  refine q15.trans ?_
  have f7_0 : M7 0 = .inr (4, [.ref 1, .ref 2, .ref 3, .null, .null, .null, .null, .null, .null, .int 0, .int 0, .long 0, .long 0]) := by rw [e7, vs]
  have f7_1 : M7 1 = .inl (2, 6, .inr (.inr (.inr (.inr (fun _ => none))))) := by rw [e7, vn (show (1 : Nat) ≠ 0 by decide)]; exact f6_1
  have f7_2 : M7 2 = .inl (2, 4, .inr (.inr (.inr (.inr (fun _ => none))))) := by rw [e7, vn (show (2 : Nat) ≠ 0 by decide)]; exact f6_2
  have f7_3 : M7 3 = .inr (0, [.ref 4, .ref 8, .ref 9, .ref 10, .int 0]) := by rw [e7, vn (show (3 : Nat) ≠ 0 by decide)]; exact f6_3
  refine Eq.trans (x_aload_n (show pm_in 47 32 = some (.aload_n 0, 1) from by decide +kernel) rfl) ?_
  refine Eq.trans (x_iconst (v := 3) (show pm_in 47 33 = some (.iconst 3, 1) from by decide +kernel) (by decide)) ?_
  have q18 : pX 47 34 [.ref 0, .null] [.int 3, .ref 0] M7 11 (S + 6 + 4 + 5 + 6 + 6 + 6 + 7 + 280 + 40 + 40) = pX 47 37 [.ref 0, .null] [.ref 11, .ref 0] (va_up M7 11 (.inl (3, 3, .inr (.inr (.inr (.inr (fun _ => none))))))) 12 (S + 6 + 4 + 5 + 6 + 6 + 6 + 7 + 280 + 40 + 40 + 3) := x_newq (t := 3) (n := 3) (show pm_in 47 34 = some (.anewarray 18, 3) from by decide +kernel) (by decide +kernel) ⟨by decide +kernel, by decide +kernel⟩ (by decide +kernel) (by decide +kernel)
  obtain ⟨M8, e8⟩ : ∃ m : pm_M, m = va_up M7 11 (.inl (3, 3, .inr (.inr (.inr (.inr (fun _ => none)))))) := ⟨_, rfl⟩
  rw [← e8] at q18
  refine q18.trans ?_
  have f8_0 : M8 0 = .inr (4, [.ref 1, .ref 2, .ref 3, .null, .null, .null, .null, .null, .null, .int 0, .int 0, .long 0, .long 0]) := by rw [e8, vn (show (0 : Nat) ≠ 11 by decide)]; exact f7_0
  have f8_1 : M8 1 = .inl (2, 6, .inr (.inr (.inr (.inr (fun _ => none))))) := by rw [e8, vn (show (1 : Nat) ≠ 11 by decide)]; exact f7_1
  have f8_2 : M8 2 = .inl (2, 4, .inr (.inr (.inr (.inr (fun _ => none))))) := by rw [e8, vn (show (2 : Nat) ≠ 11 by decide)]; exact f7_2
  have f8_3 : M8 3 = .inr (0, [.ref 4, .ref 8, .ref 9, .ref 10, .int 0]) := by rw [e8, vn (show (3 : Nat) ≠ 11 by decide)]; exact f7_3
  have f8_11 : M8 11 = .inl (3, 3, .inr (.inr (.inr (.inr (fun _ => none))))) := by rw [e8, vs]
  have q19 : pX 47 37 [.ref 0, .null] [.ref 11, .ref 0] M8 12 (S + 6 + 4 + 5 + 6 + 6 + 6 + 7 + 280 + 40 + 40 + 3) = pX 47 40 [.ref 0, .null] [] (va_up M8 0 (.inr (4, [.ref 1, .ref 2, .ref 3, .ref 11, .null, .null, .null, .null, .null, .int 0, .int 0, .long 0, .long 0]))) 12 (S + 6 + 4 + 5 + 6 + 6 + 6 + 7 + 280 + 40 + 40 + 3) := x_putf (ci := 4) (k := 3) (fs := [.ref 1, .ref 2, .ref 3, .null, .null, .null, .null, .null, .null, .int 0, .int 0, .long 0, .long 0]) (fs' := [.ref 1, .ref 2, .ref 3, .ref 11, .null, .null, .null, .null, .null, .int 0, .int 0, .long 0, .long 0]) (show pm_in 47 37 = some (.putfield 25, 3) from by decide +kernel) (by decide +kernel) f8_0 (by decide) (by decide) (by decide +kernel) (by decide +kernel) (by decide +kernel) rfl
  obtain ⟨M9, e9⟩ : ∃ m : pm_M, m = va_up M8 0 (.inr (4, [.ref 1, .ref 2, .ref 3, .ref 11, .null, .null, .null, .null, .null, .int 0, .int 0, .long 0, .long 0])) := ⟨_, rfl⟩
  rw [← e9] at q19
  refine q19.trans ?_
  have f9_0 : M9 0 = .inr (4, [.ref 1, .ref 2, .ref 3, .ref 11, .null, .null, .null, .null, .null, .int 0, .int 0, .long 0, .long 0]) := by rw [e9, vs]
  have f9_1 : M9 1 = .inl (2, 6, .inr (.inr (.inr (.inr (fun _ => none))))) := by rw [e9, vn (show (1 : Nat) ≠ 0 by decide)]; exact f8_1
  have f9_2 : M9 2 = .inl (2, 4, .inr (.inr (.inr (.inr (fun _ => none))))) := by rw [e9, vn (show (2 : Nat) ≠ 0 by decide)]; exact f8_2
  have f9_3 : M9 3 = .inr (0, [.ref 4, .ref 8, .ref 9, .ref 10, .int 0]) := by rw [e9, vn (show (3 : Nat) ≠ 0 by decide)]; exact f8_3
  have f9_11 : M9 11 = .inl (3, 3, .inr (.inr (.inr (.inr (fun _ => none))))) := by rw [e9, vn (show (11 : Nat) ≠ 0 by decide)]; exact f8_11
  refine Eq.trans (x_aload_n (show pm_in 47 40 = some (.aload_n 0, 1) from by decide +kernel) rfl) ?_
  have q21 : pX 47 41 [.ref 0, .null] [.ref 0] M9 12 (S + 6 + 4 + 5 + 6 + 6 + 6 + 7 + 280 + 40 + 40 + 3) = pX 47 44 [.ref 0, .null] [.ref 12, .ref 0] (va_up M9 12 (.inr (3, [.null, .null, .null, .int 0, .int 0, .int 0]))) 13 (S + 6 + 4 + 5 + 6 + 6 + 6 + 7 + 280 + 40 + 40 + 3 + 6) := x_new (ci := 3) (k := 6) (show pm_in 47 41 = some (.new 29, 3) from by decide +kernel) (by decide +kernel) rfl rfl (by decide +kernel)
  obtain ⟨M10, e10⟩ : ∃ m : pm_M, m = va_up M9 12 (.inr (3, [.null, .null, .null, .int 0, .int 0, .int 0])) := ⟨_, rfl⟩
  rw [← e10] at q21
  refine q21.trans ?_
  have f10_0 : M10 0 = .inr (4, [.ref 1, .ref 2, .ref 3, .ref 11, .null, .null, .null, .null, .null, .int 0, .int 0, .long 0, .long 0]) := by rw [e10, vn (show (0 : Nat) ≠ 12 by decide)]; exact f9_0
  have f10_1 : M10 1 = .inl (2, 6, .inr (.inr (.inr (.inr (fun _ => none))))) := by rw [e10, vn (show (1 : Nat) ≠ 12 by decide)]; exact f9_1
  have f10_2 : M10 2 = .inl (2, 4, .inr (.inr (.inr (.inr (fun _ => none))))) := by rw [e10, vn (show (2 : Nat) ≠ 12 by decide)]; exact f9_2
  have f10_3 : M10 3 = .inr (0, [.ref 4, .ref 8, .ref 9, .ref 10, .int 0]) := by rw [e10, vn (show (3 : Nat) ≠ 12 by decide)]; exact f9_3
  have f10_11 : M10 11 = .inl (3, 3, .inr (.inr (.inr (.inr (fun _ => none))))) := by rw [e10, vn (show (11 : Nat) ≠ 12 by decide)]; exact f9_11
  have f10_12 : M10 12 = .inr (3, [.null, .null, .null, .int 0, .int 0, .int 0]) := by rw [e10, vs]
  refine Eq.trans (x_dup (show pm_in 47 44 = some (.dup, 1) from by decide +kernel) rfl) ?_
  have q23 : pX 47 45 [.ref 0, .null] [.ref 12, .ref 12, .ref 0] M10 13 (S + 6 + 4 + 5 + 6 + 6 + 6 + 7 + 280 + 40 + 40 + 3 + 6) = pX 47 48 [.ref 0, .null] [.ref 12, .ref 0] (va_up (va_up (va_up (va_up (va_up (va_up M10 13 (.inl (0, 6, .inl (fun _ => 0)))) 12 (.inr (3, [.ref 13, .null, .null, .int 0, .int 0, .int 0]))) 14 (.inl (0, 6, .inl (fun _ => 0)))) 12 (.inr (3, [.ref 13, .ref 14, .null, .int 0, .int 0, .int 0]))) 15 (.inl (0, 7, .inl (fun _ => 0)))) 12 (.inr (3, [.ref 13, .ref 14, .ref 15, .int 0, .int 0, .int 0]))) 16 (S + 6 + 4 + 5 + 6 + 6 + 6 + 7 + 280 + 40 + 40 + 3 + 6 + 6 + 6 + 7) := x_callI (y' := 30) (k := 0) (kd := 4) (b := 12) (as := []) (st' := [.ref 12, .ref 0]) (show pm_in 47 45 = some (.invokespecial 31, 3) from by decide +kernel) (by decide +kernel) (by decide) rfl rfl (by decide +kernel) (Nat.le_of_ble_eq_true rfl) (by decide +kernel) (by decide +kernel) rfl (by decide +kernel) (by decide +kernel) (ini30_12 (M := M10) (S := S + 6 + 4 + 5 + 6 + 6 + 6 + 7 + 280 + 40 + 40 + 3 + 6) f10_12)
  obtain ⟨M11, e11⟩ : ∃ m : pm_M, m = va_up (va_up (va_up (va_up (va_up (va_up M10 13 (.inl (0, 6, .inl (fun _ => 0)))) 12 (.inr (3, [.ref 13, .null, .null, .int 0, .int 0, .int 0]))) 14 (.inl (0, 6, .inl (fun _ => 0)))) 12 (.inr (3, [.ref 13, .ref 14, .null, .int 0, .int 0, .int 0]))) 15 (.inl (0, 7, .inl (fun _ => 0)))) 12 (.inr (3, [.ref 13, .ref 14, .ref 15, .int 0, .int 0, .int 0])) := ⟨_, rfl⟩
  rw [← e11] at q23
  refine q23.trans ?_
  have f11_0 : M11 0 = .inr (4, [.ref 1, .ref 2, .ref 3, .ref 11, .null, .null, .null, .null, .null, .int 0, .int 0, .long 0, .long 0]) := by rw [e11, vn (show (0 : Nat) ≠ 12 by decide), vn (show (0 : Nat) ≠ 15 by decide), vn (show (0 : Nat) ≠ 12 by decide), vn (show (0 : Nat) ≠ 14 by decide), vn (show (0 : Nat) ≠ 12 by decide), vn (show (0 : Nat) ≠ 13 by decide)]; exact f10_0
  have f11_1 : M11 1 = .inl (2, 6, .inr (.inr (.inr (.inr (fun _ => none))))) := by rw [e11, vn (show (1 : Nat) ≠ 12 by decide), vn (show (1 : Nat) ≠ 15 by decide), vn (show (1 : Nat) ≠ 12 by decide), vn (show (1 : Nat) ≠ 14 by decide), vn (show (1 : Nat) ≠ 12 by decide), vn (show (1 : Nat) ≠ 13 by decide)]; exact f10_1
  have f11_2 : M11 2 = .inl (2, 4, .inr (.inr (.inr (.inr (fun _ => none))))) := by rw [e11, vn (show (2 : Nat) ≠ 12 by decide), vn (show (2 : Nat) ≠ 15 by decide), vn (show (2 : Nat) ≠ 12 by decide), vn (show (2 : Nat) ≠ 14 by decide), vn (show (2 : Nat) ≠ 12 by decide), vn (show (2 : Nat) ≠ 13 by decide)]; exact f10_2
  have f11_3 : M11 3 = .inr (0, [.ref 4, .ref 8, .ref 9, .ref 10, .int 0]) := by rw [e11, vn (show (3 : Nat) ≠ 12 by decide), vn (show (3 : Nat) ≠ 15 by decide), vn (show (3 : Nat) ≠ 12 by decide), vn (show (3 : Nat) ≠ 14 by decide), vn (show (3 : Nat) ≠ 12 by decide), vn (show (3 : Nat) ≠ 13 by decide)]; exact f10_3
  have f11_11 : M11 11 = .inl (3, 3, .inr (.inr (.inr (.inr (fun _ => none))))) := by rw [e11, vn (show (11 : Nat) ≠ 12 by decide), vn (show (11 : Nat) ≠ 15 by decide), vn (show (11 : Nat) ≠ 12 by decide), vn (show (11 : Nat) ≠ 14 by decide), vn (show (11 : Nat) ≠ 12 by decide), vn (show (11 : Nat) ≠ 13 by decide)]; exact f10_11
  have f11_12 : M11 12 = .inr (3, [.ref 13, .ref 14, .ref 15, .int 0, .int 0, .int 0]) := by rw [e11, vs]
  have q24 : pX 47 48 [.ref 0, .null] [.ref 12, .ref 0] M11 16 (S + 6 + 4 + 5 + 6 + 6 + 6 + 7 + 280 + 40 + 40 + 3 + 6 + 6 + 6 + 7) = pX 47 51 [.ref 0, .null] [] (va_up M11 0 (.inr (4, [.ref 1, .ref 2, .ref 3, .ref 11, .ref 12, .null, .null, .null, .null, .int 0, .int 0, .long 0, .long 0]))) 16 (S + 6 + 4 + 5 + 6 + 6 + 6 + 7 + 280 + 40 + 40 + 3 + 6 + 6 + 6 + 7) := x_putf (ci := 4) (k := 4) (fs := [.ref 1, .ref 2, .ref 3, .ref 11, .null, .null, .null, .null, .null, .int 0, .int 0, .long 0, .long 0]) (fs' := [.ref 1, .ref 2, .ref 3, .ref 11, .ref 12, .null, .null, .null, .null, .int 0, .int 0, .long 0, .long 0]) (show pm_in 47 48 = some (.putfield 32, 3) from by decide +kernel) (by decide +kernel) f11_0 (by decide) (by decide) (by decide +kernel) (by decide +kernel) (by decide +kernel) rfl
  obtain ⟨M12, e12⟩ : ∃ m : pm_M, m = va_up M11 0 (.inr (4, [.ref 1, .ref 2, .ref 3, .ref 11, .ref 12, .null, .null, .null, .null, .int 0, .int 0, .long 0, .long 0])) := ⟨_, rfl⟩
  rw [← e12] at q24
  refine q24.trans ?_
  have f12_0 : M12 0 = .inr (4, [.ref 1, .ref 2, .ref 3, .ref 11, .ref 12, .null, .null, .null, .null, .int 0, .int 0, .long 0, .long 0]) := by rw [e12, vs]
  have f12_1 : M12 1 = .inl (2, 6, .inr (.inr (.inr (.inr (fun _ => none))))) := by rw [e12, vn (show (1 : Nat) ≠ 0 by decide)]; exact f11_1
  have f12_2 : M12 2 = .inl (2, 4, .inr (.inr (.inr (.inr (fun _ => none))))) := by rw [e12, vn (show (2 : Nat) ≠ 0 by decide)]; exact f11_2
  have f12_3 : M12 3 = .inr (0, [.ref 4, .ref 8, .ref 9, .ref 10, .int 0]) := by rw [e12, vn (show (3 : Nat) ≠ 0 by decide)]; exact f11_3
  have f12_11 : M12 11 = .inl (3, 3, .inr (.inr (.inr (.inr (fun _ => none))))) := by rw [e12, vn (show (11 : Nat) ≠ 0 by decide)]; exact f11_11
  have f12_12 : M12 12 = .inr (3, [.ref 13, .ref 14, .ref 15, .int 0, .int 0, .int 0]) := by rw [e12, vn (show (12 : Nat) ≠ 0 by decide)]; exact f11_12
  refine Eq.trans (x_aload_n (show pm_in 47 51 = some (.aload_n 0, 1) from by decide +kernel) rfl) ?_
  have q26 : pX 47 52 [.ref 0, .null] [.ref 0] M12 16 (S + 6 + 4 + 5 + 6 + 6 + 6 + 7 + 280 + 40 + 40 + 3 + 6 + 6 + 6 + 7) = pX 47 55 [.ref 0, .null] [.ref 16, .ref 0] (va_up M12 16 (.inr (2, [.null, .null, .null, .int 0]))) 17 (S + 6 + 4 + 5 + 6 + 6 + 6 + 7 + 280 + 40 + 40 + 3 + 6 + 6 + 6 + 7 + 4) := x_new (ci := 2) (k := 4) (show pm_in 47 52 = some (.new 36, 3) from by decide +kernel) (by decide +kernel) rfl rfl (by decide +kernel)
  obtain ⟨M13, e13⟩ : ∃ m : pm_M, m = va_up M12 16 (.inr (2, [.null, .null, .null, .int 0])) := ⟨_, rfl⟩
  rw [← e13] at q26
  refine q26.trans ?_
  have f13_0 : M13 0 = .inr (4, [.ref 1, .ref 2, .ref 3, .ref 11, .ref 12, .null, .null, .null, .null, .int 0, .int 0, .long 0, .long 0]) := by rw [e13, vn (show (0 : Nat) ≠ 16 by decide)]; exact f12_0
  have f13_1 : M13 1 = .inl (2, 6, .inr (.inr (.inr (.inr (fun _ => none))))) := by rw [e13, vn (show (1 : Nat) ≠ 16 by decide)]; exact f12_1
  have f13_2 : M13 2 = .inl (2, 4, .inr (.inr (.inr (.inr (fun _ => none))))) := by rw [e13, vn (show (2 : Nat) ≠ 16 by decide)]; exact f12_2
  have f13_3 : M13 3 = .inr (0, [.ref 4, .ref 8, .ref 9, .ref 10, .int 0]) := by rw [e13, vn (show (3 : Nat) ≠ 16 by decide)]; exact f12_3
  have f13_11 : M13 11 = .inl (3, 3, .inr (.inr (.inr (.inr (fun _ => none))))) := by rw [e13, vn (show (11 : Nat) ≠ 16 by decide)]; exact f12_11
  have f13_12 : M13 12 = .inr (3, [.ref 13, .ref 14, .ref 15, .int 0, .int 0, .int 0]) := by rw [e13, vn (show (12 : Nat) ≠ 16 by decide)]; exact f12_12
  have f13_16 : M13 16 = .inr (2, [.null, .null, .null, .int 0]) := by rw [e13, vs]
  refine Eq.trans (x_dup (show pm_in 47 55 = some (.dup, 1) from by decide +kernel) rfl) ?_
  have q28 : pX 47 56 [.ref 0, .null] [.ref 16, .ref 16, .ref 0] M13 17 (S + 6 + 4 + 5 + 6 + 6 + 6 + 7 + 280 + 40 + 40 + 3 + 6 + 6 + 6 + 7 + 4) = pX 47 59 [.ref 0, .null] [.ref 16, .ref 0] (va_up (va_up (va_up (va_up (va_up (va_up M13 17 (.inl (0, 64, .inl (fun _ => 0)))) 16 (.inr (2, [.ref 17, .null, .null, .int 0]))) 18 (.inl (0, 448, .inl (fun _ => 0)))) 16 (.inr (2, [.ref 17, .ref 18, .null, .int 0]))) 19 (.inl (0, 61, .inl (fun _ => 0)))) 16 (.inr (2, [.ref 17, .ref 18, .ref 19, .int 0]))) 20 (S + 6 + 4 + 5 + 6 + 6 + 6 + 7 + 280 + 40 + 40 + 3 + 6 + 6 + 6 + 7 + 4 + 64 + 448 + 61) := x_callI (y' := 22) (k := 0) (kd := 4) (b := 16) (as := []) (st' := [.ref 16, .ref 0]) (show pm_in 47 56 = some (.invokespecial 38, 3) from by decide +kernel) (by decide +kernel) (by decide) rfl rfl (by decide +kernel) (Nat.le_of_ble_eq_true rfl) (by decide +kernel) (by decide +kernel) rfl (by decide +kernel) (by decide +kernel) (ini22_16 (M := M13) (S := S + 6 + 4 + 5 + 6 + 6 + 6 + 7 + 280 + 40 + 40 + 3 + 6 + 6 + 6 + 7 + 4) f13_16)
  obtain ⟨M14, e14⟩ : ∃ m : pm_M, m = va_up (va_up (va_up (va_up (va_up (va_up M13 17 (.inl (0, 64, .inl (fun _ => 0)))) 16 (.inr (2, [.ref 17, .null, .null, .int 0]))) 18 (.inl (0, 448, .inl (fun _ => 0)))) 16 (.inr (2, [.ref 17, .ref 18, .null, .int 0]))) 19 (.inl (0, 61, .inl (fun _ => 0)))) 16 (.inr (2, [.ref 17, .ref 18, .ref 19, .int 0])) := ⟨_, rfl⟩
  rw [← e14] at q28
  refine q28.trans ?_
  have f14_0 : M14 0 = .inr (4, [.ref 1, .ref 2, .ref 3, .ref 11, .ref 12, .null, .null, .null, .null, .int 0, .int 0, .long 0, .long 0]) := by rw [e14, vn (show (0 : Nat) ≠ 16 by decide), vn (show (0 : Nat) ≠ 19 by decide), vn (show (0 : Nat) ≠ 16 by decide), vn (show (0 : Nat) ≠ 18 by decide), vn (show (0 : Nat) ≠ 16 by decide), vn (show (0 : Nat) ≠ 17 by decide)]; exact f13_0
  have f14_1 : M14 1 = .inl (2, 6, .inr (.inr (.inr (.inr (fun _ => none))))) := by rw [e14, vn (show (1 : Nat) ≠ 16 by decide), vn (show (1 : Nat) ≠ 19 by decide), vn (show (1 : Nat) ≠ 16 by decide), vn (show (1 : Nat) ≠ 18 by decide), vn (show (1 : Nat) ≠ 16 by decide), vn (show (1 : Nat) ≠ 17 by decide)]; exact f13_1
  have f14_2 : M14 2 = .inl (2, 4, .inr (.inr (.inr (.inr (fun _ => none))))) := by rw [e14, vn (show (2 : Nat) ≠ 16 by decide), vn (show (2 : Nat) ≠ 19 by decide), vn (show (2 : Nat) ≠ 16 by decide), vn (show (2 : Nat) ≠ 18 by decide), vn (show (2 : Nat) ≠ 16 by decide), vn (show (2 : Nat) ≠ 17 by decide)]; exact f13_2
  have f14_3 : M14 3 = .inr (0, [.ref 4, .ref 8, .ref 9, .ref 10, .int 0]) := by rw [e14, vn (show (3 : Nat) ≠ 16 by decide), vn (show (3 : Nat) ≠ 19 by decide), vn (show (3 : Nat) ≠ 16 by decide), vn (show (3 : Nat) ≠ 18 by decide), vn (show (3 : Nat) ≠ 16 by decide), vn (show (3 : Nat) ≠ 17 by decide)]; exact f13_3
  have f14_11 : M14 11 = .inl (3, 3, .inr (.inr (.inr (.inr (fun _ => none))))) := by rw [e14, vn (show (11 : Nat) ≠ 16 by decide), vn (show (11 : Nat) ≠ 19 by decide), vn (show (11 : Nat) ≠ 16 by decide), vn (show (11 : Nat) ≠ 18 by decide), vn (show (11 : Nat) ≠ 16 by decide), vn (show (11 : Nat) ≠ 17 by decide)]; exact f13_11
  have f14_12 : M14 12 = .inr (3, [.ref 13, .ref 14, .ref 15, .int 0, .int 0, .int 0]) := by rw [e14, vn (show (12 : Nat) ≠ 16 by decide), vn (show (12 : Nat) ≠ 19 by decide), vn (show (12 : Nat) ≠ 16 by decide), vn (show (12 : Nat) ≠ 18 by decide), vn (show (12 : Nat) ≠ 16 by decide), vn (show (12 : Nat) ≠ 17 by decide)]; exact f13_12
  have f14_16 : M14 16 = .inr (2, [.ref 17, .ref 18, .ref 19, .int 0]) := by rw [e14, vs]
  have q29 : pX 47 59 [.ref 0, .null] [.ref 16, .ref 0] M14 20 (S + 6 + 4 + 5 + 6 + 6 + 6 + 7 + 280 + 40 + 40 + 3 + 6 + 6 + 6 + 7 + 4 + 64 + 448 + 61) = pX 47 62 [.ref 0, .null] [] (va_up M14 0 (.inr (4, [.ref 1, .ref 2, .ref 3, .ref 11, .ref 12, .ref 16, .null, .null, .null, .int 0, .int 0, .long 0, .long 0]))) 20 (S + 6 + 4 + 5 + 6 + 6 + 6 + 7 + 280 + 40 + 40 + 3 + 6 + 6 + 6 + 7 + 4 + 64 + 448 + 61) := x_putf (ci := 4) (k := 5) (fs := [.ref 1, .ref 2, .ref 3, .ref 11, .ref 12, .null, .null, .null, .null, .int 0, .int 0, .long 0, .long 0]) (fs' := [.ref 1, .ref 2, .ref 3, .ref 11, .ref 12, .ref 16, .null, .null, .null, .int 0, .int 0, .long 0, .long 0]) (show pm_in 47 59 = some (.putfield 39, 3) from by decide +kernel) (by decide +kernel) f14_0 (by decide) (by decide) (by decide +kernel) (by decide +kernel) (by decide +kernel) rfl
  obtain ⟨M15, e15⟩ : ∃ m : pm_M, m = va_up M14 0 (.inr (4, [.ref 1, .ref 2, .ref 3, .ref 11, .ref 12, .ref 16, .null, .null, .null, .int 0, .int 0, .long 0, .long 0])) := ⟨_, rfl⟩
  rw [← e15] at q29
  refine q29.trans ?_
  have f15_0 : M15 0 = .inr (4, [.ref 1, .ref 2, .ref 3, .ref 11, .ref 12, .ref 16, .null, .null, .null, .int 0, .int 0, .long 0, .long 0]) := by rw [e15, vs]
  have f15_1 : M15 1 = .inl (2, 6, .inr (.inr (.inr (.inr (fun _ => none))))) := by rw [e15, vn (show (1 : Nat) ≠ 0 by decide)]; exact f14_1
  have f15_2 : M15 2 = .inl (2, 4, .inr (.inr (.inr (.inr (fun _ => none))))) := by rw [e15, vn (show (2 : Nat) ≠ 0 by decide)]; exact f14_2
  have f15_3 : M15 3 = .inr (0, [.ref 4, .ref 8, .ref 9, .ref 10, .int 0]) := by rw [e15, vn (show (3 : Nat) ≠ 0 by decide)]; exact f14_3
  have f15_11 : M15 11 = .inl (3, 3, .inr (.inr (.inr (.inr (fun _ => none))))) := by rw [e15, vn (show (11 : Nat) ≠ 0 by decide)]; exact f14_11
  have f15_12 : M15 12 = .inr (3, [.ref 13, .ref 14, .ref 15, .int 0, .int 0, .int 0]) := by rw [e15, vn (show (12 : Nat) ≠ 0 by decide)]; exact f14_12
  have f15_16 : M15 16 = .inr (2, [.ref 17, .ref 18, .ref 19, .int 0]) := by rw [e15, vn (show (16 : Nat) ≠ 0 by decide)]; exact f14_16
  refine Eq.trans (x_aload_n (show pm_in 47 62 = some (.aload_n 0, 1) from by decide +kernel) rfl) ?_
  refine Eq.trans (x_bipush (v := 64) (show pm_in 47 63 = some (.bipush 64, 2) from by decide +kernel) (by decide)) ?_
  have q32 : pX 47 65 [.ref 0, .null] [.int 64, .ref 0] M15 20 (S + 6 + 4 + 5 + 6 + 6 + 6 + 7 + 280 + 40 + 40 + 3 + 6 + 6 + 6 + 7 + 4 + 64 + 448 + 61) = pX 47 67 [.ref 0, .null] [.ref 20, .ref 0] (va_up M15 20 (.inl (0, 64, .inl (fun _ => 0)))) 21 (S + 6 + 4 + 5 + 6 + 6 + 6 + 7 + 280 + 40 + 40 + 3 + 6 + 6 + 6 + 7 + 4 + 64 + 448 + 61 + 64) := x_newI (n := 64) (show pm_in 47 65 = some (.newarray .int, 2) from by decide +kernel) ⟨by decide +kernel, by decide +kernel⟩ (by decide +kernel) (by decide +kernel)
  obtain ⟨M16, e16⟩ : ∃ m : pm_M, m = va_up M15 20 (.inl (0, 64, .inl (fun _ => 0))) := ⟨_, rfl⟩
  rw [← e16] at q32
  refine q32.trans ?_
  have f16_0 : M16 0 = .inr (4, [.ref 1, .ref 2, .ref 3, .ref 11, .ref 12, .ref 16, .null, .null, .null, .int 0, .int 0, .long 0, .long 0]) := by rw [e16, vn (show (0 : Nat) ≠ 20 by decide)]; exact f15_0
  have f16_1 : M16 1 = .inl (2, 6, .inr (.inr (.inr (.inr (fun _ => none))))) := by rw [e16, vn (show (1 : Nat) ≠ 20 by decide)]; exact f15_1
  have f16_2 : M16 2 = .inl (2, 4, .inr (.inr (.inr (.inr (fun _ => none))))) := by rw [e16, vn (show (2 : Nat) ≠ 20 by decide)]; exact f15_2
  have f16_3 : M16 3 = .inr (0, [.ref 4, .ref 8, .ref 9, .ref 10, .int 0]) := by rw [e16, vn (show (3 : Nat) ≠ 20 by decide)]; exact f15_3
  have f16_11 : M16 11 = .inl (3, 3, .inr (.inr (.inr (.inr (fun _ => none))))) := by rw [e16, vn (show (11 : Nat) ≠ 20 by decide)]; exact f15_11
  have f16_12 : M16 12 = .inr (3, [.ref 13, .ref 14, .ref 15, .int 0, .int 0, .int 0]) := by rw [e16, vn (show (12 : Nat) ≠ 20 by decide)]; exact f15_12
  have f16_16 : M16 16 = .inr (2, [.ref 17, .ref 18, .ref 19, .int 0]) := by rw [e16, vn (show (16 : Nat) ≠ 20 by decide)]; exact f15_16
  have q33 : pX 47 67 [.ref 0, .null] [.ref 20, .ref 0] M16 21 (S + 6 + 4 + 5 + 6 + 6 + 6 + 7 + 280 + 40 + 40 + 3 + 6 + 6 + 6 + 7 + 4 + 64 + 448 + 61 + 64) = pX 47 70 [.ref 0, .null] [] (va_up M16 0 (.inr (4, [.ref 1, .ref 2, .ref 3, .ref 11, .ref 12, .ref 16, .ref 20, .null, .null, .int 0, .int 0, .long 0, .long 0]))) 21 (S + 6 + 4 + 5 + 6 + 6 + 6 + 7 + 280 + 40 + 40 + 3 + 6 + 6 + 6 + 7 + 4 + 64 + 448 + 61 + 64) := x_putf (ci := 4) (k := 6) (fs := [.ref 1, .ref 2, .ref 3, .ref 11, .ref 12, .ref 16, .null, .null, .null, .int 0, .int 0, .long 0, .long 0]) (fs' := [.ref 1, .ref 2, .ref 3, .ref 11, .ref 12, .ref 16, .ref 20, .null, .null, .int 0, .int 0, .long 0, .long 0]) (show pm_in 47 67 = some (.putfield 43, 3) from by decide +kernel) (by decide +kernel) f16_0 (by decide) (by decide) (by decide +kernel) (by decide +kernel) (by decide +kernel) rfl
  obtain ⟨M17, e17⟩ : ∃ m : pm_M, m = va_up M16 0 (.inr (4, [.ref 1, .ref 2, .ref 3, .ref 11, .ref 12, .ref 16, .ref 20, .null, .null, .int 0, .int 0, .long 0, .long 0])) := ⟨_, rfl⟩
  rw [← e17] at q33
  refine q33.trans ?_
  have f17_0 : M17 0 = .inr (4, [.ref 1, .ref 2, .ref 3, .ref 11, .ref 12, .ref 16, .ref 20, .null, .null, .int 0, .int 0, .long 0, .long 0]) := by rw [e17, vs]
  have f17_1 : M17 1 = .inl (2, 6, .inr (.inr (.inr (.inr (fun _ => none))))) := by rw [e17, vn (show (1 : Nat) ≠ 0 by decide)]; exact f16_1
  have f17_2 : M17 2 = .inl (2, 4, .inr (.inr (.inr (.inr (fun _ => none))))) := by rw [e17, vn (show (2 : Nat) ≠ 0 by decide)]; exact f16_2
  have f17_3 : M17 3 = .inr (0, [.ref 4, .ref 8, .ref 9, .ref 10, .int 0]) := by rw [e17, vn (show (3 : Nat) ≠ 0 by decide)]; exact f16_3
  have f17_11 : M17 11 = .inl (3, 3, .inr (.inr (.inr (.inr (fun _ => none))))) := by rw [e17, vn (show (11 : Nat) ≠ 0 by decide)]; exact f16_11
  have f17_12 : M17 12 = .inr (3, [.ref 13, .ref 14, .ref 15, .int 0, .int 0, .int 0]) := by rw [e17, vn (show (12 : Nat) ≠ 0 by decide)]; exact f16_12
  have f17_16 : M17 16 = .inr (2, [.ref 17, .ref 18, .ref 19, .int 0]) := by rw [e17, vn (show (16 : Nat) ≠ 0 by decide)]; exact f16_16
  refine Eq.trans (x_aload_n (show pm_in 47 70 = some (.aload_n 0, 1) from by decide +kernel) rfl) ?_
  refine Eq.trans (x_bipush (v := 64) (show pm_in 47 71 = some (.bipush 64, 2) from by decide +kernel) (by decide)) ?_
  have q36 : pX 47 73 [.ref 0, .null] [.int 64, .ref 0] M17 21 (S + 6 + 4 + 5 + 6 + 6 + 6 + 7 + 280 + 40 + 40 + 3 + 6 + 6 + 6 + 7 + 4 + 64 + 448 + 61 + 64) = pX 47 75 [.ref 0, .null] [.ref 21, .ref 0] (va_up M17 21 (.inl (0, 64, .inl (fun _ => 0)))) 22 (S + 6 + 4 + 5 + 6 + 6 + 6 + 7 + 280 + 40 + 40 + 3 + 6 + 6 + 6 + 7 + 4 + 64 + 448 + 61 + 64 + 64) := x_newI (n := 64) (show pm_in 47 73 = some (.newarray .int, 2) from by decide +kernel) ⟨by decide +kernel, by decide +kernel⟩ (by decide +kernel) (by decide +kernel)
  obtain ⟨M18, e18⟩ : ∃ m : pm_M, m = va_up M17 21 (.inl (0, 64, .inl (fun _ => 0))) := ⟨_, rfl⟩
  rw [← e18] at q36
  refine q36.trans ?_
  have f18_0 : M18 0 = .inr (4, [.ref 1, .ref 2, .ref 3, .ref 11, .ref 12, .ref 16, .ref 20, .null, .null, .int 0, .int 0, .long 0, .long 0]) := by rw [e18, vn (show (0 : Nat) ≠ 21 by decide)]; exact f17_0
  have f18_1 : M18 1 = .inl (2, 6, .inr (.inr (.inr (.inr (fun _ => none))))) := by rw [e18, vn (show (1 : Nat) ≠ 21 by decide)]; exact f17_1
  have f18_2 : M18 2 = .inl (2, 4, .inr (.inr (.inr (.inr (fun _ => none))))) := by rw [e18, vn (show (2 : Nat) ≠ 21 by decide)]; exact f17_2
  have f18_3 : M18 3 = .inr (0, [.ref 4, .ref 8, .ref 9, .ref 10, .int 0]) := by rw [e18, vn (show (3 : Nat) ≠ 21 by decide)]; exact f17_3
  have f18_11 : M18 11 = .inl (3, 3, .inr (.inr (.inr (.inr (fun _ => none))))) := by rw [e18, vn (show (11 : Nat) ≠ 21 by decide)]; exact f17_11
  have f18_12 : M18 12 = .inr (3, [.ref 13, .ref 14, .ref 15, .int 0, .int 0, .int 0]) := by rw [e18, vn (show (12 : Nat) ≠ 21 by decide)]; exact f17_12
  have f18_16 : M18 16 = .inr (2, [.ref 17, .ref 18, .ref 19, .int 0]) := by rw [e18, vn (show (16 : Nat) ≠ 21 by decide)]; exact f17_16
  have q37 : pX 47 75 [.ref 0, .null] [.ref 21, .ref 0] M18 22 (S + 6 + 4 + 5 + 6 + 6 + 6 + 7 + 280 + 40 + 40 + 3 + 6 + 6 + 6 + 7 + 4 + 64 + 448 + 61 + 64 + 64) = pX 47 78 [.ref 0, .null] [] (va_up M18 0 (.inr (4, [.ref 1, .ref 2, .ref 3, .ref 11, .ref 12, .ref 16, .ref 20, .ref 21, .null, .int 0, .int 0, .long 0, .long 0]))) 22 (S + 6 + 4 + 5 + 6 + 6 + 6 + 7 + 280 + 40 + 40 + 3 + 6 + 6 + 6 + 7 + 4 + 64 + 448 + 61 + 64 + 64) := x_putf (ci := 4) (k := 7) (fs := [.ref 1, .ref 2, .ref 3, .ref 11, .ref 12, .ref 16, .ref 20, .null, .null, .int 0, .int 0, .long 0, .long 0]) (fs' := [.ref 1, .ref 2, .ref 3, .ref 11, .ref 12, .ref 16, .ref 20, .ref 21, .null, .int 0, .int 0, .long 0, .long 0]) (show pm_in 47 75 = some (.putfield 47, 3) from by decide +kernel) (by decide +kernel) f18_0 (by decide) (by decide) (by decide +kernel) (by decide +kernel) (by decide +kernel) rfl
  obtain ⟨M19, e19⟩ : ∃ m : pm_M, m = va_up M18 0 (.inr (4, [.ref 1, .ref 2, .ref 3, .ref 11, .ref 12, .ref 16, .ref 20, .ref 21, .null, .int 0, .int 0, .long 0, .long 0])) := ⟨_, rfl⟩
  rw [← e19] at q37
  refine q37.trans ?_
  have f19_0 : M19 0 = .inr (4, [.ref 1, .ref 2, .ref 3, .ref 11, .ref 12, .ref 16, .ref 20, .ref 21, .null, .int 0, .int 0, .long 0, .long 0]) := by rw [e19, vs]
  have f19_1 : M19 1 = .inl (2, 6, .inr (.inr (.inr (.inr (fun _ => none))))) := by rw [e19, vn (show (1 : Nat) ≠ 0 by decide)]; exact f18_1
  have f19_2 : M19 2 = .inl (2, 4, .inr (.inr (.inr (.inr (fun _ => none))))) := by rw [e19, vn (show (2 : Nat) ≠ 0 by decide)]; exact f18_2
  have f19_3 : M19 3 = .inr (0, [.ref 4, .ref 8, .ref 9, .ref 10, .int 0]) := by rw [e19, vn (show (3 : Nat) ≠ 0 by decide)]; exact f18_3
  have f19_11 : M19 11 = .inl (3, 3, .inr (.inr (.inr (.inr (fun _ => none))))) := by rw [e19, vn (show (11 : Nat) ≠ 0 by decide)]; exact f18_11
  have f19_12 : M19 12 = .inr (3, [.ref 13, .ref 14, .ref 15, .int 0, .int 0, .int 0]) := by rw [e19, vn (show (12 : Nat) ≠ 0 by decide)]; exact f18_12
  have f19_16 : M19 16 = .inr (2, [.ref 17, .ref 18, .ref 19, .int 0]) := by rw [e19, vn (show (16 : Nat) ≠ 0 by decide)]; exact f18_16
  refine Eq.trans (x_aload_n (show pm_in 47 78 = some (.aload_n 0, 1) from by decide +kernel) rfl) ?_
  refine Eq.trans (x_bipush (v := 6) (show pm_in 47 79 = some (.bipush 6, 2) from by decide +kernel) (by decide)) ?_
  have q40 : pX 47 81 [.ref 0, .null] [.int 6, .ref 0] M19 22 (S + 6 + 4 + 5 + 6 + 6 + 6 + 7 + 280 + 40 + 40 + 3 + 6 + 6 + 6 + 7 + 4 + 64 + 448 + 61 + 64 + 64) = pX 47 83 [.ref 0, .null] [.ref 22, .ref 0] (va_up M19 22 (.inl (0, 6, .inl (fun _ => 0)))) 23 (S + 6 + 4 + 5 + 6 + 6 + 6 + 7 + 280 + 40 + 40 + 3 + 6 + 6 + 6 + 7 + 4 + 64 + 448 + 61 + 64 + 64 + 6) := x_newI (n := 6) (show pm_in 47 81 = some (.newarray .int, 2) from by decide +kernel) ⟨by decide +kernel, by decide +kernel⟩ (by decide +kernel) (by decide +kernel)
  obtain ⟨M20, e20⟩ : ∃ m : pm_M, m = va_up M19 22 (.inl (0, 6, .inl (fun _ => 0))) := ⟨_, rfl⟩
  rw [← e20] at q40
  refine q40.trans ?_
  have f20_0 : M20 0 = .inr (4, [.ref 1, .ref 2, .ref 3, .ref 11, .ref 12, .ref 16, .ref 20, .ref 21, .null, .int 0, .int 0, .long 0, .long 0]) := by rw [e20, vn (show (0 : Nat) ≠ 22 by decide)]; exact f19_0
  have f20_1 : M20 1 = .inl (2, 6, .inr (.inr (.inr (.inr (fun _ => none))))) := by rw [e20, vn (show (1 : Nat) ≠ 22 by decide)]; exact f19_1
  have f20_2 : M20 2 = .inl (2, 4, .inr (.inr (.inr (.inr (fun _ => none))))) := by rw [e20, vn (show (2 : Nat) ≠ 22 by decide)]; exact f19_2
  have f20_3 : M20 3 = .inr (0, [.ref 4, .ref 8, .ref 9, .ref 10, .int 0]) := by rw [e20, vn (show (3 : Nat) ≠ 22 by decide)]; exact f19_3
  have f20_11 : M20 11 = .inl (3, 3, .inr (.inr (.inr (.inr (fun _ => none))))) := by rw [e20, vn (show (11 : Nat) ≠ 22 by decide)]; exact f19_11
  have f20_12 : M20 12 = .inr (3, [.ref 13, .ref 14, .ref 15, .int 0, .int 0, .int 0]) := by rw [e20, vn (show (12 : Nat) ≠ 22 by decide)]; exact f19_12
  have f20_16 : M20 16 = .inr (2, [.ref 17, .ref 18, .ref 19, .int 0]) := by rw [e20, vn (show (16 : Nat) ≠ 22 by decide)]; exact f19_16
  have q41 : pX 47 83 [.ref 0, .null] [.ref 22, .ref 0] M20 23 (S + 6 + 4 + 5 + 6 + 6 + 6 + 7 + 280 + 40 + 40 + 3 + 6 + 6 + 6 + 7 + 4 + 64 + 448 + 61 + 64 + 64 + 6) = pX 47 86 [.ref 0, .null] [] (va_up M20 0 (.inr (4, [.ref 1, .ref 2, .ref 3, .ref 11, .ref 12, .ref 16, .ref 20, .ref 21, .ref 22, .int 0, .int 0, .long 0, .long 0]))) 23 (S + 6 + 4 + 5 + 6 + 6 + 6 + 7 + 280 + 40 + 40 + 3 + 6 + 6 + 6 + 7 + 4 + 64 + 448 + 61 + 64 + 64 + 6) := x_putf (ci := 4) (k := 8) (fs := [.ref 1, .ref 2, .ref 3, .ref 11, .ref 12, .ref 16, .ref 20, .ref 21, .null, .int 0, .int 0, .long 0, .long 0]) (fs' := [.ref 1, .ref 2, .ref 3, .ref 11, .ref 12, .ref 16, .ref 20, .ref 21, .ref 22, .int 0, .int 0, .long 0, .long 0]) (show pm_in 47 83 = some (.putfield 50, 3) from by decide +kernel) (by decide +kernel) f20_0 (by decide) (by decide) (by decide +kernel) (by decide +kernel) (by decide +kernel) rfl
  obtain ⟨M21, e21⟩ : ∃ m : pm_M, m = va_up M20 0 (.inr (4, [.ref 1, .ref 2, .ref 3, .ref 11, .ref 12, .ref 16, .ref 20, .ref 21, .ref 22, .int 0, .int 0, .long 0, .long 0])) := ⟨_, rfl⟩
  rw [← e21] at q41
  refine q41.trans ?_
  have f21_0 : M21 0 = .inr (4, [.ref 1, .ref 2, .ref 3, .ref 11, .ref 12, .ref 16, .ref 20, .ref 21, .ref 22, .int 0, .int 0, .long 0, .long 0]) := by rw [e21, vs]
  have f21_1 : M21 1 = .inl (2, 6, .inr (.inr (.inr (.inr (fun _ => none))))) := by rw [e21, vn (show (1 : Nat) ≠ 0 by decide)]; exact f20_1
  have f21_2 : M21 2 = .inl (2, 4, .inr (.inr (.inr (.inr (fun _ => none))))) := by rw [e21, vn (show (2 : Nat) ≠ 0 by decide)]; exact f20_2
  have f21_3 : M21 3 = .inr (0, [.ref 4, .ref 8, .ref 9, .ref 10, .int 0]) := by rw [e21, vn (show (3 : Nat) ≠ 0 by decide)]; exact f20_3
  have f21_11 : M21 11 = .inl (3, 3, .inr (.inr (.inr (.inr (fun _ => none))))) := by rw [e21, vn (show (11 : Nat) ≠ 0 by decide)]; exact f20_11
  have f21_12 : M21 12 = .inr (3, [.ref 13, .ref 14, .ref 15, .int 0, .int 0, .int 0]) := by rw [e21, vn (show (12 : Nat) ≠ 0 by decide)]; exact f20_12
  have f21_16 : M21 16 = .inr (2, [.ref 17, .ref 18, .ref 19, .int 0]) := by rw [e21, vn (show (16 : Nat) ≠ 0 by decide)]; exact f20_16
  refine Eq.trans (x_aload_n (show pm_in 47 86 = some (.aload_n 0, 1) from by decide +kernel) rfl) ?_
  refine Eq.trans (x_lconst (v := 1) (show pm_in 47 87 = some (.lconst 1, 1) from by decide +kernel) (by decide)) ?_
  have q44 : pX 47 88 [.ref 0, .null] [.long 1, .ref 0] M21 23 (S + 6 + 4 + 5 + 6 + 6 + 6 + 7 + 280 + 40 + 40 + 3 + 6 + 6 + 6 + 7 + 4 + 64 + 448 + 61 + 64 + 64 + 6) = pX 47 91 [.ref 0, .null] [] (va_up M21 0 (.inr (4, [.ref 1, .ref 2, .ref 3, .ref 11, .ref 12, .ref 16, .ref 20, .ref 21, .ref 22, .int 0, .int 0, .long 0, .long 1]))) 23 (S + 6 + 4 + 5 + 6 + 6 + 6 + 7 + 280 + 40 + 40 + 3 + 6 + 6 + 6 + 7 + 4 + 64 + 448 + 61 + 64 + 64 + 6) := x_putf (ci := 4) (k := 12) (fs := [.ref 1, .ref 2, .ref 3, .ref 11, .ref 12, .ref 16, .ref 20, .ref 21, .ref 22, .int 0, .int 0, .long 0, .long 0]) (fs' := [.ref 1, .ref 2, .ref 3, .ref 11, .ref 12, .ref 16, .ref 20, .ref 21, .ref 22, .int 0, .int 0, .long 0, .long 1]) (show pm_in 47 88 = some (.putfield 53, 3) from by decide +kernel) (by decide +kernel) f21_0 (by decide) (by decide) (by decide +kernel) (by decide +kernel) (by decide +kernel) rfl
  obtain ⟨M22, e22⟩ : ∃ m : pm_M, m = va_up M21 0 (.inr (4, [.ref 1, .ref 2, .ref 3, .ref 11, .ref 12, .ref 16, .ref 20, .ref 21, .ref 22, .int 0, .int 0, .long 0, .long 1])) := ⟨_, rfl⟩
  rw [← e22] at q44
  refine q44.trans ?_
  have f22_0 : M22 0 = .inr (4, [.ref 1, .ref 2, .ref 3, .ref 11, .ref 12, .ref 16, .ref 20, .ref 21, .ref 22, .int 0, .int 0, .long 0, .long 1]) := by rw [e22, vs]
  have f22_1 : M22 1 = .inl (2, 6, .inr (.inr (.inr (.inr (fun _ => none))))) := by rw [e22, vn (show (1 : Nat) ≠ 0 by decide)]; exact f21_1
  have f22_2 : M22 2 = .inl (2, 4, .inr (.inr (.inr (.inr (fun _ => none))))) := by rw [e22, vn (show (2 : Nat) ≠ 0 by decide)]; exact f21_2
  have f22_3 : M22 3 = .inr (0, [.ref 4, .ref 8, .ref 9, .ref 10, .int 0]) := by rw [e22, vn (show (3 : Nat) ≠ 0 by decide)]; exact f21_3
  have f22_11 : M22 11 = .inl (3, 3, .inr (.inr (.inr (.inr (fun _ => none))))) := by rw [e22, vn (show (11 : Nat) ≠ 0 by decide)]; exact f21_11
  have f22_12 : M22 12 = .inr (3, [.ref 13, .ref 14, .ref 15, .int 0, .int 0, .int 0]) := by rw [e22, vn (show (12 : Nat) ≠ 0 by decide)]; exact f21_12
  have f22_16 : M22 16 = .inr (2, [.ref 17, .ref 18, .ref 19, .int 0]) := by rw [e22, vn (show (16 : Nat) ≠ 0 by decide)]; exact f21_16
  refine Eq.trans (x_iconst (v := 0) (show pm_in 47 91 = some (.iconst 0, 1) from by decide +kernel) (by decide)) ?_
  refine Eq.trans (x_istore_n (ls' := [.ref 0, .int 0]) (show pm_in 47 92 = some (.istore_n 1, 1) from by decide +kernel) (by decide) rfl) ?_
  refine Eq.trans (x_iload_n (show pm_in 47 93 = some (.iload_n 1, 1) from by decide +kernel) rfl) ?_
  refine Eq.trans (x_bipush (v := 6) (show pm_in 47 94 = some (.bipush 6, 2) from by decide +kernel) (by decide)) ?_
  refine Eq.trans ((x_icge (t := 120) (show pm_in 47 96 = some (.if_icmp .ge 24, 3) from by decide +kernel) (by decide)).trans (if_pos (by decide))) ?_
  refine Eq.trans (x_aload_n (show pm_in 47 99 = some (.aload_n 0, 1) from by decide +kernel) rfl) ?_
  refine Eq.trans (x_getf (ci := 4) (k := 0) (fs := [.ref 1, .ref 2, .ref 3, .ref 11, .ref 12, .ref 16, .ref 20, .ref 21, .ref 22, .int 0, .int 0, .long 0, .long 1]) (v := .ref 1) (show pm_in 47 100 = some (.getfield 11, 3) from by decide +kernel) (by decide +kernel) f22_0 (by decide) rfl) ?_
  refine Eq.trans (x_iload_n (show pm_in 47 103 = some (.iload_n 1, 1) from by decide +kernel) rfl) ?_
  have q53 : pX 47 104 [.ref 0, .int 0] [.int 0, .ref 1] M22 23 (S + 6 + 4 + 5 + 6 + 6 + 6 + 7 + 280 + 40 + 40 + 3 + 6 + 6 + 6 + 7 + 4 + 64 + 448 + 61 + 64 + 64 + 6) = pX 47 107 [.ref 0, .int 0] [.ref 23, .int 0, .ref 1] (va_up M22 23 (.inr (1, [.null, .int 0]))) 24 (S + 6 + 4 + 5 + 6 + 6 + 6 + 7 + 280 + 40 + 40 + 3 + 6 + 6 + 6 + 7 + 4 + 64 + 448 + 61 + 64 + 64 + 6 + 2) := x_new (ci := 1) (k := 2) (show pm_in 47 104 = some (.new 9, 3) from by decide +kernel) (by decide +kernel) rfl rfl (by decide +kernel)
  obtain ⟨M23, e23⟩ : ∃ m : pm_M, m = va_up M22 23 (.inr (1, [.null, .int 0])) := ⟨_, rfl⟩
  rw [← e23] at q53
  refine q53.trans ?_
  have f23_0 : M23 0 = .inr (4, [.ref 1, .ref 2, .ref 3, .ref 11, .ref 12, .ref 16, .ref 20, .ref 21, .ref 22, .int 0, .int 0, .long 0, .long 1]) := by rw [e23, vn (show (0 : Nat) ≠ 23 by decide)]; exact f22_0
  have f23_1 : M23 1 = .inl (2, 6, .inr (.inr (.inr (.inr (fun _ => none))))) := by rw [e23, vn (show (1 : Nat) ≠ 23 by decide)]; exact f22_1
  have f23_2 : M23 2 = .inl (2, 4, .inr (.inr (.inr (.inr (fun _ => none))))) := by rw [e23, vn (show (2 : Nat) ≠ 23 by decide)]; exact f22_2
  have f23_3 : M23 3 = .inr (0, [.ref 4, .ref 8, .ref 9, .ref 10, .int 0]) := by rw [e23, vn (show (3 : Nat) ≠ 23 by decide)]; exact f22_3
  have f23_11 : M23 11 = .inl (3, 3, .inr (.inr (.inr (.inr (fun _ => none))))) := by rw [e23, vn (show (11 : Nat) ≠ 23 by decide)]; exact f22_11
  have f23_12 : M23 12 = .inr (3, [.ref 13, .ref 14, .ref 15, .int 0, .int 0, .int 0]) := by rw [e23, vn (show (12 : Nat) ≠ 23 by decide)]; exact f22_12
  have f23_16 : M23 16 = .inr (2, [.ref 17, .ref 18, .ref 19, .int 0]) := by rw [e23, vn (show (16 : Nat) ≠ 23 by decide)]; exact f22_16
  have f23_23 : M23 23 = .inr (1, [.null, .int 0]) := by rw [e23, vs]
  refine Eq.trans (x_dup (show pm_in 47 107 = some (.dup, 1) from by decide +kernel) rfl) ?_
  refine Eq.trans (x_bipush (v := 40) (show pm_in 47 108 = some (.bipush 40, 2) from by decide +kernel) (by decide)) ?_
  have q56 : pX 47 110 [.ref 0, .int 0] [.int 40, .ref 23, .ref 23, .int 0, .ref 1] M23 24 (S + 6 + 4 + 5 + 6 + 6 + 6 + 7 + 280 + 40 + 40 + 3 + 6 + 6 + 6 + 7 + 4 + 64 + 448 + 61 + 64 + 64 + 6 + 2) = pX 47 113 [.ref 0, .int 0] [.ref 23, .int 0, .ref 1] (va_up (va_up (va_up M23 23 (.inr (1, [.null, .int (-1)]))) 24 (.inl (0, 40, .inl (fun _ => 0)))) 23 (.inr (1, [.ref 24, .int (-1)]))) 25 (S + 6 + 4 + 5 + 6 + 6 + 6 + 7 + 280 + 40 + 40 + 3 + 6 + 6 + 6 + 7 + 4 + 64 + 448 + 61 + 64 + 64 + 6 + 2 + 40) := x_callI (y' := 17) (k := 1) (kd := 2) (b := 23) (as := [.int 40]) (st' := [.ref 23, .int 0, .ref 1]) (show pm_in 47 110 = some (.invokespecial 57, 3) from by decide +kernel) (by decide +kernel) (by decide) rfl rfl (by decide +kernel) (Nat.le_of_ble_eq_true rfl) (by decide +kernel) (by decide +kernel) rfl (by decide +kernel) (by decide +kernel) (ini17_23 (M := M23) (S := S + 6 + 4 + 5 + 6 + 6 + 6 + 7 + 280 + 40 + 40 + 3 + 6 + 6 + 6 + 7 + 4 + 64 + 448 + 61 + 64 + 64 + 6 + 2) f23_23)
  obtain ⟨M24, e24⟩ : ∃ m : pm_M, m = va_up (va_up (va_up M23 23 (.inr (1, [.null, .int (-1)]))) 24 (.inl (0, 40, .inl (fun _ => 0)))) 23 (.inr (1, [.ref 24, .int (-1)])) := ⟨_, rfl⟩
  rw [← e24] at q56
  refine q56.trans ?_
  have f24_0 : M24 0 = .inr (4, [.ref 1, .ref 2, .ref 3, .ref 11, .ref 12, .ref 16, .ref 20, .ref 21, .ref 22, .int 0, .int 0, .long 0, .long 1]) := by rw [e24, vn (show (0 : Nat) ≠ 23 by decide), vn (show (0 : Nat) ≠ 24 by decide), vn (show (0 : Nat) ≠ 23 by decide)]; exact f23_0
  have f24_1 : M24 1 = .inl (2, 6, .inr (.inr (.inr (.inr (fun _ => none))))) := by rw [e24, vn (show (1 : Nat) ≠ 23 by decide), vn (show (1 : Nat) ≠ 24 by decide), vn (show (1 : Nat) ≠ 23 by decide)]; exact f23_1
  have f24_2 : M24 2 = .inl (2, 4, .inr (.inr (.inr (.inr (fun _ => none))))) := by rw [e24, vn (show (2 : Nat) ≠ 23 by decide), vn (show (2 : Nat) ≠ 24 by decide), vn (show (2 : Nat) ≠ 23 by decide)]; exact f23_2
  have f24_3 : M24 3 = .inr (0, [.ref 4, .ref 8, .ref 9, .ref 10, .int 0]) := by rw [e24, vn (show (3 : Nat) ≠ 23 by decide), vn (show (3 : Nat) ≠ 24 by decide), vn (show (3 : Nat) ≠ 23 by decide)]; exact f23_3
  have f24_11 : M24 11 = .inl (3, 3, .inr (.inr (.inr (.inr (fun _ => none))))) := by rw [e24, vn (show (11 : Nat) ≠ 23 by decide), vn (show (11 : Nat) ≠ 24 by decide), vn (show (11 : Nat) ≠ 23 by decide)]; exact f23_11
  have f24_12 : M24 12 = .inr (3, [.ref 13, .ref 14, .ref 15, .int 0, .int 0, .int 0]) := by rw [e24, vn (show (12 : Nat) ≠ 23 by decide), vn (show (12 : Nat) ≠ 24 by decide), vn (show (12 : Nat) ≠ 23 by decide)]; exact f23_12
  have f24_16 : M24 16 = .inr (2, [.ref 17, .ref 18, .ref 19, .int 0]) := by rw [e24, vn (show (16 : Nat) ≠ 23 by decide), vn (show (16 : Nat) ≠ 24 by decide), vn (show (16 : Nat) ≠ 23 by decide)]; exact f23_16
  have f24_23 : M24 23 = .inr (1, [.ref 24, .int (-1)]) := by rw [e24, vs]
  have q57 : pX 47 113 [.ref 0, .int 0] [.ref 23, .int 0, .ref 1] M24 25 (S + 6 + 4 + 5 + 6 + 6 + 6 + 7 + 280 + 40 + 40 + 3 + 6 + 6 + 6 + 7 + 4 + 64 + 448 + 61 + 64 + 64 + 6 + 2 + 40) = pX 47 114 [.ref 0, .int 0] [] (va_up M24 1 (.inl (2, 6, .inr (.inr (.inr (.inr (va_up (fun _ => none) 0 (some 23)))))))) 25 (S + 6 + 4 + 5 + 6 + 6 + 6 + 7 + 280 + 40 + 40 + 3 + 6 + 6 + 6 + 7 + 4 + 64 + 448 + 61 + 64 + 64 + 6 + 2 + 40) := x_aast (ci := 1) (n := 6) (show pm_in 47 113 = some (.aastore, 1) from by decide +kernel) f24_1 f24_23 (by decide) (by decide) (Or.inl ⟨rfl, rfl⟩) (ib (j := 0) (n := 6) (by decide) (by decide))
  obtain ⟨M25, e25⟩ : ∃ m : pm_M, m = va_up M24 1 (.inl (2, 6, .inr (.inr (.inr (.inr (va_up (fun _ => none) 0 (some 23))))))) := ⟨_, rfl⟩
  rw [← e25] at q57
  refine q57.trans ?_
  have f25_0 : M25 0 = .inr (4, [.ref 1, .ref 2, .ref 3, .ref 11, .ref 12, .ref 16, .ref 20, .ref 21, .ref 22, .int 0, .int 0, .long 0, .long 1]) := by rw [e25, vn (show (0 : Nat) ≠ 1 by decide)]; exact f24_0
  have f25_1 : M25 1 = .inl (2, 6, .inr (.inr (.inr (.inr (va_up (fun _ => none) 0 (some 23)))))) := by rw [e25, vs]
  have f25_2 : M25 2 = .inl (2, 4, .inr (.inr (.inr (.inr (fun _ => none))))) := by rw [e25, vn (show (2 : Nat) ≠ 1 by decide)]; exact f24_2
  have f25_3 : M25 3 = .inr (0, [.ref 4, .ref 8, .ref 9, .ref 10, .int 0]) := by rw [e25, vn (show (3 : Nat) ≠ 1 by decide)]; exact f24_3
  have f25_11 : M25 11 = .inl (3, 3, .inr (.inr (.inr (.inr (fun _ => none))))) := by rw [e25, vn (show (11 : Nat) ≠ 1 by decide)]; exact f24_11
  have f25_12 : M25 12 = .inr (3, [.ref 13, .ref 14, .ref 15, .int 0, .int 0, .int 0]) := by rw [e25, vn (show (12 : Nat) ≠ 1 by decide)]; exact f24_12
  have f25_16 : M25 16 = .inr (2, [.ref 17, .ref 18, .ref 19, .int 0]) := by rw [e25, vn (show (16 : Nat) ≠ 1 by decide)]; exact f24_16
  refine Eq.trans (x_iinc (x := 0) (w := 1) (ls' := [.ref 0, .int 1]) (show pm_in 47 114 = some (.iinc 1 1, 3) from by decide +kernel) rfl (by decide) (congrArg (fun z : Int32 => ([.ref 0, .int z] : List Value)) (show (0 : Int32) + 1 = 1 from by decide))) ?_
  refine Eq.trans (x_goto (t := 93) (show pm_in 47 117 = some (.goto (-24), 3) from by decide +kernel) (by decide)) ?_
  refine Eq.trans (x_iload_n (show pm_in 47 93 = some (.iload_n 1, 1) from by decide +kernel) rfl) ?_
  refine Eq.trans (x_bipush (v := 6) (show pm_in 47 94 = some (.bipush 6, 2) from by decide +kernel) (by decide)) ?_
  refine Eq.trans ((x_icge (t := 120) (show pm_in 47 96 = some (.if_icmp .ge 24, 3) from by decide +kernel) (by decide)).trans (if_pos (by decide))) ?_
  refine Eq.trans (x_aload_n (show pm_in 47 99 = some (.aload_n 0, 1) from by decide +kernel) rfl) ?_
  refine Eq.trans (x_getf (ci := 4) (k := 0) (fs := [.ref 1, .ref 2, .ref 3, .ref 11, .ref 12, .ref 16, .ref 20, .ref 21, .ref 22, .int 0, .int 0, .long 0, .long 1]) (v := .ref 1) (show pm_in 47 100 = some (.getfield 11, 3) from by decide +kernel) (by decide +kernel) f25_0 (by decide) rfl) ?_
  refine Eq.trans (x_iload_n (show pm_in 47 103 = some (.iload_n 1, 1) from by decide +kernel) rfl) ?_
  have q66 : pX 47 104 [.ref 0, .int 1] [.int 1, .ref 1] M25 25 (S + 6 + 4 + 5 + 6 + 6 + 6 + 7 + 280 + 40 + 40 + 3 + 6 + 6 + 6 + 7 + 4 + 64 + 448 + 61 + 64 + 64 + 6 + 2 + 40) = pX 47 107 [.ref 0, .int 1] [.ref 25, .int 1, .ref 1] (va_up M25 25 (.inr (1, [.null, .int 0]))) 26 (S + 6 + 4 + 5 + 6 + 6 + 6 + 7 + 280 + 40 + 40 + 3 + 6 + 6 + 6 + 7 + 4 + 64 + 448 + 61 + 64 + 64 + 6 + 2 + 40 + 2) := x_new (ci := 1) (k := 2) (show pm_in 47 104 = some (.new 9, 3) from by decide +kernel) (by decide +kernel) rfl rfl (by decide +kernel)
  obtain ⟨M26, e26⟩ : ∃ m : pm_M, m = va_up M25 25 (.inr (1, [.null, .int 0])) := ⟨_, rfl⟩
  rw [← e26] at q66
  refine q66.trans ?_
  have f26_0 : M26 0 = .inr (4, [.ref 1, .ref 2, .ref 3, .ref 11, .ref 12, .ref 16, .ref 20, .ref 21, .ref 22, .int 0, .int 0, .long 0, .long 1]) := by rw [e26, vn (show (0 : Nat) ≠ 25 by decide)]; exact f25_0
  have f26_1 : M26 1 = .inl (2, 6, .inr (.inr (.inr (.inr (va_up (fun _ => none) 0 (some 23)))))) := by rw [e26, vn (show (1 : Nat) ≠ 25 by decide)]; exact f25_1
  have f26_2 : M26 2 = .inl (2, 4, .inr (.inr (.inr (.inr (fun _ => none))))) := by rw [e26, vn (show (2 : Nat) ≠ 25 by decide)]; exact f25_2
  have f26_3 : M26 3 = .inr (0, [.ref 4, .ref 8, .ref 9, .ref 10, .int 0]) := by rw [e26, vn (show (3 : Nat) ≠ 25 by decide)]; exact f25_3
  have f26_11 : M26 11 = .inl (3, 3, .inr (.inr (.inr (.inr (fun _ => none))))) := by rw [e26, vn (show (11 : Nat) ≠ 25 by decide)]; exact f25_11
  have f26_12 : M26 12 = .inr (3, [.ref 13, .ref 14, .ref 15, .int 0, .int 0, .int 0]) := by rw [e26, vn (show (12 : Nat) ≠ 25 by decide)]; exact f25_12
  have f26_16 : M26 16 = .inr (2, [.ref 17, .ref 18, .ref 19, .int 0]) := by rw [e26, vn (show (16 : Nat) ≠ 25 by decide)]; exact f25_16
  have f26_25 : M26 25 = .inr (1, [.null, .int 0]) := by rw [e26, vs]
  refine Eq.trans (x_dup (show pm_in 47 107 = some (.dup, 1) from by decide +kernel) rfl) ?_
  refine Eq.trans (x_bipush (v := 40) (show pm_in 47 108 = some (.bipush 40, 2) from by decide +kernel) (by decide)) ?_
  have q69 : pX 47 110 [.ref 0, .int 1] [.int 40, .ref 25, .ref 25, .int 1, .ref 1] M26 26 (S + 6 + 4 + 5 + 6 + 6 + 6 + 7 + 280 + 40 + 40 + 3 + 6 + 6 + 6 + 7 + 4 + 64 + 448 + 61 + 64 + 64 + 6 + 2 + 40 + 2) = pX 47 113 [.ref 0, .int 1] [.ref 25, .int 1, .ref 1] (va_up (va_up (va_up M26 25 (.inr (1, [.null, .int (-1)]))) 26 (.inl (0, 40, .inl (fun _ => 0)))) 25 (.inr (1, [.ref 26, .int (-1)]))) 27 (S + 6 + 4 + 5 + 6 + 6 + 6 + 7 + 280 + 40 + 40 + 3 + 6 + 6 + 6 + 7 + 4 + 64 + 448 + 61 + 64 + 64 + 6 + 2 + 40 + 2 + 40) := x_callI (y' := 17) (k := 1) (kd := 2) (b := 25) (as := [.int 40]) (st' := [.ref 25, .int 1, .ref 1]) (show pm_in 47 110 = some (.invokespecial 57, 3) from by decide +kernel) (by decide +kernel) (by decide) rfl rfl (by decide +kernel) (Nat.le_of_ble_eq_true rfl) (by decide +kernel) (by decide +kernel) rfl (by decide +kernel) (by decide +kernel) (ini17_25 (M := M26) (S := S + 6 + 4 + 5 + 6 + 6 + 6 + 7 + 280 + 40 + 40 + 3 + 6 + 6 + 6 + 7 + 4 + 64 + 448 + 61 + 64 + 64 + 6 + 2 + 40 + 2) f26_25)
  obtain ⟨M27, e27⟩ : ∃ m : pm_M, m = va_up (va_up (va_up M26 25 (.inr (1, [.null, .int (-1)]))) 26 (.inl (0, 40, .inl (fun _ => 0)))) 25 (.inr (1, [.ref 26, .int (-1)])) := ⟨_, rfl⟩
  rw [← e27] at q69
  refine q69.trans ?_
  have f27_0 : M27 0 = .inr (4, [.ref 1, .ref 2, .ref 3, .ref 11, .ref 12, .ref 16, .ref 20, .ref 21, .ref 22, .int 0, .int 0, .long 0, .long 1]) := by rw [e27, vn (show (0 : Nat) ≠ 25 by decide), vn (show (0 : Nat) ≠ 26 by decide), vn (show (0 : Nat) ≠ 25 by decide)]; exact f26_0
  have f27_1 : M27 1 = .inl (2, 6, .inr (.inr (.inr (.inr (va_up (fun _ => none) 0 (some 23)))))) := by rw [e27, vn (show (1 : Nat) ≠ 25 by decide), vn (show (1 : Nat) ≠ 26 by decide), vn (show (1 : Nat) ≠ 25 by decide)]; exact f26_1
  have f27_2 : M27 2 = .inl (2, 4, .inr (.inr (.inr (.inr (fun _ => none))))) := by rw [e27, vn (show (2 : Nat) ≠ 25 by decide), vn (show (2 : Nat) ≠ 26 by decide), vn (show (2 : Nat) ≠ 25 by decide)]; exact f26_2
  have f27_3 : M27 3 = .inr (0, [.ref 4, .ref 8, .ref 9, .ref 10, .int 0]) := by rw [e27, vn (show (3 : Nat) ≠ 25 by decide), vn (show (3 : Nat) ≠ 26 by decide), vn (show (3 : Nat) ≠ 25 by decide)]; exact f26_3
  have f27_11 : M27 11 = .inl (3, 3, .inr (.inr (.inr (.inr (fun _ => none))))) := by rw [e27, vn (show (11 : Nat) ≠ 25 by decide), vn (show (11 : Nat) ≠ 26 by decide), vn (show (11 : Nat) ≠ 25 by decide)]; exact f26_11
  have f27_12 : M27 12 = .inr (3, [.ref 13, .ref 14, .ref 15, .int 0, .int 0, .int 0]) := by rw [e27, vn (show (12 : Nat) ≠ 25 by decide), vn (show (12 : Nat) ≠ 26 by decide), vn (show (12 : Nat) ≠ 25 by decide)]; exact f26_12
  have f27_16 : M27 16 = .inr (2, [.ref 17, .ref 18, .ref 19, .int 0]) := by rw [e27, vn (show (16 : Nat) ≠ 25 by decide), vn (show (16 : Nat) ≠ 26 by decide), vn (show (16 : Nat) ≠ 25 by decide)]; exact f26_16
  have f27_25 : M27 25 = .inr (1, [.ref 26, .int (-1)]) := by rw [e27, vs]
  have q70 : pX 47 113 [.ref 0, .int 1] [.ref 25, .int 1, .ref 1] M27 27 (S + 6 + 4 + 5 + 6 + 6 + 6 + 7 + 280 + 40 + 40 + 3 + 6 + 6 + 6 + 7 + 4 + 64 + 448 + 61 + 64 + 64 + 6 + 2 + 40 + 2 + 40) = pX 47 114 [.ref 0, .int 1] [] (va_up M27 1 (.inl (2, 6, .inr (.inr (.inr (.inr (va_up (va_up (fun _ => none) 0 (some 23)) 1 (some 25)))))))) 27 (S + 6 + 4 + 5 + 6 + 6 + 6 + 7 + 280 + 40 + 40 + 3 + 6 + 6 + 6 + 7 + 4 + 64 + 448 + 61 + 64 + 64 + 6 + 2 + 40 + 2 + 40) := x_aast (ci := 1) (n := 6) (show pm_in 47 113 = some (.aastore, 1) from by decide +kernel) f27_1 f27_25 (by decide) (by decide) (Or.inl ⟨rfl, rfl⟩) (ib (j := 1) (n := 6) (by decide) (by decide))
  obtain ⟨M28, e28⟩ : ∃ m : pm_M, m = va_up M27 1 (.inl (2, 6, .inr (.inr (.inr (.inr (va_up (va_up (fun _ => none) 0 (some 23)) 1 (some 25))))))) := ⟨_, rfl⟩
  rw [← e28] at q70
  refine q70.trans ?_
  have f28_0 : M28 0 = .inr (4, [.ref 1, .ref 2, .ref 3, .ref 11, .ref 12, .ref 16, .ref 20, .ref 21, .ref 22, .int 0, .int 0, .long 0, .long 1]) := by rw [e28, vn (show (0 : Nat) ≠ 1 by decide)]; exact f27_0
  have f28_1 : M28 1 = .inl (2, 6, .inr (.inr (.inr (.inr (va_up (va_up (fun _ => none) 0 (some 23)) 1 (some 25)))))) := by rw [e28, vs]
  have f28_2 : M28 2 = .inl (2, 4, .inr (.inr (.inr (.inr (fun _ => none))))) := by rw [e28, vn (show (2 : Nat) ≠ 1 by decide)]; exact f27_2
  have f28_3 : M28 3 = .inr (0, [.ref 4, .ref 8, .ref 9, .ref 10, .int 0]) := by rw [e28, vn (show (3 : Nat) ≠ 1 by decide)]; exact f27_3
  have f28_11 : M28 11 = .inl (3, 3, .inr (.inr (.inr (.inr (fun _ => none))))) := by rw [e28, vn (show (11 : Nat) ≠ 1 by decide)]; exact f27_11
  have f28_12 : M28 12 = .inr (3, [.ref 13, .ref 14, .ref 15, .int 0, .int 0, .int 0]) := by rw [e28, vn (show (12 : Nat) ≠ 1 by decide)]; exact f27_12
  have f28_16 : M28 16 = .inr (2, [.ref 17, .ref 18, .ref 19, .int 0]) := by rw [e28, vn (show (16 : Nat) ≠ 1 by decide)]; exact f27_16
  refine Eq.trans (x_iinc (x := 1) (w := 1) (ls' := [.ref 0, .int 2]) (show pm_in 47 114 = some (.iinc 1 1, 3) from by decide +kernel) rfl (by decide) (congrArg (fun z : Int32 => ([.ref 0, .int z] : List Value)) (show (1 : Int32) + 1 = 2 from by decide))) ?_
  refine Eq.trans (x_goto (t := 93) (show pm_in 47 117 = some (.goto (-24), 3) from by decide +kernel) (by decide)) ?_
  refine Eq.trans (x_iload_n (show pm_in 47 93 = some (.iload_n 1, 1) from by decide +kernel) rfl) ?_
  refine Eq.trans (x_bipush (v := 6) (show pm_in 47 94 = some (.bipush 6, 2) from by decide +kernel) (by decide)) ?_
  refine Eq.trans ((x_icge (t := 120) (show pm_in 47 96 = some (.if_icmp .ge 24, 3) from by decide +kernel) (by decide)).trans (if_pos (by decide))) ?_
  refine Eq.trans (x_aload_n (show pm_in 47 99 = some (.aload_n 0, 1) from by decide +kernel) rfl) ?_
  refine Eq.trans (x_getf (ci := 4) (k := 0) (fs := [.ref 1, .ref 2, .ref 3, .ref 11, .ref 12, .ref 16, .ref 20, .ref 21, .ref 22, .int 0, .int 0, .long 0, .long 1]) (v := .ref 1) (show pm_in 47 100 = some (.getfield 11, 3) from by decide +kernel) (by decide +kernel) f28_0 (by decide) rfl) ?_
  refine Eq.trans (x_iload_n (show pm_in 47 103 = some (.iload_n 1, 1) from by decide +kernel) rfl) ?_
  have q79 : pX 47 104 [.ref 0, .int 2] [.int 2, .ref 1] M28 27 (S + 6 + 4 + 5 + 6 + 6 + 6 + 7 + 280 + 40 + 40 + 3 + 6 + 6 + 6 + 7 + 4 + 64 + 448 + 61 + 64 + 64 + 6 + 2 + 40 + 2 + 40) = pX 47 107 [.ref 0, .int 2] [.ref 27, .int 2, .ref 1] (va_up M28 27 (.inr (1, [.null, .int 0]))) 28 (S + 6 + 4 + 5 + 6 + 6 + 6 + 7 + 280 + 40 + 40 + 3 + 6 + 6 + 6 + 7 + 4 + 64 + 448 + 61 + 64 + 64 + 6 + 2 + 40 + 2 + 40 + 2) := x_new (ci := 1) (k := 2) (show pm_in 47 104 = some (.new 9, 3) from by decide +kernel) (by decide +kernel) rfl rfl (by decide +kernel)
  obtain ⟨M29, e29⟩ : ∃ m : pm_M, m = va_up M28 27 (.inr (1, [.null, .int 0])) := ⟨_, rfl⟩
  rw [← e29] at q79
  refine q79.trans ?_
  have f29_0 : M29 0 = .inr (4, [.ref 1, .ref 2, .ref 3, .ref 11, .ref 12, .ref 16, .ref 20, .ref 21, .ref 22, .int 0, .int 0, .long 0, .long 1]) := by rw [e29, vn (show (0 : Nat) ≠ 27 by decide)]; exact f28_0
  have f29_1 : M29 1 = .inl (2, 6, .inr (.inr (.inr (.inr (va_up (va_up (fun _ => none) 0 (some 23)) 1 (some 25)))))) := by rw [e29, vn (show (1 : Nat) ≠ 27 by decide)]; exact f28_1
  have f29_2 : M29 2 = .inl (2, 4, .inr (.inr (.inr (.inr (fun _ => none))))) := by rw [e29, vn (show (2 : Nat) ≠ 27 by decide)]; exact f28_2
  have f29_3 : M29 3 = .inr (0, [.ref 4, .ref 8, .ref 9, .ref 10, .int 0]) := by rw [e29, vn (show (3 : Nat) ≠ 27 by decide)]; exact f28_3
  have f29_11 : M29 11 = .inl (3, 3, .inr (.inr (.inr (.inr (fun _ => none))))) := by rw [e29, vn (show (11 : Nat) ≠ 27 by decide)]; exact f28_11
  have f29_12 : M29 12 = .inr (3, [.ref 13, .ref 14, .ref 15, .int 0, .int 0, .int 0]) := by rw [e29, vn (show (12 : Nat) ≠ 27 by decide)]; exact f28_12
  have f29_16 : M29 16 = .inr (2, [.ref 17, .ref 18, .ref 19, .int 0]) := by rw [e29, vn (show (16 : Nat) ≠ 27 by decide)]; exact f28_16
  have f29_27 : M29 27 = .inr (1, [.null, .int 0]) := by rw [e29, vs]
  refine Eq.trans (x_dup (show pm_in 47 107 = some (.dup, 1) from by decide +kernel) rfl) ?_
  refine Eq.trans (x_bipush (v := 40) (show pm_in 47 108 = some (.bipush 40, 2) from by decide +kernel) (by decide)) ?_
  have q82 : pX 47 110 [.ref 0, .int 2] [.int 40, .ref 27, .ref 27, .int 2, .ref 1] M29 28 (S + 6 + 4 + 5 + 6 + 6 + 6 + 7 + 280 + 40 + 40 + 3 + 6 + 6 + 6 + 7 + 4 + 64 + 448 + 61 + 64 + 64 + 6 + 2 + 40 + 2 + 40 + 2) = pX 47 113 [.ref 0, .int 2] [.ref 27, .int 2, .ref 1] (va_up (va_up (va_up M29 27 (.inr (1, [.null, .int (-1)]))) 28 (.inl (0, 40, .inl (fun _ => 0)))) 27 (.inr (1, [.ref 28, .int (-1)]))) 29 (S + 6 + 4 + 5 + 6 + 6 + 6 + 7 + 280 + 40 + 40 + 3 + 6 + 6 + 6 + 7 + 4 + 64 + 448 + 61 + 64 + 64 + 6 + 2 + 40 + 2 + 40 + 2 + 40) := x_callI (y' := 17) (k := 1) (kd := 2) (b := 27) (as := [.int 40]) (st' := [.ref 27, .int 2, .ref 1]) (show pm_in 47 110 = some (.invokespecial 57, 3) from by decide +kernel) (by decide +kernel) (by decide) rfl rfl (by decide +kernel) (Nat.le_of_ble_eq_true rfl) (by decide +kernel) (by decide +kernel) rfl (by decide +kernel) (by decide +kernel) (ini17_27 (M := M29) (S := S + 6 + 4 + 5 + 6 + 6 + 6 + 7 + 280 + 40 + 40 + 3 + 6 + 6 + 6 + 7 + 4 + 64 + 448 + 61 + 64 + 64 + 6 + 2 + 40 + 2 + 40 + 2) f29_27)
  obtain ⟨M30, e30⟩ : ∃ m : pm_M, m = va_up (va_up (va_up M29 27 (.inr (1, [.null, .int (-1)]))) 28 (.inl (0, 40, .inl (fun _ => 0)))) 27 (.inr (1, [.ref 28, .int (-1)])) := ⟨_, rfl⟩
  rw [← e30] at q82
  refine q82.trans ?_
  have f30_0 : M30 0 = .inr (4, [.ref 1, .ref 2, .ref 3, .ref 11, .ref 12, .ref 16, .ref 20, .ref 21, .ref 22, .int 0, .int 0, .long 0, .long 1]) := by rw [e30, vn (show (0 : Nat) ≠ 27 by decide), vn (show (0 : Nat) ≠ 28 by decide), vn (show (0 : Nat) ≠ 27 by decide)]; exact f29_0
  have f30_1 : M30 1 = .inl (2, 6, .inr (.inr (.inr (.inr (va_up (va_up (fun _ => none) 0 (some 23)) 1 (some 25)))))) := by rw [e30, vn (show (1 : Nat) ≠ 27 by decide), vn (show (1 : Nat) ≠ 28 by decide), vn (show (1 : Nat) ≠ 27 by decide)]; exact f29_1
  have f30_2 : M30 2 = .inl (2, 4, .inr (.inr (.inr (.inr (fun _ => none))))) := by rw [e30, vn (show (2 : Nat) ≠ 27 by decide), vn (show (2 : Nat) ≠ 28 by decide), vn (show (2 : Nat) ≠ 27 by decide)]; exact f29_2
  have f30_3 : M30 3 = .inr (0, [.ref 4, .ref 8, .ref 9, .ref 10, .int 0]) := by rw [e30, vn (show (3 : Nat) ≠ 27 by decide), vn (show (3 : Nat) ≠ 28 by decide), vn (show (3 : Nat) ≠ 27 by decide)]; exact f29_3
  have f30_11 : M30 11 = .inl (3, 3, .inr (.inr (.inr (.inr (fun _ => none))))) := by rw [e30, vn (show (11 : Nat) ≠ 27 by decide), vn (show (11 : Nat) ≠ 28 by decide), vn (show (11 : Nat) ≠ 27 by decide)]; exact f29_11
  have f30_12 : M30 12 = .inr (3, [.ref 13, .ref 14, .ref 15, .int 0, .int 0, .int 0]) := by rw [e30, vn (show (12 : Nat) ≠ 27 by decide), vn (show (12 : Nat) ≠ 28 by decide), vn (show (12 : Nat) ≠ 27 by decide)]; exact f29_12
  have f30_16 : M30 16 = .inr (2, [.ref 17, .ref 18, .ref 19, .int 0]) := by rw [e30, vn (show (16 : Nat) ≠ 27 by decide), vn (show (16 : Nat) ≠ 28 by decide), vn (show (16 : Nat) ≠ 27 by decide)]; exact f29_16
  have f30_27 : M30 27 = .inr (1, [.ref 28, .int (-1)]) := by rw [e30, vs]
  have q83 : pX 47 113 [.ref 0, .int 2] [.ref 27, .int 2, .ref 1] M30 29 (S + 6 + 4 + 5 + 6 + 6 + 6 + 7 + 280 + 40 + 40 + 3 + 6 + 6 + 6 + 7 + 4 + 64 + 448 + 61 + 64 + 64 + 6 + 2 + 40 + 2 + 40 + 2 + 40) = pX 47 114 [.ref 0, .int 2] [] (va_up M30 1 (.inl (2, 6, .inr (.inr (.inr (.inr (va_up (va_up (va_up (fun _ => none) 0 (some 23)) 1 (some 25)) 2 (some 27)))))))) 29 (S + 6 + 4 + 5 + 6 + 6 + 6 + 7 + 280 + 40 + 40 + 3 + 6 + 6 + 6 + 7 + 4 + 64 + 448 + 61 + 64 + 64 + 6 + 2 + 40 + 2 + 40 + 2 + 40) := x_aast (ci := 1) (n := 6) (show pm_in 47 113 = some (.aastore, 1) from by decide +kernel) f30_1 f30_27 (by decide) (by decide) (Or.inl ⟨rfl, rfl⟩) (ib (j := 2) (n := 6) (by decide) (by decide))
  obtain ⟨M31, e31⟩ : ∃ m : pm_M, m = va_up M30 1 (.inl (2, 6, .inr (.inr (.inr (.inr (va_up (va_up (va_up (fun _ => none) 0 (some 23)) 1 (some 25)) 2 (some 27))))))) := ⟨_, rfl⟩
  rw [← e31] at q83
  refine q83.trans ?_
  have f31_0 : M31 0 = .inr (4, [.ref 1, .ref 2, .ref 3, .ref 11, .ref 12, .ref 16, .ref 20, .ref 21, .ref 22, .int 0, .int 0, .long 0, .long 1]) := by rw [e31, vn (show (0 : Nat) ≠ 1 by decide)]; exact f30_0
  have f31_1 : M31 1 = .inl (2, 6, .inr (.inr (.inr (.inr (va_up (va_up (va_up (fun _ => none) 0 (some 23)) 1 (some 25)) 2 (some 27)))))) := by rw [e31, vs]
  have f31_2 : M31 2 = .inl (2, 4, .inr (.inr (.inr (.inr (fun _ => none))))) := by rw [e31, vn (show (2 : Nat) ≠ 1 by decide)]; exact f30_2
  have f31_3 : M31 3 = .inr (0, [.ref 4, .ref 8, .ref 9, .ref 10, .int 0]) := by rw [e31, vn (show (3 : Nat) ≠ 1 by decide)]; exact f30_3
  have f31_11 : M31 11 = .inl (3, 3, .inr (.inr (.inr (.inr (fun _ => none))))) := by rw [e31, vn (show (11 : Nat) ≠ 1 by decide)]; exact f30_11
  have f31_12 : M31 12 = .inr (3, [.ref 13, .ref 14, .ref 15, .int 0, .int 0, .int 0]) := by rw [e31, vn (show (12 : Nat) ≠ 1 by decide)]; exact f30_12
  have f31_16 : M31 16 = .inr (2, [.ref 17, .ref 18, .ref 19, .int 0]) := by rw [e31, vn (show (16 : Nat) ≠ 1 by decide)]; exact f30_16
  refine Eq.trans (x_iinc (x := 2) (w := 1) (ls' := [.ref 0, .int 3]) (show pm_in 47 114 = some (.iinc 1 1, 3) from by decide +kernel) rfl (by decide) (congrArg (fun z : Int32 => ([.ref 0, .int z] : List Value)) (show (2 : Int32) + 1 = 3 from by decide))) ?_
  refine Eq.trans (x_goto (t := 93) (show pm_in 47 117 = some (.goto (-24), 3) from by decide +kernel) (by decide)) ?_
  refine Eq.trans (x_iload_n (show pm_in 47 93 = some (.iload_n 1, 1) from by decide +kernel) rfl) ?_
  refine Eq.trans (x_bipush (v := 6) (show pm_in 47 94 = some (.bipush 6, 2) from by decide +kernel) (by decide)) ?_
  refine Eq.trans ((x_icge (t := 120) (show pm_in 47 96 = some (.if_icmp .ge 24, 3) from by decide +kernel) (by decide)).trans (if_pos (by decide))) ?_
  refine Eq.trans (x_aload_n (show pm_in 47 99 = some (.aload_n 0, 1) from by decide +kernel) rfl) ?_
  refine Eq.trans (x_getf (ci := 4) (k := 0) (fs := [.ref 1, .ref 2, .ref 3, .ref 11, .ref 12, .ref 16, .ref 20, .ref 21, .ref 22, .int 0, .int 0, .long 0, .long 1]) (v := .ref 1) (show pm_in 47 100 = some (.getfield 11, 3) from by decide +kernel) (by decide +kernel) f31_0 (by decide) rfl) ?_
  refine Eq.trans (x_iload_n (show pm_in 47 103 = some (.iload_n 1, 1) from by decide +kernel) rfl) ?_
  have q92 : pX 47 104 [.ref 0, .int 3] [.int 3, .ref 1] M31 29 (S + 6 + 4 + 5 + 6 + 6 + 6 + 7 + 280 + 40 + 40 + 3 + 6 + 6 + 6 + 7 + 4 + 64 + 448 + 61 + 64 + 64 + 6 + 2 + 40 + 2 + 40 + 2 + 40) = pX 47 107 [.ref 0, .int 3] [.ref 29, .int 3, .ref 1] (va_up M31 29 (.inr (1, [.null, .int 0]))) 30 (S + 6 + 4 + 5 + 6 + 6 + 6 + 7 + 280 + 40 + 40 + 3 + 6 + 6 + 6 + 7 + 4 + 64 + 448 + 61 + 64 + 64 + 6 + 2 + 40 + 2 + 40 + 2 + 40 + 2) := x_new (ci := 1) (k := 2) (show pm_in 47 104 = some (.new 9, 3) from by decide +kernel) (by decide +kernel) rfl rfl (by decide +kernel)
  obtain ⟨M32, e32⟩ : ∃ m : pm_M, m = va_up M31 29 (.inr (1, [.null, .int 0])) := ⟨_, rfl⟩
  rw [← e32] at q92
  refine q92.trans ?_
  have f32_0 : M32 0 = .inr (4, [.ref 1, .ref 2, .ref 3, .ref 11, .ref 12, .ref 16, .ref 20, .ref 21, .ref 22, .int 0, .int 0, .long 0, .long 1]) := by rw [e32, vn (show (0 : Nat) ≠ 29 by decide)]; exact f31_0
  have f32_1 : M32 1 = .inl (2, 6, .inr (.inr (.inr (.inr (va_up (va_up (va_up (fun _ => none) 0 (some 23)) 1 (some 25)) 2 (some 27)))))) := by rw [e32, vn (show (1 : Nat) ≠ 29 by decide)]; exact f31_1
  have f32_2 : M32 2 = .inl (2, 4, .inr (.inr (.inr (.inr (fun _ => none))))) := by rw [e32, vn (show (2 : Nat) ≠ 29 by decide)]; exact f31_2
  have f32_3 : M32 3 = .inr (0, [.ref 4, .ref 8, .ref 9, .ref 10, .int 0]) := by rw [e32, vn (show (3 : Nat) ≠ 29 by decide)]; exact f31_3
  have f32_11 : M32 11 = .inl (3, 3, .inr (.inr (.inr (.inr (fun _ => none))))) := by rw [e32, vn (show (11 : Nat) ≠ 29 by decide)]; exact f31_11
  have f32_12 : M32 12 = .inr (3, [.ref 13, .ref 14, .ref 15, .int 0, .int 0, .int 0]) := by rw [e32, vn (show (12 : Nat) ≠ 29 by decide)]; exact f31_12
  have f32_16 : M32 16 = .inr (2, [.ref 17, .ref 18, .ref 19, .int 0]) := by rw [e32, vn (show (16 : Nat) ≠ 29 by decide)]; exact f31_16
  have f32_29 : M32 29 = .inr (1, [.null, .int 0]) := by rw [e32, vs]
  refine Eq.trans (x_dup (show pm_in 47 107 = some (.dup, 1) from by decide +kernel) rfl) ?_
  refine Eq.trans (x_bipush (v := 40) (show pm_in 47 108 = some (.bipush 40, 2) from by decide +kernel) (by decide)) ?_
  have q95 : pX 47 110 [.ref 0, .int 3] [.int 40, .ref 29, .ref 29, .int 3, .ref 1] M32 30 (S + 6 + 4 + 5 + 6 + 6 + 6 + 7 + 280 + 40 + 40 + 3 + 6 + 6 + 6 + 7 + 4 + 64 + 448 + 61 + 64 + 64 + 6 + 2 + 40 + 2 + 40 + 2 + 40 + 2) = pX 47 113 [.ref 0, .int 3] [.ref 29, .int 3, .ref 1] (va_up (va_up (va_up M32 29 (.inr (1, [.null, .int (-1)]))) 30 (.inl (0, 40, .inl (fun _ => 0)))) 29 (.inr (1, [.ref 30, .int (-1)]))) 31 (S + 6 + 4 + 5 + 6 + 6 + 6 + 7 + 280 + 40 + 40 + 3 + 6 + 6 + 6 + 7 + 4 + 64 + 448 + 61 + 64 + 64 + 6 + 2 + 40 + 2 + 40 + 2 + 40 + 2 + 40) := x_callI (y' := 17) (k := 1) (kd := 2) (b := 29) (as := [.int 40]) (st' := [.ref 29, .int 3, .ref 1]) (show pm_in 47 110 = some (.invokespecial 57, 3) from by decide +kernel) (by decide +kernel) (by decide) rfl rfl (by decide +kernel) (Nat.le_of_ble_eq_true rfl) (by decide +kernel) (by decide +kernel) rfl (by decide +kernel) (by decide +kernel) (ini17_29 (M := M32) (S := S + 6 + 4 + 5 + 6 + 6 + 6 + 7 + 280 + 40 + 40 + 3 + 6 + 6 + 6 + 7 + 4 + 64 + 448 + 61 + 64 + 64 + 6 + 2 + 40 + 2 + 40 + 2 + 40 + 2) f32_29)
  obtain ⟨M33, e33⟩ : ∃ m : pm_M, m = va_up (va_up (va_up M32 29 (.inr (1, [.null, .int (-1)]))) 30 (.inl (0, 40, .inl (fun _ => 0)))) 29 (.inr (1, [.ref 30, .int (-1)])) := ⟨_, rfl⟩
  rw [← e33] at q95
  refine q95.trans ?_
  have f33_0 : M33 0 = .inr (4, [.ref 1, .ref 2, .ref 3, .ref 11, .ref 12, .ref 16, .ref 20, .ref 21, .ref 22, .int 0, .int 0, .long 0, .long 1]) := by rw [e33, vn (show (0 : Nat) ≠ 29 by decide), vn (show (0 : Nat) ≠ 30 by decide), vn (show (0 : Nat) ≠ 29 by decide)]; exact f32_0
  have f33_1 : M33 1 = .inl (2, 6, .inr (.inr (.inr (.inr (va_up (va_up (va_up (fun _ => none) 0 (some 23)) 1 (some 25)) 2 (some 27)))))) := by rw [e33, vn (show (1 : Nat) ≠ 29 by decide), vn (show (1 : Nat) ≠ 30 by decide), vn (show (1 : Nat) ≠ 29 by decide)]; exact f32_1
  have f33_2 : M33 2 = .inl (2, 4, .inr (.inr (.inr (.inr (fun _ => none))))) := by rw [e33, vn (show (2 : Nat) ≠ 29 by decide), vn (show (2 : Nat) ≠ 30 by decide), vn (show (2 : Nat) ≠ 29 by decide)]; exact f32_2
  have f33_3 : M33 3 = .inr (0, [.ref 4, .ref 8, .ref 9, .ref 10, .int 0]) := by rw [e33, vn (show (3 : Nat) ≠ 29 by decide), vn (show (3 : Nat) ≠ 30 by decide), vn (show (3 : Nat) ≠ 29 by decide)]; exact f32_3
  have f33_11 : M33 11 = .inl (3, 3, .inr (.inr (.inr (.inr (fun _ => none))))) := by rw [e33, vn (show (11 : Nat) ≠ 29 by decide), vn (show (11 : Nat) ≠ 30 by decide), vn (show (11 : Nat) ≠ 29 by decide)]; exact f32_11
  have f33_12 : M33 12 = .inr (3, [.ref 13, .ref 14, .ref 15, .int 0, .int 0, .int 0]) := by rw [e33, vn (show (12 : Nat) ≠ 29 by decide), vn (show (12 : Nat) ≠ 30 by decide), vn (show (12 : Nat) ≠ 29 by decide)]; exact f32_12
  have f33_16 : M33 16 = .inr (2, [.ref 17, .ref 18, .ref 19, .int 0]) := by rw [e33, vn (show (16 : Nat) ≠ 29 by decide), vn (show (16 : Nat) ≠ 30 by decide), vn (show (16 : Nat) ≠ 29 by decide)]; exact f32_16
  have f33_29 : M33 29 = .inr (1, [.ref 30, .int (-1)]) := by rw [e33, vs]
  have q96 : pX 47 113 [.ref 0, .int 3] [.ref 29, .int 3, .ref 1] M33 31 (S + 6 + 4 + 5 + 6 + 6 + 6 + 7 + 280 + 40 + 40 + 3 + 6 + 6 + 6 + 7 + 4 + 64 + 448 + 61 + 64 + 64 + 6 + 2 + 40 + 2 + 40 + 2 + 40 + 2 + 40) = pX 47 114 [.ref 0, .int 3] [] (va_up M33 1 (.inl (2, 6, .inr (.inr (.inr (.inr (va_up (va_up (va_up (va_up (fun _ => none) 0 (some 23)) 1 (some 25)) 2 (some 27)) 3 (some 29)))))))) 31 (S + 6 + 4 + 5 + 6 + 6 + 6 + 7 + 280 + 40 + 40 + 3 + 6 + 6 + 6 + 7 + 4 + 64 + 448 + 61 + 64 + 64 + 6 + 2 + 40 + 2 + 40 + 2 + 40 + 2 + 40) := x_aast (ci := 1) (n := 6) (show pm_in 47 113 = some (.aastore, 1) from by decide +kernel) f33_1 f33_29 (by decide) (by decide) (Or.inl ⟨rfl, rfl⟩) (ib (j := 3) (n := 6) (by decide) (by decide))
  obtain ⟨M34, e34⟩ : ∃ m : pm_M, m = va_up M33 1 (.inl (2, 6, .inr (.inr (.inr (.inr (va_up (va_up (va_up (va_up (fun _ => none) 0 (some 23)) 1 (some 25)) 2 (some 27)) 3 (some 29))))))) := ⟨_, rfl⟩
  rw [← e34] at q96
  refine q96.trans ?_
  have f34_0 : M34 0 = .inr (4, [.ref 1, .ref 2, .ref 3, .ref 11, .ref 12, .ref 16, .ref 20, .ref 21, .ref 22, .int 0, .int 0, .long 0, .long 1]) := by rw [e34, vn (show (0 : Nat) ≠ 1 by decide)]; exact f33_0
  have f34_1 : M34 1 = .inl (2, 6, .inr (.inr (.inr (.inr (va_up (va_up (va_up (va_up (fun _ => none) 0 (some 23)) 1 (some 25)) 2 (some 27)) 3 (some 29)))))) := by rw [e34, vs]
  have f34_2 : M34 2 = .inl (2, 4, .inr (.inr (.inr (.inr (fun _ => none))))) := by rw [e34, vn (show (2 : Nat) ≠ 1 by decide)]; exact f33_2
  have f34_3 : M34 3 = .inr (0, [.ref 4, .ref 8, .ref 9, .ref 10, .int 0]) := by rw [e34, vn (show (3 : Nat) ≠ 1 by decide)]; exact f33_3
  have f34_11 : M34 11 = .inl (3, 3, .inr (.inr (.inr (.inr (fun _ => none))))) := by rw [e34, vn (show (11 : Nat) ≠ 1 by decide)]; exact f33_11
  have f34_12 : M34 12 = .inr (3, [.ref 13, .ref 14, .ref 15, .int 0, .int 0, .int 0]) := by rw [e34, vn (show (12 : Nat) ≠ 1 by decide)]; exact f33_12
  have f34_16 : M34 16 = .inr (2, [.ref 17, .ref 18, .ref 19, .int 0]) := by rw [e34, vn (show (16 : Nat) ≠ 1 by decide)]; exact f33_16
  refine Eq.trans (x_iinc (x := 3) (w := 1) (ls' := [.ref 0, .int 4]) (show pm_in 47 114 = some (.iinc 1 1, 3) from by decide +kernel) rfl (by decide) (congrArg (fun z : Int32 => ([.ref 0, .int z] : List Value)) (show (3 : Int32) + 1 = 4 from by decide))) ?_
  refine Eq.trans (x_goto (t := 93) (show pm_in 47 117 = some (.goto (-24), 3) from by decide +kernel) (by decide)) ?_
  refine Eq.trans (x_iload_n (show pm_in 47 93 = some (.iload_n 1, 1) from by decide +kernel) rfl) ?_
  refine Eq.trans (x_bipush (v := 6) (show pm_in 47 94 = some (.bipush 6, 2) from by decide +kernel) (by decide)) ?_
  refine Eq.trans ((x_icge (t := 120) (show pm_in 47 96 = some (.if_icmp .ge 24, 3) from by decide +kernel) (by decide)).trans (if_pos (by decide))) ?_
  refine Eq.trans (x_aload_n (show pm_in 47 99 = some (.aload_n 0, 1) from by decide +kernel) rfl) ?_
  refine Eq.trans (x_getf (ci := 4) (k := 0) (fs := [.ref 1, .ref 2, .ref 3, .ref 11, .ref 12, .ref 16, .ref 20, .ref 21, .ref 22, .int 0, .int 0, .long 0, .long 1]) (v := .ref 1) (show pm_in 47 100 = some (.getfield 11, 3) from by decide +kernel) (by decide +kernel) f34_0 (by decide) rfl) ?_
  refine Eq.trans (x_iload_n (show pm_in 47 103 = some (.iload_n 1, 1) from by decide +kernel) rfl) ?_
  have q105 : pX 47 104 [.ref 0, .int 4] [.int 4, .ref 1] M34 31 (S + 6 + 4 + 5 + 6 + 6 + 6 + 7 + 280 + 40 + 40 + 3 + 6 + 6 + 6 + 7 + 4 + 64 + 448 + 61 + 64 + 64 + 6 + 2 + 40 + 2 + 40 + 2 + 40 + 2 + 40) = pX 47 107 [.ref 0, .int 4] [.ref 31, .int 4, .ref 1] (va_up M34 31 (.inr (1, [.null, .int 0]))) 32 (S + 6 + 4 + 5 + 6 + 6 + 6 + 7 + 280 + 40 + 40 + 3 + 6 + 6 + 6 + 7 + 4 + 64 + 448 + 61 + 64 + 64 + 6 + 2 + 40 + 2 + 40 + 2 + 40 + 2 + 40 + 2) := x_new (ci := 1) (k := 2) (show pm_in 47 104 = some (.new 9, 3) from by decide +kernel) (by decide +kernel) rfl rfl (by decide +kernel)
  obtain ⟨M35, e35⟩ : ∃ m : pm_M, m = va_up M34 31 (.inr (1, [.null, .int 0])) := ⟨_, rfl⟩
  rw [← e35] at q105
  refine q105.trans ?_
  have f35_0 : M35 0 = .inr (4, [.ref 1, .ref 2, .ref 3, .ref 11, .ref 12, .ref 16, .ref 20, .ref 21, .ref 22, .int 0, .int 0, .long 0, .long 1]) := by rw [e35, vn (show (0 : Nat) ≠ 31 by decide)]; exact f34_0
  have f35_1 : M35 1 = .inl (2, 6, .inr (.inr (.inr (.inr (va_up (va_up (va_up (va_up (fun _ => none) 0 (some 23)) 1 (some 25)) 2 (some 27)) 3 (some 29)))))) := by rw [e35, vn (show (1 : Nat) ≠ 31 by decide)]; exact f34_1
  have f35_2 : M35 2 = .inl (2, 4, .inr (.inr (.inr (.inr (fun _ => none))))) := by rw [e35, vn (show (2 : Nat) ≠ 31 by decide)]; exact f34_2
  have f35_3 : M35 3 = .inr (0, [.ref 4, .ref 8, .ref 9, .ref 10, .int 0]) := by rw [e35, vn (show (3 : Nat) ≠ 31 by decide)]; exact f34_3
  have f35_11 : M35 11 = .inl (3, 3, .inr (.inr (.inr (.inr (fun _ => none))))) := by rw [e35, vn (show (11 : Nat) ≠ 31 by decide)]; exact f34_11
  have f35_12 : M35 12 = .inr (3, [.ref 13, .ref 14, .ref 15, .int 0, .int 0, .int 0]) := by rw [e35, vn (show (12 : Nat) ≠ 31 by decide)]; exact f34_12
  have f35_16 : M35 16 = .inr (2, [.ref 17, .ref 18, .ref 19, .int 0]) := by rw [e35, vn (show (16 : Nat) ≠ 31 by decide)]; exact f34_16
  have f35_31 : M35 31 = .inr (1, [.null, .int 0]) := by rw [e35, vs]
  refine Eq.trans (x_dup (show pm_in 47 107 = some (.dup, 1) from by decide +kernel) rfl) ?_
  refine Eq.trans (x_bipush (v := 40) (show pm_in 47 108 = some (.bipush 40, 2) from by decide +kernel) (by decide)) ?_
  have q108 : pX 47 110 [.ref 0, .int 4] [.int 40, .ref 31, .ref 31, .int 4, .ref 1] M35 32 (S + 6 + 4 + 5 + 6 + 6 + 6 + 7 + 280 + 40 + 40 + 3 + 6 + 6 + 6 + 7 + 4 + 64 + 448 + 61 + 64 + 64 + 6 + 2 + 40 + 2 + 40 + 2 + 40 + 2 + 40 + 2) = pX 47 113 [.ref 0, .int 4] [.ref 31, .int 4, .ref 1] (va_up (va_up (va_up M35 31 (.inr (1, [.null, .int (-1)]))) 32 (.inl (0, 40, .inl (fun _ => 0)))) 31 (.inr (1, [.ref 32, .int (-1)]))) 33 (S + 6 + 4 + 5 + 6 + 6 + 6 + 7 + 280 + 40 + 40 + 3 + 6 + 6 + 6 + 7 + 4 + 64 + 448 + 61 + 64 + 64 + 6 + 2 + 40 + 2 + 40 + 2 + 40 + 2 + 40 + 2 + 40) := x_callI (y' := 17) (k := 1) (kd := 2) (b := 31) (as := [.int 40]) (st' := [.ref 31, .int 4, .ref 1]) (show pm_in 47 110 = some (.invokespecial 57, 3) from by decide +kernel) (by decide +kernel) (by decide) rfl rfl (by decide +kernel) (Nat.le_of_ble_eq_true rfl) (by decide +kernel) (by decide +kernel) rfl (by decide +kernel) (by decide +kernel) (ini17_31 (M := M35) (S := S + 6 + 4 + 5 + 6 + 6 + 6 + 7 + 280 + 40 + 40 + 3 + 6 + 6 + 6 + 7 + 4 + 64 + 448 + 61 + 64 + 64 + 6 + 2 + 40 + 2 + 40 + 2 + 40 + 2 + 40 + 2) f35_31)
  obtain ⟨M36, e36⟩ : ∃ m : pm_M, m = va_up (va_up (va_up M35 31 (.inr (1, [.null, .int (-1)]))) 32 (.inl (0, 40, .inl (fun _ => 0)))) 31 (.inr (1, [.ref 32, .int (-1)])) := ⟨_, rfl⟩
  rw [← e36] at q108
  refine q108.trans ?_
  have f36_0 : M36 0 = .inr (4, [.ref 1, .ref 2, .ref 3, .ref 11, .ref 12, .ref 16, .ref 20, .ref 21, .ref 22, .int 0, .int 0, .long 0, .long 1]) := by rw [e36, vn (show (0 : Nat) ≠ 31 by decide), vn (show (0 : Nat) ≠ 32 by decide), vn (show (0 : Nat) ≠ 31 by decide)]; exact f35_0
  have f36_1 : M36 1 = .inl (2, 6, .inr (.inr (.inr (.inr (va_up (va_up (va_up (va_up (fun _ => none) 0 (some 23)) 1 (some 25)) 2 (some 27)) 3 (some 29)))))) := by rw [e36, vn (show (1 : Nat) ≠ 31 by decide), vn (show (1 : Nat) ≠ 32 by decide), vn (show (1 : Nat) ≠ 31 by decide)]; exact f35_1
  have f36_2 : M36 2 = .inl (2, 4, .inr (.inr (.inr (.inr (fun _ => none))))) := by rw [e36, vn (show (2 : Nat) ≠ 31 by decide), vn (show (2 : Nat) ≠ 32 by decide), vn (show (2 : Nat) ≠ 31 by decide)]; exact f35_2
  have f36_3 : M36 3 = .inr (0, [.ref 4, .ref 8, .ref 9, .ref 10, .int 0]) := by rw [e36, vn (show (3 : Nat) ≠ 31 by decide), vn (show (3 : Nat) ≠ 32 by decide), vn (show (3 : Nat) ≠ 31 by decide)]; exact f35_3
  have f36_11 : M36 11 = .inl (3, 3, .inr (.inr (.inr (.inr (fun _ => none))))) := by rw [e36, vn (show (11 : Nat) ≠ 31 by decide), vn (show (11 : Nat) ≠ 32 by decide), vn (show (11 : Nat) ≠ 31 by decide)]; exact f35_11
  have f36_12 : M36 12 = .inr (3, [.ref 13, .ref 14, .ref 15, .int 0, .int 0, .int 0]) := by rw [e36, vn (show (12 : Nat) ≠ 31 by decide), vn (show (12 : Nat) ≠ 32 by decide), vn (show (12 : Nat) ≠ 31 by decide)]; exact f35_12
  have f36_16 : M36 16 = .inr (2, [.ref 17, .ref 18, .ref 19, .int 0]) := by rw [e36, vn (show (16 : Nat) ≠ 31 by decide), vn (show (16 : Nat) ≠ 32 by decide), vn (show (16 : Nat) ≠ 31 by decide)]; exact f35_16
  have f36_31 : M36 31 = .inr (1, [.ref 32, .int (-1)]) := by rw [e36, vs]
  have q109 : pX 47 113 [.ref 0, .int 4] [.ref 31, .int 4, .ref 1] M36 33 (S + 6 + 4 + 5 + 6 + 6 + 6 + 7 + 280 + 40 + 40 + 3 + 6 + 6 + 6 + 7 + 4 + 64 + 448 + 61 + 64 + 64 + 6 + 2 + 40 + 2 + 40 + 2 + 40 + 2 + 40 + 2 + 40) = pX 47 114 [.ref 0, .int 4] [] (va_up M36 1 (.inl (2, 6, .inr (.inr (.inr (.inr (va_up (va_up (va_up (va_up (va_up (fun _ => none) 0 (some 23)) 1 (some 25)) 2 (some 27)) 3 (some 29)) 4 (some 31)))))))) 33 (S + 6 + 4 + 5 + 6 + 6 + 6 + 7 + 280 + 40 + 40 + 3 + 6 + 6 + 6 + 7 + 4 + 64 + 448 + 61 + 64 + 64 + 6 + 2 + 40 + 2 + 40 + 2 + 40 + 2 + 40 + 2 + 40) := x_aast (ci := 1) (n := 6) (show pm_in 47 113 = some (.aastore, 1) from by decide +kernel) f36_1 f36_31 (by decide) (by decide) (Or.inl ⟨rfl, rfl⟩) (ib (j := 4) (n := 6) (by decide) (by decide))
  obtain ⟨M37, e37⟩ : ∃ m : pm_M, m = va_up M36 1 (.inl (2, 6, .inr (.inr (.inr (.inr (va_up (va_up (va_up (va_up (va_up (fun _ => none) 0 (some 23)) 1 (some 25)) 2 (some 27)) 3 (some 29)) 4 (some 31))))))) := ⟨_, rfl⟩
  rw [← e37] at q109
  refine q109.trans ?_
  have f37_0 : M37 0 = .inr (4, [.ref 1, .ref 2, .ref 3, .ref 11, .ref 12, .ref 16, .ref 20, .ref 21, .ref 22, .int 0, .int 0, .long 0, .long 1]) := by rw [e37, vn (show (0 : Nat) ≠ 1 by decide)]; exact f36_0
  have f37_1 : M37 1 = .inl (2, 6, .inr (.inr (.inr (.inr (va_up (va_up (va_up (va_up (va_up (fun _ => none) 0 (some 23)) 1 (some 25)) 2 (some 27)) 3 (some 29)) 4 (some 31)))))) := by rw [e37, vs]
  have f37_2 : M37 2 = .inl (2, 4, .inr (.inr (.inr (.inr (fun _ => none))))) := by rw [e37, vn (show (2 : Nat) ≠ 1 by decide)]; exact f36_2
  have f37_3 : M37 3 = .inr (0, [.ref 4, .ref 8, .ref 9, .ref 10, .int 0]) := by rw [e37, vn (show (3 : Nat) ≠ 1 by decide)]; exact f36_3
  have f37_11 : M37 11 = .inl (3, 3, .inr (.inr (.inr (.inr (fun _ => none))))) := by rw [e37, vn (show (11 : Nat) ≠ 1 by decide)]; exact f36_11
  have f37_12 : M37 12 = .inr (3, [.ref 13, .ref 14, .ref 15, .int 0, .int 0, .int 0]) := by rw [e37, vn (show (12 : Nat) ≠ 1 by decide)]; exact f36_12
  have f37_16 : M37 16 = .inr (2, [.ref 17, .ref 18, .ref 19, .int 0]) := by rw [e37, vn (show (16 : Nat) ≠ 1 by decide)]; exact f36_16
  refine Eq.trans (x_iinc (x := 4) (w := 1) (ls' := [.ref 0, .int 5]) (show pm_in 47 114 = some (.iinc 1 1, 3) from by decide +kernel) rfl (by decide) (congrArg (fun z : Int32 => ([.ref 0, .int z] : List Value)) (show (4 : Int32) + 1 = 5 from by decide))) ?_
  refine Eq.trans (x_goto (t := 93) (show pm_in 47 117 = some (.goto (-24), 3) from by decide +kernel) (by decide)) ?_
  refine Eq.trans (x_iload_n (show pm_in 47 93 = some (.iload_n 1, 1) from by decide +kernel) rfl) ?_
  refine Eq.trans (x_bipush (v := 6) (show pm_in 47 94 = some (.bipush 6, 2) from by decide +kernel) (by decide)) ?_
  refine Eq.trans ((x_icge (t := 120) (show pm_in 47 96 = some (.if_icmp .ge 24, 3) from by decide +kernel) (by decide)).trans (if_pos (by decide))) ?_
  refine Eq.trans (x_aload_n (show pm_in 47 99 = some (.aload_n 0, 1) from by decide +kernel) rfl) ?_
  refine Eq.trans (x_getf (ci := 4) (k := 0) (fs := [.ref 1, .ref 2, .ref 3, .ref 11, .ref 12, .ref 16, .ref 20, .ref 21, .ref 22, .int 0, .int 0, .long 0, .long 1]) (v := .ref 1) (show pm_in 47 100 = some (.getfield 11, 3) from by decide +kernel) (by decide +kernel) f37_0 (by decide) rfl) ?_
  refine Eq.trans (x_iload_n (show pm_in 47 103 = some (.iload_n 1, 1) from by decide +kernel) rfl) ?_
  have q118 : pX 47 104 [.ref 0, .int 5] [.int 5, .ref 1] M37 33 (S + 6 + 4 + 5 + 6 + 6 + 6 + 7 + 280 + 40 + 40 + 3 + 6 + 6 + 6 + 7 + 4 + 64 + 448 + 61 + 64 + 64 + 6 + 2 + 40 + 2 + 40 + 2 + 40 + 2 + 40 + 2 + 40) = pX 47 107 [.ref 0, .int 5] [.ref 33, .int 5, .ref 1] (va_up M37 33 (.inr (1, [.null, .int 0]))) 34 (S + 6 + 4 + 5 + 6 + 6 + 6 + 7 + 280 + 40 + 40 + 3 + 6 + 6 + 6 + 7 + 4 + 64 + 448 + 61 + 64 + 64 + 6 + 2 + 40 + 2 + 40 + 2 + 40 + 2 + 40 + 2 + 40 + 2) := x_new (ci := 1) (k := 2) (show pm_in 47 104 = some (.new 9, 3) from by decide +kernel) (by decide +kernel) rfl rfl (by decide +kernel)
  obtain ⟨M38, e38⟩ : ∃ m : pm_M, m = va_up M37 33 (.inr (1, [.null, .int 0])) := ⟨_, rfl⟩
  rw [← e38] at q118
  refine q118.trans ?_
  have f38_0 : M38 0 = .inr (4, [.ref 1, .ref 2, .ref 3, .ref 11, .ref 12, .ref 16, .ref 20, .ref 21, .ref 22, .int 0, .int 0, .long 0, .long 1]) := by rw [e38, vn (show (0 : Nat) ≠ 33 by decide)]; exact f37_0
  have f38_1 : M38 1 = .inl (2, 6, .inr (.inr (.inr (.inr (va_up (va_up (va_up (va_up (va_up (fun _ => none) 0 (some 23)) 1 (some 25)) 2 (some 27)) 3 (some 29)) 4 (some 31)))))) := by rw [e38, vn (show (1 : Nat) ≠ 33 by decide)]; exact f37_1
  have f38_2 : M38 2 = .inl (2, 4, .inr (.inr (.inr (.inr (fun _ => none))))) := by rw [e38, vn (show (2 : Nat) ≠ 33 by decide)]; exact f37_2
  have f38_3 : M38 3 = .inr (0, [.ref 4, .ref 8, .ref 9, .ref 10, .int 0]) := by rw [e38, vn (show (3 : Nat) ≠ 33 by decide)]; exact f37_3
  have f38_11 : M38 11 = .inl (3, 3, .inr (.inr (.inr (.inr (fun _ => none))))) := by rw [e38, vn (show (11 : Nat) ≠ 33 by decide)]; exact f37_11
  have f38_12 : M38 12 = .inr (3, [.ref 13, .ref 14, .ref 15, .int 0, .int 0, .int 0]) := by rw [e38, vn (show (12 : Nat) ≠ 33 by decide)]; exact f37_12
  have f38_16 : M38 16 = .inr (2, [.ref 17, .ref 18, .ref 19, .int 0]) := by rw [e38, vn (show (16 : Nat) ≠ 33 by decide)]; exact f37_16
  have f38_33 : M38 33 = .inr (1, [.null, .int 0]) := by rw [e38, vs]
  refine Eq.trans (x_dup (show pm_in 47 107 = some (.dup, 1) from by decide +kernel) rfl) ?_
  refine Eq.trans (x_bipush (v := 40) (show pm_in 47 108 = some (.bipush 40, 2) from by decide +kernel) (by decide)) ?_
  have q121 : pX 47 110 [.ref 0, .int 5] [.int 40, .ref 33, .ref 33, .int 5, .ref 1] M38 34 (S + 6 + 4 + 5 + 6 + 6 + 6 + 7 + 280 + 40 + 40 + 3 + 6 + 6 + 6 + 7 + 4 + 64 + 448 + 61 + 64 + 64 + 6 + 2 + 40 + 2 + 40 + 2 + 40 + 2 + 40 + 2 + 40 + 2) = pX 47 113 [.ref 0, .int 5] [.ref 33, .int 5, .ref 1] (va_up (va_up (va_up M38 33 (.inr (1, [.null, .int (-1)]))) 34 (.inl (0, 40, .inl (fun _ => 0)))) 33 (.inr (1, [.ref 34, .int (-1)]))) 35 (S + 6 + 4 + 5 + 6 + 6 + 6 + 7 + 280 + 40 + 40 + 3 + 6 + 6 + 6 + 7 + 4 + 64 + 448 + 61 + 64 + 64 + 6 + 2 + 40 + 2 + 40 + 2 + 40 + 2 + 40 + 2 + 40 + 2 + 40) := x_callI (y' := 17) (k := 1) (kd := 2) (b := 33) (as := [.int 40]) (st' := [.ref 33, .int 5, .ref 1]) (show pm_in 47 110 = some (.invokespecial 57, 3) from by decide +kernel) (by decide +kernel) (by decide) rfl rfl (by decide +kernel) (Nat.le_of_ble_eq_true rfl) (by decide +kernel) (by decide +kernel) rfl (by decide +kernel) (by decide +kernel) (ini17_33 (M := M38) (S := S + 6 + 4 + 5 + 6 + 6 + 6 + 7 + 280 + 40 + 40 + 3 + 6 + 6 + 6 + 7 + 4 + 64 + 448 + 61 + 64 + 64 + 6 + 2 + 40 + 2 + 40 + 2 + 40 + 2 + 40 + 2 + 40 + 2) f38_33)
  obtain ⟨M39, e39⟩ : ∃ m : pm_M, m = va_up (va_up (va_up M38 33 (.inr (1, [.null, .int (-1)]))) 34 (.inl (0, 40, .inl (fun _ => 0)))) 33 (.inr (1, [.ref 34, .int (-1)])) := ⟨_, rfl⟩
  rw [← e39] at q121
  refine q121.trans ?_
  have f39_0 : M39 0 = .inr (4, [.ref 1, .ref 2, .ref 3, .ref 11, .ref 12, .ref 16, .ref 20, .ref 21, .ref 22, .int 0, .int 0, .long 0, .long 1]) := by rw [e39, vn (show (0 : Nat) ≠ 33 by decide), vn (show (0 : Nat) ≠ 34 by decide), vn (show (0 : Nat) ≠ 33 by decide)]; exact f38_0
  have f39_1 : M39 1 = .inl (2, 6, .inr (.inr (.inr (.inr (va_up (va_up (va_up (va_up (va_up (fun _ => none) 0 (some 23)) 1 (some 25)) 2 (some 27)) 3 (some 29)) 4 (some 31)))))) := by rw [e39, vn (show (1 : Nat) ≠ 33 by decide), vn (show (1 : Nat) ≠ 34 by decide), vn (show (1 : Nat) ≠ 33 by decide)]; exact f38_1
  have f39_2 : M39 2 = .inl (2, 4, .inr (.inr (.inr (.inr (fun _ => none))))) := by rw [e39, vn (show (2 : Nat) ≠ 33 by decide), vn (show (2 : Nat) ≠ 34 by decide), vn (show (2 : Nat) ≠ 33 by decide)]; exact f38_2
  have f39_3 : M39 3 = .inr (0, [.ref 4, .ref 8, .ref 9, .ref 10, .int 0]) := by rw [e39, vn (show (3 : Nat) ≠ 33 by decide), vn (show (3 : Nat) ≠ 34 by decide), vn (show (3 : Nat) ≠ 33 by decide)]; exact f38_3
  have f39_11 : M39 11 = .inl (3, 3, .inr (.inr (.inr (.inr (fun _ => none))))) := by rw [e39, vn (show (11 : Nat) ≠ 33 by decide), vn (show (11 : Nat) ≠ 34 by decide), vn (show (11 : Nat) ≠ 33 by decide)]; exact f38_11
  have f39_12 : M39 12 = .inr (3, [.ref 13, .ref 14, .ref 15, .int 0, .int 0, .int 0]) := by rw [e39, vn (show (12 : Nat) ≠ 33 by decide), vn (show (12 : Nat) ≠ 34 by decide), vn (show (12 : Nat) ≠ 33 by decide)]; exact f38_12
  have f39_16 : M39 16 = .inr (2, [.ref 17, .ref 18, .ref 19, .int 0]) := by rw [e39, vn (show (16 : Nat) ≠ 33 by decide), vn (show (16 : Nat) ≠ 34 by decide), vn (show (16 : Nat) ≠ 33 by decide)]; exact f38_16
  have f39_33 : M39 33 = .inr (1, [.ref 34, .int (-1)]) := by rw [e39, vs]
  have q122 : pX 47 113 [.ref 0, .int 5] [.ref 33, .int 5, .ref 1] M39 35 (S + 6 + 4 + 5 + 6 + 6 + 6 + 7 + 280 + 40 + 40 + 3 + 6 + 6 + 6 + 7 + 4 + 64 + 448 + 61 + 64 + 64 + 6 + 2 + 40 + 2 + 40 + 2 + 40 + 2 + 40 + 2 + 40 + 2 + 40) = pX 47 114 [.ref 0, .int 5] [] (va_up M39 1 (.inl (2, 6, .inr (.inr (.inr (.inr (va_up (va_up (va_up (va_up (va_up (va_up (fun _ => none) 0 (some 23)) 1 (some 25)) 2 (some 27)) 3 (some 29)) 4 (some 31)) 5 (some 33)))))))) 35 (S + 6 + 4 + 5 + 6 + 6 + 6 + 7 + 280 + 40 + 40 + 3 + 6 + 6 + 6 + 7 + 4 + 64 + 448 + 61 + 64 + 64 + 6 + 2 + 40 + 2 + 40 + 2 + 40 + 2 + 40 + 2 + 40 + 2 + 40) := x_aast (ci := 1) (n := 6) (show pm_in 47 113 = some (.aastore, 1) from by decide +kernel) f39_1 f39_33 (by decide) (by decide) (Or.inl ⟨rfl, rfl⟩) (ib (j := 5) (n := 6) (by decide) (by decide))
  obtain ⟨M40, e40⟩ : ∃ m : pm_M, m = va_up M39 1 (.inl (2, 6, .inr (.inr (.inr (.inr (va_up (va_up (va_up (va_up (va_up (va_up (fun _ => none) 0 (some 23)) 1 (some 25)) 2 (some 27)) 3 (some 29)) 4 (some 31)) 5 (some 33))))))) := ⟨_, rfl⟩
  rw [← e40] at q122
  refine q122.trans ?_
  have f40_0 : M40 0 = .inr (4, [.ref 1, .ref 2, .ref 3, .ref 11, .ref 12, .ref 16, .ref 20, .ref 21, .ref 22, .int 0, .int 0, .long 0, .long 1]) := by rw [e40, vn (show (0 : Nat) ≠ 1 by decide)]; exact f39_0
  have f40_1 : M40 1 = .inl (2, 6, .inr (.inr (.inr (.inr (va_up (va_up (va_up (va_up (va_up (va_up (fun _ => none) 0 (some 23)) 1 (some 25)) 2 (some 27)) 3 (some 29)) 4 (some 31)) 5 (some 33)))))) := by rw [e40, vs]
  have f40_2 : M40 2 = .inl (2, 4, .inr (.inr (.inr (.inr (fun _ => none))))) := by rw [e40, vn (show (2 : Nat) ≠ 1 by decide)]; exact f39_2
  have f40_3 : M40 3 = .inr (0, [.ref 4, .ref 8, .ref 9, .ref 10, .int 0]) := by rw [e40, vn (show (3 : Nat) ≠ 1 by decide)]; exact f39_3
  have f40_11 : M40 11 = .inl (3, 3, .inr (.inr (.inr (.inr (fun _ => none))))) := by rw [e40, vn (show (11 : Nat) ≠ 1 by decide)]; exact f39_11
  have f40_12 : M40 12 = .inr (3, [.ref 13, .ref 14, .ref 15, .int 0, .int 0, .int 0]) := by rw [e40, vn (show (12 : Nat) ≠ 1 by decide)]; exact f39_12
  have f40_16 : M40 16 = .inr (2, [.ref 17, .ref 18, .ref 19, .int 0]) := by rw [e40, vn (show (16 : Nat) ≠ 1 by decide)]; exact f39_16
  refine Eq.trans (x_iinc (x := 5) (w := 1) (ls' := [.ref 0, .int 6]) (show pm_in 47 114 = some (.iinc 1 1, 3) from by decide +kernel) rfl (by decide) (congrArg (fun z : Int32 => ([.ref 0, .int z] : List Value)) (show (5 : Int32) + 1 = 6 from by decide))) ?_
  refine Eq.trans (x_goto (t := 93) (show pm_in 47 117 = some (.goto (-24), 3) from by decide +kernel) (by decide)) ?_
  refine Eq.trans (x_iload_n (show pm_in 47 93 = some (.iload_n 1, 1) from by decide +kernel) rfl) ?_
  refine Eq.trans (x_bipush (v := 6) (show pm_in 47 94 = some (.bipush 6, 2) from by decide +kernel) (by decide)) ?_
  refine Eq.trans ((x_icge (t := 120) (show pm_in 47 96 = some (.if_icmp .ge 24, 3) from by decide +kernel) (by decide)).trans (if_neg (by decide))) ?_
  refine Eq.trans (x_iconst (v := 0) (show pm_in 47 120 = some (.iconst 0, 1) from by decide +kernel) (by decide)) ?_
  refine Eq.trans (x_istore_n (ls' := [.ref 0, .int 0]) (show pm_in 47 121 = some (.istore_n 1, 1) from by decide +kernel) (by decide) rfl) ?_
  refine Eq.trans (x_iload_n (show pm_in 47 122 = some (.iload_n 1, 1) from by decide +kernel) rfl) ?_
  refine Eq.trans (x_iconst (v := 4) (show pm_in 47 123 = some (.iconst 4, 1) from by decide +kernel) (by decide)) ?_
  refine Eq.trans ((x_icge (t := 148) (show pm_in 47 124 = some (.if_icmp .ge 24, 3) from by decide +kernel) (by decide)).trans (if_pos (by decide))) ?_
  refine Eq.trans (x_aload_n (show pm_in 47 127 = some (.aload_n 0, 1) from by decide +kernel) rfl) ?_
  refine Eq.trans (x_getf (ci := 4) (k := 1) (fs := [.ref 1, .ref 2, .ref 3, .ref 11, .ref 12, .ref 16, .ref 20, .ref 21, .ref 22, .int 0, .int 0, .long 0, .long 1]) (v := .ref 2) (show pm_in 47 128 = some (.getfield 15, 3) from by decide +kernel) (by decide +kernel) f40_0 (by decide) rfl) ?_
  refine Eq.trans (x_iload_n (show pm_in 47 131 = some (.iload_n 1, 1) from by decide +kernel) rfl) ?_
  have q136 : pX 47 132 [.ref 0, .int 0] [.int 0, .ref 2] M40 35 (S + 6 + 4 + 5 + 6 + 6 + 6 + 7 + 280 + 40 + 40 + 3 + 6 + 6 + 6 + 7 + 4 + 64 + 448 + 61 + 64 + 64 + 6 + 2 + 40 + 2 + 40 + 2 + 40 + 2 + 40 + 2 + 40 + 2 + 40) = pX 47 135 [.ref 0, .int 0] [.ref 35, .int 0, .ref 2] (va_up M40 35 (.inr (1, [.null, .int 0]))) 36 (S + 6 + 4 + 5 + 6 + 6 + 6 + 7 + 280 + 40 + 40 + 3 + 6 + 6 + 6 + 7 + 4 + 64 + 448 + 61 + 64 + 64 + 6 + 2 + 40 + 2 + 40 + 2 + 40 + 2 + 40 + 2 + 40 + 2 + 40 + 2) := x_new (ci := 1) (k := 2) (show pm_in 47 132 = some (.new 9, 3) from by decide +kernel) (by decide +kernel) rfl rfl (by decide +kernel)
  obtain ⟨M41, e41⟩ : ∃ m : pm_M, m = va_up M40 35 (.inr (1, [.null, .int 0])) := ⟨_, rfl⟩
  rw [← e41] at q136
  refine q136.trans ?_
  have f41_0 : M41 0 = .inr (4, [.ref 1, .ref 2, .ref 3, .ref 11, .ref 12, .ref 16, .ref 20, .ref 21, .ref 22, .int 0, .int 0, .long 0, .long 1]) := by rw [e41, vn (show (0 : Nat) ≠ 35 by decide)]; exact f40_0
  have f41_1 : M41 1 = .inl (2, 6, .inr (.inr (.inr (.inr (va_up (va_up (va_up (va_up (va_up (va_up (fun _ => none) 0 (some 23)) 1 (some 25)) 2 (some 27)) 3 (some 29)) 4 (some 31)) 5 (some 33)))))) := by rw [e41, vn (show (1 : Nat) ≠ 35 by decide)]; exact f40_1
  have f41_2 : M41 2 = .inl (2, 4, .inr (.inr (.inr (.inr (fun _ => none))))) := by rw [e41, vn (show (2 : Nat) ≠ 35 by decide)]; exact f40_2
  have f41_3 : M41 3 = .inr (0, [.ref 4, .ref 8, .ref 9, .ref 10, .int 0]) := by rw [e41, vn (show (3 : Nat) ≠ 35 by decide)]; exact f40_3
  have f41_11 : M41 11 = .inl (3, 3, .inr (.inr (.inr (.inr (fun _ => none))))) := by rw [e41, vn (show (11 : Nat) ≠ 35 by decide)]; exact f40_11
  have f41_12 : M41 12 = .inr (3, [.ref 13, .ref 14, .ref 15, .int 0, .int 0, .int 0]) := by rw [e41, vn (show (12 : Nat) ≠ 35 by decide)]; exact f40_12
  have f41_16 : M41 16 = .inr (2, [.ref 17, .ref 18, .ref 19, .int 0]) := by rw [e41, vn (show (16 : Nat) ≠ 35 by decide)]; exact f40_16
  have f41_35 : M41 35 = .inr (1, [.null, .int 0]) := by rw [e41, vs]
  refine Eq.trans (x_dup (show pm_in 47 135 = some (.dup, 1) from by decide +kernel) rfl) ?_
  refine Eq.trans (x_bipush (v := 60) (show pm_in 47 136 = some (.bipush 60, 2) from by decide +kernel) (by decide)) ?_
  have q139 : pX 47 138 [.ref 0, .int 0] [.int 60, .ref 35, .ref 35, .int 0, .ref 2] M41 36 (S + 6 + 4 + 5 + 6 + 6 + 6 + 7 + 280 + 40 + 40 + 3 + 6 + 6 + 6 + 7 + 4 + 64 + 448 + 61 + 64 + 64 + 6 + 2 + 40 + 2 + 40 + 2 + 40 + 2 + 40 + 2 + 40 + 2 + 40 + 2) = pX 47 141 [.ref 0, .int 0] [.ref 35, .int 0, .ref 2] (va_up (va_up (va_up M41 35 (.inr (1, [.null, .int (-1)]))) 36 (.inl (0, 60, .inl (fun _ => 0)))) 35 (.inr (1, [.ref 36, .int (-1)]))) 37 (S + 6 + 4 + 5 + 6 + 6 + 6 + 7 + 280 + 40 + 40 + 3 + 6 + 6 + 6 + 7 + 4 + 64 + 448 + 61 + 64 + 64 + 6 + 2 + 40 + 2 + 40 + 2 + 40 + 2 + 40 + 2 + 40 + 2 + 40 + 2 + 60) := x_callI (y' := 17) (k := 1) (kd := 2) (b := 35) (as := [.int 60]) (st' := [.ref 35, .int 0, .ref 2]) (show pm_in 47 138 = some (.invokespecial 57, 3) from by decide +kernel) (by decide +kernel) (by decide) rfl rfl (by decide +kernel) (Nat.le_of_ble_eq_true rfl) (by decide +kernel) (by decide +kernel) rfl (by decide +kernel) (by decide +kernel) (ini17_35 (M := M41) (S := S + 6 + 4 + 5 + 6 + 6 + 6 + 7 + 280 + 40 + 40 + 3 + 6 + 6 + 6 + 7 + 4 + 64 + 448 + 61 + 64 + 64 + 6 + 2 + 40 + 2 + 40 + 2 + 40 + 2 + 40 + 2 + 40 + 2 + 40 + 2) f41_35)
  obtain ⟨M42, e42⟩ : ∃ m : pm_M, m = va_up (va_up (va_up M41 35 (.inr (1, [.null, .int (-1)]))) 36 (.inl (0, 60, .inl (fun _ => 0)))) 35 (.inr (1, [.ref 36, .int (-1)])) := ⟨_, rfl⟩
  rw [← e42] at q139
  refine q139.trans ?_
  have f42_0 : M42 0 = .inr (4, [.ref 1, .ref 2, .ref 3, .ref 11, .ref 12, .ref 16, .ref 20, .ref 21, .ref 22, .int 0, .int 0, .long 0, .long 1]) := by rw [e42, vn (show (0 : Nat) ≠ 35 by decide), vn (show (0 : Nat) ≠ 36 by decide), vn (show (0 : Nat) ≠ 35 by decide)]; exact f41_0
  have f42_1 : M42 1 = .inl (2, 6, .inr (.inr (.inr (.inr (va_up (va_up (va_up (va_up (va_up (va_up (fun _ => none) 0 (some 23)) 1 (some 25)) 2 (some 27)) 3 (some 29)) 4 (some 31)) 5 (some 33)))))) := by rw [e42, vn (show (1 : Nat) ≠ 35 by decide), vn (show (1 : Nat) ≠ 36 by decide), vn (show (1 : Nat) ≠ 35 by decide)]; exact f41_1
  have f42_2 : M42 2 = .inl (2, 4, .inr (.inr (.inr (.inr (fun _ => none))))) := by rw [e42, vn (show (2 : Nat) ≠ 35 by decide), vn (show (2 : Nat) ≠ 36 by decide), vn (show (2 : Nat) ≠ 35 by decide)]; exact f41_2
  have f42_3 : M42 3 = .inr (0, [.ref 4, .ref 8, .ref 9, .ref 10, .int 0]) := by rw [e42, vn (show (3 : Nat) ≠ 35 by decide), vn (show (3 : Nat) ≠ 36 by decide), vn (show (3 : Nat) ≠ 35 by decide)]; exact f41_3
  have f42_11 : M42 11 = .inl (3, 3, .inr (.inr (.inr (.inr (fun _ => none))))) := by rw [e42, vn (show (11 : Nat) ≠ 35 by decide), vn (show (11 : Nat) ≠ 36 by decide), vn (show (11 : Nat) ≠ 35 by decide)]; exact f41_11
  have f42_12 : M42 12 = .inr (3, [.ref 13, .ref 14, .ref 15, .int 0, .int 0, .int 0]) := by rw [e42, vn (show (12 : Nat) ≠ 35 by decide), vn (show (12 : Nat) ≠ 36 by decide), vn (show (12 : Nat) ≠ 35 by decide)]; exact f41_12
  have f42_16 : M42 16 = .inr (2, [.ref 17, .ref 18, .ref 19, .int 0]) := by rw [e42, vn (show (16 : Nat) ≠ 35 by decide), vn (show (16 : Nat) ≠ 36 by decide), vn (show (16 : Nat) ≠ 35 by decide)]; exact f41_16
  have f42_35 : M42 35 = .inr (1, [.ref 36, .int (-1)]) := by rw [e42, vs]
  have q140 : pX 47 141 [.ref 0, .int 0] [.ref 35, .int 0, .ref 2] M42 37 (S + 6 + 4 + 5 + 6 + 6 + 6 + 7 + 280 + 40 + 40 + 3 + 6 + 6 + 6 + 7 + 4 + 64 + 448 + 61 + 64 + 64 + 6 + 2 + 40 + 2 + 40 + 2 + 40 + 2 + 40 + 2 + 40 + 2 + 40 + 2 + 60) = pX 47 142 [.ref 0, .int 0] [] (va_up M42 2 (.inl (2, 4, .inr (.inr (.inr (.inr (va_up (fun _ => none) 0 (some 35)))))))) 37 (S + 6 + 4 + 5 + 6 + 6 + 6 + 7 + 280 + 40 + 40 + 3 + 6 + 6 + 6 + 7 + 4 + 64 + 448 + 61 + 64 + 64 + 6 + 2 + 40 + 2 + 40 + 2 + 40 + 2 + 40 + 2 + 40 + 2 + 40 + 2 + 60) := x_aast (ci := 1) (n := 4) (show pm_in 47 141 = some (.aastore, 1) from by decide +kernel) f42_2 f42_35 (by decide) (by decide) (Or.inl ⟨rfl, rfl⟩) (ib (j := 0) (n := 4) (by decide) (by decide))
  obtain ⟨M43, e43⟩ : ∃ m : pm_M, m = va_up M42 2 (.inl (2, 4, .inr (.inr (.inr (.inr (va_up (fun _ => none) 0 (some 35))))))) := ⟨_, rfl⟩
  rw [← e43] at q140
  refine q140.trans ?_
  have f43_0 : M43 0 = .inr (4, [.ref 1, .ref 2, .ref 3, .ref 11, .ref 12, .ref 16, .ref 20, .ref 21, .ref 22, .int 0, .int 0, .long 0, .long 1]) := by rw [e43, vn (show (0 : Nat) ≠ 2 by decide)]; exact f42_0
  have f43_1 : M43 1 = .inl (2, 6, .inr (.inr (.inr (.inr (va_up (va_up (va_up (va_up (va_up (va_up (fun _ => none) 0 (some 23)) 1 (some 25)) 2 (some 27)) 3 (some 29)) 4 (some 31)) 5 (some 33)))))) := by rw [e43, vn (show (1 : Nat) ≠ 2 by decide)]; exact f42_1
  have f43_2 : M43 2 = .inl (2, 4, .inr (.inr (.inr (.inr (va_up (fun _ => none) 0 (some 35)))))) := by rw [e43, vs]
  have f43_3 : M43 3 = .inr (0, [.ref 4, .ref 8, .ref 9, .ref 10, .int 0]) := by rw [e43, vn (show (3 : Nat) ≠ 2 by decide)]; exact f42_3
  have f43_11 : M43 11 = .inl (3, 3, .inr (.inr (.inr (.inr (fun _ => none))))) := by rw [e43, vn (show (11 : Nat) ≠ 2 by decide)]; exact f42_11
  have f43_12 : M43 12 = .inr (3, [.ref 13, .ref 14, .ref 15, .int 0, .int 0, .int 0]) := by rw [e43, vn (show (12 : Nat) ≠ 2 by decide)]; exact f42_12
  have f43_16 : M43 16 = .inr (2, [.ref 17, .ref 18, .ref 19, .int 0]) := by rw [e43, vn (show (16 : Nat) ≠ 2 by decide)]; exact f42_16
  refine Eq.trans (x_iinc (x := 0) (w := 1) (ls' := [.ref 0, .int 1]) (show pm_in 47 142 = some (.iinc 1 1, 3) from by decide +kernel) rfl (by decide) (congrArg (fun z : Int32 => ([.ref 0, .int z] : List Value)) (show (0 : Int32) + 1 = 1 from by decide))) ?_
  refine Eq.trans (x_goto (t := 122) (show pm_in 47 145 = some (.goto (-23), 3) from by decide +kernel) (by decide)) ?_
  refine Eq.trans (x_iload_n (show pm_in 47 122 = some (.iload_n 1, 1) from by decide +kernel) rfl) ?_
  refine Eq.trans (x_iconst (v := 4) (show pm_in 47 123 = some (.iconst 4, 1) from by decide +kernel) (by decide)) ?_
  refine Eq.trans ((x_icge (t := 148) (show pm_in 47 124 = some (.if_icmp .ge 24, 3) from by decide +kernel) (by decide)).trans (if_pos (by decide))) ?_
  refine Eq.trans (x_aload_n (show pm_in 47 127 = some (.aload_n 0, 1) from by decide +kernel) rfl) ?_
  refine Eq.trans (x_getf (ci := 4) (k := 1) (fs := [.ref 1, .ref 2, .ref 3, .ref 11, .ref 12, .ref 16, .ref 20, .ref 21, .ref 22, .int 0, .int 0, .long 0, .long 1]) (v := .ref 2) (show pm_in 47 128 = some (.getfield 15, 3) from by decide +kernel) (by decide +kernel) f43_0 (by decide) rfl) ?_
  refine Eq.trans (x_iload_n (show pm_in 47 131 = some (.iload_n 1, 1) from by decide +kernel) rfl) ?_
  have q149 : pX 47 132 [.ref 0, .int 1] [.int 1, .ref 2] M43 37 (S + 6 + 4 + 5 + 6 + 6 + 6 + 7 + 280 + 40 + 40 + 3 + 6 + 6 + 6 + 7 + 4 + 64 + 448 + 61 + 64 + 64 + 6 + 2 + 40 + 2 + 40 + 2 + 40 + 2 + 40 + 2 + 40 + 2 + 40 + 2 + 60) = pX 47 135 [.ref 0, .int 1] [.ref 37, .int 1, .ref 2] (va_up M43 37 (.inr (1, [.null, .int 0]))) 38 (S + 6 + 4 + 5 + 6 + 6 + 6 + 7 + 280 + 40 + 40 + 3 + 6 + 6 + 6 + 7 + 4 + 64 + 448 + 61 + 64 + 64 + 6 + 2 + 40 + 2 + 40 + 2 + 40 + 2 + 40 + 2 + 40 + 2 + 40 + 2 + 60 + 2) := x_new (ci := 1) (k := 2) (show pm_in 47 132 = some (.new 9, 3) from by decide +kernel) (by decide +kernel) rfl rfl (by decide +kernel)
  obtain ⟨M44, e44⟩ : ∃ m : pm_M, m = va_up M43 37 (.inr (1, [.null, .int 0])) := ⟨_, rfl⟩
  rw [← e44] at q149
  refine q149.trans ?_
  have f44_0 : M44 0 = .inr (4, [.ref 1, .ref 2, .ref 3, .ref 11, .ref 12, .ref 16, .ref 20, .ref 21, .ref 22, .int 0, .int 0, .long 0, .long 1]) := by rw [e44, vn (show (0 : Nat) ≠ 37 by decide)]; exact f43_0
  have f44_1 : M44 1 = .inl (2, 6, .inr (.inr (.inr (.inr (va_up (va_up (va_up (va_up (va_up (va_up (fun _ => none) 0 (some 23)) 1 (some 25)) 2 (some 27)) 3 (some 29)) 4 (some 31)) 5 (some 33)))))) := by rw [e44, vn (show (1 : Nat) ≠ 37 by decide)]; exact f43_1
  have f44_2 : M44 2 = .inl (2, 4, .inr (.inr (.inr (.inr (va_up (fun _ => none) 0 (some 35)))))) := by rw [e44, vn (show (2 : Nat) ≠ 37 by decide)]; exact f43_2
  have f44_3 : M44 3 = .inr (0, [.ref 4, .ref 8, .ref 9, .ref 10, .int 0]) := by rw [e44, vn (show (3 : Nat) ≠ 37 by decide)]; exact f43_3
  have f44_11 : M44 11 = .inl (3, 3, .inr (.inr (.inr (.inr (fun _ => none))))) := by rw [e44, vn (show (11 : Nat) ≠ 37 by decide)]; exact f43_11
  have f44_12 : M44 12 = .inr (3, [.ref 13, .ref 14, .ref 15, .int 0, .int 0, .int 0]) := by rw [e44, vn (show (12 : Nat) ≠ 37 by decide)]; exact f43_12
  have f44_16 : M44 16 = .inr (2, [.ref 17, .ref 18, .ref 19, .int 0]) := by rw [e44, vn (show (16 : Nat) ≠ 37 by decide)]; exact f43_16
  have f44_37 : M44 37 = .inr (1, [.null, .int 0]) := by rw [e44, vs]
  refine Eq.trans (x_dup (show pm_in 47 135 = some (.dup, 1) from by decide +kernel) rfl) ?_
  refine Eq.trans (x_bipush (v := 60) (show pm_in 47 136 = some (.bipush 60, 2) from by decide +kernel) (by decide)) ?_
  have q152 : pX 47 138 [.ref 0, .int 1] [.int 60, .ref 37, .ref 37, .int 1, .ref 2] M44 38 (S + 6 + 4 + 5 + 6 + 6 + 6 + 7 + 280 + 40 + 40 + 3 + 6 + 6 + 6 + 7 + 4 + 64 + 448 + 61 + 64 + 64 + 6 + 2 + 40 + 2 + 40 + 2 + 40 + 2 + 40 + 2 + 40 + 2 + 40 + 2 + 60 + 2) = pX 47 141 [.ref 0, .int 1] [.ref 37, .int 1, .ref 2] (va_up (va_up (va_up M44 37 (.inr (1, [.null, .int (-1)]))) 38 (.inl (0, 60, .inl (fun _ => 0)))) 37 (.inr (1, [.ref 38, .int (-1)]))) 39 (S + 6 + 4 + 5 + 6 + 6 + 6 + 7 + 280 + 40 + 40 + 3 + 6 + 6 + 6 + 7 + 4 + 64 + 448 + 61 + 64 + 64 + 6 + 2 + 40 + 2 + 40 + 2 + 40 + 2 + 40 + 2 + 40 + 2 + 40 + 2 + 60 + 2 + 60) := x_callI (y' := 17) (k := 1) (kd := 2) (b := 37) (as := [.int 60]) (st' := [.ref 37, .int 1, .ref 2]) (show pm_in 47 138 = some (.invokespecial 57, 3) from by decide +kernel) (by decide +kernel) (by decide) rfl rfl (by decide +kernel) (Nat.le_of_ble_eq_true rfl) (by decide +kernel) (by decide +kernel) rfl (by decide +kernel) (by decide +kernel) (ini17_37 (M := M44) (S := S + 6 + 4 + 5 + 6 + 6 + 6 + 7 + 280 + 40 + 40 + 3 + 6 + 6 + 6 + 7 + 4 + 64 + 448 + 61 + 64 + 64 + 6 + 2 + 40 + 2 + 40 + 2 + 40 + 2 + 40 + 2 + 40 + 2 + 40 + 2 + 60 + 2) f44_37)
  obtain ⟨M45, e45⟩ : ∃ m : pm_M, m = va_up (va_up (va_up M44 37 (.inr (1, [.null, .int (-1)]))) 38 (.inl (0, 60, .inl (fun _ => 0)))) 37 (.inr (1, [.ref 38, .int (-1)])) := ⟨_, rfl⟩
  rw [← e45] at q152
  refine q152.trans ?_
  have f45_0 : M45 0 = .inr (4, [.ref 1, .ref 2, .ref 3, .ref 11, .ref 12, .ref 16, .ref 20, .ref 21, .ref 22, .int 0, .int 0, .long 0, .long 1]) := by rw [e45, vn (show (0 : Nat) ≠ 37 by decide), vn (show (0 : Nat) ≠ 38 by decide), vn (show (0 : Nat) ≠ 37 by decide)]; exact f44_0
  have f45_1 : M45 1 = .inl (2, 6, .inr (.inr (.inr (.inr (va_up (va_up (va_up (va_up (va_up (va_up (fun _ => none) 0 (some 23)) 1 (some 25)) 2 (some 27)) 3 (some 29)) 4 (some 31)) 5 (some 33)))))) := by rw [e45, vn (show (1 : Nat) ≠ 37 by decide), vn (show (1 : Nat) ≠ 38 by decide), vn (show (1 : Nat) ≠ 37 by decide)]; exact f44_1
  have f45_2 : M45 2 = .inl (2, 4, .inr (.inr (.inr (.inr (va_up (fun _ => none) 0 (some 35)))))) := by rw [e45, vn (show (2 : Nat) ≠ 37 by decide), vn (show (2 : Nat) ≠ 38 by decide), vn (show (2 : Nat) ≠ 37 by decide)]; exact f44_2
  have f45_3 : M45 3 = .inr (0, [.ref 4, .ref 8, .ref 9, .ref 10, .int 0]) := by rw [e45, vn (show (3 : Nat) ≠ 37 by decide), vn (show (3 : Nat) ≠ 38 by decide), vn (show (3 : Nat) ≠ 37 by decide)]; exact f44_3
  have f45_11 : M45 11 = .inl (3, 3, .inr (.inr (.inr (.inr (fun _ => none))))) := by rw [e45, vn (show (11 : Nat) ≠ 37 by decide), vn (show (11 : Nat) ≠ 38 by decide), vn (show (11 : Nat) ≠ 37 by decide)]; exact f44_11
  have f45_12 : M45 12 = .inr (3, [.ref 13, .ref 14, .ref 15, .int 0, .int 0, .int 0]) := by rw [e45, vn (show (12 : Nat) ≠ 37 by decide), vn (show (12 : Nat) ≠ 38 by decide), vn (show (12 : Nat) ≠ 37 by decide)]; exact f44_12
  have f45_16 : M45 16 = .inr (2, [.ref 17, .ref 18, .ref 19, .int 0]) := by rw [e45, vn (show (16 : Nat) ≠ 37 by decide), vn (show (16 : Nat) ≠ 38 by decide), vn (show (16 : Nat) ≠ 37 by decide)]; exact f44_16
  have f45_37 : M45 37 = .inr (1, [.ref 38, .int (-1)]) := by rw [e45, vs]
  have q153 : pX 47 141 [.ref 0, .int 1] [.ref 37, .int 1, .ref 2] M45 39 (S + 6 + 4 + 5 + 6 + 6 + 6 + 7 + 280 + 40 + 40 + 3 + 6 + 6 + 6 + 7 + 4 + 64 + 448 + 61 + 64 + 64 + 6 + 2 + 40 + 2 + 40 + 2 + 40 + 2 + 40 + 2 + 40 + 2 + 40 + 2 + 60 + 2 + 60) = pX 47 142 [.ref 0, .int 1] [] (va_up M45 2 (.inl (2, 4, .inr (.inr (.inr (.inr (va_up (va_up (fun _ => none) 0 (some 35)) 1 (some 37)))))))) 39 (S + 6 + 4 + 5 + 6 + 6 + 6 + 7 + 280 + 40 + 40 + 3 + 6 + 6 + 6 + 7 + 4 + 64 + 448 + 61 + 64 + 64 + 6 + 2 + 40 + 2 + 40 + 2 + 40 + 2 + 40 + 2 + 40 + 2 + 40 + 2 + 60 + 2 + 60) := x_aast (ci := 1) (n := 4) (show pm_in 47 141 = some (.aastore, 1) from by decide +kernel) f45_2 f45_37 (by decide) (by decide) (Or.inl ⟨rfl, rfl⟩) (ib (j := 1) (n := 4) (by decide) (by decide))
  obtain ⟨M46, e46⟩ : ∃ m : pm_M, m = va_up M45 2 (.inl (2, 4, .inr (.inr (.inr (.inr (va_up (va_up (fun _ => none) 0 (some 35)) 1 (some 37))))))) := ⟨_, rfl⟩
  rw [← e46] at q153
  refine q153.trans ?_
  have f46_0 : M46 0 = .inr (4, [.ref 1, .ref 2, .ref 3, .ref 11, .ref 12, .ref 16, .ref 20, .ref 21, .ref 22, .int 0, .int 0, .long 0, .long 1]) := by rw [e46, vn (show (0 : Nat) ≠ 2 by decide)]; exact f45_0
  have f46_1 : M46 1 = .inl (2, 6, .inr (.inr (.inr (.inr (va_up (va_up (va_up (va_up (va_up (va_up (fun _ => none) 0 (some 23)) 1 (some 25)) 2 (some 27)) 3 (some 29)) 4 (some 31)) 5 (some 33)))))) := by rw [e46, vn (show (1 : Nat) ≠ 2 by decide)]; exact f45_1
  have f46_2 : M46 2 = .inl (2, 4, .inr (.inr (.inr (.inr (va_up (va_up (fun _ => none) 0 (some 35)) 1 (some 37)))))) := by rw [e46, vs]
  have f46_3 : M46 3 = .inr (0, [.ref 4, .ref 8, .ref 9, .ref 10, .int 0]) := by rw [e46, vn (show (3 : Nat) ≠ 2 by decide)]; exact f45_3
  have f46_11 : M46 11 = .inl (3, 3, .inr (.inr (.inr (.inr (fun _ => none))))) := by rw [e46, vn (show (11 : Nat) ≠ 2 by decide)]; exact f45_11
  have f46_12 : M46 12 = .inr (3, [.ref 13, .ref 14, .ref 15, .int 0, .int 0, .int 0]) := by rw [e46, vn (show (12 : Nat) ≠ 2 by decide)]; exact f45_12
  have f46_16 : M46 16 = .inr (2, [.ref 17, .ref 18, .ref 19, .int 0]) := by rw [e46, vn (show (16 : Nat) ≠ 2 by decide)]; exact f45_16
  refine Eq.trans (x_iinc (x := 1) (w := 1) (ls' := [.ref 0, .int 2]) (show pm_in 47 142 = some (.iinc 1 1, 3) from by decide +kernel) rfl (by decide) (congrArg (fun z : Int32 => ([.ref 0, .int z] : List Value)) (show (1 : Int32) + 1 = 2 from by decide))) ?_
  refine Eq.trans (x_goto (t := 122) (show pm_in 47 145 = some (.goto (-23), 3) from by decide +kernel) (by decide)) ?_
  refine Eq.trans (x_iload_n (show pm_in 47 122 = some (.iload_n 1, 1) from by decide +kernel) rfl) ?_
  refine Eq.trans (x_iconst (v := 4) (show pm_in 47 123 = some (.iconst 4, 1) from by decide +kernel) (by decide)) ?_
  refine Eq.trans ((x_icge (t := 148) (show pm_in 47 124 = some (.if_icmp .ge 24, 3) from by decide +kernel) (by decide)).trans (if_pos (by decide))) ?_
  refine Eq.trans (x_aload_n (show pm_in 47 127 = some (.aload_n 0, 1) from by decide +kernel) rfl) ?_
  refine Eq.trans (x_getf (ci := 4) (k := 1) (fs := [.ref 1, .ref 2, .ref 3, .ref 11, .ref 12, .ref 16, .ref 20, .ref 21, .ref 22, .int 0, .int 0, .long 0, .long 1]) (v := .ref 2) (show pm_in 47 128 = some (.getfield 15, 3) from by decide +kernel) (by decide +kernel) f46_0 (by decide) rfl) ?_
  refine Eq.trans (x_iload_n (show pm_in 47 131 = some (.iload_n 1, 1) from by decide +kernel) rfl) ?_
  have q162 : pX 47 132 [.ref 0, .int 2] [.int 2, .ref 2] M46 39 (S + 6 + 4 + 5 + 6 + 6 + 6 + 7 + 280 + 40 + 40 + 3 + 6 + 6 + 6 + 7 + 4 + 64 + 448 + 61 + 64 + 64 + 6 + 2 + 40 + 2 + 40 + 2 + 40 + 2 + 40 + 2 + 40 + 2 + 40 + 2 + 60 + 2 + 60) = pX 47 135 [.ref 0, .int 2] [.ref 39, .int 2, .ref 2] (va_up M46 39 (.inr (1, [.null, .int 0]))) 40 (S + 6 + 4 + 5 + 6 + 6 + 6 + 7 + 280 + 40 + 40 + 3 + 6 + 6 + 6 + 7 + 4 + 64 + 448 + 61 + 64 + 64 + 6 + 2 + 40 + 2 + 40 + 2 + 40 + 2 + 40 + 2 + 40 + 2 + 40 + 2 + 60 + 2 + 60 + 2) := x_new (ci := 1) (k := 2) (show pm_in 47 132 = some (.new 9, 3) from by decide +kernel) (by decide +kernel) rfl rfl (by decide +kernel)
  obtain ⟨M47, e47⟩ : ∃ m : pm_M, m = va_up M46 39 (.inr (1, [.null, .int 0])) := ⟨_, rfl⟩
  rw [← e47] at q162
  refine q162.trans ?_
  have f47_0 : M47 0 = .inr (4, [.ref 1, .ref 2, .ref 3, .ref 11, .ref 12, .ref 16, .ref 20, .ref 21, .ref 22, .int 0, .int 0, .long 0, .long 1]) := by rw [e47, vn (show (0 : Nat) ≠ 39 by decide)]; exact f46_0
  have f47_1 : M47 1 = .inl (2, 6, .inr (.inr (.inr (.inr (va_up (va_up (va_up (va_up (va_up (va_up (fun _ => none) 0 (some 23)) 1 (some 25)) 2 (some 27)) 3 (some 29)) 4 (some 31)) 5 (some 33)))))) := by rw [e47, vn (show (1 : Nat) ≠ 39 by decide)]; exact f46_1
  have f47_2 : M47 2 = .inl (2, 4, .inr (.inr (.inr (.inr (va_up (va_up (fun _ => none) 0 (some 35)) 1 (some 37)))))) := by rw [e47, vn (show (2 : Nat) ≠ 39 by decide)]; exact f46_2
  have f47_3 : M47 3 = .inr (0, [.ref 4, .ref 8, .ref 9, .ref 10, .int 0]) := by rw [e47, vn (show (3 : Nat) ≠ 39 by decide)]; exact f46_3
  have f47_11 : M47 11 = .inl (3, 3, .inr (.inr (.inr (.inr (fun _ => none))))) := by rw [e47, vn (show (11 : Nat) ≠ 39 by decide)]; exact f46_11
  have f47_12 : M47 12 = .inr (3, [.ref 13, .ref 14, .ref 15, .int 0, .int 0, .int 0]) := by rw [e47, vn (show (12 : Nat) ≠ 39 by decide)]; exact f46_12
  have f47_16 : M47 16 = .inr (2, [.ref 17, .ref 18, .ref 19, .int 0]) := by rw [e47, vn (show (16 : Nat) ≠ 39 by decide)]; exact f46_16
  have f47_39 : M47 39 = .inr (1, [.null, .int 0]) := by rw [e47, vs]
  refine Eq.trans (x_dup (show pm_in 47 135 = some (.dup, 1) from by decide +kernel) rfl) ?_
  refine Eq.trans (x_bipush (v := 60) (show pm_in 47 136 = some (.bipush 60, 2) from by decide +kernel) (by decide)) ?_
  have q165 : pX 47 138 [.ref 0, .int 2] [.int 60, .ref 39, .ref 39, .int 2, .ref 2] M47 40 (S + 6 + 4 + 5 + 6 + 6 + 6 + 7 + 280 + 40 + 40 + 3 + 6 + 6 + 6 + 7 + 4 + 64 + 448 + 61 + 64 + 64 + 6 + 2 + 40 + 2 + 40 + 2 + 40 + 2 + 40 + 2 + 40 + 2 + 40 + 2 + 60 + 2 + 60 + 2) = pX 47 141 [.ref 0, .int 2] [.ref 39, .int 2, .ref 2] (va_up (va_up (va_up M47 39 (.inr (1, [.null, .int (-1)]))) 40 (.inl (0, 60, .inl (fun _ => 0)))) 39 (.inr (1, [.ref 40, .int (-1)]))) 41 (S + 6 + 4 + 5 + 6 + 6 + 6 + 7 + 280 + 40 + 40 + 3 + 6 + 6 + 6 + 7 + 4 + 64 + 448 + 61 + 64 + 64 + 6 + 2 + 40 + 2 + 40 + 2 + 40 + 2 + 40 + 2 + 40 + 2 + 40 + 2 + 60 + 2 + 60 + 2 + 60) := x_callI (y' := 17) (k := 1) (kd := 2) (b := 39) (as := [.int 60]) (st' := [.ref 39, .int 2, .ref 2]) (show pm_in 47 138 = some (.invokespecial 57, 3) from by decide +kernel) (by decide +kernel) (by decide) rfl rfl (by decide +kernel) (Nat.le_of_ble_eq_true rfl) (by decide +kernel) (by decide +kernel) rfl (by decide +kernel) (by decide +kernel) (ini17_39 (M := M47) (S := S + 6 + 4 + 5 + 6 + 6 + 6 + 7 + 280 + 40 + 40 + 3 + 6 + 6 + 6 + 7 + 4 + 64 + 448 + 61 + 64 + 64 + 6 + 2 + 40 + 2 + 40 + 2 + 40 + 2 + 40 + 2 + 40 + 2 + 40 + 2 + 60 + 2 + 60 + 2) f47_39)
  obtain ⟨M48, e48⟩ : ∃ m : pm_M, m = va_up (va_up (va_up M47 39 (.inr (1, [.null, .int (-1)]))) 40 (.inl (0, 60, .inl (fun _ => 0)))) 39 (.inr (1, [.ref 40, .int (-1)])) := ⟨_, rfl⟩
  rw [← e48] at q165
  refine q165.trans ?_
  have f48_0 : M48 0 = .inr (4, [.ref 1, .ref 2, .ref 3, .ref 11, .ref 12, .ref 16, .ref 20, .ref 21, .ref 22, .int 0, .int 0, .long 0, .long 1]) := by rw [e48, vn (show (0 : Nat) ≠ 39 by decide), vn (show (0 : Nat) ≠ 40 by decide), vn (show (0 : Nat) ≠ 39 by decide)]; exact f47_0
  have f48_1 : M48 1 = .inl (2, 6, .inr (.inr (.inr (.inr (va_up (va_up (va_up (va_up (va_up (va_up (fun _ => none) 0 (some 23)) 1 (some 25)) 2 (some 27)) 3 (some 29)) 4 (some 31)) 5 (some 33)))))) := by rw [e48, vn (show (1 : Nat) ≠ 39 by decide), vn (show (1 : Nat) ≠ 40 by decide), vn (show (1 : Nat) ≠ 39 by decide)]; exact f47_1
  have f48_2 : M48 2 = .inl (2, 4, .inr (.inr (.inr (.inr (va_up (va_up (fun _ => none) 0 (some 35)) 1 (some 37)))))) := by rw [e48, vn (show (2 : Nat) ≠ 39 by decide), vn (show (2 : Nat) ≠ 40 by decide), vn (show (2 : Nat) ≠ 39 by decide)]; exact f47_2
  have f48_3 : M48 3 = .inr (0, [.ref 4, .ref 8, .ref 9, .ref 10, .int 0]) := by rw [e48, vn (show (3 : Nat) ≠ 39 by decide), vn (show (3 : Nat) ≠ 40 by decide), vn (show (3 : Nat) ≠ 39 by decide)]; exact f47_3
  have f48_11 : M48 11 = .inl (3, 3, .inr (.inr (.inr (.inr (fun _ => none))))) := by rw [e48, vn (show (11 : Nat) ≠ 39 by decide), vn (show (11 : Nat) ≠ 40 by decide), vn (show (11 : Nat) ≠ 39 by decide)]; exact f47_11
  have f48_12 : M48 12 = .inr (3, [.ref 13, .ref 14, .ref 15, .int 0, .int 0, .int 0]) := by rw [e48, vn (show (12 : Nat) ≠ 39 by decide), vn (show (12 : Nat) ≠ 40 by decide), vn (show (12 : Nat) ≠ 39 by decide)]; exact f47_12
  have f48_16 : M48 16 = .inr (2, [.ref 17, .ref 18, .ref 19, .int 0]) := by rw [e48, vn (show (16 : Nat) ≠ 39 by decide), vn (show (16 : Nat) ≠ 40 by decide), vn (show (16 : Nat) ≠ 39 by decide)]; exact f47_16
  have f48_39 : M48 39 = .inr (1, [.ref 40, .int (-1)]) := by rw [e48, vs]
  have q166 : pX 47 141 [.ref 0, .int 2] [.ref 39, .int 2, .ref 2] M48 41 (S + 6 + 4 + 5 + 6 + 6 + 6 + 7 + 280 + 40 + 40 + 3 + 6 + 6 + 6 + 7 + 4 + 64 + 448 + 61 + 64 + 64 + 6 + 2 + 40 + 2 + 40 + 2 + 40 + 2 + 40 + 2 + 40 + 2 + 40 + 2 + 60 + 2 + 60 + 2 + 60) = pX 47 142 [.ref 0, .int 2] [] (va_up M48 2 (.inl (2, 4, .inr (.inr (.inr (.inr (va_up (va_up (va_up (fun _ => none) 0 (some 35)) 1 (some 37)) 2 (some 39)))))))) 41 (S + 6 + 4 + 5 + 6 + 6 + 6 + 7 + 280 + 40 + 40 + 3 + 6 + 6 + 6 + 7 + 4 + 64 + 448 + 61 + 64 + 64 + 6 + 2 + 40 + 2 + 40 + 2 + 40 + 2 + 40 + 2 + 40 + 2 + 40 + 2 + 60 + 2 + 60 + 2 + 60) := x_aast (ci := 1) (n := 4) (show pm_in 47 141 = some (.aastore, 1) from by decide +kernel) f48_2 f48_39 (by decide) (by decide) (Or.inl ⟨rfl, rfl⟩) (ib (j := 2) (n := 4) (by decide) (by decide))
  obtain ⟨M49, e49⟩ : ∃ m : pm_M, m = va_up M48 2 (.inl (2, 4, .inr (.inr (.inr (.inr (va_up (va_up (va_up (fun _ => none) 0 (some 35)) 1 (some 37)) 2 (some 39))))))) := ⟨_, rfl⟩
  rw [← e49] at q166
  refine q166.trans ?_
  have f49_0 : M49 0 = .inr (4, [.ref 1, .ref 2, .ref 3, .ref 11, .ref 12, .ref 16, .ref 20, .ref 21, .ref 22, .int 0, .int 0, .long 0, .long 1]) := by rw [e49, vn (show (0 : Nat) ≠ 2 by decide)]; exact f48_0
  have f49_1 : M49 1 = .inl (2, 6, .inr (.inr (.inr (.inr (va_up (va_up (va_up (va_up (va_up (va_up (fun _ => none) 0 (some 23)) 1 (some 25)) 2 (some 27)) 3 (some 29)) 4 (some 31)) 5 (some 33)))))) := by rw [e49, vn (show (1 : Nat) ≠ 2 by decide)]; exact f48_1
  have f49_2 : M49 2 = .inl (2, 4, .inr (.inr (.inr (.inr (va_up (va_up (va_up (fun _ => none) 0 (some 35)) 1 (some 37)) 2 (some 39)))))) := by rw [e49, vs]
  have f49_3 : M49 3 = .inr (0, [.ref 4, .ref 8, .ref 9, .ref 10, .int 0]) := by rw [e49, vn (show (3 : Nat) ≠ 2 by decide)]; exact f48_3
  have f49_11 : M49 11 = .inl (3, 3, .inr (.inr (.inr (.inr (fun _ => none))))) := by rw [e49, vn (show (11 : Nat) ≠ 2 by decide)]; exact f48_11
  have f49_12 : M49 12 = .inr (3, [.ref 13, .ref 14, .ref 15, .int 0, .int 0, .int 0]) := by rw [e49, vn (show (12 : Nat) ≠ 2 by decide)]; exact f48_12
  have f49_16 : M49 16 = .inr (2, [.ref 17, .ref 18, .ref 19, .int 0]) := by rw [e49, vn (show (16 : Nat) ≠ 2 by decide)]; exact f48_16
  refine Eq.trans (x_iinc (x := 2) (w := 1) (ls' := [.ref 0, .int 3]) (show pm_in 47 142 = some (.iinc 1 1, 3) from by decide +kernel) rfl (by decide) (congrArg (fun z : Int32 => ([.ref 0, .int z] : List Value)) (show (2 : Int32) + 1 = 3 from by decide))) ?_
  refine Eq.trans (x_goto (t := 122) (show pm_in 47 145 = some (.goto (-23), 3) from by decide +kernel) (by decide)) ?_
  refine Eq.trans (x_iload_n (show pm_in 47 122 = some (.iload_n 1, 1) from by decide +kernel) rfl) ?_
  refine Eq.trans (x_iconst (v := 4) (show pm_in 47 123 = some (.iconst 4, 1) from by decide +kernel) (by decide)) ?_
  refine Eq.trans ((x_icge (t := 148) (show pm_in 47 124 = some (.if_icmp .ge 24, 3) from by decide +kernel) (by decide)).trans (if_pos (by decide))) ?_
  refine Eq.trans (x_aload_n (show pm_in 47 127 = some (.aload_n 0, 1) from by decide +kernel) rfl) ?_
  refine Eq.trans (x_getf (ci := 4) (k := 1) (fs := [.ref 1, .ref 2, .ref 3, .ref 11, .ref 12, .ref 16, .ref 20, .ref 21, .ref 22, .int 0, .int 0, .long 0, .long 1]) (v := .ref 2) (show pm_in 47 128 = some (.getfield 15, 3) from by decide +kernel) (by decide +kernel) f49_0 (by decide) rfl) ?_
  refine Eq.trans (x_iload_n (show pm_in 47 131 = some (.iload_n 1, 1) from by decide +kernel) rfl) ?_
  have q175 : pX 47 132 [.ref 0, .int 3] [.int 3, .ref 2] M49 41 (S + 6 + 4 + 5 + 6 + 6 + 6 + 7 + 280 + 40 + 40 + 3 + 6 + 6 + 6 + 7 + 4 + 64 + 448 + 61 + 64 + 64 + 6 + 2 + 40 + 2 + 40 + 2 + 40 + 2 + 40 + 2 + 40 + 2 + 40 + 2 + 60 + 2 + 60 + 2 + 60) = pX 47 135 [.ref 0, .int 3] [.ref 41, .int 3, .ref 2] (va_up M49 41 (.inr (1, [.null, .int 0]))) 42 (S + 6 + 4 + 5 + 6 + 6 + 6 + 7 + 280 + 40 + 40 + 3 + 6 + 6 + 6 + 7 + 4 + 64 + 448 + 61 + 64 + 64 + 6 + 2 + 40 + 2 + 40 + 2 + 40 + 2 + 40 + 2 + 40 + 2 + 40 + 2 + 60 + 2 + 60 + 2 + 60 + 2) := x_new (ci := 1) (k := 2) (show pm_in 47 132 = some (.new 9, 3) from by decide +kernel) (by decide +kernel) rfl rfl (by decide +kernel)
  obtain ⟨M50, e50⟩ : ∃ m : pm_M, m = va_up M49 41 (.inr (1, [.null, .int 0])) := ⟨_, rfl⟩
  rw [← e50] at q175
  refine q175.trans ?_
  have f50_0 : M50 0 = .inr (4, [.ref 1, .ref 2, .ref 3, .ref 11, .ref 12, .ref 16, .ref 20, .ref 21, .ref 22, .int 0, .int 0, .long 0, .long 1]) := by rw [e50, vn (show (0 : Nat) ≠ 41 by decide)]; exact f49_0
  have f50_1 : M50 1 = .inl (2, 6, .inr (.inr (.inr (.inr (va_up (va_up (va_up (va_up (va_up (va_up (fun _ => none) 0 (some 23)) 1 (some 25)) 2 (some 27)) 3 (some 29)) 4 (some 31)) 5 (some 33)))))) := by rw [e50, vn (show (1 : Nat) ≠ 41 by decide)]; exact f49_1
  have f50_2 : M50 2 = .inl (2, 4, .inr (.inr (.inr (.inr (va_up (va_up (va_up (fun _ => none) 0 (some 35)) 1 (some 37)) 2 (some 39)))))) := by rw [e50, vn (show (2 : Nat) ≠ 41 by decide)]; exact f49_2
  have f50_3 : M50 3 = .inr (0, [.ref 4, .ref 8, .ref 9, .ref 10, .int 0]) := by rw [e50, vn (show (3 : Nat) ≠ 41 by decide)]; exact f49_3
  have f50_11 : M50 11 = .inl (3, 3, .inr (.inr (.inr (.inr (fun _ => none))))) := by rw [e50, vn (show (11 : Nat) ≠ 41 by decide)]; exact f49_11
  have f50_12 : M50 12 = .inr (3, [.ref 13, .ref 14, .ref 15, .int 0, .int 0, .int 0]) := by rw [e50, vn (show (12 : Nat) ≠ 41 by decide)]; exact f49_12
  have f50_16 : M50 16 = .inr (2, [.ref 17, .ref 18, .ref 19, .int 0]) := by rw [e50, vn (show (16 : Nat) ≠ 41 by decide)]; exact f49_16
  have f50_41 : M50 41 = .inr (1, [.null, .int 0]) := by rw [e50, vs]
  refine Eq.trans (x_dup (show pm_in 47 135 = some (.dup, 1) from by decide +kernel) rfl) ?_
  refine Eq.trans (x_bipush (v := 60) (show pm_in 47 136 = some (.bipush 60, 2) from by decide +kernel) (by decide)) ?_
  have q178 : pX 47 138 [.ref 0, .int 3] [.int 60, .ref 41, .ref 41, .int 3, .ref 2] M50 42 (S + 6 + 4 + 5 + 6 + 6 + 6 + 7 + 280 + 40 + 40 + 3 + 6 + 6 + 6 + 7 + 4 + 64 + 448 + 61 + 64 + 64 + 6 + 2 + 40 + 2 + 40 + 2 + 40 + 2 + 40 + 2 + 40 + 2 + 40 + 2 + 60 + 2 + 60 + 2 + 60 + 2) = pX 47 141 [.ref 0, .int 3] [.ref 41, .int 3, .ref 2] (va_up (va_up (va_up M50 41 (.inr (1, [.null, .int (-1)]))) 42 (.inl (0, 60, .inl (fun _ => 0)))) 41 (.inr (1, [.ref 42, .int (-1)]))) 43 (S + 6 + 4 + 5 + 6 + 6 + 6 + 7 + 280 + 40 + 40 + 3 + 6 + 6 + 6 + 7 + 4 + 64 + 448 + 61 + 64 + 64 + 6 + 2 + 40 + 2 + 40 + 2 + 40 + 2 + 40 + 2 + 40 + 2 + 40 + 2 + 60 + 2 + 60 + 2 + 60 + 2 + 60) := x_callI (y' := 17) (k := 1) (kd := 2) (b := 41) (as := [.int 60]) (st' := [.ref 41, .int 3, .ref 2]) (show pm_in 47 138 = some (.invokespecial 57, 3) from by decide +kernel) (by decide +kernel) (by decide) rfl rfl (by decide +kernel) (Nat.le_of_ble_eq_true rfl) (by decide +kernel) (by decide +kernel) rfl (by decide +kernel) (by decide +kernel) (ini17_41 (M := M50) (S := S + 6 + 4 + 5 + 6 + 6 + 6 + 7 + 280 + 40 + 40 + 3 + 6 + 6 + 6 + 7 + 4 + 64 + 448 + 61 + 64 + 64 + 6 + 2 + 40 + 2 + 40 + 2 + 40 + 2 + 40 + 2 + 40 + 2 + 40 + 2 + 60 + 2 + 60 + 2 + 60 + 2) f50_41)
  obtain ⟨M51, e51⟩ : ∃ m : pm_M, m = va_up (va_up (va_up M50 41 (.inr (1, [.null, .int (-1)]))) 42 (.inl (0, 60, .inl (fun _ => 0)))) 41 (.inr (1, [.ref 42, .int (-1)])) := ⟨_, rfl⟩
  rw [← e51] at q178
  refine q178.trans ?_
  have f51_0 : M51 0 = .inr (4, [.ref 1, .ref 2, .ref 3, .ref 11, .ref 12, .ref 16, .ref 20, .ref 21, .ref 22, .int 0, .int 0, .long 0, .long 1]) := by rw [e51, vn (show (0 : Nat) ≠ 41 by decide), vn (show (0 : Nat) ≠ 42 by decide), vn (show (0 : Nat) ≠ 41 by decide)]; exact f50_0
  have f51_1 : M51 1 = .inl (2, 6, .inr (.inr (.inr (.inr (va_up (va_up (va_up (va_up (va_up (va_up (fun _ => none) 0 (some 23)) 1 (some 25)) 2 (some 27)) 3 (some 29)) 4 (some 31)) 5 (some 33)))))) := by rw [e51, vn (show (1 : Nat) ≠ 41 by decide), vn (show (1 : Nat) ≠ 42 by decide), vn (show (1 : Nat) ≠ 41 by decide)]; exact f50_1
  have f51_2 : M51 2 = .inl (2, 4, .inr (.inr (.inr (.inr (va_up (va_up (va_up (fun _ => none) 0 (some 35)) 1 (some 37)) 2 (some 39)))))) := by rw [e51, vn (show (2 : Nat) ≠ 41 by decide), vn (show (2 : Nat) ≠ 42 by decide), vn (show (2 : Nat) ≠ 41 by decide)]; exact f50_2
  have f51_3 : M51 3 = .inr (0, [.ref 4, .ref 8, .ref 9, .ref 10, .int 0]) := by rw [e51, vn (show (3 : Nat) ≠ 41 by decide), vn (show (3 : Nat) ≠ 42 by decide), vn (show (3 : Nat) ≠ 41 by decide)]; exact f50_3
  have f51_11 : M51 11 = .inl (3, 3, .inr (.inr (.inr (.inr (fun _ => none))))) := by rw [e51, vn (show (11 : Nat) ≠ 41 by decide), vn (show (11 : Nat) ≠ 42 by decide), vn (show (11 : Nat) ≠ 41 by decide)]; exact f50_11
  have f51_12 : M51 12 = .inr (3, [.ref 13, .ref 14, .ref 15, .int 0, .int 0, .int 0]) := by rw [e51, vn (show (12 : Nat) ≠ 41 by decide), vn (show (12 : Nat) ≠ 42 by decide), vn (show (12 : Nat) ≠ 41 by decide)]; exact f50_12
  have f51_16 : M51 16 = .inr (2, [.ref 17, .ref 18, .ref 19, .int 0]) := by rw [e51, vn (show (16 : Nat) ≠ 41 by decide), vn (show (16 : Nat) ≠ 42 by decide), vn (show (16 : Nat) ≠ 41 by decide)]; exact f50_16
  have f51_41 : M51 41 = .inr (1, [.ref 42, .int (-1)]) := by rw [e51, vs]
  have q179 : pX 47 141 [.ref 0, .int 3] [.ref 41, .int 3, .ref 2] M51 43 (S + 6 + 4 + 5 + 6 + 6 + 6 + 7 + 280 + 40 + 40 + 3 + 6 + 6 + 6 + 7 + 4 + 64 + 448 + 61 + 64 + 64 + 6 + 2 + 40 + 2 + 40 + 2 + 40 + 2 + 40 + 2 + 40 + 2 + 40 + 2 + 60 + 2 + 60 + 2 + 60 + 2 + 60) = pX 47 142 [.ref 0, .int 3] [] (va_up M51 2 (.inl (2, 4, .inr (.inr (.inr (.inr (va_up (va_up (va_up (va_up (fun _ => none) 0 (some 35)) 1 (some 37)) 2 (some 39)) 3 (some 41)))))))) 43 (S + 6 + 4 + 5 + 6 + 6 + 6 + 7 + 280 + 40 + 40 + 3 + 6 + 6 + 6 + 7 + 4 + 64 + 448 + 61 + 64 + 64 + 6 + 2 + 40 + 2 + 40 + 2 + 40 + 2 + 40 + 2 + 40 + 2 + 40 + 2 + 60 + 2 + 60 + 2 + 60 + 2 + 60) := x_aast (ci := 1) (n := 4) (show pm_in 47 141 = some (.aastore, 1) from by decide +kernel) f51_2 f51_41 (by decide) (by decide) (Or.inl ⟨rfl, rfl⟩) (ib (j := 3) (n := 4) (by decide) (by decide))
  obtain ⟨M52, e52⟩ : ∃ m : pm_M, m = va_up M51 2 (.inl (2, 4, .inr (.inr (.inr (.inr (va_up (va_up (va_up (va_up (fun _ => none) 0 (some 35)) 1 (some 37)) 2 (some 39)) 3 (some 41))))))) := ⟨_, rfl⟩
  rw [← e52] at q179
  refine q179.trans ?_
  have f52_0 : M52 0 = .inr (4, [.ref 1, .ref 2, .ref 3, .ref 11, .ref 12, .ref 16, .ref 20, .ref 21, .ref 22, .int 0, .int 0, .long 0, .long 1]) := by rw [e52, vn (show (0 : Nat) ≠ 2 by decide)]; exact f51_0
  have f52_1 : M52 1 = .inl (2, 6, .inr (.inr (.inr (.inr (va_up (va_up (va_up (va_up (va_up (va_up (fun _ => none) 0 (some 23)) 1 (some 25)) 2 (some 27)) 3 (some 29)) 4 (some 31)) 5 (some 33)))))) := by rw [e52, vn (show (1 : Nat) ≠ 2 by decide)]; exact f51_1
  have f52_2 : M52 2 = .inl (2, 4, .inr (.inr (.inr (.inr (va_up (va_up (va_up (va_up (fun _ => none) 0 (some 35)) 1 (some 37)) 2 (some 39)) 3 (some 41)))))) := by rw [e52, vs]
  have f52_3 : M52 3 = .inr (0, [.ref 4, .ref 8, .ref 9, .ref 10, .int 0]) := by rw [e52, vn (show (3 : Nat) ≠ 2 by decide)]; exact f51_3
  have f52_11 : M52 11 = .inl (3, 3, .inr (.inr (.inr (.inr (fun _ => none))))) := by rw [e52, vn (show (11 : Nat) ≠ 2 by decide)]; exact f51_11
  have f52_12 : M52 12 = .inr (3, [.ref 13, .ref 14, .ref 15, .int 0, .int 0, .int 0]) := by rw [e52, vn (show (12 : Nat) ≠ 2 by decide)]; exact f51_12
  have f52_16 : M52 16 = .inr (2, [.ref 17, .ref 18, .ref 19, .int 0]) := by rw [e52, vn (show (16 : Nat) ≠ 2 by decide)]; exact f51_16
  refine Eq.trans (x_iinc (x := 3) (w := 1) (ls' := [.ref 0, .int 4]) (show pm_in 47 142 = some (.iinc 1 1, 3) from by decide +kernel) rfl (by decide) (congrArg (fun z : Int32 => ([.ref 0, .int z] : List Value)) (show (3 : Int32) + 1 = 4 from by decide))) ?_
  refine Eq.trans (x_goto (t := 122) (show pm_in 47 145 = some (.goto (-23), 3) from by decide +kernel) (by decide)) ?_
  refine Eq.trans (x_iload_n (show pm_in 47 122 = some (.iload_n 1, 1) from by decide +kernel) rfl) ?_
  refine Eq.trans (x_iconst (v := 4) (show pm_in 47 123 = some (.iconst 4, 1) from by decide +kernel) (by decide)) ?_
  refine Eq.trans ((x_icge (t := 148) (show pm_in 47 124 = some (.if_icmp .ge 24, 3) from by decide +kernel) (by decide)).trans (if_neg (by decide))) ?_
  refine Eq.trans (x_iconst (v := 0) (show pm_in 47 148 = some (.iconst 0, 1) from by decide +kernel) (by decide)) ?_
  refine Eq.trans (x_istore_n (ls' := [.ref 0, .int 0]) (show pm_in 47 149 = some (.istore_n 1, 1) from by decide +kernel) (by decide) rfl) ?_
  refine Eq.trans (x_iload_n (show pm_in 47 150 = some (.iload_n 1, 1) from by decide +kernel) rfl) ?_
  refine Eq.trans (x_iconst (v := 3) (show pm_in 47 151 = some (.iconst 3, 1) from by decide +kernel) (by decide)) ?_
  refine Eq.trans ((x_icge (t := 174) (show pm_in 47 152 = some (.if_icmp .ge 22, 3) from by decide +kernel) (by decide)).trans (if_pos (by decide))) ?_
  refine Eq.trans (x_aload_n (show pm_in 47 155 = some (.aload_n 0, 1) from by decide +kernel) rfl) ?_
  refine Eq.trans (x_getf (ci := 4) (k := 3) (fs := [.ref 1, .ref 2, .ref 3, .ref 11, .ref 12, .ref 16, .ref 20, .ref 21, .ref 22, .int 0, .int 0, .long 0, .long 1]) (v := .ref 11) (show pm_in 47 156 = some (.getfield 25, 3) from by decide +kernel) (by decide +kernel) f52_0 (by decide) rfl) ?_
  refine Eq.trans (x_iload_n (show pm_in 47 159 = some (.iload_n 1, 1) from by decide +kernel) rfl) ?_
  have q193 : pX 47 160 [.ref 0, .int 0] [.int 0, .ref 11] M52 43 (S + 6 + 4 + 5 + 6 + 6 + 6 + 7 + 280 + 40 + 40 + 3 + 6 + 6 + 6 + 7 + 4 + 64 + 448 + 61 + 64 + 64 + 6 + 2 + 40 + 2 + 40 + 2 + 40 + 2 + 40 + 2 + 40 + 2 + 40 + 2 + 60 + 2 + 60 + 2 + 60 + 2 + 60) = pX 47 163 [.ref 0, .int 0] [.ref 43, .int 0, .ref 11] (va_up M52 43 (.inr (0, [.null, .null, .null, .null, .int 0]))) 44 (S + 6 + 4 + 5 + 6 + 6 + 6 + 7 + 280 + 40 + 40 + 3 + 6 + 6 + 6 + 7 + 4 + 64 + 448 + 61 + 64 + 64 + 6 + 2 + 40 + 2 + 40 + 2 + 40 + 2 + 40 + 2 + 40 + 2 + 40 + 2 + 60 + 2 + 60 + 2 + 60 + 2 + 60 + 5) := x_new (ci := 0) (k := 5) (show pm_in 47 160 = some (.new 18, 3) from by decide +kernel) (by decide +kernel) rfl rfl (by decide +kernel)
  obtain ⟨M53, e53⟩ : ∃ m : pm_M, m = va_up M52 43 (.inr (0, [.null, .null, .null, .null, .int 0])) := ⟨_, rfl⟩
  rw [← e53] at q193
  refine q193.trans ?_
  have f53_0 : M53 0 = .inr (4, [.ref 1, .ref 2, .ref 3, .ref 11, .ref 12, .ref 16, .ref 20, .ref 21, .ref 22, .int 0, .int 0, .long 0, .long 1]) := by rw [e53, vn (show (0 : Nat) ≠ 43 by decide)]; exact f52_0
  have f53_1 : M53 1 = .inl (2, 6, .inr (.inr (.inr (.inr (va_up (va_up (va_up (va_up (va_up (va_up (fun _ => none) 0 (some 23)) 1 (some 25)) 2 (some 27)) 3 (some 29)) 4 (some 31)) 5 (some 33)))))) := by rw [e53, vn (show (1 : Nat) ≠ 43 by decide)]; exact f52_1
  have f53_2 : M53 2 = .inl (2, 4, .inr (.inr (.inr (.inr (va_up (va_up (va_up (va_up (fun _ => none) 0 (some 35)) 1 (some 37)) 2 (some 39)) 3 (some 41)))))) := by rw [e53, vn (show (2 : Nat) ≠ 43 by decide)]; exact f52_2
  have f53_3 : M53 3 = .inr (0, [.ref 4, .ref 8, .ref 9, .ref 10, .int 0]) := by rw [e53, vn (show (3 : Nat) ≠ 43 by decide)]; exact f52_3
  have f53_11 : M53 11 = .inl (3, 3, .inr (.inr (.inr (.inr (fun _ => none))))) := by rw [e53, vn (show (11 : Nat) ≠ 43 by decide)]; exact f52_11
  have f53_12 : M53 12 = .inr (3, [.ref 13, .ref 14, .ref 15, .int 0, .int 0, .int 0]) := by rw [e53, vn (show (12 : Nat) ≠ 43 by decide)]; exact f52_12
  have f53_16 : M53 16 = .inr (2, [.ref 17, .ref 18, .ref 19, .int 0]) := by rw [e53, vn (show (16 : Nat) ≠ 43 by decide)]; exact f52_16
  have f53_43 : M53 43 = .inr (0, [.null, .null, .null, .null, .int 0]) := by rw [e53, vs]
  refine Eq.trans (x_dup (show pm_in 47 163 = some (.dup, 1) from by decide +kernel) rfl) ?_
  have q195 : pX 47 164 [.ref 0, .int 0] [.ref 43, .ref 43, .int 0, .ref 11] M53 44 (S + 6 + 4 + 5 + 6 + 6 + 6 + 7 + 280 + 40 + 40 + 3 + 6 + 6 + 6 + 7 + 4 + 64 + 448 + 61 + 64 + 64 + 6 + 2 + 40 + 2 + 40 + 2 + 40 + 2 + 40 + 2 + 40 + 2 + 40 + 2 + 60 + 2 + 60 + 2 + 60 + 2 + 60 + 5) = pX 47 167 [.ref 0, .int 0] [.ref 43, .int 0, .ref 11] (va_up (va_up (va_up (va_up (va_up (va_up (va_up (va_up (va_up (va_up (va_up (va_up (va_up (va_up M53 44 (.inr (3, [.null, .null, .null, .int 0, .int 0, .int 0]))) 45 (.inl (0, 6, .inl (fun _ => 0)))) 44 (.inr (3, [.ref 45, .null, .null, .int 0, .int 0, .int 0]))) 46 (.inl (0, 6, .inl (fun _ => 0)))) 44 (.inr (3, [.ref 45, .ref 46, .null, .int 0, .int 0, .int 0]))) 47 (.inl (0, 7, .inl (fun _ => 0)))) 44 (.inr (3, [.ref 45, .ref 46, .ref 47, .int 0, .int 0, .int 0]))) 43 (.inr (0, [.ref 44, .null, .null, .null, .int 0]))) 48 (.inl (0, 280, .inl (fun _ => 0)))) 43 (.inr (0, [.ref 44, .ref 48, .null, .null, .int 0]))) 49 (.inl (0, 40, .inl (fun _ => 0)))) 43 (.inr (0, [.ref 44, .ref 48, .ref 49, .null, .int 0]))) 50 (.inl (0, 40, .inl (fun _ => 0)))) 43 (.inr (0, [.ref 44, .ref 48, .ref 49, .ref 50, .int 0]))) 51 (S + 6 + 4 + 5 + 6 + 6 + 6 + 7 + 280 + 40 + 40 + 3 + 6 + 6 + 6 + 7 + 4 + 64 + 448 + 61 + 64 + 64 + 6 + 2 + 40 + 2 + 40 + 2 + 40 + 2 + 40 + 2 + 40 + 2 + 40 + 2 + 60 + 2 + 60 + 2 + 60 + 2 + 60 + 5 + 6 + 6 + 6 + 7 + 280 + 40 + 40) := x_callI (y' := 0) (k := 0) (kd := 4) (b := 43) (as := []) (st' := [.ref 43, .int 0, .ref 11]) (show pm_in 47 164 = some (.invokespecial 20, 3) from by decide +kernel) (by decide +kernel) (by decide) rfl rfl (by decide +kernel) (Nat.le_of_ble_eq_true rfl) (by decide +kernel) (by decide +kernel) rfl (by decide +kernel) (by decide +kernel) (ini0_43 (M := M53) (S := S + 6 + 4 + 5 + 6 + 6 + 6 + 7 + 280 + 40 + 40 + 3 + 6 + 6 + 6 + 7 + 4 + 64 + 448 + 61 + 64 + 64 + 6 + 2 + 40 + 2 + 40 + 2 + 40 + 2 + 40 + 2 + 40 + 2 + 40 + 2 + 60 + 2 + 60 + 2 + 60 + 2 + 60 + 5) f53_43)
  obtain ⟨M54, e54⟩ : ∃ m : pm_M, m = va_up (va_up (va_up (va_up (va_up (va_up (va_up (va_up (va_up (va_up (va_up (va_up (va_up (va_up M53 44 (.inr (3, [.null, .null, .null, .int 0, .int 0, .int 0]))) 45 (.inl (0, 6, .inl (fun _ => 0)))) 44 (.inr (3, [.ref 45, .null, .null, .int 0, .int 0, .int 0]))) 46 (.inl (0, 6, .inl (fun _ => 0)))) 44 (.inr (3, [.ref 45, .ref 46, .null, .int 0, .int 0, .int 0]))) 47 (.inl (0, 7, .inl (fun _ => 0)))) 44 (.inr (3, [.ref 45, .ref 46, .ref 47, .int 0, .int 0, .int 0]))) 43 (.inr (0, [.ref 44, .null, .null, .null, .int 0]))) 48 (.inl (0, 280, .inl (fun _ => 0)))) 43 (.inr (0, [.ref 44, .ref 48, .null, .null, .int 0]))) 49 (.inl (0, 40, .inl (fun _ => 0)))) 43 (.inr (0, [.ref 44, .ref 48, .ref 49, .null, .int 0]))) 50 (.inl (0, 40, .inl (fun _ => 0)))) 43 (.inr (0, [.ref 44, .ref 48, .ref 49, .ref 50, .int 0])) := ⟨_, rfl⟩
  rw [← e54] at q195
  refine q195.trans ?_
  have f54_0 : M54 0 = .inr (4, [.ref 1, .ref 2, .ref 3, .ref 11, .ref 12, .ref 16, .ref 20, .ref 21, .ref 22, .int 0, .int 0, .long 0, .long 1]) := by rw [e54, vn (show (0 : Nat) ≠ 43 by decide), vn (show (0 : Nat) ≠ 50 by decide), vn (show (0 : Nat) ≠ 43 by decide), vn (show (0 : Nat) ≠ 49 by decide), vn (show (0 : Nat) ≠ 43 by decide), vn (show (0 : Nat) ≠ 48 by decide), vn (show (0 : Nat) ≠ 43 by decide), vn (show (0 : Nat) ≠ 44 by decide), vn (show (0 : Nat) ≠ 47 by decide), vn (show (0 : Nat) ≠ 44 by decide), vn (show (0 : Nat) ≠ 46 by decide), vn (show (0 : Nat) ≠ 44 by decide), vn (show (0 : Nat) ≠ 45 by decide), vn (show (0 : Nat) ≠ 44 by decide)]; exact f53_0
  have f54_1 : M54 1 = .inl (2, 6, .inr (.inr (.inr (.inr (va_up (va_up (va_up (va_up (va_up (va_up (fun _ => none) 0 (some 23)) 1 (some 25)) 2 (some 27)) 3 (some 29)) 4 (some 31)) 5 (some 33)))))) := by rw [e54, vn (show (1 : Nat) ≠ 43 by decide), vn (show (1 : Nat) ≠ 50 by decide), vn (show (1 : Nat) ≠ 43 by decide), vn (show (1 : Nat) ≠ 49 by decide), vn (show (1 : Nat) ≠ 43 by decide), vn (show (1 : Nat) ≠ 48 by decide), vn (show (1 : Nat) ≠ 43 by decide), vn (show (1 : Nat) ≠ 44 by decide), vn (show (1 : Nat) ≠ 47 by decide), vn (show (1 : Nat) ≠ 44 by decide), vn (show (1 : Nat) ≠ 46 by decide), vn (show (1 : Nat) ≠ 44 by decide), vn (show (1 : Nat) ≠ 45 by decide), vn (show (1 : Nat) ≠ 44 by decide)]; exact f53_1
  have f54_2 : M54 2 = .inl (2, 4, .inr (.inr (.inr (.inr (va_up (va_up (va_up (va_up (fun _ => none) 0 (some 35)) 1 (some 37)) 2 (some 39)) 3 (some 41)))))) := by rw [e54, vn (show (2 : Nat) ≠ 43 by decide), vn (show (2 : Nat) ≠ 50 by decide), vn (show (2 : Nat) ≠ 43 by decide), vn (show (2 : Nat) ≠ 49 by decide), vn (show (2 : Nat) ≠ 43 by decide), vn (show (2 : Nat) ≠ 48 by decide), vn (show (2 : Nat) ≠ 43 by decide), vn (show (2 : Nat) ≠ 44 by decide), vn (show (2 : Nat) ≠ 47 by decide), vn (show (2 : Nat) ≠ 44 by decide), vn (show (2 : Nat) ≠ 46 by decide), vn (show (2 : Nat) ≠ 44 by decide), vn (show (2 : Nat) ≠ 45 by decide), vn (show (2 : Nat) ≠ 44 by decide)]; exact f53_2
  have f54_3 : M54 3 = .inr (0, [.ref 4, .ref 8, .ref 9, .ref 10, .int 0]) := by rw [e54, vn (show (3 : Nat) ≠ 43 by decide), vn (show (3 : Nat) ≠ 50 by decide), vn (show (3 : Nat) ≠ 43 by decide), vn (show (3 : Nat) ≠ 49 by decide), vn (show (3 : Nat) ≠ 43 by decide), vn (show (3 : Nat) ≠ 48 by decide), vn (show (3 : Nat) ≠ 43 by decide), vn (show (3 : Nat) ≠ 44 by decide), vn (show (3 : Nat) ≠ 47 by decide), vn (show (3 : Nat) ≠ 44 by decide), vn (show (3 : Nat) ≠ 46 by decide), vn (show (3 : Nat) ≠ 44 by decide), vn (show (3 : Nat) ≠ 45 by decide), vn (show (3 : Nat) ≠ 44 by decide)]; exact f53_3
  have f54_11 : M54 11 = .inl (3, 3, .inr (.inr (.inr (.inr (fun _ => none))))) := by rw [e54, vn (show (11 : Nat) ≠ 43 by decide), vn (show (11 : Nat) ≠ 50 by decide), vn (show (11 : Nat) ≠ 43 by decide), vn (show (11 : Nat) ≠ 49 by decide), vn (show (11 : Nat) ≠ 43 by decide), vn (show (11 : Nat) ≠ 48 by decide), vn (show (11 : Nat) ≠ 43 by decide), vn (show (11 : Nat) ≠ 44 by decide), vn (show (11 : Nat) ≠ 47 by decide), vn (show (11 : Nat) ≠ 44 by decide), vn (show (11 : Nat) ≠ 46 by decide), vn (show (11 : Nat) ≠ 44 by decide), vn (show (11 : Nat) ≠ 45 by decide), vn (show (11 : Nat) ≠ 44 by decide)]; exact f53_11
  have f54_12 : M54 12 = .inr (3, [.ref 13, .ref 14, .ref 15, .int 0, .int 0, .int 0]) := by rw [e54, vn (show (12 : Nat) ≠ 43 by decide), vn (show (12 : Nat) ≠ 50 by decide), vn (show (12 : Nat) ≠ 43 by decide), vn (show (12 : Nat) ≠ 49 by decide), vn (show (12 : Nat) ≠ 43 by decide), vn (show (12 : Nat) ≠ 48 by decide), vn (show (12 : Nat) ≠ 43 by decide), vn (show (12 : Nat) ≠ 44 by decide), vn (show (12 : Nat) ≠ 47 by decide), vn (show (12 : Nat) ≠ 44 by decide), vn (show (12 : Nat) ≠ 46 by decide), vn (show (12 : Nat) ≠ 44 by decide), vn (show (12 : Nat) ≠ 45 by decide), vn (show (12 : Nat) ≠ 44 by decide)]; exact f53_12
  have f54_16 : M54 16 = .inr (2, [.ref 17, .ref 18, .ref 19, .int 0]) := by rw [e54, vn (show (16 : Nat) ≠ 43 by decide), vn (show (16 : Nat) ≠ 50 by decide), vn (show (16 : Nat) ≠ 43 by decide), vn (show (16 : Nat) ≠ 49 by decide), vn (show (16 : Nat) ≠ 43 by decide), vn (show (16 : Nat) ≠ 48 by decide), vn (show (16 : Nat) ≠ 43 by decide), vn (show (16 : Nat) ≠ 44 by decide), vn (show (16 : Nat) ≠ 47 by decide), vn (show (16 : Nat) ≠ 44 by decide), vn (show (16 : Nat) ≠ 46 by decide), vn (show (16 : Nat) ≠ 44 by decide), vn (show (16 : Nat) ≠ 45 by decide), vn (show (16 : Nat) ≠ 44 by decide)]; exact f53_16
  have f54_43 : M54 43 = .inr (0, [.ref 44, .ref 48, .ref 49, .ref 50, .int 0]) := by rw [e54, vs]
  have q196 : pX 47 167 [.ref 0, .int 0] [.ref 43, .int 0, .ref 11] M54 51 (S + 6 + 4 + 5 + 6 + 6 + 6 + 7 + 280 + 40 + 40 + 3 + 6 + 6 + 6 + 7 + 4 + 64 + 448 + 61 + 64 + 64 + 6 + 2 + 40 + 2 + 40 + 2 + 40 + 2 + 40 + 2 + 40 + 2 + 40 + 2 + 60 + 2 + 60 + 2 + 60 + 2 + 60 + 5 + 6 + 6 + 6 + 7 + 280 + 40 + 40) = pX 47 168 [.ref 0, .int 0] [] (va_up M54 11 (.inl (3, 3, .inr (.inr (.inr (.inr (va_up (fun _ => none) 0 (some 43)))))))) 51 (S + 6 + 4 + 5 + 6 + 6 + 6 + 7 + 280 + 40 + 40 + 3 + 6 + 6 + 6 + 7 + 4 + 64 + 448 + 61 + 64 + 64 + 6 + 2 + 40 + 2 + 40 + 2 + 40 + 2 + 40 + 2 + 40 + 2 + 40 + 2 + 60 + 2 + 60 + 2 + 60 + 2 + 60 + 5 + 6 + 6 + 6 + 7 + 280 + 40 + 40) := x_aast (ci := 0) (n := 3) (show pm_in 47 167 = some (.aastore, 1) from by decide +kernel) f54_11 f54_43 (by decide) (by decide) (Or.inr ⟨rfl, rfl⟩) (ib (j := 0) (n := 3) (by decide) (by decide))
  obtain ⟨M55, e55⟩ : ∃ m : pm_M, m = va_up M54 11 (.inl (3, 3, .inr (.inr (.inr (.inr (va_up (fun _ => none) 0 (some 43))))))) := ⟨_, rfl⟩
  rw [← e55] at q196
  refine q196.trans ?_
  have f55_0 : M55 0 = .inr (4, [.ref 1, .ref 2, .ref 3, .ref 11, .ref 12, .ref 16, .ref 20, .ref 21, .ref 22, .int 0, .int 0, .long 0, .long 1]) := by rw [e55, vn (show (0 : Nat) ≠ 11 by decide)]; exact f54_0
  have f55_1 : M55 1 = .inl (2, 6, .inr (.inr (.inr (.inr (va_up (va_up (va_up (va_up (va_up (va_up (fun _ => none) 0 (some 23)) 1 (some 25)) 2 (some 27)) 3 (some 29)) 4 (some 31)) 5 (some 33)))))) := by rw [e55, vn (show (1 : Nat) ≠ 11 by decide)]; exact f54_1
  have f55_2 : M55 2 = .inl (2, 4, .inr (.inr (.inr (.inr (va_up (va_up (va_up (va_up (fun _ => none) 0 (some 35)) 1 (some 37)) 2 (some 39)) 3 (some 41)))))) := by rw [e55, vn (show (2 : Nat) ≠ 11 by decide)]; exact f54_2
  have f55_3 : M55 3 = .inr (0, [.ref 4, .ref 8, .ref 9, .ref 10, .int 0]) := by rw [e55, vn (show (3 : Nat) ≠ 11 by decide)]; exact f54_3
  have f55_11 : M55 11 = .inl (3, 3, .inr (.inr (.inr (.inr (va_up (fun _ => none) 0 (some 43)))))) := by rw [e55, vs]
  have f55_12 : M55 12 = .inr (3, [.ref 13, .ref 14, .ref 15, .int 0, .int 0, .int 0]) := by rw [e55, vn (show (12 : Nat) ≠ 11 by decide)]; exact f54_12
  have f55_16 : M55 16 = .inr (2, [.ref 17, .ref 18, .ref 19, .int 0]) := by rw [e55, vn (show (16 : Nat) ≠ 11 by decide)]; exact f54_16
  refine Eq.trans (x_iinc (x := 0) (w := 1) (ls' := [.ref 0, .int 1]) (show pm_in 47 168 = some (.iinc 1 1, 3) from by decide +kernel) rfl (by decide) (congrArg (fun z : Int32 => ([.ref 0, .int z] : List Value)) (show (0 : Int32) + 1 = 1 from by decide))) ?_
  refine Eq.trans (x_goto (t := 150) (show pm_in 47 171 = some (.goto (-21), 3) from by decide +kernel) (by decide)) ?_
  refine Eq.trans (x_iload_n (show pm_in 47 150 = some (.iload_n 1, 1) from by decide +kernel) rfl) ?_
  refine Eq.trans (x_iconst (v := 3) (show pm_in 47 151 = some (.iconst 3, 1) from by decide +kernel) (by decide)) ?_
  refine Eq.trans ((x_icge (t := 174) (show pm_in 47 152 = some (.if_icmp .ge 22, 3) from by decide +kernel) (by decide)).trans (if_pos (by decide))) ?_
  refine Eq.trans (x_aload_n (show pm_in 47 155 = some (.aload_n 0, 1) from by decide +kernel) rfl) ?_
  refine Eq.trans (x_getf (ci := 4) (k := 3) (fs := [.ref 1, .ref 2, .ref 3, .ref 11, .ref 12, .ref 16, .ref 20, .ref 21, .ref 22, .int 0, .int 0, .long 0, .long 1]) (v := .ref 11) (show pm_in 47 156 = some (.getfield 25, 3) from by decide +kernel) (by decide +kernel) f55_0 (by decide) rfl) ?_
  refine Eq.trans (x_iload_n (show pm_in 47 159 = some (.iload_n 1, 1) from by decide +kernel) rfl) ?_
  have q205 : pX 47 160 [.ref 0, .int 1] [.int 1, .ref 11] M55 51 (S + 6 + 4 + 5 + 6 + 6 + 6 + 7 + 280 + 40 + 40 + 3 + 6 + 6 + 6 + 7 + 4 + 64 + 448 + 61 + 64 + 64 + 6 + 2 + 40 + 2 + 40 + 2 + 40 + 2 + 40 + 2 + 40 + 2 + 40 + 2 + 60 + 2 + 60 + 2 + 60 + 2 + 60 + 5 + 6 + 6 + 6 + 7 + 280 + 40 + 40) = pX 47 163 [.ref 0, .int 1] [.ref 51, .int 1, .ref 11] (va_up M55 51 (.inr (0, [.null, .null, .null, .null, .int 0]))) 52 (S + 6 + 4 + 5 + 6 + 6 + 6 + 7 + 280 + 40 + 40 + 3 + 6 + 6 + 6 + 7 + 4 + 64 + 448 + 61 + 64 + 64 + 6 + 2 + 40 + 2 + 40 + 2 + 40 + 2 + 40 + 2 + 40 + 2 + 40 + 2 + 60 + 2 + 60 + 2 + 60 + 2 + 60 + 5 + 6 + 6 + 6 + 7 + 280 + 40 + 40 + 5) := x_new (ci := 0) (k := 5) (show pm_in 47 160 = some (.new 18, 3) from by decide +kernel) (by decide +kernel) rfl rfl (by decide +kernel)
  obtain ⟨M56, e56⟩ : ∃ m : pm_M, m = va_up M55 51 (.inr (0, [.null, .null, .null, .null, .int 0])) := ⟨_, rfl⟩
  rw [← e56] at q205
  refine q205.trans ?_
  have f56_0 : M56 0 = .inr (4, [.ref 1, .ref 2, .ref 3, .ref 11, .ref 12, .ref 16, .ref 20, .ref 21, .ref 22, .int 0, .int 0, .long 0, .long 1]) := by rw [e56, vn (show (0 : Nat) ≠ 51 by decide)]; exact f55_0
  have f56_1 : M56 1 = .inl (2, 6, .inr (.inr (.inr (.inr (va_up (va_up (va_up (va_up (va_up (va_up (fun _ => none) 0 (some 23)) 1 (some 25)) 2 (some 27)) 3 (some 29)) 4 (some 31)) 5 (some 33)))))) := by rw [e56, vn (show (1 : Nat) ≠ 51 by decide)]; exact f55_1
  have f56_2 : M56 2 = .inl (2, 4, .inr (.inr (.inr (.inr (va_up (va_up (va_up (va_up (fun _ => none) 0 (some 35)) 1 (some 37)) 2 (some 39)) 3 (some 41)))))) := by rw [e56, vn (show (2 : Nat) ≠ 51 by decide)]; exact f55_2
  have f56_3 : M56 3 = .inr (0, [.ref 4, .ref 8, .ref 9, .ref 10, .int 0]) := by rw [e56, vn (show (3 : Nat) ≠ 51 by decide)]; exact f55_3
  have f56_11 : M56 11 = .inl (3, 3, .inr (.inr (.inr (.inr (va_up (fun _ => none) 0 (some 43)))))) := by rw [e56, vn (show (11 : Nat) ≠ 51 by decide)]; exact f55_11
  have f56_12 : M56 12 = .inr (3, [.ref 13, .ref 14, .ref 15, .int 0, .int 0, .int 0]) := by rw [e56, vn (show (12 : Nat) ≠ 51 by decide)]; exact f55_12
  have f56_16 : M56 16 = .inr (2, [.ref 17, .ref 18, .ref 19, .int 0]) := by rw [e56, vn (show (16 : Nat) ≠ 51 by decide)]; exact f55_16
  have f56_51 : M56 51 = .inr (0, [.null, .null, .null, .null, .int 0]) := by rw [e56, vs]
  refine Eq.trans (x_dup (show pm_in 47 163 = some (.dup, 1) from by decide +kernel) rfl) ?_
  have q207 : pX 47 164 [.ref 0, .int 1] [.ref 51, .ref 51, .int 1, .ref 11] M56 52 (S + 6 + 4 + 5 + 6 + 6 + 6 + 7 + 280 + 40 + 40 + 3 + 6 + 6 + 6 + 7 + 4 + 64 + 448 + 61 + 64 + 64 + 6 + 2 + 40 + 2 + 40 + 2 + 40 + 2 + 40 + 2 + 40 + 2 + 40 + 2 + 60 + 2 + 60 + 2 + 60 + 2 + 60 + 5 + 6 + 6 + 6 + 7 + 280 + 40 + 40 + 5) = pX 47 167 [.ref 0, .int 1] [.ref 51, .int 1, .ref 11] (va_up (va_up (va_up (va_up (va_up (va_up (va_up (va_up (va_up (va_up (va_up (va_up (va_up (va_up M56 52 (.inr (3, [.null, .null, .null, .int 0, .int 0, .int 0]))) 53 (.inl (0, 6, .inl (fun _ => 0)))) 52 (.inr (3, [.ref 53, .null, .null, .int 0, .int 0, .int 0]))) 54 (.inl (0, 6, .inl (fun _ => 0)))) 52 (.inr (3, [.ref 53, .ref 54, .null, .int 0, .int 0, .int 0]))) 55 (.inl (0, 7, .inl (fun _ => 0)))) 52 (.inr (3, [.ref 53, .ref 54, .ref 55, .int 0, .int 0, .int 0]))) 51 (.inr (0, [.ref 52, .null, .null, .null, .int 0]))) 56 (.inl (0, 280, .inl (fun _ => 0)))) 51 (.inr (0, [.ref 52, .ref 56, .null, .null, .int 0]))) 57 (.inl (0, 40, .inl (fun _ => 0)))) 51 (.inr (0, [.ref 52, .ref 56, .ref 57, .null, .int 0]))) 58 (.inl (0, 40, .inl (fun _ => 0)))) 51 (.inr (0, [.ref 52, .ref 56, .ref 57, .ref 58, .int 0]))) 59 (S + 6 + 4 + 5 + 6 + 6 + 6 + 7 + 280 + 40 + 40 + 3 + 6 + 6 + 6 + 7 + 4 + 64 + 448 + 61 + 64 + 64 + 6 + 2 + 40 + 2 + 40 + 2 + 40 + 2 + 40 + 2 + 40 + 2 + 40 + 2 + 60 + 2 + 60 + 2 + 60 + 2 + 60 + 5 + 6 + 6 + 6 + 7 + 280 + 40 + 40 + 5 + 6 + 6 + 6 + 7 + 280 + 40 + 40) := x_callI (y' := 0) (k := 0) (kd := 4) (b := 51) (as := []) (st' := [.ref 51, .int 1, .ref 11]) (show pm_in 47 164 = some (.invokespecial 20, 3) from by decide +kernel) (by decide +kernel) (by decide) rfl rfl (by decide +kernel) (Nat.le_of_ble_eq_true rfl) (by decide +kernel) (by decide +kernel) rfl (by decide +kernel) (by decide +kernel) (ini0_51 (M := M56) (S := S + 6 + 4 + 5 + 6 + 6 + 6 + 7 + 280 + 40 + 40 + 3 + 6 + 6 + 6 + 7 + 4 + 64 + 448 + 61 + 64 + 64 + 6 + 2 + 40 + 2 + 40 + 2 + 40 + 2 + 40 + 2 + 40 + 2 + 40 + 2 + 60 + 2 + 60 + 2 + 60 + 2 + 60 + 5 + 6 + 6 + 6 + 7 + 280 + 40 + 40 + 5) f56_51)
  obtain ⟨M57, e57⟩ : ∃ m : pm_M, m = va_up (va_up (va_up (va_up (va_up (va_up (va_up (va_up (va_up (va_up (va_up (va_up (va_up (va_up M56 52 (.inr (3, [.null, .null, .null, .int 0, .int 0, .int 0]))) 53 (.inl (0, 6, .inl (fun _ => 0)))) 52 (.inr (3, [.ref 53, .null, .null, .int 0, .int 0, .int 0]))) 54 (.inl (0, 6, .inl (fun _ => 0)))) 52 (.inr (3, [.ref 53, .ref 54, .null, .int 0, .int 0, .int 0]))) 55 (.inl (0, 7, .inl (fun _ => 0)))) 52 (.inr (3, [.ref 53, .ref 54, .ref 55, .int 0, .int 0, .int 0]))) 51 (.inr (0, [.ref 52, .null, .null, .null, .int 0]))) 56 (.inl (0, 280, .inl (fun _ => 0)))) 51 (.inr (0, [.ref 52, .ref 56, .null, .null, .int 0]))) 57 (.inl (0, 40, .inl (fun _ => 0)))) 51 (.inr (0, [.ref 52, .ref 56, .ref 57, .null, .int 0]))) 58 (.inl (0, 40, .inl (fun _ => 0)))) 51 (.inr (0, [.ref 52, .ref 56, .ref 57, .ref 58, .int 0])) := ⟨_, rfl⟩
  rw [← e57] at q207
  refine q207.trans ?_
  have f57_0 : M57 0 = .inr (4, [.ref 1, .ref 2, .ref 3, .ref 11, .ref 12, .ref 16, .ref 20, .ref 21, .ref 22, .int 0, .int 0, .long 0, .long 1]) := by rw [e57, vn (show (0 : Nat) ≠ 51 by decide), vn (show (0 : Nat) ≠ 58 by decide), vn (show (0 : Nat) ≠ 51 by decide), vn (show (0 : Nat) ≠ 57 by decide), vn (show (0 : Nat) ≠ 51 by decide), vn (show (0 : Nat) ≠ 56 by decide), vn (show (0 : Nat) ≠ 51 by decide), vn (show (0 : Nat) ≠ 52 by decide), vn (show (0 : Nat) ≠ 55 by decide), vn (show (0 : Nat) ≠ 52 by decide), vn (show (0 : Nat) ≠ 54 by decide), vn (show (0 : Nat) ≠ 52 by decide), vn (show (0 : Nat) ≠ 53 by decide), vn (show (0 : Nat) ≠ 52 by decide)]; exact f56_0
  have f57_1 : M57 1 = .inl (2, 6, .inr (.inr (.inr (.inr (va_up (va_up (va_up (va_up (va_up (va_up (fun _ => none) 0 (some 23)) 1 (some 25)) 2 (some 27)) 3 (some 29)) 4 (some 31)) 5 (some 33)))))) := by rw [e57, vn (show (1 : Nat) ≠ 51 by decide), vn (show (1 : Nat) ≠ 58 by decide), vn (show (1 : Nat) ≠ 51 by decide), vn (show (1 : Nat) ≠ 57 by decide), vn (show (1 : Nat) ≠ 51 by decide), vn (show (1 : Nat) ≠ 56 by decide), vn (show (1 : Nat) ≠ 51 by decide), vn (show (1 : Nat) ≠ 52 by decide), vn (show (1 : Nat) ≠ 55 by decide), vn (show (1 : Nat) ≠ 52 by decide), vn (show (1 : Nat) ≠ 54 by decide), vn (show (1 : Nat) ≠ 52 by decide), vn (show (1 : Nat) ≠ 53 by decide), vn (show (1 : Nat) ≠ 52 by decide)]; exact f56_1
  have f57_2 : M57 2 = .inl (2, 4, .inr (.inr (.inr (.inr (va_up (va_up (va_up (va_up (fun _ => none) 0 (some 35)) 1 (some 37)) 2 (some 39)) 3 (some 41)))))) := by rw [e57, vn (show (2 : Nat) ≠ 51 by decide), vn (show (2 : Nat) ≠ 58 by decide), vn (show (2 : Nat) ≠ 51 by decide), vn (show (2 : Nat) ≠ 57 by decide), vn (show (2 : Nat) ≠ 51 by decide), vn (show (2 : Nat) ≠ 56 by decide), vn (show (2 : Nat) ≠ 51 by decide), vn (show (2 : Nat) ≠ 52 by decide), vn (show (2 : Nat) ≠ 55 by decide), vn (show (2 : Nat) ≠ 52 by decide), vn (show (2 : Nat) ≠ 54 by decide), vn (show (2 : Nat) ≠ 52 by decide), vn (show (2 : Nat) ≠ 53 by decide), vn (show (2 : Nat) ≠ 52 by decide)]; exact f56_2
  have f57_3 : M57 3 = .inr (0, [.ref 4, .ref 8, .ref 9, .ref 10, .int 0]) := by rw [e57, vn (show (3 : Nat) ≠ 51 by decide), vn (show (3 : Nat) ≠ 58 by decide), vn (show (3 : Nat) ≠ 51 by decide), vn (show (3 : Nat) ≠ 57 by decide), vn (show (3 : Nat) ≠ 51 by decide), vn (show (3 : Nat) ≠ 56 by decide), vn (show (3 : Nat) ≠ 51 by decide), vn (show (3 : Nat) ≠ 52 by decide), vn (show (3 : Nat) ≠ 55 by decide), vn (show (3 : Nat) ≠ 52 by decide), vn (show (3 : Nat) ≠ 54 by decide), vn (show (3 : Nat) ≠ 52 by decide), vn (show (3 : Nat) ≠ 53 by decide), vn (show (3 : Nat) ≠ 52 by decide)]; exact f56_3
  have f57_11 : M57 11 = .inl (3, 3, .inr (.inr (.inr (.inr (va_up (fun _ => none) 0 (some 43)))))) := by rw [e57, vn (show (11 : Nat) ≠ 51 by decide), vn (show (11 : Nat) ≠ 58 by decide), vn (show (11 : Nat) ≠ 51 by decide), vn (show (11 : Nat) ≠ 57 by decide), vn (show (11 : Nat) ≠ 51 by decide), vn (show (11 : Nat) ≠ 56 by decide), vn (show (11 : Nat) ≠ 51 by decide), vn (show (11 : Nat) ≠ 52 by decide), vn (show (11 : Nat) ≠ 55 by decide), vn (show (11 : Nat) ≠ 52 by decide), vn (show (11 : Nat) ≠ 54 by decide), vn (show (11 : Nat) ≠ 52 by decide), vn (show (11 : Nat) ≠ 53 by decide), vn (show (11 : Nat) ≠ 52 by decide)]; exact f56_11
  have f57_12 : M57 12 = .inr (3, [.ref 13, .ref 14, .ref 15, .int 0, .int 0, .int 0]) := by rw [e57, vn (show (12 : Nat) ≠ 51 by decide), vn (show (12 : Nat) ≠ 58 by decide), vn (show (12 : Nat) ≠ 51 by decide), vn (show (12 : Nat) ≠ 57 by decide), vn (show (12 : Nat) ≠ 51 by decide), vn (show (12 : Nat) ≠ 56 by decide), vn (show (12 : Nat) ≠ 51 by decide), vn (show (12 : Nat) ≠ 52 by decide), vn (show (12 : Nat) ≠ 55 by decide), vn (show (12 : Nat) ≠ 52 by decide), vn (show (12 : Nat) ≠ 54 by decide), vn (show (12 : Nat) ≠ 52 by decide), vn (show (12 : Nat) ≠ 53 by decide), vn (show (12 : Nat) ≠ 52 by decide)]; exact f56_12
  have f57_16 : M57 16 = .inr (2, [.ref 17, .ref 18, .ref 19, .int 0]) := by rw [e57, vn (show (16 : Nat) ≠ 51 by decide), vn (show (16 : Nat) ≠ 58 by decide), vn (show (16 : Nat) ≠ 51 by decide), vn (show (16 : Nat) ≠ 57 by decide), vn (show (16 : Nat) ≠ 51 by decide), vn (show (16 : Nat) ≠ 56 by decide), vn (show (16 : Nat) ≠ 51 by decide), vn (show (16 : Nat) ≠ 52 by decide), vn (show (16 : Nat) ≠ 55 by decide), vn (show (16 : Nat) ≠ 52 by decide), vn (show (16 : Nat) ≠ 54 by decide), vn (show (16 : Nat) ≠ 52 by decide), vn (show (16 : Nat) ≠ 53 by decide), vn (show (16 : Nat) ≠ 52 by decide)]; exact f56_16
  have f57_51 : M57 51 = .inr (0, [.ref 52, .ref 56, .ref 57, .ref 58, .int 0]) := by rw [e57, vs]
  have q208 : pX 47 167 [.ref 0, .int 1] [.ref 51, .int 1, .ref 11] M57 59 (S + 6 + 4 + 5 + 6 + 6 + 6 + 7 + 280 + 40 + 40 + 3 + 6 + 6 + 6 + 7 + 4 + 64 + 448 + 61 + 64 + 64 + 6 + 2 + 40 + 2 + 40 + 2 + 40 + 2 + 40 + 2 + 40 + 2 + 40 + 2 + 60 + 2 + 60 + 2 + 60 + 2 + 60 + 5 + 6 + 6 + 6 + 7 + 280 + 40 + 40 + 5 + 6 + 6 + 6 + 7 + 280 + 40 + 40) = pX 47 168 [.ref 0, .int 1] [] (va_up M57 11 (.inl (3, 3, .inr (.inr (.inr (.inr (va_up (va_up (fun _ => none) 0 (some 43)) 1 (some 51)))))))) 59 (S + 6 + 4 + 5 + 6 + 6 + 6 + 7 + 280 + 40 + 40 + 3 + 6 + 6 + 6 + 7 + 4 + 64 + 448 + 61 + 64 + 64 + 6 + 2 + 40 + 2 + 40 + 2 + 40 + 2 + 40 + 2 + 40 + 2 + 40 + 2 + 60 + 2 + 60 + 2 + 60 + 2 + 60 + 5 + 6 + 6 + 6 + 7 + 280 + 40 + 40 + 5 + 6 + 6 + 6 + 7 + 280 + 40 + 40) := x_aast (ci := 0) (n := 3) (show pm_in 47 167 = some (.aastore, 1) from by decide +kernel) f57_11 f57_51 (by decide) (by decide) (Or.inr ⟨rfl, rfl⟩) (ib (j := 1) (n := 3) (by decide) (by decide))
  obtain ⟨M58, e58⟩ : ∃ m : pm_M, m = va_up M57 11 (.inl (3, 3, .inr (.inr (.inr (.inr (va_up (va_up (fun _ => none) 0 (some 43)) 1 (some 51))))))) := ⟨_, rfl⟩
  rw [← e58] at q208
  refine q208.trans ?_
  have f58_0 : M58 0 = .inr (4, [.ref 1, .ref 2, .ref 3, .ref 11, .ref 12, .ref 16, .ref 20, .ref 21, .ref 22, .int 0, .int 0, .long 0, .long 1]) := by rw [e58, vn (show (0 : Nat) ≠ 11 by decide)]; exact f57_0
  have f58_1 : M58 1 = .inl (2, 6, .inr (.inr (.inr (.inr (va_up (va_up (va_up (va_up (va_up (va_up (fun _ => none) 0 (some 23)) 1 (some 25)) 2 (some 27)) 3 (some 29)) 4 (some 31)) 5 (some 33)))))) := by rw [e58, vn (show (1 : Nat) ≠ 11 by decide)]; exact f57_1
  have f58_2 : M58 2 = .inl (2, 4, .inr (.inr (.inr (.inr (va_up (va_up (va_up (va_up (fun _ => none) 0 (some 35)) 1 (some 37)) 2 (some 39)) 3 (some 41)))))) := by rw [e58, vn (show (2 : Nat) ≠ 11 by decide)]; exact f57_2
  have f58_3 : M58 3 = .inr (0, [.ref 4, .ref 8, .ref 9, .ref 10, .int 0]) := by rw [e58, vn (show (3 : Nat) ≠ 11 by decide)]; exact f57_3
  have f58_11 : M58 11 = .inl (3, 3, .inr (.inr (.inr (.inr (va_up (va_up (fun _ => none) 0 (some 43)) 1 (some 51)))))) := by rw [e58, vs]
  have f58_12 : M58 12 = .inr (3, [.ref 13, .ref 14, .ref 15, .int 0, .int 0, .int 0]) := by rw [e58, vn (show (12 : Nat) ≠ 11 by decide)]; exact f57_12
  have f58_16 : M58 16 = .inr (2, [.ref 17, .ref 18, .ref 19, .int 0]) := by rw [e58, vn (show (16 : Nat) ≠ 11 by decide)]; exact f57_16
  refine Eq.trans (x_iinc (x := 1) (w := 1) (ls' := [.ref 0, .int 2]) (show pm_in 47 168 = some (.iinc 1 1, 3) from by decide +kernel) rfl (by decide) (congrArg (fun z : Int32 => ([.ref 0, .int z] : List Value)) (show (1 : Int32) + 1 = 2 from by decide))) ?_
  refine Eq.trans (x_goto (t := 150) (show pm_in 47 171 = some (.goto (-21), 3) from by decide +kernel) (by decide)) ?_
  refine Eq.trans (x_iload_n (show pm_in 47 150 = some (.iload_n 1, 1) from by decide +kernel) rfl) ?_
  refine Eq.trans (x_iconst (v := 3) (show pm_in 47 151 = some (.iconst 3, 1) from by decide +kernel) (by decide)) ?_
  refine Eq.trans ((x_icge (t := 174) (show pm_in 47 152 = some (.if_icmp .ge 22, 3) from by decide +kernel) (by decide)).trans (if_pos (by decide))) ?_
  refine Eq.trans (x_aload_n (show pm_in 47 155 = some (.aload_n 0, 1) from by decide +kernel) rfl) ?_
  refine Eq.trans (x_getf (ci := 4) (k := 3) (fs := [.ref 1, .ref 2, .ref 3, .ref 11, .ref 12, .ref 16, .ref 20, .ref 21, .ref 22, .int 0, .int 0, .long 0, .long 1]) (v := .ref 11) (show pm_in 47 156 = some (.getfield 25, 3) from by decide +kernel) (by decide +kernel) f58_0 (by decide) rfl) ?_
  refine Eq.trans (x_iload_n (show pm_in 47 159 = some (.iload_n 1, 1) from by decide +kernel) rfl) ?_
  have q217 : pX 47 160 [.ref 0, .int 2] [.int 2, .ref 11] M58 59 (S + 6 + 4 + 5 + 6 + 6 + 6 + 7 + 280 + 40 + 40 + 3 + 6 + 6 + 6 + 7 + 4 + 64 + 448 + 61 + 64 + 64 + 6 + 2 + 40 + 2 + 40 + 2 + 40 + 2 + 40 + 2 + 40 + 2 + 40 + 2 + 60 + 2 + 60 + 2 + 60 + 2 + 60 + 5 + 6 + 6 + 6 + 7 + 280 + 40 + 40 + 5 + 6 + 6 + 6 + 7 + 280 + 40 + 40) = pX 47 163 [.ref 0, .int 2] [.ref 59, .int 2, .ref 11] (va_up M58 59 (.inr (0, [.null, .null, .null, .null, .int 0]))) 60 (S + 6 + 4 + 5 + 6 + 6 + 6 + 7 + 280 + 40 + 40 + 3 + 6 + 6 + 6 + 7 + 4 + 64 + 448 + 61 + 64 + 64 + 6 + 2 + 40 + 2 + 40 + 2 + 40 + 2 + 40 + 2 + 40 + 2 + 40 + 2 + 60 + 2 + 60 + 2 + 60 + 2 + 60 + 5 + 6 + 6 + 6 + 7 + 280 + 40 + 40 + 5 + 6 + 6 + 6 + 7 + 280 + 40 + 40 + 5) := x_new (ci := 0) (k := 5) (show pm_in 47 160 = some (.new 18, 3) from by decide +kernel) (by decide +kernel) rfl rfl (by decide +kernel)
  obtain ⟨M59, e59⟩ : ∃ m : pm_M, m = va_up M58 59 (.inr (0, [.null, .null, .null, .null, .int 0])) := ⟨_, rfl⟩
  rw [← e59] at q217
  refine q217.trans ?_
  have f59_0 : M59 0 = .inr (4, [.ref 1, .ref 2, .ref 3, .ref 11, .ref 12, .ref 16, .ref 20, .ref 21, .ref 22, .int 0, .int 0, .long 0, .long 1]) := by rw [e59, vn (show (0 : Nat) ≠ 59 by decide)]; exact f58_0
  have f59_1 : M59 1 = .inl (2, 6, .inr (.inr (.inr (.inr (va_up (va_up (va_up (va_up (va_up (va_up (fun _ => none) 0 (some 23)) 1 (some 25)) 2 (some 27)) 3 (some 29)) 4 (some 31)) 5 (some 33)))))) := by rw [e59, vn (show (1 : Nat) ≠ 59 by decide)]; exact f58_1
  have f59_2 : M59 2 = .inl (2, 4, .inr (.inr (.inr (.inr (va_up (va_up (va_up (va_up (fun _ => none) 0 (some 35)) 1 (some 37)) 2 (some 39)) 3 (some 41)))))) := by rw [e59, vn (show (2 : Nat) ≠ 59 by decide)]; exact f58_2
  have f59_3 : M59 3 = .inr (0, [.ref 4, .ref 8, .ref 9, .ref 10, .int 0]) := by rw [e59, vn (show (3 : Nat) ≠ 59 by decide)]; exact f58_3
  have f59_11 : M59 11 = .inl (3, 3, .inr (.inr (.inr (.inr (va_up (va_up (fun _ => none) 0 (some 43)) 1 (some 51)))))) := by rw [e59, vn (show (11 : Nat) ≠ 59 by decide)]; exact f58_11
  have f59_12 : M59 12 = .inr (3, [.ref 13, .ref 14, .ref 15, .int 0, .int 0, .int 0]) := by rw [e59, vn (show (12 : Nat) ≠ 59 by decide)]; exact f58_12
  have f59_16 : M59 16 = .inr (2, [.ref 17, .ref 18, .ref 19, .int 0]) := by rw [e59, vn (show (16 : Nat) ≠ 59 by decide)]; exact f58_16
  have f59_59 : M59 59 = .inr (0, [.null, .null, .null, .null, .int 0]) := by rw [e59, vs]
  refine Eq.trans (x_dup (show pm_in 47 163 = some (.dup, 1) from by decide +kernel) rfl) ?_
  have q219 : pX 47 164 [.ref 0, .int 2] [.ref 59, .ref 59, .int 2, .ref 11] M59 60 (S + 6 + 4 + 5 + 6 + 6 + 6 + 7 + 280 + 40 + 40 + 3 + 6 + 6 + 6 + 7 + 4 + 64 + 448 + 61 + 64 + 64 + 6 + 2 + 40 + 2 + 40 + 2 + 40 + 2 + 40 + 2 + 40 + 2 + 40 + 2 + 60 + 2 + 60 + 2 + 60 + 2 + 60 + 5 + 6 + 6 + 6 + 7 + 280 + 40 + 40 + 5 + 6 + 6 + 6 + 7 + 280 + 40 + 40 + 5) = pX 47 167 [.ref 0, .int 2] [.ref 59, .int 2, .ref 11] (va_up (va_up (va_up (va_up (va_up (va_up (va_up (va_up (va_up (va_up (va_up (va_up (va_up (va_up M59 60 (.inr (3, [.null, .null, .null, .int 0, .int 0, .int 0]))) 61 (.inl (0, 6, .inl (fun _ => 0)))) 60 (.inr (3, [.ref 61, .null, .null, .int 0, .int 0, .int 0]))) 62 (.inl (0, 6, .inl (fun _ => 0)))) 60 (.inr (3, [.ref 61, .ref 62, .null, .int 0, .int 0, .int 0]))) 63 (.inl (0, 7, .inl (fun _ => 0)))) 60 (.inr (3, [.ref 61, .ref 62, .ref 63, .int 0, .int 0, .int 0]))) 59 (.inr (0, [.ref 60, .null, .null, .null, .int 0]))) 64 (.inl (0, 280, .inl (fun _ => 0)))) 59 (.inr (0, [.ref 60, .ref 64, .null, .null, .int 0]))) 65 (.inl (0, 40, .inl (fun _ => 0)))) 59 (.inr (0, [.ref 60, .ref 64, .ref 65, .null, .int 0]))) 66 (.inl (0, 40, .inl (fun _ => 0)))) 59 (.inr (0, [.ref 60, .ref 64, .ref 65, .ref 66, .int 0]))) 67 (S + 6 + 4 + 5 + 6 + 6 + 6 + 7 + 280 + 40 + 40 + 3 + 6 + 6 + 6 + 7 + 4 + 64 + 448 + 61 + 64 + 64 + 6 + 2 + 40 + 2 + 40 + 2 + 40 + 2 + 40 + 2 + 40 + 2 + 40 + 2 + 60 + 2 + 60 + 2 + 60 + 2 + 60 + 5 + 6 + 6 + 6 + 7 + 280 + 40 + 40 + 5 + 6 + 6 + 6 + 7 + 280 + 40 + 40 + 5 + 6 + 6 + 6 + 7 + 280 + 40 + 40) := x_callI (y' := 0) (k := 0) (kd := 4) (b := 59) (as := []) (st' := [.ref 59, .int 2, .ref 11]) (show pm_in 47 164 = some (.invokespecial 20, 3) from by decide +kernel) (by decide +kernel) (by decide) rfl rfl (by decide +kernel) (Nat.le_of_ble_eq_true rfl) (by decide +kernel) (by decide +kernel) rfl (by decide +kernel) (by decide +kernel) (ini0_59 (M := M59) (S := S + 6 + 4 + 5 + 6 + 6 + 6 + 7 + 280 + 40 + 40 + 3 + 6 + 6 + 6 + 7 + 4 + 64 + 448 + 61 + 64 + 64 + 6 + 2 + 40 + 2 + 40 + 2 + 40 + 2 + 40 + 2 + 40 + 2 + 40 + 2 + 60 + 2 + 60 + 2 + 60 + 2 + 60 + 5 + 6 + 6 + 6 + 7 + 280 + 40 + 40 + 5 + 6 + 6 + 6 + 7 + 280 + 40 + 40 + 5) f59_59)
  obtain ⟨M60, e60⟩ : ∃ m : pm_M, m = va_up (va_up (va_up (va_up (va_up (va_up (va_up (va_up (va_up (va_up (va_up (va_up (va_up (va_up M59 60 (.inr (3, [.null, .null, .null, .int 0, .int 0, .int 0]))) 61 (.inl (0, 6, .inl (fun _ => 0)))) 60 (.inr (3, [.ref 61, .null, .null, .int 0, .int 0, .int 0]))) 62 (.inl (0, 6, .inl (fun _ => 0)))) 60 (.inr (3, [.ref 61, .ref 62, .null, .int 0, .int 0, .int 0]))) 63 (.inl (0, 7, .inl (fun _ => 0)))) 60 (.inr (3, [.ref 61, .ref 62, .ref 63, .int 0, .int 0, .int 0]))) 59 (.inr (0, [.ref 60, .null, .null, .null, .int 0]))) 64 (.inl (0, 280, .inl (fun _ => 0)))) 59 (.inr (0, [.ref 60, .ref 64, .null, .null, .int 0]))) 65 (.inl (0, 40, .inl (fun _ => 0)))) 59 (.inr (0, [.ref 60, .ref 64, .ref 65, .null, .int 0]))) 66 (.inl (0, 40, .inl (fun _ => 0)))) 59 (.inr (0, [.ref 60, .ref 64, .ref 65, .ref 66, .int 0])) := ⟨_, rfl⟩
  rw [← e60] at q219
  refine q219.trans ?_
  have f60_0 : M60 0 = .inr (4, [.ref 1, .ref 2, .ref 3, .ref 11, .ref 12, .ref 16, .ref 20, .ref 21, .ref 22, .int 0, .int 0, .long 0, .long 1]) := by rw [e60, vn (show (0 : Nat) ≠ 59 by decide), vn (show (0 : Nat) ≠ 66 by decide), vn (show (0 : Nat) ≠ 59 by decide), vn (show (0 : Nat) ≠ 65 by decide), vn (show (0 : Nat) ≠ 59 by decide), vn (show (0 : Nat) ≠ 64 by decide), vn (show (0 : Nat) ≠ 59 by decide), vn (show (0 : Nat) ≠ 60 by decide), vn (show (0 : Nat) ≠ 63 by decide), vn (show (0 : Nat) ≠ 60 by decide), vn (show (0 : Nat) ≠ 62 by decide), vn (show (0 : Nat) ≠ 60 by decide), vn (show (0 : Nat) ≠ 61 by decide), vn (show (0 : Nat) ≠ 60 by decide)]; exact f59_0
  have f60_1 : M60 1 = .inl (2, 6, .inr (.inr (.inr (.inr (va_up (va_up (va_up (va_up (va_up (va_up (fun _ => none) 0 (some 23)) 1 (some 25)) 2 (some 27)) 3 (some 29)) 4 (some 31)) 5 (some 33)))))) := by rw [e60, vn (show (1 : Nat) ≠ 59 by decide), vn (show (1 : Nat) ≠ 66 by decide), vn (show (1 : Nat) ≠ 59 by decide), vn (show (1 : Nat) ≠ 65 by decide), vn (show (1 : Nat) ≠ 59 by decide), vn (show (1 : Nat) ≠ 64 by decide), vn (show (1 : Nat) ≠ 59 by decide), vn (show (1 : Nat) ≠ 60 by decide), vn (show (1 : Nat) ≠ 63 by decide), vn (show (1 : Nat) ≠ 60 by decide), vn (show (1 : Nat) ≠ 62 by decide), vn (show (1 : Nat) ≠ 60 by decide), vn (show (1 : Nat) ≠ 61 by decide), vn (show (1 : Nat) ≠ 60 by decide)]; exact f59_1
  have f60_2 : M60 2 = .inl (2, 4, .inr (.inr (.inr (.inr (va_up (va_up (va_up (va_up (fun _ => none) 0 (some 35)) 1 (some 37)) 2 (some 39)) 3 (some 41)))))) := by rw [e60, vn (show (2 : Nat) ≠ 59 by decide), vn (show (2 : Nat) ≠ 66 by decide), vn (show (2 : Nat) ≠ 59 by decide), vn (show (2 : Nat) ≠ 65 by decide), vn (show (2 : Nat) ≠ 59 by decide), vn (show (2 : Nat) ≠ 64 by decide), vn (show (2 : Nat) ≠ 59 by decide), vn (show (2 : Nat) ≠ 60 by decide), vn (show (2 : Nat) ≠ 63 by decide), vn (show (2 : Nat) ≠ 60 by decide), vn (show (2 : Nat) ≠ 62 by decide), vn (show (2 : Nat) ≠ 60 by decide), vn (show (2 : Nat) ≠ 61 by decide), vn (show (2 : Nat) ≠ 60 by decide)]; exact f59_2
  have f60_3 : M60 3 = .inr (0, [.ref 4, .ref 8, .ref 9, .ref 10, .int 0]) := by rw [e60, vn (show (3 : Nat) ≠ 59 by decide), vn (show (3 : Nat) ≠ 66 by decide), vn (show (3 : Nat) ≠ 59 by decide), vn (show (3 : Nat) ≠ 65 by decide), vn (show (3 : Nat) ≠ 59 by decide), vn (show (3 : Nat) ≠ 64 by decide), vn (show (3 : Nat) ≠ 59 by decide), vn (show (3 : Nat) ≠ 60 by decide), vn (show (3 : Nat) ≠ 63 by decide), vn (show (3 : Nat) ≠ 60 by decide), vn (show (3 : Nat) ≠ 62 by decide), vn (show (3 : Nat) ≠ 60 by decide), vn (show (3 : Nat) ≠ 61 by decide), vn (show (3 : Nat) ≠ 60 by decide)]; exact f59_3
  have f60_11 : M60 11 = .inl (3, 3, .inr (.inr (.inr (.inr (va_up (va_up (fun _ => none) 0 (some 43)) 1 (some 51)))))) := by rw [e60, vn (show (11 : Nat) ≠ 59 by decide), vn (show (11 : Nat) ≠ 66 by decide), vn (show (11 : Nat) ≠ 59 by decide), vn (show (11 : Nat) ≠ 65 by decide), vn (show (11 : Nat) ≠ 59 by decide), vn (show (11 : Nat) ≠ 64 by decide), vn (show (11 : Nat) ≠ 59 by decide), vn (show (11 : Nat) ≠ 60 by decide), vn (show (11 : Nat) ≠ 63 by decide), vn (show (11 : Nat) ≠ 60 by decide), vn (show (11 : Nat) ≠ 62 by decide), vn (show (11 : Nat) ≠ 60 by decide), vn (show (11 : Nat) ≠ 61 by decide), vn (show (11 : Nat) ≠ 60 by decide)]; exact f59_11
  have f60_12 : M60 12 = .inr (3, [.ref 13, .ref 14, .ref 15, .int 0, .int 0, .int 0]) := by rw [e60, vn (show (12 : Nat) ≠ 59 by decide), vn (show (12 : Nat) ≠ 66 by decide), vn (show (12 : Nat) ≠ 59 by decide), vn (show (12 : Nat) ≠ 65 by decide), vn (show (12 : Nat) ≠ 59 by decide), vn (show (12 : Nat) ≠ 64 by decide), vn (show (12 : Nat) ≠ 59 by decide), vn (show (12 : Nat) ≠ 60 by decide), vn (show (12 : Nat) ≠ 63 by decide), vn (show (12 : Nat) ≠ 60 by decide), vn (show (12 : Nat) ≠ 62 by decide), vn (show (12 : Nat) ≠ 60 by decide), vn (show (12 : Nat) ≠ 61 by decide), vn (show (12 : Nat) ≠ 60 by decide)]; exact f59_12
  have f60_16 : M60 16 = .inr (2, [.ref 17, .ref 18, .ref 19, .int 0]) := by rw [e60, vn (show (16 : Nat) ≠ 59 by decide), vn (show (16 : Nat) ≠ 66 by decide), vn (show (16 : Nat) ≠ 59 by decide), vn (show (16 : Nat) ≠ 65 by decide), vn (show (16 : Nat) ≠ 59 by decide), vn (show (16 : Nat) ≠ 64 by decide), vn (show (16 : Nat) ≠ 59 by decide), vn (show (16 : Nat) ≠ 60 by decide), vn (show (16 : Nat) ≠ 63 by decide), vn (show (16 : Nat) ≠ 60 by decide), vn (show (16 : Nat) ≠ 62 by decide), vn (show (16 : Nat) ≠ 60 by decide), vn (show (16 : Nat) ≠ 61 by decide), vn (show (16 : Nat) ≠ 60 by decide)]; exact f59_16
  have f60_59 : M60 59 = .inr (0, [.ref 60, .ref 64, .ref 65, .ref 66, .int 0]) := by rw [e60, vs]
  have q220 : pX 47 167 [.ref 0, .int 2] [.ref 59, .int 2, .ref 11] M60 67 (S + 6 + 4 + 5 + 6 + 6 + 6 + 7 + 280 + 40 + 40 + 3 + 6 + 6 + 6 + 7 + 4 + 64 + 448 + 61 + 64 + 64 + 6 + 2 + 40 + 2 + 40 + 2 + 40 + 2 + 40 + 2 + 40 + 2 + 40 + 2 + 60 + 2 + 60 + 2 + 60 + 2 + 60 + 5 + 6 + 6 + 6 + 7 + 280 + 40 + 40 + 5 + 6 + 6 + 6 + 7 + 280 + 40 + 40 + 5 + 6 + 6 + 6 + 7 + 280 + 40 + 40) = pX 47 168 [.ref 0, .int 2] [] (va_up M60 11 (.inl (3, 3, .inr (.inr (.inr (.inr (va_up (va_up (va_up (fun _ => none) 0 (some 43)) 1 (some 51)) 2 (some 59)))))))) 67 (S + 6 + 4 + 5 + 6 + 6 + 6 + 7 + 280 + 40 + 40 + 3 + 6 + 6 + 6 + 7 + 4 + 64 + 448 + 61 + 64 + 64 + 6 + 2 + 40 + 2 + 40 + 2 + 40 + 2 + 40 + 2 + 40 + 2 + 40 + 2 + 60 + 2 + 60 + 2 + 60 + 2 + 60 + 5 + 6 + 6 + 6 + 7 + 280 + 40 + 40 + 5 + 6 + 6 + 6 + 7 + 280 + 40 + 40 + 5 + 6 + 6 + 6 + 7 + 280 + 40 + 40) := x_aast (ci := 0) (n := 3) (show pm_in 47 167 = some (.aastore, 1) from by decide +kernel) f60_11 f60_59 (by decide) (by decide) (Or.inr ⟨rfl, rfl⟩) (ib (j := 2) (n := 3) (by decide) (by decide))
  obtain ⟨M61, e61⟩ : ∃ m : pm_M, m = va_up M60 11 (.inl (3, 3, .inr (.inr (.inr (.inr (va_up (va_up (va_up (fun _ => none) 0 (some 43)) 1 (some 51)) 2 (some 59))))))) := ⟨_, rfl⟩
  rw [← e61] at q220
  refine q220.trans ?_
  have f61_0 : M61 0 = .inr (4, [.ref 1, .ref 2, .ref 3, .ref 11, .ref 12, .ref 16, .ref 20, .ref 21, .ref 22, .int 0, .int 0, .long 0, .long 1]) := by rw [e61, vn (show (0 : Nat) ≠ 11 by decide)]; exact f60_0
  have f61_1 : M61 1 = .inl (2, 6, .inr (.inr (.inr (.inr (va_up (va_up (va_up (va_up (va_up (va_up (fun _ => none) 0 (some 23)) 1 (some 25)) 2 (some 27)) 3 (some 29)) 4 (some 31)) 5 (some 33)))))) := by rw [e61, vn (show (1 : Nat) ≠ 11 by decide)]; exact f60_1
  have f61_2 : M61 2 = .inl (2, 4, .inr (.inr (.inr (.inr (va_up (va_up (va_up (va_up (fun _ => none) 0 (some 35)) 1 (some 37)) 2 (some 39)) 3 (some 41)))))) := by rw [e61, vn (show (2 : Nat) ≠ 11 by decide)]; exact f60_2
  have f61_3 : M61 3 = .inr (0, [.ref 4, .ref 8, .ref 9, .ref 10, .int 0]) := by rw [e61, vn (show (3 : Nat) ≠ 11 by decide)]; exact f60_3
  have f61_11 : M61 11 = .inl (3, 3, .inr (.inr (.inr (.inr (va_up (va_up (va_up (fun _ => none) 0 (some 43)) 1 (some 51)) 2 (some 59)))))) := by rw [e61, vs]
  have f61_12 : M61 12 = .inr (3, [.ref 13, .ref 14, .ref 15, .int 0, .int 0, .int 0]) := by rw [e61, vn (show (12 : Nat) ≠ 11 by decide)]; exact f60_12
  have f61_16 : M61 16 = .inr (2, [.ref 17, .ref 18, .ref 19, .int 0]) := by rw [e61, vn (show (16 : Nat) ≠ 11 by decide)]; exact f60_16
  refine Eq.trans (x_iinc (x := 2) (w := 1) (ls' := [.ref 0, .int 3]) (show pm_in 47 168 = some (.iinc 1 1, 3) from by decide +kernel) rfl (by decide) (congrArg (fun z : Int32 => ([.ref 0, .int z] : List Value)) (show (2 : Int32) + 1 = 3 from by decide))) ?_
  refine Eq.trans (x_goto (t := 150) (show pm_in 47 171 = some (.goto (-21), 3) from by decide +kernel) (by decide)) ?_
  refine Eq.trans (x_iload_n (show pm_in 47 150 = some (.iload_n 1, 1) from by decide +kernel) rfl) ?_
  refine Eq.trans (x_iconst (v := 3) (show pm_in 47 151 = some (.iconst 3, 1) from by decide +kernel) (by decide)) ?_
  refine Eq.trans ((x_icge (t := 174) (show pm_in 47 152 = some (.if_icmp .ge 22, 3) from by decide +kernel) (by decide)).trans (if_neg (by decide))) ?_
  refine Eq.trans (x_return (show pm_in 47 174 = some (.return_, 1) from by decide +kernel) (by decide +kernel)) ?_
  unfold mem47
  rw [e61, e60, e59, e58, e57, e56, e55, e54, e53, e52, e51, e50, e49, e48, e47, e46, e45, e44, e43, e42, e41, e40, e39, e38, e37, e36, e35, e34, e33, e32, e31, e30, e29, e28, e27, e26, e25, e24, e23, e22, e21, e20, e19, e18, e17, e16, e15, e14, e13, e12, e11, e10, e9, e8, e7, e6, e5, e4, e3, e2, e1]
def mem129 (M : pm_M) : pm_M := va_up (va_up (va_up (va_up (va_up (va_up (va_up (va_up (va_up (va_up (va_up (va_up (va_up (va_up (va_up (va_up (va_up (va_up (va_up (va_up (va_up (va_up (va_up (va_up (va_up (va_up (va_up (va_up (va_up (va_up (va_up (va_up (va_up (va_up (va_up M 68 (.inl (0, 6, .inl (fun _ => 0)))) 67 (.inr (5, [.ref 68, .null, .null, .null, .int 0, .null, .null, .null, .int 0, .null, .null, .int 0, .long 0, .long 0, .int 0, .null, .int 0, .int 0, .int 0, .int 0, .null, .null, .null, .null, .null, .null, .int 0, .null]))) 69 (.inl (0, 240, .inl (fun _ => 0)))) 67 (.inr (5, [.ref 68, .ref 69, .null, .null, .int 0, .null, .null, .null, .int 0, .null, .null, .int 0, .long 0, .long 0, .int 0, .null, .int 0, .int 0, .int 0, .int 0, .null, .null, .null, .null, .null, .null, .int 0, .null]))) 70 (.inl (0, 4, .inl (fun _ => 0)))) 67 (.inr (5, [.ref 68, .ref 69, .ref 70, .null, .int 0, .null, .null, .null, .int 0, .null, .null, .int 0, .long 0, .long 0, .int 0, .null, .int 0, .int 0, .int 0, .int 0, .null, .null, .null, .null, .null, .null, .int 0, .null]))) 71 (.inl (0, 240, .inl (fun _ => 0)))) 67 (.inr (5, [.ref 68, .ref 69, .ref 70, .ref 71, .int 0, .null, .null, .null, .int 0, .null, .null, .int 0, .long 0, .long 0, .int 0, .null, .int 0, .int 0, .int 0, .int 0, .null, .null, .null, .null, .null, .null, .int 0, .null]))) 72 (.inl (0, 6, .inl (fun _ => 0)))) 67 (.inr (5, [.ref 68, .ref 69, .ref 70, .ref 71, .int 0, .ref 72, .null, .null, .int 0, .null, .null, .int 0, .long 0, .long 0, .int 0, .null, .int 0, .int 0, .int 0, .int 0, .null, .null, .null, .null, .null, .null, .int 0, .null]))) 73 (.inl (0, 6, .inl (fun _ => 0)))) 67 (.inr (5, [.ref 68, .ref 69, .ref 70, .ref 71, .int 0, .ref 72, .ref 73, .null, .int 0, .null, .null, .int 0, .long 0, .long 0, .int 0, .null, .int 0, .int 0, .int 0, .int 0, .null, .null, .null, .null, .null, .null, .int 0, .null]))) 74 (.inl (0, 9, .inl (fun _ => 0)))) 67 (.inr (5, [.ref 68, .ref 69, .ref 70, .ref 71, .int 0, .ref 72, .ref 73, .ref 74, .int 0, .null, .null, .int 0, .long 0, .long 0, .int 0, .null, .int 0, .int 0, .int 0, .int 0, .null, .null, .null, .null, .null, .null, .int 0, .null]))) 75 (.inl (0, 360, .inl (fun _ => 0)))) 67 (.inr (5, [.ref 68, .ref 69, .ref 70, .ref 71, .int 0, .ref 72, .ref 73, .ref 74, .int 0, .ref 75, .null, .int 0, .long 0, .long 0, .int 0, .null, .int 0, .int 0, .int 0, .int 0, .null, .null, .null, .null, .null, .null, .int 0, .null]))) 76 (.inl (0, 1110, .inl (fun _ => 0)))) 67 (.inr (5, [.ref 68, .ref 69, .ref 70, .ref 71, .int 0, .ref 72, .ref 73, .ref 74, .int 0, .ref 75, .ref 76, .int 0, .long 0, .long 0, .int 0, .null, .int 0, .int 0, .int 0, .int 0, .null, .null, .null, .null, .null, .null, .int 0, .null]))) 67 (.inr (5, [.ref 68, .ref 69, .ref 70, .ref 71, .int 0, .ref 72, .ref 73, .ref 74, .int 0, .ref 75, .ref 76, .int 0, .long 0, .long 1, .int 0, .null, .int 0, .int 0, .int 0, .int 0, .null, .null, .null, .null, .null, .null, .int 0, .null]))) 77 (.inl (0, 6, .inl (fun _ => 0)))) 67 (.inr (5, [.ref 68, .ref 69, .ref 70, .ref 71, .int 0, .ref 72, .ref 73, .ref 74, .int 0, .ref 75, .ref 76, .int 0, .long 0, .long 1, .int 0, .ref 77, .int 0, .int 0, .int 0, .int 0, .null, .null, .null, .null, .null, .null, .int 0, .null]))) 78 (.inl (0, 6, .inl (fun _ => 0)))) 67 (.inr (5, [.ref 68, .ref 69, .ref 70, .ref 71, .int 0, .ref 72, .ref 73, .ref 74, .int 0, .ref 75, .ref 76, .int 0, .long 0, .long 1, .int 0, .ref 77, .int 0, .int 0, .int 0, .int 0, .ref 78, .null, .null, .null, .null, .null, .int 0, .null]))) 79 (.inl (0, 6, .inl (fun _ => 0)))) 67 (.inr (5, [.ref 68, .ref 69, .ref 70, .ref 71, .int 0, .ref 72, .ref 73, .ref 74, .int 0, .ref 75, .ref 76, .int 0, .long 0, .long 1, .int 0, .ref 77, .int 0, .int 0, .int 0, .int 0, .ref 78, .ref 79, .null, .null, .null, .null, .int 0, .null]))) 80 (.inl (0, 9, .inl (fun _ => 0)))) 67 (.inr (5, [.ref 68, .ref 69, .ref 70, .ref 71, .int 0, .ref 72, .ref 73, .ref 74, .int 0, .ref 75, .ref 76, .int 0, .long 0, .long 1, .int 0, .ref 77, .int 0, .int 0, .int 0, .int 0, .ref 78, .ref 79, .ref 80, .null, .null, .null, .int 0, .null]))) 81 (.inl (0, 9, .inl (fun _ => 0)))) 67 (.inr (5, [.ref 68, .ref 69, .ref 70, .ref 71, .int 0, .ref 72, .ref 73, .ref 74, .int 0, .ref 75, .ref 76, .int 0, .long 0, .long 1, .int 0, .ref 77, .int 0, .int 0, .int 0, .int 0, .ref 78, .ref 79, .ref 80, .ref 81, .null, .null, .int 0, .null]))) 82 (.inl (1, 64, .inl (fun _ => 0)))) 67 (.inr (5, [.ref 68, .ref 69, .ref 70, .ref 71, .int 0, .ref 72, .ref 73, .ref 74, .int 0, .ref 75, .ref 76, .int 0, .long 0, .long 1, .int 0, .ref 77, .int 0, .int 0, .int 0, .int 0, .ref 78, .ref 79, .ref 80, .ref 81, .ref 82, .null, .int 0, .null]))) 83 (.inl (0, 448, .inl (fun _ => 0)))) 67 (.inr (5, [.ref 68, .ref 69, .ref 70, .ref 71, .int 0, .ref 72, .ref 73, .ref 74, .int 0, .ref 75, .ref 76, .int 0, .long 0, .long 1, .int 0, .ref 77, .int 0, .int 0, .int 0, .int 0, .ref 78, .ref 79, .ref 80, .ref 81, .ref 82, .ref 83, .int 0, .null]))) 84 (.inl (0, 2401, .inl (fun _ => 0)))) 67 (.inr (5, [.ref 68, .ref 69, .ref 70, .ref 71, .int 0, .ref 72, .ref 73, .ref 74, .int 0, .ref 75, .ref 76, .int 0, .long 0, .long 1, .int 0, .ref 77, .int 0, .int 0, .int 0, .int 0, .ref 78, .ref 79, .ref 80, .ref 81, .ref 82, .ref 83, .int 0, .ref 84]))
set_option maxHeartbeats 4000000 in
theorem ini129_67 {M : pm_M} {S : Nat} (h0 : M 67 = .inr (5, [.null, .null, .null, .null, .int 0, .null, .null, .null, .int 0, .null, .null, .int 0, .long 0, .long 0, .int 0, .null, .int 0, .int 0, .int 0, .int 0, .null, .null, .null, .null, .null, .null, .int 0, .null])) : pX 129 0 [.ref 67, .null] [] M 68 S = pX 129 150 [.ref 67, .null] [] (mem129 M) 85 (S + 6 + 240 + 4 + 240 + 6 + 6 + 9 + 360 + 1110 + 6 + 6 + 6 + 9 + 9 + 64 + 448 + 2401) := by
  refine Eq.trans (x_aload_n (show pm_in 129 0 = some (.aload_n 0, 1) from by decide +kernel) rfl) ?_
  refine Eq.trans (x_obj (q := (0, 0)) (show pm_in 129 1 = some (.invokespecial 1, 3) from by decide +kernel) (by decide +kernel) ⟨Nat.le_of_ble_eq_true rfl, by decide +kernel⟩) ?_
  refine Eq.trans (x_aload_n (show pm_in 129 4 = some (.aload_n 0, 1) from by decide +kernel) rfl) ?_
  refine Eq.trans (x_bipush (v := 6) (show pm_in 129 5 = some (.bipush 6, 2) from by decide +kernel) (by decide)) ?_
  have q5 : pX 129 7 [.ref 67, .null] [.int 6, .ref 67] M 68 (S) = pX 129 9 [.ref 67, .null] [.ref 68, .ref 67] (va_up M 68 (.inl (0, 6, .inl (fun _ => 0)))) 69 (S + 6) := x_newI (n := 6) (show pm_in 129 7 = some (.newarray .int, 2) from by decide +kernel) ⟨by decide +kernel, by decide +kernel⟩ (by decide +kernel) (by decide +kernel)
  obtain ⟨M1, e1⟩ : ∃ m : pm_M, m = va_up M 68 (.inl (0, 6, .inl (fun _ => 0))) := ⟨_, rfl⟩
  rw [← e1] at q5
  refine q5.trans ?_
  have f1_67 : M1 67 = .inr (5, [.null, .null, .null, .null, .int 0, .null, .null, .null, .int 0, .null, .null, .int 0, .long 0, .long 0, .int 0, .null, .int 0, .int 0, .int 0, .int 0, .null, .null, .null, .null, .null, .null, .int 0, .null]) := by rw [e1, vn (show (67 : Nat) ≠ 68 by decide)]; exact h0
  have q6 : pX 129 9 [.ref 67, .null] [.ref 68, .ref 67] M1 69 (S + 6) = pX 129 12 [.ref 67, .null] [] (va_up M1 67 (.inr (5, [.ref 68, .null, .null, .null, .int 0, .null, .null, .null, .int 0, .null, .null, .int 0, .long 0, .long 0, .int 0, .null, .int 0, .int 0, .int 0, .int 0, .null, .null, .null, .null, .null, .null, .int 0, .null]))) 69 (S + 6) := x_putf (ci := 5) (k := 0) (fs := [.null, .null, .null, .null, .int 0, .null, .null, .null, .int 0, .null, .null, .int 0, .long 0, .long 0, .int 0, .null, .int 0, .int 0, .int 0, .int 0, .null, .null, .null, .null, .null, .null, .int 0, .null]) (fs' := [.ref 68, .null, .null, .null, .int 0, .null, .null, .null, .int 0, .null, .null, .int 0, .long 0, .long 0, .int 0, .null, .int 0, .int 0, .int 0, .int 0, .null, .null, .null, .null, .null, .null, .int 0, .null]) (show pm_in 129 9 = some (.putfield 7, 3) from by decide +kernel) (by decide +kernel) f1_67 (by decide) (by decide) (by decide +kernel) (by decide +kernel) (by decide +kernel) rfl
  obtain ⟨M2, e2⟩ : ∃ m : pm_M, m = va_up M1 67 (.inr (5, [.ref 68, .null, .null, .null, .int 0, .null, .null, .null, .int 0, .null, .null, .int 0, .long 0, .long 0, .int 0, .null, .int 0, .int 0, .int 0, .int 0, .null, .null, .null, .null, .null, .null, .int 0, .null])) := ⟨_, rfl⟩
  rw [← e2] at q6
  refine q6.trans ?_
  have f2_67 : M2 67 = .inr (5, [.ref 68, .null, .null, .null, .int 0, .null, .null, .null, .int 0, .null, .null, .int 0, .long 0, .long 0, .int 0, .null, .int 0, .int 0, .int 0, .int 0, .null, .null, .null, .null, .null, .null, .int 0, .null]) := by rw [e2, vs]
  refine Eq.trans (x_aload_n (show pm_in 129 12 = some (.aload_n 0, 1) from by decide +kernel) rfl) ?_
  refine Eq.trans (x_sipush (v := 240) (show pm_in 129 13 = some (.sipush 240, 3) from by decide +kernel) (by decide)) ?_
  have q9 : pX 129 16 [.ref 67, .null] [.int 240, .ref 67] M2 69 (S + 6) = pX 129 18 [.ref 67, .null] [.ref 69, .ref 67] (va_up M2 69 (.inl (0, 240, .inl (fun _ => 0)))) 70 (S + 6 + 240) := x_newI (n := 240) (show pm_in 129 16 = some (.newarray .int, 2) from by decide +kernel) ⟨by decide +kernel, by decide +kernel⟩ (by decide +kernel) (by decide +kernel)
  obtain ⟨M3, e3⟩ : ∃ m : pm_M, m = va_up M2 69 (.inl (0, 240, .inl (fun _ => 0))) := ⟨_, rfl⟩
  rw [← e3] at q9
  refine q9.trans ?_
  have f3_67 : M3 67 = .inr (5, [.ref 68, .null, .null, .null, .int 0, .null, .null, .null, .int 0, .null, .null, .int 0, .long 0, .long 0, .int 0, .null, .int 0, .int 0, .int 0, .int 0, .null, .null, .null, .null, .null, .null, .int 0, .null]) := by rw [e3, vn (show (67 : Nat) ≠ 69 by decide)]; exact f2_67
  have q10 : pX 129 18 [.ref 67, .null] [.ref 69, .ref 67] M3 70 (S + 6 + 240) = pX 129 21 [.ref 67, .null] [] (va_up M3 67 (.inr (5, [.ref 68, .ref 69, .null, .null, .int 0, .null, .null, .null, .int 0, .null, .null, .int 0, .long 0, .long 0, .int 0, .null, .int 0, .int 0, .int 0, .int 0, .null, .null, .null, .null, .null, .null, .int 0, .null]))) 70 (S + 6 + 240) := x_putf (ci := 5) (k := 1) (fs := [.ref 68, .null, .null, .null, .int 0, .null, .null, .null, .int 0, .null, .null, .int 0, .long 0, .long 0, .int 0, .null, .int 0, .int 0, .int 0, .int 0, .null, .null, .null, .null, .null, .null, .int 0, .null]) (fs' := [.ref 68, .ref 69, .null, .null, .int 0, .null, .null, .null, .int 0, .null, .null, .int 0, .long 0, .long 0, .int 0, .null, .int 0, .int 0, .int 0, .int 0, .null, .null, .null, .null, .null, .null, .int 0, .null]) (show pm_in 129 18 = some (.putfield 13, 3) from by decide +kernel) (by decide +kernel) f3_67 (by decide) (by decide) (by decide +kernel) (by decide +kernel) (by decide +kernel) rfl
  obtain ⟨M4, e4⟩ : ∃ m : pm_M, m = va_up M3 67 (.inr (5, [.ref 68, .ref 69, .null, .null, .int 0, .null, .null, .null, .int 0, .null, .null, .int 0, .long 0, .long 0, .int 0, .null, .int 0, .int 0, .int 0, .int 0, .null, .null, .null, .null, .null, .null, .int 0, .null])) := ⟨_, rfl⟩
  rw [← e4] at q10
  refine q10.trans ?_
  have f4_67 : M4 67 = .inr (5, [.ref 68, .ref 69, .null, .null, .int 0, .null, .null, .null, .int 0, .null, .null, .int 0, .long 0, .long 0, .int 0, .null, .int 0, .int 0, .int 0, .int 0, .null, .null, .null, .null, .null, .null, .int 0, .null]) := by rw [e4, vs]
  refine Eq.trans (x_aload_n (show pm_in 129 21 = some (.aload_n 0, 1) from by decide +kernel) rfl) ?_
  refine Eq.trans (x_iconst (v := 4) (show pm_in 129 22 = some (.iconst 4, 1) from by decide +kernel) (by decide)) ?_
  have q13 : pX 129 23 [.ref 67, .null] [.int 4, .ref 67] M4 70 (S + 6 + 240) = pX 129 25 [.ref 67, .null] [.ref 70, .ref 67] (va_up M4 70 (.inl (0, 4, .inl (fun _ => 0)))) 71 (S + 6 + 240 + 4) := x_newI (n := 4) (show pm_in 129 23 = some (.newarray .int, 2) from by decide +kernel) ⟨by decide +kernel, by decide +kernel⟩ (by decide +kernel) (by decide +kernel)
  obtain ⟨M5, e5⟩ : ∃ m : pm_M, m = va_up M4 70 (.inl (0, 4, .inl (fun _ => 0))) := ⟨_, rfl⟩
  rw [← e5] at q13
  refine q13.trans ?_
  have f5_67 : M5 67 = .inr (5, [.ref 68, .ref 69, .null, .null, .int 0, .null, .null, .null, .int 0, .null, .null, .int 0, .long 0, .long 0, .int 0, .null, .int 0, .int 0, .int 0, .int 0, .null, .null, .null, .null, .null, .null, .int 0, .null]) := by rw [e5, vn (show (67 : Nat) ≠ 70 by decide)]; exact f4_67
  have q14 : pX 129 25 [.ref 67, .null] [.ref 70, .ref 67] M5 71 (S + 6 + 240 + 4) = pX 129 28 [.ref 67, .null] [] (va_up M5 67 (.inr (5, [.ref 68, .ref 69, .ref 70, .null, .int 0, .null, .null, .null, .int 0, .null, .null, .int 0, .long 0, .long 0, .int 0, .null, .int 0, .int 0, .int 0, .int 0, .null, .null, .null, .null, .null, .null, .int 0, .null]))) 71 (S + 6 + 240 + 4) := x_putf (ci := 5) (k := 2) (fs := [.ref 68, .ref 69, .null, .null, .int 0, .null, .null, .null, .int 0, .null, .null, .int 0, .long 0, .long 0, .int 0, .null, .int 0, .int 0, .int 0, .int 0, .null, .null, .null, .null, .null, .null, .int 0, .null]) (fs' := [.ref 68, .ref 69, .ref 70, .null, .int 0, .null, .null, .null, .int 0, .null, .null, .int 0, .long 0, .long 0, .int 0, .null, .int 0, .int 0, .int 0, .int 0, .null, .null, .null, .null, .null, .null, .int 0, .null]) (show pm_in 129 25 = some (.putfield 16, 3) from by decide +kernel) (by decide +kernel) f5_67 (by decide) (by decide) (by decide +kernel) (by decide +kernel) (by decide +kernel) rfl
  obtain ⟨M6, e6⟩ : ∃ m : pm_M, m = va_up M5 67 (.inr (5, [.ref 68, .ref 69, .ref 70, .null, .int 0, .null, .null, .null, .int 0, .null, .null, .int 0, .long 0, .long 0, .int 0, .null, .int 0, .int 0, .int 0, .int 0, .null, .null, .null, .null, .null, .null, .int 0, .null])) := ⟨_, rfl⟩
  rw [← e6] at q14
  refine q14.trans ?_
  have f6_67 : M6 67 = .inr (5, [.ref 68, .ref 69, .ref 70, .null, .int 0, .null, .null, .null, .int 0, .null, .null, .int 0, .long 0, .long 0, .int 0, .null, .int 0, .int 0, .int 0, .int 0, .null, .null, .null, .null, .null, .null, .int 0, .null]) := by rw [e6, vs]
  refine Eq.trans (x_aload_n (show pm_in 129 28 = some (.aload_n 0, 1) from by decide +kernel) rfl) ?_
  refine Eq.trans (x_sipush (v := 240) (show pm_in 129 29 = some (.sipush 240, 3) from by decide +kernel) (by decide)) ?_
  have q17 : pX 129 32 [.ref 67, .null] [.int 240, .ref 67] M6 71 (S + 6 + 240 + 4) = pX 129 34 [.ref 67, .null] [.ref 71, .ref 67] (va_up M6 71 (.inl (0, 240, .inl (fun _ => 0)))) 72 (S + 6 + 240 + 4 + 240) := x_newI (n := 240) (show pm_in 129 32 = some (.newarray .int, 2) from by decide +kernel) ⟨by decide +kernel, by decide +kernel⟩ (by decide +kernel) (by decide +kernel)
  obtain ⟨M7, e7⟩ : ∃ m : pm_M, m = va_up M6 71 (.inl (0, 240, .inl (fun _ => 0))) := ⟨_, rfl⟩
  rw [← e7] at q17
  refine q17.trans ?_
  have f7_67 : M7 67 = .inr (5, [.ref 68, .ref 69, .ref 70, .null, .int 0, .null, .null, .null, .int 0, .null, .null, .int 0, .long 0, .long 0, .int 0, .null, .int 0, .int 0, .int 0, .int 0, .null, .null, .null, .null, .null, .null, .int 0, .null]) := by rw [e7, vn (show (67 : Nat) ≠ 71 by decide)]; exact f6_67
  have q18 : pX 129 34 [.ref 67, .null] [.ref 71, .ref 67] M7 72 (S + 6 + 240 + 4 + 240) = pX 129 37 [.ref 67, .null] [] (va_up M7 67 (.inr (5, [.ref 68, .ref 69, .ref 70, .ref 71, .int 0, .null, .null, .null, .int 0, .null, .null, .int 0, .long 0, .long 0, .int 0, .null, .int 0, .int 0, .int 0, .int 0, .null, .null, .null, .null, .null, .null, .int 0, .null]))) 72 (S + 6 + 240 + 4 + 240) := x_putf (ci := 5) (k := 3) (fs := [.ref 68, .ref 69, .ref 70, .null, .int 0, .null, .null, .null, .int 0, .null, .null, .int 0, .long 0, .long 0, .int 0, .null, .int 0, .int 0, .int 0, .int 0, .null, .null, .null, .null, .null, .null, .int 0, .null]) (fs' := [.ref 68, .ref 69, .ref 70, .ref 71, .int 0, .null, .null, .null, .int 0, .null, .null, .int 0, .long 0, .long 0, .int 0, .null, .int 0, .int 0, .int 0, .int 0, .null, .null, .null, .null, .null, .null, .int 0, .null]) (show pm_in 129 34 = some (.putfield 19, 3) from by decide +kernel) (by decide +kernel) f7_67 (by decide) (by decide) (by decide +kernel) (by decide +kernel) (by decide +kernel) rfl
  obtain ⟨M8, e8⟩ : ∃ m : pm_M, m = va_up M7 67 (.inr (5, [.ref 68, .ref 69, .ref 70, .ref 71, .int 0, .null, .null, .null, .int 0, .null, .null, .int 0, .long 0, .long 0, .int 0, .null, .int 0, .int 0, .int 0, .int 0, .null, .null, .null, .null, .null, .null, .int 0, .null])) := ⟨_, rfl⟩
  rw [← e8] at q18
  refine q18.trans ?_
  have f8_67 : M8 67 = .inr (5, [.ref 68, .ref 69, .ref 70, .ref 71, .int 0, .null, .null, .null, .int 0, .null, .null, .int 0, .long 0, .long 0, .int 0, .null, .int 0, .int 0, .int 0, .int 0, .null, .null, .null, .null, .null, .null, .int 0, .null]) := by rw [e8, vs]
  refine Eq.trans (x_aload_n (show pm_in 129 37 = some (.aload_n 0, 1) from by decide +kernel) rfl) ?_
  refine Eq.trans (x_bipush (v := 6) (show pm_in 129 38 = some (.bipush 6, 2) from by decide +kernel) (by decide)) ?_
  have q21 : pX 129 40 [.ref 67, .null] [.int 6, .ref 67] M8 72 (S + 6 + 240 + 4 + 240) = pX 129 42 [.ref 67, .null] [.ref 72, .ref 67] (va_up M8 72 (.inl (0, 6, .inl (fun _ => 0)))) 73 (S + 6 + 240 + 4 + 240 + 6) := x_newI (n := 6) (show pm_in 129 40 = some (.newarray .int, 2) from by decide +kernel) ⟨by decide +kernel, by decide +kernel⟩ (by decide +kernel) (by decide +kernel)
  obtain ⟨M9, e9⟩ : ∃ m : pm_M, m = va_up M8 72 (.inl (0, 6, .inl (fun _ => 0))) := ⟨_, rfl⟩
  rw [← e9] at q21
  refine q21.trans ?_
  have f9_67 : M9 67 = .inr (5, [.ref 68, .ref 69, .ref 70, .ref 71, .int 0, .null, .null, .null, .int 0, .null, .null, .int 0, .long 0, .long 0, .int 0, .null, .int 0, .int 0, .int 0, .int 0, .null, .null, .null, .null, .null, .null, .int 0, .null]) := by rw [e9, vn (show (67 : Nat) ≠ 72 by decide)]; exact f8_67
  have q22 : pX 129 42 [.ref 67, .null] [.ref 72, .ref 67] M9 73 (S + 6 + 240 + 4 + 240 + 6) = pX 129 45 [.ref 67, .null] [] (va_up M9 67 (.inr (5, [.ref 68, .ref 69, .ref 70, .ref 71, .int 0, .ref 72, .null, .null, .int 0, .null, .null, .int 0, .long 0, .long 0, .int 0, .null, .int 0, .int 0, .int 0, .int 0, .null, .null, .null, .null, .null, .null, .int 0, .null]))) 73 (S + 6 + 240 + 4 + 240 + 6) := x_putf (ci := 5) (k := 5) (fs := [.ref 68, .ref 69, .ref 70, .ref 71, .int 0, .null, .null, .null, .int 0, .null, .null, .int 0, .long 0, .long 0, .int 0, .null, .int 0, .int 0, .int 0, .int 0, .null, .null, .null, .null, .null, .null, .int 0, .null]) (fs' := [.ref 68, .ref 69, .ref 70, .ref 71, .int 0, .ref 72, .null, .null, .int 0, .null, .null, .int 0, .long 0, .long 0, .int 0, .null, .int 0, .int 0, .int 0, .int 0, .null, .null, .null, .null, .null, .null, .int 0, .null]) (show pm_in 129 42 = some (.putfield 22, 3) from by decide +kernel) (by decide +kernel) f9_67 (by decide) (by decide) (by decide +kernel) (by decide +kernel) (by decide +kernel) rfl
  obtain ⟨M10, e10⟩ : ∃ m : pm_M, m = va_up M9 67 (.inr (5, [.ref 68, .ref 69, .ref 70, .ref 71, .int 0, .ref 72, .null, .null, .int 0, .null, .null, .int 0, .long 0, .long 0, .int 0, .null, .int 0, .int 0, .int 0, .int 0, .null, .null, .null, .null, .null, .null, .int 0, .null])) := ⟨_, rfl⟩
  rw [← e10] at q22
  refine q22.trans ?_
  have f10_67 : M10 67 = .inr (5, [.ref 68, .ref 69, .ref 70, .ref 71, .int 0, .ref 72, .null, .null, .int 0, .null, .null, .int 0, .long 0, .long 0, .int 0, .null, .int 0, .int 0, .int 0, .int 0, .null, .null, .null, .null, .null, .null, .int 0, .null]) := by rw [e10, vs]
  refine Eq.trans (x_aload_n (show pm_in 129 45 = some (.aload_n 0, 1) from by decide +kernel) rfl) ?_
  refine Eq.trans (x_bipush (v := 6) (show pm_in 129 46 = some (.bipush 6, 2) from by decide +kernel) (by decide)) ?_
  have q25 : pX 129 48 [.ref 67, .null] [.int 6, .ref 67] M10 73 (S + 6 + 240 + 4 + 240 + 6) = pX 129 50 [.ref 67, .null] [.ref 73, .ref 67] (va_up M10 73 (.inl (0, 6, .inl (fun _ => 0)))) 74 (S + 6 + 240 + 4 + 240 + 6 + 6) := x_newI (n := 6) (show pm_in 129 48 = some (.newarray .int, 2) from by decide +kernel) ⟨by decide +kernel, by decide +kernel⟩ (by decide +kernel) (by decide +kernel)
  obtain ⟨M11, e11⟩ : ∃ m : pm_M, m = va_up M10 73 (.inl (0, 6, .inl (fun _ => 0))) := ⟨_, rfl⟩
  rw [← e11] at q25
  refine q25.trans ?_
  have f11_67 : M11 67 = .inr (5, [.ref 68, .ref 69, .ref 70, .ref 71, .int 0, .ref 72, .null, .null, .int 0, .null, .null, .int 0, .long 0, .long 0, .int 0, .null, .int 0, .int 0, .int 0, .int 0, .null, .null, .null, .null, .null, .null, .int 0, .null]) := by rw [e11, vn (show (67 : Nat) ≠ 73 by decide)]; exact f10_67
  have q26 : pX 129 50 [.ref 67, .null] [.ref 73, .ref 67] M11 74 (S + 6 + 240 + 4 + 240 + 6 + 6) = pX 129 53 [.ref 67, .null] [] (va_up M11 67 (.inr (5, [.ref 68, .ref 69, .ref 70, .ref 71, .int 0, .ref 72, .ref 73, .null, .int 0, .null, .null, .int 0, .long 0, .long 0, .int 0, .null, .int 0, .int 0, .int 0, .int 0, .null, .null, .null, .null, .null, .null, .int 0, .null]))) 74 (S + 6 + 240 + 4 + 240 + 6 + 6) := x_putf (ci := 5) (k := 6) (fs := [.ref 68, .ref 69, .ref 70, .ref 71, .int 0, .ref 72, .null, .null, .int 0, .null, .null, .int 0, .long 0, .long 0, .int 0, .null, .int 0, .int 0, .int 0, .int 0, .null, .null, .null, .null, .null, .null, .int 0, .null]) (fs' := [.ref 68, .ref 69, .ref 70, .ref 71, .int 0, .ref 72, .ref 73, .null, .int 0, .null, .null, .int 0, .long 0, .long 0, .int 0, .null, .int 0, .int 0, .int 0, .int 0, .null, .null, .null, .null, .null, .null, .int 0, .null]) (show pm_in 129 50 = some (.putfield 25, 3) from by decide +kernel) (by decide +kernel) f11_67 (by decide) (by decide) (by decide +kernel) (by decide +kernel) (by decide +kernel) rfl
  obtain ⟨M12, e12⟩ : ∃ m : pm_M, m = va_up M11 67 (.inr (5, [.ref 68, .ref 69, .ref 70, .ref 71, .int 0, .ref 72, .ref 73, .null, .int 0, .null, .null, .int 0, .long 0, .long 0, .int 0, .null, .int 0, .int 0, .int 0, .int 0, .null, .null, .null, .null, .null, .null, .int 0, .null])) := ⟨_, rfl⟩
  rw [← e12] at q26
  refine q26.trans ?_
  have f12_67 : M12 67 = .inr (5, [.ref 68, .ref 69, .ref 70, .ref 71, .int 0, .ref 72, .ref 73, .null, .int 0, .null, .null, .int 0, .long 0, .long 0, .int 0, .null, .int 0, .int 0, .int 0, .int 0, .null, .null, .null, .null, .null, .null, .int 0, .null]) := by rw [e12, vs]
  refine Eq.trans (x_aload_n (show pm_in 129 53 = some (.aload_n 0, 1) from by decide +kernel) rfl) ?_
  refine Eq.trans (x_bipush (v := 9) (show pm_in 129 54 = some (.bipush 9, 2) from by decide +kernel) (by decide)) ?_
  have q29 : pX 129 56 [.ref 67, .null] [.int 9, .ref 67] M12 74 (S + 6 + 240 + 4 + 240 + 6 + 6) = pX 129 58 [.ref 67, .null] [.ref 74, .ref 67] (va_up M12 74 (.inl (0, 9, .inl (fun _ => 0)))) 75 (S + 6 + 240 + 4 + 240 + 6 + 6 + 9) := x_newI (n := 9) (show pm_in 129 56 = some (.newarray .int, 2) from by decide +kernel) ⟨by decide +kernel, by decide +kernel⟩ (by decide +kernel) (by decide +kernel)
  obtain ⟨M13, e13⟩ : ∃ m : pm_M, m = va_up M12 74 (.inl (0, 9, .inl (fun _ => 0))) := ⟨_, rfl⟩
  rw [← e13] at q29
  refine q29.trans ?_
  have f13_67 : M13 67 = .inr (5, [.ref 68, .ref 69, .ref 70, .ref 71, .int 0, .ref 72, .ref 73, .null, .int 0, .null, .null, .int 0, .long 0, .long 0, .int 0, .null, .int 0, .int 0, .int 0, .int 0, .null, .null, .null, .null, .null, .null, .int 0, .null]) := by rw [e13, vn (show (67 : Nat) ≠ 74 by decide)]; exact f12_67
  have q30 : pX 129 58 [.ref 67, .null] [.ref 74, .ref 67] M13 75 (S + 6 + 240 + 4 + 240 + 6 + 6 + 9) = pX 129 61 [.ref 67, .null] [] (va_up M13 67 (.inr (5, [.ref 68, .ref 69, .ref 70, .ref 71, .int 0, .ref 72, .ref 73, .ref 74, .int 0, .null, .null, .int 0, .long 0, .long 0, .int 0, .null, .int 0, .int 0, .int 0, .int 0, .null, .null, .null, .null, .null, .null, .int 0, .null]))) 75 (S + 6 + 240 + 4 + 240 + 6 + 6 + 9) := x_putf (ci := 5) (k := 7) (fs := [.ref 68, .ref 69, .ref 70, .ref 71, .int 0, .ref 72, .ref 73, .null, .int 0, .null, .null, .int 0, .long 0, .long 0, .int 0, .null, .int 0, .int 0, .int 0, .int 0, .null, .null, .null, .null, .null, .null, .int 0, .null]) (fs' := [.ref 68, .ref 69, .ref 70, .ref 71, .int 0, .ref 72, .ref 73, .ref 74, .int 0, .null, .null, .int 0, .long 0, .long 0, .int 0, .null, .int 0, .int 0, .int 0, .int 0, .null, .null, .null, .null, .null, .null, .int 0, .null]) (show pm_in 129 58 = some (.putfield 28, 3) from by decide +kernel) (by decide +kernel) f13_67 (by decide) (by decide) (by decide +kernel) (by decide +kernel) (by decide +kernel) rfl
  obtain ⟨M14, e14⟩ : ∃ m : pm_M, m = va_up M13 67 (.inr (5, [.ref 68, .ref 69, .ref 70, .ref 71, .int 0, .ref 72, .ref 73, .ref 74, .int 0, .null, .null, .int 0, .long 0, .long 0, .int 0, .null, .int 0, .int 0, .int 0, .int 0, .null, .null, .null, .null, .null, .null, .int 0, .null])) := ⟨_, rfl⟩
  rw [← e14] at q30
  refine q30.trans ?_
  have f14_67 : M14 67 = .inr (5, [.ref 68, .ref 69, .ref 70, .ref 71, .int 0, .ref 72, .ref 73, .ref 74, .int 0, .null, .null, .int 0, .long 0, .long 0, .int 0, .null, .int 0, .int 0, .int 0, .int 0, .null, .null, .null, .null, .null, .null, .int 0, .null]) := by rw [e14, vs]
  refine Eq.trans (x_aload_n (show pm_in 129 61 = some (.aload_n 0, 1) from by decide +kernel) rfl) ?_
  refine Eq.trans (x_sipush (v := 360) (show pm_in 129 62 = some (.sipush 360, 3) from by decide +kernel) (by decide)) ?_
  have q33 : pX 129 65 [.ref 67, .null] [.int 360, .ref 67] M14 75 (S + 6 + 240 + 4 + 240 + 6 + 6 + 9) = pX 129 67 [.ref 67, .null] [.ref 75, .ref 67] (va_up M14 75 (.inl (0, 360, .inl (fun _ => 0)))) 76 (S + 6 + 240 + 4 + 240 + 6 + 6 + 9 + 360) := x_newI (n := 360) (show pm_in 129 65 = some (.newarray .int, 2) from by decide +kernel) ⟨by decide +kernel, by decide +kernel⟩ (by decide +kernel) (by decide +kernel)
  obtain ⟨M15, e15⟩ : ∃ m : pm_M, m = va_up M14 75 (.inl (0, 360, .inl (fun _ => 0))) := ⟨_, rfl⟩
  rw [← e15] at q33
  refine q33.trans ?_
  have f15_67 : M15 67 = .inr (5, [.ref 68, .ref 69, .ref 70, .ref 71, .int 0, .ref 72, .ref 73, .ref 74, .int 0, .null, .null, .int 0, .long 0, .long 0, .int 0, .null, .int 0, .int 0, .int 0, .int 0, .null, .null, .null, .null, .null, .null, .int 0, .null]) := by rw [e15, vn (show (67 : Nat) ≠ 75 by decide)]; exact f14_67
  have q34 : pX 129 67 [.ref 67, .null] [.ref 75, .ref 67] M15 76 (S + 6 + 240 + 4 + 240 + 6 + 6 + 9 + 360) = pX 129 70 [.ref 67, .null] [] (va_up M15 67 (.inr (5, [.ref 68, .ref 69, .ref 70, .ref 71, .int 0, .ref 72, .ref 73, .ref 74, .int 0, .ref 75, .null, .int 0, .long 0, .long 0, .int 0, .null, .int 0, .int 0, .int 0, .int 0, .null, .null, .null, .null, .null, .null, .int 0, .null]))) 76 (S + 6 + 240 + 4 + 240 + 6 + 6 + 9 + 360) := x_putf (ci := 5) (k := 9) (fs := [.ref 68, .ref 69, .ref 70, .ref 71, .int 0, .ref 72, .ref 73, .ref 74, .int 0, .null, .null, .int 0, .long 0, .long 0, .int 0, .null, .int 0, .int 0, .int 0, .int 0, .null, .null, .null, .null, .null, .null, .int 0, .null]) (fs' := [.ref 68, .ref 69, .ref 70, .ref 71, .int 0, .ref 72, .ref 73, .ref 74, .int 0, .ref 75, .null, .int 0, .long 0, .long 0, .int 0, .null, .int 0, .int 0, .int 0, .int 0, .null, .null, .null, .null, .null, .null, .int 0, .null]) (show pm_in 129 67 = some (.putfield 31, 3) from by decide +kernel) (by decide +kernel) f15_67 (by decide) (by decide) (by decide +kernel) (by decide +kernel) (by decide +kernel) rfl
  obtain ⟨M16, e16⟩ : ∃ m : pm_M, m = va_up M15 67 (.inr (5, [.ref 68, .ref 69, .ref 70, .ref 71, .int 0, .ref 72, .ref 73, .ref 74, .int 0, .ref 75, .null, .int 0, .long 0, .long 0, .int 0, .null, .int 0, .int 0, .int 0, .int 0, .null, .null, .null, .null, .null, .null, .int 0, .null])) := ⟨_, rfl⟩
  rw [← e16] at q34
  refine q34.trans ?_
  have f16_67 : M16 67 = .inr (5, [.ref 68, .ref 69, .ref 70, .ref 71, .int 0, .ref 72, .ref 73, .ref 74, .int 0, .ref 75, .null, .int 0, .long 0, .long 0, .int 0, .null, .int 0, .int 0, .int 0, .int 0, .null, .null, .null, .null, .null, .null, .int 0, .null]) := by rw [e16, vs]
  refine Eq.trans (x_aload_n (show pm_in 129 70 = some (.aload_n 0, 1) from by decide +kernel) rfl) ?_
  refine Eq.trans (x_sipush (v := 1110) (show pm_in 129 71 = some (.sipush 1110, 3) from by decide +kernel) (by decide)) ?_
  have q37 : pX 129 74 [.ref 67, .null] [.int 1110, .ref 67] M16 76 (S + 6 + 240 + 4 + 240 + 6 + 6 + 9 + 360) = pX 129 76 [.ref 67, .null] [.ref 76, .ref 67] (va_up M16 76 (.inl (0, 1110, .inl (fun _ => 0)))) 77 (S + 6 + 240 + 4 + 240 + 6 + 6 + 9 + 360 + 1110) := x_newI (n := 1110) (show pm_in 129 74 = some (.newarray .int, 2) from by decide +kernel) ⟨by decide +kernel, by decide +kernel⟩ (by decide +kernel) (by decide +kernel)
  obtain ⟨M17, e17⟩ : ∃ m : pm_M, m = va_up M16 76 (.inl (0, 1110, .inl (fun _ => 0))) := ⟨_, rfl⟩
  rw [← e17] at q37
  refine q37.trans ?_
  have f17_67 : M17 67 = .inr (5, [.ref 68, .ref 69, .ref 70, .ref 71, .int 0, .ref 72, .ref 73, .ref 74, .int 0, .ref 75, .null, .int 0, .long 0, .long 0, .int 0, .null, .int 0, .int 0, .int 0, .int 0, .null, .null, .null, .null, .null, .null, .int 0, .null]) := by rw [e17, vn (show (67 : Nat) ≠ 76 by decide)]; exact f16_67
  have q38 : pX 129 76 [.ref 67, .null] [.ref 76, .ref 67] M17 77 (S + 6 + 240 + 4 + 240 + 6 + 6 + 9 + 360 + 1110) = pX 129 79 [.ref 67, .null] [] (va_up M17 67 (.inr (5, [.ref 68, .ref 69, .ref 70, .ref 71, .int 0, .ref 72, .ref 73, .ref 74, .int 0, .ref 75, .ref 76, .int 0, .long 0, .long 0, .int 0, .null, .int 0, .int 0, .int 0, .int 0, .null, .null, .null, .null, .null, .null, .int 0, .null]))) 77 (S + 6 + 240 + 4 + 240 + 6 + 6 + 9 + 360 + 1110) := x_putf (ci := 5) (k := 10) (fs := [.ref 68, .ref 69, .ref 70, .ref 71, .int 0, .ref 72, .ref 73, .ref 74, .int 0, .ref 75, .null, .int 0, .long 0, .long 0, .int 0, .null, .int 0, .int 0, .int 0, .int 0, .null, .null, .null, .null, .null, .null, .int 0, .null]) (fs' := [.ref 68, .ref 69, .ref 70, .ref 71, .int 0, .ref 72, .ref 73, .ref 74, .int 0, .ref 75, .ref 76, .int 0, .long 0, .long 0, .int 0, .null, .int 0, .int 0, .int 0, .int 0, .null, .null, .null, .null, .null, .null, .int 0, .null]) (show pm_in 129 76 = some (.putfield 34, 3) from by decide +kernel) (by decide +kernel) f17_67 (by decide) (by decide) (by decide +kernel) (by decide +kernel) (by decide +kernel) rfl
  obtain ⟨M18, e18⟩ : ∃ m : pm_M, m = va_up M17 67 (.inr (5, [.ref 68, .ref 69, .ref 70, .ref 71, .int 0, .ref 72, .ref 73, .ref 74, .int 0, .ref 75, .ref 76, .int 0, .long 0, .long 0, .int 0, .null, .int 0, .int 0, .int 0, .int 0, .null, .null, .null, .null, .null, .null, .int 0, .null])) := ⟨_, rfl⟩
  rw [← e18] at q38
  refine q38.trans ?_
  have f18_67 : M18 67 = .inr (5, [.ref 68, .ref 69, .ref 70, .ref 71, .int 0, .ref 72, .ref 73, .ref 74, .int 0, .ref 75, .ref 76, .int 0, .long 0, .long 0, .int 0, .null, .int 0, .int 0, .int 0, .int 0, .null, .null, .null, .null, .null, .null, .int 0, .null]) := by rw [e18, vs]
  refine Eq.trans (x_aload_n (show pm_in 129 79 = some (.aload_n 0, 1) from by decide +kernel) rfl) ?_
  refine Eq.trans (x_lconst (v := 1) (show pm_in 129 80 = some (.lconst 1, 1) from by decide +kernel) (by decide)) ?_
  have q41 : pX 129 81 [.ref 67, .null] [.long 1, .ref 67] M18 77 (S + 6 + 240 + 4 + 240 + 6 + 6 + 9 + 360 + 1110) = pX 129 84 [.ref 67, .null] [] (va_up M18 67 (.inr (5, [.ref 68, .ref 69, .ref 70, .ref 71, .int 0, .ref 72, .ref 73, .ref 74, .int 0, .ref 75, .ref 76, .int 0, .long 0, .long 1, .int 0, .null, .int 0, .int 0, .int 0, .int 0, .null, .null, .null, .null, .null, .null, .int 0, .null]))) 77 (S + 6 + 240 + 4 + 240 + 6 + 6 + 9 + 360 + 1110) := x_putf (ci := 5) (k := 13) (fs := [.ref 68, .ref 69, .ref 70, .ref 71, .int 0, .ref 72, .ref 73, .ref 74, .int 0, .ref 75, .ref 76, .int 0, .long 0, .long 0, .int 0, .null, .int 0, .int 0, .int 0, .int 0, .null, .null, .null, .null, .null, .null, .int 0, .null]) (fs' := [.ref 68, .ref 69, .ref 70, .ref 71, .int 0, .ref 72, .ref 73, .ref 74, .int 0, .ref 75, .ref 76, .int 0, .long 0, .long 1, .int 0, .null, .int 0, .int 0, .int 0, .int 0, .null, .null, .null, .null, .null, .null, .int 0, .null]) (show pm_in 129 81 = some (.putfield 37, 3) from by decide +kernel) (by decide +kernel) f18_67 (by decide) (by decide) (by decide +kernel) (by decide +kernel) (by decide +kernel) rfl
  obtain ⟨M19, e19⟩ : ∃ m : pm_M, m = va_up M18 67 (.inr (5, [.ref 68, .ref 69, .ref 70, .ref 71, .int 0, .ref 72, .ref 73, .ref 74, .int 0, .ref 75, .ref 76, .int 0, .long 0, .long 1, .int 0, .null, .int 0, .int 0, .int 0, .int 0, .null, .null, .null, .null, .null, .null, .int 0, .null])) := ⟨_, rfl⟩
  rw [← e19] at q41
  refine q41.trans ?_
  have f19_67 : M19 67 = .inr (5, [.ref 68, .ref 69, .ref 70, .ref 71, .int 0, .ref 72, .ref 73, .ref 74, .int 0, .ref 75, .ref 76, .int 0, .long 0, .long 1, .int 0, .null, .int 0, .int 0, .int 0, .int 0, .null, .null, .null, .null, .null, .null, .int 0, .null]) := by rw [e19, vs]
  refine Eq.trans (x_aload_n (show pm_in 129 84 = some (.aload_n 0, 1) from by decide +kernel) rfl) ?_
  refine Eq.trans (x_bipush (v := 6) (show pm_in 129 85 = some (.bipush 6, 2) from by decide +kernel) (by decide)) ?_
  have q44 : pX 129 87 [.ref 67, .null] [.int 6, .ref 67] M19 77 (S + 6 + 240 + 4 + 240 + 6 + 6 + 9 + 360 + 1110) = pX 129 89 [.ref 67, .null] [.ref 77, .ref 67] (va_up M19 77 (.inl (0, 6, .inl (fun _ => 0)))) 78 (S + 6 + 240 + 4 + 240 + 6 + 6 + 9 + 360 + 1110 + 6) := x_newI (n := 6) (show pm_in 129 87 = some (.newarray .int, 2) from by decide +kernel) ⟨by decide +kernel, by decide +kernel⟩ (by decide +kernel) (by decide +kernel)
  obtain ⟨M20, e20⟩ : ∃ m : pm_M, m = va_up M19 77 (.inl (0, 6, .inl (fun _ => 0))) := ⟨_, rfl⟩
  rw [← e20] at q44
  refine q44.trans ?_
  have f20_67 : M20 67 = .inr (5, [.ref 68, .ref 69, .ref 70, .ref 71, .int 0, .ref 72, .ref 73, .ref 74, .int 0, .ref 75, .ref 76, .int 0, .long 0, .long 1, .int 0, .null, .int 0, .int 0, .int 0, .int 0, .null, .null, .null, .null, .null, .null, .int 0, .null]) := by rw [e20, vn (show (67 : Nat) ≠ 77 by decide)]; exact f19_67
  have q45 : pX 129 89 [.ref 67, .null] [.ref 77, .ref 67] M20 78 (S + 6 + 240 + 4 + 240 + 6 + 6 + 9 + 360 + 1110 + 6) = pX 129 92 [.ref 67, .null] [] (va_up M20 67 (.inr (5, [.ref 68, .ref 69, .ref 70, .ref 71, .int 0, .ref 72, .ref 73, .ref 74, .int 0, .ref 75, .ref 76, .int 0, .long 0, .long 1, .int 0, .ref 77, .int 0, .int 0, .int 0, .int 0, .null, .null, .null, .null, .null, .null, .int 0, .null]))) 78 (S + 6 + 240 + 4 + 240 + 6 + 6 + 9 + 360 + 1110 + 6) := x_putf (ci := 5) (k := 15) (fs := [.ref 68, .ref 69, .ref 70, .ref 71, .int 0, .ref 72, .ref 73, .ref 74, .int 0, .ref 75, .ref 76, .int 0, .long 0, .long 1, .int 0, .null, .int 0, .int 0, .int 0, .int 0, .null, .null, .null, .null, .null, .null, .int 0, .null]) (fs' := [.ref 68, .ref 69, .ref 70, .ref 71, .int 0, .ref 72, .ref 73, .ref 74, .int 0, .ref 75, .ref 76, .int 0, .long 0, .long 1, .int 0, .ref 77, .int 0, .int 0, .int 0, .int 0, .null, .null, .null, .null, .null, .null, .int 0, .null]) (show pm_in 129 89 = some (.putfield 41, 3) from by decide +kernel) (by decide +kernel) f20_67 (by decide) (by decide) (by decide +kernel) (by decide +kernel) (by decide +kernel) rfl
  obtain ⟨M21, e21⟩ : ∃ m : pm_M, m = va_up M20 67 (.inr (5, [.ref 68, .ref 69, .ref 70, .ref 71, .int 0, .ref 72, .ref 73, .ref 74, .int 0, .ref 75, .ref 76, .int 0, .long 0, .long 1, .int 0, .ref 77, .int 0, .int 0, .int 0, .int 0, .null, .null, .null, .null, .null, .null, .int 0, .null])) := ⟨_, rfl⟩
  rw [← e21] at q45
  refine q45.trans ?_
  have f21_67 : M21 67 = .inr (5, [.ref 68, .ref 69, .ref 70, .ref 71, .int 0, .ref 72, .ref 73, .ref 74, .int 0, .ref 75, .ref 76, .int 0, .long 0, .long 1, .int 0, .ref 77, .int 0, .int 0, .int 0, .int 0, .null, .null, .null, .null, .null, .null, .int 0, .null]) := by rw [e21, vs]
  refine Eq.trans (x_aload_n (show pm_in 129 92 = some (.aload_n 0, 1) from by decide +kernel) rfl) ?_
  refine Eq.trans (x_bipush (v := 6) (show pm_in 129 93 = some (.bipush 6, 2) from by decide +kernel) (by decide)) ?_
  have q48 : pX 129 95 [.ref 67, .null] [.int 6, .ref 67] M21 78 (S + 6 + 240 + 4 + 240 + 6 + 6 + 9 + 360 + 1110 + 6) = pX 129 97 [.ref 67, .null] [.ref 78, .ref 67] (va_up M21 78 (.inl (0, 6, .inl (fun _ => 0)))) 79 (S + 6 + 240 + 4 + 240 + 6 + 6 + 9 + 360 + 1110 + 6 + 6) := x_newI (n := 6) (show pm_in 129 95 = some (.newarray .int, 2) from by decide +kernel) ⟨by decide +kernel, by decide +kernel⟩ (by decide +kernel) (by decide +kernel)
  obtain ⟨M22, e22⟩ : ∃ m : pm_M, m = va_up M21 78 (.inl (0, 6, .inl (fun _ => 0))) := ⟨_, rfl⟩
  rw [← e22] at q48
  refine q48.trans ?_
  have f22_67 : M22 67 = .inr (5, [.ref 68, .ref 69, .ref 70, .ref 71, .int 0, .ref 72, .ref 73, .ref 74, .int 0, .ref 75, .ref 76, .int 0, .long 0, .long 1, .int 0, .ref 77, .int 0, .int 0, .int 0, .int 0, .null, .null, .null, .null, .null, .null, .int 0, .null]) := by rw [e22, vn (show (67 : Nat) ≠ 78 by decide)]; exact f21_67
  have q49 : pX 129 97 [.ref 67, .null] [.ref 78, .ref 67] M22 79 (S + 6 + 240 + 4 + 240 + 6 + 6 + 9 + 360 + 1110 + 6 + 6) = pX 129 100 [.ref 67, .null] [] (va_up M22 67 (.inr (5, [.ref 68, .ref 69, .ref 70, .ref 71, .int 0, .ref 72, .ref 73, .ref 74, .int 0, .ref 75, .ref 76, .int 0, .long 0, .long 1, .int 0, .ref 77, .int 0, .int 0, .int 0, .int 0, .ref 78, .null, .null, .null, .null, .null, .int 0, .null]))) 79 (S + 6 + 240 + 4 + 240 + 6 + 6 + 9 + 360 + 1110 + 6 + 6) := x_putf (ci := 5) (k := 20) (fs := [.ref 68, .ref 69, .ref 70, .ref 71, .int 0, .ref 72, .ref 73, .ref 74, .int 0, .ref 75, .ref 76, .int 0, .long 0, .long 1, .int 0, .ref 77, .int 0, .int 0, .int 0, .int 0, .null, .null, .null, .null, .null, .null, .int 0, .null]) (fs' := [.ref 68, .ref 69, .ref 70, .ref 71, .int 0, .ref 72, .ref 73, .ref 74, .int 0, .ref 75, .ref 76, .int 0, .long 0, .long 1, .int 0, .ref 77, .int 0, .int 0, .int 0, .int 0, .ref 78, .null, .null, .null, .null, .null, .int 0, .null]) (show pm_in 129 97 = some (.putfield 44, 3) from by decide +kernel) (by decide +kernel) f22_67 (by decide) (by decide) (by decide +kernel) (by decide +kernel) (by decide +kernel) rfl
  obtain ⟨M23, e23⟩ : ∃ m : pm_M, m = va_up M22 67 (.inr (5, [.ref 68, .ref 69, .ref 70, .ref 71, .int 0, .ref 72, .ref 73, .ref 74, .int 0, .ref 75, .ref 76, .int 0, .long 0, .long 1, .int 0, .ref 77, .int 0, .int 0, .int 0, .int 0, .ref 78, .null, .null, .null, .null, .null, .int 0, .null])) := ⟨_, rfl⟩
  rw [← e23] at q49
  refine q49.trans ?_
  have f23_67 : M23 67 = .inr (5, [.ref 68, .ref 69, .ref 70, .ref 71, .int 0, .ref 72, .ref 73, .ref 74, .int 0, .ref 75, .ref 76, .int 0, .long 0, .long 1, .int 0, .ref 77, .int 0, .int 0, .int 0, .int 0, .ref 78, .null, .null, .null, .null, .null, .int 0, .null]) := by rw [e23, vs]
  refine Eq.trans (x_aload_n (show pm_in 129 100 = some (.aload_n 0, 1) from by decide +kernel) rfl) ?_
  refine Eq.trans (x_bipush (v := 6) (show pm_in 129 101 = some (.bipush 6, 2) from by decide +kernel) (by decide)) ?_
  have q52 : pX 129 103 [.ref 67, .null] [.int 6, .ref 67] M23 79 (S + 6 + 240 + 4 + 240 + 6 + 6 + 9 + 360 + 1110 + 6 + 6) = pX 129 105 [.ref 67, .null] [.ref 79, .ref 67] (va_up M23 79 (.inl (0, 6, .inl (fun _ => 0)))) 80 (S + 6 + 240 + 4 + 240 + 6 + 6 + 9 + 360 + 1110 + 6 + 6 + 6) := x_newI (n := 6) (show pm_in 129 103 = some (.newarray .int, 2) from by decide +kernel) ⟨by decide +kernel, by decide +kernel⟩ (by decide +kernel) (by decide +kernel)
  obtain ⟨M24, e24⟩ : ∃ m : pm_M, m = va_up M23 79 (.inl (0, 6, .inl (fun _ => 0))) := ⟨_, rfl⟩
  rw [← e24] at q52
  refine q52.trans ?_
  have f24_67 : M24 67 = .inr (5, [.ref 68, .ref 69, .ref 70, .ref 71, .int 0, .ref 72, .ref 73, .ref 74, .int 0, .ref 75, .ref 76, .int 0, .long 0, .long 1, .int 0, .ref 77, .int 0, .int 0, .int 0, .int 0, .ref 78, .null, .null, .null, .null, .null, .int 0, .null]) := by rw [e24, vn (show (67 : Nat) ≠ 79 by decide)]; exact f23_67
  have q53 : pX 129 105 [.ref 67, .null] [.ref 79, .ref 67] M24 80 (S + 6 + 240 + 4 + 240 + 6 + 6 + 9 + 360 + 1110 + 6 + 6 + 6) = pX 129 108 [.ref 67, .null] [] (va_up M24 67 (.inr (5, [.ref 68, .ref 69, .ref 70, .ref 71, .int 0, .ref 72, .ref 73, .ref 74, .int 0, .ref 75, .ref 76, .int 0, .long 0, .long 1, .int 0, .ref 77, .int 0, .int 0, .int 0, .int 0, .ref 78, .ref 79, .null, .null, .null, .null, .int 0, .null]))) 80 (S + 6 + 240 + 4 + 240 + 6 + 6 + 9 + 360 + 1110 + 6 + 6 + 6) := x_putf (ci := 5) (k := 21) (fs := [.ref 68, .ref 69, .ref 70, .ref 71, .int 0, .ref 72, .ref 73, .ref 74, .int 0, .ref 75, .ref 76, .int 0, .long 0, .long 1, .int 0, .ref 77, .int 0, .int 0, .int 0, .int 0, .ref 78, .null, .null, .null, .null, .null, .int 0, .null]) (fs' := [.ref 68, .ref 69, .ref 70, .ref 71, .int 0, .ref 72, .ref 73, .ref 74, .int 0, .ref 75, .ref 76, .int 0, .long 0, .long 1, .int 0, .ref 77, .int 0, .int 0, .int 0, .int 0, .ref 78, .ref 79, .null, .null, .null, .null, .int 0, .null]) (show pm_in 129 105 = some (.putfield 47, 3) from by decide +kernel) (by decide +kernel) f24_67 (by decide) (by decide) (by decide +kernel) (by decide +kernel) (by decide +kernel) rfl
  obtain ⟨M25, e25⟩ : ∃ m : pm_M, m = va_up M24 67 (.inr (5, [.ref 68, .ref 69, .ref 70, .ref 71, .int 0, .ref 72, .ref 73, .ref 74, .int 0, .ref 75, .ref 76, .int 0, .long 0, .long 1, .int 0, .ref 77, .int 0, .int 0, .int 0, .int 0, .ref 78, .ref 79, .null, .null, .null, .null, .int 0, .null])) := ⟨_, rfl⟩
  rw [← e25] at q53
  refine q53.trans ?_
  have f25_67 : M25 67 = .inr (5, [.ref 68, .ref 69, .ref 70, .ref 71, .int 0, .ref 72, .ref 73, .ref 74, .int 0, .ref 75, .ref 76, .int 0, .long 0, .long 1, .int 0, .ref 77, .int 0, .int 0, .int 0, .int 0, .ref 78, .ref 79, .null, .null, .null, .null, .int 0, .null]) := by rw [e25, vs]
  refine Eq.trans (x_aload_n (show pm_in 129 108 = some (.aload_n 0, 1) from by decide +kernel) rfl) ?_
  refine Eq.trans (x_bipush (v := 9) (show pm_in 129 109 = some (.bipush 9, 2) from by decide +kernel) (by decide)) ?_
  have q56 : pX 129 111 [.ref 67, .null] [.int 9, .ref 67] M25 80 (S + 6 + 240 + 4 + 240 + 6 + 6 + 9 + 360 + 1110 + 6 + 6 + 6) = pX 129 113 [.ref 67, .null] [.ref 80, .ref 67] (va_up M25 80 (.inl (0, 9, .inl (fun _ => 0)))) 81 (S + 6 + 240 + 4 + 240 + 6 + 6 + 9 + 360 + 1110 + 6 + 6 + 6 + 9) := x_newI (n := 9) (show pm_in 129 111 = some (.newarray .int, 2) from by decide +kernel) ⟨by decide +kernel, by decide +kernel⟩ (by decide +kernel) (by decide +kernel)
  obtain ⟨M26, e26⟩ : ∃ m : pm_M, m = va_up M25 80 (.inl (0, 9, .inl (fun _ => 0))) := ⟨_, rfl⟩
  rw [← e26] at q56
  refine q56.trans ?_
  have f26_67 : M26 67 = .inr (5, [.ref 68, .ref 69, .ref 70, .ref 71, .int 0, .ref 72, .ref 73, .ref 74, .int 0, .ref 75, .ref 76, .int 0, .long 0, .long 1, .int 0, .ref 77, .int 0, .int 0, .int 0, .int 0, .ref 78, .ref 79, .null, .null, .null, .null, .int 0, .null]) := by rw [e26, vn (show (67 : Nat) ≠ 80 by decide)]; exact f25_67
  have q57 : pX 129 113 [.ref 67, .null] [.ref 80, .ref 67] M26 81 (S + 6 + 240 + 4 + 240 + 6 + 6 + 9 + 360 + 1110 + 6 + 6 + 6 + 9) = pX 129 116 [.ref 67, .null] [] (va_up M26 67 (.inr (5, [.ref 68, .ref 69, .ref 70, .ref 71, .int 0, .ref 72, .ref 73, .ref 74, .int 0, .ref 75, .ref 76, .int 0, .long 0, .long 1, .int 0, .ref 77, .int 0, .int 0, .int 0, .int 0, .ref 78, .ref 79, .ref 80, .null, .null, .null, .int 0, .null]))) 81 (S + 6 + 240 + 4 + 240 + 6 + 6 + 9 + 360 + 1110 + 6 + 6 + 6 + 9) := x_putf (ci := 5) (k := 22) (fs := [.ref 68, .ref 69, .ref 70, .ref 71, .int 0, .ref 72, .ref 73, .ref 74, .int 0, .ref 75, .ref 76, .int 0, .long 0, .long 1, .int 0, .ref 77, .int 0, .int 0, .int 0, .int 0, .ref 78, .ref 79, .null, .null, .null, .null, .int 0, .null]) (fs' := [.ref 68, .ref 69, .ref 70, .ref 71, .int 0, .ref 72, .ref 73, .ref 74, .int 0, .ref 75, .ref 76, .int 0, .long 0, .long 1, .int 0, .ref 77, .int 0, .int 0, .int 0, .int 0, .ref 78, .ref 79, .ref 80, .null, .null, .null, .int 0, .null]) (show pm_in 129 113 = some (.putfield 50, 3) from by decide +kernel) (by decide +kernel) f26_67 (by decide) (by decide) (by decide +kernel) (by decide +kernel) (by decide +kernel) rfl
  obtain ⟨M27, e27⟩ : ∃ m : pm_M, m = va_up M26 67 (.inr (5, [.ref 68, .ref 69, .ref 70, .ref 71, .int 0, .ref 72, .ref 73, .ref 74, .int 0, .ref 75, .ref 76, .int 0, .long 0, .long 1, .int 0, .ref 77, .int 0, .int 0, .int 0, .int 0, .ref 78, .ref 79, .ref 80, .null, .null, .null, .int 0, .null])) := ⟨_, rfl⟩
  rw [← e27] at q57
  refine q57.trans ?_
  have f27_67 : M27 67 = .inr (5, [.ref 68, .ref 69, .ref 70, .ref 71, .int 0, .ref 72, .ref 73, .ref 74, .int 0, .ref 75, .ref 76, .int 0, .long 0, .long 1, .int 0, .ref 77, .int 0, .int 0, .int 0, .int 0, .ref 78, .ref 79, .ref 80, .null, .null, .null, .int 0, .null]) := by rw [e27, vs]
  refine Eq.trans (x_aload_n (show pm_in 129 116 = some (.aload_n 0, 1) from by decide +kernel) rfl) ?_
  refine Eq.trans (x_bipush (v := 9) (show pm_in 129 117 = some (.bipush 9, 2) from by decide +kernel) (by decide)) ?_
  have q60 : pX 129 119 [.ref 67, .null] [.int 9, .ref 67] M27 81 (S + 6 + 240 + 4 + 240 + 6 + 6 + 9 + 360 + 1110 + 6 + 6 + 6 + 9) = pX 129 121 [.ref 67, .null] [.ref 81, .ref 67] (va_up M27 81 (.inl (0, 9, .inl (fun _ => 0)))) 82 (S + 6 + 240 + 4 + 240 + 6 + 6 + 9 + 360 + 1110 + 6 + 6 + 6 + 9 + 9) := x_newI (n := 9) (show pm_in 129 119 = some (.newarray .int, 2) from by decide +kernel) ⟨by decide +kernel, by decide +kernel⟩ (by decide +kernel) (by decide +kernel)
  obtain ⟨M28, e28⟩ : ∃ m : pm_M, m = va_up M27 81 (.inl (0, 9, .inl (fun _ => 0))) := ⟨_, rfl⟩
  rw [← e28] at q60
  refine q60.trans ?_
  have f28_67 : M28 67 = .inr (5, [.ref 68, .ref 69, .ref 70, .ref 71, .int 0, .ref 72, .ref 73, .ref 74, .int 0, .ref 75, .ref 76, .int 0, .long 0, .long 1, .int 0, .ref 77, .int 0, .int 0, .int 0, .int 0, .ref 78, .ref 79, .ref 80, .null, .null, .null, .int 0, .null]) := by rw [e28, vn (show (67 : Nat) ≠ 81 by decide)]; exact f27_67
  have q61 : pX 129 121 [.ref 67, .null] [.ref 81, .ref 67] M28 82 (S + 6 + 240 + 4 + 240 + 6 + 6 + 9 + 360 + 1110 + 6 + 6 + 6 + 9 + 9) = pX 129 124 [.ref 67, .null] [] (va_up M28 67 (.inr (5, [.ref 68, .ref 69, .ref 70, .ref 71, .int 0, .ref 72, .ref 73, .ref 74, .int 0, .ref 75, .ref 76, .int 0, .long 0, .long 1, .int 0, .ref 77, .int 0, .int 0, .int 0, .int 0, .ref 78, .ref 79, .ref 80, .ref 81, .null, .null, .int 0, .null]))) 82 (S + 6 + 240 + 4 + 240 + 6 + 6 + 9 + 360 + 1110 + 6 + 6 + 6 + 9 + 9) := x_putf (ci := 5) (k := 23) (fs := [.ref 68, .ref 69, .ref 70, .ref 71, .int 0, .ref 72, .ref 73, .ref 74, .int 0, .ref 75, .ref 76, .int 0, .long 0, .long 1, .int 0, .ref 77, .int 0, .int 0, .int 0, .int 0, .ref 78, .ref 79, .ref 80, .null, .null, .null, .int 0, .null]) (fs' := [.ref 68, .ref 69, .ref 70, .ref 71, .int 0, .ref 72, .ref 73, .ref 74, .int 0, .ref 75, .ref 76, .int 0, .long 0, .long 1, .int 0, .ref 77, .int 0, .int 0, .int 0, .int 0, .ref 78, .ref 79, .ref 80, .ref 81, .null, .null, .int 0, .null]) (show pm_in 129 121 = some (.putfield 53, 3) from by decide +kernel) (by decide +kernel) f28_67 (by decide) (by decide) (by decide +kernel) (by decide +kernel) (by decide +kernel) rfl
  obtain ⟨M29, e29⟩ : ∃ m : pm_M, m = va_up M28 67 (.inr (5, [.ref 68, .ref 69, .ref 70, .ref 71, .int 0, .ref 72, .ref 73, .ref 74, .int 0, .ref 75, .ref 76, .int 0, .long 0, .long 1, .int 0, .ref 77, .int 0, .int 0, .int 0, .int 0, .ref 78, .ref 79, .ref 80, .ref 81, .null, .null, .int 0, .null])) := ⟨_, rfl⟩
  rw [← e29] at q61
  refine q61.trans ?_
  have f29_67 : M29 67 = .inr (5, [.ref 68, .ref 69, .ref 70, .ref 71, .int 0, .ref 72, .ref 73, .ref 74, .int 0, .ref 75, .ref 76, .int 0, .long 0, .long 1, .int 0, .ref 77, .int 0, .int 0, .int 0, .int 0, .ref 78, .ref 79, .ref 80, .ref 81, .null, .null, .int 0, .null]) := by rw [e29, vs]
  refine Eq.trans (x_aload_n (show pm_in 129 124 = some (.aload_n 0, 1) from by decide +kernel) rfl) ?_
  refine Eq.trans (x_bipush (v := 64) (show pm_in 129 125 = some (.bipush 64, 2) from by decide +kernel) (by decide)) ?_
  have q64 : pX 129 127 [.ref 67, .null] [.int 64, .ref 67] M29 82 (S + 6 + 240 + 4 + 240 + 6 + 6 + 9 + 360 + 1110 + 6 + 6 + 6 + 9 + 9) = pX 129 129 [.ref 67, .null] [.ref 82, .ref 67] (va_up M29 82 (.inl (1, 64, .inl (fun _ => 0)))) 83 (S + 6 + 240 + 4 + 240 + 6 + 6 + 9 + 360 + 1110 + 6 + 6 + 6 + 9 + 9 + 64) := x_newZ (n := 64) (show pm_in 129 127 = some (.newarray .boolean, 2) from by decide +kernel) ⟨by decide +kernel, by decide +kernel⟩ (by decide +kernel) (by decide +kernel)
  obtain ⟨M30, e30⟩ : ∃ m : pm_M, m = va_up M29 82 (.inl (1, 64, .inl (fun _ => 0))) := ⟨_, rfl⟩
  rw [← e30] at q64
  refine q64.trans ?_
  have f30_67 : M30 67 = .inr (5, [.ref 68, .ref 69, .ref 70, .ref 71, .int 0, .ref 72, .ref 73, .ref 74, .int 0, .ref 75, .ref 76, .int 0, .long 0, .long 1, .int 0, .ref 77, .int 0, .int 0, .int 0, .int 0, .ref 78, .ref 79, .ref 80, .ref 81, .null, .null, .int 0, .null]) := by rw [e30, vn (show (67 : Nat) ≠ 82 by decide)]; exact f29_67
  have q65 : pX 129 129 [.ref 67, .null] [.ref 82, .ref 67] M30 83 (S + 6 + 240 + 4 + 240 + 6 + 6 + 9 + 360 + 1110 + 6 + 6 + 6 + 9 + 9 + 64) = pX 129 132 [.ref 67, .null] [] (va_up M30 67 (.inr (5, [.ref 68, .ref 69, .ref 70, .ref 71, .int 0, .ref 72, .ref 73, .ref 74, .int 0, .ref 75, .ref 76, .int 0, .long 0, .long 1, .int 0, .ref 77, .int 0, .int 0, .int 0, .int 0, .ref 78, .ref 79, .ref 80, .ref 81, .ref 82, .null, .int 0, .null]))) 83 (S + 6 + 240 + 4 + 240 + 6 + 6 + 9 + 360 + 1110 + 6 + 6 + 6 + 9 + 9 + 64) := x_putf (ci := 5) (k := 24) (fs := [.ref 68, .ref 69, .ref 70, .ref 71, .int 0, .ref 72, .ref 73, .ref 74, .int 0, .ref 75, .ref 76, .int 0, .long 0, .long 1, .int 0, .ref 77, .int 0, .int 0, .int 0, .int 0, .ref 78, .ref 79, .ref 80, .ref 81, .null, .null, .int 0, .null]) (fs' := [.ref 68, .ref 69, .ref 70, .ref 71, .int 0, .ref 72, .ref 73, .ref 74, .int 0, .ref 75, .ref 76, .int 0, .long 0, .long 1, .int 0, .ref 77, .int 0, .int 0, .int 0, .int 0, .ref 78, .ref 79, .ref 80, .ref 81, .ref 82, .null, .int 0, .null]) (show pm_in 129 129 = some (.putfield 56, 3) from by decide +kernel) (by decide +kernel) f30_67 (by decide) (by decide) (by decide +kernel) (by decide +kernel) (by decide +kernel) rfl
  obtain ⟨M31, e31⟩ : ∃ m : pm_M, m = va_up M30 67 (.inr (5, [.ref 68, .ref 69, .ref 70, .ref 71, .int 0, .ref 72, .ref 73, .ref 74, .int 0, .ref 75, .ref 76, .int 0, .long 0, .long 1, .int 0, .ref 77, .int 0, .int 0, .int 0, .int 0, .ref 78, .ref 79, .ref 80, .ref 81, .ref 82, .null, .int 0, .null])) := ⟨_, rfl⟩
  rw [← e31] at q65
  refine q65.trans ?_
  have f31_67 : M31 67 = .inr (5, [.ref 68, .ref 69, .ref 70, .ref 71, .int 0, .ref 72, .ref 73, .ref 74, .int 0, .ref 75, .ref 76, .int 0, .long 0, .long 1, .int 0, .ref 77, .int 0, .int 0, .int 0, .int 0, .ref 78, .ref 79, .ref 80, .ref 81, .ref 82, .null, .int 0, .null]) := by rw [e31, vs]
  refine Eq.trans (x_aload_n (show pm_in 129 132 = some (.aload_n 0, 1) from by decide +kernel) rfl) ?_
  refine Eq.trans (x_sipush (v := 448) (show pm_in 129 133 = some (.sipush 448, 3) from by decide +kernel) (by decide)) ?_
  have q68 : pX 129 136 [.ref 67, .null] [.int 448, .ref 67] M31 83 (S + 6 + 240 + 4 + 240 + 6 + 6 + 9 + 360 + 1110 + 6 + 6 + 6 + 9 + 9 + 64) = pX 129 138 [.ref 67, .null] [.ref 83, .ref 67] (va_up M31 83 (.inl (0, 448, .inl (fun _ => 0)))) 84 (S + 6 + 240 + 4 + 240 + 6 + 6 + 9 + 360 + 1110 + 6 + 6 + 6 + 9 + 9 + 64 + 448) := x_newI (n := 448) (show pm_in 129 136 = some (.newarray .int, 2) from by decide +kernel) ⟨by decide +kernel, by decide +kernel⟩ (by decide +kernel) (by decide +kernel)
  obtain ⟨M32, e32⟩ : ∃ m : pm_M, m = va_up M31 83 (.inl (0, 448, .inl (fun _ => 0))) := ⟨_, rfl⟩
  rw [← e32] at q68
  refine q68.trans ?_
  have f32_67 : M32 67 = .inr (5, [.ref 68, .ref 69, .ref 70, .ref 71, .int 0, .ref 72, .ref 73, .ref 74, .int 0, .ref 75, .ref 76, .int 0, .long 0, .long 1, .int 0, .ref 77, .int 0, .int 0, .int 0, .int 0, .ref 78, .ref 79, .ref 80, .ref 81, .ref 82, .null, .int 0, .null]) := by rw [e32, vn (show (67 : Nat) ≠ 83 by decide)]; exact f31_67
  have q69 : pX 129 138 [.ref 67, .null] [.ref 83, .ref 67] M32 84 (S + 6 + 240 + 4 + 240 + 6 + 6 + 9 + 360 + 1110 + 6 + 6 + 6 + 9 + 9 + 64 + 448) = pX 129 141 [.ref 67, .null] [] (va_up M32 67 (.inr (5, [.ref 68, .ref 69, .ref 70, .ref 71, .int 0, .ref 72, .ref 73, .ref 74, .int 0, .ref 75, .ref 76, .int 0, .long 0, .long 1, .int 0, .ref 77, .int 0, .int 0, .int 0, .int 0, .ref 78, .ref 79, .ref 80, .ref 81, .ref 82, .ref 83, .int 0, .null]))) 84 (S + 6 + 240 + 4 + 240 + 6 + 6 + 9 + 360 + 1110 + 6 + 6 + 6 + 9 + 9 + 64 + 448) := x_putf (ci := 5) (k := 25) (fs := [.ref 68, .ref 69, .ref 70, .ref 71, .int 0, .ref 72, .ref 73, .ref 74, .int 0, .ref 75, .ref 76, .int 0, .long 0, .long 1, .int 0, .ref 77, .int 0, .int 0, .int 0, .int 0, .ref 78, .ref 79, .ref 80, .ref 81, .ref 82, .null, .int 0, .null]) (fs' := [.ref 68, .ref 69, .ref 70, .ref 71, .int 0, .ref 72, .ref 73, .ref 74, .int 0, .ref 75, .ref 76, .int 0, .long 0, .long 1, .int 0, .ref 77, .int 0, .int 0, .int 0, .int 0, .ref 78, .ref 79, .ref 80, .ref 81, .ref 82, .ref 83, .int 0, .null]) (show pm_in 129 138 = some (.putfield 60, 3) from by decide +kernel) (by decide +kernel) f32_67 (by decide) (by decide) (by decide +kernel) (by decide +kernel) (by decide +kernel) rfl
  obtain ⟨M33, e33⟩ : ∃ m : pm_M, m = va_up M32 67 (.inr (5, [.ref 68, .ref 69, .ref 70, .ref 71, .int 0, .ref 72, .ref 73, .ref 74, .int 0, .ref 75, .ref 76, .int 0, .long 0, .long 1, .int 0, .ref 77, .int 0, .int 0, .int 0, .int 0, .ref 78, .ref 79, .ref 80, .ref 81, .ref 82, .ref 83, .int 0, .null])) := ⟨_, rfl⟩
  rw [← e33] at q69
  refine q69.trans ?_
  have f33_67 : M33 67 = .inr (5, [.ref 68, .ref 69, .ref 70, .ref 71, .int 0, .ref 72, .ref 73, .ref 74, .int 0, .ref 75, .ref 76, .int 0, .long 0, .long 1, .int 0, .ref 77, .int 0, .int 0, .int 0, .int 0, .ref 78, .ref 79, .ref 80, .ref 81, .ref 82, .ref 83, .int 0, .null]) := by rw [e33, vs]
  refine Eq.trans (x_aload_n (show pm_in 129 141 = some (.aload_n 0, 1) from by decide +kernel) rfl) ?_
  refine Eq.trans (x_sipush (v := 2401) (show pm_in 129 142 = some (.sipush 2401, 3) from by decide +kernel) (by decide)) ?_
  have q72 : pX 129 145 [.ref 67, .null] [.int 2401, .ref 67] M33 84 (S + 6 + 240 + 4 + 240 + 6 + 6 + 9 + 360 + 1110 + 6 + 6 + 6 + 9 + 9 + 64 + 448) = pX 129 147 [.ref 67, .null] [.ref 84, .ref 67] (va_up M33 84 (.inl (0, 2401, .inl (fun _ => 0)))) 85 (S + 6 + 240 + 4 + 240 + 6 + 6 + 9 + 360 + 1110 + 6 + 6 + 6 + 9 + 9 + 64 + 448 + 2401) := x_newI (n := 2401) (show pm_in 129 145 = some (.newarray .int, 2) from by decide +kernel) ⟨by decide +kernel, by decide +kernel⟩ (by decide +kernel) (by decide +kernel)
  obtain ⟨M34, e34⟩ : ∃ m : pm_M, m = va_up M33 84 (.inl (0, 2401, .inl (fun _ => 0))) := ⟨_, rfl⟩
  rw [← e34] at q72
  refine q72.trans ?_
  have f34_67 : M34 67 = .inr (5, [.ref 68, .ref 69, .ref 70, .ref 71, .int 0, .ref 72, .ref 73, .ref 74, .int 0, .ref 75, .ref 76, .int 0, .long 0, .long 1, .int 0, .ref 77, .int 0, .int 0, .int 0, .int 0, .ref 78, .ref 79, .ref 80, .ref 81, .ref 82, .ref 83, .int 0, .null]) := by rw [e34, vn (show (67 : Nat) ≠ 84 by decide)]; exact f33_67
  have q73 : pX 129 147 [.ref 67, .null] [.ref 84, .ref 67] M34 85 (S + 6 + 240 + 4 + 240 + 6 + 6 + 9 + 360 + 1110 + 6 + 6 + 6 + 9 + 9 + 64 + 448 + 2401) = pX 129 150 [.ref 67, .null] [] (va_up M34 67 (.inr (5, [.ref 68, .ref 69, .ref 70, .ref 71, .int 0, .ref 72, .ref 73, .ref 74, .int 0, .ref 75, .ref 76, .int 0, .long 0, .long 1, .int 0, .ref 77, .int 0, .int 0, .int 0, .int 0, .ref 78, .ref 79, .ref 80, .ref 81, .ref 82, .ref 83, .int 0, .ref 84]))) 85 (S + 6 + 240 + 4 + 240 + 6 + 6 + 9 + 360 + 1110 + 6 + 6 + 6 + 9 + 9 + 64 + 448 + 2401) := x_putf (ci := 5) (k := 27) (fs := [.ref 68, .ref 69, .ref 70, .ref 71, .int 0, .ref 72, .ref 73, .ref 74, .int 0, .ref 75, .ref 76, .int 0, .long 0, .long 1, .int 0, .ref 77, .int 0, .int 0, .int 0, .int 0, .ref 78, .ref 79, .ref 80, .ref 81, .ref 82, .ref 83, .int 0, .null]) (fs' := [.ref 68, .ref 69, .ref 70, .ref 71, .int 0, .ref 72, .ref 73, .ref 74, .int 0, .ref 75, .ref 76, .int 0, .long 0, .long 1, .int 0, .ref 77, .int 0, .int 0, .int 0, .int 0, .ref 78, .ref 79, .ref 80, .ref 81, .ref 82, .ref 83, .int 0, .ref 84]) (show pm_in 129 147 = some (.putfield 63, 3) from by decide +kernel) (by decide +kernel) f34_67 (by decide) (by decide) (by decide +kernel) (by decide +kernel) (by decide +kernel) rfl
  obtain ⟨M35, e35⟩ : ∃ m : pm_M, m = va_up M34 67 (.inr (5, [.ref 68, .ref 69, .ref 70, .ref 71, .int 0, .ref 72, .ref 73, .ref 74, .int 0, .ref 75, .ref 76, .int 0, .long 0, .long 1, .int 0, .ref 77, .int 0, .int 0, .int 0, .int 0, .ref 78, .ref 79, .ref 80, .ref 81, .ref 82, .ref 83, .int 0, .ref 84])) := ⟨_, rfl⟩
  rw [← e35] at q73
  refine q73.trans ?_
  have f35_67 : M35 67 = .inr (5, [.ref 68, .ref 69, .ref 70, .ref 71, .int 0, .ref 72, .ref 73, .ref 74, .int 0, .ref 75, .ref 76, .int 0, .long 0, .long 1, .int 0, .ref 77, .int 0, .int 0, .int 0, .int 0, .ref 78, .ref 79, .ref 80, .ref 81, .ref 82, .ref 83, .int 0, .ref 84]) := by rw [e35, vs]
  unfold mem129
  rw [e35, e34, e33, e32, e31, e30, e29, e28, e27, e26, e25, e24, e23, e22, e21, e20, e19, e18, e17, e16, e15, e14, e13, e12, e11, e10, e9, e8, e7, e6, e5, e4, e3, e2, e1]
