theorem law_run (L : Nat) (xs : Nat → Int32) (hL : L ≤ 3072) : ∃ (n : Nat) (M : pm_M) (N S : Nat), (pm_ex n 225 0 (pm_ent 225 [.ref 1002]) [] (pm_M0 L xs) 0 0 = some (some (.int 1), M, N, S) ∧ N ≤ 1000) ∧ S ≤ 7302250 := by
  sorry
