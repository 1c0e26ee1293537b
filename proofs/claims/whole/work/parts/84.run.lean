/-! THE LAW: its loop; what a run comes to; printed by program (wip/gen/lawcases.py) -/
section LD
variable {L : Nat} {xs : Nat → Int32} {S : Nat}
theorem lw_sw {i g d : Nat} {σ : Nat → Nat → Int32} {τ : Nat → Nat → Int64} {v : Int32} (hi : i + 6 ≤ L) (hL : L ≤ 3072) (R : Rel g d σ τ) : ∃ σ' τ' g' d', pX 225 33 [.ref 1002, .ref 0, .ref 67, .int (nI i)] [.int v] (mm L xs σ τ) 85 S = pX 225 1462 [.ref 1002, .ref 0, .ref 67, .int (nI i)] [] (mm L xs σ' τ') 85 S ∧ Rel g' d' σ' τ' := by
  rw [iL_law_33]
  by_cases h0 : v = 0
  · rw [if_pos h0]; exact lw_c0 hi hL R
  rw [if_neg h0]
  by_cases h1 : v = 1
  · rw [if_pos h1]; exact lw_c1 hi hL R
  rw [if_neg h1]
  by_cases h2 : v = 2
  · rw [if_pos h2]; exact lw_c2 hi hL R
  rw [if_neg h2]
  by_cases h3 : v = 3
  · rw [if_pos h3]; exact lw_c3 hi hL R
  rw [if_neg h3]
  by_cases h4 : v = 4
  · rw [if_pos h4]; exact lw_c4 hi hL R
  rw [if_neg h4]
  by_cases h5 : v = 5
  · rw [if_pos h5]; exact lw_c5 hi hL R
  rw [if_neg h5]
  by_cases h6 : v = 6
  · rw [if_pos h6]; exact lw_c6 hi hL R
  rw [if_neg h6]
  by_cases h7 : v = 7
  · rw [if_pos h7]; exact lw_c7 hi hL R
  rw [if_neg h7]
  by_cases h8 : v = 8
  · rw [if_pos h8]; exact lw_c8 hi hL R
  rw [if_neg h8]
  by_cases h9 : v = 9
  · rw [if_pos h9]; exact lw_c9 hi hL R
  rw [if_neg h9]
  by_cases h10 : v = 10
  · rw [if_pos h10]; exact lw_c10 hi hL R
  rw [if_neg h10]
  by_cases h11 : v = 11
  · rw [if_pos h11]; exact lw_c11 hi hL R
  rw [if_neg h11]
  by_cases h12 : v = 12
  · rw [if_pos h12]; exact lw_c12 hi hL R
  rw [if_neg h12]
  by_cases h13 : v = 13
  · rw [if_pos h13]; exact lw_c13 hi hL R
  rw [if_neg h13]
  by_cases h14 : v = 14
  · rw [if_pos h14]; exact lw_c14 hi hL R
  rw [if_neg h14]
  by_cases h15 : v = 15
  · rw [if_pos h15]; exact lw_c15 hi hL R
  rw [if_neg h15]
  by_cases h16 : v = 16
  · rw [if_pos h16]; exact lw_c16 hi hL R
  rw [if_neg h16]
  by_cases h17 : v = 17
  · rw [if_pos h17]; exact lw_c17 hi hL R
  rw [if_neg h17]
  by_cases h18 : v = 18
  · rw [if_pos h18]; exact lw_c18 hi hL R
  rw [if_neg h18]
  by_cases h19 : v = 19
  · rw [if_pos h19]; exact lw_c19 hi hL R
  rw [if_neg h19]
  by_cases h20 : v = 20
  · rw [if_pos h20]; exact lw_c20 hi hL R
  rw [if_neg h20]
  by_cases h21 : v = 21
  · rw [if_pos h21]; exact lw_c21 hi hL R
  rw [if_neg h21]
  by_cases h22 : v = 22
  · rw [if_pos h22]; exact lw_c22 hi hL R
  rw [if_neg h22]
  by_cases h23 : v = 23
  · rw [if_pos h23]; exact lw_c23 hi hL R
  rw [if_neg h23]
  by_cases h24 : v = 24
  · rw [if_pos h24]; exact lw_c24 hi hL R
  rw [if_neg h24]
  by_cases h25 : v = 25
  · rw [if_pos h25]; exact lw_c25 hi hL R
  rw [if_neg h25]
  by_cases h26 : v = 26
  · rw [if_pos h26]; exact lw_c26 hi hL R
  rw [if_neg h26]
  by_cases h27 : v = 27
  · rw [if_pos h27]; exact lw_c27 hi hL R
  rw [if_neg h27]
  by_cases h28 : v = 28
  · rw [if_pos h28]; exact lw_c28 hi hL R
  rw [if_neg h28]
  by_cases h29 : v = 29
  · rw [if_pos h29]; exact lw_c29 hi hL R
  rw [if_neg h29]
  by_cases h30 : v = 30
  · rw [if_pos h30]; exact lw_c30 hi hL R
  rw [if_neg h30]
  by_cases h31 : v = 31
  · rw [if_pos h31]; exact lw_c31 hi hL R
  rw [if_neg h31]
  by_cases h32 : v = 32
  · rw [if_pos h32]; exact lw_c32 hi hL R
  rw [if_neg h32]
  by_cases h33 : v = 33
  · rw [if_pos h33]; exact lw_c33 hi hL R
  rw [if_neg h33]
  by_cases h34 : v = 34
  · rw [if_pos h34]; exact lw_c34 hi hL R
  rw [if_neg h34]
  by_cases h35 : v = 35
  · rw [if_pos h35]; exact lw_c35 hi hL R
  rw [if_neg h35]
  by_cases h36 : v = 36
  · rw [if_pos h36]; exact lw_c36 hi hL R
  rw [if_neg h36]
  by_cases h37 : v = 37
  · rw [if_pos h37]; exact lw_c37 hi hL R
  rw [if_neg h37]
  by_cases h38 : v = 38
  · rw [if_pos h38]; exact lw_c38 hi hL R
  rw [if_neg h38]
  by_cases h39 : v = 39
  · rw [if_pos h39]; exact lw_c39 hi hL R
  rw [if_neg h39]
  by_cases h40 : v = 40
  · rw [if_pos h40]; exact lw_c40 hi hL R
  rw [if_neg h40]
  by_cases h41 : v = 41
  · rw [if_pos h41]; exact lw_c41 hi hL R
  rw [if_neg h41]
  by_cases h42 : v = 42
  · rw [if_pos h42]; exact lw_c42 hi hL R
  rw [if_neg h42]
  exact ⟨σ, τ, g, d, rfl, R⟩
theorem lsub (hL : L ≤ 3072) : (nI L - 6).toInt = (L : Int) - 6 := by
  rw [Int32.toInt_sub, nI_toInt (show L < 2 ^ 31 by omega), show (6 : Int32).toInt = 6 from rfl]
  simp only [Int.bmod]; omega
theorem llt {i : Nat} (hL : L ≤ 3072) (hi : i ≤ 5000) : (nI L - 6 < nI i) = (L < i + 6) := by
  rw [Int32.lt_iff_toInt_lt, lsub hL, nI_toInt (show i < 2 ^ 31 by omega)]
  exact propext ⟨fun h => by omega, fun h => by omega⟩
theorem law_loop (hL : L ≤ 3072) : ∀ n i g d (σ : Nat → Nat → Int32) (τ : Nat → Nat → Int64), L < i + 6 * n → i ≤ L + 6 → Rel g d σ τ → ∃ σ' τ', pX 225 18 [.ref 1002, .ref 0, .ref 67, .int (nI i)] [] (mm L xs σ τ) 85 S = some (some (.int 1), mm L xs σ' τ', 85, S) := by
  intro n
  induction n with
  | zero =>
    intro i g d σ τ h1 h2 R
    have c : (nI L - 6 < nI i) = True := by rw [llt hL (by omega)]; exact eq_true (by omega)
    refine ⟨σ, τ, ?_⟩
    simp only [iL_law_18, iL_law_19, iL_law_20, iL_law_21, iL_law_23, iL_law_24, iL_law_1468, c, if_true]
    rw [iL_law_1469 (Or.inr rfl)]
  | succ n ih =>
    intro i g d σ τ h1 h2 R
    by_cases hi : i + 6 ≤ L
    · have c : (nI L - 6 < nI i) = False := by rw [llt hL (by omega)]; exact eq_false (by omega)
      have ia : inb (nI i) L := ib (by omega) (by omega)
      obtain ⟨σ1, τ1, g1, d1, p1, R1⟩ := lw_sw (L := L) (xs := xs) (S := S) (v := xs i &&& 63) hi hL R
      obtain ⟨σ2, τ2, p2⟩ := ih (i + 6) g1 d1 σ1 τ1 (by omega) (by omega) R1
      refine ⟨σ2, τ2, ?_⟩
      have e6 : nI i + 6 = nI (i + 6) := nI_add i 6
      rw [iL_law_18]
      simp only [iL_law_19, iL_law_20, iL_law_21, iL_law_23, iL_law_24, iL_law_27, iL_law_28, iL_law_29_s, iL_law_30, iL_law_32, c, if_false, ia, cl (show i ≤ 5000 by omega)]
      rw [p1]
      simp only [iL_law_1462, iL_law_1465, e6]
      exact p2
    · have c : (nI L - 6 < nI i) = True := by rw [llt hL (by omega)]; exact eq_true (by omega)
      refine ⟨σ, τ, ?_⟩
      simp only [iL_law_18, iL_law_19, iL_law_20, iL_law_21, iL_law_23, iL_law_24, iL_law_1468, c, if_true]
      rw [iL_law_1469 (Or.inr rfl)]
end LD
set_option maxRecDepth 20000 in
set_option maxHeartbeats 4000000 in
theorem law_init {L : Nat} {xs : Nat → Int32} : pX 225 0 [.ref 1002, .null, .null, .null] [] (pm_M0 L xs) 0 0 = pX 225 16 [.ref 1002, .ref 0, .ref 67, .null] [] (mm L xs s_2 t_1) 85 (0 + 13 + 6 + 4 + 5 + 6 + 6 + 6 + 7 + 280 + 40 + 40 + 3 + 6 + 6 + 6 + 7 + 4 + 64 + 448 + 61 + 64 + 64 + 6 + 2 + 40 + 2 + 40 + 2 + 40 + 2 + 40 + 2 + 40 + 2 + 40 + 2 + 60 + 2 + 60 + 2 + 60 + 2 + 60 + 5 + 6 + 6 + 6 + 7 + 280 + 40 + 40 + 5 + 6 + 6 + 6 + 7 + 280 + 40 + 40 + 5 + 6 + 6 + 6 + 7 + 280 + 40 + 40 + 28 + 6 + 240 + 4 + 240 + 6 + 6 + 9 + 360 + 1110 + 6 + 6 + 6 + 9 + 9 + 64 + 448 + 2401) := by
  refine Eq.trans (x_new (ci := 4) (c := dC) (k := 13) (show pm_in 225 0 = some (.new 7, 3) from by decide +kernel) (by decide +kernel) rfl rfl (by decide +kernel)) ?_
  refine Eq.trans (x_dup (show pm_in 225 3 = some (.dup, 1) from by decide +kernel) rfl) ?_
  have q1 : pX 225 4 [.ref 1002, .null, .null, .null] [.ref 0, .ref 0] (va_up (pm_M0 L xs) 0 dC) 1 (0 + 13) = pX 225 7 [.ref 1002, .null, .null, .null] [.ref 0] (mem47 (va_up (pm_M0 L xs) 0 dC)) 67 (0 + 13 + 6 + 4 + 5 + 6 + 6 + 6 + 7 + 280 + 40 + 40 + 3 + 6 + 6 + 6 + 7 + 4 + 64 + 448 + 61 + 64 + 64 + 6 + 2 + 40 + 2 + 40 + 2 + 40 + 2 + 40 + 2 + 40 + 2 + 40 + 2 + 60 + 2 + 60 + 2 + 60 + 2 + 60 + 5 + 6 + 6 + 6 + 7 + 280 + 40 + 40 + 5 + 6 + 6 + 6 + 7 + 280 + 40 + 40 + 5 + 6 + 6 + 6 + 7 + 280 + 40 + 40) := x_callI (y' := 47) (k := 0) (kd := 2) (b := 0) (as := []) (st' := [.ref 0]) (show pm_in 225 4 = some (.invokespecial 9, 3) from by decide +kernel) (by decide +kernel) (by decide) rfl rfl (by decide +kernel) (Nat.le_of_ble_eq_true rfl) (by decide +kernel) (by decide +kernel) rfl (by decide +kernel) (by decide +kernel) (ini47_0 (M := va_up (pm_M0 L xs) 0 dC) (S := 0 + 13) vs)
  refine q1.trans ?_
  refine Eq.trans (x_astore_n (ls' := [.ref 1002, .ref 0, .null, .null]) (show pm_in 225 7 = some (.astore_n 1, 1) from by decide +kernel) (by decide) rfl) ?_
  refine Eq.trans (x_new (ci := 5) (c := dR) (k := 28) (show pm_in 225 8 = some (.new 10, 3) from by decide +kernel) (by decide +kernel) rfl rfl (by decide +kernel)) ?_
  refine Eq.trans (x_dup (show pm_in 225 11 = some (.dup, 1) from by decide +kernel) rfl) ?_
  have e0 : pX 129 0 [.ref 67, .null] [] (va_up (mem47 (va_up (pm_M0 L xs) 0 dC)) 67 dR) 68 (0 + 13 + 6 + 4 + 5 + 6 + 6 + 6 + 7 + 280 + 40 + 40 + 3 + 6 + 6 + 6 + 7 + 4 + 64 + 448 + 61 + 64 + 64 + 6 + 2 + 40 + 2 + 40 + 2 + 40 + 2 + 40 + 2 + 40 + 2 + 40 + 2 + 60 + 2 + 60 + 2 + 60 + 2 + 60 + 5 + 6 + 6 + 6 + 7 + 280 + 40 + 40 + 5 + 6 + 6 + 6 + 7 + 280 + 40 + 40 + 5 + 6 + 6 + 6 + 7 + 280 + 40 + 40 + 28) = some (none, mm L xs s_2 t_1, 85, 0 + 13 + 6 + 4 + 5 + 6 + 6 + 6 + 7 + 280 + 40 + 40 + 3 + 6 + 6 + 6 + 7 + 4 + 64 + 448 + 61 + 64 + 64 + 6 + 2 + 40 + 2 + 40 + 2 + 40 + 2 + 40 + 2 + 40 + 2 + 40 + 2 + 60 + 2 + 60 + 2 + 60 + 2 + 60 + 5 + 6 + 6 + 6 + 7 + 280 + 40 + 40 + 5 + 6 + 6 + 6 + 7 + 280 + 40 + 40 + 5 + 6 + 6 + 6 + 7 + 280 + 40 + 40 + 28 + 6 + 240 + 4 + 240 + 6 + 6 + 9 + 360 + 1110 + 6 + 6 + 6 + 9 + 9 + 64 + 448 + 2401) := by
    rw [ini129_67 (M := va_up (mem47 (va_up (pm_M0 L xs) 0 dC)) 67 dR) (S := 0 + 13 + 6 + 4 + 5 + 6 + 6 + 6 + 7 + 280 + 40 + 40 + 3 + 6 + 6 + 6 + 7 + 4 + 64 + 448 + 61 + 64 + 64 + 6 + 2 + 40 + 2 + 40 + 2 + 40 + 2 + 40 + 2 + 40 + 2 + 40 + 2 + 60 + 2 + 60 + 2 + 60 + 2 + 60 + 5 + 6 + 6 + 6 + 7 + 280 + 40 + 40 + 5 + 6 + 6 + 6 + 7 + 280 + 40 + 40 + 5 + 6 + 6 + 6 + 7 + 280 + 40 + 40 + 28) vs, mem_eq, initR]
  have q2 : pX 225 12 [.ref 1002, .ref 0, .null, .null] [.ref 67, .ref 67] (va_up (mem47 (va_up (pm_M0 L xs) 0 dC)) 67 dR) 68 (0 + 13 + 6 + 4 + 5 + 6 + 6 + 6 + 7 + 280 + 40 + 40 + 3 + 6 + 6 + 6 + 7 + 4 + 64 + 448 + 61 + 64 + 64 + 6 + 2 + 40 + 2 + 40 + 2 + 40 + 2 + 40 + 2 + 40 + 2 + 40 + 2 + 60 + 2 + 60 + 2 + 60 + 2 + 60 + 5 + 6 + 6 + 6 + 7 + 280 + 40 + 40 + 5 + 6 + 6 + 6 + 7 + 280 + 40 + 40 + 5 + 6 + 6 + 6 + 7 + 280 + 40 + 40 + 28) = pX 225 15 [.ref 1002, .ref 0, .null, .null] [.ref 67] (mm L xs s_2 t_1) 85 (0 + 13 + 6 + 4 + 5 + 6 + 6 + 6 + 7 + 280 + 40 + 40 + 3 + 6 + 6 + 6 + 7 + 4 + 64 + 448 + 61 + 64 + 64 + 6 + 2 + 40 + 2 + 40 + 2 + 40 + 2 + 40 + 2 + 40 + 2 + 40 + 2 + 60 + 2 + 60 + 2 + 60 + 2 + 60 + 5 + 6 + 6 + 6 + 7 + 280 + 40 + 40 + 5 + 6 + 6 + 6 + 7 + 280 + 40 + 40 + 5 + 6 + 6 + 6 + 7 + 280 + 40 + 40 + 28 + 6 + 240 + 4 + 240 + 6 + 6 + 9 + 360 + 1110 + 6 + 6 + 6 + 9 + 9 + 64 + 448 + 2401) := x_callI (y' := 129) (k := 0) (kd := 2) (b := 67) (as := []) (st' := [.ref 67]) (show pm_in 225 12 = some (.invokespecial 12, 3) from by decide +kernel) (by decide +kernel) (by decide) rfl rfl (by decide +kernel) (Nat.le_of_ble_eq_true rfl) (by decide +kernel) (by decide +kernel) rfl (by decide +kernel) (by decide +kernel) e0
  refine q2.trans ?_
  exact x_astore_n (ls' := [.ref 1002, .ref 0, .ref 67, .null]) (show pm_in 225 15 = some (.astore_n 2, 1) from by decide +kernel) (by decide) rfl
theorem law_run (L : Nat) (xs : Nat → Int32) (hL : L ≤ 3072) : ∃ (n : Nat) (M : pm_M) (N S : Nat), (pm_ex n 225 0 (pm_ent 225 [.ref 1002]) [] (pm_M0 L xs) 0 0 = some (some (.int 1), M, N, S) ∧ N ≤ 1000) ∧ S ≤ 7302250 := by
  obtain ⟨σ', τ', h⟩ := law_loop (L := L) (xs := xs) (S := 0 + 13 + 6 + 4 + 5 + 6 + 6 + 6 + 7 + 280 + 40 + 40 + 3 + 6 + 6 + 6 + 7 + 4 + 64 + 448 + 61 + 64 + 64 + 6 + 2 + 40 + 2 + 40 + 2 + 40 + 2 + 40 + 2 + 40 + 2 + 40 + 2 + 60 + 2 + 60 + 2 + 60 + 2 + 60 + 5 + 6 + 6 + 6 + 7 + 280 + 40 + 40 + 5 + 6 + 6 + 6 + 7 + 280 + 40 + 40 + 5 + 6 + 6 + 6 + 7 + 280 + 40 + 40 + 28 + 6 + 240 + 4 + 240 + 6 + 6 + 9 + 360 + 1110 + 6 + 6 + 6 + 9 + 9 + 64 + 448 + 2401) hL 600 0 0 0 s_2 t_1 (by omega) (by omega) Rel_0
  have p : pX 225 0 [.ref 1002, .null, .null, .null] [] (pm_M0 L xs) 0 0 = some (some (.int 1), mm L xs σ' τ', 85, 0 + 13 + 6 + 4 + 5 + 6 + 6 + 6 + 7 + 280 + 40 + 40 + 3 + 6 + 6 + 6 + 7 + 4 + 64 + 448 + 61 + 64 + 64 + 6 + 2 + 40 + 2 + 40 + 2 + 40 + 2 + 40 + 2 + 40 + 2 + 40 + 2 + 60 + 2 + 60 + 2 + 60 + 2 + 60 + 5 + 6 + 6 + 6 + 7 + 280 + 40 + 40 + 5 + 6 + 6 + 6 + 7 + 280 + 40 + 40 + 5 + 6 + 6 + 6 + 7 + 280 + 40 + 40 + 28 + 6 + 240 + 4 + 240 + 6 + 6 + 9 + 360 + 1110 + 6 + 6 + 6 + 9 + 9 + 64 + 448 + 2401) := by
    rw [law_init]
    simp only [iL_law_16, iL_law_17]
    exact h
  obtain ⟨n, hn⟩ := pX_ex p
  exact ⟨n, mm L xs σ' τ', 85, 0 + 13 + 6 + 4 + 5 + 6 + 6 + 6 + 7 + 280 + 40 + 40 + 3 + 6 + 6 + 6 + 7 + 4 + 64 + 448 + 61 + 64 + 64 + 6 + 2 + 40 + 2 + 40 + 2 + 40 + 2 + 40 + 2 + 40 + 2 + 40 + 2 + 60 + 2 + 60 + 2 + 60 + 2 + 60 + 5 + 6 + 6 + 6 + 7 + 280 + 40 + 40 + 5 + 6 + 6 + 6 + 7 + 280 + 40 + 40 + 5 + 6 + 6 + 6 + 7 + 280 + 40 + 40 + 28 + 6 + 240 + 4 + 240 + 6 + 6 + 9 + 360 + 1110 + 6 + 6 + 6 + 9 + 9 + 64 + 448 + 2401, ⟨hn, by decide⟩, Nat.le_of_ble_eq_true rfl⟩
