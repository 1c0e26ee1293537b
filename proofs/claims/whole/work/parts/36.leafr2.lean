/-! THE PLAIN FORM, small methods, going on -/
def fR (σ : Nat → Nat → Int32) (j : Nat) : Nat → Nat → Int32 := va_up (va_up σ 67 (upd (σ 67) 14 (nI j))) 77 (upd (σ 77) j (σ 77 j + 1))
noncomputable def hmP (K : Nat → Int32) (w : Int32) : Nat → Int32
  | 0 => 0
  | i + 1 => @ite _ (isaP (K i) w) (Classical.propDecidable _) (hmP K w i + 1) (hmP K w i)
def thr (f : Nat → Int32) (step : Nat) : Nat → Int32
  | 0 => 0
  | i + 1 => if f (step * i) < 0 then thr f step i else thr f step i + 1
def dg (h : Int64) (f : Nat → Int32) (p : Nat) : Nat → Int64
  | 0 => h
  | i + 1 => 31 * dg h f p i + (f (p + i)).toInt64
def bts (x : Int32) : Nat → Int32
  | 0 => 0
  | k + 1 => bts x k + ((x >>> (nI k &&& 31)) &&& 1)
def pw (a : Int32) : Nat → Int32
  | 0 => 1
  | k + 1 => pw a k * a
noncomputable def gfv (k w : Int32) (P : Prop) (fl x : Int32) : Int32 := if x = 0 then k else if x = 1 then w else @ite _ P (Classical.propDecidable _) (if x = 2 then 1 else fl) 0
def soR (K Wd : Nat → Int32) (g : Nat) (f : Nat → Int32) (b : Nat) (w : Nat → Int32) (m : Nat) : Prop := ∀ i, i < m → rR K Wd g f (i + 1) b = w i
section R4
variable {M : pm_M} {N S : Nat}
theorem s6_bits {x : Int32} : pX 133 0 [.int x, .null, .null] [] M N S = some (some (.int (bts x 6)), M, N, S) := by
  have key := lp (δ := Unit) 6 (fun j _ => pX 133 4 [.int x, .int (bts x j), .int (nI j)] [] M N S) (some (some (.int (bts x 6)), M, N, S)) (fun _ => by
    rw [show nI 6 = 6 from rfl]; simp only [i6_bits_4, i6_bits_5, i6_bits_7, i6_bits_24, i6_bits_25, Int32.lt_irrefl, if_false]) (fun j hj _ => ⟨(), by
    rw [i6_bits_4]
    have h6 : (nI j < 6) = True := nlt hj (by decide)
    simp only [i6_bits_5, i6_bits_7, i6_bits_10, i6_bits_11, i6_bits_12, i6_bits_13, i6_bits_14, i6_bits_15, i6_bits_16, i6_bits_17, i6_bits_18, i6_bits_21, i6_bits_24, i6_bits_25, h6, if_true, nI_1, bts]⟩)
  have k := key ()
  simp only [bts, nI_0] at k
  simp only [i6_bits_0, i6_bits_1, i6_bits_2, i6_bits_3]
  exact k
theorem s6_power {a : Int32} {n : Nat} (hn : n ≤ 100) : pX 203 0 [.int a, .int (nI n), .null, .null] [] M N S = some (some (.int (pw a n)), M, N, S) := by
  have key := lp (δ := Unit) n (fun j _ => pX 203 4 [.int a, .int (nI n), .int (pw a j), .int (nI j)] [] M N S) (some (some (.int (pw a n)), M, N, S)) (fun _ => by
    simp only [i6_power_4, i6_power_5, i6_power_6, i6_power_19, i6_power_20, Int32.lt_irrefl, if_false]) (fun j hj _ => ⟨(), by
    rw [i6_power_4]
    simp only [i6_power_5, i6_power_6, i6_power_9, i6_power_10, i6_power_11, i6_power_12, i6_power_13, i6_power_16, i6_power_19, i6_power_20, nlt hj (by omega), if_true, nI_1, pw]⟩)
  have k := key ()
  simp only [pw, nI_0] at k
  simp only [i6_power_0, i6_power_1, i6_power_2, i6_power_3]
  exact k
end R4
section R5
variable {L : Nat} {xs : Nat → Int32} {σ : Nat → Nat → Int32} {τ : Nat → Nat → Int64} {S s g : Nat}
theorem s6_finds {j : Nat} (hj : j < 6) : pX 135 0 [.ref 67, .int (nI j)] [] (mm L xs σ τ) 85 S = some (some (.int (-3)), mm L xs (fR σ j) τ, 85, S) := by
  unfold fR
  simp only [i6_finds_0, i6_finds_1, i6_finds_2, i6_finds_5, i6_finds_6, i6_finds_9, i6_finds_10, i6_finds_11, i6_finds_12, i6_finds_13, i6_finds_14, i6_finds_15, i6_finds_17, k_77, l_77, vn (show 77 ≠ 67 by decide), ifb_i hj (by decide), cl (show j ≤ 5000 by omega)]
theorem fd1 : pX 135 0 [.ref 67, .int 1] [] (mm L xs σ τ) 85 S = some (some (.int (-3)), mm L xs (fR σ 1) τ, 85, S) := s6_finds (j := 1) (by decide)
theorem fd2 : pX 135 0 [.ref 67, .int 2] [] (mm L xs σ τ) 85 S = some (some (.int (-3)), mm L xs (fR σ 2) τ, 85, S) := s6_finds (j := 2) (by decide)
theorem fd3 : pX 135 0 [.ref 67, .int 3] [] (mm L xs σ τ) 85 S = some (some (.int (-3)), mm L xs (fR σ 3) τ, 85, S) := s6_finds (j := 3) (by decide)
theorem fd4 : pX 135 0 [.ref 67, .int 4] [] (mm L xs σ τ) 85 S = some (some (.int (-3)), mm L xs (fR σ 4) τ, 85, S) := s6_finds (j := 4) (by decide)
theorem fd5 : pX 135 0 [.ref 67, .int 5] [] (mm L xs σ τ) 85 S = some (some (.int (-3)), mm L xs (fR σ 5) τ, 85, S) := s6_finds (j := 5) (by decide)
theorem s6_tells {v : Int32} : pX 136 0 [.ref 67, .int v] [] (mm L xs σ τ) 85 S = some (some (.int 1), mm L xs (va_up σ 67 (upd (σ 67) 11 v)) τ, 85, S) := by
  simp only [i6_tells_0, i6_tells_1, i6_tells_2, i6_tells_5, i6_tells_6]
theorem s6_isRow {r : Int32} : pX 137 0 [.ref 67, .int r] [] (mm L xs σ τ) 85 S = some (some (.int (bi (inb r 6))), mm L xs σ τ, 85, S) := by
  rw [show inb r 6 = (¬ r < 0 ∧ ¬ 5 < r) from propext (inb_iff2 (n := 5) rfl (by decide))]
  simp only [i6_isRow_0, i6_isRow_1, i6_isRow_2, i6_isRow_3, s6_in, pK_i]
  rw [i6_isRow_6 bi_or]
theorem s6_isText {r : Int32} : pX 138 0 [.ref 67, .int r] [] (mm L xs σ τ) 85 S = some (some (.int (bi (inb r 4))), mm L xs σ τ, 85, S) := by
  rw [show inb r 4 = (¬ r < 0 ∧ ¬ 3 < r) from propext (inb_iff2 (n := 3) rfl (by decide))]
  simp only [i6_isText_0, i6_isText_1, i6_isText_2, i6_isText_3, s6_in, pK_i]
  rw [i6_isText_6 bi_or]
theorem s6_isGate {i : Int32} (hg : σ 67 4 = nI g) (hg6 : g ≤ 6) : pX 139 0 [.ref 67, .int i] [] (mm L xs σ τ) 85 S = some (some (.int (bi (inb i g))), mm L xs σ τ, 85, S) := by
  have e : inb i g = (¬ i < 0 ∧ ¬ nI g - 1 < i) := by
    cases g with
    | zero =>
      refine propext ⟨fun h => ?_, fun h => ?_⟩
      · exact absurd (Or.inr (Nat.zero_le _)) h
      · exfalso
        have h1 := h.1
        have h2 := h.2
        rw [Int32.lt_iff_toInt_lt] at h1 h2
        have h3 : (nI 0 - 1).toInt = -1 := rfl
        have h4 : (0 : Int32).toInt = 0 := rfl
        omega
    | succ n => rw [nI_pred]; exact propext (inb_iff2 rfl (by omega))
  rw [e]
  simp only [i6_isGate_0, i6_isGate_1, i6_isGate_2, i6_isGate_3, i6_isGate_6, i6_isGate_7, i6_isGate_8, hg, s6_in, pK_i]
  rw [i6_isGate_11 bi_or]
theorem s6_isBasin {i : Int32} (hg : σ 67 4 = nI g) (hg6 : g ≤ 6) : pX 140 0 [.ref 67, .int i] [] (mm L xs σ τ) 85 S = some (some (.int (bi (inb i (g + 1)))), mm L xs σ τ, 85, S) := by
  rw [show inb i (g + 1) = (¬ i < 0 ∧ ¬ nI g < i) from propext (inb_iff2 rfl (by omega))]
  simp only [i6_isBasin_0, i6_isBasin_1, i6_isBasin_2, i6_isBasin_3, i6_isBasin_6, hg, s6_in, pK_i]
  rw [i6_isBasin_9 bi_or]
theorem s6_levels (hg : σ 67 4 = nI g) (hg6 : g ≤ 6) : pX 217 0 [.ref 67, .null, .null] [] (mm L xs σ τ) 85 S = some (some (.int (sumf (σ 74) (bs g))), mm L xs σ τ, 85, S) := by
  by_cases h0 : g = 0
  · subst h0
    rw [nI_0] at hg
    simp only [i6_levels_0, i6_levels_1, i6_levels_2, i6_levels_3, i6_levels_4, i6_levels_5, i6_levels_6, i6_levels_9, i6_levels_12, i6_levels_13, i6_levels_16, i6_levels_19, i6_levels_20, i6_levels_21, i6_levels_24, i6_levels_25, i6_levels_26, i6_levels_27, i6_levels_28, i6_levels_29, i6_levels_30, i6_levels_33, i6_levels_36, i6_levels_37, hg, Int32.lt_irrefl, Int32.le_refl, if_true, if_false, bs, sumf]
  · have hp : ¬ nI g ≤ 0 := nI_nle (by omega) (by omega)
    have hp2 : (0 : Int32) < nI g := nI_lt (a := 0) (by omega) (by omega)
    have hb : bs g = g + 1 := if_neg h0
    rw [hb]
    have key := lp (δ := Unit) (g + 1) (fun j _ => pX 217 4 [.ref 67, .int (sumf (σ 74) j), .int (nI j)] [] (mm L xs σ τ) 85 S) (some (some (.int (sumf (σ 74) (g + 1))), mm L xs σ τ, 85, S)) (fun _ => by
      simp only [i6_levels_0, i6_levels_1, i6_levels_2, i6_levels_3, i6_levels_4, i6_levels_5, i6_levels_6, i6_levels_9, i6_levels_12, i6_levels_13, i6_levels_16, i6_levels_19, i6_levels_20, i6_levels_21, i6_levels_24, i6_levels_25, i6_levels_26, i6_levels_27, i6_levels_28, i6_levels_29, i6_levels_30, i6_levels_33, i6_levels_36, i6_levels_37, hg, nlt (Nat.lt_succ_self g) (by omega), if_true]) (fun j hj _ => ⟨(), by
      rw [i6_levels_4]
      simp only [i6_levels_5, i6_levels_6, i6_levels_9, i6_levels_12, i6_levels_13, i6_levels_16, i6_levels_19, i6_levels_20, i6_levels_21, i6_levels_24, i6_levels_25, i6_levels_26, i6_levels_27, i6_levels_28, i6_levels_29, i6_levels_30, i6_levels_33, i6_levels_36, i6_levels_37, k_74, l_74, hg, nnl (show j ≤ g by omega) (by omega), hp, hp2, if_true, if_false, Int32.zero_add, ifb_i (show j < 9 by omega) (by decide), cl (show j ≤ 5000 by omega), nI_1, sumf]⟩)
    have k := key ()
    simp only [sumf, nI_0] at k
    simp only [i6_levels_0, i6_levels_1, i6_levels_2, i6_levels_3]
    exact k
theorem s6_manyOf (hg : σ 67 4 = nI g) (hg6 : g ≤ 6) {w : Int32} : pX 215 0 [.ref 67, .int w, .null, .null] [] (mm L xs σ τ) 85 S = some (some (.int (hmP (σ 72) w g)), mm L xs σ τ, 85, S) := by
  have key := lp (δ := Unit) g (fun j _ => pX 215 4 [.ref 67, .int w, .int (hmP (σ 72) w j), .int (nI j)] [] (mm L xs σ τ) 85 S) (some (some (.int (hmP (σ 72) w g)), mm L xs σ τ, 85, S)) (fun _ => by
    simp only [i6_manyOf_0, i6_manyOf_1, i6_manyOf_2, i6_manyOf_3, i6_manyOf_4, i6_manyOf_5, i6_manyOf_6, i6_manyOf_9, i6_manyOf_12, i6_manyOf_13, i6_manyOf_14, i6_manyOf_15, i6_manyOf_16, i6_manyOf_19, i6_manyOf_22, i6_manyOf_23, i6_manyOf_26, i6_manyOf_27, i6_manyOf_28, i6_manyOf_29, i6_manyOf_32, i6_manyOf_35, i6_manyOf_36, hg, Int32.lt_irrefl, if_false]) (fun j hj _ => ⟨(), by
    rw [i6_manyOf_4]
    have h6 : j < 6 := by omega
    by_cases h : isaP (σ 72 j) w
    · simp only [i6_manyOf_5, i6_manyOf_6, i6_manyOf_9, i6_manyOf_12, i6_manyOf_13, i6_manyOf_14, i6_manyOf_15, i6_manyOf_16, i6_manyOf_19, i6_manyOf_22, i6_manyOf_23, i6_manyOf_26, i6_manyOf_27, i6_manyOf_28, i6_manyOf_29, i6_manyOf_32, i6_manyOf_35, i6_manyOf_36, hg, nlt hj (by omega), if_true, s6_isA h6, pK_i, bi_0, h, not_true_eq_false, if_false, nI_1, hmP]
    · simp only [i6_manyOf_5, i6_manyOf_6, i6_manyOf_9, i6_manyOf_12, i6_manyOf_13, i6_manyOf_14, i6_manyOf_15, i6_manyOf_16, i6_manyOf_19, i6_manyOf_22, i6_manyOf_23, i6_manyOf_26, i6_manyOf_27, i6_manyOf_28, i6_manyOf_29, i6_manyOf_32, i6_manyOf_35, i6_manyOf_36, hg, nlt hj (by omega), if_true, s6_isA h6, pK_i, bi_0, h, not_false_eq_true, if_false, Int32.add_zero, nI_1, hmP]⟩)
  have k := key ()
  simp only [hmP, nI_0] at k
  simp only [i6_manyOf_0, i6_manyOf_1, i6_manyOf_2, i6_manyOf_3]
  exact k
theorem s6_there {a p n : Nat} (ha : isK 6 a) (hp : ∀ k, k < n → p * k < m_len a) (hl : m_len a ≤ 2401) (hn : n ≤ 100) : pX 216 0 [.ref a, .int (nI p), .int (nI n), .null, .null] [] (mm L xs σ τ) 85 S = some (some (.int (thr (σ a) p n)), mm L xs σ τ, 85, S) := by
  have key := lp (δ := Unit) n (fun j _ => pX 216 5 [.ref a, .int (nI p), .int (nI n), .int (thr (σ a) p j), .int (nI j)] [] (mm L xs σ τ) 85 S) (some (some (.int (thr (σ a) p n)), mm L xs σ τ, 85, S)) (fun _ => by
    simp only [i6_there_0, i6_there_1, i6_there_2, i6_there_3, i6_there_5, i6_there_7, i6_there_8, i6_there_11, i6_there_12, i6_there_13, i6_there_14, i6_there_16, i6_there_17, i6_there_18, i6_there_21, i6_there_22, i6_there_25, i6_there_26, i6_there_27, i6_there_28, i6_there_31, i6_there_34, i6_there_35, Int32.lt_irrefl, if_false]) (fun j hj _ => ⟨(), by
    rw [i6_there_5]
    have hpj := hp j hj
    by_cases h : σ a (p * j) < 0
    · simp only [i6_there_7, i6_there_8, i6_there_11, i6_there_12, i6_there_13, i6_there_14, i6_there_16, i6_there_17, i6_there_18, i6_there_21, i6_there_22, i6_there_25, i6_there_26, i6_there_27, i6_there_28, i6_there_31, i6_there_34, i6_there_35, ha, pk_mul, nlt hj (by omega), if_true, ifb_i hpj (by omega), cl (show p * j ≤ 5000 by omega), h, Int32.add_zero, nI_1, thr]
    · simp only [i6_there_7, i6_there_8, i6_there_11, i6_there_12, i6_there_13, i6_there_14, i6_there_16, i6_there_17, i6_there_18, i6_there_21, i6_there_22, i6_there_25, i6_there_26, i6_there_27, i6_there_28, i6_there_31, i6_there_34, i6_there_35, ha, pk_mul, nlt hj (by omega), if_true, ifb_i hpj (by omega), cl (show p * j ≤ 5000 by omega), h, if_false, nI_1, thr]⟩)
  have k := key ()
  simp only [thr, nI_0] at k
  simp only [i6_there_0, i6_there_1, i6_there_2, i6_there_3]
  exact k
theorem s6_digested {h : Int64} {a p m : Nat} {n : Int32} (ha : isK 6 a) (hp : p + m ≤ m_len a) (hl : m_len a ≤ 2401) (h1 : ∀ j, j < m → (nI j < n) = True) (h2 : (nI m < n) = False) : pX 222 0 [.long h, .null, .ref a, .int (nI p), .int n, .null, .null, .null] [] (mm L xs σ τ) 85 S = some (some (.long (dg (31 * h + n.toInt64) (σ a) p m)), mm L xs σ τ, 85, S) := by
  have key := lp (δ := Unit) m (fun j _ => pX 222 14 [.long h, .null, .ref a, .int (nI p), .int n, .long (dg (31 * h + n.toInt64) (σ a) p j), .null, .int (nI j)] [] (mm L xs σ τ) 85 S) (some (some (.long (dg (31 * h + n.toInt64) (σ a) p m)), mm L xs σ τ, 85, S)) (fun _ => by
    simp only [i6_digested_0, i6_digested_3, i6_digested_4, i6_digested_5, i6_digested_7, i6_digested_8, i6_digested_9, i6_digested_11, i6_digested_12, i6_digested_14, i6_digested_16, i6_digested_18, i6_digested_21, i6_digested_24, i6_digested_26, i6_digested_27, i6_digested_28, i6_digested_29, i6_digested_31, i6_digested_32, i6_digested_33, i6_digested_34, i6_digested_35, i6_digested_37, i6_digested_40, i6_digested_43, i6_digested_45, h2, if_false]) (fun j hj _ => ⟨(), by
    rw [i6_digested_14]
    simp only [i6_digested_16, i6_digested_18, i6_digested_21, i6_digested_24, i6_digested_26, i6_digested_27, i6_digested_28, i6_digested_29, i6_digested_31, i6_digested_32, i6_digested_33, i6_digested_34, i6_digested_35, i6_digested_37, i6_digested_40, i6_digested_43, i6_digested_45, ha, h1 j hj, if_true, nI_add, ifb_i (show p + j < m_len a by omega) (by omega), cl (show p + j ≤ 5000 by omega), nI_1, dg]⟩)
  have k := key ()
  simp only [dg, nI_0] at k
  simp only [i6_digested_0, i6_digested_3, i6_digested_4, i6_digested_5, i6_digested_7, i6_digested_8, i6_digested_9, i6_digested_11, i6_digested_12]
  exact k
theorem s6_ofGate {j : Nat} (hj : j < 6) (hk : kd6 (σ 72 j)) {x : Int32} : pX 167 0 [.ref 67, .int (nI j), .int x] [] (mm L xs σ τ) 85 S = some (some (.int (gfv (σ 72 j) (σ 73 j) (isop (σ 72) (σ 74 7) j) (flR (σ 72 j) (σ 73 j) (σ 74 j) (σ 74 (j + 1)) (σ 74 8)) x)), mm L xs σ τ, 85, S) := by
  have hs : rst 74 := Or.inl rfl
  have hS : ∀ {α : Type} {a b : α}, ifb (nI j) 6 a b = a := ifb_i hj (by decide)
  have hC := cl (show j ≤ 5000 by omega)
  unfold gfv
  by_cases h0 : x = 0
  · simp only [i6_ofGate_0, i6_ofGate_1, i6_ofGate_4, i6_ofGate_5, i6_ofGate_8, i6_ofGate_9, i6_ofGate_10, i6_ofGate_13, i6_ofGate_14, i6_ofGate_15, i6_ofGate_18, i6_ofGate_19, i6_ofGate_22, i6_ofGate_23, i6_ofGate_24, i6_ofGate_27, i6_ofGate_28, i6_ofGate_29, i6_ofGate_32, i6_ofGate_33, i6_ofGate_36, i6_ofGate_39, i6_ofGate_40, i6_ofGate_43, i6_ofGate_44, i6_ofGate_45, i6_ofGate_48, i6_ofGate_49, i6_ofGate_52, i6_ofGate_53, i6_ofGate_54, i6_ofGate_57, i6_ofGate_58, i6_ofGate_61, k_72, l_72, hS, hC, h0, if_true]
  · by_cases h1 : x = 1
    · simp only [i6_ofGate_0, i6_ofGate_1, i6_ofGate_4, i6_ofGate_5, i6_ofGate_8, i6_ofGate_9, i6_ofGate_10, i6_ofGate_13, i6_ofGate_14, i6_ofGate_15, i6_ofGate_18, i6_ofGate_19, i6_ofGate_22, i6_ofGate_23, i6_ofGate_24, i6_ofGate_27, i6_ofGate_28, i6_ofGate_29, i6_ofGate_32, i6_ofGate_33, i6_ofGate_36, i6_ofGate_39, i6_ofGate_40, i6_ofGate_43, i6_ofGate_44, i6_ofGate_45, i6_ofGate_48, i6_ofGate_49, i6_ofGate_52, i6_ofGate_53, i6_ofGate_54, i6_ofGate_57, i6_ofGate_58, i6_ofGate_61, k_73, l_73, hS, hC, h1, n10, if_true, if_false]
    · by_cases ho : isop (σ 72) (σ 74 7) j
      · by_cases h2 : x = 2
        · simp only [i6_ofGate_0, i6_ofGate_1, i6_ofGate_4, i6_ofGate_5, i6_ofGate_8, i6_ofGate_9, i6_ofGate_10, i6_ofGate_13, i6_ofGate_14, i6_ofGate_15, i6_ofGate_18, i6_ofGate_19, i6_ofGate_22, i6_ofGate_23, i6_ofGate_24, i6_ofGate_27, i6_ofGate_28, i6_ofGate_29, i6_ofGate_32, i6_ofGate_33, i6_ofGate_36, i6_ofGate_39, i6_ofGate_40, i6_ofGate_43, i6_ofGate_44, i6_ofGate_45, i6_ofGate_48, i6_ofGate_49, i6_ofGate_52, i6_ofGate_53, i6_ofGate_54, i6_ofGate_57, i6_ofGate_58, i6_ofGate_61, s6_isOpen hs hj, pK_i, bi_0, ho, h2, n20, n21, not_true_eq_false, if_true, if_false]
        · simp only [i6_ofGate_0, i6_ofGate_1, i6_ofGate_4, i6_ofGate_5, i6_ofGate_8, i6_ofGate_9, i6_ofGate_10, i6_ofGate_13, i6_ofGate_14, i6_ofGate_15, i6_ofGate_18, i6_ofGate_19, i6_ofGate_22, i6_ofGate_23, i6_ofGate_24, i6_ofGate_27, i6_ofGate_28, i6_ofGate_29, i6_ofGate_32, i6_ofGate_33, i6_ofGate_36, i6_ofGate_39, i6_ofGate_40, i6_ofGate_43, i6_ofGate_44, i6_ofGate_45, i6_ofGate_48, i6_ofGate_49, i6_ofGate_52, i6_ofGate_53, i6_ofGate_54, i6_ofGate_57, i6_ofGate_58, i6_ofGate_61, s6_isOpen hs hj, s6_flowOn hs hj hk, pK_i, bi_0, ho, h0, h1, h2, not_true_eq_false, if_true, if_false]
      · simp only [i6_ofGate_0, i6_ofGate_1, i6_ofGate_4, i6_ofGate_5, i6_ofGate_8, i6_ofGate_9, i6_ofGate_10, i6_ofGate_13, i6_ofGate_14, i6_ofGate_15, i6_ofGate_18, i6_ofGate_19, i6_ofGate_22, i6_ofGate_23, i6_ofGate_24, i6_ofGate_27, i6_ofGate_28, i6_ofGate_29, i6_ofGate_32, i6_ofGate_33, i6_ofGate_36, i6_ofGate_39, i6_ofGate_40, i6_ofGate_43, i6_ofGate_44, i6_ofGate_45, i6_ofGate_48, i6_ofGate_49, i6_ofGate_52, i6_ofGate_53, i6_ofGate_54, i6_ofGate_57, i6_ofGate_58, i6_ofGate_61, s6_isOpen hs hj, pK_i, bi_0, ho, h0, h1, not_false_eq_true, if_true, if_false]
theorem s6_spread (hs : rst s) (hg : σ 67 4 = nI g) (hg6 : g ≤ 6) : pX 187 0 [.ref 67, .ref s, .null, .null, .null] [] (mm L xs σ τ) 85 S = some (some (.int (maxf (σ s) (g + 1) - minf (σ s) (g + 1))), mm L xs σ τ, 85, S) := by
  have key := lp (δ := Unit) g (fun j _ => pX 187 11 [.ref 67, .ref s, .int (minf (σ s) (j + 1)), .int (maxf (σ s) (j + 1)), .int (nI (j + 1))] [] (mm L xs σ τ) 85 S) (some (some (.int (maxf (σ s) (g + 1) - minf (σ s) (g + 1))), mm L xs σ τ, 85, S)) (fun _ => by
    simp only [i6_spread_0, i6_spread_1, i6_spread_2, i6_spread_3, i6_spread_4, i6_spread_5, i6_spread_6, i6_spread_7, i6_spread_8, i6_spread_9, i6_spread_11, i6_spread_13, i6_spread_14, i6_spread_17, i6_spread_20, i6_spread_21, i6_spread_22, i6_spread_23, i6_spread_25, i6_spread_26, i6_spread_27, i6_spread_30, i6_spread_31, i6_spread_32, i6_spread_33, i6_spread_35, i6_spread_36, i6_spread_37, i6_spread_38, i6_spread_41, i6_spread_42, i6_spread_43, i6_spread_45, i6_spread_46, i6_spread_47, i6_spread_50, i6_spread_51, i6_spread_52, i6_spread_55, i6_spread_58, i6_spread_59, i6_spread_60, i6_spread_61, hg, nlt (Nat.lt_succ_self g) (by omega), if_true]) (fun j hj _ => ⟨(), by
    rw [i6_spread_11]
    have e1 : minf (σ s) (j + 1 + 1) = imn (minf (σ s) (j + 1)) (σ s (j + 1)) := rfl
    have e2 : maxf (σ s) (j + 1 + 1) = imx (maxf (σ s) (j + 1)) (σ s (j + 1)) := rfl
    rw [e1, e2]
    generalize minf (σ s) (j + 1) = lo
    generalize maxf (σ s) (j + 1) = hi
    by_cases h : hi < σ s (j + 1)
    · have e3 : imx hi (σ s (j + 1)) = σ s (j + 1) := if_pos h
      rw [e3]
      simp only [i6_spread_13, i6_spread_14, i6_spread_17, i6_spread_20, i6_spread_21, i6_spread_22, i6_spread_23, i6_spread_25, i6_spread_26, i6_spread_27, i6_spread_30, i6_spread_31, i6_spread_32, i6_spread_33, i6_spread_35, i6_spread_36, i6_spread_37, i6_spread_38, i6_spread_41, i6_spread_42, i6_spread_43, i6_spread_45, i6_spread_46, i6_spread_47, i6_spread_50, i6_spread_51, i6_spread_52, i6_spread_55, i6_spread_58, i6_spread_59, i6_spread_60, i6_spread_61, rst_k hs, rst_l hs, hg, nnl (show j + 1 ≤ g by omega) (by omega), if_false, Int32.zero_add, ifb_i (show j + 1 < 9 by omega) (by decide), cl (show j + 1 ≤ 5000 by omega), s6_least, pK_i, h, if_true, nI_1]
    · have e3 : imx hi (σ s (j + 1)) = hi := if_neg h
      rw [e3]
      simp only [i6_spread_13, i6_spread_14, i6_spread_17, i6_spread_20, i6_spread_21, i6_spread_22, i6_spread_23, i6_spread_25, i6_spread_26, i6_spread_27, i6_spread_30, i6_spread_31, i6_spread_32, i6_spread_33, i6_spread_35, i6_spread_36, i6_spread_37, i6_spread_38, i6_spread_41, i6_spread_42, i6_spread_43, i6_spread_45, i6_spread_46, i6_spread_47, i6_spread_50, i6_spread_51, i6_spread_52, i6_spread_55, i6_spread_58, i6_spread_59, i6_spread_60, i6_spread_61, rst_k hs, rst_l hs, hg, nnl (show j + 1 ≤ g by omega) (by omega), if_false, Int32.zero_add, ifb_i (show j + 1 < 9 by omega) (by decide), cl (show j + 1 ≤ 5000 by omega), s6_least, pK_i, h, nI_1]⟩)
  have k := key ()
  have m1 : minf (σ s) 1 = σ s 0 := by show imn (σ s 0) (σ s 0) = _; unfold imn; exact ite_self _
  have m2 : maxf (σ s) 1 = σ s 0 := by show imx (σ s 0) (σ s 0) = _; unfold imx; exact ite_self _
  rw [show (0 + 1 : Nat) = 1 from rfl, m1, m2, show nI 1 = 1 from rfl] at k
  simp only [i6_spread_0, i6_spread_1, i6_spread_2, i6_spread_3, i6_spread_4, i6_spread_5, i6_spread_6, i6_spread_7, i6_spread_8, i6_spread_9, rst_k hs, rst_l hs, i09, z0]
  exact k
theorem s6_isSo (hg : σ 67 4 = nI g) (hg6 : g ≤ 6) (hk : ∀ i, i < g → kd6 (σ 72 i)) {b r m : Nat} (hb : b < 9) (hr : r < 6) (hm : σ 68 r = nI m) (hm40 : m ≤ 40) : pX 190 0 [.ref 67, .int (nI b), .int (nI r), .null, .null] [] (mm L xs σ τ) 85 S = some (some (.int (bi (soR (σ 72) (σ 73) g (σ 81) b (fun i => σ 69 (40 * r + i)) m))), mm L xs (va_up σ 81 (rR (σ 72) (σ 73) g (σ 81) m)) τ, 85, S) := by
  have hs : rst 81 := Or.inr rfl
  have n1 : 72 ≠ 81 := by decide
  have n2 : 73 ≠ 81 := by decide
  have n3 : 67 ≠ 81 := by decide
  have n4 : 68 ≠ 81 := by decide
  have n5 : 69 ≠ 81 := by decide
  have e40 : (40 : Int32) * nI r = nI (40 * r) := pk_mul 40 r
  have key := lp (δ := Unit) m (fun j _ => pX 190 5 [.ref 67, .int (nI b), .int (nI r), .int (bi (soR (σ 72) (σ 73) g (σ 81) b (fun i => σ 69 (40 * r + i)) j)), .int (nI j)] [] (mm L xs (va_up σ 81 (rR (σ 72) (σ 73) g (σ 81) j)) τ) 85 S) (some (some (.int (bi (soR (σ 72) (σ 73) g (σ 81) b (fun i => σ 69 (40 * r + i)) m))), mm L xs (va_up σ 81 (rR (σ 72) (σ 73) g (σ 81) m)) τ, 85, S)) (fun _ => by
    simp only [i6_isSo_0, i6_isSo_1, i6_isSo_2, i6_isSo_3, i6_isSo_5, i6_isSo_7, i6_isSo_8, i6_isSo_11, i6_isSo_12, i6_isSo_13, i6_isSo_16, i6_isSo_17, i6_isSo_18, i6_isSo_21, i6_isSo_22, i6_isSo_25, i6_isSo_26, i6_isSo_27, i6_isSo_30, i6_isSo_31, i6_isSo_34, i6_isSo_35, i6_isSo_36, i6_isSo_37, i6_isSo_38, i6_isSo_39, i6_isSo_42, i6_isSo_44, i6_isSo_45, i6_isSo_46, i6_isSo_48, i6_isSo_49, i6_isSo_50, i6_isSo_53, i6_isSo_54, i6_isSo_57, i6_isSo_58, i6_isSo_59, i6_isSo_62, i6_isSo_65, vn n4, k_68, l_68, hm, ifb_i hr (by decide), cl (show r ≤ 5000 by omega), Int32.lt_irrefl, if_false]
    rw [i6_isSo_66 bi_or]) (fun j hj _ => ⟨(), by
    rw [i6_isSo_5]
    have hq : soR (σ 72) (σ 73) g (σ 81) b (fun i => σ 69 (40 * r + i)) (j + 1) ↔ soR (σ 72) (σ 73) g (σ 81) b (fun i => σ 69 (40 * r + i)) j ∧ tRs (σ 72) (σ 73) g 0 (rR (σ 72) (σ 73) g (σ 81) j) b = σ 69 (40 * r + j) := by
      constructor
      · intro h
        exact ⟨fun i hi => h i (by omega), h j (by omega)⟩
      · rintro ⟨h1, h2⟩ i hi
        by_cases hij : i = j
        · subst hij; exact h2
        · exact h1 i (by omega)
    rw [show soR (σ 72) (σ 73) g (σ 81) b (fun i => σ 69 (40 * r + i)) (j + 1) = (soR (σ 72) (σ 73) g (σ 81) b (fun i => σ 69 (40 * r + i)) j ∧ tRs (σ 72) (σ 73) g 0 (rR (σ 72) (σ 73) g (σ 81) j) b = σ 69 (40 * r + j)) from propext hq]
    have e1 : rR (σ 72) (σ 73) g (σ 81) (j + 1) = tRs (σ 72) (σ 73) g 0 (rR (σ 72) (σ 73) g (σ 81) j) := rfl
    rw [e1]
    generalize soR (σ 72) (σ 73) g (σ 81) b (fun i => σ 69 (40 * r + i)) j = P
    generalize rR (σ 72) (σ 73) g (σ 81) j = lv
    have hg' : (va_up σ 81 lv) 67 4 = nI g := by rw [vn n3]; exact hg
    have hk' : ∀ i, i < g → kd6 ((va_up σ 81 lv) 72 i) := by rw [vn n1]; exact hk
    by_cases hP : P
    · by_cases hw : tRs (σ 72) (σ 73) g 0 lv b = σ 69 (40 * r + j)
      · rw [bi_t (show P ∧ tRs (σ 72) (σ 73) g 0 lv b = σ 69 (40 * r + j) from ⟨hP, hw⟩)]
        simp only [i6_isSo_7, i6_isSo_8, i6_isSo_11, i6_isSo_12, i6_isSo_13, i6_isSo_16, i6_isSo_17, i6_isSo_18, i6_isSo_21, i6_isSo_22, i6_isSo_25, i6_isSo_26, i6_isSo_27, i6_isSo_30, i6_isSo_31, i6_isSo_34, i6_isSo_35, i6_isSo_36, i6_isSo_37, i6_isSo_38, i6_isSo_39, i6_isSo_42, i6_isSo_44, i6_isSo_45, i6_isSo_46, i6_isSo_48, i6_isSo_49, i6_isSo_50, i6_isSo_53, i6_isSo_54, i6_isSo_57, i6_isSo_58, i6_isSo_59, i6_isSo_62, i6_isSo_65, i6_isSo_66, vs, vu, vn n1, vn n2, vn n4, vn n5, k_68, l_68, k_69, l_69, k_81, l_81, hm, e40, nI_add, Int32.zero_add, ifb_i hr (by decide), ifb_i hb (by decide), ifb_i (show 40 * r + j < 240 by omega) (by decide), cl (show r ≤ 5000 by omega), cl (show b ≤ 5000 by omega), cl (show 40 * r + j ≤ 5000 by omega), nlt hj (by omega), if_true, s6_turnOn hs hg' hg6 hk', pK_i, bi_0, hP, hw, not_true_eq_false, if_false, nI_1]
      · rw [bi_f (show ¬ (P ∧ tRs (σ 72) (σ 73) g 0 lv b = σ 69 (40 * r + j)) from fun q => hw q.2)]
        simp only [i6_isSo_7, i6_isSo_8, i6_isSo_11, i6_isSo_12, i6_isSo_13, i6_isSo_16, i6_isSo_17, i6_isSo_18, i6_isSo_21, i6_isSo_22, i6_isSo_25, i6_isSo_26, i6_isSo_27, i6_isSo_30, i6_isSo_31, i6_isSo_34, i6_isSo_35, i6_isSo_36, i6_isSo_37, i6_isSo_38, i6_isSo_39, i6_isSo_42, i6_isSo_44, i6_isSo_45, i6_isSo_46, i6_isSo_48, i6_isSo_49, i6_isSo_50, i6_isSo_53, i6_isSo_54, i6_isSo_57, i6_isSo_58, i6_isSo_59, i6_isSo_62, i6_isSo_65, i6_isSo_66, vs, vu, vn n1, vn n2, vn n4, vn n5, k_68, l_68, k_69, l_69, k_81, l_81, hm, e40, nI_add, Int32.zero_add, ifb_i hr (by decide), ifb_i hb (by decide), ifb_i (show 40 * r + j < 240 by omega) (by decide), cl (show r ≤ 5000 by omega), cl (show b ≤ 5000 by omega), cl (show 40 * r + j ≤ 5000 by omega), nlt hj (by omega), if_true, s6_turnOn hs hg' hg6 hk', pK_i, bi_0, hP, hw, not_true_eq_false, if_false, nI_1]
    · rw [bi_f (show ¬ (P ∧ tRs (σ 72) (σ 73) g 0 lv b = σ 69 (40 * r + j)) from fun q => hP q.1)]
      simp only [i6_isSo_7, i6_isSo_8, i6_isSo_11, i6_isSo_12, i6_isSo_13, i6_isSo_16, i6_isSo_17, i6_isSo_18, i6_isSo_21, i6_isSo_22, i6_isSo_25, i6_isSo_26, i6_isSo_27, i6_isSo_30, i6_isSo_31, i6_isSo_34, i6_isSo_35, i6_isSo_36, i6_isSo_37, i6_isSo_38, i6_isSo_39, i6_isSo_42, i6_isSo_44, i6_isSo_45, i6_isSo_46, i6_isSo_48, i6_isSo_49, i6_isSo_50, i6_isSo_53, i6_isSo_54, i6_isSo_57, i6_isSo_58, i6_isSo_59, i6_isSo_62, i6_isSo_65, i6_isSo_66, vs, vu, vn n1, vn n2, vn n4, vn n5, k_68, l_68, hm, ifb_i hr (by decide), cl (show r ≤ 5000 by omega), nlt hj (by omega), if_true, s6_turnOn hs hg' hg6 hk', pK_i, bi_0, hP, not_false_eq_true, if_false, nI_1]⟩)
  have k := key ()
  rw [show soR (σ 72) (σ 73) g (σ 81) b (fun i => σ 69 (40 * r + i)) 0 = True from eq_true (fun i hi => absurd hi (by omega)), bi_t trivial] at k
  simp only [rR, nI_0, m_up_id] at k
  simp only [i6_isSo_0, i6_isSo_1, i6_isSo_2, i6_isSo_3]
  exact k
end R5
