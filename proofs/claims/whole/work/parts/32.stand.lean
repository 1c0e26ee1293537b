/-! A STAND: gates and water at one time -/
def stand (s : Nat) : Prop := s = 4 ∨ s = 12 ∨ s = 44 ∨ s = 52 ∨ s = 60
theorem st_k {s : Nat} (h : stand s) : isK 3 s := by rcases h with rfl | rfl | rfl | rfl | rfl <;> exact ⟨by decide +kernel, by decide⟩
theorem st_1 {s : Nat} (h : stand s) : isK 6 (s + 1) := by rcases h with rfl | rfl | rfl | rfl | rfl <;> exact ⟨by decide +kernel, by decide⟩
theorem st_2 {s : Nat} (h : stand s) : isK 6 (s + 2) := by rcases h with rfl | rfl | rfl | rfl | rfl <;> exact ⟨by decide +kernel, by decide⟩
theorem st_3 {s : Nat} (h : stand s) : isK 6 (s + 3) := by rcases h with rfl | rfl | rfl | rfl | rfl <;> exact ⟨by decide +kernel, by decide⟩
theorem st_l1 {s : Nat} (h : stand s) : m_len (s + 1) = 6 := by rcases h with rfl | rfl | rfl | rfl | rfl <;> decide +kernel
theorem st_l2 {s : Nat} (h : stand s) : m_len (s + 2) = 6 := by rcases h with rfl | rfl | rfl | rfl | rfl <;> decide +kernel
theorem st_l3 {s : Nat} (h : stand s) : m_len (s + 3) = 7 := by rcases h with rfl | rfl | rfl | rfl | rfl <;> decide +kernel
theorem ib {j n : Nat} (h : j < n) (hn : n ≤ 5000) : inb (nI j) n := inb_nI h (by omega)
theorem ifb_i {α : Type} {j n : Nat} {a b : α} (h : j < n) (hn : n ≤ 5000) : ifb (nI j) n a b = a := ifb_t (ib h hn)
theorem cl {j : Nat} (h : j ≤ 5000) : (nI j).toNatClampNeg = j := nI_clamp (by omega)
theorem nlt {a b : Nat} (h : a < b) (hb : b ≤ 5000) : (nI a < nI b) = True := eq_true (nI_lt h (by omega))
theorem nnl {a b : Nat} (h : b ≤ a) (hb : a ≤ 5000) : (nI a < nI b) = False := eq_false (nI_nlt h (by omega))
theorem nm1 {j : Nat} (h : j ≤ 5000) : nI (j + 1) - 1 = nI j := nI_pred j
theorem vs {α : Type} {f : Nat → α} {k : Nat} {v : α} : va_up f k v k = v := if_pos rfl
theorem vn {α : Type} {f : Nat → α} {k j : Nat} {v : α} (h : j ≠ k) : va_up f k v j = f j := if_neg h
theorem vu {α : Type} {f : Nat → α} {k : Nat} {v w : α} : va_up (va_up f k v) k w = va_up f k w := by funext j; by_cases h : j = k <;> simp [va_up, h]
theorem us {f : Nat → Int32} {k : Nat} {v : Int32} : upd f k v k = v := if_pos rfl
theorem un {f : Nat → Int32} {k j : Nat} {v : Int32} (h : j ≠ k) : upd f k v j = f j := if_neg h
def bs (g : Nat) : Nat := if g = 0 then 0 else g + 1
def ag (g : Nat) : Int32 := nI (2 ^ g - 1)
theorem ag_ok {g : Nat} (h : g ≤ 6) : (1 : Int32) <<< (nI g &&& 31) - 1 = ag g := by
  have key : ∀ g, g < 7 → (1 : Int32) <<< (nI g &&& 31) - 1 = ag g := by decide +kernel
  exact key g (by omega)
/-- which are weirs, by bits -/
def wr (K : Nat → Int32) : Nat → Int32
  | 0 => 0
  | i + 1 => if K i = 3 then wr K i ||| sh i else wr K i
def isop (K : Nat → Int32) (op : Int32) (i : Nat) : Prop := K i = 3 ∨ hb op (nI i)
noncomputable def flw (K Wd : Nat → Int32) (op nu sk : Int32) (lv : Nat → Int32) (i : Nat) : Int32 := @ite _ (isop K op i ∧ ¬ hb sk (nI i)) (Classical.propDecidable _) (flC (K i) (Wd i) (lv i) (lv (i + 1)) nu) 0
/-- one gate lets through -/
def put2 (lv : Nat → Int32) (i : Nat) (f : Int32) : Nat → Int32 := upd (upd lv i (lv i - f)) (i + 1) (upd lv i (lv i - f) (i + 1) + f)
/-- the levels, what let through, behind i gates -/
noncomputable def tl (K Wd : Nat → Int32) (op nu sk : Int32) (lv : Nat → Int32) : Nat → Nat → Int32
  | 0 => lv
  | i + 1 => put2 (tl K Wd op nu sk lv i) i (flw K Wd op nu sk (tl K Wd op nu sk lv i) i)
noncomputable def tm (K Wd : Nat → Int32) (op nu sk : Int32) (lv : Nat → Int32) : Nat → Int32
  | 0 => 0
  | i + 1 => if flw K Wd op nu sk (tl K Wd op nu sk lv i) i = 0 then tm K Wd op nu sk lv i else tm K Wd op nu sk lv i ||| sh i
/-- turns -/
noncomputable def rl (K Wd : Nat → Int32) (g : Nat) (op nu : Int32) (lv : Nat → Int32) : Nat → Nat → Int32
  | 0 => lv
  | n + 1 => tl K Wd op (nu + nI n) 0 (rl K Wd g op nu lv n) g
noncomputable def rmv (K Wd : Nat → Int32) (g : Nat) (op nu : Int32) (lv : Nat → Int32) : Nat → Int32
  | 0 => 0
  | n + 1 => tm K Wd op (nu + nI n) 0 (rl K Wd g op nu lv n) g
section S4
variable {L : Nat} {xs : Nat → Int32} {σ : Nat → Nat → Int32} {τ : Nat → Nat → Int64} {S s g : Nat}
theorem s4_isWeir (hs : stand s) {j : Nat} (hj : j < 6) : pX 34 0 [.ref s, .int (nI j)] [] (mm L xs σ τ) 85 S = some (some (.int (bi (σ (s + 1) j = 3))), mm L xs σ τ, 85, S) := by
  by_cases h : σ (s + 1) j = 3
  · simp only [i4_isWeir_0, i4_isWeir_1, i4_isWeir_4, i4_isWeir_5, i4_isWeir_6, i4_isWeir_7, i4_isWeir_10, i4_isWeir_11, i4_isWeir_14, i4_isWeir_15, st_k hs, st_1 hs, st_l1 hs, ifb_i hj (by decide), cl (show j ≤ 5000 by omega), h, if_true, or_true, bi_t]
  · simp only [i4_isWeir_0, i4_isWeir_1, i4_isWeir_4, i4_isWeir_5, i4_isWeir_6, i4_isWeir_7, i4_isWeir_10, i4_isWeir_11, i4_isWeir_14, i4_isWeir_15, st_k hs, st_1 hs, st_l1 hs, ifb_i hj (by decide), cl (show j ≤ 5000 by omega), h, if_false, true_or, bi_f, not_false_eq_true]
theorem s4_hasGate (hs : stand s) (hg : σ s 3 = nI g) (hg6 : g ≤ 6) {i : Int32} : pX 32 0 [.ref s, .int i] [] (mm L xs σ τ) 85 S = some (some (.int (bi (inb i g))), mm L xs σ τ, 85, S) := by
  rw [show inb i g = (¬ i < 0 ∧ i < nI g) from propext (inb_iff rfl (by omega))]
  by_cases h1 : i < 0
  · rw [bi_f (fun h => h.1 h1)]
    simp only [i4_hasGate_0, i4_hasGate_1, i4_hasGate_4, i4_hasGate_5, i4_hasGate_6, i4_hasGate_9, i4_hasGate_12, i4_hasGate_13, i4_hasGate_16, i4_hasGate_17, st_k hs, hg, h1, if_true, true_or]
  · by_cases h2 : i < nI g
    · rw [bi_t ⟨h1, h2⟩]
      simp only [i4_hasGate_0, i4_hasGate_1, i4_hasGate_4, i4_hasGate_5, i4_hasGate_6, i4_hasGate_9, i4_hasGate_12, i4_hasGate_13, i4_hasGate_16, i4_hasGate_17, st_k hs, hg, h1, h2, if_true, if_false, or_true]
    · rw [bi_f (fun h => h2 h.2)]
      simp only [i4_hasGate_0, i4_hasGate_1, i4_hasGate_4, i4_hasGate_5, i4_hasGate_6, i4_hasGate_9, i4_hasGate_12, i4_hasGate_13, i4_hasGate_16, i4_hasGate_17, st_k hs, hg, h1, h2, if_true, if_false, true_or]
theorem s4_basins (hs : stand s) (hg : σ s 3 = nI g) (hg6 : g ≤ 6) : pX 36 0 [.ref s] [] (mm L xs σ τ) 85 S = some (some (.int (nI (bs g))), mm L xs σ τ, 85, S) := by
  unfold bs
  by_cases h : g = 0
  · subst h
    simp only [i4_basins_0, i4_basins_1, i4_basins_4, i4_basins_7, i4_basins_8, i4_basins_11, i4_basins_12, i4_basins_13, i4_basins_16, i4_basins_17, st_k hs, hg, nI_0, Int32.lt_irrefl, if_false, if_true]
  · have h1 : (0 : Int32) < nI g := nI_lt (a := 0) (by omega) (by omega)
    simp only [i4_basins_0, i4_basins_1, i4_basins_4, i4_basins_7, i4_basins_8, i4_basins_11, i4_basins_12, i4_basins_13, i4_basins_16, i4_basins_17, st_k hs, hg, h1, h, if_true, if_false, nI_1]
theorem s4_hasBasin (hs : stand s) (hg : σ s 3 = nI g) (hg6 : g ≤ 6) {b : Int32} : pX 33 0 [.ref s, .int b] [] (mm L xs σ τ) 85 S = some (some (.int (bi (inb b (bs g)))), mm L xs σ τ, 85, S) := by
  have hb7 : bs g ≤ 7 := by unfold bs; split <;> omega
  rw [show inb b (bs g) = (¬ b < 0 ∧ b < nI (bs g)) from propext (inb_iff rfl (by omega))]
  by_cases h1 : b < 0
  · rw [bi_f (fun h => h.1 h1)]
    simp only [i4_hasBasin_0, i4_hasBasin_1, i4_hasBasin_4, i4_hasBasin_5, i4_hasBasin_6, i4_hasBasin_9, i4_hasBasin_12, i4_hasBasin_13, i4_hasBasin_16, i4_hasBasin_17, st_k hs, h1, if_true, true_or]
  · by_cases h2 : b < nI (bs g)
    · rw [bi_t ⟨h1, h2⟩]
      simp only [i4_hasBasin_0, i4_hasBasin_1, i4_hasBasin_4, i4_hasBasin_5, i4_hasBasin_6, i4_hasBasin_9, i4_hasBasin_12, i4_hasBasin_13, i4_hasBasin_16, i4_hasBasin_17, st_k hs, s4_basins hs hg hg6, pK_i, h1, h2, if_true, if_false, or_true]
    · rw [bi_f (fun h => h2 h.2)]
      simp only [i4_hasBasin_0, i4_hasBasin_1, i4_hasBasin_4, i4_hasBasin_5, i4_hasBasin_6, i4_hasBasin_9, i4_hasBasin_12, i4_hasBasin_13, i4_hasBasin_16, i4_hasBasin_17, st_k hs, s4_basins hs hg hg6, pK_i, h1, h2, if_true, if_false, true_or]
theorem s4_allGates (hs : stand s) (hg : σ s 3 = nI g) (hg6 : g ≤ 6) : pX 37 0 [.ref s] [] (mm L xs σ τ) 85 S = some (some (.int (ag g)), mm L xs σ τ, 85, S) := by
  simp only [i4_allGates_0, i4_allGates_1, i4_allGates_2, i4_allGates_5, i4_allGates_6, i4_allGates_7, i4_allGates_8, st_k hs, hg, ag_ok hg6]
theorem s4_isOpen (hs : stand s) {j : Nat} (hj : j < 6) : pX 35 0 [.ref s, .int (nI j)] [] (mm L xs σ τ) 85 S = some (some (.int (bi (isop (σ (s + 1)) (σ s 4) j))), mm L xs σ τ, 85, S) := by
  unfold isop
  by_cases h : σ (s + 1) j = 3
  · rw [bi_t (Or.inl h)]
    simp only [i4_isOpen_0, i4_isOpen_1, i4_isOpen_2, i4_isOpen_5, i4_isOpen_8, i4_isOpen_9, i4_isOpen_12, i4_isOpen_13, i4_isOpen_16, i4_isOpen_19, i4_isOpen_20, i4_isOpen_23, i4_isOpen_24, st_k hs, s4_isWeir hs hj, pK_i, bi_0, h, not_true_eq_false, if_false, or_true]
  · by_cases h2 : hb (σ s 4) (nI j)
    · rw [bi_t (Or.inr h2)]
      simp only [i4_isOpen_0, i4_isOpen_1, i4_isOpen_2, i4_isOpen_5, i4_isOpen_8, i4_isOpen_9, i4_isOpen_12, i4_isOpen_13, i4_isOpen_16, i4_isOpen_19, i4_isOpen_20, i4_isOpen_23, i4_isOpen_24, st_k hs, s4_isWeir hs hj, s5_hasBit, pK_i, bi_0, h, h2, not_false_eq_true, not_true_eq_false, if_true, if_false, or_true]
    · rw [bi_f (fun q => q.elim h h2)]
      simp only [i4_isOpen_0, i4_isOpen_1, i4_isOpen_2, i4_isOpen_5, i4_isOpen_8, i4_isOpen_9, i4_isOpen_12, i4_isOpen_13, i4_isOpen_16, i4_isOpen_19, i4_isOpen_20, i4_isOpen_23, i4_isOpen_24, st_k hs, s4_isWeir hs hj, s5_hasBit, pK_i, bi_0, h, h2, not_false_eq_true, not_true_eq_false, if_true, if_false, true_or]
theorem s4_flowNow (hs : stand s) {j : Nat} (hj : j < 6) : pX 40 0 [.ref s, .int (nI j)] [] (mm L xs σ τ) 85 S = some (some (.int (flC (σ (s + 1) j) (σ (s + 2) j) (σ (s + 3) j) (σ (s + 3) (j + 1)) (σ s 5))), mm L xs σ τ, 85, S) := by
  simp only [i4_flowNow_0, i4_flowNow_1, i4_flowNow_4, i4_flowNow_5, i4_flowNow_6, i4_flowNow_7, i4_flowNow_10, i4_flowNow_11, i4_flowNow_12, i4_flowNow_13, i4_flowNow_16, i4_flowNow_17, i4_flowNow_18, i4_flowNow_19, i4_flowNow_22, i4_flowNow_23, i4_flowNow_24, i4_flowNow_25, i4_flowNow_26, i4_flowNow_27, i4_flowNow_30, i4_flowNow_33, st_k hs, st_1 hs, st_2 hs, st_3 hs, st_l1 hs, st_l2 hs, st_l3 hs, nI_1, ifb_i hj (by decide), ifb_i (show j < 7 by omega) (by decide), ifb_i (show j + 1 < 7 by omega) (by decide), cl (show j ≤ 5000 by omega), cl (show j + 1 ≤ 5000 by omega), s5_flowOf, pK_i]
theorem s4_weirs (hs : stand s) (hg : σ s 3 = nI g) (hg6 : g ≤ 6) : pX 38 0 [.ref s, .null, .null] [] (mm L xs σ τ) 85 S = some (some (.int (wr (σ (s + 1)) g)), mm L xs σ τ, 85, S) := by
  have key := lp (δ := Unit) g (fun j _ => pX 38 4 [.ref s, .int (wr (σ (s + 1)) j), .int (nI j)] [] (mm L xs σ τ) 85 S) (some (some (.int (wr (σ (s + 1)) g)), mm L xs σ τ, 85, S)) (fun _ => by
    simp only [i4_weirs_0, i4_weirs_1, i4_weirs_2, i4_weirs_3, i4_weirs_4, i4_weirs_5, i4_weirs_6, i4_weirs_9, i4_weirs_12, i4_weirs_13, i4_weirs_14, i4_weirs_17, i4_weirs_20, i4_weirs_21, i4_weirs_22, i4_weirs_23, i4_weirs_24, i4_weirs_25, i4_weirs_26, i4_weirs_29, i4_weirs_32, i4_weirs_33, st_k hs, hg, Int32.lt_irrefl, if_false]) (fun j hj _ => ⟨(), by
    have h6 : j < 6 := by omega
    rw [i4_weirs_4]
    by_cases h : σ (s + 1) j = 3
    · simp only [i4_weirs_5, i4_weirs_6, i4_weirs_9, i4_weirs_12, i4_weirs_13, i4_weirs_14, i4_weirs_17, i4_weirs_20, i4_weirs_21, i4_weirs_22, i4_weirs_23, i4_weirs_24, i4_weirs_25, i4_weirs_26, i4_weirs_29, i4_weirs_32, i4_weirs_33, st_k hs, hg, nlt hj (by omega), if_true, s4_isWeir hs h6, pK_i, bi_0, h, not_true_eq_false, if_false, nI_1, wr, sh]
    · simp only [i4_weirs_5, i4_weirs_6, i4_weirs_9, i4_weirs_12, i4_weirs_13, i4_weirs_14, i4_weirs_17, i4_weirs_20, i4_weirs_21, i4_weirs_22, i4_weirs_23, i4_weirs_24, i4_weirs_25, i4_weirs_26, i4_weirs_29, i4_weirs_32, i4_weirs_33, st_k hs, hg, nlt hj (by omega), if_true, s4_isWeir hs h6, pK_i, bi_0, h, not_false_eq_true, if_false, nI_1, wr]⟩)
  have k := key ()
  simp only [wr, nI_0] at k
  simp only [i4_weirs_0, i4_weirs_1, i4_weirs_2, i4_weirs_3]
  exact k
theorem s4_passTurn (hs : stand s) (hg : σ s 3 = nI g) (hg6 : g ≤ 6) {sk : Int32} : pX 41 0 [.ref s, .int sk, .null, .null, .null] [] (mm L xs σ τ) 85 S = some (some (.int (tm (σ (s + 1)) (σ (s + 2)) (σ s 4) (σ s 5) sk (σ (s + 3)) g)), mm L xs (va_up (va_up σ (s + 3) (tl (σ (s + 1)) (σ (s + 2)) (σ s 4) (σ s 5) sk (σ (s + 3)) g)) s (upd (σ s) 5 (σ s 5 + 1))) τ, 85, S) := by
  have n1 : s + 1 ≠ s + 3 := by omega
  have n2 : s + 2 ≠ s + 3 := by omega
  have n3 : s ≠ s + 3 := by omega
  have key := lp (δ := Value) g (fun j d => pX 41 4 [.ref s, .int sk, .int (tm (σ (s + 1)) (σ (s + 2)) (σ s 4) (σ s 5) sk (σ (s + 3)) j), .int (nI j), d] [] (mm L xs (va_up σ (s + 3) (tl (σ (s + 1)) (σ (s + 2)) (σ s 4) (σ s 5) sk (σ (s + 3)) j)) τ) 85 S) (some (some (.int (tm (σ (s + 1)) (σ (s + 2)) (σ s 4) (σ s 5) sk (σ (s + 3)) g)), mm L xs (va_up (va_up σ (s + 3) (tl (σ (s + 1)) (σ (s + 2)) (σ s 4) (σ s 5) sk (σ (s + 3)) g)) s (upd (σ s) 5 (σ s 5 + 1))) τ, 85, S)) (fun d => by
    simp only [i4_passTurn_0, i4_passTurn_1, i4_passTurn_2, i4_passTurn_3, i4_passTurn_4, i4_passTurn_5, i4_passTurn_6, i4_passTurn_9, i4_passTurn_12, i4_passTurn_13, i4_passTurn_14, i4_passTurn_17, i4_passTurn_20, i4_passTurn_21, i4_passTurn_22, i4_passTurn_25, i4_passTurn_28, i4_passTurn_29, i4_passTurn_30, i4_passTurn_33, i4_passTurn_36, i4_passTurn_37, i4_passTurn_39, i4_passTurn_40, i4_passTurn_43, i4_passTurn_44, i4_passTurn_45, i4_passTurn_46, i4_passTurn_48, i4_passTurn_49, i4_passTurn_50, i4_passTurn_51, i4_passTurn_54, i4_passTurn_55, i4_passTurn_56, i4_passTurn_57, i4_passTurn_58, i4_passTurn_59, i4_passTurn_61, i4_passTurn_62, i4_passTurn_63, i4_passTurn_65, i4_passTurn_68, i4_passTurn_69, i4_passTurn_70, i4_passTurn_71, i4_passTurn_72, i4_passTurn_73, i4_passTurn_74, i4_passTurn_77, i4_passTurn_80, i4_passTurn_81, i4_passTurn_82, i4_passTurn_85, i4_passTurn_86, i4_passTurn_87, i4_passTurn_90, i4_passTurn_91, st_k hs, vn n3, hg, Int32.lt_irrefl, if_false]) (fun j hj d => ⟨.int (flw (σ (s + 1)) (σ (s + 2)) (σ s 4) (σ s 5) sk (tl (σ (s + 1)) (σ (s + 2)) (σ s 4) (σ s 5) sk (σ (s + 3)) j) j), by
    have h6 : j < 6 := by omega
    generalize hlv : tl (σ (s + 1)) (σ (s + 2)) (σ s 4) (σ s 5) sk (σ (s + 3)) j = lv
    have e1 : tl (σ (s + 1)) (σ (s + 2)) (σ s 4) (σ s 5) sk (σ (s + 3)) (j + 1) = put2 lv j (flw (σ (s + 1)) (σ (s + 2)) (σ s 4) (σ s 5) sk lv j) := by rw [← hlv]; rfl
    have e2 : tm (σ (s + 1)) (σ (s + 2)) (σ s 4) (σ s 5) sk (σ (s + 3)) (j + 1) = if flw (σ (s + 1)) (σ (s + 2)) (σ s 4) (σ s 5) sk lv j = 0 then tm (σ (s + 1)) (σ (s + 2)) (σ s 4) (σ s 5) sk (σ (s + 3)) j else tm (σ (s + 1)) (σ (s + 2)) (σ s 4) (σ s 5) sk (σ (s + 3)) j ||| sh j := by rw [← hlv]; rfl
    rw [e1, e2]
    generalize tm (σ (s + 1)) (σ (s + 2)) (σ s 4) (σ s 5) sk (σ (s + 3)) j = mv
    have tail : ∀ (f : Int32), pX 41 37 [.ref s, .int sk, .int mv, .int (nI j), d] [.int f] (mm L xs (va_up σ (s + 3) lv) τ) 85 S = pX 41 4 [.ref s, .int sk, .int (if f = 0 then mv else mv ||| sh j), .int (nI (j + 1)), .int f] [] (mm L xs (va_up σ (s + 3) (put2 lv j f)) τ) 85 S := by
      intro f
      by_cases h0 : f = 0
      · simp only [i4_passTurn_37, i4_passTurn_39, i4_passTurn_40, i4_passTurn_43, i4_passTurn_44, i4_passTurn_45, i4_passTurn_46, i4_passTurn_48, i4_passTurn_49, i4_passTurn_50, i4_passTurn_51, i4_passTurn_54, i4_passTurn_55, i4_passTurn_56, i4_passTurn_57, i4_passTurn_58, i4_passTurn_59, i4_passTurn_61, i4_passTurn_62, i4_passTurn_63, i4_passTurn_65, i4_passTurn_68, i4_passTurn_69, i4_passTurn_70, i4_passTurn_71, i4_passTurn_72, i4_passTurn_73, i4_passTurn_74, i4_passTurn_77, st_k hs, st_3 hs, st_l3 hs, nI_1, ifb_i (show j < 7 by omega) (by decide), ifb_i (show j + 1 < 7 by omega) (by decide), cl (show j ≤ 5000 by omega), cl (show j + 1 ≤ 5000 by omega), vs, vu, h0, if_true, put2]
      · simp only [i4_passTurn_37, i4_passTurn_39, i4_passTurn_40, i4_passTurn_43, i4_passTurn_44, i4_passTurn_45, i4_passTurn_46, i4_passTurn_48, i4_passTurn_49, i4_passTurn_50, i4_passTurn_51, i4_passTurn_54, i4_passTurn_55, i4_passTurn_56, i4_passTurn_57, i4_passTurn_58, i4_passTurn_59, i4_passTurn_61, i4_passTurn_62, i4_passTurn_63, i4_passTurn_65, i4_passTurn_68, i4_passTurn_69, i4_passTurn_70, i4_passTurn_71, i4_passTurn_72, i4_passTurn_73, i4_passTurn_74, i4_passTurn_77, st_k hs, st_3 hs, st_l3 hs, nI_1, ifb_i (show j < 7 by omega) (by decide), ifb_i (show j + 1 < 7 by omega) (by decide), cl (show j ≤ 5000 by omega), cl (show j + 1 ≤ 5000 by omega), vs, vu, h0, if_false, put2, sh]
    rw [i4_passTurn_4]
    by_cases ho : isop (σ (s + 1)) (σ s 4) j
    · by_cases hk : hb sk (nI j)
      · have ef : flw (σ (s + 1)) (σ (s + 2)) (σ s 4) (σ s 5) sk lv j = 0 := if_neg (fun q => q.2 hk)
        rw [ef, ← tail 0]
        simp only [i4_passTurn_5, i4_passTurn_6, i4_passTurn_9, i4_passTurn_12, i4_passTurn_13, i4_passTurn_14, i4_passTurn_17, i4_passTurn_20, i4_passTurn_21, i4_passTurn_22, i4_passTurn_25, i4_passTurn_28, i4_passTurn_29, i4_passTurn_30, i4_passTurn_33, i4_passTurn_36, st_k hs, vn n1, vn n3, hg, nlt hj (by omega), if_true, s4_isOpen hs h6, s5_hasBit, pK_i, bi_0, ho, hk, not_true_eq_false, if_false]
      · have ef : flw (σ (s + 1)) (σ (s + 2)) (σ s 4) (σ s 5) sk lv j = flC (σ (s + 1) j) (σ (s + 2) j) (lv j) (lv (j + 1)) (σ s 5) := if_pos ⟨ho, hk⟩
        rw [ef, ← tail]
        simp only [i4_passTurn_5, i4_passTurn_6, i4_passTurn_9, i4_passTurn_12, i4_passTurn_13, i4_passTurn_14, i4_passTurn_17, i4_passTurn_20, i4_passTurn_21, i4_passTurn_22, i4_passTurn_25, i4_passTurn_28, i4_passTurn_29, i4_passTurn_30, i4_passTurn_33, i4_passTurn_36, st_k hs, vn n1, vn n2, vn n3, vs, hg, nlt hj (by omega), if_true, s4_isOpen hs h6, s4_flowNow hs h6, s5_hasBit, pK_i, bi_0, ho, hk, not_true_eq_false, not_false_eq_true, if_false]
    · have ef : flw (σ (s + 1)) (σ (s + 2)) (σ s 4) (σ s 5) sk lv j = 0 := if_neg (fun q => ho q.1)
      rw [ef, ← tail 0]
      simp only [i4_passTurn_5, i4_passTurn_6, i4_passTurn_9, i4_passTurn_12, i4_passTurn_13, i4_passTurn_14, i4_passTurn_17, i4_passTurn_20, i4_passTurn_21, i4_passTurn_22, i4_passTurn_25, i4_passTurn_28, i4_passTurn_29, i4_passTurn_30, i4_passTurn_33, i4_passTurn_36, st_k hs, vn n1, vn n3, hg, nlt hj (by omega), if_true, s4_isOpen hs h6, pK_i, bi_0, ho, not_false_eq_true]⟩)
  have k := key .null
  simp only [tm, tl, nI_0, m_up_id] at k
  simp only [i4_passTurn_0, i4_passTurn_1, i4_passTurn_2, i4_passTurn_3]
  exact k
end S4
