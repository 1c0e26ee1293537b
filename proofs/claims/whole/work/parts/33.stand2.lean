/-! A STAND, going on -/
/-- a loop with an end that may come early; what it leaves aside may be anything -/
theorem lq {α δ : Type} (n : Nat) (I : Nat → δ → Prop) (P : Nat → δ → α) (Q : α → Prop) (h0 : ∀ d, I n d → Q (P n d)) (hs : ∀ j, j < n → ∀ d, I j d → Q (P j d) ∨ ∃ d', I (j + 1) d' ∧ P j d = P (j + 1) d') : ∀ d, I 0 d → Q (P 0 d) := by
  have key : ∀ k, k ≤ n → ∀ d, I (n - k) d → Q (P (n - k) d) := by
    intro k
    induction k with
    | zero => intro _ d; exact h0 d
    | succ k ih =>
      intro hk d hI
      rcases hs (n - (k + 1)) (by omega) d hI with h | ⟨d', h1, h⟩
      · exact h
      · rw [show n - (k + 1) + 1 = n - k by omega] at h1 h
        rw [h]
        exact ih (by omega) d' h1
  intro d hI
  have h := key n (Nat.le_refl n) d
  rw [Nat.sub_self] at h
  exact h hI
theorem uu {f : Nat → Int32} {k : Nat} {v w : Int32} : upd (upd f k v) k w = upd f k w := vu
theorem ui (f : Nat → Int32) (k : Nat) : upd f k (f k) = f := m_up_id f k
theorem v4 {α : Type} {f : Nat → α} {a b : Nat} (h : a ≠ b) {x z u w : α} : va_up (va_up (va_up (va_up f a x) b z) a u) b w = va_up (va_up f a u) b w := by
  funext j
  by_cases h1 : j = b
  · subst h1; simp [va_up]
  · by_cases h2 : j = a
    · subst h2; simp [va_up, h1]
    · simp [va_up, h1, h2]
theorem st_m {s : Nat} (h : stand s) : s % 8 = 4 := by rcases h with rfl | rfl | rfl | rfl | rfl <;> rfl
/-- a stand is another one's now -/
def tk (σ : Nat → Nat → Int32) (s o : Nat) : Nat → Nat → Int32 := va_up (va_up (va_up (va_up σ (s + 1) (va_cpy (σ (o + 1)) (σ (s + 1)) 0 0 6)) (s + 2) (va_cpy (σ (o + 2)) (σ (s + 2)) 0 0 6)) (s + 3) (va_cpy (σ (o + 3)) (σ (s + 3)) 0 0 7)) s (upd (upd (upd (σ s) 3 (σ o 3)) 4 (σ o 4)) 5 (σ o 5))
def sumf (f : Nat → Int32) : Nat → Int32
  | 0 => 0
  | i + 1 => sumf f i + f i
def minf (f : Nat → Int32) : Nat → Int32
  | 0 => f 0
  | i + 1 => imn (minf f i) (f i)
def maxf (f : Nat → Int32) : Nat → Int32
  | 0 => f 0
  | i + 1 => imx (maxf f i) (f i)
section S5
variable {L : Nat} {xs : Nat → Int32} {σ : Nat → Nat → Int32} {τ : Nat → Nat → Int64} {S s g : Nat}
theorem s4_passTurns (hs : stand s) (hg : σ s 3 = nI g) (hg6 : g ≤ 6) {m : Nat} (hm : m ≤ 100) : pX 42 0 [.ref s, .int (nI m), .null, .null] [] (mm L xs σ τ) 85 S = some (some (.int (rmv (σ (s + 1)) (σ (s + 2)) g (σ s 4) (σ s 5) (σ (s + 3)) m)), mm L xs (va_up (va_up σ (s + 3) (rl (σ (s + 1)) (σ (s + 2)) g (σ s 4) (σ s 5) (σ (s + 3)) m)) s (upd (σ s) 5 (σ s 5 + nI m))) τ, 85, S) := by
  have n1 : s + 1 ≠ s + 3 := by omega
  have n2 : s + 2 ≠ s + 3 := by omega
  have n3 : s ≠ s + 3 := by omega
  have n4 : s + 1 ≠ s := by omega
  have n5 : s + 2 ≠ s := by omega
  have n6 : s + 3 ≠ s := by omega
  have key := lp (δ := Unit) m (fun j d => pX 42 4 [.ref s, .int (nI m), .int (rmv (σ (s + 1)) (σ (s + 2)) g (σ s 4) (σ s 5) (σ (s + 3)) j), .int (nI j)] [] (mm L xs (va_up (va_up σ (s + 3) (rl (σ (s + 1)) (σ (s + 2)) g (σ s 4) (σ s 5) (σ (s + 3)) j)) s (upd (σ s) 5 (σ s 5 + nI j))) τ) 85 S) (some (some (.int (rmv (σ (s + 1)) (σ (s + 2)) g (σ s 4) (σ s 5) (σ (s + 3)) m)), mm L xs (va_up (va_up σ (s + 3) (rl (σ (s + 1)) (σ (s + 2)) g (σ s 4) (σ s 5) (σ (s + 3)) m)) s (upd (σ s) 5 (σ s 5 + nI m))) τ, 85, S)) (fun d => by
    simp only [i4_passTurns_0, i4_passTurns_1, i4_passTurns_2, i4_passTurns_3, i4_passTurns_4, i4_passTurns_5, i4_passTurns_6, i4_passTurns_9, i4_passTurns_10, i4_passTurns_11, i4_passTurns_14, i4_passTurns_15, i4_passTurns_18, i4_passTurns_21, i4_passTurns_22, Int32.lt_irrefl, if_false]) (fun j hj d => ⟨(), by
    rw [i4_passTurns_4]
    have hg' : (va_up (va_up σ (s + 3) (rl (σ (s + 1)) (σ (s + 2)) g (σ s 4) (σ s 5) (σ (s + 3)) j)) s (upd (σ s) 5 (σ s 5 + nI j))) s 3 = nI g := by rw [vs, un (by decide)]; exact hg
    have e : σ s 5 + nI j + 1 = σ s 5 + nI (j + 1) := by rw [Int32.add_assoc, nI_1]
    simp only [i4_passTurns_5, i4_passTurns_6, i4_passTurns_9, i4_passTurns_10, i4_passTurns_11, i4_passTurns_14, i4_passTurns_15, i4_passTurns_18, i4_passTurns_21, i4_passTurns_22, st_k hs, nlt hj (by omega), if_true, s4_passTurn hs hg' hg6, pK_i, vs, vn n1, vn n2, vn n4, vn n5, vn n6, us, un (show (4 : Nat) ≠ 5 by decide), uu, v4 n6, e, nI_1, rl, rmv]⟩)
  have k := key ()
  simp only [rl, rmv, nI_0, Int32.add_zero, ui, vn n3, m_up_id] at k
  have e0 : va_up (va_up σ (s + 3) (σ (s + 3))) s (σ s) = σ := by rw [m_up_id, m_up_id]
  simp only [i4_passTurns_0, i4_passTurns_1, i4_passTurns_2, i4_passTurns_3]
  exact k
theorem s4_takeFrom {o : Nat} (hs : stand s) (ho : stand o) (hne : s ≠ o) : pX 31 0 [.ref s, .ref o] [] (mm L xs σ τ) 85 S = some (none, mm L xs (tk σ s o) τ, 85, S) := by
  have m1 := st_m hs
  have m2 := st_m ho
  have c6 : ∀ a b, isK 6 a → isK 6 b → m_len a = 6 → m_len b = 6 → cpk a b 0 0 6 := by
    intro a b _ _ h1 h2
    unfold cpk
    rw [h1, h2]
    decide
  have c7 : ∀ a b, isK 6 a → isK 6 b → m_len a = 7 → m_len b = 7 → cpk a b 0 0 7 := by
    intro a b _ _ h1 h2
    unfold cpk
    rw [h1, h2]
    decide
  have z0 : (0 : Int32).toNatClampNeg = 0 := rfl
  have z6 : (6 : Int32).toNatClampNeg = 6 := rfl
  have z7 : (7 : Int32).toNatClampNeg = 7 := rfl
  unfold tk
  simp only [i4_takeFrom_0, i4_takeFrom_1, i4_takeFrom_4, i4_takeFrom_5, i4_takeFrom_6, i4_takeFrom_9, i4_takeFrom_10, i4_takeFrom_12, i4_takeFrom_15, i4_takeFrom_16, i4_takeFrom_19, i4_takeFrom_20, i4_takeFrom_21, i4_takeFrom_24, i4_takeFrom_25, i4_takeFrom_27, i4_takeFrom_30, i4_takeFrom_31, i4_takeFrom_34, i4_takeFrom_35, i4_takeFrom_36, i4_takeFrom_39, i4_takeFrom_40, i4_takeFrom_42, i4_takeFrom_45, i4_takeFrom_46, i4_takeFrom_47, i4_takeFrom_50, i4_takeFrom_53, i4_takeFrom_54, i4_takeFrom_55, i4_takeFrom_58, i4_takeFrom_61, i4_takeFrom_62, i4_takeFrom_63, i4_takeFrom_66, i4_takeFrom_69, st_k hs, st_k ho, st_1 hs, st_2 hs, st_3 hs, st_1 ho, st_2 ho, st_3 ho, c6 _ _ (st_1 ho) (st_1 hs) (st_l1 ho) (st_l1 hs), c6 _ _ (st_2 ho) (st_2 hs) (st_l2 ho) (st_l2 hs), c7 _ _ (st_3 ho) (st_3 hs) (st_l3 ho) (st_l3 hs), z0, z6, z7, vs, vu, vn (show o + 2 ≠ s + 1 by omega), vn (show s + 2 ≠ s + 1 by omega), vn (show o + 3 ≠ s + 1 by omega), vn (show o + 3 ≠ s + 2 by omega), vn (show s + 3 ≠ s + 1 by omega), vn (show s + 3 ≠ s + 2 by omega), vn (show o ≠ s + 1 by omega), vn (show o ≠ s + 2 by omega), vn (show o ≠ s + 3 by omega), vn (show s ≠ s + 1 by omega), vn (show s ≠ s + 2 by omega), vn (show s ≠ s + 3 by omega), vn (show o ≠ s by omega)]
theorem s4_change (hs : stand s) {j : Nat} (hj : j < 7) {n : Int32} : pX 43 0 [.ref s, .int (nI j), .int n] [] (mm L xs σ τ) 85 S = some (none, mm L xs (va_up σ (s + 3) (upd (σ (s + 3)) j (imx 0 (imn 60 (σ (s + 3) j + n))))) τ, 85, S) := by
  simp only [i4_change_0, i4_change_1, i4_change_4, i4_change_5, i4_change_6, i4_change_8, i4_change_9, i4_change_12, i4_change_13, i4_change_14, i4_change_15, i4_change_16, i4_change_19, i4_change_22, i4_change_23, st_k hs, st_3 hs, st_l3 hs, ifb_i hj (by decide), cl (show j ≤ 5000 by omega)]
theorem s4_sum (hs : stand s) (hg : σ s 3 = nI g) (hg6 : g ≤ 6) : pX 44 0 [.ref s, .null, .null] [] (mm L xs σ τ) 85 S = some (some (.int (sumf (σ (s + 3)) (bs g))), mm L xs σ τ, 85, S) := by
  have hb7 : bs g ≤ 7 := by unfold bs; split <;> omega
  have key := lp (δ := Unit) (bs g) (fun j _ => pX 44 4 [.ref s, .int (sumf (σ (s + 3)) j), .int (nI j)] [] (mm L xs σ τ) 85 S) (some (some (.int (sumf (σ (s + 3)) (bs g))), mm L xs σ τ, 85, S)) (fun _ => by
    simp only [i4_sum_0, i4_sum_1, i4_sum_2, i4_sum_3, i4_sum_4, i4_sum_5, i4_sum_6, i4_sum_9, i4_sum_12, i4_sum_13, i4_sum_14, i4_sum_17, i4_sum_18, i4_sum_19, i4_sum_20, i4_sum_21, i4_sum_24, i4_sum_27, i4_sum_28, st_k hs, s4_basins hs hg hg6, pK_i, Int32.lt_irrefl, if_false]) (fun j hj _ => ⟨(), by
    rw [i4_sum_4]
    simp only [i4_sum_5, i4_sum_6, i4_sum_9, i4_sum_12, i4_sum_13, i4_sum_14, i4_sum_17, i4_sum_18, i4_sum_19, i4_sum_20, i4_sum_21, i4_sum_24, i4_sum_27, i4_sum_28, st_k hs, st_3 hs, st_l3 hs, s4_basins hs hg hg6, pK_i, nlt hj (by omega), if_true, ifb_i (show j < 7 by omega) (by decide), cl (show j ≤ 5000 by omega), nI_1, sumf]⟩)
  have k := key ()
  simp only [sumf, nI_0] at k
  simp only [i4_sum_0, i4_sum_1, i4_sum_2, i4_sum_3]
  exact k
theorem s4_spread (hs : stand s) (hg : σ s 3 = nI g) (hg6 : g ≤ 6) : pX 45 0 [.ref s, .null, .null, .null] [] (mm L xs σ τ) 85 S = some (some (.int (maxf (σ (s + 3)) (bs g) - minf (σ (s + 3)) (bs g))), mm L xs σ τ, 85, S) := by
  have hb7 : bs g ≤ 7 := by unfold bs; split <;> omega
  have key := lp (δ := Unit) (bs g) (fun j _ => pX 45 16 [.ref s, .int (minf (σ (s + 3)) j), .int (maxf (σ (s + 3)) j), .int (nI j)] [] (mm L xs σ τ) 85 S) (some (some (.int (maxf (σ (s + 3)) (bs g) - minf (σ (s + 3)) (bs g))), mm L xs σ τ, 85, S)) (fun _ => by
    simp only [i4_spread_0, i4_spread_1, i4_spread_4, i4_spread_5, i4_spread_6, i4_spread_7, i4_spread_8, i4_spread_11, i4_spread_12, i4_spread_13, i4_spread_14, i4_spread_15, i4_spread_16, i4_spread_17, i4_spread_18, i4_spread_21, i4_spread_24, i4_spread_25, i4_spread_26, i4_spread_29, i4_spread_30, i4_spread_31, i4_spread_34, i4_spread_35, i4_spread_36, i4_spread_37, i4_spread_40, i4_spread_41, i4_spread_42, i4_spread_45, i4_spread_46, i4_spread_49, i4_spread_52, i4_spread_53, i4_spread_54, i4_spread_55, st_k hs, s4_basins hs hg hg6, pK_i, Int32.lt_irrefl, if_false]) (fun j hj _ => ⟨(), by
    rw [i4_spread_16]
    simp only [i4_spread_17, i4_spread_18, i4_spread_21, i4_spread_24, i4_spread_25, i4_spread_26, i4_spread_29, i4_spread_30, i4_spread_31, i4_spread_34, i4_spread_35, i4_spread_36, i4_spread_37, i4_spread_40, i4_spread_41, i4_spread_42, i4_spread_45, i4_spread_46, i4_spread_49, i4_spread_52, i4_spread_53, i4_spread_54, i4_spread_55, st_k hs, st_3 hs, st_l3 hs, s4_basins hs hg hg6, pK_i, nlt hj (by omega), if_true, ifb_i (show j < 7 by omega) (by decide), cl (show j ≤ 5000 by omega), nI_1, minf, maxf]⟩)
  have k := key ()
  simp only [minf, maxf] at k
  have i0 : ∀ {α : Type} {a b : α}, ifb 0 7 a b = a := ifb_i (j := 0) (n := 7) (by decide) (by decide)
  have z0 : (0 : Int32).toNatClampNeg = 0 := rfl
  simp only [i4_spread_0, i4_spread_1, i4_spread_4, i4_spread_5, i4_spread_6, i4_spread_7, i4_spread_8, i4_spread_11, i4_spread_12, i4_spread_13, i4_spread_14, i4_spread_15, st_k hs, st_3 hs, st_l3 hs, i0, z0]
  exact k
theorem s4_openGates (hs : stand s) (hg : σ s 3 = nI g) (hg6 : g ≤ 6) : pX 39 0 [.ref s] [] (mm L xs σ τ) 85 S = some (some (.int (σ s 4 &&& ag g ||| wr (σ (s + 1)) g)), mm L xs σ τ, 85, S) := by
  simp only [i4_openGates_0, i4_openGates_1, i4_openGates_4, i4_openGates_5, i4_openGates_8, i4_openGates_9, i4_openGates_10, i4_openGates_13, i4_openGates_14, st_k hs, s4_allGates hs hg hg6, s4_weirs hs hg hg6, pK_i]
end S5
