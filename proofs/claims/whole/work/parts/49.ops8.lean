/-! THE CALLS, going on: keep, on -/
def brdg (p : Nat) : Prop := p = 3 ∨ p = 43 ∨ p = 51 ∨ p = 59
theorem bd_k {p : Nat} (h : brdg p) : isK 0 p := by rcases h with rfl | rfl | rfl | rfl <;> exact ⟨by decide +kernel, by decide⟩
theorem bd_s {p : Nat} (h : brdg p) : stand (p + 1) := by
  rcases h with rfl | rfl | rfl | rfl
  · exact Or.inl rfl
  · exact Or.inr (Or.inr (Or.inl rfl))
  · exact Or.inr (Or.inr (Or.inr (Or.inl rfl)))
  · exact Or.inr (Or.inr (Or.inr (Or.inr rfl)))
theorem bd_5 {p : Nat} (h : brdg p) : isK 6 (p + 5) := by rcases h with rfl | rfl | rfl | rfl <;> exact ⟨by decide +kernel, by decide⟩
theorem bd_6 {p : Nat} (h : brdg p) : isK 6 (p + 6) := by rcases h with rfl | rfl | rfl | rfl <;> exact ⟨by decide +kernel, by decide⟩
theorem bd_7 {p : Nat} (h : brdg p) : isK 6 (p + 7) := by rcases h with rfl | rfl | rfl | rfl <;> exact ⟨by decide +kernel, by decide⟩
theorem bd_l5 {p : Nat} (h : brdg p) : m_len (p + 5) = 280 := by rcases h with rfl | rfl | rfl | rfl <;> decide +kernel
theorem bd_l6 {p : Nat} (h : brdg p) : m_len (p + 6) = 40 := by rcases h with rfl | rfl | rfl | rfl <;> decide +kernel
theorem bd_l7 {p : Nat} (h : brdg p) : m_len (p + 7) = 40 := by rcases h with rfl | rfl | rfl | rfl <;> decide +kernel
theorem bd_m {p : Nat} (h : brdg p) : p % 8 = 3 := by rcases h with rfl | rfl | rfl | rfl <;> rfl
theorem bd_of {k : Nat} (h : k < 3) : brdg (43 + 8 * k) := by
  have : k = 0 ∨ k = 1 ∨ k = 2 := by omega
  rcases this with rfl | rfl | rfl
  · exact Or.inr (Or.inl rfl)
  · exact Or.inr (Or.inr (Or.inl rfl))
  · exact Or.inr (Or.inr (Or.inr rfl))
/-- a bridge is another one's -/
def tkB (σ : Nat → Nat → Int32) (x o : Nat) : Nat → Nat → Int32 := va_up (va_up (va_up (va_up (tk σ (x + 1) (o + 1)) (x + 5) (va_cpy (σ (o + 5)) (σ (x + 5)) 0 0 280)) (x + 6) (va_cpy (σ (o + 6)) (σ (x + 6)) 0 0 40)) (x + 7) (va_cpy (σ (o + 7)) (σ (x + 7)) 0 0 40)) x (upd (σ x) 4 (σ o 4))
section DI
variable {L : Nat} {xs : Nat → Int32} {σ : Nat → Nat → Int32} {τ : Nat → Nat → Int64} {S g d m : Nat}
theorem tk_n {s o c : Nat} (h : c < s ∨ s + 3 < c) : tk σ s o c = σ c := by unfold tk; simp (disch := omega) only [vn']
theorem tkB_n {x o c : Nat} (h : c < x ∨ x + 7 < c) : tkB σ x o c = σ c := by unfold tkB tk; simp (disch := omega) only [vn']
theorem tkB_x {x o i : Nat} : tkB σ x o x i = if i = 4 then σ o 4 else σ x i := by
  unfold tkB
  rw [vs]
  by_cases h : i = 4
  · subst h; rw [us, if_pos rfl]
  · rw [un h, if_neg h]
theorem tkB_1 {x o : Nat} : tkB σ x o (x + 1) = upd (upd (upd (σ (x + 1)) 3 (σ (o + 1) 3)) 4 (σ (o + 1) 4)) 5 (σ (o + 1) 5) := by unfold tkB tk; simp (disch := omega) only [vn', vs]
theorem tkB_2 {x o : Nat} : tkB σ x o (x + 2) = va_cpy (σ (o + 2)) (σ (x + 2)) 0 0 6 := by unfold tkB tk; simp (disch := omega) only [vn', vs, Nat.add_assoc, Nat.reduceAdd]
theorem tkB_3 {x o : Nat} : tkB σ x o (x + 3) = va_cpy (σ (o + 3)) (σ (x + 3)) 0 0 6 := by unfold tkB tk; simp (disch := omega) only [vn', vs, Nat.add_assoc, Nat.reduceAdd]
theorem tkB_4 {x o : Nat} : tkB σ x o (x + 4) = va_cpy (σ (o + 4)) (σ (x + 4)) 0 0 7 := by unfold tkB tk; simp (disch := omega) only [vn', vs, Nat.add_assoc, Nat.reduceAdd]
theorem tkB_5 {x o : Nat} : tkB σ x o (x + 5) = va_cpy (σ (o + 5)) (σ (x + 5)) 0 0 280 := by unfold tkB tk; simp (disch := omega) only [vn', vs]
theorem tkB_6 {x o : Nat} : tkB σ x o (x + 6) = va_cpy (σ (o + 6)) (σ (x + 6)) 0 0 40 := by unfold tkB tk; simp (disch := omega) only [vn', vs]
theorem tkB_7 {x o : Nat} : tkB σ x o (x + 7) = va_cpy (σ (o + 7)) (σ (x + 7)) 0 0 40 := by unfold tkB tk; simp (disch := omega) only [vn', vs]
theorem s0_takeFrom {x o : Nat} (hx : brdg x) (ho : brdg o) (hne : x ≠ o) : pX 4 0 [.ref x, .ref o] [] (mm L xs σ τ) 85 S = some (none, mm L xs (tkB σ x o) τ, 85, S) := by
  have m1 := bd_m hx
  have m2 := bd_m ho
  have t := s4_takeFrom (L := L) (xs := xs) (σ := σ) (τ := τ) (S := S) (bd_s hx) (bd_s ho) (by omega)
  have z280 : (nI 280).toNatClampNeg = 280 := rfl
  have z40 : (40 : Int32).toNatClampNeg = 40 := rfl
  have z0 : (0 : Int32).toNatClampNeg = 0 := rfl
  have c5 : cpk (o + 5) (x + 5) 0 0 (nI 280) := by unfold cpk; rw [bd_l5 hx, bd_l5 ho]; decide
  have c6 : cpk (o + 6) (x + 6) 0 0 40 := by unfold cpk; rw [bd_l6 hx, bd_l6 ho]; decide
  have c7 : cpk (o + 7) (x + 7) 0 0 40 := by unfold cpk; rw [bd_l7 hx, bd_l7 ho]; decide
  have e5 : (tk σ (x + 1) (o + 1)) (o + 5) = σ (o + 5) := tk_n (by omega)
  have e5' : (tk σ (x + 1) (o + 1)) (x + 5) = σ (x + 5) := tk_n (by omega)
  have e6 : (tk σ (x + 1) (o + 1)) (o + 6) = σ (o + 6) := tk_n (by omega)
  have e6' : (tk σ (x + 1) (o + 1)) (x + 6) = σ (x + 6) := tk_n (by omega)
  have e7 : (tk σ (x + 1) (o + 1)) (o + 7) = σ (o + 7) := tk_n (by omega)
  have e7' : (tk σ (x + 1) (o + 1)) (x + 7) = σ (x + 7) := tk_n (by omega)
  have e8 : (tk σ (x + 1) (o + 1)) o = σ o := tk_n (by omega)
  have e8' : (tk σ (x + 1) (o + 1)) x = σ x := tk_n (by omega)
  unfold tkB
  simp only [i0_takeFrom_0, i0_takeFrom_1, i0_takeFrom_4, i0_takeFrom_5, i0_takeFrom_8, i0_takeFrom_11, i0_takeFrom_12, i0_takeFrom_15, i0_takeFrom_16, i0_takeFrom_17, i0_takeFrom_20, i0_takeFrom_21, i0_takeFrom_22, i0_takeFrom_25, i0_takeFrom_25_r1, i0_takeFrom_25_r2, i0_takeFrom_25_r11, i0_takeFrom_25_r1000, i0_takeFrom_26, i0_takeFrom_29, i0_takeFrom_30, i0_takeFrom_33, i0_takeFrom_34, i0_takeFrom_35, i0_takeFrom_38, i0_takeFrom_39, i0_takeFrom_41, i0_takeFrom_44, i0_takeFrom_45, i0_takeFrom_48, i0_takeFrom_49, i0_takeFrom_50, i0_takeFrom_53, i0_takeFrom_54, i0_takeFrom_56, i0_takeFrom_59, i0_takeFrom_60, i0_takeFrom_61, i0_takeFrom_64, i0_takeFrom_67, bd_k hx, bd_k ho, st_k (bd_s hx), st_k (bd_s ho), bd_5 hx, bd_5 ho, bd_6 hx, bd_6 ho, bd_7 hx, bd_7 ho, bd_l5 hx, t, pK_v, c5, c6, c7, z280, z40, z0, e5, e5', e6, e6', e7, e7', e8, e8', vn (show o + 6 ≠ x + 5 by omega), vn (show x + 6 ≠ x + 5 by omega), vn (show o + 7 ≠ x + 5 by omega), vn (show o + 7 ≠ x + 6 by omega), vn (show x + 7 ≠ x + 5 by omega), vn (show x + 7 ≠ x + 6 by omega), vn (show o ≠ x + 5 by omega), vn (show o ≠ x + 6 by omega), vn (show o ≠ x + 7 by omega), vn (show x ≠ x + 5 by omega), vn (show x ≠ x + 6 by omega), vn (show x ≠ x + 7 by omega)]
end DI
