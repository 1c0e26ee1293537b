def imx (a b : Int32) : Int32 := if a < b then b else a
def imn (a b : Int32) : Int32 := if b < a then b else a
def iab (a : Int32) : Int32 := if 0 ≤ a then a else 0 - a
theorem n20 : ((2 : Int32) = 0) = False := by decide
theorem n30 : ((3 : Int32) = 0) = False := by decide
/-! THE MEMORY OF THE SYSTEM, once made: 85 cells of known shape; what is in them is numbers: σ (ints) and τ (longs), by cell and place; printed by program (wip/gen/mem.py) -/
def m_kds : List Nat := [4, 8, 9, 0, 3, 6, 6, 6, 6, 6, 6, 10, 3, 6, 6, 6, 2, 6, 6, 6, 6, 6, 6, 1, 6, 1, 6, 1, 6, 1, 6, 1, 6, 1, 6, 1, 6, 1, 6, 1, 6, 1, 6, 0, 3, 6, 6, 6, 6, 6, 6, 0, 3, 6, 6, 6, 6, 6, 6, 0, 3, 6, 6, 6, 6, 6, 6, 5, 6, 6, 6, 6, 6, 6, 6, 6, 6, 6, 6, 6, 6, 6, 7, 6, 6]
def m_lens : List Nat := [0, 6, 4, 0, 0, 6, 6, 7, 280, 40, 40, 3, 0, 6, 6, 7, 0, 64, 448, 61, 64, 64, 6, 0, 40, 0, 40, 0, 40, 0, 40, 0, 40, 0, 40, 0, 60, 0, 60, 0, 60, 0, 60, 0, 0, 6, 6, 7, 280, 40, 40, 0, 0, 6, 6, 7, 280, 40, 40, 0, 0, 6, 6, 7, 280, 40, 40, 0, 6, 240, 4, 240, 6, 6, 9, 360, 1110, 6, 6, 6, 9, 9, 64, 448, 2401]
def m_kd (k : Nat) : Nat := bif Nat.ble (k + 1) 85 then m_kds.getD k 99 else bif Nat.beq k 1000 then 11 else bif Nat.beq k 1001 then 12 else bif Nat.beq k 1002 then 13 else 99
def m_len (k : Nat) : Nat := m_lens.getD k 0
def pm_let (j : Nat) : Int32 := match j with
  | 0 => 103
  | 1 => 115
  | 2 => 112
  | 3 => 119
  | 4 => 108
  | _ => 101
def pm_kab (j : Nat) : Int32 := match j with
  | 0 => -9
  | 1 => 0
  | 2 => 0
  | 3 => 0
  | 4 => 1
  | _ => 2
def m_cell (L : Nat) (xs : Nat → Int32) (k : Nat) (f : Nat → Int32) (g : Nat → Int64) : va_E := match m_kd k with
  | 0 => .inr (0, [.ref (k + 1), .ref (k + 5), .ref (k + 6), .ref (k + 7), .int (f 4)])
  | 1 => .inr (1, [.ref (k + 1), .int (f 1)])
  | 2 => .inr (2, [.ref (k + 1), .ref (k + 2), .ref (k + 3), .int (f 3)])
  | 3 => .inr (3, [.ref (k + 1), .ref (k + 2), .ref (k + 3), .int (f 3), .int (f 4), .int (f 5)])
  | 4 => .inr (4, [.ref 1, .ref 2, .ref 3, .ref 11, .ref 12, .ref 16, .ref 20, .ref 21, .ref 22, .int (f 9), .int (f 10), .long (g 11), .long (g 12)])
  | 5 => .inr (5, [.ref 68, .ref 69, .ref 70, .ref 71, .int (f 4), .ref 72, .ref 73, .ref 74, .int (f 8), .ref 75, .ref 76, .int (f 11), .long (g 12), .long (g 13), .int (f 14), .ref 77, .int (f 16), .int (f 17), .int (f 18), .int (f 19), .ref 78, .ref 79, .ref 80, .ref 81, .ref 82, .ref 83, .int (f 26), .ref 84])
  | 6 => .inl (0, m_len k, .inl f)
  | 7 => .inl (1, m_len k, .inl f)
  | 8 => .inl (2, 6, .inr (.inr (.inr (.inr (fun r => if r < 6 then some (23 + 2 * r) else none)))))
  | 9 => .inl (2, 4, .inr (.inr (.inr (.inr (fun r => if r < 4 then some (35 + 2 * r) else none)))))
  | 10 => .inl (3, 3, .inr (.inr (.inr (.inr (fun r => if r < 3 then some (43 + 8 * r) else none)))))
  | 11 => .inl (0, 6, .inl pm_let)
  | 12 => .inl (0, 6, .inl pm_kab)
  | 13 => .inl (0, L, .inl xs)
  | _ => .inr (0, [])
def mm (L : Nat) (xs : Nat → Int32) (σ : Nat → Nat → Int32) (τ : Nat → Nat → Int64) : pm_M := fun k => m_cell L xs k (σ k) (τ k)
def isK (c k : Nat) : Prop := m_kd k = c ∧ k < 85
theorem k_0 : isK 4 0 := ⟨by decide +kernel, by decide⟩
theorem k_1 : isK 8 1 := ⟨by decide +kernel, by decide⟩
theorem k_2 : isK 9 2 := ⟨by decide +kernel, by decide⟩
theorem k_3 : isK 0 3 := ⟨by decide +kernel, by decide⟩
theorem k_4 : isK 3 4 := ⟨by decide +kernel, by decide⟩
theorem k_5 : isK 6 5 := ⟨by decide +kernel, by decide⟩
theorem k_6 : isK 6 6 := ⟨by decide +kernel, by decide⟩
theorem k_7 : isK 6 7 := ⟨by decide +kernel, by decide⟩
theorem k_8 : isK 6 8 := ⟨by decide +kernel, by decide⟩
theorem k_9 : isK 6 9 := ⟨by decide +kernel, by decide⟩
theorem k_10 : isK 6 10 := ⟨by decide +kernel, by decide⟩
theorem k_11 : isK 10 11 := ⟨by decide +kernel, by decide⟩
theorem k_12 : isK 3 12 := ⟨by decide +kernel, by decide⟩
theorem k_13 : isK 6 13 := ⟨by decide +kernel, by decide⟩
theorem k_14 : isK 6 14 := ⟨by decide +kernel, by decide⟩
theorem k_15 : isK 6 15 := ⟨by decide +kernel, by decide⟩
theorem k_16 : isK 2 16 := ⟨by decide +kernel, by decide⟩
theorem k_17 : isK 6 17 := ⟨by decide +kernel, by decide⟩
theorem k_18 : isK 6 18 := ⟨by decide +kernel, by decide⟩
theorem k_19 : isK 6 19 := ⟨by decide +kernel, by decide⟩
theorem k_20 : isK 6 20 := ⟨by decide +kernel, by decide⟩
theorem k_21 : isK 6 21 := ⟨by decide +kernel, by decide⟩
theorem k_22 : isK 6 22 := ⟨by decide +kernel, by decide⟩
theorem k_23 : isK 1 23 := ⟨by decide +kernel, by decide⟩
theorem k_24 : isK 6 24 := ⟨by decide +kernel, by decide⟩
theorem k_25 : isK 1 25 := ⟨by decide +kernel, by decide⟩
theorem k_26 : isK 6 26 := ⟨by decide +kernel, by decide⟩
theorem k_27 : isK 1 27 := ⟨by decide +kernel, by decide⟩
theorem k_28 : isK 6 28 := ⟨by decide +kernel, by decide⟩
theorem k_29 : isK 1 29 := ⟨by decide +kernel, by decide⟩
theorem k_30 : isK 6 30 := ⟨by decide +kernel, by decide⟩
theorem k_31 : isK 1 31 := ⟨by decide +kernel, by decide⟩
theorem k_32 : isK 6 32 := ⟨by decide +kernel, by decide⟩
theorem k_33 : isK 1 33 := ⟨by decide +kernel, by decide⟩
theorem k_34 : isK 6 34 := ⟨by decide +kernel, by decide⟩
theorem k_35 : isK 1 35 := ⟨by decide +kernel, by decide⟩
theorem k_36 : isK 6 36 := ⟨by decide +kernel, by decide⟩
theorem k_37 : isK 1 37 := ⟨by decide +kernel, by decide⟩
theorem k_38 : isK 6 38 := ⟨by decide +kernel, by decide⟩
theorem k_39 : isK 1 39 := ⟨by decide +kernel, by decide⟩
theorem k_40 : isK 6 40 := ⟨by decide +kernel, by decide⟩
theorem k_41 : isK 1 41 := ⟨by decide +kernel, by decide⟩
theorem k_42 : isK 6 42 := ⟨by decide +kernel, by decide⟩
theorem k_43 : isK 0 43 := ⟨by decide +kernel, by decide⟩
theorem k_44 : isK 3 44 := ⟨by decide +kernel, by decide⟩
theorem k_45 : isK 6 45 := ⟨by decide +kernel, by decide⟩
theorem k_46 : isK 6 46 := ⟨by decide +kernel, by decide⟩
theorem k_47 : isK 6 47 := ⟨by decide +kernel, by decide⟩
theorem k_48 : isK 6 48 := ⟨by decide +kernel, by decide⟩
theorem k_49 : isK 6 49 := ⟨by decide +kernel, by decide⟩
theorem k_50 : isK 6 50 := ⟨by decide +kernel, by decide⟩
theorem k_51 : isK 0 51 := ⟨by decide +kernel, by decide⟩
theorem k_52 : isK 3 52 := ⟨by decide +kernel, by decide⟩
theorem k_53 : isK 6 53 := ⟨by decide +kernel, by decide⟩
theorem k_54 : isK 6 54 := ⟨by decide +kernel, by decide⟩
theorem k_55 : isK 6 55 := ⟨by decide +kernel, by decide⟩
theorem k_56 : isK 6 56 := ⟨by decide +kernel, by decide⟩
theorem k_57 : isK 6 57 := ⟨by decide +kernel, by decide⟩
theorem k_58 : isK 6 58 := ⟨by decide +kernel, by decide⟩
theorem k_59 : isK 0 59 := ⟨by decide +kernel, by decide⟩
theorem k_60 : isK 3 60 := ⟨by decide +kernel, by decide⟩
theorem k_61 : isK 6 61 := ⟨by decide +kernel, by decide⟩
theorem k_62 : isK 6 62 := ⟨by decide +kernel, by decide⟩
theorem k_63 : isK 6 63 := ⟨by decide +kernel, by decide⟩
theorem k_64 : isK 6 64 := ⟨by decide +kernel, by decide⟩
theorem k_65 : isK 6 65 := ⟨by decide +kernel, by decide⟩
theorem k_66 : isK 6 66 := ⟨by decide +kernel, by decide⟩
theorem k_67 : isK 5 67 := ⟨by decide +kernel, by decide⟩
theorem k_68 : isK 6 68 := ⟨by decide +kernel, by decide⟩
theorem k_69 : isK 6 69 := ⟨by decide +kernel, by decide⟩
theorem k_70 : isK 6 70 := ⟨by decide +kernel, by decide⟩
theorem k_71 : isK 6 71 := ⟨by decide +kernel, by decide⟩
theorem k_72 : isK 6 72 := ⟨by decide +kernel, by decide⟩
theorem k_73 : isK 6 73 := ⟨by decide +kernel, by decide⟩
theorem k_74 : isK 6 74 := ⟨by decide +kernel, by decide⟩
theorem k_75 : isK 6 75 := ⟨by decide +kernel, by decide⟩
theorem k_76 : isK 6 76 := ⟨by decide +kernel, by decide⟩
theorem k_77 : isK 6 77 := ⟨by decide +kernel, by decide⟩
theorem k_78 : isK 6 78 := ⟨by decide +kernel, by decide⟩
theorem k_79 : isK 6 79 := ⟨by decide +kernel, by decide⟩
theorem k_80 : isK 6 80 := ⟨by decide +kernel, by decide⟩
theorem k_81 : isK 6 81 := ⟨by decide +kernel, by decide⟩
theorem k_82 : isK 7 82 := ⟨by decide +kernel, by decide⟩
theorem k_83 : isK 6 83 := ⟨by decide +kernel, by decide⟩
theorem k_84 : isK 6 84 := ⟨by decide +kernel, by decide⟩
theorem l_1 : m_len 1 = 6 := by decide +kernel
theorem l_2 : m_len 2 = 4 := by decide +kernel
theorem l_5 : m_len 5 = 6 := by decide +kernel
theorem l_6 : m_len 6 = 6 := by decide +kernel
theorem l_7 : m_len 7 = 7 := by decide +kernel
theorem l_8 : m_len 8 = 280 := by decide +kernel
theorem l_9 : m_len 9 = 40 := by decide +kernel
theorem l_10 : m_len 10 = 40 := by decide +kernel
theorem l_11 : m_len 11 = 3 := by decide +kernel
theorem l_13 : m_len 13 = 6 := by decide +kernel
theorem l_14 : m_len 14 = 6 := by decide +kernel
theorem l_15 : m_len 15 = 7 := by decide +kernel
theorem l_17 : m_len 17 = 64 := by decide +kernel
theorem l_18 : m_len 18 = 448 := by decide +kernel
theorem l_19 : m_len 19 = 61 := by decide +kernel
theorem l_20 : m_len 20 = 64 := by decide +kernel
theorem l_21 : m_len 21 = 64 := by decide +kernel
theorem l_22 : m_len 22 = 6 := by decide +kernel
theorem l_24 : m_len 24 = 40 := by decide +kernel
theorem l_26 : m_len 26 = 40 := by decide +kernel
theorem l_28 : m_len 28 = 40 := by decide +kernel
theorem l_30 : m_len 30 = 40 := by decide +kernel
theorem l_32 : m_len 32 = 40 := by decide +kernel
theorem l_34 : m_len 34 = 40 := by decide +kernel
theorem l_36 : m_len 36 = 60 := by decide +kernel
theorem l_38 : m_len 38 = 60 := by decide +kernel
theorem l_40 : m_len 40 = 60 := by decide +kernel
theorem l_42 : m_len 42 = 60 := by decide +kernel
theorem l_45 : m_len 45 = 6 := by decide +kernel
theorem l_46 : m_len 46 = 6 := by decide +kernel
theorem l_47 : m_len 47 = 7 := by decide +kernel
theorem l_48 : m_len 48 = 280 := by decide +kernel
theorem l_49 : m_len 49 = 40 := by decide +kernel
theorem l_50 : m_len 50 = 40 := by decide +kernel
theorem l_53 : m_len 53 = 6 := by decide +kernel
theorem l_54 : m_len 54 = 6 := by decide +kernel
theorem l_55 : m_len 55 = 7 := by decide +kernel
theorem l_56 : m_len 56 = 280 := by decide +kernel
theorem l_57 : m_len 57 = 40 := by decide +kernel
theorem l_58 : m_len 58 = 40 := by decide +kernel
theorem l_61 : m_len 61 = 6 := by decide +kernel
theorem l_62 : m_len 62 = 6 := by decide +kernel
theorem l_63 : m_len 63 = 7 := by decide +kernel
theorem l_64 : m_len 64 = 280 := by decide +kernel
theorem l_65 : m_len 65 = 40 := by decide +kernel
theorem l_66 : m_len 66 = 40 := by decide +kernel
theorem l_68 : m_len 68 = 6 := by decide +kernel
theorem l_69 : m_len 69 = 240 := by decide +kernel
theorem l_70 : m_len 70 = 4 := by decide +kernel
theorem l_71 : m_len 71 = 240 := by decide +kernel
theorem l_72 : m_len 72 = 6 := by decide +kernel
theorem l_73 : m_len 73 = 6 := by decide +kernel
theorem l_74 : m_len 74 = 9 := by decide +kernel
theorem l_75 : m_len 75 = 360 := by decide +kernel
theorem l_76 : m_len 76 = 1110 := by decide +kernel
theorem l_77 : m_len 77 = 6 := by decide +kernel
theorem l_78 : m_len 78 = 6 := by decide +kernel
theorem l_79 : m_len 79 = 6 := by decide +kernel
theorem l_80 : m_len 80 = 9 := by decide +kernel
theorem l_81 : m_len 81 = 9 := by decide +kernel
theorem l_82 : m_len 82 = 64 := by decide +kernel
theorem l_83 : m_len 83 = 448 := by decide +kernel
theorem l_84 : m_len 84 = 2401 := by decide +kernel
section MM
variable {L : Nat} {xs : Nat → Int32} {σ : Nat → Nat → Int32} {τ : Nat → Nat → Int64} {k y pc S : Nat} {ls st : List Value}
theorem mm_0 (h : m_kd k = 0) : mm L xs σ τ k = .inr (0, [.ref (k + 1), .ref (k + 5), .ref (k + 6), .ref (k + 7), .int (σ k 4)]) := by unfold mm m_cell; rw [h]; rfl
theorem mm_1 (h : m_kd k = 1) : mm L xs σ τ k = .inr (1, [.ref (k + 1), .int (σ k 1)]) := by unfold mm m_cell; rw [h]; rfl
theorem mm_2 (h : m_kd k = 2) : mm L xs σ τ k = .inr (2, [.ref (k + 1), .ref (k + 2), .ref (k + 3), .int (σ k 3)]) := by unfold mm m_cell; rw [h]; rfl
theorem mm_3 (h : m_kd k = 3) : mm L xs σ τ k = .inr (3, [.ref (k + 1), .ref (k + 2), .ref (k + 3), .int (σ k 3), .int (σ k 4), .int (σ k 5)]) := by unfold mm m_cell; rw [h]; rfl
theorem mm_4 (h : m_kd k = 4) : mm L xs σ τ k = .inr (4, [.ref 1, .ref 2, .ref 3, .ref 11, .ref 12, .ref 16, .ref 20, .ref 21, .ref 22, .int (σ k 9), .int (σ k 10), .long (τ k 11), .long (τ k 12)]) := by unfold mm m_cell; rw [h]; rfl
theorem mm_5 (h : m_kd k = 5) : mm L xs σ τ k = .inr (5, [.ref 68, .ref 69, .ref 70, .ref 71, .int (σ k 4), .ref 72, .ref 73, .ref 74, .int (σ k 8), .ref 75, .ref 76, .int (σ k 11), .long (τ k 12), .long (τ k 13), .int (σ k 14), .ref 77, .int (σ k 16), .int (σ k 17), .int (σ k 18), .int (σ k 19), .ref 78, .ref 79, .ref 80, .ref 81, .ref 82, .ref 83, .int (σ k 26), .ref 84]) := by unfold mm m_cell; rw [h]; rfl
theorem mm_6 (h : m_kd k = 6) : mm L xs σ τ k = .inl (0, m_len k, .inl (σ k)) := by unfold mm m_cell; rw [h]; rfl
theorem mm_7 (h : m_kd k = 7) : mm L xs σ τ k = .inl (1, m_len k, .inl (σ k)) := by unfold mm m_cell; rw [h]; rfl
theorem m_up_id {α : Type} (f : Nat → α) (k : Nat) : va_up f k (f k) = f := by funext j; by_cases h : j = k <;> simp [va_up, h]
theorem mm_up (f : Nat → Int32) (g : Nat → Int64) : va_up (mm L xs σ τ) k (m_cell L xs k f g) = mm L xs (va_up σ k f) (va_up τ k g) := by
  funext j
  by_cases h : j = k
  · subst h; simp [va_up, mm]
  · simp [va_up, mm, h]
theorem mm_u6 (h : m_kd k = 6) (f : Nat → Int32) : va_up (mm L xs σ τ) k (.inl (0, m_len k, .inl f)) = mm L xs (va_up σ k f) τ := by
  have e := mm_up (L := L) (xs := xs) (σ := σ) (τ := τ) (k := k) f (τ k)
  rw [m_up_id] at e
  rw [← e]; unfold m_cell; rw [h]; rfl
theorem mm_u7 (h : m_kd k = 7) (f : Nat → Int32) : va_up (mm L xs σ τ) k (.inl (1, m_len k, .inl f)) = mm L xs (va_up σ k f) τ := by
  have e := mm_up (L := L) (xs := xs) (σ := σ) (τ := τ) (k := k) f (τ k)
  rw [m_up_id] at e
  rw [← e]; unfold m_cell; rw [h]; rfl
theorem m_upd_id (f : Nat → Int32) (j : Nat) (v : Int32) : va_up f j v = upd f j v := rfl
theorem mm_s0_4 (h : m_kd k = 0) (v : Int32) : va_up (mm L xs σ τ) k (.inr (0, [.ref (k + 1), .ref (k + 5), .ref (k + 6), .ref (k + 7), .int v])) = mm L xs (va_up σ k (upd (σ k) 4 v)) τ := by
  have e := mm_up (L := L) (xs := xs) (σ := σ) (τ := τ) (k := k) (upd (σ k) 4 v) (τ k)
  rw [m_up_id] at e
  rw [← e]; unfold m_cell; rw [h]; rfl
theorem mm_s1_1 (h : m_kd k = 1) (v : Int32) : va_up (mm L xs σ τ) k (.inr (1, [.ref (k + 1), .int v])) = mm L xs (va_up σ k (upd (σ k) 1 v)) τ := by
  have e := mm_up (L := L) (xs := xs) (σ := σ) (τ := τ) (k := k) (upd (σ k) 1 v) (τ k)
  rw [m_up_id] at e
  rw [← e]; unfold m_cell; rw [h]; rfl
theorem mm_s2_3 (h : m_kd k = 2) (v : Int32) : va_up (mm L xs σ τ) k (.inr (2, [.ref (k + 1), .ref (k + 2), .ref (k + 3), .int v])) = mm L xs (va_up σ k (upd (σ k) 3 v)) τ := by
  have e := mm_up (L := L) (xs := xs) (σ := σ) (τ := τ) (k := k) (upd (σ k) 3 v) (τ k)
  rw [m_up_id] at e
  rw [← e]; unfold m_cell; rw [h]; rfl
theorem mm_s3_3 (h : m_kd k = 3) (v : Int32) : va_up (mm L xs σ τ) k (.inr (3, [.ref (k + 1), .ref (k + 2), .ref (k + 3), .int v, .int (σ k 4), .int (σ k 5)])) = mm L xs (va_up σ k (upd (σ k) 3 v)) τ := by
  have e := mm_up (L := L) (xs := xs) (σ := σ) (τ := τ) (k := k) (upd (σ k) 3 v) (τ k)
  rw [m_up_id] at e
  rw [← e]; unfold m_cell; rw [h]; rfl
theorem mm_s3_4 (h : m_kd k = 3) (v : Int32) : va_up (mm L xs σ τ) k (.inr (3, [.ref (k + 1), .ref (k + 2), .ref (k + 3), .int (σ k 3), .int v, .int (σ k 5)])) = mm L xs (va_up σ k (upd (σ k) 4 v)) τ := by
  have e := mm_up (L := L) (xs := xs) (σ := σ) (τ := τ) (k := k) (upd (σ k) 4 v) (τ k)
  rw [m_up_id] at e
  rw [← e]; unfold m_cell; rw [h]; rfl
theorem mm_s3_5 (h : m_kd k = 3) (v : Int32) : va_up (mm L xs σ τ) k (.inr (3, [.ref (k + 1), .ref (k + 2), .ref (k + 3), .int (σ k 3), .int (σ k 4), .int v])) = mm L xs (va_up σ k (upd (σ k) 5 v)) τ := by
  have e := mm_up (L := L) (xs := xs) (σ := σ) (τ := τ) (k := k) (upd (σ k) 5 v) (τ k)
  rw [m_up_id] at e
  rw [← e]; unfold m_cell; rw [h]; rfl
theorem mm_s4_9 (h : m_kd k = 4) (v : Int32) : va_up (mm L xs σ τ) k (.inr (4, [.ref 1, .ref 2, .ref 3, .ref 11, .ref 12, .ref 16, .ref 20, .ref 21, .ref 22, .int v, .int (σ k 10), .long (τ k 11), .long (τ k 12)])) = mm L xs (va_up σ k (upd (σ k) 9 v)) τ := by
  have e := mm_up (L := L) (xs := xs) (σ := σ) (τ := τ) (k := k) (upd (σ k) 9 v) (τ k)
  rw [m_up_id] at e
  rw [← e]; unfold m_cell; rw [h]; rfl
theorem mm_s4_10 (h : m_kd k = 4) (v : Int32) : va_up (mm L xs σ τ) k (.inr (4, [.ref 1, .ref 2, .ref 3, .ref 11, .ref 12, .ref 16, .ref 20, .ref 21, .ref 22, .int (σ k 9), .int v, .long (τ k 11), .long (τ k 12)])) = mm L xs (va_up σ k (upd (σ k) 10 v)) τ := by
  have e := mm_up (L := L) (xs := xs) (σ := σ) (τ := τ) (k := k) (upd (σ k) 10 v) (τ k)
  rw [m_up_id] at e
  rw [← e]; unfold m_cell; rw [h]; rfl
theorem mm_s4_11 (h : m_kd k = 4) (v : Int64) : va_up (mm L xs σ τ) k (.inr (4, [.ref 1, .ref 2, .ref 3, .ref 11, .ref 12, .ref 16, .ref 20, .ref 21, .ref 22, .int (σ k 9), .int (σ k 10), .long v, .long (τ k 12)])) = mm L xs σ (va_up τ k (va_up (τ k) 11 v)) := by
  have e := mm_up (L := L) (xs := xs) (σ := σ) (τ := τ) (k := k) (σ k) (va_up (τ k) 11 v)
  rw [m_up_id] at e
  rw [← e]; unfold m_cell; rw [h]; rfl
theorem mm_s4_12 (h : m_kd k = 4) (v : Int64) : va_up (mm L xs σ τ) k (.inr (4, [.ref 1, .ref 2, .ref 3, .ref 11, .ref 12, .ref 16, .ref 20, .ref 21, .ref 22, .int (σ k 9), .int (σ k 10), .long (τ k 11), .long v])) = mm L xs σ (va_up τ k (va_up (τ k) 12 v)) := by
  have e := mm_up (L := L) (xs := xs) (σ := σ) (τ := τ) (k := k) (σ k) (va_up (τ k) 12 v)
  rw [m_up_id] at e
  rw [← e]; unfold m_cell; rw [h]; rfl
theorem mm_s5_4 (h : m_kd k = 5) (v : Int32) : va_up (mm L xs σ τ) k (.inr (5, [.ref 68, .ref 69, .ref 70, .ref 71, .int v, .ref 72, .ref 73, .ref 74, .int (σ k 8), .ref 75, .ref 76, .int (σ k 11), .long (τ k 12), .long (τ k 13), .int (σ k 14), .ref 77, .int (σ k 16), .int (σ k 17), .int (σ k 18), .int (σ k 19), .ref 78, .ref 79, .ref 80, .ref 81, .ref 82, .ref 83, .int (σ k 26), .ref 84])) = mm L xs (va_up σ k (upd (σ k) 4 v)) τ := by
  have e := mm_up (L := L) (xs := xs) (σ := σ) (τ := τ) (k := k) (upd (σ k) 4 v) (τ k)
  rw [m_up_id] at e
  rw [← e]; unfold m_cell; rw [h]; rfl
theorem mm_s5_8 (h : m_kd k = 5) (v : Int32) : va_up (mm L xs σ τ) k (.inr (5, [.ref 68, .ref 69, .ref 70, .ref 71, .int (σ k 4), .ref 72, .ref 73, .ref 74, .int v, .ref 75, .ref 76, .int (σ k 11), .long (τ k 12), .long (τ k 13), .int (σ k 14), .ref 77, .int (σ k 16), .int (σ k 17), .int (σ k 18), .int (σ k 19), .ref 78, .ref 79, .ref 80, .ref 81, .ref 82, .ref 83, .int (σ k 26), .ref 84])) = mm L xs (va_up σ k (upd (σ k) 8 v)) τ := by
  have e := mm_up (L := L) (xs := xs) (σ := σ) (τ := τ) (k := k) (upd (σ k) 8 v) (τ k)
  rw [m_up_id] at e
  rw [← e]; unfold m_cell; rw [h]; rfl
theorem mm_s5_11 (h : m_kd k = 5) (v : Int32) : va_up (mm L xs σ τ) k (.inr (5, [.ref 68, .ref 69, .ref 70, .ref 71, .int (σ k 4), .ref 72, .ref 73, .ref 74, .int (σ k 8), .ref 75, .ref 76, .int v, .long (τ k 12), .long (τ k 13), .int (σ k 14), .ref 77, .int (σ k 16), .int (σ k 17), .int (σ k 18), .int (σ k 19), .ref 78, .ref 79, .ref 80, .ref 81, .ref 82, .ref 83, .int (σ k 26), .ref 84])) = mm L xs (va_up σ k (upd (σ k) 11 v)) τ := by
  have e := mm_up (L := L) (xs := xs) (σ := σ) (τ := τ) (k := k) (upd (σ k) 11 v) (τ k)
  rw [m_up_id] at e
  rw [← e]; unfold m_cell; rw [h]; rfl
theorem mm_s5_12 (h : m_kd k = 5) (v : Int64) : va_up (mm L xs σ τ) k (.inr (5, [.ref 68, .ref 69, .ref 70, .ref 71, .int (σ k 4), .ref 72, .ref 73, .ref 74, .int (σ k 8), .ref 75, .ref 76, .int (σ k 11), .long v, .long (τ k 13), .int (σ k 14), .ref 77, .int (σ k 16), .int (σ k 17), .int (σ k 18), .int (σ k 19), .ref 78, .ref 79, .ref 80, .ref 81, .ref 82, .ref 83, .int (σ k 26), .ref 84])) = mm L xs σ (va_up τ k (va_up (τ k) 12 v)) := by
  have e := mm_up (L := L) (xs := xs) (σ := σ) (τ := τ) (k := k) (σ k) (va_up (τ k) 12 v)
  rw [m_up_id] at e
  rw [← e]; unfold m_cell; rw [h]; rfl
theorem mm_s5_13 (h : m_kd k = 5) (v : Int64) : va_up (mm L xs σ τ) k (.inr (5, [.ref 68, .ref 69, .ref 70, .ref 71, .int (σ k 4), .ref 72, .ref 73, .ref 74, .int (σ k 8), .ref 75, .ref 76, .int (σ k 11), .long (τ k 12), .long v, .int (σ k 14), .ref 77, .int (σ k 16), .int (σ k 17), .int (σ k 18), .int (σ k 19), .ref 78, .ref 79, .ref 80, .ref 81, .ref 82, .ref 83, .int (σ k 26), .ref 84])) = mm L xs σ (va_up τ k (va_up (τ k) 13 v)) := by
  have e := mm_up (L := L) (xs := xs) (σ := σ) (τ := τ) (k := k) (σ k) (va_up (τ k) 13 v)
  rw [m_up_id] at e
  rw [← e]; unfold m_cell; rw [h]; rfl
theorem mm_s5_14 (h : m_kd k = 5) (v : Int32) : va_up (mm L xs σ τ) k (.inr (5, [.ref 68, .ref 69, .ref 70, .ref 71, .int (σ k 4), .ref 72, .ref 73, .ref 74, .int (σ k 8), .ref 75, .ref 76, .int (σ k 11), .long (τ k 12), .long (τ k 13), .int v, .ref 77, .int (σ k 16), .int (σ k 17), .int (σ k 18), .int (σ k 19), .ref 78, .ref 79, .ref 80, .ref 81, .ref 82, .ref 83, .int (σ k 26), .ref 84])) = mm L xs (va_up σ k (upd (σ k) 14 v)) τ := by
  have e := mm_up (L := L) (xs := xs) (σ := σ) (τ := τ) (k := k) (upd (σ k) 14 v) (τ k)
  rw [m_up_id] at e
  rw [← e]; unfold m_cell; rw [h]; rfl
theorem mm_s5_16 (h : m_kd k = 5) (v : Int32) : va_up (mm L xs σ τ) k (.inr (5, [.ref 68, .ref 69, .ref 70, .ref 71, .int (σ k 4), .ref 72, .ref 73, .ref 74, .int (σ k 8), .ref 75, .ref 76, .int (σ k 11), .long (τ k 12), .long (τ k 13), .int (σ k 14), .ref 77, .int v, .int (σ k 17), .int (σ k 18), .int (σ k 19), .ref 78, .ref 79, .ref 80, .ref 81, .ref 82, .ref 83, .int (σ k 26), .ref 84])) = mm L xs (va_up σ k (upd (σ k) 16 v)) τ := by
  have e := mm_up (L := L) (xs := xs) (σ := σ) (τ := τ) (k := k) (upd (σ k) 16 v) (τ k)
  rw [m_up_id] at e
  rw [← e]; unfold m_cell; rw [h]; rfl
theorem mm_s5_17 (h : m_kd k = 5) (v : Int32) : va_up (mm L xs σ τ) k (.inr (5, [.ref 68, .ref 69, .ref 70, .ref 71, .int (σ k 4), .ref 72, .ref 73, .ref 74, .int (σ k 8), .ref 75, .ref 76, .int (σ k 11), .long (τ k 12), .long (τ k 13), .int (σ k 14), .ref 77, .int (σ k 16), .int v, .int (σ k 18), .int (σ k 19), .ref 78, .ref 79, .ref 80, .ref 81, .ref 82, .ref 83, .int (σ k 26), .ref 84])) = mm L xs (va_up σ k (upd (σ k) 17 v)) τ := by
  have e := mm_up (L := L) (xs := xs) (σ := σ) (τ := τ) (k := k) (upd (σ k) 17 v) (τ k)
  rw [m_up_id] at e
  rw [← e]; unfold m_cell; rw [h]; rfl
theorem mm_s5_18 (h : m_kd k = 5) (v : Int32) : va_up (mm L xs σ τ) k (.inr (5, [.ref 68, .ref 69, .ref 70, .ref 71, .int (σ k 4), .ref 72, .ref 73, .ref 74, .int (σ k 8), .ref 75, .ref 76, .int (σ k 11), .long (τ k 12), .long (τ k 13), .int (σ k 14), .ref 77, .int (σ k 16), .int (σ k 17), .int v, .int (σ k 19), .ref 78, .ref 79, .ref 80, .ref 81, .ref 82, .ref 83, .int (σ k 26), .ref 84])) = mm L xs (va_up σ k (upd (σ k) 18 v)) τ := by
  have e := mm_up (L := L) (xs := xs) (σ := σ) (τ := τ) (k := k) (upd (σ k) 18 v) (τ k)
  rw [m_up_id] at e
  rw [← e]; unfold m_cell; rw [h]; rfl
theorem mm_s5_19 (h : m_kd k = 5) (v : Int32) : va_up (mm L xs σ τ) k (.inr (5, [.ref 68, .ref 69, .ref 70, .ref 71, .int (σ k 4), .ref 72, .ref 73, .ref 74, .int (σ k 8), .ref 75, .ref 76, .int (σ k 11), .long (τ k 12), .long (τ k 13), .int (σ k 14), .ref 77, .int (σ k 16), .int (σ k 17), .int (σ k 18), .int v, .ref 78, .ref 79, .ref 80, .ref 81, .ref 82, .ref 83, .int (σ k 26), .ref 84])) = mm L xs (va_up σ k (upd (σ k) 19 v)) τ := by
  have e := mm_up (L := L) (xs := xs) (σ := σ) (τ := τ) (k := k) (upd (σ k) 19 v) (τ k)
  rw [m_up_id] at e
  rw [← e]; unfold m_cell; rw [h]; rfl
theorem mm_s5_26 (h : m_kd k = 5) (v : Int32) : va_up (mm L xs σ τ) k (.inr (5, [.ref 68, .ref 69, .ref 70, .ref 71, .int (σ k 4), .ref 72, .ref 73, .ref 74, .int (σ k 8), .ref 75, .ref 76, .int (σ k 11), .long (τ k 12), .long (τ k 13), .int (σ k 14), .ref 77, .int (σ k 16), .int (σ k 17), .int (σ k 18), .int (σ k 19), .ref 78, .ref 79, .ref 80, .ref 81, .ref 82, .ref 83, .int v, .ref 84])) = mm L xs (va_up σ k (upd (σ k) 26 v)) τ := by
  have e := mm_up (L := L) (xs := xs) (σ := σ) (τ := τ) (k := k) (upd (σ k) 26 v) (τ k)
  rw [m_up_id] at e
  rw [← e]; unfold m_cell; rw [h]; rfl
noncomputable def ifb {α : Type} (j : Int32) (n : Nat) (a b : α) : α := @ite _ (inb j n) (Classical.propDecidable _) a b
theorem ifb_t {α : Type} {j : Int32} {n : Nat} {a b : α} (h : inb j n) : ifb j n a b = a := if_pos h
theorem ifb_f {α : Type} {j : Int32} {n : Nat} {a b : α} (h : ¬ inb j n) : ifb j n a b = b := if_neg h
theorem mx_iald {a : Nat} {j : Int32} (h : pm_in y pc = some (.iaload, 1)) (hk : isK 6 a) : pX y pc ls (.int j :: .ref a :: st) (mm L xs σ τ) 85 S = ifb j (m_len a) (pX y (pc + 1) ls (.int (σ a j.toNatClampNeg) :: st) (mm L xs σ τ) 85 S) none := by
  by_cases hj : inb j (m_len a)
  · rw [ifb_t hj]; exact x_iald h (mm_6 hk.1) (Or.inl hk.2) hj
  · rw [ifb_f hj]
    refine pX_no ((x_st h).trans ?_)
    rw [o_iaload]; unfold pm_iald; (try dsimp only); rw [mm_6 hk.1]; exact if_neg (fun q => hj q.2)
theorem mx_iast {a : Nat} {j v : Int32} (h : pm_in y pc = some (.iastore, 1)) (hk : isK 6 a) : pX y pc ls (.int v :: .int j :: .ref a :: st) (mm L xs σ τ) 85 S = ifb j (m_len a) (pX y (pc + 1) ls st (mm L xs (va_up σ a (upd (σ a) j.toNatClampNeg v)) τ) 85 S) none := by
  by_cases hj : inb j (m_len a)
  · rw [ifb_t hj, ← mm_u6 hk.1]; exact x_iast h (mm_6 hk.1) hk.2 hj
  · rw [ifb_f hj]
    refine pX_no ((x_st h).trans ?_)
    rw [o_iastore]; unfold pm_iast; (try dsimp only); rw [mm_6 hk.1]; exact if_neg (fun q => hj q.2)
theorem mx_bald {a : Nat} {j : Int32} (h : pm_in y pc = some (.baload, 1)) (hk : isK 7 a) : pX y pc ls (.int j :: .ref a :: st) (mm L xs σ τ) 85 S = ifb j (m_len a) (pX y (pc + 1) ls (.int (σ a j.toNatClampNeg) :: st) (mm L xs σ τ) 85 S) none := by
  by_cases hj : inb j (m_len a)
  · rw [ifb_t hj]; exact x_bald h (mm_7 hk.1) hk.2 hj
  · rw [ifb_f hj]
    refine pX_no ((x_st h).trans ?_)
    rw [o_baload]; unfold pm_bald; (try dsimp only); rw [mm_7 hk.1]; exact if_neg (fun q => hj q.2)
theorem mx_bast {a : Nat} {j v : Int32} (h : pm_in y pc = some (.bastore, 1)) (hk : isK 7 a) : pX y pc ls (.int v :: .int j :: .ref a :: st) (mm L xs σ τ) 85 S = ifb j (m_len a) (pX y (pc + 1) ls st (mm L xs (va_up σ a (upd (σ a) j.toNatClampNeg (vp_nar .boolean v))) τ) 85 S) none := by
  by_cases hj : inb j (m_len a)
  · rw [ifb_t hj, ← mm_u7 hk.1]; exact x_bast h (mm_7 hk.1) hk.2 hj
  · rw [ifb_f hj]
    refine pX_no ((x_st h).trans ?_)
    rw [o_bastore]; unfold pm_bast; (try dsimp only); rw [mm_7 hk.1]; exact if_neg (fun q => hj q.2)
theorem mx_aald {a c n t r0 d : Nat} {f : Nat → Option Nat} {j : Int32} (h : pm_in y pc = some (.aaload, 1)) (ha : a < 85) (ht : t = 2 ∨ t = 3) (hM : mm L xs σ τ a = .inl (t, n, .inr (.inr (.inr (.inr f))))) (hf : ∀ r, r < n → f r = some (r0 + d * r)) : pX y pc ls (.int j :: .ref a :: st) (mm L xs σ τ) 85 S = ifb j n (pX y (pc + 1) ls (.ref (r0 + d * j.toNatClampNeg) :: st) (mm L xs σ τ) 85 S) none := by
  by_cases hj : inb j n
  · rw [ifb_t hj]
    have hlt : j.toNatClampNeg < n := Nat.not_le.mp (fun q => hj (Or.inr q))
    exact x_aald h hM ha ht hj (by rw [hf _ hlt]; rfl)
  · rw [ifb_f hj]
    refine pX_no ((x_st h).trans ?_)
    rw [o_aaload]; unfold pm_aald; (try dsimp only); rw [hM]; (try dsimp only); exact if_neg (fun q => hj q.2.2)
theorem mx_aald1 {j : Int32} (h : pm_in y pc = some (.aaload, 1)) : pX y pc ls (.int j :: .ref 1 :: st) (mm L xs σ τ) 85 S = ifb j 6 (pX y (pc + 1) ls (.ref (23 + 2 * j.toNatClampNeg) :: st) (mm L xs σ τ) 85 S) none := mx_aald (c := 0) (n := 6) (t := 2) (f := fun r => if r < 6 then some (23 + 2 * r) else none) h (by decide) (Or.inl rfl) (by unfold mm m_cell; rw [k_1.1]; rfl) (fun r hr => if_pos hr)
theorem mx_aald2 {j : Int32} (h : pm_in y pc = some (.aaload, 1)) : pX y pc ls (.int j :: .ref 2 :: st) (mm L xs σ τ) 85 S = ifb j 4 (pX y (pc + 1) ls (.ref (35 + 2 * j.toNatClampNeg) :: st) (mm L xs σ τ) 85 S) none := mx_aald (c := 0) (n := 4) (t := 2) (f := fun r => if r < 4 then some (35 + 2 * r) else none) h (by decide) (Or.inl rfl) (by unfold mm m_cell; rw [k_2.1]; rfl) (fun r hr => if_pos hr)
theorem mx_aald11 {j : Int32} (h : pm_in y pc = some (.aaload, 1)) : pX y pc ls (.int j :: .ref 11 :: st) (mm L xs σ τ) 85 S = ifb j 3 (pX y (pc + 1) ls (.ref (43 + 8 * j.toNatClampNeg) :: st) (mm L xs σ τ) 85 S) none := mx_aald (c := 0) (n := 3) (t := 3) (f := fun r => if r < 3 then some (43 + 8 * r) else none) h (by decide) (Or.inr rfl) (by unfold mm m_cell; rw [k_11.1]; rfl) (fun r hr => if_pos hr)
theorem mx_alen {a : Nat} (h : pm_in y pc = some (.arraylength, 1)) (hk : isK 6 a) : pX y pc ls (.ref a :: st) (mm L xs σ τ) 85 S = pX y (pc + 1) ls (.int (nI (m_len a)) :: st) (mm L xs σ τ) 85 S := x_alen h (mm_6 hk.1) (Or.inl ⟨hk.2, by decide⟩) rfl
theorem mx_alen1 (h : pm_in y pc = some (.arraylength, 1)) : pX y pc ls (.ref 1 :: st) (mm L xs σ τ) 85 S = pX y (pc + 1) ls (.int 6 :: st) (mm L xs σ τ) 85 S := x_alen (n := 6) (t := 2) (f := .inr (.inr (.inr (.inr (fun r => if r < 6 then some (23 + 2 * r) else none))))) h (by unfold mm m_cell; rw [k_1.1]; rfl) (Or.inl ⟨by decide, by decide⟩) rfl
theorem mx_alen2 (h : pm_in y pc = some (.arraylength, 1)) : pX y pc ls (.ref 2 :: st) (mm L xs σ τ) 85 S = pX y (pc + 1) ls (.int 4 :: st) (mm L xs σ τ) 85 S := x_alen (n := 4) (t := 2) (f := .inr (.inr (.inr (.inr (fun r => if r < 4 then some (35 + 2 * r) else none))))) h (by unfold mm m_cell; rw [k_2.1]; rfl) (Or.inl ⟨by decide, by decide⟩) rfl
theorem mx_alen11 (h : pm_in y pc = some (.arraylength, 1)) : pX y pc ls (.ref 11 :: st) (mm L xs σ τ) 85 S = pX y (pc + 1) ls (.int 3 :: st) (mm L xs σ τ) 85 S := x_alen (n := 3) (t := 3) (f := .inr (.inr (.inr (.inr (fun r => if r < 3 then some (43 + 8 * r) else none))))) h (by unfold mm m_cell; rw [k_11.1]; rfl) (Or.inl ⟨by decide, by decide⟩) rfl
theorem mm_r0 : mm L xs σ τ 1000 = .inl (0, 6, .inl pm_let) := by unfold mm m_cell; rw [show m_kd 1000 = 11 from by decide +kernel]; rfl
theorem mm_r1 : mm L xs σ τ 1001 = .inl (0, 6, .inl pm_kab) := by unfold mm m_cell; rw [show m_kd 1001 = 12 from by decide +kernel]; rfl
theorem mm_r2 : mm L xs σ τ 1002 = .inl (0, L, .inl xs) := by unfold mm m_cell; rw [show m_kd 1002 = 13 from by decide +kernel]; rfl
theorem mx_alenR (h : pm_in y pc = some (.arraylength, 1)) : pX y pc ls (.ref 1000 :: st) (mm L xs σ τ) 85 S = pX y (pc + 1) ls (.int 6 :: st) (mm L xs σ τ) 85 S := x_alen h mm_r0 (Or.inr ⟨by decide, by decide⟩) rfl
theorem mx_alenS (h : pm_in y pc = some (.arraylength, 1)) : pX y pc ls (.ref 1002 :: st) (mm L xs σ τ) 85 S = pX y (pc + 1) ls (.int (nI L) :: st) (mm L xs σ τ) 85 S := x_alen h mm_r2 (Or.inr ⟨by decide, by decide⟩) rfl
theorem mx_ialdR {j : Int32} (h : pm_in y pc = some (.iaload, 1)) (hj : inb j 6) : pX y pc ls (.int j :: .ref 1000 :: st) (mm L xs σ τ) 85 S = pX y (pc + 1) ls (.int (pm_let j.toNatClampNeg) :: st) (mm L xs σ τ) 85 S := x_iald h mm_r0 (Or.inr ⟨by decide, by decide⟩) hj
theorem mx_ialdK {j : Int32} (h : pm_in y pc = some (.iaload, 1)) (hj : inb j 6) : pX y pc ls (.int j :: .ref 1001 :: st) (mm L xs σ τ) 85 S = pX y (pc + 1) ls (.int (pm_kab j.toNatClampNeg) :: st) (mm L xs σ τ) 85 S := x_iald h mm_r1 (Or.inr ⟨by decide, by decide⟩) hj
theorem mx_ialdS {j : Int32} (h : pm_in y pc = some (.iaload, 1)) (hj : inb j L) : pX y pc ls (.int j :: .ref 1002 :: st) (mm L xs σ τ) 85 S = pX y (pc + 1) ls (.int (xs j.toNatClampNeg) :: st) (mm L xs σ τ) 85 S := x_iald h mm_r2 (Or.inr ⟨by decide, by decide⟩) hj
def cpk (a0 a1 : Nat) (sp dp n : Int32) : Prop := ¬ sp < 0 ∧ ¬ dp < 0 ∧ ¬ n < 0 ∧ sp.toNatClampNeg + n.toNatClampNeg ≤ m_len a0 ∧ dp.toNatClampNeg + n.toNatClampNeg ≤ m_len a1
theorem mx_copy {x a0 a1 q1 q2 : Nat} {sp dp n : Int32} (h : pm_in y pc = some (.invokestatic x, 3)) (hl : pm_lk (pm_yO y) x pm_mlT = some (9, q1, q2)) (hr : pm_rb y 40 = true) (h0 : isK 6 a0) (h1 : isK 6 a1) (hc : cpk a0 a1 sp dp n) : pX y pc ls [.int n, .int dp, .ref a1, .int sp, .ref a0] (mm L xs σ τ) 85 S = pX y (pc + 3) ls [] (mm L xs (va_up σ a1 (va_cpy (σ a0) (σ a1) sp.toNatClampNeg dp.toNatClampNeg n.toNatClampNeg)) τ) 85 S := by
  rw [← mm_u6 h1.1]
  exact x_copy h hl (mm_6 h0.1) (mm_6 h1.1) ⟨h0.2, h1.2, hc.1, hc.2.1, hc.2.2.1, hc.2.2.2.1, hc.2.2.2.2, by decide, hr⟩
end MM
/-- what comes behind a call -/
noncomputable def pK (o : Option pm_Rs) (y pc : Nat) (ls st : List Value) (N S : Nat) : Option pm_Rs := match o with
  | none => none
  | some r => bif Nat.beq r.2.2.1 N || (pm_okL N ls && pm_okL N st) then pX y pc ls (r.1.toList ++ st) r.2.1 r.2.2.1 r.2.2.2 else none
theorem pK_i {v : Int32} {M : pm_M} {y pc N S : Nat} {ls st : List Value} : pK (some (some (.int v), M, N, S)) y pc ls st N S = pX y pc ls (.int v :: st) M N S := by unfold pK; dsimp only; rw [show Nat.beq N N = true from Nat.beq_refl N]; rfl
theorem pK_l {v : Int64} {M : pm_M} {y pc N S : Nat} {ls st : List Value} : pK (some (some (.long v), M, N, S)) y pc ls st N S = pX y pc ls (.long v :: st) M N S := by unfold pK; dsimp only; rw [show Nat.beq N N = true from Nat.beq_refl N]; rfl
theorem pK_v {M : pm_M} {y pc N S : Nat} {ls st : List Value} : pK (some (none, M, N, S)) y pc ls st N S = pX y pc ls st M N S := by unfold pK; dsimp only; rw [show Nat.beq N N = true from Nat.beq_refl N]; rfl
theorem pX_caK {y pc y' pc' : Nat} {ls st as st' : List Value} {M : pm_M} {N S : Nat} (h : pm_step y pc ls st M N = pm_ca y' as pc' st') (hsp : Nat.ble (pm_sp as).length (pm_yL y') = true) : pX y pc ls st M N S = pK (pX y' 0 (pm_ent y' as) [] M N S) y pc' ls st' N S := by
  cases hc : pX y' 0 (pm_ent y' as) [] M N S with
  | none =>
    refine pX_ext (fun R hR => ?_) (fun R hR => by cases hR)
    obtain ⟨n, hn⟩ := pX_ex hR
    cases n with
    | zero => cases hn
    | succ n =>
      rw [pm_ex, h] at hn
      replace hn : (match pm_ex n y' 0 (pm_ent y' as) [] M N S with | none => none | some r => bif Nat.ble (pm_sp as).length (pm_yL y') && (Nat.beq r.2.2.1 N || (pm_okL N ls && pm_okL N st')) then pm_ex n y pc' ls (r.1.toList ++ st') r.2.1 r.2.2.1 r.2.2.2 else none) = some R := hn
      cases h1 : pm_ex n y' 0 (pm_ent y' as) [] M N S with
      | none => rw [h1] at hn; cases hn
      | some r => exact absurd ((pX_of h1).symm.trans hc) (by simp)
  | some r =>
    obtain ⟨n1, h1⟩ := pX_ex hc
    have key : ∀ n, n1 ≤ n → pm_ex (n + 1) y pc ls st M N S = bif Nat.beq r.2.2.1 N || (pm_okL N ls && pm_okL N st') then pm_ex n y pc' ls (r.1.toList ++ st') r.2.1 r.2.2.1 r.2.2.2 else none := fun n hn => by
      rw [pm_ex, h]
      show (match pm_ex n y' 0 (pm_ent y' as) [] M N S with | none => none | some r => bif Nat.ble (pm_sp as).length (pm_yL y') && (Nat.beq r.2.2.1 N || (pm_okL N ls && pm_okL N st')) then pm_ex n y pc' ls (r.1.toList ++ st') r.2.1 r.2.2.1 r.2.2.2 else none) = _
      rw [pm_ex_mono hn h1]
      show (bif Nat.ble (pm_sp as).length (pm_yL y') && (Nat.beq r.2.2.1 N || (pm_okL N ls && pm_okL N st')) then pm_ex n y pc' ls (r.1.toList ++ st') r.2.1 r.2.2.1 r.2.2.2 else none) = _
      rw [hsp, Bool.true_and]
    unfold pK
    dsimp only
    cases hb : (Nat.beq r.2.2.1 N || (pm_okL N ls && pm_okL N st')) with
    | false =>
      refine pX_ext (fun R hR => ?_) (fun R hR => by cases hR)
      obtain ⟨n, hn⟩ := pX_ex hR
      have h2 := pm_ex_mono (show n ≤ max n n1 + 1 by omega) hn
      rw [key _ (Nat.le_max_right n n1), hb] at h2
      cases h2
    | true =>
      refine pX_ext (fun R hR => ?_) (fun R hR => ?_)
      · obtain ⟨n, hn⟩ := pX_ex hR
        have h2 := pm_ex_mono (show n ≤ max n n1 + 1 by omega) hn
        rw [key _ (Nat.le_max_right n n1), hb] at h2
        exact pX_of h2
      · obtain ⟨n, hn⟩ := pX_ex hR
        have h2 := pm_ex_mono (Nat.le_max_left n n1) hn
        refine pX_of (n := max n n1 + 1) ?_
        rw [key _ (Nat.le_max_right n n1), hb]
        exact h2
theorem c_V {y pc x y' k b ci : Nat} {ls st as st' fs en : List Value} {M : pm_M} {N S : Nat} (h : pm_in y pc = some (.invokevirtual x, 3)) (hl : pm_lk (pm_yO y) x pm_mlT = some (0, y', k)) (hdr : st.drop k = .ref b :: st') (hM : M b = .inr (ci, fs)) (hb : b < N) (hci : pm_ow ci = pm_yO y' ∧ ci < 6) (hlen : (st.take k).length = k) (hrm : pm_rm y y' = true) (hct : pm_ct st' ≤ 8) (has : (st.take k).reverse = as) (hsp : Nat.ble (pm_sp (.ref b :: as)).length (pm_yL y') = true) (hen : pm_ent y' (.ref b :: as) = en) : pX y pc ls st M N S = pK (pX y' 0 en [] M N S) y (pc + 3) ls st' N S := by
  subst has; subst hen
  refine pX_caK ((x_st h).trans ?_) hsp
  rw [o_invokevirtual, hl]; show pm_callV y pc y' k st M N = _; unfold pm_callV; rw [hdr]; dsimp only; rw [hM]; exact if_pos ⟨hb, hci, hlen, hrm, hct⟩
theorem c_S {y pc x y' k kd : Nat} {ls st as st' en : List Value} {M : pm_M} {N S : Nat} (h : pm_in y pc = some (.invokestatic x, 3)) (hl : pm_lk (pm_yO y) x pm_mlT = some (kd, y', k)) (hkd : kd = 1 ∨ kd = 3) (hlen : (st.take k).length = k) (hrm : pm_rm y y' = true) (hd : st.drop k = st') (hct : pm_ct st' ≤ 8) (has : (st.take k).reverse = as) (hsp : Nat.ble (pm_sp as).length (pm_yL y') = true) (hen : pm_ent y' as = en) : pX y pc ls st M N S = pK (pX y' 0 en [] M N S) y (pc + 3) ls st' N S := by
  subst has; subst hen; subst hd
  refine pX_caK ((x_st h).trans ?_) hsp
  rw [o_invokestatic, hl]
  rcases hkd with rfl | rfl
  · show pm_callS y pc y' k st = _; exact if_pos ⟨hlen, hrm, hct⟩
  · show pm_callS y pc y' k st = _; exact if_pos ⟨hlen, hrm, hct⟩
theorem c_I {y pc x y' k kd b : Nat} {ls st as st' en : List Value} {M : pm_M} {N S : Nat} (h : pm_in y pc = some (.invokespecial x, 3)) (hl : pm_lk (pm_yO y) x pm_mlT = some (kd, y', k)) (hkd : kd = 2 ∨ kd = 4) (hdr : st.drop k = .ref b :: st') (hlen : (st.take k).length = k) (hrm : pm_rm y y' = true) (hct : pm_ct st' ≤ 8) (hR : pm_yR y' = none) (hnm : (pm_yN y').name = "<init>") (has : (st.take k).reverse = as) (hsp : Nat.ble (pm_sp (.ref b :: as)).length (pm_yL y') = true) (hen : pm_ent y' (.ref b :: as) = en) : pX y pc ls st M N S = pK (pX y' 0 en [] M N S) y (pc + 3) ls st' N S := by
  subst has; subst hen
  refine pX_caK ((x_st h).trans ?_) hsp
  rw [o_invokespecial, hl]
  rcases hkd with rfl | rfl
  · show pm_callI y pc y' k st = _; unfold pm_callI; rw [hdr]; exact if_pos ⟨hlen, hrm, hct, hR, hnm⟩
  · show pm_callI y pc y' k st = _; unfold pm_callI; rw [hdr]; exact if_pos ⟨hlen, hrm, hct, hR, hnm⟩
