/-! TEXTS: what is read; the program's half -/
def cbq (w : Nat → Int32) (m p : Nat) : Int32 := if p < m then w p else 0
def fgf (x : Int32) : Int32 := if x - 48 < 0 then -9 else if 9 < x - 48 then -9 else x - 48
def fgq (w : Nat → Int32) (m p : Nat) : Int32 := if p < m then fgf (w p) else -9
def kdf (x : Int32) : Int32 := if x = 103 then 0 else if x = 115 then 1 else if x = 112 then 2 else if x = 119 then 3 else if x = 108 then 4 else if x = 101 then 5 else -9
def kdq (w : Nat → Int32) (m p : Nat) : Int32 := if p < m then kdf (w p) else -9
def lvf (w : Nat → Int32) (m p : Nat) : Int32 := 10 * fgq w m p + fgq w m (p + 1)
def lfq (w : Nat → Int32) (m p : Nat) : Int32 := if fgq w m p = -9 then nI p else if fgq w m (p + 1) = -9 then nI (p + 1) else if 60 < lvf w m p then nI p else -9
def gfq (w : Nat → Int32) (m p : Nat) : Int32 := if kdq w m p = -9 then nI p else if fgq w m (p + 1) < 1 then nI (p + 1) else if fgq w m (p + 2) = 0 ∨ fgq w m (p + 2) = 1 then lfq w m (p + 3) else nI (p + 2)
def bbf (w : Nat → Int32) (m : Nat) : Nat → Nat → Nat
  | 0, p => p
  | f + 1, p => if p < m ∧ w p = 32 then bbf w m f (p + 1) else p
def bbq (w : Nat → Int32) (m p : Nat) : Nat := bbf w m 61 p
def psq (w : Nat → Int32) (m q0 : Nat) : Nat → Nat
  | 0 => q0
  | i + 1 => bbq w m (psq w m q0 i + 5)
/-- what the gates come to: n more may come, i have -/
def rvq (w : Nat → Int32) (m q0 : Nat) : Nat → Nat → Int32
  | 0, i => if psq w m q0 i < m then nI (psq w m q0 i) else if i = 0 then nI (psq w m q0 i) else -9
  | n + 1, i => if psq w m q0 i < m then (if gfq w m (psq w m q0 i) = -9 then rvq w m q0 n (i + 1) else gfq w m (psq w m q0 i)) else if i = 0 then nI (psq w m q0 i) else -9
def gcq (w : Nat → Int32) (m q0 : Nat) : Nat → Nat → Nat
  | 0, i => i
  | n + 1, i => if psq w m q0 i < m then gcq w m q0 n (i + 1) else i
def orq (w : Nat → Int32) (m q0 : Nat) : Nat → Int32
  | 0 => 0
  | i + 1 => orq w m q0 i ||| (fgq w m (psq w m q0 i + 2) <<< (nI i &&& 31))
theorem bbf_le {w : Nat → Int32} {m : Nat} : ∀ f p, p ≤ bbf w m f p ∧ (p ≤ m → bbf w m f p ≤ m) := by
  intro f
  induction f with
  | zero => intro p; exact ⟨Nat.le_refl _, fun h => h⟩
  | succ f ih =>
    intro p
    show p ≤ (if p < m ∧ w p = 32 then bbf w m f (p + 1) else p) ∧ (p ≤ m → (if p < m ∧ w p = 32 then bbf w m f (p + 1) else p) ≤ m)
    by_cases h : p < m ∧ w p = 32
    · rw [if_pos h]
      obtain ⟨a, b⟩ := ih (p + 1)
      exact ⟨by omega, fun _ => b (by omega)⟩
    · rw [if_neg h]; exact ⟨Nat.le_refl _, fun h => h⟩
theorem nI_9n {p : Nat} (h : p ≤ 5000) : ¬ nI p = -9 := fun e => nI_pos (n := p) (by omega) (by rw [e]; decide)
theorem fgq_p {w : Nat → Int32} {m p : Nat} (h : ¬ fgq w m p = -9) : p < m := by
  apply Classical.byContradiction
  intro q
  exact h (if_neg q)
theorem lfq_p {w : Nat → Int32} {m p : Nat} (hp : p ≤ 200) (h : lfq w m p = -9) : p + 2 ≤ m ∧ ¬ fgq w m p = -9 ∧ ¬ fgq w m (p + 1) = -9 ∧ ¬ 60 < lvf w m p := by
  unfold lfq at h
  by_cases h1 : fgq w m p = -9
  · rw [if_pos h1] at h; exact absurd h (nI_9n (by omega))
  · rw [if_neg h1] at h
    by_cases h2 : fgq w m (p + 1) = -9
    · rw [if_pos h2] at h; exact absurd h (nI_9n (by omega))
    · rw [if_neg h2] at h
      by_cases h3 : 60 < lvf w m p
      · rw [if_pos h3] at h; exact absurd h (nI_9n (by omega))
      · have := fgq_p h2
        exact ⟨by omega, h1, h2, h3⟩
theorem gfq_p {w : Nat → Int32} {m p : Nat} (hp : p ≤ 100) (h : gfq w m p = -9) : p + 5 ≤ m ∧ ¬ kdq w m p = -9 ∧ ¬ fgq w m (p + 1) < 1 ∧ (fgq w m (p + 2) = 0 ∨ fgq w m (p + 2) = 1) ∧ lfq w m (p + 3) = -9 := by
  unfold gfq at h
  by_cases h1 : kdq w m p = -9
  · rw [if_pos h1] at h; exact absurd h (nI_9n (by omega))
  · rw [if_neg h1] at h
    by_cases h2 : fgq w m (p + 1) < 1
    · rw [if_pos h2] at h; exact absurd h (nI_9n (by omega))
    · rw [if_neg h2] at h
      by_cases h3 : fgq w m (p + 2) = 0 ∨ fgq w m (p + 2) = 1
      · rw [if_pos h3] at h
        have := (lfq_p (by omega) h).1
        exact ⟨by omega, h1, h2, h3, h⟩
      · rw [if_neg h3] at h; exact absurd h (nI_9n (by omega))
theorem ps_le {w : Nat → Int32} {m q0 i : Nat} (hm : m ≤ 60) (h : gfq w m (psq w m q0 i) = -9) (hp : psq w m q0 i ≤ 60) : psq w m q0 (i + 1) ≤ m := (bbf_le 61 (psq w m q0 i + 5)).2 (gfq_p (by omega) h).1
theorem let_kd {x : Int32} {j : Nat} (hj : j < 6) (h : pm_let j = x) : kdf x = nI j := by
  subst h
  have key : ∀ j, j < 6 → kdf (pm_let j) = nI j := by decide
  exact key j hj
theorem let_no {x : Int32} (h : ∀ j, j < 6 → ¬ pm_let j = x) : kdf x = -9 := by
  unfold kdf
  rw [if_neg (fun e => h 0 (by decide) e.symm), if_neg (fun e => h 1 (by decide) e.symm), if_neg (fun e => h 2 (by decide) e.symm), if_neg (fun e => h 3 (by decide) e.symm), if_neg (fun e => h 4 (by decide) e.symm), if_neg (fun e => h 5 (by decide) e.symm)]
section DY
variable {L : Nat} {xs : Nat → Int32} {σ : Nat → Nat → Int32} {τ : Nat → Nat → Int64} {S g d k m p : Nat} {w : Nat → Int32}
def txt (w : Nat → Int32) (k m : Nat) (σ : Nat → Nat → Int32) : Prop := k < 4 ∧ m ≤ 60 ∧ σ (35 + 2 * k) 1 = nI m ∧ ∀ i, i < 60 → σ (35 + 2 * k + 1) i = w i
theorem txt_a {e : Nat → Nat → Int32} (h : txt w k m σ) (a : agr σ e) : txt w k m e := by
  obtain ⟨h1, h2, h3, h4⟩ := h
  refine ⟨h1, h2, ?_, ?_⟩
  · rw [a.1 (35 + 2 * k) (by unfold scr; omega) (by omega)]; exact h3
  · rw [a.1 (35 + 2 * k + 1) (by unfold scr; omega) (by omega)]; exact h4
theorem s1_byteAt (h : txt w k m σ) (hp : p ≤ 200) : pX 7 0 [.ref (35 + 2 * k), .int (nI p)] [] (mm L xs σ τ) 85 S = some (some (.int (cbq w m p)), mm L xs σ τ, 85, S) := by
  obtain ⟨hk, hm, hz, hw⟩ := h
  have q : ¬ nI p < 0 := nI_pos (by omega)
  unfold cbq
  by_cases h1 : p < m
  · rw [if_pos h1, ← hw p (by omega)]
    simp only [Nat.reduceAdd, i1_byteAt_0, i1_byteAt_1, i1_byteAt_4, i1_byteAt_5, i1_byteAt_6, i1_byteAt_9, i1_byteAt_12, i1_byteAt_13, i1_byteAt_15, i1_byteAt_18, i1_byteAt_19, i1_byteAt_22, i1_byteAt_23, i1_byteAt_24, i1_byteAt_27, i1_byteAt_28, te_k hk, te_p hk, te_l hk, hz, q, nlt h1 (by omega), show (nI p < 60) = True from nlt (b := 60) (by omega) (by decide), ifb_i (show p < 60 by omega) (by decide), cl (show p ≤ 5000 by omega), if_true, if_false, not_true_eq_false, not_false_eq_true, true_or, or_true]
  · rw [if_neg h1]
    simp only [Nat.reduceAdd, i1_byteAt_0, i1_byteAt_1, i1_byteAt_4, i1_byteAt_5, i1_byteAt_6, i1_byteAt_9, i1_byteAt_12, i1_byteAt_13, i1_byteAt_15, i1_byteAt_18, i1_byteAt_19, i1_byteAt_22, i1_byteAt_23, i1_byteAt_24, i1_byteAt_27, i1_byteAt_28, te_k hk, hz, q, nnl (show m ≤ p by omega) (by omega), if_true, if_false, not_true_eq_false, not_false_eq_true, true_or, or_true]
theorem s1_figureAt (h : txt w k m σ) (hp : p ≤ 200) : pX 8 0 [.ref (35 + 2 * k), .int (nI p), .null] [] (mm L xs σ τ) 85 S = some (some (.int (fgq w m p)), mm L xs σ τ, 85, S) := by
  have e : fgq w m p = fgf (cbq w m p) := by
    unfold fgq cbq
    split
    · rfl
    · decide
  rw [e]
  unfold fgf
  by_cases h1 : cbq w m p - 48 < 0
  · rw [if_pos h1]
    simp only [Nat.reduceAdd, i1_figureAt_0, i1_figureAt_1, i1_figureAt_2, i1_figureAt_5, i1_figureAt_7, i1_figureAt_8, i1_figureAt_9, i1_figureAt_10, i1_figureAt_13, i1_figureAt_14, i1_figureAt_16, i1_figureAt_19, i1_figureAt_20, i1_figureAt_23, i1_figureAt_25, s1_byteAt h hp, pK_i, h1, if_true, if_false, not_true_eq_false, not_false_eq_true, true_or, or_true]
  · by_cases h2 : 9 < cbq w m p - 48
    · rw [if_neg h1, if_pos h2]
      simp only [Nat.reduceAdd, i1_figureAt_0, i1_figureAt_1, i1_figureAt_2, i1_figureAt_5, i1_figureAt_7, i1_figureAt_8, i1_figureAt_9, i1_figureAt_10, i1_figureAt_13, i1_figureAt_14, i1_figureAt_16, i1_figureAt_19, i1_figureAt_20, i1_figureAt_23, i1_figureAt_25, s1_byteAt h hp, pK_i, h1, h2, if_true, if_false, not_true_eq_false, not_false_eq_true, true_or, or_true]
    · rw [if_neg h1, if_neg h2]
      simp only [Nat.reduceAdd, i1_figureAt_0, i1_figureAt_1, i1_figureAt_2, i1_figureAt_5, i1_figureAt_7, i1_figureAt_8, i1_figureAt_9, i1_figureAt_10, i1_figureAt_13, i1_figureAt_14, i1_figureAt_16, i1_figureAt_19, i1_figureAt_20, i1_figureAt_23, i1_figureAt_25, s1_byteAt h hp, pK_i, h1, h2, if_true, if_false, not_true_eq_false, not_false_eq_true, true_or, or_true]
theorem s1_letR {a0 a1 a2 a3 : Value} {j : Int32} {st : List Value} (hj : inb j 6) : pX 9 20 [a0, a1, a2, a3] (.int j :: .ref 1000 :: st) (mm L xs σ τ) 85 S = pX 9 21 [a0, a1, a2, a3] (.int (pm_let j.toNatClampNeg) :: st) (mm L xs σ τ) 85 S := mx_ialdR (by decide +kernel) hj
theorem s1_kindAt (h : txt w k m σ) (hp : p ≤ 200) : pX 9 0 [.ref (35 + 2 * k), .int (nI p), .null, .null] [] (mm L xs σ τ) 85 S = some (some (.int (kdq w m p)), mm L xs σ τ, 85, S) := by
  have e : kdq w m p = kdf (cbq w m p) := by
    unfold kdq cbq
    split
    · rfl
    · decide
  rw [e]
  generalize hx : cbq w m p = x
  have b := s1_byteAt (L := L) (xs := xs) (τ := τ) (S := S) h hp
  rw [hx] at b
  have key := lq (δ := Unit) 6 (fun j _ => ∀ i, i < j → ¬ pm_let i = x) (fun j _ => pX 9 8 [.ref (35 + 2 * k), .int (nI p), .int x, .int (nI j)] [] (mm L xs σ τ) 85 S) (fun o => o = some (some (.int (kdf x)), mm L xs σ τ, 85, S)) (fun _ hn => by
    rw [let_no hn, show nI 6 = 6 from rfl]
    simp only [i1_kindAt_8, i1_kindAt_9, i1_kindAt_12, i1_kindAt_12_r1, i1_kindAt_12_r2, i1_kindAt_12_r11, i1_kindAt_12_r1000, i1_kindAt_13, i1_kindAt_33, i1_kindAt_35, Int32.lt_irrefl, if_false]) (fun j hj _ hn => by
    have q : (nI j < 6) = True := nlt (b := 6) hj (by decide)
    by_cases hl : pm_let j = x
    · refine Or.inl ?_
      rw [let_kd hj hl, i1_kindAt_8]
      simp only [i1_kindAt_9, i1_kindAt_12, i1_kindAt_12_r1, i1_kindAt_12_r2, i1_kindAt_12_r11, i1_kindAt_12_r1000, i1_kindAt_13, i1_kindAt_16, i1_kindAt_19, i1_kindAt_21, i1_kindAt_22, i1_kindAt_25, i1_kindAt_26, i1_kindAt_27, i1_kindAt_30, i1_kindAt_33, i1_kindAt_35, s1_letR (ib hj (by decide)), cl (show j ≤ 5000 by omega), q, hl, if_true]
    · refine Or.inr ⟨(), fun i hi => ?_, ?_⟩
      · by_cases e : i = j
        · subst e; exact hl
        · exact hn i (by omega)
      · rw [i1_kindAt_8]
        simp only [i1_kindAt_9, i1_kindAt_12, i1_kindAt_12_r1, i1_kindAt_12_r2, i1_kindAt_12_r11, i1_kindAt_12_r1000, i1_kindAt_13, i1_kindAt_16, i1_kindAt_19, i1_kindAt_21, i1_kindAt_22, i1_kindAt_25, i1_kindAt_26, i1_kindAt_27, i1_kindAt_30, i1_kindAt_33, i1_kindAt_35, s1_letR (ib hj (by decide)), cl (show j ≤ 5000 by omega), q, hl, if_true, if_false, nI_1])
  have kk := key () (fun i hi => absurd hi (by omega))
  rw [nI_0] at kk
  simp only [i1_kindAt_0, i1_kindAt_1, i1_kindAt_2, i1_kindAt_5, i1_kindAt_6, i1_kindAt_7, b, pK_i]
  exact kk
theorem s1_levelAt (h : txt w k m σ) (hp : p ≤ 100) : pX 10 0 [.ref (35 + 2 * k), .int (nI p)] [] (mm L xs σ τ) 85 S = some (some (.int (lvf w m p)), mm L xs σ τ, 85, S) := by
  unfold lvf
  simp only [Nat.reduceAdd, i1_levelAt_0, i1_levelAt_2, i1_levelAt_3, i1_levelAt_4, i1_levelAt_7, i1_levelAt_8, i1_levelAt_9, i1_levelAt_10, i1_levelAt_11, i1_levelAt_12, i1_levelAt_15, i1_levelAt_16, s1_figureAt h (show p ≤ 200 by omega), nI_1, s1_figureAt h (show p + 1 ≤ 200 by omega), pK_i]
theorem s1_behindBlanks (h : txt w k m σ) (hp : p ≤ m) : pX 11 0 [.ref (35 + 2 * k), .int (nI p), .null] [] (mm L xs σ τ) 85 S = some (some (.int (nI (bbq w m p))), mm L xs σ τ, 85, S) := by
  obtain ⟨hk, hm, hz, _⟩ := id h
  have key : ∀ f q, q ≤ m → m < q + f → pX 11 2 [.ref (35 + 2 * k), .int (nI p), .int (nI q)] [] (mm L xs σ τ) 85 S = some (some (.int (nI (bbf w m f q))), mm L xs σ τ, 85, S) := by
    intro f
    induction f with
    | zero => intro q h1 h2; exact absurd h2 (by omega)
    | succ f ih =>
      intro q h1 h2
      show _ = some (some (Value.int (nI (if q < m ∧ w q = 32 then bbf w m f (q + 1) else q))), mm L xs σ τ, 85, S)
      by_cases hq : q < m
      · have eb : cbq w m q = w q := if_pos hq
        by_cases hw : w q = 32
        · rw [if_pos ⟨hq, hw⟩, ← ih (q + 1) (by omega) (by omega), i1_behindBlanks_2]
          simp only [Nat.reduceAdd, i1_behindBlanks_3, i1_behindBlanks_4, i1_behindBlanks_7, i1_behindBlanks_10, i1_behindBlanks_11, i1_behindBlanks_12, i1_behindBlanks_15, i1_behindBlanks_17, i1_behindBlanks_20, i1_behindBlanks_23, te_k hk, hz, nlt hq (by omega), s1_byteAt h (show q ≤ 200 by omega), eb, hw, pK_i, if_true, nI_1]
        · rw [if_neg (fun e => hw e.2), i1_behindBlanks_2]
          simp only [Nat.reduceAdd, i1_behindBlanks_3, i1_behindBlanks_4, i1_behindBlanks_7, i1_behindBlanks_10, i1_behindBlanks_11, i1_behindBlanks_12, i1_behindBlanks_15, i1_behindBlanks_17, i1_behindBlanks_20, i1_behindBlanks_23, i1_behindBlanks_26, i1_behindBlanks_27, te_k hk, hz, nlt hq (by omega), s1_byteAt h (show q ≤ 200 by omega), eb, hw, pK_i, if_true, if_false]
      · rw [if_neg (fun e => hq e.1), i1_behindBlanks_2]
        simp only [Nat.reduceAdd, i1_behindBlanks_3, i1_behindBlanks_4, i1_behindBlanks_7, i1_behindBlanks_10, i1_behindBlanks_11, i1_behindBlanks_12, i1_behindBlanks_15, i1_behindBlanks_17, i1_behindBlanks_20, i1_behindBlanks_23, i1_behindBlanks_26, i1_behindBlanks_27, te_k hk, hz, nnl (show m ≤ q by omega) (by omega), if_false]
  simp only [i1_behindBlanks_0, i1_behindBlanks_1]
  exact key 61 p hp (by omega)
theorem s1_levelFault (h : txt w k m σ) (hp : p ≤ 90) : pX 12 0 [.ref (35 + 2 * k), .int (nI p)] [] (mm L xs σ τ) 85 S = some (some (.int (lfq w m p)), mm L xs σ τ, 85, S) := by
  have f1 := s1_figureAt (L := L) (xs := xs) (τ := τ) (S := S) h (show p ≤ 200 by omega)
  have f2 := s1_figureAt (L := L) (xs := xs) (τ := τ) (S := S) h (show p + 1 ≤ 200 by omega)
  have f3 := s1_levelAt (L := L) (xs := xs) (τ := τ) (S := S) h (show p ≤ 100 by omega)
  unfold lfq
  by_cases h1 : fgq w m p = -9
  · simp only [Nat.reduceAdd, i1_levelFault_0, i1_levelFault_1, i1_levelFault_2, i1_levelFault_5, i1_levelFault_7, i1_levelFault_10, i1_levelFault_11, i1_levelFault_12, i1_levelFault_13, i1_levelFault_14, i1_levelFault_15, i1_levelFault_16, i1_levelFault_19, i1_levelFault_21, i1_levelFault_24, i1_levelFault_25, i1_levelFault_26, i1_levelFault_27, i1_levelFault_28, i1_levelFault_29, i1_levelFault_30, i1_levelFault_33, i1_levelFault_35, i1_levelFault_38, i1_levelFault_39, i1_levelFault_42, i1_levelFault_44, f1, pK_i, h1, if_true, if_false, not_true_eq_false, not_false_eq_true, true_or, or_true]
  · by_cases h2 : fgq w m (p + 1) = -9
    · simp only [Nat.reduceAdd, i1_levelFault_0, i1_levelFault_1, i1_levelFault_2, i1_levelFault_5, i1_levelFault_7, i1_levelFault_10, i1_levelFault_11, i1_levelFault_12, i1_levelFault_13, i1_levelFault_14, i1_levelFault_15, i1_levelFault_16, i1_levelFault_19, i1_levelFault_21, i1_levelFault_24, i1_levelFault_25, i1_levelFault_26, i1_levelFault_27, i1_levelFault_28, i1_levelFault_29, i1_levelFault_30, i1_levelFault_33, i1_levelFault_35, i1_levelFault_38, i1_levelFault_39, i1_levelFault_42, i1_levelFault_44, f1, nI_1, f2, pK_i, h1, h2, if_true, if_false, not_true_eq_false, not_false_eq_true, true_or, or_true]
    · by_cases h3 : 60 < lvf w m p
      · simp only [Nat.reduceAdd, i1_levelFault_0, i1_levelFault_1, i1_levelFault_2, i1_levelFault_5, i1_levelFault_7, i1_levelFault_10, i1_levelFault_11, i1_levelFault_12, i1_levelFault_13, i1_levelFault_14, i1_levelFault_15, i1_levelFault_16, i1_levelFault_19, i1_levelFault_21, i1_levelFault_24, i1_levelFault_25, i1_levelFault_26, i1_levelFault_27, i1_levelFault_28, i1_levelFault_29, i1_levelFault_30, i1_levelFault_33, i1_levelFault_35, i1_levelFault_38, i1_levelFault_39, i1_levelFault_42, i1_levelFault_44, f1, nI_1, f2, f3, pK_i, h1, h2, h3, if_true, if_false, not_true_eq_false, not_false_eq_true, true_or, or_true]
      · simp only [Nat.reduceAdd, i1_levelFault_0, i1_levelFault_1, i1_levelFault_2, i1_levelFault_5, i1_levelFault_7, i1_levelFault_10, i1_levelFault_11, i1_levelFault_12, i1_levelFault_13, i1_levelFault_14, i1_levelFault_15, i1_levelFault_16, i1_levelFault_19, i1_levelFault_21, i1_levelFault_24, i1_levelFault_25, i1_levelFault_26, i1_levelFault_27, i1_levelFault_28, i1_levelFault_29, i1_levelFault_30, i1_levelFault_33, i1_levelFault_35, i1_levelFault_38, i1_levelFault_39, i1_levelFault_42, i1_levelFault_44, f1, nI_1, f2, f3, pK_i, h1, h2, h3, if_true, if_false, not_true_eq_false, not_false_eq_true, true_or, or_true]
theorem nI_2 (a : Nat) : nI a + 2 = nI (a + 2) := nI_add a 2
theorem nI_3 (a : Nat) : nI a + 3 = nI (a + 3) := nI_add a 3
theorem nI_5 (a : Nat) : nI a + 5 = nI (a + 5) := nI_add a 5
theorem s1_gateFault (h : txt w k m σ) (hp : p ≤ 80) : pX 13 0 [.ref (35 + 2 * k), .int (nI p), .null] [] (mm L xs σ τ) 85 S = some (some (.int (gfq w m p)), mm L xs σ τ, 85, S) := by
  have f0 := s1_kindAt (L := L) (xs := xs) (τ := τ) (S := S) h (show p ≤ 200 by omega)
  have f1 := s1_figureAt (L := L) (xs := xs) (τ := τ) (S := S) h (show p + 1 ≤ 200 by omega)
  have f2 := s1_figureAt (L := L) (xs := xs) (τ := τ) (S := S) h (show p + 2 ≤ 200 by omega)
  have f3 := s1_levelFault (L := L) (xs := xs) (τ := τ) (S := S) h (show p + 3 ≤ 90 by omega)
  unfold gfq
  by_cases h1 : kdq w m p = -9
  · simp only [Nat.reduceAdd, i1_gateFault_0, i1_gateFault_1, i1_gateFault_2, i1_gateFault_5, i1_gateFault_7, i1_gateFault_10, i1_gateFault_11, i1_gateFault_12, i1_gateFault_13, i1_gateFault_14, i1_gateFault_15, i1_gateFault_16, i1_gateFault_19, i1_gateFault_20, i1_gateFault_23, i1_gateFault_24, i1_gateFault_25, i1_gateFault_26, i1_gateFault_27, i1_gateFault_28, i1_gateFault_29, i1_gateFault_30, i1_gateFault_31, i1_gateFault_34, i1_gateFault_35, i1_gateFault_36, i1_gateFault_39, i1_gateFault_40, i1_gateFault_41, i1_gateFault_44, i1_gateFault_45, i1_gateFault_46, i1_gateFault_47, i1_gateFault_48, i1_gateFault_51, i1_gateFault_54, i1_gateFault_55, i1_gateFault_56, i1_gateFault_57, f0, pK_i, h1, if_true, if_false, not_true_eq_false, not_false_eq_true, true_or, or_true]
  · by_cases h2 : fgq w m (p + 1) < 1
    · simp only [Nat.reduceAdd, i1_gateFault_0, i1_gateFault_1, i1_gateFault_2, i1_gateFault_5, i1_gateFault_7, i1_gateFault_10, i1_gateFault_11, i1_gateFault_12, i1_gateFault_13, i1_gateFault_14, i1_gateFault_15, i1_gateFault_16, i1_gateFault_19, i1_gateFault_20, i1_gateFault_23, i1_gateFault_24, i1_gateFault_25, i1_gateFault_26, i1_gateFault_27, i1_gateFault_28, i1_gateFault_29, i1_gateFault_30, i1_gateFault_31, i1_gateFault_34, i1_gateFault_35, i1_gateFault_36, i1_gateFault_39, i1_gateFault_40, i1_gateFault_41, i1_gateFault_44, i1_gateFault_45, i1_gateFault_46, i1_gateFault_47, i1_gateFault_48, i1_gateFault_51, i1_gateFault_54, i1_gateFault_55, i1_gateFault_56, i1_gateFault_57, f0, nI_1, f1, pK_i, h1, h2, if_true, if_false, not_true_eq_false, not_false_eq_true, true_or, or_true]
    · by_cases h3 : fgq w m (p + 2) = 0
      · simp only [Nat.reduceAdd, i1_gateFault_0, i1_gateFault_1, i1_gateFault_2, i1_gateFault_5, i1_gateFault_7, i1_gateFault_10, i1_gateFault_11, i1_gateFault_12, i1_gateFault_13, i1_gateFault_14, i1_gateFault_15, i1_gateFault_16, i1_gateFault_19, i1_gateFault_20, i1_gateFault_23, i1_gateFault_24, i1_gateFault_25, i1_gateFault_26, i1_gateFault_27, i1_gateFault_28, i1_gateFault_29, i1_gateFault_30, i1_gateFault_31, i1_gateFault_34, i1_gateFault_35, i1_gateFault_36, i1_gateFault_39, i1_gateFault_40, i1_gateFault_41, i1_gateFault_44, i1_gateFault_45, i1_gateFault_46, i1_gateFault_47, i1_gateFault_48, i1_gateFault_51, i1_gateFault_54, i1_gateFault_55, i1_gateFault_56, i1_gateFault_57, f0, nI_1, nI_2, nI_3, f1, f2, f3, pK_i, h1, h2, h3, if_true, if_false, not_true_eq_false, not_false_eq_true, true_or, or_true]
      · by_cases h4 : fgq w m (p + 2) = 1
        · simp only [Nat.reduceAdd, i1_gateFault_0, i1_gateFault_1, i1_gateFault_2, i1_gateFault_5, i1_gateFault_7, i1_gateFault_10, i1_gateFault_11, i1_gateFault_12, i1_gateFault_13, i1_gateFault_14, i1_gateFault_15, i1_gateFault_16, i1_gateFault_19, i1_gateFault_20, i1_gateFault_23, i1_gateFault_24, i1_gateFault_25, i1_gateFault_26, i1_gateFault_27, i1_gateFault_28, i1_gateFault_29, i1_gateFault_30, i1_gateFault_31, i1_gateFault_34, i1_gateFault_35, i1_gateFault_36, i1_gateFault_39, i1_gateFault_40, i1_gateFault_41, i1_gateFault_44, i1_gateFault_45, i1_gateFault_46, i1_gateFault_47, i1_gateFault_48, i1_gateFault_51, i1_gateFault_54, i1_gateFault_55, i1_gateFault_56, i1_gateFault_57, f0, nI_1, nI_2, nI_3, f1, f2, f3, pK_i, h1, h2, h3, h4, n10, if_true, if_false, not_true_eq_false, not_false_eq_true, true_or, or_true]
        · simp only [Nat.reduceAdd, i1_gateFault_0, i1_gateFault_1, i1_gateFault_2, i1_gateFault_5, i1_gateFault_7, i1_gateFault_10, i1_gateFault_11, i1_gateFault_12, i1_gateFault_13, i1_gateFault_14, i1_gateFault_15, i1_gateFault_16, i1_gateFault_19, i1_gateFault_20, i1_gateFault_23, i1_gateFault_24, i1_gateFault_25, i1_gateFault_26, i1_gateFault_27, i1_gateFault_28, i1_gateFault_29, i1_gateFault_30, i1_gateFault_31, i1_gateFault_34, i1_gateFault_35, i1_gateFault_36, i1_gateFault_39, i1_gateFault_40, i1_gateFault_41, i1_gateFault_44, i1_gateFault_45, i1_gateFault_46, i1_gateFault_47, i1_gateFault_48, i1_gateFault_51, i1_gateFault_54, i1_gateFault_55, i1_gateFault_56, i1_gateFault_57, f0, nI_1, nI_2, nI_3, f1, f2, pK_i, h1, h2, h3, h4, or_self, if_true, if_false, not_true_eq_false, not_false_eq_true, true_or, or_true]
/-- the aside stand, i gates read -/
def SG (σ : Nat → Nat → Int32) (w : Nat → Int32) (m q0 : Nat) (l0 : Int32) (i : Nat) (e : Nat → Nat → Int32) : Prop := agr σ e ∧ (∀ c, c < 12 ∨ 15 < c → e c = σ c) ∧ e 12 3 = nI i ∧ e 12 4 = orq w m q0 i ∧ e 12 5 = 0 ∧ e 15 0 = l0 ∧ ∀ j, j < i → e 13 j = kdq w m (psq w m q0 j) ∧ e 14 j = fgq w m (psq w m q0 j + 1) ∧ e 15 (j + 1) = lvf w m (psq w m q0 j + 3)
theorem SG_step {q0 i : Nat} {l0 : Int32} {e : Nat → Nat → Int32} (h : txt w k m σ) (hA : SG σ w m q0 l0 i e) (hi : i < 6) (hp : psq w m q0 i ≤ 60) : ∃ e', pX 14 0 [.ref (35 + 2 * k), .int (nI (psq w m q0 i)), .int (nI i), .ref 12] [] (mm L xs e τ) 85 S = some (none, mm L xs e' τ, 85, S) ∧ SG σ w m q0 l0 (i + 1) e' := by
  obtain ⟨a1, a0, a2, a3, a4, a5, a6⟩ := hA
  have ht := txt_a h a1
  have hS : ∀ {α : Type} {a b : α}, ifb (nI i) 6 a b = a := ifb_i hi (by decide)
  have hC := cl (show i ≤ 5000 by omega)
  have hT : ∀ {α : Type} {a b : α}, ifb (nI (i + 1)) 7 a b = a := ifb_i (by omega) (by decide)
  have hD := cl (show i + 1 ≤ 5000 by omega)
  generalize hq : psq w m q0 i = p at hp
  obtain ⟨e1, he1⟩ : ∃ x, x = va_up e 13 (upd (e 13) i (kdq w m p)) := ⟨_, rfl⟩
  obtain ⟨e2, he2⟩ : ∃ x, x = va_up e1 14 (upd (e1 14) i (fgq w m (p + 1))) := ⟨_, rfl⟩
  obtain ⟨e3, he3⟩ : ∃ x, x = va_up e2 12 (upd (e2 12) 4 (e2 12 4 ||| (fgq w m (p + 2) <<< (nI i &&& 31)))) := ⟨_, rfl⟩
  obtain ⟨e4, he4⟩ : ∃ x, x = va_up e3 15 (upd (e3 15) (i + 1) (lvf w m (p + 3))) := ⟨_, rfl⟩
  obtain ⟨e5, he5⟩ : ∃ x, x = va_up e4 12 (upd (e4 12) 3 (nI (i + 1))) := ⟨_, rfl⟩
  have b1 : agr e e1 := by rw [he1]; exact agr_u (agr_r e) (by unfold scr; omega)
  have b2 : agr e e2 := by rw [he2]; exact agr_u b1 (by unfold scr; omega)
  have b3 : agr e e3 := by rw [he3]; exact agr_u b2 (by unfold scr; omega)
  have b4 : agr e e4 := by rw [he4]; exact agr_u b3 (by unfold scr; omega)
  have b5 : agr e e5 := by rw [he5]; exact agr_u b4 (by unfold scr; omega)
  have f0 := s1_kindAt (L := L) (xs := xs) (τ := τ) (S := S) ht (show p ≤ 200 by omega)
  have f1 := s1_figureAt (L := L) (xs := xs) (τ := τ) (S := S) (txt_a ht b1) (show p + 1 ≤ 200 by omega)
  have f2 := s1_figureAt (L := L) (xs := xs) (τ := τ) (S := S) (txt_a ht b2) (show p + 2 ≤ 200 by omega)
  have f3 := s1_levelAt (L := L) (xs := xs) (τ := τ) (S := S) (txt_a ht b3) (show p + 3 ≤ 100 by omega)
  refine ⟨e5, ?_, agr_t a1 b5, fun c hc => ?_, ?_, ?_, ?_, ?_, fun j hj => ?_⟩
  · simp only [Nat.reduceAdd, i1_takeGate_0, i1_takeGate_1, i1_takeGate_4, i1_takeGate_5, i1_takeGate_6, i1_takeGate_7, i1_takeGate_10, i1_takeGate_11, i1_takeGate_12, i1_takeGate_15, i1_takeGate_16, i1_takeGate_17, i1_takeGate_18, i1_takeGate_19, i1_takeGate_20, i1_takeGate_23, i1_takeGate_24, i1_takeGate_25, i1_takeGate_26, i1_takeGate_29, i1_takeGate_30, i1_takeGate_31, i1_takeGate_32, i1_takeGate_33, i1_takeGate_36, i1_takeGate_37, i1_takeGate_38, i1_takeGate_39, i1_takeGate_42, i1_takeGate_43, i1_takeGate_46, i1_takeGate_47, i1_takeGate_48, i1_takeGate_49, i1_takeGate_50, i1_takeGate_51, i1_takeGate_52, i1_takeGate_53, i1_takeGate_56, i1_takeGate_57, i1_takeGate_58, i1_takeGate_59, i1_takeGate_60, i1_takeGate_61, i1_takeGate_64, k_12, k_13, l_13, k_14, l_14, k_15, l_15, hS, hC, hT, hD, nI_1, nI_2, nI_3, f0, ← he1, f1, ← he2, f2, ← he3, f3, ← he4, ← he5, pK_i]
  · rw [he5, vn (by omega), he4, vn (by omega), he3, vn (by omega), he2, vn (by omega), he1, vn (by omega)]; exact a0 c hc
  · rw [he5, vs, us]
  · rw [he5, vs, un (by decide), he4, vn (by decide), he3, vs, us, he2, vn (by decide), he1, vn (by decide), a3, ← hq]; rfl
  · rw [he5, vs, un (by decide), he4, vn (by decide), he3, vs, un (by decide), he2, vn (by decide), he1, vn (by decide), a4]
  · rw [he5, vn (by decide), he4, vs, un (by omega), he3, vn (by decide), he2, vn (by decide), he1, vn (by decide), a5]
  · have c13 : e5 13 = upd (e 13) i (kdq w m p) := by rw [he5, vn (by decide), he4, vn (by decide), he3, vn (by decide), he2, vn (by decide), he1, vs]
    have c14 : e5 14 = upd (e 14) i (fgq w m (p + 1)) := by rw [he5, vn (by decide), he4, vn (by decide), he3, vn (by decide), he2, vs, he1, vn (by decide)]
    have c15 : e5 15 = upd (e 15) (i + 1) (lvf w m (p + 3)) := by rw [he5, vn (by decide), he4, vs, he3, vn (by decide), he2, vn (by decide), he1, vn (by decide)]
    rw [c13, c14, c15]
    by_cases ej : j = i
    · subst ej; rw [us, us, us, hq]; exact ⟨rfl, rfl, rfl⟩
    · rw [un ej, un ej, un (by omega)]; exact a6 j (by omega)
def okp (w : Nat → Int32) (m q0 i : Nat) : Prop := ∀ j, j < i → psq w m q0 j < m ∧ gfq w m (psq w m q0 j) = -9
theorem rgC {q0 : Nat} {l0 : Int32} (h : txt w k m σ) : ∀ n i e d5, n + i = 6 → psq w m q0 i ≤ m → SG σ w m q0 l0 i e → ∃ σ', pX 16 5 [.ref (35 + 2 * k), .int (nI q0), .ref 12, .int (nI (psq w m q0 i)), .int (nI i), d5] [] (mm L xs e τ) 85 S = some (some (.int (rvq w m q0 n i)), mm L xs σ' τ, 85, S) ∧ agr σ σ' ∧ (rvq w m q0 n i = -9 → SG σ w m q0 l0 (gcq w m q0 n i) σ') := by
  obtain ⟨hk, hm, _, _⟩ := id h
  intro n
  induction n with
  | zero =>
    intro i e d5 hn hps hA
    have hi : i = 6 := by omega
    subst hi
    have hz := (txt_a h hA.1).2.2.1
    refine ⟨e, ?_, hA.1, fun _ => hA⟩
    show _ = some (some (Value.int (if psq w m q0 6 < m then nI (psq w m q0 6) else if 6 = 0 then nI (psq w m q0 6) else -9)), mm L xs e τ, 85, S)
    have z : ¬ nI 6 = 0 := by decide
    have q : ¬ nI 6 < 6 := by decide
    by_cases hp : psq w m q0 6 < m
    · rw [if_pos hp]
      simp only [Nat.reduceAdd, i1_readGates_5, i1_readGates_7, i1_readGates_9, i1_readGates_59, i1_readGates_60, i1_readGates_61, i1_readGates_64, i1_readGates_67, i1_readGates_68, i1_readGates_71, i1_readGates_74, i1_readGates_75, i1_readGates_78, i1_readGates_80, te_k hk, hz, q, nlt hp (by omega), if_true, if_false, not_true_eq_false, not_false_eq_true, true_or, or_true]
    · rw [if_neg hp, if_neg (by decide)]
      simp only [Nat.reduceAdd, i1_readGates_5, i1_readGates_7, i1_readGates_9, i1_readGates_59, i1_readGates_60, i1_readGates_61, i1_readGates_64, i1_readGates_67, i1_readGates_68, i1_readGates_71, i1_readGates_74, i1_readGates_75, i1_readGates_78, i1_readGates_80, te_k hk, k_12, hz, hA.2.2.1, z, q, nnl (show m ≤ psq w m q0 6 by omega) (by omega), if_true, if_false, not_true_eq_false, not_false_eq_true, true_or, or_true]
  | succ n ih =>
    intro i e d5 hn hps hA
    have ht := txt_a h hA.1
    have hz := ht.2.2.1
    have q : (nI i < 6) = True := nlt (b := 6) (by omega) (by decide)
    by_cases hp : psq w m q0 i < m
    · have gf := s1_gateFault (L := L) (xs := xs) (τ := τ) (S := S) ht (show psq w m q0 i ≤ 80 by omega)
      by_cases hf : gfq w m (psq w m q0 i) = -9
      · have e1 : rvq w m q0 (n + 1) i = rvq w m q0 n (i + 1) := by
          show (if _ then (if _ then _ else _) else _) = _
          rw [if_pos hp, if_pos hf]
        have e2 : gcq w m q0 (n + 1) i = gcq w m q0 n (i + 1) := if_pos hp
        obtain ⟨e', t, A'⟩ := SG_step (L := L) (xs := xs) (τ := τ) (S := S) h hA (by omega) (by omega)
        have bb := s1_behindBlanks (L := L) (xs := xs) (τ := τ) (S := S) (txt_a h A'.1) (gfq_p (show psq w m q0 i ≤ 100 by omega) hf).1
        obtain ⟨σ', r1, r2, r3⟩ := ih (i + 1) e' (.int (-9)) (by omega) (ps_le hm hf (by omega)) A'
        refine ⟨σ', ?_, r2, by rw [e1, e2]; exact r3⟩
        rw [e1, ← r1, i1_readGates_5]
        rw [hf] at gf
        simp only [Nat.reduceAdd, i1_readGates_7, i1_readGates_9, i1_readGates_12, i1_readGates_13, i1_readGates_14, i1_readGates_17, i1_readGates_20, i1_readGates_21, i1_readGates_22, i1_readGates_25, i1_readGates_27, i1_readGates_29, i1_readGates_31, i1_readGates_34, i1_readGates_36, i1_readGates_37, i1_readGates_38, i1_readGates_39, i1_readGates_41, i1_readGates_42, i1_readGates_45, i1_readGates_46, i1_readGates_47, i1_readGates_48, i1_readGates_49, i1_readGates_52, i1_readGates_53, i1_readGates_56, te_k hk, hz, q, nlt hp (by omega), gf, t, nI_5, bb, pK_i, pK_v, if_true, if_false, not_true_eq_false, not_false_eq_true, true_or, or_true, nI_1, psq]
      · have e1 : rvq w m q0 (n + 1) i = gfq w m (psq w m q0 i) := by
          show (if _ then (if _ then _ else _) else _) = _
          rw [if_pos hp, if_neg hf]
        refine ⟨e, ?_, hA.1, fun x => absurd (e1.symm.trans x) hf⟩
        rw [e1, i1_readGates_5]
        simp only [Nat.reduceAdd, i1_readGates_7, i1_readGates_9, i1_readGates_12, i1_readGates_13, i1_readGates_14, i1_readGates_17, i1_readGates_20, i1_readGates_21, i1_readGates_22, i1_readGates_25, i1_readGates_27, i1_readGates_29, i1_readGates_31, i1_readGates_34, i1_readGates_36, i1_readGates_37, i1_readGates_38, i1_readGates_39, i1_readGates_41, i1_readGates_42, i1_readGates_45, i1_readGates_46, i1_readGates_47, i1_readGates_48, i1_readGates_49, i1_readGates_52, i1_readGates_53, i1_readGates_56, te_k hk, hz, q, nlt hp (by omega), gf, hf, pK_i, if_true, if_false, not_true_eq_false, not_false_eq_true, true_or, or_true]
    · have e1 : rvq w m q0 (n + 1) i = if i = 0 then nI (psq w m q0 i) else -9 := by
        show (if _ then (if _ then _ else _) else _) = _
        rw [if_neg hp]
      have e2 : gcq w m q0 (n + 1) i = i := if_neg hp
      refine ⟨e, ?_, hA.1, fun _ => by rw [e2]; exact hA⟩
      rw [e1, i1_readGates_5]
      by_cases h0 : i = 0
      · subst h0
        rw [if_pos rfl]
        have h3 : e 12 3 = 0 := hA.2.2.1
        simp only [Nat.reduceAdd, i1_readGates_7, i1_readGates_9, i1_readGates_12, i1_readGates_13, i1_readGates_14, i1_readGates_17, i1_readGates_20, i1_readGates_21, i1_readGates_22, i1_readGates_25, i1_readGates_27, i1_readGates_29, i1_readGates_31, i1_readGates_34, i1_readGates_36, i1_readGates_37, i1_readGates_38, i1_readGates_39, i1_readGates_41, i1_readGates_42, i1_readGates_45, i1_readGates_46, i1_readGates_47, i1_readGates_48, i1_readGates_49, i1_readGates_52, i1_readGates_53, i1_readGates_56, i1_readGates_59, i1_readGates_60, i1_readGates_61, i1_readGates_64, i1_readGates_67, i1_readGates_68, i1_readGates_71, i1_readGates_74, i1_readGates_75, i1_readGates_78, i1_readGates_80, te_k hk, k_12, hz, q, nnl (show m ≤ psq w m q0 0 by omega) (by omega), h3, if_true, if_false, not_true_eq_false, not_false_eq_true, true_or, or_true]
      · rw [if_neg h0]
        simp only [Nat.reduceAdd, i1_readGates_7, i1_readGates_9, i1_readGates_12, i1_readGates_13, i1_readGates_14, i1_readGates_17, i1_readGates_20, i1_readGates_21, i1_readGates_22, i1_readGates_25, i1_readGates_27, i1_readGates_29, i1_readGates_31, i1_readGates_34, i1_readGates_36, i1_readGates_37, i1_readGates_38, i1_readGates_39, i1_readGates_41, i1_readGates_42, i1_readGates_45, i1_readGates_46, i1_readGates_47, i1_readGates_48, i1_readGates_49, i1_readGates_52, i1_readGates_53, i1_readGates_56, i1_readGates_59, i1_readGates_60, i1_readGates_61, i1_readGates_64, i1_readGates_67, i1_readGates_68, i1_readGates_71, i1_readGates_74, i1_readGates_75, i1_readGates_78, i1_readGates_80, te_k hk, k_12, hz, q, nnl (show m ≤ psq w m q0 i by omega) (by omega), hA.2.2.1, nI_ne0 (show 0 < i by omega) (show i < 2 ^ 31 by omega), if_true, if_false, not_true_eq_false, not_false_eq_true, true_or, or_true]
/-- what a text comes to -/
def rdq (w : Nat → Int32) (m : Nat) : Int32 := if cbq w m (bbq w m 0) = 104 then (if lfq w m (bbq w m 0 + 1) = -9 then rvq w m (bbq w m (bbq w m 0 + 3)) 6 0 else lfq w m (bbq w m 0 + 1)) else nI (bbq w m 0)
theorem s1_read (h : txt w k m σ) : ∃ σ', pX 15 0 [.ref (35 + 2 * k), .ref 12, .null, .null] [] (mm L xs σ τ) 85 S = some (some (.int (rdq w m)), mm L xs σ' τ, 85, S) ∧ agr σ σ' ∧ (rdq w m = -9 → SG σ w m (bbq w m (bbq w m 0 + 3)) (lvf w m (bbq w m 0 + 1)) (gcq w m (bbq w m (bbq w m 0 + 3)) 6 0) σ') := by
  obtain ⟨hk, hm, hz, hw⟩ := id h
  have b0 := (bbf_le (w := w) (m := m) 61 0).2 (Nat.zero_le _)
  have bl := s1_behindBlanks (L := L) (xs := xs) (τ := τ) (S := S) h (Nat.zero_le m)
  rw [nI_0] at bl
  have eb : bbf w m 61 0 = bbq w m 0 := rfl
  rw [eb] at b0
  unfold rdq
  generalize bbq w m 0 = p at b0 bl ⊢
  have by_ := s1_byteAt (L := L) (xs := xs) (τ := τ) (S := S) h (show p ≤ 200 by omega)
  by_cases h1 : cbq w m p = 104
  · rw [if_pos h1]
    have hpm : p < m := by
      apply Classical.byContradiction
      intro q
      have : cbq w m p = 0 := if_neg q
      rw [this] at h1
      exact absurd h1 (by decide)
    have lf := s1_levelFault (L := L) (xs := xs) (τ := τ) (S := S) h (show p + 1 ≤ 90 by omega)
    by_cases h2 : lfq w m (p + 1) = -9
    · rw [if_pos h2]
      have lp := lfq_p (show p + 1 ≤ 200 by omega) h2
      obtain ⟨e1, he1⟩ : ∃ x, x = va_up σ 12 (upd (upd (upd (σ 12) 3 0) 4 0) 5 0) := ⟨_, rfl⟩
      have a1 : agr σ e1 := by rw [he1]; exact agr_u (agr_r σ) (by unfold scr; omega)
      have la := s1_levelAt (L := L) (xs := xs) (τ := τ) (S := S) (txt_a h a1) (show p + 1 ≤ 100 by omega)
      obtain ⟨e2, he2⟩ : ∃ x, x = va_up e1 15 (upd (e1 15) 0 (lvf w m (p + 1))) := ⟨_, rfl⟩
      have a2 : agr σ e2 := by rw [he2]; exact agr_u a1 (by unfold scr; omega)
      have bb := s1_behindBlanks (L := L) (xs := xs) (τ := τ) (S := S) (txt_a h a2) (show p + 3 ≤ m by omega)
      have bm := (bbf_le (w := w) (m := m) 61 (p + 3)).2 (by omega)
      obtain ⟨σ', r1, r2, r3⟩ := rgC (L := L) (xs := xs) (τ := τ) (S := S) (q0 := bbq w m (p + 3)) (l0 := lvf w m (p + 1)) h 6 0 e2 .null (by decide) bm ⟨a2, fun c hc => by rw [he2, vn (by omega), he1, vn (by omega)], by rw [he2, vn (by decide), he1, vs, un (by decide), un (by decide), us]; rfl, by rw [he2, vn (by decide), he1, vs, un (by decide), us]; rfl, by rw [he2, vn (by decide), he1, vs, us], by rw [he2, vs, us], fun j hj => absurd hj (by omega)⟩
      refine ⟨σ', ?_, r2, r3⟩
      have r1' : pX 16 5 [.ref (35 + 2 * k), .int (nI (bbq w m (p + 3))), .ref 12, .int (nI (bbq w m (p + 3))), .int 0, .null] [] (mm L xs e2 τ) 85 S = some (some (.int (rvq w m (bbq w m (p + 3)) 6 0)), mm L xs σ' τ, 85, S) := r1
      rw [h2] at lf
      have i0 : ∀ {α : Type} {a b : α}, ifb 0 7 a b = a := ifb_i (j := 0) (n := 7) (by decide) (by decide)
      have m9 : ((-9 : Int32) = -9) = True := by decide
      simp only [Nat.reduceAdd, i1_read_0, i1_read_1, i1_read_2, i1_read_5, i1_read_6, i1_read_7, i1_read_8, i1_read_11, i1_read_13, i1_read_16, i1_read_17, i1_read_18, i1_read_19, i1_read_20, i1_read_21, i1_read_22, i1_read_25, i1_read_26, i1_read_27, i1_read_29, i1_read_32, i1_read_33, i1_read_34, i1_read_35, i1_read_36, i1_read_39, i1_read_40, i1_read_41, i1_read_44, i1_read_45, i1_read_46, i1_read_49, i1_read_50, i1_read_53, i1_read_54, i1_read_55, i1_read_56, i1_read_57, i1_read_58, i1_read_61, i1_read_62, i1_read_63, i1_read_64, i1_read_65, i1_read_66, i1_read_67, i1_read_70, i1_read_71, i1_read_74, i1_readGates_0, i1_readGates_1, i1_readGates_2, i1_readGates_3, bl, by_, h1, nI_1, lf, m9, k_12, k_15, l_15, i0, z0, vs, vu, ← he1, la, ← he2, nI_3, bb, r1', pK_i, if_true, if_false, not_true_eq_false, not_false_eq_true, true_or, or_true]
    · rw [if_neg h2]
      refine ⟨σ, ?_, agr_r σ, fun x => absurd x h2⟩
      simp only [Nat.reduceAdd, i1_read_0, i1_read_1, i1_read_2, i1_read_5, i1_read_6, i1_read_7, i1_read_8, i1_read_11, i1_read_13, i1_read_16, i1_read_17, i1_read_18, i1_read_19, i1_read_20, i1_read_21, i1_read_22, i1_read_25, i1_read_26, i1_read_27, i1_read_29, i1_read_32, i1_read_33, i1_read_34, i1_read_35, i1_read_36, i1_read_39, i1_read_40, i1_read_41, i1_read_44, i1_read_45, i1_read_46, i1_read_49, i1_read_50, i1_read_53, i1_read_54, i1_read_55, i1_read_56, i1_read_57, i1_read_58, i1_read_61, i1_read_62, i1_read_63, i1_read_64, i1_read_65, i1_read_66, i1_read_67, i1_read_70, i1_read_71, i1_read_74, bl, by_, h1, nI_1, lf, h2, pK_i, if_true, if_false, not_true_eq_false, not_false_eq_true, true_or, or_true]
  · rw [if_neg h1]
    refine ⟨σ, ?_, agr_r σ, fun x => absurd x (nI_9n (by omega))⟩
    simp only [Nat.reduceAdd, i1_read_0, i1_read_1, i1_read_2, i1_read_5, i1_read_6, i1_read_7, i1_read_8, i1_read_11, i1_read_13, i1_read_16, i1_read_17, i1_read_18, i1_read_19, i1_read_20, i1_read_21, i1_read_22, i1_read_25, i1_read_26, i1_read_27, i1_read_29, i1_read_32, i1_read_33, i1_read_34, i1_read_35, i1_read_36, i1_read_39, i1_read_40, i1_read_41, i1_read_44, i1_read_45, i1_read_46, i1_read_49, i1_read_50, i1_read_53, i1_read_54, i1_read_55, i1_read_56, i1_read_57, i1_read_58, i1_read_61, i1_read_62, i1_read_63, i1_read_64, i1_read_65, i1_read_66, i1_read_67, i1_read_70, i1_read_71, i1_read_74, bl, by_, h1, pK_i, if_true, if_false, not_true_eq_false, not_false_eq_true, true_or, or_true]
end DY
