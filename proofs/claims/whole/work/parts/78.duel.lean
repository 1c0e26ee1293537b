/-! BY TURNS: what two who wind come to; the program's half -/
def flN (K : Nat → Int32) (i s : Nat) : Nat := if K i = 3 then s else s ^^^ 2 ^ i
def pick (much : Bool) (v b : Int32) : Int32 := if much = true then (if b < v then v else b) else (if v < b then v else b)
def opt (K V : Nat → Int32) (much : Bool) (s : Nat) : Nat → Int32
  | 0 => V s
  | i + 1 => pick much (V (flN K i s)) (opt K V much s i)
theorem pick_i {much : Bool} {x : Int32} : pick much x x = x := by
  unfold pick
  split
  · split <;> rfl
  · split <;> rfl
theorem pick_k {much : Bool} {x v B : Int32} (h : pick much x B = B) : pick much x (pick much v B) = pick much v B := by
  unfold pick at h ⊢
  cases much with
  | true =>
    rw [if_pos rfl] at h ⊢
    rw [if_pos rfl]
    by_cases h1 : B < v
    · rw [if_pos h1]
      by_cases h2 : v < x
      · exfalso
        have h3 : B < x := by rw [Int32.lt_iff_toInt_lt] at h1 h2 ⊢; omega
        rw [if_pos h3] at h
        rw [h] at h3
        exact Int32.lt_irrefl h3
      · rw [if_neg h2]
    · rw [if_neg h1]; exact h
  | false =>
    simp only [Bool.false_eq_true, if_false] at h ⊢
    by_cases h1 : v < B
    · rw [if_pos h1]
      by_cases h2 : x < v
      · exfalso
        have h3 : x < B := by rw [Int32.lt_iff_toInt_lt] at h1 h2 ⊢; omega
        rw [if_pos h3] at h
        rw [h] at h3
        exact Int32.lt_irrefl h3
      · rw [if_neg h2]
    · rw [if_neg h1]; exact h
theorem opt_w {K V : Nat → Int32} {much : Bool} {s : Nat} : ∀ i, pick much (V s) (opt K V much s i) = opt K V much s i := by
  intro i
  induction i with
  | zero => exact pick_i
  | succ i ih => exact pick_k ih
def Vq (K V0 : Nat → Int32) (g : Nat) : Nat → Nat → Int32
  | 0, s => V0 s
  | k + 1, s => opt K (fun t => Vq K V0 g k t) (decide (k % 2 = 1)) s g
theorem xor_sh {s i : Nat} (hs : s < 64) (hi : i < 6) : nI s ^^^ ((1 : Int32) <<< (nI i &&& 31)) = nI (s ^^^ 2 ^ i) := by
  have key : ∀ s, s < 64 → ∀ i, i < 6 → nI s ^^^ ((1 : Int32) <<< (nI i &&& 31)) = nI (s ^^^ 2 ^ i) := by decide +kernel
  exact key s hs i hi
theorem and_ag {g o : Nat} (hg : g ≤ 6) (ho : o < 2 ^ g) : nI o &&& ag g = nI o := by
  have key : ∀ g, g < 7 → ∀ o, o < 2 ^ g → nI o &&& ag g = nI o := by decide +kernel
  exact key g (by omega) o ho
theorem flN_lt {K : Nat → Int32} {g i s : Nat} (hi : i < g) (hs : s < 2 ^ g) : flN K i s < 2 ^ g := by
  unfold flN
  split
  · exact hs
  · exact Nat.xor_lt_two_pow hs (Nat.pow_lt_pow_right (by decide) hi)
section EC
variable {L : Nat} {xs : Nat → Int32} {σ : Nat → Nat → Int32} {τ : Nat → Nat → Int64} {S g d m s : Nat} {V : Nat → Int32}
theorem standsAside2 (r : qN g m σ) {op : Int32} {b n : Nat} (hb : b ≤ g) (hn : n ≤ 100) : ∃ σ', pX 103 0 [.ref 0, .int op, .int (nI b), .int (nI n)] [] (mm L xs σ τ) 85 S = some (some (.int (wat σ g op n b)), mm L xs σ' τ, 85, S) ∧ agr σ σ' ∧ (∀ c, c < 12 ∨ 15 < c → σ' c = σ c) ∧ ∀ c, c ≤ g → σ' 15 c = wat σ g op n c := by
  have hg6 := r.1
  have so := sok_N r (f := σ 74) (K := σ 72) (W := σ 73) (fun _ _ => rfl) (fun _ _ => ⟨rfl, rfl⟩)
  have A0 := AS_0 r (f := σ 74) (K := σ 72) (W := σ 73) (fun _ _ => rfl) rfl rfl (fun _ _ => ⟨rfl, rfl⟩)
  have A1 := AS_op hg6 (op := op) A0
  obtain ⟨σ', p, A⟩ := AS_turns (L := L) (xs := xs) (τ := τ) (S := S) hg6 (sok_op hg6 (op := op) so) A1 (n := n) hn
  have lv := A.2.2.2.2.2.2
  refine ⟨σ', ?_, A.1, A.2.1, lv⟩
  have e := lv b hb
  simp only [Nat.reduceAdd, i5_standsAside_0, i5_standsAside_1, i5_standsAside_4, i5_standsAside_5, i5_standsAside_8, i5_standsAside_11, i5_standsAside_14, i5_standsAside_15, i5_standsAside_18, i5_standsAside_19, i5_standsAside_22, i5_standsAside_23, i5_standsAside_26, i5_standsAside_27, i5_standsAside_30, i5_standsAside_31, i5_standsAside_32, i5_standsAside_35, i5_standsAside_38, i5_standsAside_39, i5_standsAside_40, k_3, k_12, k_15, l_15, s4_takeFrom a_12 a_4 (by decide), p, pK_v, pK_i, ifb_i (show b < 7 by omega) (by decide), cl (show b ≤ 5000 by omega), e, wat]
theorem caI {b : Bool} {e : Nat → Nat → Int32} {d5 d6 : Value} (r : qN g m σ) (ha : agr σ e) (h20 : e 20 s = V s) (h21 : ∀ t, t < 2 ^ g → e 21 t = V t) (hs : s < 2 ^ g) : ∃ d5' d6', pX 109 36 [.ref 0, .int (if b = true then 1 else 0), .int (ag g), .int (nI s), .int 0, d5, d6] [] (mm L xs e τ) 85 S = pX 109 139 [.ref 0, .int (if b = true then 1 else 0), .int (ag g), .int (nI s), .int (nI g), d5', d6'] [] (mm L xs (va_up e 20 (upd (e 20) s (opt (σ 72) V b s g))) τ) 85 S := by
  have hg6 := r.1
  obtain ⟨p64, p0⟩ := p2_64 hg6
  have r' := qN_agr ha r
  have hg := r'.2.1
  have hS : ∀ {α : Type} {a b : α}, ifb (nI s) 64 a b = a := ifb_i (by omega) (by decide)
  have hC := cl (show s ≤ 5000 by omega)
  have key := lq (δ := Value × Value) g (fun _ _ => True) (fun i d => pX 109 36 [.ref 0, .int (if b = true then 1 else 0), .int (ag g), .int (nI s), .int (nI i), d.1, d.2] [] (mm L xs (va_up e 20 (upd (e 20) s (opt (σ 72) V b s i))) τ) 85 S) (fun o => ∃ d5' d6', o = pX 109 139 [.ref 0, .int (if b = true then 1 else 0), .int (ag g), .int (nI s), .int (nI g), d5', d6'] [] (mm L xs (va_up e 20 (upd (e 20) s (opt (σ 72) V b s g))) τ) 85 S) (fun d _ => ⟨d.1, d.2, by
    simp only [Nat.reduceAdd, i5_chooseAhead_36, i5_chooseAhead_38, i5_chooseAhead_39, i5_chooseAhead_42, i5_chooseAhead_45, i5_chooseAhead_48, k_3, k_4, vn (show 4 ≠ 20 by decide), hg, Int32.lt_irrefl, if_false]⟩) (fun i hi d _ => Or.inr (by
    have hx : s ^^^ 2 ^ i < 2 ^ g := Nat.xor_lt_two_pow hs (Nat.pow_lt_pow_right (by decide) hi)
    have ex := xor_sh (s := s) (i := i) (by omega) (by omega)
    have e21 := h21 _ hx
    have wr := s4_isWeir (L := L) (xs := xs) (σ := va_up e 20 (upd (e 20) s (opt (σ 72) V b s i))) (τ := τ) (S := S) a_4 (j := i) (by omega)
    simp only [Nat.reduceAdd] at wr
    have e5 : (va_up e 20 (upd (e 20) s (opt (σ 72) V b s i))) 5 i = σ 72 i := by
      rw [vn (by decide), ha.1 5 (by unfold scr; omega) (by decide)]
      exact (r.2.2.2.1 i hi).1
    rw [e5] at wr
    have eo : opt (σ 72) V b s (i + 1) = pick b (V (flN (σ 72) i s)) (opt (σ 72) V b s i) := rfl
    have ow := opt_w (K := σ 72) (V := V) (much := b) (s := s) i
    have step : ∀ (B : Int32), B = opt (σ 72) V b s i → ∃ d' : Value × Value, pX 109 36 [.ref 0, .int (if b = true then 1 else 0), .int (ag g), .int (nI s), .int (nI i), d.1, d.2] [] (mm L xs (va_up e 20 (upd (e 20) s B)) τ) 85 S = pX 109 36 [.ref 0, .int (if b = true then 1 else 0), .int (ag g), .int (nI s), .int (nI (i + 1)), d'.1, d'.2] [] (mm L xs (va_up e 20 (upd (e 20) s (pick b (V (flN (σ 72) i s)) B))) τ) 85 S := by
      intro B hB
      rw [← hB] at wr ow
      by_cases hw : σ 72 i = 3
      · have ef : flN (σ 72) i s = s := if_pos hw
        rw [ef, ow]
        unfold pick at ow
        cases b with
        | true =>
          by_cases hl : B < V (s ^^^ 2 ^ i)
          · refine ⟨(.int (V (s ^^^ 2 ^ i)), .int 1), ?_⟩
            rw [i5_chooseAhead_36]
            simp only [Nat.reduceAdd, i5_chooseAhead_38, i5_chooseAhead_39, i5_chooseAhead_42, i5_chooseAhead_45, i5_chooseAhead_48, i5_chooseAhead_51, i5_chooseAhead_52, i5_chooseAhead_55, i5_chooseAhead_56, i5_chooseAhead_57, i5_chooseAhead_59, i5_chooseAhead_60, i5_chooseAhead_61, i5_chooseAhead_62, i5_chooseAhead_64, i5_chooseAhead_65, i5_chooseAhead_68, i5_chooseAhead_70, i5_chooseAhead_71, i5_chooseAhead_74, i5_chooseAhead_75, i5_chooseAhead_76, i5_chooseAhead_79, i5_chooseAhead_80, i5_chooseAhead_83, i5_chooseAhead_84, i5_chooseAhead_87, i5_chooseAhead_89, i5_chooseAhead_90, i5_chooseAhead_93, i5_chooseAhead_94, i5_chooseAhead_95, i5_chooseAhead_98, i5_chooseAhead_99, i5_chooseAhead_102, i5_chooseAhead_103, i5_chooseAhead_105, i5_chooseAhead_107, i5_chooseAhead_110, i5_chooseAhead_111, i5_chooseAhead_114, i5_chooseAhead_117, i5_chooseAhead_119, i5_chooseAhead_122, i5_chooseAhead_125, i5_chooseAhead_126, i5_chooseAhead_129, i5_chooseAhead_130, i5_chooseAhead_132, i5_chooseAhead_133, i5_chooseAhead_136, k_3, k_4, k_20, l_20, k_21, l_21, vn (show 4 ≠ 20 by decide), vn (show 21 ≠ 20 by decide), vs, us, hg, nlt hi (by omega), ex, ifb_i (show s ^^^ 2 ^ i < 64 by omega) (by decide), cl (show s ^^^ 2 ^ i ≤ 5000 by omega), e21, hS, hC, hl, wr, hw, bi_0, n10, pK_i, if_true, if_false, not_true_eq_false, not_false_eq_true, true_or, or_true, nI_1]
          · refine ⟨(.int (V (s ^^^ 2 ^ i)), .int 0), ?_⟩
            rw [i5_chooseAhead_36]
            simp only [Nat.reduceAdd, i5_chooseAhead_38, i5_chooseAhead_39, i5_chooseAhead_42, i5_chooseAhead_45, i5_chooseAhead_48, i5_chooseAhead_51, i5_chooseAhead_52, i5_chooseAhead_55, i5_chooseAhead_56, i5_chooseAhead_57, i5_chooseAhead_59, i5_chooseAhead_60, i5_chooseAhead_61, i5_chooseAhead_62, i5_chooseAhead_64, i5_chooseAhead_65, i5_chooseAhead_68, i5_chooseAhead_70, i5_chooseAhead_71, i5_chooseAhead_74, i5_chooseAhead_75, i5_chooseAhead_76, i5_chooseAhead_79, i5_chooseAhead_80, i5_chooseAhead_83, i5_chooseAhead_84, i5_chooseAhead_87, i5_chooseAhead_89, i5_chooseAhead_90, i5_chooseAhead_93, i5_chooseAhead_94, i5_chooseAhead_95, i5_chooseAhead_98, i5_chooseAhead_99, i5_chooseAhead_102, i5_chooseAhead_103, i5_chooseAhead_105, i5_chooseAhead_107, i5_chooseAhead_110, i5_chooseAhead_111, i5_chooseAhead_114, i5_chooseAhead_117, i5_chooseAhead_119, i5_chooseAhead_122, i5_chooseAhead_125, i5_chooseAhead_126, i5_chooseAhead_129, i5_chooseAhead_130, i5_chooseAhead_132, i5_chooseAhead_133, i5_chooseAhead_136, k_3, k_4, k_20, l_20, k_21, l_21, vn (show 4 ≠ 20 by decide), vn (show 21 ≠ 20 by decide), vs, us, hg, nlt hi (by omega), ex, ifb_i (show s ^^^ 2 ^ i < 64 by omega) (by decide), cl (show s ^^^ 2 ^ i ≤ 5000 by omega), e21, hS, hC, hl, n10, pK_i, if_true, if_false, not_true_eq_false, not_false_eq_true, true_or, or_true, nI_1]
        | false =>
          by_cases hl : V (s ^^^ 2 ^ i) < B
          · refine ⟨(.int (V (s ^^^ 2 ^ i)), .int 1), ?_⟩
            rw [i5_chooseAhead_36]
            simp only [Nat.reduceAdd, i5_chooseAhead_38, i5_chooseAhead_39, i5_chooseAhead_42, i5_chooseAhead_45, i5_chooseAhead_48, i5_chooseAhead_51, i5_chooseAhead_52, i5_chooseAhead_55, i5_chooseAhead_56, i5_chooseAhead_57, i5_chooseAhead_59, i5_chooseAhead_60, i5_chooseAhead_61, i5_chooseAhead_62, i5_chooseAhead_64, i5_chooseAhead_65, i5_chooseAhead_68, i5_chooseAhead_70, i5_chooseAhead_71, i5_chooseAhead_74, i5_chooseAhead_75, i5_chooseAhead_76, i5_chooseAhead_79, i5_chooseAhead_80, i5_chooseAhead_83, i5_chooseAhead_84, i5_chooseAhead_87, i5_chooseAhead_89, i5_chooseAhead_90, i5_chooseAhead_93, i5_chooseAhead_94, i5_chooseAhead_95, i5_chooseAhead_98, i5_chooseAhead_99, i5_chooseAhead_102, i5_chooseAhead_103, i5_chooseAhead_105, i5_chooseAhead_107, i5_chooseAhead_110, i5_chooseAhead_111, i5_chooseAhead_114, i5_chooseAhead_117, i5_chooseAhead_119, i5_chooseAhead_122, i5_chooseAhead_125, i5_chooseAhead_126, i5_chooseAhead_129, i5_chooseAhead_130, i5_chooseAhead_132, i5_chooseAhead_133, i5_chooseAhead_136, k_3, k_4, k_20, l_20, k_21, l_21, vn (show 4 ≠ 20 by decide), vn (show 21 ≠ 20 by decide), vs, us, hg, nlt hi (by omega), ex, ifb_i (show s ^^^ 2 ^ i < 64 by omega) (by decide), cl (show s ^^^ 2 ^ i ≤ 5000 by omega), e21, hS, hC, hl, wr, hw, bi_0, n10, Bool.false_eq_true, pK_i, if_true, if_false, not_true_eq_false, not_false_eq_true, true_or, or_true, nI_1]
          · refine ⟨(.int (V (s ^^^ 2 ^ i)), .int 0), ?_⟩
            rw [i5_chooseAhead_36]
            simp only [Nat.reduceAdd, i5_chooseAhead_38, i5_chooseAhead_39, i5_chooseAhead_42, i5_chooseAhead_45, i5_chooseAhead_48, i5_chooseAhead_51, i5_chooseAhead_52, i5_chooseAhead_55, i5_chooseAhead_56, i5_chooseAhead_57, i5_chooseAhead_59, i5_chooseAhead_60, i5_chooseAhead_61, i5_chooseAhead_62, i5_chooseAhead_64, i5_chooseAhead_65, i5_chooseAhead_68, i5_chooseAhead_70, i5_chooseAhead_71, i5_chooseAhead_74, i5_chooseAhead_75, i5_chooseAhead_76, i5_chooseAhead_79, i5_chooseAhead_80, i5_chooseAhead_83, i5_chooseAhead_84, i5_chooseAhead_87, i5_chooseAhead_89, i5_chooseAhead_90, i5_chooseAhead_93, i5_chooseAhead_94, i5_chooseAhead_95, i5_chooseAhead_98, i5_chooseAhead_99, i5_chooseAhead_102, i5_chooseAhead_103, i5_chooseAhead_105, i5_chooseAhead_107, i5_chooseAhead_110, i5_chooseAhead_111, i5_chooseAhead_114, i5_chooseAhead_117, i5_chooseAhead_119, i5_chooseAhead_122, i5_chooseAhead_125, i5_chooseAhead_126, i5_chooseAhead_129, i5_chooseAhead_130, i5_chooseAhead_132, i5_chooseAhead_133, i5_chooseAhead_136, k_3, k_4, k_20, l_20, k_21, l_21, vn (show 4 ≠ 20 by decide), vn (show 21 ≠ 20 by decide), vs, us, hg, nlt hi (by omega), ex, ifb_i (show s ^^^ 2 ^ i < 64 by omega) (by decide), cl (show s ^^^ 2 ^ i ≤ 5000 by omega), e21, hS, hC, hl, Bool.false_eq_true, pK_i, if_true, if_false, not_true_eq_false, not_false_eq_true, true_or, or_true, nI_1]
      · have ef : flN (σ 72) i s = s ^^^ 2 ^ i := if_neg hw
        rw [ef]
        unfold pick
        cases b with
        | true =>
          by_cases hl : B < V (s ^^^ 2 ^ i)
          · refine ⟨(.int (V (s ^^^ 2 ^ i)), .int 1), ?_⟩
            rw [i5_chooseAhead_36]
            simp only [Nat.reduceAdd, i5_chooseAhead_38, i5_chooseAhead_39, i5_chooseAhead_42, i5_chooseAhead_45, i5_chooseAhead_48, i5_chooseAhead_51, i5_chooseAhead_52, i5_chooseAhead_55, i5_chooseAhead_56, i5_chooseAhead_57, i5_chooseAhead_59, i5_chooseAhead_60, i5_chooseAhead_61, i5_chooseAhead_62, i5_chooseAhead_64, i5_chooseAhead_65, i5_chooseAhead_68, i5_chooseAhead_70, i5_chooseAhead_71, i5_chooseAhead_74, i5_chooseAhead_75, i5_chooseAhead_76, i5_chooseAhead_79, i5_chooseAhead_80, i5_chooseAhead_83, i5_chooseAhead_84, i5_chooseAhead_87, i5_chooseAhead_89, i5_chooseAhead_90, i5_chooseAhead_93, i5_chooseAhead_94, i5_chooseAhead_95, i5_chooseAhead_98, i5_chooseAhead_99, i5_chooseAhead_102, i5_chooseAhead_103, i5_chooseAhead_105, i5_chooseAhead_107, i5_chooseAhead_110, i5_chooseAhead_111, i5_chooseAhead_114, i5_chooseAhead_117, i5_chooseAhead_119, i5_chooseAhead_122, i5_chooseAhead_125, i5_chooseAhead_126, i5_chooseAhead_129, i5_chooseAhead_130, i5_chooseAhead_132, i5_chooseAhead_133, i5_chooseAhead_136, k_3, k_4, k_20, l_20, k_21, l_21, vn (show 4 ≠ 20 by decide), vn (show 21 ≠ 20 by decide), vs, vu, us, uu, hg, nlt hi (by omega), ex, ifb_i (show s ^^^ 2 ^ i < 64 by omega) (by decide), cl (show s ^^^ 2 ^ i ≤ 5000 by omega), e21, hS, hC, hl, wr, hw, bi_0, n10, pK_i, if_true, if_false, not_true_eq_false, not_false_eq_true, true_or, or_true, nI_1]
          · refine ⟨(.int (V (s ^^^ 2 ^ i)), .int 0), ?_⟩
            rw [i5_chooseAhead_36]
            simp only [Nat.reduceAdd, i5_chooseAhead_38, i5_chooseAhead_39, i5_chooseAhead_42, i5_chooseAhead_45, i5_chooseAhead_48, i5_chooseAhead_51, i5_chooseAhead_52, i5_chooseAhead_55, i5_chooseAhead_56, i5_chooseAhead_57, i5_chooseAhead_59, i5_chooseAhead_60, i5_chooseAhead_61, i5_chooseAhead_62, i5_chooseAhead_64, i5_chooseAhead_65, i5_chooseAhead_68, i5_chooseAhead_70, i5_chooseAhead_71, i5_chooseAhead_74, i5_chooseAhead_75, i5_chooseAhead_76, i5_chooseAhead_79, i5_chooseAhead_80, i5_chooseAhead_83, i5_chooseAhead_84, i5_chooseAhead_87, i5_chooseAhead_89, i5_chooseAhead_90, i5_chooseAhead_93, i5_chooseAhead_94, i5_chooseAhead_95, i5_chooseAhead_98, i5_chooseAhead_99, i5_chooseAhead_102, i5_chooseAhead_103, i5_chooseAhead_105, i5_chooseAhead_107, i5_chooseAhead_110, i5_chooseAhead_111, i5_chooseAhead_114, i5_chooseAhead_117, i5_chooseAhead_119, i5_chooseAhead_122, i5_chooseAhead_125, i5_chooseAhead_126, i5_chooseAhead_129, i5_chooseAhead_130, i5_chooseAhead_132, i5_chooseAhead_133, i5_chooseAhead_136, k_3, k_4, k_20, l_20, k_21, l_21, vn (show 4 ≠ 20 by decide), vn (show 21 ≠ 20 by decide), vs, us, hg, nlt hi (by omega), ex, ifb_i (show s ^^^ 2 ^ i < 64 by omega) (by decide), cl (show s ^^^ 2 ^ i ≤ 5000 by omega), e21, hS, hC, hl, n10, pK_i, if_true, if_false, not_true_eq_false, not_false_eq_true, true_or, or_true, nI_1]
        | false =>
          by_cases hl : V (s ^^^ 2 ^ i) < B
          · refine ⟨(.int (V (s ^^^ 2 ^ i)), .int 1), ?_⟩
            rw [i5_chooseAhead_36]
            simp only [Nat.reduceAdd, i5_chooseAhead_38, i5_chooseAhead_39, i5_chooseAhead_42, i5_chooseAhead_45, i5_chooseAhead_48, i5_chooseAhead_51, i5_chooseAhead_52, i5_chooseAhead_55, i5_chooseAhead_56, i5_chooseAhead_57, i5_chooseAhead_59, i5_chooseAhead_60, i5_chooseAhead_61, i5_chooseAhead_62, i5_chooseAhead_64, i5_chooseAhead_65, i5_chooseAhead_68, i5_chooseAhead_70, i5_chooseAhead_71, i5_chooseAhead_74, i5_chooseAhead_75, i5_chooseAhead_76, i5_chooseAhead_79, i5_chooseAhead_80, i5_chooseAhead_83, i5_chooseAhead_84, i5_chooseAhead_87, i5_chooseAhead_89, i5_chooseAhead_90, i5_chooseAhead_93, i5_chooseAhead_94, i5_chooseAhead_95, i5_chooseAhead_98, i5_chooseAhead_99, i5_chooseAhead_102, i5_chooseAhead_103, i5_chooseAhead_105, i5_chooseAhead_107, i5_chooseAhead_110, i5_chooseAhead_111, i5_chooseAhead_114, i5_chooseAhead_117, i5_chooseAhead_119, i5_chooseAhead_122, i5_chooseAhead_125, i5_chooseAhead_126, i5_chooseAhead_129, i5_chooseAhead_130, i5_chooseAhead_132, i5_chooseAhead_133, i5_chooseAhead_136, k_3, k_4, k_20, l_20, k_21, l_21, vn (show 4 ≠ 20 by decide), vn (show 21 ≠ 20 by decide), vs, vu, us, uu, hg, nlt hi (by omega), ex, ifb_i (show s ^^^ 2 ^ i < 64 by omega) (by decide), cl (show s ^^^ 2 ^ i ≤ 5000 by omega), e21, hS, hC, hl, wr, hw, bi_0, n10, Bool.false_eq_true, pK_i, if_true, if_false, not_true_eq_false, not_false_eq_true, true_or, or_true, nI_1]
          · refine ⟨(.int (V (s ^^^ 2 ^ i)), .int 0), ?_⟩
            rw [i5_chooseAhead_36]
            simp only [Nat.reduceAdd, i5_chooseAhead_38, i5_chooseAhead_39, i5_chooseAhead_42, i5_chooseAhead_45, i5_chooseAhead_48, i5_chooseAhead_51, i5_chooseAhead_52, i5_chooseAhead_55, i5_chooseAhead_56, i5_chooseAhead_57, i5_chooseAhead_59, i5_chooseAhead_60, i5_chooseAhead_61, i5_chooseAhead_62, i5_chooseAhead_64, i5_chooseAhead_65, i5_chooseAhead_68, i5_chooseAhead_70, i5_chooseAhead_71, i5_chooseAhead_74, i5_chooseAhead_75, i5_chooseAhead_76, i5_chooseAhead_79, i5_chooseAhead_80, i5_chooseAhead_83, i5_chooseAhead_84, i5_chooseAhead_87, i5_chooseAhead_89, i5_chooseAhead_90, i5_chooseAhead_93, i5_chooseAhead_94, i5_chooseAhead_95, i5_chooseAhead_98, i5_chooseAhead_99, i5_chooseAhead_102, i5_chooseAhead_103, i5_chooseAhead_105, i5_chooseAhead_107, i5_chooseAhead_110, i5_chooseAhead_111, i5_chooseAhead_114, i5_chooseAhead_117, i5_chooseAhead_119, i5_chooseAhead_122, i5_chooseAhead_125, i5_chooseAhead_126, i5_chooseAhead_129, i5_chooseAhead_130, i5_chooseAhead_132, i5_chooseAhead_133, i5_chooseAhead_136, k_3, k_4, k_20, l_20, k_21, l_21, vn (show 4 ≠ 20 by decide), vn (show 21 ≠ 20 by decide), vs, us, hg, nlt hi (by omega), ex, ifb_i (show s ^^^ 2 ^ i < 64 by omega) (by decide), cl (show s ^^^ 2 ^ i ≤ 5000 by omega), e21, hS, hC, hl, Bool.false_eq_true, pK_i, if_true, if_false, not_true_eq_false, not_false_eq_true, true_or, or_true, nI_1]
    obtain ⟨d', hd'⟩ := step _ rfl
    rw [eo]
    exact ⟨d', trivial, hd'⟩))
  have k := key (d5, d6) trivial
  have e0 : upd (e 20) s (opt (σ 72) V b s 0) = e 20 := by
    show upd (e 20) s (V s) = e 20
    rw [← h20]; exact ui _ _
  rw [e0, m_up_id, nI_0] at k
  exact k
theorem s5_chooseAhead {b : Bool} {e : Nat → Nat → Int32} (r : qN g m σ) (ha : agr σ e) (h20 : ∀ t, t < 2 ^ g → e 20 t = V t) : ∃ e', pX 109 0 [.ref 0, .int (if b = true then 1 else 0), .null, .null, .null, .null, .null] [] (mm L xs e τ) 85 S = some (none, mm L xs e' τ, 85, S) ∧ agr σ e' ∧ ∀ t, t < 2 ^ g → e' 20 t = opt (σ 72) V b t g := by
  have hg6 := r.1
  obtain ⟨p64, p0⟩ := p2_64 hg6
  have key := lq (δ := (Nat → Nat → Int32) × Value × Value × Value) (2 ^ g) (fun s d => agr σ d.1 ∧ (∀ t, t < s → d.1 20 t = opt (σ 72) V b t g) ∧ (∀ t, s ≤ t → t < 2 ^ g → d.1 20 t = V t) ∧ ∀ t, t < 2 ^ g → d.1 21 t = V t) (fun s d => pX 109 28 [.ref 0, .int (if b = true then 1 else 0), .int (ag g), .int (nI s), d.2.1, d.2.2.1, d.2.2.2] [] (mm L xs d.1 τ) 85 S) (fun o => ∃ e', o = some (none, mm L xs e' τ, 85, S) ∧ agr σ e' ∧ ∀ t, t < 2 ^ g → e' 20 t = opt (σ 72) V b t g) (fun d hd => ⟨d.1, by
    simp only [i5_chooseAhead_28, i5_chooseAhead_29, i5_chooseAhead_30, i5_chooseAhead_145, ag_lt hg6 (show 2 ^ g ≤ 5000 by omega), Nat.lt_irrefl, not_false_eq_true, if_true], hd.1, hd.2.1⟩) (fun s hs d hd => Or.inr (by
    obtain ⟨e1, d4, d5, d6⟩ := d
    obtain ⟨h1, h2, h3, h4⟩ := hd
    dsimp only at h1 h2 h3 h4
    obtain ⟨d5', d6', p⟩ := caI (L := L) (xs := xs) (τ := τ) (S := S) (b := b) (d5 := d5) (d6 := d6) r h1 (h3 s (Nat.le_refl _) hs) h4 hs
    have lt := ag_lt hg6 (show s ≤ 5000 by omega)
    refine ⟨(va_up e1 20 (upd (e1 20) s (opt (σ 72) V b s g)), .int (nI g), d5', d6'), ⟨agr_u h1 (by unfold scr; omega), fun t ht => ?_, fun t h5 ht => ?_, fun t ht => ?_⟩, ?_⟩
    · show (va_up e1 20 (upd (e1 20) s (opt (σ 72) V b s g))) 20 t = _
      rw [vs]
      by_cases q : t = s
      · subst q; rw [us]
      · rw [un q]; exact h2 t (by omega)
    · show (va_up e1 20 (upd (e1 20) s (opt (σ 72) V b s g))) 20 t = _
      rw [vs, un (by omega)]; exact h3 t (by omega) ht
    · show (va_up e1 20 (upd (e1 20) s (opt (σ 72) V b s g))) 21 t = _
      rw [vn (by decide)]; exact h4 t ht
    · rw [i5_chooseAhead_28]
      simp only [i5_chooseAhead_29, i5_chooseAhead_30, i5_chooseAhead_33, i5_chooseAhead_34, lt, hs, if_true, if_false, not_true_eq_false, not_false_eq_true, true_or, or_true]
      rw [p]
      simp only [i5_chooseAhead_139, i5_chooseAhead_142, nI_1]))
  have al := s4_allGates (L := L) (xs := xs) (σ := e) (τ := τ) (S := S) a_4 (qN_agr ha r).2.1 hg6
  have z64 : (64 : Int32).toNatClampNeg = 64 := rfl
  have c : cpk 20 21 0 0 64 := by unfold cpk; rw [l_20, l_21, z0, z64]; decide
  obtain ⟨e', q, a', l'⟩ := key (va_up e 21 (va_cpy (e 20) (e 21) 0 0 64), .null, .null, .null) ⟨agr_u ha (by unfold scr; omega), fun t ht => absurd ht (by omega), fun t _ ht => by
    show (va_up e 21 (va_cpy (e 20) (e 21) 0 0 64)) 20 t = _
    rw [vn (by decide)]; exact h20 t ht, fun t ht => by
    show (va_up e 21 (va_cpy (e 20) (e 21) 0 0 64)) 21 t = _
    rw [vs, cpy_at _ _ (by omega)]; exact h20 t ht⟩
  refine ⟨e', ?_, a', l'⟩
  rw [nI_0] at q
  simp only [Nat.reduceAdd, i5_chooseAhead_0, i5_chooseAhead_1, i5_chooseAhead_4, i5_chooseAhead_7, i5_chooseAhead_10, i5_chooseAhead_11, i5_chooseAhead_12, i5_chooseAhead_15, i5_chooseAhead_16, i5_chooseAhead_17, i5_chooseAhead_20, i5_chooseAhead_21, i5_chooseAhead_23, i5_chooseAhead_26, i5_chooseAhead_27, k_3, k_4, k_20, k_21, al, c, z0, z64, pK_i]
  exact q
noncomputable def V0q (σ : Nat → Nat → Int32) (g s : Nat) : Int32 := wat σ g (nI s) 3 0 - wat σ g (nI s) 3 g
theorem duI {n : Nat} (r : qN g m σ) : ∃ σ' d4, agr σ σ' ∧ (∀ t, t < 2 ^ g → σ' 20 t = V0q σ g t) ∧ pX 80 37 [.ref 0, .int (nI n), .int (nI g), .int 0, .null] [] (mm L xs σ τ) 85 S = pX 80 84 [.ref 0, .int (nI n), .int (nI g), .int (nI (2 ^ g)), d4] [] (mm L xs σ' τ) 85 S := by
  have hg6 := r.1
  obtain ⟨p64, p0⟩ := p2_64 hg6
  have key := lq (δ := (Nat → Nat → Int32) × Value) (2 ^ g) (fun s d => agr σ d.1 ∧ ∀ t, t < s → d.1 20 t = V0q σ g t) (fun s d => pX 80 37 [.ref 0, .int (nI n), .int (nI g), .int (nI s), d.2] [] (mm L xs d.1 τ) 85 S) (fun o => ∃ σ' d4, agr σ σ' ∧ (∀ t, t < 2 ^ g → σ' 20 t = V0q σ g t) ∧ o = pX 80 84 [.ref 0, .int (nI n), .int (nI g), .int (nI (2 ^ g)), d4] [] (mm L xs σ' τ) 85 S) (fun d hd => ⟨d.1, d.2, hd.1, hd.2, by
    have al := s4_allGates (L := L) (xs := xs) (σ := d.1) (τ := τ) (S := S) a_4 (qN_agr hd.1 r).2.1 hg6
    simp only [Nat.reduceAdd, i5_duel_37, i5_duel_38, i5_duel_39, i5_duel_42, i5_duel_45, i5_duel_48, k_3, k_4, al, pK_i, ag_lt hg6 (show 2 ^ g ≤ 5000 by omega), Nat.lt_irrefl, not_false_eq_true, if_true]⟩) (fun s hs d hd => Or.inr (by
    obtain ⟨e, d4⟩ := d
    have ha : agr σ e := hd.1
    have h2 : ∀ t, t < s → e 20 t = V0q σ g t := hd.2
    have r' := qN_agr ha r
    have al := s4_allGates (L := L) (xs := xs) (σ := e) (τ := τ) (S := S) a_4 r'.2.1 hg6
    have lt := ag_lt hg6 (show s ≤ 5000 by omega)
    obtain ⟨σ', p, a', f', l'⟩ := standsAside2 (L := L) (xs := xs) (τ := τ) (S := S) r' (op := nI s) (b := 0) (n := 3) (Nat.zero_le _) (by decide)
    rw [agr_wat ha] at p l'
    rw [nI_0, show nI 3 = 3 from rfl] at p
    have lg := l' g (Nat.le_refl _)
    refine ⟨(va_up σ' 20 (upd (σ' 20) s (V0q σ g s)), .int (wat σ g (nI s) 3 0)), ⟨agr_u (agr_t ha a') (by unfold scr; omega), fun t ht => ?_⟩, ?_⟩
    · show (va_up σ' 20 (upd (σ' 20) s (V0q σ g s))) 20 t = _
      rw [vs]
      by_cases q : t = s
      · subst q; rw [us]
      · rw [un q, f' 20 (by omega)]; exact h2 t (by omega)
    · rw [i5_duel_37]
      simp only [Nat.reduceAdd, i5_duel_38, i5_duel_39, i5_duel_42, i5_duel_45, i5_duel_48, i5_duel_51, i5_duel_52, i5_duel_53, i5_duel_54, i5_duel_55, i5_duel_58, i5_duel_60, i5_duel_61, i5_duel_64, i5_duel_65, i5_duel_67, i5_duel_68, i5_duel_71, i5_duel_74, i5_duel_75, i5_duel_76, i5_duel_77, i5_duel_78, i5_duel_81, k_3, k_4, k_12, k_15, l_15, k_20, l_20, al, p, pK_i, lt, hs, ifb_i (show g < 7 by omega) (by decide), cl (show g ≤ 5000 by omega), ifb_i (show s < 64 by omega) (by decide), cl (show s ≤ 5000 by omega), lg, V0q, if_true, if_false, not_true_eq_false, not_false_eq_true, true_or, or_true, nI_1]))
  have k := key (σ, .null) ⟨agr_r σ, fun t ht => absurd ht (by omega)⟩
  exact k
theorem duC {n : Nat} (hn : n ≤ 2) {e : Nat → Nat → Int32} {d4 : Value} (r : qN g m σ) (ha : agr σ e) (h20 : ∀ t, t < 2 ^ g → e 20 t = V0q σ g t) : ∃ σ', agr σ σ' ∧ (∀ t, t < 2 ^ g → σ' 20 t = Vq (σ 72) (V0q σ g) g (2 * n) t) ∧ pX 80 86 [.ref 0, .int (nI n), .int (nI g), .int 0, d4] [] (mm L xs e τ) 85 S = pX 80 107 [.ref 0, .int (nI n), .int (nI g), .int (nI n), d4] [] (mm L xs σ' τ) 85 S := by
  have key := lq (δ := Nat → Nat → Int32) n (fun j e => agr σ e ∧ ∀ t, t < 2 ^ g → e 20 t = Vq (σ 72) (V0q σ g) g (2 * j) t) (fun j e => pX 80 86 [.ref 0, .int (nI n), .int (nI g), .int (nI j), d4] [] (mm L xs e τ) 85 S) (fun o => ∃ σ', agr σ σ' ∧ (∀ t, t < 2 ^ g → σ' 20 t = Vq (σ 72) (V0q σ g) g (2 * n) t) ∧ o = pX 80 107 [.ref 0, .int (nI n), .int (nI g), .int (nI n), d4] [] (mm L xs σ' τ) 85 S) (fun e he => ⟨e, he.1, he.2, by
    simp only [i5_duel_86, i5_duel_87, i5_duel_88, Int32.lt_irrefl, if_false]⟩) (fun j hj e he => Or.inr (by
    obtain ⟨e1, p1, a1, l1⟩ := s5_chooseAhead (L := L) (xs := xs) (τ := τ) (S := S) (b := false) (V := fun t => Vq (σ 72) (V0q σ g) g (2 * j) t) r he.1 he.2
    have l1' : ∀ t, t < 2 ^ g → e1 20 t = Vq (σ 72) (V0q σ g) g (2 * j + 1) t := fun t ht => by
      rw [l1 t ht]
      show _ = opt (σ 72) (fun t => Vq (σ 72) (V0q σ g) g (2 * j) t) (decide ((2 * j) % 2 = 1)) t g
      rw [show decide ((2 * j) % 2 = 1) = false from decide_eq_false (by omega)]
    obtain ⟨e2, p2, a2, l2⟩ := s5_chooseAhead (L := L) (xs := xs) (τ := τ) (S := S) (b := true) (V := fun t => Vq (σ 72) (V0q σ g) g (2 * j + 1) t) r a1 l1'
    have l2' : ∀ t, t < 2 ^ g → e2 20 t = Vq (σ 72) (V0q σ g) g (2 * (j + 1)) t := fun t ht => by
      rw [l2 t ht]
      show _ = opt (σ 72) (fun t => Vq (σ 72) (V0q σ g) g (2 * j + 1) t) (decide ((2 * j + 1) % 2 = 1)) t g
      rw [show decide ((2 * j + 1) % 2 = 1) = true from decide_eq_true (by omega)]
    rw [if_neg (show ¬ (false = true) by decide)] at p1
    rw [if_pos rfl] at p2
    refine ⟨e2, ⟨a2, l2'⟩, ?_⟩
    rw [i5_duel_86]
    simp only [i5_duel_87, i5_duel_88, i5_duel_91, i5_duel_92, i5_duel_93, i5_duel_96, i5_duel_97, i5_duel_98, i5_duel_101, i5_duel_104, nlt hj (by omega), p1, p2, pK_v, if_true, nI_1]))
  have k := key e ⟨ha, h20⟩
  rw [nI_0] at k
  exact k
end EC
