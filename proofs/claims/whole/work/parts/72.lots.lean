/-! THE CALLS: lots -/
def lby (x : Nat) : Nat := x / 8 % 8
def lch (x : Nat) : Int32 := if lby x = 6 then 5 else -5
noncomputable def lc (x g d : Nat) (e : Nat → Nat → Int32) : Nat → Nat → Int32 := if lby x ≤ 3 then tuC (bdC e d) g else if 6 ≤ lby x then chC (bdC e d) (x / 64 % (g + 1)) (lch x) else if e 5 (x % g) = 3 then bdC e d else flpC (bdC e d) (x % g)
noncomputable def lr (x g d : Nat) (e : Nat → Nat → Int32) : Nat → Nat → Int32 := if lby x ≤ 3 then tuR (ntR e d) g else if 6 ≤ lby x then chR (ntR e d) (x / 64 % (g + 1)) (lch x) else if e 72 (x % g) = 3 then ntR e d else flpR (ntR e d) (x % g)
def mix (a b : Nat → Nat → Int32) : Nat → Nat → Int32 := fun c => if c ≤ 66 then a c else b c
theorem mix_l {a b : Nat → Nat → Int32} {c : Nat} (h : c ≤ 66) : mix a b c = a c := if_pos h
theorem mix_r {a b : Nat → Nat → Int32} {c : Nat} (h : 66 < c) : mix a b c = b c := if_neg (by omega)
theorem mix_ul {a b : Nat → Nat → Int32} {k : Nat} {f : Nat → Int32} (h : k ≤ 66) : va_up (mix a b) k f = mix (va_up a k f) b := by
  funext c
  by_cases e : c = k
  · subst e; rw [vs, mix_l h, vs]
  · rw [vn e]
    by_cases h2 : c ≤ 66
    · rw [mix_l h2, mix_l h2, vn e]
    · rw [mix_r (by omega), mix_r (by omega)]
theorem mix_ur {a b : Nat → Nat → Int32} {k : Nat} {f : Nat → Int32} (h : 66 < k) : va_up (mix a b) k f = mix a (va_up b k f) := by
  funext c
  by_cases e : c = k
  · subst e; rw [vs, mix_r h, vs]
  · rw [vn e]
    by_cases h2 : c ≤ 66
    · rw [mix_l h2, mix_l h2]
    · rw [mix_r (by omega), mix_r (by omega), vn e]
theorem lc_mix {x g d : Nat} {a b : Nat → Nat → Int32} : lc x g d (mix a b) = mix (lc x g d a) b := by
  have e1 : bdC (mix a b) d = mix (bdC a d) b := by unfold bdC; simp (disch := omega) only [mix_l, mix_ul]
  have e2 : ∀ a', tuC (mix a' b) g = mix (tuC a' g) b := fun a' => by unfold tuC; simp (disch := omega) only [mix_l, mix_ul]
  have e3 : ∀ a' j n, chC (mix a' b) j n = mix (chC a' j n) b := fun a' j n => by unfold chC; simp (disch := omega) only [mix_l, mix_ul]
  have e4 : ∀ a' j, flpC (mix a' b) j = mix (flpC a' j) b := fun a' j => by unfold flpC; simp (disch := omega) only [mix_l, mix_ul]
  have e5 : (mix a b) 5 = a 5 := mix_l (by decide)
  unfold lc
  rw [e1, e2, e3, e4, e5]
  split
  · rfl
  · split
    · rfl
    · split <;> rfl
theorem lr_mix {x g d : Nat} {a b : Nat → Nat → Int32} : lr x g d (mix a b) = mix a (lr x g d b) := by
  have e1 : ntR (mix a b) d = mix a (ntR b d) := by unfold ntR; simp (disch := omega) only [mix_r, mix_ur]
  have e2 : ∀ b', tuR (mix a b') g = mix a (tuR b' g) := fun b' => by unfold tuR; simp (disch := omega) only [mix_r, mix_ur]
  have e3 : ∀ b' j n, chR (mix a b') j n = mix a (chR b' j n) := fun b' j n => by unfold chR; simp (disch := omega) only [mix_r, mix_ur]
  have e4 : ∀ b' j, flpR (mix a b') j = mix a (flpR b' j) := fun b' j => by unfold flpR; simp (disch := omega) only [mix_r, mix_ur]
  have e5 : (mix a b) 72 = b 72 := mix_r (by decide)
  unfold lr
  rw [e1, e2, e3, e4, e5]
  split
  · rfl
  · split
    · rfl
    · split <;> rfl
theorem lc_n {x g d c : Nat} {e : Nat → Nat → Int32} (h : 66 < c) : lc x g d e c = e c := by
  unfold lc
  split
  · simp (disch := omega) only [tuC, bdC, vn']
  · split
    · simp (disch := omega) only [chC, bdC, vn']
    · split
      · simp (disch := omega) only [bdC, vn']
      · simp (disch := omega) only [flpC, bdC, vn']
theorem lch_r (x : Nat) : -9 ≤ (lch x).toInt ∧ (lch x).toInt ≤ 9 := by
  unfold lch
  split
  · exact ⟨by decide, by decide⟩
  · exact ⟨by decide, by decide⟩
theorem rc_m {g m : Nat} {x y : Nat → Int32} {o n : Int32} (r : rc g x o n y m) : rc g x o n y (m + 1) := by
  obtain ⟨a, b, ⟨v, hv, e⟩⟩ := r
  exact ⟨a, b, ⟨v, by omega, e⟩⟩
theorem lot_rel {g d x : Nat} {σ : Nat → Nat → Int32} {τ : Nat → Nat → Int64} (R : Rel g d σ τ) (h : 0 < g) (hd : d < 40) : Rel g (d + 1) (lr x g d (lc x g d σ)) τ := by
  have hg6 := R.1.1
  have hi : x % g < g := Nat.mod_lt _ h
  have hb : x / 64 % (g + 1) < g + 1 := Nat.mod_lt _ (by omega)
  have hw : (lc x g d σ) 72 (x % g) = σ 5 (x % g) := by rw [lc_n (by decide)]; exact (R.1.2.2.2.1 _ hi).1.symm
  by_cases h1 : lby x ≤ 3
  · have e1 : lc x g d σ = tuC (bdC σ d) g := if_pos h1
    have e2 : ∀ e, lr x g d e = tuR (ntR e d) g := fun e => if_pos h1
    rw [e2, e1]
    refine Rel_deed R hd h ?_ ?_ ?_ ?_ ?_ ?_ ?_ ?_ ?_ ?_
    · intro c h1 h2 h3 h4 h5 h6 h7 h8 h9
      simp (disch := omega) only [tuR, ntR, tuC, bdC, vn']
    · intro i hi
      simp (disch := omega) only [tuR, ntR, tuC, bdC, vn', vs, un]
    · simp (disch := omega) only [tuR, ntR, tuC, bdC, vn', vs, un]
    · simp (disch := omega) only [tuR, ntR, tuC, bdC, vn', vs, us]
    · simp (disch := omega) only [tuR, ntR, tuC, bdC, vn', vs, us]
    · simp (disch := omega) only [tuR, ntR, tuC, bdC, vn', vs, us]
    · simp (disch := omega) only [tuR, ntR, tuC, bdC, vn', vs, us]
    · simp (disch := omega) only [tuR, ntR, tuC, bdC, vn', vs, us]
    · simp (disch := omega) only [tuR, ntR, tuC, bdC, vn', vs, us]
    · have q := turn_rc R.1
      simp (disch := omega) only [tuR, ntR, tuC, bdC, vn', vs, us, un]
      exact q
  · by_cases h2 : 6 ≤ lby x
    · have e1 : lc x g d σ = chC (bdC σ d) (x / 64 % (g + 1)) (lch x) := by unfold lc; rw [if_neg h1, if_pos h2]
      have e2 : ∀ e, lr x g d e = chR (ntR e d) (x / 64 % (g + 1)) (lch x) := fun e => by unfold lr; rw [if_neg h1, if_pos h2]
      rw [e2, e1]
      obtain ⟨l1, l2⟩ := qN_w R.1 (x / 64 % (g + 1)) (by omega)
      obtain ⟨n1, n2⟩ := lch_r x
      generalize x / 64 % (g + 1) = j at hb l1 l2 ⊢
      generalize lch x = n at n1 n2 ⊢
      obtain ⟨q1, q2⟩ := cha_eq (n := n) l2 n1 n2
      refine Rel_deed R hd h ?_ ?_ ?_ ?_ ?_ ?_ ?_ ?_ ?_ ?_
      · intro c h1 h2 h3 h4 h5 h6 h7 h8 h9
        simp (disch := omega) only [chR, ntR, chC, bdC, vn']
      · intro i hi
        simp (disch := omega) only [chR, ntR, chC, bdC, vn', vs, un]
      · simp (disch := omega) only [chR, ntR, chC, bdC, vn', vs, un]
      · simp (disch := omega) only [chR, ntR, chC, bdC, vn', vs, us]
      · simp (disch := omega) only [chR, ntR, chC, bdC, vn', vs, us]
      · simp (disch := omega) only [chR, ntR, chC, bdC, vn', vs, us]
      · simp (disch := omega) only [chR, ntR, chC, bdC, vn', vs, us]
      · simp (disch := omega) only [chR, ntR, chC, bdC, vn', vs, us]
      · simp (disch := omega) only [chR, ntR, chC, bdC, vn', vs, us]
      · have q := ch_rc R.1 (show j ≤ g by omega) q1 q2
        simp (disch := omega) only [chR, ntR, chC, bdC, vn', vs, us, un]
        exact q
    · by_cases h3 : σ 5 (x % g) = 3
      · have e1 : lc x g d σ = bdC σ d := by unfold lc; rw [if_neg h1, if_neg h2, if_pos h3]
        have e2 : lr x g d (lc x g d σ) = ntR (lc x g d σ) d := by unfold lr; rw [if_neg h1, if_neg h2, if_pos (hw.trans h3)]
        rw [e2, e1]
        refine Rel_deed R hd h ?_ ?_ ?_ ?_ ?_ ?_ ?_ ?_ ?_ ?_
        · intro c h1 h2 h3 h4 h5 h6 h7 h8 h9
          simp (disch := omega) only [ntR, bdC, vn']
        · intro i hi
          simp (disch := omega) only [ntR, bdC, vn', vs, un]
        · simp (disch := omega) only [ntR, bdC, vn', vs, un]
        · simp (disch := omega) only [ntR, bdC, vn', vs, us]
        · simp (disch := omega) only [ntR, bdC, vn', vs, us]
        · simp (disch := omega) only [ntR, bdC, vn', vs, us]
        · simp (disch := omega) only [ntR, bdC, vn', vs, us]
        · simp (disch := omega) only [ntR, bdC, vn', vs, us]
        · simp (disch := omega) only [ntR, bdC, vn', vs, us]
        · have q := rc_m R.1.2.2.2.2.1
          simp (disch := omega) only [ntR, bdC, vn', vs, us, un]
          exact q
      · have e1 : lc x g d σ = flpC (bdC σ d) (x % g) := by unfold lc; rw [if_neg h1, if_neg h2, if_neg h3]
        have e2 : lr x g d (lc x g d σ) = flpR (ntR (lc x g d σ) d) (x % g) := by unfold lr; rw [if_neg h1, if_neg h2, if_neg (fun q => h3 (hw.symm.trans q))]
        rw [e2, e1]
        generalize x % g = j at hi ⊢
        refine Rel_deed R hd h ?_ ?_ ?_ ?_ ?_ ?_ ?_ ?_ ?_ ?_
        · intro c h1 h2 h3 h4 h5 h6 h7 h8 h9
          simp (disch := omega) only [flpR, ntR, flpC, bdC, vn']
        · intro i hi
          simp (disch := omega) only [flpR, ntR, flpC, bdC, vn', vs, un]
        · simp (disch := omega) only [flpR, ntR, flpC, bdC, vn', vs, un]
        · simp (disch := omega) only [flpR, ntR, flpC, bdC, vn', vs, us]
        · simp (disch := omega) only [flpR, ntR, flpC, bdC, vn', vs, us]
        · simp (disch := omega) only [flpR, ntR, flpC, bdC, vn', vs, us]
        · simp (disch := omega) only [flpR, ntR, flpC, bdC, vn', vs, us]
        · simp (disch := omega) only [flpR, ntR, flpC, bdC, vn', vs, us]
        · simp (disch := omega) only [flpR, ntR, flpC, bdC, vn', vs, us]
        · have q := flp_rc R.1 hi
          simp (disch := omega) only [flpR, ntR, flpC, bdC, vn', vs, us, un]
          exact q
section DW
variable {L : Nat} {xs : Nat → Int32} {σ : Nat → Nat → Int32} {τ : Nat → Nat → Int64} {S g d m x : Nat}
theorem lo8 : (8 : Int64) = lN 8 := rfl
theorem lo64 : (64 : Int64) = lN 64 := rfl
theorem s5_doByLot (hg : σ 4 3 = nI g) (h0 : 0 < g) (hg6 : g ≤ 6) (hd : σ 3 4 = nI d) (h40 : d < 40) (hx : x < 2 ^ 31) : pX 102 0 [.ref 0, .long (lN x), .null, .null, .null, .null, .null] [] (mm L xs σ τ) 85 S = some (none, mm L xs (lc x g d σ) τ, 85, S) := by
  have hi : x % g < g := Nat.mod_lt _ h0
  have hb : x / 64 % (g + 1) < g + 1 := Nat.mod_lt _ (by omega)
  have h8 : lby x < 8 := Nat.mod_lt _ (by decide)
  have q0 : ((0 : Int32) < nI g) = True := nlt (a := 0) h0 (by omega)
  have z8 : ¬ lN 8 = 0 := lN_ne0 (by decide) (by decide)
  have z64 : ¬ lN 64 = 0 := lN_ne0 (by decide) (by decide)
  have zg : ¬ lN g = 0 := lN_ne0 h0 (by omega)
  have zg1 : ¬ lN (g + 1) = 0 := lN_ne0 (by omega) (by omega)
  have r1 : lN x / lN 8 = lN (x / 8) := pk_lDiv (by omega) (by decide) (by decide)
  have r2 : lN (x / 8) - lN (x / 8) / lN 8 * lN 8 = lN (lby x) := pk_lRem (by omega) (by decide) (by decide)
  have r3 : lN x - lN x / lN g * lN g = lN (x % g) := pk_lRem (by omega) h0 (by omega)
  have r4 : lN x / lN 64 = lN (x / 64) := pk_lDiv (by omega) (by decide) (by decide)
  have r5 : lN (x / 64) - lN (x / 64) / lN (g + 1) * lN (g + 1) = lN (x / 64 % (g + 1)) := pk_lRem (by omega) (by omega) (by omega)
  have bd := s0_beginDeed (L := L) (xs := xs) (τ := τ) (S := S) hd h40
  have f1 : (bdC σ d) 4 3 = nI g := by rw [bdC_n (by decide) (by decide)]; exact hg
  by_cases h1 : lby x ≤ 3
  · have e1 : lc x g d σ = tuC (bdC σ d) g := if_pos h1
    have q3 : ((3 : Int32) < nI (lby x)) = False := nnl (a := 3) h1 (by omega)
    rw [e1]
    simp only [Nat.reduceAdd, i5_doByLot_0, i5_doByLot_1, i5_doByLot_4, i5_doByLot_7, i5_doByLot_10, i5_doByLot_11, i5_doByLot_12, i5_doByLot_15, i5_doByLot_16, i5_doByLot_17, i5_doByLot_20, i5_doByLot_23, i5_doByLot_24, i5_doByLot_27, i5_doByLot_28, i5_doByLot_31, i5_doByLot_32, i5_doByLot_33, i5_doByLot_35, i5_doByLot_36, i5_doByLot_37, i5_doByLot_38, i5_doByLot_39, i5_doByLot_40, i5_doByLot_42, i5_doByLot_43, i5_doByLot_46, i5_doByLot_47, i5_doByLot_48, i5_doByLot_49, i5_doByLot_50, i5_doByLot_51, i5_doByLot_52, i5_doByLot_53, i5_doByLot_55, i5_doByLot_57, i5_doByLot_58, i5_doByLot_61, i5_doByLot_62, i5_doByLot_65, i5_doByLot_68, i5_doByLot_69, i5_doByLot_72, i5_doByLot_73, i5_doByLot_76, i5_doByLot_78, i5_doByLot_80, i5_doByLot_83, i5_doByLot_84, i5_doByLot_87, i5_doByLot_90, i5_doByLot_92, i5_doByLot_94, i5_doByLot_96, i5_doByLot_99, i5_doByLot_100, i5_doByLot_145, k_3, k_4, hg, q0, bd, lo8, lo64, nI_l (show g < 2 ^ 31 by omega), nI_1, nI_l (show g + 1 < 2 ^ 31 by omega), z8, z64, zg, zg1, r1, r2, r3, r4, r5, lN_i, q3, t4_passTurn f1 hg6, pK_i, pK_v, if_true, if_false, not_true_eq_false, not_false_eq_true, true_or, or_true]
  · have q3 : ((3 : Int32) < nI (lby x)) = True := nlt (a := 3) (b := lby x) (by omega) (by omega)
    by_cases h2 : 6 ≤ lby x
    · have e1 : lc x g d σ = chC (bdC σ d) (x / 64 % (g + 1)) (lch x) := by unfold lc; rw [if_neg h1, if_pos h2]
      have q6 : (nI (lby x) < 6) = False := nnl (b := 6) (by omega) (by omega)
      have tc := fun n => t4_change (L := L) (xs := xs) (σ := bdC σ d) (τ := τ) (S := S) (j := x / 64 % (g + 1)) (n := n) (by omega)
      rw [e1]
      unfold lch
      by_cases h6 : lby x = 6
      · have q7 : nI (lby x) = 6 := by rw [h6]; rfl
        rw [if_pos h6]
        simp only [Nat.reduceAdd, i5_doByLot_0, i5_doByLot_1, i5_doByLot_4, i5_doByLot_7, i5_doByLot_10, i5_doByLot_11, i5_doByLot_12, i5_doByLot_15, i5_doByLot_16, i5_doByLot_17, i5_doByLot_20, i5_doByLot_23, i5_doByLot_24, i5_doByLot_27, i5_doByLot_28, i5_doByLot_31, i5_doByLot_32, i5_doByLot_33, i5_doByLot_35, i5_doByLot_36, i5_doByLot_37, i5_doByLot_38, i5_doByLot_39, i5_doByLot_40, i5_doByLot_42, i5_doByLot_43, i5_doByLot_46, i5_doByLot_47, i5_doByLot_48, i5_doByLot_49, i5_doByLot_50, i5_doByLot_51, i5_doByLot_52, i5_doByLot_53, i5_doByLot_55, i5_doByLot_57, i5_doByLot_58, i5_doByLot_61, i5_doByLot_62, i5_doByLot_65, i5_doByLot_68, i5_doByLot_69, i5_doByLot_72, i5_doByLot_73, i5_doByLot_76, i5_doByLot_78, i5_doByLot_80, i5_doByLot_83, i5_doByLot_84, i5_doByLot_87, i5_doByLot_90, i5_doByLot_92, i5_doByLot_94, i5_doByLot_96, i5_doByLot_99, i5_doByLot_100, i5_doByLot_103, i5_doByLot_105, i5_doByLot_108, i5_doByLot_111, i5_doByLot_112, i5_doByLot_115, i5_doByLot_118, i5_doByLot_120, i5_doByLot_123, i5_doByLot_126, i5_doByLot_127, i5_doByLot_130, i5_doByLot_133, i5_doByLot_134, i5_doByLot_137, i5_doByLot_138, i5_doByLot_140, i5_doByLot_141, i5_doByLot_142, i5_doByLot_145, k_3, k_4, hg, q0, bd, lo8, lo64, nI_l (show g < 2 ^ 31 by omega), nI_1, nI_l (show g + 1 < 2 ^ 31 by omega), z8, z64, zg, zg1, r1, r2, r3, r4, r5, lN_i, q3, q6, q7, tc, pK_i, pK_v, if_true, if_false, not_true_eq_false, not_false_eq_true, true_or, or_true, Int32.lt_irrefl, show ((3 : Int32) < 6) = True from by decide]
      · have q7 : ¬ nI (lby x) = 6 := fun e => h6 ((nI_eq (a := lby x) (b := 6) (by omega) (by omega)).mp e)
        rw [if_neg h6]
        simp only [Nat.reduceAdd, i5_doByLot_0, i5_doByLot_1, i5_doByLot_4, i5_doByLot_7, i5_doByLot_10, i5_doByLot_11, i5_doByLot_12, i5_doByLot_15, i5_doByLot_16, i5_doByLot_17, i5_doByLot_20, i5_doByLot_23, i5_doByLot_24, i5_doByLot_27, i5_doByLot_28, i5_doByLot_31, i5_doByLot_32, i5_doByLot_33, i5_doByLot_35, i5_doByLot_36, i5_doByLot_37, i5_doByLot_38, i5_doByLot_39, i5_doByLot_40, i5_doByLot_42, i5_doByLot_43, i5_doByLot_46, i5_doByLot_47, i5_doByLot_48, i5_doByLot_49, i5_doByLot_50, i5_doByLot_51, i5_doByLot_52, i5_doByLot_53, i5_doByLot_55, i5_doByLot_57, i5_doByLot_58, i5_doByLot_61, i5_doByLot_62, i5_doByLot_65, i5_doByLot_68, i5_doByLot_69, i5_doByLot_72, i5_doByLot_73, i5_doByLot_76, i5_doByLot_78, i5_doByLot_80, i5_doByLot_83, i5_doByLot_84, i5_doByLot_87, i5_doByLot_90, i5_doByLot_92, i5_doByLot_94, i5_doByLot_96, i5_doByLot_99, i5_doByLot_100, i5_doByLot_103, i5_doByLot_105, i5_doByLot_108, i5_doByLot_111, i5_doByLot_112, i5_doByLot_115, i5_doByLot_118, i5_doByLot_120, i5_doByLot_123, i5_doByLot_126, i5_doByLot_127, i5_doByLot_130, i5_doByLot_133, i5_doByLot_134, i5_doByLot_137, i5_doByLot_138, i5_doByLot_140, i5_doByLot_141, i5_doByLot_142, i5_doByLot_145, k_3, k_4, hg, q0, bd, lo8, lo64, nI_l (show g < 2 ^ 31 by omega), nI_1, nI_l (show g + 1 < 2 ^ 31 by omega), z8, z64, zg, zg1, r1, r2, r3, r4, r5, lN_i, q3, q6, q7, tc, pK_i, pK_v, if_true, if_false, not_true_eq_false, not_false_eq_true, true_or, or_true]
    · have q6 : (nI (lby x) < 6) = True := nlt (b := 6) (by omega) (by omega)
      have wr := s4_isWeir (L := L) (xs := xs) (σ := bdC σ d) (τ := τ) (S := S) a_4 (j := x % g) (by omega)
      simp only [Nat.reduceAdd] at wr
      rw [bdC_n (show 5 ≠ 3 by decide) (by decide)] at wr
      by_cases h3 : σ 5 (x % g) = 3
      · have e1 : lc x g d σ = bdC σ d := by unfold lc; rw [if_neg h1, if_neg h2, if_pos h3]
        rw [e1]
        simp only [Nat.reduceAdd, i5_doByLot_0, i5_doByLot_1, i5_doByLot_4, i5_doByLot_7, i5_doByLot_10, i5_doByLot_11, i5_doByLot_12, i5_doByLot_15, i5_doByLot_16, i5_doByLot_17, i5_doByLot_20, i5_doByLot_23, i5_doByLot_24, i5_doByLot_27, i5_doByLot_28, i5_doByLot_31, i5_doByLot_32, i5_doByLot_33, i5_doByLot_35, i5_doByLot_36, i5_doByLot_37, i5_doByLot_38, i5_doByLot_39, i5_doByLot_40, i5_doByLot_42, i5_doByLot_43, i5_doByLot_46, i5_doByLot_47, i5_doByLot_48, i5_doByLot_49, i5_doByLot_50, i5_doByLot_51, i5_doByLot_52, i5_doByLot_53, i5_doByLot_55, i5_doByLot_57, i5_doByLot_58, i5_doByLot_61, i5_doByLot_62, i5_doByLot_65, i5_doByLot_68, i5_doByLot_69, i5_doByLot_72, i5_doByLot_73, i5_doByLot_76, i5_doByLot_78, i5_doByLot_80, i5_doByLot_83, i5_doByLot_84, i5_doByLot_87, i5_doByLot_90, i5_doByLot_92, i5_doByLot_94, i5_doByLot_96, i5_doByLot_99, i5_doByLot_100, i5_doByLot_103, i5_doByLot_105, i5_doByLot_108, i5_doByLot_111, i5_doByLot_112, i5_doByLot_115, i5_doByLot_118, i5_doByLot_120, i5_doByLot_123, i5_doByLot_126, i5_doByLot_127, i5_doByLot_130, i5_doByLot_133, i5_doByLot_134, i5_doByLot_137, i5_doByLot_138, i5_doByLot_140, i5_doByLot_141, i5_doByLot_142, i5_doByLot_145, k_3, k_4, hg, q0, bd, lo8, lo64, nI_l (show g < 2 ^ 31 by omega), nI_1, nI_l (show g + 1 < 2 ^ 31 by omega), z8, z64, zg, zg1, r1, r2, r3, r4, r5, lN_i, q3, q6, wr, h3, bi_0, pK_i, pK_v, if_true, if_false, not_true_eq_false, not_false_eq_true, true_or, or_true]
      · have e1 : lc x g d σ = flpC (bdC σ d) (x % g) := by unfold lc; rw [if_neg h1, if_neg h2, if_neg h3]
        rw [e1]
        unfold flpC sh
        simp only [Nat.reduceAdd, i5_doByLot_0, i5_doByLot_1, i5_doByLot_4, i5_doByLot_7, i5_doByLot_10, i5_doByLot_11, i5_doByLot_12, i5_doByLot_15, i5_doByLot_16, i5_doByLot_17, i5_doByLot_20, i5_doByLot_23, i5_doByLot_24, i5_doByLot_27, i5_doByLot_28, i5_doByLot_31, i5_doByLot_32, i5_doByLot_33, i5_doByLot_35, i5_doByLot_36, i5_doByLot_37, i5_doByLot_38, i5_doByLot_39, i5_doByLot_40, i5_doByLot_42, i5_doByLot_43, i5_doByLot_46, i5_doByLot_47, i5_doByLot_48, i5_doByLot_49, i5_doByLot_50, i5_doByLot_51, i5_doByLot_52, i5_doByLot_53, i5_doByLot_55, i5_doByLot_57, i5_doByLot_58, i5_doByLot_61, i5_doByLot_62, i5_doByLot_65, i5_doByLot_68, i5_doByLot_69, i5_doByLot_72, i5_doByLot_73, i5_doByLot_76, i5_doByLot_78, i5_doByLot_80, i5_doByLot_83, i5_doByLot_84, i5_doByLot_87, i5_doByLot_90, i5_doByLot_92, i5_doByLot_94, i5_doByLot_96, i5_doByLot_99, i5_doByLot_100, i5_doByLot_103, i5_doByLot_105, i5_doByLot_108, i5_doByLot_111, i5_doByLot_112, i5_doByLot_115, i5_doByLot_118, i5_doByLot_120, i5_doByLot_123, i5_doByLot_126, i5_doByLot_127, i5_doByLot_130, i5_doByLot_133, i5_doByLot_134, i5_doByLot_137, i5_doByLot_138, i5_doByLot_140, i5_doByLot_141, i5_doByLot_142, i5_doByLot_145, k_3, k_4, hg, q0, bd, lo8, lo64, nI_l (show g < 2 ^ 31 by omega), nI_1, nI_l (show g + 1 < 2 ^ 31 by omega), z8, z64, zg, zg1, r1, r2, r3, r4, r5, lN_i, q3, q6, wr, h3, bi_0, pK_i, pK_v, if_true, if_false, not_true_eq_false, not_false_eq_true, true_or, or_true]
theorem s6_lot (hg : σ 67 4 = nI g) (h0 : 0 < g) (hg6 : g ≤ 6) (hd : σ 67 8 = nI d) (h40 : d < 40) (hk : ∀ i, i < g → kd6 (σ 72 i)) (hx : x < 2 ^ 31) : pX 210 0 [.ref 67, .long (lN x), .null, .null, .null, .null] [] (mm L xs σ τ) 85 S = some (none, mm L xs (lr x g d σ) τ, 85, S) := by
  have hi : x % g < g := Nat.mod_lt _ h0
  have hb : x / 64 % (g + 1) < g + 1 := Nat.mod_lt _ (by omega)
  have h8 : lby x < 8 := Nat.mod_lt _ (by decide)
  have z8 : ¬ lN 8 = 0 := lN_ne0 (by decide) (by decide)
  have z64 : ¬ lN 64 = 0 := lN_ne0 (by decide) (by decide)
  have zg : ¬ lN g = 0 := lN_ne0 h0 (by omega)
  have zg1 : ¬ lN (g + 1) = 0 := lN_ne0 (by omega) (by omega)
  have r1 : lN x / lN 8 = lN (x / 8) := pk_lDiv (by omega) (by decide) (by decide)
  have r2 : lN (x / 8) - lN (x / 8) / lN 8 * lN 8 = lN (lby x) := pk_lRem (by omega) (by decide) (by decide)
  have r3 : lN x - lN x / lN g * lN g = lN (x % g) := pk_lRem (by omega) h0 (by omega)
  have r4 : lN x / lN 64 = lN (x / 64) := pk_lDiv (by omega) (by decide) (by decide)
  have r5 : lN (x / 64) - lN (x / 64) / lN (g + 1) * lN (g + 1) = lN (x / 64 % (g + 1)) := pk_lRem (by omega) (by omega) (by omega)
  have nt := t6_notes (L := L) (xs := xs) (τ := τ) (S := S) hd h40
  have f1 : (ntR σ d) 67 4 = nI g := by rw [ntR_67 (by decide)]; exact hg
  have f72 : (ntR σ d) 72 = σ 72 := ntR_n (by decide) (by decide)
  have hS : ∀ {α : Type} {a b : α}, ifb (nI (x % g)) 6 a b = a := ifb_i (show x % g < 6 by omega) (by decide)
  have hC := cl (show x % g ≤ 5000 by omega)
  by_cases h1 : lby x ≤ 3
  · have e1 : lr x g d σ = tuR (ntR σ d) g := if_pos h1
    have q3 : (nI (lby x) < 4) = True := nlt (b := 4) (by omega) (by omega)
    rw [e1]
    simp only [Nat.reduceAdd, i6_lot_0, i6_lot_1, i6_lot_4, i6_lot_5, i6_lot_8, i6_lot_9, i6_lot_10, i6_lot_11, i6_lot_12, i6_lot_13, i6_lot_16, i6_lot_17, i6_lot_18, i6_lot_19, i6_lot_21, i6_lot_22, i6_lot_25, i6_lot_26, i6_lot_27, i6_lot_30, i6_lot_31, i6_lot_32, i6_lot_33, i6_lot_34, i6_lot_35, i6_lot_37, i6_lot_38, i6_lot_41, i6_lot_42, i6_lot_43, i6_lot_46, i6_lot_47, i6_lot_48, i6_lot_51, i6_lot_52, i6_lot_55, i6_lot_56, i6_lot_59, i6_lot_60, i6_lot_62, i6_lot_65, i6_lot_66, i6_lot_69, i6_lot_71, i6_lot_72, i6_lot_73, i6_lot_74, i6_lot_77, i6_lot_79, i6_lot_80, i6_lot_81, i6_lot_84, i6_lot_85, i6_lot_88, i6_lot_89, i6_lot_91, i6_lot_92, i6_lot_93, i6_lot_94, i6_lot_97, i6_lot_98, i6_lot_100, i6_lot_101, i6_lot_103, i6_lot_106, i6_lot_107, i6_lot_110, i6_lot_112, i6_lot_115, hg, nt, lo8, lo64, nI_l (show g < 2 ^ 31 by omega), nI_1, nI_l (show g + 1 < 2 ^ 31 by omega), z8, z64, zg, zg1, r1, r2, r3, r4, r5, lN_i, q3, t6_turnOn f1 hg6 (by rw [f72]; exact hk), pK_i, pK_v, if_true, if_false, not_true_eq_false, not_false_eq_true, true_or, or_true]
  · have q3 : (nI (lby x) < 4) = False := nnl (b := 4) (by omega) (by omega)
    by_cases h2 : 6 ≤ lby x
    · have e1 : lr x g d σ = chR (ntR σ d) (x / 64 % (g + 1)) (lch x) := by unfold lr; rw [if_neg h1, if_pos h2]
      have q6 : (nI (lby x) < 6) = False := nnl (b := 6) (by omega) (by omega)
      have tc := fun n => t6_comes (L := L) (xs := xs) (σ := ntR σ d) (τ := τ) (S := S) (j := x / 64 % (g + 1)) (n := n) (by omega)
      rw [e1]
      unfold lch
      by_cases h6 : lby x = 6
      · have q7 : nI (lby x) = 6 := by rw [h6]; rfl
        rw [if_pos h6]
        simp only [Nat.reduceAdd, i6_lot_0, i6_lot_1, i6_lot_4, i6_lot_5, i6_lot_8, i6_lot_9, i6_lot_10, i6_lot_11, i6_lot_12, i6_lot_13, i6_lot_16, i6_lot_17, i6_lot_18, i6_lot_19, i6_lot_21, i6_lot_22, i6_lot_25, i6_lot_26, i6_lot_27, i6_lot_30, i6_lot_31, i6_lot_32, i6_lot_33, i6_lot_34, i6_lot_35, i6_lot_37, i6_lot_38, i6_lot_41, i6_lot_42, i6_lot_43, i6_lot_46, i6_lot_47, i6_lot_48, i6_lot_51, i6_lot_52, i6_lot_55, i6_lot_56, i6_lot_59, i6_lot_60, i6_lot_62, i6_lot_65, i6_lot_66, i6_lot_69, i6_lot_71, i6_lot_72, i6_lot_73, i6_lot_74, i6_lot_77, i6_lot_79, i6_lot_80, i6_lot_81, i6_lot_84, i6_lot_85, i6_lot_88, i6_lot_89, i6_lot_91, i6_lot_92, i6_lot_93, i6_lot_94, i6_lot_97, i6_lot_98, i6_lot_100, i6_lot_101, i6_lot_103, i6_lot_106, i6_lot_107, i6_lot_110, i6_lot_112, i6_lot_115, hg, nt, lo8, lo64, nI_l (show g < 2 ^ 31 by omega), nI_1, nI_l (show g + 1 < 2 ^ 31 by omega), z8, z64, zg, zg1, r1, r2, r3, r4, r5, lN_i, q3, q6, q7, tc, pK_i, pK_v, if_true, if_false, not_true_eq_false, not_false_eq_true, true_or, or_true, Int32.lt_irrefl, show ((6 : Int32) < 4) = False from by decide]
      · have q7 : ¬ nI (lby x) = 6 := fun e => h6 ((nI_eq (a := lby x) (b := 6) (by omega) (by omega)).mp e)
        rw [if_neg h6]
        simp only [Nat.reduceAdd, i6_lot_0, i6_lot_1, i6_lot_4, i6_lot_5, i6_lot_8, i6_lot_9, i6_lot_10, i6_lot_11, i6_lot_12, i6_lot_13, i6_lot_16, i6_lot_17, i6_lot_18, i6_lot_19, i6_lot_21, i6_lot_22, i6_lot_25, i6_lot_26, i6_lot_27, i6_lot_30, i6_lot_31, i6_lot_32, i6_lot_33, i6_lot_34, i6_lot_35, i6_lot_37, i6_lot_38, i6_lot_41, i6_lot_42, i6_lot_43, i6_lot_46, i6_lot_47, i6_lot_48, i6_lot_51, i6_lot_52, i6_lot_55, i6_lot_56, i6_lot_59, i6_lot_60, i6_lot_62, i6_lot_65, i6_lot_66, i6_lot_69, i6_lot_71, i6_lot_72, i6_lot_73, i6_lot_74, i6_lot_77, i6_lot_79, i6_lot_80, i6_lot_81, i6_lot_84, i6_lot_85, i6_lot_88, i6_lot_89, i6_lot_91, i6_lot_92, i6_lot_93, i6_lot_94, i6_lot_97, i6_lot_98, i6_lot_100, i6_lot_101, i6_lot_103, i6_lot_106, i6_lot_107, i6_lot_110, i6_lot_112, i6_lot_115, hg, nt, lo8, lo64, nI_l (show g < 2 ^ 31 by omega), nI_1, nI_l (show g + 1 < 2 ^ 31 by omega), z8, z64, zg, zg1, r1, r2, r3, r4, r5, lN_i, q3, q6, q7, tc, pK_i, pK_v, if_true, if_false, not_true_eq_false, not_false_eq_true, true_or, or_true]
    · have q6 : (nI (lby x) < 6) = True := nlt (b := 6) (by omega) (by omega)
      by_cases h3 : σ 72 (x % g) = 3
      · have e1 : lr x g d σ = ntR σ d := by unfold lr; rw [if_neg h1, if_neg h2, if_pos h3]
        rw [e1]
        simp only [Nat.reduceAdd, i6_lot_0, i6_lot_1, i6_lot_4, i6_lot_5, i6_lot_8, i6_lot_9, i6_lot_10, i6_lot_11, i6_lot_12, i6_lot_13, i6_lot_16, i6_lot_17, i6_lot_18, i6_lot_19, i6_lot_21, i6_lot_22, i6_lot_25, i6_lot_26, i6_lot_27, i6_lot_30, i6_lot_31, i6_lot_32, i6_lot_33, i6_lot_34, i6_lot_35, i6_lot_37, i6_lot_38, i6_lot_41, i6_lot_42, i6_lot_43, i6_lot_46, i6_lot_47, i6_lot_48, i6_lot_51, i6_lot_52, i6_lot_55, i6_lot_56, i6_lot_59, i6_lot_60, i6_lot_62, i6_lot_65, i6_lot_66, i6_lot_69, i6_lot_71, i6_lot_72, i6_lot_73, i6_lot_74, i6_lot_77, i6_lot_79, i6_lot_80, i6_lot_81, i6_lot_84, i6_lot_85, i6_lot_88, i6_lot_89, i6_lot_91, i6_lot_92, i6_lot_93, i6_lot_94, i6_lot_97, i6_lot_98, i6_lot_100, i6_lot_101, i6_lot_103, i6_lot_106, i6_lot_107, i6_lot_110, i6_lot_112, i6_lot_115, hg, nt, lo8, lo64, nI_l (show g < 2 ^ 31 by omega), nI_1, nI_l (show g + 1 < 2 ^ 31 by omega), z8, z64, zg, zg1, r1, r2, r3, r4, r5, lN_i, q3, q6, f72, k_72, l_72, k_74, l_74, i7, z7, hS, hC, h3, Int32.xor_zero, ui, m_up_id, pK_i, pK_v, if_true, if_false, not_true_eq_false, not_false_eq_true, true_or, or_true]
      · have e1 : lr x g d σ = flpR (ntR σ d) (x % g) := by unfold lr; rw [if_neg h1, if_neg h2, if_neg h3]
        rw [e1]
        unfold flpR sh
        simp only [Nat.reduceAdd, i6_lot_0, i6_lot_1, i6_lot_4, i6_lot_5, i6_lot_8, i6_lot_9, i6_lot_10, i6_lot_11, i6_lot_12, i6_lot_13, i6_lot_16, i6_lot_17, i6_lot_18, i6_lot_19, i6_lot_21, i6_lot_22, i6_lot_25, i6_lot_26, i6_lot_27, i6_lot_30, i6_lot_31, i6_lot_32, i6_lot_33, i6_lot_34, i6_lot_35, i6_lot_37, i6_lot_38, i6_lot_41, i6_lot_42, i6_lot_43, i6_lot_46, i6_lot_47, i6_lot_48, i6_lot_51, i6_lot_52, i6_lot_55, i6_lot_56, i6_lot_59, i6_lot_60, i6_lot_62, i6_lot_65, i6_lot_66, i6_lot_69, i6_lot_71, i6_lot_72, i6_lot_73, i6_lot_74, i6_lot_77, i6_lot_79, i6_lot_80, i6_lot_81, i6_lot_84, i6_lot_85, i6_lot_88, i6_lot_89, i6_lot_91, i6_lot_92, i6_lot_93, i6_lot_94, i6_lot_97, i6_lot_98, i6_lot_100, i6_lot_101, i6_lot_103, i6_lot_106, i6_lot_107, i6_lot_110, i6_lot_112, i6_lot_115, hg, nt, lo8, lo64, nI_l (show g < 2 ^ 31 by omega), nI_1, nI_l (show g + 1 < 2 ^ 31 by omega), z8, z64, zg, zg1, r1, r2, r3, r4, r5, lN_i, q3, q6, f72, k_72, l_72, k_74, l_74, i7, z7, hS, hC, h3, pK_i, pK_v, if_true, if_false, not_true_eq_false, not_false_eq_true, true_or, or_true]
def ltq (s : Nat) : Nat → Nat
  | 0 => s
  | k + 1 => 48271 * ltq s k % 2147483647
theorem ltq_b {s : Nat} (hs : s < 2 ^ 31) : ∀ k, ltq s k < 2 ^ 31 := by
  intro k
  cases k with
  | zero => exact hs
  | succ k => exact Nat.lt_trans (Nat.mod_lt _ (by decide)) (by decide)
noncomputable def Aq (σ : Nat → Nat → Int32) (s g d : Nat) : Nat → Nat → Nat → Int32
  | 0 => σ
  | k + 1 => lc (ltq s (k + 1)) g (d + k) (Aq σ s g d k)
noncomputable def Bq (σ : Nat → Nat → Int32) (s g d : Nat) : Nat → Nat → Nat → Int32
  | 0 => σ
  | k + 1 => lr (ltq s (k + 1)) g (d + k) (Bq σ s g d k)
theorem mix_s {a : Nat → Nat → Int32} : mix a a = a := by
  funext c; unfold mix; split <;> rfl
theorem AB_rel {s n : Nat} (R : Rel g d σ τ) (h : 0 < g) (hn : d + n ≤ 40) : ∀ k, k ≤ n → Rel g (d + k) (mix (Aq σ s g d k) (Bq σ s g d k)) τ := by
  intro k
  induction k with
  | zero => intro _; show Rel g d (mix σ σ) τ; rw [mix_s]; exact R
  | succ k ih =>
    intro hk
    have t := lot_rel (x := ltq s (k + 1)) (ih (by omega)) h (by omega)
    rw [lc_mix, lr_mix] at t
    exact t
theorem Aq_n {s : Nat} : ∀ k c, 66 < c → Aq σ s g d k c = σ c := by
  intro k
  induction k with
  | zero => intro c _; rfl
  | succ k ih => intro c hc; exact (lc_n hc).trans (ih c hc)
theorem lotC {s n : Nat} (R : Rel g d σ τ) (h : 0 < g) (hn : d + n ≤ 40) (hs : s < 2 ^ 31) : pX 83 60 [.ref 0, .int (nI n), .int (nI s), .long (lN s), .null, .int 0] [] (mm L xs σ τ) 85 S = pX 83 87 [.ref 0, .int (nI n), .int (nI s), .long (lN (ltq s n)), .null, .int (nI n)] [] (mm L xs (Aq σ s g d n) τ) 85 S := by
  have key := lp (δ := Unit) n (fun k _ => pX 83 60 [.ref 0, .int (nI n), .int (nI s), .long (lN (ltq s k)), .null, .int (nI k)] [] (mm L xs (Aq σ s g d k) τ) 85 S) (pX 83 87 [.ref 0, .int (nI n), .int (nI s), .long (lN (ltq s n)), .null, .int (nI n)] [] (mm L xs (Aq σ s g d n) τ) 85 S) (fun _ => by
    simp only [i5_lots_60, i5_lots_62, i5_lots_63, Int32.lt_irrefl, if_false]) (fun k hk _ => ⟨(), by
    have Rk := AB_rel (s := s) R h hn k (by omega)
    have l1 : (48271 : Int64) = lN 48271 := rfl
    have l2 : (2147483647 : Int64) = lN 2147483647 := rfl
    have hb := ltq_b hs k
    have z : ¬ lN 2147483647 = 0 := lN_ne0 (by decide) (by decide)
    have r1 : lN (48271 * ltq s k) - lN (48271 * ltq s k) / lN 2147483647 * lN 2147483647 = lN (ltq s (k + 1)) := pk_lRem (by omega) (by decide) (by decide)
    have st := s5_doByLot (L := L) (xs := xs) (σ := Aq σ s g d k) (τ := τ) (S := S) (x := ltq s (k + 1)) (g := g) (d := d + k) (by have := Rk.1.2.1; rw [mix_l (by decide)] at this; exact this) h R.1.1 (by have := Rk.2.1.2.1; rw [mix_l (by decide)] at this; exact this) (by omega) (ltq_b hs (k + 1))
    have e : Aq σ s g d (k + 1) = lc (ltq s (k + 1)) g (d + k) (Aq σ s g d k) := rfl
    rw [e, i5_lots_60]
    simp only [i5_lots_62, i5_lots_63, i5_lots_66, i5_lots_69, i5_lots_70, i5_lots_71, i5_lots_74, i5_lots_75, i5_lots_76, i5_lots_77, i5_lots_78, i5_lots_81, i5_lots_84, nlt hk (by omega), l1, l2, lN_mul, z, r1, st, pK_v, if_true, if_false, nI_1]⟩)
  have k := key ()
  rw [nI_0] at k
  exact k
theorem lotR {s n : Nat} (R : Rel g d σ τ) (h : 0 < g) (hn : d + n ≤ 40) (hs : s < 2 ^ 31) {A : Nat → Nat → Int32} : pX 211 52 [.ref 67, .int (nI n), .int (nI s), .long (lN s), .null, .int 0] [] (mm L xs (mix A σ) τ) 85 S = pX 211 79 [.ref 67, .int (nI n), .int (nI s), .long (lN (ltq s n)), .null, .int (nI n)] [] (mm L xs (mix A (Bq σ s g d n)) τ) 85 S := by
  have key := lp (δ := Unit) n (fun k _ => pX 211 52 [.ref 67, .int (nI n), .int (nI s), .long (lN (ltq s k)), .null, .int (nI k)] [] (mm L xs (mix A (Bq σ s g d k)) τ) 85 S) (pX 211 79 [.ref 67, .int (nI n), .int (nI s), .long (lN (ltq s n)), .null, .int (nI n)] [] (mm L xs (mix A (Bq σ s g d n)) τ) 85 S) (fun _ => by
    simp only [i6_lots_52, i6_lots_54, i6_lots_55, Int32.lt_irrefl, if_false]) (fun k hk _ => ⟨(), by
    have Rk := AB_rel (s := s) R h hn k (by omega)
    have l1 : (48271 : Int64) = lN 48271 := rfl
    have l2 : (2147483647 : Int64) = lN 2147483647 := rfl
    have hb := ltq_b hs k
    have z : ¬ lN 2147483647 = 0 := lN_ne0 (by decide) (by decide)
    have r1 : lN (48271 * ltq s k) - lN (48271 * ltq s k) / lN 2147483647 * lN 2147483647 = lN (ltq s (k + 1)) := pk_lRem (by omega) (by decide) (by decide)
    have g1 : (mix A (Bq σ s g d k)) 67 4 = nI g := by have := Rk.1.2.2.1; rw [mix_r (by decide)] at this ⊢; exact this
    have g2 : (mix A (Bq σ s g d k)) 67 8 = nI (d + k) := by have := Rk.2.1.2.2.1; rw [mix_r (by decide)] at this ⊢; exact this
    have g3 : ∀ i, i < g → kd6 ((mix A (Bq σ s g d k)) 72 i) := by have := qN_kd Rk.1; rw [mix_r (by decide)] at this ⊢; exact this
    have st := s6_lot (L := L) (xs := xs) (τ := τ) (S := S) (x := ltq s (k + 1)) g1 h R.1.1 g2 (by omega) g3 (ltq_b hs (k + 1))
    rw [lr_mix] at st
    have e : Bq σ s g d (k + 1) = lr (ltq s (k + 1)) g (d + k) (Bq σ s g d k) := rfl
    rw [e, i6_lots_52]
    simp only [i6_lots_54, i6_lots_55, i6_lots_58, i6_lots_61, i6_lots_62, i6_lots_63, i6_lots_66, i6_lots_67, i6_lots_68, i6_lots_69, i6_lots_70, i6_lots_73, i6_lots_76, nlt hk (by omega), l1, l2, lN_mul, z, r1, st, pK_v, if_true, if_false, nI_1]⟩)
  have k := key ()
  rw [nI_0] at k
  exact k
theorem lg_m {s : Nat} (h : s < 2147483647) : lg_cmp (lN s) 2147483647 = -1 := by
  have h1 : lN s < lN 2147483647 := (lN_lt (by omega) (by decide)).mpr h
  have h2 : ¬ lN s > lN 2147483647 := fun q => by
    have := (lN_lt (a := 2147483647) (b := s) (by decide) (by omega)).mp q
    omega
  have h3 : ¬ lN s = lN 2147483647 := fun q => by
    have := (lN_eq (a := s) (b := 2147483647) (by omega) (by decide)).mp q
    omega
  show lg_cmp (lN s) (lN 2147483647) = -1
  unfold lg_cmp
  rw [if_neg h2, if_neg h3]
theorem op_lots {n r : Int32} : opI L xs S (fun M => pX 83 0 [.ref 0, .int n, .int r, .null, .null, .null] [] M 85 S) (fun M => pX 211 0 [.ref 67, .int n, .int r, .null, .null, .null] [] M 85 S) := by
  intro g d σ τ R
  have hg6 := R.1.1
  obtain ⟨d40', hd3, hd67, _⟩ := R.2.1
  by_cases n1 : n < 1
  · apply op_of
    · simp only [Nat.reduceAdd, i5_lots_0, i5_lots_1, i5_lots_2, i5_lots_5, i5_lots_6, i5_lots_8, i5_lots_11, i5_lots_12, i5_lots_13, i5_lots_16, i5_lots_17, i5_lots_18, i5_lots_21, i5_lots_22, i5_lots_25, i5_lots_26, i5_lots_27, i5_lots_28, i5_lots_31, i5_lots_34, i5_lots_37, i5_lots_39, i5_lots_40, i5_lots_41, i5_lots_44, i5_lots_45, i5_lots_48, i5_lots_51, i5_lots_53, i5_lots_54, i5_lots_55, i5_lots_56, i5_lots_57, i5_lots_58, n1, if_true, if_false, not_true_eq_false, not_false_eq_true, true_or, or_true]; rfl
    · simp only [Nat.reduceAdd, i6_lots_0, i6_lots_1, i6_lots_2, i6_lots_4, i6_lots_7, i6_lots_10, i6_lots_11, i6_lots_12, i6_lots_14, i6_lots_17, i6_lots_20, i6_lots_21, i6_lots_22, i6_lots_23, i6_lots_26, i6_lots_29, i6_lots_31, i6_lots_32, i6_lots_33, i6_lots_36, i6_lots_37, i6_lots_38, i6_lots_40, i6_lots_43, i6_lots_45, i6_lots_46, i6_lots_47, i6_lots_48, i6_lots_49, i6_lots_50, s6_in, pK_i, bi_0, n1, if_true, if_false, not_true_eq_false, not_false_eq_true, true_or, or_true, false_and]; rfl
    · exact R
  by_cases n20 : 20 < n
  · apply op_of
    · simp only [Nat.reduceAdd, i5_lots_0, i5_lots_1, i5_lots_2, i5_lots_5, i5_lots_6, i5_lots_8, i5_lots_11, i5_lots_12, i5_lots_13, i5_lots_16, i5_lots_17, i5_lots_18, i5_lots_21, i5_lots_22, i5_lots_25, i5_lots_26, i5_lots_27, i5_lots_28, i5_lots_31, i5_lots_34, i5_lots_37, i5_lots_39, i5_lots_40, i5_lots_41, i5_lots_44, i5_lots_45, i5_lots_48, i5_lots_51, i5_lots_53, i5_lots_54, i5_lots_55, i5_lots_56, i5_lots_57, i5_lots_58, n1, n20, if_true, if_false, not_true_eq_false, not_false_eq_true, true_or, or_true]; rfl
    · simp only [Nat.reduceAdd, i6_lots_0, i6_lots_1, i6_lots_2, i6_lots_4, i6_lots_7, i6_lots_10, i6_lots_11, i6_lots_12, i6_lots_14, i6_lots_17, i6_lots_20, i6_lots_21, i6_lots_22, i6_lots_23, i6_lots_26, i6_lots_29, i6_lots_31, i6_lots_32, i6_lots_33, i6_lots_36, i6_lots_37, i6_lots_38, i6_lots_40, i6_lots_43, i6_lots_45, i6_lots_46, i6_lots_47, i6_lots_48, i6_lots_49, i6_lots_50, s6_in, pK_i, bi_0, n1, n20, if_true, if_false, not_true_eq_false, not_false_eq_true, true_or, or_true, and_false]; rfl
    · exact R
  by_cases r1 : r < 1
  · apply op_of
    · simp only [Nat.reduceAdd, i5_lots_0, i5_lots_1, i5_lots_2, i5_lots_5, i5_lots_6, i5_lots_8, i5_lots_11, i5_lots_12, i5_lots_13, i5_lots_16, i5_lots_17, i5_lots_18, i5_lots_21, i5_lots_22, i5_lots_25, i5_lots_26, i5_lots_27, i5_lots_28, i5_lots_31, i5_lots_34, i5_lots_37, i5_lots_39, i5_lots_40, i5_lots_41, i5_lots_44, i5_lots_45, i5_lots_48, i5_lots_51, i5_lots_53, i5_lots_54, i5_lots_55, i5_lots_56, i5_lots_57, i5_lots_58, n1, n20, r1, if_true, if_false, not_true_eq_false, not_false_eq_true, true_or, or_true]; rfl
    · simp only [Nat.reduceAdd, i6_lots_0, i6_lots_1, i6_lots_2, i6_lots_4, i6_lots_7, i6_lots_10, i6_lots_11, i6_lots_12, i6_lots_14, i6_lots_17, i6_lots_20, i6_lots_21, i6_lots_22, i6_lots_23, i6_lots_26, i6_lots_29, i6_lots_31, i6_lots_32, i6_lots_33, i6_lots_36, i6_lots_37, i6_lots_38, i6_lots_40, i6_lots_43, i6_lots_45, i6_lots_46, i6_lots_47, i6_lots_48, i6_lots_49, i6_lots_50, s6_in, pK_i, bi_0, n1, n20, r1, if_true, if_false, not_true_eq_false, not_false_eq_true, true_or, or_true, false_and, and_self]; rfl
    · exact R
  by_cases r2 : 2147483646 < r
  · have e : r = 2147483647 := by
      have := r.toInt_lt
      rw [Int32.lt_iff_toInt_lt] at r2
      have a : (2147483646 : Int32).toInt = 2147483646 := rfl
      have b : (2147483647 : Int32).toInt = 2147483647 := rfl
      exact Int32.toInt_inj.mp (by omega)
    subst e
    have c0 : lg_cmp ((2147483647 : Int32).toInt64) 2147483647 = 0 := by decide
    apply op_of
    · simp only [Nat.reduceAdd, i5_lots_0, i5_lots_1, i5_lots_2, i5_lots_5, i5_lots_6, i5_lots_8, i5_lots_11, i5_lots_12, i5_lots_13, i5_lots_16, i5_lots_17, i5_lots_18, i5_lots_21, i5_lots_22, i5_lots_25, i5_lots_26, i5_lots_27, i5_lots_28, i5_lots_31, i5_lots_34, i5_lots_37, i5_lots_39, i5_lots_40, i5_lots_41, i5_lots_44, i5_lots_45, i5_lots_48, i5_lots_51, i5_lots_53, i5_lots_54, i5_lots_55, i5_lots_56, i5_lots_57, i5_lots_58, n1, n20, r1, c0, Int32.lt_irrefl, if_true, if_false, not_true_eq_false, not_false_eq_true, true_or, or_true]; rfl
    · simp only [Nat.reduceAdd, i6_lots_0, i6_lots_1, i6_lots_2, i6_lots_4, i6_lots_7, i6_lots_10, i6_lots_11, i6_lots_12, i6_lots_14, i6_lots_17, i6_lots_20, i6_lots_21, i6_lots_22, i6_lots_23, i6_lots_26, i6_lots_29, i6_lots_31, i6_lots_32, i6_lots_33, i6_lots_36, i6_lots_37, i6_lots_38, i6_lots_40, i6_lots_43, i6_lots_45, i6_lots_46, i6_lots_47, i6_lots_48, i6_lots_49, i6_lots_50, s6_in, pK_i, bi_0, n1, n20, r1, r2, if_true, if_false, not_true_eq_false, not_false_eq_true, true_or, or_true, and_false, and_self]; rfl
    · exact R
  obtain ⟨s, hs, rfl⟩ : ∃ s, s < 2147483647 ∧ r = nI s := inb_of ((inb_iff2 (n := 2147483646) (m := 2147483646) rfl (by decide)).mpr ⟨by
    rw [Int32.lt_iff_toInt_lt] at r1 ⊢
    have a : (1 : Int32).toInt = 1 := rfl
    have b : (0 : Int32).toInt = 0 := rfl
    omega, r2⟩) (by decide)
  obtain ⟨m, hm, rfl⟩ : ∃ m, m < 21 ∧ n = nI m := inb_of ((inb_iff2 (n := 20) (m := 20) rfl (by decide)).mpr ⟨by
    rw [Int32.lt_iff_toInt_lt] at n1 ⊢
    have a : (1 : Int32).toInt = 1 := rfl
    have b : (0 : Int32).toInt = 0 := rfl
    omega, n20⟩) (by decide)
  have hl : (nI s).toInt64 = lN s := nI_l (by omega)
  have c1 := lg_m hs
  have q1 : ((-1 : Int32) < 0) = True := by decide
  by_cases h : 0 < g
  · have fl := s0_isFull (L := L) (xs := xs) (τ := τ) (S := S) hd3 d40' (n := m) (by omega)
    by_cases hd : 40 < d + m
    · have q2 : ((40 : Int32) < nI (d + m)) = True := nlt (a := 40) hd (by omega)
      apply op_of
      · simp only [Nat.reduceAdd, i5_lots_0, i5_lots_1, i5_lots_2, i5_lots_5, i5_lots_6, i5_lots_8, i5_lots_11, i5_lots_12, i5_lots_13, i5_lots_16, i5_lots_17, i5_lots_18, i5_lots_21, i5_lots_22, i5_lots_25, i5_lots_26, i5_lots_27, i5_lots_28, i5_lots_31, i5_lots_34, i5_lots_37, i5_lots_39, i5_lots_40, i5_lots_41, i5_lots_44, i5_lots_45, i5_lots_48, i5_lots_51, i5_lots_53, i5_lots_54, i5_lots_55, i5_lots_56, i5_lots_57, i5_lots_58, n1, n20, r1, hl, c1, q1, s3_isThere R.1, fl, k_3, k_4, pK_i, bi_0, h, hd, if_true, if_false, not_true_eq_false, not_false_eq_true, true_or, or_true]; rfl
      · simp only [Nat.reduceAdd, i6_lots_0, i6_lots_1, i6_lots_2, i6_lots_4, i6_lots_7, i6_lots_10, i6_lots_11, i6_lots_12, i6_lots_14, i6_lots_17, i6_lots_20, i6_lots_21, i6_lots_22, i6_lots_23, i6_lots_26, i6_lots_29, i6_lots_31, i6_lots_32, i6_lots_33, i6_lots_36, i6_lots_37, i6_lots_38, i6_lots_40, i6_lots_43, i6_lots_45, i6_lots_46, i6_lots_47, i6_lots_48, i6_lots_49, i6_lots_50, s6_in, pK_i, bi_0, n1, n20, r1, r2, R.1.2.2.1, hd67, gN0 hg6, h, nI_add, q2, if_true, if_false, not_true_eq_false, not_false_eq_true, true_or, or_true, and_self]; rfl
      · exact R
    · have q2 : ((40 : Int32) < nI (d + m)) = False := nnl (a := 40) (by omega) (by omega)
      have Rn := AB_rel (s := s) R h (show d + m ≤ 40 by omega) m (Nat.le_refl _)
      have eA : Aq σ s g d m = mix (Aq σ s g d m) σ := by
        funext c
        by_cases hc : c ≤ 66
        · rw [mix_l hc]
        · rw [mix_r (by omega)]; exact Aq_n m c (by omega)
      have g1 : (Aq σ s g d m) 67 = σ 67 := Aq_n m 67 (by decide)
      have v1 := (qN_w Rn.1 0 (by omega)).1
      rw [mix_l (show 7 ≤ 66 by decide)] at v1
      have pC := lotC (L := L) (xs := xs) (S := S) R h (show d + m ≤ 40 by omega) (show s < 2 ^ 31 by omega)
      have pR := lotR (L := L) (xs := xs) (S := S) R h (show d + m ≤ 40 by omega) (show s < 2 ^ 31 by omega) (A := Aq σ s g d m)
      rw [← eA] at pR
      have i0 : ∀ {α : Type} {a b : α}, ifb 0 7 a b = a := ifb_i (j := 0) (n := 7) (by decide) (by decide)
      refine op_of (v := (mix (Aq σ s g d m) (Bq σ s g d m)) 74 0) (σ1 := Aq σ s g d m) (τ1 := τ) ?_ ?_ Rn
      · simp only [Nat.reduceAdd, i5_lots_0, i5_lots_1, i5_lots_2, i5_lots_5, i5_lots_6, i5_lots_8, i5_lots_11, i5_lots_12, i5_lots_13, i5_lots_16, i5_lots_17, i5_lots_18, i5_lots_21, i5_lots_22, i5_lots_25, i5_lots_26, i5_lots_27, i5_lots_28, i5_lots_31, i5_lots_34, i5_lots_37, i5_lots_39, i5_lots_40, i5_lots_41, i5_lots_44, i5_lots_45, i5_lots_48, i5_lots_51, i5_lots_53, i5_lots_54, i5_lots_55, i5_lots_56, i5_lots_57, i5_lots_58, n1, n20, r1, hl, c1, q1, s3_isThere R.1, fl, k_3, k_4, pK_i, bi_0, h, hd, if_true, if_false, not_true_eq_false, not_false_eq_true, true_or, or_true]
        rw [pC]
        simp only [Nat.reduceAdd, i5_lots_87, i5_lots_88, i5_lots_91, i5_lots_94, i5_lots_97, i5_lots_98, i5_lots_99, k_3, k_4, k_7, l_7, i0, z0, v1]
      · simp only [Nat.reduceAdd, i6_lots_0, i6_lots_1, i6_lots_2, i6_lots_4, i6_lots_7, i6_lots_10, i6_lots_11, i6_lots_12, i6_lots_14, i6_lots_17, i6_lots_20, i6_lots_21, i6_lots_22, i6_lots_23, i6_lots_26, i6_lots_29, i6_lots_31, i6_lots_32, i6_lots_33, i6_lots_36, i6_lots_37, i6_lots_38, i6_lots_40, i6_lots_43, i6_lots_45, i6_lots_46, i6_lots_47, i6_lots_48, i6_lots_49, i6_lots_50, s6_in, pK_i, bi_0, n1, n20, r1, r2, g1, R.1.2.2.1, hd67, gN0 hg6, h, hl, nI_add, q2, if_true, if_false, not_true_eq_false, not_false_eq_true, true_or, or_true, and_self]
        rw [pR]
        simp only [Nat.reduceAdd, i6_lots_79, i6_lots_80, i6_lots_83, i6_lots_84, i6_lots_85, k_74, l_74, i09, z0]
  · apply op_of
    · simp only [Nat.reduceAdd, i5_lots_0, i5_lots_1, i5_lots_2, i5_lots_5, i5_lots_6, i5_lots_8, i5_lots_11, i5_lots_12, i5_lots_13, i5_lots_16, i5_lots_17, i5_lots_18, i5_lots_21, i5_lots_22, i5_lots_25, i5_lots_26, i5_lots_27, i5_lots_28, i5_lots_31, i5_lots_34, i5_lots_37, i5_lots_39, i5_lots_40, i5_lots_41, i5_lots_44, i5_lots_45, i5_lots_48, i5_lots_51, i5_lots_53, i5_lots_54, i5_lots_55, i5_lots_56, i5_lots_57, i5_lots_58, n1, n20, r1, hl, c1, q1, s3_isThere R.1, k_3, k_4, pK_i, bi_0, h, if_true, if_false, not_true_eq_false, not_false_eq_true, true_or, or_true]; rfl
    · simp only [Nat.reduceAdd, i6_lots_0, i6_lots_1, i6_lots_2, i6_lots_4, i6_lots_7, i6_lots_10, i6_lots_11, i6_lots_12, i6_lots_14, i6_lots_17, i6_lots_20, i6_lots_21, i6_lots_22, i6_lots_23, i6_lots_26, i6_lots_29, i6_lots_31, i6_lots_32, i6_lots_33, i6_lots_36, i6_lots_37, i6_lots_38, i6_lots_40, i6_lots_43, i6_lots_45, i6_lots_46, i6_lots_47, i6_lots_48, i6_lots_49, i6_lots_50, s6_in, pK_i, bi_0, n1, n20, r1, r2, R.1.2.2.1, gN0 hg6, h, if_true, if_false, not_true_eq_false, not_false_eq_true, true_or, or_true, and_self]; rfl
    · exact R
end DW
