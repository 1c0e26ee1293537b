/-! CHANCES: odds, mid -/
theorem pr12 {q g : Nat} (hg : g ≤ 6) : prN (aN q) g ≤ 2985984 ∧ 0 < prN (aN q) g := by
  constructor
  · refine Nat.le_trans (prN_le 12 g (fun i _ => ?_)) (Nat.le_trans (Nat.pow_le_pow_right (by decide) hg) (by decide))
    unfold aN; split <;> omega
  · exact prN_pos g (fun i _ => by unfold aN; split <;> omega)
theorem prw {q p s g : Nat} (hg : g ≤ 6) (hp : p ≤ 12) : prN (wN q p s) g ≤ 2985984 := by
  refine Nat.le_trans (prN_le 12 g (fun i _ => ?_)) (Nat.le_trans (Nat.pow_le_pow_right (by decide) hg) (by decide))
  unfold wN
  split
  · split <;> omega
  · split <;> omega
section DU
variable {L : Nat} {xs : Nat → Int32} {σ σj : Nat → Nat → Int32} {τ : Nat → Nat → Int64} {S g d m j q p s : Nat} {K W f : Nat → Int32}
theorem opn (r : qN g m σ) : σ 4 4 &&& ag g ||| wr (σ 5) g = oo (σ 72) (σ 74 7) g := by
  obtain ⟨k, hk, e7, e7'⟩ := r.2.2.2.2.1.2.1
  have := (p2_64 r.1).1
  rw [wr_eq r, e7, e7', oo_eq (by omega) g r.1]
theorem isop_eq (r : qN g m σ) {i : Nat} (hi : i < g) : isop (σ 5) (σ 4 4) i = isop (σ 72) (σ 74 7) i := by
  obtain ⟨k, hk, e7, e7'⟩ := r.2.2.2.2.1.2.1
  unfold isop
  rw [e7, e7', (r.2.2.2.1 i hi).1]
theorem s5_chanceOf (r : qN g m σ) (ho : oo (σ 72) (σ 74 7) g = nI q) (hq : q < 2 ^ g) (hs : s < 2 ^ g) (hp : p ≤ 12) : pX 110 0 [.ref 0, .int (nI s), .int (nI p), .null, .null, .null, .null] [] (mm L xs σ τ) 85 S = some (some (.long (lN (prN (wN q p s) g))), mm L xs σ τ, 85, S) := by
  have hg6 := r.1
  obtain ⟨p64, p0⟩ := p2_64 hg6
  have og := s4_openGates (L := L) (xs := xs) (σ := σ) (τ := τ) (S := S) a_4 r.2.1 hg6
  simp only [Nat.reduceAdd] at og
  rw [opn r, ho] at og
  have st := sub_tb (s := s) (q := q) (by omega) (by omega)
  by_cases h : nI s &&& (nI q ^^^ -1) = 0
  · have hsub := st.mp h
    have e12 : (12 : Int32) - nI p = nI (12 - p) := pk_sub hp
    have key := lp (δ := Unit) g (fun i _ => pX 110 27 [.ref 0, .int (nI s), .int (nI p), .int (nI q), .long (lN (prN (wN q p s) i)), .null, .int (nI i)] [] (mm L xs σ τ) 85 S) (some (some (.long (lN (prN (wN q p s) g))), mm L xs σ τ, 85, S)) (fun _ => by
      simp only [Nat.reduceAdd, i5_chanceOf_27, i5_chanceOf_29, i5_chanceOf_30, i5_chanceOf_33, i5_chanceOf_36, i5_chanceOf_39, i5_chanceOf_81, i5_chanceOf_83, k_3, k_4, r.2.1, Int32.lt_irrefl, if_false]) (fun i hi _ => ⟨(), by
      have e : prN (wN q p s) (i + 1) = prN (wN q p s) i * wN q p s i := rfl
      have t1 := hb_tb (s := s) (i := i) (by omega) (by omega)
      have t2 := hb_tb (s := q) (i := i) (by omega) (by omega)
      rw [e, i5_chanceOf_27]
      by_cases h2 : q.testBit i = true
      · by_cases h1 : s.testBit i = true
        · have ew : wN q p s i = p := by unfold wN; rw [if_pos h1, if_pos h2]
          simp only [Nat.reduceAdd, i5_chanceOf_29, i5_chanceOf_30, i5_chanceOf_33, i5_chanceOf_36, i5_chanceOf_39, i5_chanceOf_42, i5_chanceOf_43, i5_chanceOf_45, i5_chanceOf_48, i5_chanceOf_51, i5_chanceOf_53, i5_chanceOf_54, i5_chanceOf_56, i5_chanceOf_59, i5_chanceOf_62, i5_chanceOf_63, i5_chanceOf_64, i5_chanceOf_67, i5_chanceOf_69, i5_chanceOf_70, i5_chanceOf_71, i5_chanceOf_72, i5_chanceOf_73, i5_chanceOf_75, i5_chanceOf_78, i5_chanceOf_81, i5_chanceOf_83, k_3, k_4, r.2.1, nlt hi (by omega), s5_hasBit, pK_i, bi_0, t1, t2, h1, h2, nI_l (show p < 2 ^ 31 by omega), lN_mul, ew, if_true, if_false, not_true_eq_false, not_false_eq_true, true_or, or_true, Bool.false_eq_true, nI_1]
        · have ew : wN q p s i = 12 - p := by unfold wN; rw [if_neg h1, if_pos h2]
          simp only [Nat.reduceAdd, i5_chanceOf_29, i5_chanceOf_30, i5_chanceOf_33, i5_chanceOf_36, i5_chanceOf_39, i5_chanceOf_42, i5_chanceOf_43, i5_chanceOf_45, i5_chanceOf_48, i5_chanceOf_51, i5_chanceOf_53, i5_chanceOf_54, i5_chanceOf_56, i5_chanceOf_59, i5_chanceOf_62, i5_chanceOf_63, i5_chanceOf_64, i5_chanceOf_67, i5_chanceOf_69, i5_chanceOf_70, i5_chanceOf_71, i5_chanceOf_72, i5_chanceOf_73, i5_chanceOf_75, i5_chanceOf_78, i5_chanceOf_81, i5_chanceOf_83, k_3, k_4, r.2.1, nlt hi (by omega), s5_hasBit, pK_i, bi_0, t1, t2, h1, h2, e12, nI_l (show 12 - p < 2 ^ 31 by omega), lN_mul, ew, if_true, if_false, not_true_eq_false, not_false_eq_true, true_or, or_true, Bool.false_eq_true, nI_1]
      · have h1 : ¬ s.testBit i = true := fun k => h2 (hsub i (by omega) k)
        have ew : wN q p s i = 1 := by unfold wN; rw [if_neg h1, if_neg h2]
        simp only [Nat.reduceAdd, i5_chanceOf_29, i5_chanceOf_30, i5_chanceOf_33, i5_chanceOf_36, i5_chanceOf_39, i5_chanceOf_42, i5_chanceOf_43, i5_chanceOf_45, i5_chanceOf_48, i5_chanceOf_51, i5_chanceOf_53, i5_chanceOf_54, i5_chanceOf_56, i5_chanceOf_59, i5_chanceOf_62, i5_chanceOf_63, i5_chanceOf_64, i5_chanceOf_67, i5_chanceOf_69, i5_chanceOf_70, i5_chanceOf_71, i5_chanceOf_72, i5_chanceOf_73, i5_chanceOf_75, i5_chanceOf_78, i5_chanceOf_81, i5_chanceOf_83, k_3, k_4, r.2.1, nlt hi (by omega), s5_hasBit, pK_i, bi_0, t1, t2, h1, h2, ew, Nat.mul_one, if_true, if_false, not_true_eq_false, not_false_eq_true, true_or, or_true, Bool.false_eq_true, nI_1]⟩)
    have k := key ()
    rw [nI_0] at k
    simp only [Nat.reduceAdd, i5_chanceOf_0, i5_chanceOf_1, i5_chanceOf_4, i5_chanceOf_7, i5_chanceOf_10, i5_chanceOf_11, i5_chanceOf_12, i5_chanceOf_13, i5_chanceOf_14, i5_chanceOf_15, i5_chanceOf_16, i5_chanceOf_19, i5_chanceOf_20, i5_chanceOf_21, i5_chanceOf_22, i5_chanceOf_24, i5_chanceOf_25, k_3, k_4, og, pK_i, h, if_true, if_false, not_true_eq_false, not_false_eq_true, true_or, or_true, Bool.false_eq_true]
    exact k
  · have hz : prN (wN q p s) g = 0 := by
      apply Classical.byContradiction
      intro hne
      apply h
      rw [st]
      intro i hi h1
      by_cases hig : i < g
      · apply Classical.byContradiction
        intro h2
        exact hne (wN_sub0 hig h1 h2)
      · rw [Nat.testBit_lt_two_pow (Nat.lt_of_lt_of_le hs (Nat.pow_le_pow_right (by decide) (by omega)))] at h1
        cases h1
    rw [hz]
    simp only [Nat.reduceAdd, i5_chanceOf_0, i5_chanceOf_1, i5_chanceOf_4, i5_chanceOf_7, i5_chanceOf_10, i5_chanceOf_11, i5_chanceOf_12, i5_chanceOf_13, i5_chanceOf_14, i5_chanceOf_15, i5_chanceOf_16, i5_chanceOf_19, i5_chanceOf_20, i5_chanceOf_21, i5_chanceOf_22, i5_chanceOf_24, i5_chanceOf_25, k_3, k_4, og, pK_i, h, if_true, if_false, not_true_eq_false, not_false_eq_true, true_or, or_true, Bool.false_eq_true]
    rfl
theorem s5_allChances (r : qN g m σ) (hb : ∀ i, i < g → (isop (σ 72) (σ 74 7) i) = (q.testBit i = true)) : pX 111 0 [.ref 0, .null, .null, .null] [] (mm L xs σ τ) 85 S = some (some (.long (lN (prN (aN q) g))), mm L xs σ τ, 85, S) := by
  have hg6 := r.1
  have key := lp (δ := Unit) g (fun i _ => pX 111 4 [.ref 0, .long (lN (prN (aN q) i)), .null, .int (nI i)] [] (mm L xs σ τ) 85 S) (some (some (.long (lN (prN (aN q) g))), mm L xs σ τ, 85, S)) (fun _ => by
    simp only [Nat.reduceAdd, i5_allChances_4, i5_allChances_5, i5_allChances_6, i5_allChances_9, i5_allChances_12, i5_allChances_15, i5_allChances_44, i5_allChances_45, k_3, k_4, r.2.1, Int32.lt_irrefl, if_false]) (fun i hi _ => ⟨(), by
    have e : prN (aN q) (i + 1) = prN (aN q) i * aN q i := rfl
    have so := s4_isOpen (L := L) (xs := xs) (σ := σ) (τ := τ) (S := S) a_4 (j := i) (by omega)
    simp only [Nat.reduceAdd] at so
    rw [isop_eq r hi, hb i hi] at so
    have l12 : (12 : Int64) = lN 12 := rfl
    rw [e, i5_allChances_4]
    by_cases h2 : q.testBit i = true
    · have ew : aN q i = 12 := if_pos h2
      simp only [Nat.reduceAdd, i5_allChances_5, i5_allChances_6, i5_allChances_9, i5_allChances_12, i5_allChances_15, i5_allChances_18, i5_allChances_19, i5_allChances_22, i5_allChances_25, i5_allChances_26, i5_allChances_29, i5_allChances_32, i5_allChances_33, i5_allChances_36, i5_allChances_37, i5_allChances_38, i5_allChances_41, i5_allChances_44, i5_allChances_45, k_3, k_4, r.2.1, nlt hi (by omega), so, pK_i, bi_0, h2, l12, lN_mul, ew, if_true, if_false, not_true_eq_false, not_false_eq_true, true_or, or_true, Bool.false_eq_true, nI_1]
    · have ew : aN q i = 1 := if_neg h2
      simp only [Nat.reduceAdd, i5_allChances_5, i5_allChances_6, i5_allChances_9, i5_allChances_12, i5_allChances_15, i5_allChances_18, i5_allChances_19, i5_allChances_22, i5_allChances_25, i5_allChances_26, i5_allChances_29, i5_allChances_32, i5_allChances_33, i5_allChances_36, i5_allChances_37, i5_allChances_38, i5_allChances_41, i5_allChances_44, i5_allChances_45, k_3, k_4, r.2.1, nlt hi (by omega), so, pK_i, bi_0, h2, ew, Nat.mul_one, if_true, if_false, not_true_eq_false, not_false_eq_true, true_or, or_true, Bool.false_eq_true, nI_1]⟩)
  have k := key ()
  rw [nI_0] at k
  simp only [Nat.reduceAdd, i5_allChances_0, i5_allChances_1, i5_allChances_2, i5_allChances_3]
  exact k
noncomputable def tq (σ : Nat → Nat → Int32) (g q p b : Nat) (v : Int32) (s : Nat) : Nat := if v < 0 then prN (wN q p s) g * (wst σ g (nI s) b).toNatClampNeg else if wst σ g (nI s) b < v then 0 else prN (wN q p s) g
theorem tq_0 {b : Nat} {v : Int32} (h : prN (wN q p s) g = 0) : tq σ g q p b v s = 0 := by
  unfold tq; rw [h]
  split
  · exact Nat.zero_mul _
  · split <;> rfl
theorem wst_cl (r : qN g m σ) {b : Nat} (hb : b ≤ g) {sk : Int32} : wst σ g sk b = nI (wst σ g sk b).toNatClampNeg ∧ (wst σ g sk b).toNatClampNeg < 61 := inb_cl (wst_lv r b hb) (by decide)
theorem tq_b (r : qN g m σ) {b : Nat} (hb : b ≤ g) (hp : p ≤ 12) {v : Int32} : sumN (tq σ g q p b v) (2 ^ g) < 2 ^ 31 := by
  have h1 : sumN (tq σ g q p b v) (2 ^ g) ≤ sumN (fun s => prN (wN q p s) g * 60) (2 ^ g) := sumN_le _ (fun s _ => by
    unfold tq
    split
    · exact Nat.mul_le_mul_left _ (by have := (wst_cl r hb (sk := nI s)).2; omega)
    · split <;> omega)
  rw [sumN_mul, all_ch hp] at h1
  have := (pr12 (q := q) r.1).1
  omega
theorem oddC {m0 : Nat} (r : qN g m0 σ) (ho : oo (σ 72) (σ 74 7) g = nI q) (hq : q < 2 ^ g) (hp : p ≤ 12) {b : Nat} (hb : b ≤ g) {v : Int32} (hv : ¬ v < 0) : ∃ σ' d7, agr σ σ' ∧ pX 81 49 [.ref 0, .int (nI b), .int v, .int (nI p), .long (lN 0), .null, .int 0, .null, .null] [] (mm L xs σ τ) 85 S = pX 81 104 [.ref 0, .int (nI b), .int v, .int (nI p), .long (lN (sumN (tq σ g q p b v) (2 ^ g))), .null, .int (nI (2 ^ g)), d7, .null] [] (mm L xs σ' τ) 85 S := by
  have hg6 := r.1
  obtain ⟨p64, p0⟩ := p2_64 hg6
  have key := lq (δ := (Nat → Nat → Int32) × Value) (2 ^ g) (fun _ d => agr σ d.1) (fun s d => pX 81 49 [.ref 0, .int (nI b), .int v, .int (nI p), .long (lN (sumN (tq σ g q p b v) s)), .null, .int (nI s), d.2, .null] [] (mm L xs d.1 τ) 85 S) (fun o => ∃ σ' d7, agr σ σ' ∧ o = pX 81 104 [.ref 0, .int (nI b), .int v, .int (nI p), .long (lN (sumN (tq σ g q p b v) (2 ^ g))), .null, .int (nI (2 ^ g)), d7, .null] [] (mm L xs σ' τ) 85 S) (fun d hd => ⟨d.1, d.2, hd, by
    have al := s4_allGates (L := L) (xs := xs) (σ := d.1) (τ := τ) (S := S) a_4 (qN_agr hd r).2.1 hg6
    simp only [Nat.reduceAdd, i5_odds_49, i5_odds_51, i5_odds_52, i5_odds_55, i5_odds_58, i5_odds_61, k_3, k_4, al, pK_i, ag_lt hg6 (show 2 ^ g ≤ 5000 by omega), Nat.lt_irrefl, not_false_eq_true, if_true]⟩) (fun s hs d hd => Or.inr (by
    obtain ⟨e, d7⟩ := d
    have ha : agr σ e := hd
    have r' := qN_agr ha r
    have al := s4_allGates (L := L) (xs := xs) (σ := e) (τ := τ) (S := S) a_4 r'.2.1 hg6
    have lt := ag_lt hg6 (show s ≤ 5000 by omega)
    have ch := s5_chanceOf (L := L) (xs := xs) (τ := τ) (S := S) (q := q) (s := s) (p := p) r' (by rw [ha.1 72 (by unfold scr; omega) (by decide), ha.1 74 (by unfold scr; omega) (by decide)]; exact ho) hq hs hp
    obtain ⟨σ', st, a'⟩ := s5_standsStuck (L := L) (xs := xs) (τ := τ) (S := S) r' (sk := nI s) hb
    rw [agr_wst ha] at st
    have bd := prw (q := q) (s := s) hg6 hp
    have es : sumN (tq σ g q p b v) (s + 1) = sumN (tq σ g q p b v) s + tq σ g q p b v s := rfl
    by_cases h0 : prN (wN q p s) g = 0
    · refine ⟨(e, .long (lN (prN (wN q p s) g))), ha, ?_⟩
      rw [es, tq_0 h0, Nat.add_zero, i5_odds_49]
      rw [h0] at ch ⊢
      have c0 : lg_cmp (lN 0) 0 = 0 := lcmp_0
      simp only [Nat.reduceAdd, i5_odds_51, i5_odds_52, i5_odds_55, i5_odds_58, i5_odds_61, i5_odds_64, i5_odds_65, i5_odds_67, i5_odds_68, i5_odds_71, i5_odds_73, i5_odds_75, i5_odds_76, i5_odds_77, i5_odds_80, i5_odds_81, i5_odds_82, i5_odds_84, i5_odds_87, i5_odds_88, i5_odds_91, i5_odds_93, i5_odds_95, i5_odds_96, i5_odds_98, i5_odds_101, k_3, k_4, al, ch, c0, pK_i, pK_l, lt, hs, if_true, if_false, not_true_eq_false, not_false_eq_true, true_or, or_true, Bool.false_eq_true, nI_1]
    · have c1 := lcmp_p (b := prN (wN q p s) g) (by omega) (by omega)
      refine ⟨(σ', .long (lN (prN (wN q p s) g))), agr_t ha a', ?_⟩
      by_cases h : wst σ g (nI s) b < v
      · have et : tq σ g q p b v s = 0 := by unfold tq; rw [if_neg hv, if_pos h]
        rw [es, et, Nat.add_zero, i5_odds_49]
        simp only [Nat.reduceAdd, i5_odds_51, i5_odds_52, i5_odds_55, i5_odds_58, i5_odds_61, i5_odds_64, i5_odds_65, i5_odds_67, i5_odds_68, i5_odds_71, i5_odds_73, i5_odds_75, i5_odds_76, i5_odds_77, i5_odds_80, i5_odds_81, i5_odds_82, i5_odds_84, i5_odds_87, i5_odds_88, i5_odds_91, i5_odds_93, i5_odds_95, i5_odds_96, i5_odds_98, i5_odds_101, k_3, k_4, al, ch, c1, st, pK_i, pK_l, lt, hs, n10, h, if_true, if_false, not_true_eq_false, not_false_eq_true, true_or, or_true, Bool.false_eq_true, nI_1]
      · have et : tq σ g q p b v s = prN (wN q p s) g := by unfold tq; rw [if_neg hv, if_neg h]
        rw [es, et, i5_odds_49]
        simp only [Nat.reduceAdd, i5_odds_51, i5_odds_52, i5_odds_55, i5_odds_58, i5_odds_61, i5_odds_64, i5_odds_65, i5_odds_67, i5_odds_68, i5_odds_71, i5_odds_73, i5_odds_75, i5_odds_76, i5_odds_77, i5_odds_80, i5_odds_81, i5_odds_82, i5_odds_84, i5_odds_87, i5_odds_88, i5_odds_91, i5_odds_93, i5_odds_95, i5_odds_96, i5_odds_98, i5_odds_101, k_3, k_4, al, ch, c1, st, pK_i, pK_l, lt, hs, n10, h, lN_add, if_true, if_false, not_true_eq_false, not_false_eq_true, true_or, or_true, Bool.false_eq_true, nI_1]))
  exact key (σ, .null) (agr_r σ)
theorem midC {m0 : Nat} (r : qN g m0 σ) (ho : oo (σ 72) (σ 74 7) g = nI q) (hq : q < 2 ^ g) (hp : p ≤ 12) {b : Nat} (hb : b ≤ g) : ∃ σ' d7, agr σ σ' ∧ pX 82 41 [.ref 0, .int (nI b), .int (nI p), .long (lN 0), .null, .int 0, .null, .null] [] (mm L xs σ τ) 85 S = pX 82 92 [.ref 0, .int (nI b), .int (nI p), .long (lN (sumN (tq σ g q p b (-1)) (2 ^ g))), .null, .int (nI (2 ^ g)), d7, .null] [] (mm L xs σ' τ) 85 S := by
  have hg6 := r.1
  obtain ⟨p64, p0⟩ := p2_64 hg6
  have hv : (-1 : Int32) < 0 := by decide
  have key := lq (δ := (Nat → Nat → Int32) × Value) (2 ^ g) (fun _ d => agr σ d.1) (fun s d => pX 82 41 [.ref 0, .int (nI b), .int (nI p), .long (lN (sumN (tq σ g q p b (-1)) s)), .null, .int (nI s), d.2, .null] [] (mm L xs d.1 τ) 85 S) (fun o => ∃ σ' d7, agr σ σ' ∧ o = pX 82 92 [.ref 0, .int (nI b), .int (nI p), .long (lN (sumN (tq σ g q p b (-1)) (2 ^ g))), .null, .int (nI (2 ^ g)), d7, .null] [] (mm L xs σ' τ) 85 S) (fun d hd => ⟨d.1, d.2, hd, by
    have al := s4_allGates (L := L) (xs := xs) (σ := d.1) (τ := τ) (S := S) a_4 (qN_agr hd r).2.1 hg6
    simp only [Nat.reduceAdd, i5_mid_41, i5_mid_43, i5_mid_44, i5_mid_47, i5_mid_50, i5_mid_53, k_3, k_4, al, pK_i, ag_lt hg6 (show 2 ^ g ≤ 5000 by omega), Nat.lt_irrefl, not_false_eq_true, if_true]⟩) (fun s hs d hd => Or.inr (by
    obtain ⟨e, d7⟩ := d
    have ha : agr σ e := hd
    have r' := qN_agr ha r
    have al := s4_allGates (L := L) (xs := xs) (σ := e) (τ := τ) (S := S) a_4 r'.2.1 hg6
    have lt := ag_lt hg6 (show s ≤ 5000 by omega)
    have ch := s5_chanceOf (L := L) (xs := xs) (τ := τ) (S := S) (q := q) (s := s) (p := p) r' (by rw [ha.1 72 (by unfold scr; omega) (by decide), ha.1 74 (by unfold scr; omega) (by decide)]; exact ho) hq hs hp
    obtain ⟨σ', st, a'⟩ := s5_standsStuck (L := L) (xs := xs) (τ := τ) (S := S) r' (sk := nI s) hb
    rw [agr_wst ha] at st
    have bd := prw (q := q) (s := s) hg6 hp
    have es : sumN (tq σ g q p b (-1)) (s + 1) = sumN (tq σ g q p b (-1)) s + tq σ g q p b (-1) s := rfl
    by_cases h0 : prN (wN q p s) g = 0
    · refine ⟨(e, .long (lN (prN (wN q p s) g))), ha, ?_⟩
      rw [es, tq_0 h0, Nat.add_zero, i5_mid_41]
      rw [h0] at ch ⊢
      have c0 : lg_cmp (lN 0) 0 = 0 := lcmp_0
      simp only [Nat.reduceAdd, i5_mid_43, i5_mid_44, i5_mid_47, i5_mid_50, i5_mid_53, i5_mid_56, i5_mid_57, i5_mid_59, i5_mid_60, i5_mid_63, i5_mid_65, i5_mid_67, i5_mid_68, i5_mid_69, i5_mid_72, i5_mid_73, i5_mid_75, i5_mid_76, i5_mid_77, i5_mid_79, i5_mid_82, i5_mid_83, i5_mid_84, i5_mid_85, i5_mid_86, i5_mid_89, k_3, k_4, al, ch, c0, pK_i, pK_l, lt, hs, if_true, if_false, not_true_eq_false, not_false_eq_true, true_or, or_true, Bool.false_eq_true, nI_1]
    · have c1 := lcmp_p (b := prN (wN q p s) g) (by omega) (by omega)
      refine ⟨(σ', .long (lN (prN (wN q p s) g))), agr_t ha a', ?_⟩
      have et : tq σ g q p b (-1) s = prN (wN q p s) g * (wst σ g (nI s) b).toNatClampNeg := by unfold tq; rw [if_pos hv]
      obtain ⟨w1, w2⟩ := wst_cl r hb (sk := nI s)
      rw [es, et, i5_mid_41]
      generalize (wst σ g (nI s) b).toNatClampNeg = l at w1 w2 ⊢
      rw [w1] at st
      simp only [Nat.reduceAdd, i5_mid_43, i5_mid_44, i5_mid_47, i5_mid_50, i5_mid_53, i5_mid_56, i5_mid_57, i5_mid_59, i5_mid_60, i5_mid_63, i5_mid_65, i5_mid_67, i5_mid_68, i5_mid_69, i5_mid_72, i5_mid_73, i5_mid_75, i5_mid_76, i5_mid_77, i5_mid_79, i5_mid_82, i5_mid_83, i5_mid_84, i5_mid_85, i5_mid_86, i5_mid_89, k_3, k_4, al, ch, c1, st, nI_l (show l < 2 ^ 31 by omega), lN_mul, lN_add, pK_i, pK_l, lt, hs, n10, if_true, if_false, not_true_eq_false, not_false_eq_true, true_or, or_true, Bool.false_eq_true, nI_1]))
  exact key (σ, .null) (agr_r σ)
end DU
section GR
variable {L : Nat} {xs : Nat → Int32} {σ : Nat → Nat → Int32} {τ : Nat → Nat → Int64} {S g d : Nat} {M : pm_M} {N : Nat}
theorem gcR {a0 a1 a2 a3 a4 : Value} : ∀ n z y (d9 : Value), z ≤ n → z < 2 ^ 31 → y < 2 ^ 31 → ∃ d9', pX 206 6 [a0, a1, a2, a3, a4, .long (lN y), .null, .long (lN z), .null, d9, .null] [] M N S = pX 206 31 [a0, a1, a2, a3, a4, .long (lN (Nat.gcd y z)), .null, .long (lN 0), .null, d9', .null] [] M N S := by
  intro n
  induction n with
  | zero =>
    intro z y d9 h1 h2 h3
    have : z = 0 := by omega
    subst this
    have c0 : lg_cmp (lN 0) 0 = 0 := lcmp_0
    refine ⟨d9, ?_⟩
    rw [Nat.gcd_zero_right]
    simp only [i6_lowest_6, i6_lowest_8, i6_lowest_9, i6_lowest_10, c0, Int32.lt_irrefl, if_false]
  | succ n ih =>
    intro z y d9 h1 h2 h3
    rcases Nat.eq_zero_or_pos z with e | h0
    · subst e
      have c0 : lg_cmp (lN 0) 0 = 0 := lcmp_0
      refine ⟨d9, ?_⟩
      rw [Nat.gcd_zero_right]
      simp only [i6_lowest_6, i6_lowest_8, i6_lowest_9, i6_lowest_10, c0, Int32.lt_irrefl, if_false]
    · have hm : y % z < z := Nat.mod_lt _ h0
      obtain ⟨d9', k⟩ := ih (y % z) z (.long (lN (y % z))) (by omega) (by omega) h2
      refine ⟨d9', ?_⟩
      rw [gcd_st, ← k]
      have q : (0 : Int32) < 1 := by decide
      rw [i6_lowest_6]
      simp only [i6_lowest_8, i6_lowest_9, i6_lowest_10, i6_lowest_13, i6_lowest_15, i6_lowest_17, i6_lowest_18, i6_lowest_20, i6_lowest_22, i6_lowest_24, i6_lowest_26, i6_lowest_28, lcmp_p h0 h2, q, lN_ne0 h0 h2, pk_lRem (show y < 2 ^ 63 by omega) h0 (show z < 2 ^ 63 by omega), if_true, if_false]
theorem s6_lowest {a b : Nat} (ha : a < 2 ^ 31) (hb : b < 2 ^ 31) (h0 : 0 < b) : pX 206 0 [.ref 67, .long (lN a), .null, .long (lN b), .null, .null, .null, .null, .null, .null, .null] [] (mm L xs σ τ) 85 S = some (none, mm L xs σ (ptR τ (lN (a / Nat.gcd a b)) (lN (b / Nat.gcd a b))), 85, S) := by
  have hg : 0 < Nat.gcd a b := Nat.gcd_pos_of_pos_right a h0
  have hl : Nat.gcd a b < 2 ^ 31 := Nat.lt_of_le_of_lt (Nat.gcd_le_right a h0) hb
  obtain ⟨d9, k⟩ := gcR (M := mm L xs σ τ) (N := 85) (S := S) (a0 := .ref 67) (a1 := .long (lN a)) (a2 := .null) (a3 := .long (lN b)) (a4 := .null) b b a .null (Nat.le_refl _) hb ha
  unfold ptR
  simp only [i6_lowest_0, i6_lowest_1, i6_lowest_3, i6_lowest_4, k]
  simp only [i6_lowest_31, i6_lowest_32, i6_lowest_33, i6_lowest_35, i6_lowest_36, i6_lowest_39, i6_lowest_40, i6_lowest_41, i6_lowest_43, i6_lowest_44, i6_lowest_47, lN_ne0 hg hl, pk_lDiv (show a < 2 ^ 63 by omega) hg (show Nat.gcd a b < 2 ^ 63 by omega), pk_lDiv (show b < 2 ^ 63 by omega) hg (show Nat.gcd a b < 2 ^ 63 by omega), if_false]
end GR
