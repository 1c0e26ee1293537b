/-! THE CALLS: odds, mid -/
section DV
variable {L : Nat} {xs : Nat → Int32} {σ σj : Nat → Nat → Int32} {τ : Nat → Nat → Int64} {S g d m j q p s : Nat}
theorem bcI {e : Nat → Nat → Int32} (hg : e 67 4 = nI g) (hg6 : g ≤ 6) (hq : q < 2 ^ g) (hs : s < 2 ^ g) (hp : p ≤ 12) (hsub : ∀ i, i < 6 → s.testBit i = true → q.testBit i = true) {b : Nat} {v : Int32} {u w : Int64} : pX 207 42 [.ref 67, .int (nI b), .int v, .int (nI p), .long u, .null, .long w, .null, .int (nI q), .int (nI s), .long 1, .null, .int 0] [] (mm L xs e τ) 85 S = pX 207 96 [.ref 67, .int (nI b), .int v, .int (nI p), .long u, .null, .long w, .null, .int (nI q), .int (nI s), .long (lN (prN (wN q p s) g)), .null, .int (nI g)] [] (mm L xs e τ) 85 S := by
  obtain ⟨p64, p0⟩ := p2_64 hg6
  have e12 : (12 : Int32) - nI p = nI (12 - p) := pk_sub hp
  have key := lp (δ := Unit) g (fun i _ => pX 207 42 [.ref 67, .int (nI b), .int v, .int (nI p), .long u, .null, .long w, .null, .int (nI q), .int (nI s), .long (lN (prN (wN q p s) i)), .null, .int (nI i)] [] (mm L xs e τ) 85 S) (pX 207 96 [.ref 67, .int (nI b), .int v, .int (nI p), .long u, .null, .long w, .null, .int (nI q), .int (nI s), .long (lN (prN (wN q p s) g)), .null, .int (nI g)] [] (mm L xs e τ) 85 S) (fun _ => by
    simp only [Nat.reduceAdd, i6_byChance_42, i6_byChance_44, i6_byChance_45, i6_byChance_48, hg, Int32.lt_irrefl, if_false]) (fun i hi _ => ⟨(), by
    have e1 : prN (wN q p s) (i + 1) = prN (wN q p s) i * wN q p s i := rfl
    have t1 := hb_tb (s := s) (i := i) (by omega) (by omega)
    have t2 := hb_tb (s := q) (i := i) (by omega) (by omega)
    rw [e1, i6_byChance_42]
    by_cases h1 : s.testBit i = true
    · have h2 := hsub i (by omega) h1
      have ew : wN q p s i = p := by unfold wN; rw [if_pos h1, if_pos h2]
      simp only [Nat.reduceAdd, i6_byChance_44, i6_byChance_45, i6_byChance_48, i6_byChance_51, i6_byChance_53, i6_byChance_55, i6_byChance_57, i6_byChance_60, i6_byChance_63, i6_byChance_64, i6_byChance_65, i6_byChance_68, i6_byChance_70, i6_byChance_72, i6_byChance_75, i6_byChance_78, i6_byChance_80, i6_byChance_81, i6_byChance_82, i6_byChance_83, i6_byChance_86, i6_byChance_87, i6_byChance_88, i6_byChance_90, i6_byChance_93, hg, nlt hi (by omega), s6_has, pK_i, bi_0, t1, t2, h1, h2, nI_l (show p < 2 ^ 31 by omega), lN_mul, ew, if_true, if_false, not_true_eq_false, not_false_eq_true, true_or, or_true, Bool.false_eq_true, nI_1]
    · by_cases h2 : q.testBit i = true
      · have ew : wN q p s i = 12 - p := by unfold wN; rw [if_neg h1, if_pos h2]
        simp only [Nat.reduceAdd, i6_byChance_44, i6_byChance_45, i6_byChance_48, i6_byChance_51, i6_byChance_53, i6_byChance_55, i6_byChance_57, i6_byChance_60, i6_byChance_63, i6_byChance_64, i6_byChance_65, i6_byChance_68, i6_byChance_70, i6_byChance_72, i6_byChance_75, i6_byChance_78, i6_byChance_80, i6_byChance_81, i6_byChance_82, i6_byChance_83, i6_byChance_86, i6_byChance_87, i6_byChance_88, i6_byChance_90, i6_byChance_93, hg, nlt hi (by omega), s6_has, pK_i, bi_0, t1, t2, h1, h2, e12, nI_l (show 12 - p < 2 ^ 31 by omega), lN_mul, ew, if_true, if_false, not_true_eq_false, not_false_eq_true, true_or, or_true, Bool.false_eq_true, nI_1]
      · have ew : wN q p s i = 1 := by unfold wN; rw [if_neg h1, if_neg h2]
        simp only [Nat.reduceAdd, i6_byChance_44, i6_byChance_45, i6_byChance_48, i6_byChance_51, i6_byChance_53, i6_byChance_55, i6_byChance_57, i6_byChance_60, i6_byChance_63, i6_byChance_64, i6_byChance_65, i6_byChance_68, i6_byChance_70, i6_byChance_72, i6_byChance_75, i6_byChance_78, i6_byChance_80, i6_byChance_81, i6_byChance_82, i6_byChance_83, i6_byChance_86, i6_byChance_87, i6_byChance_88, i6_byChance_90, i6_byChance_93, hg, nlt hi (by omega), s6_has, pK_i, bi_0, t1, t2, h1, h2, ew, Nat.mul_one, Int64.mul_one, if_true, if_false, not_true_eq_false, not_false_eq_true, true_or, or_true, Bool.false_eq_true, nI_1]⟩)
  have k := key ()
  rw [nI_0] at k
  exact k
theorem s6_byChance {m0 : Nat} (r : qN g m0 σ) (ho : oo (σ 72) (σ 74 7) g = nI q) (hq : q < 2 ^ g) (hp : p ≤ 12) {b : Nat} (hb : b ≤ g) {v : Int32} : ∃ σ', agr σ σ' ∧ pX 207 0 [.ref 67, .int (nI b), .int v, .int (nI p), .null, .null, .null, .null, .null, .null, .null, .null, .null] [] (mm L xs σ τ) 85 S = some (none, mm L xs σ' (ptR τ (lN (sumN (tq σ g q p b v) (2 ^ g) / Nat.gcd (sumN (tq σ g q p b v) (2 ^ g)) (prN (aN q) g))) (lN (prN (aN q) g / Nat.gcd (sumN (tq σ g q p b v) (2 ^ g)) (prN (aN q) g)))), 85, S) := by
  have hg6 := r.1
  obtain ⟨p64, p0⟩ := p2_64 hg6
  have pos := pr12 (q := q) hg6
  have bnd := tq_b (q := q) r hb hp (v := v)
  have key := lq (δ := (Nat → Nat → Int32) × Value × Value) (2 ^ g) (fun _ d => agr σ d.1) (fun s d => pX 207 15 [.ref 67, .int (nI b), .int v, .int (nI p), .long (lN (sumN (tq σ g q p b v) s)), .null, .long (lN (sumN (fun s => prN (wN q p s) g) s)), .null, .int (nI q), .int (nI s), d.2.1, .null, d.2.2] [] (mm L xs d.1 τ) 85 S) (fun o => ∃ σ', agr σ σ' ∧ o = some (none, mm L xs σ' (ptR τ (lN (sumN (tq σ g q p b v) (2 ^ g) / Nat.gcd (sumN (tq σ g q p b v) (2 ^ g)) (prN (aN q) g))) (lN (prN (aN q) g / Nat.gcd (sumN (tq σ g q p b v) (2 ^ g)) (prN (aN q) g)))), 85, S)) (fun d hd => ⟨d.1, hd, by
    have f67 := (qN_agr hd r).2.2.1
    rw [all_ch hp]
    simp only [Nat.reduceAdd, i6_byChance_15, i6_byChance_17, i6_byChance_18, i6_byChance_19, i6_byChance_22, i6_byChance_23, i6_byChance_166, i6_byChance_167, i6_byChance_169, i6_byChance_171, i6_byChance_174, f67, p2_ok hg6, Int32.lt_irrefl, if_false, s6_lowest bnd (show prN (aN q) g < 2 ^ 31 by omega) pos.2, pK_v]⟩) (fun s hs d hd => Or.inr (by
    obtain ⟨e, d10, d12⟩ := d
    have ha : agr σ e := hd
    have r' := qN_agr ha r
    have f67 := r'.2.2.1
    have lt := p2_lt hg6 (show s ≤ 5000 by omega)
    have st := sub_tb (s := s) (q := q) (by omega) (by omega)
    have es : sumN (tq σ g q p b v) (s + 1) = sumN (tq σ g q p b v) s + tq σ g q p b v s := rfl
    have ed : sumN (fun s => prN (wN q p s) g) (s + 1) = sumN (fun s => prN (wN q p s) g) s + prN (wN q p s) g := rfl
    by_cases h : nI s &&& (nI q ^^^ -1) = 0
    · have hsub := st.mp h
      have inn := fun u w => bcI (L := L) (xs := xs) (τ := τ) (S := S) (e := e) f67 hg6 hq hs hp hsub (b := b) (v := v) (u := u) (w := w)
      obtain ⟨e1, he1⟩ : ∃ x, x = va_up e 81 (va_cpy (e 74) (e 81) 0 0 9) := ⟨_, rfl⟩
      have as_ := s6_asItIs (L := L) (xs := xs) (σ := e) (τ := τ) (S := S)
      rw [← he1] at as_
      have a1 : agr e e1 := by rw [he1]; exact agr_u (agr_r e) scr_81
      obtain ⟨σ', t, a2, c2, w2⟩ := r6_stuck (L := L) (xs := xs) (σ := e1) (τ := τ) (S := S) (qN_agr a1 r') (sk := nI s) (fun c hc => by rw [he1, vs, vn (by decide), cpy_at _ _ hc])
      have hw := w2 b hb
      rw [agr_wst a1, agr_wst ha] at hw
      have ag' : agr σ σ' := agr_t ha (agr_t a1 a2)
      refine ⟨(σ', .long (lN (prN (wN q p s) g)), .int (nI g)), ag', ?_⟩
      rw [es, ed, i6_byChance_15]
      simp only [Nat.reduceAdd, i6_byChance_17, i6_byChance_18, i6_byChance_19, i6_byChance_22, i6_byChance_23, i6_byChance_26, i6_byChance_28, i6_byChance_30, i6_byChance_31, i6_byChance_32, i6_byChance_33, i6_byChance_36, i6_byChance_37, i6_byChance_39, i6_byChance_40, f67, p2_ok hg6, lt, hs, h, if_true, if_false, not_true_eq_false, not_false_eq_true, true_or, or_true, Bool.false_eq_true]
      rw [inn]
      by_cases hv : v < 0
      · have et : tq σ g q p b v s = prN (wN q p s) g * (wst σ g (nI s) b).toNatClampNeg := by unfold tq; rw [if_pos hv]
        obtain ⟨w3, w4⟩ := wst_cl r hb (sk := nI s)
        rw [et]
        generalize (wst σ g (nI s) b).toNatClampNeg = l at w3 w4 ⊢
        rw [w3] at hw
        simp only [Nat.reduceAdd, i6_byChance_96, i6_byChance_97, i6_byChance_100, i6_byChance_101, i6_byChance_102, i6_byChance_105, i6_byChance_107, i6_byChance_110, i6_byChance_111, i6_byChance_113, i6_byChance_115, i6_byChance_116, i6_byChance_118, i6_byChance_120, i6_byChance_121, i6_byChance_124, i6_byChance_126, i6_byChance_127, i6_byChance_130, i6_byChance_131, i6_byChance_132, i6_byChance_133, i6_byChance_134, i6_byChance_135, i6_byChance_136, i6_byChance_139, i6_byChance_140, i6_byChance_143, i6_byChance_144, i6_byChance_145, i6_byChance_146, i6_byChance_147, i6_byChance_148, i6_byChance_151, i6_byChance_153, i6_byChance_156, i6_byChance_157, i6_byChance_158, i6_byChance_160, i6_byChance_163, as_, t, k_81, l_81, ifb_i (show b < 9 by omega) (by decide), cl (show b ≤ 5000 by omega), Int32.zero_add, hv, hw, nI_l (show l < 2 ^ 31 by omega), lN_mul, lN_add, pK_i, pK_v, if_true, if_false, not_true_eq_false, not_false_eq_true, true_or, or_true, Bool.false_eq_true, nI_1]
      · by_cases hl : wst σ g (nI s) b < v
        · have et : tq σ g q p b v s = 0 := by unfold tq; rw [if_neg hv, if_pos hl]
          rw [et]
          simp only [Nat.reduceAdd, i6_byChance_96, i6_byChance_97, i6_byChance_100, i6_byChance_101, i6_byChance_102, i6_byChance_105, i6_byChance_107, i6_byChance_110, i6_byChance_111, i6_byChance_113, i6_byChance_115, i6_byChance_116, i6_byChance_118, i6_byChance_120, i6_byChance_121, i6_byChance_124, i6_byChance_126, i6_byChance_127, i6_byChance_130, i6_byChance_131, i6_byChance_132, i6_byChance_133, i6_byChance_134, i6_byChance_135, i6_byChance_136, i6_byChance_139, i6_byChance_140, i6_byChance_143, i6_byChance_144, i6_byChance_145, i6_byChance_146, i6_byChance_147, i6_byChance_148, i6_byChance_151, i6_byChance_153, i6_byChance_156, i6_byChance_157, i6_byChance_158, i6_byChance_160, i6_byChance_163, as_, t, k_81, l_81, ifb_i (show b < 9 by omega) (by decide), cl (show b ≤ 5000 by omega), Int32.zero_add, hv, hw, hl, lN_add, Int64.add_zero, Nat.add_zero, pK_i, pK_v, if_true, if_false, not_true_eq_false, not_false_eq_true, true_or, or_true, Bool.false_eq_true, nI_1]
        · have et : tq σ g q p b v s = prN (wN q p s) g := by unfold tq; rw [if_neg hv, if_neg hl]
          rw [et]
          simp only [Nat.reduceAdd, i6_byChance_96, i6_byChance_97, i6_byChance_100, i6_byChance_101, i6_byChance_102, i6_byChance_105, i6_byChance_107, i6_byChance_110, i6_byChance_111, i6_byChance_113, i6_byChance_115, i6_byChance_116, i6_byChance_118, i6_byChance_120, i6_byChance_121, i6_byChance_124, i6_byChance_126, i6_byChance_127, i6_byChance_130, i6_byChance_131, i6_byChance_132, i6_byChance_133, i6_byChance_134, i6_byChance_135, i6_byChance_136, i6_byChance_139, i6_byChance_140, i6_byChance_143, i6_byChance_144, i6_byChance_145, i6_byChance_146, i6_byChance_147, i6_byChance_148, i6_byChance_151, i6_byChance_153, i6_byChance_156, i6_byChance_157, i6_byChance_158, i6_byChance_160, i6_byChance_163, as_, t, k_81, l_81, ifb_i (show b < 9 by omega) (by decide), cl (show b ≤ 5000 by omega), Int32.zero_add, hv, hw, hl, lN_add, pK_i, pK_v, if_true, if_false, not_true_eq_false, not_false_eq_true, true_or, or_true, Bool.false_eq_true, nI_1]
    · have hz : prN (wN q p s) g = 0 := by
        apply Classical.byContradiction
        intro hne
        apply h
        rw [st]
        intro i hi h1
        by_cases hig : i < g
        · apply Classical.byContradiction
          intro h2
          exact hne (wN_sub0 hig h1 h2)
        · rw [Nat.testBit_lt_two_pow (Nat.lt_of_lt_of_le hs (Nat.pow_le_pow_right (by decide) (by omega)))] at h1
          cases h1
      refine ⟨(e, d10, d12), ha, ?_⟩
      rw [es, ed, tq_0 hz, hz, i6_byChance_15]
      simp only [Nat.reduceAdd, i6_byChance_17, i6_byChance_18, i6_byChance_19, i6_byChance_22, i6_byChance_23, i6_byChance_26, i6_byChance_28, i6_byChance_30, i6_byChance_31, i6_byChance_32, i6_byChance_33, i6_byChance_36, i6_byChance_37, i6_byChance_39, i6_byChance_40, i6_byChance_160, i6_byChance_163, f67, p2_ok hg6, lt, hs, h, if_true, if_false, not_true_eq_false, not_false_eq_true, true_or, or_true, Bool.false_eq_true, nI_1, Nat.add_zero]))
  have oO := s6_openOnes (L := L) (xs := xs) (σ := σ) (τ := τ) (S := S) r.2.2.1 hg6
  rw [ho] at oO
  obtain ⟨σ', ag, k⟩ := key (σ, .null, .null) (agr_r σ)
  refine ⟨σ', ag, ?_⟩
  rw [nI_0] at k
  simp only [Nat.reduceAdd, i6_byChance_0, i6_byChance_1, i6_byChance_3, i6_byChance_4, i6_byChance_6, i6_byChance_7, i6_byChance_10, i6_byChance_12, i6_byChance_13, oO, pK_i]
  exact k
theorem in12 {p : Int32} : (¬ p < 0 ∧ ¬ 12 < p) = inb p 13 := propext (inb_iff2 (n := 12) rfl (by decide)).symm
theorem op_odds {b v p : Int32} : opI L xs S (fun M => pX 81 0 [.ref 0, .int b, .int v, .int p, .null, .null, .null, .null, .null] [] M 85 S) (fun M => pX 208 0 [.ref 67, .int b, .int v, .int p] [] M 85 S) := by
  intro g d σ τ R
  have hg6 := R.1.1
  by_cases h : 0 < g
  · by_cases hb : inb b (g + 1)
    · by_cases hv : inb v 61
      · by_cases hp : inb p 13
        · obtain ⟨j, hj, rfl⟩ := inb_of hb (by omega)
          obtain ⟨k, hk, rfl⟩ := inb_of hp (by decide)
          have hv0 : ¬ v < 0 := by
            have := hv; rw [← in61] at this; exact this.1
          obtain ⟨q, hq, ho, ht⟩ := oo_q (σ 72) (σ 74 7) g hg6
          have pos := pr12 (q := q) hg6
          obtain ⟨U, hU⟩ : ∃ U, U = lN (sumN (tq σ g q k j v) (2 ^ g) / Nat.gcd (sumN (tq σ g q k j v) (2 ^ g)) (prN (aN q) g)) := ⟨_, rfl⟩
          obtain ⟨V, hV⟩ : ∃ V, V = lN (prN (aN q) g / Nat.gcd (sumN (tq σ g q k j v) (2 ^ g)) (prN (aN q) g)) := ⟨_, rfl⟩
          have bnd := tq_b (q := q) R.1 (show j ≤ g by omega) (show k ≤ 12 by omega) (v := v)
          obtain ⟨σ1, d7, ag1, p1⟩ := oddC (L := L) (xs := xs) (τ := τ) (S := S) R.1 ho hq (show k ≤ 12 by omega) (show j ≤ g by omega) hv0
          have rA := qN_agr ag1 R.1
          have e72 := ag1.1 72 (by unfold scr; omega) (by decide)
          have e74 := ag1.1 74 (by unfold scr; omega) (by decide)
          have ac := s5_allChances (L := L) (xs := xs) (τ := τ) (S := S) (q := q) rA (fun i hi => by rw [e72, e74]; exact ht i hi)
          have tp := s5_tellPart (L := L) (xs := xs) (σ := σ1) (τ := τ) (S := S) bnd (show prN (aN q) g < 2 ^ 31 by omega) pos.2
          obtain ⟨σ2, ag2, p2⟩ := s6_byChance (L := L) (xs := xs) (τ := ptC τ U V) (S := S) rA (by rw [e72, e74]; exact ho) hq (show k ≤ 12 by omega) (show j ≤ g by omega) (v := v)
          have ew : tq σ1 g q k j v = tq σ g q k j v := by funext s; unfold tq; rw [agr_wst ag1]
          rw [ew, ← hU, ← hV] at p2
          rw [← hU, ← hV] at tp
          have g1 := rA.2.2.1
          have l0 : (0 : Int64) = lN 0 := rfl
          refine op_of (v := 1) (σ1 := σ1) (σ2 := σ2) (τ1 := ptC τ U V) (τ2 := ptR (ptC τ U V) U V) (g := g) (d := d) ?_ ?_ (Rel_pt (Rel_agr ag2 (Rel_agr ag1 R)))
          · simp only [Nat.reduceAdd, i5_odds_0, i5_odds_1, i5_odds_4, i5_odds_7, i5_odds_10, i5_odds_12, i5_odds_13, i5_odds_14, i5_odds_17, i5_odds_20, i5_odds_21, i5_odds_24, i5_odds_27, i5_odds_28, i5_odds_31, i5_odds_34, i5_odds_35, i5_odds_38, i5_odds_41, i5_odds_42, i5_odds_43, i5_odds_44, i5_odds_46, i5_odds_47, s3_isThere R.1, h4_hasBasin R.1 h, s5_isLevel, s5_isTwelfths, l0, p1, k_3, k_4, pK_i, bi_0, h, hb, hv, hp, if_true, if_false, not_true_eq_false, not_false_eq_true, true_or, or_true, Bool.false_eq_true]
            simp only [i5_odds_104, i5_odds_105, i5_odds_107, i5_odds_108, i5_odds_111, i5_odds_114, i5_odds_115, ac, tp, pK_l, pK_v]
          · simp only [Nat.reduceAdd, i6_odds_0, i6_odds_1, i6_odds_4, i6_odds_7, i6_odds_9, i6_odds_10, i6_odds_11, i6_odds_12, i6_odds_15, i6_odds_18, i6_odds_19, i6_odds_20, i6_odds_22, i6_odds_25, i6_odds_28, i6_odds_29, i6_odds_30, i6_odds_32, i6_odds_35, i6_odds_38, i6_odds_39, i6_odds_40, i6_odds_41, i6_odds_42, i6_odds_43, i6_odds_44, i6_odds_47, i6_odds_48, g1, gN0 hg6, s6_isBasin g1 hg6, s6_in, in61, in12, p2, pK_i, pK_v, bi_0, h, hb, hv, hp, if_true, if_false, not_true_eq_false, not_false_eq_true, true_or, or_true, Bool.false_eq_true]
        · apply op_of
          · simp only [Nat.reduceAdd, i5_odds_0, i5_odds_1, i5_odds_4, i5_odds_7, i5_odds_10, i5_odds_12, i5_odds_13, i5_odds_14, i5_odds_17, i5_odds_20, i5_odds_21, i5_odds_24, i5_odds_27, i5_odds_28, i5_odds_31, i5_odds_34, i5_odds_35, i5_odds_38, i5_odds_41, i5_odds_42, i5_odds_43, i5_odds_44, i5_odds_46, i5_odds_47, s3_isThere R.1, h4_hasBasin R.1 h, s5_isLevel, s5_isTwelfths, k_3, k_4, pK_i, bi_0, h, hb, hv, hp, if_true, if_false, not_true_eq_false, not_false_eq_true, true_or, or_true, Bool.false_eq_true]; rfl
          · simp only [Nat.reduceAdd, i6_odds_0, i6_odds_1, i6_odds_4, i6_odds_7, i6_odds_9, i6_odds_10, i6_odds_11, i6_odds_12, i6_odds_15, i6_odds_18, i6_odds_19, i6_odds_20, i6_odds_22, i6_odds_25, i6_odds_28, i6_odds_29, i6_odds_30, i6_odds_32, i6_odds_35, i6_odds_38, i6_odds_39, i6_odds_40, i6_odds_41, i6_odds_42, i6_odds_43, i6_odds_44, i6_odds_47, i6_odds_48, R.1.2.2.1, gN0 hg6, s6_isBasin R.1.2.2.1 hg6, s6_in, in61, in12, pK_i, bi_0, h, hb, hv, hp, if_true, if_false, not_true_eq_false, not_false_eq_true, true_or, or_true, Bool.false_eq_true]; rfl
          · exact R
      · apply op_of
        · simp only [Nat.reduceAdd, i5_odds_0, i5_odds_1, i5_odds_4, i5_odds_7, i5_odds_10, i5_odds_12, i5_odds_13, i5_odds_14, i5_odds_17, i5_odds_20, i5_odds_21, i5_odds_24, i5_odds_27, i5_odds_28, i5_odds_31, i5_odds_34, i5_odds_35, i5_odds_38, i5_odds_41, i5_odds_42, i5_odds_43, i5_odds_44, i5_odds_46, i5_odds_47, s3_isThere R.1, h4_hasBasin R.1 h, s5_isLevel, k_3, k_4, pK_i, bi_0, h, hb, hv, if_true, if_false, not_true_eq_false, not_false_eq_true, true_or, or_true, Bool.false_eq_true]; rfl
        · simp only [Nat.reduceAdd, i6_odds_0, i6_odds_1, i6_odds_4, i6_odds_7, i6_odds_9, i6_odds_10, i6_odds_11, i6_odds_12, i6_odds_15, i6_odds_18, i6_odds_19, i6_odds_20, i6_odds_22, i6_odds_25, i6_odds_28, i6_odds_29, i6_odds_30, i6_odds_32, i6_odds_35, i6_odds_38, i6_odds_39, i6_odds_40, i6_odds_41, i6_odds_42, i6_odds_43, i6_odds_44, i6_odds_47, i6_odds_48, R.1.2.2.1, gN0 hg6, s6_isBasin R.1.2.2.1 hg6, s6_in, in61, pK_i, bi_0, h, hb, hv, if_true, if_false, not_true_eq_false, not_false_eq_true, true_or, or_true, Bool.false_eq_true]; rfl
        · exact R
    · apply op_of
      · simp only [Nat.reduceAdd, i5_odds_0, i5_odds_1, i5_odds_4, i5_odds_7, i5_odds_10, i5_odds_12, i5_odds_13, i5_odds_14, i5_odds_17, i5_odds_20, i5_odds_21, i5_odds_24, i5_odds_27, i5_odds_28, i5_odds_31, i5_odds_34, i5_odds_35, i5_odds_38, i5_odds_41, i5_odds_42, i5_odds_43, i5_odds_44, i5_odds_46, i5_odds_47, s3_isThere R.1, h4_hasBasin R.1 h, k_3, k_4, pK_i, bi_0, h, hb, if_true, if_false, not_true_eq_false, not_false_eq_true, true_or, or_true, Bool.false_eq_true]; rfl
      · simp only [Nat.reduceAdd, i6_odds_0, i6_odds_1, i6_odds_4, i6_odds_7, i6_odds_9, i6_odds_10, i6_odds_11, i6_odds_12, i6_odds_15, i6_odds_18, i6_odds_19, i6_odds_20, i6_odds_22, i6_odds_25, i6_odds_28, i6_odds_29, i6_odds_30, i6_odds_32, i6_odds_35, i6_odds_38, i6_odds_39, i6_odds_40, i6_odds_41, i6_odds_42, i6_odds_43, i6_odds_44, i6_odds_47, i6_odds_48, R.1.2.2.1, gN0 hg6, s6_isBasin R.1.2.2.1 hg6, pK_i, bi_0, h, hb, if_true, if_false, not_true_eq_false, not_false_eq_true, true_or, or_true, Bool.false_eq_true]; rfl
      · exact R
  · apply op_of
    · simp only [Nat.reduceAdd, i5_odds_0, i5_odds_1, i5_odds_4, i5_odds_7, i5_odds_10, i5_odds_12, i5_odds_13, i5_odds_14, i5_odds_17, i5_odds_20, i5_odds_21, i5_odds_24, i5_odds_27, i5_odds_28, i5_odds_31, i5_odds_34, i5_odds_35, i5_odds_38, i5_odds_41, i5_odds_42, i5_odds_43, i5_odds_44, i5_odds_46, i5_odds_47, s3_isThere R.1, k_3, k_4, pK_i, bi_0, h, if_true, if_false, not_true_eq_false, not_false_eq_true, true_or, or_true, Bool.false_eq_true]; rfl
    · simp only [Nat.reduceAdd, i6_odds_0, i6_odds_1, i6_odds_4, i6_odds_7, i6_odds_9, i6_odds_10, i6_odds_11, i6_odds_12, i6_odds_15, i6_odds_18, i6_odds_19, i6_odds_20, i6_odds_22, i6_odds_25, i6_odds_28, i6_odds_29, i6_odds_30, i6_odds_32, i6_odds_35, i6_odds_38, i6_odds_39, i6_odds_40, i6_odds_41, i6_odds_42, i6_odds_43, i6_odds_44, i6_odds_47, i6_odds_48, R.1.2.2.1, gN0 hg6, h, if_true, if_false, not_true_eq_false, not_false_eq_true, true_or, or_true, Bool.false_eq_true]; rfl
    · exact R
theorem op_mid {b p : Int32} : opI L xs S (fun M => pX 82 0 [.ref 0, .int b, .int p, .null, .null, .null, .null, .null] [] M 85 S) (fun M => pX 209 0 [.ref 67, .int b, .int p] [] M 85 S) := by
  intro g d σ τ R
  have hg6 := R.1.1
  by_cases h : 0 < g
  · by_cases hb : inb b (g + 1)
    · by_cases hp : inb p 13
      · obtain ⟨j, hj, rfl⟩ := inb_of hb (by omega)
        obtain ⟨k, hk, rfl⟩ := inb_of hp (by decide)
        obtain ⟨q, hq, ho, ht⟩ := oo_q (σ 72) (σ 74 7) g hg6
        have pos := pr12 (q := q) hg6
        obtain ⟨U, hU⟩ : ∃ U, U = lN (sumN (tq σ g q k j (-1)) (2 ^ g) / Nat.gcd (sumN (tq σ g q k j (-1)) (2 ^ g)) (prN (aN q) g)) := ⟨_, rfl⟩
        obtain ⟨V, hV⟩ : ∃ V, V = lN (prN (aN q) g / Nat.gcd (sumN (tq σ g q k j (-1)) (2 ^ g)) (prN (aN q) g)) := ⟨_, rfl⟩
        have bnd := tq_b (q := q) R.1 (show j ≤ g by omega) (show k ≤ 12 by omega) (v := -1)
        obtain ⟨σ1, d7, ag1, p1⟩ := midC (L := L) (xs := xs) (τ := τ) (S := S) R.1 ho hq (show k ≤ 12 by omega) (show j ≤ g by omega)
        have rA := qN_agr ag1 R.1
        have e72 := ag1.1 72 (by unfold scr; omega) (by decide)
        have e74 := ag1.1 74 (by unfold scr; omega) (by decide)
        have ac := s5_allChances (L := L) (xs := xs) (τ := τ) (S := S) (q := q) rA (fun i hi => by rw [e72, e74]; exact ht i hi)
        have tp := s5_tellPart (L := L) (xs := xs) (σ := σ1) (τ := τ) (S := S) bnd (show prN (aN q) g < 2 ^ 31 by omega) pos.2
        obtain ⟨σ2, ag2, p2⟩ := s6_byChance (L := L) (xs := xs) (τ := ptC τ U V) (S := S) rA (by rw [e72, e74]; exact ho) hq (show k ≤ 12 by omega) (show j ≤ g by omega) (v := -1)
        have ew : tq σ1 g q k j (-1) = tq σ g q k j (-1) := by funext s; unfold tq; rw [agr_wst ag1]
        rw [ew, ← hU, ← hV] at p2
        rw [← hU, ← hV] at tp
        have g1 := rA.2.2.1
        have l0 : (0 : Int64) = lN 0 := rfl
        refine op_of (v := 1) (σ1 := σ1) (σ2 := σ2) (τ1 := ptC τ U V) (τ2 := ptR (ptC τ U V) U V) (g := g) (d := d) ?_ ?_ (Rel_pt (Rel_agr ag2 (Rel_agr ag1 R)))
        · simp only [Nat.reduceAdd, i5_mid_0, i5_mid_1, i5_mid_4, i5_mid_7, i5_mid_10, i5_mid_12, i5_mid_13, i5_mid_14, i5_mid_17, i5_mid_20, i5_mid_21, i5_mid_24, i5_mid_27, i5_mid_28, i5_mid_31, i5_mid_34, i5_mid_35, i5_mid_36, i5_mid_37, i5_mid_38, i5_mid_39, s3_isThere R.1, h4_hasBasin R.1 h, s5_isTwelfths, l0, p1, k_3, k_4, pK_i, bi_0, h, hb, hp, if_true, if_false, not_true_eq_false, not_false_eq_true, true_or, or_true, Bool.false_eq_true]
          simp only [i5_mid_92, i5_mid_93, i5_mid_94, i5_mid_95, i5_mid_98, i5_mid_101, i5_mid_102, ac, tp, pK_l, pK_v]
        · simp only [Nat.reduceAdd, i6_mid_0, i6_mid_1, i6_mid_4, i6_mid_7, i6_mid_9, i6_mid_10, i6_mid_11, i6_mid_12, i6_mid_15, i6_mid_18, i6_mid_19, i6_mid_20, i6_mid_22, i6_mid_25, i6_mid_28, i6_mid_29, i6_mid_30, i6_mid_31, i6_mid_32, i6_mid_33, i6_mid_34, i6_mid_37, i6_mid_38, g1, gN0 hg6, s6_isBasin g1 hg6, s6_in, in12, p2, pK_i, pK_v, bi_0, h, hb, hp, if_true, if_false, not_true_eq_false, not_false_eq_true, true_or, or_true, Bool.false_eq_true]
      · apply op_of
        · simp only [Nat.reduceAdd, i5_mid_0, i5_mid_1, i5_mid_4, i5_mid_7, i5_mid_10, i5_mid_12, i5_mid_13, i5_mid_14, i5_mid_17, i5_mid_20, i5_mid_21, i5_mid_24, i5_mid_27, i5_mid_28, i5_mid_31, i5_mid_34, i5_mid_35, i5_mid_36, i5_mid_37, i5_mid_38, i5_mid_39, s3_isThere R.1, h4_hasBasin R.1 h, s5_isTwelfths, k_3, k_4, pK_i, bi_0, h, hb, hp, if_true, if_false, not_true_eq_false, not_false_eq_true, true_or, or_true, Bool.false_eq_true]; rfl
        · simp only [Nat.reduceAdd, i6_mid_0, i6_mid_1, i6_mid_4, i6_mid_7, i6_mid_9, i6_mid_10, i6_mid_11, i6_mid_12, i6_mid_15, i6_mid_18, i6_mid_19, i6_mid_20, i6_mid_22, i6_mid_25, i6_mid_28, i6_mid_29, i6_mid_30, i6_mid_31, i6_mid_32, i6_mid_33, i6_mid_34, i6_mid_37, i6_mid_38, R.1.2.2.1, gN0 hg6, s6_isBasin R.1.2.2.1 hg6, s6_in, in12, pK_i, bi_0, h, hb, hp, if_true, if_false, not_true_eq_false, not_false_eq_true, true_or, or_true, Bool.false_eq_true]; rfl
        · exact R
    · apply op_of
      · simp only [Nat.reduceAdd, i5_mid_0, i5_mid_1, i5_mid_4, i5_mid_7, i5_mid_10, i5_mid_12, i5_mid_13, i5_mid_14, i5_mid_17, i5_mid_20, i5_mid_21, i5_mid_24, i5_mid_27, i5_mid_28, i5_mid_31, i5_mid_34, i5_mid_35, i5_mid_36, i5_mid_37, i5_mid_38, i5_mid_39, s3_isThere R.1, h4_hasBasin R.1 h, k_3, k_4, pK_i, bi_0, h, hb, if_true, if_false, not_true_eq_false, not_false_eq_true, true_or, or_true, Bool.false_eq_true]; rfl
      · simp only [Nat.reduceAdd, i6_mid_0, i6_mid_1, i6_mid_4, i6_mid_7, i6_mid_9, i6_mid_10, i6_mid_11, i6_mid_12, i6_mid_15, i6_mid_18, i6_mid_19, i6_mid_20, i6_mid_22, i6_mid_25, i6_mid_28, i6_mid_29, i6_mid_30, i6_mid_31, i6_mid_32, i6_mid_33, i6_mid_34, i6_mid_37, i6_mid_38, R.1.2.2.1, gN0 hg6, s6_isBasin R.1.2.2.1 hg6, pK_i, bi_0, h, hb, if_true, if_false, not_true_eq_false, not_false_eq_true, true_or, or_true, Bool.false_eq_true]; rfl
      · exact R
  · apply op_of
    · simp only [Nat.reduceAdd, i5_mid_0, i5_mid_1, i5_mid_4, i5_mid_7, i5_mid_10, i5_mid_12, i5_mid_13, i5_mid_14, i5_mid_17, i5_mid_20, i5_mid_21, i5_mid_24, i5_mid_27, i5_mid_28, i5_mid_31, i5_mid_34, i5_mid_35, i5_mid_36, i5_mid_37, i5_mid_38, i5_mid_39, s3_isThere R.1, k_3, k_4, pK_i, bi_0, h, if_true, if_false, not_true_eq_false, not_false_eq_true, true_or, or_true, Bool.false_eq_true]; rfl
    · simp only [Nat.reduceAdd, i6_mid_0, i6_mid_1, i6_mid_4, i6_mid_7, i6_mid_9, i6_mid_10, i6_mid_11, i6_mid_12, i6_mid_15, i6_mid_18, i6_mid_19, i6_mid_20, i6_mid_22, i6_mid_25, i6_mid_28, i6_mid_29, i6_mid_30, i6_mid_31, i6_mid_32, i6_mid_33, i6_mid_34, i6_mid_37, i6_mid_38, R.1.2.2.1, gN0 hg6, h, if_true, if_false, not_true_eq_false, not_false_eq_true, true_or, or_true, Bool.false_eq_true]; rfl
    · exact R
end DV
