/-! BY HOW ONE STOOD: the plain form's sets; opens, sure -/
section DR
variable {L : Nat} {xs : Nat → Int32} {σ σj : Nat → Nat → Int32} {τ : Nat → Nat → Int64} {S g d m j : Nat} {K W f : Nat → Int32}
theorem agr_67 {e : Nat → Nat → Int32} {i : Nat} {v : Int32} (h : agr σ e) (h1 : i ≠ 4) (h2 : i ≠ 8) (h3 : i ≠ 11) (h4 : i ≠ 14) : agr σ (va_up e 67 (upd (e 67) i v)) := by
  refine ⟨fun c hc hn => ?_, ?_, ?_, ?_, ?_⟩
  · rw [vn hn]; exact h.1 c hc hn
  · rw [vs, un (Ne.symm h1)]; exact h.2.1
  · rw [vs, un (Ne.symm h2)]; exact h.2.2.1
  · rw [vs, un (Ne.symm h3)]; exact h.2.2.2.1
  · rw [vs, un (Ne.symm h4)]; exact h.2.2.2.2
theorem scr_82 : scr 82 := by unfold scr; omega
theorem scr_83 : scr 83 := by unfold scr; omega
theorem scr_81 : scr 81 := by unfold scr; omega
def lfT (e : Nat → Nat → Int32) (g s : Nat) (v w : Int32) : Nat → Nat → Int32 := va_up (va_up (va_up e 82 (upd (e 82) s v)) 67 (upd (e 67) 26 w)) 83 (va_cpy (e 81) (e 83) 0 (7 * s) (g + 1))
theorem lfT_a {e : Nat → Nat → Int32} {s : Nat} {v w : Int32} (h : agr σ e) : agr σ (lfT e g s v w) := by
  have a := agr_67 (i := 26) (v := w) (agr_u (f := upd (e 82) s v) h scr_82) (by decide) (by decide) (by decide) (by decide)
  rw [vn (show 67 ≠ 82 by decide)] at a
  exact agr_u a scr_83
theorem lfT_82 {e : Nat → Nat → Int32} {s : Nat} {v w : Int32} : lfT e g s v w 82 = upd (e 82) s v := by unfold lfT; rw [vn (by decide), vn (by decide), vs]
theorem lfT_67 {e : Nat → Nat → Int32} {s : Nat} {v w : Int32} : lfT e g s v w 67 26 = w := by unfold lfT; rw [vn (by decide), vs, us]
theorem lfT_83 {e : Nat → Nat → Int32} {s : Nat} {v w : Int32} : lfT e g s v w 83 = va_cpy (e 81) (e 83) 0 (7 * s) (g + 1) := by unfold lfT; rw [vs]
theorem lf_tail {e : Nat → Nat → Int32} {s n : Nat} {b k : Int32} (hg : e 67 4 = nI g) (hg6 : g ≤ 6) (hn : e 67 26 = nI n) (hs : s < 64) : pX 191 51 [.ref 67, .int b, .int k, .int (nI s)] [.int 1, .int (nI s), .ref 82] (mm L xs e τ) 85 S = pX 191 7 [.ref 67, .int b, .int k, .int (nI (s + 1))] [] (mm L xs (lfT e g s 1 (nI (n + 1))) τ) 85 S ∧ pX 191 51 [.ref 67, .int b, .int k, .int (nI s)] [.int 0, .int (nI s), .ref 82] (mm L xs e τ) 85 S = pX 191 7 [.ref 67, .int b, .int k, .int (nI (s + 1))] [] (mm L xs (lfT e g s 0 (nI n)) τ) 85 S := by
  have e7 : (7 : Int32) * nI s = nI (7 * s) := pk_mul 7 s
  have v1 : vp_nar .boolean 1 = 1 := by decide
  have v0 : vp_nar .boolean 0 = 0 := by decide
  have br := fun (e' : Nat → Nat → Int32) => s6_bring (L := L) (xs := xs) (σ := e') (τ := τ) (S := S) (a := 81) (b := 83) (i := 0) (j := 7 * s) (n := g + 1) k_81 k_83 (by decide) (by rw [l_81]; omega) (by rw [l_83]; omega) (by decide +kernel) (by decide +kernel)
  rw [nI_0] at br
  unfold lfT
  constructor
  · simp only [Nat.reduceAdd, i6_layFits_51, i6_layFits_52, i6_layFits_53, i6_layFits_54, i6_layFits_57, i6_layFits_58, i6_layFits_61, i6_layFits_62, i6_layFits_63, i6_layFits_66, i6_layFits_67, i6_layFits_70, i6_layFits_71, i6_layFits_72, i6_layFits_75, i6_layFits_76, i6_layFits_79, i6_layFits_80, i6_layFits_81, i6_layFits_84, i6_layFits_86, i6_layFits_87, i6_layFits_88, i6_layFits_89, i6_layFits_92, i6_layFits_93, i6_layFits_94, i6_layFits_97, i6_layFits_100, k_82, l_82, ifb_i (show s < 64 by omega) (by decide), cl (show s ≤ 5000 by omega), v1, vs, us, vn (show 67 ≠ 82 by decide), vn (show 82 ≠ 67 by decide), vn (show 81 ≠ 67 by decide), vn (show 81 ≠ 82 by decide), vn (show 83 ≠ 67 by decide), vn (show 83 ≠ 82 by decide), un (show (4 : Nat) ≠ 26 by decide), hn, hg, n10, if_false, nI_1, e7, br, pK_v]
  · simp only [Nat.reduceAdd, i6_layFits_51, i6_layFits_52, i6_layFits_53, i6_layFits_54, i6_layFits_57, i6_layFits_58, i6_layFits_61, i6_layFits_62, i6_layFits_63, i6_layFits_66, i6_layFits_67, i6_layFits_70, i6_layFits_71, i6_layFits_72, i6_layFits_75, i6_layFits_76, i6_layFits_79, i6_layFits_80, i6_layFits_81, i6_layFits_84, i6_layFits_86, i6_layFits_87, i6_layFits_88, i6_layFits_89, i6_layFits_92, i6_layFits_93, i6_layFits_94, i6_layFits_97, i6_layFits_100, k_82, l_82, ifb_i (show s < 64 by omega) (by decide), cl (show s ≤ 5000 by omega), v0, vs, us, vn (show 67 ≠ 82 by decide), vn (show 82 ≠ 67 by decide), vn (show 81 ≠ 67 by decide), vn (show 81 ≠ 82 by decide), vn (show 83 ≠ 67 by decide), vn (show 83 ≠ 82 by decide), un (show (4 : Nat) ≠ 26 by decide), hn, hg, if_true, Int32.add_zero, nI_1, e7, br, pK_v]
def lfI (σ : Nat → Nat → Int32) (g m : Nat) (P : Nat → Prop) (s : Nat) (e : Nat → Nat → Int32) : Prop := agr σ e ∧ e 67 26 = nI (cntP P s) ∧ (∀ t, t < s → e 82 t = bi (P t)) ∧ ∀ t, t < s → P t → ∀ c, c ≤ g → e 83 (7 * t + c) = wat σ g (nI t) m c
theorem lfI_s {P : Nat → Prop} {s : Nat} {e e2 : Nat → Nat → Int32} {v w : Int32} (hg6 : g ≤ 6) (h : lfI σ g m P s e) (a : agr σ e2) (e82 : e2 82 = e 82) (e83 : e2 83 = e 83) (hv : v = bi (P s)) (hw : w = nI (cntP P (s + 1))) (hl : P s → ∀ c, c ≤ g → e2 81 c = wat σ g (nI s) m c) : lfI σ g m P (s + 1) (lfT e2 g s v w) := by
  obtain ⟨h1, h2, h3, h4⟩ := h
  refine ⟨lfT_a a, lfT_67.trans hw, fun t ht => ?_, fun t ht hp c hc => ?_⟩
  · rw [lfT_82]
    by_cases q : t = s
    · subst q; rw [us]; exact hv
    · rw [un q, e82]; exact h3 t (by omega)
  · rw [lfT_83]
    by_cases q : t = s
    · subst q
      rw [cpy_in _ _ (by omega), Nat.zero_add]
      exact hl hp c hc
    · rw [cpy_out _ _ (by omega), e83]; exact h4 t (by omega) hp c hc
theorem lfR {m0 : Nat} (r : qN g m0 σ) {b k : Nat} (hb : b ≤ g) (hk : k < 6) (hz : σ 68 k = nI m) (hm : m ≤ 40) : ∃ σ', pX 191 0 [.ref 67, .int (nI b), .int (nI k), .null] [] (mm L xs σ τ) 85 S = some (none, mm L xs σ' τ, 85, S) ∧ lfI σ g m (psn σ g b k m) (2 ^ g) σ' := by
  have hg6 := r.1
  obtain ⟨p64, p0⟩ := p2_64 hg6
  have key := lq (δ := Nat → Nat → Int32) (2 ^ g) (fun s e => lfI σ g m (psn σ g b k m) s e) (fun s e => pX 191 7 [.ref 67, .int (nI b), .int (nI k), .int (nI s)] [] (mm L xs e τ) 85 S) (fun o => ∃ σ', o = some (none, mm L xs σ' τ, 85, S) ∧ lfI σ g m (psn σ g b k m) (2 ^ g) σ') (fun e he => ⟨e, by
    have f67 := (qN_agr he.1 r).2.2.1
    simp only [Nat.reduceAdd, i6_layFits_7, i6_layFits_8, i6_layFits_9, i6_layFits_10, i6_layFits_13, i6_layFits_14, i6_layFits_103, f67, p2_ok hg6, Int32.lt_irrefl, if_false], he⟩) (fun s hs e he => Or.inr (by
    have ha := he.1
    have r' := qN_agr ha r
    have f67 := r'.2.2.1
    have lt := p2_lt hg6 (show s ≤ 5000 by omega)
    have e68 : e 68 = σ 68 := ha.1 68 (by unfold scr; omega) (by decide)
    have e69 : e 69 = σ 69 := ha.1 69 (by unfold scr; omega) (by decide)
    have e72 : e 72 = σ 72 := ha.1 72 (by unfold scr; omega) (by decide)
    have t := s6_tries (L := L) (xs := xs) (σ := e) (τ := τ) (S := S) f67 hg6 (qN_kd r') (op := nI s) (n := 0) (by decide)
    rw [nI_0] at t
    obtain ⟨f', hf⟩ : ∃ x, x = upd (va_cpy (e 74) (e 81) 0 0 9) 7 (nI s) := ⟨_, rfl⟩
    have t' : pX 185 0 [.ref 67, .int (nI s), .int 0, .null] [] (mm L xs e τ) 85 S = some (none, mm L xs (va_up e 81 f') τ, 85, S) := by rw [hf]; exact t
    have w3 : ∀ n c, c ≤ g → rR (e 72) (e 73) g f' n c = wat σ g (nI s) n c := fun n c hc => by
      rw [← agr_wat ha]
      exact W3 r' (by rw [hf]; exact up7) (by rw [hf, un (by decide), cpy_at _ _ (by decide)]) (fun b hb => by rw [hf, un (by omega), cpy_at _ _ (by omega)]) n c hc
    have g1 : (va_up e 81 f') 67 4 = nI g := by rw [vn (by decide)]; exact f67
    have wt := s6_weirs (L := L) (xs := xs) (σ := va_up e 81 f') (τ := τ) (S := S) g1 hg6
    rw [vn (show 72 ≠ 81 by decide), e72] at wt
    have n1 : (va_up e 81 f') 67 26 = nI (cntP (psn σ g b k m) s) := by rw [vn (by decide)]; exact he.2.1
    by_cases h1 : nI s &&& wr (σ 72) g = 0
    · have so := s6_isSo (L := L) (xs := xs) (σ := va_up e 81 f') (τ := τ) (S := S) g1 hg6 (by rw [vn (by decide)]; exact qN_kd r') (b := b) (r := k) (m := m) (by omega) hk (by rw [vn (by decide), e68]; exact hz) hm
      rw [vs, vu, vn (show 72 ≠ 81 by decide), vn (show 73 ≠ 81 by decide), vn (show 69 ≠ 81 by decide), e69] at so
      have hsw : soR (e 72) (e 73) g f' b (fun i => σ 69 (40 * k + i)) m = ∀ i, i < m → wat σ g (nI s) (i + 1) b = σ 69 (40 * k + i) := by
        refine propext ⟨fun h i hi => ?_, fun h i hi => ?_⟩
        · rw [← w3 (i + 1) b hb]; exact h i hi
        · show rR (e 72) (e 73) g f' (i + 1) b = _
          rw [w3 (i + 1) b hb]; exact h i hi
      rw [hsw] at so
      obtain ⟨e2, he2⟩ : ∃ x, x = va_up e 81 (rR (e 72) (e 73) g f' m) := ⟨_, rfl⟩
      rw [← he2] at so
      have c2 : ∀ c, c ≠ 81 → e2 c = e c := fun c hc => by rw [he2, vn hc]
      have a2 : agr σ e2 := by rw [he2]; exact agr_u ha scr_81
      have l2 : ∀ c, c ≤ g → e2 81 c = wat σ g (nI s) m c := fun c hc => by rw [he2, vs]; exact w3 m c hc
      obtain ⟨t1, t0⟩ := lf_tail (L := L) (xs := xs) (τ := τ) (S := S) (e := e2) (s := s) (n := cntP (psn σ g b k m) s) (b := .ofNat b) (k := .ofNat k) (g := g) (by rw [c2 67 (by decide)]; exact f67) hg6 (by rw [c2 67 (by decide)]; exact he.2.1) (by omega)
      by_cases hw : ∀ i, i < m → wat σ g (nI s) (i + 1) b = σ 69 (40 * k + i)
      · have hp : psn σ g b k m s := ⟨h1, hw⟩
        rw [bi_t hw] at so
        refine ⟨lfT e2 g s 1 (nI (cntP (psn σ g b k m) s + 1)), lfI_s hg6 he a2 (c2 82 (by decide)) (c2 83 (by decide)) (bi_t hp).symm (by rw [cnt_t hp]) (fun _ => l2), ?_⟩
        refine Eq.trans ?_ t1
        rw [i6_layFits_7]
        simp only [Nat.reduceAdd, i6_layFits_8, i6_layFits_9, i6_layFits_10, i6_layFits_13, i6_layFits_14, i6_layFits_17, i6_layFits_18, i6_layFits_19, i6_layFits_20, i6_layFits_23, i6_layFits_24, i6_layFits_27, i6_layFits_28, i6_layFits_29, i6_layFits_30, i6_layFits_33, i6_layFits_34, i6_layFits_37, i6_layFits_38, i6_layFits_39, i6_layFits_40, i6_layFits_43, i6_layFits_46, i6_layFits_47, i6_layFits_50, f67, p2_ok hg6, lt, hs, t', wt, so, pK_i, pK_v, h1, n10, if_true, if_false, not_true_eq_false, not_false_eq_true, true_or, or_true]
        rfl
      · have hp : ¬ psn σ g b k m s := fun q => hw q.2
        rw [bi_f hw] at so
        refine ⟨lfT e2 g s 0 (nI (cntP (psn σ g b k m) s)), lfI_s hg6 he a2 (c2 82 (by decide)) (c2 83 (by decide)) (bi_f hp).symm (by rw [cnt_f hp]) (fun _ => l2), ?_⟩
        refine Eq.trans ?_ t0
        rw [i6_layFits_7]
        simp only [Nat.reduceAdd, i6_layFits_8, i6_layFits_9, i6_layFits_10, i6_layFits_13, i6_layFits_14, i6_layFits_17, i6_layFits_18, i6_layFits_19, i6_layFits_20, i6_layFits_23, i6_layFits_24, i6_layFits_27, i6_layFits_28, i6_layFits_29, i6_layFits_30, i6_layFits_33, i6_layFits_34, i6_layFits_37, i6_layFits_38, i6_layFits_39, i6_layFits_40, i6_layFits_43, i6_layFits_46, i6_layFits_47, i6_layFits_50, f67, p2_ok hg6, lt, hs, t', wt, so, pK_i, pK_v, h1, if_true, if_false, not_true_eq_false, not_false_eq_true, true_or, or_true]
        rfl
    · have hp : ¬ psn σ g b k m s := fun q => h1 q.1
      obtain ⟨t1, t0⟩ := lf_tail (L := L) (xs := xs) (τ := τ) (S := S) (e := va_up e 81 f') (s := s) (n := cntP (psn σ g b k m) s) (b := .ofNat b) (k := .ofNat k) (g := g) g1 hg6 n1 (by omega)
      refine ⟨lfT (va_up e 81 f') g s 0 (nI (cntP (psn σ g b k m) s)), lfI_s hg6 he (agr_u ha scr_81) (vn (by decide)) (vn (by decide)) (bi_f hp).symm (by rw [cnt_f hp]) (fun q => absurd q hp), ?_⟩
      refine Eq.trans ?_ t0
      rw [i6_layFits_7]
      simp only [Nat.reduceAdd, i6_layFits_8, i6_layFits_9, i6_layFits_10, i6_layFits_13, i6_layFits_14, i6_layFits_17, i6_layFits_18, i6_layFits_19, i6_layFits_20, i6_layFits_23, i6_layFits_24, i6_layFits_27, i6_layFits_28, i6_layFits_29, i6_layFits_30, i6_layFits_33, i6_layFits_34, i6_layFits_37, i6_layFits_38, i6_layFits_39, i6_layFits_40, i6_layFits_43, i6_layFits_46, i6_layFits_47, i6_layFits_50, f67, p2_ok hg6, lt, hs, t', wt, pK_i, pK_v, h1, if_true, if_false, not_true_eq_false, not_false_eq_true, true_or, or_true]
      rfl))
  obtain ⟨σ', q, a'⟩ := key (va_up σ 67 (upd (σ 67) 26 0)) ⟨agr_67 (agr_r σ) (by decide) (by decide) (by decide) (by decide), by rw [vs, us]; rfl, fun t ht => absurd ht (by omega), fun t ht => absurd ht (by omega)⟩
  refine ⟨σ', ?_, a'⟩
  rw [nI_0] at q
  simp only [Nat.reduceAdd, i6_layFits_0, i6_layFits_1, i6_layFits_2, i6_layFits_5, i6_layFits_6]
  exact q
theorem opR {P : Nat → Prop} {N : Nat} (hN : N ≤ 64) (h82 : ∀ t, t < N → σ 82 t = bi (P t)) {b k : Int32} : ∃ x, fsq P 0 N x ∧ pX 193 33 [.ref 67, .int b, .int k, .int 0, .int (-9), .int (nI N - 1)] [] (mm L xs σ τ) 85 S = pX 193 63 [.ref 67, .int b, .int k, .int 0, .int x, .int (-1)] [] (mm L xs σ τ) 85 S := by
  have key := ld (δ := Int32) N (fun i x => fsq P i N x) (fun i x => pX 193 33 [.ref 67, .int b, .int k, .int 0, .int x, .int (nI i - 1)] [] (mm L xs σ τ) 85 S) (fun o => ∃ x, fsq P 0 N x ∧ o = pX 193 63 [.ref 67, .int b, .int k, .int 0, .int x, .int (-1)] [] (mm L xs σ τ) 85 S) (fun x hx => ⟨x, hx, by
    have q : nI 0 - 1 = -1 := by decide
    have q2 : (-1 : Int32) < 0 := by decide
    simp only [i6_opens_33, i6_opens_35, q, q2, if_true]⟩) (fun i hi x hx => by
    have q : ¬ nI i < 0 := nI_pos (by omega)
    have e1 : nI (i + 1) - 1 = nI i := nm1 (by omega)
    have e2 : nI i + -1 = nI i - 1 := by rw [Int32.sub_eq_add_neg]
    by_cases hp : P i
    · have v1 : σ 82 i = 1 := (h82 i hi).trans (bi_t hp)
      refine ⟨nI i, fsq_t (x := x) hi hp, ?_⟩
      rw [i6_opens_33]
      simp only [Nat.reduceAdd, i6_opens_35, i6_opens_38, i6_opens_39, i6_opens_42, i6_opens_44, i6_opens_45, i6_opens_48, i6_opens_50, i6_opens_53, i6_opens_55, i6_opens_57, i6_opens_60, e1, e2, q, k_82, l_82, ifb_i (show i < 64 by omega) (by decide), cl (show i ≤ 5000 by omega), v1, n10, if_true, if_false, not_true_eq_false, not_false_eq_true, true_or, or_true]
    · have v1 : σ 82 i = 0 := (h82 i hi).trans (bi_f hp)
      refine ⟨x, fsq_f hp hx, ?_⟩
      rw [i6_opens_33]
      simp only [Nat.reduceAdd, i6_opens_35, i6_opens_38, i6_opens_39, i6_opens_42, i6_opens_44, i6_opens_45, i6_opens_48, i6_opens_50, i6_opens_53, i6_opens_55, i6_opens_57, i6_opens_60, e1, e2, q, k_82, l_82, ifb_i (show i < 64 by omega) (by decide), cl (show i ≤ 5000 by omega), v1, if_true, if_false, not_true_eq_false, not_false_eq_true, true_or, or_true])
  exact key (-9) fsq_n
theorem psn_c {e : Nat → Nat → Int32} (h72 : e 72 = σ 72) (h69 : e 69 = σ 69) (hw : wat e = wat σ) {b k : Nat} : psn e g b k m = psn σ g b k m := by unfold psn; rw [h72, h69, hw]
theorem td_psn {σ1 : Nat → Nat → Int32} {v : Int32} (a : agr σ σ1) {b k : Nat} : psn (va_up σ1 0 (upd (σ1 0) 10 v)) g b k m = psn σ g b k m := psn_c (td_c a (by unfold scr; omega) (by decide) (by decide)) (td_c a (by unfold scr; omega) (by decide) (by decide)) (td_wat a)
theorem op_opens {b r : Int32} : opI L xs S (fun M => pX 73 0 [.ref 0, .int b, .int r, .null] [] M 85 S) (fun M => pX 193 0 [.ref 67, .int b, .int r, .null, .null, .null] [] M 85 S) := by
  intro g d σ τ R
  have hg6 := R.1.1
  rcases refS (L := L) (xs := xs) (S := S) R b r with ⟨x, σ1, σ2, hx, p1, p2, R2, _⟩ | ⟨h, bj, k, m, hb, rfl, hk, rfl, hz, hm1, hm10, p1, p2⟩
  · refine op_of (v := x) (σ1 := σ1) (τ1 := τ) ?_ ?_ R2
    · simp only [Nat.reduceAdd, i5_opens_0, i5_opens_1, i5_opens_2, i5_opens_3, i5_opens_4, i5_opens_7, i5_opens_8, i5_opens_9, i5_opens_12, i5_opens_13, i5_opens_14, i5_opens_15, i5_opens_16, i5_opens_17, i5_opens_20, i5_opens_21_r1, i5_opens_21_r2, i5_opens_21_r11, i5_opens_22, i5_opens_25, i5_opens_26, i5_opens_27, i5_opens_30, i5_opens_33, i5_opens_34, i5_opens_35, i5_opens_38, i5_opens_39, i5_opens_40, i5_opens_43, i5_opens_46, i5_opens_49, p1, pK_i, hx, if_true, if_false, not_true_eq_false, not_false_eq_true, true_or, or_true]
    · simp only [Nat.reduceAdd, i6_opens_0, i6_opens_1, i6_opens_2, i6_opens_3, i6_opens_6, i6_opens_7, i6_opens_8, i6_opens_11, i6_opens_12, i6_opens_13, i6_opens_14, i6_opens_15, i6_opens_16, i6_opens_19, i6_opens_21, i6_opens_23, i6_opens_24, i6_opens_25, i6_opens_28, i6_opens_29, i6_opens_30, i6_opens_31, p2, pK_i, hx, if_true, if_false, not_true_eq_false, not_false_eq_true, true_or, or_true]
  · obtain ⟨p64, p0⟩ := p2_64 hg6
    have hS : ∀ {α : Type} {a b : α}, ifb (nI k) 6 a b = a := ifb_i hk (by decide)
    have hC := cl (show k ≤ 5000 by omega)
    obtain ⟨σ1, f1, ag1, n1, l1, _⟩ := fsC (L := L) (xs := xs) (τ := τ) (S := S) R hb hk hz (by omega)
    have c64 : cntP (psn σ g bj k m) (2 ^ g) ≤ 64 := Nat.le_trans (cnt_le _ _) p64
    have tp := s5_tellPart1 (L := L) (xs := xs) (σ := σ1) (τ := τ) (S := S) (a := cntP (psn σ g bj k m) (2 ^ g)) (by omega)
    have il : (nI (cntP (psn σ g bj k m) (2 ^ g))).toInt64 = lN (cntP (psn σ g bj k m) (2 ^ g)) := nI_l (by omega)
    have ls := s3_least (L := L) (xs := xs) (σ := σ1) (τ := ptC τ (lN (cntP (psn σ g bj k m) (2 ^ g))) 1) (S := S) n1 c64
    have q1 := fsq_l l1
    generalize (if cntP (psn σ g bj k m) (2 ^ g) = 0 then -9 else σ1 17 0) = B at ls q1
    have rT := td_qN (v := B) R.1 ag1
    have g1 := rT.2.2.1
    obtain ⟨σ2, f2, ag2, n2, v2, _⟩ := lfR (L := L) (xs := xs) (τ := ptC τ (lN (cntP (psn σ g bj k m) (2 ^ g))) 1) (S := S) rT hb hk (m := m) (by rw [td_c ag1 (by unfold scr; omega) (by decide) (by decide)]; exact hz) (by omega)
    rw [td_psn ag1] at n2 v2
    have g2 : σ2 67 4 = nI g := ag2.2.1.trans g1
    obtain ⟨x, fx, p3⟩ := opR (L := L) (xs := xs) (σ := σ2) (τ := ptC τ (lN (cntP (psn σ g bj k m) (2 ^ g))) 1) (S := S) p64 v2 (b := nI bj) (k := nI k)
    have hx : x = B := fsq_u fx q1
    subst hx
    have rf := p2 (va_up σ1 0 (upd (σ1 0) 10 x)) (ptC τ (lN (cntP (psn σ g bj k m) (2 ^ g))) 1) (g1.trans R.1.2.2.1.symm) (td_c ag1 (by unfold scr; omega) (by decide) (by decide)) (td_c ag1 (by unfold scr; omega) (by decide) (by decide))
    refine op_of (v := 1) (σ1 := va_up σ1 0 (upd (σ1 0) 10 x)) (σ2 := va_up σ2 67 (upd (σ2 67) 11 x)) (τ1 := ptC τ (lN (cntP (psn σ g bj k m) (2 ^ g))) 1) (τ2 := ptR (ptC τ (lN (cntP (psn σ g bj k m) (2 ^ g))) 1) (lN (cntP (psn σ g bj k m) (2 ^ g))) 1) (g := g) (d := d) ?_ ?_ (Rel_pt (Rel_fin R ag1 ag2))
    · simp only [Nat.reduceAdd, i5_opens_0, i5_opens_1, i5_opens_2, i5_opens_3, i5_opens_4, i5_opens_7, i5_opens_8, i5_opens_9, i5_opens_12, i5_opens_13, i5_opens_14, i5_opens_15, i5_opens_16, i5_opens_17, i5_opens_20, i5_opens_21_r1, i5_opens_21_r2, i5_opens_21_r11, i5_opens_22, i5_opens_25, i5_opens_26, i5_opens_27, i5_opens_30, i5_opens_33, i5_opens_34, i5_opens_35, i5_opens_38, i5_opens_39, i5_opens_40, i5_opens_43, i5_opens_46, i5_opens_49, p1, f1, n1, il, tp, ls, s5_tell, k_16, hS, hC, pK_i, pK_v, if_true, if_false, not_true_eq_false, not_false_eq_true, true_or, or_true]
    · simp only [Nat.reduceAdd, i6_opens_0, i6_opens_1, i6_opens_2, i6_opens_3, i6_opens_6, i6_opens_7, i6_opens_8, i6_opens_11, i6_opens_12, i6_opens_13, i6_opens_14, i6_opens_15, i6_opens_16, i6_opens_19, i6_opens_21, i6_opens_23, i6_opens_24, i6_opens_25, i6_opens_28, i6_opens_29, i6_opens_30, i6_opens_31, rf, f2, g2, p2_ok hg6, p3, pK_i, pK_v, if_true, if_false, not_true_eq_false, not_false_eq_true, true_or, or_true]
      simp only [i6_opens_63, i6_opens_64, i6_opens_65, i6_opens_68, i6_opens_69, i6_opens_72, i6_opens_73, i6_opens_74, i6_opens_77, i6_opens_78, i6_opens_80, i6_opens_83, n2, il, s6_tells, pK_i, ptR]
theorem suS {P : Nat → Prop} {x : Int32} (hg6 : g ≤ 6) (hg : σ 67 4 = nI g) (h82 : ∀ t, t < 2 ^ g → σ 82 t = bi (P t)) {b k : Int32} : pX 194 43 [.ref 67, .int b, .int k, .int 0, .int x, .int x, .int 0] [] (mm L xs σ τ) 85 S = pX 194 106 [.ref 67, .int b, .int k, .int 0, .int (aeP P x (2 ^ g)), .int (anP P x (2 ^ g)), .int (nI (2 ^ g))] [] (mm L xs σ τ) 85 S := by
  obtain ⟨p64, p0⟩ := p2_64 hg6
  have key := lp (δ := Unit) (2 ^ g) (fun s _ => pX 194 43 [.ref 67, .int b, .int k, .int 0, .int (aeP P x s), .int (anP P x s), .int (nI s)] [] (mm L xs σ τ) 85 S) (pX 194 106 [.ref 67, .int b, .int k, .int 0, .int (aeP P x (2 ^ g)), .int (anP P x (2 ^ g)), .int (nI (2 ^ g))] [] (mm L xs σ τ) 85 S) (fun _ => by
    simp only [Nat.reduceAdd, i6_sure_43, i6_sure_45, i6_sure_46, i6_sure_47, i6_sure_50, i6_sure_51, hg, p2_ok hg6, Int32.lt_irrefl, if_false]) (fun s hs _ => ⟨(), by
    have lt := p2_lt hg6 (show s ≤ 5000 by omega)
    by_cases hp : P s
    · have v1 : σ 82 s = 1 := (h82 s hs).trans (bi_t hp)
      rw [aeP_t hp, anP_t hp]
      rw [i6_sure_43]
      simp only [Nat.reduceAdd, i6_sure_45, i6_sure_46, i6_sure_47, i6_sure_50, i6_sure_51, i6_sure_54, i6_sure_56, i6_sure_57, i6_sure_60, i6_sure_62, i6_sure_63, i6_sure_66, i6_sure_68, i6_sure_71, i6_sure_73, i6_sure_74, i6_sure_76, i6_sure_78, i6_sure_79, i6_sure_82, i6_sure_84, i6_sure_85, i6_sure_88, i6_sure_90, i6_sure_91, i6_sure_92, i6_sure_95, i6_sure_97, i6_sure_98, i6_sure_100, i6_sure_103, hg, p2_ok hg6, lt, hs, k_82, l_82, ifb_i (show s < 64 by omega) (by decide), cl (show s ≤ 5000 by omega), v1, n10, if_true, if_false, not_true_eq_false, not_false_eq_true, true_or, or_true, nI_1]
    · have v1 : σ 82 s = 0 := (h82 s hs).trans (bi_f hp)
      rw [aeP_f hp, anP_f hp]
      rw [i6_sure_43]
      simp only [Nat.reduceAdd, i6_sure_45, i6_sure_46, i6_sure_47, i6_sure_50, i6_sure_51, i6_sure_54, i6_sure_56, i6_sure_57, i6_sure_60, i6_sure_62, i6_sure_63, i6_sure_66, i6_sure_68, i6_sure_71, i6_sure_73, i6_sure_74, i6_sure_76, i6_sure_78, i6_sure_79, i6_sure_82, i6_sure_84, i6_sure_85, i6_sure_88, i6_sure_90, i6_sure_91, i6_sure_92, i6_sure_95, i6_sure_97, i6_sure_98, i6_sure_100, i6_sure_103, hg, p2_ok hg6, lt, hs, k_82, l_82, ifb_i (show s < 64 by omega) (by decide), cl (show s ≤ 5000 by omega), v1, if_true, if_false, not_true_eq_false, not_false_eq_true, true_or, or_true, nI_1, Int32.and_self]⟩)
  have k := key ()
  rw [nI_0] at k
  exact k
theorem op_sure {b r : Int32} : opI L xs S (fun M => pX 74 0 [.ref 0, .int b, .int r, .null, .null] [] M 85 S) (fun M => pX 194 0 [.ref 67, .int b, .int r, .null, .null, .null, .null] [] M 85 S) := by
  intro g d σ τ R
  have hg6 := R.1.1
  rcases refS (L := L) (xs := xs) (S := S) R b r with ⟨x, σ1, σ2, hx, p1, p2, R2, _⟩ | ⟨h, bj, k, m, hb, rfl, hk, rfl, hz, hm1, hm10, p1, p2⟩
  · refine op_of (v := x) (σ1 := σ1) (τ1 := τ) ?_ ?_ R2
    · simp only [Nat.reduceAdd, i5_sure_0, i5_sure_1, i5_sure_2, i5_sure_3, i5_sure_4, i5_sure_7, i5_sure_8, i5_sure_9, i5_sure_12, i5_sure_13, i5_sure_14, i5_sure_15, i5_sure_16, i5_sure_17, i5_sure_20, i5_sure_21_r1, i5_sure_21_r2, i5_sure_21_r11, i5_sure_22, i5_sure_25, i5_sure_26, i5_sure_29, i5_sure_32, i5_sure_35, i5_sure_36, i5_sure_39, i5_sure_42, i5_sure_45, i5_sure_46, i5_sure_47, i5_sure_48, i5_sure_50, i5_sure_51, i5_sure_52, i5_sure_55, i5_sure_57, i5_sure_60, i5_sure_63, i5_sure_64, i5_sure_65, i5_sure_68, i5_sure_70, i5_sure_73, p1, pK_i, hx, if_true, if_false, not_true_eq_false, not_false_eq_true, true_or, or_true]
    · simp only [Nat.reduceAdd, i6_sure_0, i6_sure_1, i6_sure_2, i6_sure_3, i6_sure_6, i6_sure_7, i6_sure_8, i6_sure_11, i6_sure_12, i6_sure_13, i6_sure_14, i6_sure_15, i6_sure_16, i6_sure_19, i6_sure_20, i6_sure_21, i6_sure_24, i6_sure_25, i6_sure_26, i6_sure_27, i6_sure_28, i6_sure_31, i6_sure_32, i6_sure_33, i6_sure_34, i6_sure_36, i6_sure_38, i6_sure_40, i6_sure_41, p2, pK_i, hx, if_true, if_false, not_true_eq_false, not_false_eq_true, true_or, or_true]
  · obtain ⟨p64, p0⟩ := p2_64 hg6
    have hS : ∀ {α : Type} {a b : α}, ifb (nI k) 6 a b = a := ifb_i hk (by decide)
    have hC := cl (show k ≤ 5000 by omega)
    obtain ⟨σ1, f1, ag1, n1, l1, _⟩ := fsC (L := L) (xs := xs) (τ := τ) (S := S) R hb hk hz (by omega)
    have c64 : cntP (psn σ g bj k m) (2 ^ g) ≤ 64 := Nat.le_trans (cnt_le _ _) p64
    have al := s4_allGates (L := L) (xs := xs) (σ := σ1) (τ := τ) (S := S) a_4 (qN_agr ag1 R.1).2.1 hg6
    rw [ag_p2] at al
    have wC := s4_weirs (L := L) (xs := xs) (σ := σ1) (τ := τ) (S := S) a_4 (qN_agr ag1 R.1).2.1 hg6
    simp only [Nat.reduceAdd, wr_eq (qN_agr ag1 R.1)] at wC
    rw [ag1.1 72 (by unfold scr; omega) (by decide)] at wC
    obtain ⟨x, hx⟩ : ∃ x, x = (nI (2 ^ g) - 1) &&& (wr (σ 72) g ^^^ -1) := ⟨_, rfl⟩
    have sN := s3_inNone (L := L) (xs := xs) (σ := σ1) (τ := τ) (S := S) n1 c64 (x := x)
    rw [an_l l1 _ (Nat.le_refl _)] at sN
    generalize hB : anP (psn σ g bj k m) x (2 ^ g) = B at sN
    have sE := s3_inEach (L := L) (xs := xs) (σ := va_up σ1 0 (upd (σ1 0) 10 B)) (τ := τ) (S := S) (show (va_up σ1 0 (upd (σ1 0) 10 B)) 16 3 = _ by rw [vn (by decide)]; exact n1) c64 (x := x)
    rw [vn (show 17 ≠ 0 by decide), ae_l l1 _ (Nat.le_refl _)] at sE
    have rT := td_qN (v := B) R.1 ag1
    have g1 := rT.2.2.1
    obtain ⟨σ2, f2, ag2, n2, v2, _⟩ := lfR (L := L) (xs := xs) (τ := τ) (S := S) rT hb hk (m := m) (by rw [td_c ag1 (by unfold scr; omega) (by decide) (by decide)]; exact hz) (by omega)
    rw [td_psn ag1] at v2
    have g2 : σ2 67 4 = nI g := ag2.2.1.trans g1
    have wR := s6_weirs (L := L) (xs := xs) (σ := σ2) (τ := τ) (S := S) g2 hg6
    rw [ag2.1 72 (by unfold scr; omega) (by decide), td_c ag1 (by unfold scr; omega) (by decide) (by decide)] at wR
    have p3 := suS (L := L) (xs := xs) (τ := τ) (S := S) (x := x) hg6 g2 v2 (b := nI bj) (k := nI k)
    rw [hB] at p3
    have rf := p2 (va_up σ1 0 (upd (σ1 0) 10 B)) τ (g1.trans R.1.2.2.1.symm) (td_c ag1 (by unfold scr; omega) (by decide) (by decide)) (td_c ag1 (by unfold scr; omega) (by decide) (by decide))
    refine op_of (v := aeP (psn σ g bj k m) x (2 ^ g)) (σ1 := va_up σ1 0 (upd (σ1 0) 10 B)) (σ2 := va_up σ2 67 (upd (σ2 67) 11 B)) (τ1 := τ) (τ2 := τ) (g := g) (d := d) ?_ ?_ (Rel_fin R ag1 ag2)
    · simp only [Nat.reduceAdd, i5_sure_0, i5_sure_1, i5_sure_2, i5_sure_3, i5_sure_4, i5_sure_7, i5_sure_8, i5_sure_9, i5_sure_12, i5_sure_13, i5_sure_14, i5_sure_15, i5_sure_16, i5_sure_17, i5_sure_20, i5_sure_21_r1, i5_sure_21_r2, i5_sure_21_r11, i5_sure_22, i5_sure_25, i5_sure_26, i5_sure_29, i5_sure_32, i5_sure_35, i5_sure_36, i5_sure_39, i5_sure_42, i5_sure_45, i5_sure_46, i5_sure_47, i5_sure_48, i5_sure_50, i5_sure_51, i5_sure_52, i5_sure_55, i5_sure_57, i5_sure_60, i5_sure_63, i5_sure_64, i5_sure_65, i5_sure_68, i5_sure_70, i5_sure_73, p1, f1, al, wC, ← hx, sN, sE, s5_tell, k_3, k_4, hS, hC, pK_i, pK_v, if_true, if_false, not_true_eq_false, not_false_eq_true, true_or, or_true]
    · simp only [Nat.reduceAdd, i6_sure_0, i6_sure_1, i6_sure_2, i6_sure_3, i6_sure_6, i6_sure_7, i6_sure_8, i6_sure_11, i6_sure_12, i6_sure_13, i6_sure_14, i6_sure_15, i6_sure_16, i6_sure_19, i6_sure_20, i6_sure_21, i6_sure_24, i6_sure_25, i6_sure_26, i6_sure_27, i6_sure_28, i6_sure_31, i6_sure_32, i6_sure_33, i6_sure_34, i6_sure_36, i6_sure_38, i6_sure_40, i6_sure_41, rf, f2, g2, wR, ← hx, p2_ok hg6, p3, pK_i, pK_v, if_true, if_false, not_true_eq_false, not_false_eq_true, true_or, or_true]
      simp only [i6_sure_106, i6_sure_107, i6_sure_109, i6_sure_112, i6_sure_114]
end DR
