/-! THE CALLS: sets, surely -/
section DP
variable {L : Nat} {xs : Nat → Int32} {σ σj : Nat → Nat → Int32} {τ : Nat → Nat → Int64} {S g d m j : Nat}
def pwd (σ : Nat → Nat → Int32) (g : Nat) (v : Int32) (s : Nat) : Prop := wof (σ 73) (nI s) g = v
theorem fwC (r : qN g m σ) {v : Int32} : ∃ σ', pX 107 0 [.ref 0, .int v, .null] [] (mm L xs σ τ) 85 S = some (none, mm L xs σ' τ, 85, S) ∧ agr σ σ' ∧ σ' 16 3 = nI (cntP (pwd σ g v) (2 ^ g)) ∧ lstq (pwd σ g v) (σ' 17) (2 ^ g) := by
  have hg6 := r.1
  obtain ⟨p64, p0⟩ := p2_64 hg6
  have key := lq (δ := Nat → Nat → Int32) (2 ^ g) (fun s e => agr σ e ∧ e 16 3 = nI (cntP (pwd σ g v) s) ∧ lstq (pwd σ g v) (e 17) s) (fun s e => pX 107 9 [.ref 0, .int v, .int (nI s)] [] (mm L xs e τ) 85 S) (fun o => ∃ σ', o = some (none, mm L xs σ' τ, 85, S) ∧ agr σ σ' ∧ σ' 16 3 = nI (cntP (pwd σ g v) (2 ^ g)) ∧ lstq (pwd σ g v) (σ' 17) (2 ^ g)) (fun e he => ⟨e, by
    have al := s4_allGates (L := L) (xs := xs) (σ := e) (τ := τ) (S := S) a_4 (qN_agr he.1 r).2.1 hg6
    simp only [Nat.reduceAdd, i5_findSetsByWidths_9, i5_findSetsByWidths_10, i5_findSetsByWidths_11, i5_findSetsByWidths_14, i5_findSetsByWidths_17, i5_findSetsByWidths_20, i5_findSetsByWidths_46, k_3, k_4, al, pK_i, ag_lt hg6 (show 2 ^ g ≤ 5000 by omega), Nat.lt_irrefl, not_false_eq_true, if_true], he⟩) (fun s hs e he => Or.inr (by
    obtain ⟨ha, hn, hl⟩ := he
    have r' := qN_agr ha r
    have al := s4_allGates (L := L) (xs := xs) (σ := e) (τ := τ) (S := S) a_4 r'.2.1 hg6
    have w := s5_widthTogether (L := L) (xs := xs) (σ := e) (τ := τ) (S := S) r'.2.1 hg6 (b := nI s)
    have ew : wof (e 6) (nI s) g = wof (σ 73) (nI s) g := by
      rw [ha.1 6 (by unfold scr; omega) (by decide)]
      exact wof_c fun i hi => (r.2.2.2.1 i hi).2.1
    rw [ew] at w
    have lt := ag_lt hg6 (show s ≤ 5000 by omega)
    have c64 : cntP (pwd σ g v) s < 64 := Nat.lt_of_le_of_lt (cnt_le _ s) (by omega)
    by_cases hp : wof (σ 73) (nI s) g = v
    · have hp' : pwd σ g v s := hp
      have ad := s3_add (L := L) (xs := xs) (σ := e) (τ := τ) (S := S) hn c64 (v := nI s)
      refine ⟨va_up (va_up e 17 (upd (e 17) (cntP (pwd σ g v) s) (nI s))) 16 (upd (e 16) 3 (nI (cntP (pwd σ g v) s + 1))), ⟨agr_u (agr_u ha (by unfold scr; omega)) (by unfold scr; omega), ?_, ?_⟩, ?_⟩
      · rw [vs, us, cnt_t hp']
      · rw [vn (by decide), vs]; exact lst_add hl hp'
      · rw [i5_findSetsByWidths_9]
        simp only [Nat.reduceAdd, i5_findSetsByWidths_10, i5_findSetsByWidths_11, i5_findSetsByWidths_14, i5_findSetsByWidths_17, i5_findSetsByWidths_20, i5_findSetsByWidths_23, i5_findSetsByWidths_24, i5_findSetsByWidths_25, i5_findSetsByWidths_28, i5_findSetsByWidths_29, i5_findSetsByWidths_32, i5_findSetsByWidths_33, i5_findSetsByWidths_36, i5_findSetsByWidths_37, i5_findSetsByWidths_40, i5_findSetsByWidths_43, k_3, k_4, al, w, ad, pK_i, pK_v, lt, hs, hp, if_true, if_false, not_true_eq_false, not_false_eq_true, true_or, or_true, nI_1]
    · have hp' : ¬ pwd σ g v s := hp
      refine ⟨e, ⟨ha, ?_, lst_skip hl hp'⟩, ?_⟩
      · rw [cnt_f hp']; exact hn
      · rw [i5_findSetsByWidths_9]
        simp only [Nat.reduceAdd, i5_findSetsByWidths_10, i5_findSetsByWidths_11, i5_findSetsByWidths_14, i5_findSetsByWidths_17, i5_findSetsByWidths_20, i5_findSetsByWidths_23, i5_findSetsByWidths_24, i5_findSetsByWidths_25, i5_findSetsByWidths_28, i5_findSetsByWidths_29, i5_findSetsByWidths_32, i5_findSetsByWidths_33, i5_findSetsByWidths_36, i5_findSetsByWidths_37, i5_findSetsByWidths_40, i5_findSetsByWidths_43, k_3, k_4, al, w, pK_i, lt, hs, hp, if_true, if_false, not_true_eq_false, not_false_eq_true, true_or, or_true, nI_1]))
  obtain ⟨σ', q, a'⟩ := key (va_up σ 16 (upd (σ 16) 3 0)) ⟨agr_u (agr_r σ) (by unfold scr; omega), by rw [vs, us]; rfl, lst_0⟩
  refine ⟨σ', ?_, a'⟩
  rw [nI_0] at q
  simp only [Nat.reduceAdd, i5_findSetsByWidths_0, i5_findSetsByWidths_1, i5_findSetsByWidths_4, i5_findSetsByWidths_7, i5_findSetsByWidths_8, i3_empty_0, i3_empty_1, i3_empty_2, i3_empty_5, pK_v]
  exact q
/-- the plain form's count of what fits, from above: k are left -/
theorem swR (r : qN g m σ) {v : Int32} : ∃ x, fsq (pwd σ g v) 0 (2 ^ g) x ∧ ∃ d5, pX 201 37 [.ref 67, .int v, .int 0, .int (-9), .int (nI (2 ^ g) - 1), .null] [] (mm L xs σ τ) 85 S = pX 201 90 [.ref 67, .int v, .int (nI (cntP (pwd σ g v) (2 ^ g))), .int x, .int (-1), d5] [] (mm L xs σ τ) 85 S := by
  have hg6 := r.1
  obtain ⟨p64, p0⟩ := p2_64 hg6
  have key := ld (δ := Int32 × Value) (2 ^ g) (fun k d => fsq (pwd σ g v) k (2 ^ g) d.1) (fun k d => pX 201 37 [.ref 67, .int v, .int (nI (cntP (pwd σ g v) (2 ^ g) - cntP (pwd σ g v) k)), .int d.1, .int (nI k - 1), d.2] [] (mm L xs σ τ) 85 S) (fun o => ∃ x, fsq (pwd σ g v) 0 (2 ^ g) x ∧ ∃ d5, o = pX 201 90 [.ref 67, .int v, .int (nI (cntP (pwd σ g v) (2 ^ g))), .int x, .int (-1), d5] [] (mm L xs σ τ) 85 S) (fun d hd => ⟨d.1, hd, d.2, by
    have q : nI 0 - 1 = -1 := by decide
    have q2 : (-1 : Int32) < 0 := by decide
    simp only [i6_sets_37, i6_sets_39, q, q2, if_true]; rfl⟩) (fun k hk d hd => by
    obtain ⟨x, d5⟩ := d
    have hd' : fsq (pwd σ g v) (k + 1) (2 ^ g) x := hd
    have q : ¬ nI k < 0 := nI_pos (by omega)
    have e1 : nI (k + 1) - 1 = nI k := nm1 (by omega)
    have e2 : nI k + -1 = nI k - 1 := by rw [Int32.sub_eq_add_neg]
    have w := s6_widthOf (L := L) (xs := xs) (σ := σ) (τ := τ) (S := S) r.2.2.1 hg6 (b := nI k)
    by_cases hp : wof (σ 73) (nI k) g = v
    · have hp' : pwd σ g v k := hp
      have m1 := cnt_mono (P := pwd σ g v) (show k + 1 ≤ 2 ^ g by omega)
      have m2 := cnt_t hp'
      refine ⟨(nI k, .int 1), fsq_t (x := x) hk hp', ?_⟩
      rw [show cntP (pwd σ g v) (2 ^ g) - cntP (pwd σ g v) k = cntP (pwd σ g v) (2 ^ g) - cntP (pwd σ g v) (k + 1) + 1 by omega]
      rw [i6_sets_37]
      simp only [Nat.reduceAdd, i6_sets_39, i6_sets_42, i6_sets_43, i6_sets_45, i6_sets_48, i6_sets_49, i6_sets_52, i6_sets_53, i6_sets_56, i6_sets_57, i6_sets_59, i6_sets_61, i6_sets_64, i6_sets_66, i6_sets_69, i6_sets_70, i6_sets_71, i6_sets_72, i6_sets_74, i6_sets_77, i6_sets_78, i6_sets_81, i6_sets_82, i6_sets_83, i6_sets_84, i6_sets_87, e1, e2, w, pK_i, q, hp, n10, if_true, if_false, not_true_eq_false, not_false_eq_true, true_or, or_true, nI_1]
    · have hp' : ¬ pwd σ g v k := hp
      refine ⟨(x, .int 0), fsq_f hp' hd', ?_⟩
      rw [cnt_f hp']
      rw [i6_sets_37]
      simp only [Nat.reduceAdd, i6_sets_39, i6_sets_42, i6_sets_43, i6_sets_45, i6_sets_48, i6_sets_49, i6_sets_52, i6_sets_53, i6_sets_56, i6_sets_57, i6_sets_59, i6_sets_61, i6_sets_64, i6_sets_66, i6_sets_69, i6_sets_70, i6_sets_71, i6_sets_72, i6_sets_74, i6_sets_77, i6_sets_78, i6_sets_81, i6_sets_82, i6_sets_83, i6_sets_84, i6_sets_87, e1, e2, w, pK_i, q, hp, if_true, if_false, not_true_eq_false, not_false_eq_true, true_or, or_true, Int32.add_zero])
  have k := key (-9, .null) fsq_n
  dsimp only at k
  rw [Nat.sub_self, nI_0] at k
  exact k
theorem v54 {v : Int32} : (¬ v < 0 ∧ ¬ 54 < v) = inb v 55 := propext (inb_iff2 (n := 54) rfl (by decide)).symm
theorem s5_refW (r : qN g m σ) {v : Int32} : pX 120 0 [.ref 0, .int v] [] (mm L xs σ τ) 85 S = some (some (.int (@ite _ (inb v 55) (Classical.propDecidable _) (if 0 < g then 0 else -4) (-1))), mm L xs σ τ, 85, S) := by
  by_cases h : inb v 55
  · rw [if_pos h]
    rw [← v54] at h
    by_cases h0 : 0 < g
    · simp only [Nat.reduceAdd, i5_refusalOfWidths_0, i5_refusalOfWidths_1, i5_refusalOfWidths_4, i5_refusalOfWidths_5, i5_refusalOfWidths_7, i5_refusalOfWidths_10, i5_refusalOfWidths_11, i5_refusalOfWidths_12, i5_refusalOfWidths_13, i5_refusalOfWidths_16, i5_refusalOfWidths_19, i5_refusalOfWidths_22, i5_refusalOfWidths_23, i5_refusalOfWidths_26, i5_refusalOfWidths_28, s3_isThere r, k_3, k_4, pK_i, bi_0, h.1, h.2, h0, if_true, if_false, not_true_eq_false, not_false_eq_true, true_or, or_true]
    · simp only [Nat.reduceAdd, i5_refusalOfWidths_0, i5_refusalOfWidths_1, i5_refusalOfWidths_4, i5_refusalOfWidths_5, i5_refusalOfWidths_7, i5_refusalOfWidths_10, i5_refusalOfWidths_11, i5_refusalOfWidths_12, i5_refusalOfWidths_13, i5_refusalOfWidths_16, i5_refusalOfWidths_19, i5_refusalOfWidths_22, i5_refusalOfWidths_23, i5_refusalOfWidths_26, i5_refusalOfWidths_28, s3_isThere r, k_3, k_4, pK_i, bi_0, h.1, h.2, h0, if_true, if_false, not_true_eq_false, not_false_eq_true, true_or, or_true]
  · rw [if_neg h]
    rw [← v54] at h
    by_cases h1 : v < 0
    · simp only [Nat.reduceAdd, i5_refusalOfWidths_0, i5_refusalOfWidths_1, i5_refusalOfWidths_4, i5_refusalOfWidths_5, i5_refusalOfWidths_7, i5_refusalOfWidths_10, i5_refusalOfWidths_11, i5_refusalOfWidths_12, i5_refusalOfWidths_13, i5_refusalOfWidths_16, i5_refusalOfWidths_19, i5_refusalOfWidths_22, i5_refusalOfWidths_23, i5_refusalOfWidths_26, i5_refusalOfWidths_28, h1, if_true, if_false, not_true_eq_false, not_false_eq_true, true_or, or_true]
    · by_cases h2 : 54 < v
      · simp only [Nat.reduceAdd, i5_refusalOfWidths_0, i5_refusalOfWidths_1, i5_refusalOfWidths_4, i5_refusalOfWidths_5, i5_refusalOfWidths_7, i5_refusalOfWidths_10, i5_refusalOfWidths_11, i5_refusalOfWidths_12, i5_refusalOfWidths_13, i5_refusalOfWidths_16, i5_refusalOfWidths_19, i5_refusalOfWidths_22, i5_refusalOfWidths_23, i5_refusalOfWidths_26, i5_refusalOfWidths_28, h1, h2, if_true, if_false, not_true_eq_false, not_false_eq_true, true_or, or_true]
      · exact absurd ⟨h1, h2⟩ h
theorem n94 : ((-4 : Int32) = 0) = False := by decide
theorem n91 : ((-1 : Int32) = 0) = False := by decide
theorem op_sets {v : Int32} : opI L xs S (fun M => pX 78 0 [.ref 0, .int v, .null] [] M 85 S) (fun M => pX 201 0 [.ref 67, .int v, .null, .null, .null, .null] [] M 85 S) := by
  intro g d σ τ R
  have hg6 := R.1.1
  have hW := s5_refW (L := L) (xs := xs) (τ := τ) (S := S) R.1 (v := v)
  by_cases hv : inb v 55
  · rw [if_pos hv] at hW
    by_cases h : 0 < g
    · rw [if_pos h] at hW
      obtain ⟨p64, p0⟩ := p2_64 hg6
      obtain ⟨σ1, p1, ag1, n1, l1⟩ := fwC (L := L) (xs := xs) (τ := τ) (S := S) R.1 (v := v)
      have c64 : cntP (pwd σ g v) (2 ^ g) ≤ 64 := Nat.le_trans (cnt_le _ _) p64
      have ls := s3_least (L := L) (xs := xs) (σ := σ1) (τ := ptC τ (lN (cntP (pwd σ g v) (2 ^ g))) 1) (S := S) n1 c64
      have f1 := fsq_l l1
      generalize (if cntP (pwd σ g v) (2 ^ g) = 0 then -9 else σ1 17 0) = B at ls f1
      have rT := td_qN (v := B) R.1 ag1
      have g1 := rT.2.2.1
      obtain ⟨x, fx, d5, p2⟩ := swR (L := L) (xs := xs) (τ := ptC τ (lN (cntP (pwd σ g v) (2 ^ g))) 1) (S := S) rT (v := v)
      have ew : pwd (va_up σ1 0 (upd (σ1 0) 10 B)) g v = pwd σ g v := by
        unfold pwd
        rw [td_c ag1 (by unfold scr; omega) (by decide) (by decide)]
      rw [ew] at p2 fx
      have hx : x = B := fsq_u fx f1
      subst hx
      have tp := s5_tellPart1 (L := L) (xs := xs) (σ := σ1) (τ := τ) (S := S) (a := cntP (pwd σ g v) (2 ^ g)) (by omega)
      have il : (nI (cntP (pwd σ g v) (2 ^ g))).toInt64 = lN (cntP (pwd σ g v) (2 ^ g)) := nI_l (by omega)
      refine op_of (v := 1) (σ1 := va_up σ1 0 (upd (σ1 0) 10 x)) (σ2 := va_up (va_up σ1 0 (upd (σ1 0) 10 x)) 67 (upd ((va_up σ1 0 (upd (σ1 0) 10 x)) 67) 11 x)) (τ1 := ptC τ (lN (cntP (pwd σ g v) (2 ^ g))) 1) (τ2 := ptR (ptC τ (lN (cntP (pwd σ g v) (2 ^ g))) 1) (lN (cntP (pwd σ g v) (2 ^ g))) 1) (g := g) (d := d) ?_ ?_ (Rel_pt (Rel_fin R ag1 (agr_r _)))
      · simp only [Nat.reduceAdd, i5_sets_0, i5_sets_1, i5_sets_2, i5_sets_5, i5_sets_6, i5_sets_7, i5_sets_10, i5_sets_11, i5_sets_12, i5_sets_13, i5_sets_14, i5_sets_17, i5_sets_18, i5_sets_19, i5_sets_22, i5_sets_25, i5_sets_26, i5_sets_27, i5_sets_30, i5_sets_31, i5_sets_32, i5_sets_35, i5_sets_38, i5_sets_41, hW, p1, n1, il, tp, ls, s5_tell, k_16, pK_i, pK_v, if_true, if_false, not_true_eq_false, not_false_eq_true, true_or, or_true]
      · simp only [Nat.reduceAdd, i6_sets_0, i6_sets_1, i6_sets_2, i6_sets_4, i6_sets_7, i6_sets_10, i6_sets_11, i6_sets_12, i6_sets_13, i6_sets_16, i6_sets_19, i6_sets_21, i6_sets_22, i6_sets_23, i6_sets_24, i6_sets_26, i6_sets_27, i6_sets_28, i6_sets_29, i6_sets_32, i6_sets_33, i6_sets_34, i6_sets_35, s6_in, v54, g1, gN0 hg6, p2_ok hg6, p2, pK_i, bi_0, hv, h, if_true, if_false, not_true_eq_false, not_false_eq_true, true_or, or_true]
        simp only [i6_sets_90, i6_sets_91, i6_sets_92, i6_sets_93, i6_sets_96, i6_sets_97, i6_sets_98, i6_sets_101, i6_sets_102, i6_sets_103, i6_sets_106, il, s6_tells, pK_i, ptR]
    · rw [if_neg h] at hW
      apply op_of
      · simp only [Nat.reduceAdd, i5_sets_0, i5_sets_1, i5_sets_2, i5_sets_5, i5_sets_6, i5_sets_7, i5_sets_10, i5_sets_11, i5_sets_12, i5_sets_13, i5_sets_14, i5_sets_17, i5_sets_18, i5_sets_19, i5_sets_22, i5_sets_25, i5_sets_26, i5_sets_27, i5_sets_30, i5_sets_31, i5_sets_32, i5_sets_35, i5_sets_38, i5_sets_41, hW, n94, pK_i, if_true, if_false, not_true_eq_false, not_false_eq_true, true_or, or_true]; rfl
      · simp only [Nat.reduceAdd, i6_sets_0, i6_sets_1, i6_sets_2, i6_sets_4, i6_sets_7, i6_sets_10, i6_sets_11, i6_sets_12, i6_sets_13, i6_sets_16, i6_sets_19, i6_sets_21, i6_sets_22, i6_sets_23, i6_sets_24, i6_sets_26, i6_sets_27, i6_sets_28, i6_sets_29, i6_sets_32, i6_sets_33, i6_sets_34, i6_sets_35, s6_in, v54, R.1.2.2.1, gN0 hg6, pK_i, bi_0, hv, h, if_true, if_false, not_true_eq_false, not_false_eq_true, true_or, or_true]; rfl
      · exact R
  · rw [if_neg hv] at hW
    apply op_of
    · simp only [Nat.reduceAdd, i5_sets_0, i5_sets_1, i5_sets_2, i5_sets_5, i5_sets_6, i5_sets_7, i5_sets_10, i5_sets_11, i5_sets_12, i5_sets_13, i5_sets_14, i5_sets_17, i5_sets_18, i5_sets_19, i5_sets_22, i5_sets_25, i5_sets_26, i5_sets_27, i5_sets_30, i5_sets_31, i5_sets_32, i5_sets_35, i5_sets_38, i5_sets_41, hW, n91, pK_i, if_true, if_false, not_true_eq_false, not_false_eq_true, true_or, or_true]; rfl
    · simp only [Nat.reduceAdd, i6_sets_0, i6_sets_1, i6_sets_2, i6_sets_4, i6_sets_7, i6_sets_10, i6_sets_11, i6_sets_12, i6_sets_13, i6_sets_16, i6_sets_19, i6_sets_21, i6_sets_22, i6_sets_23, i6_sets_24, i6_sets_26, i6_sets_27, i6_sets_28, i6_sets_29, i6_sets_32, i6_sets_33, i6_sets_34, i6_sets_35, s6_in, v54, pK_i, bi_0, hv, if_true, if_false, not_true_eq_false, not_false_eq_true, true_or, or_true]; rfl
    · exact R
theorem suR (r : qN g m σ) {v : Int32} : ∃ d6, pX 202 39 [.ref 67, .int v, .int 0, .int (nI (2 ^ g) - 1), .int (nI (2 ^ g) - 1), .int 0, .null] [] (mm L xs σ τ) 85 S = pX 202 119 [.ref 67, .int v, .int (nI (cntP (pwd σ g v) (2 ^ g))), .int (aeP (pwd σ g v) (nI (2 ^ g) - 1) (2 ^ g)), .int (anP (pwd σ g v) (nI (2 ^ g) - 1) (2 ^ g)), .int (nI (2 ^ g)), d6] [] (mm L xs σ τ) 85 S := by
  have hg6 := r.1
  obtain ⟨p64, p0⟩ := p2_64 hg6
  have key := lq (δ := Value) (2 ^ g) (fun _ _ => True) (fun s d => pX 202 39 [.ref 67, .int v, .int (nI (cntP (pwd σ g v) s)), .int (aeP (pwd σ g v) (nI (2 ^ g) - 1) s), .int (anP (pwd σ g v) (nI (2 ^ g) - 1) s), .int (nI s), d] [] (mm L xs σ τ) 85 S) (fun o => ∃ d6, o = pX 202 119 [.ref 67, .int v, .int (nI (cntP (pwd σ g v) (2 ^ g))), .int (aeP (pwd σ g v) (nI (2 ^ g) - 1) (2 ^ g)), .int (anP (pwd σ g v) (nI (2 ^ g) - 1) (2 ^ g)), .int (nI (2 ^ g)), d6] [] (mm L xs σ τ) 85 S) (fun d _ => ⟨d, by
    simp only [Nat.reduceAdd, i6_surely_39, i6_surely_41, i6_surely_42, i6_surely_43, i6_surely_46, i6_surely_47, r.2.2.1, p2_ok hg6, Int32.lt_irrefl, if_false]⟩) (fun s hs d _ => Or.inr (by
    have w := s6_widthOf (L := L) (xs := xs) (σ := σ) (τ := τ) (S := S) r.2.2.1 hg6 (b := nI s)
    have lt := p2_lt hg6 (show s ≤ 5000 by omega)
    by_cases hp : wof (σ 73) (nI s) g = v
    · have hp' : pwd σ g v s := hp
      refine ⟨.int 1, trivial, ?_⟩
      rw [cnt_t hp', aeP_t hp', anP_t hp']
      rw [i6_surely_39]
      simp only [Nat.reduceAdd, i6_surely_41, i6_surely_42, i6_surely_43, i6_surely_46, i6_surely_47, i6_surely_50, i6_surely_51, i6_surely_53, i6_surely_56, i6_surely_57, i6_surely_60, i6_surely_61, i6_surely_64, i6_surely_65, i6_surely_67, i6_surely_68, i6_surely_70, i6_surely_73, i6_surely_75, i6_surely_78, i6_surely_79, i6_surely_80, i6_surely_81, i6_surely_83, i6_surely_85, i6_surely_88, i6_surely_90, i6_surely_91, i6_surely_92, i6_surely_95, i6_surely_97, i6_surely_98, i6_surely_100, i6_surely_101, i6_surely_103, i6_surely_106, i6_surely_107, i6_surely_110, i6_surely_111, i6_surely_112, i6_surely_113, i6_surely_116, r.2.2.1, p2_ok hg6, lt, hs, w, pK_i, hp, n10, if_true, if_false, not_true_eq_false, not_false_eq_true, true_or, or_true, nI_1]
    · have hp' : ¬ pwd σ g v s := hp
      refine ⟨.int 0, trivial, ?_⟩
      rw [cnt_f hp', aeP_f hp', anP_f hp']
      rw [i6_surely_39]
      simp only [Nat.reduceAdd, i6_surely_41, i6_surely_42, i6_surely_43, i6_surely_46, i6_surely_47, i6_surely_50, i6_surely_51, i6_surely_53, i6_surely_56, i6_surely_57, i6_surely_60, i6_surely_61, i6_surely_64, i6_surely_65, i6_surely_67, i6_surely_68, i6_surely_70, i6_surely_73, i6_surely_75, i6_surely_78, i6_surely_79, i6_surely_80, i6_surely_81, i6_surely_83, i6_surely_85, i6_surely_88, i6_surely_90, i6_surely_91, i6_surely_92, i6_surely_95, i6_surely_97, i6_surely_98, i6_surely_100, i6_surely_101, i6_surely_103, i6_surely_106, i6_surely_107, i6_surely_110, i6_surely_111, i6_surely_112, i6_surely_113, i6_surely_116, r.2.2.1, p2_ok hg6, lt, hs, w, pK_i, hp, if_true, if_false, not_true_eq_false, not_false_eq_true, true_or, or_true, nI_1, Int32.and_self, Int32.add_zero]))
  exact key .null trivial
theorem ag_p2 : ag g = nI (2 ^ g) - 1 := by
  have : 0 < 2 ^ g := Nat.pow_pos (by decide)
  obtain ⟨k, hk⟩ : ∃ k, 2 ^ g = k + 1 := ⟨2 ^ g - 1, by omega⟩
  unfold ag
  rw [hk, nI_pred]; rfl
theorem op_surely {v : Int32} : opI L xs S (fun M => pX 79 0 [.ref 0, .int v, .null, .null] [] M 85 S) (fun M => pX 202 0 [.ref 67, .int v, .null, .null, .null, .null, .null] [] M 85 S) := by
  intro g d σ τ R
  have hg6 := R.1.1
  have hW := s5_refW (L := L) (xs := xs) (τ := τ) (S := S) R.1 (v := v)
  by_cases hv : inb v 55
  · rw [if_pos hv] at hW
    by_cases h : 0 < g
    · rw [if_pos h] at hW
      obtain ⟨p64, p0⟩ := p2_64 hg6
      obtain ⟨σ1, p1, ag1, n1, l1⟩ := fwC (L := L) (xs := xs) (τ := τ) (S := S) R.1 (v := v)
      have c64 : cntP (pwd σ g v) (2 ^ g) ≤ 64 := Nat.le_trans (cnt_le _ _) p64
      by_cases c0 : cntP (pwd σ g v) (2 ^ g) = 0
      · have z : σ1 16 3 = 0 := by rw [n1, c0]; rfl
        have rF : qN g d (fC σ1 4) := by
          refine qN_c (fun c hc => ?_) ?_ (qN_agr ag1 R.1)
          · unfold fC; rw [vn (by omega), vn (by omega)]
          · unfold fC; rw [vn (by omega), vn (by omega)]
        obtain ⟨d6, p2⟩ := suR (L := L) (xs := xs) (τ := τ) (S := S) rF (v := v)
        have ew : pwd (fC σ1 4) g v = pwd σ g v := by
          unfold pwd fC
          rw [vn (by decide), vn (by decide), ag1.1 73 (by unfold scr; omega) (by decide)]
        rw [ew, c0, nI_0] at p2
        have g1 := rF.2.2.1
        apply op_of
        · simp only [Nat.reduceAdd, i5_surely_0, i5_surely_1, i5_surely_2, i5_surely_5, i5_surely_6, i5_surely_7, i5_surely_10, i5_surely_11, i5_surely_12, i5_surely_13, i5_surely_14, i5_surely_17, i5_surely_18, i5_surely_21, i5_surely_24, i5_surely_27, i5_surely_28, i5_surely_29, i5_surely_32, i5_surely_33, i5_surely_34, i5_surely_37, i5_surely_40, i5_surely_43, i5_surely_44, i5_surely_45, i5_surely_46, i5_surely_49, i5_surely_50, i5_surely_53, i5_surely_56, i5_surely_57, i5_surely_58, i5_surely_61, i5_surely_62, i5_surely_65, hW, p1, z, rf4, k_16, pK_i, pK_v, if_true, if_false, not_true_eq_false, not_false_eq_true, true_or, or_true]; rfl
        · simp only [Nat.reduceAdd, i6_surely_0, i6_surely_1, i6_surely_2, i6_surely_4, i6_surely_7, i6_surely_10, i6_surely_11, i6_surely_12, i6_surely_13, i6_surely_16, i6_surely_19, i6_surely_21, i6_surely_22, i6_surely_23, i6_surely_24, i6_surely_25, i6_surely_26, i6_surely_29, i6_surely_30, i6_surely_31, i6_surely_32, i6_surely_33, i6_surely_34, i6_surely_36, i6_surely_37, s6_in, v54, g1, gN0 hg6, p2_ok hg6, p2, pK_i, bi_0, hv, h, if_true, if_false, not_true_eq_false, not_false_eq_true, true_or, or_true]
          simp only [i6_surely_119, i6_surely_120, i6_surely_123, i6_surely_124, i6_surely_125, i6_surely_128, i6_surely_129, i6_surely_130, i6_surely_132, i6_surely_135, i6_surely_136, fd4, pK_i, if_true]; rfl
        · exact Rel_f (Rel_agr ag1 R) 4
      · have z : ¬ σ1 16 3 = 0 := by rw [n1]; exact nI_ne0 (by omega) (by omega)
        have z2 : ¬ nI (cntP (pwd σ g v) (2 ^ g)) = 0 := nI_ne0 (by omega) (by omega)
        have al := s4_allGates (L := L) (xs := xs) (σ := σ1) (τ := τ) (S := S) a_4 (qN_agr ag1 R.1).2.1 hg6
        rw [ag_p2] at al
        have sN := s3_inNone (L := L) (xs := xs) (σ := σ1) (τ := τ) (S := S) n1 c64 (x := nI (2 ^ g) - 1)
        rw [an_l l1 _ (Nat.le_refl _)] at sN
        generalize hB : anP (pwd σ g v) (nI (2 ^ g) - 1) (2 ^ g) = B at sN
        have sE := s3_inEach (L := L) (xs := xs) (σ := va_up σ1 0 (upd (σ1 0) 10 B)) (τ := τ) (S := S) (show (va_up σ1 0 (upd (σ1 0) 10 B)) 16 3 = _ by rw [vn (by decide)]; exact n1) c64 (x := nI (2 ^ g) - 1)
        rw [vn (show 17 ≠ 0 by decide), ae_l l1 _ (Nat.le_refl _)] at sE
        have rT := td_qN (v := B) R.1 ag1
        have g1 := rT.2.2.1
        obtain ⟨d6, p2⟩ := suR (L := L) (xs := xs) (τ := τ) (S := S) rT (v := v)
        have ew : pwd (va_up σ1 0 (upd (σ1 0) 10 B)) g v = pwd σ g v := by
          unfold pwd
          rw [td_c ag1 (by unfold scr; omega) (by decide) (by decide)]
        rw [ew, hB] at p2
        refine op_of (v := aeP (pwd σ g v) (nI (2 ^ g) - 1) (2 ^ g)) (σ1 := va_up σ1 0 (upd (σ1 0) 10 B)) (σ2 := va_up (va_up σ1 0 (upd (σ1 0) 10 B)) 67 (upd ((va_up σ1 0 (upd (σ1 0) 10 B)) 67) 11 B)) (τ1 := τ) (τ2 := τ) (g := g) (d := d) ?_ ?_ (Rel_fin R ag1 (agr_r _))
        · simp only [Nat.reduceAdd, i5_surely_0, i5_surely_1, i5_surely_2, i5_surely_5, i5_surely_6, i5_surely_7, i5_surely_10, i5_surely_11, i5_surely_12, i5_surely_13, i5_surely_14, i5_surely_17, i5_surely_18, i5_surely_21, i5_surely_24, i5_surely_27, i5_surely_28, i5_surely_29, i5_surely_32, i5_surely_33, i5_surely_34, i5_surely_37, i5_surely_40, i5_surely_43, i5_surely_44, i5_surely_45, i5_surely_46, i5_surely_49, i5_surely_50, i5_surely_53, i5_surely_56, i5_surely_57, i5_surely_58, i5_surely_61, i5_surely_62, i5_surely_65, hW, p1, z, al, sN, sE, s5_tell, k_3, k_4, k_16, pK_i, pK_v, if_true, if_false, not_true_eq_false, not_false_eq_true, true_or, or_true]
        · simp only [Nat.reduceAdd, i6_surely_0, i6_surely_1, i6_surely_2, i6_surely_4, i6_surely_7, i6_surely_10, i6_surely_11, i6_surely_12, i6_surely_13, i6_surely_16, i6_surely_19, i6_surely_21, i6_surely_22, i6_surely_23, i6_surely_24, i6_surely_25, i6_surely_26, i6_surely_29, i6_surely_30, i6_surely_31, i6_surely_32, i6_surely_33, i6_surely_34, i6_surely_36, i6_surely_37, s6_in, v54, g1, gN0 hg6, p2_ok hg6, p2, pK_i, bi_0, hv, h, if_true, if_false, not_true_eq_false, not_false_eq_true, true_or, or_true]
          simp only [i6_surely_119, i6_surely_120, i6_surely_123, i6_surely_124, i6_surely_125, i6_surely_128, i6_surely_129, i6_surely_130, i6_surely_132, i6_surely_135, i6_surely_136, z2, if_false]
    · rw [if_neg h] at hW
      apply op_of
      · simp only [Nat.reduceAdd, i5_surely_0, i5_surely_1, i5_surely_2, i5_surely_5, i5_surely_6, i5_surely_7, i5_surely_10, i5_surely_11, i5_surely_12, i5_surely_13, i5_surely_14, i5_surely_17, i5_surely_18, i5_surely_21, i5_surely_24, i5_surely_27, i5_surely_28, i5_surely_29, i5_surely_32, i5_surely_33, i5_surely_34, i5_surely_37, i5_surely_40, i5_surely_43, i5_surely_44, i5_surely_45, i5_surely_46, i5_surely_49, i5_surely_50, i5_surely_53, i5_surely_56, i5_surely_57, i5_surely_58, i5_surely_61, i5_surely_62, i5_surely_65, hW, n94, pK_i, if_true, if_false, not_true_eq_false, not_false_eq_true, true_or, or_true]; rfl
      · simp only [Nat.reduceAdd, i6_surely_0, i6_surely_1, i6_surely_2, i6_surely_4, i6_surely_7, i6_surely_10, i6_surely_11, i6_surely_12, i6_surely_13, i6_surely_16, i6_surely_19, i6_surely_21, i6_surely_22, i6_surely_23, i6_surely_24, i6_surely_25, i6_surely_26, i6_surely_29, i6_surely_30, i6_surely_31, i6_surely_32, i6_surely_33, i6_surely_34, i6_surely_36, i6_surely_37, s6_in, v54, R.1.2.2.1, gN0 hg6, pK_i, bi_0, hv, h, if_true, if_false, not_true_eq_false, not_false_eq_true, true_or, or_true]; rfl
      · exact R
  · rw [if_neg hv] at hW
    apply op_of
    · simp only [Nat.reduceAdd, i5_surely_0, i5_surely_1, i5_surely_2, i5_surely_5, i5_surely_6, i5_surely_7, i5_surely_10, i5_surely_11, i5_surely_12, i5_surely_13, i5_surely_14, i5_surely_17, i5_surely_18, i5_surely_21, i5_surely_24, i5_surely_27, i5_surely_28, i5_surely_29, i5_surely_32, i5_surely_33, i5_surely_34, i5_surely_37, i5_surely_40, i5_surely_43, i5_surely_44, i5_surely_45, i5_surely_46, i5_surely_49, i5_surely_50, i5_surely_53, i5_surely_56, i5_surely_57, i5_surely_58, i5_surely_61, i5_surely_62, i5_surely_65, hW, n91, pK_i, if_true, if_false, not_true_eq_false, not_false_eq_true, true_or, or_true]; rfl
    · simp only [Nat.reduceAdd, i6_surely_0, i6_surely_1, i6_surely_2, i6_surely_4, i6_surely_7, i6_surely_10, i6_surely_11, i6_surely_12, i6_surely_13, i6_surely_16, i6_surely_19, i6_surely_21, i6_surely_22, i6_surely_23, i6_surely_24, i6_surely_25, i6_surely_26, i6_surely_29, i6_surely_30, i6_surely_31, i6_surely_32, i6_surely_33, i6_surely_34, i6_surely_36, i6_surely_37, s6_in, v54, pK_i, bi_0, hv, if_true, if_false, not_true_eq_false, not_false_eq_true, true_or, or_true]; rfl
    · exact R
end DP
