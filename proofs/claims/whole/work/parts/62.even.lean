/-! THE CALLS: even -/
theorem spw_C {x : Nat → Int32} {σ : Nat → Nat → Int32} {g n s : Nat} (h0 : 0 < g) (h : ∀ c, c ≤ g → x c = wat σ g (nI s) n c) : maxf x (bs g) - minf x (bs g) = spw σ g n s := by
  have e : bs g = g + 1 := if_neg (by omega)
  unfold spw
  rw [e, maxf_c (f := x) (f' := fun b => wat σ g (nI s) n b) (h 0 (by omega)) (fun i hi => h i (by omega)), minf_c (f := x) (f' := fun b => wat σ g (nI s) n b) (h 0 (by omega)) (fun i hi => h i (by omega))]
theorem spw_R {x : Nat → Int32} {σ : Nat → Nat → Int32} {g n s : Nat} (h : ∀ c, c ≤ g → x c = wat σ g (nI s) n c) : maxf x (g + 1) - minf x (g + 1) = spw σ g n s := by
  unfold spw
  rw [maxf_c (f := x) (f' := fun b => wat σ g (nI s) n b) (h 0 (by omega)) (fun i hi => h i (by omega)), minf_c (f := x) (f' := fun b => wat σ g (nI s) n b) (h 0 (by omega)) (fun i hi => h i (by omega))]
def evn (wt sp : Int32) (s : Nat) (B : Int32 × Int32) : Int32 × Int32 := if nI s &&& wt = 0 then (if sp < B.2 then (nI s, sp) else B) else B
theorem evq_s (wt : Int32) (sp : Nat → Int32) (s : Nat) : evq wt sp (s + 1) = evn wt (sp s) s (evq wt sp s) := rfl
theorem imn_t {a b : Int32} (h : a < b) : imn a b = a := by
  unfold imn
  rw [if_neg]
  rw [Int32.lt_iff_toInt_lt] at h ⊢; omega
theorem imn_f {a b : Int32} (h : ¬ a < b) : imn a b = b := by
  unfold imn
  split
  · rfl
  · rename_i q
    rw [Int32.lt_iff_toInt_lt] at h q
    exact Int32.toInt_inj.mp (by omega)
section DO
variable {L : Nat} {xs : Nat → Int32} {σ σj : Nat → Nat → Int32} {τ : Nat → Nat → Int64} {S g d m j : Nat}
noncomputable def evw (σ : Nat → Nat → Int32) (g n : Nat) (s : Nat) : Int32 × Int32 := evq (wr (σ 72) g) (spw σ g n) s
theorem evC (r : qN g m σ) (h0 : 0 < g) {n : Nat} (hn : n ≤ 100) : ∃ σ', agr σ σ' ∧ pX 72 46 [.ref 0, .int (nI n), .int (wr (σ 72) g), .int 0, .int 61, .int 0] [] (mm L xs σ τ) 85 S = pX 72 110 [.ref 0, .int (nI n), .int (wr (σ 72) g), .int (evw σ g n (2 ^ g)).1, .int (evw σ g n (2 ^ g)).2, .int (nI (2 ^ g))] [] (mm L xs σ' τ) 85 S := by
  have hg6 := r.1
  obtain ⟨p64, p0⟩ := p2_64 hg6
  have key := lq (δ := Nat → Nat → Int32) (2 ^ g) (fun _ e => agr σ e) (fun s e => pX 72 46 [.ref 0, .int (nI n), .int (wr (σ 72) g), .int (evw σ g n s).1, .int (evw σ g n s).2, .int (nI s)] [] (mm L xs e τ) 85 S) (fun o => ∃ σ', agr σ σ' ∧ o = pX 72 110 [.ref 0, .int (nI n), .int (wr (σ 72) g), .int (evw σ g n (2 ^ g)).1, .int (evw σ g n (2 ^ g)).2, .int (nI (2 ^ g))] [] (mm L xs σ' τ) 85 S) (fun e he => ⟨e, he, by
    have al := s4_allGates (L := L) (xs := xs) (σ := e) (τ := τ) (S := S) a_4 (qN_agr he r).2.1 hg6
    simp only [Nat.reduceAdd, i5_even_46, i5_even_48, i5_even_49, i5_even_52, i5_even_55, i5_even_58, k_3, k_4, al, pK_i, ag_lt hg6 (show 2 ^ g ≤ 5000 by omega), Nat.lt_irrefl, not_false_eq_true, if_true]⟩) (fun s hs e he => Or.inr (by
    have r' := qN_agr he r
    have al := s4_allGates (L := L) (xs := xs) (σ := e) (τ := τ) (S := S) a_4 r'.2.1 hg6
    obtain ⟨σ', p, a', g3, l3⟩ := s5_standsAside (L := L) (xs := xs) (τ := τ) (S := S) r' (op := nI s) (show 0 ≤ g by omega) hn
    rw [nI_0] at p
    rw [agr_wat he] at p l3
    have sp := s4_spread (L := L) (xs := xs) (σ := σ') (τ := τ) (S := S) a_12 g3 hg6
    simp only [Nat.reduceAdd, spw_C h0 l3] at sp
    have lt := ag_lt hg6 (show s ≤ 5000 by omega)
    have hq : evw σ g n (s + 1) = evn (wr (σ 72) g) (spw σ g n s) s (evw σ g n s) := rfl
    rw [hq]
    generalize evw σ g n s = B
    obtain ⟨B1, B2⟩ := B
    unfold evn
    by_cases h1 : nI s &&& wr (σ 72) g = 0
    · refine ⟨σ', agr_t he a', ?_⟩
      rw [i5_even_46]
      by_cases h4 : spw σ g n s < B2
      · simp only [Nat.reduceAdd, i5_even_48, i5_even_49, i5_even_52, i5_even_55, i5_even_58, i5_even_61, i5_even_63, i5_even_64, i5_even_65, i5_even_68, i5_even_71, i5_even_72, i5_even_74, i5_even_75, i5_even_76, i5_even_79, i5_even_80, i5_even_81, i5_even_84, i5_even_87, i5_even_89, i5_even_92, i5_even_93, i5_even_96, i5_even_99, i5_even_101, i5_even_103, i5_even_104, i5_even_107, k_3, k_4, k_12, al, p, sp, pK_i, lt, hs, h1, h4, if_true, if_false, not_true_eq_false, not_false_eq_true, true_or, or_true, nI_1]
      · simp only [Nat.reduceAdd, i5_even_48, i5_even_49, i5_even_52, i5_even_55, i5_even_58, i5_even_61, i5_even_63, i5_even_64, i5_even_65, i5_even_68, i5_even_71, i5_even_72, i5_even_74, i5_even_75, i5_even_76, i5_even_79, i5_even_80, i5_even_81, i5_even_84, i5_even_87, i5_even_89, i5_even_92, i5_even_93, i5_even_96, i5_even_99, i5_even_101, i5_even_103, i5_even_104, i5_even_107, k_3, k_4, k_12, al, p, sp, pK_i, lt, hs, h1, h4, if_true, if_false, not_true_eq_false, not_false_eq_true, true_or, or_true, nI_1]
    · refine ⟨e, he, ?_⟩
      rw [i5_even_46]
      simp only [Nat.reduceAdd, i5_even_48, i5_even_49, i5_even_52, i5_even_55, i5_even_58, i5_even_61, i5_even_63, i5_even_64, i5_even_65, i5_even_68, i5_even_71, i5_even_72, i5_even_74, i5_even_75, i5_even_76, i5_even_79, i5_even_80, i5_even_81, i5_even_84, i5_even_87, i5_even_89, i5_even_92, i5_even_93, i5_even_96, i5_even_99, i5_even_101, i5_even_103, i5_even_104, i5_even_107, k_3, k_4, al, pK_i, lt, hs, h1, if_true, if_false, not_true_eq_false, not_false_eq_true, true_or, or_true, nI_1]))
  exact key σ (agr_r σ)
theorem evR (r : qN g m σ) {n : Nat} (hn : n ≤ 100) : ∃ σ', agr σ σ' ∧ pX 188 30 [.ref 67, .int (nI n), .int 0, .int 61, .int 0] [] (mm L xs σ τ) 85 S = pX 188 96 [.ref 67, .int (nI n), .int (evw σ g n (2 ^ g)).1, .int (evw σ g n (2 ^ g)).2, .int (nI (2 ^ g))] [] (mm L xs σ' τ) 85 S := by
  have hg6 := r.1
  obtain ⟨p64, p0⟩ := p2_64 hg6
  have key := lq (δ := Nat → Nat → Int32) (2 ^ g) (fun _ e => agr σ e) (fun s e => pX 188 30 [.ref 67, .int (nI n), .int (evw σ g n s).1, .int (evw σ g n s).2, .int (nI s)] [] (mm L xs e τ) 85 S) (fun o => ∃ σ', agr σ σ' ∧ o = pX 188 96 [.ref 67, .int (nI n), .int (evw σ g n (2 ^ g)).1, .int (evw σ g n (2 ^ g)).2, .int (nI (2 ^ g))] [] (mm L xs σ' τ) 85 S) (fun e he => ⟨e, he, by
    have f := (qN_agr he r).2.2.1
    simp only [Nat.reduceAdd, i6_even_30, i6_even_32, i6_even_33, i6_even_34, i6_even_37, i6_even_38, f, p2_ok hg6, Int32.lt_irrefl, if_false]⟩) (fun s hs e he => Or.inr (by
    have r' := qN_agr he r
    have f67 := r'.2.2.1
    have e72 : e 72 = σ 72 := he.1 72 (by unfold scr; omega) (by decide)
    have wt := s6_weirs (L := L) (xs := xs) (σ := e) (τ := τ) (S := S) f67 hg6
    rw [e72] at wt
    obtain ⟨σ', p, a', q', l'⟩ := r6_tries (L := L) (xs := xs) (τ := τ) (S := S) r' (op := nI s) hn
    rw [agr_wat he] at l'
    have sp := s6_spread (L := L) (xs := xs) (σ := σ') (τ := τ) (S := S) (show rst 81 from Or.inr rfl) (a'.2.1.trans f67) hg6
    rw [spw_R l'] at sp
    have lt := p2_lt hg6 (show s ≤ 5000 by omega)
    have hq : evw σ g n (s + 1) = evn (wr (σ 72) g) (spw σ g n s) s (evw σ g n s) := rfl
    rw [hq]
    generalize evw σ g n s = B
    obtain ⟨B1, B2⟩ := B
    unfold evn
    by_cases h1 : nI s &&& wr (σ 72) g = 0
    · refine ⟨σ', agr_t he a', ?_⟩
      rw [i6_even_30]
      by_cases h4 : spw σ g n s < B2
      · simp only [Nat.reduceAdd, i6_even_32, i6_even_33, i6_even_34, i6_even_37, i6_even_38, i6_even_41, i6_even_43, i6_even_44, i6_even_47, i6_even_48, i6_even_51, i6_even_52, i6_even_54, i6_even_55, i6_even_58, i6_even_59, i6_even_60, i6_even_63, i6_even_66, i6_even_67, i6_even_70, i6_even_72, i6_even_75, i6_even_76, i6_even_77, i6_even_78, i6_even_79, i6_even_82, i6_even_85, i6_even_86, i6_even_89, i6_even_90, i6_even_93, f67, p2_ok hg6, wt, p, sp, s6_least, imn_t h4, pK_i, pK_v, lt, hs, h1, h4, if_true, if_false, not_true_eq_false, not_false_eq_true, true_or, or_true, nI_1]
      · simp only [Nat.reduceAdd, i6_even_32, i6_even_33, i6_even_34, i6_even_37, i6_even_38, i6_even_41, i6_even_43, i6_even_44, i6_even_47, i6_even_48, i6_even_51, i6_even_52, i6_even_54, i6_even_55, i6_even_58, i6_even_59, i6_even_60, i6_even_63, i6_even_66, i6_even_67, i6_even_70, i6_even_72, i6_even_75, i6_even_76, i6_even_77, i6_even_78, i6_even_79, i6_even_82, i6_even_85, i6_even_86, i6_even_89, i6_even_90, i6_even_93, f67, p2_ok hg6, wt, p, sp, s6_least, imn_f h4, pK_i, pK_v, lt, hs, h1, h4, if_true, if_false, not_true_eq_false, not_false_eq_true, true_or, or_true, nI_1]
    · refine ⟨e, he, ?_⟩
      rw [i6_even_30]
      simp only [Nat.reduceAdd, i6_even_32, i6_even_33, i6_even_34, i6_even_37, i6_even_38, i6_even_41, i6_even_43, i6_even_44, i6_even_47, i6_even_48, i6_even_51, i6_even_52, i6_even_54, i6_even_55, i6_even_58, i6_even_59, i6_even_60, i6_even_63, i6_even_66, i6_even_67, i6_even_70, i6_even_72, i6_even_75, i6_even_76, i6_even_77, i6_even_78, i6_even_79, i6_even_82, i6_even_85, i6_even_86, i6_even_89, i6_even_90, i6_even_93, f67, p2_ok hg6, wt, pK_i, lt, hs, h1, if_true, if_false, not_true_eq_false, not_false_eq_true, true_or, or_true, nI_1]))
  exact key σ (agr_r σ)
theorem op_even {n : Int32} : opI L xs S (fun M => pX 72 0 [.ref 0, .int n, .null, .null, .null, .null] [] M 85 S) (fun M => pX 188 0 [.ref 67, .int n, .null, .null, .null] [] M 85 S) := by
  intro g d σ τ R
  have hg6 := R.1.1
  by_cases h : 0 < g
  · by_cases n0 : n < 1
    · apply op_of
      · simp only [Nat.reduceAdd, i5_even_0, i5_even_1, i5_even_4, i5_even_7, i5_even_10, i5_even_12, i5_even_13, i5_even_14, i5_even_15, i5_even_18, i5_even_19, i5_even_21, i5_even_24, i5_even_25, i5_even_26, i5_even_27, i5_even_30, i5_even_33, i5_even_36, i5_even_37, i5_even_38, i5_even_39, i5_even_41, i5_even_43, i5_even_44, s3_isThere R.1, k_3, k_4, pK_i, bi_0, h, n0, if_true, if_false, not_true_eq_false, not_false_eq_true, true_or, or_true]; rfl
      · simp only [Nat.reduceAdd, i6_even_0, i6_even_1, i6_even_4, i6_even_7, i6_even_9, i6_even_10, i6_even_11, i6_even_12, i6_even_14, i6_even_17, i6_even_20, i6_even_21, i6_even_22, i6_even_23, i6_even_24, i6_even_26, i6_even_27, i6_even_28, R.1.2.2.1, gN0 hg6, s6_in, pK_i, bi_0, h, n0, if_true, if_false, not_true_eq_false, not_false_eq_true, true_or, or_true, false_and]; rfl
      · exact R
    · by_cases n20 : 20 < n
      · apply op_of
        · simp only [Nat.reduceAdd, i5_even_0, i5_even_1, i5_even_4, i5_even_7, i5_even_10, i5_even_12, i5_even_13, i5_even_14, i5_even_15, i5_even_18, i5_even_19, i5_even_21, i5_even_24, i5_even_25, i5_even_26, i5_even_27, i5_even_30, i5_even_33, i5_even_36, i5_even_37, i5_even_38, i5_even_39, i5_even_41, i5_even_43, i5_even_44, s3_isThere R.1, k_3, k_4, pK_i, bi_0, h, n0, n20, if_true, if_false, not_true_eq_false, not_false_eq_true, true_or, or_true]; rfl
        · simp only [Nat.reduceAdd, i6_even_0, i6_even_1, i6_even_4, i6_even_7, i6_even_9, i6_even_10, i6_even_11, i6_even_12, i6_even_14, i6_even_17, i6_even_20, i6_even_21, i6_even_22, i6_even_23, i6_even_24, i6_even_26, i6_even_27, i6_even_28, R.1.2.2.1, gN0 hg6, s6_in, pK_i, bi_0, h, n0, n20, if_true, if_false, not_true_eq_false, not_false_eq_true, true_or, or_true, and_false]; rfl
        · exact R
      · obtain ⟨m, hm, rfl⟩ : ∃ m, m < 21 ∧ n = nI m := inb_of ((inb_iff2 (n := 20) (m := 20) rfl (by decide)).mpr ⟨by
          rw [Int32.lt_iff_toInt_lt] at n0 ⊢
          have a : (1 : Int32).toInt = 1 := rfl
          have b : (0 : Int32).toInt = 0 := rfl
          omega, n20⟩) (by decide)
        have wC := s4_weirs (L := L) (xs := xs) (σ := σ) (τ := τ) (S := S) a_4 R.1.2.1 hg6
        simp only [Nat.reduceAdd, wr_eq R.1] at wC
        obtain ⟨σ1, ag1, p1⟩ := evC (L := L) (xs := xs) (τ := τ) (S := S) R.1 h (n := m) (by omega)
        have rT : ∀ v, qN g d (va_up σ1 0 (upd (σ1 0) 10 v)) := fun v => td_qN R.1 ag1
        have g1 := (rT (evw σ g m (2 ^ g)).2).2.2.1
        obtain ⟨σ2, ag2, p2⟩ := evR (L := L) (xs := xs) (τ := τ) (S := S) (rT (evw σ g m (2 ^ g)).2) (n := m) (by omega)
        have hw : evw (va_up σ1 0 (upd (σ1 0) 10 (evw σ g m (2 ^ g)).2)) g m = evw σ g m := by
          unfold evw spw
          rw [td_wat ag1, td_c ag1 (by unfold scr; omega) (by decide) (by decide)]
        rw [hw] at p2
        refine op_of (v := (evw σ g m (2 ^ g)).1) (σ1 := va_up σ1 0 (upd (σ1 0) 10 (evw σ g m (2 ^ g)).2)) (σ2 := va_up σ2 67 (upd (σ2 67) 11 (evw σ g m (2 ^ g)).2)) (τ1 := τ) (τ2 := τ) (g := g) (d := d) ?_ ?_ (Rel_fin R ag1 ag2)
        · simp only [Nat.reduceAdd, i5_even_0, i5_even_1, i5_even_4, i5_even_7, i5_even_10, i5_even_12, i5_even_13, i5_even_14, i5_even_15, i5_even_18, i5_even_19, i5_even_21, i5_even_24, i5_even_25, i5_even_26, i5_even_27, i5_even_30, i5_even_33, i5_even_36, i5_even_37, i5_even_38, i5_even_39, i5_even_41, i5_even_43, i5_even_44, s3_isThere R.1, wC, p1, k_3, k_4, pK_i, bi_0, h, n0, n20, if_true, if_false, not_true_eq_false, not_false_eq_true, true_or, or_true]
          simp only [i5_even_110, i5_even_111, i5_even_113, i5_even_116, i5_even_117, i5_even_118, s5_tell, pK_i]
        · simp only [Nat.reduceAdd, i6_even_0, i6_even_1, i6_even_4, i6_even_7, i6_even_9, i6_even_10, i6_even_11, i6_even_12, i6_even_14, i6_even_17, i6_even_20, i6_even_21, i6_even_22, i6_even_23, i6_even_24, i6_even_26, i6_even_27, i6_even_28, g1, gN0 hg6, s6_in, p2, pK_i, bi_0, h, n0, n20, if_true, if_false, not_true_eq_false, not_false_eq_true, true_or, or_true, and_self]
          simp only [i6_even_96, i6_even_97, i6_even_98, i6_even_101, i6_even_102]
  · apply op_of
    · simp only [Nat.reduceAdd, i5_even_0, i5_even_1, i5_even_4, i5_even_7, i5_even_10, i5_even_12, i5_even_13, i5_even_14, i5_even_15, i5_even_18, i5_even_19, i5_even_21, i5_even_24, i5_even_25, i5_even_26, i5_even_27, i5_even_30, i5_even_33, i5_even_36, i5_even_37, i5_even_38, i5_even_39, i5_even_41, i5_even_43, i5_even_44, s3_isThere R.1, k_3, k_4, pK_i, bi_0, h, if_true, if_false, not_true_eq_false, not_false_eq_true, true_or, or_true]; rfl
    · simp only [Nat.reduceAdd, i6_even_0, i6_even_1, i6_even_4, i6_even_7, i6_even_9, i6_even_10, i6_even_11, i6_even_12, i6_even_14, i6_even_17, i6_even_20, i6_even_21, i6_even_22, i6_even_23, i6_even_24, i6_even_26, i6_even_27, i6_even_28, R.1.2.2.1, gN0 hg6, h, if_true, if_false, not_true_eq_false, not_false_eq_true, true_or, or_true]; rfl
    · exact R
end DO
