/-! THE CALLS: stops -/
/-- how many turns until all is calm: k more may be tried, j passed, c calm -/
def stq (mv : Nat → Int32) : Nat → Nat → Int32 → Int32
  | 0, _, _ => -9
  | k + 1, j, c => if mv j = 0 then (if c + 1 = 6 then nI j - 5 else stq mv k (j + 1) (c + 1)) else stq mv k (j + 1) 0
theorem n06 : ((0 : Int32) = 6) = False := by decide
section DM
variable {L : Nat} {xs : Nat → Int32} {σ σj : Nat → Nat → Int32} {τ : Nat → Nat → Int64} {S g d m j : Nat} {K W f : Nat → Int32}
theorem stC (hg6 : g ≤ 6) (h : sok g K W f) : ∀ k j c (e : Nat → Nat → Int32), j + k = 46 → AS σ g K W f j e → ∃ σ', pX 70 31 [.ref 0, .int c, .int (nI (j + 1))] [] (mm L xs e τ) 85 S = some (some (.int (stq (mvq g K W f) k j c)), mm L xs σ' τ, 85, S) ∧ agr σ σ' := by
  intro k
  induction k with
  | zero =>
    intro j c e hj he
    have q : ((46 : Int32) < nI (j + 1)) = True := nlt (a := 46) (by omega) (by omega)
    exact ⟨e, by simp only [i5_stops_31, i5_stops_32, i5_stops_34, i5_stops_73, i5_stops_75, q, if_true, stq], he.1⟩
  | succ k ih =>
    intro j c e hj he
    obtain ⟨σ', p, q⟩ := AS_step (L := L) (xs := xs) (τ := τ) (S := S) hg6 h he
    have hlt : ((46 : Int32) < nI (j + 1)) = False := nnl (a := 46) (by omega) (by omega)
    have es : nI (j + 1) - 6 = nI j - 5 := by
      have key : ∀ j, j < 46 → nI (j + 1) - 6 = nI j - 5 := by decide
      exact key j (by omega)
    rw [i5_stops_31]
    by_cases hm : mvq g K W f j = 0
    · by_cases hc : c + 1 = 6
      · refine ⟨σ', ?_, q.1⟩
        rw [show stq (mvq g K W f) (k + 1) j c = nI j - 5 from by show (if mvq g K W f j = 0 then (if c + 1 = 6 then nI j - 5 else _) else _) = _; rw [if_pos hm, if_pos hc]]
        simp only [Nat.reduceAdd, i5_stops_32, i5_stops_34, i5_stops_37, i5_stops_38, i5_stops_41, i5_stops_42, i5_stops_45, i5_stops_48, i5_stops_49, i5_stops_50, i5_stops_51, i5_stops_54, i5_stops_55, i5_stops_56, i5_stops_57, i5_stops_59, i5_stops_62, i5_stops_63, i5_stops_65, i5_stops_66, i5_stops_67, i5_stops_70, i5_stops_73, i5_stops_75, k_12, hlt, p, hm, hc, es, pK_i, if_true, if_false, not_true_eq_false, not_false_eq_true, true_or, or_true]
      · obtain ⟨σ2, r1, r2⟩ := ih (j + 1) (c + 1) σ' (by omega) q
        refine ⟨σ2, ?_, r2⟩
        rw [show stq (mvq g K W f) (k + 1) j c = stq (mvq g K W f) k (j + 1) (c + 1) from by show (if mvq g K W f j = 0 then (if c + 1 = 6 then nI j - 5 else _) else _) = _; rw [if_pos hm, if_neg hc]]
        simp only [Nat.reduceAdd, i5_stops_32, i5_stops_34, i5_stops_37, i5_stops_38, i5_stops_41, i5_stops_42, i5_stops_45, i5_stops_48, i5_stops_49, i5_stops_50, i5_stops_51, i5_stops_54, i5_stops_55, i5_stops_56, i5_stops_57, i5_stops_59, i5_stops_62, i5_stops_63, i5_stops_65, i5_stops_66, i5_stops_67, i5_stops_70, i5_stops_73, i5_stops_75, k_12, hlt, p, hm, hc, pK_i, nI_1, if_true, if_false, not_true_eq_false, not_false_eq_true, true_or, or_true]
        exact r1
    · obtain ⟨σ2, r1, r2⟩ := ih (j + 1) 0 σ' (by omega) q
      refine ⟨σ2, ?_, r2⟩
      rw [show stq (mvq g K W f) (k + 1) j c = stq (mvq g K W f) k (j + 1) 0 from by show (if mvq g K W f j = 0 then _ else _) = _; rw [if_neg hm]]
      simp only [Nat.reduceAdd, i5_stops_32, i5_stops_34, i5_stops_37, i5_stops_38, i5_stops_41, i5_stops_42, i5_stops_45, i5_stops_48, i5_stops_49, i5_stops_50, i5_stops_51, i5_stops_54, i5_stops_55, i5_stops_56, i5_stops_57, i5_stops_59, i5_stops_62, i5_stops_63, i5_stops_65, i5_stops_66, i5_stops_67, i5_stops_70, i5_stops_73, i5_stops_75, k_12, hlt, p, hm, n06, pK_i, nI_1, if_true, if_false, not_true_eq_false, not_false_eq_true, true_or, or_true]
      exact r1
theorem stR (hg6 : g ≤ 6) (h : sok g K W f) (hg : σ 67 4 = nI g) (h72 : σ 72 = K) (h73 : σ 73 = W) : ∀ k j c (e : Nat → Nat → Int32), j + k = 46 → RS g K W f j (e 81) → (∀ c, c ≠ 81 → e c = σ c) → ∃ σ', pX 183 18 [.ref 67, .int c, .int (nI j)] [] (mm L xs e τ) 85 S = some (some (.int (stq (mvq g K W f) k j c)), mm L xs σ' τ, 85, S) ∧ ∀ c, c ≠ 81 → σ' c = σ c := by
  intro k
  induction k with
  | zero =>
    intro j c e hj he ha
    have q : (nI j < 46) = False := nnl (b := 46) (by omega) (by omega)
    exact ⟨e, by simp only [i6_stops_18, i6_stops_19, i6_stops_21, i6_stops_60, i6_stops_62, q, if_false, stq], ha⟩
  | succ k ih =>
    intro j c e hj he ha
    have e67 := ha 67 (by decide)
    have e72 : e 72 = K := (ha 72 (by decide)).trans h72
    have e73 : e 73 = W := (ha 73 (by decide)).trans h73
    obtain ⟨q1, q2⟩ := RS_step hg6 h he
    have t := s6_turnOn (L := L) (xs := xs) (σ := e) (τ := τ) (S := S) (show rst 81 from Or.inr rfl) (by rw [e67]; exact hg) hg6 (by rw [e72]; exact fun i hi => (h.1 i hi).1) (sk := 0)
    rw [e72, e73, q1] at t
    have ha' : ∀ c, c ≠ 81 → (va_up e 81 (tRs K W g 0 (e 81))) c = σ c := fun c hc => by rw [vn hc]; exact ha c hc
    have hR' : RS g K W f (j + 1) ((va_up e 81 (tRs K W g 0 (e 81))) 81) := by rw [vs]; exact q2
    have hlt : (nI j < 46) = True := nlt (b := 46) (by omega) (by omega)
    rw [i6_stops_18]
    by_cases hm : mvq g K W f j = 0
    · by_cases hc : c + 1 = 6
      · refine ⟨_, ?_, ha'⟩
        rw [show stq (mvq g K W f) (k + 1) j c = nI j - 5 from by show (if mvq g K W f j = 0 then (if c + 1 = 6 then nI j - 5 else _) else _) = _; rw [if_pos hm, if_pos hc]]
        simp only [Nat.reduceAdd, i6_stops_19, i6_stops_21, i6_stops_24, i6_stops_25, i6_stops_26, i6_stops_29, i6_stops_30, i6_stops_33, i6_stops_36, i6_stops_37, i6_stops_38, i6_stops_39, i6_stops_42, i6_stops_43, i6_stops_44, i6_stops_45, i6_stops_47, i6_stops_50, i6_stops_51, i6_stops_52, i6_stops_53, i6_stops_54, i6_stops_57, i6_stops_60, i6_stops_62, hlt, t, hm, hc, pK_i, if_true, if_false, not_true_eq_false, not_false_eq_true, true_or, or_true]
      · obtain ⟨σ2, r1, r2⟩ := ih (j + 1) (c + 1) _ (by omega) hR' ha'
        refine ⟨σ2, ?_, r2⟩
        rw [show stq (mvq g K W f) (k + 1) j c = stq (mvq g K W f) k (j + 1) (c + 1) from by show (if mvq g K W f j = 0 then (if c + 1 = 6 then nI j - 5 else _) else _) = _; rw [if_pos hm, if_neg hc]]
        simp only [Nat.reduceAdd, i6_stops_19, i6_stops_21, i6_stops_24, i6_stops_25, i6_stops_26, i6_stops_29, i6_stops_30, i6_stops_33, i6_stops_36, i6_stops_37, i6_stops_38, i6_stops_39, i6_stops_42, i6_stops_43, i6_stops_44, i6_stops_45, i6_stops_47, i6_stops_50, i6_stops_51, i6_stops_52, i6_stops_53, i6_stops_54, i6_stops_57, i6_stops_60, i6_stops_62, hlt, t, hm, hc, pK_i, nI_1, if_true, if_false, not_true_eq_false, not_false_eq_true, true_or, or_true]
        exact r1
    · obtain ⟨σ2, r1, r2⟩ := ih (j + 1) 0 _ (by omega) hR' ha'
      refine ⟨σ2, ?_, r2⟩
      rw [show stq (mvq g K W f) (k + 1) j c = stq (mvq g K W f) k (j + 1) 0 from by show (if mvq g K W f j = 0 then _ else _) = _; rw [if_neg hm]]
      simp only [Nat.reduceAdd, i6_stops_19, i6_stops_21, i6_stops_24, i6_stops_25, i6_stops_26, i6_stops_29, i6_stops_30, i6_stops_33, i6_stops_36, i6_stops_37, i6_stops_38, i6_stops_39, i6_stops_42, i6_stops_43, i6_stops_44, i6_stops_45, i6_stops_47, i6_stops_50, i6_stops_51, i6_stops_52, i6_stops_53, i6_stops_54, i6_stops_57, i6_stops_60, i6_stops_62, hlt, t, hm, n06, pK_i, nI_1, if_true, if_false, not_true_eq_false, not_false_eq_true, true_or, or_true]
      exact r1
theorem op_stops : opI L xs S (fun M => pX 70 0 [.ref 0, .null, .null] [] M 85 S) (fun M => pX 183 0 [.ref 67, .null, .null] [] M 85 S) := by
  intro g d σ τ R
  have hg6 := R.1.1
  by_cases h : 0 < g
  · have so := sok_N R.1 (f := σ 74) (K := σ 72) (W := σ 73) (fun _ _ => rfl) (fun _ _ => ⟨rfl, rfl⟩)
    have A0 := AS_0 R.1 (f := σ 74) (K := σ 72) (W := σ 73) (fun _ _ => rfl) rfl rfl (fun _ _ => ⟨rfl, rfl⟩)
    obtain ⟨σ1, p1, ag1⟩ := stC (L := L) (xs := xs) (τ := τ) (S := S) hg6 so 46 0 0 _ (by decide) A0
    rw [show nI (0 + 1) = 1 from rfl] at p1
    have c1 : ∀ c, ¬ scr c → c ≠ 67 → σ1 c = σ c := ag1.1
    have f9 : ∀ b, b < 9 → (va_up σ1 81 (va_cpy (σ1 74) (σ1 81) 0 0 9)) 81 b = σ 74 b := fun b hb => by rw [vs, cpy_at _ _ hb, c1 74 (by unfold scr; omega) (by decide)]
    have hg1 : σ1 67 4 = nI g := ag1.2.1.trans R.1.2.2.1
    obtain ⟨σ2, p2, a2⟩ := stR (L := L) (xs := xs) (τ := τ) (S := S) (σ := σ1) hg6 so hg1 (c1 72 (by unfold scr; omega) (by decide)) (c1 73 (by unfold scr; omega) (by decide)) 46 0 0 (va_up σ1 81 (va_cpy (σ1 74) (σ1 81) 0 0 9)) (by decide) (RS_0 f9 hg6) (fun c hc => vn hc)
    rw [nI_0] at p2
    refine op_of (v := stq (mvq g (σ 72) (σ 73) (σ 74)) 46 0 0) (σ1 := σ1) (σ2 := σ2) (τ1 := τ) (τ2 := τ) (g := g) (d := d) ?_ ?_ ?_
    · simp only [Nat.reduceAdd, i5_stops_0, i5_stops_1, i5_stops_4, i5_stops_7, i5_stops_10, i5_stops_12, i5_stops_13, i5_stops_14, i5_stops_17, i5_stops_18, i5_stops_21, i5_stops_24, i5_stops_27, i5_stops_28, i5_stops_29, i5_stops_30, s3_isThere R.1, s4_takeFrom a_12 a_4 (by decide), p1, k_3, k_4, k_12, pK_i, pK_v, bi_0, h, if_true, if_false, not_true_eq_false, not_false_eq_true, true_or, or_true]
    · simp only [Nat.reduceAdd, i6_stops_0, i6_stops_1, i6_stops_4, i6_stops_7, i6_stops_9, i6_stops_10, i6_stops_11, i6_stops_12, i6_stops_13, i6_stops_16, i6_stops_17, hg1, gN0 hg6, s6_asItIs, p2, pK_v, h, if_true, if_false, not_true_eq_false, not_false_eq_true, true_or, or_true]
    · refine Rel_agr (agr_t ag1 ⟨fun c hc h' => a2 c (by rintro rfl; exact hc (by unfold scr; omega)), ?_, ?_, ?_, ?_⟩) R <;> rw [a2 67 (by decide)]
  · apply op_of
    · simp only [Nat.reduceAdd, i5_stops_0, i5_stops_1, i5_stops_4, i5_stops_7, i5_stops_10, i5_stops_12, i5_stops_13, i5_stops_14, i5_stops_17, i5_stops_18, i5_stops_21, i5_stops_24, i5_stops_27, i5_stops_28, i5_stops_29, i5_stops_30, s3_isThere R.1, k_3, k_4, pK_i, bi_0, h, if_true, if_false, not_true_eq_false, not_false_eq_true, true_or, or_true]; rfl
    · simp only [Nat.reduceAdd, i6_stops_0, i6_stops_1, i6_stops_4, i6_stops_7, i6_stops_9, i6_stops_10, i6_stops_11, i6_stops_12, i6_stops_13, i6_stops_16, i6_stops_17, R.1.2.2.1, gN0 hg6, h, if_true, if_false, not_true_eq_false, not_false_eq_true, true_or, or_true]; rfl
    · exact R
end DM
