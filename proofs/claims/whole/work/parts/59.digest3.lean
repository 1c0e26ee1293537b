/-! THE CALLS: digest, the plain form's -/
section DS
variable {L : Nat} {xs : Nat → Int32} {σ : Nat → Nat → Int32} {τ : Nat → Nat → Int64} {S g d m : Nat}
theorem dgR (R : Rel g d σ τ) {cv : Nat → Int32} (hc : ∀ k, k < 11 → pX 218 0 [.ref 67, .int (nI k)] [] (mm L xs σ τ) 85 S = some (some (.int (cv k)), mm L xs σ τ, 85, S)) : pX 223 0 [.ref 67, .null, .null, .null, .null] [] (mm L xs σ τ) 85 S = some (some (.long (dgv σ g cv)), mm L xs σ τ, 85, S) := by
  have hg6 := R.1.1
  have hgR := R.1.2.2.1
  have kd := qN_kd R.1
  unfold dgv
  generalize hD : dg (dg 17 cv 0 11) (σ 74) 0 (bs g) = D
  generalize hB : dg (dgg (gfn σ) D g) (fun k => σ 76 (370 * k)) 0 3 = B
  have key6 := lp (δ := Value) 4 (fun j e => pX 223 182 [.ref 67, .long (drw (σ 70) (σ 71) 60 (drw (σ 68) (σ 69) 40 B 6) j), .null, .int (nI j), e] [] (mm L xs σ τ) 85 S) (some (some (.long (drw (σ 70) (σ 71) 60 (drw (σ 68) (σ 69) 40 B 6) 4)), mm L xs σ τ, 85, S)) (fun _ => by
    rw [show nI 4 = 4 from rfl]
    simp only [Nat.reduceAdd, i6_digest_182, i6_digest_183, i6_digest_184, i6_digest_212, i6_digest_213, Int32.lt_irrefl, if_false]) (fun j hj e => ⟨e, by
    rw [i6_digest_182]
    have a : (nI j < 4) = True := nlt (b := 4) hj (by decide)
    obtain ⟨m1, m2, m3⟩ := dg_szT R.2.2.2.2.1 hj
    have e60 : (60 : Int32) * nI j = nI (60 * j) := pk_mul 60 j
    have t := s6_digested (L := L) (xs := xs) (σ := σ) (τ := τ) (S := S) (h := drw (σ 70) (σ 71) 60 (drw (σ 68) (σ 69) 40 B 6) j) (a := 71) (p := 60 * j) k_71 (by rw [l_71]; omega) (by rw [l_71]; decide) m2 m3
    simp only [Nat.reduceAdd, i6_digest_183, i6_digest_184, i6_digest_187, i6_digest_188, i6_digest_189, i6_digest_192, i6_digest_194, i6_digest_195, i6_digest_196, i6_digest_197, i6_digest_200, i6_digest_201, i6_digest_202, i6_digest_205, i6_digest_206, i6_digest_209, a, e60, k_70, l_70, ifb_i hj (by decide), cl (show j ≤ 5000 by omega), t, pK_l, nI_1, if_true, if_false, not_true_eq_false, not_false_eq_true, true_or, or_true]
    rfl⟩)
  have key5 := lp (δ := Value) 6 (fun j e => pX 223 149 [.ref 67, .long (drw (σ 68) (σ 69) 40 B j), .null, .int (nI j), e] [] (mm L xs σ τ) 85 S) (some (some (.long (drw (σ 70) (σ 71) 60 (drw (σ 68) (σ 69) 40 B 6) 4)), mm L xs σ τ, 85, S)) (fun e => by
    rw [show nI 6 = 6 from rfl]
    have k := key6 e
    rw [nI_0] at k
    simp only [Nat.reduceAdd, i6_digest_149, i6_digest_150, i6_digest_152, i6_digest_180, i6_digest_181, Int32.lt_irrefl, if_false]
    exact k) (fun j hj e => ⟨e, by
    rw [i6_digest_149]
    have a : (nI j < 6) = True := nlt (b := 6) hj (by decide)
    obtain ⟨m1, m2, m3⟩ := dg_szR R.2.2.2.1 hj
    have e40 : (40 : Int32) * nI j = nI (40 * j) := pk_mul 40 j
    have t := s6_digested (L := L) (xs := xs) (σ := σ) (τ := τ) (S := S) (h := drw (σ 68) (σ 69) 40 B j) (a := 69) (p := 40 * j) k_69 (by rw [l_69]; omega) (by rw [l_69]; decide) m2 m3
    simp only [Nat.reduceAdd, i6_digest_150, i6_digest_152, i6_digest_155, i6_digest_156, i6_digest_157, i6_digest_160, i6_digest_162, i6_digest_163, i6_digest_164, i6_digest_165, i6_digest_168, i6_digest_169, i6_digest_170, i6_digest_173, i6_digest_174, i6_digest_177, a, e40, k_68, l_68, ifb_i hj (by decide), cl (show j ≤ 5000 by omega), t, pK_l, nI_1, if_true, if_false, not_true_eq_false, not_false_eq_true, true_or, or_true]
    rfl⟩)
  have key4 := lp (δ := Value) 3 (fun j e => pX 223 118 [.ref 67, .long (dg (dgg (gfn σ) D g) (fun k => σ 76 (370 * k)) 0 j), .null, .int (nI j), e] [] (mm L xs σ τ) 85 S) (some (some (.long (drw (σ 70) (σ 71) 60 (drw (σ 68) (σ 69) 40 B 6) 4)), mm L xs σ τ, 85, S)) (fun e => by
    rw [show nI 3 = 3 from rfl, hB]
    have k := key5 e
    rw [nI_0] at k
    simp only [Nat.reduceAdd, i6_digest_118, i6_digest_119, i6_digest_120, i6_digest_147, i6_digest_148, Int32.lt_irrefl, if_false]
    exact k) (fun j hj e => ⟨e, by
    rw [i6_digest_118]
    have a : (nI j < 3) = True := nlt (b := 3) hj (by decide)
    have e370 : (370 : Int32) * nI j = nI (370 * j) := pk_mul 370 j
    have e0 : dg (dgg (gfn σ) D g) (fun k => σ 76 (370 * k)) 0 (j + 1) = 31 * dg (dgg (gfn σ) D g) (fun k => σ 76 (370 * k)) 0 j + (σ 76 (370 * (0 + j))).toInt64 := rfl
    rw [e0, Nat.zero_add]
    simp only [Nat.reduceAdd, i6_digest_119, i6_digest_120, i6_digest_123, i6_digest_126, i6_digest_127, i6_digest_128, i6_digest_129, i6_digest_132, i6_digest_135, i6_digest_136, i6_digest_137, i6_digest_138, i6_digest_139, i6_digest_140, i6_digest_141, i6_digest_144, a, e370, k_76, l_76, ifb_i (show 370 * j < 1110 by omega) (by decide), cl (show 370 * j ≤ 5000 by omega), nI_1, if_true, if_false, not_true_eq_false, not_false_eq_true, true_or, or_true]⟩)
  have key3 := lp (δ := Value) g (fun j e => pX 223 72 [.ref 67, .long (dgg (gfn σ) D j), .null, .int (nI j), e] [] (mm L xs σ τ) 85 S) (some (some (.long (drw (σ 70) (σ 71) 60 (drw (σ 68) (σ 69) 40 B 6) 4)), mm L xs σ τ, 85, S)) (fun e => by
    have k := key4 e
    rw [show dg (dgg (gfn σ) D g) (fun k => σ 76 (370 * k)) 0 0 = dgg (gfn σ) D g from rfl, nI_0] at k
    simp only [Nat.reduceAdd, i6_digest_72, i6_digest_73, i6_digest_74, i6_digest_77, i6_digest_116, i6_digest_117, hgR, Int32.lt_irrefl, if_false]
    exact k) (fun j hj e => ⟨.int 4, by
    have inner := lp (δ := Unit) 4 (fun w _ => pX 223 83 [.ref 67, .long (dg (dgg (gfn σ) D j) (gfn σ j) 0 w), .null, .int (nI j), .int (nI w)] [] (mm L xs σ τ) 85 S) (pX 223 72 [.ref 67, .long (dgg (gfn σ) D (j + 1)), .null, .int (nI (j + 1)), .int 4] [] (mm L xs σ τ) 85 S) (fun _ => by
      rw [show nI 4 = 4 from rfl, show dgg (gfn σ) D (j + 1) = dg (dgg (gfn σ) D j) (gfn σ j) 0 4 from rfl]
      simp only [Nat.reduceAdd, i6_digest_83, i6_digest_85, i6_digest_86, i6_digest_110, i6_digest_113, Int32.lt_irrefl, if_false, nI_1]) (fun w hw _ => ⟨(), by
      rw [i6_digest_83]
      have a : (nI w < 4) = True := nlt (b := 4) hw (by decide)
      have e0 : dg (dgg (gfn σ) D j) (gfn σ j) 0 (w + 1) = 31 * dg (dgg (gfn σ) D j) (gfn σ j) 0 w + (gfn σ j (0 + w)).toInt64 := rfl
      rw [e0, Nat.zero_add]
      unfold gfn
      simp only [Nat.reduceAdd, i6_digest_85, i6_digest_86, i6_digest_89, i6_digest_92, i6_digest_93, i6_digest_94, i6_digest_95, i6_digest_96, i6_digest_98, i6_digest_101, i6_digest_102, i6_digest_103, i6_digest_104, i6_digest_107, a, if_true, s6_ofGate (show j < 6 by omega) (kd j hj), pK_i, nI_1]⟩)
    have k := inner ()
    rw [show dg (dgg (gfn σ) D j) (gfn σ j) 0 0 = dgg (gfn σ) D j from rfl, nI_0] at k
    rw [i6_digest_72]
    simp only [Nat.reduceAdd, i6_digest_73, i6_digest_74, i6_digest_77, i6_digest_80, i6_digest_81, hgR, nlt hj (by omega), if_true]
    exact k⟩)
  have bs7 : bs g ≤ g + 1 := by unfold bs; split <;> omega
  have key2 := lp (δ := Unit) (bs g) (fun j _ => pX 223 33 [.ref 67, .long (dg (dg 17 cv 0 11) (σ 74) 0 j), .null, .int (nI j), .null] [] (mm L xs σ τ) 85 S) (some (some (.long (drw (σ 70) (σ 71) 60 (drw (σ 68) (σ 69) 40 B 6) 4)), mm L xs σ τ, 85, S)) (fun _ => by
    have k := key3 .null
    rw [show dgg (gfn σ) D 0 = D from rfl, nI_0] at k
    rw [hD]
    by_cases h0 : g = 0
    · have hb : bs g = 0 := if_pos h0
      have hz : σ 67 4 = 0 := by rw [hgR, h0]; rfl
      rw [hb, nI_0]
      simp only [Nat.reduceAdd, i6_digest_33, i6_digest_34, i6_digest_35, i6_digest_38, i6_digest_41, i6_digest_42, i6_digest_45, i6_digest_70, i6_digest_71, hz, Int32.lt_irrefl, Int32.le_refl, if_true, if_false, not_true_eq_false, not_false_eq_true, true_or, or_true]
      exact k
    · have hb : bs g = g + 1 := if_neg h0
      rw [hb]
      simp only [Nat.reduceAdd, i6_digest_33, i6_digest_34, i6_digest_35, i6_digest_38, i6_digest_70, i6_digest_71, hgR, nlt (Nat.lt_succ_self g) (by omega), if_true, if_false, not_true_eq_false, not_false_eq_true, true_or, or_true]
      exact k) (fun j hj _ => ⟨(), by
    have h0 : g ≠ 0 := fun e => by rw [show bs g = 0 from if_pos e] at hj; omega
    have hp : ¬ nI g ≤ 0 := nI_nle (by omega) (by omega)
    have hp2 : (0 : Int32) < nI g := nI_lt (a := 0) (by omega) (by omega)
    rw [i6_digest_33]
    simp only [Nat.reduceAdd, i6_digest_34, i6_digest_35, i6_digest_38, i6_digest_41, i6_digest_42, i6_digest_45, i6_digest_48, i6_digest_51, i6_digest_52, i6_digest_53, i6_digest_54, i6_digest_57, i6_digest_58, i6_digest_59, i6_digest_60, i6_digest_61, i6_digest_62, i6_digest_63, i6_digest_64, i6_digest_67, k_74, l_74, hgR, nnl (show j ≤ g by omega) (by omega), hp, hp2, if_true, if_false, not_true_eq_false, not_false_eq_true, true_or, or_true, Int32.zero_add, ifb_i (show j < 9 by omega) (by decide), cl (show j ≤ 5000 by omega), dg, Nat.zero_add, nI_1]⟩)
  have key1 := lp (δ := Unit) 11 (fun j _ => pX 223 6 [.ref 67, .long (dg 17 cv 0 j), .null, .int (nI j), .null] [] (mm L xs σ τ) 85 S) (some (some (.long (drw (σ 70) (σ 71) 60 (drw (σ 68) (σ 69) 40 B 6) 4)), mm L xs σ τ, 85, S)) (fun _ => by
    have k := key2 ()
    rw [show dg (dg 17 cv 0 11) (σ 74) 0 0 = dg 17 cv 0 11 from rfl, nI_0] at k
    rw [show nI 11 = 11 from rfl]
    simp only [Nat.reduceAdd, i6_digest_6, i6_digest_7, i6_digest_9, i6_digest_31, i6_digest_32, Int32.lt_irrefl, if_false]
    exact k) (fun j hj _ => ⟨(), by
    rw [i6_digest_6]
    have a : (nI j < 11) = True := nlt (b := 11) hj (by decide)
    have e0 : dg 17 cv 0 (j + 1) = 31 * dg 17 cv 0 j + (cv (0 + j)).toInt64 := rfl
    rw [e0, Nat.zero_add]
    simp only [Nat.reduceAdd, i6_digest_7, i6_digest_9, i6_digest_12, i6_digest_15, i6_digest_16, i6_digest_17, i6_digest_18, i6_digest_19, i6_digest_22, i6_digest_23, i6_digest_24, i6_digest_25, i6_digest_28, a, hc j hj, pK_i, nI_1, if_true, if_false, not_true_eq_false, not_false_eq_true, true_or, or_true]⟩)
  have k := key1 ()
  rw [show dg 17 cv 0 0 = 17 from rfl, nI_0] at k
  simp only [i6_digest_0, i6_digest_3, i6_digest_4, i6_digest_5]
  exact k
theorem op_digest : opL L xs S (fun M => pX 90 0 [.ref 0, .null, .null, .null] [] M 85 S) (fun M => pX 223 0 [.ref 67, .null, .null, .null, .null] [] M 85 S) := by
  intro g d σ τ R
  have hc : ∀ k, ∃ v, k < 11 → pX 87 0 [.ref 0, .int (nI k)] [] (mm L xs σ τ) 85 S = some (some (.int v), mm L xs σ τ, 85, S) ∧ pX 218 0 [.ref 67, .int (nI k)] [] (mm L xs σ τ) 85 S = some (some (.int v), mm L xs σ τ, 85, S) := fun k => by
    by_cases h : k < 11
    · obtain ⟨v, p, q⟩ := cnt (L := L) (xs := xs) (S := S) R h
      exact ⟨v, fun _ => ⟨p, q⟩⟩
    · exact ⟨0, fun q => absurd q h⟩
  obtain ⟨cv, hcv⟩ := Classical.axiomOfChoice hc
  exact ⟨dgv σ g cv, σ, τ, σ, τ, g, d, dgC R (fun k hk => (hcv k hk).1), dgR R (fun k hk => (hcv k hk).2), R⟩
end DS
