/-! THE CALLS: digest, whole -/
section DR
variable {L : Nat} {xs : Nat → Int32} {σ : Nat → Nat → Int32} {τ : Nat → Nat → Int64} {S g d m : Nat}
noncomputable def dgv (σ : Nat → Nat → Int32) (g : Nat) (cv : Nat → Int32) : Int64 := drw (σ 70) (σ 71) 60 (drw (σ 68) (σ 69) 40 (dg (dgg (gfn σ) (dg (dg 17 cv 0 11) (σ 74) 0 (bs g)) g) (fun k => σ 76 (370 * k)) 0 3) 6) 4
theorem dgC (R : Rel g d σ τ) {cv : Nat → Int32} (hc : ∀ k, k < 11 → pX 87 0 [.ref 0, .int (nI k)] [] (mm L xs σ τ) 85 S = some (some (.int (cv k)), mm L xs σ τ, 85, S)) : pX 90 0 [.ref 0, .null, .null, .null] [] (mm L xs σ τ) 85 S = some (some (.long (dgv σ g cv)), mm L xs σ τ, 85, S) := by
  have hg6 := R.1.1
  generalize hB : dgg (gfn σ) (dg (dg 17 cv 0 11) (σ 74) 0 (bs g)) g = B
  have key2 := lp (δ := Unit) 3 (fun j _ => pX 90 39 [.ref 0, .long (dg B (fun k => σ 76 (370 * k)) 0 j), .null, .int (nI j)] [] (mm L xs σ τ) 85 S) (some (some (.long (dgv σ g cv)), mm L xs σ τ, 85, S)) (fun _ => by
    rw [show nI 3 = 3 from rfl]
    unfold dgv
    rw [hB]
    simp only [Nat.reduceAdd, i5_digest_39, i5_digest_40, i5_digest_41, i5_digest_83, i5_digest_84, i5_digest_85, i5_digest_88, i5_digest_91, i5_digest_92, i5_digest_95, i5_digest_98, s5_digestR R.2.2.2.1, s5_digestT R.2.2.2.2.1, pK_l, Int32.lt_irrefl, if_false]) (fun j hj _ => ⟨(), by
    rw [i5_digest_39]
    have a : (nI j < 3) = True := nlt (b := 3) hj (by decide)
    have e0 : dg B (fun k => σ 76 (370 * k)) 0 (j + 1) = 31 * dg B (fun k => σ 76 (370 * k)) 0 j + (σ 76 (370 * (0 + j))).toInt64 := rfl
    rw [e0, Nat.zero_add]
    rcases R.2.2.1 j hj with ⟨u1, u2⟩ | ⟨h, u1, u2, e, he, u3, u4, u5, u6⟩
    · have t := s0_isThere (L := L) (xs := xs) (σ := σ) (τ := τ) (S := S) (g := 0) (bd_k (bd_of hj)) (bd_s (bd_of hj)) (by rw [u1]; rfl) (by decide)
      simp only [Nat.reduceAdd, i5_digest_40, i5_digest_41, i5_digest_44, i5_digest_47, i5_digest_48, i5_digest_49, i5_digest_50, i5_digest_53, i5_digest_54_r1, i5_digest_54_r2, i5_digest_54_r11, i5_digest_55, i5_digest_58, i5_digest_61, i5_digest_62, i5_digest_65, i5_digest_66_r1, i5_digest_66_r2, i5_digest_66_r11, i5_digest_67, i5_digest_70, i5_digest_73, i5_digest_74, i5_digest_75, i5_digest_76, i5_digest_77, i5_digest_80, a, t, bd_k (bd_of hj), ifb_i hj (by decide), cl (show j ≤ 5000 by omega), pK_i, bi_0, Nat.lt_irrefl, u2, nI_1, if_true, if_false, not_true_eq_false, not_false_eq_true, true_or, or_true]
    · have t := s0_isThere (L := L) (xs := xs) (σ := σ) (τ := τ) (S := S) (g := g) (bd_k (bd_of hj)) (bd_s (bd_of hj)) u1 hg6
      simp only [Nat.reduceAdd, i5_digest_40, i5_digest_41, i5_digest_44, i5_digest_47, i5_digest_48, i5_digest_49, i5_digest_50, i5_digest_53, i5_digest_54_r1, i5_digest_54_r2, i5_digest_54_r11, i5_digest_55, i5_digest_58, i5_digest_61, i5_digest_62, i5_digest_65, i5_digest_66_r1, i5_digest_66_r2, i5_digest_66_r11, i5_digest_67, i5_digest_70, i5_digest_73, i5_digest_74, i5_digest_75, i5_digest_76, i5_digest_77, i5_digest_80, a, t, bd_k (bd_of hj), ifb_i hj (by decide), cl (show j ≤ 5000 by omega), pK_i, bi_0, h, u3, u4, nI_1, if_true, if_false, not_true_eq_false, not_false_eq_true, true_or, or_true]⟩)
  have key1 := lp (δ := Unit) 11 (fun j _ => pX 90 6 [.ref 0, .long (dg 17 cv 0 j), .null, .int (nI j)] [] (mm L xs σ τ) 85 S) (some (some (.long (dgv σ g cv)), mm L xs σ τ, 85, S)) (fun _ => by
    have k := key2 ()
    simp only [dg, nI_0] at k
    rw [show nI 11 = 11 from rfl]
    simp only [Nat.reduceAdd, i5_digest_6, i5_digest_7, i5_digest_9, i5_digest_31, i5_digest_32, i5_digest_33, i5_digest_36, i5_digest_37, i5_digest_38, s5_digestBridge R.1, pK_l, Int32.lt_irrefl, if_false, hB]
    exact k) (fun j hj _ => ⟨(), by
    rw [i5_digest_6]
    have a : (nI j < 11) = True := nlt (b := 11) hj (by decide)
    have e0 : dg 17 cv 0 (j + 1) = 31 * dg 17 cv 0 j + (cv (0 + j)).toInt64 := rfl
    rw [e0, Nat.zero_add]
    simp only [Nat.reduceAdd, i5_digest_7, i5_digest_9, i5_digest_12, i5_digest_15, i5_digest_16, i5_digest_17, i5_digest_18, i5_digest_19, i5_digest_22, i5_digest_23, i5_digest_24, i5_digest_25, i5_digest_28, a, hc j hj, pK_i, nI_1, if_true, if_false, not_true_eq_false, not_false_eq_true, true_or, or_true]⟩)
  have k := key1 ()
  rw [show dg 17 cv 0 0 = 17 from rfl, nI_0] at k
  simp only [i5_digest_0, i5_digest_3, i5_digest_4, i5_digest_5]
  exact k
end DR
