/-! THE DIGEST: rows and texts -/
def szn (x : Int32) : Nat := x.toNatClampNeg
def drw (z f : Nat → Int32) (ln : Nat) (h : Int64) : Nat → Int64
  | 0 => h
  | i + 1 => dg (31 * drw z f ln h i + (z i).toInt64) f (ln * i) (szn (z i))
theorem szn_ok {N : Nat} {x : Int32} (h : sz N x) (hN : N ≤ 5000) : szn x ≤ N ∧ (∀ i, i < szn x → (nI i < x) = True) ∧ (nI (szn x) < x) = False := by
  unfold szn
  rcases h with rfl | ⟨m, hm, rfl⟩
  · have z : (-1 : Int32).toNatClampNeg = 0 := by decide
    rw [z]
    exact ⟨Nat.zero_le _, fun i hi => absurd hi (by omega), by decide⟩
  · rw [cl (show m ≤ 5000 by omega)]
    exact ⟨hm, fun i hi => nlt hi (by omega), nnl (Nat.le_refl m) (by omega)⟩
section DP
variable {L : Nat} {xs : Nat → Int32} {σ : Nat → Nat → Int32} {τ : Nat → Nat → Int64} {S g d m : Nat}
theorem dg_szR (h : qR σ) {k : Nat} (hk : k < 6) : szn (σ 68 k) ≤ 40 ∧ (∀ i, i < szn (σ 68 k) → (nI i < σ 68 k) = True) ∧ (nI (szn (σ 68 k)) < σ 68 k) = False := szn_ok (h k hk).2.1 (by decide)
theorem s5_digestR (h : qR σ) {h0 : Int64} : pX 128 0 [.long h0, .null, .ref 1, .null, .null, .null, .null, .null, .null, .null] [] (mm L xs σ τ) 85 S = some (some (.long (drw (σ 68) (σ 69) 40 h0 6)), mm L xs σ τ, 85, S) := by
  have key := lp (δ := Value × Value) 6 (fun j d => pX 128 13 [.long h0, .null, .ref 1, .long (drw (σ 68) (σ 69) 40 h0 j), .null, .ref 1, .int 6, .int (nI j), d.1, d.2] [] (mm L xs σ τ) 85 S) (some (some (.long (drw (σ 68) (σ 69) 40 h0 6)), mm L xs σ τ, 85, S)) (fun d => by
    rw [show nI 6 = 6 from rfl]
    simp only [Nat.reduceAdd, i5_digestRows_13, i5_digestRows_15, i5_digestRows_17, i5_digestRows_81, i5_digestRows_82, Int32.lt_irrefl, if_false]) (fun j hj d => by
    obtain ⟨m1, m2, m3⟩ := dg_szR h hj
    obtain ⟨e1, _, e3⟩ := h j hj
    generalize hm : szn (σ 68 j) = m at m1 m2 m3
    have hd : drw (σ 68) (σ 69) 40 h0 (j + 1) = dg (31 * drw (σ 68) (σ 69) 40 h0 j + (σ 68 j).toInt64) (σ (23 + 2 * j + 1)) 0 m := by
      show dg (31 * drw (σ 68) (σ 69) 40 h0 j + (σ 68 j).toInt64) (σ 69) (40 * j) (szn (σ 68 j)) = _
      rw [hm]
      exact dg_c (fun i hi => by rw [Nat.zero_add]; exact (e3 i (by omega)).symm)
    rw [hd]
    have inner := lp (δ := Unit) m (fun i _ => pX 128 43 [.long h0, .null, .ref 1, .long (dg (31 * drw (σ 68) (σ 69) 40 h0 j + (σ 68 j).toInt64) (σ (23 + 2 * j + 1)) 0 i), .null, .ref 1, .int 6, .int (nI j), .ref (23 + 2 * j), .int (nI i)] [] (mm L xs σ τ) 85 S) (pX 128 13 [.long h0, .null, .ref 1, .long (dg (31 * drw (σ 68) (σ 69) 40 h0 j + (σ 68 j).toInt64) (σ (23 + 2 * j + 1)) 0 m), .null, .ref 1, .int 6, .int (nI (j + 1)), .ref (23 + 2 * j), .int (nI m)] [] (mm L xs σ τ) 85 S) (fun _ => by
      simp only [i5_digestRows_43, i5_digestRows_45, i5_digestRows_47, i5_digestRows_50, i5_digestRows_75, i5_digestRows_78, ro_k hj, e1, m3, if_false, nI_1]) (fun i hi _ => ⟨(), by
      rw [i5_digestRows_43]
      simp only [i5_digestRows_45, i5_digestRows_47, i5_digestRows_50, i5_digestRows_53, i5_digestRows_56, i5_digestRows_57, i5_digestRows_58, i5_digestRows_60, i5_digestRows_63, i5_digestRows_65, i5_digestRows_66, i5_digestRows_67, i5_digestRows_68, i5_digestRows_69, i5_digestRows_72, ro_k hj, ro_p hj, ro_l hj, e1, m2 i hi, if_true, ifb_i (show i < 40 by omega) (by decide), cl (show i ≤ 5000 by omega), dg, Nat.zero_add, nI_1]⟩)
    have k := inner ()
    simp only [dg, nI_0] at k
    refine ⟨(.ref (23 + 2 * j), .int (nI m)), ?_⟩
    rw [i5_digestRows_13]
    have a : (nI j < 6) = True := nlt (b := 6) hj (by decide)
    simp only [i5_digestRows_15, i5_digestRows_17, i5_digestRows_20, i5_digestRows_22, i5_digestRows_24_r1, i5_digestRows_24_r2, i5_digestRows_24_r11, i5_digestRows_25, i5_digestRows_27, i5_digestRows_30, i5_digestRows_31, i5_digestRows_32, i5_digestRows_34, i5_digestRows_37, i5_digestRows_38, i5_digestRows_39, i5_digestRows_40, i5_digestRows_41, ro_k hj, e1, a, if_true, ifb_i hj (by decide), cl (show j ≤ 5000 by omega)]
    exact k)
  have k := key (.null, .null)
  simp only [drw, nI_0] at k
  simp only [i5_digestRows_0, i5_digestRows_1, i5_digestRows_2, i5_digestRows_3, i5_digestRows_5, i5_digestRows_7, i5_digestRows_7_r1, i5_digestRows_7_r2, i5_digestRows_7_r11, i5_digestRows_7_r1000, i5_digestRows_8, i5_digestRows_10, i5_digestRows_11]
  exact k
theorem dg_szT (h : qT σ) {k : Nat} (hk : k < 4) : szn (σ 70 k) ≤ 60 ∧ (∀ i, i < szn (σ 70 k) → (nI i < σ 70 k) = True) ∧ (nI (szn (σ 70 k)) < σ 70 k) = False := szn_ok (h k hk).2.1 (by decide)
theorem s5_digestT (h : qT σ) {h0 : Int64} : pX 128 0 [.long h0, .null, .ref 2, .null, .null, .null, .null, .null, .null, .null] [] (mm L xs σ τ) 85 S = some (some (.long (drw (σ 70) (σ 71) 60 h0 4)), mm L xs σ τ, 85, S) := by
  have key := lp (δ := Value × Value) 4 (fun j d => pX 128 13 [.long h0, .null, .ref 2, .long (drw (σ 70) (σ 71) 60 h0 j), .null, .ref 2, .int 4, .int (nI j), d.1, d.2] [] (mm L xs σ τ) 85 S) (some (some (.long (drw (σ 70) (σ 71) 60 h0 4)), mm L xs σ τ, 85, S)) (fun d => by
    rw [show nI 4 = 4 from rfl]
    simp only [Nat.reduceAdd, i5_digestRows_13, i5_digestRows_15, i5_digestRows_17, i5_digestRows_81, i5_digestRows_82, Int32.lt_irrefl, if_false]) (fun j hj d => by
    obtain ⟨m1, m2, m3⟩ := dg_szT h hj
    obtain ⟨e1, _, e3⟩ := h j hj
    generalize hm : szn (σ 70 j) = m at m1 m2 m3
    have hd : drw (σ 70) (σ 71) 60 h0 (j + 1) = dg (31 * drw (σ 70) (σ 71) 60 h0 j + (σ 70 j).toInt64) (σ (35 + 2 * j + 1)) 0 m := by
      show dg (31 * drw (σ 70) (σ 71) 60 h0 j + (σ 70 j).toInt64) (σ 71) (60 * j) (szn (σ 70 j)) = _
      rw [hm]
      exact dg_c (fun i hi => by rw [Nat.zero_add]; exact (e3 i (by omega)).symm)
    rw [hd]
    have inner := lp (δ := Unit) m (fun i _ => pX 128 43 [.long h0, .null, .ref 2, .long (dg (31 * drw (σ 70) (σ 71) 60 h0 j + (σ 70 j).toInt64) (σ (35 + 2 * j + 1)) 0 i), .null, .ref 2, .int 4, .int (nI j), .ref (35 + 2 * j), .int (nI i)] [] (mm L xs σ τ) 85 S) (pX 128 13 [.long h0, .null, .ref 2, .long (dg (31 * drw (σ 70) (σ 71) 60 h0 j + (σ 70 j).toInt64) (σ (35 + 2 * j + 1)) 0 m), .null, .ref 2, .int 4, .int (nI (j + 1)), .ref (35 + 2 * j), .int (nI m)] [] (mm L xs σ τ) 85 S) (fun _ => by
      simp only [i5_digestRows_43, i5_digestRows_45, i5_digestRows_47, i5_digestRows_50, i5_digestRows_75, i5_digestRows_78, te_k hj, e1, m3, if_false, nI_1]) (fun i hi _ => ⟨(), by
      rw [i5_digestRows_43]
      simp only [i5_digestRows_45, i5_digestRows_47, i5_digestRows_50, i5_digestRows_53, i5_digestRows_56, i5_digestRows_57, i5_digestRows_58, i5_digestRows_60, i5_digestRows_63, i5_digestRows_65, i5_digestRows_66, i5_digestRows_67, i5_digestRows_68, i5_digestRows_69, i5_digestRows_72, te_k hj, te_p hj, te_l hj, e1, m2 i hi, if_true, ifb_i (show i < 60 by omega) (by decide), cl (show i ≤ 5000 by omega), dg, Nat.zero_add, nI_1]⟩)
    have k := inner ()
    simp only [dg, nI_0] at k
    refine ⟨(.ref (35 + 2 * j), .int (nI m)), ?_⟩
    rw [i5_digestRows_13]
    have a : (nI j < 4) = True := nlt (b := 4) hj (by decide)
    simp only [i5_digestRows_15, i5_digestRows_17, i5_digestRows_20, i5_digestRows_22, i5_digestRows_24_r1, i5_digestRows_24_r2, i5_digestRows_24_r11, i5_digestRows_25, i5_digestRows_27, i5_digestRows_30, i5_digestRows_31, i5_digestRows_32, i5_digestRows_34, i5_digestRows_37, i5_digestRows_38, i5_digestRows_39, i5_digestRows_40, i5_digestRows_41, te_k hj, e1, a, if_true, ifb_i hj (by decide), cl (show j ≤ 5000 by omega)]
    exact k)
  have k := key (.null, .null)
  simp only [drw, nI_0] at k
  simp only [i5_digestRows_0, i5_digestRows_1, i5_digestRows_2, i5_digestRows_3, i5_digestRows_5, i5_digestRows_7, i5_digestRows_7_r1, i5_digestRows_7_r2, i5_digestRows_7_r11, i5_digestRows_7_r1000, i5_digestRows_8, i5_digestRows_10, i5_digestRows_11]
  exact k
end DP
