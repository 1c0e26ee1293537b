/-! THE CALLS: digest -/
def dgg (G : Nat → Nat → Int32) (h : Int64) : Nat → Int64
  | 0 => h
  | i + 1 => dg (dgg G h i) (G i) 0 4
noncomputable def gfn (σ : Nat → Nat → Int32) (j w : Nat) : Int32 := gfv (σ 72 j) (σ 73 j) (isop (σ 72) (σ 74 7) j) (flR (σ 72 j) (σ 73 j) (σ 74 j) (σ 74 (j + 1)) (σ 74 8)) (nI w)
section DQ
variable {L : Nat} {xs : Nat → Int32} {σ : Nat → Nat → Int32} {τ : Nat → Nat → Int64} {S g d m : Nat}
theorem s5_digestBridge (r : qN g m σ) {h0 : Int64} : pX 127 0 [.ref 0, .long h0, .null, .null, .null, .null, .null] [] (mm L xs σ τ) 85 S = some (some (.long (dgg (gfn σ) (dg h0 (σ 74) 0 (bs g)) g)), mm L xs σ τ, 85, S) := by
  have hg6 := r.1
  have bs7 : bs g ≤ g + 1 := by unfold bs; split <;> omega
  have hb := s4_basins (L := L) (xs := xs) (σ := σ) (τ := τ) (S := S) a_4 r.2.1 hg6
  have key2 := lp (δ := Value) g (fun j e => pX 127 50 [.ref 0, .long h0, .null, .long (dgg (gfn σ) (dg h0 (σ 74) 0 (bs g)) j), .null, .int (nI j), e] [] (mm L xs σ τ) 85 S) (some (some (.long (dgg (gfn σ) (dg h0 (σ 74) 0 (bs g)) g)), mm L xs σ τ, 85, S)) (fun e => by
    simp only [Nat.reduceAdd, i5_digestBridge_50, i5_digestBridge_52, i5_digestBridge_53, i5_digestBridge_56, i5_digestBridge_59, i5_digestBridge_62, i5_digestBridge_102, i5_digestBridge_103, k_3, k_4, r.2.1, Int32.lt_irrefl, if_false]) (fun j hj e => ⟨.int 4, by
    have inner := lp (δ := Unit) 4 (fun w _ => pX 127 68 [.ref 0, .long h0, .null, .long (dg (dgg (gfn σ) (dg h0 (σ 74) 0 (bs g)) j) (gfn σ j) 0 w), .null, .int (nI j), .int (nI w)] [] (mm L xs σ τ) 85 S) (pX 127 50 [.ref 0, .long h0, .null, .long (dgg (gfn σ) (dg h0 (σ 74) 0 (bs g)) (j + 1)), .null, .int (nI (j + 1)), .int 4] [] (mm L xs σ τ) 85 S) (fun _ => by
      rw [show nI 4 = 4 from rfl, show dgg (gfn σ) (dg h0 (σ 74) 0 (bs g)) (j + 1) = dg (dgg (gfn σ) (dg h0 (σ 74) 0 (bs g)) j) (gfn σ j) 0 4 from rfl]
      simp only [Nat.reduceAdd, i5_digestBridge_68, i5_digestBridge_70, i5_digestBridge_71, i5_digestBridge_96, i5_digestBridge_99, Int32.lt_irrefl, if_false, nI_1]) (fun w hw _ => ⟨(), by
      rw [i5_digestBridge_68]
      have a : (nI w < 4) = True := nlt (b := 4) hw (by decide)
      have e0 : dg (dgg (gfn σ) (dg h0 (σ 74) 0 (bs g)) j) (gfn σ j) 0 (w + 1) = 31 * dg (dgg (gfn σ) (dg h0 (σ 74) 0 (bs g)) j) (gfn σ j) 0 w + (gfn σ j (0 + w)).toInt64 := rfl
      rw [e0, Nat.zero_add]
      unfold gfn
      simp only [Nat.reduceAdd, i5_digestBridge_70, i5_digestBridge_71, i5_digestBridge_74, i5_digestBridge_77, i5_digestBridge_78, i5_digestBridge_79, i5_digestBridge_80, i5_digestBridge_82, i5_digestBridge_84, i5_digestBridge_87, i5_digestBridge_88, i5_digestBridge_89, i5_digestBridge_90, i5_digestBridge_93, a, if_true, s5_gateFact (show j < 6 by omega), gf_eq r hj, pK_i, nI_1]⟩)
    have k := inner ()
    simp only [dg, nI_0] at k
    rw [i5_digestBridge_50]
    simp only [Nat.reduceAdd, i5_digestBridge_52, i5_digestBridge_53, i5_digestBridge_56, i5_digestBridge_59, i5_digestBridge_62, i5_digestBridge_65, i5_digestBridge_66, k_3, k_4, r.2.1, nlt hj (by omega), if_true]
    exact k⟩)
  have key1 := lp (δ := Unit) (bs g) (fun j _ => pX 127 5 [.ref 0, .long h0, .null, .long (dg h0 (σ 74) 0 j), .null, .int (nI j), .null] [] (mm L xs σ τ) 85 S) (some (some (.long (dgg (gfn σ) (dg h0 (σ 74) 0 (bs g)) g)), mm L xs σ τ, 85, S)) (fun _ => by
    have k := key2 .null
    simp only [dgg, nI_0] at k
    simp only [Nat.reduceAdd, i5_digestBridge_5, i5_digestBridge_7, i5_digestBridge_8, i5_digestBridge_11, i5_digestBridge_14, i5_digestBridge_17, i5_digestBridge_47, i5_digestBridge_48, k_3, k_4, hb, pK_i, Int32.lt_irrefl, if_false]
    exact k) (fun j hj _ => ⟨(), by
    rw [i5_digestBridge_5]
    have hl := (qN_w r j (by omega)).1
    simp only [Nat.reduceAdd, i5_digestBridge_7, i5_digestBridge_8, i5_digestBridge_11, i5_digestBridge_14, i5_digestBridge_17, i5_digestBridge_20, i5_digestBridge_23, i5_digestBridge_24, i5_digestBridge_25, i5_digestBridge_26, i5_digestBridge_29, i5_digestBridge_32, i5_digestBridge_35, i5_digestBridge_37, i5_digestBridge_38, i5_digestBridge_39, i5_digestBridge_40, i5_digestBridge_41, i5_digestBridge_44, k_3, k_4, k_7, l_7, hb, pK_i, nlt hj (by omega), if_true, ifb_i (show j < 7 by omega) (by decide), cl (show j ≤ 5000 by omega), hl, dg, Nat.zero_add, nI_1]⟩)
  have k := key1 ()
  simp only [dg, nI_0] at k
  simp only [i5_digestBridge_0, i5_digestBridge_1, i5_digestBridge_2, i5_digestBridge_3]
  exact k
end DQ
