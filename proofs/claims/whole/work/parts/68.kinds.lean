/-! BY HOW ONE STOOD: widths, kinds -/
theorem rR_c {g : Nat} {K W f f' : Nat → Int32} (hg6 : g ≤ 6) (h : sok g K W f) (hb : ∀ b, b ≤ g → f' b = f b) (h7 : f' 7 = f 7) (h8 : f' 8 = f 8) (n b : Nat) (hbg : b ≤ g) : rR K W g f' n b = rR K W g f n b := by
  have t1 := (T3 hg6 (K := K) (W := W) (lv := f) (f := f') (op := f 7) (nu := f 8) (sok_q h) (fun b q => ⟨(hb b q).symm, h.2 b q⟩) h7 h8 n).1 b hbg
  have t2 := (T3 hg6 (K := K) (W := W) (lv := f) (f := f) (op := f 7) (nu := f 8) (sok_q h) (fun b q => ⟨rfl, h.2 b q⟩) rfl rfl n).1 b hbg
  exact t1.1.symm.trans t2.1
noncomputable def bq (Q : Nat → Prop) (n0 : Nat) : Nat → Int32
  | 0 => 0
  | j + 1 => @ite _ (Q j) (Classical.propDecidable _) (bq Q n0 j ||| sh (j + n0)) (bq Q n0 j)
theorem bq_t {Q : Nat → Prop} {n0 j : Nat} (h : Q j) : bq Q n0 (j + 1) = bq Q n0 j ||| sh (j + n0) := if_pos h
theorem bq_f {Q : Nat → Prop} {n0 j : Nat} (h : ¬ Q j) : bq Q n0 (j + 1) = bq Q n0 j := if_neg h
section DT
variable {L : Nat} {xs : Nat → Int32} {σ σj : Nat → Nat → Int32} {τ : Nat → Nat → Int64} {S g d m j : Nat} {K W f : Nat → Int32}
theorem AS_w {i : Nat} {x : Int32} (hA : AS σ g K W f 0 σj) : AS σ g K (upd W i x) f 0 (va_up σj 14 (upd (σj 14) i x)) := by
  obtain ⟨a1, a0, a2, a3, a4, a5, a6⟩ := hA
  refine ⟨agr_u a1 (by unfold scr; omega), fun c hc => ?_, ?_, ?_, ?_, fun q hq => ?_, fun b hb => ?_⟩
  · rw [vn (by omega)]; exact a0 c hc
  · rw [vn (by decide)]; exact a2
  · rw [vn (by decide)]; exact a3
  · rw [vn (by decide)]; exact a4
  · rw [vn (show 13 ≠ 14 by decide), vs]
    by_cases e : q = i
    · subst e; rw [us, us]; exact ⟨(a5 q hq).1, rfl⟩
    · rw [un e, un e]; exact a5 q hq
  · rw [vn (by decide)]; exact a6 b hb
theorem AS_k {i : Nat} {x : Int32} (hA : AS σ g K W f 0 σj) : AS σ g (upd K i x) W f 0 (va_up σj 13 (upd (σj 13) i x)) := by
  obtain ⟨a1, a0, a2, a3, a4, a5, a6⟩ := hA
  refine ⟨agr_u a1 (by unfold scr; omega), fun c hc => ?_, ?_, ?_, ?_, fun q hq => ?_, fun b hb => ?_⟩
  · rw [vn (by omega)]; exact a0 c hc
  · rw [vn (by decide)]; exact a2
  · rw [vn (by decide)]; exact a3
  · rw [vn (by decide)]; exact a4
  · rw [vn (show 14 ≠ 13 by decide), vs]
    by_cases e : q = i
    · subst e; rw [us, us]; exact ⟨rfl, (a5 q hq).2⟩
    · rw [un e, un e]; exact a5 q hq
  · rw [vn (by decide)]; exact a6 b hb
theorem sok_w {i : Nat} {x : Int32} (h : sok g K W f) (hx : wd9 x) : sok g K (upd W i x) f := ⟨fun q hq => by
  by_cases e : q = i
  · subst e; rw [us]; exact ⟨(h.1 q hq).1, hx⟩
  · rw [un e]; exact h.1 q hq, h.2⟩
theorem sok_k {i : Nat} {x : Int32} (h : sok g K W f) (hx : kd6 x) : sok g (upd K i x) W f := ⟨fun q hq => by
  by_cases e : q = i
  · subst e; rw [us]; exact ⟨hx, (h.1 q hq).2⟩
  · rw [un e]; exact h.1 q hq, h.2⟩
theorem wd9_n {w : Nat} (h1 : 1 ≤ w) (h9 : w ≤ 9) : wd9 (nI w) := by
  unfold wd9
  rw [nI_toInt (by omega)]
  omega
theorem kd6_n {w : Nat} (h9 : w < 6) : kd6 (nI w) := by
  have key : ∀ w, w < 6 → (nI w = 0 ∨ nI w = 1 ∨ nI w = 2 ∨ nI w = 3 ∨ nI w = 4 ∨ nI w = 5) := by decide
  exact key w h9
theorem refS0 (r : qN g m σ) {b q : Int32} : pX 119 0 [.ref 0, .int 0, .int b, .int q, .null, .null] [] (mm L xs σ τ) 85 S = some (some (.int (if 0 < g then -1 else -4)), mm L xs σ τ, 85, S) := by
  by_cases h : 0 < g
  · simp only [Nat.reduceAdd, i5_refusalOfSeen_0, i5_refusalOfSeen_1, i5_refusalOfSeen_4, i5_refusalOfSeen_7, i5_refusalOfSeen_10, i5_refusalOfSeen_12, i5_refusalOfSeen_13, i5_refusalOfSeen_14, i5_refusalOfSeen_17, i5_refusalOfSeen_18, i5_refusalOfSeen_21, i5_refusalOfSeen_24, i5_refusalOfSeen_25, i5_refusalOfSeen_28, i5_refusalOfSeen_31, i5_refusalOfSeen_32, i5_refusalOfSeen_35, i5_refusalOfSeen_38, i5_refusalOfSeen_39, i5_refusalOfSeen_40, i5_refusalOfSeen_41, i5_refusalOfSeen_44, i5_refusalOfSeen_45_r1, i5_refusalOfSeen_45_r2, i5_refusalOfSeen_45_r11, i5_refusalOfSeen_46, i5_refusalOfSeen_48, i5_refusalOfSeen_50, i5_refusalOfSeen_53, i5_refusalOfSeen_56, i5_refusalOfSeen_57, i5_refusalOfSeen_58, i5_refusalOfSeen_61, i5_refusalOfSeen_62, i5_refusalOfSeen_64, i5_refusalOfSeen_67, i5_refusalOfSeen_68, i5_refusalOfSeen_71, i5_refusalOfSeen_73, i5_refusalOfSeen_76, i5_refusalOfSeen_78, i5_refusalOfSeen_81, i5_refusalOfSeen_82, i5_refusalOfSeen_83, i5_refusalOfSeen_86, i5_refusalOfSeen_87, i5_refusalOfSeen_88, s3_isThere r, pK_i, bi_0, h, if_true, if_false, not_true_eq_false, not_false_eq_true, true_or, or_true, k_3, k_4]
  · simp only [Nat.reduceAdd, i5_refusalOfSeen_0, i5_refusalOfSeen_1, i5_refusalOfSeen_4, i5_refusalOfSeen_7, i5_refusalOfSeen_10, i5_refusalOfSeen_12, i5_refusalOfSeen_13, i5_refusalOfSeen_14, i5_refusalOfSeen_17, i5_refusalOfSeen_18, i5_refusalOfSeen_21, i5_refusalOfSeen_24, i5_refusalOfSeen_25, i5_refusalOfSeen_28, i5_refusalOfSeen_31, i5_refusalOfSeen_32, i5_refusalOfSeen_35, i5_refusalOfSeen_38, i5_refusalOfSeen_39, i5_refusalOfSeen_40, i5_refusalOfSeen_41, i5_refusalOfSeen_44, i5_refusalOfSeen_45_r1, i5_refusalOfSeen_45_r2, i5_refusalOfSeen_45_r11, i5_refusalOfSeen_46, i5_refusalOfSeen_48, i5_refusalOfSeen_50, i5_refusalOfSeen_53, i5_refusalOfSeen_56, i5_refusalOfSeen_57, i5_refusalOfSeen_58, i5_refusalOfSeen_61, i5_refusalOfSeen_62, i5_refusalOfSeen_64, i5_refusalOfSeen_67, i5_refusalOfSeen_68, i5_refusalOfSeen_71, i5_refusalOfSeen_73, i5_refusalOfSeen_76, i5_refusalOfSeen_78, i5_refusalOfSeen_81, i5_refusalOfSeen_82, i5_refusalOfSeen_83, i5_refusalOfSeen_86, i5_refusalOfSeen_87, i5_refusalOfSeen_88, s3_isThere r, pK_i, bi_0, h, if_true, if_false, not_true_eq_false, not_false_eq_true, true_or, or_true, k_3, k_4]
def qwd (σ : Nat → Nat → Int32) (g i b k m w : Nat) : Prop := soR (σ 72) (upd (σ 73) i (nI (w + 1))) g (σ 74) b (fun t => σ 69 (40 * k + t)) m
def qkd (σ : Nat → Nat → Int32) (g i b k m w : Nat) : Prop := soR (upd (σ 72) i (nI w)) (σ 73) g (σ 74) b (fun t => σ 69 (40 * k + t)) m
theorem widthsC (R : Rel g d σ τ) {i b k : Nat} (hi : i < g) (hb : b ≤ g) (hk : k < 6) (hz : σ 68 k = nI m) (hm : m ≤ 40) : ∃ σ', agr σ σ' ∧ pX 76 33 [.ref 0, .int (nI i), .int (nI b), .int (nI k), .int 0, .int 0, .int (nI 1)] [] (mm L xs σ τ) 85 S = some (some (.int (bq (qwd σ g i b k m) 1 9)), mm L xs σ' τ, 85, S) := by
  have r := R.1
  have hg6 := r.1
  obtain ⟨e1, _, e3⟩ := R.2.2.2.1 k hk
  have hS : ∀ {α : Type} {a b : α}, ifb (nI k) 6 a b = a := ifb_i hk (by decide)
  have hC := cl (show k ≤ 5000 by omega)
  have hSi : ∀ {α : Type} {a b : α}, ifb (nI i) 6 a b = a := ifb_i (show i < 6 by omega) (by decide)
  have hCi := cl (show i ≤ 5000 by omega)
  have key := lq (δ := Nat → Nat → Int32) 9 (fun _ e => agr σ e) (fun j e => pX 76 33 [.ref 0, .int (nI i), .int (nI b), .int (nI k), .int 0, .int (bq (qwd σ g i b k m) 1 j), .int (nI (j + 1))] [] (mm L xs e τ) 85 S) (fun o => ∃ σ', agr σ σ' ∧ o = some (some (.int (bq (qwd σ g i b k m) 1 9)), mm L xs σ' τ, 85, S)) (fun e he => ⟨e, he, by
    have q : ((9 : Int32) < nI (9 + 1)) = True := by decide
    simp only [Nat.reduceAdd, i5_widths_33, i5_widths_35, i5_widths_37, i5_widths_94, i5_widths_96, q, if_true]⟩) (fun j hj e he => Or.inr (by
    have r' := qN_agr he r
    have e72 : e 72 = σ 72 := he.1 72 (by unfold scr; omega) (by decide)
    have e73 : e 73 = σ 73 := he.1 73 (by unfold scr; omega) (by decide)
    have e74 : e 74 = σ 74 := he.1 74 (by unfold scr; omega) (by decide)
    have eR : e (23 + 2 * k) = σ (23 + 2 * k) := he.1 _ (by unfold scr; omega) (by omega)
    have eP : e (23 + 2 * k + 1) = σ (23 + 2 * k + 1) := he.1 _ (by unfold scr; omega) (by omega)
    have so := sok_N r' (f := σ 74) (K := σ 72) (W := σ 73) (fun _ _ => by rw [e74]) (fun _ _ => by rw [e72, e73]; exact ⟨rfl, rfl⟩)
    have A0 := AS_0 r' (f := σ 74) (K := σ 72) (W := σ 73) (fun _ _ => by rw [e74]) (by rw [e74]) (by rw [e74]) (fun _ _ => by rw [e72, e73]; exact ⟨rfl, rfl⟩)
    have A1 := AS_w (i := i) (x := nI (j + 1)) A0
    obtain ⟨σ', p, ⟨u, q1⟩, _⟩ := asC (L := L) (xs := xs) (τ := τ) (S := S) hg6 (sok_w (i := i) (x := nI (j + 1)) so (wd9_n (by omega) (by omega))) A1 hb hk (by rw [eR]; exact e1.trans hz) hm
    have hsw : soR (σ 72) (upd (σ 73) i (nI (j + 1))) g (σ 74) b (e (23 + 2 * k + 1)) m = qwd σ g i b k m j := by
      rw [eP]
      refine propext ⟨fun h t ht => ?_, fun h t ht => ?_⟩
      · show _ = σ 69 (40 * k + t)
        rw [← e3 t (by omega)]; exact h t ht
      · rw [e3 t (by omega)]; exact h t ht
    rw [hsw] at p
    have q : ((9 : Int32) < nI (j + 1)) = False := nnl (a := 9) (b := j + 1) (by omega) (by omega)
    have ag' : agr σ σ' := agr_t he q1.1
    have tf := s4_takeFrom (L := L) (xs := xs) (σ := e) (τ := τ) (S := S) a_12 a_4 (by decide)
    by_cases hp : qwd σ g i b k m j
    · refine ⟨σ', ag', ?_⟩
      rw [bi_t hp] at p
      rw [bq_t hp]
      rw [i5_widths_33]
      simp only [Nat.reduceAdd, i5_widths_35, i5_widths_37, i5_widths_40, i5_widths_41, i5_widths_44, i5_widths_45, i5_widths_48, i5_widths_51, i5_widths_54, i5_widths_55, i5_widths_58, i5_widths_61, i5_widths_62, i5_widths_64, i5_widths_65, i5_widths_66, i5_widths_67, i5_widths_68, i5_widths_71, i5_widths_72_r1, i5_widths_72_r2, i5_widths_72_r11, i5_widths_73, i5_widths_76, i5_widths_79, i5_widths_81, i5_widths_82, i5_widths_84, i5_widths_85, i5_widths_86, i5_widths_88, i5_widths_91, k_3, k_4, k_12, k_13, l_13, k_14, l_14, hS, hC, hSi, hCi, q, tf, p, pK_i, pK_v, n10, if_true, if_false, not_true_eq_false, not_false_eq_true, true_or, or_true, nI_1, sh]
      all_goals rfl
    · refine ⟨σ', ag', ?_⟩
      rw [bi_f hp] at p
      rw [bq_f hp]
      rw [i5_widths_33]
      simp only [Nat.reduceAdd, i5_widths_35, i5_widths_37, i5_widths_40, i5_widths_41, i5_widths_44, i5_widths_45, i5_widths_48, i5_widths_51, i5_widths_54, i5_widths_55, i5_widths_58, i5_widths_61, i5_widths_62, i5_widths_64, i5_widths_65, i5_widths_66, i5_widths_67, i5_widths_68, i5_widths_71, i5_widths_72_r1, i5_widths_72_r2, i5_widths_72_r11, i5_widths_73, i5_widths_76, i5_widths_79, i5_widths_81, i5_widths_82, i5_widths_84, i5_widths_85, i5_widths_86, i5_widths_88, i5_widths_91, k_3, k_4, k_12, k_13, l_13, k_14, l_14, hS, hC, hSi, hCi, q, tf, p, pK_i, pK_v, if_true, if_false, not_true_eq_false, not_false_eq_true, true_or, or_true, nI_1]
      all_goals rfl))
  have k1 := key σ (agr_r σ)
  rw [Nat.zero_add] at k1
  exact k1
theorem widthsR {m0 : Nat} (r : qN g m0 σ) {i b k : Nat} (hi : i < g) (hb : b ≤ g) (hk : k < 6) (hz : σ 68 k = nI m) (hm : m ≤ 40) : ∃ σ', agr σ σ' ∧ pX 198 31 [.ref 67, .int (nI i), .int (nI b), .int (nI k), .int 0, .int (σ 73 i), .int 0, .int (nI 1)] [] (mm L xs σ τ) 85 S = some (some (.int (bq (qwd σ g i b k m) 1 9)), mm L xs σ' τ, 85, S) := by
  have hg6 := r.1
  have hSi : ∀ {α : Type} {a b : α}, ifb (nI i) 6 a b = a := ifb_i (show i < 6 by omega) (by decide)
  have hCi := cl (show i ≤ 5000 by omega)
  have so := sok_N r (f := σ 74) (K := σ 72) (W := σ 73) (fun _ _ => rfl) (fun _ _ => ⟨rfl, rfl⟩)
  have key := lq (δ := Nat → Nat → Int32) 9 (fun _ e => (∀ c, c ≠ 81 → c ≠ 73 → e c = σ c) ∧ ∃ y, e 73 = upd (σ 73) i y) (fun j e => pX 198 31 [.ref 67, .int (nI i), .int (nI b), .int (nI k), .int 0, .int (σ 73 i), .int (bq (qwd σ g i b k m) 1 j), .int (nI (j + 1))] [] (mm L xs e τ) 85 S) (fun o => ∃ σ', agr σ σ' ∧ o = some (some (.int (bq (qwd σ g i b k m) 1 9)), mm L xs σ' τ, 85, S)) (fun e he => by
    obtain ⟨h1, y, h2⟩ := he
    have q : ((9 : Int32) < nI (9 + 1)) = True := by decide
    have z : upd (e 73) i (σ 73 i) = σ 73 := by rw [h2, uu, ui]
    refine ⟨va_up e 73 (σ 73), ⟨fun c hc h67 => ?_, ?_, ?_, ?_, ?_⟩, ?_⟩
    · by_cases e1 : c = 73
      · subst e1; exact vs
      · rw [vn e1]; exact h1 c (by rintro rfl; exact hc scr_81) e1
    · rw [vn (by decide), h1 67 (by decide) (by decide)]
    · rw [vn (by decide), h1 67 (by decide) (by decide)]
    · rw [vn (by decide), h1 67 (by decide) (by decide)]
    · rw [vn (by decide), h1 67 (by decide) (by decide)]
    · simp only [Nat.reduceAdd, i6_widths_31, i6_widths_33, i6_widths_35, i6_widths_78, i6_widths_79, i6_widths_82, i6_widths_83, i6_widths_85, i6_widths_86, i6_widths_88, q, if_true, k_73, l_73, hSi, hCi, z]) (fun j hj e he => Or.inr (by
    obtain ⟨h1, y, h2⟩ := he
    obtain ⟨e2, he2⟩ : ∃ x, x = va_up (va_up e 73 (upd (σ 73) i (nI (j + 1)))) 81 (va_cpy (σ 74) (e 81) 0 0 9) := ⟨_, rfl⟩
    have z : upd (e 73) i (nI (j + 1)) = upd (σ 73) i (nI (j + 1)) := by rw [h2, uu]
    have n1 : ∀ c, c ≠ 81 → c ≠ 73 → e2 c = σ c := fun c a b => by rw [he2, vn a, vn b]; exact h1 c a b
    have ncell : e2 73 = upd (σ 73) i (nI (j + 1)) := by rw [he2, vn (by decide), vs]
    have n81 : e2 81 = va_cpy (σ 74) (e 81) 0 0 9 := by rw [he2, vs]
    have sk : sok g (e2 72) (e2 73) (σ 74) := by
      rw [n1 72 (by decide) (by decide), ncell]
      exact sok_w so (wd9_n (by omega) (by omega))
    have as_ := s6_asItIs (L := L) (xs := xs) (σ := va_up e 73 (upd (σ 73) i (nI (j + 1)))) (τ := τ) (S := S)
    rw [vn (show 74 ≠ 73 by decide), vn (show 81 ≠ 73 by decide), h1 74 (by decide) (by decide), ← he2] at as_
    have is_ := s6_isSo (L := L) (xs := xs) (σ := e2) (τ := τ) (S := S) (by rw [n1 67 (by decide) (by decide)]; exact r.2.2.1) hg6 (fun q hq => (sk.1 q hq).1) (b := b) (r := k) (m := m) (by omega) hk (by rw [n1 68 (by decide) (by decide)]; exact hz) hm
    have hsw : soR (e2 72) (e2 73) g (e2 81) b (fun t => e2 69 (40 * k + t)) m = qwd σ g i b k m j := by
      have rc : ∀ n, rR (e2 72) (e2 73) g (e2 81) n b = rR (e2 72) (e2 73) g (σ 74) n b := fun n => rR_c hg6 sk (fun q hq => by rw [n81, cpy_at _ _ (by omega)]) (by rw [n81, cpy_at _ _ (by decide)]) (by rw [n81, cpy_at _ _ (by decide)]) n b hb
      have e3 : qwd σ g i b k m j = soR (e2 72) (e2 73) g (σ 74) b (fun t => e2 69 (40 * k + t)) m := by
        rw [n1 72 (by decide) (by decide), ncell, n1 69 (by decide) (by decide)]; rfl
      rw [e3]
      refine propext ⟨fun h t ht => ?_, fun h t ht => ?_⟩
      · rw [← rc]; exact h t ht
      · rw [rc]; exact h t ht
    rw [hsw] at is_
    have q : ((9 : Int32) < nI (j + 1)) = False := nnl (a := 9) (b := j + 1) (by omega) (by omega)
    refine ⟨va_up e2 81 (rR (e2 72) (e2 73) g (e2 81) m), ⟨fun c a b => by rw [vn a]; exact n1 c a b, nI (j + 1), by rw [vn (by decide)]; exact ncell⟩, ?_⟩
    by_cases hp : qwd σ g i b k m j
    · rw [bi_t hp] at is_
      rw [bq_t hp]
      rw [i6_widths_31]
      simp only [Nat.reduceAdd, i6_widths_33, i6_widths_35, i6_widths_38, i6_widths_39, i6_widths_42, i6_widths_43, i6_widths_45, i6_widths_46, i6_widths_47, i6_widths_50, i6_widths_52, i6_widths_53, i6_widths_54, i6_widths_55, i6_widths_58, i6_widths_61, i6_widths_62, i6_widths_64, i6_widths_65, i6_widths_68, i6_widths_69, i6_widths_70, i6_widths_72, i6_widths_75, k_73, l_73, hSi, hCi, q, z, as_, is_, pK_i, pK_v, n10, if_true, if_false, not_true_eq_false, not_false_eq_true, true_or, or_true, nI_1, sh]
      all_goals rfl
    · rw [bi_f hp] at is_
      rw [bq_f hp]
      rw [i6_widths_31]
      simp only [Nat.reduceAdd, i6_widths_33, i6_widths_35, i6_widths_38, i6_widths_39, i6_widths_42, i6_widths_43, i6_widths_45, i6_widths_46, i6_widths_47, i6_widths_50, i6_widths_52, i6_widths_53, i6_widths_54, i6_widths_55, i6_widths_58, i6_widths_61, i6_widths_62, i6_widths_64, i6_widths_65, i6_widths_68, i6_widths_69, i6_widths_70, i6_widths_72, i6_widths_75, k_73, l_73, hSi, hCi, q, z, as_, is_, pK_i, pK_v, if_true, if_false, not_true_eq_false, not_false_eq_true, true_or, or_true, nI_1, Int32.or_zero]
      all_goals rfl))
  have k1 := key σ ⟨fun _ _ _ => rfl, σ 73 i, (ui _ _).symm⟩
  rw [Nat.zero_add] at k1
  exact k1
theorem op_widths {i b r : Int32} : opI L xs S (fun M => pX 76 0 [.ref 0, .int i, .int b, .int r, .null, .null, .null] [] M 85 S) (fun M => pX 198 0 [.ref 67, .int i, .int b, .int r, .null, .null, .null, .null] [] M 85 S) := by
  intro g d σ τ R
  have hg6 := R.1.1
  by_cases hi : inb i g
  · obtain ⟨j, hj, rfl⟩ := inb_of hi (by omega)
    have h : 0 < g := by omega
    have hG := h4_hasGate (L := L) (xs := xs) (τ := τ) (S := S) R.1 (i := nI j)
    rw [bi_t hi] at hG
    have hSi : ∀ {α : Type} {a b : α}, ifb (nI j) 6 a b = a := ifb_i (show j < 6 by omega) (by decide)
    have hCi := cl (show j ≤ 5000 by omega)
    rcases refS (L := L) (xs := xs) (S := S) R b r with ⟨x, σ1, σ2, hx, p1, p2, R2, g1⟩ | ⟨h, bj, k, m, hb, rfl, hk, rfl, hz, hm1, hm10, p1, p2⟩
    · have g2 : σ1 67 4 = nI g := g1.trans R.1.2.2.1
      refine op_of (v := x) (σ1 := σ1) (τ1 := τ) ?_ ?_ R2
      · simp only [Nat.reduceAdd, i5_widths_0, i5_widths_1, i5_widths_2, i5_widths_5, i5_widths_8, i5_widths_9, i5_widths_12, i5_widths_13, i5_widths_14, i5_widths_17, i5_widths_19, i5_widths_21, i5_widths_24, i5_widths_26, i5_widths_27, i5_widths_28, i5_widths_30, i5_widths_31, hG, p1, k_3, k_4, pK_i, hx, if_true, if_false, not_true_eq_false, not_false_eq_true, true_or, or_true]
      · simp only [Nat.reduceAdd, i6_widths_0, i6_widths_1, i6_widths_2, i6_widths_3, i6_widths_4, i6_widths_7, i6_widths_9, i6_widths_11, i6_widths_14, i6_widths_16, i6_widths_17, i6_widths_18, i6_widths_21, i6_widths_22, i6_widths_23, i6_widths_25, i6_widths_26, i6_widths_28, i6_widths_29, i6_refusedOf_0, i6_refusedOf_1, i6_refusedOf_4, i6_refusedOf_7, i6_refusedOf_9, i6_refusedOf_10, i6_refusedOf_11, i6_refusedOf_12, i6_refusedOf_15, i6_refusedOf_18, i6_refusedOf_19, i6_refusedOf_20, i6_refusedOf_21, i6_refusedOf_24, i6_refusedOf_27, i6_refusedOf_28, g2, gN0 hg6, s6_isGate g2 hg6, p2, pK_i, bi_0, hx, h, hi, if_true, if_false, not_true_eq_false, not_false_eq_true, true_or, or_true]
    · obtain ⟨σ1, ag1, p3⟩ := widthsC (L := L) (xs := xs) (τ := τ) (S := S) R hj hb hk hz (by omega)
      have rA := qN_agr ag1 R.1
      obtain ⟨σ2, ag2, p4⟩ := widthsR (L := L) (xs := xs) (τ := τ) (S := S) rA hj hb hk (m := m) (by rw [ag1.1 68 (by unfold scr; omega) (by decide)]; exact hz) (by omega)
      have ew : qwd σ1 g j bj k m = qwd σ g j bj k m := by
        unfold qwd
        rw [ag1.1 72 (by unfold scr; omega) (by decide), ag1.1 73 (by unfold scr; omega) (by decide), ag1.1 74 (by unfold scr; omega) (by decide), ag1.1 69 (by unfold scr; omega) (by decide)]
      rw [ew] at p4
      have g2 := rA.2.2.1
      have rf := p2 σ1 τ ag1.2.1 (ag1.1 68 (by unfold scr; omega) (by decide)) (ag1.1 69 (by unfold scr; omega) (by decide))
      refine op_of (σ1 := σ1) (τ1 := τ) (σ2 := σ2) (τ2 := τ) (v := bq (qwd σ g j bj k m) 1 9) ?_ ?_ (Rel_agr ag2 (Rel_agr ag1 R))
      · simp only [Nat.reduceAdd, i5_widths_0, i5_widths_1, i5_widths_2, i5_widths_5, i5_widths_8, i5_widths_9, i5_widths_12, i5_widths_13, i5_widths_14, i5_widths_17, i5_widths_19, i5_widths_21, i5_widths_24, i5_widths_26, i5_widths_27, i5_widths_28, i5_widths_30, i5_widths_31, hG, p1, k_3, k_4, pK_i, if_true, if_false, not_true_eq_false, not_false_eq_true, true_or, or_true]
        exact p3
      · simp only [Nat.reduceAdd, i6_widths_0, i6_widths_1, i6_widths_2, i6_widths_3, i6_widths_4, i6_widths_7, i6_widths_9, i6_widths_11, i6_widths_14, i6_widths_16, i6_widths_17, i6_widths_18, i6_widths_21, i6_widths_22, i6_widths_23, i6_widths_25, i6_widths_26, i6_widths_28, i6_widths_29, i6_refusedOf_0, i6_refusedOf_1, i6_refusedOf_4, i6_refusedOf_7, i6_refusedOf_9, i6_refusedOf_10, i6_refusedOf_11, i6_refusedOf_12, i6_refusedOf_15, i6_refusedOf_18, i6_refusedOf_19, i6_refusedOf_20, i6_refusedOf_21, i6_refusedOf_24, i6_refusedOf_27, i6_refusedOf_28, g2, gN0 hg6, s6_isGate g2 hg6, rf, k_73, l_73, hSi, hCi, pK_i, bi_0, h, hi, if_true, if_false, not_true_eq_false, not_false_eq_true, true_or, or_true]
        exact p4
  · have hG := h4_hasGate (L := L) (xs := xs) (τ := τ) (S := S) R.1 (i := i)
    rw [bi_f hi] at hG
    by_cases h : 0 < g
    · apply op_of
      · simp only [Nat.reduceAdd, i5_widths_0, i5_widths_1, i5_widths_2, i5_widths_5, i5_widths_8, i5_widths_9, i5_widths_12, i5_widths_13, i5_widths_14, i5_widths_17, i5_widths_19, i5_widths_21, i5_widths_24, i5_widths_26, i5_widths_27, i5_widths_28, i5_widths_30, i5_widths_31, hG, refS0 R.1, k_3, k_4, pK_i, h, n91, if_true, if_false, not_true_eq_false, not_false_eq_true, true_or, or_true]; rfl
      · simp only [Nat.reduceAdd, i6_widths_0, i6_widths_1, i6_widths_2, i6_widths_3, i6_widths_4, i6_widths_7, i6_widths_9, i6_widths_11, i6_widths_14, i6_widths_16, i6_widths_17, i6_widths_18, i6_widths_21, i6_widths_22, i6_widths_23, i6_widths_25, i6_widths_26, i6_widths_28, i6_widths_29, i6_refusedOf_0, i6_refusedOf_1, i6_refusedOf_4, i6_refusedOf_7, i6_refusedOf_9, i6_refusedOf_10, i6_refusedOf_11, i6_refusedOf_12, i6_refusedOf_15, i6_refusedOf_18, i6_refusedOf_19, i6_refusedOf_20, i6_refusedOf_21, i6_refusedOf_24, i6_refusedOf_27, i6_refusedOf_28, R.1.2.2.1, gN0 hg6, s6_isGate R.1.2.2.1 hg6, pK_i, bi_0, h, hi, n91, if_true, if_false, not_true_eq_false, not_false_eq_true, true_or, or_true]; rfl
      · exact R
    · apply op_of
      · simp only [Nat.reduceAdd, i5_widths_0, i5_widths_1, i5_widths_2, i5_widths_5, i5_widths_8, i5_widths_9, i5_widths_12, i5_widths_13, i5_widths_14, i5_widths_17, i5_widths_19, i5_widths_21, i5_widths_24, i5_widths_26, i5_widths_27, i5_widths_28, i5_widths_30, i5_widths_31, hG, refS0 R.1, k_3, k_4, pK_i, h, n94, if_true, if_false, not_true_eq_false, not_false_eq_true, true_or, or_true]; rfl
      · simp only [Nat.reduceAdd, i6_widths_0, i6_widths_1, i6_widths_2, i6_widths_3, i6_widths_4, i6_widths_7, i6_widths_9, i6_widths_11, i6_widths_14, i6_widths_16, i6_widths_17, i6_widths_18, i6_widths_21, i6_widths_22, i6_widths_23, i6_widths_25, i6_widths_26, i6_widths_28, i6_widths_29, i6_refusedOf_0, i6_refusedOf_1, i6_refusedOf_4, i6_refusedOf_7, i6_refusedOf_9, i6_refusedOf_10, i6_refusedOf_11, i6_refusedOf_12, i6_refusedOf_15, i6_refusedOf_18, i6_refusedOf_19, i6_refusedOf_20, i6_refusedOf_21, i6_refusedOf_24, i6_refusedOf_27, i6_refusedOf_28, R.1.2.2.1, gN0 hg6, pK_i, bi_0, h, n94, if_true, if_false, not_true_eq_false, not_false_eq_true, true_or, or_true]; rfl
      · exact R
theorem kindsC (R : Rel g d σ τ) {i b k : Nat} (hi : i < g) (hb : b ≤ g) (hk : k < 6) (hz : σ 68 k = nI m) (hm : m ≤ 40) : ∃ σ', agr σ σ' ∧ pX 77 33 [.ref 0, .int (nI i), .int (nI b), .int (nI k), .int 0, .int 0, .int (nI 0)] [] (mm L xs σ τ) 85 S = some (some (.int (bq (qkd σ g i b k m) 0 6)), mm L xs σ' τ, 85, S) := by
  have r := R.1
  have hg6 := r.1
  obtain ⟨e1, _, e3⟩ := R.2.2.2.1 k hk
  have hS : ∀ {α : Type} {a b : α}, ifb (nI k) 6 a b = a := ifb_i hk (by decide)
  have hC := cl (show k ≤ 5000 by omega)
  have hSi : ∀ {α : Type} {a b : α}, ifb (nI i) 6 a b = a := ifb_i (show i < 6 by omega) (by decide)
  have hCi := cl (show i ≤ 5000 by omega)
  have key := lq (δ := Nat → Nat → Int32) 6 (fun _ e => agr σ e) (fun j e => pX 77 33 [.ref 0, .int (nI i), .int (nI b), .int (nI k), .int 0, .int (bq (qkd σ g i b k m) 0 j), .int (nI (j + 0))] [] (mm L xs e τ) 85 S) (fun o => ∃ σ', agr σ σ' ∧ o = some (some (.int (bq (qkd σ g i b k m) 0 6)), mm L xs σ' τ, 85, S)) (fun e he => ⟨e, he, by
    have q : ((5 : Int32) < nI (6 + 0)) = True := by decide
    simp only [Nat.reduceAdd, i5_kinds_33, i5_kinds_35, i5_kinds_36, i5_kinds_93, i5_kinds_95, q, if_true]⟩) (fun j hj e he => Or.inr (by
    have r' := qN_agr he r
    have e72 : e 72 = σ 72 := he.1 72 (by unfold scr; omega) (by decide)
    have e73 : e 73 = σ 73 := he.1 73 (by unfold scr; omega) (by decide)
    have e74 : e 74 = σ 74 := he.1 74 (by unfold scr; omega) (by decide)
    have eR : e (23 + 2 * k) = σ (23 + 2 * k) := he.1 _ (by unfold scr; omega) (by omega)
    have eP : e (23 + 2 * k + 1) = σ (23 + 2 * k + 1) := he.1 _ (by unfold scr; omega) (by omega)
    have so := sok_N r' (f := σ 74) (K := σ 72) (W := σ 73) (fun _ _ => by rw [e74]) (fun _ _ => by rw [e72, e73]; exact ⟨rfl, rfl⟩)
    have A0 := AS_0 r' (f := σ 74) (K := σ 72) (W := σ 73) (fun _ _ => by rw [e74]) (by rw [e74]) (by rw [e74]) (fun _ _ => by rw [e72, e73]; exact ⟨rfl, rfl⟩)
    have A1 := AS_k (i := i) (x := nI (j + 0)) A0
    obtain ⟨σ', p, ⟨u, q1⟩, _⟩ := asC (L := L) (xs := xs) (τ := τ) (S := S) hg6 (sok_k (i := i) (x := nI (j + 0)) so (kd6_n (by omega))) A1 hb hk (by rw [eR]; exact e1.trans hz) hm
    have hsw : soR (upd (σ 72) i (nI (j + 0))) (σ 73) g (σ 74) b (e (23 + 2 * k + 1)) m = qkd σ g i b k m j := by
      rw [eP]
      refine propext ⟨fun h t ht => ?_, fun h t ht => ?_⟩
      · show _ = σ 69 (40 * k + t)
        rw [← e3 t (by omega)]; exact h t ht
      · rw [e3 t (by omega)]; exact h t ht
    rw [hsw] at p
    have q : ((5 : Int32) < nI (j + 0)) = False := nnl (a := 5) (b := j + 0) (by omega) (by omega)
    have ag' : agr σ σ' := agr_t he q1.1
    have tf := s4_takeFrom (L := L) (xs := xs) (σ := e) (τ := τ) (S := S) a_12 a_4 (by decide)
    by_cases hp : qkd σ g i b k m j
    · refine ⟨σ', ag', ?_⟩
      rw [bi_t hp] at p
      rw [bq_t hp]
      rw [i5_kinds_33]
      simp only [Nat.reduceAdd, i5_kinds_35, i5_kinds_36, i5_kinds_39, i5_kinds_40, i5_kinds_43, i5_kinds_44, i5_kinds_47, i5_kinds_50, i5_kinds_53, i5_kinds_54, i5_kinds_57, i5_kinds_60, i5_kinds_61, i5_kinds_63, i5_kinds_64, i5_kinds_65, i5_kinds_66, i5_kinds_67, i5_kinds_70, i5_kinds_71_r1, i5_kinds_71_r2, i5_kinds_71_r11, i5_kinds_72, i5_kinds_75, i5_kinds_78, i5_kinds_80, i5_kinds_81, i5_kinds_83, i5_kinds_84, i5_kinds_85, i5_kinds_87, i5_kinds_90, k_3, k_4, k_12, k_13, l_13, k_14, l_14, hS, hC, hSi, hCi, q, tf, p, pK_i, pK_v, n10, if_true, if_false, not_true_eq_false, not_false_eq_true, true_or, or_true, nI_1, sh]
      all_goals rfl
    · refine ⟨σ', ag', ?_⟩
      rw [bi_f hp] at p
      rw [bq_f hp]
      rw [i5_kinds_33]
      simp only [Nat.reduceAdd, i5_kinds_35, i5_kinds_36, i5_kinds_39, i5_kinds_40, i5_kinds_43, i5_kinds_44, i5_kinds_47, i5_kinds_50, i5_kinds_53, i5_kinds_54, i5_kinds_57, i5_kinds_60, i5_kinds_61, i5_kinds_63, i5_kinds_64, i5_kinds_65, i5_kinds_66, i5_kinds_67, i5_kinds_70, i5_kinds_71_r1, i5_kinds_71_r2, i5_kinds_71_r11, i5_kinds_72, i5_kinds_75, i5_kinds_78, i5_kinds_80, i5_kinds_81, i5_kinds_83, i5_kinds_84, i5_kinds_85, i5_kinds_87, i5_kinds_90, k_3, k_4, k_12, k_13, l_13, k_14, l_14, hS, hC, hSi, hCi, q, tf, p, pK_i, pK_v, if_true, if_false, not_true_eq_false, not_false_eq_true, true_or, or_true, nI_1]
      all_goals rfl))
  have k1 := key σ (agr_r σ)
  rw [Nat.zero_add] at k1
  exact k1
theorem kindsR {m0 : Nat} (r : qN g m0 σ) {i b k : Nat} (hi : i < g) (hb : b ≤ g) (hk : k < 6) (hz : σ 68 k = nI m) (hm : m ≤ 40) : ∃ σ', agr σ σ' ∧ pX 199 31 [.ref 67, .int (nI i), .int (nI b), .int (nI k), .int 0, .int (σ 72 i), .int 0, .int (nI 0)] [] (mm L xs σ τ) 85 S = some (some (.int (bq (qkd σ g i b k m) 0 6)), mm L xs σ' τ, 85, S) := by
  have hg6 := r.1
  have hSi : ∀ {α : Type} {a b : α}, ifb (nI i) 6 a b = a := ifb_i (show i < 6 by omega) (by decide)
  have hCi := cl (show i ≤ 5000 by omega)
  have so := sok_N r (f := σ 74) (K := σ 72) (W := σ 73) (fun _ _ => rfl) (fun _ _ => ⟨rfl, rfl⟩)
  have key := lq (δ := Nat → Nat → Int32) 6 (fun _ e => (∀ c, c ≠ 81 → c ≠ 72 → e c = σ c) ∧ ∃ y, e 72 = upd (σ 72) i y) (fun j e => pX 199 31 [.ref 67, .int (nI i), .int (nI b), .int (nI k), .int 0, .int (σ 72 i), .int (bq (qkd σ g i b k m) 0 j), .int (nI (j + 0))] [] (mm L xs e τ) 85 S) (fun o => ∃ σ', agr σ σ' ∧ o = some (some (.int (bq (qkd σ g i b k m) 0 6)), mm L xs σ' τ, 85, S)) (fun e he => by
    obtain ⟨h1, y, h2⟩ := he
    have q : ((5 : Int32) < nI (6 + 0)) = True := by decide
    have z : upd (e 72) i (σ 72 i) = σ 72 := by rw [h2, uu, ui]
    refine ⟨va_up e 72 (σ 72), ⟨fun c hc h67 => ?_, ?_, ?_, ?_, ?_⟩, ?_⟩
    · by_cases e1 : c = 72
      · subst e1; exact vs
      · rw [vn e1]; exact h1 c (by rintro rfl; exact hc scr_81) e1
    · rw [vn (by decide), h1 67 (by decide) (by decide)]
    · rw [vn (by decide), h1 67 (by decide) (by decide)]
    · rw [vn (by decide), h1 67 (by decide) (by decide)]
    · rw [vn (by decide), h1 67 (by decide) (by decide)]
    · simp only [Nat.reduceAdd, i6_kinds_31, i6_kinds_33, i6_kinds_34, i6_kinds_77, i6_kinds_78, i6_kinds_81, i6_kinds_82, i6_kinds_84, i6_kinds_85, i6_kinds_87, q, if_true, k_72, l_72, hSi, hCi, z]) (fun j hj e he => Or.inr (by
    obtain ⟨h1, y, h2⟩ := he
    obtain ⟨e2, he2⟩ : ∃ x, x = va_up (va_up e 72 (upd (σ 72) i (nI (j + 0)))) 81 (va_cpy (σ 74) (e 81) 0 0 9) := ⟨_, rfl⟩
    have z : upd (e 72) i (nI (j + 0)) = upd (σ 72) i (nI (j + 0)) := by rw [h2, uu]
    have n1 : ∀ c, c ≠ 81 → c ≠ 72 → e2 c = σ c := fun c a b => by rw [he2, vn a, vn b]; exact h1 c a b
    have ncell : e2 72 = upd (σ 72) i (nI (j + 0)) := by rw [he2, vn (by decide), vs]
    have n81 : e2 81 = va_cpy (σ 74) (e 81) 0 0 9 := by rw [he2, vs]
    have sk : sok g (e2 72) (e2 73) (σ 74) := by
      rw [n1 73 (by decide) (by decide), ncell]
      exact sok_k so (kd6_n (by omega))
    have as_ := s6_asItIs (L := L) (xs := xs) (σ := va_up e 72 (upd (σ 72) i (nI (j + 0)))) (τ := τ) (S := S)
    rw [vn (show 74 ≠ 72 by decide), vn (show 81 ≠ 72 by decide), h1 74 (by decide) (by decide), ← he2] at as_
    have is_ := s6_isSo (L := L) (xs := xs) (σ := e2) (τ := τ) (S := S) (by rw [n1 67 (by decide) (by decide)]; exact r.2.2.1) hg6 (fun q hq => (sk.1 q hq).1) (b := b) (r := k) (m := m) (by omega) hk (by rw [n1 68 (by decide) (by decide)]; exact hz) hm
    have hsw : soR (e2 72) (e2 73) g (e2 81) b (fun t => e2 69 (40 * k + t)) m = qkd σ g i b k m j := by
      have rc : ∀ n, rR (e2 72) (e2 73) g (e2 81) n b = rR (e2 72) (e2 73) g (σ 74) n b := fun n => rR_c hg6 sk (fun q hq => by rw [n81, cpy_at _ _ (by omega)]) (by rw [n81, cpy_at _ _ (by decide)]) (by rw [n81, cpy_at _ _ (by decide)]) n b hb
      have e3 : qkd σ g i b k m j = soR (e2 72) (e2 73) g (σ 74) b (fun t => e2 69 (40 * k + t)) m := by
        rw [n1 73 (by decide) (by decide), ncell, n1 69 (by decide) (by decide)]; rfl
      rw [e3]
      refine propext ⟨fun h t ht => ?_, fun h t ht => ?_⟩
      · rw [← rc]; exact h t ht
      · rw [rc]; exact h t ht
    rw [hsw] at is_
    have q : ((5 : Int32) < nI (j + 0)) = False := nnl (a := 5) (b := j + 0) (by omega) (by omega)
    refine ⟨va_up e2 81 (rR (e2 72) (e2 73) g (e2 81) m), ⟨fun c a b => by rw [vn a]; exact n1 c a b, nI (j + 0), by rw [vn (by decide)]; exact ncell⟩, ?_⟩
    by_cases hp : qkd σ g i b k m j
    · rw [bi_t hp] at is_
      rw [bq_t hp]
      rw [i6_kinds_31]
      simp only [Nat.reduceAdd, i6_kinds_33, i6_kinds_34, i6_kinds_37, i6_kinds_38, i6_kinds_41, i6_kinds_42, i6_kinds_44, i6_kinds_45, i6_kinds_46, i6_kinds_49, i6_kinds_51, i6_kinds_52, i6_kinds_53, i6_kinds_54, i6_kinds_57, i6_kinds_60, i6_kinds_61, i6_kinds_63, i6_kinds_64, i6_kinds_67, i6_kinds_68, i6_kinds_69, i6_kinds_71, i6_kinds_74, k_72, l_72, hSi, hCi, q, z, as_, is_, pK_i, pK_v, n10, if_true, if_false, not_true_eq_false, not_false_eq_true, true_or, or_true, nI_1, sh]
      all_goals rfl
    · rw [bi_f hp] at is_
      rw [bq_f hp]
      rw [i6_kinds_31]
      simp only [Nat.reduceAdd, i6_kinds_33, i6_kinds_34, i6_kinds_37, i6_kinds_38, i6_kinds_41, i6_kinds_42, i6_kinds_44, i6_kinds_45, i6_kinds_46, i6_kinds_49, i6_kinds_51, i6_kinds_52, i6_kinds_53, i6_kinds_54, i6_kinds_57, i6_kinds_60, i6_kinds_61, i6_kinds_63, i6_kinds_64, i6_kinds_67, i6_kinds_68, i6_kinds_69, i6_kinds_71, i6_kinds_74, k_72, l_72, hSi, hCi, q, z, as_, is_, pK_i, pK_v, if_true, if_false, not_true_eq_false, not_false_eq_true, true_or, or_true, nI_1, Int32.or_zero]
      all_goals rfl))
  have k1 := key σ ⟨fun _ _ _ => rfl, σ 72 i, (ui _ _).symm⟩
  rw [Nat.zero_add] at k1
  exact k1
theorem op_kinds {i b r : Int32} : opI L xs S (fun M => pX 77 0 [.ref 0, .int i, .int b, .int r, .null, .null, .null] [] M 85 S) (fun M => pX 199 0 [.ref 67, .int i, .int b, .int r, .null, .null, .null, .null] [] M 85 S) := by
  intro g d σ τ R
  have hg6 := R.1.1
  by_cases hi : inb i g
  · obtain ⟨j, hj, rfl⟩ := inb_of hi (by omega)
    have h : 0 < g := by omega
    have hG := h4_hasGate (L := L) (xs := xs) (τ := τ) (S := S) R.1 (i := nI j)
    rw [bi_t hi] at hG
    have hSi : ∀ {α : Type} {a b : α}, ifb (nI j) 6 a b = a := ifb_i (show j < 6 by omega) (by decide)
    have hCi := cl (show j ≤ 5000 by omega)
    rcases refS (L := L) (xs := xs) (S := S) R b r with ⟨x, σ1, σ2, hx, p1, p2, R2, g1⟩ | ⟨h, bj, k, m, hb, rfl, hk, rfl, hz, hm1, hm10, p1, p2⟩
    · have g2 : σ1 67 4 = nI g := g1.trans R.1.2.2.1
      refine op_of (v := x) (σ1 := σ1) (τ1 := τ) ?_ ?_ R2
      · simp only [Nat.reduceAdd, i5_kinds_0, i5_kinds_1, i5_kinds_2, i5_kinds_5, i5_kinds_8, i5_kinds_9, i5_kinds_12, i5_kinds_13, i5_kinds_14, i5_kinds_17, i5_kinds_19, i5_kinds_21, i5_kinds_24, i5_kinds_26, i5_kinds_27, i5_kinds_28, i5_kinds_30, i5_kinds_31, hG, p1, k_3, k_4, pK_i, hx, if_true, if_false, not_true_eq_false, not_false_eq_true, true_or, or_true]
      · simp only [Nat.reduceAdd, i6_kinds_0, i6_kinds_1, i6_kinds_2, i6_kinds_3, i6_kinds_4, i6_kinds_7, i6_kinds_9, i6_kinds_11, i6_kinds_14, i6_kinds_16, i6_kinds_17, i6_kinds_18, i6_kinds_21, i6_kinds_22, i6_kinds_23, i6_kinds_25, i6_kinds_26, i6_kinds_28, i6_kinds_29, i6_refusedOf_0, i6_refusedOf_1, i6_refusedOf_4, i6_refusedOf_7, i6_refusedOf_9, i6_refusedOf_10, i6_refusedOf_11, i6_refusedOf_12, i6_refusedOf_15, i6_refusedOf_18, i6_refusedOf_19, i6_refusedOf_20, i6_refusedOf_21, i6_refusedOf_24, i6_refusedOf_27, i6_refusedOf_28, g2, gN0 hg6, s6_isGate g2 hg6, p2, pK_i, bi_0, hx, h, hi, if_true, if_false, not_true_eq_false, not_false_eq_true, true_or, or_true]
    · obtain ⟨σ1, ag1, p3⟩ := kindsC (L := L) (xs := xs) (τ := τ) (S := S) R hj hb hk hz (by omega)
      have rA := qN_agr ag1 R.1
      obtain ⟨σ2, ag2, p4⟩ := kindsR (L := L) (xs := xs) (τ := τ) (S := S) rA hj hb hk (m := m) (by rw [ag1.1 68 (by unfold scr; omega) (by decide)]; exact hz) (by omega)
      have ew : qkd σ1 g j bj k m = qkd σ g j bj k m := by
        unfold qkd
        rw [ag1.1 72 (by unfold scr; omega) (by decide), ag1.1 73 (by unfold scr; omega) (by decide), ag1.1 74 (by unfold scr; omega) (by decide), ag1.1 69 (by unfold scr; omega) (by decide)]
      rw [ew] at p4
      have g2 := rA.2.2.1
      have rf := p2 σ1 τ ag1.2.1 (ag1.1 68 (by unfold scr; omega) (by decide)) (ag1.1 69 (by unfold scr; omega) (by decide))
      refine op_of (σ1 := σ1) (τ1 := τ) (σ2 := σ2) (τ2 := τ) (v := bq (qkd σ g j bj k m) 0 6) ?_ ?_ (Rel_agr ag2 (Rel_agr ag1 R))
      · simp only [Nat.reduceAdd, i5_kinds_0, i5_kinds_1, i5_kinds_2, i5_kinds_5, i5_kinds_8, i5_kinds_9, i5_kinds_12, i5_kinds_13, i5_kinds_14, i5_kinds_17, i5_kinds_19, i5_kinds_21, i5_kinds_24, i5_kinds_26, i5_kinds_27, i5_kinds_28, i5_kinds_30, i5_kinds_31, hG, p1, k_3, k_4, pK_i, if_true, if_false, not_true_eq_false, not_false_eq_true, true_or, or_true]
        exact p3
      · simp only [Nat.reduceAdd, i6_kinds_0, i6_kinds_1, i6_kinds_2, i6_kinds_3, i6_kinds_4, i6_kinds_7, i6_kinds_9, i6_kinds_11, i6_kinds_14, i6_kinds_16, i6_kinds_17, i6_kinds_18, i6_kinds_21, i6_kinds_22, i6_kinds_23, i6_kinds_25, i6_kinds_26, i6_kinds_28, i6_kinds_29, i6_refusedOf_0, i6_refusedOf_1, i6_refusedOf_4, i6_refusedOf_7, i6_refusedOf_9, i6_refusedOf_10, i6_refusedOf_11, i6_refusedOf_12, i6_refusedOf_15, i6_refusedOf_18, i6_refusedOf_19, i6_refusedOf_20, i6_refusedOf_21, i6_refusedOf_24, i6_refusedOf_27, i6_refusedOf_28, g2, gN0 hg6, s6_isGate g2 hg6, rf, k_72, l_72, hSi, hCi, pK_i, bi_0, h, hi, if_true, if_false, not_true_eq_false, not_false_eq_true, true_or, or_true]
        exact p4
  · have hG := h4_hasGate (L := L) (xs := xs) (τ := τ) (S := S) R.1 (i := i)
    rw [bi_f hi] at hG
    by_cases h : 0 < g
    · apply op_of
      · simp only [Nat.reduceAdd, i5_kinds_0, i5_kinds_1, i5_kinds_2, i5_kinds_5, i5_kinds_8, i5_kinds_9, i5_kinds_12, i5_kinds_13, i5_kinds_14, i5_kinds_17, i5_kinds_19, i5_kinds_21, i5_kinds_24, i5_kinds_26, i5_kinds_27, i5_kinds_28, i5_kinds_30, i5_kinds_31, hG, refS0 R.1, k_3, k_4, pK_i, h, n91, if_true, if_false, not_true_eq_false, not_false_eq_true, true_or, or_true]; rfl
      · simp only [Nat.reduceAdd, i6_kinds_0, i6_kinds_1, i6_kinds_2, i6_kinds_3, i6_kinds_4, i6_kinds_7, i6_kinds_9, i6_kinds_11, i6_kinds_14, i6_kinds_16, i6_kinds_17, i6_kinds_18, i6_kinds_21, i6_kinds_22, i6_kinds_23, i6_kinds_25, i6_kinds_26, i6_kinds_28, i6_kinds_29, i6_refusedOf_0, i6_refusedOf_1, i6_refusedOf_4, i6_refusedOf_7, i6_refusedOf_9, i6_refusedOf_10, i6_refusedOf_11, i6_refusedOf_12, i6_refusedOf_15, i6_refusedOf_18, i6_refusedOf_19, i6_refusedOf_20, i6_refusedOf_21, i6_refusedOf_24, i6_refusedOf_27, i6_refusedOf_28, R.1.2.2.1, gN0 hg6, s6_isGate R.1.2.2.1 hg6, pK_i, bi_0, h, hi, n91, if_true, if_false, not_true_eq_false, not_false_eq_true, true_or, or_true]; rfl
      · exact R
    · apply op_of
      · simp only [Nat.reduceAdd, i5_kinds_0, i5_kinds_1, i5_kinds_2, i5_kinds_5, i5_kinds_8, i5_kinds_9, i5_kinds_12, i5_kinds_13, i5_kinds_14, i5_kinds_17, i5_kinds_19, i5_kinds_21, i5_kinds_24, i5_kinds_26, i5_kinds_27, i5_kinds_28, i5_kinds_30, i5_kinds_31, hG, refS0 R.1, k_3, k_4, pK_i, h, n94, if_true, if_false, not_true_eq_false, not_false_eq_true, true_or, or_true]; rfl
      · simp only [Nat.reduceAdd, i6_kinds_0, i6_kinds_1, i6_kinds_2, i6_kinds_3, i6_kinds_4, i6_kinds_7, i6_kinds_9, i6_kinds_11, i6_kinds_14, i6_kinds_16, i6_kinds_17, i6_kinds_18, i6_kinds_21, i6_kinds_22, i6_kinds_23, i6_kinds_25, i6_kinds_26, i6_kinds_28, i6_kinds_29, i6_refusedOf_0, i6_refusedOf_1, i6_refusedOf_4, i6_refusedOf_7, i6_refusedOf_9, i6_refusedOf_10, i6_refusedOf_11, i6_refusedOf_12, i6_refusedOf_15, i6_refusedOf_18, i6_refusedOf_19, i6_refusedOf_20, i6_refusedOf_21, i6_refusedOf_24, i6_refusedOf_27, i6_refusedOf_28, R.1.2.2.1, gN0 hg6, pK_i, bi_0, h, n94, if_true, if_false, not_true_eq_false, not_false_eq_true, true_or, or_true]; rfl
      · exact R
end DT
