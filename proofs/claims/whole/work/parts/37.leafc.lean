/-! THE PROGRAM, small methods, going on -/
def fC (σ : Nat → Nat → Int32) (j : Nat) : Nat → Nat → Int32 := va_up (va_up σ 0 (upd (σ 0) 9 (nI j))) 22 (upd (σ 22) j (σ 22 j + 1))
def fil (f : Nat → Int32) (v : Int32) (m : Nat) : Nat → Int32 := fun j => if j < m then v else f j
theorem fil_0 (f : Nat → Int32) (v : Int32) : fil f v 0 = f := by funext j; unfold fil; simp
theorem fil_s (f : Nat → Int32) (v : Int32) (m : Nat) : fil f v (m + 1) = upd (fil f v m) m v := by
  funext j
  by_cases h : j = m
  · subst h; rw [us]; unfold fil; simp
  · rw [un h]; unfold fil
    by_cases h2 : j < m
    · rw [if_pos h2, if_pos (by omega)]
    · rw [if_neg h2, if_neg (by omega)]
theorem ro_k {r : Nat} (h : r < 6) : isK 1 (23 + 2 * r) := by
  have : r = 0 ∨ r = 1 ∨ r = 2 ∨ r = 3 ∨ r = 4 ∨ r = 5 := by omega
  rcases this with rfl | rfl | rfl | rfl | rfl | rfl <;> exact ⟨by decide +kernel, by decide⟩
theorem ro_p {r : Nat} (h : r < 6) : isK 6 (23 + 2 * r + 1) := by
  have : r = 0 ∨ r = 1 ∨ r = 2 ∨ r = 3 ∨ r = 4 ∨ r = 5 := by omega
  rcases this with rfl | rfl | rfl | rfl | rfl | rfl <;> exact ⟨by decide +kernel, by decide⟩
theorem ro_l {r : Nat} (h : r < 6) : m_len (23 + 2 * r + 1) = 40 := by
  have : r = 0 ∨ r = 1 ∨ r = 2 ∨ r = 3 ∨ r = 4 ∨ r = 5 := by omega
  rcases this with rfl | rfl | rfl | rfl | rfl | rfl <;> decide +kernel
theorem te_k {r : Nat} (h : r < 4) : isK 1 (35 + 2 * r) := by
  have : r = 0 ∨ r = 1 ∨ r = 2 ∨ r = 3 := by omega
  rcases this with rfl | rfl | rfl | rfl <;> exact ⟨by decide +kernel, by decide⟩
theorem te_p {r : Nat} (h : r < 4) : isK 6 (35 + 2 * r + 1) := by
  have : r = 0 ∨ r = 1 ∨ r = 2 ∨ r = 3 := by omega
  rcases this with rfl | rfl | rfl | rfl <;> exact ⟨by decide +kernel, by decide⟩
theorem te_l {r : Nat} (h : r < 4) : m_len (35 + 2 * r + 1) = 60 := by
  have : r = 0 ∨ r = 1 ∨ r = 2 ∨ r = 3 := by omega
  rcases this with rfl | rfl | rfl | rfl <;> decide +kernel
theorem br_k {k : Nat} (h : k < 3) : isK 0 (43 + 8 * k) := by
  have : k = 0 ∨ k = 1 ∨ k = 2 := by omega
  rcases this with rfl | rfl | rfl <;> exact ⟨by decide +kernel, by decide⟩
theorem br_s {k : Nat} (h : k < 3) : stand (43 + 8 * k + 1) := by
  have : k = 0 ∨ k = 1 ∨ k = 2 := by omega
  rcases this with rfl | rfl | rfl
  · exact Or.inr (Or.inr (Or.inl rfl))
  · exact Or.inr (Or.inr (Or.inr (Or.inl rfl)))
  · exact Or.inr (Or.inr (Or.inr (Or.inr rfl)))
def thC (σ : Nat → Nat → Int32) (k0 : Nat) : Nat → Int32
  | 0 => 0
  | i + 1 => if σ (k0 + 2 * i) 1 = -1 then thC σ k0 i else thC σ k0 i + 1
def hkC (σ : Nat → Nat → Int32) : Nat → Int32
  | 0 => 0
  | i + 1 => if 0 < σ (43 + 8 * i + 1) 3 then hkC σ i + 1 else hkC σ i
def ae (f : Nat → Int32) (x : Int32) : Nat → Int32
  | 0 => x
  | i + 1 => ae f x i &&& f i
def an (f : Nat → Int32) (x : Int32) : Nat → Int32
  | 0 => x
  | i + 1 => an f x i &&& (f i ^^^ (-1))
noncomputable def tly (t0 v : Nat → Int32) : Nat → Nat → Int32
  | 0 => t0
  | i + 1 => @ite _ (inb (v i) 61) (Classical.propDecidable _) (upd (tly t0 v i) (v i).toNatClampNeg (tly t0 v i (v i).toNatClampNeg + 1)) (tly t0 v i)
noncomputable def gpm (t0 v : Nat → Int32) : Nat → Int32
  | 0 => 0
  | i + 1 => @ite _ (inb (v i) 61) (Classical.propDecidable _) (imx (gpm t0 v i) (tly t0 v i (v i).toNatClampNeg + 1)) (gpm t0 v i)
section C5
variable {L : Nat} {xs : Nat → Int32} {σ : Nat → Nat → Int32} {τ : Nat → Nat → Int64} {S s g : Nat}
theorem s5_refuse {j : Nat} (h1 : 1 ≤ j) (h5 : j ≤ 5) : pX 121 0 [.ref 0, .int (nI j)] [] (mm L xs σ τ) 85 S = some (some (.int (-3)), mm L xs (fC σ j) τ, 85, S) := by
  have a : (nI j < 1) = False := nnl (a := j) (b := 1) h1 (by omega)
  have b : ((5 : Int32) < nI j) = False := nnl (a := 5) (b := j) h5 (by omega)
  unfold fC
  simp only [Nat.reduceAdd, i5_refuse_0, i5_refuse_1, i5_refuse_2, i5_refuse_5, i5_refuse_6, i5_refuse_7, i5_refuse_10, i5_refuse_11, i5_refuse_12, i5_refuse_15, i5_refuse_16, i5_refuse_19, i5_refuse_20, i5_refuse_21, i5_refuse_22, i5_refuse_23, i5_refuse_24, i5_refuse_25, i5_refuse_27, a, b, if_false, k_22, l_22, vn (show 22 ≠ 0 by decide), ifb_i (show j < 6 by omega) (by decide), cl (show j ≤ 5000 by omega)]
theorem rf1 : pX 121 0 [.ref 0, .int 1] [] (mm L xs σ τ) 85 S = some (some (.int (-3)), mm L xs (fC σ 1) τ, 85, S) := s5_refuse (j := 1) (by decide) (by decide)
theorem rf2 : pX 121 0 [.ref 0, .int 2] [] (mm L xs σ τ) 85 S = some (some (.int (-3)), mm L xs (fC σ 2) τ, 85, S) := s5_refuse (j := 2) (by decide) (by decide)
theorem rf3 : pX 121 0 [.ref 0, .int 3] [] (mm L xs σ τ) 85 S = some (some (.int (-3)), mm L xs (fC σ 3) τ, 85, S) := s5_refuse (j := 3) (by decide) (by decide)
theorem rf4 : pX 121 0 [.ref 0, .int 4] [] (mm L xs σ τ) 85 S = some (some (.int (-3)), mm L xs (fC σ 4) τ, 85, S) := s5_refuse (j := 4) (by decide) (by decide)
theorem rf5 : pX 121 0 [.ref 0, .int 5] [] (mm L xs σ τ) 85 S = some (some (.int (-3)), mm L xs (fC σ 5) τ, 85, S) := s5_refuse (j := 5) (by decide) (by decide)
theorem s5_tell {v : Int32} : pX 122 0 [.ref 0, .int v] [] (mm L xs σ τ) 85 S = some (some (.int 1), mm L xs (va_up σ 0 (upd (σ 0) 10 v)) τ, 85, S) := by
  simp only [Nat.reduceAdd, i5_tell_0, i5_tell_1, i5_tell_2, i5_tell_5, i5_tell_6]
theorem s5_kab {a0 a1 : Value} {j : Int32} {st : List Value} (hj : inb j 6) : pX 97 20 [a0, a1] (.int j :: .ref 1001 :: st) (mm L xs σ τ) 85 S = pX 97 21 [a0, a1] (.int (pm_kab j.toNatClampNeg) :: st) (mm L xs σ τ) 85 S := mx_ialdK (by decide +kernel) hj
theorem s5_isOfKind {k w : Int32} (hk : kd6 k) (h0 : ¬ w = 0) (h9 : ¬ w = -9) : pX 97 0 [.int k, .int w] [] (mm L xs σ τ) 85 S = some (some (.int (bi (isaP k w))), mm L xs σ τ, 85, S) := by
  have q0 : ((0 : Int32) < 0) = False := by decide
  have hb : ∀ j, j < 6 → inb (nI j) 6 := fun j h => ib h (by decide)
  have e : ∀ j, j < 6 → k = nI j → (∀ v, pm_kab j = v → (v = w ↔ (w = 1 ∧ k = 4) ∨ (w = 2 ∧ k = 5))) → pX 97 0 [.int k, .int w] [] (mm L xs σ τ) 85 S = some (some (.int (bi (isaP k w))), mm L xs σ τ, 85, S) := by
    intro j hj hkj hv
    have hv := hv _ rfl
    have p1 : (nI j < 0) = False := eq_false (nI_pos (by omega))
    have p2 : ((5 : Int32) < nI j) = False := nnl (a := 5) (b := j) (by omega) (by decide)
    by_cases hw : k = w
    · rw [bi_t (show isaP k w from Or.inl hw)]
      subst hkj
      simp only [Nat.reduceAdd, i5_isOfKind_0, i5_isOfKind_1, i5_isOfKind_4, i5_isOfKind_5, i5_isOfKind_6, i5_isOfKind_9, i5_isOfKind_10, i5_isOfKind_11, i5_isOfKind_12, i5_isOfKind_13, i5_isOfKind_16, i5_isOfKind_19, i5_isOfKind_21, i5_isOfKind_22, i5_isOfKind_25, i5_isOfKind_26, i5_isOfKind_29, i5_isOfKind_30, p1, p2, hw, if_true, if_false, or_true]
      rw [← hw]
      simp only [p1, p2, if_true, if_false]
    · by_cases hq : pm_kab j = w
      · rw [bi_t (show isaP k w from Or.inr (hv.mp hq))]
        subst hkj
        simp only [Nat.reduceAdd, i5_isOfKind_0, i5_isOfKind_1, i5_isOfKind_4, i5_isOfKind_5, i5_isOfKind_6, i5_isOfKind_9, i5_isOfKind_10, i5_isOfKind_11, i5_isOfKind_12, i5_isOfKind_13, i5_isOfKind_16, i5_isOfKind_19, i5_isOfKind_21, i5_isOfKind_22, i5_isOfKind_25, i5_isOfKind_26, i5_isOfKind_29, i5_isOfKind_30, p1, p2, hw, if_true, if_false, s5_kab (hb j hj), cl (show j ≤ 5000 by omega), hq, or_true]
      · rw [bi_f (show ¬ isaP k w from fun q => q.elim hw (fun q => hq (hv.mpr q)))]
        subst hkj
        simp only [Nat.reduceAdd, i5_isOfKind_0, i5_isOfKind_1, i5_isOfKind_4, i5_isOfKind_5, i5_isOfKind_6, i5_isOfKind_9, i5_isOfKind_10, i5_isOfKind_11, i5_isOfKind_12, i5_isOfKind_13, i5_isOfKind_16, i5_isOfKind_19, i5_isOfKind_21, i5_isOfKind_22, i5_isOfKind_25, i5_isOfKind_26, i5_isOfKind_29, i5_isOfKind_30, p1, p2, hw, if_true, if_false, s5_kab (hb j hj), cl (show j ≤ 5000 by omega), hq, true_or]
  rcases hk with rfl | rfl | rfl | rfl | rfl | rfl
  · refine e 0 (by decide) rfl (fun v hv => ?_)
    subst hv
    constructor
    · intro h; exact absurd h.symm h9
    · rintro (h | h) <;> exact absurd h.2 (by decide)
  · refine e 1 (by decide) rfl (fun v hv => ?_)
    subst hv
    constructor
    · intro h; exact absurd h.symm h0
    · rintro (h | h) <;> exact absurd h.2 (by decide)
  · refine e 2 (by decide) rfl (fun v hv => ?_)
    subst hv
    constructor
    · intro h; exact absurd h.symm h0
    · rintro (h | h) <;> exact absurd h.2 (by decide)
  · refine e 3 (by decide) rfl (fun v hv => ?_)
    subst hv
    constructor
    · intro h; exact absurd h.symm h0
    · rintro (h | h) <;> exact absurd h.2 (by decide)
  · refine e 4 (by decide) rfl (fun v hv => ?_)
    subst hv
    constructor
    · intro h; exact Or.inl ⟨h.symm, rfl⟩
    · rintro (h | h)
      · exact h.1.symm
      · exact absurd h.2 (by decide)
  · refine e 5 (by decide) rfl (fun v hv => ?_)
    subst hv
    constructor
    · intro h; exact Or.inr ⟨h.symm, rfl⟩
    · rintro (h | h)
      · exact absurd h.2 (by decide)
      · exact h.1.symm
theorem s4_howManyAre (hs : stand s) (hg : σ s 3 = nI g) (hg6 : g ≤ 6) (hk : ∀ i, i < g → kd6 (σ (s + 1) i)) {w : Int32} (h0 : ¬ w = 0) (h9 : ¬ w = -9) : pX 46 0 [.ref s, .int w, .null, .null] [] (mm L xs σ τ) 85 S = some (some (.int (hmP (σ (s + 1)) w g)), mm L xs σ τ, 85, S) := by
  have key := lp (δ := Unit) g (fun j _ => pX 46 4 [.ref s, .int w, .int (hmP (σ (s + 1)) w j), .int (nI j)] [] (mm L xs σ τ) 85 S) (some (some (.int (hmP (σ (s + 1)) w g)), mm L xs σ τ, 85, S)) (fun _ => by
    simp only [Nat.reduceAdd, i4_howManyAre_0, i4_howManyAre_1, i4_howManyAre_2, i4_howManyAre_3, i4_howManyAre_4, i4_howManyAre_5, i4_howManyAre_6, i4_howManyAre_9, i4_howManyAre_12, i4_howManyAre_13, i4_howManyAre_16, i4_howManyAre_17, i4_howManyAre_18, i4_howManyAre_19, i4_howManyAre_22, i4_howManyAre_25, i4_howManyAre_28, i4_howManyAre_31, i4_howManyAre_34, i4_howManyAre_35, st_k hs, hg, Int32.lt_irrefl, if_false]) (fun j hj _ => ⟨(), by
    rw [i4_howManyAre_4]
    have h6 : j < 6 := by omega
    by_cases h : isaP (σ (s + 1) j) w
    · simp only [Nat.reduceAdd, i4_howManyAre_5, i4_howManyAre_6, i4_howManyAre_9, i4_howManyAre_12, i4_howManyAre_13, i4_howManyAre_16, i4_howManyAre_17, i4_howManyAre_18, i4_howManyAre_19, i4_howManyAre_22, i4_howManyAre_25, i4_howManyAre_28, i4_howManyAre_31, i4_howManyAre_34, i4_howManyAre_35, st_k hs, st_1 hs, st_l1 hs, hg, nlt hj (by omega), if_true, ifb_i h6 (by decide), cl (show j ≤ 5000 by omega), s5_isOfKind (hk j hj) h0 h9, pK_i, bi_0, h, not_true_eq_false, if_false, nI_1, hmP]
    · simp only [Nat.reduceAdd, i4_howManyAre_5, i4_howManyAre_6, i4_howManyAre_9, i4_howManyAre_12, i4_howManyAre_13, i4_howManyAre_16, i4_howManyAre_17, i4_howManyAre_18, i4_howManyAre_19, i4_howManyAre_22, i4_howManyAre_25, i4_howManyAre_28, i4_howManyAre_31, i4_howManyAre_34, i4_howManyAre_35, st_k hs, st_1 hs, st_l1 hs, hg, nlt hj (by omega), if_true, ifb_i h6 (by decide), cl (show j ≤ 5000 by omega), s5_isOfKind (hk j hj) h0 h9, pK_i, bi_0, h, not_false_eq_true, if_false, nI_1, hmP]⟩)
  have k := key ()
  simp only [hmP, nI_0] at k
  simp only [Nat.reduceAdd, i4_howManyAre_0, i4_howManyAre_1, i4_howManyAre_2, i4_howManyAre_3]
  exact k
theorem s3_add {n : Nat} (hn : σ 16 3 = nI n) (h64 : n < 64) {v : Int32} : pX 24 0 [.ref 16, .int v] [] (mm L xs σ τ) 85 S = some (none, mm L xs (va_up (va_up σ 17 (upd (σ 17) n v)) 16 (upd (σ 16) 3 (nI (n + 1)))) τ, 85, S) := by
  have a : (nI n < 64) = True := nlt (b := 64) h64 (by decide)
  simp only [Nat.reduceAdd, i3_add_0, i3_add_1, i3_add_4, i3_add_6, i3_add_9, i3_add_10, i3_add_13, i3_add_14, i3_add_17, i3_add_18, i3_add_19, i3_add_20, i3_add_21, i3_add_24, i3_add_25, i3_add_26, i3_add_29, k_16, k_17, l_17, hn, a, if_true, vn (show 16 ≠ 17 by decide), ifb_i h64 (by decide), cl (show n ≤ 5000 by omega), nI_1]
theorem s3_addWithLevels {n a : Nat} (hn : σ 16 3 = nI n) (h64 : n < 64) (ha : isK 6 a) (hl : m_len a = 7) {v : Int32} : pX 25 0 [.ref 16, .int v, .ref a] [] (mm L xs σ τ) 85 S = some (none, mm L xs (va_up (va_up (va_up σ 18 (va_cpy (σ a) (σ 18) 0 (7 * n) 7)) 17 (upd (σ 17) n v)) 16 (upd (σ 16) 3 (nI (n + 1)))) τ, 85, S) := by
  have q : (nI n < 64) = True := nlt (b := 64) h64 (by decide)
  have e7 : nI n * 7 = nI (7 * n) := by rw [show (7 : Int32) = nI 7 from rfl, pk_mul, Nat.mul_comm]
  have z0 : (0 : Int32).toNatClampNeg = 0 := rfl
  have z7 : (7 : Int32).toNatClampNeg = 7 := rfl
  have c : cpk a 18 0 (nI (7 * n)) 7 := by
    unfold cpk
    rw [hl, l_18, cl (show 7 * n ≤ 5000 by omega), z0, z7]
    exact ⟨by decide, nI_pos (by omega), by decide, by omega, by omega⟩
  have h' : (va_up σ 18 (va_cpy (σ a) (σ 18) 0 (7 * n) 7)) 16 3 = nI n := by rw [vn (by decide)]; exact hn
  simp only [Nat.reduceAdd, i3_addWithLevels_0, i3_addWithLevels_1, i3_addWithLevels_4, i3_addWithLevels_6, i3_addWithLevels_9, i3_addWithLevels_10, i3_addWithLevels_11, i3_addWithLevels_12, i3_addWithLevels_15, i3_addWithLevels_16, i3_addWithLevels_19, i3_addWithLevels_21, i3_addWithLevels_22, i3_addWithLevels_24, i3_addWithLevels_27, i3_addWithLevels_28, i3_addWithLevels_29, i3_addWithLevels_32, k_16, k_18, ha, hn, q, if_true, e7, c, z0, z7, cl (show 7 * n ≤ 5000 by omega), s3_add h' h64, pK_v, vn (show 17 ≠ 18 by decide), vn (show 16 ≠ 18 by decide)]
theorem s3_least {n : Nat} (hn : σ 16 3 = nI n) (h64 : n ≤ 64) : pX 26 0 [.ref 16] [] (mm L xs σ τ) 85 S = some (some (.int (if n = 0 then -9 else σ 17 0)), mm L xs σ τ, 85, S) := by
  have i0 : ∀ {α : Type} {a b : α}, ifb 0 64 a b = a := ifb_i (j := 0) (n := 64) (by decide) (by decide)
  have z0 : (0 : Int32).toNatClampNeg = 0 := rfl
  by_cases h : n = 0
  · subst h
    simp only [Nat.reduceAdd, i3_least_0, i3_least_1, i3_least_4, i3_least_7, i3_least_9, i3_least_12, i3_least_13, i3_least_16, i3_least_17, i3_least_18, k_16, hn, nI_0, if_true]
  · simp only [Nat.reduceAdd, i3_least_0, i3_least_1, i3_least_4, i3_least_7, i3_least_9, i3_least_12, i3_least_13, i3_least_16, i3_least_17, i3_least_18, k_16, k_17, l_17, hn, nI_ne0 (Nat.pos_of_ne_zero h) (show n < 2 ^ 31 by omega), h, if_false, i0, z0]
theorem s3_inEach {n : Nat} (hn : σ 16 3 = nI n) (h64 : n ≤ 64) {x : Int32} : pX 27 0 [.ref 16, .int x, .null, .null] [] (mm L xs σ τ) 85 S = some (some (.int (ae (σ 17) x n)), mm L xs σ τ, 85, S) := by
  have key := lp (δ := Unit) n (fun j _ => pX 27 4 [.ref 16, .int x, .int (ae (σ 17) x j), .int (nI j)] [] (mm L xs σ τ) 85 S) (some (some (.int (ae (σ 17) x n)), mm L xs σ τ, 85, S)) (fun _ => by
    simp only [Nat.reduceAdd, i3_inEach_0, i3_inEach_1, i3_inEach_2, i3_inEach_3, i3_inEach_4, i3_inEach_5, i3_inEach_6, i3_inEach_9, i3_inEach_12, i3_inEach_13, i3_inEach_14, i3_inEach_17, i3_inEach_18, i3_inEach_19, i3_inEach_20, i3_inEach_21, i3_inEach_24, i3_inEach_27, i3_inEach_28, k_16, hn, Int32.lt_irrefl, if_false]) (fun j hj _ => ⟨(), by
    rw [i3_inEach_4]
    simp only [Nat.reduceAdd, i3_inEach_5, i3_inEach_6, i3_inEach_9, i3_inEach_12, i3_inEach_13, i3_inEach_14, i3_inEach_17, i3_inEach_18, i3_inEach_19, i3_inEach_20, i3_inEach_21, i3_inEach_24, i3_inEach_27, i3_inEach_28, k_16, k_17, l_17, hn, nlt hj (by omega), if_true, ifb_i (show j < 64 by omega) (by decide), cl (show j ≤ 5000 by omega), nI_1, ae]⟩)
  have k := key ()
  simp only [ae, nI_0] at k
  simp only [Nat.reduceAdd, i3_inEach_0, i3_inEach_1, i3_inEach_2, i3_inEach_3]
  exact k
theorem s3_inNone {n : Nat} (hn : σ 16 3 = nI n) (h64 : n ≤ 64) {x : Int32} : pX 28 0 [.ref 16, .int x, .null, .null] [] (mm L xs σ τ) 85 S = some (some (.int (an (σ 17) x n)), mm L xs σ τ, 85, S) := by
  have key := lp (δ := Unit) n (fun j _ => pX 28 4 [.ref 16, .int x, .int (an (σ 17) x j), .int (nI j)] [] (mm L xs σ τ) 85 S) (some (some (.int (an (σ 17) x n)), mm L xs σ τ, 85, S)) (fun _ => by
    simp only [Nat.reduceAdd, i3_inNone_0, i3_inNone_1, i3_inNone_2, i3_inNone_3, i3_inNone_4, i3_inNone_5, i3_inNone_6, i3_inNone_9, i3_inNone_12, i3_inNone_13, i3_inNone_14, i3_inNone_17, i3_inNone_18, i3_inNone_19, i3_inNone_20, i3_inNone_21, i3_inNone_22, i3_inNone_23, i3_inNone_26, i3_inNone_29, i3_inNone_30, k_16, hn, Int32.lt_irrefl, if_false]) (fun j hj _ => ⟨(), by
    rw [i3_inNone_4]
    simp only [Nat.reduceAdd, i3_inNone_5, i3_inNone_6, i3_inNone_9, i3_inNone_12, i3_inNone_13, i3_inNone_14, i3_inNone_17, i3_inNone_18, i3_inNone_19, i3_inNone_20, i3_inNone_21, i3_inNone_22, i3_inNone_23, i3_inNone_26, i3_inNone_29, i3_inNone_30, k_16, k_17, l_17, hn, nlt hj (by omega), if_true, ifb_i (show j < 64 by omega) (by decide), cl (show j ≤ 5000 by omega), nI_1, an]⟩)
  have k := key ()
  simp only [an, nI_0] at k
  simp only [Nat.reduceAdd, i3_inNone_0, i3_inNone_1, i3_inNone_2, i3_inNone_3]
  exact k
theorem s3_greatestPart {n b : Nat} (hn : σ 16 3 = nI n) (h64 : n ≤ 64) (hb : b < 7) : pX 29 0 [.ref 16, .int (nI b), .null, .null, .null] [] (mm L xs σ τ) 85 S = some (some (.int (gpm (fil (σ 19) 0 61) (fun i => σ 18 (7 * i + b)) n)), mm L xs (va_up σ 19 (tly (fil (σ 19) 0 61) (fun i => σ 18 (7 * i + b)) n)) τ, 85, S) := by
  have key2 := lp (δ := Value) n (fun j d => pX 29 25 [.ref 16, .int (nI b), .int (gpm (fil (σ 19) 0 61) (fun i => σ 18 (7 * i + b)) j), .int (nI j), d] [] (mm L xs (va_up σ 19 (tly (fil (σ 19) 0 61) (fun i => σ 18 (7 * i + b)) j)) τ) 85 S) (some (some (.int (gpm (fil (σ 19) 0 61) (fun i => σ 18 (7 * i + b)) n)), mm L xs (va_up σ 19 (tly (fil (σ 19) 0 61) (fun i => σ 18 (7 * i + b)) n)) τ, 85, S)) (fun _ => by
    simp only [Nat.reduceAdd, i3_greatestPart_25, i3_greatestPart_26, i3_greatestPart_27, i3_greatestPart_30, i3_greatestPart_33, i3_greatestPart_34, i3_greatestPart_37, i3_greatestPart_38, i3_greatestPart_40, i3_greatestPart_41, i3_greatestPart_42, i3_greatestPart_43, i3_greatestPart_44, i3_greatestPart_46, i3_greatestPart_48, i3_greatestPart_51, i3_greatestPart_54, i3_greatestPart_55, i3_greatestPart_58, i3_greatestPart_60, i3_greatestPart_61, i3_greatestPart_62, i3_greatestPart_63, i3_greatestPart_64, i3_greatestPart_65, i3_greatestPart_66, i3_greatestPart_67, i3_greatestPart_70, i3_greatestPart_72, i3_greatestPart_73, i3_greatestPart_76, i3_greatestPart_77, i3_greatestPart_80, i3_greatestPart_83, i3_greatestPart_84, k_16, hn, vn (show 16 ≠ 19 by decide), Int32.lt_irrefl, if_false]) (fun j hj d => ⟨.int (σ 18 (7 * j + b)), by
    rw [i3_greatestPart_25]
    have e7 : nI j * 7 = nI (7 * j) := by rw [show (7 : Int32) = nI 7 from rfl, pk_mul, Nat.mul_comm]
    by_cases h : inb (σ 18 (7 * j + b)) 61
    · simp only [Nat.reduceAdd, i3_greatestPart_26, i3_greatestPart_27, i3_greatestPart_30, i3_greatestPart_33, i3_greatestPart_34, i3_greatestPart_37, i3_greatestPart_38, i3_greatestPart_40, i3_greatestPart_41, i3_greatestPart_42, i3_greatestPart_43, i3_greatestPart_44, i3_greatestPart_46, i3_greatestPart_48, i3_greatestPart_51, i3_greatestPart_54, i3_greatestPart_55, i3_greatestPart_58, i3_greatestPart_60, i3_greatestPart_61, i3_greatestPart_62, i3_greatestPart_63, i3_greatestPart_64, i3_greatestPart_65, i3_greatestPart_66, i3_greatestPart_67, i3_greatestPart_70, i3_greatestPart_72, i3_greatestPart_73, i3_greatestPart_76, i3_greatestPart_77, i3_greatestPart_80, i3_greatestPart_83, i3_greatestPart_84, k_16, k_18, l_18, k_19, l_19, hn, vn (show 16 ≠ 19 by decide), vn (show 18 ≠ 19 by decide), vs, vu, us, nlt hj (by omega), if_true, e7, nI_add, ifb_i (show 7 * j + b < 448 by omega) (by decide), cl (show 7 * j + b ≤ 5000 by omega), s5_isLevel, pK_i, bi_0, h, ifb_t h, not_true_eq_false, if_false, nI_1, gpm, tly]
    · simp only [Nat.reduceAdd, i3_greatestPart_26, i3_greatestPart_27, i3_greatestPart_30, i3_greatestPart_33, i3_greatestPart_34, i3_greatestPart_37, i3_greatestPart_38, i3_greatestPart_40, i3_greatestPart_41, i3_greatestPart_42, i3_greatestPart_43, i3_greatestPart_44, i3_greatestPart_46, i3_greatestPart_48, i3_greatestPart_51, i3_greatestPart_54, i3_greatestPart_55, i3_greatestPart_58, i3_greatestPart_60, i3_greatestPart_61, i3_greatestPart_62, i3_greatestPart_63, i3_greatestPart_64, i3_greatestPart_65, i3_greatestPart_66, i3_greatestPart_67, i3_greatestPart_70, i3_greatestPart_72, i3_greatestPart_73, i3_greatestPart_76, i3_greatestPart_77, i3_greatestPart_80, i3_greatestPart_83, i3_greatestPart_84, k_16, k_18, l_18, hn, vn (show 16 ≠ 19 by decide), vn (show 18 ≠ 19 by decide), vs, vu, us, nlt hj (by omega), if_true, e7, nI_add, ifb_i (show 7 * j + b < 448 by omega) (by decide), cl (show 7 * j + b ≤ 5000 by omega), s5_isLevel, pK_i, bi_0, h, not_false_eq_true, if_false, nI_1, gpm, tly]⟩)
  have key1 := lp (δ := Unit) 61 (fun j _ => pX 29 2 [.ref 16, .int (nI b), .int (nI j), .null, .null] [] (mm L xs (va_up σ 19 (fil (σ 19) 0 j)) τ) 85 S) (some (some (.int (gpm (fil (σ 19) 0 61) (fun i => σ 18 (7 * i + b)) n)), mm L xs (va_up σ 19 (tly (fil (σ 19) 0 61) (fun i => σ 18 (7 * i + b)) n)) τ, 85, S)) (fun _ => by
    have k := key2 .null
    simp only [gpm, tly, nI_0] at k
    rw [show nI 61 = 61 from rfl]
    simp only [Nat.reduceAdd, i3_greatestPart_2, i3_greatestPart_3, i3_greatestPart_5, i3_greatestPart_21, i3_greatestPart_22, i3_greatestPart_23, i3_greatestPart_24, Int32.lt_irrefl, if_false]
    exact k) (fun j hj _ => ⟨(), by
    rw [i3_greatestPart_2]
    have a : (nI j < 61) = True := nlt (b := 61) hj (by decide)
    simp only [Nat.reduceAdd, i3_greatestPart_3, i3_greatestPart_5, i3_greatestPart_8, i3_greatestPart_9, i3_greatestPart_12, i3_greatestPart_13, i3_greatestPart_14, i3_greatestPart_15, i3_greatestPart_18, i3_greatestPart_21, i3_greatestPart_22, i3_greatestPart_23, i3_greatestPart_24, i3_greatestPart_25, i3_greatestPart_26, i3_greatestPart_27, i3_greatestPart_30, i3_greatestPart_33, i3_greatestPart_34, i3_greatestPart_37, i3_greatestPart_38, i3_greatestPart_40, i3_greatestPart_41, i3_greatestPart_42, i3_greatestPart_43, i3_greatestPart_44, i3_greatestPart_46, i3_greatestPart_48, i3_greatestPart_51, i3_greatestPart_54, i3_greatestPart_55, i3_greatestPart_58, i3_greatestPart_60, i3_greatestPart_61, i3_greatestPart_62, i3_greatestPart_63, i3_greatestPart_64, i3_greatestPart_65, i3_greatestPart_66, i3_greatestPart_67, i3_greatestPart_70, i3_greatestPart_72, i3_greatestPart_73, i3_greatestPart_76, i3_greatestPart_77, i3_greatestPart_80, i3_greatestPart_83, i3_greatestPart_84, k_16, k_19, l_19, a, if_true, ifb_i hj (by decide), cl (show j ≤ 5000 by omega), vs, vu, fil_s, nI_1]⟩)
  have k := key1 ()
  simp only [fil_0, nI_0, m_up_id] at k
  simp only [Nat.reduceAdd, i3_greatestPart_0, i3_greatestPart_1]
  exact k
theorem s5_widthTogether (hg : σ 4 3 = nI g) (hg6 : g ≤ 6) {b : Int32} : pX 108 0 [.ref 0, .int b, .null, .null] [] (mm L xs σ τ) 85 S = some (some (.int (wof (σ 6) b g)), mm L xs σ τ, 85, S) := by
  have key := lp (δ := Unit) g (fun j _ => pX 108 4 [.ref 0, .int b, .int (wof (σ 6) b j), .int (nI j)] [] (mm L xs σ τ) 85 S) (some (some (.int (wof (σ 6) b g)), mm L xs σ τ, 85, S)) (fun _ => by
    simp only [Nat.reduceAdd, i5_widthTogether_0, i5_widthTogether_1, i5_widthTogether_2, i5_widthTogether_3, i5_widthTogether_4, i5_widthTogether_5, i5_widthTogether_6, i5_widthTogether_9, i5_widthTogether_12, i5_widthTogether_15, i5_widthTogether_18, i5_widthTogether_19, i5_widthTogether_20, i5_widthTogether_23, i5_widthTogether_26, i5_widthTogether_27, i5_widthTogether_28, i5_widthTogether_31, i5_widthTogether_34, i5_widthTogether_37, i5_widthTogether_38, i5_widthTogether_39, i5_widthTogether_40, i5_widthTogether_41, i5_widthTogether_44, i5_widthTogether_47, i5_widthTogether_48, k_3, k_4, hg, Int32.lt_irrefl, if_false]) (fun j hj _ => ⟨(), by
    rw [i5_widthTogether_4]
    have h6 : j < 6 := by omega
    by_cases h : hb b (nI j)
    · simp only [Nat.reduceAdd, i5_widthTogether_5, i5_widthTogether_6, i5_widthTogether_9, i5_widthTogether_12, i5_widthTogether_15, i5_widthTogether_18, i5_widthTogether_19, i5_widthTogether_20, i5_widthTogether_23, i5_widthTogether_26, i5_widthTogether_27, i5_widthTogether_28, i5_widthTogether_31, i5_widthTogether_34, i5_widthTogether_37, i5_widthTogether_38, i5_widthTogether_39, i5_widthTogether_40, i5_widthTogether_41, i5_widthTogether_44, i5_widthTogether_47, i5_widthTogether_48, k_3, k_4, k_6, l_6, hg, nlt hj (by omega), if_true, s5_hasBit, ifb_i h6 (by decide), cl (show j ≤ 5000 by omega), pK_i, bi_0, h, not_true_eq_false, if_false, nI_1, wof]
    · simp only [Nat.reduceAdd, i5_widthTogether_5, i5_widthTogether_6, i5_widthTogether_9, i5_widthTogether_12, i5_widthTogether_15, i5_widthTogether_18, i5_widthTogether_19, i5_widthTogether_20, i5_widthTogether_23, i5_widthTogether_26, i5_widthTogether_27, i5_widthTogether_28, i5_widthTogether_31, i5_widthTogether_34, i5_widthTogether_37, i5_widthTogether_38, i5_widthTogether_39, i5_widthTogether_40, i5_widthTogether_41, i5_widthTogether_44, i5_widthTogether_47, i5_widthTogether_48, k_3, k_4, hg, nlt hj (by omega), if_true, s5_hasBit, pK_i, bi_0, h, not_false_eq_true, if_false, nI_1, wof]⟩)
  have k := key ()
  simp only [wof, nI_0] at k
  simp only [Nat.reduceAdd, i5_widthTogether_0, i5_widthTogether_1, i5_widthTogether_2, i5_widthTogether_3]
  exact k
theorem s5_howManyThere1 : pX 125 0 [.ref 1, .null, .null, .null, .null, .null] [] (mm L xs σ τ) 85 S = some (some (.int (thC σ 23 6)), mm L xs σ τ, 85, S) := by
  have key := lp (δ := Value) 6 (fun j d => pX 125 10 [.ref 1, .int (thC σ 23 j), .ref 1, .int 6, .int (nI j), d] [] (mm L xs σ τ) 85 S) (some (some (.int (thC σ 23 6)), mm L xs σ τ, 85, S)) (fun d => by
    rw [show nI 6 = 6 from rfl]
    simp only [Nat.reduceAdd, i5_howManyThere_10, i5_howManyThere_12, i5_howManyThere_13, i5_howManyThere_39, i5_howManyThere_40, Int32.lt_irrefl, if_false]) (fun j hj d => ⟨.ref (23 + 2 * j), by
    rw [i5_howManyThere_10]
    have a : (nI j < 6) = True := nlt (b := 6) hj (by decide)
    by_cases h : σ (23 + 2 * j) 1 = -1
    · simp only [Nat.reduceAdd, i5_howManyThere_12, i5_howManyThere_13, i5_howManyThere_16, i5_howManyThere_17, i5_howManyThere_19_r1, i5_howManyThere_19_r2, i5_howManyThere_19_r11, i5_howManyThere_20, i5_howManyThere_22, i5_howManyThere_24, i5_howManyThere_27, i5_howManyThere_30, i5_howManyThere_33, i5_howManyThere_36, i5_howManyThere_39, i5_howManyThere_40, i2_isThere_0, i2_isThere_1, i2_isThere_4, i2_isThere_5, i2_isThere_8, i2_isThere_9, i2_isThere_12, i2_isThere_13, ro_k hj, a, if_true, ifb_i hj (by decide), cl (show j ≤ 5000 by omega), pK_i, h, if_false, true_or, or_true, nI_1, thC]
    · simp only [Nat.reduceAdd, i5_howManyThere_12, i5_howManyThere_13, i5_howManyThere_16, i5_howManyThere_17, i5_howManyThere_19_r1, i5_howManyThere_19_r2, i5_howManyThere_19_r11, i5_howManyThere_20, i5_howManyThere_22, i5_howManyThere_24, i5_howManyThere_27, i5_howManyThere_30, i5_howManyThere_33, i5_howManyThere_36, i5_howManyThere_39, i5_howManyThere_40, i2_isThere_0, i2_isThere_1, i2_isThere_4, i2_isThere_5, i2_isThere_8, i2_isThere_9, i2_isThere_12, i2_isThere_13, ro_k hj, a, if_true, ifb_i hj (by decide), cl (show j ≤ 5000 by omega), pK_i, h, if_false, true_or, or_true, n10, nI_1, thC]⟩)
  have k := key .null
  simp only [thC, nI_0] at k
  simp only [Nat.reduceAdd, i5_howManyThere_0, i5_howManyThere_1, i5_howManyThere_2, i5_howManyThere_3, i5_howManyThere_4, i5_howManyThere_5, i5_howManyThere_5_r1, i5_howManyThere_5_r2, i5_howManyThere_5_r11, i5_howManyThere_5_r1000, i5_howManyThere_6, i5_howManyThere_7, i5_howManyThere_8]
  exact k
theorem s5_howManyThere2 : pX 125 0 [.ref 2, .null, .null, .null, .null, .null] [] (mm L xs σ τ) 85 S = some (some (.int (thC σ 35 4)), mm L xs σ τ, 85, S) := by
  have key := lp (δ := Value) 4 (fun j d => pX 125 10 [.ref 2, .int (thC σ 35 j), .ref 2, .int 4, .int (nI j), d] [] (mm L xs σ τ) 85 S) (some (some (.int (thC σ 35 4)), mm L xs σ τ, 85, S)) (fun d => by
    rw [show nI 4 = 4 from rfl]
    simp only [Nat.reduceAdd, i5_howManyThere_10, i5_howManyThere_12, i5_howManyThere_13, i5_howManyThere_39, i5_howManyThere_40, Int32.lt_irrefl, if_false]) (fun j hj d => ⟨.ref (35 + 2 * j), by
    rw [i5_howManyThere_10]
    have a : (nI j < 4) = True := nlt (b := 4) hj (by decide)
    by_cases h : σ (35 + 2 * j) 1 = -1
    · simp only [Nat.reduceAdd, i5_howManyThere_12, i5_howManyThere_13, i5_howManyThere_16, i5_howManyThere_17, i5_howManyThere_19_r1, i5_howManyThere_19_r2, i5_howManyThere_19_r11, i5_howManyThere_20, i5_howManyThere_22, i5_howManyThere_24, i5_howManyThere_27, i5_howManyThere_30, i5_howManyThere_33, i5_howManyThere_36, i5_howManyThere_39, i5_howManyThere_40, i2_isThere_0, i2_isThere_1, i2_isThere_4, i2_isThere_5, i2_isThere_8, i2_isThere_9, i2_isThere_12, i2_isThere_13, te_k hj, a, if_true, ifb_i hj (by decide), cl (show j ≤ 5000 by omega), pK_i, h, if_false, true_or, or_true, nI_1, thC]
    · simp only [Nat.reduceAdd, i5_howManyThere_12, i5_howManyThere_13, i5_howManyThere_16, i5_howManyThere_17, i5_howManyThere_19_r1, i5_howManyThere_19_r2, i5_howManyThere_19_r11, i5_howManyThere_20, i5_howManyThere_22, i5_howManyThere_24, i5_howManyThere_27, i5_howManyThere_30, i5_howManyThere_33, i5_howManyThere_36, i5_howManyThere_39, i5_howManyThere_40, i2_isThere_0, i2_isThere_1, i2_isThere_4, i2_isThere_5, i2_isThere_8, i2_isThere_9, i2_isThere_12, i2_isThere_13, te_k hj, a, if_true, ifb_i hj (by decide), cl (show j ≤ 5000 by omega), pK_i, h, if_false, true_or, or_true, n10, nI_1, thC]⟩)
  have k := key .null
  simp only [thC, nI_0] at k
  simp only [Nat.reduceAdd, i5_howManyThere_0, i5_howManyThere_1, i5_howManyThere_2, i5_howManyThere_3, i5_howManyThere_4, i5_howManyThere_5, i5_howManyThere_5_r1, i5_howManyThere_5_r2, i5_howManyThere_5_r11, i5_howManyThere_5_r1000, i5_howManyThere_6, i5_howManyThere_7, i5_howManyThere_8]
  exact k
theorem s5_howManyKept : pX 126 0 [.ref 0, .null, .null, .null, .null, .null] [] (mm L xs σ τ) 85 S = some (some (.int (hkC σ 3)), mm L xs σ τ, 85, S) := by
  have key := lp (δ := Value) 3 (fun j d => pX 126 13 [.ref 0, .int (hkC σ j), .ref 11, .int 3, .int (nI j), d] [] (mm L xs σ τ) 85 S) (some (some (.int (hkC σ 3)), mm L xs σ τ, 85, S)) (fun d => by
    rw [show nI 3 = 3 from rfl]
    simp only [Nat.reduceAdd, i5_howManyKept_13, i5_howManyKept_15, i5_howManyKept_16, i5_howManyKept_42, i5_howManyKept_43, Int32.lt_irrefl, if_false]) (fun j hj d => ⟨.ref (43 + 8 * j), by
    rw [i5_howManyKept_13]
    have a : (nI j < 3) = True := nlt (b := 3) hj (by decide)
    by_cases h : 0 < σ (43 + 8 * j + 1) 3
    · simp only [Nat.reduceAdd, i5_howManyKept_15, i5_howManyKept_16, i5_howManyKept_19, i5_howManyKept_20, i5_howManyKept_22_r1, i5_howManyKept_22_r2, i5_howManyKept_22_r11, i5_howManyKept_23, i5_howManyKept_25, i5_howManyKept_27, i5_howManyKept_30, i5_howManyKept_33, i5_howManyKept_36, i5_howManyKept_39, i5_howManyKept_42, i5_howManyKept_43, i0_isThere_0, i0_isThere_1, i0_isThere_4, i0_isThere_7, i0_isThere_10, i0_isThere_11, i0_isThere_14, i0_isThere_15, br_k hj, st_k (br_s hj), a, if_true, ifb_i hj (by decide), cl (show j ≤ 5000 by omega), pK_i, h, if_false, true_or, or_true, n10, nI_1, hkC]
    · simp only [Nat.reduceAdd, i5_howManyKept_15, i5_howManyKept_16, i5_howManyKept_19, i5_howManyKept_20, i5_howManyKept_22_r1, i5_howManyKept_22_r2, i5_howManyKept_22_r11, i5_howManyKept_23, i5_howManyKept_25, i5_howManyKept_27, i5_howManyKept_30, i5_howManyKept_33, i5_howManyKept_36, i5_howManyKept_39, i5_howManyKept_42, i5_howManyKept_43, i0_isThere_0, i0_isThere_1, i0_isThere_4, i0_isThere_7, i0_isThere_10, i0_isThere_11, i0_isThere_14, i0_isThere_15, br_k hj, st_k (br_s hj), a, if_true, ifb_i hj (by decide), cl (show j ≤ 5000 by omega), pK_i, h, if_false, true_or, or_true, nI_1, hkC]⟩)
  have k := key .null
  simp only [hkC, nI_0] at k
  simp only [Nat.reduceAdd, i5_howManyKept_0, i5_howManyKept_1, i5_howManyKept_2, i5_howManyKept_3, i5_howManyKept_6, i5_howManyKept_7, i5_howManyKept_8, i5_howManyKept_8_r1, i5_howManyKept_8_r2, i5_howManyKept_8_r11, i5_howManyKept_8_r1000, i5_howManyKept_9, i5_howManyKept_10, i5_howManyKept_11]
  exact k
theorem s2_make {k m : Nat} (hk : isK 1 k) (hp : isK 6 (k + 1)) (hm : m ≤ m_len (k + 1)) (hl : m_len (k + 1) ≤ 100) {v : Int32} : pX 21 0 [.ref k, .int (nI m), .int v, .null] [] (mm L xs σ τ) 85 S = some (none, mm L xs (va_up (va_up σ (k + 1) (fil (σ (k + 1)) v m)) k (upd (σ k) 1 (nI m))) τ, 85, S) := by
  have n1 : k ≠ k + 1 := by omega
  have key := lp (δ := Unit) m (fun j _ => pX 21 2 [.ref k, .int (nI m), .int v, .int (nI j)] [] (mm L xs (va_up σ (k + 1) (fil (σ (k + 1)) v j)) τ) 85 S) (some (none, mm L xs (va_up (va_up σ (k + 1) (fil (σ (k + 1)) v m)) k (upd (σ k) 1 (nI m))) τ, 85, S)) (fun d => by
    simp only [Nat.reduceAdd, i2_make_2, i2_make_3, i2_make_4, i2_make_29, i2_make_30, i2_make_31, i2_make_34, hk, vn n1, Int32.lt_irrefl, if_false]) (fun j hj d => ⟨(), by
    rw [i2_make_2]
    simp only [Nat.reduceAdd, i2_make_3, i2_make_4, i2_make_7, i2_make_8, i2_make_9, i2_make_12, i2_make_12_r1, i2_make_12_r2, i2_make_12_r11, i2_make_12_r1000, i2_make_13, i2_make_16, i2_make_17, i2_make_20, i2_make_21, i2_make_22, i2_make_23, i2_make_26, i2_make_29, i2_make_30, i2_make_31, i2_make_34, hk, hp, nlt hj (by omega), nlt (show j < m_len (k + 1) by omega) (by omega), if_true, ifb_i (show j < m_len (k + 1) by omega) (by omega), cl (show j ≤ 5000 by omega), vs, vu, fil_s, nI_1]⟩)
  have h := key ()
  simp only [fil_0, nI_0, m_up_id] at h
  simp only [Nat.reduceAdd, i2_make_0, i2_make_1]
  exact h
end C5
