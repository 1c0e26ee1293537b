/-! BY HOW ONE STOOD: next -/
noncomputable def ctq (P : Nat → Prop) (l : Nat → Int32) (u : Nat) : Nat → Nat
  | 0 => 0
  | s + 1 => @ite _ (P s ∧ l s = nI u) (Classical.propDecidable _) (ctq P l u s + 1) (ctq P l u s)
theorem ct_t {P : Nat → Prop} {l : Nat → Int32} {u s : Nat} (h : P s) (h2 : l s = nI u) : ctq P l u (s + 1) = ctq P l u s + 1 := if_pos ⟨h, h2⟩
theorem ct_f {P : Nat → Prop} {l : Nat → Int32} {u s : Nat} (h : ¬ (P s ∧ l s = nI u)) : ctq P l u (s + 1) = ctq P l u s := if_neg h
theorem ct_le {P : Nat → Prop} {l : Nat → Int32} {u : Nat} : ∀ s, ctq P l u s ≤ s := by
  intro s
  induction s with
  | zero => exact Nat.le_refl _
  | succ s ih =>
    by_cases h : P s ∧ l s = nI u
    · rw [ct_t h.1 h.2]; omega
    · rw [ct_f h]; omega
noncomputable def muq (P : Nat → Prop) (l : Nat → Int32) (N : Nat) : Nat → Nat
  | 0 => 0
  | u + 1 => max (muq P l N u) (ctq P l u N)
def gxq (P : Nat → Prop) (l : Nat → Int32) (n s M : Nat) : Prop := (∀ u, u < n → ctq P l u s ≤ M) ∧ (M = 0 ∨ ∃ u, u < n ∧ ctq P l u s = M)
theorem gx_u {P : Nat → Prop} {l : Nat → Int32} {n s M M' : Nat} (h : gxq P l n s M) (h' : gxq P l n s M') : M = M' := by
  obtain ⟨a, b⟩ := h
  obtain ⟨a', b'⟩ := h'
  rcases b with rfl | ⟨u, hu, rfl⟩
  · rcases b' with rfl | ⟨u, hu, rfl⟩
    · rfl
    · have := a u hu; omega
  · rcases b' with rfl | ⟨v, hv, rfl⟩
    · have := a' u hu; omega
    · have := a' u hu
      have := a v hv
      omega
theorem gx_mu {P : Nat → Prop} {l : Nat → Int32} {N : Nat} : ∀ n, gxq P l n N (muq P l N n) := by
  intro n
  induction n with
  | zero => exact ⟨fun u hu => absurd hu (by omega), Or.inl rfl⟩
  | succ n ih =>
    obtain ⟨a, b⟩ := ih
    have e : muq P l N (n + 1) = max (muq P l N n) (ctq P l n N) := rfl
    rw [e]
    refine ⟨fun u hu => ?_, ?_⟩
    · by_cases q : u = n
      · subst q; omega
      · have := a u (by omega); omega
    · by_cases q : muq P l N n ≤ ctq P l n N
      · exact Or.inr ⟨n, by omega, by omega⟩
      · rcases b with b | ⟨u, hu, hb⟩
        · exact absurd b (by omega)
        · exact Or.inr ⟨u, by omega, by omega⟩
theorem mu_le {P : Nat → Prop} {l : Nat → Int32} {N : Nat} : ∀ n, muq P l N n ≤ N := by
  intro n
  induction n with
  | zero => exact Nat.zero_le _
  | succ n ih =>
    have e : muq P l N (n + 1) = max (muq P l N n) (ctq P l n N) := rfl
    have := ct_le (P := P) (l := l) (u := n) N
    omega
theorem imx_n {a b : Nat} (ha : a ≤ 5000) (hb : b ≤ 5000) : imx (nI a) (nI b) = nI (max a b) := by
  unfold imx
  by_cases h : a < b
  · rw [if_pos (nI_lt h (by omega)), Nat.max_eq_right (by omega)]
  · rw [if_neg (nI_nlt (by omega) (by omega)), Nat.max_eq_left (by omega)]
/-- the program's tally of its list is that over all sets -/
theorem tal_l {P : Nat → Prop} {l v t0 : Nat → Int32} {N : Nat} (hN : N ≤ 64) (h0 : ∀ u, u < 61 → t0 u = 0) (hv : ∀ t, t < N → P t → v (cntP P t) = l t) (hl : ∀ t, t < N → inb (l t) 61) : ∀ s, s ≤ N → (∀ u, u < 61 → tly t0 v (cntP P s) u = nI (ctq P l u s)) ∧ ∃ M, M ≤ s ∧ gpm t0 v (cntP P s) = nI M ∧ gxq P l 61 s M := by
  intro s
  induction s with
  | zero => exact fun _ => ⟨fun u hu => h0 u hu, 0, Nat.le_refl _, rfl, fun u _ => Nat.le_refl _, Or.inl rfl⟩
  | succ s ih =>
    intro hs
    obtain ⟨i1, M, hM, i2, i3⟩ := ih (by omega)
    by_cases hp : P s
    · have ev : v (cntP P s) = l s := hv s (by omega) hp
      have hb := hl s (by omega)
      obtain ⟨u0, hu0, e0⟩ := inb_of hb (by decide)
      have hb' : inb (v (cntP P s)) 61 := by rw [ev]; exact hb
      have q1 : tly t0 v (cntP P s + 1) = upd (tly t0 v (cntP P s)) u0 (nI (ctq P l u0 s + 1)) := by
        show @ite _ (inb (v (cntP P s)) 61) (Classical.propDecidable _) _ _ = _
        rw [if_pos hb', ev, e0, cl (show u0 ≤ 5000 by omega), i1 u0 hu0, nI_1]
      have q2 : gpm t0 v (cntP P s + 1) = nI (max M (ctq P l u0 s + 1)) := by
        show @ite _ (inb (v (cntP P s)) 61) (Classical.propDecidable _) _ _ = _
        have := ct_le (P := P) (l := l) (u := u0) s
        rw [if_pos hb', ev, e0, cl (show u0 ≤ 5000 by omega), i1 u0 hu0, nI_1, i2, imx_n (by omega) (by omega)]
      have c1 : ctq P l u0 (s + 1) = ctq P l u0 s + 1 := ct_t hp e0
      have c2 : ∀ u, u < 61 → u ≠ u0 → ctq P l u (s + 1) = ctq P l u s := fun u hu hne => ct_f (fun q => hne (by
        have := q.2
        rw [e0] at this
        exact ((nI_eq (by omega) (by omega)).mp this).symm))
      rw [cnt_t hp]
      refine ⟨fun u hu => ?_, max M (ctq P l u0 s + 1), ?_, q2, fun u hu => ?_, ?_⟩
      · rw [q1]
        by_cases e : u = u0
        · subst e; rw [us, c1]
        · rw [un e, c2 u hu e]; exact i1 u hu
      · have := ct_le (P := P) (l := l) (u := u0) s
        omega
      · by_cases e : u = u0
        · subst e; rw [c1]; omega
        · rw [c2 u hu e]; have := i3.1 u hu; omega
      · by_cases q : M ≤ ctq P l u0 s + 1
        · exact Or.inr ⟨u0, hu0, by rw [c1]; omega⟩
        · rcases i3.2 with b | ⟨u, hu, b⟩
          · exact absurd b (by omega)
          · refine Or.inr ⟨u, hu, ?_⟩
            by_cases e : u = u0
            · subst e; exact absurd b (by omega)
            · rw [c2 u hu e]; omega
    · have c2 : ∀ u, ctq P l u (s + 1) = ctq P l u s := fun u => ct_f (fun q => hp q.1)
      rw [cnt_f hp]
      refine ⟨fun u hu => by rw [c2]; exact i1 u hu, M, by omega, i2, fun u hu => by rw [c2]; exact i3.1 u hu, ?_⟩
      rcases i3.2 with b | ⟨u, hu, b⟩
      · exact Or.inl b
      · exact Or.inr ⟨u, hu, by rw [c2]; exact b⟩
/-- the basin to look at -/
def nxb (x : Nat → Nat) : Nat → Nat
  | 0 => 0
  | c + 1 => if x (c + 1) < x (nxb x c) then c + 1 else nxb x c
theorem nxb_le {x : Nat → Nat} : ∀ c, nxb x c ≤ c := by
  intro c
  induction c with
  | zero => exact Nat.le_refl _
  | succ c ih =>
    show (if x (c + 1) < x (nxb x c) then c + 1 else nxb x c) ≤ c + 1
    split <;> omega
def bst (x : Nat → Nat) : Nat → Int32 × Int32
  | 0 => (-9, 65)
  | c + 1 => if nI (x c) < (bst x c).2 then (nI c, nI (x c)) else bst x c
theorem bst_n {x : Nat → Nat} (hx : ∀ c, x c ≤ 64) : ∀ c, bst x (c + 1) = (nI (nxb x c), nI (x (nxb x c))) := by
  intro c
  induction c with
  | zero =>
    show (if nI (x 0) < 65 then (nI 0, nI (x 0)) else (-9, 65)) = _
    have q : nI (x 0) < 65 := nI_lt (a := x 0) (b := 65) (by have := hx 0; omega) (by decide)
    rw [if_pos q]
    rfl
  | succ c ih =>
    show (if nI (x (c + 1)) < (bst x (c + 1)).2 then (nI (c + 1), nI (x (c + 1))) else bst x (c + 1)) = (nI (if x (c + 1) < x (nxb x c) then c + 1 else nxb x c), nI (x (if x (c + 1) < x (nxb x c) then c + 1 else nxb x c)))
    rw [ih]
    have h1 := hx (nxb x c)
    by_cases h : x (c + 1) < x (nxb x c)
    · rw [if_pos h, if_pos (nI_lt h (by omega))]
    · rw [if_neg h, if_neg (nI_nlt (by omega) (by have := hx (c + 1); omega))]
section DS
variable {L : Nat} {xs : Nat → Int32} {σ σj : Nat → Nat → Int32} {τ : Nat → Nat → Int64} {S g d m j : Nat} {K W f : Nat → Int32}
noncomputable def mxw (σ : Nat → Nat → Int32) (g m : Nat) (P : Nat → Prop) (c : Nat) : Nat := muq P (fun t => wat σ g (nI t) m c) (2 ^ g) 61
theorem nxC {m0 : Nat} (r : qN g m0 σ) {P : Nat → Prop} {e0 : Nat → Nat → Int32} (ha : agr σ e0) (hn : e0 16 3 = nI (cntP P (2 ^ g))) (hv : lvq σ g m P (e0 18) (2 ^ g)) (h0 : 0 < g) {b k : Int32} : ∃ σ' d7, agr σ σ' ∧ pX 75 49 [.ref 0, .int b, .int k, .int 0, .int (-9), .int 65, .int 0, .null] [] (mm L xs e0 τ) 85 S = pX 75 96 [.ref 0, .int b, .int k, .int 0, .int (bst (mxw σ g m P) (g + 1)).1, .int (bst (mxw σ g m P) (g + 1)).2, .int (nI (g + 1)), d7] [] (mm L xs σ' τ) 85 S := by
  have hg6 := r.1
  obtain ⟨p64, p0⟩ := p2_64 hg6
  have bg : bs g = g + 1 := if_neg (by omega)
  have c64 : cntP P (2 ^ g) ≤ 64 := Nat.le_trans (cnt_le _ _) p64
  have key := lq (δ := (Nat → Nat → Int32) × Value) (g + 1) (fun _ d => agr σ d.1 ∧ d.1 16 = e0 16 ∧ d.1 18 = e0 18) (fun c d => pX 75 49 [.ref 0, .int b, .int k, .int 0, .int (bst (mxw σ g m P) c).1, .int (bst (mxw σ g m P) c).2, .int (nI c), d.2] [] (mm L xs d.1 τ) 85 S) (fun o => ∃ σ' d7, agr σ σ' ∧ o = pX 75 96 [.ref 0, .int b, .int k, .int 0, .int (bst (mxw σ g m P) (g + 1)).1, .int (bst (mxw σ g m P) (g + 1)).2, .int (nI (g + 1)), d7] [] (mm L xs σ' τ) 85 S) (fun d hd => ⟨d.1, d.2, hd.1, by
    have bb := s4_basins (L := L) (xs := xs) (σ := d.1) (τ := τ) (S := S) a_4 (qN_agr hd.1 r).2.1 hg6
    rw [bg] at bb
    simp only [Nat.reduceAdd, i5_next_49, i5_next_51, i5_next_52, i5_next_55, i5_next_58, i5_next_61, k_3, k_4, bb, pK_i, Int32.lt_irrefl, if_false]⟩) (fun c hc d hd => Or.inr (by
    obtain ⟨e, d7⟩ := d
    obtain ⟨h1, h2, h3⟩ := hd
    dsimp only at h1 h2 h3
    have bb := s4_basins (L := L) (xs := xs) (σ := e) (τ := τ) (S := S) a_4 (qN_agr h1 r).2.1 hg6
    rw [bg] at bb
    have gp := s3_greatestPart (L := L) (xs := xs) (σ := e) (τ := τ) (S := S) (n := cntP P (2 ^ g)) (b := c) (by rw [h2]; exact hn) c64 (by omega)
    obtain ⟨_, M, hM, g1, g2⟩ := tal_l (P := P) (l := fun t => wat σ g (nI t) m c) (v := fun i => e 18 (7 * i + c)) (t0 := fil (e 19) 0 61) p64 (fun u hu => if_pos hu) (fun t ht hp => by show e 18 (7 * cntP P t + c) = _; rw [h3]; exact hv t ht hp c (by omega)) (fun t ht => wat_lv r m c (by omega)) (2 ^ g) (Nat.le_refl _)
    have hx : M = mxw σ g m P c := gx_u g2 (gx_mu 61)
    rw [g1, hx] at gp
    have hq : bst (mxw σ g m P) (c + 1) = if nI (mxw σ g m P c) < (bst (mxw σ g m P) c).2 then (nI c, nI (mxw σ g m P c)) else bst (mxw σ g m P) c := rfl
    rw [hq]
    generalize bst (mxw σ g m P) c = B
    obtain ⟨B1, B2⟩ := B
    obtain ⟨T, hT⟩ : ∃ T, T = tly (fil (e 19) 0 61) (fun i => e 18 (7 * i + c)) (cntP P (2 ^ g)) := ⟨_, rfl⟩
    rw [← hT] at gp
    have m16 : (va_up e 19 T) 16 = e0 16 := by rw [vn (by decide)]; exact h2
    have m18 : (va_up e 19 T) 18 = e0 18 := by rw [vn (by decide)]; exact h3
    refine ⟨(va_up e 19 T, .int (nI (mxw σ g m P c))), ⟨agr_u h1 (by unfold scr; omega), m16, m18⟩, ?_⟩
    rw [i5_next_49]
    by_cases h : nI (mxw σ g m P c) < B2
    · simp only [Nat.reduceAdd, i5_next_51, i5_next_52, i5_next_55, i5_next_58, i5_next_61, i5_next_64, i5_next_65, i5_next_68, i5_next_70, i5_next_73, i5_next_75, i5_next_77, i5_next_79, i5_next_82, i5_next_84, i5_next_86, i5_next_88, i5_next_90, i5_next_93, k_3, k_4, bb, gp, pK_i, nlt hc (by omega), h, if_true, if_false, not_true_eq_false, not_false_eq_true, true_or, or_true, nI_1]
    · simp only [Nat.reduceAdd, i5_next_51, i5_next_52, i5_next_55, i5_next_58, i5_next_61, i5_next_64, i5_next_65, i5_next_68, i5_next_70, i5_next_73, i5_next_75, i5_next_77, i5_next_79, i5_next_82, i5_next_84, i5_next_86, i5_next_88, i5_next_90, i5_next_93, k_3, k_4, bb, gp, pK_i, nlt hc (by omega), h, if_true, if_false, not_true_eq_false, not_false_eq_true, true_or, or_true, nI_1]))
  exact key (e0, .null) ⟨ha, rfl, rfl⟩
theorem pbR {m0 : Nat} (r : qN g m0 σ) {P : Nat → Prop} {e : Nat → Nat → Int32} (hg : e 67 4 = nI g) (h82 : ∀ t, t < 2 ^ g → e 82 t = bi (P t)) (h83 : ∀ t, t < 2 ^ g → P t → ∀ c, c ≤ g → e 83 (7 * t + c) = wat σ g (nI t) m c) {c : Nat} (hc : c ≤ g) : pX 195 0 [.ref 67, .int (nI c), .null, .null, .null, .null] [] (mm L xs e τ) 85 S = some (some (.int (nI (mxw σ g m P c))), mm L xs e τ, 85, S) := by
  have hg6 := r.1
  obtain ⟨p64, p0⟩ := p2_64 hg6
  have inner : ∀ (M : Int32) u, u < 61 → pX 195 16 [.ref 67, .int (nI c), .int M, .int (nI u), .int 0, .int 0] [] (mm L xs e τ) 85 S = pX 195 69 [.ref 67, .int (nI c), .int M, .int (nI u), .int (nI (ctq P (fun t => wat σ g (nI t) m c) u (2 ^ g))), .int (nI (2 ^ g))] [] (mm L xs e τ) 85 S := by
    intro M u hu
    have key := lp (δ := Unit) (2 ^ g) (fun s _ => pX 195 16 [.ref 67, .int (nI c), .int M, .int (nI u), .int (nI (ctq P (fun t => wat σ g (nI t) m c) u s)), .int (nI s)] [] (mm L xs e τ) 85 S) (pX 195 69 [.ref 67, .int (nI c), .int M, .int (nI u), .int (nI (ctq P (fun t => wat σ g (nI t) m c) u (2 ^ g))), .int (nI (2 ^ g))] [] (mm L xs e τ) 85 S) (fun _ => by
      simp only [Nat.reduceAdd, i6_partBy_16, i6_partBy_18, i6_partBy_19, i6_partBy_20, i6_partBy_23, i6_partBy_24, hg, p2_ok hg6, Int32.lt_irrefl, if_false]) (fun s hs _ => ⟨(), by
      have lt := p2_lt hg6 (show s ≤ 5000 by omega)
      have e7 : (7 : Int32) * nI s = nI (7 * s) := pk_mul 7 s
      by_cases hp : P s
      · have v1 : e 82 s = 1 := (h82 s hs).trans (bi_t hp)
        have v3 := h83 s hs hp c hc
        by_cases hw : wat σ g (nI s) m c = nI u
        · rw [ct_t (l := fun t => wat σ g (nI t) m c) hp hw]
          rw [i6_partBy_16]
          simp only [Nat.reduceAdd, i6_partBy_18, i6_partBy_19, i6_partBy_20, i6_partBy_23, i6_partBy_24, i6_partBy_27, i6_partBy_29, i6_partBy_30, i6_partBy_33, i6_partBy_35, i6_partBy_36, i6_partBy_39, i6_partBy_40, i6_partBy_43, i6_partBy_45, i6_partBy_47, i6_partBy_48, i6_partBy_49, i6_partBy_50, i6_partBy_51, i6_partBy_52, i6_partBy_55, i6_partBy_56, i6_partBy_59, i6_partBy_60, i6_partBy_61, i6_partBy_63, i6_partBy_66, hg, p2_ok hg6, lt, hs, k_82, l_82, k_83, l_83, e7, nI_add, ifb_i (show s < 64 by omega) (by decide), cl (show s ≤ 5000 by omega), ifb_i (show 7 * s + c < 448 by omega) (by decide), cl (show 7 * s + c ≤ 5000 by omega), v1, v3, hw, n10, if_true, if_false, not_true_eq_false, not_false_eq_true, true_or, or_true, nI_1]
        · rw [ct_f (l := fun t => wat σ g (nI t) m c) (fun q => hw q.2)]
          rw [i6_partBy_16]
          simp only [Nat.reduceAdd, i6_partBy_18, i6_partBy_19, i6_partBy_20, i6_partBy_23, i6_partBy_24, i6_partBy_27, i6_partBy_29, i6_partBy_30, i6_partBy_33, i6_partBy_35, i6_partBy_36, i6_partBy_39, i6_partBy_40, i6_partBy_43, i6_partBy_45, i6_partBy_47, i6_partBy_48, i6_partBy_49, i6_partBy_50, i6_partBy_51, i6_partBy_52, i6_partBy_55, i6_partBy_56, i6_partBy_59, i6_partBy_60, i6_partBy_61, i6_partBy_63, i6_partBy_66, hg, p2_ok hg6, lt, hs, k_82, l_82, k_83, l_83, e7, nI_add, ifb_i (show s < 64 by omega) (by decide), cl (show s ≤ 5000 by omega), ifb_i (show 7 * s + c < 448 by omega) (by decide), cl (show 7 * s + c ≤ 5000 by omega), v1, v3, hw, n10, if_true, if_false, not_true_eq_false, not_false_eq_true, true_or, or_true, nI_1, Int32.add_zero]
      · have v1 : e 82 s = 0 := (h82 s hs).trans (bi_f hp)
        rw [ct_f (l := fun t => wat σ g (nI t) m c) (fun q => hp q.1)]
        rw [i6_partBy_16]
        simp only [Nat.reduceAdd, i6_partBy_18, i6_partBy_19, i6_partBy_20, i6_partBy_23, i6_partBy_24, i6_partBy_27, i6_partBy_29, i6_partBy_30, i6_partBy_33, i6_partBy_35, i6_partBy_36, i6_partBy_39, i6_partBy_40, i6_partBy_43, i6_partBy_45, i6_partBy_47, i6_partBy_48, i6_partBy_49, i6_partBy_50, i6_partBy_51, i6_partBy_52, i6_partBy_55, i6_partBy_56, i6_partBy_59, i6_partBy_60, i6_partBy_61, i6_partBy_63, i6_partBy_66, hg, p2_ok hg6, lt, hs, k_82, l_82, ifb_i (show s < 64 by omega) (by decide), cl (show s ≤ 5000 by omega), v1, if_true, if_false, not_true_eq_false, not_false_eq_true, true_or, or_true, nI_1, Int32.add_zero]⟩)
    have k := key ()
    rw [nI_0] at k
    exact k
  have key := lp (δ := Value × Value) 61 (fun u d => pX 195 4 [.ref 67, .int (nI c), .int (nI (muq P (fun t => wat σ g (nI t) m c) (2 ^ g) u)), .int (nI u), d.1, d.2] [] (mm L xs e τ) 85 S) (some (some (.int (nI (mxw σ g m P c))), mm L xs e τ, 85, S)) (fun d => by
    have q : ((60 : Int32) < nI 61) = True := nlt (a := 60) (b := 61) (by decide) (by decide)
    simp only [Nat.reduceAdd, i6_partBy_4, i6_partBy_5, i6_partBy_7, i6_partBy_88, i6_partBy_89, q, if_true, mxw]) (fun u hu d => ⟨(.int (nI (ctq P (fun t => wat σ g (nI t) m c) u (2 ^ g))), .int (nI (2 ^ g))), by
    have q : ((60 : Int32) < nI u) = False := nnl (a := 60) (b := u) (by omega) (by omega)
    have h1 := mu_le (P := P) (l := fun t => wat σ g (nI t) m c) (N := 2 ^ g) u
    have h2 := ct_le (P := P) (l := fun t => wat σ g (nI t) m c) (u := u) (2 ^ g)
    rw [i6_partBy_4]
    simp only [i6_partBy_5, i6_partBy_7, i6_partBy_10, i6_partBy_11, i6_partBy_13, i6_partBy_14, q, if_false]
    rw [inner _ u hu]
    have e1 : muq P (fun t => wat σ g (nI t) m c) (2 ^ g) (u + 1) = max (muq P (fun t => wat σ g (nI t) m c) (2 ^ g) u) (ctq P (fun t => wat σ g (nI t) m c) u (2 ^ g)) := rfl
    rw [e1]
    by_cases h : muq P (fun t => wat σ g (nI t) m c) (2 ^ g) u < ctq P (fun t => wat σ g (nI t) m c) u (2 ^ g)
    · rw [Nat.max_eq_right (by omega)]
      simp only [i6_partBy_69, i6_partBy_71, i6_partBy_72, i6_partBy_75, i6_partBy_77, i6_partBy_80, i6_partBy_81, i6_partBy_82, i6_partBy_85, nlt h (by omega), if_true, nI_1]
    · rw [Nat.max_eq_left (by omega)]
      simp only [i6_partBy_69, i6_partBy_71, i6_partBy_72, i6_partBy_75, i6_partBy_77, i6_partBy_80, i6_partBy_81, i6_partBy_82, i6_partBy_85, nnl (show ctq P (fun t => wat σ g (nI t) m c) u (2 ^ g) ≤ muq P (fun t => wat σ g (nI t) m c) (2 ^ g) u by omega) (by omega), if_false, nI_1]⟩)
  have k := key (.null, .null)
  rw [nI_0] at k
  simp only [i6_partBy_0, i6_partBy_1, i6_partBy_2, i6_partBy_3]
  exact k
theorem nxR {m0 : Nat} (r : qN g m0 σ) {P : Nat → Prop} {e : Nat → Nat → Int32} (hg : e 67 4 = nI g) (h82 : ∀ t, t < 2 ^ g → e 82 t = bi (P t)) (h83 : ∀ t, t < 2 ^ g → P t → ∀ c, c ≤ g → e 83 (7 * t + c) = wat σ g (nI t) m c) {b k : Int32} : pX 196 35 [.ref 67, .int b, .int k, .int 0, .int 0, .int 1] [] (mm L xs e τ) 85 S = some (some (.int (nI (nxb (mxw σ g m P) g))), mm L xs (va_up e 67 (upd (e 67) 11 (nI (mxw σ g m P (nxb (mxw σ g m P) g))))) τ, 85, S) := by
  have hg6 := r.1
  obtain ⟨p64, p0⟩ := p2_64 hg6
  have pb : ∀ c, c ≤ g → pX 195 0 [.ref 67, .int (nI c), .null, .null, .null, .null] [] (mm L xs e τ) 85 S = some (some (.int (nI (mxw σ g m P c))), mm L xs e τ, 85, S) := fun c hc => pbR r hg h82 h83 hc
  have mx : ∀ c, mxw σ g m P c ≤ 64 := fun c => Nat.le_trans (mu_le 61) p64
  have key := lp (δ := Unit) g (fun c _ => pX 196 35 [.ref 67, .int b, .int k, .int 0, .int (nI (nxb (mxw σ g m P) c)), .int (nI (c + 1))] [] (mm L xs e τ) 85 S) (some (some (.int (nI (nxb (mxw σ g m P) g))), mm L xs (va_up e 67 (upd (e 67) 11 (nI (mxw σ g m P (nxb (mxw σ g m P) g))))) τ, 85, S)) (fun _ => by
    simp only [Nat.reduceAdd, i6_next_35, i6_next_37, i6_next_38, i6_next_41, i6_next_74, i6_next_75, i6_next_76, i6_next_78, i6_next_81, i6_next_84, i6_next_86, hg, nlt (Nat.lt_succ_self g) (by omega), if_true, pb _ (nxb_le g), pK_i]) (fun c hc _ => ⟨(), by
    have q : (nI g < nI (c + 1)) = False := nnl (by omega) (by omega)
    have e1 : nxb (mxw σ g m P) (c + 1) = if mxw σ g m P (c + 1) < mxw σ g m P (nxb (mxw σ g m P) c) then c + 1 else nxb (mxw σ g m P) c := rfl
    have l1 := nxb_le (x := mxw σ g m P) c
    have pb2 := pb (nxb (mxw σ g m P) c) (by omega)
    rw [e1]
    have h1 := mx (nxb (mxw σ g m P) c)
    have h2 := mx (c + 1)
    rw [i6_next_35]
    by_cases h : mxw σ g m P (c + 1) < mxw σ g m P (nxb (mxw σ g m P) c)
    · rw [if_pos h]
      simp only [Nat.reduceAdd, i6_next_37, i6_next_38, i6_next_41, i6_next_44, i6_next_45, i6_next_47, i6_next_50, i6_next_51, i6_next_53, i6_next_56, i6_next_59, i6_next_61, i6_next_64, i6_next_66, i6_next_68, i6_next_71, hg, q, if_false, pb (c + 1) (by omega), pb2, pK_i, nlt h (by omega), if_true, nI_1]
    · rw [if_neg h]
      simp only [Nat.reduceAdd, i6_next_37, i6_next_38, i6_next_41, i6_next_44, i6_next_45, i6_next_47, i6_next_50, i6_next_51, i6_next_53, i6_next_56, i6_next_59, i6_next_61, i6_next_64, i6_next_66, i6_next_68, i6_next_71, hg, q, if_false, pb (c + 1) (by omega), pb2, pK_i, nnl (show mxw σ g m P (nxb (mxw σ g m P) c) ≤ mxw σ g m P (c + 1) by omega) (by omega), nI_1]⟩)
  have k := key ()
  exact k
theorem op_next {b r : Int32} : opI L xs S (fun M => pX 75 0 [.ref 0, .int b, .int r, .null, .null, .null, .null, .null] [] M 85 S) (fun M => pX 196 0 [.ref 67, .int b, .int r, .null, .null, .null] [] M 85 S) := by
  intro g d σ τ R
  have hg6 := R.1.1
  rcases refS (L := L) (xs := xs) (S := S) R b r with ⟨x, σ1, σ2, hx, p1, p2, R2, _⟩ | ⟨h, bj, k, m, hb, rfl, hk, rfl, hz, hm1, hm10, p1, p2⟩
  · refine op_of (v := x) (σ1 := σ1) (τ1 := τ) ?_ ?_ R2
    · simp only [Nat.reduceAdd, i5_next_0, i5_next_1, i5_next_2, i5_next_3, i5_next_4, i5_next_7, i5_next_8, i5_next_9, i5_next_12, i5_next_13, i5_next_14, i5_next_15, i5_next_16, i5_next_17, i5_next_20, i5_next_21_r1, i5_next_21_r2, i5_next_21_r11, i5_next_22, i5_next_25, i5_next_26, i5_next_29, i5_next_32, i5_next_35, i5_next_37, i5_next_38, i5_next_40, i5_next_42, i5_next_44, i5_next_46, i5_next_47, p1, pK_i, hx, if_true, if_false, not_true_eq_false, not_false_eq_true, true_or, or_true]
    · simp only [Nat.reduceAdd, i6_next_0, i6_next_1, i6_next_2, i6_next_3, i6_next_6, i6_next_7, i6_next_8, i6_next_11, i6_next_12, i6_next_13, i6_next_14, i6_next_15, i6_next_16, i6_next_19, i6_next_20, i6_next_23, i6_next_26, i6_next_28, i6_next_29, i6_next_30, i6_next_32, i6_next_33, p2, pK_i, hx, if_true, if_false, not_true_eq_false, not_false_eq_true, true_or, or_true]
  · obtain ⟨p64, p0⟩ := p2_64 hg6
    have hS : ∀ {α : Type} {a b : α}, ifb (nI k) 6 a b = a := ifb_i hk (by decide)
    have hC := cl (show k ≤ 5000 by omega)
    obtain ⟨σ1, f1, ag1, n1, l1, w1⟩ := fsC (L := L) (xs := xs) (τ := τ) (S := S) R hb hk hz (by omega)
    have c64 : cntP (psn σ g bj k m) (2 ^ g) ≤ 64 := Nat.le_trans (cnt_le _ _) p64
    by_cases c0 : cntP (psn σ g bj k m) (2 ^ g) = 0
    · have z : σ1 16 3 = 0 := by rw [n1, c0]; rfl
      have rA := qN_agr ag1 R.1
      obtain ⟨σ2, f2, ag2, n2, v2, _⟩ := lfR (L := L) (xs := xs) (τ := τ) (S := S) rA hb hk (m := m) (by rw [ag1.1 68 (by unfold scr; omega) (by decide)]; exact hz) (by omega)
      rw [psn_c (ag1.1 72 (by unfold scr; omega) (by decide)) (ag1.1 69 (by unfold scr; omega) (by decide)) (agr_wat ag1), c0, nI_0] at n2
      have rf := p2 σ1 τ ag1.2.1 (ag1.1 68 (by unfold scr; omega) (by decide)) (ag1.1 69 (by unfold scr; omega) (by decide))
      refine op_of (v := -9) (σ1 := σ1) (τ1 := τ) (σ2 := σ2) (τ2 := τ) ?_ ?_ (Rel_agr ag2 (Rel_agr ag1 R))
      · simp only [Nat.reduceAdd, i5_next_0, i5_next_1, i5_next_2, i5_next_3, i5_next_4, i5_next_7, i5_next_8, i5_next_9, i5_next_12, i5_next_13, i5_next_14, i5_next_15, i5_next_16, i5_next_17, i5_next_20, i5_next_21_r1, i5_next_21_r2, i5_next_21_r11, i5_next_22, i5_next_25, i5_next_26, i5_next_29, i5_next_32, i5_next_35, i5_next_37, i5_next_38, i5_next_40, i5_next_42, i5_next_44, i5_next_46, i5_next_47, p1, f1, z, k_16, hS, hC, pK_i, pK_v, if_true, if_false, not_true_eq_false, not_false_eq_true, true_or, or_true]
      · simp only [Nat.reduceAdd, i6_next_0, i6_next_1, i6_next_2, i6_next_3, i6_next_6, i6_next_7, i6_next_8, i6_next_11, i6_next_12, i6_next_13, i6_next_14, i6_next_15, i6_next_16, i6_next_19, i6_next_20, i6_next_23, i6_next_26, i6_next_28, i6_next_29, i6_next_30, i6_next_32, i6_next_33, rf, f2, n2, pK_i, pK_v, if_true, if_false, not_true_eq_false, not_false_eq_true, true_or, or_true]
    · have z : ¬ nI (cntP (psn σ g bj k m) (2 ^ g)) = 0 := nI_ne0 (by omega) (by omega)
      obtain ⟨σ3, d7, ag3, p3⟩ := nxC (L := L) (xs := xs) (τ := τ) (S := S) R.1 ag1 n1 w1 h (b := nI bj) (k := nI k)
      have mx : ∀ c, mxw σ g m (psn σ g bj k m) c ≤ 64 := fun c => Nat.le_trans (mu_le 61) p64
      rw [bst_n mx] at p3
      dsimp only at p3
      generalize hB : nI (mxw σ g m (psn σ g bj k m) (nxb (mxw σ g m (psn σ g bj k m)) g)) = B at p3
      have rT := td_qN (v := B) R.1 ag3
      have g1 := rT.2.2.1
      obtain ⟨σ2, f2, ag2, n2, v2, w2⟩ := lfR (L := L) (xs := xs) (τ := τ) (S := S) rT hb hk (m := m) (by rw [td_c ag3 (by unfold scr; omega) (by decide) (by decide)]; exact hz) (by omega)
      rw [td_psn ag3] at n2 v2
      rw [td_psn ag3, td_wat ag3] at w2
      have g2 : σ2 67 4 = nI g := ag2.2.1.trans g1
      have p4 := nxR (L := L) (xs := xs) (τ := τ) (S := S) (e := σ2) R.1 g2 v2 w2 (b := nI bj) (k := nI k)
      rw [hB] at p4
      have rf := p2 (va_up σ1 0 (upd (σ1 0) 10 B)) τ
      have rf := p2 (va_up σ3 0 (upd (σ3 0) 10 B)) τ (g1.trans R.1.2.2.1.symm) (td_c ag3 (by unfold scr; omega) (by decide) (by decide)) (td_c ag3 (by unfold scr; omega) (by decide) (by decide))
      refine op_of (v := nI (nxb (mxw σ g m (psn σ g bj k m)) g)) (σ1 := va_up σ3 0 (upd (σ3 0) 10 B)) (σ2 := va_up σ2 67 (upd (σ2 67) 11 B)) (τ1 := τ) (τ2 := τ) (g := g) (d := d) ?_ ?_ (Rel_fin R ag3 ag2)
      · simp only [Nat.reduceAdd, i5_next_0, i5_next_1, i5_next_2, i5_next_3, i5_next_4, i5_next_7, i5_next_8, i5_next_9, i5_next_12, i5_next_13, i5_next_14, i5_next_15, i5_next_16, i5_next_17, i5_next_20, i5_next_21_r1, i5_next_21_r2, i5_next_21_r11, i5_next_22, i5_next_25, i5_next_26, i5_next_29, i5_next_32, i5_next_35, i5_next_37, i5_next_38, i5_next_40, i5_next_42, i5_next_44, i5_next_46, i5_next_47, p1, f1, n1, z, p3, k_16, hS, hC, pK_i, pK_v, if_true, if_false, not_true_eq_false, not_false_eq_true, true_or, or_true]
        simp only [i5_next_96, i5_next_97, i5_next_99, i5_next_102, i5_next_103, i5_next_105, s5_tell, pK_i]
      · simp only [Nat.reduceAdd, i6_next_0, i6_next_1, i6_next_2, i6_next_3, i6_next_6, i6_next_7, i6_next_8, i6_next_11, i6_next_12, i6_next_13, i6_next_14, i6_next_15, i6_next_16, i6_next_19, i6_next_20, i6_next_23, i6_next_26, i6_next_28, i6_next_29, i6_next_30, i6_next_32, i6_next_33, rf, f2, n2, z, p4, pK_i, pK_v, if_true, if_false, not_true_eq_false, not_false_eq_true, true_or, or_true]
end DS
