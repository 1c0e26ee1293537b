/-! THE CALLS: high -/
def ush (x k : Int32) : Int32 := (x.toUInt32 >>> (k.toUInt32 &&& Int32.toUInt32 31)).toInt32
def bc1 (x : Int32) : Int32 := x - (ush x 1 &&& 1431655765)
def bc2 (x : Int32) : Int32 := (x &&& 858993459) + (ush x 2 &&& 858993459)
def bc3 (x : Int32) : Int32 := x + ush x 4 &&& 252645135
def bc4 (x : Int32) : Int32 := x + ush x 8
def bc5 (x : Int32) : Int32 := x + ush x 16
def bcv (x : Int32) : Int32 := bc5 (bc4 (bc3 (bc2 (bc1 x)))) &&& 63
theorem sJ_bc {s : Nat} (hs : s < 64) {M : pm_M} {N S : Nat} : pX 224 0 [.int (nI s)] [] M N S = some (some (.int (bts (nI s) 6)), M, N, S) := by
  have key : ∀ s, s < 64 → bcv (nI s) = bts (nI s) 6 := by decide +kernel
  have e : pX 224 0 [.int (nI s)] [] M N S = some (some (.int (bcv (nI s))), M, N, S) := by
    simp only [iJ6_bitCount_0, iJ6_bitCount_1, iJ6_bitCount_2, iJ6_bitCount_3, iJ6_bitCount_4, iJ6_bitCount_7, iJ6_bitCount_8, iJ6_bitCount_9, iJ6_bitCount_10, iJ6_bitCount_11, iJ6_bitCount_14, iJ6_bitCount_15, iJ6_bitCount_16, iJ6_bitCount_17, iJ6_bitCount_18, iJ6_bitCount_21, iJ6_bitCount_22, iJ6_bitCount_23, iJ6_bitCount_24, iJ6_bitCount_25, iJ6_bitCount_26, iJ6_bitCount_27, iJ6_bitCount_28, iJ6_bitCount_29, iJ6_bitCount_32, iJ6_bitCount_33, iJ6_bitCount_34, iJ6_bitCount_35, iJ6_bitCount_36, iJ6_bitCount_38, iJ6_bitCount_39, iJ6_bitCount_40, iJ6_bitCount_41, iJ6_bitCount_42, iJ6_bitCount_43, iJ6_bitCount_45, iJ6_bitCount_46, iJ6_bitCount_47, iJ6_bitCount_48, iJ6_bitCount_49, iJ6_bitCount_51, iJ6_bitCount_52, bcv, bc5, bc4, bc3, bc2, bc1, ush]
  rw [e, key s hs]
theorem bts_b {s : Nat} (hs : s < 64) : ¬ bts (nI s) 6 < 0 ∧ ¬ bts (nI s) 6 = -9 := by
  have key : ∀ s, s < 64 → ¬ bts (nI s) 6 < 0 ∧ ¬ bts (nI s) 6 = -9 := by decide +kernel
  exact key s hs
/-- the best set yet: the fewest gates, the least one -/
def hgn (wt lv v : Int32) (s : Nat) (b : Int32) : Int32 := if nI s &&& wt = 0 then (if b < 0 ∨ bts (nI s) 6 < bts b 6 then (if lv < v then b else nI s) else b) else b
def hgq (wt : Int32) (lv : Nat → Int32) (v : Int32) : Nat → Int32
  | 0 => -9
  | s + 1 => hgn wt (lv s) v s (hgq wt lv v s)
def fw (b : Int32) : Int32 := if b < 0 then -9 else bts b 6
theorem hgq_rg (wt : Int32) (lv : Nat → Int32) (v : Int32) : ∀ s, s ≤ 64 → hgq wt lv v s = -9 ∨ ∃ t, t < 64 ∧ hgq wt lv v s = nI t := by
  intro s
  induction s with
  | zero => intro _; exact Or.inl rfl
  | succ s ih =>
    intro h
    have i := ih (by omega)
    show hgn wt (lv s) v s (hgq wt lv v s) = -9 ∨ ∃ t, t < 64 ∧ hgn wt (lv s) v s (hgq wt lv v s) = nI t
    generalize hgq wt lv v s = b at i ⊢
    unfold hgn
    split
    · split
      · split
        · exact i
        · exact Or.inr ⟨s, by omega, rfl⟩
      · exact i
    · exact i
theorem fw_rg {b : Int32} (h : b = -9 ∨ ∃ t, t < 64 ∧ b = nI t) : (fw b = -9) = (b < 0) ∧ (¬ b < 0 → fw b = bts b 6) := by
  unfold fw
  rcases h with rfl | ⟨t, ht, rfl⟩
  · exact ⟨by decide, fun q => absurd (by decide) q⟩
  · have q : ¬ nI t < 0 := nI_pos (by omega)
    rw [if_neg q]
    exact ⟨propext ⟨fun e => absurd e (bts_b ht).2, fun e => absurd e q⟩, fun _ => rfl⟩
theorem fw_s {s : Nat} (hs : s < 64) : fw (nI s) = bts (nI s) 6 := if_neg (nI_pos (by omega))
section DN
variable {L : Nat} {xs : Nat → Int32} {σ σj : Nat → Nat → Int32} {τ : Nat → Nat → Int64} {S g d m j : Nat}
theorem agr_td {σ2 : Nat → Nat → Int32} {v : Int32} (a : agr σ σ2) : agr (va_up σ 67 (upd (σ 67) 11 v)) (va_up σ2 67 (upd (σ2 67) 11 v)) := by
  refine ⟨fun c hc h => ?_, ?_, ?_, ?_, ?_⟩
  · rw [vn h, vn h]; exact a.1 c hc h
  · rw [vs, vs, un (by decide), un (by decide)]; exact a.2.1
  · rw [vs, vs, un (by decide), un (by decide)]; exact a.2.2.1
  · rw [vs, vs, us, us]
  · rw [vs, vs, un (by decide), un (by decide)]; exact a.2.2.2.2
/-- both told the same, what lies aside being changed -/
theorem Rel_fin {σ1 σ2 : Nat → Nat → Int32} {v : Int32} (R : Rel g d σ τ) (a1 : agr σ σ1) (a2 : agr (va_up σ1 0 (upd (σ1 0) 10 v)) σ2) : Rel g d (va_up σ2 67 (upd (σ2 67) 11 v)) τ := Rel_agr (agr_td a2) (Rel_t (Rel_agr a1 R) v)
theorem td_c {σ1 : Nat → Nat → Int32} {v : Int32} (a : agr σ σ1) {c : Nat} (h1 : ¬ scr c) (h2 : c ≠ 0) (h3 : c ≠ 67) : (va_up σ1 0 (upd (σ1 0) 10 v)) c = σ c := by rw [vn h2]; exact a.1 c h1 h3
theorem td_67 {σ1 : Nat → Nat → Int32} {v : Int32} (a : agr σ σ1) : (va_up σ1 0 (upd (σ1 0) 10 v)) 67 = σ1 67 := vn (by decide)
theorem td_qN {σ1 : Nat → Nat → Int32} {v : Int32} (r : qN g m σ) (a : agr σ σ1) : qN g m (va_up σ1 0 (upd (σ1 0) 10 v)) := qN_c (fun c hc => vn (by omega)) (by rw [vn (by decide)]) (qN_agr a r)
theorem td_wat {σ1 : Nat → Nat → Int32} {v : Int32} (a : agr σ σ1) : wat (va_up σ1 0 (upd (σ1 0) 10 v)) = wat σ := by
  unfold wat; rw [td_c a (by unfold scr; omega) (by decide) (by decide), td_c a (by unfold scr; omega) (by decide) (by decide), td_c a (by unfold scr; omega) (by decide) (by decide)]
noncomputable def hgw (σ : Nat → Nat → Int32) (g n b : Nat) (v : Int32) (s : Nat) : Int32 := hgq (wr (σ 72) g) (fun s => wat σ g (σ 74 7 ^^^ nI s) n b) v s
theorem hgC (r : qN g m σ) {b n : Nat} (hb : b ≤ g) (hn : n ≤ 100) {v : Int32} {e0 : Nat → Nat → Int32} (he0 : agr σ e0) : ∃ σ' d8 d9, agr σ σ' ∧ pX 71 70 [.ref 0, .int (nI b), .int v, .int (nI n), .int (wr (σ 72) g), .int (-9), .int (-9), .int 0, .null, .null] [] (mm L xs e0 τ) 85 S = pX 71 163 [.ref 0, .int (nI b), .int v, .int (nI n), .int (wr (σ 72) g), .int (fw (hgw σ g n b v (2 ^ g))), .int (hgw σ g n b v (2 ^ g)), .int (nI (2 ^ g)), d8, d9] [] (mm L xs σ' τ) 85 S := by
  have hg6 := r.1
  obtain ⟨p64, p0⟩ := p2_64 hg6
  have key := lq (δ := (Nat → Nat → Int32) × Value × Value) (2 ^ g) (fun _ d => agr σ d.1) (fun s d => pX 71 70 [.ref 0, .int (nI b), .int v, .int (nI n), .int (wr (σ 72) g), .int (fw (hgw σ g n b v s)), .int (hgw σ g n b v s), .int (nI s), d.2.1, d.2.2] [] (mm L xs d.1 τ) 85 S) (fun o => ∃ σ' d8 d9, agr σ σ' ∧ o = pX 71 163 [.ref 0, .int (nI b), .int v, .int (nI n), .int (wr (σ 72) g), .int (fw (hgw σ g n b v (2 ^ g))), .int (hgw σ g n b v (2 ^ g)), .int (nI (2 ^ g)), d8, d9] [] (mm L xs σ' τ) 85 S) (fun d hd => ⟨d.1, d.2.1, d.2.2, hd, by
    have al := s4_allGates (L := L) (xs := xs) (σ := d.1) (τ := τ) (S := S) a_4 (qN_agr hd r).2.1 hg6
    simp only [Nat.reduceAdd, i5_high_70, i5_high_72, i5_high_73, i5_high_76, i5_high_79, i5_high_82, k_3, k_4, al, pK_i, ag_lt hg6 (show 2 ^ g ≤ 5000 by omega), Nat.lt_irrefl, not_false_eq_true, if_true]⟩) (fun s hs d hd => Or.inr (by
    obtain ⟨e, d8, d9⟩ := d
    have hd' : agr σ e := hd
    have r' := qN_agr hd' r
    have f4 : e 4 4 = σ 74 7 := by
      obtain ⟨k, _, e7, e7'⟩ := r.2.2.2.2.1.2.1
      rw [hd'.1 4 (by unfold scr; omega) (by decide), e7, e7']
    have al := s4_allGates (L := L) (xs := xs) (σ := e) (τ := τ) (S := S) a_4 r'.2.1 hg6
    have bc := sJ_bc (M := mm L xs e τ) (N := 85) (S := S) (show s < 64 by omega)
    obtain ⟨σ', p, a', -, -⟩ := s5_standsAside (L := L) (xs := xs) (τ := τ) (S := S) r' (op := σ 74 7 ^^^ nI s) hb hn
    rw [agr_wat hd'] at p
    have lt := ag_lt hg6 (show s ≤ 5000 by omega)
    have hq : hgw σ g n b v (s + 1) = hgn (wr (σ 72) g) (wat σ g (σ 74 7 ^^^ nI s) n b) v s (hgw σ g n b v s) := rfl
    have hr : hgw σ g n b v s = -9 ∨ ∃ t, t < 64 ∧ hgw σ g n b v s = nI t := hgq_rg _ _ _ s (by omega)
    obtain ⟨w1, w2⟩ := fw_rg hr
    have w3 := fw_s (show s < 64 by omega)
    rw [hq]
    generalize hgw σ g n b v s = B at w1 w2 ⊢
    generalize wat σ g (σ 74 7 ^^^ nI s) n b = lv at p ⊢
    unfold hgn
    by_cases h1 : nI s &&& wr (σ 72) g = 0
    · by_cases h2 : B < 0
      · refine ⟨(σ', .int (bts (nI s) 6), .int 1), agr_t hd' a', ?_⟩
        rw [i5_high_70]
        by_cases h4 : lv < v
        · simp only [Nat.reduceAdd, i5_high_72, i5_high_73, i5_high_76, i5_high_79, i5_high_82, i5_high_85, i5_high_87, i5_high_90, i5_high_92, i5_high_94, i5_high_96, i5_high_97, i5_high_100, i5_high_102, i5_high_104, i5_high_107, i5_high_109, i5_high_111, i5_high_114, i5_high_115, i5_high_118, i5_high_119, i5_high_121, i5_high_123, i5_high_126, i5_high_127, i5_high_128, i5_high_131, i5_high_134, i5_high_137, i5_high_139, i5_high_140, i5_high_141, i5_high_142, i5_high_145, i5_high_146, i5_high_149, i5_high_151, i5_high_153, i5_high_155, i5_high_157, i5_high_160, k_3, k_4, al, bc, p, f4, pK_i, lt, hs, h1, h2, h4, w1, w3, n10, if_true, if_false, not_true_eq_false, not_false_eq_true, true_or, or_true, nI_1]
        · simp only [Nat.reduceAdd, i5_high_72, i5_high_73, i5_high_76, i5_high_79, i5_high_82, i5_high_85, i5_high_87, i5_high_90, i5_high_92, i5_high_94, i5_high_96, i5_high_97, i5_high_100, i5_high_102, i5_high_104, i5_high_107, i5_high_109, i5_high_111, i5_high_114, i5_high_115, i5_high_118, i5_high_119, i5_high_121, i5_high_123, i5_high_126, i5_high_127, i5_high_128, i5_high_131, i5_high_134, i5_high_137, i5_high_139, i5_high_140, i5_high_141, i5_high_142, i5_high_145, i5_high_146, i5_high_149, i5_high_151, i5_high_153, i5_high_155, i5_high_157, i5_high_160, k_3, k_4, al, bc, p, f4, pK_i, lt, hs, h1, h2, h4, w1, w3, n10, if_true, if_false, not_true_eq_false, not_false_eq_true, true_or, or_true, nI_1]
      · have w2' := w2 h2
        by_cases h3 : bts (nI s) 6 < bts B 6
        · refine ⟨(σ', .int (bts (nI s) 6), .int 1), agr_t hd' a', ?_⟩
          rw [i5_high_70]
          rw [w2'] at w1 ⊢
          by_cases h4 : lv < v
          · simp only [Nat.reduceAdd, i5_high_72, i5_high_73, i5_high_76, i5_high_79, i5_high_82, i5_high_85, i5_high_87, i5_high_90, i5_high_92, i5_high_94, i5_high_96, i5_high_97, i5_high_100, i5_high_102, i5_high_104, i5_high_107, i5_high_109, i5_high_111, i5_high_114, i5_high_115, i5_high_118, i5_high_119, i5_high_121, i5_high_123, i5_high_126, i5_high_127, i5_high_128, i5_high_131, i5_high_134, i5_high_137, i5_high_139, i5_high_140, i5_high_141, i5_high_142, i5_high_145, i5_high_146, i5_high_149, i5_high_151, i5_high_153, i5_high_155, i5_high_157, i5_high_160, k_3, k_4, al, bc, p, f4, pK_i, lt, hs, h1, h2, h3, h4, w1, w2', w3, n10, if_true, if_false, not_true_eq_false, not_false_eq_true, true_or, or_true, nI_1]
          · simp only [Nat.reduceAdd, i5_high_72, i5_high_73, i5_high_76, i5_high_79, i5_high_82, i5_high_85, i5_high_87, i5_high_90, i5_high_92, i5_high_94, i5_high_96, i5_high_97, i5_high_100, i5_high_102, i5_high_104, i5_high_107, i5_high_109, i5_high_111, i5_high_114, i5_high_115, i5_high_118, i5_high_119, i5_high_121, i5_high_123, i5_high_126, i5_high_127, i5_high_128, i5_high_131, i5_high_134, i5_high_137, i5_high_139, i5_high_140, i5_high_141, i5_high_142, i5_high_145, i5_high_146, i5_high_149, i5_high_151, i5_high_153, i5_high_155, i5_high_157, i5_high_160, k_3, k_4, al, bc, p, f4, pK_i, lt, hs, h1, h2, h3, h4, w1, w2', w3, n10, if_true, if_false, not_true_eq_false, not_false_eq_true, true_or, or_true, nI_1]
        · refine ⟨(e, .int (bts (nI s) 6), .int 0), hd', ?_⟩
          rw [i5_high_70]
          rw [w2'] at w1 ⊢
          simp only [Nat.reduceAdd, i5_high_72, i5_high_73, i5_high_76, i5_high_79, i5_high_82, i5_high_85, i5_high_87, i5_high_90, i5_high_92, i5_high_94, i5_high_96, i5_high_97, i5_high_100, i5_high_102, i5_high_104, i5_high_107, i5_high_109, i5_high_111, i5_high_114, i5_high_115, i5_high_118, i5_high_119, i5_high_121, i5_high_123, i5_high_126, i5_high_127, i5_high_128, i5_high_131, i5_high_134, i5_high_137, i5_high_139, i5_high_140, i5_high_141, i5_high_142, i5_high_145, i5_high_146, i5_high_149, i5_high_151, i5_high_153, i5_high_155, i5_high_157, i5_high_160, k_3, k_4, al, bc, pK_i, lt, hs, h1, h2, h3, w1, w2', n10, if_true, if_false, not_true_eq_false, not_false_eq_true, true_or, or_true, or_self, nI_1]
    · refine ⟨(e, .int (bts (nI s) 6), .int 0), hd', ?_⟩
      rw [i5_high_70]
      simp only [Nat.reduceAdd, i5_high_72, i5_high_73, i5_high_76, i5_high_79, i5_high_82, i5_high_85, i5_high_87, i5_high_90, i5_high_92, i5_high_94, i5_high_96, i5_high_97, i5_high_100, i5_high_102, i5_high_104, i5_high_107, i5_high_109, i5_high_111, i5_high_114, i5_high_115, i5_high_118, i5_high_119, i5_high_121, i5_high_123, i5_high_126, i5_high_127, i5_high_128, i5_high_131, i5_high_134, i5_high_137, i5_high_139, i5_high_140, i5_high_141, i5_high_142, i5_high_145, i5_high_146, i5_high_149, i5_high_151, i5_high_153, i5_high_155, i5_high_157, i5_high_160, k_3, k_4, al, bc, pK_i, lt, hs, h1, n10, if_true, if_false, not_true_eq_false, not_false_eq_true, true_or, or_true, nI_1]))
  have k := key (e0, .null, .null) he0
  exact k
theorem hgR (r : qN g m σ) {b n : Nat} (hb : b ≤ g) (hn : n ≤ 100) {v : Int32} {e0 : Nat → Nat → Int32} (he0 : agr σ e0) : ∃ σ', agr σ σ' ∧ (∀ c, c ≠ 81 → σ' c = e0 c) ∧ pX 186 47 [.ref 67, .int (nI b), .int v, .int (nI n), .int (-9), .int 0] [] (mm L xs e0 τ) 85 S = pX 186 128 [.ref 67, .int (nI b), .int v, .int (nI n), .int (hgw σ g n b v (2 ^ g)), .int (nI (2 ^ g))] [] (mm L xs σ' τ) 85 S := by
  have hg6 := r.1
  obtain ⟨p64, p0⟩ := p2_64 hg6
  have key := lq (δ := Nat → Nat → Int32) (2 ^ g) (fun _ e => agr σ e ∧ ∀ c, c ≠ 81 → e c = e0 c) (fun s e => pX 186 47 [.ref 67, .int (nI b), .int v, .int (nI n), .int (hgw σ g n b v s), .int (nI s)] [] (mm L xs e τ) 85 S) (fun o => ∃ σ', agr σ σ' ∧ (∀ c, c ≠ 81 → σ' c = e0 c) ∧ o = pX 186 128 [.ref 67, .int (nI b), .int v, .int (nI n), .int (hgw σ g n b v (2 ^ g)), .int (nI (2 ^ g))] [] (mm L xs σ' τ) 85 S) (fun e he => ⟨e, he.1, he.2, by
    have f := (qN_agr he.1 r).2.2.1
    simp only [Nat.reduceAdd, i6_high_47, i6_high_49, i6_high_50, i6_high_51, i6_high_54, i6_high_55, f, p2_ok hg6, Int32.lt_irrefl, if_false]⟩) (fun s hs e he => Or.inr (by
    have r' := qN_agr he.1 r
    have f67 := r'.2.2.1
    have e72 : e 72 = σ 72 := he.1.1 72 (by unfold scr; omega) (by decide)
    have f4 : e 74 7 = σ 74 7 := by rw [he.1.1 74 (by unfold scr; omega) (by decide)]
    have wt := s6_weirs (L := L) (xs := xs) (σ := e) (τ := τ) (S := S) f67 hg6
    rw [e72] at wt
    obtain ⟨σ', p, a', q', l'⟩ := r6_tries (L := L) (xs := xs) (τ := τ) (S := S) r' (op := σ 74 7 ^^^ nI s) hn
    rw [agr_wat he.1] at l'
    have l := l' b hb
    have lt := p2_lt hg6 (show s ≤ 5000 by omega)
    have hq : hgw σ g n b v (s + 1) = hgn (wr (σ 72) g) (wat σ g (σ 74 7 ^^^ nI s) n b) v s (hgw σ g n b v s) := rfl
    rw [hq]
    generalize hgw σ g n b v s = B
    generalize wat σ g (σ 74 7 ^^^ nI s) n b = lv at l ⊢
    unfold hgn
    by_cases h1 : nI s &&& wr (σ 72) g = 0
    · by_cases h2 : B < 0
      · refine ⟨σ', ⟨agr_t he.1 a', fun c hc => (q' c hc).trans (he.2 c hc)⟩, ?_⟩
        rw [i6_high_47]
        by_cases h4 : lv < v
        · simp only [Nat.reduceAdd, i6_high_49, i6_high_50, i6_high_51, i6_high_54, i6_high_55, i6_high_58, i6_high_60, i6_high_61, i6_high_64, i6_high_65, i6_high_68, i6_high_70, i6_high_73, i6_high_75, i6_high_78, i6_high_80, i6_high_83, i6_high_86, i6_high_87, i6_high_88, i6_high_91, i6_high_93, i6_high_94, i6_high_96, i6_high_97, i6_high_98, i6_high_101, i6_high_102, i6_high_105, i6_high_106, i6_high_107, i6_high_108, i6_high_109, i6_high_110, i6_high_113, i6_high_115, i6_high_118, i6_high_120, i6_high_122, i6_high_125, k_74, l_74, i7, z7, k_81, l_81, Int32.zero_add, ifb_i (show b < 9 by omega) (by decide), cl (show b ≤ 5000 by omega), f67, p2_ok hg6, wt, s6_bits, p, l, f4, pK_i, pK_v, lt, hs, h1, h2, h4, if_true, if_false, not_true_eq_false, not_false_eq_true, true_or, or_true, nI_1]
        · simp only [Nat.reduceAdd, i6_high_49, i6_high_50, i6_high_51, i6_high_54, i6_high_55, i6_high_58, i6_high_60, i6_high_61, i6_high_64, i6_high_65, i6_high_68, i6_high_70, i6_high_73, i6_high_75, i6_high_78, i6_high_80, i6_high_83, i6_high_86, i6_high_87, i6_high_88, i6_high_91, i6_high_93, i6_high_94, i6_high_96, i6_high_97, i6_high_98, i6_high_101, i6_high_102, i6_high_105, i6_high_106, i6_high_107, i6_high_108, i6_high_109, i6_high_110, i6_high_113, i6_high_115, i6_high_118, i6_high_120, i6_high_122, i6_high_125, k_74, l_74, i7, z7, k_81, l_81, Int32.zero_add, ifb_i (show b < 9 by omega) (by decide), cl (show b ≤ 5000 by omega), f67, p2_ok hg6, wt, s6_bits, p, l, f4, pK_i, pK_v, lt, hs, h1, h2, h4, if_true, if_false, not_true_eq_false, not_false_eq_true, true_or, or_true, nI_1]
      · by_cases h3 : bts (nI s) 6 < bts B 6
        · refine ⟨σ', ⟨agr_t he.1 a', fun c hc => (q' c hc).trans (he.2 c hc)⟩, ?_⟩
          rw [i6_high_47]
          by_cases h4 : lv < v
          · simp only [Nat.reduceAdd, i6_high_49, i6_high_50, i6_high_51, i6_high_54, i6_high_55, i6_high_58, i6_high_60, i6_high_61, i6_high_64, i6_high_65, i6_high_68, i6_high_70, i6_high_73, i6_high_75, i6_high_78, i6_high_80, i6_high_83, i6_high_86, i6_high_87, i6_high_88, i6_high_91, i6_high_93, i6_high_94, i6_high_96, i6_high_97, i6_high_98, i6_high_101, i6_high_102, i6_high_105, i6_high_106, i6_high_107, i6_high_108, i6_high_109, i6_high_110, i6_high_113, i6_high_115, i6_high_118, i6_high_120, i6_high_122, i6_high_125, k_74, l_74, i7, z7, k_81, l_81, Int32.zero_add, ifb_i (show b < 9 by omega) (by decide), cl (show b ≤ 5000 by omega), f67, p2_ok hg6, wt, s6_bits, p, l, f4, pK_i, pK_v, lt, hs, h1, h2, h3, h4, if_true, if_false, not_true_eq_false, not_false_eq_true, true_or, or_true, nI_1]
          · simp only [Nat.reduceAdd, i6_high_49, i6_high_50, i6_high_51, i6_high_54, i6_high_55, i6_high_58, i6_high_60, i6_high_61, i6_high_64, i6_high_65, i6_high_68, i6_high_70, i6_high_73, i6_high_75, i6_high_78, i6_high_80, i6_high_83, i6_high_86, i6_high_87, i6_high_88, i6_high_91, i6_high_93, i6_high_94, i6_high_96, i6_high_97, i6_high_98, i6_high_101, i6_high_102, i6_high_105, i6_high_106, i6_high_107, i6_high_108, i6_high_109, i6_high_110, i6_high_113, i6_high_115, i6_high_118, i6_high_120, i6_high_122, i6_high_125, k_74, l_74, i7, z7, k_81, l_81, Int32.zero_add, ifb_i (show b < 9 by omega) (by decide), cl (show b ≤ 5000 by omega), f67, p2_ok hg6, wt, s6_bits, p, l, f4, pK_i, pK_v, lt, hs, h1, h2, h3, h4, if_true, if_false, not_true_eq_false, not_false_eq_true, true_or, or_true, nI_1]
        · refine ⟨e, he, ?_⟩
          rw [i6_high_47]
          simp only [Nat.reduceAdd, i6_high_49, i6_high_50, i6_high_51, i6_high_54, i6_high_55, i6_high_58, i6_high_60, i6_high_61, i6_high_64, i6_high_65, i6_high_68, i6_high_70, i6_high_73, i6_high_75, i6_high_78, i6_high_80, i6_high_83, i6_high_86, i6_high_87, i6_high_88, i6_high_91, i6_high_93, i6_high_94, i6_high_96, i6_high_97, i6_high_98, i6_high_101, i6_high_102, i6_high_105, i6_high_106, i6_high_107, i6_high_108, i6_high_109, i6_high_110, i6_high_113, i6_high_115, i6_high_118, i6_high_120, i6_high_122, i6_high_125, f67, p2_ok hg6, wt, s6_bits, pK_i, lt, hs, h1, h2, h3, if_true, if_false, not_true_eq_false, not_false_eq_true, true_or, or_true, or_self, nI_1]
    · refine ⟨e, he, ?_⟩
      rw [i6_high_47]
      simp only [Nat.reduceAdd, i6_high_49, i6_high_50, i6_high_51, i6_high_54, i6_high_55, i6_high_58, i6_high_60, i6_high_61, i6_high_64, i6_high_65, i6_high_68, i6_high_70, i6_high_73, i6_high_75, i6_high_78, i6_high_80, i6_high_83, i6_high_86, i6_high_87, i6_high_88, i6_high_91, i6_high_93, i6_high_94, i6_high_96, i6_high_97, i6_high_98, i6_high_101, i6_high_102, i6_high_105, i6_high_106, i6_high_107, i6_high_108, i6_high_109, i6_high_110, i6_high_113, i6_high_115, i6_high_118, i6_high_120, i6_high_122, i6_high_125, f67, p2_ok hg6, wt, pK_i, lt, hs, h1, if_true, if_false, not_true_eq_false, not_false_eq_true, true_or, or_true, nI_1]))
  exact key e0 ⟨he0, fun _ _ => rfl⟩
theorem wr_eq (r : qN g m σ) : wr (σ 5) g = wr (σ 72) g := wr_c fun i hi => (r.2.2.2.1 i hi).1
theorem op_high {b v n : Int32} : opI L xs S (fun M => pX 71 0 [.ref 0, .int b, .int v, .int n, .null, .null, .null, .null, .null, .null] [] M 85 S) (fun M => pX 186 0 [.ref 67, .int b, .int v, .int n, .null, .null] [] M 85 S) := by
  intro g d σ τ R
  have hg6 := R.1.1
  have h61 : (¬ v < 0 ∧ ¬ 60 < v) = inb v 61 := propext (inb_iff2 (n := 60) rfl (by decide)).symm
  by_cases h : 0 < g
  · by_cases hb : inb b (g + 1)
    · by_cases hv : inb v 61
      · by_cases n0 : n < 1
        · apply op_of
          · simp only [Nat.reduceAdd, i5_high_0, i5_high_1, i5_high_4, i5_high_7, i5_high_10, i5_high_12, i5_high_13, i5_high_14, i5_high_17, i5_high_20, i5_high_21, i5_high_24, i5_high_27, i5_high_28, i5_high_31, i5_high_34, i5_high_35, i5_high_36, i5_high_39, i5_high_40, i5_high_42, i5_high_45, i5_high_46, i5_high_47, i5_high_48, i5_high_51, i5_high_54, i5_high_57, i5_high_59, i5_high_61, i5_high_63, i5_high_65, i5_high_67, i5_high_68, s3_isThere R.1, h4_hasBasin R.1 h, s5_isLevel, k_3, k_4, pK_i, bi_0, h, hb, hv, n0, if_true, if_false, not_true_eq_false, not_false_eq_true, true_or, or_true]; rfl
          · simp only [Nat.reduceAdd, i6_high_0, i6_high_1, i6_high_4, i6_high_7, i6_high_9, i6_high_10, i6_high_11, i6_high_12, i6_high_15, i6_high_18, i6_high_19, i6_high_20, i6_high_22, i6_high_25, i6_high_28, i6_high_29, i6_high_30, i6_high_32, i6_high_35, i6_high_38, i6_high_39, i6_high_40, i6_high_42, i6_high_44, i6_high_45, R.1.2.2.1, gN0 hg6, s6_isBasin R.1.2.2.1 hg6, s6_in, h61, pK_i, bi_0, h, hb, hv, n0, if_true, if_false, not_true_eq_false, not_false_eq_true, true_or, or_true, false_and]; rfl
          · exact R
        · by_cases n20 : 20 < n
          · apply op_of
            · simp only [Nat.reduceAdd, i5_high_0, i5_high_1, i5_high_4, i5_high_7, i5_high_10, i5_high_12, i5_high_13, i5_high_14, i5_high_17, i5_high_20, i5_high_21, i5_high_24, i5_high_27, i5_high_28, i5_high_31, i5_high_34, i5_high_35, i5_high_36, i5_high_39, i5_high_40, i5_high_42, i5_high_45, i5_high_46, i5_high_47, i5_high_48, i5_high_51, i5_high_54, i5_high_57, i5_high_59, i5_high_61, i5_high_63, i5_high_65, i5_high_67, i5_high_68, s3_isThere R.1, h4_hasBasin R.1 h, s5_isLevel, k_3, k_4, pK_i, bi_0, h, hb, hv, n0, n20, if_true, if_false, not_true_eq_false, not_false_eq_true, true_or, or_true]; rfl
            · simp only [Nat.reduceAdd, i6_high_0, i6_high_1, i6_high_4, i6_high_7, i6_high_9, i6_high_10, i6_high_11, i6_high_12, i6_high_15, i6_high_18, i6_high_19, i6_high_20, i6_high_22, i6_high_25, i6_high_28, i6_high_29, i6_high_30, i6_high_32, i6_high_35, i6_high_38, i6_high_39, i6_high_40, i6_high_42, i6_high_44, i6_high_45, R.1.2.2.1, gN0 hg6, s6_isBasin R.1.2.2.1 hg6, s6_in, h61, pK_i, bi_0, h, hb, hv, n0, n20, if_true, if_false, not_true_eq_false, not_false_eq_true, true_or, or_true, and_false]; rfl
            · exact R
          · obtain ⟨j, hj, rfl⟩ := inb_of hb (by omega)
            obtain ⟨m, hm, rfl⟩ : ∃ m, m < 21 ∧ n = nI m := inb_of ((inb_iff2 (n := 20) (m := 20) rfl (by decide)).mpr ⟨by
              rw [Int32.lt_iff_toInt_lt] at n0 ⊢
              have a : (1 : Int32).toInt = 1 := rfl
              have b : (0 : Int32).toInt = 0 := rfl
              omega, n20⟩) (by decide)
            have wC := s4_weirs (L := L) (xs := xs) (σ := σ) (τ := τ) (S := S) a_4 R.1.2.1 hg6
            simp only [Nat.reduceAdd, wr_eq R.1] at wC
            obtain ⟨σ1, d8, d9, ag1, p1⟩ := hgC (L := L) (xs := xs) (τ := τ) (S := S) R.1 (b := j) (n := m) (by omega) (by omega) (v := v) (agr_r σ)
            have hr : hgw σ g m j v (2 ^ g) = -9 ∨ ∃ t, t < 64 ∧ hgw σ g m j v (2 ^ g) = nI t := hgq_rg _ _ _ _ (p2_64 hg6).1
            obtain ⟨w1, w2⟩ := fw_rg hr
            by_cases hB : hgw σ g m j v (2 ^ g) < 0
            · obtain ⟨σ2, ag2, o2, p2⟩ := hgR (L := L) (xs := xs) (τ := τ) (S := S) R.1 (b := j) (n := m) (by omega) (by omega) (v := v) ag1
              have w3 : fw (hgw σ g m j v (2 ^ g)) = -9 := by rw [w1]; exact hB
              have g1 : σ1 67 4 = nI g := (qN_agr ag1 R.1).2.2.1
              apply op_of
              · simp only [Nat.reduceAdd, i5_high_0, i5_high_1, i5_high_4, i5_high_7, i5_high_10, i5_high_12, i5_high_13, i5_high_14, i5_high_17, i5_high_20, i5_high_21, i5_high_24, i5_high_27, i5_high_28, i5_high_31, i5_high_34, i5_high_35, i5_high_36, i5_high_39, i5_high_40, i5_high_42, i5_high_45, i5_high_46, i5_high_47, i5_high_48, i5_high_51, i5_high_54, i5_high_57, i5_high_59, i5_high_61, i5_high_63, i5_high_65, i5_high_67, i5_high_68, s3_isThere R.1, h4_hasBasin R.1 h, s5_isLevel, wC, p1, k_3, k_4, pK_i, bi_0, h, hb, hv, n0, n20, if_true, if_false, not_true_eq_false, not_false_eq_true, true_or, or_true]
                simp only [i5_high_163, i5_high_165, i5_high_167, i5_high_170, i5_high_171, i5_high_173, i5_high_176, i5_high_177, i5_high_179, w3, if_true]; rfl
              · simp only [Nat.reduceAdd, i6_high_0, i6_high_1, i6_high_4, i6_high_7, i6_high_9, i6_high_10, i6_high_11, i6_high_12, i6_high_15, i6_high_18, i6_high_19, i6_high_20, i6_high_22, i6_high_25, i6_high_28, i6_high_29, i6_high_30, i6_high_32, i6_high_35, i6_high_38, i6_high_39, i6_high_40, i6_high_42, i6_high_44, i6_high_45, g1, gN0 hg6, s6_isBasin g1 hg6, s6_in, h61, p2, pK_i, bi_0, h, hb, hv, n0, n20, if_true, if_false, not_true_eq_false, not_false_eq_true, true_or, or_true, and_self]
                simp only [i6_high_128, i6_high_130, i6_high_133, i6_high_135, i6_high_136, i6_high_137, i6_high_139, i6_high_142, i6_high_144, i6_high_147, hB, if_true]; rfl
              · exact Rel_agr ag2 R
            · obtain ⟨B, hBe⟩ : ∃ B, B = hgw σ g m j v (2 ^ g) := ⟨_, rfl⟩
              have rT : qN g d (va_up σ1 0 (upd (σ1 0) 10 B)) := td_qN R.1 ag1
              have g1 := rT.2.2.1
              obtain ⟨σ2, ag2, o2, p2⟩ := hgR (L := L) (xs := xs) (τ := τ) (S := S) rT (b := j) (n := m) (by omega) (by omega) (v := v) (agr_r _)
              have hw : hgw (va_up σ1 0 (upd (σ1 0) 10 B)) g m j v = hgw σ g m j v := by
                unfold hgw
                rw [td_wat ag1, td_c ag1 (by unfold scr; omega) (by decide) (by decide), td_c ag1 (by unfold scr; omega) (by decide) (by decide)]
              rw [hw, ← hBe] at p2
              rw [← hBe] at p1 hB w1 w2
              have w4 := w2 hB
              have w3 : ¬ bts B 6 = -9 := by rw [← w4, w1]; exact hB
              refine op_of (v := bts B 6) (σ1 := va_up σ1 0 (upd (σ1 0) 10 B)) (σ2 := va_up σ2 67 (upd (σ2 67) 11 B)) (τ1 := τ) (τ2 := τ) (g := g) (d := d) ?_ ?_ (Rel_fin R ag1 ag2)
              · simp only [Nat.reduceAdd, i5_high_0, i5_high_1, i5_high_4, i5_high_7, i5_high_10, i5_high_12, i5_high_13, i5_high_14, i5_high_17, i5_high_20, i5_high_21, i5_high_24, i5_high_27, i5_high_28, i5_high_31, i5_high_34, i5_high_35, i5_high_36, i5_high_39, i5_high_40, i5_high_42, i5_high_45, i5_high_46, i5_high_47, i5_high_48, i5_high_51, i5_high_54, i5_high_57, i5_high_59, i5_high_61, i5_high_63, i5_high_65, i5_high_67, i5_high_68, s3_isThere R.1, h4_hasBasin R.1 h, s5_isLevel, wC, p1, k_3, k_4, pK_i, bi_0, h, hb, hv, n0, n20, if_true, if_false, not_true_eq_false, not_false_eq_true, true_or, or_true]
                simp only [i5_high_163, i5_high_165, i5_high_167, i5_high_170, i5_high_171, i5_high_173, i5_high_176, i5_high_177, i5_high_179, w3, w4, s5_tell, pK_i, if_false]
              · simp only [Nat.reduceAdd, i6_high_0, i6_high_1, i6_high_4, i6_high_7, i6_high_9, i6_high_10, i6_high_11, i6_high_12, i6_high_15, i6_high_18, i6_high_19, i6_high_20, i6_high_22, i6_high_25, i6_high_28, i6_high_29, i6_high_30, i6_high_32, i6_high_35, i6_high_38, i6_high_39, i6_high_40, i6_high_42, i6_high_44, i6_high_45, g1, gN0 hg6, s6_isBasin g1 hg6, s6_in, h61, p2, pK_i, bi_0, h, hb, hv, n0, n20, if_true, if_false, not_true_eq_false, not_false_eq_true, true_or, or_true, and_self]
                simp only [i6_high_128, i6_high_130, i6_high_133, i6_high_135, i6_high_136, i6_high_137, i6_high_139, i6_high_142, i6_high_144, i6_high_147, hB, s6_bits, pK_i, if_false]
      · apply op_of
        · simp only [Nat.reduceAdd, i5_high_0, i5_high_1, i5_high_4, i5_high_7, i5_high_10, i5_high_12, i5_high_13, i5_high_14, i5_high_17, i5_high_20, i5_high_21, i5_high_24, i5_high_27, i5_high_28, i5_high_31, i5_high_34, i5_high_35, i5_high_36, i5_high_39, i5_high_40, i5_high_42, i5_high_45, i5_high_46, i5_high_47, i5_high_48, i5_high_51, i5_high_54, i5_high_57, i5_high_59, i5_high_61, i5_high_63, i5_high_65, i5_high_67, i5_high_68, s3_isThere R.1, h4_hasBasin R.1 h, s5_isLevel, k_3, k_4, pK_i, bi_0, h, hb, hv, if_true, if_false, not_true_eq_false, not_false_eq_true, true_or, or_true]; rfl
        · simp only [Nat.reduceAdd, i6_high_0, i6_high_1, i6_high_4, i6_high_7, i6_high_9, i6_high_10, i6_high_11, i6_high_12, i6_high_15, i6_high_18, i6_high_19, i6_high_20, i6_high_22, i6_high_25, i6_high_28, i6_high_29, i6_high_30, i6_high_32, i6_high_35, i6_high_38, i6_high_39, i6_high_40, i6_high_42, i6_high_44, i6_high_45, R.1.2.2.1, gN0 hg6, s6_isBasin R.1.2.2.1 hg6, s6_in, h61, pK_i, bi_0, h, hb, hv, if_true, if_false, not_true_eq_false, not_false_eq_true, true_or, or_true]; rfl
        · exact R
    · apply op_of
      · simp only [Nat.reduceAdd, i5_high_0, i5_high_1, i5_high_4, i5_high_7, i5_high_10, i5_high_12, i5_high_13, i5_high_14, i5_high_17, i5_high_20, i5_high_21, i5_high_24, i5_high_27, i5_high_28, i5_high_31, i5_high_34, i5_high_35, i5_high_36, i5_high_39, i5_high_40, i5_high_42, i5_high_45, i5_high_46, i5_high_47, i5_high_48, i5_high_51, i5_high_54, i5_high_57, i5_high_59, i5_high_61, i5_high_63, i5_high_65, i5_high_67, i5_high_68, s3_isThere R.1, h4_hasBasin R.1 h, k_3, k_4, pK_i, bi_0, h, hb, if_true, if_false, not_true_eq_false, not_false_eq_true, true_or, or_true]; rfl
      · simp only [Nat.reduceAdd, i6_high_0, i6_high_1, i6_high_4, i6_high_7, i6_high_9, i6_high_10, i6_high_11, i6_high_12, i6_high_15, i6_high_18, i6_high_19, i6_high_20, i6_high_22, i6_high_25, i6_high_28, i6_high_29, i6_high_30, i6_high_32, i6_high_35, i6_high_38, i6_high_39, i6_high_40, i6_high_42, i6_high_44, i6_high_45, R.1.2.2.1, gN0 hg6, s6_isBasin R.1.2.2.1 hg6, pK_i, bi_0, h, hb, if_true, if_false, not_true_eq_false, not_false_eq_true, true_or, or_true]; rfl
      · exact R
  · apply op_of
    · simp only [Nat.reduceAdd, i5_high_0, i5_high_1, i5_high_4, i5_high_7, i5_high_10, i5_high_12, i5_high_13, i5_high_14, i5_high_17, i5_high_20, i5_high_21, i5_high_24, i5_high_27, i5_high_28, i5_high_31, i5_high_34, i5_high_35, i5_high_36, i5_high_39, i5_high_40, i5_high_42, i5_high_45, i5_high_46, i5_high_47, i5_high_48, i5_high_51, i5_high_54, i5_high_57, i5_high_59, i5_high_61, i5_high_63, i5_high_65, i5_high_67, i5_high_68, s3_isThere R.1, k_3, k_4, pK_i, bi_0, h, if_true, if_false, not_true_eq_false, not_false_eq_true, true_or, or_true]; rfl
    · simp only [Nat.reduceAdd, i6_high_0, i6_high_1, i6_high_4, i6_high_7, i6_high_9, i6_high_10, i6_high_11, i6_high_12, i6_high_15, i6_high_18, i6_high_19, i6_high_20, i6_high_22, i6_high_25, i6_high_28, i6_high_29, i6_high_30, i6_high_32, i6_high_35, i6_high_38, i6_high_39, i6_high_40, i6_high_42, i6_high_44, i6_high_45, R.1.2.2.1, gN0 hg6, h, if_true, if_false, not_true_eq_false, not_false_eq_true, true_or, or_true]; rfl
    · exact R
end DN
