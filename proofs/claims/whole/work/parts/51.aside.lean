/-! WHAT IS TRIED ASIDE, turn by turn -/
theorem Rel_st {g d : Nat} {σ σ' : Nat → Nat → Int32} {τ : Nat → Nat → Int64} (r : Rel g d σ τ) (h : ∀ c, ¬ scr c → c ≠ 0 → c ≠ 67 → σ' c = σ c) (h0 : ∀ i, i ≠ 10 → σ' 0 i = σ 0 i) (h67 : ∀ i, i < 11 ∨ (11 < i ∧ i < 16) → σ' 67 i = σ 67 i) (hv : σ' 0 10 = σ' 67 11) : Rel g d σ' τ := by
  obtain ⟨a1, a2, a3, a4, a5, a6⟩ := r
  have hh : ∀ c, c ≤ 77 → (c < 12 ∨ 21 < c) → c ≠ 0 → c ≠ 67 → σ' c = σ c := fun c h1 h2 h3 h4 => h c (by unfold scr; omega) h3 h4
  refine ⟨qN_c (fun c hc => hh c (by omega) (by omega) (by omega) (by omega)) (h67 4 (by omega)) a1, qD_c (fun c hc => hh c (by omega) (by omega) (by omega) (by omega)) (h67 8 (by omega)) a2, qK_c (fun c hc => hh c (by omega) (by omega) (by omega) (by omega)) a3, qR_c (fun c hc => hh c (by omega) (by omega) (by omega) (by omega)) a4, qT_c (fun c hc => hh c (by omega) (by omega) (by omega) (by omega)) a5, ?_⟩
  obtain ⟨b1, b2, b3, b4, b5⟩ := a6
  refine ⟨hv, by rw [h0 9 (by decide), h67 14 (by omega)]; exact b2, b3, b4, ?_⟩
  rw [hh 22 (by omega) (by omega) (by omega) (by omega), hh 77 (by omega) (by omega) (by omega) (by omega)]
  exact b5
def sok (g : Nat) (K W f : Nat → Int32) : Prop := (∀ i, i < g → kd6 (K i) ∧ wd9 (W i)) ∧ ∀ b, b ≤ g → inb (f b) 61
theorem sok_q {g : Nat} {K W f : Nat → Int32} (h : sok g K W f) : sysq g K W K W := fun i hi => ⟨rfl, rfl, (h.1 i hi).1, (h.1 i hi).2⟩
/-- the aside stand, j turns on from what f tells -/
def AS (σ : Nat → Nat → Int32) (g : Nat) (K W f : Nat → Int32) (j : Nat) (σj : Nat → Nat → Int32) : Prop := agr σ σj ∧ (∀ c, c < 12 ∨ 15 < c → σj c = σ c) ∧ σj 12 3 = nI g ∧ σj 12 4 = f 7 ∧ σj 12 5 = f 8 + nI j ∧ (∀ i, i < g → σj 13 i = K i ∧ σj 14 i = W i) ∧ ∀ b, b ≤ g → σj 15 b = rR K W g f j b
/-- the row of what is tried, j turns on -/
def RS (g : Nat) (K W f : Nat → Int32) (j : Nat) (y : Nat → Int32) : Prop := (∀ b, b ≤ g → y b = rR K W g f j b) ∧ y 7 = f 7 ∧ y 8 = f 8 + nI j
/-- which let through, at the turn j -/
noncomputable def mvq (g : Nat) (K W f : Nat → Int32) (j : Nat) : Int32 := tmR K W 0 (rR K W g f j) g
section DK
variable {L : Nat} {xs : Nat → Int32} {σ σj : Nat → Nat → Int32} {τ : Nat → Nat → Int64} {S g d m j : Nat} {K W f : Nat → Int32}
theorem rR_at (hg6 : g ≤ 6) (h : sok g K W f) (j : Nat) : lvs g (rR K W g f j) (rR K W g f j) ∧ rR K W g f j 7 = f 7 ∧ rR K W g f j 8 = f 8 + nI j := by
  have t := T3 hg6 (K := K) (W := W) (lv := f) (f := f) (op := f 7) (nu := f 8) (sok_q h) (fun b hb => ⟨rfl, h.2 b hb⟩) rfl rfl j
  refine ⟨fun b hb => ⟨rfl, ?_⟩, t.2.1, t.2.2⟩
  rw [← (t.1 b hb).1]; exact (t.1 b hb).2
theorem AS_step (hg6 : g ≤ 6) (h : sok g K W f) (hA : AS σ g K W f j σj) : ∃ σ', pX 41 0 [.ref 12, .int 0, .null, .null, .null] [] (mm L xs σj τ) 85 S = some (some (.int (mvq g K W f j)), mm L xs σ' τ, 85, S) ∧ AS σ g K W f (j + 1) σ' := by
  obtain ⟨a1, a0, a2, a3, a4, a5, a6⟩ := hA
  obtain ⟨r1, r2, r3⟩ := rR_at hg6 h j
  have hs : sysq g (σj 13) (σj 14) K W := sysq_sw (sok_q h) a5
  have hl : lvs g (σj 15) (rR K W g f j) := fun b hb => by rw [a6 b hb]; exact r1 b hb
  have t := T2 hg6 (sk := 0) hs hl (r2.trans a3.symm) (r3.trans a4.symm)
  have p := s4_passTurn (L := L) (xs := xs) (σ := σj) (τ := τ) (S := S) a_12 a2 hg6 (sk := 0)
  simp only [Nat.reduceAdd] at p
  rw [t.2.2.2] at p
  refine ⟨_, p, agr_u (agr_u a1 (by unfold scr; omega)) (by unfold scr; omega), fun c hc => ?_, ?_, ?_, ?_, fun i hi => ?_, fun b hb => ?_⟩
  · rw [vn (by omega), vn (by omega)]; exact a0 c hc
  · rw [vs, un (by decide)]; exact a2
  · rw [vs, un (by decide)]; exact a3
  · rw [vs, us, a4, Int32.add_assoc, nI_1]
  · rw [vn (by decide), vn (by decide), vn (by decide), vn (by decide)]; exact a5 i hi
  · rw [vn (by decide), vs]; exact (t.1 b hb).1
theorem RS_step {y : Nat → Int32} (hg6 : g ≤ 6) (h : sok g K W f) (hR : RS g K W f j y) : tmR K W 0 y g = mvq g K W f j ∧ RS g K W f (j + 1) (tRs K W g 0 y) := by
  obtain ⟨a1, a2, a3⟩ := hR
  obtain ⟨r1, r2, r3⟩ := rR_at hg6 h j
  have hl : lvs g (rR K W g f j) y := fun b hb => by rw [a1 b hb]; exact r1 b hb
  have t := T2 hg6 (sk := 0) (K := K) (W := W) (op := f 7) (nu := f 8 + nI j) (sok_q h) hl a2 a3
  have t2 := T2 hg6 (sk := 0) (K := K) (W := W) (op := f 7) (nu := f 8 + nI j) (sok_q h) r1 r2 r3
  refine ⟨t.2.2.2.symm.trans t2.2.2.2, fun b hb => ?_, t.2.1, ?_⟩
  · exact (t.1 b hb).1.symm.trans (t2.1 b hb).1
  · rw [t.2.2.1, Int32.add_assoc, nI_1]
theorem AS_0 (r : qN g m σ) (hf : ∀ b, b ≤ g → f b = σ 74 b) (h7 : f 7 = σ 74 7) (h8 : f 8 = σ 74 8) (hK : ∀ i, i < g → K i = σ 72 i ∧ W i = σ 73 i) : AS σ g K W f 0 (tk σ 12 4) := by
  have hg6 := r.1
  obtain ⟨r1, ⟨o, _, e7, e7'⟩, ⟨v, _, e8, e8'⟩⟩ := r.2.2.2.2.1
  refine ⟨agr_tk σ, fun c hc => tk_n (by omega), ?_, ?_, ?_, fun i hi => ?_, fun b hb => ?_⟩
  · rw [tk_12_3]; exact r.2.1
  · rw [tk_12_4, h7, e7, e7']
  · rw [tk_12_5, h8, e8, e8', nI_0, Int32.add_zero]
  · obtain ⟨k1, k2, _, _⟩ := r.2.2.2.1 i hi
    rw [tk_13, tk_14, cpy_at _ _ (by omega), cpy_at _ _ (by omega), (hK i hi).1, (hK i hi).2]
    exact ⟨k1, k2⟩
  · rw [tk_15, cpy_at _ _ (by omega)]
    show σ 7 b = f b
    rw [hf b hb]; exact (r1 b hb).1
theorem sok_N (r : qN g m σ) (hf : ∀ b, b ≤ g → f b = σ 74 b) (hK : ∀ i, i < g → K i = σ 72 i ∧ W i = σ 73 i) : sok g K W f := by
  refine ⟨fun i hi => ?_, fun b hb => ?_⟩
  · obtain ⟨k1, k2, k3, k4⟩ := r.2.2.2.1 i hi
    rw [(hK i hi).1, (hK i hi).2, ← k1, ← k2]
    exact ⟨k3, k4⟩
  · obtain ⟨e1, e2⟩ := qN_w r b hb
    rw [hf b hb, ← e1]; exact e2
theorem RS_0 (hf : ∀ b, b < 9 → σj 81 b = f b) (hg6 : g ≤ 6) : RS g K W f 0 (σj 81) := ⟨fun b hb => hf b (by omega), hf 7 (by decide), by rw [hf 8 (by decide), nI_0, Int32.add_zero]⟩
end DK
