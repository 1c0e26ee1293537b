/-! WHAT HOLDS BETWEEN THE TWO SYSTEMS -/
def rc (g : Nat) (x : Nat → Int32) (o n : Int32) (y : Nat → Int32) (m : Nat) : Prop := (∀ b, b ≤ g → x b = y b ∧ inb (x b) 61) ∧ (∃ k, k < 2 ^ g ∧ o = nI k ∧ y 7 = nI k) ∧ (∃ v, v ≤ m ∧ n = nI v ∧ y 8 = nI v)
def qN (g m : Nat) (σ : Nat → Nat → Int32) : Prop := g ≤ 6 ∧ σ 4 3 = nI g ∧ σ 67 4 = nI g ∧ sysq g (σ 5) (σ 6) (σ 72) (σ 73) ∧ rc g (σ 7) (σ 4 4) (σ 4 5) (σ 74) m ∧ (g = 0 → σ 4 5 = 0 ∧ m = 0)
def qD (g d : Nat) (σ : Nat → Nat → Int32) : Prop := d ≤ 40 ∧ σ 3 4 = nI d ∧ σ 67 8 = nI d ∧ ∀ j, j < d → rc g (fun b => σ 8 (7 * j + b)) (σ 9 j) (σ 10 j) (fun b => σ 75 (9 * j + b)) j
def qK1 (g k : Nat) (σ : Nat → Nat → Int32) : Prop := (σ (43 + 8 * k + 1) 3 = 0 ∧ σ 76 (370 * k) = -1) ∨ (0 < g ∧ σ (43 + 8 * k + 1) 3 = nI g ∧ (∀ i, i < g → σ (43 + 8 * k + 2) i = σ 5 i ∧ σ (43 + 8 * k + 3) i = σ 6 i) ∧ ∃ e, e ≤ 40 ∧ σ (43 + 8 * k) 4 = nI e ∧ σ 76 (370 * k) = nI e ∧ rc g (σ (43 + 8 * k + 4)) (σ (43 + 8 * k + 1) 4) (σ (43 + 8 * k + 1) 5) (fun b => σ 76 (370 * k + 1 + b)) e ∧ ∀ j, j < e → rc g (fun b => σ (43 + 8 * k + 5) (7 * j + b)) (σ (43 + 8 * k + 6) j) (σ (43 + 8 * k + 7) j) (fun b => σ 76 (370 * k + 10 + (9 * j + b))) j)
def qK (g : Nat) (σ : Nat → Nat → Int32) : Prop := ∀ k, k < 3 → qK1 g k σ
def sz (n : Nat) (x : Int32) : Prop := x = -1 ∨ ∃ m, m ≤ n ∧ x = nI m
def qR (σ : Nat → Nat → Int32) : Prop := ∀ r, r < 6 → σ (23 + 2 * r) 1 = σ 68 r ∧ sz 40 (σ 68 r) ∧ ∀ i, i < 40 → σ (23 + 2 * r + 1) i = σ 69 (40 * r + i)
def qT (σ : Nat → Nat → Int32) : Prop := ∀ t, t < 4 → σ (35 + 2 * t) 1 = σ 70 t ∧ sz 60 (σ 70 t) ∧ ∀ i, i < 60 → σ (35 + 2 * t + 1) i = σ 71 (60 * t + i)
def qS (σ : Nat → Nat → Int32) (τ : Nat → Nat → Int64) : Prop := σ 0 10 = σ 67 11 ∧ σ 0 9 = σ 67 14 ∧ τ 0 11 = τ 67 12 ∧ τ 0 12 = τ 67 13 ∧ ∀ j, j < 6 → σ 22 j = σ 77 j
def Rel (g d : Nat) (σ : Nat → Nat → Int32) (τ : Nat → Nat → Int64) : Prop := qN g d σ ∧ qD g d σ ∧ qK g σ ∧ qR σ ∧ qT σ ∧ qS σ τ
theorem qN_c {g m : Nat} {σ σ' : Nat → Nat → Int32} (h : ∀ c, (4 ≤ c ∧ c ≤ 7) ∨ (72 ≤ c ∧ c ≤ 74) → σ' c = σ c) (h4 : σ' 67 4 = σ 67 4) (r : qN g m σ) : qN g m σ' := by
  unfold qN at *
  rw [h 4 (by omega), h 5 (by omega), h 6 (by omega), h 7 (by omega), h 72 (by omega), h 73 (by omega), h 74 (by omega), h4]
  exact r
theorem qD_c {g d : Nat} {σ σ' : Nat → Nat → Int32} (h : ∀ c, c = 3 ∨ (8 ≤ c ∧ c ≤ 10) ∨ c = 75 → σ' c = σ c) (h4 : σ' 67 8 = σ 67 8) (r : qD g d σ) : qD g d σ' := by
  unfold qD at *
  rw [h 3 (by omega), h 8 (by omega), h 9 (by omega), h 10 (by omega), h 75 (by omega), h4]
  exact r
theorem qK_c {g : Nat} {σ σ' : Nat → Nat → Int32} (h : ∀ c, c = 5 ∨ c = 6 ∨ (43 ≤ c ∧ c ≤ 66) ∨ c = 76 → σ' c = σ c) (r : qK g σ) : qK g σ' := by
  intro k hk
  have r := r k hk
  unfold qK1 at *
  rw [h 5 (by omega), h 6 (by omega), h 76 (by omega), h (43 + 8 * k) (by omega), h (43 + 8 * k + 1) (by omega), h (43 + 8 * k + 2) (by omega), h (43 + 8 * k + 3) (by omega), h (43 + 8 * k + 4) (by omega), h (43 + 8 * k + 5) (by omega), h (43 + 8 * k + 6) (by omega), h (43 + 8 * k + 7) (by omega)]
  exact r
theorem qR_c {σ σ' : Nat → Nat → Int32} (h : ∀ c, (23 ≤ c ∧ c ≤ 34) ∨ c = 68 ∨ c = 69 → σ' c = σ c) (r : qR σ) : qR σ' := by
  intro k hk
  have r := r k hk
  rw [h 68 (by omega), h 69 (by omega), h (23 + 2 * k) (by omega), h (23 + 2 * k + 1) (by omega)]
  exact r
theorem qT_c {σ σ' : Nat → Nat → Int32} (h : ∀ c, (35 ≤ c ∧ c ≤ 42) ∨ c = 70 ∨ c = 71 → σ' c = σ c) (r : qT σ) : qT σ' := by
  intro k hk
  have r := r k hk
  rw [h 70 (by omega), h 71 (by omega), h (35 + 2 * k) (by omega), h (35 + 2 * k + 1) (by omega)]
  exact r
theorem qS_c {σ σ' : Nat → Nat → Int32} {τ : Nat → Nat → Int64} (h0 : σ' 0 = σ 0) (h1 : σ' 67 11 = σ 67 11) (h2 : σ' 67 14 = σ 67 14) (h22 : σ' 22 = σ 22) (h77 : σ' 77 = σ 77) (r : qS σ τ) : qS σ' τ := by
  unfold qS at *
  rw [h0, h1, h2, h22, h77]
  exact r
/-- what lies aside may be anything -/
def scr (c : Nat) : Prop := (12 ≤ c ∧ c ≤ 21) ∨ 78 ≤ c
def agr (σ σ' : Nat → Nat → Int32) : Prop := (∀ c, ¬ scr c → c ≠ 67 → σ' c = σ c) ∧ σ' 67 4 = σ 67 4 ∧ σ' 67 8 = σ 67 8 ∧ σ' 67 11 = σ 67 11 ∧ σ' 67 14 = σ 67 14
theorem agr_r (σ : Nat → Nat → Int32) : agr σ σ := ⟨fun _ _ _ => rfl, rfl, rfl, rfl, rfl⟩
theorem agr_t {a b c : Nat → Nat → Int32} (h1 : agr a b) (h2 : agr b c) : agr a c := ⟨fun k h h' => (h2.1 k h h').trans (h1.1 k h h'), h2.2.1.trans h1.2.1, h2.2.2.1.trans h1.2.2.1, h2.2.2.2.1.trans h1.2.2.2.1, h2.2.2.2.2.trans h1.2.2.2.2⟩
theorem agr_u {σ σ' : Nat → Nat → Int32} {c : Nat} {f : Nat → Int32} (h : agr σ σ') (hc : scr c) : agr σ (va_up σ' c f) := by
  have h67 : 67 ≠ c := by rintro rfl; unfold scr at hc; omega
  refine ⟨fun k hk h' => ?_, ?_, ?_, ?_, ?_⟩
  · rw [vn (show k ≠ c from fun e => hk (e ▸ hc))]; exact h.1 k hk h'
  · rw [vn h67]; exact h.2.1
  · rw [vn h67]; exact h.2.2.1
  · rw [vn h67]; exact h.2.2.2.1
  · rw [vn h67]; exact h.2.2.2.2
theorem Rel_agr {g d : Nat} {σ σ' : Nat → Nat → Int32} {τ : Nat → Nat → Int64} (h : agr σ σ') (r : Rel g d σ τ) : Rel g d σ' τ := by
  obtain ⟨a1, a2, a3, a4, a5, a6⟩ := r
  obtain ⟨h, h4, h8, h11, h14⟩ := h
  have hh : ∀ c, c ≤ 77 → (c < 12 ∨ 21 < c) → c ≠ 67 → σ' c = σ c := fun c h1 h2 h3 => h c (by unfold scr; omega) h3
  refine ⟨qN_c (fun c hc => hh c (by omega) (by omega) (by omega)) h4 a1, qD_c (fun c hc => hh c (by omega) (by omega) (by omega)) h8 a2, qK_c (fun c hc => hh c (by omega) (by omega) (by omega)) a3, qR_c (fun c hc => hh c (by omega) (by omega) (by omega)) a4, qT_c (fun c hc => hh c (by omega) (by omega) (by omega)) a5, qS_c (hh 0 (by omega) (by omega) (by omega)) h11 h14 (hh 22 (by omega) (by omega) (by omega)) (hh 77 (by omega) (by omega) (by omega)) a6⟩
theorem qN_agr {g d : Nat} {σ σ' : Nat → Nat → Int32} (h : agr σ σ') (r : qN g d σ) : qN g d σ' := by
  obtain ⟨h, h4, h8, h11, h14⟩ := h
  exact qN_c (fun c hc => h c (by unfold scr; omega) (by omega)) h4 r
/-- the water, some turns on, other gates being open -/
noncomputable def wat (σ : Nat → Nat → Int32) (g : Nat) (op : Int32) (n b : Nat) : Int32 := rR (σ 72) (σ 73) g (upd (σ 74) 7 op) n b
/-- the water, behind a turn some of which stick -/
noncomputable def wst (σ : Nat → Nat → Int32) (g : Nat) (sk : Int32) (b : Nat) : Int32 := tRs (σ 72) (σ 73) g sk (σ 74) b
theorem up7 {f : Nat → Int32} {op : Int32} : upd f 7 op 7 = op := us
theorem lvs_up {g : Nat} {x y : Nat → Int32} {op : Int32} (hg : g ≤ 6) (h : lvs g x y) : lvs g x (upd y 7 op) := by
  intro b hb
  rw [un (show b ≠ 7 by omega)]
  exact h b hb
theorem qN_w {g m : Nat} {σ : Nat → Nat → Int32} (r : qN g m σ) : lvs g (σ 7) (σ 74) := r.2.2.2.2.1.1
/-- a stand that is as the bridge is, but for what is open: what it comes to, by the plain form -/
theorem W1 {g m : Nat} {σ : Nat → Nat → Int32} (r : qN g m σ) {K W lv : Nat → Int32} {op : Int32} (hK : ∀ i, i < g → K i = σ 5 i ∧ W i = σ 6 i) (hl : ∀ b, b ≤ g → lv b = σ 7 b) (n : Nat) : lvs g (rl K W g op (σ 4 5) lv n) (rR (σ 72) (σ 73) g (upd (σ 74) 7 op) n) := by
  have hs : sysq g K W (σ 72) (σ 73) := sysq_sw r.2.2.2.1 hK
  have hl2 : lvs g lv (σ 74) := fun b hb => by rw [hl b hb]; exact qN_w r b hb
  obtain ⟨v, _, h8, h8'⟩ := r.2.2.2.2.1.2.2
  exact (T3 r.1 hs (lvs_up r.1 hl2) up7 (by rw [un (by decide), h8', h8]) n).1
theorem W2 {g m : Nat} {σ : Nat → Nat → Int32} (r : qN g m σ) {K W lv : Nat → Int32} {sk : Int32} (hK : ∀ i, i < g → K i = σ 5 i ∧ W i = σ 6 i) (hl : ∀ b, b ≤ g → lv b = σ 7 b) : lvs g (tl K W (σ 4 4) (σ 4 5) sk lv g) (tRs (σ 72) (σ 73) g sk (σ 74)) ∧ tm K W (σ 4 4) (σ 4 5) sk lv g = tmR (σ 72) (σ 73) sk (σ 74) g := by
  have hs : sysq g K W (σ 72) (σ 73) := sysq_sw r.2.2.2.1 hK
  have hl2 : lvs g lv (σ 74) := fun b hb => by rw [hl b hb]; exact qN_w r b hb
  obtain ⟨k, _, h7, h7'⟩ := r.2.2.2.2.1.2.1
  obtain ⟨v, _, h8, h8'⟩ := r.2.2.2.2.1.2.2
  have t := T2 r.1 (sk := sk) hs hl2 (h7'.trans h7.symm) (h8'.trans h8.symm)
  exact ⟨t.1, t.2.2.2⟩
/-- the plain form's rows that are alike go alike -/
theorem W3 {g m : Nat} {σ : Nat → Nat → Int32} (r : qN g m σ) {f : Nat → Int32} {op : Int32} (h7 : f 7 = op) (h8 : f 8 = σ 74 8) (hl : ∀ b, b ≤ g → f b = σ 74 b) (n b : Nat) (hb : b ≤ g) : rR (σ 72) (σ 73) g f n b = wat σ g op n b := by
  have hl2 : lvs g (σ 7) f := fun b hb => by rw [hl b hb]; exact qN_w r b hb
  obtain ⟨v, _, e8, e8'⟩ := r.2.2.2.2.1.2.2
  have t := (T3 r.1 r.2.2.2.1 hl2 h7 (h8.trans (e8'.trans e8.symm)) n).1 b hb
  have t2 := W1 r (op := op) (fun i _ => ⟨rfl, rfl⟩) (fun b _ => rfl) n b hb
  exact t.1.symm.trans t2.1
theorem W4 {g m : Nat} {σ : Nat → Nat → Int32} (r : qN g m σ) {f : Nat → Int32} {sk : Int32} (h7 : f 7 = σ 74 7) (h8 : f 8 = σ 74 8) (hl : ∀ b, b ≤ g → f b = σ 74 b) (b : Nat) (hb : b ≤ g) : tRs (σ 72) (σ 73) g sk f b = wst σ g sk b := by
  have hl2 : lvs g (σ 7) f := fun b hb => by rw [hl b hb]; exact qN_w r b hb
  obtain ⟨k, _, e7, e7'⟩ := r.2.2.2.2.1.2.1
  obtain ⟨v, _, e8, e8'⟩ := r.2.2.2.2.1.2.2
  have t := (T2 r.1 (sk := sk) r.2.2.2.1 hl2 (h7.trans (e7'.trans e7.symm)) (h8.trans (e8'.trans e8.symm))).1 b hb
  have t2 := (W2 r (sk := sk) (fun i _ => ⟨rfl, rfl⟩) (fun b _ => rfl)).1 b hb
  exact t.1.symm.trans t2.1
theorem qN_kd {g m : Nat} {σ : Nat → Nat → Int32} (r : qN g m σ) : ∀ i, i < g → kd6 (σ 72 i) := fun i hi => by
  obtain ⟨a, _, b, _⟩ := r.2.2.2.1 i hi
  rw [← a]; exact b
theorem wat_lv {g m : Nat} {σ : Nat → Nat → Int32} (r : qN g m σ) {op : Int32} (n b : Nat) (hb : b ≤ g) : inb (wat σ g op n b) 61 := by
  have t2 := W1 r (op := op) (fun i _ => ⟨rfl, rfl⟩) (fun b _ => rfl) n b hb
  unfold wat; rw [← t2.1]; exact t2.2
theorem wst_lv {g m : Nat} {σ : Nat → Nat → Int32} (r : qN g m σ) {sk : Int32} (b : Nat) (hb : b ≤ g) : inb (wst σ g sk b) 61 := by
  have t2 := (W2 r (sk := sk) (fun i _ => ⟨rfl, rfl⟩) (fun b _ => rfl)).1 b hb
  unfold wst; rw [← t2.1]; exact t2.2
theorem agr_wat {σ σ' : Nat → Nat → Int32} (h : agr σ σ') : wat σ' = wat σ := by
  unfold wat; rw [h.1 72 (by unfold scr; omega) (by omega), h.1 73 (by unfold scr; omega) (by omega), h.1 74 (by unfold scr; omega) (by omega)]
theorem agr_wst {σ σ' : Nat → Nat → Int32} (h : agr σ σ') : wst σ' = wst σ := by
  unfold wst; rw [h.1 72 (by unfold scr; omega) (by omega), h.1 73 (by unfold scr; omega) (by omega), h.1 74 (by unfold scr; omega) (by omega)]
section SC
variable {L : Nat} {xs : Nat → Int32} {σ : Nat → Nat → Int32} {τ : Nat → Nat → Int64} {S g m : Nat}
theorem agr_tk (σ : Nat → Nat → Int32) : agr σ (tk σ 12 4) := agr_u (agr_u (agr_u (agr_u (agr_r σ) (by unfold scr; omega)) (by unfold scr; omega)) (by unfold scr; omega)) (by unfold scr; omega)
theorem a_12 : stand 12 := Or.inr (Or.inl rfl)
theorem a_4 : stand 4 := Or.inl rfl
theorem tk_13 : tk σ 12 4 13 = va_cpy (σ 5) (σ 13) 0 0 6 := by unfold tk; rw [vn (by decide), vn (by decide), vn (by decide), vs]
theorem tk_14 : tk σ 12 4 14 = va_cpy (σ 6) (σ 14) 0 0 6 := by unfold tk; rw [vn (by decide), vn (by decide), vs]
theorem tk_15 : tk σ 12 4 15 = va_cpy (σ 7) (σ 15) 0 0 7 := by unfold tk; rw [vn (by decide), vs]
theorem tk_12_3 : tk σ 12 4 12 3 = σ 4 3 := by unfold tk; rw [vs, un (by decide), un (by decide), us]
theorem tk_12_4 : tk σ 12 4 12 4 = σ 4 4 := by unfold tk; rw [vs, un (by decide), us]
theorem tk_12_5 : tk σ 12 4 12 5 = σ 4 5 := by unfold tk; rw [vs, us]
theorem s5_standsAside (r : qN g m σ) {op : Int32} {b n : Nat} (hb : b ≤ g) (hn : n ≤ 100) : ∃ σ', pX 103 0 [.ref 0, .int op, .int (nI b), .int (nI n)] [] (mm L xs σ τ) 85 S = some (some (.int (wat σ g op n b)), mm L xs σ' τ, 85, S) ∧ agr σ σ' ∧ σ' 12 3 = nI g ∧ ∀ c, c ≤ g → σ' 15 c = wat σ g op n c := by
  have hg6 := r.1
  have hg := r.2.1
  have w := W1 r (K := va_cpy (σ 5) (σ 13) 0 0 6) (W := va_cpy (σ 6) (σ 14) 0 0 6) (lv := va_cpy (σ 7) (σ 15) 0 0 7) (op := op) (fun i hi => ⟨cpy_at _ _ (by omega), cpy_at _ _ (by omega)⟩) (fun b hb => cpy_at _ _ (by omega)) n
  have h3 : (va_up (tk σ 12 4) 12 (upd (tk σ 12 4 12) 4 op)) 12 3 = nI g := by rw [vs, un (by decide), tk_12_3]; exact hg
  have p := s4_passTurns (L := L) (xs := xs) (τ := τ) (S := S) a_12 h3 hg6 (m := n) hn
  rw [vs, us, un (by decide), vn (by decide), vn (by decide), vn (by decide), tk_12_5] at p
  simp only [Nat.reduceAdd, tk_13, tk_14, tk_15] at p
  have wb := fun c hc => (w c hc).1
  have n1 : (15 : Nat) ≠ 12 := by decide
  refine ⟨va_up (va_up (va_up (tk σ 12 4) 12 (upd (tk σ 12 4 12) 4 op)) 15 (rl (va_cpy (σ 5) (σ 13) 0 0 6) (va_cpy (σ 6) (σ 14) 0 0 6) g op (σ 4 5) (va_cpy (σ 7) (σ 15) 0 0 7) n)) 12 (upd (upd (tk σ 12 4 12) 4 op) 5 (σ 4 5 + nI n)), ?_, ?_, ?_, ?_⟩
  · simp only [Nat.reduceAdd, i5_standsAside_0, i5_standsAside_1, i5_standsAside_4, i5_standsAside_5, i5_standsAside_8, i5_standsAside_11, i5_standsAside_14, i5_standsAside_15, i5_standsAside_18, i5_standsAside_19, i5_standsAside_22, i5_standsAside_23, i5_standsAside_26, i5_standsAside_27, i5_standsAside_30, i5_standsAside_31, i5_standsAside_32, i5_standsAside_35, i5_standsAside_38, i5_standsAside_39, i5_standsAside_40, k_3, k_12, k_15, l_15, s4_takeFrom a_12 a_4 (by decide), p, pK_v, pK_i, ifb_i (show b < 7 by omega) (by decide), cl (show b ≤ 5000 by omega), vs, vn n1, wb b hb, wat]
  · exact agr_u (agr_u (agr_u (agr_tk σ) (by unfold scr; omega)) (by unfold scr; omega)) (by unfold scr; omega)
  · rw [vs, un (by decide), un (by decide), tk_12_3]; exact hg
  · intro c hc
    rw [vn n1, vs]
    exact wb c hc
theorem s5_standsStuck (r : qN g m σ) {sk : Int32} {b : Nat} (hb : b ≤ g) : ∃ σ', pX 104 0 [.ref 0, .int (nI b), .int sk] [] (mm L xs σ τ) 85 S = some (some (.int (wst σ g sk b)), mm L xs σ' τ, 85, S) ∧ agr σ σ' := by
  have hg6 := r.1
  have hg := r.2.1
  have w := (W2 r (K := va_cpy (σ 5) (σ 13) 0 0 6) (W := va_cpy (σ 6) (σ 14) 0 0 6) (lv := va_cpy (σ 7) (σ 15) 0 0 7) (sk := sk) (fun i hi => ⟨cpy_at _ _ (by omega), cpy_at _ _ (by omega)⟩) (fun b hb => cpy_at _ _ (by omega))).1
  have h3 : (tk σ 12 4) 12 3 = nI g := by rw [tk_12_3]; exact hg
  have p := s4_passTurn (L := L) (xs := xs) (τ := τ) (S := S) a_12 h3 hg6 (sk := sk)
  simp only [Nat.reduceAdd, tk_12_4, tk_12_5, tk_13, tk_14, tk_15] at p
  have wb := fun c hc => (w c hc).1
  have n1 : (15 : Nat) ≠ 12 := by decide
  refine ⟨va_up (va_up (tk σ 12 4) 15 (tl (va_cpy (σ 5) (σ 13) 0 0 6) (va_cpy (σ 6) (σ 14) 0 0 6) (σ 4 4) (σ 4 5) sk (va_cpy (σ 7) (σ 15) 0 0 7) g)) 12 (upd (tk σ 12 4 12) 5 (σ 4 5 + 1)), ?_, ?_⟩
  · simp only [Nat.reduceAdd, i5_standsStuck_0, i5_standsStuck_1, i5_standsStuck_4, i5_standsStuck_5, i5_standsStuck_8, i5_standsStuck_11, i5_standsStuck_14, i5_standsStuck_15, i5_standsStuck_18, i5_standsStuck_19, i5_standsStuck_22, i5_standsStuck_23, i5_standsStuck_24, i5_standsStuck_27, i5_standsStuck_30, i5_standsStuck_31, i5_standsStuck_32, k_3, k_12, k_15, l_15, s4_takeFrom a_12 a_4 (by decide), p, pK_v, pK_i, ifb_i (show b < 7 by omega) (by decide), cl (show b ≤ 5000 by omega), vs, vn n1, wb b hb, wst]
  · exact agr_u (agr_u (agr_tk σ) (by unfold scr; omega)) (by unfold scr; omega)
theorem r6_tries (r : qN g m σ) {op : Int32} {n : Nat} (hn : n ≤ 100) : ∃ σ', pX 185 0 [.ref 67, .int op, .int (nI n), .null] [] (mm L xs σ τ) 85 S = some (none, mm L xs σ' τ, 85, S) ∧ agr σ σ' ∧ (∀ c, c ≠ 81 → σ' c = σ c) ∧ ∀ c, c ≤ g → σ' 81 c = wat σ g op n c := by
  refine ⟨_, s6_tries r.2.2.1 r.1 (qN_kd r) hn, agr_u (agr_r σ) (by unfold scr; omega), fun c hc => vn hc, fun c hc => ?_⟩
  rw [vs]
  have hg6 := r.1
  exact W3 r up7 (by rw [un (by decide), cpy_at _ _ (by decide)]) (fun b hb => by rw [un (by omega), cpy_at _ _ (by omega)]) n c hc
theorem r6_stuck (r : qN g m σ) {sk : Int32} (h : ∀ b, b < 9 → σ 81 b = σ 74 b) : ∃ σ', pX 164 0 [.ref 67, .ref 81, .int sk, .null, .null, .null] [] (mm L xs σ τ) 85 S = some (some (.int (tmR (σ 72) (σ 73) sk (σ 81) g)), mm L xs σ' τ, 85, S) ∧ agr σ σ' ∧ (∀ c, c ≠ 81 → σ' c = σ c) ∧ ∀ c, c ≤ g → σ' 81 c = wst σ g sk c := by
  have hg6 := r.1
  refine ⟨_, s6_turnOn (Or.inr rfl) r.2.2.1 r.1 (qN_kd r), agr_u (agr_r σ) (by unfold scr; omega), fun c hc => vn hc, fun c hc => ?_⟩
  rw [vs]
  exact W4 r (h 7 (by decide)) (h 8 (by decide)) (fun b hb => h b (by omega)) c hc
end SC
