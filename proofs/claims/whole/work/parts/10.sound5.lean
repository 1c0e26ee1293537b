/-! THE PURE MACHINE IS SOUND: every run; the contracts -/
section SR
variable {l : Launch} {D : va_G} {tc : Nat → ClassId} {base : Nat} {ra rn : Nat → Nat} {rf : Nat → Nat → Int32}
/-- what a run from a place gives -/
def pm_Sd (l : Launch) (D : va_G) (tc : Nat → ClassId) (base : Nat) (ra rn : Nat → Nat) (rf : Nat → Nat → Int32) (y pc : Nat) (ls st : List Value) (M : pm_M) (N S : Nat) (R : pm_Rs) : Prop :=
  N ≤ R.2.2.1 ∧ S ≤ R.2.2.2 ∧ ∀ (p : Program) (e : Env) (s : State) (m : MethodId) (args : Array Value) (below : List Frame) (meth : Method) (c : Code) (rm : Room) (Q : State → Prop) (ad : Nat → Nat) (cells slots : Nat),
    pm_F p s m args meth c y rm → pm_K D tc base ra rn rf s → (∀ j, j < 3 → ad (1000 + j) = ra j) → cells + (R.2.2.1 - N) ≤ rm.cells → slots + (R.2.2.2 - S) ≤ rm.slots →
    (∀ (ad' : Nat → Nat) (H : Heap) (locs : List Loc) (arr : Array Slot) (pc1 : Nat), (∀ j, j < 3 → ad' (1000 + j) = ra j) → (∀ k, k < N → ad' k = ad k) → (R.2.2.1 = N → ad' = ad) → pm_W D tc base rn rf ad' R.2.2.1 R.2.1 H → va_S (pm_Z base) s.heap H locs → pm_rt y R.1 pc1 → W p l e rm s m args below meth c H locs (cells + (R.2.2.1 - N)) (slots + (R.2.2.2 - S)) Q (F0 m pc1 arr (R.1.toList.map (pm_cV ad')))) →
    pm_V p l e rm s m args below meth c Q D tc base rn rf ad N cells slots y pc ls st M
theorem pm_sp_len (ad : Nat → Nat) : ∀ as : List Value, (lg_sl (as.map (pm_cV ad))).length = (pm_sp as).length
  | [] => rfl
  | v :: vs => by
    have ih := pm_sp_len ad vs
    unfold lg_sl at ih ⊢
    unfold pm_sp
    rw [List.map_cons, List.flatMap_cons, List.length_append, ih, pm_cat]
    by_cases h : v.category = 2
    · rw [if_pos h, if_pos h]; simp; omega
    · rw [if_neg h, if_neg h]; simp; omega
theorem pm_sp_args (ad : Nat → Nat) : ∀ (as : List Value) (j i : Nat) (v : Value), (pm_sp as)[i]? = some v → v ≠ .null → (j + i, pm_cV ad v) ∈ lv_args j (as.map (pm_cV ad))
  | [], j, i, v, h, _ => by simp [pm_sp] at h
  | a :: as, j, i, v, h, hn => by
    unfold pm_sp at h
    rw [List.map_cons]
    unfold lv_args
    rw [pm_cat]
    by_cases hc : a.category = 2
    · rw [if_pos hc] at h ⊢
      match i, h with
      | 0, h =>
        rw [List.getElem?_cons_zero] at h
        cases h
        exact List.mem_cons_self
      | 1, h =>
        rw [List.getElem?_cons_succ, List.getElem?_cons_zero] at h
        cases h
        exact absurd rfl hn
      | i + 2, h =>
        rw [List.getElem?_cons_succ, List.getElem?_cons_succ] at h
        have ih := pm_sp_args ad as (j + 2) i v h hn
        rw [show j + 2 + i = j + (i + 2) by omega] at ih
        exact List.mem_cons_of_mem _ ih
    · rw [if_neg hc] at h ⊢
      match i, h with
      | 0, h =>
        rw [List.getElem?_cons_zero] at h
        cases h
        exact List.mem_cons_self
      | i + 1, h =>
        rw [List.getElem?_cons_succ] at h
        have ih := pm_sp_args ad as (j + 1) i v h hn
        rw [show j + 1 + i = j + (i + 1) by omega] at ih
        exact List.mem_cons_of_mem _ ih
theorem pm_ent_PL {ad : Nat → Nat} {y : Nat} {as : List Value} {arr : Array Slot} (hsp : (pm_sp as).length ≤ pm_yL y) (h : lv_has arr (pm_yL y) (lv_args 0 (as.map (pm_cV ad)))) : pm_PL ad (pm_ent y as) arr (pm_yL y) := by
  refine pm_PL_of (by unfold pm_ent; rw [List.length_append, List.length_replicate]; omega) h (fun i v h1 h2 h3 => ?_)
  unfold pm_ent at h1
  by_cases hi : i < (pm_sp as).length
  · rw [List.getElem?_append_left hi] at h1
    have h4 := pm_sp_args ad as 0 i v h1 h2
    rw [Nat.zero_add] at h4
    exact h4
  · rw [List.getElem?_append_right (by omega)] at h1
    exact absurd (List.eq_of_mem_replicate (List.mem_of_getElem? h1)) h2
theorem pm_plain : ∀ y, y < 226 → plainName (pm_yN y).cls = true := by decide +kernel
set_option maxHeartbeats 2000000 in
theorem pm_CT_of {y : Nat} {as : List Value} {M : pm_M} {N S : Nat} {R : pm_Rs} (h : pm_Sd l D tc base ra rn rf y 0 (pm_ent y as) [] M N S R) (hy : y < 225) (hsp : (pm_sp as).length ≤ pm_yL y) : pm_CT l D tc base ra rn rf y as M N R.1 R.2.1 R.2.2.1 (R.2.2.1 - N) (R.2.2.2 - S) := by
  intro ad hra
  refine Met.ofW (cc := pm_yB y) (maxL := pm_yL y) (ret := pm_yR y) (ws' := pm_WS) (pm_plain y (by omega)) rfl ?_
  intro p e s m args below meth c s₁ B hml hv
  obtain ⟨rfl, K, hW⟩ := hv
  have hts := atoms_spec (ws := pm_ws y) B.pre
  have hown : s.vm.findClass (pm_R (pm_yO y)) = some m.cls := by
    rw [← pm_cls_ok y (by omega)]
    exact findClass_of_methodNamed B.named
  have hlocks := B.notSynchronized
  have hr := B.returns
  have F : pm_F p s m (as.map (pm_cV ad)).toArray meth c y (headSpec (pm_ws y) (pm_Rm y (R.2.2.1 - N) (R.2.2.2 - S))).room := ⟨B.exec, B.bytes, hml, hown, fun w hw => hts w (List.mem_cons_of_mem _ hw), (name_of_methodNamed B.named B.method).1.trans, Nat.le_refl _, Nat.le_refl _⟩
  rw [lg_entry_eq]
  have hl := lv_entry (as.map (pm_cV ad)) (n := pm_yL y) (by rw [pm_sp_len]; exact hsp)
  generalize (lg_sl (as.map (pm_cV ad)) ++ List.replicate (pm_yL y - (lg_sl (as.map (pm_cV ad))).length) Slot.unset).toArray = arr at hl ⊢
  have hV := h.2.2 p e s m (as.map (pm_cV ad)).toArray below meth c (headSpec (pm_ws y) (pm_Rm y (R.2.2.1 - N) (R.2.2.2 - S))).room (MQ below (pm_Qc D tc base ra rn rf ad N R.1 R.2.1 R.2.2.1) (as.map (pm_cV ad)).toArray s (R.2.2.1 - N) (R.2.2.2 - S) (pm_Z base)) ad 0 0 F K hra (by show 0 + _ ≤ R.2.2.1 - N; omega) (by show 0 + _ ≤ R.2.2.2 - S; omega) ?_
  · exact hV s.heap [] arr (pm_ent_PL hsp hl) hW va_S.rf
  · intro ad' H locs arr' pc1 g1 g2 g3 g4 g5 g6
    rw [Nat.zero_add, Nat.zero_add]
    have hq : ∀ t : State, t.heap = H → s.WarmedH t.vm → pm_Qc D tc base ra rn rf ad N R.1 R.2.1 R.2.2.1 (as.map (pm_cV ad)).toArray s (.returned (R.1.map (pm_cV ad'))) t := fun t ht _ => ⟨⟨ad', g1, g2, g3, rfl, by rw [ht]; exact g4⟩, g5.F ht⟩
    rcases g6 with ⟨v, e1, e2, e3⟩ | ⟨v, e1, e2, e3⟩ | ⟨e1, e2, e3⟩
    · rw [e1] at hq ⊢
      unfold pm_rk at e2
      split at e2
      next hR => exact W.iret B.exec B.bytes (hr.trans hR) hq g5.2.2 e3
      next hR =>
        simp only [Bool.or_eq_true, decide_eq_true_eq] at e2
        exact W.zret B.exec B.bytes (hr.trans hR) (by rcases e2 with rfl | rfl <;> rfl) hq g5.2.2 e3
      next => cases e2
    · rw [e1] at hq ⊢
      unfold pm_rL at e2
      split at e2
      next hR => exact W.lret B.exec B.bytes (hr.trans hR) hq g5.2.2 e3
      next => cases e2
    · rw [e1] at hq ⊢
      unfold pm_rV at e2
      split at e2
      next hR => exact W.vret B.exec B.bytes (hr.trans hR) hq g5.2.2 e3
      next => cases e2
theorem pm_main : ∀ (n y pc : Nat) (ls st : List Value) (M : pm_M) (N S : Nat) (R : pm_Rs), pm_ex n y pc ls st M N S = some R → pm_Sd l D tc base ra rn rf y pc ls st M N S R := by
  intro n
  induction n with
  | zero => intro y pc ls st M N S R h; cases h
  | succ n ih =>
    intro y pc ls st M N S R h
    unfold pm_ex at h
    cases hstep : pm_step y pc ls st M N with
    | inl o =>
      rw [hstep] at h
      cases o with
      | none => cases h
      | some r =>
        cases h
        refine ⟨Nat.le_refl _, Nat.le_refl _, fun p e s m args below meth c rm Q ad cells slots F K hra hb1 hb2 hQ => ?_⟩
        dsimp only at hb1 hb2 hQ
        rw [Nat.sub_self, Nat.add_zero] at hb1 hb2
        have hH := pm_all (Q := Q) (below := below) (l := l) (e := e) (N := N) (ls := ls) (st := st) (M := M) (pc := pc) F K hra ⟨hb1, hb2⟩
        rw [hstep] at hH
        obtain ⟨h1, h2⟩ := hH
        intro H locs arr hL hW hS
        have h3 := hQ ad H locs arr pc hra (fun _ _ => rfl) (fun _ => rfl) hW hS h1
        rw [Nat.sub_self, Nat.sub_self, Nat.add_zero, Nat.add_zero] at h3
        rw [h2]
        exact h3
    | inr o =>
      rw [hstep] at h
      cases o with
      | inl j =>
        have hi := ih _ _ _ _ _ _ _ _ h
        refine ⟨hi.1, hi.2.1, fun p e s m args below meth c rm Q ad cells slots F K hra hb1 hb2 hQ => ?_⟩
        have hH := pm_all (Q := Q) (below := below) (l := l) (e := e) (N := N) (ls := ls) (st := st) (M := M) (pc := pc) F K hra ⟨(by omega : cells ≤ rm.cells), (by omega : slots ≤ rm.slots)⟩
        rw [hstep] at hH
        exact hH (hi.2.2 p e s m args below meth c rm Q ad cells slots F K hra hb1 hb2 hQ)
      | inr o =>
        cases o with
        | inl a =>
          dsimp only at h
          cases hc : (pm_okL N ls && pm_okL N a.2.1 && Nat.ble (N + 1) 1000) with
          | false => rw [hc] at h; cases h
          | true =>
            rw [hc] at h
            simp only [Bool.and_eq_true] at hc
            have hi := ih _ _ _ _ _ _ _ _ h
            have hN : N + 1 ≤ R.2.2.1 := hi.1
            have hS' : S + a.2.2.2 ≤ R.2.2.2 := hi.2.1
            refine ⟨by omega, by omega, fun p e s m args below meth c rm Q ad cells slots F K hra hb1 hb2 hQ => ?_⟩
            have hH := pm_all (Q := Q) (below := below) (l := l) (e := e) (N := N) (ls := ls) (st := st) (M := M) (pc := pc) F K hra ⟨(by omega : cells ≤ rm.cells), (by omega : slots ≤ rm.slots)⟩
            rw [hstep] at hH
            refine hH (Nat.le_of_ble_eq_true hc.2) hc.1.1 hc.1.2 (by omega) (by omega) (fun ad' g1 g2 => ?_)
            refine hi.2.2 p e s m args below meth c rm Q ad' (cells + 1) (slots + a.2.2.2) F K g1 (by omega) (by omega) (fun ad2 H locs arr pc1 k1 k2 k3 k4 k5 k6 => ?_)
            have h3 := hQ ad2 H locs arr pc1 k1 (fun k hk => (k2 k (by omega)).trans (g2 k hk)) (fun h0 => by omega) k4 k5 k6
            rw [show cells + 1 + (R.2.2.1 - (N + 1)) = cells + (R.2.2.1 - N) by omega, show slots + a.2.2.2 + (R.2.2.2 - (S + a.2.2.2)) = slots + (R.2.2.2 - S) by omega]
            exact h3
        | inr q =>
          dsimp only at h
          cases hcall : pm_ex n q.1 0 (pm_ent q.1 q.2.1) [] M N S with
          | none => rw [hcall] at h; cases h
          | some r =>
            rw [hcall] at h
            dsimp only at h
            cases hc : (Nat.ble (pm_sp q.2.1).length (pm_yL q.1) && (Nat.beq r.2.2.1 N || (pm_okL N ls && pm_okL N q.2.2.2))) with
            | false => rw [hc] at h; cases h
            | true =>
              rw [hc] at h
              simp only [Bool.and_eq_true, Bool.or_eq_true] at hc
              have hi1 := ih _ _ _ _ _ _ _ _ hcall
              have hi := ih _ _ _ _ _ _ _ _ h
              have a1 := hi1.1
              have a2 := hi1.2.1
              have b1 := hi.1
              have b2 := hi.2.1
              refine ⟨by omega, by omega, fun p e s m args below meth c rm Q ad cells slots F K hra hb1 hb2 hQ => ?_⟩
              have hH := pm_all (Q := Q) (below := below) (l := l) (e := e) (N := N) (ls := ls) (st := st) (M := M) (pc := pc) F K hra ⟨(by omega : cells ≤ rm.cells), (by omega : slots ≤ rm.slots)⟩
              rw [hstep] at hH
              obtain ⟨hy, hH⟩ := hH
              refine hH r.1 r.2.1 r.2.2.1 (r.2.2.1 - N) (r.2.2.2 - S) (pm_CT_of hi1 hy (Nat.le_of_ble_eq_true hc.1)) (by omega) (by omega) (hc.2.elim (fun h => Or.inl (Nat.eq_of_beq_eq_true h)) Or.inr) (fun ad' g1 g2 g3 => ?_)
              refine hi.2.2 p e s m args below meth c rm Q ad' (cells + (r.2.2.1 - N)) (slots + (r.2.2.2 - S)) F K g1 (by omega) (by omega) (fun ad2 H locs arr pc1 k1 k2 k3 k4 k5 k6 => ?_)
              have h3 := hQ ad2 H locs arr pc1 k1 (fun k hk => (k2 k (by omega)).trans (g2 k hk)) (fun h0 => by
                have e1 : r.2.2.1 = N := by omega
                exact (k3 (by omega)).trans (g3 e1)) k4 k5 k6
              rw [show cells + (r.2.2.1 - N) + (R.2.2.1 - r.2.2.1) = cells + (R.2.2.1 - N) by omega, show slots + (r.2.2.2 - S) + (R.2.2.2 - r.2.2.2) = slots + (R.2.2.2 - S) by omega]
              exact h3
end SR
