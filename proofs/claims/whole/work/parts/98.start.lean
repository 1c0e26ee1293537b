theorem pm_stat {args : Array Value} {s : State} {C n : String} {v : Nat → Int32} (hl : (Jvm.Cond.laysStatic C n "[I").before args s = true) (hini : (Jvm.Cond.initialized C).before args s = true) (harr : (Jvm.Cond.arrayOf (.static C n "[I") .int).before args s = true) (hlen : (Jvm.Cond.eq (.length (.static C n "[I")) (.int 6)).before args s = true) (hel : ∀ j, j < 6 → (Jvm.Cond.eq (.elem (.static C n "[I") (.int (Int32.ofNat j))) (.int (v j))).before args s = true) : ∃ t : Nat, va_Z C n "[I" (.ref t) (pm_Z s.heap.size) s s.heap ∧ va_T .int t 6 (fun i => .int (v i)) (pm_Z s.heap.size) s s.heap := by
  have hA : ∀ a : Nat, a < s.heap.size → ¬ pm_Z s.heap.size a := fun a h => Nat.not_le.mpr h
  obtain ⟨t, ht, hT⟩ := va_Tof (N := 6) (f := fun i => .int (v i)) (A := pm_Z s.heap.size) (by decide) harr (va_eqt hlen) (fun j hj => va_eqt (hel j hj)) hA
  exact ⟨t, va_Zref hl hini ht hA, hT⟩
theorem pm_clsA {args : Array Value} {s : State} {ty : FieldType} (hto : ∀ C, ty ≠ .object C) (h : (Jvm.Cond.arrayClass ty).before args s = true) : ∃ cA : ClassId, ArrOfT s cA ty ∧ va_RA s cA ty := by
  obtain ⟨c, k, comp, h1, h2, h3⟩ := Cond.arrayClass_spec h
  refine ⟨c, fun n z => ⟨(fun _ h => by cases h), k, h2, comp, h3⟩, ?_⟩
  cases ty with
  | object C => exact absurd rfl (hto C)
  | _ => exact h1
theorem pm_clsO {args : Array Value} {s : State} {C : String} (h : (Jvm.Cond.arrayOver (.object C)).before args s = true) : ∃ cA : ClassId, ArrOfT s cA (.object C) ∧ va_RA s cA (.object C) := by
  obtain ⟨comp, c, k, h1, -, h2, h3, h4⟩ := Cond.arrayOver_spec h
  exact ⟨c, fun n z => ⟨(fun _ h => by cases h), k, h2, comp, h3⟩, k, comp, h2, h3, h1, h4⟩
set_option maxHeartbeats 4000000 in
set_option maxRecDepth 100000 in
theorem whole_start {p : Program} {e : Env} {s : State} {m : MethodId} {below : List Frame} {meth : Method} {c : Code} (l : Launch) (hflags : l.flags = flags0) {b L : Nat} {xs : Nat → Int32} (hL : L ≤ 3072) (C0 : lw_At p s m meth c b L xs) : W p l e room_1 s m #[Value.ref b] below meth c s.heap [] 0 0 (lw_Z below #[Value.ref b] s) (entryFrame m ([Value.ref b] : List Value).toArray 4) := by
  obtain ⟨hx, hb, hr, hml, hown, hts, hX, hbl, hlocks, hgv⟩ := C0
  have hg := flat_of_before _ hgv
  obtain ⟨n, M', N', S', hrun, hS'⟩ := law_run L xs hL
  obtain ⟨t0, zL, tL⟩ := pm_stat (C := RX5) (n := "LETTERS") (v := pm_let) (hts _ wo_lsL) (hts _ wm_121) (hg _ (by decide +kernel)) (hg _ (by decide +kernel)) (fun j hj => by
    match j, hj with
    | 0, _ => exact hg _ (by decide +kernel)
    | 1, _ => exact hg _ (by decide +kernel)
    | 2, _ => exact hg _ (by decide +kernel)
    | 3, _ => exact hg _ (by decide +kernel)
    | 4, _ => exact hg _ (by decide +kernel)
    | 5, _ => exact hg _ (by decide +kernel)
    | j + 6, hj => exact absurd hj (by omega))
  obtain ⟨t1, zK, tK⟩ := pm_stat (C := RX5) (n := "KIND_ABOVE") (v := pm_kab) (hts _ wo_lsK) (hts _ wm_121) (hg _ (by decide +kernel)) (hg _ (by decide +kernel)) (fun j hj => by
    match j, hj with
    | 0, _ => exact hg _ (by decide +kernel)
    | 1, _ => exact hg _ (by decide +kernel)
    | 2, _ => exact hg _ (by decide +kernel)
    | 3, _ => exact hg _ (by decide +kernel)
    | 4, _ => exact hg _ (by decide +kernel)
    | 5, _ => exact hg _ (by decide +kernel)
    | j + 6, hj => exact absurd hj (by omega))
  have tX : va_T .int b L (fun i => .int (xs i)) (pm_Z s.heap.size) s s.heap := by
    obtain ⟨scr, h1, h2, h3, h4, h5⟩ := hX
    exact ⟨scr, h1, h2, h3, Nat.le_of_eq h4.symm, by rw [h4], h5, Nat.not_le.mpr hbl⟩
  obtain ⟨c0, a0, b0⟩ := pm_clsA (s := s) (ty := .int) (fun C h => by cases h) (hts _ wo_aI)
  obtain ⟨c1, a1, b1⟩ := pm_clsA (s := s) (ty := .boolean) (fun C h => by cases h) (hts _ wo_aZ)
  obtain ⟨c2, a2, b2⟩ := pm_clsO (s := s) (C := RX2) (hts _ wo_oR)
  obtain ⟨c3, a3, b3⟩ := pm_clsO (s := s) (C := RX0) (hts _ wo_oB)
  have hKn : ∀ k : Nat, ∃ (cC : ClassId) (iS : Nat → Nat), ∀ q : vw_C, vwCl[k]? = some q → u_Kn s q.1 q.2.1 q.2.2 cC iS := by
    intro k
    cases hq : vwCl[k]? with
    | none => exact ⟨0, fun _ => 0, fun q h => by cases h⟩
    | some q =>
      obtain ⟨w1, w2⟩ := pm_cl_in k q hq
      obtain ⟨cC, iS, h⟩ := u_known hts w1 (hts _ w2)
      exact ⟨cC, iS, fun q' h' => by cases h'; exact h⟩
  let D : va_G := (fun k => Classical.choose (hKn k), fun k => Classical.choose (Classical.choose_spec (hKn k)))
  let tc : Nat → ClassId := fun t => if t = 0 then c0 else if t = 1 then c1 else if t = 2 then c2 else c3
  let ra : Nat → Nat := fun j => if j = 0 then t0 else if j = 1 then t1 else b
  let rn : Nat → Nat := fun j => if j = 0 then 6 else if j = 1 then 6 else L
  let rf : Nat → Nat → Int32 := fun j => if j = 0 then pm_let else if j = 1 then pm_kab else xs
  let ad : Nat → Nat := fun k => ra (k - 1000)
  have hra : ∀ j, j < 3 → ad (1000 + j) = ra j := fun j _ => congrArg ra (by omega)
  have hK : va_K D vwCl (pm_tys tc) s := by
    refine ⟨fun k q hq => Classical.choose_spec (Classical.choose_spec (hKn k)) q hq, fun k q hq => ?_⟩
    match k, hq with
    | 0, hq => cases hq; exact ⟨a0, b0⟩
    | 1, hq => cases hq; exact ⟨a1, b1⟩
    | 2, hq => cases hq; exact ⟨a2, b2⟩
    | 3, hq => cases hq; exact ⟨a3, b3⟩
    | k + 4, hq => exact absurd hq (by simp [pm_tys])
  have K : pm_K D tc s.heap.size ra rn rf s := by
    refine ⟨hK, Nat.le_refl _, fun j hj => ?_, zL, zK, fun w hw hn => va_Nw.of (pm_nest_on hn) (hts w hw), va_AO.of (hts _ wo_oR), va_AO.of (hts _ wo_oB)⟩
    match j, hj with
    | 0, _ => exact tL
    | 1, _ => exact tK
    | 2, _ => exact tX
    | j + 3, hj => exact absurd hj (by omega)
  have F : pm_F p s m #[Value.ref b] meth c 225 room_1 := ⟨hx, hb, hml, hown, fun w hw => hts w (List.mem_filter.mp hw).1, fun h => absurd h (by decide +kernel), by decide +kernel, by decide +kernel⟩
  have hS : va_S (pm_Z s.heap.size) s.heap s.heap [] := va_S.rf
  have hW : pm_W D tc s.heap.size rn rf ad 0 (pm_M0 L xs) s.heap := by
    refine ⟨fun k q h => by simp [pm_wl] at h, ⟨fun i j p q h => by simp [pm_wl] at h, fun k q h => by simp [pm_wl] at h⟩, fun k hk => absurd hk (by omega), fun j hj => ?_, by omega⟩
    match j, hj with
    | 0, _ => rfl
    | 1, _ => rfl
    | 2, _ => rfl
    | j + 3, hj => exact absurd hj (by omega)
  have hm := pm_main (l := l) (D := D) (tc := tc) (base := s.heap.size) (ra := ra) (rn := rn) (rf := rf) n 225 0 (pm_ent 225 [.ref 1002]) [] (pm_M0 L xs) 0 0 (some (.int 1), M', N', S') hrun.1
  have hl := lv_entry ([.ref b]) (n := 4) (Nat.le_of_ble_eq_true rfl)
  rw [lg_entry_eq]
  generalize (lg_sl ([.ref b]) ++ List.replicate (4 - (lg_sl ([.ref b])).length) Slot.unset).toArray = arr at hl ⊢
  have hN' : N' ≤ 1000 := hrun.2
  have hV := hm.2.2 p e s m #[Value.ref b] below meth c room_1 (lw_Z below #[Value.ref b] s) ad 0 0 F K hra (by show 0 + (N' - 0) ≤ 600000; omega) (by show 0 + (S' - 0) ≤ 7302250; omega) ?_
  · exact hV s.heap [] arr (pm_ent_PL (y := 225) (as := [.ref 1002]) (Nat.le_of_ble_eq_true rfl) hl) hW hS
  · intro ad' H locs arr' pc1 g1 g2 g3 g4 g5 g6
    refine va_forget (fun q hq => g5.2.2 q hq) ?_
    refine W.widen (k := 600000) (n := 7302250) (by show 0 + (N' - 0) ≤ 600000; omega) (by show 0 + (S' - 0) ≤ 7302250; omega) ?_
    rcases g6 with ⟨v, e1, e2, e3⟩ | ⟨v, e1, e2, e3⟩ | ⟨e1, e2, e3⟩
    · exact lw_ret hx hb hr hlocks e3
    · cases e1
    · cases e1
