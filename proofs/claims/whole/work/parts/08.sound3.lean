/-! THE PURE MACHINE IS SOUND: what each outcome of a step means; runs; contracts -/
def pm_rt (y : Nat) (r : Option Value) (pc : Nat) : Prop := (∃ v, r = some (.int v) ∧ pm_rk y v = true ∧ decode (pm_yB y) pc = .ok (.ireturn, 1)) ∨ (∃ v, r = some (.long v) ∧ pm_rL y = true ∧ decode (pm_yB y) pc = .ok (.lreturn, 1)) ∨ (r = none ∧ pm_rV y = true ∧ decode (pm_yB y) pc = .ok (.return_, 1))
def pm_Rm (y mc ms : Nat) : Room := { frames := pm_yF y, cells := mc, slots := ms, locals := pm_yW y }
def pm_Pc (D : va_G) (tc : Nat → ClassId) (base : Nat) (ra rn : Nat → Nat) (rf : Nat → Nat → Int32) (ad : Nat → Nat) (N : Nat) (M : pm_M) (as : List Value) : Array Value → State → Prop := va_Pc (as.map (pm_cV ad)) (fun U => pm_K D tc base ra rn rf U ∧ pm_W D tc base rn rf ad N M U.heap)
def pm_Qc (D : va_G) (tc : Nat → ClassId) (base : Nat) (ra rn : Nat → Nat) (rf : Nat → Nat → Int32) (ad : Nat → Nat) (N : Nat) (r : Option Value) (M' : pm_M) (N' : Nat) : Array Value → State → Outcome → State → Prop := fun _ st o t =>
  (∃ ad' : Nat → Nat, (∀ j, j < 3 → ad' (1000 + j) = ra j) ∧ (∀ k, k < N → ad' k = ad k) ∧ (N' = N → ad' = ad) ∧ o = .returned (r.map (pm_cV ad')) ∧ pm_W D tc base rn rf ad' N' M' t.heap) ∧ va_F (pm_Z base) st t
/-- the contract of a run of method y -/
def pm_CT (l : Launch) (D : va_G) (tc : Nat → ClassId) (base : Nat) (ra rn : Nat → Nat) (rf : Nat → Nat → Int32) (y : Nat) (as : List Value) (M : pm_M) (N : Nat) (r : Option Value) (M' : pm_M) (N' mc ms : Nat) : Prop :=
  ∀ ad : Nat → Nat, (∀ j, j < 3 → ad (1000 + j) = ra j) → Met l (pm_yN y) (pm_ws y) (pm_Rm y mc ms) (pm_Pc D tc base ra rn rf ad N M as) (pm_Qc D tc base ra rn rf ad N r M' N') mc ms (pm_Z base)
section SC
variable {p : Program} {l : Launch} {e : Env} {rm : Room} {s : State} {m : MethodId} {args : Array Value} {below : List Frame} {meth : Method} {c : Code} {Q : State → Prop} {D : va_G} {tc : Nat → ClassId} {base : Nat} {ra rn : Nat → Nat} {rf : Nat → Nat → Int32} {ad : Nat → Nat} {N cells slots y pc : Nat} {ls st : List Value} {M : pm_M}
/-- what a call gives -/
def pm_Vc (p : Program) (l : Launch) (e : Env) (rm : Room) (s : State) (m : MethodId) (args : Array Value) (below : List Frame) (meth : Method) (c : Code) (Q : State → Prop) (D : va_G) (tc : Nat → ClassId) (base : Nat) (ra rn : Nat → Nat) (rf : Nat → Nat → Int32) (ad : Nat → Nat) (N cells slots y pc : Nat) (ls st : List Value) (M : pm_M) (q : pm_C) : Prop :=
  q.1 < 225 ∧ ∀ (r : Option Value) (M' : pm_M) (N' mc ms : Nat), pm_CT l D tc base ra rn rf q.1 q.2.1 M N r M' N' mc ms → cells + mc ≤ rm.cells → slots + ms ≤ rm.slots → (N' = N ∨ (pm_okL N ls = true ∧ pm_okL N q.2.2.2 = true)) →
    (∀ ad' : Nat → Nat, (∀ j, j < 3 → ad' (1000 + j) = ra j) → (∀ k, k < N → ad' k = ad k) → (N' = N → ad' = ad) → pm_V p l e rm s m args below meth c Q D tc base rn rf ad' N' (cells + mc) (slots + ms) y q.2.2.1 ls (r.toList ++ q.2.2.2) M') → (pm_V p l e rm s m args below meth c Q D tc base rn rf ad N cells slots y (pc) (ls) (st) (M))
theorem pm_okV_congr {ad' : Nat → Nat} {v : Value} (hra : ∀ j, j < 3 → ad (1000 + j) = ra j) (hra' : ∀ j, j < 3 → ad' (1000 + j) = ra j) (h : pm_okV N v = true) (ha : ∀ k, k < N → ad' k = ad k) : pm_cV ad' v = pm_cV ad v := by
  refine pm_cV_congr (fun k hk => ?_)
  subst hk
  unfold pm_okV at h
  simp only [Bool.or_eq_true, Bool.and_eq_true] at h
  rcases h with h | ⟨h, h2⟩
  · exact ha k (Nat.le_of_ble_eq_true h)
  · have h3 := Nat.le_of_ble_eq_true h
    have h4 := Nat.le_of_ble_eq_true h2
    obtain ⟨i, rfl⟩ := Nat.le.dest h3
    have h5 : i < 3 := by omega
    rw [hra i h5, hra' i h5]
theorem pm_okL_congr {ad' : Nat → Nat} {l : List Value} (hra : ∀ j, j < 3 → ad (1000 + j) = ra j) (hra' : ∀ j, j < 3 → ad' (1000 + j) = ra j) (h : pm_okL N l = true) (ha : ∀ k, k < N → ad' k = ad k) : l.map (pm_cV ad') = l.map (pm_cV ad) := by
  apply List.map_congr_left
  intro v hv
  exact pm_okV_congr hra hra' (List.all_eq_true.mp h v hv) ha
theorem pm_PL_congr {ad' : Nat → Nat} {arr : Array Slot} {nL : Nat} (hra : ∀ j, j < 3 → ad (1000 + j) = ra j) (hra' : ∀ j, j < 3 → ad' (1000 + j) = ra j) (h : pm_okL N ls = true) (ha : ∀ k, k < N → ad' k = ad k) (hL : pm_PL ad ls arr nL) : pm_PL ad' ls arr nL := by
  refine ⟨hL.1, hL.2.1, hL.2.2.1, fun i v h1 h2 h3 => ?_⟩
  rw [pm_okV_congr hra hra' (List.all_eq_true.mp h v (List.mem_of_getElem? h1)) ha]
  exact hL.2.2.2 i v h1 h2 h3
theorem pm_K_at (K : pm_K D tc base ra rn rf s) {H : Heap} {locs : List Loc} (hS : va_S (pm_Z base) s.heap H locs) {U : State} (hU : U.heap = H) (hW : s.WarmedH U.vm) : pm_K D tc base ra rn rf U :=
  pm_K_move K hW.alike (by rw [hU]; exact hS.1) (fun q h1 h2 => by rw [hU]; exact hS.2.1 q h1 h2) (fun w hw hn => pm_nest_warm hn hW (K.2.2.2.2.2.1 w hw hn))
theorem pm_blind {as : List Value} : FrameBlind (pm_Pc D tc base ra rn rf ad N M as) := fun _ _ _ _ q => ⟨q.1, pm_K_call q.2.1 rfl rfl, q.2.2⟩
theorem pm_callk {H : Heap} {locs : List Loc} {arr : Array Slot} {rest st0 : List Value} {Qa : State → Outcome → State → Prop} {mc ms : Nat} (hr : va_Run p l e rm s m args below meth c H locs cells slots mc ms (F0 m pc arr st0) rest Qa (pm_Z base)) (hS : va_S (pm_Z base) s.heap H locs) (hQa : ∀ st o t, Qa st o t → va_F (pm_Z base) st t)
    (kk : ∀ (v : Option Value) (st t : State) (H1 : Heap) (locs1 : List Loc), Qa st (.returned v) t → t.heap = H1 → va_S (pm_Z base) s.heap H1 locs1 → W p l e rm s m args below meth c H1 locs1 (cells + mc) (slots + ms) Q (F0 m (pc + 3) arr (v.toList ++ rest))) : W p l e rm s m args below meth c H locs cells slots Q (F0 m pc arr st0) := by
  intro T hT X
  obtain ⟨v, st₀, t, T', L, h0, X', hL, e1, e2, hq, st⟩ := hr T hT X
  obtain ⟨hz, hk⟩ := hQa st₀ _ t hq
  rw [h0] at hz hk
  obtain ⟨t2, a1, b1⟩ := kk v st₀ t T'.heap (locs ++ L) hq e1.symm ⟨Nat.le_trans hS.1 (by rw [e1]; exact hz), fun q h1 h2 => by rw [e1, hk q (Nat.lt_of_lt_of_le h1 hS.1) h2]; exact hS.2.1 q h1 h2, fun q hq => by
    rcases List.mem_append.mp hq with h | h
    · exact hS.2.2 q h
    · exact hL q h⟩ T' rfl X'
  exact ⟨t2, st t2 a1, b1⟩
theorem pm_goes {H : Heap} {locs : List Loc} {arr : Array Slot} {r' st0 : List Value} {a : Array Value} {r : Option Value} {M' : pm_M} {N' mc ms : Nat} (hra : ∀ j, j < 3 → ad (1000 + j) = ra j) (hL : pm_PL ad ls arr (pm_yL y)) (hr : va_Run p l e rm s m args below meth c H locs cells slots mc ms (F0 m pc arr st0) (r'.map (pm_cV ad)) (pm_Qc D tc base ra rn rf ad N r M' N' a) (pm_Z base)) (hS : va_S (pm_Z base) s.heap H locs) (hok : N' = N ∨ (pm_okL N ls = true ∧ pm_okL N r' = true))
    (kk : ∀ ad' : Nat → Nat, (∀ j, j < 3 → ad' (1000 + j) = ra j) → (∀ k, k < N → ad' k = ad k) → (N' = N → ad' = ad) → pm_V p l e rm s m args below meth c Q D tc base rn rf ad' N' (cells + mc) (slots + ms) y (pc + 3) ls (r.toList ++ r') M') : W p l e rm s m args below meth c H locs cells slots Q (F0 m pc arr st0) := by
  refine pm_callk hr hS (fun st o t h => h.2) (fun v st t H1 locs1 hq ht hS1 => ?_)
  obtain ⟨⟨ad', h1, h2, h3, h4, h5⟩, -⟩ := hq
  injection h4 with h4
  subst h4
  rw [ht] at h5
  have k := kk ad' h1 h2 h3 H1 locs1 arr
  have e1 : (r.map (pm_cV ad')).toList ++ r'.map (pm_cV ad') = (r.toList ++ r').map (pm_cV ad') := by cases r <;> rfl
  rcases hok with hN | ⟨hok1, hok2⟩
  · have h6 := h3 hN
    subst h6
    rw [e1]
    exact k hL h5 hS1
  · rw [← pm_okL_congr hra h1 hok2 h2, e1]
    exact k (pm_PL_congr hra h1 hok1 h2 hL) h5 hS1
theorem pm_cls_ok : ∀ y, y < 226 → (pm_yN y).cls = pm_R (pm_yO y) := by decide +kernel
theorem pm_R_ok : ∀ k : Nat, pm_R k ≠ "java/lang/invoke/MethodHandle" ∧ pm_R k ≠ "java/lang/invoke/VarHandle" := by
  intro k
  match k with
  | 0 => decide +kernel
  | 1 => decide +kernel
  | 2 => decide +kernel
  | 3 => decide +kernel
  | 4 => decide +kernel
  | 5 => decide +kernel
  | 6 => decide +kernel
  | 7 => decide +kernel
  | k + 8 => exact ⟨by show RJ6 ≠ _; decide +kernel, by show RJ6 ≠ _; decide +kernel⟩
theorem pm_rm_ok (F : pm_F p s m args meth c y rm) {y' : Nat} (h : pm_rm y y' = true) : y' < 225 ∧ pm_yF y' + 1 ≤ rm.frames ∧ 8 + (pm_yL y' + 11) + pm_yW y' ≤ rm.locals := by
  unfold pm_rm at h
  simp only [Bool.and_eq_true] at h
  exact ⟨Nat.le_of_ble_eq_true h.2, Nat.le_trans (Nat.le_of_ble_eq_true h.1.1) F.2.2.2.2.2.2.1, Nat.le_trans (Nat.le_of_ble_eq_true h.1.2) F.2.2.2.2.2.2.2⟩
theorem pm_ws_in {y' : Nat} (h : y' < 225) : ∀ w ∈ pm_ws y', w ∈ pm_WS := by
  intro w hw
  rcases List.mem_cons.mp hw with rfl | hw
  · exact pm_WSin (pm_code_ok y' h) rfl
  · exact hw
theorem sc_virt (F : pm_F p s m args meth c y rm) (K : pm_K D tc base ra rn rf s) (hra : ∀ j, j < 3 → ad (1000 + j) = ra j) {x y' k b ci : Nat} {fs As r : List Value} (hl : pm_lk (pm_yO y) x pm_mlT = some (0, y', k)) (hM : M b = .inr (ci, fs)) (hb : b < N) (hci : pm_ow ci = pm_yO y' ∧ ci < 6) (hlen : As.length = k) (hrm : pm_rm y y' = true) (hct : pm_ct r ≤ 8) (hd : decode (pm_yB y) pc = .ok (.invokevirtual x, 3)) (hst : st = As.reverse ++ .ref b :: r) : pm_Vc p l e rm s m args below meth c Q D tc base ra rn rf ad N cells slots y pc ls st M (y', .ref b :: As, pc + 3, r) := by
  obtain ⟨hy, hr1, hr2⟩ := pm_rm_ok F hrm
  refine ⟨hy, fun ret M' N' mc ms hCT hc1 hc2 hok kk H locs arr hL hW hS => ?_⟩
  obtain ⟨hnn, w1, w2, w3, w4⟩ := pm_mlT_ok _ (pm_lk_mem hl)
  dsimp only at hnn w1 w2 w3 w4
  have hcls := pm_cls_ok y' (by omega)
  have hne := pm_R_ok (pm_yO y')
  obtain ⟨q, hq⟩ : ∃ q, vwCl[ci]? = some q := by
    have h6 : ci < vwCl.length := hci.2
    exact ⟨_, List.getElem?_eq_getElem h6⟩
  have hqc : q.1 = (pm_yN y').cls := by rw [pm_own_cl hq, hci.1, hcls]
  have he := pm_wl_get (tc := tc) (ad := ad) (M := M) hb
  rw [hM] at he
  have hT : GoodIn pm_WS (wsV (pm_R (pm_yO y)) x (pm_yN y').cls (pm_yN y') (pm_ws y')) := by
    refine pm_gi (fun w hw => ?_)
    rcases List.mem_append.mp hw with hw | hw
    · rcases List.mem_cons.mp hw with rfl | hw
      · exact pm_WSin w1 rfl
      rcases List.mem_cons.mp hw with rfl | hw
      · exact pm_WSin w2 rfl
      rcases List.mem_cons.mp hw with rfl | hw
      · exact pm_WSin w3 rfl
      rcases List.mem_cons.mp hw with rfl | hw
      · exact pm_WSin w4 rfl
      cases hw
    · exact pm_ws_in hy w hw
  refine pm_goes (r' := r) hra hL (va_runV (As := As.map (pm_cV ad)) (b := ad b) (rest := r.map (pm_cV ad)) ⟨F.1, F.2.1, F.2.2.1, F.2.2.2.1, F.2.2.2.2.1⟩ (hCT ad hra) (cwV k F.2.2.2.2.1 hT rfl rfl rfl ⟨rfl, by rw [hcls]; exact hne.1, by rw [hcls]; exact hne.2, hnn⟩ ⟨hr1, hr2⟩) ⟨pm_blind, by rw [← hqc]; exact va_recv K.1 hW.1 hq he, fun U hU hWU => ⟨rfl, pm_K_at K hS hU hWU, by rw [hU]; exact hW⟩⟩ rfl (by rw [List.length_map]; exact hlen) hL.2.1 (by subst hst; simp [pm_cV]) (lv_room (by rw [pm_ct_map]; exact hct)) hd ⟨hc1, hc2⟩) hS hok kk
theorem sc_stat (F : pm_F p s m args meth c y rm) (K : pm_K D tc base ra rn rf s) (hra : ∀ j, j < 3 → ad (1000 + j) = ra j) {x y' k : Nat} {As r : List Value} (hl : pm_lk (pm_yO y) x pm_mlT = some (1, y', k)) (hlen : As.length = k) (hrm : pm_rm y y' = true) (hct : pm_ct r ≤ 8) (hd : decode (pm_yB y) pc = .ok (.invokestatic x, 3)) (hst : st = As.reverse ++ r) : pm_Vc p l e rm s m args below meth c Q D tc base ra rn rf ad N cells slots y pc ls st M (y', As, pc + 3, r) := by
  obtain ⟨hy, hr1, hr2⟩ := pm_rm_ok F hrm
  refine ⟨hy, fun ret M' N' mc ms hCT hc1 hc2 hok kk H locs arr hL hW hS => ?_⟩
  obtain ⟨hnn, w1, w2, w3⟩ := pm_mlT_ok _ (pm_lk_mem hl)
  dsimp only at hnn w1 w2 w3
  have hcls := pm_cls_ok y' (by omega)
  have hne := pm_R_ok (pm_yO y')
  have hT : GoodIn pm_WS (va_wsS (pm_R (pm_yO y)) x (pm_yN y') (pm_ws y')) := by
    refine pm_gi (fun w hw => ?_)
    rcases List.mem_append.mp hw with hw | hw
    · rcases List.mem_cons.mp hw with rfl | hw
      · exact pm_WSin w1 rfl
      rcases List.mem_cons.mp hw with rfl | hw
      · exact pm_WSin w2 rfl
      rcases List.mem_cons.mp hw with rfl | hw
      · exact pm_WSin w3 rfl
      cases hw
    · exact pm_ws_in hy w hw
  refine pm_goes (r' := r) hra hL (va_runS (As := As.map (pm_cV ad)) (rest := r.map (pm_cV ad)) ⟨F.1, F.2.1, F.2.2.1, F.2.2.2.1, F.2.2.2.2.1⟩ (hCT ad hra) (va_cwS k F.2.2.2.2.1 hT rfl rfl rfl ⟨by rw [hcls]; exact hne.1, by rw [hcls]; exact hne.2, hnn⟩ ⟨hr1, hr2⟩) ⟨pm_blind, fun U hU hWU => ⟨rfl, pm_K_at K hS hU hWU, by rw [hU]; exact hW⟩⟩ rfl (by rw [List.length_map]; exact hlen) hL.2.1 (by subst hst; simp) (lv_room (by rw [pm_ct_map]; exact hct)) hd ⟨hc1, hc2⟩) hS hok kk
theorem sc_statN (F : pm_F p s m args meth c y rm) (K : pm_K D tc base ra rn rf s) (hra : ∀ j, j < 3 → ad (1000 + j) = ra j) {x y' k : Nat} {As r : List Value} (hl : pm_lk (pm_yO y) x pm_mlT = some (3, y', k)) (hlen : As.length = k) (hrm : pm_rm y y' = true) (hct : pm_ct r ≤ 8) (hd : decode (pm_yB y) pc = .ok (.invokestatic x, 3)) (hst : st = As.reverse ++ r) : pm_Vc p l e rm s m args below meth c Q D tc base ra rn rf ad N cells slots y pc ls st M (y', As, pc + 3, r) := by
  obtain ⟨hy, hr1, hr2⟩ := pm_rm_ok F hrm
  refine ⟨hy, fun ret M' N' mc ms hCT hc1 hc2 hok kk H locs arr hL hW hS => ?_⟩
  obtain ⟨hnn, w1, w2, w3⟩ := pm_mlT_ok _ (pm_lk_mem hl)
  dsimp only at hnn w1 w2 w3
  have hcls := pm_cls_ok y' (by omega)
  have hne := pm_R_ok (pm_yO y')
  refine pm_goes (r' := r) hra hL (va_runSN (As := As.map (pm_cV ad)) (rest := r.map (pm_cV ad)) ⟨F.1, F.2.1, F.2.2.1, F.2.2.2.1, F.2.2.2.2.1⟩ (hCT ad hra) ⟨va_cnB k F.2.2.2.2.1 (pm_gi (pm_ws_in hy)) rfl rfl rfl (K.2.2.2.2.2.1 _ w1 rfl) (F.2.2.2.2.1 _ (pm_WSin w3 rfl)) ⟨by rw [hcls]; exact hne.1, by rw [hcls]; exact hne.2, hnn⟩ ⟨hr1, hr2⟩, F.2.2.2.2.1 _ (pm_WSin w2 rfl), trivial⟩ ⟨pm_blind, fun U hU hWU => ⟨rfl, pm_K_at K hS hU hWU, by rw [hU]; exact hW⟩⟩ rfl (by rw [List.length_map]; exact hlen) hL.2.1 (by subst hst; simp) (lv_room (by rw [pm_ct_map]; exact hct)) hd ⟨hc1, hc2⟩) hS hok kk
theorem pm_ws_none {y' : Nat} (h : pm_yR y' = none) : pm_ws y' = Jvm.Cond.code (pm_yN y') (pm_yB y') (pm_yL y') none :: pm_WS := by
  unfold pm_ws
  rw [h]
theorem sc_init (F : pm_F p s m args meth c y rm) (K : pm_K D tc base ra rn rf s) (hra : ∀ j, j < 3 → ad (1000 + j) = ra j) {x y' k b : Nat} {As r : List Value} (hl : pm_lk (pm_yO y) x pm_mlT = some (2, y', k)) (hlen : As.length = k) (hrm : pm_rm y y' = true) (hct : pm_ct r ≤ 8) (hR : pm_yR y' = none) (hnm : (pm_yN y').name = "<init>") (hd : decode (pm_yB y) pc = .ok (.invokespecial x, 3)) (hst : st = As.reverse ++ .ref b :: r) : pm_Vc p l e rm s m args below meth c Q D tc base ra rn rf ad N cells slots y pc ls st M (y', .ref b :: As, pc + 3, r) := by
  obtain ⟨hy, hr1, hr2⟩ := pm_rm_ok F hrm
  refine ⟨hy, fun ret M' N' mc ms hCT hc1 hc2 hok kk H locs arr hL hW hS => ?_⟩
  obtain ⟨hnn, w1, w2, w3⟩ := pm_mlT_ok _ (pm_lk_mem hl)
  dsimp only at hnn w1 w2 w3
  have hcls := pm_cls_ok y' (by omega)
  have hne := pm_R_ok (pm_yO y')
  refine pm_goes (r' := r) hra hL (va_runI (As := As.map (pm_cV ad)) (b := ad b) (rest := r.map (pm_cV ad)) ⟨F.1, F.2.1, F.2.2.1, F.2.2.2.1, F.2.2.2.2.1⟩ (hCT ad hra) (cwI k F.2.2.2.2.1 (pm_gi (pm_ws_in hy)) (pm_ws_none hR) rfl rfl (F.2.2.2.2.1 _ (pm_WSin w3 rfl)) (F.2.2.2.2.1 _ (pm_WSin w1 rfl)) (F.2.2.2.2.1 _ (pm_WSin w2 rfl)) hnm ⟨by rw [hcls]; exact hne.1, by rw [hcls]; exact hne.2, hnn⟩ ⟨hr1, hr2⟩) ⟨pm_blind, fun U hU hWU => ⟨rfl, pm_K_at K hS hU hWU, by rw [hU]; exact hW⟩⟩ rfl (by rw [List.length_map]; exact hlen) hL.2.1 (by subst hst; simp [pm_cV]) (lv_room (by rw [pm_ct_map]; exact hct)) hd ⟨hc1, hc2⟩) hS hok kk
theorem sc_initN (F : pm_F p s m args meth c y rm) (K : pm_K D tc base ra rn rf s) (hra : ∀ j, j < 3 → ad (1000 + j) = ra j) {x y' k b : Nat} {As r : List Value} (hl : pm_lk (pm_yO y) x pm_mlT = some (4, y', k)) (hlen : As.length = k) (hrm : pm_rm y y' = true) (hct : pm_ct r ≤ 8) (hR : pm_yR y' = none) (hnm : (pm_yN y').name = "<init>") (hd : decode (pm_yB y) pc = .ok (.invokespecial x, 3)) (hst : st = As.reverse ++ .ref b :: r) : pm_Vc p l e rm s m args below meth c Q D tc base ra rn rf ad N cells slots y pc ls st M (y', .ref b :: As, pc + 3, r) := by
  obtain ⟨hy, hr1, hr2⟩ := pm_rm_ok F hrm
  refine ⟨hy, fun ret M' N' mc ms hCT hc1 hc2 hok kk H locs arr hL hW hS => ?_⟩
  obtain ⟨hnn, w1, w2, w3⟩ := pm_mlT_ok _ (pm_lk_mem hl)
  dsimp only at hnn w1 w2 w3
  have hcls := pm_cls_ok y' (by omega)
  have hne := pm_R_ok (pm_yO y')
  refine pm_goes (r' := r) hra hL (va_runIN (As := As.map (pm_cV ad)) (b := ad b) (rest := r.map (pm_cV ad)) ⟨F.1, F.2.1, F.2.2.1, F.2.2.2.1, F.2.2.2.2.1⟩ (hCT ad hra) ⟨va_cnB k F.2.2.2.2.1 (pm_gi (pm_ws_in hy)) (pm_ws_none hR) rfl rfl (K.2.2.2.2.2.1 _ w1 rfl) (F.2.2.2.2.1 _ (pm_WSin w3 rfl)) ⟨by rw [hcls]; exact hne.1, by rw [hcls]; exact hne.2, hnn⟩ ⟨hr1, hr2⟩, hnm, F.2.2.2.2.1 _ (pm_WSin w2 rfl)⟩ ⟨pm_blind, fun U hU hWU => ⟨rfl, pm_K_at K hS hU hWU, by rw [hU]; exact hW⟩⟩ rfl (by rw [List.length_map]; exact hlen) hL.2.1 (by subst hst; simp [pm_cV]) (lv_room (by rw [pm_ct_map]; exact hct)) hd ⟨hc1, hc2⟩) hS hok kk
end SC

section SA
variable {p : Program} {l : Launch} {e : Env} {rm : Room} {s : State} {m : MethodId} {args : Array Value} {below : List Frame} {meth : Method} {c : Code} {Q : State → Prop} {D : va_G} {tc : Nat → ClassId} {base : Nat} {ra rn : Nat → Nat} {rf : Nat → Nat → Int32} {ad : Nat → Nat} {N cells slots y pc : Nat} {ls st : List Value} {M : pm_M}
/-- what a new cell gives -/
def pm_Va (p : Program) (l : Launch) (e : Env) (rm : Room) (s : State) (m : MethodId) (args : Array Value) (below : List Frame) (meth : Method) (c : Code) (Q : State → Prop) (D : va_G) (tc : Nat → ClassId) (base : Nat) (ra rn : Nat → Nat) (rf : Nat → Nat → Int32) (ad : Nat → Nat) (N cells slots y pc : Nat) (ls st : List Value) (M : pm_M) (a : pm_N) : Prop :=
  N + 1 ≤ 1000 → pm_okL N ls = true → pm_okL N a.2.1 = true → cells + 1 ≤ rm.cells → slots + a.2.2.2 ≤ rm.slots →
    (∀ ad' : Nat → Nat, (∀ j, j < 3 → ad' (1000 + j) = ra j) → (∀ k, k < N → ad' k = ad k) → pm_V p l e rm s m args below meth c Q D tc base rn rf ad' (N + 1) (cells + 1) (slots + a.2.2.2) y a.1 ls (.ref N :: a.2.1) (va_up M N a.2.2.1)) → (pm_V p l e rm s m args below meth c Q D tc base rn rf ad N cells slots y (pc) (ls) (st) (M))
theorem pm_W_new {H H1 : Heap} {q : Nat} {x : va_E} (hN : N + 1 ≤ 1000) (hra : ∀ j, j < 3 → ad (1000 + j) = ra j) (hW : pm_W D tc base rn rf ad N M H) (hx : pm_okE (N + 1) x) (hP : va_P D vwCl (pm_wl tc ad N M ++ [(q, pm_cE tc (va_up ad N q) x)]) H1) (hD : va_D (pm_Z base) (pm_wl tc ad N M ++ [(q, pm_cE tc (va_up ad N q) x)])) : pm_W D tc base rn rf (va_up ad N q) (N + 1) (va_up M N x) H1 := by
  have e0 : pm_wl tc (va_up ad N q) N M = pm_wl tc ad N M := pm_wl_congr hW.2.2.1 (fun k hk => by simp only [va_up, if_neg (Nat.ne_of_lt hk)])
  have e1 : (q, pm_cE tc (va_up ad N q) x) = (va_up ad N q N, pm_cE tc (va_up ad N q) x) := by simp only [va_up, if_true]
  rw [← e0, e1, pm_wl_push] at hP hD
  refine ⟨hP, hD, fun k hk => ?_, fun j hj => ?_, hN⟩
  · by_cases h : k = N
    · subst h; simp only [va_up, if_true]; exact hx
    · simp only [va_up, if_neg h]; exact pm_okE_mono (Nat.le_succ N) (hW.2.2.1 k (by omega))
  · have h2 : 1000 + j ≠ N := by omega
    simp only [va_up, if_neg h2]
    exact hW.2.2.2.1 j hj
theorem pm_up_ra {q : Nat} (hN : N + 1 ≤ 1000) (hra : ∀ j, j < 3 → ad (1000 + j) = ra j) : (∀ j, j < 3 → va_up ad N q (1000 + j) = ra j) ∧ (∀ k, k < N → va_up ad N q k = ad k) := by
  refine ⟨fun j hj => ?_, fun k hk => by simp only [va_up, if_neg (Nat.ne_of_lt hk)]⟩
  have h2 : 1000 + j ≠ N := by omega
  simp only [va_up, if_neg h2]
  exact hra j hj
theorem pm_new_goes {H H1 : Heap} {locs : List Loc} {arr : Array Slot} {q pc' k : Nat} {x : va_E} {r : List Value} (hN : N + 1 ≤ 1000) (hra : ∀ j, j < 3 → ad (1000 + j) = ra j) (hL : pm_PL ad ls arr (pm_yL y)) (hW : pm_W D tc base rn rf ad N M H) (hx : pm_okE (N + 1) x) (hP : va_P D vwCl (pm_wl tc ad N M ++ [(q, pm_cE tc (va_up ad N q) x)]) H1) (hD : va_D (pm_Z base) (pm_wl tc ad N M ++ [(q, pm_cE tc (va_up ad N q) x)])) (hS1 : va_S (pm_Z base) s.heap H1 locs) (h1 : pm_okL N ls = true) (h2 : pm_okL N r = true)
    (kk : ∀ ad' : Nat → Nat, (∀ j, j < 3 → ad' (1000 + j) = ra j) → (∀ k, k < N → ad' k = ad k) → pm_V p l e rm s m args below meth c Q D tc base rn rf ad' (N + 1) (cells + 1) (slots + k) y pc' ls (.ref N :: r) (va_up M N x)) : W p l e rm s m args below meth c H1 locs (cells + 1) (slots + k) Q (F0 m pc' arr (.ref q :: r.map (pm_cV ad))) := by
  obtain ⟨g1, g2⟩ := pm_up_ra (q := q) hN hra
  have k := kk (va_up ad N q) g1 g2 H1 locs arr (pm_PL_congr hra g1 h1 g2 hL) (pm_W_new hN hra hW hx hP hD) hS1
  have e1 : (Value.ref N :: r).map (pm_cV (va_up ad N q)) = Value.ref q :: r.map (pm_cV ad) := by
    show Value.ref (va_up ad N q N) :: r.map _ = _
    rw [pm_okL_congr hra g1 h2 g2]
    simp only [va_up, if_true]
  rw [e1] at k
  exact k
theorem pm_nf_ok {ci : Nat} {q : vw_C} (h : vwCl[ci]? = some q) : q.2.2 = pm_nf ci := by
  match ci, h with
  | 0, h => cases h; rfl
  | 1, h => cases h; rfl
  | 2, h => cases h; rfl
  | 3, h => cases h; rfl
  | 4, h => cases h; rfl
  | 5, h => cases h; rfl
  | k + 6, h => exact absurd h (by simp [vwCl])
theorem pm_d0_ok : ∀ ci, ci < 6 → ∀ k, k < pm_nf ci → defaultValue (pm_ty ci k) = pm_d0 (pm_ty ci k) := by decide +kernel
theorem pm_d0_cV (ad : Nat → Nat) (ty : FieldType) : pm_cV ad (pm_d0 ty) = pm_d0 ty := by cases ty <;> rfl
theorem pm_d0_nr (ty : FieldType) (k : Nat) : pm_d0 ty ≠ .ref k := by cases ty <;> simp [pm_d0]
theorem sa_new (F : pm_F p s m args meth c y rm) (K : pm_K D tc base ra rn rf s) (hra : ∀ j, j < 3 → ad (1000 + j) = ra j) {x ci : Nat} (hl : pm_lk (pm_yO y) x pm_nwT = some ci) (hd : decode (pm_yB y) pc = .ok (.new x, 3)) : pm_Va p l e rm s m args below meth c Q D tc base ra rn rf ad N cells slots y pc ls st M (pc + 3, st, .inr (ci, (List.range (pm_nf ci)).map fun k => pm_d0 (pm_ty ci k)), pm_nf ci) := by
  intro hN h1 h2 hc1 hc2 kk H locs arr hL hW hS
  obtain ⟨C, T, n, hc, w1, w2, w3⟩ := pm_nwT_ok _ (pm_lk_mem hl)
  dsimp only at hc w1 w2 w3
  have hn : n = pm_nf ci := pm_nf_ok hc
  subst hn
  have hci : ci < 6 := (List.getElem?_eq_some_iff.mp hc).1
  obtain ⟨ht1, ht2⟩ := pm_ty_ok ci _ hc
  have hA : ∀ q : Nat, s.heap.size ≤ q → pm_Z base q := fun q hq => Nat.le_trans K.2.1 hq
  refine va_new F.1 F.2.1 F.2.2.2.2.1 (pm_hin hc) (pm_ty ci) ht1 F.2.2.2.1 (F.2.2.2.2.1 _ (pm_WSin w1 rfl)) (F.2.2.2.2.1 _ (pm_WSin w2 rfl)) (F.2.2.2.2.1 _ (pm_WSin w3 rfl)) K.1 hW.1 hW.2.1 hS hA hc (fs := (List.range (pm_nf ci)).map fun k => pm_d0 (pm_ty ci k)) (fun j hj => ?_) hc1 hc2 hd (fun q H1 hP hD hS1 => ?_)
  · rw [pm_d0_ok ci hci j hj]
    unfold vp_V
    rw [List.getD_eq_getElem?_getD, List.getElem?_map, List.getElem?_range hj]
    rfl
  · have e1 : ∀ ad' : Nat → Nat, pm_cE tc ad' (.inr (ci, (List.range (pm_nf ci)).map fun k => pm_d0 (pm_ty ci k))) = .inr (ci, (List.range (pm_nf ci)).map fun k => pm_d0 (pm_ty ci k)) := by
      intro ad'
      show Sum.inr (ci, _) = Sum.inr (ci, _)
      rw [List.map_map]
      congr 2
      apply List.map_congr_left
      intro k _
      exact pm_d0_cV ad' _
    rw [← e1 (va_up ad N q)] at hP hD
    refine pm_new_goes (x := .inr (ci, (List.range (pm_nf ci)).map fun k => pm_d0 (pm_ty ci k))) hN hra hL hW (fun k hk => ?_) hP hD hS1 h1 h2 kk
    obtain ⟨i, -, hi⟩ := List.mem_map.mp hk
    exact absurd hi (pm_d0_nr _ _)
theorem pm_tc_eq {t n : Nat} {ty : FieldType} {cA : ClassId} (K : va_K D vwCl (pm_tys tc) s) (h : (pm_tys tc)[t]? = some (tc t, ty)) (K2 : va_K D vwCl (pm_tys tc ++ [(cA, ty)]) s) : cA = tc t := by
  have h1 := (K.2 t _ h).2
  have h2 := (K2.2 4 (cA, ty) rfl).2
  cases ty with
  | object C =>
    obtain ⟨_, _, _, _, _, a4⟩ := h1
    obtain ⟨_, _, _, _, _, b4⟩ := h2
    exact Option.some.inj (b4.symm.trans a4)
  | _ => exact Option.some.inj ((show s.vm.findClass _ = some cA from h2).symm.trans h1)
theorem sa_newI (F : pm_F p s m args meth c y rm) (K : pm_K D tc base ra rn rf s) (hra : ∀ j, j < 3 → ad (1000 + j) = ra j) {k : Int32} {r : List Value} (hk : ¬ k < 0) (hk2 : k.toNatClampNeg < 100000) (hd : decode (pm_yB y) pc = .ok (.newarray .int, 2)) (hst : st = .int k :: r) : pm_Va p l e rm s m args below meth c Q D tc base ra rn rf ad N cells slots y pc ls st M (pc + 2, r, .inl (0, k.toNatClampNeg, .inl (fun _ => 0)), k.toNatClampNeg) := by
  intro hN h1 h2 hc1 hc2 kk H locs arr hL hW hS
  subst hst
  have hA : ∀ q : Nat, s.heap.size ≤ q → pm_Z base q := fun q hq => Nat.le_trans K.2.1 hq
  refine va_newa (atype := .int) F.1 F.2.1 (F.2.2.2.2.1 _ (pm_WSin wo_aI rfl)) (ty := .int) rfl K.1 hW.1 hW.2.1 hS hA (a0 := (k.toNatClampNeg, .inl (fun _ => 0))) (fun _ => rfl) hk rfl (by show _ * 4 ≤ _; omega) hc1 hc2 hd (fun q cA H1 hK2 hP hD hS1 => ?_)
  have e0 : cA = tc 0 := pm_tc_eq (t := 0) (n := 0) K.1 rfl hK2
  subst e0
  exact pm_new_goes (x := .inl (0, k.toNatClampNeg, .inl (fun _ => 0))) hN hra hL hW trivial hP hD hS1 h1 h2 kk
theorem sa_newZ (F : pm_F p s m args meth c y rm) (K : pm_K D tc base ra rn rf s) (hra : ∀ j, j < 3 → ad (1000 + j) = ra j) {k : Int32} {r : List Value} (hk : ¬ k < 0) (hk2 : k.toNatClampNeg < 100000) (hd : decode (pm_yB y) pc = .ok (.newarray .boolean, 2)) (hst : st = .int k :: r) : pm_Va p l e rm s m args below meth c Q D tc base ra rn rf ad N cells slots y pc ls st M (pc + 2, r, .inl (1, k.toNatClampNeg, .inl (fun _ => 0)), k.toNatClampNeg) := by
  intro hN h1 h2 hc1 hc2 kk H locs arr hL hW hS
  subst hst
  have hA : ∀ q : Nat, s.heap.size ≤ q → pm_Z base q := fun q hq => Nat.le_trans K.2.1 hq
  refine va_newa (atype := .boolean) F.1 F.2.1 (F.2.2.2.2.1 _ (pm_WSin wo_aZ rfl)) (ty := .boolean) rfl K.1 hW.1 hW.2.1 hS hA (a0 := (k.toNatClampNeg, .inl (fun _ => 0))) (fun _ => rfl) hk rfl (by show _ * 1 ≤ _; omega) hc1 hc2 hd (fun q cA H1 hK2 hP hD hS1 => ?_)
  have e0 : cA = tc 1 := pm_tc_eq (t := 1) (n := 0) K.1 rfl hK2
  subst e0
  exact pm_new_goes (x := .inl (1, k.toNatClampNeg, .inl (fun _ => 0))) hN hra hL hW trivial hP hD hS1 h1 h2 kk
theorem sa_newq (F : pm_F p s m args meth c y rm) (K : pm_K D tc base ra rn rf s) (hra : ∀ j, j < 3 → ad (1000 + j) = ra j) {x t : Nat} {k : Int32} {r : List Value} (hl : pm_lk (pm_yO y) x pm_naT = some t) (hk : ¬ k < 0) (hk2 : k.toNatClampNeg < 100000) (hd : decode (pm_yB y) pc = .ok (.anewarray x, 3)) (hst : st = .int k :: r) : pm_Va p l e rm s m args below meth c Q D tc base ra rn rf ad N cells slots y pc ls st M (pc + 3, r, .inl (t, k.toNatClampNeg, .inr (.inr (.inr (.inr (fun _ => none))))), k.toNatClampNeg) := by
  intro hN h1 h2 hc1 hc2 kk H locs arr hL hW hS
  subst hst
  have hA : ∀ q : Nat, s.heap.size ≤ q → pm_Z base q := fun q hq => Nat.le_trans K.2.1 hq
  obtain ⟨ht, w1⟩ := pm_naT_ok _ (pm_lk_mem hl)
  dsimp only at ht w1
  have hov : va_AO (pm_tC t) s := by
    rcases ht with rfl | rfl
    · exact K.2.2.2.2.2.2.1
    · exact K.2.2.2.2.2.2.2
  refine va_newq F.1 F.2.1 F.2.2.2.1 (F.2.2.2.2.1 _ (pm_WSin w1 rfl)) hov K.1 hW.1 hW.2.1 hS hA hk rfl (by omega) hc1 hc2 hd (fun q cA H1 hK2 hP hD hS1 => ?_)
  have e0 : cA = tc t := by
    rcases ht with rfl | rfl
    · exact pm_tc_eq (t := 2) (n := 0) K.1 rfl hK2
    · exact pm_tc_eq (t := 3) (n := 0) K.1 rfl hK2
  subst e0
  exact pm_new_goes (x := .inl (t, k.toNatClampNeg, .inr (.inr (.inr (.inr (fun _ => none)))))) hN hra hL hW (fun j k hk => by cases hk) hP hD hS1 h1 h2 kk
end SA
