/-! THE PURE MACHINE IS SOUND: what it comes to, the machine comes to -/
def pm_WS : List Jvm.Cond := lw_tbl.filter goodWord
def pm_ws (y : Nat) : List Jvm.Cond := Jvm.Cond.code (pm_yN y) (pm_yB y) (pm_yL y) (pm_yR y) :: pm_WS
theorem pm_WSin {w : Jvm.Cond} (h : w ∈ lw_tbl) (hg : goodWord w = true) : w ∈ pm_WS := List.mem_filter.mpr ⟨h, hg⟩
theorem pm_gi {ws : List Jvm.Cond} (h : ∀ w ∈ ws, w ∈ pm_WS) : GoodIn pm_WS ws := fun w hw => ⟨h w hw, good_of_word (List.mem_filter.mp (h w hw)).2⟩
theorem pm_lay_good {C : String} {T : u_T} {n : Nat} : ∀ w ∈ u_ws C T n, goodWord w = true := by
  intro w hw
  obtain ⟨k, -, rfl⟩ := List.mem_map.mp hw
  unfold u_lay
  split <;> rfl
theorem pm_hin {ci : Nat} {C : String} {T : u_T} {n : Nat} (hc : vwCl[ci]? = some (C, T, n)) : ∀ w ∈ u_ws C T n, w ∈ pm_WS := fun w hw => pm_WSin ((pm_cl_in ci _ hc).1 w hw) (pm_lay_good w hw)
theorem pm_go_inj {a a' : Nat} {b b' c c' : List Value} {d d' : pm_M} (h : pm_go a b c d = pm_go a' b' c' d') : a = a' ∧ b = b' ∧ c = c' ∧ d = d' := by
  unfold pm_go at h
  injection h with h
  injection h with h
  injection h with h1 h
  injection h with h2 h
  injection h with h3 h4
  exact ⟨h1, h2, h3, h4⟩
theorem pm_no_go {P : Prop} {a : Nat} {b c : List Value} {d : pm_M} (h : pm_no = pm_go a b c d) : P := by
  unfold pm_no pm_go at h
  cases h
theorem pm_own_cl {ci : Nat} {q : vw_C} (hc : vwCl[ci]? = some q) : q.1 = pm_R (pm_ow ci) := by
  match ci, hc with
  | 0, hc => cases hc; rfl
  | 1, hc => cases hc; rfl
  | 2, hc => cases hc; rfl
  | 3, hc => cases hc; rfl
  | 4, hc => cases hc; rfl
  | 5, hc => cases hc; rfl
  | k + 6, hc => exact absurd hc (by simp [vwCl])
def pm_Z (base : Nat) : Nat → Prop := fun q => base ≤ q
def pm_tys (tc : Nat → ClassId) : List (ClassId × FieldType) := [(tc 0, .int), (tc 1, .boolean), (tc 2, .object RX2), (tc 3, .object RX0)]
def pm_cV (ad : Nat → Nat) (v : Value) : Value := match v with
  | .ref k => .ref (ad k)
  | v => v
def pm_cE (tc : Nat → ClassId) (ad : Nat → Nat) (x : va_E) : va_E := match x with
  | .inl (t, n, .inr (.inr (.inr (.inr g)))) => .inl (tc t, n, .inr (.inr (.inr (.inr (fun j => (g j).map ad)))))
  | .inl (t, a) => .inl (tc t, a)
  | .inr (ci, fs) => .inr (ci, fs.map (pm_cV ad))
def pm_wl (tc : Nat → ClassId) (ad : Nat → Nat) (N : Nat) (M : pm_M) : va_W := (List.range N).map fun k => (ad k, pm_cE tc ad (M k))
theorem pm_wl_get {tc : Nat → ClassId} {ad : Nat → Nat} {N : Nat} {M : pm_M} {k : Nat} (h : k < N) : (pm_wl tc ad N M)[k]? = some (ad k, pm_cE tc ad (M k)) := by simp [pm_wl, h]
theorem pm_wl_lt {tc : Nat → ClassId} {ad : Nat → Nat} {N : Nat} {M : pm_M} {k : Nat} (h : ¬ k < N) : (pm_wl tc ad N M)[k]? = none := by simp [pm_wl]; omega
theorem pm_wl_set {tc : Nat → ClassId} {ad : Nat → Nat} {N : Nat} {M : pm_M} {k : Nat} {x : va_E} (h : k < N) : (pm_wl tc ad N M).set k (ad k, pm_cE tc ad x) = pm_wl tc ad N (va_up M k x) := by
  apply List.ext_getElem?
  intro j
  by_cases hj : j = k
  · subst hj
    rw [pm_wl_get h, List.getElem?_set_self (by simp [pm_wl]; exact h)]
    simp [va_up]
  · rw [List.getElem?_set_ne (fun q => hj q.symm)]
    by_cases hN : j < N
    · rw [pm_wl_get hN, pm_wl_get hN]
      simp [va_up, hj]
    · rw [pm_wl_lt hN, pm_wl_lt hN]
theorem pm_wl_push {tc : Nat → ClassId} {ad : Nat → Nat} {N : Nat} {M : pm_M} {x : va_E} : pm_wl tc ad N M ++ [(ad N, pm_cE tc ad x)] = pm_wl tc ad (N + 1) (va_up M N x) := by
  unfold pm_wl
  rw [List.range_succ, List.map_append]
  congr 1
  · apply List.map_congr_left
    intro k hk
    have h1 : k ≠ N := Nat.ne_of_lt (List.mem_range.mp hk)
    simp [va_up, h1]
  · simp [va_up]
def pm_okE (N : Nat) (x : va_E) : Prop := match x with
  | .inl (_, _, .inr (.inr (.inr (.inr g)))) => ∀ j k, g j = some k → k < N
  | .inl _ => True
  | .inr (_, fs) => ∀ k, Value.ref k ∈ fs → k < N
theorem pm_okE_mono {N N' : Nat} {x : va_E} (hN : N ≤ N') (h : pm_okE N x) : pm_okE N' x := by
  match x, h with
  | .inl (_, _, .inr (.inr (.inr (.inr g)))), h => exact fun j k hk => Nat.lt_of_lt_of_le (h j k hk) hN
  | .inl (_, _, .inr (.inr (.inr (.inl _)))), _ => trivial
  | .inl (_, _, .inr (.inr (.inl _))), _ => trivial
  | .inl (_, _, .inr (.inl _)), _ => trivial
  | .inl (_, _, .inl _), _ => trivial
  | .inr (_, fs), h => exact fun k hk => Nat.lt_of_lt_of_le (h k hk) hN
theorem pm_cV_congr {ad ad' : Nat → Nat} {v : Value} (h : ∀ k, v = .ref k → ad' k = ad k) : pm_cV ad' v = pm_cV ad v := by
  cases v with
  | ref k => exact congrArg Value.ref (h k rfl)
  | _ => rfl
theorem pm_cE_congr {tc : Nat → ClassId} {ad ad' : Nat → Nat} {N : Nat} {x : va_E} (h : pm_okE N x) (ha : ∀ k, k < N → ad' k = ad k) : pm_cE tc ad' x = pm_cE tc ad x := by
  match x, h with
  | .inl (t, n, .inr (.inr (.inr (.inr g)))), h =>
    have hf : (fun j => (g j).map ad') = (fun j => (g j).map ad) := by
      funext j
      cases hg : g j with
      | none => rfl
      | some k => exact congrArg some (ha k (h j k hg))
    show (Sum.inl (tc t, n, .inr (.inr (.inr (.inr (fun j => (g j).map ad'))))) : va_E) = Sum.inl (tc t, n, .inr (.inr (.inr (.inr (fun j => (g j).map ad)))))
    rw [hf]
  | .inl (_, _, .inr (.inr (.inr (.inl _)))), _ => rfl
  | .inl (_, _, .inr (.inr (.inl _))), _ => rfl
  | .inl (_, _, .inr (.inl _)), _ => rfl
  | .inl (_, _, .inl _), _ => rfl
  | .inr (ci, fs), h =>
    show Sum.inr (ci, _) = Sum.inr (ci, _)
    congr 2
    apply List.map_congr_left
    intro v hv
    exact pm_cV_congr (fun k hk => ha k (h k (hk ▸ hv)))
theorem pm_wl_congr {tc : Nat → ClassId} {ad ad' : Nat → Nat} {N : Nat} {M : pm_M} (hok : ∀ k, k < N → pm_okE N (M k)) (ha : ∀ k, k < N → ad' k = ad k) : pm_wl tc ad' N M = pm_wl tc ad N M := by
  unfold pm_wl
  apply List.map_congr_left
  intro k hk
  have h1 := List.mem_range.mp hk
  rw [ha k h1, pm_cE_congr (hok k h1) ha]
/-- the cells, as the heap has them -/
def pm_W (D : va_G) (tc : Nat → ClassId) (base : Nat) (rn : Nat → Nat) (rf : Nat → Nat → Int32) (ad : Nat → Nat) (N : Nat) (M : pm_M) (H : Heap) : Prop :=
  va_P D vwCl (pm_wl tc ad N M) H ∧ va_D (pm_Z base) (pm_wl tc ad N M) ∧ (∀ k, k < N → pm_okE N (M k)) ∧ (∀ j, j < 3 → M (1000 + j) = .inl (0, rn j, .inl (rf j))) ∧ N ≤ 1000
/-- the locals -/
def pm_PL (ad : Nat → Nat) (ls : List Value) (arr : Array Slot) (nL : Nat) : Prop :=
  ls.length = nL ∧ arr.size = nL ∧ lv_wf arr ∧ ∀ (i : Nat) (v : Value), ls[i]? = some v → v ≠ .null → (v.category = 2 → ls[i + 1]? = some .null) → arr[i]? = some (.val (pm_cV ad v))
theorem pm_cat (ad : Nat → Nat) (v : Value) : (pm_cV ad v).category = v.category := by cases v <;> rfl
theorem pm_ct_map (ad : Nat → Nat) (st : List Value) : ((st.map (pm_cV ad)).map fun v => v.category).sum = pm_ct st := by
  unfold pm_ct
  rw [List.map_map]
  congr 1
  apply List.map_congr_left
  intro v _
  exact pm_cat ad v
def pm_lb (ls : List Value) (i : Nat) (v : Value) : Bool := !(decide (v = .null)) && (!(decide (v.category = 2)) || decide (ls[i + 1]? = some .null))
def pm_lv (ad : Nat → Nat) (ls : List Value) : List (Nat × Value) := (List.range ls.length).filterMap fun i => match ls[i]? with
  | some v => if pm_lb ls i v = true then some (i, pm_cV ad v) else none
  | none => none
theorem pm_lb_iff {ls : List Value} {i : Nat} {v : Value} : pm_lb ls i v = true ↔ v ≠ .null ∧ (v.category = 2 → ls[i + 1]? = some .null) := by
  unfold pm_lb
  by_cases h1 : v = .null <;> by_cases h2 : v.category = 2 <;> by_cases h3 : ls[i + 1]? = some .null <;> simp [h1, h2, h3]
theorem pm_lv_mem {ad : Nat → Nat} {ls : List Value} {q : Nat × Value} : q ∈ pm_lv ad ls ↔ ∃ v, ls[q.1]? = some v ∧ pm_lb ls q.1 v = true ∧ q.2 = pm_cV ad v := by
  unfold pm_lv
  rw [List.mem_filterMap]
  constructor
  · rintro ⟨i, hi, h⟩
    cases hv : ls[i]? with
    | none => rw [hv] at h; cases h
    | some v =>
      rw [hv] at h
      dsimp only at h
      by_cases hb : pm_lb ls i v = true
      · rw [if_pos hb] at h
        cases h
        exact ⟨v, hv, hb, rfl⟩
      · rw [if_neg hb] at h
        cases h
  · rintro ⟨v, hv, hb, h2⟩
    refine ⟨q.1, List.mem_range.mpr ((List.getElem?_eq_some_iff.mp hv).1), ?_⟩
    rw [hv]
    dsimp only
    rw [if_pos hb, ← h2]
theorem pm_PL_has {ad : Nat → Nat} {ls : List Value} {arr : Array Slot} {nL : Nat} (h : pm_PL ad ls arr nL) : lv_has arr nL (pm_lv ad ls) := by
  refine ⟨h.2.1, h.2.2.1, fun q hq => ?_⟩
  obtain ⟨v, h1, h2, h3⟩ := pm_lv_mem.mp hq
  obtain ⟨h4, h5⟩ := pm_lb_iff.mp h2
  rw [h3]
  exact h.2.2.2 q.1 v h1 h4 h5
theorem pm_PL_of {ad : Nat → Nat} {ls : List Value} {arr : Array Slot} {nL : Nat} {lv : List (Nat × Value)} (hl : ls.length = nL) (h : lv_has arr nL lv) (hk : ∀ (i : Nat) (v : Value), ls[i]? = some v → v ≠ .null → (v.category = 2 → ls[i + 1]? = some .null) → (i, pm_cV ad v) ∈ lv) : pm_PL ad ls arr nL :=
  ⟨hl, h.1, h.2.1, fun i v h1 h2 h3 => h.2.2 _ (hk i v h1 h2 h3)⟩
theorem pm_PL_s1 {ad : Nat → Nat} {ls : List Value} {arr arr' : Array Slot} {nL k : Nat} {v : Value} (h : pm_PL ad ls arr nL) (hk : k < ls.length) (hc : v.category = 1) (hn : v ≠ .null) (h' : lv_has arr' nL ((k, pm_cV ad v) :: (pm_lv ad ls).filter (fun q => !(q.1 == k) && !(q.1 + 1 == k && q.2.category == 2)))) : pm_PL ad (ls.set k v) arr' nL := by
  refine pm_PL_of (by rw [List.length_set]; exact h.1) h' (fun i w h1 h2 h3 => ?_)
  by_cases hi : i = k
  · subst hi
    rw [List.getElem?_set_self hk] at h1
    cases h1
    exact List.mem_cons_self
  · rw [List.getElem?_set_ne (fun q => hi q.symm)] at h1
    refine List.mem_cons_of_mem _ (List.mem_filter.mpr ⟨pm_lv_mem.mpr ⟨w, h1, pm_lb_iff.mpr ⟨h2, fun h4 => ?_⟩, rfl⟩, ?_⟩)
    · have h5 := h3 h4
      by_cases h6 : i + 1 = k
      · rw [h6, List.getElem?_set_self hk] at h5
        exact absurd (Option.some.inj h5) hn
      · rw [List.getElem?_set_ne (fun q => h6 q.symm)] at h5
        exact h5
    · have h7 : (i == k) = false := by simpa using hi
      by_cases h6 : i + 1 = k
      · by_cases h4 : w.category = 2
        · have h5 := h3 h4
          rw [h6, List.getElem?_set_self hk] at h5
          exact absurd (Option.some.inj h5) hn
        · simp [h7, pm_cat, h4]
      · simp [h7, h6]
theorem pm_PL_s2 {ad : Nat → Nat} {ls : List Value} {arr arr' : Array Slot} {nL k : Nat} {v : Value} (h : pm_PL ad ls arr nL) (hk : k + 1 < ls.length) (hn : v ≠ .null) (h' : lv_has arr' nL ((k, pm_cV ad v) :: (pm_lv ad ls).filter (fun q => !(q.1 == k) && (!(q.1 == k + 1) && !(q.1 + 1 == k && q.2.category == 2))))) : pm_PL ad ((ls.set k v).set (k + 1) .null) arr' nL := by
  refine pm_PL_of (by rw [List.length_set, List.length_set]; exact h.1) h' (fun i w h1 h2 h3 => ?_)
  by_cases hi1 : i = k + 1
  · subst hi1
    rw [List.getElem?_set_self (by rw [List.length_set]; exact hk)] at h1
    exact absurd (Option.some.inj h1).symm h2
  · rw [List.getElem?_set_ne (fun q => hi1 q.symm)] at h1
    by_cases hi : i = k
    · subst hi
      rw [List.getElem?_set_self (by omega)] at h1
      cases h1
      exact List.mem_cons_self
    · rw [List.getElem?_set_ne (fun q => hi q.symm)] at h1
      have h9 : (i == k) = false := by simpa using hi
      have h8 : (i == k + 1) = false := by simpa using hi1
      refine List.mem_cons_of_mem _ (List.mem_filter.mpr ⟨pm_lv_mem.mpr ⟨w, h1, pm_lb_iff.mpr ⟨h2, fun h4 => ?_⟩, rfl⟩, ?_⟩)
      · have h5 := h3 h4
        rw [List.getElem?_set_ne (by omega)] at h5
        by_cases h6 : i + 1 = k
        · rw [h6, List.getElem?_set_self (by omega)] at h5
          exact absurd (Option.some.inj h5) hn
        · rw [List.getElem?_set_ne (fun q => h6 q.symm)] at h5
          exact h5
      · by_cases h6 : i + 1 = k
        · by_cases h4 : w.category = 2
          · have h5 := h3 h4
            rw [List.getElem?_set_ne (by omega), h6, List.getElem?_set_self (by omega)] at h5
            exact absurd (Option.some.inj h5) hn
          · simp [h9, h8, pm_cat, h4]
        · simp [h9, h8, h6]
/-- what holds of a state by the tables and what nobody writes -/
def pm_isN (w : Jvm.Cond) : Bool := match w with
  | .methodLinkNest .. => true
  | .fieldLinkNest .. => true
  | _ => false
def pm_K (D : va_G) (tc : Nat → ClassId) (base : Nat) (ra rn : Nat → Nat) (rf : Nat → Nat → Int32) (U : State) : Prop :=
  va_K D vwCl (pm_tys tc) U ∧ base ≤ U.heap.size ∧ (∀ j, j < 3 → va_T .int (ra j) (rn j) (fun i => .int (rf j i)) (pm_Z base) U U.heap) ∧
  va_Z RX5 "LETTERS" "[I" (.ref (ra 0)) (pm_Z base) U U.heap ∧ va_Z RX5 "KIND_ABOVE" "[I" (.ref (ra 1)) (pm_Z base) U U.heap ∧
  (∀ w ∈ lw_tbl, pm_isN w = true → va_Nw w U) ∧ va_AO RX2 U ∧ va_AO RX0 U
theorem pm_nest_on {w : Jvm.Cond} (h : pm_isN w = true) : w.onTables = true := by
  cases w <;> first | rfl | cases h
theorem pm_nest_warm {w : Jvm.Cond} {s U : State} (h : pm_isN w = true) (hW : s.WarmedH U.vm) (hZ : va_Nw w s) : va_Nw w U := by
  cases w with
  | methodLinkNest a b c d => exact va_Nw.warmM hW hZ
  | fieldLinkNest a b c d e f => exact va_Nw.warmF hW hZ
  | _ => cases h
theorem pm_K_move {D : va_G} {tc : Nat → ClassId} {base : Nat} {ra rn : Nat → Nat} {rf : Nat → Nat → Int32} {s U : State} (h : pm_K D tc base ra rn rf s) (hA : s.vm.Alike U.vm) (hb : s.heap.size ≤ U.heap.size) (hq : ∀ q : Nat, q < s.heap.size → ¬ pm_Z base q → U.heap[q]? = s.heap[q]?) (hN : ∀ w ∈ lw_tbl, pm_isN w = true → va_Nw w U) : pm_K D tc base ra rn rf U := by
  obtain ⟨h1, h2, h3, h4, h5, h6, h7, h8⟩ := h
  exact ⟨va_K.moved hA h1, Nat.le_trans h2 hb, fun j hj => va_T.kept (va_T.moved hA (h3 j hj)) hq, va_Z.kept (va_Z.moved hA h4) hq, va_Z.kept (va_Z.moved hA h5) hq, hN, va_AO.moved hA h7, va_AO.moved hA h8⟩
theorem pm_K_call {D : va_G} {tc : Nat → ClassId} {base : Nat} {ra rn : Nat → Nat} {rf : Nat → Nat → Int32} {U U' : State} (h : pm_K D tc base ra rn rf U) (h1 : U.vm = U'.vm) (h2 : U.heap = U'.heap) : pm_K D tc base ra rn rf U' :=
  pm_K_move h (by rw [h1]; exact Vm.Alike.refl _) (by rw [h2]; exact Nat.le_refl _) (fun q _ _ => by rw [h2]) (fun w hw hn => va_Nw.same (pm_nest_on hn) h1 (h.2.2.2.2.2.1 w hw hn))
/-- the frame of method y -/
def pm_F (p : Program) (s : State) (m : MethodId) (args : Array Value) (meth : Method) (c : Code) (y : Nat) (rm : Room) : Prop :=
  p.tables.exec = Jvm.exec ∧ c.code = pm_yB y ∧ c.maxLocals = pm_yL y ∧ s.vm.findClass (pm_R (pm_yO y)) = some m.cls ∧ (∀ w ∈ pm_WS, w.before args s = true) ∧ ((pm_yN y).name = "<init>" → meth.name = "<init>") ∧ pm_yF y ≤ rm.frames ∧ pm_yW y ≤ rm.locals
def pm_V (p : Program) (l : Launch) (e : Env) (rm : Room) (s : State) (m : MethodId) (args : Array Value) (below : List Frame) (meth : Method) (c : Code) (Q : State → Prop) (D : va_G) (tc : Nat → ClassId) (base : Nat) (rn : Nat → Nat) (rf : Nat → Nat → Int32) (ad : Nat → Nat) (N cells slots y pc : Nat) (ls st : List Value) (M : pm_M) : Prop :=
  ∀ (H : Heap) (locs : List Loc) (arr : Array Slot), pm_PL ad ls arr (pm_yL y) → pm_W D tc base rn rf ad N M H → va_S (pm_Z base) s.heap H locs → W p l e rm s m args below meth c H locs cells slots Q (F0 m pc arr (st.map (pm_cV ad)))
section SJ
variable {p : Program} {l : Launch} {e : Env} {rm : Room} {s : State} {m : MethodId} {args : Array Value} {below : List Frame} {meth : Method} {c : Code} {Q : State → Prop} {D : va_G} {tc : Nat → ClassId} {base : Nat} {ra rn : Nat → Nat} {rf : Nat → Nat → Int32} {ad : Nat → Nat} {N cells slots y pc : Nat} {ls st : List Value} {M : pm_M}
theorem sj_iconst (F : pm_F p s m args meth c y rm) {z : Int} (hd : decode (pm_yB y) pc = .ok (.iconst z, 1)) (kk : (pm_V p l e rm s m args below meth c Q D tc base rn rf ad N cells slots y (pc + 1) (ls) (.int (Int32.ofInt z) :: st) (M))) : (pm_V p l e rm s m args below meth c Q D tc base rn rf ad N cells slots y (pc) (ls) (st) (M)) := fun H locs arr hL hW hS => lv_iconst F.1 F.2.1 hd rfl (kk H locs arr hL hW hS)
theorem sj_bipush (F : pm_F p s m args meth c y rm) {z : Int} (hd : decode (pm_yB y) pc = .ok (.bipush z, 2)) (kk : (pm_V p l e rm s m args below meth c Q D tc base rn rf ad N cells slots y (pc + 2) (ls) (.int (Int8.ofInt z).toInt32 :: st) (M))) : (pm_V p l e rm s m args below meth c Q D tc base rn rf ad N cells slots y (pc) (ls) (st) (M)) := fun H locs arr hL hW hS => lv_bipush F.1 F.2.1 hd rfl (kk H locs arr hL hW hS)
theorem sj_sipush (F : pm_F p s m args meth c y rm) {z : Int} (hd : decode (pm_yB y) pc = .ok (.sipush z, 3)) (kk : (pm_V p l e rm s m args below meth c Q D tc base rn rf ad N cells slots y (pc + 3) (ls) (.int (Int16.ofInt z).toInt32 :: st) (M))) : (pm_V p l e rm s m args below meth c Q D tc base rn rf ad N cells slots y (pc) (ls) (st) (M)) := fun H locs arr hL hW hS => lv_sipush F.1 F.2.1 hd rfl (kk H locs arr hL hW hS)
theorem sj_lconst (F : pm_F p s m args meth c y rm) {z : Fin 2} (hd : decode (pm_yB y) pc = .ok (.lconst z, 1)) (kk : (pm_V p l e rm s m args below meth c Q D tc base rn rf ad N cells slots y (pc + 1) (ls) (.long (Int64.ofNat (z : Nat)) :: st) (M))) : (pm_V p l e rm s m args below meth c Q D tc base rn rf ad N cells slots y (pc) (ls) (st) (M)) := fun H locs arr hL hW hS => lv_lconst F.1 F.2.1 hd rfl (kk H locs arr hL hW hS)
theorem sj_ldc (F : pm_F p s m args meth c y rm) {x : Nat} {v : Int32} (hl : pm_lk (pm_yO y) x pm_ciT = some v) (hd : decode (pm_yB y) pc = .ok (.ldc x, 2)) (kk : (pm_V p l e rm s m args below meth c Q D tc base rn rf ad N cells slots y (pc + 2) (ls) (.int v :: st) (M))) : (pm_V p l e rm s m args below meth c Q D tc base rn rf ad N cells slots y (pc) (ls) (st) (M)) := fun H locs arr hL hW hS => lv_ldc F.1 F.2.1 F.2.2.2.1 (F.2.2.2.2.1 _ (pm_WSin (pm_ciT_ok _ (pm_lk_mem hl)) rfl)) hd (kk H locs arr hL hW hS)
theorem sj_ldcw (F : pm_F p s m args meth c y rm) {x : Nat} {v : Int32} (hl : pm_lk (pm_yO y) x pm_ciT = some v) (hd : decode (pm_yB y) pc = .ok (.ldc_w x, 3)) (kk : (pm_V p l e rm s m args below meth c Q D tc base rn rf ad N cells slots y (pc + 3) (ls) (.int v :: st) (M))) : (pm_V p l e rm s m args below meth c Q D tc base rn rf ad N cells slots y (pc) (ls) (st) (M)) := fun H locs arr hL hW hS => lv_ldcw F.1 F.2.1 F.2.2.2.1 (F.2.2.2.2.1 _ (pm_WSin (pm_ciT_ok _ (pm_lk_mem hl)) rfl)) hd (kk H locs arr hL hW hS)
theorem sj_ldc2 (F : pm_F p s m args meth c y rm) {x : Nat} {v : Int64} (hl : pm_lk (pm_yO y) x pm_clT = some v) (hd : decode (pm_yB y) pc = .ok (.ldc2_w x, 3)) (kk : (pm_V p l e rm s m args below meth c Q D tc base rn rf ad N cells slots y (pc + 3) (ls) (.long v :: st) (M))) : (pm_V p l e rm s m args below meth c Q D tc base rn rf ad N cells slots y (pc) (ls) (st) (M)) := fun H locs arr hL hW hS => lv_ldc2 F.1 F.2.1 F.2.2.2.1 (F.2.2.2.2.1 _ (pm_WSin (pm_clT_ok _ (pm_lk_mem hl)) rfl)) hd (kk H locs arr hL hW hS)
theorem sj_iload (F : pm_F p s m args meth c y rm) {k : Nat} {x : Int32} (h : ls[k]? = some (.int x)) (hd : decode (pm_yB y) pc = .ok (.iload k, 2)) (kk : (pm_V p l e rm s m args below meth c Q D tc base rn rf ad N cells slots y (pc + 2) (ls) (.int x :: st) (M))) : (pm_V p l e rm s m args below meth c Q D tc base rn rf ad N cells slots y (pc) (ls) (st) (M)) := fun H locs arr hL hW hS => lv_iload F.1 F.2.1 hd (hL.2.2.2 _ _ h (by simp) (fun h => by cases h)) (kk H locs arr hL hW hS)
theorem sj_iload_n (F : pm_F p s m args meth c y rm) {k : Fin 4} {x : Int32} (h : ls[(k : Nat)]? = some (.int x)) (hd : decode (pm_yB y) pc = .ok (.iload_n k, 1)) (kk : (pm_V p l e rm s m args below meth c Q D tc base rn rf ad N cells slots y (pc + 1) (ls) (.int x :: st) (M))) : (pm_V p l e rm s m args below meth c Q D tc base rn rf ad N cells slots y (pc) (ls) (st) (M)) := fun H locs arr hL hW hS => lv_iload_n F.1 F.2.1 hd rfl (hL.2.2.2 _ _ h (by simp) (fun h => by cases h)) (kk H locs arr hL hW hS)
theorem sj_lload (F : pm_F p s m args meth c y rm) {k : Nat} {x : Int64} (h : ls[k]? = some (.long x)) (h2 : ls[k + 1]? = some .null) (hd : decode (pm_yB y) pc = .ok (.lload k, 2)) (kk : (pm_V p l e rm s m args below meth c Q D tc base rn rf ad N cells slots y (pc + 2) (ls) (.long x :: st) (M))) : (pm_V p l e rm s m args below meth c Q D tc base rn rf ad N cells slots y (pc) (ls) (st) (M)) := fun H locs arr hL hW hS => lv_lload F.1 F.2.1 hd (hL.2.2.2 _ _ h (by simp) (fun _ => h2)) (kk H locs arr hL hW hS)
theorem sj_lload_n (F : pm_F p s m args meth c y rm) {k : Fin 4} {x : Int64} (h : ls[(k : Nat)]? = some (.long x)) (h2 : ls[(k : Nat) + 1]? = some .null) (hd : decode (pm_yB y) pc = .ok (.lload_n k, 1)) (kk : (pm_V p l e rm s m args below meth c Q D tc base rn rf ad N cells slots y (pc + 1) (ls) (.long x :: st) (M))) : (pm_V p l e rm s m args below meth c Q D tc base rn rf ad N cells slots y (pc) (ls) (st) (M)) := fun H locs arr hL hW hS => lv_lload_n F.1 F.2.1 hd rfl (hL.2.2.2 _ _ h (by simp) (fun _ => h2)) (kk H locs arr hL hW hS)
theorem sj_aload (F : pm_F p s m args meth c y rm) {k : Nat} {x : Nat} (h : ls[k]? = some (.ref x)) (hd : decode (pm_yB y) pc = .ok (.aload k, 2)) (kk : (pm_V p l e rm s m args below meth c Q D tc base rn rf ad N cells slots y (pc + 2) (ls) (.ref x :: st) (M))) : (pm_V p l e rm s m args below meth c Q D tc base rn rf ad N cells slots y (pc) (ls) (st) (M)) := fun H locs arr hL hW hS => lv_aload F.1 F.2.1 hd (hL.2.2.2 _ _ h (by simp) (fun h => by cases h)) (kk H locs arr hL hW hS)
theorem sj_aload_n (F : pm_F p s m args meth c y rm) {k : Fin 4} {x : Nat} (h : ls[(k : Nat)]? = some (.ref x)) (hd : decode (pm_yB y) pc = .ok (.aload_n k, 1)) (kk : (pm_V p l e rm s m args below meth c Q D tc base rn rf ad N cells slots y (pc + 1) (ls) (.ref x :: st) (M))) : (pm_V p l e rm s m args below meth c Q D tc base rn rf ad N cells slots y (pc) (ls) (st) (M)) := fun H locs arr hL hW hS => lv_aload_n F.1 F.2.1 hd rfl (hL.2.2.2 _ _ h (by simp) (fun h => by cases h)) (kk H locs arr hL hW hS)
theorem sj_istore (F : pm_F p s m args meth c y rm) {k : Nat} {x : Int32} (h : k < ls.length) (hd : decode (pm_yB y) pc = .ok (.istore k, 2)) (kk : (pm_V p l e rm s m args below meth c Q D tc base rn rf ad N cells slots y (pc + 2) (ls.set k (.int x)) (st) (M))) : (pm_V p l e rm s m args below meth c Q D tc base rn rf ad N cells slots y (pc) (ls) (.int x :: st) (M)) := fun H locs arr hL hW hS => lv_istore F.1 F.2.1 hd (pm_PL_has hL) (by rw [← hL.1]; exact h) rfl (fun arr' h' => kk H locs arr' (pm_PL_s1 hL h rfl (by simp) h') hW hS)
theorem sj_istore_n (F : pm_F p s m args meth c y rm) {k : Fin 4} {x : Int32} (h : (k : Nat) < ls.length) (hd : decode (pm_yB y) pc = .ok (.istore_n k, 1)) (kk : (pm_V p l e rm s m args below meth c Q D tc base rn rf ad N cells slots y (pc + 1) (ls.set k (.int x)) (st) (M))) : (pm_V p l e rm s m args below meth c Q D tc base rn rf ad N cells slots y (pc) (ls) (.int x :: st) (M)) := fun H locs arr hL hW hS => lv_istore_n F.1 F.2.1 hd rfl (pm_PL_has hL) (by rw [← hL.1]; exact h) rfl (fun arr' h' => kk H locs arr' (pm_PL_s1 hL h rfl (by simp) h') hW hS)
theorem sj_astore (F : pm_F p s m args meth c y rm) {k : Nat} {x : Nat} (h : k < ls.length) (hd : decode (pm_yB y) pc = .ok (.astore k, 2)) (kk : (pm_V p l e rm s m args below meth c Q D tc base rn rf ad N cells slots y (pc + 2) (ls.set k (.ref x)) (st) (M))) : (pm_V p l e rm s m args below meth c Q D tc base rn rf ad N cells slots y (pc) (ls) (.ref x :: st) (M)) := fun H locs arr hL hW hS => lv_astore F.1 F.2.1 hd (pm_PL_has hL) (by rw [← hL.1]; exact h) rfl (fun arr' h' => kk H locs arr' (pm_PL_s1 (v := .ref x) hL h rfl (by simp) h') hW hS)
theorem sj_astore_n (F : pm_F p s m args meth c y rm) {k : Fin 4} {x : Nat} (h : (k : Nat) < ls.length) (hd : decode (pm_yB y) pc = .ok (.astore_n k, 1)) (kk : (pm_V p l e rm s m args below meth c Q D tc base rn rf ad N cells slots y (pc + 1) (ls.set k (.ref x)) (st) (M))) : (pm_V p l e rm s m args below meth c Q D tc base rn rf ad N cells slots y (pc) (ls) (.ref x :: st) (M)) := fun H locs arr hL hW hS => lv_astore_n F.1 F.2.1 hd rfl (pm_PL_has hL) (by rw [← hL.1]; exact h) rfl (fun arr' h' => kk H locs arr' (pm_PL_s1 (v := .ref x) hL h rfl (by simp) h') hW hS)
theorem sj_lstore (F : pm_F p s m args meth c y rm) {k : Nat} {x : Int64} (h : k + 1 < ls.length) (hd : decode (pm_yB y) pc = .ok (.lstore k, 2)) (kk : (pm_V p l e rm s m args below meth c Q D tc base rn rf ad N cells slots y (pc + 2) ((ls.set k (.long x)).set (k + 1) .null) (st) (M))) : (pm_V p l e rm s m args below meth c Q D tc base rn rf ad N cells slots y (pc) (ls) (.long x :: st) (M)) := fun H locs arr hL hW hS => lv_lstore F.1 F.2.1 hd (pm_PL_has hL) (by rw [← hL.1]; exact h) rfl (fun arr' h' => kk H locs arr' (pm_PL_s2 hL h (by simp) h') hW hS)
theorem sj_lstore_n (F : pm_F p s m args meth c y rm) {k : Fin 4} {x : Int64} (h : (k : Nat) + 1 < ls.length) (hd : decode (pm_yB y) pc = .ok (.lstore_n k, 1)) (kk : (pm_V p l e rm s m args below meth c Q D tc base rn rf ad N cells slots y (pc + 1) ((ls.set k (.long x)).set ((k : Nat) + 1) .null) (st) (M))) : (pm_V p l e rm s m args below meth c Q D tc base rn rf ad N cells slots y (pc) (ls) (.long x :: st) (M)) := fun H locs arr hL hW hS => lv_lstore_n F.1 F.2.1 hd rfl (pm_PL_has hL) (by rw [← hL.1]; exact h) rfl (fun arr' h' => kk H locs arr' (pm_PL_s2 hL h (by simp) h') hW hS)
theorem sj_iinc (F : pm_F p s m args meth c y rm) {k : Nat} {z : Int} {x : Int32} (h : ls[k]? = some (.int x)) (hd : decode (pm_yB y) pc = .ok (.iinc k z, 3)) (kk : (pm_V p l e rm s m args below meth c Q D tc base rn rf ad N cells slots y (pc + 3) (ls.set k (.int (x + Int32.ofInt z))) (st) (M))) : (pm_V p l e rm s m args below meth c Q D tc base rn rf ad N cells slots y (pc) (ls) (st) (M)) := by
  intro H locs arr hL hW hS
  have hk := (List.getElem?_eq_some_iff.mp h).1
  obtain ⟨j, hj⟩ := List.getElem?_of_mem (pm_lv_mem (ad := ad) (ls := ls) (q := (k, .int x)).mpr ⟨.int x, h, pm_lb_iff.mpr ⟨by simp, fun h => by cases h⟩, rfl⟩)
  exact lv_iinc F.1 F.2.1 hd (pm_PL_has hL) hj rfl (by rw [← hL.1]; exact hk) rfl (fun arr' h' => kk H locs arr' (pm_PL_s1 (v := .int (x + Int32.ofInt z)) hL hk rfl (by simp) h') hW hS)
end SJ
