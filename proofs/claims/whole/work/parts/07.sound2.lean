/-! THE PURE MACHINE IS SOUND, going on: stack, branches, cells -/
section SK
variable {p : Program} {l : Launch} {e : Env} {rm : Room} {s : State} {m : MethodId} {args : Array Value} {below : List Frame} {meth : Method} {c : Code} {Q : State → Prop} {D : va_G} {tc : Nat → ClassId} {base : Nat} {ra rn : Nat → Nat} {rf : Nat → Nat → Int32} {ad : Nat → Nat} {N cells slots y pc : Nat} {ls st : List Value} {M : pm_M}
theorem sj_dup (F : pm_F p s m args meth c y rm) {v : Value} (hc : v.category = 1) (hd : decode (pm_yB y) pc = .ok (.dup, 1)) (kk : (pm_V p l e rm s m args below meth c Q D tc base rn rf ad N cells slots y (pc + 1) (ls) (v :: v :: st) (M))) : (pm_V p l e rm s m args below meth c Q D tc base rn rf ad N cells slots y (pc) (ls) (v :: st) (M)) := fun H locs arr hL hW hS => lv_dup F.1 F.2.1 hd ((pm_cat ad v).trans hc) (kk H locs arr hL hW hS)
theorem sj_pop (F : pm_F p s m args meth c y rm) {v : Value} (hc : v.category = 1) (hd : decode (pm_yB y) pc = .ok (.pop, 1)) (kk : (pm_V p l e rm s m args below meth c Q D tc base rn rf ad N cells slots y (pc + 1) (ls) (st) (M))) : (pm_V p l e rm s m args below meth c Q D tc base rn rf ad N cells slots y (pc) (ls) (v :: st) (M)) := fun H locs arr hL hW hS => lv_pop F.1 F.2.1 hd ((pm_cat ad v).trans hc) (kk H locs arr hL hW hS)
theorem sj_dup2 (F : pm_F p s m args meth c y rm) {v w : Value} (hc : v.category = 1) (hc2 : w.category = 1) (hd : decode (pm_yB y) pc = .ok (.dup2, 1)) (kk : (pm_V p l e rm s m args below meth c Q D tc base rn rf ad N cells slots y (pc + 1) (ls) (v :: w :: v :: w :: st) (M))) : (pm_V p l e rm s m args below meth c Q D tc base rn rf ad N cells slots y (pc) (ls) (v :: w :: st) (M)) := fun H locs arr hL hW hS => lv_dup2_11 F.1 F.2.1 hd ((pm_cat ad v).trans hc) ((pm_cat ad w).trans hc2) (kk H locs arr hL hW hS)
theorem sj_ineg (F : pm_F p s m args meth c y rm) {x : Int32} (hd : decode (pm_yB y) pc = .ok (.ineg, 1)) (kk : (pm_V p l e rm s m args below meth c Q D tc base rn rf ad N cells slots y (pc + 1) (ls) (.int (-x) :: st) (M))) : (pm_V p l e rm s m args below meth c Q D tc base rn rf ad N cells slots y (pc) (ls) (.int x :: st) (M)) := fun H locs arr hL hW hS => lv_ineg F.1 F.2.1 hd (kk H locs arr hL hW hS)
theorem sj_i2l (F : pm_F p s m args meth c y rm) {x : Int32} (hd : decode (pm_yB y) pc = .ok (.i2l, 1)) (kk : (pm_V p l e rm s m args below meth c Q D tc base rn rf ad N cells slots y (pc + 1) (ls) (.long x.toInt64 :: st) (M))) : (pm_V p l e rm s m args below meth c Q D tc base rn rf ad N cells slots y (pc) (ls) (.int x :: st) (M)) := fun H locs arr hL hW hS => lv_i2l F.1 F.2.1 hd rfl (kk H locs arr hL hW hS)
theorem sj_l2i (F : pm_F p s m args meth c y rm) {x : Int64} (hd : decode (pm_yB y) pc = .ok (.l2i, 1)) (kk : (pm_V p l e rm s m args below meth c Q D tc base rn rf ad N cells slots y (pc + 1) (ls) (.int x.toInt32 :: st) (M))) : (pm_V p l e rm s m args below meth c Q D tc base rn rf ad N cells slots y (pc) (ls) (.long x :: st) (M)) := fun H locs arr hL hW hS => lv_l2i F.1 F.2.1 hd rfl (kk H locs arr hL hW hS)
theorem sj_i2b (F : pm_F p s m args meth c y rm) {x : Int32} (hd : decode (pm_yB y) pc = .ok (.i2b, 1)) (kk : (pm_V p l e rm s m args below meth c Q D tc base rn rf ad N cells slots y (pc + 1) (ls) (.int x.toInt8.toInt32 :: st) (M))) : (pm_V p l e rm s m args below meth c Q D tc base rn rf ad N cells slots y (pc) (ls) (.int x :: st) (M)) := fun H locs arr hL hW hS => lv_i2b F.1 F.2.1 hd rfl (kk H locs arr hL hW hS)
theorem sj_lcmp (F : pm_F p s m args meth c y rm) {a b : Int64} (hd : decode (pm_yB y) pc = .ok (.lcmp, 1)) (kk : (pm_V p l e rm s m args below meth c Q D tc base rn rf ad N cells slots y (pc + 1) (ls) (.int (lg_cmp a b) :: st) (M))) : (pm_V p l e rm s m args below meth c Q D tc base rn rf ad N cells slots y (pc) (ls) (.long b :: .long a :: st) (M)) := fun H locs arr hL hW hS => W.lcmp F.1 F.2.1 hd (kk H locs arr hL hW hS)
theorem sj_bi (F : pm_F p s m args meth c y rm) {i : Instr} {a b v : Int32} (h : pm_bi i a b = some v) (hd : decode (pm_yB y) pc = .ok (i, 1)) (kk : (pm_V p l e rm s m args below meth c Q D tc base rn rf ad N cells slots y (pc + 1) (ls) (.int v :: st) (M))) : (pm_V p l e rm s m args below meth c Q D tc base rn rf ad N cells slots y (pc) (ls) (.int b :: .int a :: st) (M)) := by
  intro H locs arr hL hW hS
  have k := kk H locs arr hL hW hS
  unfold pm_bi at h
  split at h
  · cases h; exact lv_iadd F.1 F.2.1 hd k
  · cases h; exact lv_isub F.1 F.2.1 hd k
  · cases h; exact lv_imul F.1 F.2.1 hd k
  · cases h; exact lv_iand F.1 F.2.1 hd k
  · cases h; exact lv_ior F.1 F.2.1 hd k
  · cases h; exact lv_ixor F.1 F.2.1 hd k
  · cases h; exact lv_ishl F.1 F.2.1 hd k
  · cases h; exact lv_ishr F.1 F.2.1 hd k
  · cases h; exact lv_iushr F.1 F.2.1 hd rfl k
  · by_cases h0 : b = 0
    · rw [if_pos h0] at h; cases h
    · rw [if_neg h0] at h; cases h; exact lv_idiv F.1 F.2.1 hd h0 k
  · by_cases h0 : b = 0
    · rw [if_pos h0] at h; cases h
    · rw [if_neg h0] at h; cases h; exact lv_irem F.1 F.2.1 hd h0 k
  · cases h
theorem sj_bl (F : pm_F p s m args meth c y rm) {i : Instr} {a b v : Int64} (h : pm_bl i a b = some v) (hd : decode (pm_yB y) pc = .ok (i, 1)) (kk : (pm_V p l e rm s m args below meth c Q D tc base rn rf ad N cells slots y (pc + 1) (ls) (.long v :: st) (M))) : (pm_V p l e rm s m args below meth c Q D tc base rn rf ad N cells slots y (pc) (ls) (.long b :: .long a :: st) (M)) := by
  intro H locs arr hL hW hS
  have k := kk H locs arr hL hW hS
  unfold pm_bl at h
  split at h
  · cases h; exact lv_ladd F.1 F.2.1 hd k
  · cases h; exact lv_lmul F.1 F.2.1 hd k
  · by_cases h0 : b = 0
    · rw [if_pos h0] at h; cases h
    · rw [if_neg h0] at h; cases h; exact lv_ldiv F.1 F.2.1 hd h0 k
  · by_cases h0 : b = 0
    · rw [if_pos h0] at h; cases h
    · rw [if_neg h0] at h; cases h; exact lv_lrem F.1 F.2.1 hd h0 k
  · cases h
theorem pm_tgt {pc : Nat} {off : Int} (h : 0 ≤ (pc : Int) + off) : (pc : Int) + off = ((((pc : Int) + off).toNat : Nat) : Int) := (Int.toNat_of_nonneg h).symm
theorem sj_icmp (F : pm_F p s m args meth c y rm) {cd : Jvm.ClassFile.Cond} {off : Int} {a b : Int32} (h0 : 0 ≤ (pc : Int) + off) (hd : decode (pm_yB y) pc = .ok (.if_icmp cd off, 3)) (kt : pm_cc cd a b = true → (pm_V p l e rm s m args below meth c Q D tc base rn rf ad N cells slots y (((pc : Int) + off).toNat) (ls) (st) (M))) (kf : pm_cc cd a b = false → (pm_V p l e rm s m args below meth c Q D tc base rn rf ad N cells slots y (pc + 3) (ls) (st) (M))) : (pm_V p l e rm s m args below meth c Q D tc base rn rf ad N cells slots y (pc) (ls) (.int b :: .int a :: st) (M)) := by
  intro H locs arr hL hW hS
  cases cd with
  | eq => exact lv_icmp_eq F.1 F.2.1 hd (pm_tgt h0) (fun h => kt (decide_eq_true h) H locs arr hL hW hS) (fun h => kf (decide_eq_false h) H locs arr hL hW hS)
  | ne => exact lv_icmp_ne F.1 F.2.1 hd (pm_tgt h0) (fun h => kt (by show (!decide _) = true; rw [decide_eq_false h]; rfl) H locs arr hL hW hS) (fun h => kf (by show (!decide _) = false; rw [decide_eq_true h]; rfl) H locs arr hL hW hS)
  | lt => exact lv_icmp_lt F.1 F.2.1 hd (pm_tgt h0) (fun h => kt (decide_eq_true h) H locs arr hL hW hS) (fun h => kf (decide_eq_false h) H locs arr hL hW hS)
  | ge => exact lv_icmp_ge F.1 F.2.1 hd (pm_tgt h0) (fun h => kt (decide_eq_true h) H locs arr hL hW hS) (fun h => kf (decide_eq_false h) H locs arr hL hW hS)
  | gt => exact lv_icmp_gt F.1 F.2.1 hd (pm_tgt h0) (fun h => kt (decide_eq_true h) H locs arr hL hW hS) (fun h => kf (decide_eq_false h) H locs arr hL hW hS)
  | le => exact lv_icmp_le F.1 F.2.1 hd (pm_tgt h0) (fun h => kt (decide_eq_true h) H locs arr hL hW hS) (fun h => kf (decide_eq_false h) H locs arr hL hW hS)
theorem sj_if (F : pm_F p s m args meth c y rm) {cd : Jvm.ClassFile.Cond} {off : Int} {a : Int32} (h0 : 0 ≤ (pc : Int) + off) (hd : decode (pm_yB y) pc = .ok (.ifCond cd off, 3)) (kt : pm_cc cd a 0 = true → (pm_V p l e rm s m args below meth c Q D tc base rn rf ad N cells slots y (((pc : Int) + off).toNat) (ls) (st) (M))) (kf : pm_cc cd a 0 = false → (pm_V p l e rm s m args below meth c Q D tc base rn rf ad N cells slots y (pc + 3) (ls) (st) (M))) : (pm_V p l e rm s m args below meth c Q D tc base rn rf ad N cells slots y (pc) (ls) (.int a :: st) (M)) := by
  intro H locs arr hL hW hS
  cases cd with
  | eq => exact lv_if_eq F.1 F.2.1 hd (pm_tgt h0) (fun h => kt (decide_eq_true h) H locs arr hL hW hS) (fun h => kf (decide_eq_false h) H locs arr hL hW hS)
  | ne => exact lv_if_ne F.1 F.2.1 hd (pm_tgt h0) (fun h => kt (by show (!decide _) = true; rw [decide_eq_false h]; rfl) H locs arr hL hW hS) (fun h => kf (by show (!decide _) = false; rw [decide_eq_true h]; rfl) H locs arr hL hW hS)
  | lt => exact lv_if_lt F.1 F.2.1 hd (pm_tgt h0) (fun h => kt (decide_eq_true h) H locs arr hL hW hS) (fun h => kf (decide_eq_false h) H locs arr hL hW hS)
  | ge => exact lv_if_ge F.1 F.2.1 hd (pm_tgt h0) (fun h => kt (decide_eq_true h) H locs arr hL hW hS) (fun h => kf (decide_eq_false h) H locs arr hL hW hS)
  | gt => exact lv_if_gt F.1 F.2.1 hd (pm_tgt h0) (fun h => kt (decide_eq_true h) H locs arr hL hW hS) (fun h => kf (decide_eq_false h) H locs arr hL hW hS)
  | le => exact lv_if_le F.1 F.2.1 hd (pm_tgt h0) (fun h => kt (decide_eq_true h) H locs arr hL hW hS) (fun h => kf (decide_eq_false h) H locs arr hL hW hS)
theorem sj_goto (F : pm_F p s m args meth c y rm) {off : Int} (h0 : 0 ≤ (pc : Int) + off) (hd : decode (pm_yB y) pc = .ok (.goto off, 3)) (kk : (pm_V p l e rm s m args below meth c Q D tc base rn rf ad N cells slots y (((pc : Int) + off).toNat) (ls) (st) (M))) : (pm_V p l e rm s m args below meth c Q D tc base rn rf ad N cells slots y (pc) (ls) (st) (M)) := fun H locs arr hL hW hS => lv_goto F.1 F.2.1 hd (pm_tgt h0) (kk H locs arr hL hW hS)
theorem sj_swO (F : pm_F p s m args meth c y rm) {d lo hi : Int} {os : Array Int} {n : Nat} {x : Int32} (hx : x.toInt < lo ∨ hi < x.toInt) (h0 : 0 ≤ (pc : Int) + d) (hd : decode (pm_yB y) pc = .ok (.tableswitch d lo hi os, n)) (kk : (pm_V p l e rm s m args below meth c Q D tc base rn rf ad N cells slots y (((pc : Int) + d).toNat) (ls) (st) (M))) : (pm_V p l e rm s m args below meth c Q D tc base rn rf ad N cells slots y (pc) (ls) (.int x :: st) (M)) := fun H locs arr hL hW hS => lv_tableOut F.1 F.2.1 hd hx (pm_tgt h0) (kk H locs arr hL hW hS)
theorem sj_swI (F : pm_F p s m args meth c y rm) {d lo hi off : Int} {os : Array Int} {n : Nat} {x : Int32} (hx : ¬ (x.toInt < lo ∨ hi < x.toInt)) (ho : os[(x.toInt - lo).toNat]? = some off) (h0 : 0 ≤ (pc : Int) + off) (hd : decode (pm_yB y) pc = .ok (.tableswitch d lo hi os, n)) (kk : (pm_V p l e rm s m args below meth c Q D tc base rn rf ad N cells slots y (((pc : Int) + off).toNat) (ls) (st) (M))) : (pm_V p l e rm s m args below meth c Q D tc base rn rf ad N cells slots y (pc) (ls) (.int x :: st) (M)) := fun H locs arr hL hW hS => lv_tableIn F.1 F.2.1 hd (fun h => hx (Or.inl h)) (fun h => hx (Or.inr h)) ho (pm_tgt h0) (kk H locs arr hL hW hS)
theorem sj_gsL (F : pm_F p s m args meth c y rm) (K : pm_K D tc base ra rn rf s) (hra : ∀ j, j < 3 → ad (1000 + j) = ra j) (ho : pm_yO y = 1) (hd : decode (pm_yB y) pc = .ok (.getstatic 25, 3)) (kk : (pm_V p l e rm s m args below meth c Q D tc base rn rf ad N cells slots y (pc + 3) (ls) (.ref 1000 :: st) (M))) : (pm_V p l e rm s m args below meth c Q D tc base rn rf ad N cells slots y (pc) (ls) (st) (M)) := by
  intro H locs arr hL hW hS
  have hown : s.vm.findClass RX1 = some m.cls := by have h := F.2.2.2.1; rw [ho] at h; exact h
  have k := kk H locs arr hL hW hS
  have e0 : (Value.ref 1000 :: st).map (pm_cV ad) = Value.ref (ra 0) :: st.map (pm_cV ad) := by
    show Value.ref (ad (1000 + 0)) :: _ = _
    rw [hra 0 (by decide)]
  rw [e0] at k
  exact va_getsN F.1 F.2.1 K.2.2.2.1 hS hown (va_Nw.use rfl (K.2.2.2.2.2.1 _ wo_flN rfl)) (fun _ h => h) hd k
theorem sj_gsK (F : pm_F p s m args meth c y rm) (K : pm_K D tc base ra rn rf s) (hra : ∀ j, j < 3 → ad (1000 + j) = ra j) (ho : pm_yO y = 5) (hd : decode (pm_yB y) pc = .ok (.getstatic 341, 3)) (kk : (pm_V p l e rm s m args below meth c Q D tc base rn rf ad N cells slots y (pc + 3) (ls) (.ref 1001 :: st) (M))) : (pm_V p l e rm s m args below meth c Q D tc base rn rf ad N cells slots y (pc) (ls) (st) (M)) := by
  intro H locs arr hL hW hS
  have hown : s.vm.findClass RX5 = some m.cls := by have h := F.2.2.2.1; rw [ho] at h; exact h
  have k := kk H locs arr hL hW hS
  have e0 : (Value.ref 1001 :: st).map (pm_cV ad) = Value.ref (ra 1) :: st.map (pm_cV ad) := by
    show Value.ref (ad (1000 + 1)) :: _ = _
    rw [hra 1 (by decide)]
  rw [e0] at k
  exact va_gets F.1 F.2.1 K.2.2.2.2.1 hS hown (F.2.2.2.2.1 _ (pm_WSin wo_flK rfl)) (fun _ h => h) hd k
/-- one cell is written -/
theorem pm_W_up {H1 : Heap} {a : Nat} {x : va_E} {H : Heap} (hW : pm_W D tc base rn rf ad N M H) (ha : a < N) (hok : pm_okE N x) (hP : va_P D vwCl ((pm_wl tc ad N M).set a (ad a, pm_cE tc ad x)) H1) (hD : va_D (pm_Z base) ((pm_wl tc ad N M).set a (ad a, pm_cE tc ad x))) : pm_W D tc base rn rf ad N (va_up M a x) H1 := by
  rw [pm_wl_set ha] at hP hD
  refine ⟨hP, hD, fun k hk => ?_, fun j hj => ?_, hW.2.2.2.2⟩
  · by_cases h : k = a
    · subst h; simp only [va_up, if_true]; exact hok
    · simp only [va_up, if_neg h]; exact hW.2.2.1 k hk
  · have h1 := hW.2.2.2.2
    have h2 : 1000 + j ≠ a := by omega
    simp only [va_up, if_neg h2]
    exact hW.2.2.2.1 j hj
theorem sj_getf (F : pm_F p s m args meth c y rm) (K : pm_K D tc base ra rn rf s) {x ci k a : Nat} {fs : List Value} {v : Value} (hl : pm_lk (pm_yO y) x pm_flT = some (ci, k)) (hM : M a = .inr (ci, fs)) (ha : a < N) (hv : fs[k]? = some v) (hd : decode (pm_yB y) pc = .ok (.getfield x, 3)) (kk : (pm_V p l e rm s m args below meth c Q D tc base rn rf ad N cells slots y (pc + 3) (ls) (v :: st) (M))) : (pm_V p l e rm s m args below meth c Q D tc base rn rf ad N cells slots y (pc) (ls) (.ref a :: st) (M)) := by
  intro H locs arr hL hW hS
  obtain ⟨C, T, N', hc, hk, h1, hw⟩ := pm_flT_ok _ (pm_lk_mem hl)
  dsimp only at hc hk h1 hw
  have he := pm_wl_get (tc := tc) (ad := ad) (M := M) ha
  rw [hM] at he
  exact va_get F.1 F.2.1 F.2.2.2.2.1 (pm_hin hc) F.2.2.2.1 K.1 hW.1 a he hc k hk (F.2.2.2.2.1 _ (pm_WSin hw rfl)) (fun _ h => by rw [← h1]; exact h) (v := pm_cV ad v) (by rw [List.getElem?_map, hv]; rfl) hd (kk H locs arr hL hW hS)
theorem pm_ft_ok {ty : FieldType} {v : Value} (ad : Nat → Nat) (h : pm_ft ty v = true) : narrow ty (pm_cV ad v) = pm_cV ad v ∧ fits ty (pm_cV ad v) = true := by
  unfold pm_ft at h
  split at h
  · exact ⟨rfl, rfl⟩
  · exact ⟨rfl, rfl⟩
  · exact ⟨rfl, rfl⟩
  · exact ⟨rfl, rfl⟩
  · cases h
theorem sj_putf (F : pm_F p s m args meth c y rm) (K : pm_K D tc base ra rn rf s) {x ci k a : Nat} {fs : List Value} {v : Value} (hl : pm_lk (pm_yO y) x pm_flT = some (ci, k)) (hM : M a = .inr (ci, fs)) (ha : a < N) (hk2 : k < fs.length) (hft : pm_ft (pm_ty ci k) v = true) (hpf : pm_pf y ci k = true) (hok : pm_okW N v = true) (hd : decode (pm_yB y) pc = .ok (.putfield x, 3)) (kk : (pm_V p l e rm s m args below meth c Q D tc base rn rf ad N cells slots y (pc + 3) (ls) (st) (va_up M a (.inr (ci, fs.set k v))))) : (pm_V p l e rm s m args below meth c Q D tc base rn rf ad N cells slots y (pc) (ls) (v :: .ref a :: st) (M)) := by
  intro H locs arr hL hW hS
  obtain ⟨C, T, N', hc, hk, h1, hw⟩ := pm_flT_ok _ (pm_lk_mem hl)
  dsimp only at hc hk h1 hw
  have he := pm_wl_get (tc := tc) (ad := ad) (M := M) ha
  rw [hM] at he
  obtain ⟨ht1, ht2⟩ := pm_ty_ok ci _ hc
  obtain ⟨hn, hf⟩ := pm_ft_ok ad hft
  have hokE : pm_okE N (.inr (ci, fs.set k v)) := by
    intro b hb
    rcases List.mem_or_eq_of_mem_set hb with h | h
    · have h3 := hW.2.2.1 a ha
      rw [hM] at h3
      exact h3 b h
    · rw [← h] at hok
      exact Nat.le_of_ble_eq_true hok
  have hmap : (fs.set k v).map (pm_cV ad) = (fs.map (pm_cV ad)).set k (pm_cV ad v) := List.map_set
  have goes : ∀ (H1 : Heap) (locs1 : List Loc), va_P D vwCl ((pm_wl tc ad N M).set a (ad a, .inr (ci, (fs.map (pm_cV ad)).set k (pm_cV ad v)))) H1 → va_D (pm_Z base) ((pm_wl tc ad N M).set a (ad a, .inr (ci, (fs.map (pm_cV ad)).set k (pm_cV ad v)))) → va_S (pm_Z base) s.heap H1 locs1 → W p l e rm s m args below meth c H1 locs1 cells slots Q (F0 m (pc + 3) arr (st.map (pm_cV ad))) := by
    intro H1 locs1 hP hD hS1
    rw [← hmap] at hP hD
    exact kk H1 locs1 arr hL (pm_W_up (x := .inr (ci, fs.set k v)) hW ha hokE hP hD) hS1
  by_cases hfin : (T k).2.2.2 = true
  · have hff : pm_ff ci k = true := by
      unfold pm_ff
      rw [List.getD_eq_getElem?_getD, hc]
      exact hfin
    unfold pm_pf at hpf
    rw [hff] at hpf
    simp only [Bool.not_true, Bool.false_or, Bool.and_eq_true, beq_iff_eq] at hpf
    have ho : (T k).1 = pm_R (pm_yO y) := h1.trans ((pm_own_cl hc).trans (congrArg pm_R (Nat.eq_of_beq_eq_true hpf.2)))
    exact va_putF F.1 F.2.1 F.2.2.2.2.1 (pm_hin hc) (pm_ty ci) ht1 ht2 F.2.2.2.1 K.1 hW.1 hW.2.1 hS a he hc k hk (F.2.2.2.2.1 _ (pm_WSin hw rfl)) (fun _ h => by rw [← h1]; exact h) hfin (F.2.2.2.2.2.1 hpf.1) ho (ht1 k hk) hn hf (by rw [List.length_map]; exact hk2) hd goes
  · exact va_put F.1 F.2.1 F.2.2.2.2.1 (pm_hin hc) (pm_ty ci) ht1 ht2 F.2.2.2.1 K.1 hW.1 hW.2.1 hS a he hc k hk (F.2.2.2.2.1 _ (pm_WSin hw rfl)) (fun _ h => by rw [← h1]; exact h) (by simpa using hfin) (ht1 k hk) hn hf (by rw [List.length_map]; exact hk2) hd goes
theorem sj_iald (F : pm_F p s m args meth c y rm) (K : pm_K D tc base ra rn rf s) (hra : ∀ j, j < 3 → ad (1000 + j) = ra j) {a n : Nat} {f : Nat → Int32} {j : Int32} (hM : M a = .inl (0, n, .inl f)) (ha : a < N ∨ (1000 ≤ a ∧ a < 1003)) (hj : ¬ (j < 0 ∨ n ≤ j.toNatClampNeg)) (hd : decode (pm_yB y) pc = .ok (.iaload, 1)) (kk : (pm_V p l e rm s m args below meth c Q D tc base rn rf ad N cells slots y (pc + 1) (ls) (.int (f j.toNatClampNeg) :: st) (M))) : (pm_V p l e rm s m args below meth c Q D tc base rn rf ad N cells slots y (pc) (ls) (.int j :: .ref a :: st) (M)) := by
  intro H locs arr hL hW hS
  rcases ha with ha | ⟨h1, h2⟩
  · have he := pm_wl_get (tc := tc) (ad := ad) (M := M) ha
    rw [hM] at he
    exact va_iald F.1 F.2.1 K.1 hW.1 a 0 he rfl hj hd (kk H locs arr hL hW hS)
  · obtain ⟨i, rfl⟩ : ∃ i, a = 1000 + i := ⟨a - 1000, by omega⟩
    have hi : i < 3 := by omega
    have h3 := hW.2.2.2.1 i hi
    rw [hM] at h3
    cases h3
    have k := kk H locs arr hL hW hS
    have e0 : (Value.int j :: Value.ref (1000 + i) :: st).map (pm_cV ad) = Value.int j :: Value.ref (ra i) :: st.map (pm_cV ad) := by
      show Value.int j :: Value.ref (ad (1000 + i)) :: _ = _
      rw [hra i hi]
    rw [e0]
    exact va_ti F.1 F.2.1 (K.2.2.1 i hi) hS hj rfl hd k
theorem sj_iast (F : pm_F p s m args meth c y rm) (K : pm_K D tc base ra rn rf s) {a n : Nat} {f : Nat → Int32} {j v : Int32} (hM : M a = .inl (0, n, .inl f)) (ha : a < N) (hj : ¬ (j < 0 ∨ n ≤ j.toNatClampNeg)) (hd : decode (pm_yB y) pc = .ok (.iastore, 1)) (kk : (pm_V p l e rm s m args below meth c Q D tc base rn rf ad N cells slots y (pc + 1) (ls) (st) (va_up M a (.inl (0, n, .inl (upd f j.toNatClampNeg v)))))) : (pm_V p l e rm s m args below meth c Q D tc base rn rf ad N cells slots y (pc) (ls) (.int v :: .int j :: .ref a :: st) (M)) := by
  intro H locs arr hL hW hS
  have he := pm_wl_get (tc := tc) (ad := ad) (M := M) ha
  rw [hM] at he
  exact va_iast F.1 F.2.1 K.1 hW.1 hW.2.1 hS a 0 he rfl hj hd (fun H1 locs1 hP hD hS1 => kk H1 locs1 arr hL (pm_W_up (x := .inl (0, n, .inl (upd f j.toNatClampNeg v))) hW ha trivial hP hD) hS1)
theorem sj_bald (F : pm_F p s m args meth c y rm) (K : pm_K D tc base ra rn rf s) {a n : Nat} {f : Nat → Int32} {j : Int32} (hM : M a = .inl (1, n, .inl f)) (ha : a < N) (hj : ¬ (j < 0 ∨ n ≤ j.toNatClampNeg)) (hd : decode (pm_yB y) pc = .ok (.baload, 1)) (kk : (pm_V p l e rm s m args below meth c Q D tc base rn rf ad N cells slots y (pc + 1) (ls) (.int (f j.toNatClampNeg) :: st) (M))) : (pm_V p l e rm s m args below meth c Q D tc base rn rf ad N cells slots y (pc) (ls) (.int j :: .ref a :: st) (M)) := by
  intro H locs arr hL hW hS
  have he := pm_wl_get (tc := tc) (ad := ad) (M := M) ha
  rw [hM] at he
  exact va_zald F.1 F.2.1 K.1 hW.1 a 1 he rfl hj hd (kk H locs arr hL hW hS)
theorem sj_bast (F : pm_F p s m args meth c y rm) (K : pm_K D tc base ra rn rf s) {a n : Nat} {f : Nat → Int32} {j v : Int32} (hM : M a = .inl (1, n, .inl f)) (ha : a < N) (hj : ¬ (j < 0 ∨ n ≤ j.toNatClampNeg)) (hd : decode (pm_yB y) pc = .ok (.bastore, 1)) (kk : (pm_V p l e rm s m args below meth c Q D tc base rn rf ad N cells slots y (pc + 1) (ls) (st) (va_up M a (.inl (1, n, .inl (upd f j.toNatClampNeg (vp_nar .boolean v))))))) : (pm_V p l e rm s m args below meth c Q D tc base rn rf ad N cells slots y (pc) (ls) (.int v :: .int j :: .ref a :: st) (M)) := by
  intro H locs arr hL hW hS
  have he := pm_wl_get (tc := tc) (ad := ad) (M := M) ha
  rw [hM] at he
  exact va_zast F.1 F.2.1 K.1 hW.1 hW.2.1 hS a 1 he rfl hj hd (fun H1 locs1 hP hD hS1 => kk H1 locs1 arr hL (pm_W_up (x := .inl (1, n, .inl (upd f j.toNatClampNeg (vp_nar .boolean v)))) hW ha trivial hP hD) hS1)
theorem pm_rf_map (ad : Nat → Nat) (o : Option Nat) : pm_cV ad (va_rf o) = va_rf (o.map ad) := by cases o <;> rfl
theorem sj_aald (F : pm_F p s m args meth c y rm) (K : pm_K D tc base ra rn rf s) {a n t : Nat} {f : Nat → Option Nat} {j : Int32} (ht : t = 2 ∨ t = 3) (hM : M a = .inl (t, n, .inr (.inr (.inr (.inr f))))) (ha : a < N) (hj : ¬ (j < 0 ∨ n ≤ j.toNatClampNeg)) (hd : decode (pm_yB y) pc = .ok (.aaload, 1)) (kk : (pm_V p l e rm s m args below meth c Q D tc base rn rf ad N cells slots y (pc + 1) (ls) (va_rf (f j.toNatClampNeg) :: st) (M))) : (pm_V p l e rm s m args below meth c Q D tc base rn rf ad N cells slots y (pc) (ls) (.int j :: .ref a :: st) (M)) := by
  intro H locs arr hL hW hS
  have he := pm_wl_get (tc := tc) (ad := ad) (M := M) ha
  rw [hM] at he
  have k := kk H locs arr hL hW hS
  rw [List.map_cons, pm_rf_map] at k
  rcases ht with rfl | rfl
  · exact va_aldq F.1 F.2.1 K.1 hW.1 a 2 he rfl hj hd k
  · exact va_aldq F.1 F.2.1 K.1 hW.1 a 3 he rfl hj hd k
theorem pm_up_map (ad : Nat → Nat) (f : Nat → Option Nat) (i v : Nat) : (fun j => (va_up f i (some v) j).map ad) = va_up (fun j => (f j).map ad) i (some (ad v)) := by
  funext j
  by_cases h : j = i <;> simp [va_up, h]
theorem sj_aast (F : pm_F p s m args meth c y rm) (K : pm_K D tc base ra rn rf s) {a n t v ci : Nat} {fs : List Value} {f : Nat → Option Nat} {j : Int32} (ht : (t = 2 ∧ ci = 1) ∨ (t = 3 ∧ ci = 0)) (hM : M a = .inl (t, n, .inr (.inr (.inr (.inr f))))) (ha : a < N) (hMv : M v = .inr (ci, fs)) (hv : v < N) (hj : ¬ (j < 0 ∨ n ≤ j.toNatClampNeg)) (hd : decode (pm_yB y) pc = .ok (.aastore, 1)) (kk : (pm_V p l e rm s m args below meth c Q D tc base rn rf ad N cells slots y (pc + 1) (ls) (st) (va_up M a (.inl (t, n, .inr (.inr (.inr (.inr (va_up f j.toNatClampNeg (some v)))))))))) : (pm_V p l e rm s m args below meth c Q D tc base rn rf ad N cells slots y (pc) (ls) (.ref v :: .int j :: .ref a :: st) (M)) := by
  intro H locs arr hL hW hS
  have he := pm_wl_get (tc := tc) (ad := ad) (M := M) ha
  rw [hM] at he
  have hev := pm_wl_get (tc := tc) (ad := ad) (M := M) hv
  rw [hMv] at hev
  have hokE : pm_okE N (.inl (t, n, .inr (.inr (.inr (.inr (va_up f j.toNatClampNeg (some v))))))) := by
    intro i k hk
    by_cases h : i = j.toNatClampNeg
    · rw [h] at hk
      simp only [va_up, if_true] at hk
      cases hk
      exact hv
    · simp only [va_up, if_neg h] at hk
      have h3 := hW.2.2.1 a ha
      rw [hM] at h3
      exact h3 i k hk
  have goes : ∀ (H1 : Heap) (locs1 : List Loc), va_P D vwCl ((pm_wl tc ad N M).set a (ad a, .inl (tc t, n, .inr (.inr (.inr (.inr (va_up (fun j => (f j).map ad) j.toNatClampNeg (some (ad v))))))))) H1 → va_D (pm_Z base) ((pm_wl tc ad N M).set a (ad a, .inl (tc t, n, .inr (.inr (.inr (.inr (va_up (fun j => (f j).map ad) j.toNatClampNeg (some (ad v))))))))) → va_S (pm_Z base) s.heap H1 locs1 → W p l e rm s m args below meth c H1 locs1 cells slots Q (F0 m (pc + 1) arr (st.map (pm_cV ad))) := by
    intro H1 locs1 hP hD hS1
    rw [← pm_up_map] at hP hD
    exact kk H1 locs1 arr hL (pm_W_up (x := .inl (t, n, .inr (.inr (.inr (.inr (va_up f j.toNatClampNeg (some v))))))) hW ha hokE hP hD) hS1
  rcases ht with ⟨rfl, rfl⟩ | ⟨rfl, rfl⟩
  · exact va_astq F.1 F.2.1 K.1 hW.1 hW.2.1 hS a 2 v 1 he rfl hev rfl hj hd goes
  · exact va_astq F.1 F.2.1 K.1 hW.1 hW.2.1 hS a 3 v 0 he rfl hev rfl hj hd goes
theorem pm_cE_inl (tc : Nat → ClassId) (ad : Nat → Nat) (t n : Nat) (f : (Nat → Int32) ⊕ (Nat → Int64) ⊕ (Nat → UInt32) ⊕ (Nat → UInt64) ⊕ (Nat → Option Nat)) : ∃ g, pm_cE tc ad (.inl (t, n, f)) = .inl (tc t, n, g) := by
  match f with
  | .inr (.inr (.inr (.inr g))) => exact ⟨_, rfl⟩
  | .inr (.inr (.inr (.inl g))) => exact ⟨_, rfl⟩
  | .inr (.inr (.inl g)) => exact ⟨_, rfl⟩
  | .inr (.inl g) => exact ⟨_, rfl⟩
  | .inl g => exact ⟨_, rfl⟩
theorem sj_alen (F : pm_F p s m args meth c y rm) (K : pm_K D tc base ra rn rf s) (hra : ∀ j, j < 3 → ad (1000 + j) = ra j) {a n t : Nat} {f : (Nat → Int32) ⊕ (Nat → Int64) ⊕ (Nat → UInt32) ⊕ (Nat → UInt64) ⊕ (Nat → Option Nat)} (hM : M a = .inl (t, n, f)) (ha : (a < N ∧ t < 4) ∨ (1000 ≤ a ∧ a < 1003)) (hd : decode (pm_yB y) pc = .ok (.arraylength, 1)) (kk : (pm_V p l e rm s m args below meth c Q D tc base rn rf ad N cells slots y (pc + 1) (ls) (.int (Int32.ofNat n) :: st) (M))) : (pm_V p l e rm s m args below meth c Q D tc base rn rf ad N cells slots y (pc) (ls) (.ref a :: st) (M)) := by
  intro H locs arr hL hW hS
  rcases ha with ⟨ha, ht⟩ | ⟨h1, h2⟩
  · have he := pm_wl_get (tc := tc) (ad := ad) (M := M) ha
    rw [hM] at he
    obtain ⟨g, hg⟩ := pm_cE_inl tc ad t n f
    rw [hg] at he
    have k := kk H locs arr hL hW hS
    match t, ht with
    | 0, _ => exact va_alen F.1 F.2.1 K.1 hW.1 a 0 he rfl rfl hd k
    | 1, _ => exact va_alen F.1 F.2.1 K.1 hW.1 a 1 he rfl rfl hd k
    | 2, _ => exact va_alen F.1 F.2.1 K.1 hW.1 a 2 he rfl rfl hd k
    | 3, _ => exact va_alen F.1 F.2.1 K.1 hW.1 a 3 he rfl rfl hd k
    | t + 4, ht => exact absurd ht (by omega)
  · obtain ⟨i, rfl⟩ : ∃ i, a = 1000 + i := ⟨a - 1000, by omega⟩
    have hi : i < 3 := by omega
    have h3 := hW.2.2.2.1 i hi
    rw [hM] at h3
    cases h3
    have k := kk H locs arr hL hW hS
    have e0 : (Value.ref (1000 + i) :: st).map (pm_cV ad) = Value.ref (ra i) :: st.map (pm_cV ad) := by
      show Value.ref (ad (1000 + i)) :: _ = _
      rw [hra i hi]
    rw [e0]
    exact va_tlen F.1 F.2.1 (K.2.2.1 i hi) hS rfl hd k
theorem pm_rb_ok (F : pm_F p s m args meth c y rm) {k : Nat} (h : pm_rb y k = true) : 1 ≤ rm.frames ∧ k ≤ rm.locals := by
  unfold pm_rb at h
  simp only [Bool.and_eq_true] at h
  exact ⟨Nat.le_trans (Nat.le_of_ble_eq_true h.1) F.2.2.2.2.2.2.1, Nat.le_trans (Nat.le_of_ble_eq_true h.2) F.2.2.2.2.2.2.2⟩
theorem sj_copy (F : pm_F p s m args meth c y rm) (K : pm_K D tc base ra rn rf s) {x a0 a1 n0 n1 : Nat} {f g : Nat → Int32} {sp dp n : Int32} {q : Nat × Nat} (hl : pm_lk (pm_yO y) x pm_mlT = some (9, q)) (hM0 : M a0 = .inl (0, n0, .inl f)) (hM1 : M a1 = .inl (0, n1, .inl g)) (h0 : a0 < N) (h1 : a1 < N) (k1 : ¬ sp < 0) (k2 : ¬ dp < 0) (k3 : ¬ n < 0) (k4 : sp.toNatClampNeg + n.toNatClampNeg ≤ n0) (k5 : dp.toNatClampNeg + n.toNatClampNeg ≤ n1) (hct : pm_ct st ≤ 8) (hrb : pm_rb y 40 = true) (hd : decode (pm_yB y) pc = .ok (.invokestatic x, 3)) (kk : (pm_V p l e rm s m args below meth c Q D tc base rn rf ad N cells slots y (pc + 3) (ls) (st) (va_up M a1 (.inl (0, n1, .inl (va_cpy f g sp.toNatClampNeg dp.toNatClampNeg n.toNatClampNeg)))))) : (pm_V p l e rm s m args below meth c Q D tc base rn rf ad N cells slots y (pc) (ls) (.int n :: .int dp :: .ref a1 :: .int sp :: .ref a0 :: st) (M)) := by
  intro H locs arr hL hW hS
  have he0 := pm_wl_get (tc := tc) (ad := ad) (M := M) h0
  rw [hM0] at he0
  have he1 := pm_wl_get (tc := tc) (ad := ad) (M := M) h1
  rw [hM1] at he1
  have hlk : Jvm.Cond.methodLink (pm_R (pm_yO y)) x arraycopyName ∈ lw_tbl := pm_mlT_ok _ (pm_lk_mem hl)
  obtain ⟨r1, r2⟩ := pm_rb_ok F hrb
  have hs : ((st.map (pm_cV ad)).map fun v => v.category).sum ≤ 8 := by rw [pm_ct_map]; exact hct
  have hnf : nativeFrameWords "java/lang/System" "arraycopy" 5 = 7 := by decide
  exact va_copyi F.1 F.2.1 (F.2.2.1.trans hL.2.1.symm) F.2.2.2.1 (F.2.2.2.2.1 _ (pm_WSin hlk rfl)) (F.2.2.2.2.1 _ (pm_WSin wo_acN rfl)) (F.2.2.2.2.1 _ (pm_WSin wo_acS rfl)) (F.2.2.2.2.1 _ (pm_WSin wo_sysI rfl)) K.1 hW.1 hW.2.1 hS a0 a1 0 0 he0 he1 rfl rfl rfl k1 k2 k3 k4 k5 (fun _ _ => rfl) r1 (by rw [hnf]; omega) hd (fun H1 locs1 hP hD hS1 => kk H1 locs1 arr hL (pm_W_up (x := .inl (0, n1, .inl (va_cpy f g sp.toNatClampNeg dp.toNatClampNeg n.toNatClampNeg))) hW h1 trivial hP hD) hS1)
theorem sj_max (F : pm_F p s m args meth c y rm) (hcs : cells ≤ rm.cells ∧ slots ≤ rm.slots) {x : Nat} {a b : Int32} {q : Nat × Nat} (hl : pm_lk (pm_yO y) x pm_mlT = some (6, q)) (hct : pm_ct st ≤ 8) (hrb : pm_rb y 21 = true) (hd : decode (pm_yB y) pc = .ok (.invokestatic x, 3)) (kk : (pm_V p l e rm s m args below meth c Q D tc base rn rf ad N cells slots y (pc + 3) (ls) (.int (if a < b then b else a) :: st) (M))) : (pm_V p l e rm s m args below meth c Q D tc base rn rf ad N cells slots y (pc) (ls) (.int b :: .int a :: st) (M)) := by
  intro H locs arr hL hW hS
  have hlk : Jvm.Cond.methodLink (pm_R (pm_yO y)) x Lib.Math.max.name ∈ lw_tbl := pm_mlT_ok _ (pm_lk_mem hl)
  obtain ⟨r1, r2⟩ := pm_rb_ok F hrb
  have hs : ((st.map (pm_cV ad)).map fun v => v.category).sum ≤ 8 := by rw [pm_ct_map]; exact hct
  exact va_mmax F.1 F.2.1 (F.2.2.1.trans hL.2.1.symm) F.2.2.2.1 (F.2.2.2.2.1 _ (pm_WSin hlk rfl)) (F.2.2.2.2.1 _ (pm_WSin wo_maxS rfl)) (F.2.2.2.2.1 _ (pm_WSin wo_mathI rfl)) (F.2.2.2.2.1 _ (pm_WSin wo_maxC rfl)) r1 (by omega) hcs.1 hcs.2 hd (kk H locs arr hL hW hS)
theorem sj_min (F : pm_F p s m args meth c y rm) (hcs : cells ≤ rm.cells ∧ slots ≤ rm.slots) {x : Nat} {a b : Int32} {q : Nat × Nat} (hl : pm_lk (pm_yO y) x pm_mlT = some (7, q)) (hct : pm_ct st ≤ 8) (hrb : pm_rb y 21 = true) (hd : decode (pm_yB y) pc = .ok (.invokestatic x, 3)) (kk : (pm_V p l e rm s m args below meth c Q D tc base rn rf ad N cells slots y (pc + 3) (ls) (.int (if b < a then b else a) :: st) (M))) : (pm_V p l e rm s m args below meth c Q D tc base rn rf ad N cells slots y (pc) (ls) (.int b :: .int a :: st) (M)) := by
  intro H locs arr hL hW hS
  have hlk : Jvm.Cond.methodLink (pm_R (pm_yO y)) x Lib.Math.min.name ∈ lw_tbl := pm_mlT_ok _ (pm_lk_mem hl)
  obtain ⟨r1, r2⟩ := pm_rb_ok F hrb
  have hs : ((st.map (pm_cV ad)).map fun v => v.category).sum ≤ 8 := by rw [pm_ct_map]; exact hct
  exact va_mmin F.1 F.2.1 (F.2.2.1.trans hL.2.1.symm) F.2.2.2.1 (F.2.2.2.2.1 _ (pm_WSin hlk rfl)) (F.2.2.2.2.1 _ (pm_WSin wo_minS rfl)) (F.2.2.2.2.1 _ (pm_WSin wo_mathI rfl)) (F.2.2.2.2.1 _ (pm_WSin wo_minC rfl)) r1 (by omega) hcs.1 hcs.2 hd (kk H locs arr hL hW hS)
theorem sj_abs (F : pm_F p s m args meth c y rm) (hcs : cells ≤ rm.cells ∧ slots ≤ rm.slots) {x : Nat} {a : Int32} {q : Nat × Nat} (hl : pm_lk (pm_yO y) x pm_mlT = some (8, q)) (hct : pm_ct st ≤ 8) (hrb : pm_rb y 21 = true) (hd : decode (pm_yB y) pc = .ok (.invokestatic x, 3)) (kk : (pm_V p l e rm s m args below meth c Q D tc base rn rf ad N cells slots y (pc + 3) (ls) (.int (if 0 ≤ a then a else 0 - a) :: st) (M))) : (pm_V p l e rm s m args below meth c Q D tc base rn rf ad N cells slots y (pc) (ls) (.int a :: st) (M)) := by
  intro H locs arr hL hW hS
  have hlk : Jvm.Cond.methodLink (pm_R (pm_yO y)) x Lib.Math.abs.name ∈ lw_tbl := pm_mlT_ok _ (pm_lk_mem hl)
  obtain ⟨r1, r2⟩ := pm_rb_ok F hrb
  have hs : ((st.map (pm_cV ad)).map fun v => v.category).sum ≤ 8 := by rw [pm_ct_map]; exact hct
  exact va_mabs F.1 F.2.1 (F.2.2.1.trans hL.2.1.symm) F.2.2.2.1 (F.2.2.2.2.1 _ (pm_WSin hlk rfl)) (F.2.2.2.2.1 _ (pm_WSin wo_absS rfl)) (F.2.2.2.2.1 _ (pm_WSin wo_mathI rfl)) (F.2.2.2.2.1 _ (pm_WSin wo_absC rfl)) r1 (by omega) hcs.1 hcs.2 hd (kk H locs arr hL hW hS)
theorem sj_obj (F : pm_F p s m args meth c y rm) {x b : Nat} {q : Nat × Nat} (hl : pm_lk (pm_yO y) x pm_mlT = some (5, q)) (hct : pm_ct st ≤ 8) (hrb : pm_rb y 20 = true) (hd : decode (pm_yB y) pc = .ok (.invokespecial x, 3)) (kk : (pm_V p l e rm s m args below meth c Q D tc base rn rf ad N cells slots y (pc + 3) (ls) (st) (M))) : (pm_V p l e rm s m args below meth c Q D tc base rn rf ad N cells slots y (pc) (ls) (.ref b :: st) (M)) := by
  intro H locs arr hL hW hS
  have hlk : Jvm.Cond.methodLink (pm_R (pm_yO y)) x objectInit ∈ lw_tbl := pm_mlT_ok _ (pm_lk_mem hl)
  obtain ⟨r1, r2⟩ := pm_rb_ok F hrb
  have hs : ((st.map (pm_cV ad)).map fun v => v.category).sum ≤ 8 := by rw [pm_ct_map]; exact hct
  refine W.objInit F.1 F.2.1 F.2.2.2.1 (F.2.2.2.2.1 _ (pm_WSin hlk rfl)) (F.2.2.2.2.1 _ (pm_WSin wo_objI rfl)) (F.2.2.2.2.1 _ (pm_WSin wo_objC rfl)) rfl (by show arr.size = _; rw [hL.2.1]; exact F.2.2.1.symm) rfl hd r1 (by show 2 * 0 + _ + 12 ≤ _; omega) ?_
  exact W.eq (g2 := F0 m (pc + 3) arr (st.map (pm_cV ad))) rfl (kk H locs arr hL hW hS)
end SK
