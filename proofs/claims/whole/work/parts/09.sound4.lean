/-! THE PURE MACHINE IS SOUND: every step; every run; the contracts -/
section SM
variable {p : Program} {l : Launch} {e : Env} {rm : Room} {s : State} {m : MethodId} {args : Array Value} {below : List Frame} {meth : Method} {c : Code} {Q : State → Prop} {D : va_G} {tc : Nat → ClassId} {base : Nat} {ra rn : Nat → Nat} {rf : Nat → Nat → Int32} {ad : Nat → Nat} {N cells slots y pc : Nat} {ls st : List Value} {M : pm_M}
def pm_H (p : Program) (l : Launch) (e : Env) (rm : Room) (s : State) (m : MethodId) (args : Array Value) (below : List Frame) (meth : Method) (c : Code) (Q : State → Prop) (D : va_G) (tc : Nat → ClassId) (base : Nat) (ra rn : Nat → Nat) (rf : Nat → Nat → Int32) (ad : Nat → Nat) (N cells slots y pc : Nat) (ls st : List Value) (M : pm_M) (o : pm_O) : Prop := match o with
  | .inl none => True
  | .inl (some r) => pm_rt y r pc ∧ st = r.toList
  | .inr (.inl j) => (pm_V p l e rm s m args below meth c Q D tc base rn rf ad N cells slots y (j.1) (j.2.1) (j.2.2.1) (j.2.2.2)) → (pm_V p l e rm s m args below meth c Q D tc base rn rf ad N cells slots y (pc) (ls) (st) (M))
  | .inr (.inr (.inl a)) => pm_Va p l e rm s m args below meth c Q D tc base ra rn rf ad N cells slots y pc ls st M a
  | .inr (.inr (.inr q)) => pm_Vc p l e rm s m args below meth c Q D tc base ra rn rf ad N cells slots y pc ls st M q
theorem pm_take_drop {k : Nat} {v : Value} {r : List Value} (h : st.drop k = v :: r) : st = ((st.take k).reverse).reverse ++ v :: r := by
  rw [List.reverse_reverse, ← h, List.take_append_drop]
set_option maxHeartbeats 4000000 in
set_option maxRecDepth 20000 in
theorem pm_all (F : pm_F p s m args meth c y rm) (K : pm_K D tc base ra rn rf s) (hra : ∀ j, j < 3 → ad (1000 + j) = ra j) (hcs : cells ≤ rm.cells ∧ slots ≤ rm.slots) : pm_H p l e rm s m args below meth c Q D tc base ra rn rf ad N cells slots y pc ls st M (pm_step y pc ls st M N) := by
  unfold pm_step
  split
  next q hq =>
    have hd := pm_in_ok hq
    obtain ⟨i, n⟩ := q
    show pm_H p l e rm s m args below meth c Q D tc base ra rn rf ad N cells slots y pc ls st M (pm_op y pc i n ls st M N)
    clear hq
    unfold pm_op
    split
    · exact fun kk => sj_iconst F hd kk
    · exact fun kk => sj_bipush F hd kk
    · exact fun kk => sj_sipush F hd kk
    · exact fun kk => sj_lconst F hd kk
    · split
      next v hl => exact fun kk => sj_ldc F hl hd kk
      next => trivial
    · split
      next v hl => exact fun kk => sj_ldcw F hl hd kk
      next => trivial
    · split
      next v hl => exact fun kk => sj_ldc2 F hl hd kk
      next => trivial
    · unfold pm_li
      split
      next x hx => exact fun kk => sj_iload F hx hd kk
      next => trivial
    · unfold pm_li
      split
      next x hx => exact fun kk => sj_iload_n F hx hd kk
      next => trivial
    · unfold pm_ll
      split
      next x hx hx2 => exact fun kk => sj_lload F hx hx2 hd kk
      next => trivial
    · unfold pm_ll
      split
      next x hx hx2 => exact fun kk => sj_lload_n F hx hx2 hd kk
      next => trivial
    · unfold pm_la
      split
      next x hx => exact fun kk => sj_aload F hx hd kk
      next => trivial
    · unfold pm_la
      split
      next x hx => exact fun kk => sj_aload_n F hx hd kk
      next => trivial
    · unfold pm_si
      split
      next x r =>
        split
        next h => exact fun kk => sj_istore F h hd kk
        next => trivial
      next => trivial
    · unfold pm_si
      split
      next x r =>
        split
        next h => exact fun kk => sj_istore_n F h hd kk
        next => trivial
      next => trivial
    · unfold pm_sl
      split
      next x r =>
        split
        next h => exact fun kk => sj_lstore F h hd kk
        next => trivial
      next => trivial
    · unfold pm_sl
      split
      next x r =>
        split
        next h => exact fun kk => sj_lstore_n F h hd kk
        next => trivial
      next => trivial
    · unfold pm_sa
      split
      next x r =>
        split
        next h => exact fun kk => sj_astore F h hd kk
        next => trivial
      next => trivial
    · unfold pm_sa
      split
      next x r =>
        split
        next h => exact fun kk => sj_astore_n F h hd kk
        next => trivial
      next => trivial
    · split
      next x hx => exact fun kk => sj_iinc F hx hd kk
      next => trivial
    · split
      next x r =>
        unfold pm_br
        split
        next h0 =>
          split
          next hc => exact fun kk => sj_if F h0 hd (fun _ => kk) (fun hf => absurd (hc.symm.trans hf) (by decide))
          next hc => exact fun kk => sj_if F h0 hd (fun ht => absurd ht hc) (fun _ => kk)
        next => trivial
      next => trivial
    · split
      next b a r =>
        unfold pm_br
        split
        next h0 =>
          split
          next hc => exact fun kk => sj_icmp F h0 hd (fun _ => kk) (fun hf => absurd (hc.symm.trans hf) (by decide))
          next hc => exact fun kk => sj_icmp F h0 hd (fun ht => absurd ht hc) (fun _ => kk)
        next => trivial
      next => trivial
    · split
      next h0 => exact fun kk => sj_goto F h0 hd kk
      next => trivial
    · split
      next x r =>
        unfold pm_sw
        split
        next hx =>
          split
          next h0 => exact fun kk => sj_swO F hx h0 hd kk
          next => trivial
        next hx =>
          split
          next off ho =>
            split
            next h0 => exact fun kk => sj_swI F hx ho h0 hd kk
            next => trivial
          next => trivial
      next => trivial
    · split
      next v =>
        split
        next h => exact ⟨Or.inl ⟨_, rfl, h, hd⟩, rfl⟩
        next => trivial
      next => trivial
    · split
      next v =>
        split
        next h => exact ⟨Or.inr (Or.inl ⟨_, rfl, h, hd⟩), rfl⟩
        next => trivial
      next => trivial
    · split
      next =>
        split
        next h => exact ⟨Or.inr (Or.inr ⟨rfl, h, hd⟩), rfl⟩
        next => trivial
      next => trivial
    · split
      next h =>
        obtain ⟨h1, rfl⟩ := h
        exact fun kk => sj_gsL F K hra h1 hd kk
      next =>
        split
        next h =>
          obtain ⟨h1, rfl⟩ := h
          exact fun kk => sj_gsK F K hra h1 hd kk
        next => trivial
    · split
      next ci hl => exact sa_new F K hra hl hd
      next => trivial
    · split
      next k r =>
        split
        next h =>
          split
          next => exact sa_newI F K hra h.1 h.2 hd rfl
          next => exact sa_newZ F K hra h.1 h.2 hd rfl
          next => trivial
        next => trivial
      next => trivial
    · split
      next k r t hl =>
        split
        next h => exact sa_newq F K hra hl h.1 h.2 hd rfl
        next => trivial
      next => trivial
    · split
      next q hl =>
        unfold pm_invV
        split
        next y' k =>
          unfold pm_callV
          split
          next b r hdr =>
            split
            next ci fs hM =>
              split
              next h => exact sc_virt F K hra hl hM h.1 h.2.1 (by rw [List.length_reverse]; exact h.2.2.1) h.2.2.2.1 h.2.2.2.2 hd (pm_take_drop hdr)
              next => trivial
            next => trivial
          next => trivial
        next => trivial
      next => trivial
    · split
      next q hl =>
        unfold pm_invS
        split
        next y' k =>
          unfold pm_callS
          split
          next h => exact sc_stat F K hra hl (by rw [List.length_reverse]; exact h.1) h.2.1 h.2.2 hd (by rw [List.reverse_reverse, List.take_append_drop])
          next => trivial
        next y' k =>
          unfold pm_callS
          split
          next h => exact sc_statN F K hra hl (by rw [List.length_reverse]; exact h.1) h.2.1 h.2.2 hd (by rw [List.reverse_reverse, List.take_append_drop])
          next => trivial
        next =>
          split
          next b a r =>
            split
            next h => exact fun kk => sj_max F hcs hl h.1 h.2 hd kk
            next => trivial
          next => trivial
        next =>
          split
          next b a r =>
            split
            next h => exact fun kk => sj_min F hcs hl h.1 h.2 hd kk
            next => trivial
          next => trivial
        next =>
          split
          next a r =>
            split
            next h => exact fun kk => sj_abs F hcs hl h.1 h.2 hd kk
            next => trivial
          next => trivial
        next =>
          unfold pm_copy
          split
          next n dp a1 sp a0 r =>
            split
            next n0 f n1 g h0 h1 =>
              split
              next h => exact fun kk => sj_copy F K hl h0 h1 h.1 h.2.1 h.2.2.1 h.2.2.2.1 h.2.2.2.2.1 h.2.2.2.2.2.1 h.2.2.2.2.2.2.1 h.2.2.2.2.2.2.2.1 h.2.2.2.2.2.2.2.2 hd kk
              next => trivial
            next => trivial
          next => trivial
        next => trivial
      next => trivial
    · split
      next q hl =>
        unfold pm_invI
        split
        next y' k =>
          unfold pm_callI
          split
          next b r hdr =>
            split
            next h => exact sc_init F K hra hl (by rw [List.length_reverse]; exact h.1) h.2.1 h.2.2.1 h.2.2.2.1 h.2.2.2.2 hd (pm_take_drop hdr)
            next => trivial
          next => trivial
        next y' k =>
          unfold pm_callI
          split
          next b r hdr =>
            split
            next h => exact sc_initN F K hra hl (by rw [List.length_reverse]; exact h.1) h.2.1 h.2.2.1 h.2.2.2.1 h.2.2.2.2 hd (pm_take_drop hdr)
            next => trivial
          next => trivial
        next =>
          split
          next b r =>
            split
            next h => exact fun kk => sj_obj F hl h.1 h.2 hd kk
            next => trivial
          next => trivial
        next => trivial
      next => trivial
    · unfold pm_getf
      split
      next a r =>
        split
        next ci k cj fs hl hM =>
          split
          next h =>
            obtain ⟨rfl, h⟩ := h
            split
            next v hv => exact fun kk => sj_getf F K hl hM h hv hd kk
            next => trivial
          next => trivial
        next => trivial
      next => trivial
    · unfold pm_putf
      split
      next v a r =>
        split
        next ci k cj fs hl hM =>
          split
          next h =>
            obtain ⟨rfl, h⟩ := h
            exact fun kk => sj_putf F K hl hM h.1 h.2.1 h.2.2.1 h.2.2.2.1 h.2.2.2.2 hd kk
          next => trivial
        next => trivial
      next => trivial
    · unfold pm_iald
      split
      next j a r =>
        split
        next n f hM =>
          split
          next h => exact fun kk => sj_iald F K hra hM h.1 h.2 hd kk
          next => trivial
        next => trivial
      next => trivial
    · unfold pm_iast
      split
      next v j a r =>
        split
        next n f hM =>
          split
          next h => exact fun kk => sj_iast F K hM h.1 h.2 hd kk
          next => trivial
        next => trivial
      next => trivial
    · unfold pm_bald
      split
      next j a r =>
        split
        next n f hM =>
          split
          next h => exact fun kk => sj_bald F K hM h.1 h.2 hd kk
          next => trivial
        next => trivial
      next => trivial
    · unfold pm_bast
      split
      next v j a r =>
        split
        next n f hM =>
          split
          next h => exact fun kk => sj_bast F K hM h.1 h.2 hd kk
          next => trivial
        next => trivial
      next => trivial
    · unfold pm_aald
      split
      next j a r =>
        split
        next t n f hM =>
          split
          next h => exact fun kk => sj_aald F K h.2.1 hM h.1 h.2.2 hd kk
          next => trivial
        next => trivial
      next => trivial
    · unfold pm_aast
      split
      next v j a r =>
        split
        next t n f ci fs hM hMv =>
          split
          next h => exact fun kk => sj_aast F K h.2.2.1 hM h.1 hMv h.2.1 h.2.2.2 hd kk
          next => trivial
        next => trivial
      next => trivial
    · unfold pm_alen
      split
      next a r =>
        split
        next t n f hM =>
          split
          next h => exact fun kk => sj_alen F K hra hM h hd kk
          next => trivial
        next => trivial
      next => trivial
    · unfold pm_stk
      split
      next v r =>
        split
        next h => exact fun kk => sj_dup F h hd kk
        next => trivial
      next v w r =>
        split
        next h => exact fun kk => sj_dup2 F h.1 h.2 hd kk
        next => trivial
      next v r =>
        split
        next h => exact fun kk => sj_pop F h hd kk
        next => trivial
      next x r => exact fun kk => sj_ineg F hd kk
      next x r => exact fun kk => sj_i2l F hd kk
      next x r => exact fun kk => sj_l2i F hd kk
      next x r => exact fun kk => sj_i2b F hd kk
      next b a r => exact fun kk => sj_lcmp F hd kk
      next =>
        split
        next v h => exact fun kk => sj_bi F h hd kk
        next => trivial
      next =>
        split
        next v h => exact fun kk => sj_bl F h hd kk
        next => trivial
      next => trivial
    · trivial
  next => trivial
end SM
