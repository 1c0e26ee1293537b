/-! WHAT A RUN COMES TO, as a function; a row an instruction -/
theorem pm_ex_succ : ∀ (n y pc : Nat) (ls st : List Value) (M : pm_M) (N S : Nat) (R : pm_Rs), pm_ex n y pc ls st M N S = some R → pm_ex (n + 1) y pc ls st M N S = some R := by
  intro n
  induction n with
  | zero => intro y pc ls st M N S R h; cases h
  | succ n ih =>
    intro y pc ls st M N S R h
    rw [pm_ex] at h
    rw [pm_ex]
    cases hs : pm_step y pc ls st M N with
    | inl o =>
      rw [hs] at h
      cases o with
      | none => exact h
      | some r => exact h
    | inr o =>
      rw [hs] at h
      cases o with
      | inl j => exact ih _ _ _ _ _ _ _ _ h
      | inr o =>
        cases o with
        | inl a =>
          dsimp only at h ⊢
          cases hc : (pm_okL N ls && pm_okL N a.2.1 && Nat.ble (N + 1) 1000) with
          | false => rw [hc] at h; cases h
          | true => rw [hc] at h; exact ih _ _ _ _ _ _ _ _ h
        | inr q =>
          dsimp only at h ⊢
          cases hcall : pm_ex n q.1 0 (pm_ent q.1 q.2.1) [] M N S with
          | none => rw [hcall] at h; cases h
          | some r =>
            rw [hcall] at h
            rw [ih _ _ _ _ _ _ _ _ hcall]
            dsimp only at h ⊢
            cases hc : (Nat.ble (pm_sp q.2.1).length (pm_yL q.1) && (Nat.beq r.2.2.1 N || (pm_okL N ls && pm_okL N q.2.2.2))) with
            | false => rw [hc] at h; cases h
            | true => rw [hc] at h; exact ih _ _ _ _ _ _ _ _ h
theorem pm_ex_mono {n n' y pc : Nat} {ls st : List Value} {M : pm_M} {N S : Nat} {R : pm_Rs} (hn : n ≤ n') (h : pm_ex n y pc ls st M N S = some R) : pm_ex n' y pc ls st M N S = some R := by
  induction hn with
  | refl => exact h
  | step _ ih => exact pm_ex_succ _ _ _ _ _ _ _ _ _ ih
noncomputable def pX (y pc : Nat) (ls st : List Value) (M : pm_M) (N S : Nat) : Option pm_Rs :=
  @dite _ (∃ (n : Nat) (R : pm_Rs), pm_ex n y pc ls st M N S = some R) (Classical.propDecidable _) (fun h => some (Classical.choose (Classical.choose_spec h))) (fun _ => none)
theorem pX_of {n y pc : Nat} {ls st : List Value} {M : pm_M} {N S : Nat} {R : pm_Rs} (h : pm_ex n y pc ls st M N S = some R) : pX y pc ls st M N S = some R := by
  have h0 : ∃ (n : Nat) (R : pm_Rs), pm_ex n y pc ls st M N S = some R := ⟨n, R, h⟩
  unfold pX
  rw [dif_pos h0]
  have h1 := Classical.choose_spec (Classical.choose_spec h0)
  have h2 := pm_ex_mono (Nat.le_max_left (Classical.choose h0) n) h1
  have h3 := pm_ex_mono (Nat.le_max_right (Classical.choose h0) n) h
  exact h2.symm.trans h3
theorem pX_ex {y pc : Nat} {ls st : List Value} {M : pm_M} {N S : Nat} {R : pm_Rs} (h : pX y pc ls st M N S = some R) : ∃ n, pm_ex n y pc ls st M N S = some R := by
  unfold pX at h
  by_cases h0 : ∃ (n : Nat) (R : pm_Rs), pm_ex n y pc ls st M N S = some R
  · rw [dif_pos h0] at h
    have h1 := Classical.choose_spec (Classical.choose_spec h0)
    exact ⟨_, h1.trans h⟩
  · rw [dif_neg h0] at h
    cases h
theorem pX_ext {a b : Option pm_Rs} (h1 : ∀ R, a = some R → b = some R) (h2 : ∀ R, b = some R → a = some R) : a = b := by
  cases a with
  | some r => exact (h1 r rfl).symm
  | none =>
    cases b with
    | none => rfl
    | some r => exact h2 r rfl
section XR
variable {y pc : Nat} {ls st : List Value} {M : pm_M} {N S : Nat}
theorem pX_go {pc' : Nat} {ls' st' : List Value} {M' : pm_M} (h : pm_step y pc ls st M N = pm_go pc' ls' st' M') : pX y pc ls st M N S = pX y pc' ls' st' M' N S := by
  have key : ∀ n, pm_ex (n + 1) y pc ls st M N S = pm_ex n y pc' ls' st' M' N S := fun n => by rw [pm_ex, h]; rfl
  refine pX_ext (fun R hR => ?_) (fun R hR => ?_)
  · obtain ⟨n, hn⟩ := pX_ex hR
    have h2 := pm_ex_succ _ _ _ _ _ _ _ _ _ hn
    rw [key] at h2
    exact pX_of h2
  · obtain ⟨n, hn⟩ := pX_ex hR
    rw [← key] at hn
    exact pX_of hn
theorem pX_ret {r : Option Value} (h : pm_step y pc ls st M N = .inl (some r)) : pX y pc ls st M N S = some (r, M, N, S) := pX_of (n := 1) (by rw [pm_ex, h])
theorem pX_no (h : pm_step y pc ls st M N = pm_no) : pX y pc ls st M N S = none := by
  refine pX_ext (fun R hR => ?_) (fun R hR => by cases hR)
  obtain ⟨n, hn⟩ := pX_ex hR
  cases n with
  | zero => cases hn
  | succ n => rw [pm_ex, h] at hn; cases hn
theorem pX_mk {pc' k : Nat} {st' : List Value} {x : va_E} (h : pm_step y pc ls st M N = pm_mk pc' st' x k) (hok : (pm_okL N ls && pm_okL N st' && Nat.ble (N + 1) 1000) = true) : pX y pc ls st M N S = pX y pc' ls (.ref N :: st') (va_up M N x) (N + 1) (S + k) := by
  have key : ∀ n, pm_ex (n + 1) y pc ls st M N S = pm_ex n y pc' ls (.ref N :: st') (va_up M N x) (N + 1) (S + k) := fun n => by
    rw [pm_ex, h]
    show (bif pm_okL N ls && pm_okL N st' && Nat.ble (N + 1) 1000 then _ else _) = _
    rw [hok]
    rfl
  refine pX_ext (fun R hR => ?_) (fun R hR => ?_)
  · obtain ⟨n, hn⟩ := pX_ex hR
    have h2 := pm_ex_succ _ _ _ _ _ _ _ _ _ hn
    rw [key] at h2
    exact pX_of h2
  · obtain ⟨n, hn⟩ := pX_ex hR
    rw [← key] at hn
    exact pX_of hn
/-- a call whose method makes no cell -/
theorem pX_ca {y' pc' : Nat} {as st' : List Value} {r : Option Value} {M' : pm_M} (h : pm_step y pc ls st M N = pm_ca y' as pc' st') (hsp : Nat.ble (pm_sp as).length (pm_yL y') = true) (hc : pX y' 0 (pm_ent y' as) [] M N S = some (r, M', N, S)) : pX y pc ls st M N S = pX y pc' ls (r.toList ++ st') M' N S := by
  obtain ⟨n1, h1⟩ := pX_ex hc
  have hb : Nat.beq N N = true := Nat.beq_refl N
  have key : ∀ n, n1 ≤ n → pm_ex (n + 1) y pc ls st M N S = pm_ex n y pc' ls (r.toList ++ st') M' N S := fun n hn => by
    rw [pm_ex, h]
    show (match pm_ex n y' 0 (pm_ent y' as) [] M N S with | none => none | some r => bif Nat.ble (pm_sp as).length (pm_yL y') && (Nat.beq r.2.2.1 N || (pm_okL N ls && pm_okL N st')) then pm_ex n y pc' ls (r.1.toList ++ st') r.2.1 r.2.2.1 r.2.2.2 else none) = _
    rw [pm_ex_mono hn h1]
    show (bif Nat.ble (pm_sp as).length (pm_yL y') && (Nat.beq N N || (pm_okL N ls && pm_okL N st')) then _ else _) = _
    rw [hsp, hb]
    rfl
  refine pX_ext (fun R hR => ?_) (fun R hR => ?_)
  · obtain ⟨n, hn⟩ := pX_ex hR
    have h2 := pm_ex_mono (show n ≤ max n n1 + 1 by omega) hn
    rw [key _ (Nat.le_max_right n n1)] at h2
    exact pX_of h2
  · obtain ⟨n, hn⟩ := pX_ex hR
    have h2 := pm_ex_mono (Nat.le_max_left n n1) hn
    rw [← key _ (Nat.le_max_right n n1)] at h2
    exact pX_of h2
/-- a call whose method makes cells -/
theorem pX_caN {y' pc' N' S' : Nat} {as st' : List Value} {r : Option Value} {M' : pm_M} (h : pm_step y pc ls st M N = pm_ca y' as pc' st') (hsp : Nat.ble (pm_sp as).length (pm_yL y') = true) (hok : (pm_okL N ls && pm_okL N st') = true) (hc : pX y' 0 (pm_ent y' as) [] M N S = some (r, M', N', S')) : pX y pc ls st M N S = pX y pc' ls (r.toList ++ st') M' N' S' := by
  obtain ⟨n1, h1⟩ := pX_ex hc
  have key : ∀ n, n1 ≤ n → pm_ex (n + 1) y pc ls st M N S = pm_ex n y pc' ls (r.toList ++ st') M' N' S' := fun n hn => by
    rw [pm_ex, h]
    show (match pm_ex n y' 0 (pm_ent y' as) [] M N S with | none => none | some r => bif Nat.ble (pm_sp as).length (pm_yL y') && (Nat.beq r.2.2.1 N || (pm_okL N ls && pm_okL N st')) then pm_ex n y pc' ls (r.1.toList ++ st') r.2.1 r.2.2.1 r.2.2.2 else none) = _
    rw [pm_ex_mono hn h1]
    show (bif Nat.ble (pm_sp as).length (pm_yL y') && (Nat.beq N' N || (pm_okL N ls && pm_okL N st')) then _ else _) = _
    rw [hsp, hok, Bool.or_true]
    rfl
  refine pX_ext (fun R hR => ?_) (fun R hR => ?_)
  · obtain ⟨n, hn⟩ := pX_ex hR
    have h2 := pm_ex_mono (show n ≤ max n n1 + 1 by omega) hn
    rw [key _ (Nat.le_max_right n n1)] at h2
    exact pX_of h2
  · obtain ⟨n, hn⟩ := pX_ex hR
    have h2 := pm_ex_mono (Nat.le_max_left n n1) hn
    rw [← key _ (Nat.le_max_right n n1)] at h2
    exact pX_of h2
theorem x_st {i : Instr} {n : Nat} (h : pm_in y pc = some (i, n)) : pm_step y pc ls st M N = pm_op y pc i n ls st M N := by
  unfold pm_step
  rw [h]
theorem o_iconst {z : Int} : pm_op y pc (.iconst z) 1 ls st M N = (pm_go (pc + 1) ls (.int (Int32.ofInt z) :: st) M) := rfl
theorem o_bipush {z : Int} : pm_op y pc (.bipush z) 2 ls st M N = (pm_go (pc + 2) ls (.int (Int8.ofInt z).toInt32 :: st) M) := rfl
theorem o_sipush {z : Int} : pm_op y pc (.sipush z) 3 ls st M N = (pm_go (pc + 3) ls (.int (Int16.ofInt z).toInt32 :: st) M) := rfl
theorem o_lconst {z : Fin 2} : pm_op y pc (.lconst z) 1 ls st M N = (pm_go (pc + 1) ls (.long (Int64.ofNat (z : Nat)) :: st) M) := rfl
theorem o_ldc {x : Nat} : pm_op y pc (.ldc x) 2 ls st M N = (match pm_lk (pm_yO y) x pm_ciT with
    | some v => pm_go (pc + 2) ls (.int v :: st) M
    | none => pm_no) := rfl
theorem o_ldc_w {x : Nat} : pm_op y pc (.ldc_w x) 3 ls st M N = (match pm_lk (pm_yO y) x pm_ciT with
    | some v => pm_go (pc + 3) ls (.int v :: st) M
    | none => pm_no) := rfl
theorem o_ldc2_w {x : Nat} : pm_op y pc (.ldc2_w x) 3 ls st M N = (match pm_lk (pm_yO y) x pm_clT with
    | some v => pm_go (pc + 3) ls (.long v :: st) M
    | none => pm_no) := rfl
theorem o_iload {k : Nat} : pm_op y pc (.iload k) 2 ls st M N = (pm_li (pc + 2) ls[k]? ls st M) := rfl
theorem o_iload_n {k : Fin 4} : pm_op y pc (.iload_n k) 1 ls st M N = (pm_li (pc + 1) ls[(k : Nat)]? ls st M) := rfl
theorem o_lload {k : Nat} : pm_op y pc (.lload k) 2 ls st M N = (pm_ll (pc + 2) ls[k]? ls[k + 1]? ls st M) := rfl
theorem o_lload_n {k : Fin 4} : pm_op y pc (.lload_n k) 1 ls st M N = (pm_ll (pc + 1) ls[(k : Nat)]? ls[(k : Nat) + 1]? ls st M) := rfl
theorem o_aload {k : Nat} : pm_op y pc (.aload k) 2 ls st M N = (pm_la (pc + 2) ls[k]? ls st M) := rfl
theorem o_aload_n {k : Fin 4} : pm_op y pc (.aload_n k) 1 ls st M N = (pm_la (pc + 1) ls[(k : Nat)]? ls st M) := rfl
theorem o_istore {k : Nat} : pm_op y pc (.istore k) 2 ls st M N = (pm_si (pc + 2) k ls st M) := rfl
theorem o_istore_n {k : Fin 4} : pm_op y pc (.istore_n k) 1 ls st M N = (pm_si (pc + 1) (k : Nat) ls st M) := rfl
theorem o_lstore {k : Nat} : pm_op y pc (.lstore k) 2 ls st M N = (pm_sl (pc + 2) k ls st M) := rfl
theorem o_lstore_n {k : Fin 4} : pm_op y pc (.lstore_n k) 1 ls st M N = (pm_sl (pc + 1) (k : Nat) ls st M) := rfl
theorem o_astore {k : Nat} : pm_op y pc (.astore k) 2 ls st M N = (pm_sa (pc + 2) k ls st M) := rfl
theorem o_astore_n {k : Fin 4} : pm_op y pc (.astore_n k) 1 ls st M N = (pm_sa (pc + 1) (k : Nat) ls st M) := rfl
theorem o_iinc {k : Nat} {z : Int} : pm_op y pc (.iinc k z) 3 ls st M N = (match ls[k]? with
    | some (.int x) => pm_go (pc + 3) (ls.set k (.int (x + Int32.ofInt z))) st M
    | _ => pm_no) := rfl
theorem o_ifCond {c : Jvm.ClassFile.Cond} {off : Int} : pm_op y pc (.ifCond c off) 3 ls st M N = (match st with
    | .int x :: r => pm_br ((pc : Int) + off) (pc + 3) (pm_cc c x 0) ls r M
    | _ => pm_no) := rfl
theorem o_if_icmp {c : Jvm.ClassFile.Cond} {off : Int} : pm_op y pc (.if_icmp c off) 3 ls st M N = (match st with
    | .int b :: .int a :: r => pm_br ((pc : Int) + off) (pc + 3) (pm_cc c a b) ls r M
    | _ => pm_no) := rfl
theorem o_goto {off : Int} : pm_op y pc (.goto off) 3 ls st M N = (if 0 ≤ (pc : Int) + off then pm_go ((pc : Int) + off).toNat ls st M else pm_no) := rfl
theorem o_tableswitch {d lo hi : Int} {os : Array Int} {n : Nat} : pm_op y pc (.tableswitch d lo hi os) n ls st M N = (match st with
    | .int x :: r => pm_sw pc d lo hi os x ls r M
    | _ => pm_no) := rfl
theorem o_ireturn  : pm_op y pc (.ireturn) 1 ls st M N = (match st with
    | [.int v] => if pm_rk y v = true then .inl (some (some (.int v))) else pm_no
    | _ => pm_no) := rfl
theorem o_lreturn  : pm_op y pc (.lreturn) 1 ls st M N = (match st with
    | [.long v] => if pm_rL y = true then .inl (some (some (.long v))) else pm_no
    | _ => pm_no) := rfl
theorem o_return_  : pm_op y pc (.return_) 1 ls st M N = (match st with
    | [] => if pm_rV y = true then .inl (some none) else pm_no
    | _ => pm_no) := rfl
theorem o_getstatic {x : Nat} : pm_op y pc (.getstatic x) 3 ls st M N = (if pm_yO y = 1 ∧ x = 25 then pm_go (pc + 3) ls (.ref 1000 :: st) M else if pm_yO y = 5 ∧ x = 341 then pm_go (pc + 3) ls (.ref 1001 :: st) M else pm_no) := rfl
theorem o_new {x : Nat} : pm_op y pc (.new x) 3 ls st M N = (match pm_lk (pm_yO y) x pm_nwT with
    | some ci => pm_mk (pc + 3) st (.inr (ci, (List.range (pm_nf ci)).map fun k => pm_d0 (pm_ty ci k))) (pm_nf ci)
    | none => pm_no) := rfl
theorem o_newarray {t : ArrayType} : pm_op y pc (.newarray t) 2 ls st M N = (match st with
    | .int k :: r => if ¬ k < 0 ∧ k.toNatClampNeg < 100000 then (match t with
      | .int => pm_mk (pc + 2) r (.inl (0, k.toNatClampNeg, .inl (fun _ => 0))) k.toNatClampNeg
      | .boolean => pm_mk (pc + 2) r (.inl (1, k.toNatClampNeg, .inl (fun _ => 0))) k.toNatClampNeg
      | _ => pm_no) else pm_no
    | _ => pm_no) := rfl
theorem o_anewarray {x : Nat} : pm_op y pc (.anewarray x) 3 ls st M N = (match st, pm_lk (pm_yO y) x pm_naT with
    | .int k :: r, some t => if ¬ k < 0 ∧ k.toNatClampNeg < 100000 then pm_mk (pc + 3) r (.inl (t, k.toNatClampNeg, .inr (.inr (.inr (.inr (fun _ => none)))))) k.toNatClampNeg else pm_no
    | _, _ => pm_no) := rfl
theorem o_invokevirtual {x : Nat} : pm_op y pc (.invokevirtual x) 3 ls st M N = (match pm_lk (pm_yO y) x pm_mlT with
    | some q => pm_invV y pc q st M N
    | none => pm_no) := rfl
theorem o_invokestatic {x : Nat} : pm_op y pc (.invokestatic x) 3 ls st M N = (match pm_lk (pm_yO y) x pm_mlT with
    | some q => pm_invS y pc q ls st M N
    | none => pm_no) := rfl
theorem o_invokespecial {x : Nat} : pm_op y pc (.invokespecial x) 3 ls st M N = (match pm_lk (pm_yO y) x pm_mlT with
    | some q => pm_invI y pc q ls st M
    | none => pm_no) := rfl
theorem o_getfield {x : Nat} : pm_op y pc (.getfield x) 3 ls st M N = (pm_getf y pc x ls st M N) := rfl
theorem o_putfield {x : Nat} : pm_op y pc (.putfield x) 3 ls st M N = (pm_putf y pc x ls st M N) := rfl
theorem o_iaload  : pm_op y pc (.iaload) 1 ls st M N = (pm_iald pc ls st M N) := rfl
theorem o_iastore  : pm_op y pc (.iastore) 1 ls st M N = (pm_iast pc ls st M N) := rfl
theorem o_baload  : pm_op y pc (.baload) 1 ls st M N = (pm_bald pc ls st M N) := rfl
theorem o_bastore  : pm_op y pc (.bastore) 1 ls st M N = (pm_bast pc ls st M N) := rfl
theorem o_aaload  : pm_op y pc (.aaload) 1 ls st M N = (pm_aald pc ls st M N) := rfl
theorem o_aastore  : pm_op y pc (.aastore) 1 ls st M N = (pm_aast pc ls st M N) := rfl
theorem o_arraylength  : pm_op y pc (.arraylength) 1 ls st M N = (pm_alen pc ls st M N) := rfl
theorem o_dup : pm_op y pc .dup 1 ls st M N = pm_stk pc .dup ls st M := rfl
theorem o_dup2 : pm_op y pc .dup2 1 ls st M N = pm_stk pc .dup2 ls st M := rfl
theorem o_pop : pm_op y pc .pop 1 ls st M N = pm_stk pc .pop ls st M := rfl
theorem o_idiv : pm_op y pc .idiv 1 ls st M N = pm_stk pc .idiv ls st M := rfl
theorem o_irem : pm_op y pc .irem 1 ls st M N = pm_stk pc .irem ls st M := rfl
theorem o_ldiv : pm_op y pc .ldiv 1 ls st M N = pm_stk pc .ldiv ls st M := rfl
theorem o_lrem : pm_op y pc .lrem 1 ls st M N = pm_stk pc .lrem ls st M := rfl
theorem x_iconst {z : Int} {v : Int32} (h : pm_in y pc = some (.iconst z, 1)) (hv : Int32.ofInt z = v) : pX y pc ls st M N S = pX y (pc + 1) ls (.int v :: st) M N S := by subst hv; exact pX_go (x_st h)
theorem x_bipush {z : Int} {v : Int32} (h : pm_in y pc = some (.bipush z, 2)) (hv : (Int8.ofInt z).toInt32 = v) : pX y pc ls st M N S = pX y (pc + 2) ls (.int v :: st) M N S := by subst hv; exact pX_go (x_st h)
theorem x_sipush {z : Int} {v : Int32} (h : pm_in y pc = some (.sipush z, 3)) (hv : (Int16.ofInt z).toInt32 = v) : pX y pc ls st M N S = pX y (pc + 3) ls (.int v :: st) M N S := by subst hv; exact pX_go (x_st h)
theorem x_lconst {z : Fin 2} {v : Int64} (h : pm_in y pc = some (.lconst z, 1)) (hv : Int64.ofNat (z : Nat) = v) : pX y pc ls st M N S = pX y (pc + 1) ls (.long v :: st) M N S := by subst hv; exact pX_go (x_st h)
theorem x_ldc {x : Nat} {v : Int32} (h : pm_in y pc = some (.ldc x, 2)) (hv : pm_lk (pm_yO y) x pm_ciT = some v) : pX y pc ls st M N S = pX y (pc + 2) ls (.int v :: st) M N S := pX_go ((x_st h).trans (by rw [o_ldc]; (try dsimp only); rw [hv]))
theorem x_ldcw {x : Nat} {v : Int32} (h : pm_in y pc = some (.ldc_w x, 3)) (hv : pm_lk (pm_yO y) x pm_ciT = some v) : pX y pc ls st M N S = pX y (pc + 3) ls (.int v :: st) M N S := pX_go ((x_st h).trans (by rw [o_ldc_w]; (try dsimp only); rw [hv]))
theorem x_ldc2 {x : Nat} {v : Int64} (h : pm_in y pc = some (.ldc2_w x, 3)) (hv : pm_lk (pm_yO y) x pm_clT = some v) : pX y pc ls st M N S = pX y (pc + 3) ls (.long v :: st) M N S := pX_go ((x_st h).trans (by rw [o_ldc2_w]; (try dsimp only); rw [hv]))
theorem x_iload {k : Nat} {x : Int32} (h : pm_in y pc = some (.iload k, 2)) (hl : ls[k]? = some (.int x)) : pX y pc ls st M N S = pX y (pc + 2) ls (.int x :: st) M N S := pX_go ((x_st h).trans (by rw [o_iload]; (try dsimp only); rw [hl]; rfl))
theorem x_iload_n {k : Fin 4} {x : Int32} (h : pm_in y pc = some (.iload_n k, 1)) (hl : ls[(k : Nat)]? = some (.int x)) : pX y pc ls st M N S = pX y (pc + 1) ls (.int x :: st) M N S := pX_go ((x_st h).trans (by rw [o_iload_n]; (try dsimp only); rw [hl]; rfl))
theorem x_lload {k : Nat} {x : Int64} (h : pm_in y pc = some (.lload k, 2)) (hl : ls[k]? = some (.long x)) (hl2 : ls[k + 1]? = some .null) : pX y pc ls st M N S = pX y (pc + 2) ls (.long x :: st) M N S := pX_go ((x_st h).trans (by rw [o_lload]; (try dsimp only); rw [hl, hl2]; rfl))
theorem x_lload_n {k : Fin 4} {x : Int64} (h : pm_in y pc = some (.lload_n k, 1)) (hl : ls[(k : Nat)]? = some (.long x)) (hl2 : ls[(k : Nat) + 1]? = some .null) : pX y pc ls st M N S = pX y (pc + 1) ls (.long x :: st) M N S := pX_go ((x_st h).trans (by rw [o_lload_n]; (try dsimp only); rw [hl, hl2]; rfl))
theorem x_aload {k x : Nat} (h : pm_in y pc = some (.aload k, 2)) (hl : ls[k]? = some (.ref x)) : pX y pc ls st M N S = pX y (pc + 2) ls (.ref x :: st) M N S := pX_go ((x_st h).trans (by rw [o_aload]; (try dsimp only); rw [hl]; rfl))
theorem x_aload_n {k : Fin 4} {x : Nat} (h : pm_in y pc = some (.aload_n k, 1)) (hl : ls[(k : Nat)]? = some (.ref x)) : pX y pc ls st M N S = pX y (pc + 1) ls (.ref x :: st) M N S := pX_go ((x_st h).trans (by rw [o_aload_n]; (try dsimp only); rw [hl]; rfl))
theorem x_istore {k : Nat} {x : Int32} {ls' : List Value} (h : pm_in y pc = some (.istore k, 2)) (hk : k < ls.length) (hl : ls.set k (.int x) = ls') : pX y pc ls (.int x :: st) M N S = pX y (pc + 2) ls' st M N S := by subst hl; exact pX_go ((x_st h).trans (by rw [o_istore]; unfold pm_si; (try dsimp only); rw [if_pos hk]))
theorem x_istore_n {k : Fin 4} {x : Int32} {ls' : List Value} (h : pm_in y pc = some (.istore_n k, 1)) (hk : (k : Nat) < ls.length) (hl : ls.set k (.int x) = ls') : pX y pc ls (.int x :: st) M N S = pX y (pc + 1) ls' st M N S := by subst hl; exact pX_go ((x_st h).trans (by rw [o_istore_n]; unfold pm_si; (try dsimp only); rw [if_pos hk]))
theorem x_astore {k x : Nat} {ls' : List Value} (h : pm_in y pc = some (.astore k, 2)) (hk : k < ls.length) (hl : ls.set k (.ref x) = ls') : pX y pc ls (.ref x :: st) M N S = pX y (pc + 2) ls' st M N S := by subst hl; exact pX_go ((x_st h).trans (by rw [o_astore]; unfold pm_sa; (try dsimp only); rw [if_pos hk]))
theorem x_astore_n {k : Fin 4} {x : Nat} {ls' : List Value} (h : pm_in y pc = some (.astore_n k, 1)) (hk : (k : Nat) < ls.length) (hl : ls.set k (.ref x) = ls') : pX y pc ls (.ref x :: st) M N S = pX y (pc + 1) ls' st M N S := by subst hl; exact pX_go ((x_st h).trans (by rw [o_astore_n]; unfold pm_sa; (try dsimp only); rw [if_pos hk]))
theorem x_lstore {k : Nat} {x : Int64} {ls' : List Value} (h : pm_in y pc = some (.lstore k, 2)) (hk : k + 1 < ls.length) (hl : (ls.set k (.long x)).set (k + 1) .null = ls') : pX y pc ls (.long x :: st) M N S = pX y (pc + 2) ls' st M N S := by subst hl; exact pX_go ((x_st h).trans (by rw [o_lstore]; unfold pm_sl; (try dsimp only); rw [if_pos hk]))
theorem x_lstore_n {k : Fin 4} {x : Int64} {ls' : List Value} (h : pm_in y pc = some (.lstore_n k, 1)) (hk : (k : Nat) + 1 < ls.length) (hl : (ls.set k (.long x)).set ((k : Nat) + 1) .null = ls') : pX y pc ls (.long x :: st) M N S = pX y (pc + 1) ls' st M N S := by subst hl; exact pX_go ((x_st h).trans (by rw [o_lstore_n]; unfold pm_sl; (try dsimp only); rw [if_pos hk]))
theorem x_iinc {k : Nat} {z : Int} {x w : Int32} {ls' : List Value} (h : pm_in y pc = some (.iinc k z, 3)) (hl : ls[k]? = some (.int x)) (hw : Int32.ofInt z = w) (hs : ls.set k (.int (x + w)) = ls') : pX y pc ls st M N S = pX y (pc + 3) ls' st M N S := by subst hw; subst hs; exact pX_go ((x_st h).trans (by rw [o_iinc]; (try dsimp only); rw [hl]))
theorem x_dup {v : Value} (h : pm_in y pc = some (.dup, 1)) (hc : v.category = 1) : pX y pc ls (v :: st) M N S = pX y (pc + 1) ls (v :: v :: st) M N S := pX_go ((x_st h).trans (by rw [o_dup]; unfold pm_stk; (try dsimp only); rw [if_pos hc]))
theorem x_dup2 {v w : Value} (h : pm_in y pc = some (.dup2, 1)) (hc : v.category = 1 ∧ w.category = 1) : pX y pc ls (v :: w :: st) M N S = pX y (pc + 1) ls (v :: w :: v :: w :: st) M N S := pX_go ((x_st h).trans (by rw [o_dup2]; unfold pm_stk; (try dsimp only); rw [if_pos hc]))
theorem x_pop {v : Value} (h : pm_in y pc = some (.pop, 1)) (hc : v.category = 1) : pX y pc ls (v :: st) M N S = pX y (pc + 1) ls st M N S := pX_go ((x_st h).trans (by rw [o_pop]; unfold pm_stk; (try dsimp only); rw [if_pos hc]))
theorem x_ineg {x : Int32} (h : pm_in y pc = some (.ineg, 1)) : pX y pc ls (.int x :: st) M N S = pX y (pc + 1) ls (.int (-x) :: st) M N S := pX_go (x_st h)
theorem x_i2l {x : Int32} (h : pm_in y pc = some (.i2l, 1)) : pX y pc ls (.int x :: st) M N S = pX y (pc + 1) ls (.long x.toInt64 :: st) M N S := pX_go (x_st h)
theorem x_l2i {x : Int64} (h : pm_in y pc = some (.l2i, 1)) : pX y pc ls (.long x :: st) M N S = pX y (pc + 1) ls (.int x.toInt32 :: st) M N S := pX_go (x_st h)
theorem x_i2b {x : Int32} (h : pm_in y pc = some (.i2b, 1)) : pX y pc ls (.int x :: st) M N S = pX y (pc + 1) ls (.int x.toInt8.toInt32 :: st) M N S := pX_go (x_st h)
theorem x_lcmp {a b : Int64} (h : pm_in y pc = some (.lcmp, 1)) : pX y pc ls (.long b :: .long a :: st) M N S = pX y (pc + 1) ls (.int (lg_cmp a b) :: st) M N S := pX_go (x_st h)
theorem x_iadd {a b : Int32} (h : pm_in y pc = some (.iadd, 1)) : pX y pc ls (.int b :: .int a :: st) M N S = pX y (pc + 1) ls (.int (a + b) :: st) M N S := pX_go (x_st h)
theorem x_isub {a b : Int32} (h : pm_in y pc = some (.isub, 1)) : pX y pc ls (.int b :: .int a :: st) M N S = pX y (pc + 1) ls (.int (a - b) :: st) M N S := pX_go (x_st h)
theorem x_imul {a b : Int32} (h : pm_in y pc = some (.imul, 1)) : pX y pc ls (.int b :: .int a :: st) M N S = pX y (pc + 1) ls (.int (a * b) :: st) M N S := pX_go (x_st h)
theorem x_iand {a b : Int32} (h : pm_in y pc = some (.iand, 1)) : pX y pc ls (.int b :: .int a :: st) M N S = pX y (pc + 1) ls (.int (a &&& b) :: st) M N S := pX_go (x_st h)
theorem x_ior {a b : Int32} (h : pm_in y pc = some (.ior, 1)) : pX y pc ls (.int b :: .int a :: st) M N S = pX y (pc + 1) ls (.int (a ||| b) :: st) M N S := pX_go (x_st h)
theorem x_ixor {a b : Int32} (h : pm_in y pc = some (.ixor, 1)) : pX y pc ls (.int b :: .int a :: st) M N S = pX y (pc + 1) ls (.int (a ^^^ b) :: st) M N S := pX_go (x_st h)
theorem x_ishl {a b : Int32} (h : pm_in y pc = some (.ishl, 1)) : pX y pc ls (.int b :: .int a :: st) M N S = pX y (pc + 1) ls (.int (a <<< (b &&& 31)) :: st) M N S := pX_go (x_st h)
theorem x_ishr {a b : Int32} (h : pm_in y pc = some (.ishr, 1)) : pX y pc ls (.int b :: .int a :: st) M N S = pX y (pc + 1) ls (.int (a >>> (b &&& 31)) :: st) M N S := pX_go (x_st h)
theorem x_iushr {a b : Int32} (h : pm_in y pc = some (.iushr, 1)) : pX y pc ls (.int b :: .int a :: st) M N S = pX y (pc + 1) ls (.int (a.toUInt32 >>> (b.toUInt32 &&& Int32.toUInt32 31)).toInt32 :: st) M N S := pX_go (x_st h)
theorem x_idiv {a b : Int32} (h : pm_in y pc = some (.idiv, 1)) : pX y pc ls (.int b :: .int a :: st) M N S = if b = 0 then none else pX y (pc + 1) ls (.int (a / b) :: st) M N S := by
  by_cases hb : b = 0
  · rw [if_pos hb]; exact pX_no ((x_st h).trans (by rw [o_idiv]; unfold pm_stk pm_bi; (try dsimp only); rw [if_pos hb]))
  · rw [if_neg hb]; exact pX_go ((x_st h).trans (by rw [o_idiv]; unfold pm_stk pm_bi; (try dsimp only); rw [if_neg hb]))
theorem x_irem {a b : Int32} (h : pm_in y pc = some (.irem, 1)) : pX y pc ls (.int b :: .int a :: st) M N S = if b = 0 then none else pX y (pc + 1) ls (.int (a - a / b * b) :: st) M N S := by
  by_cases hb : b = 0
  · rw [if_pos hb]; exact pX_no ((x_st h).trans (by rw [o_irem]; unfold pm_stk pm_bi; (try dsimp only); rw [if_pos hb]))
  · rw [if_neg hb]; exact pX_go ((x_st h).trans (by rw [o_irem]; unfold pm_stk pm_bi; (try dsimp only); rw [if_neg hb]))
theorem x_ladd {a b : Int64} (h : pm_in y pc = some (.ladd, 1)) : pX y pc ls (.long b :: .long a :: st) M N S = pX y (pc + 1) ls (.long (a + b) :: st) M N S := pX_go (x_st h)
theorem x_lmul {a b : Int64} (h : pm_in y pc = some (.lmul, 1)) : pX y pc ls (.long b :: .long a :: st) M N S = pX y (pc + 1) ls (.long (a * b) :: st) M N S := pX_go (x_st h)
theorem x_ldiv {a b : Int64} (h : pm_in y pc = some (.ldiv, 1)) : pX y pc ls (.long b :: .long a :: st) M N S = if b = 0 then none else pX y (pc + 1) ls (.long (a / b) :: st) M N S := by
  by_cases hb : b = 0
  · rw [if_pos hb]; exact pX_no ((x_st h).trans (by rw [o_ldiv]; unfold pm_stk pm_bl; (try dsimp only); rw [if_pos hb]))
  · rw [if_neg hb]; exact pX_go ((x_st h).trans (by rw [o_ldiv]; unfold pm_stk pm_bl; (try dsimp only); rw [if_neg hb]))
theorem x_lrem {a b : Int64} (h : pm_in y pc = some (.lrem, 1)) : pX y pc ls (.long b :: .long a :: st) M N S = if b = 0 then none else pX y (pc + 1) ls (.long (a - a / b * b) :: st) M N S := by
  by_cases hb : b = 0
  · rw [if_pos hb]; exact pX_no ((x_st h).trans (by rw [o_lrem]; unfold pm_stk pm_bl; (try dsimp only); rw [if_pos hb]))
  · rw [if_neg hb]; exact pX_go ((x_st h).trans (by rw [o_lrem]; unfold pm_stk pm_bl; (try dsimp only); rw [if_neg hb]))
theorem x_tgt {pc t : Nat} {off : Int} (ht : (pc : Int) + off = (t : Int)) : 0 ≤ (pc : Int) + off ∧ ((pc : Int) + off).toNat = t := by rw [ht]; exact ⟨Int.natCast_nonneg t, Int.toNat_natCast t⟩
theorem x_goto {t : Nat} {off : Int} (h : pm_in y pc = some (.goto off, 3)) (ht : (pc : Int) + off = (t : Int)) : pX y pc ls st M N S = pX y t ls st M N S := by
  obtain ⟨h1, h2⟩ := x_tgt ht
  refine pX_go ((x_st h).trans ?_)
  rw [o_goto]; (try dsimp only); rw [if_pos h1, h2]
theorem x_br {t : Nat} {off : Int} {b : Bool} {st' : List Value} (hs : pm_step y pc ls st M N = pm_br ((pc : Int) + off) (pc + 3) b ls st' M) (ht : (pc : Int) + off = (t : Int)) : pX y pc ls st M N S = if b = true then pX y t ls st' M N S else pX y (pc + 3) ls st' M N S := by
  obtain ⟨h1, h2⟩ := x_tgt ht
  unfold pm_br at hs
  rw [if_pos h1, h2] at hs
  by_cases hb : b = true
  · rw [if_pos hb] at hs ⊢; exact pX_go hs
  · rw [if_neg hb] at hs ⊢; exact pX_go hs
theorem x_iceq {t : Nat} {off : Int} {a b : Int32} (h : pm_in y pc = some (.if_icmp .eq off, 3)) (ht : (pc : Int) + off = (t : Int)) : pX y pc ls (.int b :: .int a :: st) M N S = if a = b then pX y t ls st M N S else pX y (pc + 3) ls st M N S := by
  rw [x_br (x_st h) ht]
  by_cases hc : a = b
  · rw [if_pos (show pm_cc .eq a b = true from decide_eq_true hc), if_pos hc]
  · rw [if_neg (show ¬ pm_cc .eq a b = true from fun h => hc (of_decide_eq_true h)), if_neg hc]
theorem x_icne {t : Nat} {off : Int} {a b : Int32} (h : pm_in y pc = some (.if_icmp .ne off, 3)) (ht : (pc : Int) + off = (t : Int)) : pX y pc ls (.int b :: .int a :: st) M N S = if a = b then pX y (pc + 3) ls st M N S else pX y t ls st M N S := by
  rw [x_br (x_st h) ht]
  by_cases hc : a = b
  · rw [if_neg (show ¬ pm_cc .ne a b = true from by simp [pm_cc, hc]), if_pos hc]
  · rw [if_pos (show pm_cc .ne a b = true from by simp [pm_cc, hc]), if_neg hc]
theorem x_iclt {t : Nat} {off : Int} {a b : Int32} (h : pm_in y pc = some (.if_icmp .lt off, 3)) (ht : (pc : Int) + off = (t : Int)) : pX y pc ls (.int b :: .int a :: st) M N S = if a < b then pX y t ls st M N S else pX y (pc + 3) ls st M N S := by
  rw [x_br (x_st h) ht]
  by_cases hc : a < b
  · rw [if_pos (show pm_cc .lt a b = true from decide_eq_true hc), if_pos hc]
  · rw [if_neg (show ¬ pm_cc .lt a b = true from fun h => hc (of_decide_eq_true h)), if_neg hc]
theorem x_icge {t : Nat} {off : Int} {a b : Int32} (h : pm_in y pc = some (.if_icmp .ge off, 3)) (ht : (pc : Int) + off = (t : Int)) : pX y pc ls (.int b :: .int a :: st) M N S = if a < b then pX y (pc + 3) ls st M N S else pX y t ls st M N S := by
  rw [x_br (x_st h) ht]
  by_cases hc : a < b
  · rw [if_neg (show ¬ pm_cc .ge a b = true from fun h => Int32.not_le.mpr hc (of_decide_eq_true h)), if_pos hc]
  · rw [if_pos (show pm_cc .ge a b = true from decide_eq_true (Int32.not_lt.mp hc)), if_neg hc]
theorem x_icgt {t : Nat} {off : Int} {a b : Int32} (h : pm_in y pc = some (.if_icmp .gt off, 3)) (ht : (pc : Int) + off = (t : Int)) : pX y pc ls (.int b :: .int a :: st) M N S = if b < a then pX y t ls st M N S else pX y (pc + 3) ls st M N S := by
  rw [x_br (x_st h) ht]
  by_cases hc : b < a
  · rw [if_pos (show pm_cc .gt a b = true from decide_eq_true hc), if_pos hc]
  · rw [if_neg (show ¬ pm_cc .gt a b = true from fun h => hc (of_decide_eq_true h)), if_neg hc]
theorem x_icle {t : Nat} {off : Int} {a b : Int32} (h : pm_in y pc = some (.if_icmp .le off, 3)) (ht : (pc : Int) + off = (t : Int)) : pX y pc ls (.int b :: .int a :: st) M N S = if b < a then pX y (pc + 3) ls st M N S else pX y t ls st M N S := by
  rw [x_br (x_st h) ht]
  by_cases hc : b < a
  · rw [if_neg (show ¬ pm_cc .le a b = true from fun h => Int32.not_le.mpr hc (of_decide_eq_true h)), if_pos hc]
  · rw [if_pos (show pm_cc .le a b = true from decide_eq_true (Int32.not_lt.mp hc)), if_neg hc]
theorem x_ifeq {t : Nat} {off : Int} {a : Int32} (h : pm_in y pc = some (.ifCond .eq off, 3)) (ht : (pc : Int) + off = (t : Int)) : pX y pc ls (.int a :: st) M N S = if a = 0 then pX y t ls st M N S else pX y (pc + 3) ls st M N S := by
  rw [x_br (x_st h) ht]
  by_cases hc : a = 0
  · rw [if_pos (show pm_cc .eq a 0 = true from decide_eq_true hc), if_pos hc]
  · rw [if_neg (show ¬ pm_cc .eq a 0 = true from fun h => hc (of_decide_eq_true h)), if_neg hc]
theorem x_ifne {t : Nat} {off : Int} {a : Int32} (h : pm_in y pc = some (.ifCond .ne off, 3)) (ht : (pc : Int) + off = (t : Int)) : pX y pc ls (.int a :: st) M N S = if a = 0 then pX y (pc + 3) ls st M N S else pX y t ls st M N S := by
  rw [x_br (x_st h) ht]
  by_cases hc : a = 0
  · rw [if_neg (show ¬ pm_cc .ne a 0 = true from by simp [pm_cc, hc]), if_pos hc]
  · rw [if_pos (show pm_cc .ne a 0 = true from by simp [pm_cc, hc]), if_neg hc]
theorem x_iflt {t : Nat} {off : Int} {a : Int32} (h : pm_in y pc = some (.ifCond .lt off, 3)) (ht : (pc : Int) + off = (t : Int)) : pX y pc ls (.int a :: st) M N S = if a < 0 then pX y t ls st M N S else pX y (pc + 3) ls st M N S := by
  rw [x_br (x_st h) ht]
  by_cases hc : a < 0
  · rw [if_pos (show pm_cc .lt a 0 = true from decide_eq_true hc), if_pos hc]
  · rw [if_neg (show ¬ pm_cc .lt a 0 = true from fun h => hc (of_decide_eq_true h)), if_neg hc]
theorem x_ifge {t : Nat} {off : Int} {a : Int32} (h : pm_in y pc = some (.ifCond .ge off, 3)) (ht : (pc : Int) + off = (t : Int)) : pX y pc ls (.int a :: st) M N S = if a < 0 then pX y (pc + 3) ls st M N S else pX y t ls st M N S := by
  rw [x_br (x_st h) ht]
  by_cases hc : a < 0
  · rw [if_neg (show ¬ pm_cc .ge a 0 = true from fun h => Int32.not_le.mpr hc (of_decide_eq_true h)), if_pos hc]
  · rw [if_pos (show pm_cc .ge a 0 = true from decide_eq_true (Int32.not_lt.mp hc)), if_neg hc]
theorem x_ifgt {t : Nat} {off : Int} {a : Int32} (h : pm_in y pc = some (.ifCond .gt off, 3)) (ht : (pc : Int) + off = (t : Int)) : pX y pc ls (.int a :: st) M N S = if 0 < a then pX y t ls st M N S else pX y (pc + 3) ls st M N S := by
  rw [x_br (x_st h) ht]
  by_cases hc : 0 < a
  · rw [if_pos (show pm_cc .gt a 0 = true from decide_eq_true hc), if_pos hc]
  · rw [if_neg (show ¬ pm_cc .gt a 0 = true from fun h => hc (of_decide_eq_true h)), if_neg hc]
theorem x_ifle {t : Nat} {off : Int} {a : Int32} (h : pm_in y pc = some (.ifCond .le off, 3)) (ht : (pc : Int) + off = (t : Int)) : pX y pc ls (.int a :: st) M N S = if 0 < a then pX y (pc + 3) ls st M N S else pX y t ls st M N S := by
  rw [x_br (x_st h) ht]
  by_cases hc : 0 < a
  · rw [if_neg (show ¬ pm_cc .le a 0 = true from fun h => Int32.not_le.mpr hc (of_decide_eq_true h)), if_pos hc]
  · rw [if_pos (show pm_cc .le a 0 = true from decide_eq_true (Int32.not_lt.mp hc)), if_neg hc]
theorem x_swI {d lo hi off : Int} {os : Array Int} {n t : Nat} {a : Int32} (h : pm_in y pc = some (.tableswitch d lo hi os, n)) (hx : ¬ (a.toInt < lo ∨ hi < a.toInt)) (ho : os[(a.toInt - lo).toNat]? = some off) (ht : (pc : Int) + off = (t : Int)) : pX y pc ls (.int a :: st) M N S = pX y t ls st M N S := by
  obtain ⟨h1, h2⟩ := x_tgt ht
  refine pX_go ((x_st h).trans ?_)
  rw [o_tableswitch]; unfold pm_sw; (try dsimp only); rw [if_neg hx, ho]; (try dsimp only); rw [if_pos h1, h2]
theorem x_swO {d lo hi : Int} {os : Array Int} {n t : Nat} {a : Int32} (h : pm_in y pc = some (.tableswitch d lo hi os, n)) (hx : a.toInt < lo ∨ hi < a.toInt) (ht : (pc : Int) + d = (t : Int)) : pX y pc ls (.int a :: st) M N S = pX y t ls st M N S := by
  obtain ⟨h1, h2⟩ := x_tgt ht
  refine pX_go ((x_st h).trans ?_)
  rw [o_tableswitch]; unfold pm_sw; (try dsimp only); rw [if_pos hx, if_pos h1, h2]
theorem x_ireturn {v : Int32} (h : pm_in y pc = some (.ireturn, 1)) (hk : pm_rk y v = true) : pX y pc ls [.int v] M N S = some (some (.int v), M, N, S) := pX_ret ((x_st h).trans (by rw [o_ireturn]; (try dsimp only); rw [if_pos hk]))
theorem x_lreturn {v : Int64} (h : pm_in y pc = some (.lreturn, 1)) (hk : pm_rL y = true) : pX y pc ls [.long v] M N S = some (some (.long v), M, N, S) := pX_ret ((x_st h).trans (by rw [o_lreturn]; (try dsimp only); rw [if_pos hk]))
theorem x_return (h : pm_in y pc = some (.return_, 1)) (hk : pm_rV y = true) : pX y pc ls [] M N S = some (none, M, N, S) := pX_ret ((x_st h).trans (by rw [o_return_]; (try dsimp only); rw [if_pos hk]))
theorem x_getf {x ci k a : Nat} {fs : List Value} {v : Value} (h : pm_in y pc = some (.getfield x, 3)) (hl : pm_lk (pm_yO y) x pm_flT = some (ci, k)) (hM : M a = .inr (ci, fs)) (ha : a < N) (hv : fs[k]? = some v) : pX y pc ls (.ref a :: st) M N S = pX y (pc + 3) ls (v :: st) M N S := pX_go ((x_st h).trans (by rw [o_getfield]; unfold pm_getf; (try dsimp only); rw [hl, hM]; (try dsimp only); rw [if_pos ⟨rfl, ha⟩, hv]))
theorem x_putf {x ci k a : Nat} {fs fs' : List Value} {v : Value} (h : pm_in y pc = some (.putfield x, 3)) (hl : pm_lk (pm_yO y) x pm_flT = some (ci, k)) (hM : M a = .inr (ci, fs)) (ha : a < N) (hk : k < fs.length) (hft : pm_ft (pm_ty ci k) v = true) (hpf : pm_pf y ci k = true) (hok : pm_okW N v = true) (hs : fs.set k v = fs') : pX y pc ls (v :: .ref a :: st) M N S = pX y (pc + 3) ls st (va_up M a (.inr (ci, fs'))) N S := by subst hs; exact pX_go ((x_st h).trans (by rw [o_putfield]; unfold pm_putf; (try dsimp only); rw [hl, hM]; (try dsimp only); rw [if_pos ⟨rfl, ha, hk, hft, hpf, hok⟩]))
/-- an index lies in a row -/
def inb (j : Int32) (n : Nat) : Prop := ¬ (j < 0 ∨ n ≤ j.toNatClampNeg)
theorem inb_nI {j n : Nat} (h : j < n) (hn : n < 2 ^ 31) : inb (nI j) n := vp_in_nI h hn
theorem x_iald {a n : Nat} {f : Nat → Int32} {j : Int32} (h : pm_in y pc = some (.iaload, 1)) (hM : M a = .inl (0, n, .inl f)) (ha : a < N ∨ (1000 ≤ a ∧ a < 1003)) (hj : inb j n) : pX y pc ls (.int j :: .ref a :: st) M N S = pX y (pc + 1) ls (.int (f j.toNatClampNeg) :: st) M N S := pX_go ((x_st h).trans (by rw [o_iaload]; unfold pm_iald; (try dsimp only); rw [hM]; exact if_pos ⟨ha, hj⟩))
theorem x_iast {a n : Nat} {f : Nat → Int32} {j v : Int32} (h : pm_in y pc = some (.iastore, 1)) (hM : M a = .inl (0, n, .inl f)) (ha : a < N) (hj : inb j n) : pX y pc ls (.int v :: .int j :: .ref a :: st) M N S = pX y (pc + 1) ls st (va_up M a (.inl (0, n, .inl (upd f j.toNatClampNeg v)))) N S := pX_go ((x_st h).trans (by rw [o_iastore]; unfold pm_iast; (try dsimp only); rw [hM]; exact if_pos ⟨ha, hj⟩))
theorem x_bald {a n : Nat} {f : Nat → Int32} {j : Int32} (h : pm_in y pc = some (.baload, 1)) (hM : M a = .inl (1, n, .inl f)) (ha : a < N) (hj : inb j n) : pX y pc ls (.int j :: .ref a :: st) M N S = pX y (pc + 1) ls (.int (f j.toNatClampNeg) :: st) M N S := pX_go ((x_st h).trans (by rw [o_baload]; unfold pm_bald; (try dsimp only); rw [hM]; exact if_pos ⟨ha, hj⟩))
theorem x_bast {a n : Nat} {f : Nat → Int32} {j v : Int32} (h : pm_in y pc = some (.bastore, 1)) (hM : M a = .inl (1, n, .inl f)) (ha : a < N) (hj : inb j n) : pX y pc ls (.int v :: .int j :: .ref a :: st) M N S = pX y (pc + 1) ls st (va_up M a (.inl (1, n, .inl (upd f j.toNatClampNeg (vp_nar .boolean v))))) N S := pX_go ((x_st h).trans (by rw [o_bastore]; unfold pm_bast; (try dsimp only); rw [hM]; exact if_pos ⟨ha, hj⟩))
theorem x_aald {a n t : Nat} {f : Nat → Option Nat} {j : Int32} {v : Value} (h : pm_in y pc = some (.aaload, 1)) (hM : M a = .inl (t, n, .inr (.inr (.inr (.inr f))))) (ha : a < N) (ht : t = 2 ∨ t = 3) (hj : inb j n) (hv : va_rf (f j.toNatClampNeg) = v) : pX y pc ls (.int j :: .ref a :: st) M N S = pX y (pc + 1) ls (v :: st) M N S := by subst hv; exact pX_go ((x_st h).trans (by rw [o_aaload]; unfold pm_aald; (try dsimp only); rw [hM]; exact if_pos ⟨ha, ht, hj⟩))
theorem x_aast {a n t v ci : Nat} {fs : List Value} {f : Nat → Option Nat} {j : Int32} (h : pm_in y pc = some (.aastore, 1)) (hM : M a = .inl (t, n, .inr (.inr (.inr (.inr f))))) (hMv : M v = .inr (ci, fs)) (ha : a < N) (hv : v < N) (ht : (t = 2 ∧ ci = 1) ∨ (t = 3 ∧ ci = 0)) (hj : inb j n) : pX y pc ls (.ref v :: .int j :: .ref a :: st) M N S = pX y (pc + 1) ls st (va_up M a (.inl (t, n, .inr (.inr (.inr (.inr (va_up f j.toNatClampNeg (some v)))))))) N S := pX_go ((x_st h).trans (by rw [o_aastore]; unfold pm_aast; (try dsimp only); rw [hM, hMv]; exact if_pos ⟨ha, hv, ht, hj⟩))
theorem x_alen {a n t : Nat} {f : (Nat → Int32) ⊕ (Nat → Int64) ⊕ (Nat → UInt32) ⊕ (Nat → UInt64) ⊕ (Nat → Option Nat)} {v : Int32} (h : pm_in y pc = some (.arraylength, 1)) (hM : M a = .inl (t, n, f)) (ha : (a < N ∧ t < 4) ∨ (1000 ≤ a ∧ a < 1003)) (hv : Int32.ofNat n = v) : pX y pc ls (.ref a :: st) M N S = pX y (pc + 1) ls (.int v :: st) M N S := by subst hv; exact pX_go ((x_st h).trans (by rw [o_arraylength]; unfold pm_alen; (try dsimp only); rw [hM]; exact if_pos ha))
theorem x_gs1 (h : pm_in y pc = some (.getstatic 25, 3)) (ho : pm_yO y = 1) : pX y pc ls st M N S = pX y (pc + 3) ls (.ref 1000 :: st) M N S := pX_go ((x_st h).trans (by rw [o_getstatic]; (try dsimp only); rw [if_pos ⟨ho, rfl⟩]))
theorem x_gs5 (h : pm_in y pc = some (.getstatic 341, 3)) (ho : pm_yO y = 5) : pX y pc ls st M N S = pX y (pc + 3) ls (.ref 1001 :: st) M N S := pX_go ((x_st h).trans (by rw [o_getstatic]; (try dsimp only); rw [if_neg (fun q => by rw [ho] at q; exact absurd q.1 (by decide)), if_pos ⟨ho, rfl⟩]))
theorem x_new {x ci k : Nat} {c : va_E} (h : pm_in y pc = some (.new x, 3)) (hl : pm_lk (pm_yO y) x pm_nwT = some ci) (hc : (.inr (ci, (List.range (pm_nf ci)).map fun k => pm_d0 (pm_ty ci k)) : va_E) = c) (hk : pm_nf ci = k) (hok : (pm_okL N ls && pm_okL N st && Nat.ble (N + 1) 1000) = true) : pX y pc ls st M N S = pX y (pc + 3) ls (.ref N :: st) (va_up M N c) (N + 1) (S + k) := by subst hc; subst hk; exact pX_mk ((x_st h).trans (by rw [o_new]; (try dsimp only); rw [hl])) hok
theorem x_newI {k : Int32} {n : Nat} (h : pm_in y pc = some (.newarray .int, 2)) (hk : ¬ k < 0 ∧ k.toNatClampNeg < 100000) (hn : k.toNatClampNeg = n) (hok : (pm_okL N ls && pm_okL N st && Nat.ble (N + 1) 1000) = true) : pX y pc ls (.int k :: st) M N S = pX y (pc + 2) ls (.ref N :: st) (va_up M N (.inl (0, n, .inl (fun _ => 0)))) (N + 1) (S + n) := by subst hn; exact pX_mk ((x_st h).trans (by rw [o_newarray]; (try dsimp only); rw [if_pos hk])) hok
theorem x_newZ {k : Int32} {n : Nat} (h : pm_in y pc = some (.newarray .boolean, 2)) (hk : ¬ k < 0 ∧ k.toNatClampNeg < 100000) (hn : k.toNatClampNeg = n) (hok : (pm_okL N ls && pm_okL N st && Nat.ble (N + 1) 1000) = true) : pX y pc ls (.int k :: st) M N S = pX y (pc + 2) ls (.ref N :: st) (va_up M N (.inl (1, n, .inl (fun _ => 0)))) (N + 1) (S + n) := by subst hn; exact pX_mk ((x_st h).trans (by rw [o_newarray]; (try dsimp only); rw [if_pos hk])) hok
theorem x_newq {x t : Nat} {k : Int32} {n : Nat} (h : pm_in y pc = some (.anewarray x, 3)) (hl : pm_lk (pm_yO y) x pm_naT = some t) (hk : ¬ k < 0 ∧ k.toNatClampNeg < 100000) (hn : k.toNatClampNeg = n) (hok : (pm_okL N ls && pm_okL N st && Nat.ble (N + 1) 1000) = true) : pX y pc ls (.int k :: st) M N S = pX y (pc + 3) ls (.ref N :: st) (va_up M N (.inl (t, n, .inr (.inr (.inr (.inr (fun _ => none))))))) (N + 1) (S + n) := by subst hn; exact pX_mk ((x_st h).trans (by rw [o_anewarray]; (try dsimp only); rw [hl]; (try dsimp only); rw [if_pos hk])) hok
theorem x_max {x : Nat} {a b : Int32} {q : Nat × Nat} (h : pm_in y pc = some (.invokestatic x, 3)) (hl : pm_lk (pm_yO y) x pm_mlT = some (6, q)) (hr : pm_ct st ≤ 8 ∧ pm_rb y 21 = true) : pX y pc ls (.int b :: .int a :: st) M N S = pX y (pc + 3) ls (.int (if a < b then b else a) :: st) M N S := pX_go ((x_st h).trans (by rw [o_invokestatic]; rw [hl]; exact if_pos hr))
theorem x_min {x : Nat} {a b : Int32} {q : Nat × Nat} (h : pm_in y pc = some (.invokestatic x, 3)) (hl : pm_lk (pm_yO y) x pm_mlT = some (7, q)) (hr : pm_ct st ≤ 8 ∧ pm_rb y 21 = true) : pX y pc ls (.int b :: .int a :: st) M N S = pX y (pc + 3) ls (.int (if b < a then b else a) :: st) M N S := pX_go ((x_st h).trans (by rw [o_invokestatic]; rw [hl]; exact if_pos hr))
theorem x_abs {x : Nat} {a : Int32} {q : Nat × Nat} (h : pm_in y pc = some (.invokestatic x, 3)) (hl : pm_lk (pm_yO y) x pm_mlT = some (8, q)) (hr : pm_ct st ≤ 8 ∧ pm_rb y 21 = true) : pX y pc ls (.int a :: st) M N S = pX y (pc + 3) ls (.int (if 0 ≤ a then a else 0 - a) :: st) M N S := pX_go ((x_st h).trans (by rw [o_invokestatic]; rw [hl]; exact if_pos hr))
theorem x_copy {x a0 a1 n0 n1 : Nat} {f g : Nat → Int32} {sp dp n : Int32} {q1 q2 : Nat} (h : pm_in y pc = some (.invokestatic x, 3)) (hl : pm_lk (pm_yO y) x pm_mlT = some (9, q1, q2)) (hM0 : M a0 = .inl (0, n0, .inl f)) (hM1 : M a1 = .inl (0, n1, .inl g)) (hc : a0 < N ∧ a1 < N ∧ ¬ sp < 0 ∧ ¬ dp < 0 ∧ ¬ n < 0 ∧ sp.toNatClampNeg + n.toNatClampNeg ≤ n0 ∧ dp.toNatClampNeg + n.toNatClampNeg ≤ n1 ∧ pm_ct st ≤ 8 ∧ pm_rb y 40 = true) : pX y pc ls (.int n :: .int dp :: .ref a1 :: .int sp :: .ref a0 :: st) M N S = pX y (pc + 3) ls st (va_up M a1 (.inl (0, n1, .inl (va_cpy f g sp.toNatClampNeg dp.toNatClampNeg n.toNatClampNeg)))) N S := pX_go ((x_st h).trans (by rw [o_invokestatic, hl]; show pm_copy y pc ls (.int n :: .int dp :: .ref a1 :: .int sp :: .ref a0 :: st) M N = _; unfold pm_copy; (try dsimp only); rw [hM0, hM1]; exact if_pos hc))
theorem x_obj {x b : Nat} {q : Nat × Nat} (h : pm_in y pc = some (.invokespecial x, 3)) (hl : pm_lk (pm_yO y) x pm_mlT = some (5, q)) (hr : pm_ct st ≤ 8 ∧ pm_rb y 20 = true) : pX y pc ls (.ref b :: st) M N S = pX y (pc + 3) ls st M N S := pX_go ((x_st h).trans (by rw [o_invokespecial]; rw [hl]; exact if_pos hr))
/-- calls: of a method of an object, of a static one, of a constructor -/
theorem x_callV {x y' k b ci : Nat} {as st' : List Value} {fs : List Value} {r : Option Value} {M' : pm_M} (h : pm_in y pc = some (.invokevirtual x, 3)) (hl : pm_lk (pm_yO y) x pm_mlT = some (0, y', k)) (hd : ls = ls) (hdr : st.drop k = .ref b :: st') (hM : M b = .inr (ci, fs)) (hb : b < N) (hci : pm_ow ci = pm_yO y' ∧ ci < 6) (hlen : (st.take k).length = k) (hrm : pm_rm y y' = true) (hct : pm_ct st' ≤ 8) (has : (st.take k).reverse = as) (hsp : Nat.ble (pm_sp (.ref b :: as)).length (pm_yL y') = true) (hc : pX y' 0 (pm_ent y' (.ref b :: as)) [] M N S = some (r, M', N, S)) : pX y pc ls st M N S = pX y (pc + 3) ls (r.toList ++ st') M' N S := by
  subst has
  refine pX_ca ((x_st h).trans ?_) hsp hc
  rw [o_invokevirtual, hl]; show pm_callV y pc y' k st M N = _; unfold pm_callV; rw [hdr]; dsimp only; rw [hM]; exact if_pos ⟨hb, hci, hlen, hrm, hct⟩
theorem x_callS {x y' k kd : Nat} {as : List Value} {r : Option Value} {M' : pm_M} (h : pm_in y pc = some (.invokestatic x, 3)) (hl : pm_lk (pm_yO y) x pm_mlT = some (kd, y', k)) (hkd : kd = 1 ∨ kd = 3) (hlen : (st.take k).length = k) (hrm : pm_rm y y' = true) (hct : pm_ct (st.drop k) ≤ 8) (has : (st.take k).reverse = as) (hsp : Nat.ble (pm_sp as).length (pm_yL y') = true) (hc : pX y' 0 (pm_ent y' as) [] M N S = some (r, M', N, S)) : pX y pc ls st M N S = pX y (pc + 3) ls (r.toList ++ st.drop k) M' N S := by
  subst has
  refine pX_ca ((x_st h).trans ?_) hsp hc
  rw [o_invokestatic, hl]
  rcases hkd with rfl | rfl
  · show pm_callS y pc y' k st = _; exact if_pos ⟨hlen, hrm, hct⟩
  · show pm_callS y pc y' k st = _; exact if_pos ⟨hlen, hrm, hct⟩
theorem x_callI {x y' k kd b N' S' : Nat} {as st' : List Value} {r : Option Value} {M' : pm_M} (h : pm_in y pc = some (.invokespecial x, 3)) (hl : pm_lk (pm_yO y) x pm_mlT = some (kd, y', k)) (hkd : kd = 2 ∨ kd = 4) (hdr : st.drop k = .ref b :: st') (hlen : (st.take k).length = k) (hrm : pm_rm y y' = true) (hct : pm_ct st' ≤ 8) (hR : pm_yR y' = none) (hnm : (pm_yN y').name = "<init>") (has : (st.take k).reverse = as) (hsp : Nat.ble (pm_sp (.ref b :: as)).length (pm_yL y') = true) (hok : (pm_okL N ls && pm_okL N st') = true) (hc : pX y' 0 (pm_ent y' (.ref b :: as)) [] M N S = some (r, M', N', S')) : pX y pc ls st M N S = pX y (pc + 3) ls (r.toList ++ st') M' N' S' := by
  subst has
  refine pX_caN ((x_st h).trans ?_) hsp hok hc
  rw [o_invokespecial, hl]
  rcases hkd with rfl | rfl
  · show pm_callI y pc y' k st = _; unfold pm_callI; rw [hdr]; exact if_pos ⟨hlen, hrm, hct, hR, hnm⟩
  · show pm_callI y pc y' k st = _; unfold pm_callI; rw [hdr]; exact if_pos ⟨hlen, hrm, hct, hR, hnm⟩
end XR
