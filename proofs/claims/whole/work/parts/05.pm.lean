/-! THE PURE MACHINE: the instructions that the system uses, on locals, a stack and cells without a heap. Cells have numbers (0, 1, .. as they are made; 1000, 1001, 1002: the two constant arrays, the script), references are such numbers. -/
def pm_lk {α : Type} (a b : Nat) : List (Nat × Nat × α) → Option α
  | [] => none
  | e :: l => bif Nat.beq e.1 a && Nat.beq e.2.1 b then some e.2.2 else pm_lk a b l
theorem pm_lk_mem {α : Type} {a b : Nat} {r : α} : ∀ {l : List (Nat × Nat × α)}, pm_lk a b l = some r → (a, b, r) ∈ l
  | [], h => by cases h
  | e :: l, h => by
    unfold pm_lk at h
    cases h1 : Nat.beq e.1 a with
    | false =>
      rw [h1] at h
      exact List.mem_cons_of_mem _ (pm_lk_mem h)
    | true =>
      cases h2 : Nat.beq e.2.1 b with
      | false =>
        rw [h1, h2] at h
        exact List.mem_cons_of_mem _ (pm_lk_mem h)
      | true =>
        rw [h1, h2] at h
        obtain ⟨x, z, w⟩ := e
        have e1 : x = a := Nat.eq_of_beq_eq_true h1
        have e2 : z = b := Nat.eq_of_beq_eq_true h2
        have e3 : w = r := Option.some.inj h
        subst e1; subst e2; subst e3
        exact List.mem_cons_self
abbrev pm_M : Type := Nat → va_E
abbrev pm_J : Type := Nat × List Value × List Value × pm_M
abbrev pm_N : Type := Nat × List Value × va_E × Nat
abbrev pm_C : Type := Nat × List Value × Nat × List Value
abbrev pm_O : Type := Option (Option Value) ⊕ (pm_J ⊕ (pm_N ⊕ pm_C))
abbrev pm_Rs : Type := Option Value × pm_M × Nat × Nat
def pm_no : pm_O := .inl none
def pm_go (pc : Nat) (ls st : List Value) (M : pm_M) : pm_O := .inr (.inl (pc, ls, st, M))
def pm_mk (pc : Nat) (st : List Value) (x : va_E) (k : Nat) : pm_O := .inr (.inr (.inl (pc, st, x, k)))
def pm_ca (y : Nat) (as : List Value) (pc : Nat) (st : List Value) : pm_O := .inr (.inr (.inr (y, as, pc, st)))
def pm_bi (i : Instr) (x y : Int32) : Option Int32 := match i with
  | .iadd => some (x + y)
  | .isub => some (x - y)
  | .imul => some (x * y)
  | .iand => some (x &&& y)
  | .ior => some (x ||| y)
  | .ixor => some (x ^^^ y)
  | .ishl => some (x <<< (y &&& 31))
  | .ishr => some (x >>> (y &&& 31))
  | .iushr => some (x.toUInt32 >>> (y.toUInt32 &&& Int32.toUInt32 31)).toInt32
  | .idiv => if y = 0 then none else some (x / y)
  | .irem => if y = 0 then none else some (x - x / y * y)
  | _ => none
def pm_bl (i : Instr) (x y : Int64) : Option Int64 := match i with
  | .ladd => some (x + y)
  | .lmul => some (x * y)
  | .ldiv => if y = 0 then none else some (x / y)
  | .lrem => if y = 0 then none else some (x - x / y * y)
  | _ => none
def pm_cc (c : Jvm.ClassFile.Cond) (x y : Int32) : Bool := match c with
  | .eq => decide (x = y)
  | .ne => !decide (x = y)
  | .lt => decide (x < y)
  | .ge => decide (y ≤ x)
  | .gt => decide (y < x)
  | .le => decide (x ≤ y)
def pm_br (t : Int) (pc : Nat) (b : Bool) (ls st : List Value) (M : pm_M) : pm_O := if 0 ≤ t then (if b = true then pm_go t.toNat ls st M else pm_go pc ls st M) else pm_no
def pm_ct (st : List Value) : Nat := (st.map fun v => v.category).sum
def pm_ft (ty : FieldType) (v : Value) : Bool := match ty, v with
  | .int, .int _ => true
  | .long, .long _ => true
  | .object _, .ref _ => true
  | .array _, .ref _ => true
  | _, _ => false
/-- of a class's number: its fields, which are final, its own number -/
def pm_nf (ci : Nat) : Nat := match ci with
  | 0 => 5
  | 1 => 2
  | 2 => 4
  | 3 => 6
  | 4 => 13
  | _ => 28
def pm_ow (ci : Nat) : Nat := match ci with
  | 0 => 0
  | 1 => 2
  | 2 => 3
  | 3 => 4
  | 4 => 5
  | _ => 6
def pm_ff (ci k : Nat) : Bool := ((vwCl.getD ci (RX0, TX0, 0)).2.1 k).2.2.2
def pm_pf (y ci k : Nat) : Bool := !pm_ff ci k || ((pm_yN y).name == "<init>" && Nat.beq (pm_ow ci) (pm_yO y))
def pm_d0 (ty : FieldType) : Value := match ty with
  | .int => .int 0
  | .long => .long 0
  | _ => .null
def pm_rm (y y' : Nat) : Bool := Nat.ble (pm_yF y' + 1) (pm_yF y) && Nat.ble (8 + (pm_yL y' + 11) + pm_yW y') (pm_yW y) && Nat.ble (y' + 1) 225
def pm_rb (y k : Nat) : Bool := Nat.ble 1 (pm_yF y) && Nat.ble k (pm_yW y)
/-- a cell that may be read: one of the N that are made, or a constant one -/
def pm_rd (N a : Nat) : Prop := a < N ∨ (1000 ≤ a ∧ a < 1003)
def pm_okW (N : Nat) (v : Value) : Bool := match v with
  | .ref k => Nat.ble (k + 1) N
  | _ => true
def pm_rk (y : Nat) (v : Int32) : Bool := match pm_yR y with
  | some .int => true
  | some .boolean => decide (v = 0) || decide (v = 1)
  | _ => false
def pm_rL (y : Nat) : Bool := match pm_yR y with
  | some .long => true
  | _ => false
def pm_rV (y : Nat) : Bool := match pm_yR y with
  | none => true
  | _ => false
def pm_callV (y pc y' k : Nat) (st : List Value) (M : pm_M) (N : Nat) : pm_O := match st.drop k with
  | .ref b :: r => match M b with
    | .inr (ci, _) => if b < N ∧ (pm_ow ci = pm_yO y' ∧ ci < 6) ∧ (st.take k).length = k ∧ pm_rm y y' = true ∧ pm_ct r ≤ 8 then pm_ca y' (.ref b :: (st.take k).reverse) (pc + 3) r else pm_no
    | _ => pm_no
  | _ => pm_no
def pm_callI (y pc y' k : Nat) (st : List Value) : pm_O := match st.drop k with
  | .ref b :: r => if (st.take k).length = k ∧ pm_rm y y' = true ∧ pm_ct r ≤ 8 ∧ pm_yR y' = none ∧ (pm_yN y').name = "<init>" then pm_ca y' (.ref b :: (st.take k).reverse) (pc + 3) r else pm_no
  | _ => pm_no
def pm_callS (y pc y' k : Nat) (st : List Value) : pm_O := if (st.take k).length = k ∧ pm_rm y y' = true ∧ pm_ct (st.drop k) ≤ 8 then pm_ca y' (st.take k).reverse (pc + 3) (st.drop k) else pm_no
def pm_copy (y pc : Nat) (ls st : List Value) (M : pm_M) (N : Nat) : pm_O := match st with
  | .int n :: .int dp :: .ref a1 :: .int sp :: .ref a0 :: r => match M a0, M a1 with
    | .inl (0, n0, .inl f), .inl (0, n1, .inl g) => if a0 < N ∧ a1 < N ∧ ¬ sp < 0 ∧ ¬ dp < 0 ∧ ¬ n < 0 ∧ sp.toNatClampNeg + n.toNatClampNeg ≤ n0 ∧ dp.toNatClampNeg + n.toNatClampNeg ≤ n1 ∧ pm_ct r ≤ 8 ∧ pm_rb y 40 = true then pm_go (pc + 3) ls r (va_up M a1 (.inl (0, n1, .inl (va_cpy f g sp.toNatClampNeg dp.toNatClampNeg n.toNatClampNeg)))) else pm_no
    | _, _ => pm_no
  | _ => pm_no
def pm_invV (y pc : Nat) (q : Nat × Nat × Nat) (st : List Value) (M : pm_M) (N : Nat) : pm_O := match q with
  | (0, y', k) => pm_callV y pc y' k st M N
  | _ => pm_no
def pm_invS (y pc : Nat) (q : Nat × Nat × Nat) (ls st : List Value) (M : pm_M) (N : Nat) : pm_O := match q with
  | (1, y', k) => pm_callS y pc y' k st
  | (3, y', k) => pm_callS y pc y' k st
  | (6, _, _) => match st with
    | .int b :: .int a :: r => if pm_ct r ≤ 8 ∧ pm_rb y 21 = true then pm_go (pc + 3) ls (.int (if a < b then b else a) :: r) M else pm_no
    | _ => pm_no
  | (7, _, _) => match st with
    | .int b :: .int a :: r => if pm_ct r ≤ 8 ∧ pm_rb y 21 = true then pm_go (pc + 3) ls (.int (if b < a then b else a) :: r) M else pm_no
    | _ => pm_no
  | (8, _, _) => match st with
    | .int a :: r => if pm_ct r ≤ 8 ∧ pm_rb y 21 = true then pm_go (pc + 3) ls (.int (if 0 ≤ a then a else 0 - a) :: r) M else pm_no
    | _ => pm_no
  | (9, _, _) => pm_copy y pc ls st M N
  | _ => pm_no
def pm_invI (y pc : Nat) (q : Nat × Nat × Nat) (ls st : List Value) (M : pm_M) : pm_O := match q with
  | (2, y', k) => pm_callI y pc y' k st
  | (4, y', k) => pm_callI y pc y' k st
  | (5, _, _) => match st with
    | .ref _ :: r => if pm_ct r ≤ 8 ∧ pm_rb y 20 = true then pm_go (pc + 3) ls r M else pm_no
    | _ => pm_no
  | _ => pm_no
def pm_li (pc : Nat) (o : Option Value) (ls st : List Value) (M : pm_M) : pm_O := match o with
  | some (.int x) => pm_go pc ls (.int x :: st) M
  | _ => pm_no
def pm_ll (pc : Nat) (o o2 : Option Value) (ls st : List Value) (M : pm_M) : pm_O := match o, o2 with
  | some (.long x), some .null => pm_go pc ls (.long x :: st) M
  | _, _ => pm_no
def pm_la (pc : Nat) (o : Option Value) (ls st : List Value) (M : pm_M) : pm_O := match o with
  | some (.ref x) => pm_go pc ls (.ref x :: st) M
  | _ => pm_no
def pm_si (pc k : Nat) (ls st : List Value) (M : pm_M) : pm_O := match st with
  | .int x :: r => if k < ls.length then pm_go pc (ls.set k (.int x)) r M else pm_no
  | _ => pm_no
def pm_sl (pc k : Nat) (ls st : List Value) (M : pm_M) : pm_O := match st with
  | .long x :: r => if k + 1 < ls.length then pm_go pc ((ls.set k (.long x)).set (k + 1) .null) r M else pm_no
  | _ => pm_no
def pm_sa (pc k : Nat) (ls st : List Value) (M : pm_M) : pm_O := match st with
  | .ref x :: r => if k < ls.length then pm_go pc (ls.set k (.ref x)) r M else pm_no
  | _ => pm_no
/-- objects and arrays -/
def pm_getf (y pc : Nat) (x : Nat) (ls st : List Value) (M : pm_M) (N : Nat) : pm_O := match st with
  | .ref a :: r => match pm_lk (pm_yO y) x pm_flT, M a with
    | some (ci, k), .inr (cj, fs) => if ci = cj ∧ a < N then (match fs[k]? with
      | some v => pm_go (pc + 3) ls (v :: r) M
      | none => pm_no) else pm_no
    | _, _ => pm_no
  | _ => pm_no
def pm_putf (y pc : Nat) (x : Nat) (ls st : List Value) (M : pm_M) (N : Nat) : pm_O := match st with
  | v :: .ref a :: r => match pm_lk (pm_yO y) x pm_flT, M a with
    | some (ci, k), .inr (cj, fs) => if ci = cj ∧ a < N ∧ k < fs.length ∧ pm_ft (pm_ty ci k) v = true ∧ pm_pf y ci k = true ∧ pm_okW N v = true then pm_go (pc + 3) ls r (va_up M a (.inr (cj, fs.set k v))) else pm_no
    | _, _ => pm_no
  | _ => pm_no
def pm_iald (pc : Nat) (ls st : List Value) (M : pm_M) (N : Nat) : pm_O := match st with
  | .int j :: .ref a :: r => match M a with
    | .inl (0, n, .inl f) => if (a < N ∨ (1000 ≤ a ∧ a < 1003)) ∧ ¬ (j < 0 ∨ n ≤ j.toNatClampNeg) then pm_go (pc + 1) ls (.int (f j.toNatClampNeg) :: r) M else pm_no
    | _ => pm_no
  | _ => pm_no
def pm_iast (pc : Nat) (ls st : List Value) (M : pm_M) (N : Nat) : pm_O := match st with
  | .int v :: .int j :: .ref a :: r => match M a with
    | .inl (0, n, .inl f) => if a < N ∧ ¬ (j < 0 ∨ n ≤ j.toNatClampNeg) then pm_go (pc + 1) ls r (va_up M a (.inl (0, n, .inl (upd f j.toNatClampNeg v)))) else pm_no
    | _ => pm_no
  | _ => pm_no
def pm_bald (pc : Nat) (ls st : List Value) (M : pm_M) (N : Nat) : pm_O := match st with
  | .int j :: .ref a :: r => match M a with
    | .inl (1, n, .inl f) => if a < N ∧ ¬ (j < 0 ∨ n ≤ j.toNatClampNeg) then pm_go (pc + 1) ls (.int (f j.toNatClampNeg) :: r) M else pm_no
    | _ => pm_no
  | _ => pm_no
def pm_bast (pc : Nat) (ls st : List Value) (M : pm_M) (N : Nat) : pm_O := match st with
  | .int v :: .int j :: .ref a :: r => match M a with
    | .inl (1, n, .inl f) => if a < N ∧ ¬ (j < 0 ∨ n ≤ j.toNatClampNeg) then pm_go (pc + 1) ls r (va_up M a (.inl (1, n, .inl (upd f j.toNatClampNeg (vp_nar .boolean v))))) else pm_no
    | _ => pm_no
  | _ => pm_no
def pm_aald (pc : Nat) (ls st : List Value) (M : pm_M) (N : Nat) : pm_O := match st with
  | .int j :: .ref a :: r => match M a with
    | .inl (t, n, .inr (.inr (.inr (.inr f)))) => if a < N ∧ (t = 2 ∨ t = 3) ∧ ¬ (j < 0 ∨ n ≤ j.toNatClampNeg) then pm_go (pc + 1) ls (va_rf (f j.toNatClampNeg) :: r) M else pm_no
    | _ => pm_no
  | _ => pm_no
def pm_aast (pc : Nat) (ls st : List Value) (M : pm_M) (N : Nat) : pm_O := match st with
  | .ref v :: .int j :: .ref a :: r => match M a, M v with
    | .inl (t, n, .inr (.inr (.inr (.inr f)))), .inr (ci, _) => if a < N ∧ v < N ∧ ((t = 2 ∧ ci = 1) ∨ (t = 3 ∧ ci = 0)) ∧ ¬ (j < 0 ∨ n ≤ j.toNatClampNeg) then pm_go (pc + 1) ls r (va_up M a (.inl (t, n, .inr (.inr (.inr (.inr (va_up f j.toNatClampNeg (some v)))))))) else pm_no
    | _, _ => pm_no
  | _ => pm_no
def pm_alen (pc : Nat) (ls st : List Value) (M : pm_M) (N : Nat) : pm_O := match st with
  | .ref a :: r => match M a with
    | .inl (t, n, f) => if (a < N ∧ t < 4) ∨ (1000 ≤ a ∧ a < 1003) then pm_go (pc + 1) ls (.int (Int32.ofNat n) :: r) M else pm_no
    | _ => pm_no
  | _ => pm_no
/-- one of the stack's own -/
def pm_stk (pc : Nat) (i : Instr) (ls st : List Value) (M : pm_M) : pm_O := match i, st with
  | .dup, v :: r => if v.category = 1 then pm_go (pc + 1) ls (v :: v :: r) M else pm_no
  | .dup2, v :: w :: r => if v.category = 1 ∧ w.category = 1 then pm_go (pc + 1) ls (v :: w :: v :: w :: r) M else pm_no
  | .pop, v :: r => if v.category = 1 then pm_go (pc + 1) ls r M else pm_no
  | .ineg, .int x :: r => pm_go (pc + 1) ls (.int (-x) :: r) M
  | .i2l, .int x :: r => pm_go (pc + 1) ls (.long x.toInt64 :: r) M
  | .l2i, .long x :: r => pm_go (pc + 1) ls (.int x.toInt32 :: r) M
  | .i2b, .int x :: r => pm_go (pc + 1) ls (.int x.toInt8.toInt32 :: r) M
  | .lcmp, .long b :: .long a :: r => pm_go (pc + 1) ls (.int (lg_cmp a b) :: r) M
  | j, .int b :: .int a :: r => match pm_bi j a b with
    | some v => pm_go (pc + 1) ls (.int v :: r) M
    | none => pm_no
  | j, .long b :: .long a :: r => match pm_bl j a b with
    | some v => pm_go (pc + 1) ls (.long v :: r) M
    | none => pm_no
  | _, _ => pm_no
def pm_sw (pc : Nat) (d lo hi : Int) (os : Array Int) (x : Int32) (ls r : List Value) (M : pm_M) : pm_O :=
  if x.toInt < lo ∨ hi < x.toInt then (if 0 ≤ (pc : Int) + d then pm_go ((pc : Int) + d).toNat ls r M else pm_no)
  else match os[(x.toInt - lo).toNat]? with
    | some off => if 0 ≤ (pc : Int) + off then pm_go ((pc : Int) + off).toNat ls r M else pm_no
    | none => pm_no
def pm_op (y pc : Nat) (i : Instr) (n : Nat) (ls st : List Value) (M : pm_M) (N : Nat) : pm_O := match i, n with
  | .iconst z, 1 => pm_go (pc + 1) ls (.int (Int32.ofInt z) :: st) M
  | .bipush z, 2 => pm_go (pc + 2) ls (.int (Int8.ofInt z).toInt32 :: st) M
  | .sipush z, 3 => pm_go (pc + 3) ls (.int (Int16.ofInt z).toInt32 :: st) M
  | .lconst z, 1 => pm_go (pc + 1) ls (.long (Int64.ofNat (z : Nat)) :: st) M
  | .ldc x, 2 => match pm_lk (pm_yO y) x pm_ciT with
    | some v => pm_go (pc + 2) ls (.int v :: st) M
    | none => pm_no
  | .ldc_w x, 3 => match pm_lk (pm_yO y) x pm_ciT with
    | some v => pm_go (pc + 3) ls (.int v :: st) M
    | none => pm_no
  | .ldc2_w x, 3 => match pm_lk (pm_yO y) x pm_clT with
    | some v => pm_go (pc + 3) ls (.long v :: st) M
    | none => pm_no
  | .iload k, 2 => pm_li (pc + 2) ls[k]? ls st M
  | .iload_n k, 1 => pm_li (pc + 1) ls[(k : Nat)]? ls st M
  | .lload k, 2 => pm_ll (pc + 2) ls[k]? ls[k + 1]? ls st M
  | .lload_n k, 1 => pm_ll (pc + 1) ls[(k : Nat)]? ls[(k : Nat) + 1]? ls st M
  | .aload k, 2 => pm_la (pc + 2) ls[k]? ls st M
  | .aload_n k, 1 => pm_la (pc + 1) ls[(k : Nat)]? ls st M
  | .istore k, 2 => pm_si (pc + 2) k ls st M
  | .istore_n k, 1 => pm_si (pc + 1) (k : Nat) ls st M
  | .lstore k, 2 => pm_sl (pc + 2) k ls st M
  | .lstore_n k, 1 => pm_sl (pc + 1) (k : Nat) ls st M
  | .astore k, 2 => pm_sa (pc + 2) k ls st M
  | .astore_n k, 1 => pm_sa (pc + 1) (k : Nat) ls st M
  | .iinc k z, 3 => match ls[k]? with
    | some (.int x) => pm_go (pc + 3) (ls.set k (.int (x + Int32.ofInt z))) st M
    | _ => pm_no
  | .ifCond c off, 3 => match st with
    | .int x :: r => pm_br ((pc : Int) + off) (pc + 3) (pm_cc c x 0) ls r M
    | _ => pm_no
  | .if_icmp c off, 3 => match st with
    | .int b :: .int a :: r => pm_br ((pc : Int) + off) (pc + 3) (pm_cc c a b) ls r M
    | _ => pm_no
  | .goto off, 3 => if 0 ≤ (pc : Int) + off then pm_go ((pc : Int) + off).toNat ls st M else pm_no
  | .tableswitch d lo hi os, _ => match st with
    | .int x :: r => pm_sw pc d lo hi os x ls r M
    | _ => pm_no
  | .ireturn, 1 => match st with
    | [.int v] => if pm_rk y v = true then .inl (some (some (.int v))) else pm_no
    | _ => pm_no
  | .lreturn, 1 => match st with
    | [.long v] => if pm_rL y = true then .inl (some (some (.long v))) else pm_no
    | _ => pm_no
  | .return_, 1 => match st with
    | [] => if pm_rV y = true then .inl (some none) else pm_no
    | _ => pm_no
  | .getstatic x, 3 => if pm_yO y = 1 ∧ x = 25 then pm_go (pc + 3) ls (.ref 1000 :: st) M else if pm_yO y = 5 ∧ x = 341 then pm_go (pc + 3) ls (.ref 1001 :: st) M else pm_no
  | .new x, 3 => match pm_lk (pm_yO y) x pm_nwT with
    | some ci => pm_mk (pc + 3) st (.inr (ci, (List.range (pm_nf ci)).map fun k => pm_d0 (pm_ty ci k))) (pm_nf ci)
    | none => pm_no
  | .newarray t, 2 => match st with
    | .int k :: r => if ¬ k < 0 ∧ k.toNatClampNeg < 100000 then (match t with
      | .int => pm_mk (pc + 2) r (.inl (0, k.toNatClampNeg, .inl (fun _ => 0))) k.toNatClampNeg
      | .boolean => pm_mk (pc + 2) r (.inl (1, k.toNatClampNeg, .inl (fun _ => 0))) k.toNatClampNeg
      | _ => pm_no) else pm_no
    | _ => pm_no
  | .anewarray x, 3 => match st, pm_lk (pm_yO y) x pm_naT with
    | .int k :: r, some t => if ¬ k < 0 ∧ k.toNatClampNeg < 100000 then pm_mk (pc + 3) r (.inl (t, k.toNatClampNeg, .inr (.inr (.inr (.inr (fun _ => none)))))) k.toNatClampNeg else pm_no
    | _, _ => pm_no
  | .invokevirtual x, 3 => match pm_lk (pm_yO y) x pm_mlT with
    | some q => pm_invV y pc q st M N
    | none => pm_no
  | .invokestatic x, 3 => match pm_lk (pm_yO y) x pm_mlT with
    | some q => pm_invS y pc q ls st M N
    | none => pm_no
  | .invokespecial x, 3 => match pm_lk (pm_yO y) x pm_mlT with
    | some q => pm_invI y pc q ls st M
    | none => pm_no
  | .getfield x, 3 => pm_getf y pc x ls st M N
  | .putfield x, 3 => pm_putf y pc x ls st M N
  | .iaload, 1 => pm_iald pc ls st M N
  | .iastore, 1 => pm_iast pc ls st M N
  | .baload, 1 => pm_bald pc ls st M N
  | .bastore, 1 => pm_bast pc ls st M N
  | .aaload, 1 => pm_aald pc ls st M N
  | .aastore, 1 => pm_aast pc ls st M N
  | .arraylength, 1 => pm_alen pc ls st M N
  | j, 1 => pm_stk pc j ls st M
  | _, _ => pm_no
def pm_step (y pc : Nat) (ls st : List Value) (M : pm_M) (N : Nat) : pm_O := match pm_in y pc with
  | some q => pm_op y pc q.1 q.2 ls st M N
  | none => pm_no
def pm_okV (N : Nat) (v : Value) : Bool := match v with
  | .ref k => Nat.ble (k + 1) N || (Nat.ble 1000 k && Nat.ble (k + 1) 1003)
  | _ => true
def pm_okL (N : Nat) (l : List Value) : Bool := l.all (pm_okV N)
def pm_sp (vs : List Value) : List Value := match vs with
  | [] => []
  | v :: vs => if v.category = 2 then v :: .null :: pm_sp vs else v :: pm_sp vs
def pm_ent (y : Nat) (as : List Value) : List Value := pm_sp as ++ List.replicate (pm_yL y - (pm_sp as).length) .null
def pm_ex : Nat → Nat → Nat → List Value → List Value → pm_M → Nat → Nat → Option pm_Rs
  | 0, _, _, _, _, _, _, _ => none
  | n + 1, y, pc, ls, st, M, N, S => match pm_step y pc ls st M N with
    | .inl none => none
    | .inl (some r) => some (r, M, N, S)
    | .inr (.inl j) => pm_ex n y j.1 j.2.1 j.2.2.1 j.2.2.2 N S
    | .inr (.inr (.inl a)) => bif pm_okL N ls && pm_okL N a.2.1 && Nat.ble (N + 1) 1000 then pm_ex n y a.1 ls (.ref N :: a.2.1) (va_up M N a.2.2.1) (N + 1) (S + a.2.2.2) else none
    | .inr (.inr (.inr c)) => match pm_ex n c.1 0 (pm_ent c.1 c.2.1) [] M N S with
      | none => none
      | some r => bif Nat.ble (pm_sp c.2.1).length (pm_yL c.1) && (Nat.beq r.2.2.1 N || (pm_okL N ls && pm_okL N c.2.2.2)) then pm_ex n y c.2.2.1 ls (r.1.toList ++ c.2.2.2) r.2.1 r.2.2.1 r.2.2.2 else none
