/-! THE START: the memory behind the constructors; both systems are alike -/
/-- the cells ahead of all: two constant arrays, the script -/
def pm_M0 (L : Nat) (xs : Nat → Int32) : pm_M := fun k => if k = 1000 then .inl (0, 6, .inl pm_let) else if k = 1001 then .inl (0, 6, .inl pm_kab) else if k = 1002 then .inl (0, L, .inl xs) else .inr (0, [])
def dC : va_E := .inr (4, [.null, .null, .null, .null, .null, .null, .null, .null, .null, .int 0, .int 0, .long 0, .long 0])
def dR : va_E := .inr (5, [.null, .null, .null, .null, .int 0, .null, .null, .null, .int 0, .null, .null, .int 0, .long 0, .long 0, .int 0, .null, .int 0, .int 0, .int 0, .int 0, .null, .null, .null, .null, .null, .null, .int 0, .null])
def s_1 : Nat → Nat → Int32 := fun c => if 23 ≤ c ∧ c ≤ 41 ∧ c % 2 = 1 then (fun _ => -1) else (fun _ => 0)
def t_1 : Nat → Nat → Int64 := fun c => if c = 0 then (fun i => if i = 12 then 1 else 0) else if c = 67 then (fun i => if i = 13 then 1 else 0) else (fun _ => 0)
theorem mr1 : (va_up (va_up (va_up (va_up (va_up (va_up (fun _ => none) 0 (some 23)) 1 (some 25)) 2 (some 27)) 3 (some 29)) 4 (some 31)) 5 (some 33) : Nat → Option Nat) = fun r => if r < 6 then some (23 + 2 * r) else none := by
  funext r
  match r with
  | 0 => exact rfl
  | 1 => exact rfl
  | 2 => exact rfl
  | 3 => exact rfl
  | 4 => exact rfl
  | 5 => exact rfl
  | r + 6 => rw [if_neg (by omega)]; simp (disch := omega) only [vn']
theorem mr2 : (va_up (va_up (va_up (va_up (fun _ => none) 0 (some 35)) 1 (some 37)) 2 (some 39)) 3 (some 41) : Nat → Option Nat) = fun r => if r < 4 then some (35 + 2 * r) else none := by
  funext r
  match r with
  | 0 => exact rfl
  | 1 => exact rfl
  | 2 => exact rfl
  | 3 => exact rfl
  | r + 4 => rw [if_neg (by omega)]; simp (disch := omega) only [vn']
theorem mr11 : (va_up (va_up (va_up (fun _ => none) 0 (some 43)) 1 (some 51)) 2 (some 59) : Nat → Option Nat) = fun r => if r < 3 then some (43 + 8 * r) else none := by
  funext r
  match r with
  | 0 => exact rfl
  | 1 => exact rfl
  | 2 => exact rfl
  | r + 3 => rw [if_neg (by omega)]; simp (disch := omega) only [vn']
section EE
variable {L : Nat} {xs : Nat → Int32} {σ : Nat → Nat → Int32} {τ : Nat → Nat → Int64} {S : Nat}
theorem mm_hi {c : Nat} (h : 85 ≤ c) : mm L xs σ τ c = pm_M0 L xs c := by
  by_cases h0 : c = 1000
  · subst h0; rw [mm_r0]; rfl
  · by_cases h1 : c = 1001
    · subst h1; rw [mm_r1]; rfl
    · by_cases h2 : c = 1002
      · subst h2; rw [mm_r2]; rfl
      · have e : m_kd c = 99 := by
          unfold m_kd
          have a1 : Nat.ble (c + 1) 85 = false := by
            cases q : Nat.ble (c + 1) 85
            · rfl
            · have := Nat.le_of_ble_eq_true q; omega
          have a2 : ∀ n, c ≠ n → Nat.beq c n = false := fun n hn => by
            cases q : Nat.beq c n
            · rfl
            · exact absurd (Nat.eq_of_beq_eq_true q) hn
          rw [a1, a2 1000 h0, a2 1001 h1, a2 1002 h2]
          rfl
        unfold mm m_cell
        rw [e]
        unfold pm_M0
        rw [if_neg h0, if_neg h1, if_neg h2]
        rfl
set_option maxRecDepth 20000 in
set_option maxHeartbeats 4000000 in
theorem mem_eq : mem129 (va_up (mem47 (va_up (pm_M0 L xs) 0 dC)) 67 dR) = mm L xs s_1 t_1 := by
  funext k
  match k with
  | 0 => exact rfl
  | 1 => exact (show mem129 (va_up (mem47 (va_up (pm_M0 L xs) 0 dC)) 67 dR) 1 = (fun f : Nat → Option Nat => (.inl (2, 6, .inr (.inr (.inr (.inr f)))) : va_E)) (va_up (va_up (va_up (va_up (va_up (va_up (fun _ => none) 0 (some 23)) 1 (some 25)) 2 (some 27)) 3 (some 29)) 4 (some 31)) 5 (some 33)) from rfl).trans ((congrArg (fun f : Nat → Option Nat => (.inl (2, 6, .inr (.inr (.inr (.inr f)))) : va_E)) mr1).trans rfl)
  | 2 => exact (show mem129 (va_up (mem47 (va_up (pm_M0 L xs) 0 dC)) 67 dR) 2 = (fun f : Nat → Option Nat => (.inl (2, 4, .inr (.inr (.inr (.inr f)))) : va_E)) (va_up (va_up (va_up (va_up (fun _ => none) 0 (some 35)) 1 (some 37)) 2 (some 39)) 3 (some 41)) from rfl).trans ((congrArg (fun f : Nat → Option Nat => (.inl (2, 4, .inr (.inr (.inr (.inr f)))) : va_E)) mr2).trans rfl)
  | 3 => exact rfl
  | 4 => exact rfl
  | 5 => exact rfl
  | 6 => exact rfl
  | 7 => exact rfl
  | 8 => exact rfl
  | 9 => exact rfl
  | 10 => exact rfl
  | 11 => exact (show mem129 (va_up (mem47 (va_up (pm_M0 L xs) 0 dC)) 67 dR) 11 = (fun f : Nat → Option Nat => (.inl (3, 3, .inr (.inr (.inr (.inr f)))) : va_E)) (va_up (va_up (va_up (fun _ => none) 0 (some 43)) 1 (some 51)) 2 (some 59)) from rfl).trans ((congrArg (fun f : Nat → Option Nat => (.inl (3, 3, .inr (.inr (.inr (.inr f)))) : va_E)) mr11).trans rfl)
  | 12 => exact rfl
  | 13 => exact rfl
  | 14 => exact rfl
  | 15 => exact rfl
  | 16 => exact rfl
  | 17 => exact rfl
  | 18 => exact rfl
  | 19 => exact rfl
  | 20 => exact rfl
  | 21 => exact rfl
  | 22 => exact rfl
  | 23 => exact rfl
  | 24 => exact rfl
  | 25 => exact rfl
  | 26 => exact rfl
  | 27 => exact rfl
  | 28 => exact rfl
  | 29 => exact rfl
  | 30 => exact rfl
  | 31 => exact rfl
  | 32 => exact rfl
  | 33 => exact rfl
  | 34 => exact rfl
  | 35 => exact rfl
  | 36 => exact rfl
  | 37 => exact rfl
  | 38 => exact rfl
  | 39 => exact rfl
  | 40 => exact rfl
  | 41 => exact rfl
  | 42 => exact rfl
  | 43 => exact rfl
  | 44 => exact rfl
  | 45 => exact rfl
  | 46 => exact rfl
  | 47 => exact rfl
  | 48 => exact rfl
  | 49 => exact rfl
  | 50 => exact rfl
  | 51 => exact rfl
  | 52 => exact rfl
  | 53 => exact rfl
  | 54 => exact rfl
  | 55 => exact rfl
  | 56 => exact rfl
  | 57 => exact rfl
  | 58 => exact rfl
  | 59 => exact rfl
  | 60 => exact rfl
  | 61 => exact rfl
  | 62 => exact rfl
  | 63 => exact rfl
  | 64 => exact rfl
  | 65 => exact rfl
  | 66 => exact rfl
  | 67 => exact rfl
  | 68 => exact rfl
  | 69 => exact rfl
  | 70 => exact rfl
  | 71 => exact rfl
  | 72 => exact rfl
  | 73 => exact rfl
  | 74 => exact rfl
  | 75 => exact rfl
  | 76 => exact rfl
  | 77 => exact rfl
  | 78 => exact rfl
  | 79 => exact rfl
  | 80 => exact rfl
  | 81 => exact rfl
  | 82 => exact rfl
  | 83 => exact rfl
  | 84 => exact rfl
  | k + 85 =>
    rw [mm_hi (by omega)]
    unfold mem129 mem47
    simp (disch := omega) only [vn']
def s_2 : Nat → Nat → Int32 := va_up (va_up (va_up s_1 68 (fil (s_1 68) (-1) 6)) 70 (fil (s_1 70) (-1) 4)) 76 (nkq (s_1 76) 3)
theorem initR : pX 129 150 [.ref 67, .null] [] (mm L xs s_1 t_1) 85 S = some (none, mm L xs s_2 t_1, 85, S) := by
  have key1 := lp (δ := Unit) 6 (fun j _ => pX 129 152 [.ref 67, .int (nI j)] [] (mm L xs (va_up s_1 68 (fil (s_1 68) (-1) j)) t_1) 85 S) (pX 129 171 [.ref 67, .int (nI 6)] [] (mm L xs (va_up s_1 68 (fil (s_1 68) (-1) 6)) t_1) 85 S) (fun _ => by
    rw [show nI 6 = 6 from rfl]
    simp only [Nat.reduceAdd, i6_init_152, i6_init_153, i6_init_155, Int32.lt_irrefl, if_false]) (fun j hj _ => ⟨(), by
    have a : (nI j < 6) = True := nlt (b := 6) hj (by decide)
    rw [i6_init_152]
    simp only [Nat.reduceAdd, i6_init_153, i6_init_155, i6_init_158, i6_init_159, i6_init_162, i6_init_163, i6_init_164, i6_init_165, i6_init_168, a, if_true, k_68, l_68, ifb_i hj (by decide), cl (show j ≤ 5000 by omega), vs, vu, fil_s, nI_1]⟩)
  have key2 := lp (δ := Unit) 4 (fun j _ => pX 129 173 [.ref 67, .int (nI j)] [] (mm L xs (va_up (va_up s_1 68 (fil (s_1 68) (-1) 6)) 70 (fil (s_1 70) (-1) j)) t_1) 85 S) (some (none, mm L xs s_2 t_1, 85, S)) (fun _ => by
    rw [show nI 4 = 4 from rfl]
    simp only [Nat.reduceAdd, i6_init_173, i6_init_174, i6_init_175, i6_init_191, i6_init_192, i6_init_195, Int32.lt_irrefl, if_false, s6_nothingKept, pK_v, vn (show 76 ≠ 70 by decide), vn (show 76 ≠ 68 by decide), s_2]) (fun j hj _ => ⟨(), by
    have a : (nI j < 4) = True := nlt (b := 4) hj (by decide)
    rw [i6_init_173]
    simp only [Nat.reduceAdd, i6_init_174, i6_init_175, i6_init_178, i6_init_179, i6_init_182, i6_init_183, i6_init_184, i6_init_185, i6_init_188, a, if_true, k_70, l_70, ifb_i hj (by decide), cl (show j ≤ 5000 by omega), vs, vu, fil_s, nI_1]⟩)
  have k1 := key1 ()
  rw [fil_0, m_up_id, nI_0] at k1
  have k2 := key2 ()
  rw [fil_0, nI_0] at k2
  have e70 : va_up (va_up s_1 68 (fil (s_1 68) (-1) 6)) 70 (s_1 70) = va_up s_1 68 (fil (s_1 68) (-1) 6) := by
    have : (va_up s_1 68 (fil (s_1 68) (-1) 6)) 70 = s_1 70 := vn (by decide)
    rw [← this, m_up_id]
  rw [e70] at k2
  simp only [i6_init_150, i6_init_151]
  rw [k1]
  simp only [i6_init_171, i6_init_172]
  exact k2
theorem s2_n {c : Nat} (h1 : c ≠ 68) (h2 : c ≠ 70) (h3 : c ≠ 76) : s_2 c = s_1 c := by unfold s_2; rw [vn h3, vn h2, vn h1]
theorem s1_0 {c : Nat} (h : ¬ (23 ≤ c ∧ c ≤ 41 ∧ c % 2 = 1)) : s_1 c = fun _ => 0 := if_neg h
theorem s1_1 {c : Nat} (h : 23 ≤ c ∧ c ≤ 41 ∧ c % 2 = 1) : s_1 c = fun _ => -1 := if_pos h
theorem Rel_0 : Rel 0 0 s_2 t_1 := by
  have z : ∀ c, (c < 23 ∨ 41 < c ∨ c % 2 = 0) → c ≠ 68 → c ≠ 70 → c ≠ 76 → s_2 c = fun _ => 0 := fun c h h1 h2 h3 => by rw [s2_n h1 h2 h3, s1_0 (by omega)]
  have z68 : ∀ r, r < 6 → s_2 68 r = -1 := fun r hr => by
    unfold s_2; rw [vn (by decide), vn (by decide), vs]; exact if_pos hr
  have z70 : ∀ r, r < 4 → s_2 70 r = -1 := fun r hr => by
    unfold s_2; rw [vn (by decide), vs]; exact if_pos hr
  have z76 : ∀ r, r < 3 → s_2 76 (370 * r) = -1 := fun r hr => by
    unfold s_2; rw [vs]; exact nkq_z hr
  have i0 : inb 0 61 := ib (j := 0) (n := 61) (by decide) (by decide)
  refine ⟨⟨by decide, ?_, ?_, fun i hi => absurd hi (by omega), ⟨fun b hb => ?_, ⟨0, by decide, ?_, ?_⟩, ⟨0, Nat.le_refl _, ?_, ?_⟩⟩, fun _ => ⟨?_, rfl⟩⟩, ⟨by decide, ?_, ?_, fun j hj => absurd hj (by omega)⟩, fun k hk => Or.inl ⟨?_, z76 k hk⟩, fun r hr => ⟨?_, Or.inl (z68 r hr), fun i hi => ?_⟩, fun r hr => ⟨?_, Or.inl (z70 r hr), fun i hi => ?_⟩, ⟨?_, ?_, rfl, rfl, fun j hj => ?_⟩⟩
  · rw [z 4 (by omega) (by decide) (by decide) (by decide)]; rfl
  · rw [z 67 (by omega) (by decide) (by decide) (by decide)]; rfl
  · rw [z 7 (by omega) (by decide) (by decide) (by decide), z 74 (by omega) (by decide) (by decide) (by decide)]; exact ⟨rfl, i0⟩
  · rw [z 4 (by omega) (by decide) (by decide) (by decide)]; rfl
  · rw [z 74 (by omega) (by decide) (by decide) (by decide)]; rfl
  · rw [z 4 (by omega) (by decide) (by decide) (by decide)]; rfl
  · rw [z 74 (by omega) (by decide) (by decide) (by decide)]; rfl
  · rw [z 4 (by omega) (by decide) (by decide) (by decide)]
  · rw [z 3 (by omega) (by decide) (by decide) (by decide)]; rfl
  · rw [z 67 (by omega) (by decide) (by decide) (by decide)]; rfl
  · rw [z (43 + 8 * k + 1) (by omega) (by omega) (by omega) (by omega)]
  · rw [s2_n (by omega) (by omega) (by omega), s1_1 (by omega), z68 r hr]
  · rw [z (23 + 2 * r + 1) (by omega) (by omega) (by omega) (by omega), z 69 (by omega) (by decide) (by decide) (by decide)]
  · rw [s2_n (by omega) (by omega) (by omega), s1_1 (by omega), z70 r hr]
  · rw [z (35 + 2 * r + 1) (by omega) (by omega) (by omega) (by omega), z 71 (by omega) (by decide) (by decide) (by decide)]
  · rw [z 0 (by omega) (by decide) (by decide) (by decide), z 67 (by omega) (by decide) (by decide) (by decide)]
  · rw [z 0 (by omega) (by decide) (by decide) (by decide), z 67 (by omega) (by decide) (by decide) (by decide)]
  · rw [z 22 (by omega) (by decide) (by decide) (by decide), z 77 (by omega) (by decide) (by decide) (by decide)]
end EE
