/-! THE CALLS: bridge -/
theorem gc_ok {w : Nat → Int32} {m q0 : Nat} (hm : m ≤ 60) : ∀ n i, n + i = 6 → psq w m q0 i ≤ m → okp w m q0 i → rvq w m q0 n i = -9 → okp w m q0 (gcq w m q0 n i) ∧ 1 ≤ gcq w m q0 n i ∧ gcq w m q0 n i ≤ 6 := by
  intro n
  induction n with
  | zero =>
    intro i hn hps ho _
    have : i = 6 := by omega
    subst this
    exact ⟨ho, by show 1 ≤ 6; decide, by show 6 ≤ 6; decide⟩
  | succ n ih =>
    intro i hn hps ho hr
    by_cases hp : psq w m q0 i < m
    · have e2 : gcq w m q0 (n + 1) i = gcq w m q0 n (i + 1) := if_pos hp
      by_cases hf : gfq w m (psq w m q0 i) = -9
      · have e1 : rvq w m q0 (n + 1) i = rvq w m q0 n (i + 1) := by
          show (if _ then (if _ then _ else _) else _) = _
          rw [if_pos hp, if_pos hf]
        rw [e2]
        rw [e1] at hr
        refine ih (i + 1) (by omega) (ps_le hm hf (by omega)) (fun j hj => ?_) hr
        by_cases e : j = i
        · subst e; exact ⟨hp, hf⟩
        · exact ho j (by omega)
      · have e1 : rvq w m q0 (n + 1) i = gfq w m (psq w m q0 i) := by
          show (if _ then (if _ then _ else _) else _) = _
          rw [if_pos hp, if_neg hf]
        exact absurd (e1.symm.trans hr) hf
    · have e2 : gcq w m q0 (n + 1) i = i := if_neg hp
      have e1 : rvq w m q0 (n + 1) i = if i = 0 then nI (psq w m q0 i) else -9 := by
        show (if _ then (if _ then _ else _) else _) = _
        rw [if_neg hp]
      rw [e2]
      by_cases h0 : i = 0
      · rw [e1, if_pos h0] at hr
        exact absurd hr (nI_9n (by omega))
      · exact ⟨ho, by omega, by omega⟩
theorem kdq_6 {w : Nat → Int32} {m p : Nat} (h : ¬ kdq w m p = -9) : kd6 (kdq w m p) := by
  unfold kdq at h ⊢
  split
  · rename_i hp
    rw [if_pos hp] at h
    unfold kdf at h ⊢
    unfold kd6
    split
    · exact Or.inl rfl
    · split
      · exact Or.inr (Or.inl rfl)
      · split
        · exact Or.inr (Or.inr (Or.inl rfl))
        · split
          · exact Or.inr (Or.inr (Or.inr (Or.inl rfl)))
          · split
            · exact Or.inr (Or.inr (Or.inr (Or.inr (Or.inl rfl))))
            · split
              · exact Or.inr (Or.inr (Or.inr (Or.inr (Or.inr rfl))))
              · exfalso
                rename_i u1 u2 u3 u4 u5 u6
                rw [if_neg u1, if_neg u2, if_neg u3, if_neg u4, if_neg u5, if_neg u6] at h
                exact h rfl
  · rename_i hp
    rw [if_neg hp] at h
    exact absurd rfl h
theorem fgq_r {w : Nat → Int32} {m p : Nat} (h : ¬ fgq w m p = -9) : 0 ≤ (fgq w m p).toInt ∧ (fgq w m p).toInt ≤ 9 := by
  rcases is_v (w := w) (m := m) (p := p) with ⟨e, _⟩ | ⟨e, h1, h2⟩
  · exact absurd e h
  · rw [e]
    have z0 : (0 : Int32).toInt = 0 := rfl
    have z9 : (9 : Int32).toInt = 9 := rfl
    rw [Int32.lt_iff_toInt_lt] at h1 h2
    omega
theorem lvf_i {w : Nat → Int32} {m p : Nat} (hp : p ≤ 200) (h : lfq w m p = -9) : inb (lvf w m p) 61 := by
  obtain ⟨_, h1, h2, h3⟩ := lfq_p hp h
  obtain ⟨a1, a2⟩ := fgq_r h1
  obtain ⟨b1, b2⟩ := fgq_r h2
  have z60 : (60 : Int32).toInt = 60 := rfl
  have z10 : (10 : Int32).toInt = 10 := rfl
  have e : (lvf w m p).toInt = 10 * (fgq w m p).toInt + (fgq w m (p + 1)).toInt := by
    unfold lvf
    have e1 : (10 * fgq w m p).toInt = 10 * (fgq w m p).toInt := by
      rw [Int32.toInt_mul, z10]
      simp only [Int.bmod]; omega
    rw [ti_add (by omega) (by omega) (by omega) (by omega), e1]
  rw [Int32.lt_iff_toInt_lt, z60, e] at h3
  rw [inb_ti (by decide), e]
  omega
theorem orq_n {w : Nat → Int32} {m q0 : Nat} (hm : m ≤ 60) : ∀ i, i ≤ 6 → okp w m q0 i → ∃ q, q < 2 ^ i ∧ orq w m q0 i = nI q := by
  intro i
  induction i with
  | zero => intro _ _; exact ⟨0, by decide, rfl⟩
  | succ i ih =>
    intro hi ho
    obtain ⟨q, h1, h2⟩ := ih (by omega) (fun j hj => ho j (by omega))
    have h64 := (p2_64 (g := i) (by omega)).1
    have hl : 2 ^ i ≤ 2 ^ (i + 1) := Nat.pow_le_pow_right (by decide) (by omega)
    obtain ⟨o1, o2⟩ := ho i (by omega)
    have hb := (gfq_p (by omega) o2).2.2.2.1
    have e : orq w m q0 (i + 1) = orq w m q0 i ||| (fgq w m (psq w m q0 i + 2) <<< (nI i &&& 31)) := rfl
    rcases hb with hb | hb
    · refine ⟨q, by omega, ?_⟩
      rw [e, h2, hb, zshl (by omega), Int32.or_zero]
    · refine ⟨q ||| 2 ^ i, Nat.or_lt_two_pow (by omega) (Nat.pow_lt_pow_right (by decide) (by omega)), ?_⟩
      rw [e, h2, hb]
      exact or_sh (by omega) (by omega)
section EB
variable {L : Nat} {xs : Nat → Int32} {σ e : Nat → Nat → Int32} {τ : Nat → Nat → Int64} {S g d k m p i : Nat} {w : Nat → Int32}
def kzq (σ : Nat → Nat → Int32) : Nat → Nat → Nat → Int32
  | 0 => σ
  | j + 1 => va_up (kzq σ j) (43 + 8 * j + 1) (upd (kzq σ j (43 + 8 * j + 1)) 3 0)
def nkq (f : Nat → Int32) : Nat → Nat → Int32
  | 0 => f
  | j + 1 => upd (nkq f j) (370 * j) (-1)
theorem kzq_n {c : Nat} (h : c ≠ 44 ∧ c ≠ 52 ∧ c ≠ 60) : kzq σ 3 c = σ c := by
  show va_up (kzq σ 2) (43 + 8 * 2 + 1) _ c = σ c
  rw [vn (by omega)]
  show va_up (kzq σ 1) (43 + 8 * 1 + 1) _ c = σ c
  rw [vn (by omega)]
  show va_up (kzq σ 0) (43 + 8 * 0 + 1) _ c = σ c
  rw [vn (by omega)]
  rfl
theorem kzq_z {k : Nat} (hk : k < 3) : kzq σ 3 (43 + 8 * k + 1) 3 = 0 := by
  have : k = 0 ∨ k = 1 ∨ k = 2 := by omega
  rcases this with rfl | rfl | rfl
  · show va_up (kzq σ 2) (43 + 8 * 2 + 1) _ 44 3 = 0
    rw [vn (by decide)]
    show va_up (kzq σ 1) (43 + 8 * 1 + 1) _ 44 3 = 0
    rw [vn (by decide)]
    show va_up (kzq σ 0) 44 _ 44 3 = 0
    rw [vs, us]
  · show va_up (kzq σ 2) (43 + 8 * 2 + 1) _ 52 3 = 0
    rw [vn (by decide)]
    show va_up (kzq σ 1) 52 _ 52 3 = 0
    rw [vs, us]
  · show va_up (kzq σ 2) 60 _ 60 3 = 0
    rw [vs, us]
theorem nkq_z {f : Nat → Int32} {k : Nat} (hk : k < 3) : nkq f 3 (370 * k) = -1 := by
  have : k = 0 ∨ k = 1 ∨ k = 2 := by omega
  rcases this with rfl | rfl | rfl <;> rfl
theorem kzC {t : Int32} : pX 57 61 [.ref 0, .int t, .int 0] [] (mm L xs σ τ) 85 S = pX 57 85 [.ref 0, .int t, .int (nI 3)] [] (mm L xs (kzq σ 3) τ) 85 S := by
  have key := lp (δ := Unit) 3 (fun j _ => pX 57 61 [.ref 0, .int t, .int (nI j)] [] (mm L xs (kzq σ j) τ) 85 S) (pX 57 85 [.ref 0, .int t, .int (nI 3)] [] (mm L xs (kzq σ 3) τ) 85 S) (fun _ => by
    rw [show nI 3 = 3 from rfl]
    simp only [Nat.reduceAdd, i5_bridge_61, i5_bridge_62, i5_bridge_63, Int32.lt_irrefl, if_false]) (fun j hj _ => ⟨(), by
    have a : (nI j < 3) = True := nlt (b := 3) hj (by decide)
    have e : kzq σ (j + 1) = va_up (kzq σ j) (43 + 8 * j + 1) (upd (kzq σ j (43 + 8 * j + 1)) 3 0) := rfl
    rw [e, i5_bridge_61]
    simp only [Nat.reduceAdd, i5_bridge_62, i5_bridge_63, i5_bridge_66, i5_bridge_67, i5_bridge_70, i5_bridge_71_r1, i5_bridge_71_r2, i5_bridge_71_r11, i5_bridge_72, i5_bridge_75, i5_bridge_76, i5_bridge_79, i5_bridge_82, a, if_true, br_k hj, st_k (br_s hj), ifb_i hj (by decide), cl (show j ≤ 5000 by omega), nI_1]⟩)
  have kk := key ()
  rw [nI_0] at kk
  exact kk
theorem s6_nothingKept : pX 130 0 [.ref 67, .null] [] (mm L xs σ τ) 85 S = some (none, mm L xs (va_up σ 76 (nkq (σ 76) 3)) τ, 85, S) := by
  have key := lp (δ := Unit) 3 (fun j _ => pX 130 2 [.ref 67, .int (nI j)] [] (mm L xs (va_up σ 76 (nkq (σ 76) j)) τ) 85 S) (some (none, mm L xs (va_up σ 76 (nkq (σ 76) 3)) τ, 85, S)) (fun _ => by
    rw [show nI 3 = 3 from rfl]
    simp only [Nat.reduceAdd, i6_nothingKept_2, i6_nothingKept_3, i6_nothingKept_4, i6_nothingKept_24, Int32.lt_irrefl, if_false]) (fun j hj _ => ⟨(), by
    have a : (nI j < 3) = True := nlt (b := 3) hj (by decide)
    have e370 : (370 : Int32) * nI j = nI (370 * j) := pk_mul 370 j
    have e : nkq (σ 76) (j + 1) = upd (nkq (σ 76) j) (370 * j) (-1) := rfl
    rw [e, i6_nothingKept_2]
    simp only [Nat.reduceAdd, i6_nothingKept_3, i6_nothingKept_4, i6_nothingKept_7, i6_nothingKept_8, i6_nothingKept_11, i6_nothingKept_14, i6_nothingKept_15, i6_nothingKept_16, i6_nothingKept_17, i6_nothingKept_18, i6_nothingKept_21, i6_nothingKept_24, a, if_true, k_76, l_76, e370, ifb_i (show 370 * j < 1110 by omega) (by decide), cl (show 370 * j ≤ 5000 by omega), vs, vu, nI_1]⟩)
  have kk := key ()
  rw [nI_0] at kk
  have e0 : nkq (σ 76) 0 = σ 76 := rfl
  rw [e0, m_up_id] at kk
  simp only [Nat.reduceAdd, i6_nothingKept_0, i6_nothingKept_1]
  exact kk
theorem op_bridge {r : Int32} : opI L xs S (fun M => pX 57 0 [.ref 0, .int r, .null] [] M 85 S) (fun M => pX 158 0 [.ref 67, .int r] [] M 85 S) := by
  intro g d σ τ R
  by_cases hr : inb r 4
  · obtain ⟨k, hk, rfl⟩ := inb_of hr (by decide)
    obtain ⟨e1, e2, e3⟩ := R.2.2.2.2.1 k hk
    have hS : ∀ {α : Type} {a b : α}, ifb (nI k) 4 a b = a := ifb_i hk (by decide)
    have hC := cl (show k ≤ 5000 by omega)
    rcases e2 with h | ⟨m, hm, h⟩
    · have q : (-1 : Int32) < 0 := by decide
      apply op_of
      · simp only [Nat.reduceAdd, i5_bridge_0, i5_bridge_1, i5_bridge_4, i5_bridge_7, i5_bridge_8, i5_bridge_9, i5_bridge_10, i5_bridge_13, i5_bridge_14_r1, i5_bridge_14_r2, i5_bridge_14_r11, i5_bridge_15, i5_bridge_18, i5_bridge_21, i5_bridge_22, i5_bridge_23, i5_bridge_26, i5_bridge_27, i5_bridge_28, i5_bridge_31, i5_bridge_32_r1, i5_bridge_32_r2, i5_bridge_32_r11, i5_bridge_33, i5_bridge_34, i5_bridge_37, i5_bridge_40, i5_bridge_42, i5_bridge_45, i5_bridge_47, i5_bridge_48, i5_bridge_49, i5_bridge_52, i5_bridge_53, i5_bridge_56, i5_bridge_59, i5_bridge_60, i2_isThere_0, i2_isThere_1, i2_isThere_4, i2_isThere_5, i2_isThere_8, i2_isThere_9, i2_isThere_12, i2_isThere_13, s5_isText, pK_i, bi_0, hr, if_true, if_false, not_true_eq_false, not_false_eq_true, true_or, or_true, hS, hC, te_k hk, e1, h, rf1]; rfl
      · simp (decide := true) only [Nat.reduceAdd, i6_bridge_0, i6_bridge_1, i6_bridge_2, i6_bridge_5, i6_bridge_8, i6_bridge_9, i6_bridge_10, i6_bridge_11, i6_bridge_14, i6_bridge_15, i6_bridge_16, i6_bridge_19, i6_bridge_20, i6_bridge_21, i6_bridge_24, i6_bridge_25, i6_bridge_26, i6_bridge_27, i6_bridge_30, i6_bridge_32, i6_bridge_35, i6_bridge_37, i6_bridge_38, i6_bridge_39, i6_bridge_40, i6_bridge_43, i6_bridge_46, i6_bridge_47, i6_bridge_50, i6_bridge_51, i6_bridge_52, i6_bridge_55, i6_bridge_56, i6_bridge_58, i6_bridge_61, i6_bridge_62, i6_bridge_65, i6_bridge_66, i6_bridge_67, i6_bridge_70, i6_bridge_71, i6_bridge_73, i6_bridge_76, i6_bridge_77, i6_bridge_80, i6_bridge_81, i6_bridge_82, i6_bridge_85, i6_bridge_86, i6_bridge_88, i6_bridge_91, i6_bridge_92, i6_bridge_93, i6_bridge_96, i6_bridge_97, i6_bridge_100, i6_bridge_101, i6_bridge_104, s6_isText, pK_i, bi_0, hr, if_true, if_false, not_true_eq_false, not_false_eq_true, true_or, or_true, k_70, l_70, hS, hC, fC, vn', h, q, fd1]; rfl
      · exact Rel_f R 1
    · have q : ¬ nI m < 0 := nI_pos (by omega)
      have q2 : ¬ nI m = -1 := fun e => q (by rw [e]; decide)
      obtain ⟨t1, t2⟩ := qT_t R hk hm h
      obtain ⟨w, hw⟩ : ∃ w : Nat → Int32, w = fun i => σ 71 (60 * k + i) := ⟨_, rfl⟩
      rw [← hw] at t1 t2
      obtain ⟨σ1, p1, a1, sg⟩ := s1_read (L := L) (xs := xs) (τ := τ) (S := S) t1
      have e70 : σ1 70 = σ 70 := a1.1 70 (by unfold scr; omega) (by decide)
      have e71 : σ1 71 = σ 71 := a1.1 71 (by unfold scr; omega) (by decide)
      by_cases hrd : rdq w m = -9
      · have sg' := sg hrd
        have b0 := (bbf_le (w := w) (m := m) 61 0).2 (Nat.zero_le _)
        have eb : bbf w m 61 0 = bbq w m 0 := rfl
        rw [eb] at b0
        have hrd' := hrd
        unfold rdq at hrd'
        generalize hpp : bbq w m 0 = p at b0 sg' hrd'
        have hc : cbq w m p = 104 := by
          apply Classical.byContradiction
          intro hc
          rw [if_neg hc] at hrd'
          exact nI_9n (by omega) hrd'
        rw [if_pos hc] at hrd'
        have hl : lfq w m (p + 1) = -9 := by
          apply Classical.byContradiction
          intro hl
          rw [if_neg hl] at hrd'
          exact hl hrd'
        rw [if_pos hl] at hrd'
        have hl2 := lfq_p (show p + 1 ≤ 200 by omega) hl
        generalize hq0 : bbq w m (p + 3) = q0 at sg' hrd'
        have hq0m : q0 ≤ m := by rw [← hq0]; exact (bbf_le 61 (p + 3)).2 (by omega)
        obtain ⟨ok, gp1, gp6⟩ := gc_ok hm 6 0 (by decide) (show psq w m q0 0 ≤ m from hq0m) (fun j hj => absurd hj (by omega)) hrd'
        generalize hG : gcq w m q0 6 0 = G at sg' ok gp1 gp6
        obtain ⟨_, s0, s3, s4, s5, s15, sj⟩ := sg'
        obtain ⟨E2, hE2⟩ : ∃ x, x = tk σ1 4 12 := ⟨_, rfl⟩
        obtain ⟨E3, hE3⟩ : ∃ x, x = va_up E2 3 (upd (E2 3) 4 0) := ⟨_, rfl⟩
        obtain ⟨E4, hE4⟩ : ∃ x, x = kzq E3 3 := ⟨_, rfl⟩
        have tf := s4_takeFrom (L := L) (xs := xs) (σ := σ1) (τ := τ) (S := S) a_4 a_12 (by decide)
        rw [← hE2] at tf
        have n4 : ∀ c, c ≠ 3 → c ≠ 4 → c ≠ 5 → c ≠ 6 → c ≠ 7 → c ≠ 44 → c ≠ 52 → c ≠ 60 → E4 c = σ1 c := by
          intro c h1 h2 h3 h4 h5 h6 h7 h8
          rw [hE4, kzq_n ⟨h6, h7, h8⟩, hE3, vn h1, hE2, tk_n (by omega)]
        have c43 : E4 4 = upd (upd (upd (σ1 4) 3 (σ1 12 3)) 4 (σ1 12 4)) 5 (σ1 12 5) := by rw [hE4, kzq_n (by decide), hE3, vn (by decide), hE2]; unfold tk; rw [vs]
        have c5 : E4 5 = va_cpy (σ1 13) (σ1 5) 0 0 6 := by rw [hE4, kzq_n (by decide), hE3, vn (by decide), hE2]; unfold tk; rw [vn (by decide), vn (by decide), vn (by decide), vs]
        have c6 : E4 6 = va_cpy (σ1 14) (σ1 6) 0 0 6 := by rw [hE4, kzq_n (by decide), hE3, vn (by decide), hE2]; unfold tk; rw [vn (by decide), vn (by decide), vs]
        have c7 : E4 7 = va_cpy (σ1 15) (σ1 7) 0 0 7 := by rw [hE4, kzq_n (by decide), hE3, vn (by decide), hE2]; unfold tk; rw [vn (by decide), vs]
        have c3 : E4 3 4 = 0 := by rw [hE4, kzq_n (by decide), hE3, vs, us]
        have g4 : E4 4 3 = nI G := by rw [c43, un (by decide), un (by decide), us]; exact s3
        have g3 : E3 4 3 = nI G := by rw [hE4, kzq_n (by decide)] at g4; exact g4
        have e4s : ∀ c, 66 < c → E4 c = σ c := fun c hc => by rw [n4 c (by omega) (by omega) (by omega) (by omega) (by omega) (by omega) (by omega) (by omega)]; exact s0 c (Or.inr (by omega))
        have t3 : rtx w k m E4 := by unfold rtx; rw [e4s 70 (by decide), e4s 71 (by decide)]; exact t2
        obtain ⟨E5, p5, r5, sr⟩ := s6_readBridge (L := L) (xs := xs) (τ := τ) (S := S) t3
        have sr' := sr hrd
        rw [hpp, hq0, hG] at sr'
        obtain ⟨z19, z7', z8', z0', zj⟩ := sr'
        obtain ⟨E6, hE6⟩ : ∃ x, x = va_up E5 67 (upd (E5 67) 4 (nI G)) := ⟨_, rfl⟩
        obtain ⟨E7, hE7⟩ : ∃ x, x = va_up E6 72 (va_cpy (E6 78) (E6 72) 0 0 6) := ⟨_, rfl⟩
        obtain ⟨E8, hE8⟩ : ∃ x, x = va_up E7 73 (va_cpy (E7 79) (E7 73) 0 0 6) := ⟨_, rfl⟩
        obtain ⟨E9, hE9⟩ : ∃ x, x = va_up E8 74 (va_cpy (E8 80) (E8 74) 0 0 9) := ⟨_, rfl⟩
        obtain ⟨E10, hE10⟩ : ∃ x, x = va_up E9 67 (upd (E9 67) 8 0) := ⟨_, rfl⟩
        obtain ⟨E11, hE11⟩ : ∃ x, x = va_up E10 76 (nkq (E10 76) 3) := ⟨_, rfl⟩
        have br1 := s6_bring (L := L) (xs := xs) (σ := E6) (τ := τ) (S := S) (a := 78) (b := 72) (i := 0) (j := 0) (n := 6) k_78 k_72 (by decide) (by decide +kernel) (by decide +kernel) (by decide +kernel) (by decide +kernel)
        have br2 := s6_bring (L := L) (xs := xs) (σ := E7) (τ := τ) (S := S) (a := 79) (b := 73) (i := 0) (j := 0) (n := 6) k_79 k_73 (by decide) (by decide +kernel) (by decide +kernel) (by decide +kernel) (by decide +kernel)
        have br3 := s6_bring (L := L) (xs := xs) (σ := E8) (τ := τ) (S := S) (a := 80) (b := 74) (i := 0) (j := 0) (n := 9) k_80 k_74 (by decide) (by decide +kernel) (by decide +kernel) (by decide +kernel) (by decide +kernel)
        rw [nI_0, show nI 6 = 6 from rfl, ← hE7] at br1
        rw [nI_0, show nI 6 = 6 from rfl, ← hE8] at br2
        rw [nI_0, show nI 9 = 9 from rfl, ← hE9] at br3
        have nk := s6_nothingKept (L := L) (xs := xs) (σ := E10) (τ := τ) (S := S)
        rw [← hE11] at nk
        have x67 : E11 67 = upd (upd (E5 67) 4 (nI G)) 8 0 := by rw [hE11, vn (by decide), hE10, vs, hE9, vn (by decide), hE8, vn (by decide), hE7, vn (by decide), hE6, vs]
        have x72 : E11 72 = va_cpy (E5 78) (E5 72) 0 0 6 := by rw [hE11, vn (by decide), hE10, vn (by decide), hE9, vn (by decide), hE8, vn (by decide), hE7, vs, hE6, vn (by decide), vn (by decide)]
        have x73 : E11 73 = va_cpy (E5 79) (E5 73) 0 0 6 := by rw [hE11, vn (by decide), hE10, vn (by decide), hE9, vn (by decide), hE8, vs, hE7, vn (by decide), vn (by decide), hE6, vn (by decide), vn (by decide)]
        have x74 : E11 74 = va_cpy (E5 80) (E5 74) 0 0 9 := by rw [hE11, vn (by decide), hE10, vn (by decide), hE9, vs, hE8, vn (by decide), vn (by decide), hE7, vn (by decide), vn (by decide), hE6, vn (by decide), vn (by decide)]
        have x76 : ∀ j, j < 3 → E11 76 (370 * j) = -1 := fun j hj => by rw [hE11, vs]; exact nkq_z hj
        have xn : ∀ c, c ≠ 67 → c ≠ 72 → c ≠ 73 → c ≠ 74 → c ≠ 76 → c ≠ 78 → c ≠ 79 → c ≠ 80 → E11 c = E4 c := by
          intro c h1 h2 h3 h4 h5 h6 h7 h8
          rw [hE11, vn h5, hE10, vn h1, hE9, vn h4, hE8, vn h3, hE7, vn h2, hE6, vn h1]
          exact r5.1 c h1 h6 h7 h8
        have xs_ : ∀ c, c < 3 ∨ (7 < c ∧ c < 12) ∨ (15 < c ∧ c < 44) ∨ (60 < c ∧ c < 67) ∨ (67 < c ∧ c < 72) ∨ c = 75 ∨ c = 77 → E11 c = σ c := by
          intro c hc
          rw [xn c (by omega) (by omega) (by omega) (by omega) (by omega) (by omega) (by omega) (by omega), n4 c (by omega) (by omega) (by omega) (by omega) (by omega) (by omega) (by omega) (by omega)]
          exact s0 c (by omega)
        have gf := fun j (hj : j < G) => gfq_p (show psq w m q0 j ≤ 100 by have := (ok j hj).1; omega) (ok j hj).2
        refine op_of (v := nI G) (σ1 := E4) (σ2 := E11) (τ1 := τ) (τ2 := τ) (g := G) (d := 0) ?_ ?_ ?_
        · rw [hrd] at p1
          have m9 : ((-9 : Int32) = -9) = True := by decide
          have kz := kzC (L := L) (xs := xs) (σ := E3) (τ := τ) (S := S) (t := nI k)
          rw [← hE4] at kz
          simp only [Nat.reduceAdd, i5_bridge_0, i5_bridge_1, i5_bridge_4, i5_bridge_7, i5_bridge_8, i5_bridge_9, i5_bridge_10, i5_bridge_13, i5_bridge_14_r1, i5_bridge_14_r2, i5_bridge_14_r11, i5_bridge_15, i5_bridge_18, i5_bridge_21, i5_bridge_22, i5_bridge_23, i5_bridge_26, i5_bridge_27, i5_bridge_28, i5_bridge_31, i5_bridge_32_r1, i5_bridge_32_r2, i5_bridge_32_r11, i5_bridge_33, i5_bridge_34, i5_bridge_37, i5_bridge_40, i5_bridge_42, i5_bridge_45, i5_bridge_47, i5_bridge_48, i5_bridge_49, i5_bridge_52, i5_bridge_53, i5_bridge_56, i5_bridge_59, i5_bridge_60, i2_isThere_0, i2_isThere_1, i2_isThere_4, i2_isThere_5, i2_isThere_8, i2_isThere_9, i2_isThere_12, i2_isThere_13, i0_start_0, i0_start_1, i0_start_4, i0_start_5, i0_start_8, i0_start_9, i0_start_10, i0_start_13, s5_isText, p1, m9, tf, ← hE3, k_3, k_4, kz, pK_i, pK_v, bi_0, hr, if_true, if_false, not_true_eq_false, not_false_eq_true, true_or, or_true, hS, hC, te_k hk, e1, h, q2, n10]
          simp only [Nat.reduceAdd, i5_bridge_85, i5_bridge_86, i5_bridge_89, i5_bridge_92, i5_bridge_95, k_3, k_4, g4]
        · rw [hrd] at p5
          have m9 : ((-9 : Int32) = -9) = True := by decide
          have e70' : E4 70 = σ 70 := e4s 70 (by decide)
          simp only [Nat.reduceAdd, i6_bridge_0, i6_bridge_1, i6_bridge_2, i6_bridge_5, i6_bridge_8, i6_bridge_9, i6_bridge_10, i6_bridge_11, i6_bridge_14, i6_bridge_15, i6_bridge_16, i6_bridge_19, i6_bridge_20, i6_bridge_21, i6_bridge_24, i6_bridge_25, i6_bridge_26, i6_bridge_27, i6_bridge_30, i6_bridge_32, i6_bridge_35, i6_bridge_37, i6_bridge_38, i6_bridge_39, i6_bridge_40, i6_bridge_43, i6_bridge_46, i6_bridge_47, i6_bridge_50, i6_bridge_51, i6_bridge_52, i6_bridge_55, i6_bridge_56, i6_bridge_58, i6_bridge_61, i6_bridge_62, i6_bridge_65, i6_bridge_66, i6_bridge_67, i6_bridge_70, i6_bridge_71, i6_bridge_73, i6_bridge_76, i6_bridge_77, i6_bridge_80, i6_bridge_81, i6_bridge_82, i6_bridge_85, i6_bridge_86, i6_bridge_88, i6_bridge_91, i6_bridge_92, i6_bridge_93, i6_bridge_96, i6_bridge_97, i6_bridge_100, i6_bridge_101, i6_bridge_104, s6_isText, p5, m9, z19, ← hE6, br1, br2, br3, ← hE10, nk, x67, us, un (show (4 : Nat) ≠ 8 by decide), pK_i, pK_v, bi_0, hr, if_true, if_false, not_true_eq_false, not_false_eq_true, true_or, or_true, k_70, l_70, hS, hC, e70', h, q]
        · obtain ⟨b1, b2, b3, b4, b5, b6⟩ := R
          refine ⟨⟨gp6, ?_, ?_, fun j hj => ?_, ⟨fun b hb => ?_, ?_, ⟨0, Nat.le_refl _, ?_, ?_⟩⟩, fun q => absurd q (by omega)⟩, ⟨by decide, ?_, ?_, fun j hj => absurd hj (by omega)⟩, fun j hj => Or.inl ⟨?_, x76 j hj⟩, qR_c (fun c hc => xs_ c (by omega)) b4, qT_c (fun c hc => xs_ c (by omega)) b5, qS_c (xs_ 0 (by omega)) ?_ ?_ (xs_ 22 (by omega)) (xs_ 77 (by omega)) b6⟩
          · rw [xn 4 (by decide) (by decide) (by decide) (by decide) (by decide) (by decide) (by decide) (by decide)]; exact g4
          · rw [x67, un (by decide), us]
          · obtain ⟨y1, y2, y3⟩ := sj j hj
            obtain ⟨u1, u2, u3⟩ := zj j hj
            obtain ⟨v1, v2, v3, v4, v5⟩ := gf j hj
            rw [xn 5 (by decide) (by decide) (by decide) (by decide) (by decide) (by decide) (by decide) (by decide), xn 6 (by decide) (by decide) (by decide) (by decide) (by decide) (by decide) (by decide) (by decide), c5, c6, x72, x73, cpy_at _ _ (by omega), cpy_at _ _ (by omega), cpy_at _ _ (by omega), cpy_at _ _ (by omega), y1, y2, u1, u2]
            refine ⟨rfl, rfl, kdq_6 v2, ?_⟩
            have n9 : ¬ fgq w m (psq w m q0 j + 1) = -9 := fun q => v3 (by rw [q]; decide)
            have fr := fgq_r n9
            have z1 : (1 : Int32).toInt = 1 := rfl
            rw [Int32.lt_iff_toInt_lt, z1] at v3
            exact ⟨by omega, by omega⟩
          · rw [xn 7 (by decide) (by decide) (by decide) (by decide) (by decide) (by decide) (by decide) (by decide), c7, x74, cpy_at _ _ (by omega), cpy_at _ _ (by omega)]
            cases b with
            | zero => rw [s15, z0']; exact ⟨rfl, lvf_i (by omega) hl⟩
            | succ j =>
              obtain ⟨_, _, y3⟩ := sj j (by omega)
              obtain ⟨_, _, u3⟩ := zj j (by omega)
              have o1 := (ok j (by omega)).1
              rw [y3, u3]
              exact ⟨rfl, lvf_i (by omega) (gf j (by omega)).2.2.2.2⟩
          · obtain ⟨o, ho, eo⟩ := orq_n hm G gp6 ok
            refine ⟨o, ho, ?_, ?_⟩
            · rw [xn 4 (by decide) (by decide) (by decide) (by decide) (by decide) (by decide) (by decide) (by decide), c43, un (by decide), us, s4]; exact eo
            · rw [x74, cpy_at _ _ (by decide), z7']; exact eo
          · rw [xn 4 (by decide) (by decide) (by decide) (by decide) (by decide) (by decide) (by decide) (by decide), c43, us, s5]; rfl
          · rw [x74, cpy_at _ _ (by decide), z8']; rfl
          · rw [xn 3 (by decide) (by decide) (by decide) (by decide) (by decide) (by decide) (by decide) (by decide)]; exact c3
          · rw [x67, us]; rfl
          · rw [xn (43 + 8 * j + 1) (by omega) (by omega) (by omega) (by omega) (by omega) (by omega) (by omega) (by omega), hE4]; exact kzq_z hj
          · rw [x67, un (by decide), un (by decide), r5.2 11 (by omega), e4s 67 (by decide)]
          · rw [x67, un (by decide), un (by decide), r5.2 14 (by omega), e4s 67 (by decide)]
      · have t3 : rtx w k m σ1 := by unfold rtx; rw [e70, e71]; exact t2
        obtain ⟨σ2, p2, a2, _⟩ := s6_readBridge (L := L) (xs := xs) (τ := τ) (S := S) t3
        refine op_of (v := -4) (σ1 := σ1) (τ1 := τ) ?_ ?_ (Rel_agr (RT_agr a2) (Rel_agr a1 R))
        · simp only [Nat.reduceAdd, i5_bridge_0, i5_bridge_1, i5_bridge_4, i5_bridge_7, i5_bridge_8, i5_bridge_9, i5_bridge_10, i5_bridge_13, i5_bridge_14_r1, i5_bridge_14_r2, i5_bridge_14_r11, i5_bridge_15, i5_bridge_18, i5_bridge_21, i5_bridge_22, i5_bridge_23, i5_bridge_26, i5_bridge_27, i5_bridge_28, i5_bridge_31, i5_bridge_32_r1, i5_bridge_32_r2, i5_bridge_32_r11, i5_bridge_33, i5_bridge_34, i5_bridge_37, i5_bridge_40, i5_bridge_42, i5_bridge_45, i5_bridge_47, i5_bridge_48, i5_bridge_49, i5_bridge_52, i5_bridge_53, i5_bridge_56, i5_bridge_59, i5_bridge_60, i2_isThere_0, i2_isThere_1, i2_isThere_4, i2_isThere_5, i2_isThere_8, i2_isThere_9, i2_isThere_12, i2_isThere_13, s5_isText, p1, pK_i, bi_0, hr, if_true, if_false, not_true_eq_false, not_false_eq_true, true_or, or_true, hS, hC, te_k hk, e1, h, q2, n10, hrd]
        · simp only [Nat.reduceAdd, i6_bridge_0, i6_bridge_1, i6_bridge_2, i6_bridge_5, i6_bridge_8, i6_bridge_9, i6_bridge_10, i6_bridge_11, i6_bridge_14, i6_bridge_15, i6_bridge_16, i6_bridge_19, i6_bridge_20, i6_bridge_21, i6_bridge_24, i6_bridge_25, i6_bridge_26, i6_bridge_27, i6_bridge_30, i6_bridge_32, i6_bridge_35, i6_bridge_37, i6_bridge_38, i6_bridge_39, i6_bridge_40, i6_bridge_43, i6_bridge_46, i6_bridge_47, i6_bridge_50, i6_bridge_51, i6_bridge_52, i6_bridge_55, i6_bridge_56, i6_bridge_58, i6_bridge_61, i6_bridge_62, i6_bridge_65, i6_bridge_66, i6_bridge_67, i6_bridge_70, i6_bridge_71, i6_bridge_73, i6_bridge_76, i6_bridge_77, i6_bridge_80, i6_bridge_81, i6_bridge_82, i6_bridge_85, i6_bridge_86, i6_bridge_88, i6_bridge_91, i6_bridge_92, i6_bridge_93, i6_bridge_96, i6_bridge_97, i6_bridge_100, i6_bridge_101, i6_bridge_104, s6_isText, p2, pK_i, bi_0, hr, if_true, if_false, not_true_eq_false, not_false_eq_true, true_or, or_true, k_70, l_70, hS, hC, e70, h, q, hrd]
  · apply op_of
    · simp only [Nat.reduceAdd, i5_bridge_0, i5_bridge_1, i5_bridge_4, i5_bridge_7, i5_bridge_8, i5_bridge_9, i5_bridge_10, i5_bridge_13, i5_bridge_14_r1, i5_bridge_14_r2, i5_bridge_14_r11, i5_bridge_15, i5_bridge_18, i5_bridge_21, i5_bridge_22, i5_bridge_23, i5_bridge_26, i5_bridge_27, i5_bridge_28, i5_bridge_31, i5_bridge_32_r1, i5_bridge_32_r2, i5_bridge_32_r11, i5_bridge_33, i5_bridge_34, i5_bridge_37, i5_bridge_40, i5_bridge_42, i5_bridge_45, i5_bridge_47, i5_bridge_48, i5_bridge_49, i5_bridge_52, i5_bridge_53, i5_bridge_56, i5_bridge_59, i5_bridge_60, s5_isText, pK_i, bi_0, hr, if_true, if_false, not_true_eq_false, not_false_eq_true, true_or, or_true]; rfl
    · simp only [Nat.reduceAdd, i6_bridge_0, i6_bridge_1, i6_bridge_2, i6_bridge_5, i6_bridge_8, i6_bridge_9, i6_bridge_10, i6_bridge_11, i6_bridge_14, i6_bridge_15, i6_bridge_16, i6_bridge_19, i6_bridge_20, i6_bridge_21, i6_bridge_24, i6_bridge_25, i6_bridge_26, i6_bridge_27, i6_bridge_30, i6_bridge_32, i6_bridge_35, i6_bridge_37, i6_bridge_38, i6_bridge_39, i6_bridge_40, i6_bridge_43, i6_bridge_46, i6_bridge_47, i6_bridge_50, i6_bridge_51, i6_bridge_52, i6_bridge_55, i6_bridge_56, i6_bridge_58, i6_bridge_61, i6_bridge_62, i6_bridge_65, i6_bridge_66, i6_bridge_67, i6_bridge_70, i6_bridge_71, i6_bridge_73, i6_bridge_76, i6_bridge_77, i6_bridge_80, i6_bridge_81, i6_bridge_82, i6_bridge_85, i6_bridge_86, i6_bridge_88, i6_bridge_91, i6_bridge_92, i6_bridge_93, i6_bridge_96, i6_bridge_97, i6_bridge_100, i6_bridge_101, i6_bridge_104, s6_isText, pK_i, bi_0, hr, if_true, if_false, not_true_eq_false, not_false_eq_true, true_or, or_true]; rfl
    · exact R
end EB
