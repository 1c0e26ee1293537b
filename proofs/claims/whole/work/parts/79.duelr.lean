/-! BY TURNS: the plain form's half; the call -/
def chN (K : Nat → Int32) (c s : Nat) : Nat := if c = 0 then s else flN K (c - 1) s
/-- what is open behind k choices told as figures -/
def oaq (K : Nat → Int32) (b o : Nat) : Nat → Nat → Nat
  | 0, _ => o
  | k + 1, num => chN K (num % b) (oaq K b o k (num / b))
theorem chN_lt {K : Nat → Int32} {g c s : Nat} (hc : c ≤ g) (hs : s < 2 ^ g) : chN K c s < 2 ^ g := by
  unfold chN
  split
  · exact hs
  · exact flN_lt (by omega) hs
theorem oaq_lt {K : Nat → Int32} {g o : Nat} (ho : o < 2 ^ g) : ∀ k num, oaq K (g + 1) o k num < 2 ^ g := by
  intro k
  induction k with
  | zero => intro _; exact ho
  | succ k ih => intro num; exact chN_lt (by have := Nat.mod_lt num (show 0 < g + 1 by omega); omega) (ih _)
theorem oaq_c {K : Nat → Int32} {b o k num c : Nat} (hc : c < b) : oaq K b o (k + 1) (b * num + c) = chN K c (oaq K b o k num) := by
  show chN K ((b * num + c) % b) (oaq K b o k ((b * num + c) / b)) = _
  rw [Nat.mul_add_mod, Nat.mod_eq_of_lt hc, Nat.mul_add_div (by omega), Nat.div_eq_of_lt hc, Nat.add_zero]
theorem pw_n {b : Nat} : ∀ n, pw (nI b) n = nI (b ^ n) := by
  intro n
  induction n with
  | zero => rfl
  | succ n ih =>
    show pw (nI b) n * nI b = _
    rw [ih, pk_mul, Nat.pow_succ]
theorem b_pow {g k : Nat} (hg : g ≤ 6) (hk : k ≤ 4) : (g + 1) ^ k ≤ 2401 ∧ 0 < (g + 1) ^ k := by
  refine ⟨?_, Nat.pow_pos (by omega)⟩
  exact Nat.le_trans (Nat.pow_le_pow_left (show g + 1 ≤ 7 by omega) k) (Nat.le_trans (Nat.pow_le_pow_right (by decide) hk) (by decide))
section ED
variable {L : Nat} {xs : Nat → Int32} {σ : Nat → Nat → Int32} {τ : Nat → Nat → Int64} {S g d m s : Nat}
theorem s6_worthOf {m0 num many o : Nat} (r : qN g m0 σ) (h0 : 0 < g) (ho : o < 2 ^ g) (h7 : σ 74 7 = nI o) (hn : num ≤ 2401) (hm : many ≤ 4) : ∃ σ', pX 204 0 [.ref 67, .int (nI num), .int (nI many), .null, .null, .null] [] (mm L xs σ τ) 85 S = some (some (.int (V0q σ g (oaq (σ 72) (g + 1) o many num))), mm L xs σ' τ, 85, S) ∧ agr σ σ' ∧ ∀ c, c ≠ 81 → σ' c = σ c := by
  have hg6 := r.1
  have hg := r.2.2.1
  obtain ⟨p64, p0⟩ := p2_64 hg6
  have key := lq (δ := Value) many (fun _ _ => True) (fun k d => pX 204 11 [.ref 67, .int (nI num), .int (nI many), .int (nI (oaq (σ 72) (g + 1) o k (num / (g + 1) ^ (many - k)))), .int (nI k), d] [] (mm L xs σ τ) 85 S) (fun out => ∃ σ', out = some (some (.int (V0q σ g (oaq (σ 72) (g + 1) o many num))), mm L xs σ' τ, 85, S) ∧ agr σ σ' ∧ ∀ c, c ≠ 81 → σ' c = σ c) (fun dd _ => by
    rw [Nat.sub_self, Nat.pow_zero, Nat.div_one]
    have lt := oaq_lt (K := σ 72) ho many num
    obtain ⟨σ', p, a', q', l'⟩ := r6_tries (L := L) (xs := xs) (τ := τ) (S := S) r (op := nI (oaq (σ 72) (g + 1) o many num)) (n := 3) (by decide)
    rw [show nI 3 = 3 from rfl] at p
    have e0 := l' 0 (Nat.zero_le _)
    have eg := l' g (Nat.le_refl _)
    have f67 : σ' 67 4 = nI g := by rw [q' 67 (by decide)]; exact hg
    refine ⟨σ', ?_, a', q'⟩
    simp only [Nat.reduceAdd, i6_worthOf_11, i6_worthOf_13, i6_worthOf_14, i6_worthOf_80, i6_worthOf_81, i6_worthOf_82, i6_worthOf_83, i6_worthOf_86, i6_worthOf_87, i6_worthOf_90, i6_worthOf_91, i6_worthOf_92, i6_worthOf_93, i6_worthOf_96, i6_worthOf_97, i6_worthOf_98, i6_worthOf_101, i6_worthOf_102, i6_worthOf_103, i6_worthOf_104, Int32.lt_irrefl, if_false, p, pK_v, k_81, l_81, i09, z0, f67, Int32.zero_add, ifb_i (show g < 9 by omega) (by decide), cl (show g ≤ 5000 by omega), e0, eg, V0q]) (fun k hk dd _ => Or.inr (by
    have pw1 := b_pow (g := g) (k := many - 1 - k) hg6 (by omega)
    have e1 : nI many - 1 = nI (many - 1) := by
      obtain ⟨n', rfl⟩ : ∃ n', many = n' + 1 := ⟨many - 1, by omega⟩
      exact nI_pred n'
    have e2 : nI (many - 1) - nI k = nI (many - 1 - k) := pk_sub (by omega)
    have pp := fun (M : pm_M) (N : Nat) => s6_power (M := M) (N := N) (S := S) (a := nI (g + 1)) (n := many - 1 - k) (by omega)
    rw [pw_n] at pp
    generalize hP : (g + 1) ^ (many - 1 - k) = P at pp pw1
    have d1 : nI num / nI P = nI (num / P) := pk_div (by omega) pw1.2 (by omega)
    have np : num / P ≤ num := Nat.div_le_self _ _
    have d2 : nI (num / P) - nI (num / P) / nI (g + 1) * nI (g + 1) = nI (num / P % (g + 1)) := pk_rem (by omega) (by omega) (by omega)
    have nz : ¬ nI P = 0 := nI_ne0 pw1.2 (by omega)
    have nb : ¬ nI (g + 1) = 0 := nI_ne0 (by omega) (by omega)
    have es : many - k = many - 1 - k + 1 := by omega
    have eq1 : num / (g + 1) ^ (many - k) = num / P / (g + 1) := by
      rw [es, Nat.pow_succ, hP, Nat.div_div_eq_div_mul]
    have eq2 : num / (g + 1) ^ (many - (k + 1)) = num / P := by rw [show many - (k + 1) = many - 1 - k by omega, hP]
    have eo : oaq (σ 72) (g + 1) o (k + 1) (num / P) = chN (σ 72) (num / P % (g + 1)) (oaq (σ 72) (g + 1) o k (num / P / (g + 1))) := rfl
    rw [eq1, eq2, eo]
    have ol := oaq_lt (K := σ 72) ho k (num / P / (g + 1))
    have cl7 : num / P % (g + 1) < g + 1 := Nat.mod_lt _ (by omega)
    generalize oaq (σ 72) (g + 1) o k (num / P / (g + 1)) = s at ol ⊢
    generalize num / P % (g + 1) = c at cl7 d2 ⊢
    refine ⟨.int (nI c), trivial, ?_⟩
    rw [i6_worthOf_11]
    by_cases hc : c = 0
    · subst hc
      have ec : chN (σ 72) 0 s = s := rfl
      rw [ec]
      have z : ¬ (0 : Int32) < nI 0 := by decide
      simp only [Nat.reduceAdd, i6_worthOf_13, i6_worthOf_14, i6_worthOf_17, i6_worthOf_18, i6_worthOf_19, i6_worthOf_22, i6_worthOf_23, i6_worthOf_24, i6_worthOf_25, i6_worthOf_26, i6_worthOf_27, i6_worthOf_29, i6_worthOf_30, i6_worthOf_33, i6_worthOf_34, i6_worthOf_35, i6_worthOf_38, i6_worthOf_39, i6_worthOf_40, i6_worthOf_41, i6_worthOf_43, i6_worthOf_44, i6_worthOf_46, i6_worthOf_49, i6_worthOf_50, i6_worthOf_53, i6_worthOf_55, i6_worthOf_56, i6_worthOf_57, i6_worthOf_58, i6_worthOf_59, i6_worthOf_62, i6_worthOf_63, i6_worthOf_65, i6_worthOf_66, i6_worthOf_67, i6_worthOf_68, i6_worthOf_71, i6_worthOf_72, i6_worthOf_73, i6_worthOf_74, i6_worthOf_77, nlt hk (by omega), hg, nI_1, e1, e2, pp, pK_i, nz, nb, d1, d2, z, Int32.xor_zero, if_true, if_false, not_true_eq_false, not_false_eq_true, true_or, or_true]
    · obtain ⟨c', rfl⟩ : ∃ c', c = c' + 1 := ⟨c - 1, by omega⟩
      have z : (0 : Int32) < nI (c' + 1) := nI_lt (a := 0) (by omega) (by omega)
      have ec : chN (σ 72) (c' + 1) s = flN (σ 72) c' s := rfl
      have m1 : nI (c' + 1) - 1 = nI c' := nI_pred c'
      rw [ec]
      unfold flN
      by_cases hw : σ 72 c' = 3
      · rw [if_pos hw]
        simp only [Nat.reduceAdd, i6_worthOf_13, i6_worthOf_14, i6_worthOf_17, i6_worthOf_18, i6_worthOf_19, i6_worthOf_22, i6_worthOf_23, i6_worthOf_24, i6_worthOf_25, i6_worthOf_26, i6_worthOf_27, i6_worthOf_29, i6_worthOf_30, i6_worthOf_33, i6_worthOf_34, i6_worthOf_35, i6_worthOf_38, i6_worthOf_39, i6_worthOf_40, i6_worthOf_41, i6_worthOf_43, i6_worthOf_44, i6_worthOf_46, i6_worthOf_49, i6_worthOf_50, i6_worthOf_53, i6_worthOf_55, i6_worthOf_56, i6_worthOf_57, i6_worthOf_58, i6_worthOf_59, i6_worthOf_62, i6_worthOf_63, i6_worthOf_65, i6_worthOf_66, i6_worthOf_67, i6_worthOf_68, i6_worthOf_71, i6_worthOf_72, i6_worthOf_73, i6_worthOf_74, i6_worthOf_77, nlt hk (by omega), hg, nI_1, e1, e2, pp, pK_i, nz, nb, d1, d2, z, m1, k_72, l_72, ifb_i (show c' < 6 by omega) (by decide), cl (show c' ≤ 5000 by omega), hw, Int32.xor_zero, if_true, if_false, not_true_eq_false, not_false_eq_true, true_or, or_true]
      · rw [if_neg hw]
        simp only [Nat.reduceAdd, i6_worthOf_13, i6_worthOf_14, i6_worthOf_17, i6_worthOf_18, i6_worthOf_19, i6_worthOf_22, i6_worthOf_23, i6_worthOf_24, i6_worthOf_25, i6_worthOf_26, i6_worthOf_27, i6_worthOf_29, i6_worthOf_30, i6_worthOf_33, i6_worthOf_34, i6_worthOf_35, i6_worthOf_38, i6_worthOf_39, i6_worthOf_40, i6_worthOf_41, i6_worthOf_43, i6_worthOf_44, i6_worthOf_46, i6_worthOf_49, i6_worthOf_50, i6_worthOf_53, i6_worthOf_55, i6_worthOf_56, i6_worthOf_57, i6_worthOf_58, i6_worthOf_59, i6_worthOf_62, i6_worthOf_63, i6_worthOf_65, i6_worthOf_66, i6_worthOf_67, i6_worthOf_68, i6_worthOf_71, i6_worthOf_72, i6_worthOf_73, i6_worthOf_74, i6_worthOf_77, nlt hk (by omega), hg, nI_1, e1, e2, pp, pK_i, nz, nb, d1, d2, z, m1, k_72, l_72, ifb_i (show c' < 6 by omega) (by decide), cl (show c' ≤ 5000 by omega), hw, xor_sh (show s < 64 by omega) (show c' < 6 by omega), if_true, if_false, not_true_eq_false, not_false_eq_true, true_or, or_true]))
  have k := key .null trivial
  have e0 : oaq (σ 72) (g + 1) o 0 (num / (g + 1) ^ (many - 0)) = o := rfl
  rw [e0, nI_0] at k
  obtain ⟨σ', k1, k2⟩ := k
  refine ⟨σ', ?_, k2⟩
  simp only [Nat.reduceAdd, i6_worthOf_0, i6_worthOf_1, i6_worthOf_4, i6_worthOf_6, i6_worthOf_7, i6_worthOf_8, i6_worthOf_9, k_74, l_74, i7, z7, h7]
  exact k1
/-- all ends told -/
theorem duF {m0 n o : Nat} (r : qN g m0 σ) (h0 : 0 < g) (ho : o < 2 ^ g) (h7 : σ 74 7 = nI o) (hn : n ≤ 2) : ∃ σ', agr σ σ' ∧ (∀ t, t < (g + 1) ^ (2 * n) → σ' 84 t = V0q σ g (oaq (σ 72) (g + 1) o (2 * n) t)) ∧ pX 205 30 [.ref 67, .int (nI n), .int (nI (g + 1)), .int 0, .null, .null, .null, .null] [] (mm L xs σ τ) 85 S = pX 205 61 [.ref 67, .int (nI n), .int (nI (g + 1)), .int (nI ((g + 1) ^ (2 * n))), .null, .null, .null, .null] [] (mm L xs σ' τ) 85 S := by
  have hg6 := r.1
  have pw1 := b_pow (g := g) (k := 2 * n) hg6 (by omega)
  have e2n : (2 : Int32) * nI n = nI (2 * n) := pk_mul 2 n
  have pp := fun (M : pm_M) (N : Nat) => s6_power (M := M) (N := N) (S := S) (a := nI (g + 1)) (n := 2 * n) (by omega)
  rw [pw_n] at pp
  generalize (g + 1) ^ (2 * n) = P at pp pw1 ⊢
  have key := lq (δ := Nat → Nat → Int32) P (fun j e => agr σ e ∧ ∀ t, t < j → e 84 t = V0q σ g (oaq (σ 72) (g + 1) o (2 * n) t)) (fun j e => pX 205 30 [.ref 67, .int (nI n), .int (nI (g + 1)), .int (nI j), .null, .null, .null, .null] [] (mm L xs e τ) 85 S) (fun out => ∃ σ', agr σ σ' ∧ (∀ t, t < P → σ' 84 t = V0q σ g (oaq (σ 72) (g + 1) o (2 * n) t)) ∧ out = pX 205 61 [.ref 67, .int (nI n), .int (nI (g + 1)), .int (nI P), .null, .null, .null, .null] [] (mm L xs σ' τ) 85 S) (fun e he => ⟨e, he.1, he.2, by
    simp only [i6_duel_30, i6_duel_31, i6_duel_32, i6_duel_33, i6_duel_34, i6_duel_35, i6_duel_38, e2n, pp, pK_i, Int32.lt_irrefl, if_false]⟩) (fun j hj e he => Or.inr (by
    obtain ⟨ha, h84⟩ := he
    have e74 : e 74 = σ 74 := ha.1 74 (by unfold scr; omega) (by decide)
    have e72 : e 72 = σ 72 := ha.1 72 (by unfold scr; omega) (by decide)
    obtain ⟨σ', p, a', f'⟩ := s6_worthOf (L := L) (xs := xs) (τ := τ) (S := S) (qN_agr ha r) h0 ho (by rw [e74]; exact h7) (show j ≤ 2401 by omega) (show 2 * n ≤ 4 by omega)
    have ev : V0q e g = V0q σ g := by funext t; unfold V0q; rw [agr_wat ha]
    rw [ev, e72] at p
    refine ⟨va_up σ' 84 (upd (σ' 84) j (V0q σ g (oaq (σ 72) (g + 1) o (2 * n) j))), ⟨agr_u (agr_t ha a') (by unfold scr; omega), fun t ht => ?_⟩, ?_⟩
    · rw [vs]
      by_cases q : t = j
      · subst q; rw [us]
      · rw [un q, f' 84 (by decide)]; exact h84 t (by omega)
    · rw [i6_duel_30]
      simp only [i6_duel_31, i6_duel_32, i6_duel_33, i6_duel_34, i6_duel_35, i6_duel_38, i6_duel_41, i6_duel_42, i6_duel_45, i6_duel_46, i6_duel_47, i6_duel_48, i6_duel_49, i6_duel_50, i6_duel_51, i6_duel_54, i6_duel_55, i6_duel_58, e2n, pp, pK_i, nlt hj (by omega), if_true, p, k_84, l_84, ifb_i (show j < 2401 by omega) (by decide), cl (show j ≤ 5000 by omega), nI_1]))
  have k := key σ ⟨agr_r σ, fun t ht => absurd ht (by omega)⟩
  exact k
/-- one best of the choices -/
theorem duB {n k num b : Nat} {V : Nat → Int32} {K : Nat → Int32} {e : Nat → Nat → Int32} {d6 d7 : Value} (hb : b = g + 1) (hg6 : g ≤ 6) (hk : k < 4) (hnum : (g + 1) * num + g < 2401) (hz : e 84 ((g + 1) * num) = V s) (hv : ∀ c, c < g → e 84 ((g + 1) * num + (c + 1)) = V (flN K c s)) : ∃ d6' d7', pX 205 98 [.ref 67, .int (nI n), .int (nI (g + 1)), .int (nI k), .int (nI num), .int (V s), .int 1, d7] [] (mm L xs e τ) 85 S = pX 205 156 [.ref 67, .int (nI n), .int (nI (g + 1)), .int (nI k), .int (nI num), .int (opt K V (decide (k % 2 = 0)) s g), d6', d7'] [] (mm L xs e τ) 85 S := by
  have e7 : nI (g + 1) * nI num = nI ((g + 1) * num) := pk_mul _ _
  have r2 : nI k - nI k / 2 * 2 = nI (k % 2) := pk_rem (d := 2) (by omega) (by decide) (by decide)
  have n2 : ¬ (2 : Int32) = 0 := by decide
  have key := lq (δ := Value) g (fun _ _ => True) (fun c d => pX 205 98 [.ref 67, .int (nI n), .int (nI (g + 1)), .int (nI k), .int (nI num), .int (opt K V (decide (k % 2 = 0)) s c), .int (nI (c + 1)), d] [] (mm L xs e τ) 85 S) (fun o => ∃ d6' d7', o = pX 205 156 [.ref 67, .int (nI n), .int (nI (g + 1)), .int (nI k), .int (nI num), .int (opt K V (decide (k % 2 = 0)) s g), d6', d7'] [] (mm L xs e τ) 85 S) (fun d _ => ⟨.int (nI (g + 1)), d, by
    simp only [i6_duel_98, i6_duel_100, i6_duel_101, Int32.lt_irrefl, if_false]⟩) (fun c hc d _ => Or.inr (by
    have eo : opt K V (decide (k % 2 = 0)) s (c + 1) = pick (decide (k % 2 = 0)) (V (flN K c s)) (opt K V (decide (k % 2 = 0)) s c) := rfl
    have hvc := hv c hc
    rw [eo]
    refine ⟨.int (V (flN K c s)), trivial, ?_⟩
    generalize opt K V (decide (k % 2 = 0)) s c = B
    generalize V (flN K c s) = v at hvc ⊢
    unfold pick
    rw [i6_duel_98]
    by_cases hk2 : k % 2 = 0
    · have k0 : nI (k % 2) = 0 := by rw [hk2]; rfl
      rw [show decide (k % 2 = 0) = true from decide_eq_true hk2, if_pos rfl]
      by_cases hl : B < v
      · simp only [i6_duel_100, i6_duel_101, i6_duel_104, i6_duel_105, i6_duel_108, i6_duel_109, i6_duel_111, i6_duel_112, i6_duel_114, i6_duel_115, i6_duel_116, i6_duel_118, i6_duel_119, i6_duel_120, i6_duel_121, i6_duel_124, i6_duel_126, i6_duel_128, i6_duel_131, i6_duel_134, i6_duel_136, i6_duel_138, i6_duel_141, i6_duel_143, i6_duel_146, i6_duel_148, i6_duel_150, i6_duel_153, nlt (show c + 1 < g + 1 by omega) (by omega), e7, nI_add, k_84, l_84, ifb_i (show (g + 1) * num + (c + 1) < 2401 by omega) (by decide), cl (show (g + 1) * num + (c + 1) ≤ 5000 by omega), hvc, n2, r2, k0, hl, if_true, if_false, not_true_eq_false, not_false_eq_true, true_or, or_true, nI_1]
      · simp only [i6_duel_100, i6_duel_101, i6_duel_104, i6_duel_105, i6_duel_108, i6_duel_109, i6_duel_111, i6_duel_112, i6_duel_114, i6_duel_115, i6_duel_116, i6_duel_118, i6_duel_119, i6_duel_120, i6_duel_121, i6_duel_124, i6_duel_126, i6_duel_128, i6_duel_131, i6_duel_134, i6_duel_136, i6_duel_138, i6_duel_141, i6_duel_143, i6_duel_146, i6_duel_148, i6_duel_150, i6_duel_153, nlt (show c + 1 < g + 1 by omega) (by omega), e7, nI_add, k_84, l_84, ifb_i (show (g + 1) * num + (c + 1) < 2401 by omega) (by decide), cl (show (g + 1) * num + (c + 1) ≤ 5000 by omega), hvc, n2, r2, k0, hl, if_true, if_false, not_true_eq_false, not_false_eq_true, true_or, or_true, nI_1]
    · have k0 : ¬ nI (k % 2) = 0 := nI_ne0 (by omega) (by omega)
      rw [show decide (k % 2 = 0) = false from decide_eq_false hk2, if_neg (by decide)]
      by_cases hl : v < B
      · simp only [i6_duel_100, i6_duel_101, i6_duel_104, i6_duel_105, i6_duel_108, i6_duel_109, i6_duel_111, i6_duel_112, i6_duel_114, i6_duel_115, i6_duel_116, i6_duel_118, i6_duel_119, i6_duel_120, i6_duel_121, i6_duel_124, i6_duel_126, i6_duel_128, i6_duel_131, i6_duel_134, i6_duel_136, i6_duel_138, i6_duel_141, i6_duel_143, i6_duel_146, i6_duel_148, i6_duel_150, i6_duel_153, nlt (show c + 1 < g + 1 by omega) (by omega), e7, nI_add, k_84, l_84, ifb_i (show (g + 1) * num + (c + 1) < 2401 by omega) (by decide), cl (show (g + 1) * num + (c + 1) ≤ 5000 by omega), hvc, n2, r2, k0, hl, if_true, if_false, not_true_eq_false, not_false_eq_true, true_or, or_true, nI_1]
      · simp only [i6_duel_100, i6_duel_101, i6_duel_104, i6_duel_105, i6_duel_108, i6_duel_109, i6_duel_111, i6_duel_112, i6_duel_114, i6_duel_115, i6_duel_116, i6_duel_118, i6_duel_119, i6_duel_120, i6_duel_121, i6_duel_124, i6_duel_126, i6_duel_128, i6_duel_131, i6_duel_134, i6_duel_136, i6_duel_138, i6_duel_141, i6_duel_143, i6_duel_146, i6_duel_148, i6_duel_150, i6_duel_153, nlt (show c + 1 < g + 1 by omega) (by omega), e7, nI_add, k_84, l_84, ifb_i (show (g + 1) * num + (c + 1) < 2401 by omega) (by decide), cl (show (g + 1) * num + (c + 1) ≤ 5000 by omega), hvc, n2, r2, k0, hl, if_true, if_false, not_true_eq_false, not_false_eq_true, true_or, or_true, nI_1]))
  exact key d7 trivial
/-- one choice less -/
theorem duS {n k o : Nat} {K : Nat → Int32} {V0 : Nat → Int32} {d5 d6 d7 : Value} {e0 : Nat → Nat → Int32} (hg6 : g ≤ 6) (hn : n ≤ 2) (hk : k < 2 * n) (ha : agr σ e0) (h84 : ∀ t, t < (g + 1) ^ (k + 1) → e0 84 t = Vq K V0 g (2 * n - (k + 1)) (oaq K (g + 1) o (k + 1) t)) : ∃ σ' d4 d5' d6' d7', agr σ σ' ∧ (∀ t, t < (g + 1) ^ k → σ' 84 t = Vq K V0 g (2 * n - k) (oaq K (g + 1) o k t)) ∧ pX 205 74 [.ref 67, .int (nI n), .int (nI (g + 1)), .int (nI k), .int 0, d5, d6, d7] [] (mm L xs e0 τ) 85 S = pX 205 171 [.ref 67, .int (nI n), .int (nI (g + 1)), .int (nI k), d4, d5', d6', d7'] [] (mm L xs σ' τ) 85 S := by
  have pw0 := b_pow (g := g) (k := k) hg6 (by omega)
  have pw1 := b_pow (g := g) (k := k + 1) hg6 (by omega)
  have ep : (g + 1) ^ (k + 1) = (g + 1) * (g + 1) ^ k := by rw [Nat.pow_succ, Nat.mul_comm]
  have pp := fun (M : pm_M) (N : Nat) => s6_power (M := M) (N := N) (S := S) (a := nI (g + 1)) (n := k) (by omega)
  rw [pw_n] at pp
  rw [ep] at pw1 h84
  generalize (g + 1) ^ k = P at pp pw0 pw1 h84 ⊢
  have key := lq (δ := (Nat → Nat → Int32) × Value × Value × Value) P (fun j d => agr σ d.1 ∧ (∀ t, t < j → d.1 84 t = Vq K V0 g (2 * n - k) (oaq K (g + 1) o k t)) ∧ ∀ t, j ≤ t → t < (g + 1) * P → d.1 84 t = Vq K V0 g (2 * n - (k + 1)) (oaq K (g + 1) o (k + 1) t)) (fun j d => pX 205 74 [.ref 67, .int (nI n), .int (nI (g + 1)), .int (nI k), .int (nI j), d.2.1, d.2.2.1, d.2.2.2] [] (mm L xs d.1 τ) 85 S) (fun out => ∃ σ' d4 d5' d6' d7', agr σ σ' ∧ (∀ t, t < P → σ' 84 t = Vq K V0 g (2 * n - k) (oaq K (g + 1) o k t)) ∧ out = pX 205 171 [.ref 67, .int (nI n), .int (nI (g + 1)), .int (nI k), d4, d5', d6', d7'] [] (mm L xs σ' τ) 85 S) (fun d hd => ⟨d.1, .int (nI P), d.2.1, d.2.2.1, d.2.2.2, hd.1, hd.2.1, by
    simp only [i6_duel_74, i6_duel_76, i6_duel_77, i6_duel_78, i6_duel_81, pp, pK_i, Int32.lt_irrefl, if_false]⟩) (fun j hj d hd => Or.inr (by
    obtain ⟨e, d5, d6, d7⟩ := d
    obtain ⟨h1, h2, h3⟩ := hd
    dsimp only at h1 h2 h3
    have jl : (g + 1) * (j + 1) ≤ (g + 1) * P := Nat.mul_le_mul_left _ (by omega)
    have jl2 : (g + 1) * (j + 1) = (g + 1) * j + (g + 1) := by rw [Nat.mul_add, Nat.mul_one]
    have jl3 : j ≤ (g + 1) * j := Nat.le_mul_of_pos_left _ (by omega)
    obtain ⟨s, hs⟩ : ∃ s, s = oaq K (g + 1) o k j := ⟨_, rfl⟩
    obtain ⟨V, hV⟩ : ∃ V, V = fun t => Vq K V0 g (2 * n - (k + 1)) t := ⟨_, rfl⟩
    have hz : e 84 ((g + 1) * j) = V s := by
      rw [h3 _ jl3 (by omega), hV, hs]
      have e1 : oaq K (g + 1) o (k + 1) ((g + 1) * j) = oaq K (g + 1) o k j := oaq_c (K := K) (b := g + 1) (o := o) (k := k) (num := j) (c := 0) (by omega)
      rw [e1]
    have hv : ∀ c, c < g → e 84 ((g + 1) * j + (c + 1)) = V (flN K c s) := fun c hc => by
      rw [h3 _ (by omega) (by omega), hV, hs, oaq_c (by omega)]
      rfl
    have bst := fun d7 => duB (L := L) (xs := xs) (τ := τ) (S := S) (n := n) (k := k) (num := j) (b := g + 1) (V := V) (K := K) (e := e) (s := s) (d6 := .null) (d7 := d7) rfl hg6 (by omega) (by omega) hz hv
    obtain ⟨d6', d7', p⟩ := bst d7
    have ev : opt K V (decide (k % 2 = 0)) s g = Vq K V0 g (2 * n - k) (oaq K (g + 1) o k j) := by
      have : 2 * n - k = 2 * n - (k + 1) + 1 := by omega
      rw [this, ← hs, hV]
      show _ = opt K (fun t => Vq K V0 g (2 * n - (k + 1)) t) (decide ((2 * n - (k + 1)) % 2 = 1)) s g
      congr 1
      exact decide_eq_decide.mpr (by omega)
    rw [ev] at p
    have e7 : nI (g + 1) * nI j = nI ((g + 1) * j) := pk_mul _ _
    refine ⟨(va_up e 84 (upd (e 84) j (Vq K V0 g (2 * n - k) (oaq K (g + 1) o k j))), .int (Vq K V0 g (2 * n - k) (oaq K (g + 1) o k j)), d6', d7'), ⟨agr_u h1 (by unfold scr; omega), fun t ht => ?_, fun t h5 ht => ?_⟩, ?_⟩
    · show (va_up e 84 (upd (e 84) j _)) 84 t = _
      rw [vs]
      by_cases q : t = j
      · subst q; rw [us]
      · rw [un q]; exact h2 t (by omega)
    · show (va_up e 84 (upd (e 84) j _)) 84 t = _
      rw [vs, un (by omega)]; exact h3 t (by omega) ht
    · rw [i6_duel_74]
      simp only [i6_duel_76, i6_duel_77, i6_duel_78, i6_duel_81, i6_duel_84, i6_duel_85, i6_duel_88, i6_duel_89, i6_duel_91, i6_duel_92, i6_duel_93, i6_duel_95, i6_duel_96, pp, pK_i, nlt hj (by omega), if_true, e7, k_84, l_84, ifb_i (show (g + 1) * j < 2401 by omega) (by decide), cl (show (g + 1) * j ≤ 5000 by omega), hz]
      rw [p]
      simp only [i6_duel_156, i6_duel_157, i6_duel_160, i6_duel_162, i6_duel_164, i6_duel_165, i6_duel_168, k_84, l_84, ifb_i (show j < 2401 by omega) (by decide), cl (show j ≤ 5000 by omega), nI_1]))
  have kk := key (e0, d5, d6, d7) ⟨ha, fun t ht => absurd ht (by omega), fun t _ ht => h84 t ht⟩
  exact kk
theorem duR {m0 n o : Nat} (r : qN g m0 σ) (h0 : 0 < g) (ho : o < 2 ^ g) (h7 : σ 74 7 = nI o) (hn : n ≤ 2) : ∃ σ', agr σ σ' ∧ pX 205 30 [.ref 67, .int (nI n), .int (nI (g + 1)), .int 0, .null, .null, .null, .null] [] (mm L xs σ τ) 85 S = some (some (.int 1), mm L xs (va_up σ' 67 (upd (σ' 67) 11 (Vq (σ 72) (V0q σ g) g (2 * n) o))) τ, 85, S) := by
  have hg6 := r.1
  obtain ⟨e1, a1, l1, p1⟩ := duF (L := L) (xs := xs) (τ := τ) (S := S) r h0 ho h7 hn
  have e2n : (2 : Int32) * nI n = nI (2 * n) := pk_mul 2 n
  have key := ld (δ := (Nat → Nat → Int32) × Value × Value × Value × Value) (2 * n) (fun k d => agr σ d.1 ∧ ∀ t, t < (g + 1) ^ k → d.1 84 t = Vq (σ 72) (V0q σ g) g (2 * n - k) (oaq (σ 72) (g + 1) o k t)) (fun k d => pX 205 67 [.ref 67, .int (nI n), .int (nI (g + 1)), .int (nI k - 1), d.2.1, d.2.2.1, d.2.2.2.1, d.2.2.2.2] [] (mm L xs d.1 τ) 85 S) (fun out => ∃ σ', agr σ σ' ∧ out = some (some (.int 1), mm L xs (va_up σ' 67 (upd (σ' 67) 11 (Vq (σ 72) (V0q σ g) g (2 * n) o))) τ, 85, S)) (fun d hd => ⟨d.1, hd.1, by
    have q : nI 0 - 1 = -1 := by decide
    have q2 : (-1 : Int32) < 0 := by decide
    have e := hd.2 0 (by rw [Nat.pow_zero]; decide)
    have e' : d.1 84 0 = Vq (σ 72) (V0q σ g) g (2 * n) o := e
    have i0 : ∀ {α : Type} {a b : α}, ifb 0 2401 a b = a := ifb_i (j := 0) (n := 2401) (by decide) (by decide)
    simp only [i6_duel_67, i6_duel_68, i6_duel_177, i6_duel_178, i6_duel_179, i6_duel_182, i6_duel_183, i6_duel_184, i6_duel_187, q, q2, if_true, k_84, l_84, i0, z0, e', s6_tells, pK_i]⟩) (fun k hk d hd => by
    obtain ⟨e, d4, d5, d6, d7⟩ := d
    obtain ⟨h1, h2⟩ := hd
    dsimp only at h1 h2
    obtain ⟨e', d4', d5', d6', d7', b1, b2, b3⟩ := duS (L := L) (xs := xs) (τ := τ) (S := S) (o := o) (d5 := d5) (d6 := d6) (d7 := d7) hg6 hn hk h1 h2
    have q : ¬ nI k < 0 := nI_pos (by omega)
    have m1 : nI (k + 1) - 1 = nI k := nI_pred k
    have m2 : nI k + -1 = nI k - 1 := by rw [Int32.sub_eq_add_neg]
    refine ⟨(e', d4', d5', d6', d7'), ⟨b1, b2⟩, ?_⟩
    rw [i6_duel_67]
    simp only [i6_duel_68, i6_duel_71, i6_duel_72, m1, q, if_false]
    rw [b3]
    simp only [i6_duel_171, i6_duel_174, m2])
  obtain ⟨σ', k1, k2⟩ := key (e1, .null, .null, .null, .null) ⟨a1, fun t ht => by
    show e1 84 t = _
    rw [Nat.sub_self]
    exact l1 t ht⟩
  refine ⟨σ', k1, ?_⟩
  rw [p1]
  simp only [i6_duel_61, i6_duel_62, i6_duel_63, i6_duel_64, i6_duel_65, i6_duel_66, e2n]
  exact k2
theorem op_duel {n : Int32} : opI L xs S (fun M => pX 80 0 [.ref 0, .int n, .null, .null, .null] [] M 85 S) (fun M => pX 205 0 [.ref 67, .int n, .null, .null, .null, .null, .null, .null] [] M 85 S) := by
  intro g d σ τ R
  have hg6 := R.1.1
  by_cases n0 : n < 0
  · apply op_of
    · simp only [Nat.reduceAdd, i5_duel_0, i5_duel_1, i5_duel_4, i5_duel_5, i5_duel_6, i5_duel_9, i5_duel_10, i5_duel_11, i5_duel_12, i5_duel_15, i5_duel_18, i5_duel_21, i5_duel_23, i5_duel_24, i5_duel_25, i5_duel_28, i5_duel_31, i5_duel_34, i5_duel_35, i5_duel_36, n0, if_true, if_false, not_true_eq_false, not_false_eq_true, true_or, or_true]; rfl
    · simp only [Nat.reduceAdd, i6_duel_0, i6_duel_1, i6_duel_2, i6_duel_3, i6_duel_6, i6_duel_9, i6_duel_10, i6_duel_11, i6_duel_12, i6_duel_15, i6_duel_18, i6_duel_20, i6_duel_21, i6_duel_22, i6_duel_25, i6_duel_26, i6_duel_27, i6_duel_28, i6_duel_29, s6_in, pK_i, bi_0, n0, if_true, if_false, not_true_eq_false, not_false_eq_true, true_or, or_true, false_and]; rfl
    · exact R
  by_cases n2 : 2 < n
  · apply op_of
    · simp only [Nat.reduceAdd, i5_duel_0, i5_duel_1, i5_duel_4, i5_duel_5, i5_duel_6, i5_duel_9, i5_duel_10, i5_duel_11, i5_duel_12, i5_duel_15, i5_duel_18, i5_duel_21, i5_duel_23, i5_duel_24, i5_duel_25, i5_duel_28, i5_duel_31, i5_duel_34, i5_duel_35, i5_duel_36, n0, n2, if_true, if_false, not_true_eq_false, not_false_eq_true, true_or, or_true]; rfl
    · simp only [Nat.reduceAdd, i6_duel_0, i6_duel_1, i6_duel_2, i6_duel_3, i6_duel_6, i6_duel_9, i6_duel_10, i6_duel_11, i6_duel_12, i6_duel_15, i6_duel_18, i6_duel_20, i6_duel_21, i6_duel_22, i6_duel_25, i6_duel_26, i6_duel_27, i6_duel_28, i6_duel_29, s6_in, pK_i, bi_0, n0, n2, if_true, if_false, not_true_eq_false, not_false_eq_true, true_or, or_true, and_false]; rfl
    · exact R
  obtain ⟨m, hm, rfl⟩ : ∃ m, m < 3 ∧ n = nI m := inb_of ((inb_iff2 (n := 2) (m := 2) rfl (by decide)).mpr ⟨n0, n2⟩) (by decide)
  by_cases h : 0 < g
  · obtain ⟨o, ho, e7, e7'⟩ := R.1.2.2.2.2.1.2.1
    obtain ⟨σ1, d4, a1, l1, p1⟩ := duI (L := L) (xs := xs) (τ := τ) (S := S) (n := m) R.1
    obtain ⟨σ2, a2, l2, p2⟩ := duC (L := L) (xs := xs) (τ := τ) (S := S) (n := m) (d4 := d4) (by omega) R.1 a1 l1
    have p64 := (p2_64 hg6).1
    have lo := l2 o ho
    have rA := qN_agr a2 R.1
    have al := s4_allGates (L := L) (xs := xs) (σ := σ2) (τ := τ) (S := S) a_4 rA.2.1 hg6
    have e4 : σ2 4 4 = nI o := by rw [a2.1 4 (by unfold scr; omega) (by decide)]; exact e7
    generalize hB : Vq (σ 72) (V0q σ g) g (2 * m) o = B at lo
    have rT := td_qN (v := B) R.1 a2
    have c74 := td_c (v := B) a2 (c := 74) (by unfold scr; omega) (by decide) (by decide)
    have c72 := td_c (v := B) a2 (c := 72) (by unfold scr; omega) (by decide) (by decide)
    obtain ⟨σ3, a3, p3⟩ := duR (L := L) (xs := xs) (τ := τ) (S := S) (n := m) rT h ho (by rw [c74]; exact e7') (by omega)
    have ev : V0q (va_up σ2 0 (upd (σ2 0) 10 B)) g = V0q σ g := by funext t; unfold V0q; rw [td_wat a2]
    rw [ev, c72, hB] at p3
    have g1 := rT.2.2.1
    refine op_of (v := 1) (σ1 := va_up σ2 0 (upd (σ2 0) 10 B)) (σ2 := va_up σ3 67 (upd (σ3 67) 11 B)) (τ1 := τ) (τ2 := τ) (g := g) (d := d) ?_ ?_ (Rel_fin R a2 a3)
    · simp only [Nat.reduceAdd, i5_duel_0, i5_duel_1, i5_duel_4, i5_duel_5, i5_duel_6, i5_duel_9, i5_duel_10, i5_duel_11, i5_duel_12, i5_duel_15, i5_duel_18, i5_duel_21, i5_duel_23, i5_duel_24, i5_duel_25, i5_duel_28, i5_duel_31, i5_duel_34, i5_duel_35, i5_duel_36, n0, n2, s3_isThere R.1, k_3, k_4, R.1.2.1, pK_i, bi_0, h, if_true, if_false, not_true_eq_false, not_false_eq_true, true_or, or_true]
      rw [p1]
      simp only [Nat.reduceAdd, i5_duel_84, i5_duel_85]
      rw [p2]
      simp only [Nat.reduceAdd, i5_duel_107, i5_duel_108, i5_duel_109, i5_duel_112, i5_duel_113, i5_duel_116, i5_duel_119, i5_duel_122, i5_duel_123, i5_duel_126, i5_duel_129, i5_duel_132, i5_duel_133, i5_duel_134, i5_duel_137, k_3, k_4, k_20, l_20, e4, al, and_ag hg6 ho, ifb_i (show o < 64 by omega) (by decide), cl (show o ≤ 5000 by omega), lo, s5_tell, pK_i]
    · simp only [Nat.reduceAdd, i6_duel_0, i6_duel_1, i6_duel_2, i6_duel_3, i6_duel_6, i6_duel_9, i6_duel_10, i6_duel_11, i6_duel_12, i6_duel_15, i6_duel_18, i6_duel_20, i6_duel_21, i6_duel_22, i6_duel_25, i6_duel_26, i6_duel_27, i6_duel_28, i6_duel_29, s6_in, g1, gN0 hg6, nI_1, pK_i, bi_0, n0, n2, h, if_true, if_false, not_true_eq_false, not_false_eq_true, true_or, or_true, and_self]
      exact p3
  · apply op_of
    · simp only [Nat.reduceAdd, i5_duel_0, i5_duel_1, i5_duel_4, i5_duel_5, i5_duel_6, i5_duel_9, i5_duel_10, i5_duel_11, i5_duel_12, i5_duel_15, i5_duel_18, i5_duel_21, i5_duel_23, i5_duel_24, i5_duel_25, i5_duel_28, i5_duel_31, i5_duel_34, i5_duel_35, i5_duel_36, n0, n2, s3_isThere R.1, k_3, k_4, pK_i, bi_0, h, if_true, if_false, not_true_eq_false, not_false_eq_true, true_or, or_true]; rfl
    · simp only [Nat.reduceAdd, i6_duel_0, i6_duel_1, i6_duel_2, i6_duel_3, i6_duel_6, i6_duel_9, i6_duel_10, i6_duel_11, i6_duel_12, i6_duel_15, i6_duel_18, i6_duel_20, i6_duel_21, i6_duel_22, i6_duel_25, i6_duel_26, i6_duel_27, i6_duel_28, i6_duel_29, s6_in, R.1.2.2.1, gN0 hg6, pK_i, bi_0, n0, n2, h, if_true, if_false, not_true_eq_false, not_false_eq_true, true_or, or_true, and_self]; rfl
    · exact R
end ED
