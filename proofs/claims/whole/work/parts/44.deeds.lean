/-! DEEDS -/
def bdC (σ : Nat → Nat → Int32) (d : Nat) : Nat → Nat → Int32 := va_up (va_up (va_up (va_up σ 8 (va_cpy (σ 7) (σ 8) 0 (7 * d) 7)) 9 (upd (σ 9) d (σ 4 4))) 10 (upd (σ 10) d (σ 4 5))) 3 (upd (σ 3) 4 (nI (d + 1)))
def ntR (σ : Nat → Nat → Int32) (d : Nat) : Nat → Nat → Int32 := va_up (va_up σ 75 (va_cpy (σ 74) (σ 75) 0 (9 * d) 9)) 67 (upd (σ 67) 8 (nI (d + 1)))
noncomputable def tuC (σ : Nat → Nat → Int32) (g : Nat) : Nat → Nat → Int32 := va_up (va_up σ 7 (tl (σ 5) (σ 6) (σ 4 4) (σ 4 5) 0 (σ 7) g)) 4 (upd (σ 4) 5 (σ 4 5 + 1))
noncomputable def tuR (σ : Nat → Nat → Int32) (g : Nat) : Nat → Nat → Int32 := va_up σ 74 (tRs (σ 72) (σ 73) g 0 (σ 74))
def flpC (σ : Nat → Nat → Int32) (j : Nat) : Nat → Nat → Int32 := va_up σ 4 (upd (σ 4) 4 (σ 4 4 ^^^ sh j))
def flpR (σ : Nat → Nat → Int32) (j : Nat) : Nat → Nat → Int32 := va_up σ 74 (upd (σ 74) 7 (σ 74 7 ^^^ sh j))
def cha (x n : Int32) : Int32 := if x + n < 0 then 0 else if 60 < x + n then 60 else x + n
def chC (σ : Nat → Nat → Int32) (j : Nat) (n : Int32) : Nat → Nat → Int32 := va_up σ 7 (upd (σ 7) j (imx 0 (imn 60 (σ 7 j + n))))
def chR (σ : Nat → Nat → Int32) (j : Nat) (n : Int32) : Nat → Nat → Int32 := va_up σ 74 (upd (σ 74) j (cha (σ 74 j) n))
theorem Rel_deed {g d : Nat} {σ σ' : Nat → Nat → Int32} {τ : Nat → Nat → Int64} (r : Rel g d σ τ) (hd : d < 40) (h0 : 0 < g) (h : ∀ c, c ≠ 3 → c ≠ 4 → c ≠ 7 → c ≠ 8 → c ≠ 9 → c ≠ 10 → c ≠ 67 → c ≠ 74 → c ≠ 75 → σ' c = σ c) (h67 : ∀ i, i ≠ 8 → σ' 67 i = σ 67 i) (h4 : σ' 4 3 = σ 4 3) (d1 : σ' 3 4 = nI (d + 1)) (d2 : σ' 67 8 = nI (d + 1)) (p8 : σ' 8 = va_cpy (σ 7) (σ 8) 0 (7 * d) 7) (p9 : σ' 9 = upd (σ 9) d (σ 4 4)) (p10 : σ' 10 = upd (σ 10) d (σ 4 5)) (p75 : σ' 75 = va_cpy (σ 74) (σ 75) 0 (9 * d) 9) (hn : rc g (σ' 7) (σ' 4 4) (σ' 4 5) (σ' 74) (d + 1)) : Rel g (d + 1) σ' τ := by
  obtain ⟨⟨a1, a2, a3, a4, a5, a6⟩, ⟨b1, b2, b3, b4⟩, c1, e1, f1, s1⟩ := r
  have hh : ∀ c, (c < 3 ∨ c = 5 ∨ c = 6 ∨ 10 < c) → c ≠ 67 → c ≠ 74 → c ≠ 75 → σ' c = σ c := fun c hc h1 h2 h3 => h c (by omega) (by omega) (by omega) (by omega) (by omega) (by omega) h1 h2 h3
  refine ⟨⟨a1, h4.trans a2, (h67 4 (by decide)).trans a3, ?_, hn, fun e => by omega⟩, ⟨by omega, d1, d2, ?_⟩, qK_c (fun c hc => hh c (by omega) (by omega) (by omega) (by omega)) c1, qR_c (fun c hc => hh c (by omega) (by omega) (by omega) (by omega)) e1, qT_c (fun c hc => hh c (by omega) (by omega) (by omega) (by omega)) f1, qS_c (hh 0 (by omega) (by omega) (by omega) (by omega)) (h67 11 (by decide)) (h67 14 (by decide)) (hh 22 (by omega) (by omega) (by omega) (by omega)) (hh 77 (by omega) (by omega) (by omega) (by omega)) s1⟩
  · rw [hh 5 (by omega) (by omega) (by omega) (by omega), hh 6 (by omega) (by omega) (by omega) (by omega), hh 72 (by omega) (by omega) (by omega) (by omega), hh 73 (by omega) (by omega) (by omega) (by omega)]
    exact a4
  · intro j hj
    rw [p8, p9, p10, p75]
    by_cases e : j = d
    · subst e
      obtain ⟨r1, r2, r3⟩ := a5
      have q1 : ∀ b, b < 7 → va_cpy (σ 7) (σ 8) 0 (7 * j) 7 (7 * j + b) = σ 7 b := fun b hb => by
        unfold va_cpy; rw [if_pos (by omega)]; congr 1; omega
      have q2 : ∀ b, b < 9 → va_cpy (σ 74) (σ 75) 0 (9 * j) 9 (9 * j + b) = σ 74 b := fun b hb => by
        unfold va_cpy; rw [if_pos (by omega)]; congr 1; omega
      refine ⟨fun b hb => ?_, ?_, ?_⟩
      · show va_cpy (σ 7) (σ 8) 0 (7 * j) 7 (7 * j + b) = va_cpy (σ 74) (σ 75) 0 (9 * j) 9 (9 * j + b) ∧ inb (va_cpy (σ 7) (σ 8) 0 (7 * j) 7 (7 * j + b)) 61
        rw [q1 b (by omega), q2 b (by omega)]; exact r1 b hb
      · show ∃ k, k < 2 ^ g ∧ upd (σ 9) j (σ 4 4) j = nI k ∧ va_cpy (σ 74) (σ 75) 0 (9 * j) 9 (9 * j + 7) = nI k
        rw [us, q2 7 (by omega)]; exact r2
      · show ∃ k, k ≤ j ∧ upd (σ 10) j (σ 4 5) j = nI k ∧ va_cpy (σ 74) (σ 75) 0 (9 * j) 9 (9 * j + 8) = nI k
        rw [us, q2 8 (by omega)]; exact r3
    · have q1 : ∀ b, b < 7 → va_cpy (σ 7) (σ 8) 0 (7 * d) 7 (7 * j + b) = σ 8 (7 * j + b) := fun b hb => by
        unfold va_cpy; rw [if_neg (by omega)]
      have q2 : ∀ b, b < 9 → va_cpy (σ 74) (σ 75) 0 (9 * d) 9 (9 * j + b) = σ 75 (9 * j + b) := fun b hb => by
        unfold va_cpy; rw [if_neg (by omega)]
      obtain ⟨r1, r2, r3⟩ := b4 j (by omega)
      refine ⟨fun b hb => ?_, ?_, ?_⟩
      · show va_cpy (σ 7) (σ 8) 0 (7 * d) 7 (7 * j + b) = va_cpy (σ 74) (σ 75) 0 (9 * d) 9 (9 * j + b) ∧ inb (va_cpy (σ 7) (σ 8) 0 (7 * d) 7 (7 * j + b)) 61
        rw [q1 b (by omega), q2 b (by omega)]; exact r1 b hb
      · show ∃ k, k < 2 ^ g ∧ upd (σ 9) d (σ 4 4) j = nI k ∧ va_cpy (σ 74) (σ 75) 0 (9 * d) 9 (9 * j + 7) = nI k
        rw [un e, q2 7 (by omega)]; exact r2
      · show ∃ k, k ≤ j ∧ upd (σ 10) d (σ 4 5) j = nI k ∧ va_cpy (σ 74) (σ 75) 0 (9 * d) 9 (9 * j + 8) = nI k
        rw [un e, q2 8 (by omega)]; exact r3
theorem cha_eq {x n : Int32} (hx : inb x 61) (h1 : -9 ≤ n.toInt) (h2 : n.toInt ≤ 9) : imx 0 (imn 60 (x + n)) = cha x n ∧ inb (imx 0 (imn 60 (x + n))) 61 := by
  rw [inb_ti (by decide)] at hx
  have e : (x + n).toInt = x.toInt + n.toInt := ti_add (by omega) (by omega) (by omega) (by omega)
  have h0 : (0 : Int32).toInt = 0 := rfl
  have h60 : (60 : Int32).toInt = 60 := rfl
  have f : (imx 0 (imn 60 (x + n))).toInt = max 0 (min 60 (x.toInt + n.toInt)) := by rw [ti_imx, ti_imn, e, h0, h60]
  refine ⟨Int32.toInt_inj.mp ?_, (inb_ti (by decide)).mpr ?_⟩
  · rw [f]
    unfold cha
    by_cases c1 : x + n < 0
    · rw [if_pos c1, h0]; rw [Int32.lt_iff_toInt_lt, e, h0] at c1; omega
    · rw [if_neg c1]; rw [Int32.lt_iff_toInt_lt, e, h0] at c1
      by_cases c2 : 60 < x + n
      · rw [if_pos c2, h60]; rw [Int32.lt_iff_toInt_lt, e, h60] at c2; omega
      · rw [if_neg c2, e]; rw [Int32.lt_iff_toInt_lt, e, h60] at c2; omega
  · rw [f]; omega
section DD
variable {L : Nat} {xs : Nat → Int32} {σ : Nat → Nat → Int32} {τ : Nat → Nat → Int64} {S g d m : Nat}
theorem s0_isFull (h : σ 3 4 = nI d) (hd : d ≤ 40) {n : Nat} (hn : n ≤ 100) : pX 2 0 [.ref 3, .int (nI n)] [] (mm L xs σ τ) 85 S = some (some (.int (bi (40 < d + n))), mm L xs σ τ, 85, S) := by
  by_cases q : 40 < d + n
  · have a : ((40 : Int32) < nI (d + n)) = True := nlt (a := 40) q (by omega)
    rw [bi_t q]
    simp only [Nat.reduceAdd, i0_isFull_0, i0_isFull_1, i0_isFull_4, i0_isFull_5, i0_isFull_6, i0_isFull_8, i0_isFull_11, i0_isFull_12, i0_isFull_15, i0_isFull_16, k_3, h, nI_add, a, if_true, if_false, not_true_eq_false, not_false_eq_true, true_or, or_true]
  · have a : ((40 : Int32) < nI (d + n)) = False := nnl (a := 40) (by omega) (by omega)
    rw [bi_f q]
    simp only [Nat.reduceAdd, i0_isFull_0, i0_isFull_1, i0_isFull_4, i0_isFull_5, i0_isFull_6, i0_isFull_8, i0_isFull_11, i0_isFull_12, i0_isFull_15, i0_isFull_16, k_3, h, nI_add, a, if_true, if_false, not_true_eq_false, not_false_eq_true, true_or, or_true]
theorem isF1 (h : σ 3 4 = nI d) (hd : d ≤ 40) : pX 2 0 [.ref 3, .int 1] [] (mm L xs σ τ) 85 S = some (some (.int (bi (¬ d < 40))), mm L xs σ τ, 85, S) := by
  rw [show (¬ d < 40) = (40 < d + 1) from propext (by omega)]
  exact s0_isFull h hd (n := 1) (by decide)
theorem s0_beginDeed (h : σ 3 4 = nI d) (hd : d < 40) : pX 5 0 [.ref 3] [] (mm L xs σ τ) 85 S = some (none, mm L xs (bdC σ d) τ, 85, S) := by
  have e7 : nI d * 7 = nI (7 * d) := by rw [show (7 : Int32) = nI 7 from rfl, pk_mul, Nat.mul_comm]
  have c : cpk 7 8 0 (nI (7 * d)) 7 := by
    unfold cpk
    rw [l_7, l_8, cl (show 7 * d ≤ 5000 by omega), show (0 : Int32).toNatClampNeg = 0 from rfl, show (7 : Int32).toNatClampNeg = 7 from rfl]
    exact ⟨by decide, nI_pos (by omega), by decide, by omega, by omega⟩
  unfold bdC
  simp (decide := true) only [Nat.reduceAdd, i0_beginDeed_0, i0_beginDeed_1, i0_beginDeed_2, i0_beginDeed_5, i0_beginDeed_8, i0_beginDeed_9, i0_beginDeed_10, i0_beginDeed_13, i0_beginDeed_16, i0_beginDeed_17, i0_beginDeed_18, i0_beginDeed_21, i0_beginDeed_22, i0_beginDeed_25, i0_beginDeed_27, i0_beginDeed_28, i0_beginDeed_30, i0_beginDeed_33, i0_beginDeed_34, i0_beginDeed_37, i0_beginDeed_38, i0_beginDeed_41, i0_beginDeed_42, i0_beginDeed_45, i0_beginDeed_48, i0_beginDeed_49, i0_beginDeed_50, i0_beginDeed_53, i0_beginDeed_54, i0_beginDeed_57, i0_beginDeed_58, i0_beginDeed_61, i0_beginDeed_64, i0_beginDeed_65, i0_beginDeed_66, i0_beginDeed_67, i0_beginDeed_70, i0_beginDeed_71, i0_beginDeed_72, i0_beginDeed_75, k_3, k_4, k_7, k_8, k_9, k_10, l_7, l_8, l_9, l_10, isF1 h (by omega), pK_i, bi_0, hd, h, if_true, if_false, not_true_eq_false, not_false_eq_true, true_or, or_true, e7, c, z0, z7, cl (show 7 * d ≤ 5000 by omega), cl (show d ≤ 5000 by omega), ifb_i (show d < 40 by omega) (by decide), vn', nI_1]
end DD
