/-! THE LEAVES, going on: arithmetic of flows; a stand's small methods -/
theorem lp {α δ : Type} (n : Nat) (P : Nat → δ → α) (R : α) (h0 : ∀ d, P n d = R) (hs : ∀ j, j < n → ∀ d, ∃ d', P j d = P (j + 1) d') : ∀ d, P 0 d = R := by
  have key : ∀ k, k ≤ n → ∀ d, P (n - k) d = R := by
    intro k
    induction k with
    | zero => intro _ d; exact h0 d
    | succ k ih =>
      intro hk d
      obtain ⟨d', h⟩ := hs (n - (k + 1)) (by omega) d
      rw [h, show n - (k + 1) + 1 = n - k by omega]
      exact ih (by omega) d'
  intro d
  have h := key n (Nat.le_refl n) d
  rw [Nat.sub_self] at h
  exact h
theorem n10 : ((1 : Int32) = 0) = False := by decide
theorem n01 : ((0 : Int32) = 1) = False := by decide
def hb (bits i : Int32) : Prop := (bits >>> (i &&& 31)) &&& 1 = 1
def sh (i : Nat) : Int32 := (1 : Int32) <<< (nI i &&& 31)
def rm2 (n : Int32) : Int32 := n - n / 2 * 2
def rm3 (n : Int32) : Int32 := n - n / 3 * 3
def lev (d w : Int32) : Int32 := imx (-w) (imn w (d / 2))
def lif (w a b : Int32) : Int32 := imn w (imn b (60 - a))
def owr (d : Int32) : Int32 := if 0 < d then imx 0 (d - 5) else imn 0 (d + 5)
def tut (n : Int32) : Int32 := rm3 (3 - rm3 n)
def flC (k w a b n : Int32) : Int32 := if k = 0 then lev (a - b) w else if k = 1 then imx 0 (lev (a - b) w) else if k = 2 then -(lif w a b) else if k = 3 then lev (owr (a - b)) w else if k = 4 then (if rm2 n = 0 then imx 0 (lev (a - b) w) else 0) else if k = 5 then (if tut n = 0 then -(lif (2 * w) a b) else -(lif w a b)) else 0
section L6
variable {M : pm_M} {N S : Nat}
theorem s5_isText {r : Int32} : pX 113 0 [.int r] [] M N S = some (some (.int (bi (inb r 4))), M, N, S) := by
  rw [show inb r 4 = (¬ r < 0 ∧ r < 4) from propext (inb_iff rfl (by decide))]
  by_cases h1 : r < 0
  · rw [bi_f (fun h => h.1 h1)]
    simp only [i5_isText_0, i5_isText_1, i5_isText_4, i5_isText_5, i5_isText_6, i5_isText_9, i5_isText_10, i5_isText_13, i5_isText_14, h1, if_true, true_or]
  · by_cases h2 : r < 4
    · rw [bi_t ⟨h1, h2⟩]
      simp only [i5_isText_0, i5_isText_1, i5_isText_4, i5_isText_5, i5_isText_6, i5_isText_9, i5_isText_10, i5_isText_13, i5_isText_14, h1, h2, if_true, if_false, or_true]
    · rw [bi_f (fun h => h2 h.2)]
      simp only [i5_isText_0, i5_isText_1, i5_isText_4, i5_isText_5, i5_isText_6, i5_isText_9, i5_isText_10, i5_isText_13, i5_isText_14, h1, h2, if_true, if_false, true_or]
theorem s5_isKeptPlace {r : Int32} : pX 114 0 [.int r] [] M N S = some (some (.int (bi (inb r 3))), M, N, S) := by
  rw [show inb r 3 = (¬ r < 0 ∧ r < 3) from propext (inb_iff rfl (by decide))]
  by_cases h1 : r < 0
  · rw [bi_f (fun h => h.1 h1)]
    simp only [i5_isKeptPlace_0, i5_isKeptPlace_1, i5_isKeptPlace_4, i5_isKeptPlace_5, i5_isKeptPlace_6, i5_isKeptPlace_9, i5_isKeptPlace_10, i5_isKeptPlace_13, i5_isKeptPlace_14, h1, if_true, true_or]
  · by_cases h2 : r < 3
    · rw [bi_t ⟨h1, h2⟩]
      simp only [i5_isKeptPlace_0, i5_isKeptPlace_1, i5_isKeptPlace_4, i5_isKeptPlace_5, i5_isKeptPlace_6, i5_isKeptPlace_9, i5_isKeptPlace_10, i5_isKeptPlace_13, i5_isKeptPlace_14, h1, h2, if_true, if_false, or_true]
    · rw [bi_f (fun h => h2 h.2)]
      simp only [i5_isKeptPlace_0, i5_isKeptPlace_1, i5_isKeptPlace_4, i5_isKeptPlace_5, i5_isKeptPlace_6, i5_isKeptPlace_9, i5_isKeptPlace_10, i5_isKeptPlace_13, i5_isKeptPlace_14, h1, h2, if_true, if_false, true_or]
theorem inb_iff2 {j : Int32} {n : Nat} {m : Int32} (hm : m = nI n) (hn : n + 1 < 2 ^ 31) : inb j (n + 1) ↔ ¬ j < 0 ∧ ¬ m < j := by
  subst hm
  unfold inb
  rw [Int32.lt_iff_toInt_lt, Int32.lt_iff_toInt_lt, nI_toInt (by omega)]
  have h0 : (0 : Int32).toInt = 0 := rfl
  rw [h0]
  have e : j.toNatClampNeg = j.toInt.toNat := rfl
  rw [e]
  omega
theorem s5_isLevel {r : Int32} : pX 115 0 [.int r] [] M N S = some (some (.int (bi (inb r 61))), M, N, S) := by
  rw [show inb r 61 = (¬ r < 0 ∧ ¬ 60 < r) from propext (inb_iff2 (n := 60) rfl (by decide))]
  by_cases h1 : r < 0
  · rw [bi_f (fun h => h.1 h1)]
    simp only [i5_isLevel_0, i5_isLevel_1, i5_isLevel_4, i5_isLevel_5, i5_isLevel_7, i5_isLevel_10, i5_isLevel_11, i5_isLevel_14, i5_isLevel_15, h1, if_true, true_or]
  · by_cases h2 : 60 < r
    · rw [bi_f (fun h => h.2 h2)]
      simp only [i5_isLevel_0, i5_isLevel_1, i5_isLevel_4, i5_isLevel_5, i5_isLevel_7, i5_isLevel_10, i5_isLevel_11, i5_isLevel_14, i5_isLevel_15, h1, h2, if_true, if_false, true_or]
    · rw [bi_t ⟨h1, h2⟩]
      simp only [i5_isLevel_0, i5_isLevel_1, i5_isLevel_4, i5_isLevel_5, i5_isLevel_7, i5_isLevel_10, i5_isLevel_11, i5_isLevel_14, i5_isLevel_15, h1, h2, if_true, if_false, or_true]
theorem s5_isTwelfths {r : Int32} : pX 116 0 [.int r] [] M N S = some (some (.int (bi (inb r 13))), M, N, S) := by
  rw [show inb r 13 = (¬ r < 0 ∧ ¬ 12 < r) from propext (inb_iff2 (n := 12) rfl (by decide))]
  by_cases h1 : r < 0
  · rw [bi_f (fun h => h.1 h1)]
    simp only [i5_isTwelfths_0, i5_isTwelfths_1, i5_isTwelfths_4, i5_isTwelfths_5, i5_isTwelfths_7, i5_isTwelfths_10, i5_isTwelfths_11, i5_isTwelfths_14, i5_isTwelfths_15, h1, if_true, true_or]
  · by_cases h2 : 12 < r
    · rw [bi_f (fun h => h.2 h2)]
      simp only [i5_isTwelfths_0, i5_isTwelfths_1, i5_isTwelfths_4, i5_isTwelfths_5, i5_isTwelfths_7, i5_isTwelfths_10, i5_isTwelfths_11, i5_isTwelfths_14, i5_isTwelfths_15, h1, h2, if_true, if_false, true_or]
    · rw [bi_t ⟨h1, h2⟩]
      simp only [i5_isTwelfths_0, i5_isTwelfths_1, i5_isTwelfths_4, i5_isTwelfths_5, i5_isTwelfths_7, i5_isTwelfths_10, i5_isTwelfths_11, i5_isTwelfths_14, i5_isTwelfths_15, h1, h2, if_true, if_false, or_true]
theorem s5_hasBit {b i : Int32} : pX 98 0 [.int b, .int i] [] M N S = some (some (.int (bi (hb b i))), M, N, S) := by
  by_cases h : hb b i
  · rw [bi_t h]
    unfold hb at h
    simp only [i5_hasBit_0, i5_hasBit_1, i5_hasBit_2, i5_hasBit_3, i5_hasBit_4, i5_hasBit_5, i5_hasBit_6, i5_hasBit_9, i5_hasBit_10, i5_hasBit_13, i5_hasBit_14, h, if_true, or_true]
  · rw [bi_f h]
    unfold hb at h
    simp only [i5_hasBit_0, i5_hasBit_1, i5_hasBit_2, i5_hasBit_3, i5_hasBit_4, i5_hasBit_5, i5_hasBit_6, i5_hasBit_9, i5_hasBit_10, i5_hasBit_13, i5_hasBit_14, h, if_false, true_or]
theorem s5_isShutLock {n : Int32} : pX 95 0 [.int n] [] M N S = some (some (.int (bi (¬ rm2 n = 0))), M, N, S) := by
  by_cases h : rm2 n = 0
  · rw [bi_f (fun q => q h)]
    unfold rm2 at h
    simp only [i5_isShutLock_0, i5_isShutLock_1, i5_isShutLock_2, i5_isShutLock_3, i5_isShutLock_6, i5_isShutLock_7, i5_isShutLock_10, i5_isShutLock_11, h, n20, if_false, if_true, true_or]
  · rw [bi_t h]
    unfold rm2 at h
    simp only [i5_isShutLock_0, i5_isShutLock_1, i5_isShutLock_2, i5_isShutLock_3, i5_isShutLock_6, i5_isShutLock_7, i5_isShutLock_10, i5_isShutLock_11, h, n20, if_false, or_true]
theorem s5_turnsUntilTwice {n : Int32} : pX 96 0 [.int n] [] M N S = some (some (.int (tut n)), M, N, S) := by
  unfold tut rm3
  simp only [i5_turnsUntilTwice_0, i5_turnsUntilTwice_1, i5_turnsUntilTwice_2, i5_turnsUntilTwice_3, i5_turnsUntilTwice_4, i5_turnsUntilTwice_5, i5_turnsUntilTwice_6, i5_turnsUntilTwice_7, n30, if_false]
theorem s5_levelling {d w : Int32} : pX 92 0 [.int d, .int w] [] M N S = some (some (.int (lev d w)), M, N, S) := by
  unfold lev
  simp only [i5_levelling_0, i5_levelling_1, i5_levelling_2, i5_levelling_3, i5_levelling_4, i5_levelling_5, i5_levelling_6, i5_levelling_9, i5_levelling_12, n20, if_false]
theorem s5_lifting {w a b : Int32} : pX 93 0 [.int w, .int a, .int b] [] M N S = some (some (.int (lif w a b)), M, N, S) := by
  unfold lif
  simp only [i5_lifting_0, i5_lifting_1, i5_lifting_2, i5_lifting_4, i5_lifting_5, i5_lifting_6, i5_lifting_9, i5_lifting_12]
theorem s5_overWeir {d : Int32} : pX 94 0 [.int d] [] M N S = some (some (.int (owr d)), M, N, S) := by
  unfold owr
  by_cases h : 0 < d
  · simp only [i5_overWeir_0, i5_overWeir_1, i5_overWeir_4, i5_overWeir_5, i5_overWeir_6, i5_overWeir_7, i5_overWeir_8, i5_overWeir_11, i5_overWeir_14, i5_overWeir_15, i5_overWeir_16, i5_overWeir_17, i5_overWeir_18, i5_overWeir_21, h, if_true]
  · simp only [i5_overWeir_0, i5_overWeir_1, i5_overWeir_4, i5_overWeir_5, i5_overWeir_6, i5_overWeir_7, i5_overWeir_8, i5_overWeir_11, i5_overWeir_14, i5_overWeir_15, i5_overWeir_16, i5_overWeir_17, i5_overWeir_18, i5_overWeir_21, h, if_false]
theorem some_ite {c : Prop} {d : Decidable c} {a b : Int32} : some (some (Value.int (@ite _ c d a b)), M, N, S) = @ite _ c d (some (some (Value.int a), M, N, S)) (some (some (Value.int b), M, N, S)) := by
  by_cases h : c
  · rw [if_pos h, if_pos h]
  · rw [if_neg h, if_neg h]
theorem s5_flowOf {k w a b n : Int32} : pX 91 0 [.int k, .int w, .int a, .int b, .int n, .null] [] M N S = some (some (.int (flC k w a b n)), M, N, S) := by
  unfold flC
  simp only [i5_flowOf_0, i5_flowOf_1, i5_flowOf_2, i5_flowOf_3, i5_flowOf_4, i5_flowOf_7, i5_flowOf_9, i5_flowOf_10, i5_flowOf_48, i5_flowOf_50, i5_flowOf_51, i5_flowOf_52, i5_flowOf_54, i5_flowOf_57, i5_flowOf_58, i5_flowOf_59, i5_flowOf_60, i5_flowOf_61, i5_flowOf_64, i5_flowOf_65, i5_flowOf_66, i5_flowOf_67, i5_flowOf_68, i5_flowOf_69, i5_flowOf_72, i5_flowOf_73, i5_flowOf_76, i5_flowOf_77, i5_flowOf_79, i5_flowOf_82, i5_flowOf_85, i5_flowOf_86, i5_flowOf_89, i5_flowOf_90, i5_flowOf_92, i5_flowOf_95, i5_flowOf_96, i5_flowOf_98, i5_flowOf_101, i5_flowOf_104, i5_flowOf_105, i5_flowOf_106, i5_flowOf_107, i5_flowOf_110, i5_flowOf_111, i5_flowOf_112, i5_flowOf_113, i5_flowOf_116, i5_flowOf_117, i5_flowOf_118, i5_flowOf_119, s5_levelling, s5_lifting, s5_overWeir, s5_isShutLock, s5_turnsUntilTwice, pK_i, bi_0, Classical.not_not, some_ite]
end L6
