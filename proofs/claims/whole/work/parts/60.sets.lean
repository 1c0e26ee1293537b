/-! ALL SETS of open gates, in the order of their bits -/
theorem p2_ok {g : Nat} (h : g ≤ 6) : (1 : Int32) <<< (nI g &&& 31) = nI (2 ^ g) := by
  have key : ∀ g, g < 7 → (1 : Int32) <<< (nI g &&& 31) = nI (2 ^ g) := by decide +kernel
  exact key g (by omega)
theorem p2_64 {g : Nat} (h : g ≤ 6) : 2 ^ g ≤ 64 ∧ 0 < 2 ^ g := ⟨Nat.pow_le_pow_right (show 0 < 2 by decide) h, Nat.pow_pos (by decide)⟩
theorem ag_lt {g s : Nat} (h : g ≤ 6) (hs : s ≤ 5000) : (ag g < nI s) = ¬ s < 2 ^ g := by
  obtain ⟨p1, p2⟩ := p2_64 h
  unfold ag
  by_cases q : s < 2 ^ g
  · rw [nnl (show s ≤ 2 ^ g - 1 by omega) (by omega)]
    exact propext ⟨False.elim, fun k => absurd q k⟩
  · rw [nlt (show 2 ^ g - 1 < s by omega) hs]
    exact propext ⟨fun _ => q, fun _ => trivial⟩
theorem p2_lt {g s : Nat} (h : g ≤ 6) (hs : s ≤ 5000) : (nI s < nI (2 ^ g)) = (s < 2 ^ g) := by
  obtain ⟨p1, p2⟩ := p2_64 h
  by_cases q : s < 2 ^ g
  · rw [nlt q (by omega)]; exact (eq_true q).symm
  · rw [nnl (show 2 ^ g ≤ s by omega) hs]; exact (eq_false q).symm
/-- the best set so far, and how unlike its levels are -/
def evq (wt : Int32) (sp : Nat → Int32) : Nat → Int32 × Int32
  | 0 => (0, 61)
  | s + 1 => if nI s &&& wt = 0 then (if sp s < (evq wt sp s).2 then (nI s, sp s) else evq wt sp s) else evq wt sp s
noncomputable def spw (σ : Nat → Nat → Int32) (g n s : Nat) : Int32 := maxf (fun b => wat σ g (nI s) n b) (g + 1) - minf (fun b => wat σ g (nI s) n b) (g + 1)
