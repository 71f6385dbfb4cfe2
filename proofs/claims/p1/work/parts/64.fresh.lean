/-! One call on a fresh object: the claim of the smallest part. -/
theorem v_fresh_c : (decide (v_M0 0 5 = 0) && decide (v_M0 0 6 = 0) && decide (v_M0 1 2 = 1) && decide (v_M0 54 1 = 1) && decide (v_M0 54 2 = 0) && decide (v_M0 54 3 = 0)) = true := by decide +kernel
theorem v_fresh : v_M0 0 5 = 0 ∧ v_M0 0 6 = 0 ∧ v_M0 1 2 = 1 ∧ v_M0 54 1 = 1 ∧ v_M0 54 2 = 0 ∧ v_M0 54 3 = 0 := by
  have h := v_fresh_c
  simp only [Bool.and_eq_true, decide_eq_true_eq] at h
  exact ⟨h.1.1.1.1.1, h.1.1.1.1.2, h.1.1.1.2, h.1.1.2, h.1.2, h.2⟩
section V64
variable {X : vi_Ex} {M : Nat → Nat → Int32}
theorem v_first {op : Nat} (hop : op < 16) {x1 x2 x3 x4 x5 : Int32} (f1 : M 0 5 = 0) (f2 : M 0 6 = 0) (f3 : M 1 2 = 1) (f4 : M 54 1 = 1) (f5 : M 54 2 = 0) (f6 : M 54 3 = 0) : vqp X op x1 x2 x3 x4 x5 M (fun _ => True) := by
  match op, hop with
  | 0, _ =>
    show vqi _ _ _ _ _ _
    unfold vqi
    rw [m12]
    split
    · rename_i hc
      refine ⟨1, _, rfl, rfl, ?_⟩
      rw [m150, if_pos hc]
      exact ⟨_, rfl, rfl, trivial⟩
    · rename_i hc
      refine ⟨0, _, rfl, rfl, ?_⟩
      rw [m150, if_neg hc]
      exact ⟨_, rfl, rfl, trivial⟩
  | 1, _ =>
    show vqi _ _ _ _ _ _
    unfold vqi
    rw [m14]
    split
    · rename_i hc
      refine ⟨1, _, rfl, rfl, ?_⟩
      rw [m151, if_pos hc]
      exact ⟨_, rfl, rfl, trivial⟩
    · rename_i hc
      refine ⟨0, _, rfl, rfl, ?_⟩
      rw [m151, if_neg hc]
      exact ⟨_, rfl, rfl, trivial⟩
  | 2, _ =>
    show vqi _ _ _ _ _ _
    unfold vqi
    rw [m15f f3]
    refine ⟨1, _, rfl, rfl, ?_⟩
    rw [m152f (by simp [vi_up, vi_row, upd, f4])]
    exact ⟨_, rfl, rfl, trivial⟩
  | 3, _ =>
    show vqi _ _ _ _ _ _
    unfold vqi
    rw [m71s f1]
    refine ⟨_, _, rfl, rfl, ?_⟩
    rw [m180s f5]
    exact ⟨_, rfl, rfl, trivial⟩
  | 4, _ =>
    show vql _ _ _ _ _ _
    unfold vql
    rw [m72s f1]
    refine ⟨_, _, rfl, rfl, ?_⟩
    rw [m181s f5]
    exact ⟨_, rfl, rfl, trivial⟩
  | 5, _ =>
    show vqi _ _ _ _ _ _
    unfold vqi
    rw [m75s f1]
    refine ⟨_, _, rfl, rfl, ?_⟩
    rw [m185s f5]
    exact ⟨_, rfl, rfl, trivial⟩
  | 6, _ =>
    show vqi _ _ _ _ _ _
    unfold vqi
    rw [m77s f1]
    refine ⟨_, _, rfl, rfl, ?_⟩
    rw [m186s f5]
    exact ⟨_, rfl, rfl, trivial⟩
  | 7, _ =>
    show vql _ _ _ _ _ _
    unfold vql
    rw [m82s f1]
    refine ⟨_, _, rfl, rfl, ?_⟩
    rw [m187s f5]
    exact ⟨_, rfl, rfl, trivial⟩
  | 8, _ =>
    show vqi _ _ _ _ _ _
    unfold vqi
    rw [m83s f1]
    refine ⟨11, _, rfl, rfl, ?_⟩
    rw [m188s (by simp [vi_up, vi_row, upd, f5])]
    exact ⟨_, rfl, rfl, trivial⟩
  | 9, _ =>
    show vqi _ _ _ _ _ _
    unfold vqi
    rw [m130s f2]
    refine ⟨_, _, rfl, rfl, ?_⟩
    rw [m211s f6]
    exact ⟨_, rfl, rfl, trivial⟩
  | 10, _ =>
    show vqi _ _ _ _ _ _
    unfold vqi
    rw [m131s f2]
    refine ⟨_, _, rfl, rfl, ?_⟩
    rw [m212s f6]
    exact ⟨_, rfl, rfl, trivial⟩
  | 11, _ =>
    show vqi _ _ _ _ _ _
    unfold vqi
    rw [m133s f2]
    refine ⟨_, _, rfl, rfl, ?_⟩
    rw [m217s f6]
    exact ⟨_, rfl, rfl, trivial⟩
  | 12, _ =>
    show vql _ _ _ _ _ _
    unfold vql
    rw [m137s f2]
    refine ⟨_, _, rfl, rfl, ?_⟩
    rw [m219s f6]
    exact ⟨_, rfl, rfl, trivial⟩
  | 13, _ =>
    show vql _ _ _ _ _ _
    unfold vql
    rw [m141s f2]
    refine ⟨_, _, rfl, rfl, ?_⟩
    rw [m226s f6]
    exact ⟨_, rfl, rfl, trivial⟩
  | 14, _ =>
    show vqi _ _ _ _ _ _
    unfold vqi
    rw [m142s f2]
    refine ⟨_, _, rfl, rfl, ?_⟩
    rw [m227s f6]
    exact ⟨_, rfl, rfl, trivial⟩
  | 15, _ =>
    show vqi _ _ _ _ _ _
    unfold vqi
    rw [m146s f2]
    refine ⟨0, _, rfl, rfl, ?_⟩
    rw [m230s f6]
    exact ⟨_, rfl, rfl, trivial⟩
  | n + 16, h => omega
end V64
theorem v_tot_sh {M : Nat → Nat → Int32} : (v_sh, M).1.length ≤ 600000 ∧ vi_tot (v_sh, M) ≤ 7302250 := by
  refine ⟨by show v_sh.length ≤ 600000; decide, ?_⟩
  show (v_sh.map vi_sz).sum ≤ 7302250
  decide
/-- the law on scripts of at most six ints -/
theorem v_law6 (L : Nat) (xs : Nat → Int32) (hL : L ≤ 6) : vo (v_X L xs) 231 [.ref 998] ([], fun _ _ => 0) (fun v S => v = some (.int 1) ∧ S.1.length ≤ 600000 ∧ vi_tot S ≤ 7302250) := by
  rw [v_law_start]
  obtain ⟨f1, f2, f3, f4, f5, f6⟩ := v_fresh
  by_cases h6 : L = 6
  · obtain ⟨op, hop, hx⟩ := v_and15 (xs 0)
    refine v_turn (i := 0) (by omega) (by omega) hop hx (v_first hop f1 f2 f3 f4 f5 f6) (fun M2 _ => ?_)
    exact v_over (by omega) (by omega) (by omega) ⟨rfl, v_tot_sh⟩
  · exact v_over (i := 0) (by omega) (by omega) (by omega) ⟨rfl, v_tot_sh⟩
