/-! The law: both sides stay alike. -/
/-- what holds between two calls -/
def v_I (M : Nat → Nat → Int32) : Prop := M 2 = M 55 ∧ M 1 2 = M 54 1 ∧ M 1 2 ≤ 24 ∧ v_col M ∧ ((M 0 5 = 0 ∧ M 54 2 = 0 ∧ M 0 6 = 0 ∧ M 54 3 = 0) ∨ (M 0 5 = 1 ∧ M 54 2 = 1 ∧ v_open M ∧ ((M 0 6 = 0 ∧ M 54 3 = 0) ∨ (M 0 6 = 1 ∧ M 54 3 = 1 ∧ v_load M))))
theorem v_col0_c : (decide (v_M0 32 1 = 2) && decide (v_M0 33 1 = 2) && decide (v_M0 34 1 = 1)) = true := by decide +kernel
theorem v_I0 : v_I v_M0 := by
  obtain ⟨f1, f2, f3, f4, f5, f6⟩ := v_fresh
  have h := v_col0_c
  simp only [Bool.and_eq_true, decide_eq_true_eq] at h
  exact ⟨v_w0, by rw [f3, f4], by rw [f3]; decide, ⟨h.1.1, h.1.2, h.2⟩, Or.inl ⟨f1, f5, f2, f6⟩⟩
section V99f
variable {X : vi_Ex} {M M' : Nat → Nat → Int32} {P Q : (Nat → Nat → Int32) → Prop} {kc kr : Nat} {as : List Value} {x1 x2 x3 x4 x5 : Int32}
theorem vqi_mono (h : vqi X kc kr as M P) (hPQ : ∀ M2, P M2 → Q M2) : vqi X kc kr as M Q := by
  unfold vqi at h ⊢
  refine vo_mono h ?_
  rintro v1 S1 ⟨x, M1, e1, e2, h2⟩
  refine ⟨x, M1, e1, e2, vo_mono h2 ?_⟩
  rintro v2 S2 ⟨M2, e3, e4, h3⟩
  exact ⟨M2, e3, e4, hPQ M2 h3⟩
theorem vql_mono (h : vql X kc kr as M P) (hPQ : ∀ M2, P M2 → Q M2) : vql X kc kr as M Q := by
  unfold vql at h ⊢
  refine vo_mono h ?_
  rintro v1 S1 ⟨x, M1, e1, e2, h2⟩
  refine ⟨x, M1, e1, e2, vo_mono h2 ?_⟩
  rintro v2 S2 ⟨M2, e3, e4, h3⟩
  exact ⟨M2, e3, e4, hPQ M2 h3⟩
theorem v_I.sm (h : v_I M) (e : ∀ j, j ∉ [23, 24, 50, 51, 52, 53, 54, 56, 60, 61] → M' j = M j) (e54 : ∀ q, q < 28 → M' 54 q = M 54 q) : v_I M' := by
  obtain ⟨h1, h2, h3, ⟨c1, c2, c3⟩, h5⟩ := h
  have e0 := e 0 (by decide)
  have e1 := e 1 (by decide)
  refine ⟨by rw [e 2 (by decide), e 55 (by decide), h1], by rw [e1, e54 1 (by decide), h2], by rw [e1]; exact h3, ⟨by rw [e 32 (by decide), c1], by rw [e 33 (by decide), c2], by rw [e 34 (by decide), c3]⟩, ?_⟩
  rw [e0, e54 2 (by decide), e54 3 (by decide)]
  rcases h5 with h5 | ⟨o1, o2, o3, o4⟩
  · exact Or.inl h5
  · refine Or.inr ⟨o1, o2, o3.sm (fun j a b => e j (by simp only [List.mem_cons, List.not_mem_nil, or_false]; omega)) (e 55 (by decide)) (e 57 (by decide)) (e 58 (by decide)) (e 59 (by decide)) (e 62 (by decide)) (e 64 (by decide)) (e 65 (by decide)) (fun q hq => e54 q (by omega)), ?_⟩
    rcases o4 with o4 | ⟨l1, l2, l3⟩
    · exact Or.inl o4
    · exact Or.inr ⟨l1, l2, l3.sm (fun j hj => e j (by simp only [List.mem_cons, List.not_mem_nil, or_false]; omega)) (fun q hq => e54 q (by omega))⟩
theorem v_I_put (h : v_I M) : v_I (r_put (c_put M x1 x2 x3 x4 x5) x1 x2 x3 x4 x5) := by
  obtain ⟨h1, h2, h3, ⟨c1, c2, c3⟩, -⟩ := h
  have k1 : r_put (c_put M x1 x2 x3 x4 x5) x1 x2 x3 x4 x5 1 = M 1 := by
    unfold r_put c_put
    simp only [vu_ne (show ¬ 1 = 54 by decide), vu_ne (show ¬ 1 = 55 by decide), vu_ne (show ¬ 1 = 0 by decide), vu_ne (show ¬ 1 = 2 by decide)]
  refine ⟨?_, ?_, by rw [k1]; exact h3, ⟨?_, ?_, ?_⟩, Or.inl ⟨?_, ?_, ?_, ?_⟩⟩
  · unfold r_put c_put
    simp only [vu_ne (show ¬ 2 = 54 by decide), vu_ne (show ¬ 2 = 55 by decide), vu_ne (show ¬ 2 = 0 by decide), vu_ne (show ¬ 55 = 54 by decide), vu_ne (show ¬ 55 = 0 by decide), vu_ne (show ¬ 55 = 2 by decide), vu_eq, h1]
  · rw [k1, h2]
    unfold r_put c_put
    simp only [vu_eq, upd_ne (show ¬ 1 = 3 by decide), upd_ne (show ¬ 1 = 2 by decide), vu_ne (show ¬ 54 = 55 by decide), vu_ne (show ¬ 54 = 0 by decide), vu_ne (show ¬ 54 = 2 by decide)]
  · unfold r_put c_put
    simp only [vu_ne (show ¬ 32 = 54 by decide), vu_ne (show ¬ 32 = 55 by decide), vu_ne (show ¬ 32 = 0 by decide), vu_ne (show ¬ 32 = 2 by decide), c1]
  · unfold r_put c_put
    simp only [vu_ne (show ¬ 33 = 54 by decide), vu_ne (show ¬ 33 = 55 by decide), vu_ne (show ¬ 33 = 0 by decide), vu_ne (show ¬ 33 = 2 by decide), c2]
  · unfold r_put c_put
    simp only [vu_ne (show ¬ 34 = 54 by decide), vu_ne (show ¬ 34 = 55 by decide), vu_ne (show ¬ 34 = 0 by decide), vu_ne (show ¬ 34 = 2 by decide), c3]
  · unfold r_put c_put
    simp only [vu_ne (show ¬ 0 = 54 by decide), vu_ne (show ¬ 0 = 55 by decide), vu_eq, upd_ne (show ¬ 5 = 6 by decide), upd_eq]
  · unfold r_put
    simp only [vu_eq, upd_ne (show ¬ 2 = 3 by decide), upd_eq]
  · unfold r_put c_put
    simp only [vu_ne (show ¬ 0 = 54 by decide), vu_ne (show ¬ 0 = 55 by decide), vu_eq, upd_eq]
  · unfold r_put
    simp only [vu_eq, upd_eq]
theorem v_I_siz (h : v_I M) (hx : x1 ≤ 24) : v_I (r_siz (c_siz M x1) x1) := by
  obtain ⟨h1, h2, h3, ⟨c1, c2, c3⟩, -⟩ := h
  have k1 : r_siz (c_siz M x1) x1 1 2 = x1 := by
    unfold r_siz c_siz
    simp only [vu_ne (show ¬ 1 = 54 by decide), vu_ne (show ¬ 1 = 0 by decide), vu_eq, upd_eq]
  refine ⟨?_, ?_, by rw [k1]; exact hx, ⟨?_, ?_, ?_⟩, Or.inl ⟨?_, ?_, ?_, ?_⟩⟩
  · unfold r_siz c_siz
    simp only [vu_ne (show ¬ 2 = 54 by decide), vu_ne (show ¬ 2 = 0 by decide), vu_ne (show ¬ 2 = 1 by decide), vu_ne (show ¬ 55 = 54 by decide), vu_ne (show ¬ 55 = 0 by decide), vu_ne (show ¬ 55 = 1 by decide), h1]
  · rw [k1]
    unfold r_siz
    simp only [vu_eq, upd_ne (show ¬ 1 = 3 by decide), upd_ne (show ¬ 1 = 2 by decide), upd_eq]
  · unfold r_siz c_siz
    simp only [vu_ne (show ¬ 32 = 54 by decide), vu_ne (show ¬ 32 = 0 by decide), vu_ne (show ¬ 32 = 1 by decide), c1]
  · unfold r_siz c_siz
    simp only [vu_ne (show ¬ 33 = 54 by decide), vu_ne (show ¬ 33 = 0 by decide), vu_ne (show ¬ 33 = 1 by decide), c2]
  · unfold r_siz c_siz
    simp only [vu_ne (show ¬ 34 = 54 by decide), vu_ne (show ¬ 34 = 0 by decide), vu_ne (show ¬ 34 = 1 by decide), c3]
  · unfold r_siz c_siz
    simp only [vu_ne (show ¬ 0 = 54 by decide), vu_eq, upd_ne (show ¬ 5 = 6 by decide), upd_eq]
  · unfold r_siz
    simp only [vu_eq, upd_ne (show ¬ 2 = 3 by decide), upd_eq]
  · unfold r_siz c_siz
    simp only [vu_ne (show ¬ 0 = 54 by decide), vu_eq, upd_eq]
  · unfold r_siz
    simp only [vu_eq, upd_eq]
/-- a pair that changes nothing -/
theorem v_all_pairs (hX : X 999 = some (32, v_tr)) {op : Nat} (hop : op < 16) (h : v_I M) : vqp X op x1 x2 x3 x4 x5 M v_I := by
  have hI := h
  obtain ⟨h1, h2, h3, hcol, h5⟩ := h
  have same : ∀ M2, M2 = M → v_I M2 := fun M2 e => by rw [e]; exact hI
  match op, hop with
  | 0, _ =>
    show vqi _ _ _ _ _ _
    unfold vqi
    rw [m12]
    split
    · rename_i hc
      refine ⟨1, _, rfl, rfl, ?_⟩
      rw [m150, if_pos hc]
      exact ⟨_, rfl, rfl, v_I_put hI⟩
    · rename_i hc
      refine ⟨0, _, rfl, rfl, ?_⟩
      rw [m150, if_neg hc]
      exact ⟨_, rfl, rfl, hI⟩
  | 1, _ =>
    show vqi _ _ _ _ _ _
    unfold vqi
    rw [m14]
    split
    · rename_i hc
      refine ⟨1, _, rfl, rfl, ?_⟩
      rw [m151, if_pos hc]
      exact ⟨_, rfl, rfl, v_I_siz hI hc.2⟩
    · rename_i hc
      refine ⟨0, _, rfl, rfl, ?_⟩
      rw [m151, if_neg hc]
      exact ⟨_, rfl, rfl, hI⟩
  | 2, _ =>
    show vqi _ _ _ _ _ _
    refine vqi_mono (q2 h1 h2 h3) (fun M2 hq => ?_)
    obtain ⟨q1, q2, q3, q4, q5, q6, q7, q8⟩ := hq
    refine ⟨by rw [q1, q2, h1], by rw [q3, q4, h2], by rw [q3]; exact h3, ⟨by rw [q7 32 (by decide) (by decide)]; exact hcol.1, by rw [q7 33 (by decide) (by decide)]; exact hcol.2.1, by rw [q7 34 (by decide) (by decide)]; exact hcol.2.2⟩, ?_⟩
    rcases q8 with q8 | q8
    · exact Or.inl ⟨q8.1, q8.2, q5, q6⟩
    · exact Or.inr ⟨q8.1, q8.2.1, q8.2.2, Or.inl ⟨q5, q6⟩⟩
  | 3, _ =>
    show vqi _ _ _ _ _ _
    rcases h5 with ⟨f1, f2, f3, f4⟩ | ⟨o1, o2, o3, o4⟩
    · unfold vqi
      rw [m71s f1]
      refine ⟨_, _, rfl, rfl, ?_⟩
      rw [m180s f2]
      exact ⟨_, rfl, rfl, hI⟩
    · exact vqi_mono (q3 o3 o1 o2) same
  | 4, _ =>
    show vql _ _ _ _ _ _
    rcases h5 with ⟨f1, f2, f3, f4⟩ | ⟨o1, o2, o3, o4⟩
    · unfold vql
      rw [m72s f1]
      refine ⟨_, _, rfl, rfl, ?_⟩
      rw [m181s f2]
      exact ⟨_, rfl, rfl, hI⟩
    · exact vql_mono (q4 o3 o1 o2) same
  | 5, _ =>
    show vqi _ _ _ _ _ _
    rcases h5 with ⟨f1, f2, f3, f4⟩ | ⟨o1, o2, o3, o4⟩
    · unfold vqi
      rw [m75s f1]
      refine ⟨_, _, rfl, rfl, ?_⟩
      rw [m185s f2]
      exact ⟨_, rfl, rfl, hI⟩
    · exact vqi_mono (q5 o3 o1 o2) same
  | 6, _ =>
    show vqi _ _ _ _ _ _
    rcases h5 with ⟨f1, f2, f3, f4⟩ | ⟨o1, o2, o3, o4⟩
    · unfold vqi
      rw [m77s f1]
      refine ⟨_, _, rfl, rfl, ?_⟩
      rw [m186s f2]
      exact ⟨_, rfl, rfl, hI⟩
    · exact vqi_mono (q6 o3 o1 o2) (fun M2 e => hI.sm (fun j hj => e j (by simp only [List.mem_cons, List.not_mem_nil, or_false] at hj ⊢; omega)) (fun q _ => by rw [e 54 (by decide)]))
  | 7, _ =>
    show vql _ _ _ _ _ _
    rcases h5 with ⟨f1, f2, f3, f4⟩ | ⟨o1, o2, o3, o4⟩
    · unfold vql
      rw [m82s f1]
      refine ⟨_, _, rfl, rfl, ?_⟩
      rw [m187s f2]
      exact ⟨_, rfl, rfl, hI⟩
    · exact vql_mono (q7 o3 o1 o2) (fun M2 e => hI.sm (fun j hj => e j (by simp only [List.mem_cons, List.not_mem_nil, or_false] at hj ⊢; omega)) (fun q _ => by rw [e 54 (by decide)]))
  | 8, _ =>
    show vqi _ _ _ _ _ _
    rcases h5 with ⟨f1, f2, f3, f4⟩ | ⟨o1, o2, o3, o4⟩
    · unfold vqi
      rw [m83s f1]
      refine ⟨_, _, rfl, rfl, ?_⟩
      rw [m188s (by rw [vu_ne (by decide)]; exact f2)]
      refine ⟨_, rfl, rfl, ?_⟩
      have k0 : ∀ q, vi_up (vi_up M 0 6 0) 54 3 0 0 q = M 0 q := fun q => by
        rw [vu_ne (by decide), vu_eq]
        by_cases e : q = 6
        · rw [e, upd_eq, f3]
        · rw [upd_ne e]
      have k54 : ∀ q, vi_up (vi_up M 0 6 0) 54 3 0 54 q = M 54 q := fun q => by
        rw [vu_eq]
        by_cases e : q = 3
        · rw [e, upd_eq, f4]
        · rw [upd_ne e, vu_ne (by decide)]
      have kj : vi_up (vi_up M 0 6 0) 54 3 0 = M := by
        funext j q
        by_cases e0 : j = 0
        · rw [e0]; exact k0 q
        · by_cases e1 : j = 54
          · rw [e1]; exact k54 q
          · rw [vu_ne e1, vu_ne e0]
      rw [kj]
      exact hI
    · refine vqi_mono (q8 hX o3 o1 o2 hcol) (fun M2 hq => ?_)
      obtain ⟨⟨a1, a2, a3, a4, a5, a6⟩, hq⟩ := hq
      refine ⟨by rw [a1 2 (by decide), a1 55 (by decide), h1], by rw [a1 1 (by decide), a3 1 (by decide), h2], by rw [a1 1 (by decide)]; exact h3, ⟨by rw [a4]; exact hcol.1, by rw [a5]; exact hcol.2.1, by rw [a6]; exact hcol.2.2⟩, Or.inr ⟨by rw [a2, o1], by rw [a3 2 (by decide), o2], ?_, hq⟩⟩
      exact o3.sm (fun j x y => a1 j (Or.inl ⟨x, y⟩)) (a1 55 (by decide)) (a1 57 (by decide)) (a1 58 (by decide)) (a1 59 (by decide)) (a1 62 (by decide)) (a1 64 (by decide)) (a1 65 (by decide)) (fun q hq => a3 q (by omega))
  | 9, _ =>
    show vqi _ _ _ _ _ _
    have hcase : (M 0 6 = 0 ∧ M 54 3 = 0) ∨ (M 0 6 = 1 ∧ M 54 3 = 1 ∧ v_load M) := by
      rcases h5 with ⟨f1, f2, f3, f4⟩ | ⟨o1, o2, o3, o4⟩
      · exact Or.inl ⟨f3, f4⟩
      · exact o4
    rcases hcase with ⟨f3, f4⟩ | ⟨l1, l2, l3⟩
    · unfold vqi
      rw [m130s f3]
      refine ⟨_, _, rfl, rfl, ?_⟩
      rw [m211s f4]
      exact ⟨_, rfl, rfl, hI⟩
    · exact vqi_mono (q9 l3 l1 l2) same
  | 10, _ =>
    show vqi _ _ _ _ _ _
    have hcase : (M 0 6 = 0 ∧ M 54 3 = 0) ∨ (M 0 6 = 1 ∧ M 54 3 = 1 ∧ v_load M) := by
      rcases h5 with ⟨f1, f2, f3, f4⟩ | ⟨o1, o2, o3, o4⟩
      · exact Or.inl ⟨f3, f4⟩
      · exact o4
    rcases hcase with ⟨f3, f4⟩ | ⟨l1, l2, l3⟩
    · unfold vqi
      rw [m131s f3]
      refine ⟨_, _, rfl, rfl, ?_⟩
      rw [m212s f4]
      exact ⟨_, rfl, rfl, hI⟩
    · exact vqi_mono (q10 l3 l1 l2) same
  | 11, _ =>
    show vqi _ _ _ _ _ _
    have hcase : (M 0 6 = 0 ∧ M 54 3 = 0) ∨ (M 0 6 = 1 ∧ M 54 3 = 1 ∧ v_load M) := by
      rcases h5 with ⟨f1, f2, f3, f4⟩ | ⟨o1, o2, o3, o4⟩
      · exact Or.inl ⟨f3, f4⟩
      · exact o4
    rcases hcase with ⟨f3, f4⟩ | ⟨l1, l2, l3⟩
    · unfold vqi
      rw [m133s f3]
      refine ⟨_, _, rfl, rfl, ?_⟩
      rw [m217s f4]
      exact ⟨_, rfl, rfl, hI⟩
    · exact vqi_mono (q11 l3 l1 l2) same
  | 12, _ =>
    show vql _ _ _ _ _ _
    have hcase : (M 0 6 = 0 ∧ M 54 3 = 0) ∨ (M 0 6 = 1 ∧ M 54 3 = 1 ∧ v_load M) := by
      rcases h5 with ⟨f1, f2, f3, f4⟩ | ⟨o1, o2, o3, o4⟩
      · exact Or.inl ⟨f3, f4⟩
      · exact o4
    rcases hcase with ⟨f3, f4⟩ | ⟨l1, l2, l3⟩
    · unfold vql
      rw [m137s f3]
      refine ⟨_, _, rfl, rfl, ?_⟩
      rw [m219s f4]
      exact ⟨_, rfl, rfl, hI⟩
    · exact vql_mono (q12 l3 l1 l2) (fun M2 e => hI.sm (fun j hj => by
        simp only [List.mem_cons, List.not_mem_nil, or_false, not_or] at hj
        exact e.1 j (by omega) (by omega) (by omega)) e.2)
  | 13, _ =>
    show vql _ _ _ _ _ _
    have hcase : (M 0 6 = 0 ∧ M 54 3 = 0) ∨ (M 0 6 = 1 ∧ M 54 3 = 1 ∧ v_load M) := by
      rcases h5 with ⟨f1, f2, f3, f4⟩ | ⟨o1, o2, o3, o4⟩
      · exact Or.inl ⟨f3, f4⟩
      · exact o4
    rcases hcase with ⟨f3, f4⟩ | ⟨l1, l2, l3⟩
    · unfold vql
      rw [m141s f3]
      refine ⟨_, _, rfl, rfl, ?_⟩
      rw [m226s f4]
      exact ⟨_, rfl, rfl, hI⟩
    · exact vql_mono (q13 l3 l1 l2) (fun M2 e => hI.sm (fun j hj => by
        simp only [List.mem_cons, List.not_mem_nil, or_false, not_or] at hj
        exact e.1 j (by omega)) e.2)
  | 14, _ =>
    show vqi _ _ _ _ _ _
    have hcase : (M 0 6 = 0 ∧ M 54 3 = 0) ∨ (M 0 6 = 1 ∧ M 54 3 = 1 ∧ v_load M) := by
      rcases h5 with ⟨f1, f2, f3, f4⟩ | ⟨o1, o2, o3, o4⟩
      · exact Or.inl ⟨f3, f4⟩
      · exact o4
    rcases hcase with ⟨f3, f4⟩ | ⟨l1, l2, l3⟩
    · unfold vqi
      rw [m142s f3]
      refine ⟨_, _, rfl, rfl, ?_⟩
      rw [m227s f4]
      exact ⟨_, rfl, rfl, hI⟩
    · exact vqi_mono (q14 l3 l1 l2) (fun M2 e => hI.sm (fun j hj => by
        simp only [List.mem_cons, List.not_mem_nil, or_false, not_or] at hj
        exact e j (by omega) (by omega)) (fun q _ => by rw [e 54 (by decide) (by decide)]))
  | 15, _ =>
    show vqi _ _ _ _ _ _
    have hcase : (M 0 6 = 0 ∧ M 54 3 = 0) ∨ (M 0 6 = 1 ∧ M 54 3 = 1 ∧ v_load M) := by
      rcases h5 with ⟨f1, f2, f3, f4⟩ | ⟨o1, o2, o3, o4⟩
      · exact Or.inl ⟨f3, f4⟩
      · exact o4
    rcases hcase with ⟨f3, f4⟩ | ⟨l1, l2, l3⟩
    · unfold vqi
      rw [m146s f3]
      refine ⟨_, _, rfl, rfl, ?_⟩
      rw [m230s f4]
      exact ⟨_, rfl, rfl, hI⟩
    · exact vqi_mono (q15 l3 l1 l2) (fun M2 e => hI.sm (fun j hj => by
        simp only [List.mem_cons, List.not_mem_nil, or_false, not_or] at hj
        exact e j (by omega) (by omega)) (fun q _ => by rw [e 54 (by decide) (by decide)]))
  | n + 16, h => omega
end V99f
theorem v_X999 {L : Nat} {xs : Nat → Int32} : v_X L xs 999 = some (32, v_tr) := rfl
/-- the law -/
theorem v_law : v_Law := by
  intro L xs hL
  rw [v_law_start]
  have key : ∀ d i M, L ≤ i + d → i ≤ 3072 → v_I M → vw (v_X L xs) 231 vc231_18 [some (.ref 998), some (.ref 0), some (.ref 54), some (.int (Int32.ofNat i))] [] (v_sh, M) (fun v S => v = some (.int 1) ∧ S.1.length ≤ 600000 ∧ vi_tot S ≤ 7302250) := by
    intro d
    induction d with
    | zero =>
      intro i M h1 h2 hI
      exact v_over hL (by omega) h2 ⟨rfl, v_tot_sh⟩
    | succ d ih =>
      intro i M h1 h2 hI
      by_cases g : i + 6 ≤ L
      · obtain ⟨op, hop, hx⟩ := v_and15 (xs i)
        exact v_turn hL g hop hx (v_all_pairs v_X999 hop hI) (fun M2 hM2 => ih (i + 6) M2 (by omega) (by omega) hM2)
      · exact v_over hL (by omega) h2 ⟨rfl, v_tot_sh⟩
  exact key L 0 v_M0 (by omega) (by omega) v_I0
