/-! The objects behind the two constructors. -/

def v_sh : List vi_Sh := [.inr (.inl (0, [some (.ref 1), some (.ref 4), some (.ref 16), some (.ref 22), some (.ref 27), none, none])),
  .inr (.inl (7, [some (.ref 2), some (.ref 3), none])),
  .inl (0, 192),
  .inl (0, 24),
  .inr (.inl (3, [some (.ref 5), some (.ref 11), none, some (.ref 1), some (.ref 7), some (.ref 8), some (.ref 9), some (.ref 10), some (.ref 12), some (.ref 13), some (.ref 14), some (.ref 15), none])),
  .inr (.inl (2, [some (.ref 6), none, none])),
  .inl (0, 96),
  .inl (0, 12),
  .inl (0, 12),
  .inl (0, 12),
  .inl (0, 12),
  .inl (0, 12),
  .inl (1, 12),
  .inl (0, 12),
  .inl (0, 12),
  .inl (0, 12),
  .inr (.inl (8, [some (.ref 17), some (.ref 19), some (.ref 1), some (.ref 21), none])),
  .inr (.inl (2, [some (.ref 18), none, none])),
  .inl (0, 96),
  .inr (.inl (2, [some (.ref 20), none, none])),
  .inl (0, 96),
  .inl (0, 192),
  .inr (.inl (9, [some (.ref 1), some (.ref 4), some (.ref 16), some (.ref 23), some (.ref 25), some (.ref 26)])),
  .inr (.inl (2, [some (.ref 24), none, none])),
  .inl (0, 96),
  .inl (1, 24),
  .inl (1, 96),
  .inr (.inl (10, [some (.ref 28), some (.ref 30), some (.ref 32), some (.ref 36), some (.ref 39), some (.ref 33), some (.ref 34), some (.ref 35), some (.ref 37), some (.ref 38), some (.ref 50), some (.ref 51), some (.ref 52), none])),
  .inr (.inl (11, [some (.ref 29), none])),
  .inl (0, 192),
  .inr (.inl (11, [some (.ref 31), none])),
  .inl (0, 192),
  .inr (.inl (1, [some (.ref 30), none, none, none])),
  .inr (.inl (1, [some (.ref 30), none, none, none])),
  .inr (.inl (1, [some (.ref 30), none, none, none])),
  .inr (.inl (5, [some (.ref 30)])),
  .inl (0, 400),
  .inl (0, 12),
  .inl (1, 10),
  .inr (.inr [some 40, some 41, some 42, some 43, some 44, some 45, some 46, some 47, some 48, some 49]),
  .inr (.inl (6, [none, none, none])),
  .inr (.inl (6, [none, none, none])),
  .inr (.inl (6, [none, none, none])),
  .inr (.inl (6, [none, none, none])),
  .inr (.inl (6, [none, none, none])),
  .inr (.inl (6, [none, none, none])),
  .inr (.inl (6, [none, none, none])),
  .inr (.inl (6, [none, none, none])),
  .inr (.inl (6, [none, none, none])),
  .inr (.inl (6, [none, none, none])),
  .inr (.inl (6, [none, none, none])),
  .inr (.inl (6, [none, none, none])),
  .inr (.inl (4, [none, some (.ref 53)])),
  .inl (1, 400),
  .inr (.inl (12, [some (.ref 55), none, none, none, some (.ref 56), some (.ref 57), some (.ref 58), some (.ref 59), some (.ref 60), none, none, none, some (.ref 61), some (.ref 62), some (.ref 63), some (.ref 64), some (.ref 65), none, some (.ref 66), some (.ref 67), none, none, none, some (.ref 68), none, none, none, none, none, none, none, none, none, none])),
  .inl (0, 192),
  .inl (0, 24),
  .inl (0, 24),
  .inl (0, 24),
  .inl (0, 24),
  .inl (0, 96),
  .inl (1, 96),
  .inl (1, 12),
  .inl (1, 12),
  .inl (0, 12),
  .inl (0, 12),
  .inl (0, 192),
  .inl (0, 192),
  .inl (0, 12)]
theorem v_sh0 : v_sh[0]? = some (.inr (.inl (0, [some (.ref 1), some (.ref 4), some (.ref 16), some (.ref 22), some (.ref 27), none, none]))) := rfl
theorem vf0_0 {M : Nat → Nat → Int32} : vi_fld (v_sh, M) 0 0 0 = some (.ref 1) := rfl
theorem vf0_1 {M : Nat → Nat → Int32} : vi_fld (v_sh, M) 0 0 1 = some (.ref 4) := rfl
theorem vf0_2 {M : Nat → Nat → Int32} : vi_fld (v_sh, M) 0 0 2 = some (.ref 16) := rfl
theorem vf0_3 {M : Nat → Nat → Int32} : vi_fld (v_sh, M) 0 0 3 = some (.ref 22) := rfl
theorem vf0_4 {M : Nat → Nat → Int32} : vi_fld (v_sh, M) 0 0 4 = some (.ref 27) := rfl
theorem vf0_5 {M : Nat → Nat → Int32} : vi_fld (v_sh, M) 0 0 5 = some (.int (M 0 5)) := rfl
theorem vp0_5 {M : Nat → Nat → Int32} {x : Int32} : vi_put (v_sh, M) 0 0 5 1 (.int x) = if x = 0 ∨ x = 1 then some (v_sh, vi_up M 0 5 x) else none := by
  show (if (1 : Int) = 0 ∨ ((1 : Int) = 1 ∧ (x = 0 ∨ x = 1)) then some (v_sh, vi_up M 0 5 x) else none) = _
  simp
theorem vf0_6 {M : Nat → Nat → Int32} : vi_fld (v_sh, M) 0 0 6 = some (.int (M 0 6)) := rfl
theorem vp0_6 {M : Nat → Nat → Int32} {x : Int32} : vi_put (v_sh, M) 0 0 6 1 (.int x) = if x = 0 ∨ x = 1 then some (v_sh, vi_up M 0 6 x) else none := by
  show (if (1 : Int) = 0 ∨ ((1 : Int) = 1 ∧ (x = 0 ∨ x = 1)) then some (v_sh, vi_up M 0 6 x) else none) = _
  simp
theorem vis0 {M : Nat → Nat → Int32} : vi_is (v_sh, M) 0 0 = true := rfl
theorem v_sh1 : v_sh[1]? = some (.inr (.inl (7, [some (.ref 2), some (.ref 3), none]))) := rfl
theorem vf1_0 {M : Nat → Nat → Int32} : vi_fld (v_sh, M) 1 7 0 = some (.ref 2) := rfl
theorem vf1_1 {M : Nat → Nat → Int32} : vi_fld (v_sh, M) 1 7 1 = some (.ref 3) := rfl
theorem vf1_2 {M : Nat → Nat → Int32} : vi_fld (v_sh, M) 1 7 2 = some (.int (M 1 2)) := rfl
theorem vp1_2 {M : Nat → Nat → Int32} {x : Int32} : vi_put (v_sh, M) 1 7 2 0 (.int x) = some (v_sh, vi_up M 1 2 x) := rfl
theorem vis1 {M : Nat → Nat → Int32} : vi_is (v_sh, M) 1 7 = true := rfl
theorem v_sh2 : v_sh[2]? = some (.inl (0, 192)) := rfl
theorem val2 {X : vi_Ex} {M : Nat → Nat → Int32} {x : Int32} : vi_ald X (v_sh, M) 2 0 x = if 0 ≤ x ∧ x.toNatClampNeg < 192 then some (M 2 x.toNatClampNeg) else none := by
  show (if (0 = 0 ∧ ¬ (x < 0 ∨ 192 ≤ x.toNatClampNeg)) then some (M 2 x.toNatClampNeg) else none) = _
  simp
theorem vas2 {M : Nat → Nat → Int32} {x y : Int32} : vi_ast (v_sh, M) 2 0 x y = if 0 ≤ x ∧ x.toNatClampNeg < 192 then some (v_sh, vi_up M 2 x.toNatClampNeg y) else none := by
  show (if (0 = 0 ∧ ¬ (x < 0 ∨ 192 ≤ x.toNatClampNeg)) then some (v_sh, vi_up M 2 x.toNatClampNeg y) else none) = _
  simp
theorem vle2 {X : vi_Ex} {M : Nat → Nat → Int32} : vi_len X (v_sh, M) 2 = some 192 := rfl
theorem v_sh3 : v_sh[3]? = some (.inl (0, 24)) := rfl
theorem val3 {X : vi_Ex} {M : Nat → Nat → Int32} {x : Int32} : vi_ald X (v_sh, M) 3 0 x = if 0 ≤ x ∧ x.toNatClampNeg < 24 then some (M 3 x.toNatClampNeg) else none := by
  show (if (0 = 0 ∧ ¬ (x < 0 ∨ 24 ≤ x.toNatClampNeg)) then some (M 3 x.toNatClampNeg) else none) = _
  simp
theorem vas3 {M : Nat → Nat → Int32} {x y : Int32} : vi_ast (v_sh, M) 3 0 x y = if 0 ≤ x ∧ x.toNatClampNeg < 24 then some (v_sh, vi_up M 3 x.toNatClampNeg y) else none := by
  show (if (0 = 0 ∧ ¬ (x < 0 ∨ 24 ≤ x.toNatClampNeg)) then some (v_sh, vi_up M 3 x.toNatClampNeg y) else none) = _
  simp
theorem vle3 {X : vi_Ex} {M : Nat → Nat → Int32} : vi_len X (v_sh, M) 3 = some 24 := rfl
theorem v_sh4 : v_sh[4]? = some (.inr (.inl (3, [some (.ref 5), some (.ref 11), none, some (.ref 1), some (.ref 7), some (.ref 8), some (.ref 9), some (.ref 10), some (.ref 12), some (.ref 13), some (.ref 14), some (.ref 15), none]))) := rfl
theorem vf4_0 {M : Nat → Nat → Int32} : vi_fld (v_sh, M) 4 3 0 = some (.ref 5) := rfl
theorem vf4_1 {M : Nat → Nat → Int32} : vi_fld (v_sh, M) 4 3 1 = some (.ref 11) := rfl
theorem vf4_2 {M : Nat → Nat → Int32} : vi_fld (v_sh, M) 4 3 2 = some (.int (M 4 2)) := rfl
theorem vp4_2 {M : Nat → Nat → Int32} {x : Int32} : vi_put (v_sh, M) 4 3 2 0 (.int x) = some (v_sh, vi_up M 4 2 x) := rfl
theorem vf4_3 {M : Nat → Nat → Int32} : vi_fld (v_sh, M) 4 3 3 = some (.ref 1) := rfl
theorem vf4_4 {M : Nat → Nat → Int32} : vi_fld (v_sh, M) 4 3 4 = some (.ref 7) := rfl
theorem vf4_5 {M : Nat → Nat → Int32} : vi_fld (v_sh, M) 4 3 5 = some (.ref 8) := rfl
theorem vf4_6 {M : Nat → Nat → Int32} : vi_fld (v_sh, M) 4 3 6 = some (.ref 9) := rfl
theorem vf4_7 {M : Nat → Nat → Int32} : vi_fld (v_sh, M) 4 3 7 = some (.ref 10) := rfl
theorem vf4_8 {M : Nat → Nat → Int32} : vi_fld (v_sh, M) 4 3 8 = some (.ref 12) := rfl
theorem vf4_9 {M : Nat → Nat → Int32} : vi_fld (v_sh, M) 4 3 9 = some (.ref 13) := rfl
theorem vf4_10 {M : Nat → Nat → Int32} : vi_fld (v_sh, M) 4 3 10 = some (.ref 14) := rfl
theorem vf4_11 {M : Nat → Nat → Int32} : vi_fld (v_sh, M) 4 3 11 = some (.ref 15) := rfl
theorem vf4_12 {M : Nat → Nat → Int32} : vi_fld (v_sh, M) 4 3 12 = some (.int (M 4 12)) := rfl
theorem vp4_12 {M : Nat → Nat → Int32} {x : Int32} : vi_put (v_sh, M) 4 3 12 0 (.int x) = some (v_sh, vi_up M 4 12 x) := rfl
theorem vis4 {M : Nat → Nat → Int32} : vi_is (v_sh, M) 4 3 = true := rfl
theorem v_sh5 : v_sh[5]? = some (.inr (.inl (2, [some (.ref 6), none, none]))) := rfl
theorem vf5_0 {M : Nat → Nat → Int32} : vi_fld (v_sh, M) 5 2 0 = some (.ref 6) := rfl
theorem vf5_1 {M : Nat → Nat → Int32} : vi_fld (v_sh, M) 5 2 1 = some (.int (M 5 1)) := rfl
theorem vp5_1 {M : Nat → Nat → Int32} {x : Int32} : vi_put (v_sh, M) 5 2 1 0 (.int x) = some (v_sh, vi_up M 5 1 x) := rfl
theorem vf5_2 {M : Nat → Nat → Int32} : vi_fld (v_sh, M) 5 2 2 = some (.int (M 5 2)) := rfl
theorem vp5_2 {M : Nat → Nat → Int32} {x : Int32} : vi_put (v_sh, M) 5 2 2 1 (.int x) = if x = 0 ∨ x = 1 then some (v_sh, vi_up M 5 2 x) else none := by
  show (if (1 : Int) = 0 ∨ ((1 : Int) = 1 ∧ (x = 0 ∨ x = 1)) then some (v_sh, vi_up M 5 2 x) else none) = _
  simp
theorem vis5 {M : Nat → Nat → Int32} : vi_is (v_sh, M) 5 2 = true := rfl
theorem v_sh6 : v_sh[6]? = some (.inl (0, 96)) := rfl
theorem val6 {X : vi_Ex} {M : Nat → Nat → Int32} {x : Int32} : vi_ald X (v_sh, M) 6 0 x = if 0 ≤ x ∧ x.toNatClampNeg < 96 then some (M 6 x.toNatClampNeg) else none := by
  show (if (0 = 0 ∧ ¬ (x < 0 ∨ 96 ≤ x.toNatClampNeg)) then some (M 6 x.toNatClampNeg) else none) = _
  simp
theorem vas6 {M : Nat → Nat → Int32} {x y : Int32} : vi_ast (v_sh, M) 6 0 x y = if 0 ≤ x ∧ x.toNatClampNeg < 96 then some (v_sh, vi_up M 6 x.toNatClampNeg y) else none := by
  show (if (0 = 0 ∧ ¬ (x < 0 ∨ 96 ≤ x.toNatClampNeg)) then some (v_sh, vi_up M 6 x.toNatClampNeg y) else none) = _
  simp
theorem vle6 {X : vi_Ex} {M : Nat → Nat → Int32} : vi_len X (v_sh, M) 6 = some 96 := rfl
theorem v_sh7 : v_sh[7]? = some (.inl (0, 12)) := rfl
theorem val7 {X : vi_Ex} {M : Nat → Nat → Int32} {x : Int32} : vi_ald X (v_sh, M) 7 0 x = if 0 ≤ x ∧ x.toNatClampNeg < 12 then some (M 7 x.toNatClampNeg) else none := by
  show (if (0 = 0 ∧ ¬ (x < 0 ∨ 12 ≤ x.toNatClampNeg)) then some (M 7 x.toNatClampNeg) else none) = _
  simp
theorem vas7 {M : Nat → Nat → Int32} {x y : Int32} : vi_ast (v_sh, M) 7 0 x y = if 0 ≤ x ∧ x.toNatClampNeg < 12 then some (v_sh, vi_up M 7 x.toNatClampNeg y) else none := by
  show (if (0 = 0 ∧ ¬ (x < 0 ∨ 12 ≤ x.toNatClampNeg)) then some (v_sh, vi_up M 7 x.toNatClampNeg y) else none) = _
  simp
theorem vle7 {X : vi_Ex} {M : Nat → Nat → Int32} : vi_len X (v_sh, M) 7 = some 12 := rfl
theorem v_sh8 : v_sh[8]? = some (.inl (0, 12)) := rfl
theorem val8 {X : vi_Ex} {M : Nat → Nat → Int32} {x : Int32} : vi_ald X (v_sh, M) 8 0 x = if 0 ≤ x ∧ x.toNatClampNeg < 12 then some (M 8 x.toNatClampNeg) else none := by
  show (if (0 = 0 ∧ ¬ (x < 0 ∨ 12 ≤ x.toNatClampNeg)) then some (M 8 x.toNatClampNeg) else none) = _
  simp
theorem vas8 {M : Nat → Nat → Int32} {x y : Int32} : vi_ast (v_sh, M) 8 0 x y = if 0 ≤ x ∧ x.toNatClampNeg < 12 then some (v_sh, vi_up M 8 x.toNatClampNeg y) else none := by
  show (if (0 = 0 ∧ ¬ (x < 0 ∨ 12 ≤ x.toNatClampNeg)) then some (v_sh, vi_up M 8 x.toNatClampNeg y) else none) = _
  simp
theorem vle8 {X : vi_Ex} {M : Nat → Nat → Int32} : vi_len X (v_sh, M) 8 = some 12 := rfl
theorem v_sh9 : v_sh[9]? = some (.inl (0, 12)) := rfl
theorem val9 {X : vi_Ex} {M : Nat → Nat → Int32} {x : Int32} : vi_ald X (v_sh, M) 9 0 x = if 0 ≤ x ∧ x.toNatClampNeg < 12 then some (M 9 x.toNatClampNeg) else none := by
  show (if (0 = 0 ∧ ¬ (x < 0 ∨ 12 ≤ x.toNatClampNeg)) then some (M 9 x.toNatClampNeg) else none) = _
  simp
theorem vas9 {M : Nat → Nat → Int32} {x y : Int32} : vi_ast (v_sh, M) 9 0 x y = if 0 ≤ x ∧ x.toNatClampNeg < 12 then some (v_sh, vi_up M 9 x.toNatClampNeg y) else none := by
  show (if (0 = 0 ∧ ¬ (x < 0 ∨ 12 ≤ x.toNatClampNeg)) then some (v_sh, vi_up M 9 x.toNatClampNeg y) else none) = _
  simp
theorem vle9 {X : vi_Ex} {M : Nat → Nat → Int32} : vi_len X (v_sh, M) 9 = some 12 := rfl
theorem v_sh10 : v_sh[10]? = some (.inl (0, 12)) := rfl
theorem val10 {X : vi_Ex} {M : Nat → Nat → Int32} {x : Int32} : vi_ald X (v_sh, M) 10 0 x = if 0 ≤ x ∧ x.toNatClampNeg < 12 then some (M 10 x.toNatClampNeg) else none := by
  show (if (0 = 0 ∧ ¬ (x < 0 ∨ 12 ≤ x.toNatClampNeg)) then some (M 10 x.toNatClampNeg) else none) = _
  simp
theorem vas10 {M : Nat → Nat → Int32} {x y : Int32} : vi_ast (v_sh, M) 10 0 x y = if 0 ≤ x ∧ x.toNatClampNeg < 12 then some (v_sh, vi_up M 10 x.toNatClampNeg y) else none := by
  show (if (0 = 0 ∧ ¬ (x < 0 ∨ 12 ≤ x.toNatClampNeg)) then some (v_sh, vi_up M 10 x.toNatClampNeg y) else none) = _
  simp
theorem vle10 {X : vi_Ex} {M : Nat → Nat → Int32} : vi_len X (v_sh, M) 10 = some 12 := rfl
theorem v_sh11 : v_sh[11]? = some (.inl (0, 12)) := rfl
theorem val11 {X : vi_Ex} {M : Nat → Nat → Int32} {x : Int32} : vi_ald X (v_sh, M) 11 0 x = if 0 ≤ x ∧ x.toNatClampNeg < 12 then some (M 11 x.toNatClampNeg) else none := by
  show (if (0 = 0 ∧ ¬ (x < 0 ∨ 12 ≤ x.toNatClampNeg)) then some (M 11 x.toNatClampNeg) else none) = _
  simp
theorem vas11 {M : Nat → Nat → Int32} {x y : Int32} : vi_ast (v_sh, M) 11 0 x y = if 0 ≤ x ∧ x.toNatClampNeg < 12 then some (v_sh, vi_up M 11 x.toNatClampNeg y) else none := by
  show (if (0 = 0 ∧ ¬ (x < 0 ∨ 12 ≤ x.toNatClampNeg)) then some (v_sh, vi_up M 11 x.toNatClampNeg y) else none) = _
  simp
theorem vle11 {X : vi_Ex} {M : Nat → Nat → Int32} : vi_len X (v_sh, M) 11 = some 12 := rfl
theorem v_sh12 : v_sh[12]? = some (.inl (1, 12)) := rfl
theorem val12 {X : vi_Ex} {M : Nat → Nat → Int32} {x : Int32} : vi_ald X (v_sh, M) 12 1 x = if 0 ≤ x ∧ x.toNatClampNeg < 12 then some (M 12 x.toNatClampNeg) else none := by
  show (if (1 = 1 ∧ ¬ (x < 0 ∨ 12 ≤ x.toNatClampNeg)) then some (M 12 x.toNatClampNeg) else none) = _
  simp
theorem vas12 {M : Nat → Nat → Int32} {x y : Int32} : vi_ast (v_sh, M) 12 1 x y = if 0 ≤ x ∧ x.toNatClampNeg < 12 then some (v_sh, vi_up M 12 x.toNatClampNeg y) else none := by
  show (if (1 = 1 ∧ ¬ (x < 0 ∨ 12 ≤ x.toNatClampNeg)) then some (v_sh, vi_up M 12 x.toNatClampNeg y) else none) = _
  simp
theorem vle12 {X : vi_Ex} {M : Nat → Nat → Int32} : vi_len X (v_sh, M) 12 = some 12 := rfl
theorem v_sh13 : v_sh[13]? = some (.inl (0, 12)) := rfl
theorem val13 {X : vi_Ex} {M : Nat → Nat → Int32} {x : Int32} : vi_ald X (v_sh, M) 13 0 x = if 0 ≤ x ∧ x.toNatClampNeg < 12 then some (M 13 x.toNatClampNeg) else none := by
  show (if (0 = 0 ∧ ¬ (x < 0 ∨ 12 ≤ x.toNatClampNeg)) then some (M 13 x.toNatClampNeg) else none) = _
  simp
theorem vas13 {M : Nat → Nat → Int32} {x y : Int32} : vi_ast (v_sh, M) 13 0 x y = if 0 ≤ x ∧ x.toNatClampNeg < 12 then some (v_sh, vi_up M 13 x.toNatClampNeg y) else none := by
  show (if (0 = 0 ∧ ¬ (x < 0 ∨ 12 ≤ x.toNatClampNeg)) then some (v_sh, vi_up M 13 x.toNatClampNeg y) else none) = _
  simp
theorem vle13 {X : vi_Ex} {M : Nat → Nat → Int32} : vi_len X (v_sh, M) 13 = some 12 := rfl
theorem v_sh14 : v_sh[14]? = some (.inl (0, 12)) := rfl
theorem val14 {X : vi_Ex} {M : Nat → Nat → Int32} {x : Int32} : vi_ald X (v_sh, M) 14 0 x = if 0 ≤ x ∧ x.toNatClampNeg < 12 then some (M 14 x.toNatClampNeg) else none := by
  show (if (0 = 0 ∧ ¬ (x < 0 ∨ 12 ≤ x.toNatClampNeg)) then some (M 14 x.toNatClampNeg) else none) = _
  simp
theorem vas14 {M : Nat → Nat → Int32} {x y : Int32} : vi_ast (v_sh, M) 14 0 x y = if 0 ≤ x ∧ x.toNatClampNeg < 12 then some (v_sh, vi_up M 14 x.toNatClampNeg y) else none := by
  show (if (0 = 0 ∧ ¬ (x < 0 ∨ 12 ≤ x.toNatClampNeg)) then some (v_sh, vi_up M 14 x.toNatClampNeg y) else none) = _
  simp
theorem vle14 {X : vi_Ex} {M : Nat → Nat → Int32} : vi_len X (v_sh, M) 14 = some 12 := rfl
theorem v_sh15 : v_sh[15]? = some (.inl (0, 12)) := rfl
theorem val15 {X : vi_Ex} {M : Nat → Nat → Int32} {x : Int32} : vi_ald X (v_sh, M) 15 0 x = if 0 ≤ x ∧ x.toNatClampNeg < 12 then some (M 15 x.toNatClampNeg) else none := by
  show (if (0 = 0 ∧ ¬ (x < 0 ∨ 12 ≤ x.toNatClampNeg)) then some (M 15 x.toNatClampNeg) else none) = _
  simp
theorem vas15 {M : Nat → Nat → Int32} {x y : Int32} : vi_ast (v_sh, M) 15 0 x y = if 0 ≤ x ∧ x.toNatClampNeg < 12 then some (v_sh, vi_up M 15 x.toNatClampNeg y) else none := by
  show (if (0 = 0 ∧ ¬ (x < 0 ∨ 12 ≤ x.toNatClampNeg)) then some (v_sh, vi_up M 15 x.toNatClampNeg y) else none) = _
  simp
theorem vle15 {X : vi_Ex} {M : Nat → Nat → Int32} : vi_len X (v_sh, M) 15 = some 12 := rfl
theorem v_sh16 : v_sh[16]? = some (.inr (.inl (8, [some (.ref 17), some (.ref 19), some (.ref 1), some (.ref 21), none]))) := rfl
theorem vf16_0 {M : Nat → Nat → Int32} : vi_fld (v_sh, M) 16 8 0 = some (.ref 17) := rfl
theorem vf16_1 {M : Nat → Nat → Int32} : vi_fld (v_sh, M) 16 8 1 = some (.ref 19) := rfl
theorem vf16_2 {M : Nat → Nat → Int32} : vi_fld (v_sh, M) 16 8 2 = some (.ref 1) := rfl
theorem vf16_3 {M : Nat → Nat → Int32} : vi_fld (v_sh, M) 16 8 3 = some (.ref 21) := rfl
theorem vf16_4 {M : Nat → Nat → Int32} : vi_fld (v_sh, M) 16 8 4 = some (.int (M 16 4)) := rfl
theorem vp16_4 {M : Nat → Nat → Int32} {x : Int32} : vi_put (v_sh, M) 16 8 4 0 (.int x) = some (v_sh, vi_up M 16 4 x) := rfl
theorem vis16 {M : Nat → Nat → Int32} : vi_is (v_sh, M) 16 8 = true := rfl
theorem v_sh17 : v_sh[17]? = some (.inr (.inl (2, [some (.ref 18), none, none]))) := rfl
theorem vf17_0 {M : Nat → Nat → Int32} : vi_fld (v_sh, M) 17 2 0 = some (.ref 18) := rfl
theorem vf17_1 {M : Nat → Nat → Int32} : vi_fld (v_sh, M) 17 2 1 = some (.int (M 17 1)) := rfl
theorem vp17_1 {M : Nat → Nat → Int32} {x : Int32} : vi_put (v_sh, M) 17 2 1 0 (.int x) = some (v_sh, vi_up M 17 1 x) := rfl
theorem vf17_2 {M : Nat → Nat → Int32} : vi_fld (v_sh, M) 17 2 2 = some (.int (M 17 2)) := rfl
theorem vp17_2 {M : Nat → Nat → Int32} {x : Int32} : vi_put (v_sh, M) 17 2 2 1 (.int x) = if x = 0 ∨ x = 1 then some (v_sh, vi_up M 17 2 x) else none := by
  show (if (1 : Int) = 0 ∨ ((1 : Int) = 1 ∧ (x = 0 ∨ x = 1)) then some (v_sh, vi_up M 17 2 x) else none) = _
  simp
theorem vis17 {M : Nat → Nat → Int32} : vi_is (v_sh, M) 17 2 = true := rfl
theorem v_sh18 : v_sh[18]? = some (.inl (0, 96)) := rfl
theorem val18 {X : vi_Ex} {M : Nat → Nat → Int32} {x : Int32} : vi_ald X (v_sh, M) 18 0 x = if 0 ≤ x ∧ x.toNatClampNeg < 96 then some (M 18 x.toNatClampNeg) else none := by
  show (if (0 = 0 ∧ ¬ (x < 0 ∨ 96 ≤ x.toNatClampNeg)) then some (M 18 x.toNatClampNeg) else none) = _
  simp
theorem vas18 {M : Nat → Nat → Int32} {x y : Int32} : vi_ast (v_sh, M) 18 0 x y = if 0 ≤ x ∧ x.toNatClampNeg < 96 then some (v_sh, vi_up M 18 x.toNatClampNeg y) else none := by
  show (if (0 = 0 ∧ ¬ (x < 0 ∨ 96 ≤ x.toNatClampNeg)) then some (v_sh, vi_up M 18 x.toNatClampNeg y) else none) = _
  simp
theorem vle18 {X : vi_Ex} {M : Nat → Nat → Int32} : vi_len X (v_sh, M) 18 = some 96 := rfl
theorem v_sh19 : v_sh[19]? = some (.inr (.inl (2, [some (.ref 20), none, none]))) := rfl
theorem vf19_0 {M : Nat → Nat → Int32} : vi_fld (v_sh, M) 19 2 0 = some (.ref 20) := rfl
theorem vf19_1 {M : Nat → Nat → Int32} : vi_fld (v_sh, M) 19 2 1 = some (.int (M 19 1)) := rfl
theorem vp19_1 {M : Nat → Nat → Int32} {x : Int32} : vi_put (v_sh, M) 19 2 1 0 (.int x) = some (v_sh, vi_up M 19 1 x) := rfl
theorem vf19_2 {M : Nat → Nat → Int32} : vi_fld (v_sh, M) 19 2 2 = some (.int (M 19 2)) := rfl
theorem vp19_2 {M : Nat → Nat → Int32} {x : Int32} : vi_put (v_sh, M) 19 2 2 1 (.int x) = if x = 0 ∨ x = 1 then some (v_sh, vi_up M 19 2 x) else none := by
  show (if (1 : Int) = 0 ∨ ((1 : Int) = 1 ∧ (x = 0 ∨ x = 1)) then some (v_sh, vi_up M 19 2 x) else none) = _
  simp
theorem vis19 {M : Nat → Nat → Int32} : vi_is (v_sh, M) 19 2 = true := rfl
theorem v_sh20 : v_sh[20]? = some (.inl (0, 96)) := rfl
theorem val20 {X : vi_Ex} {M : Nat → Nat → Int32} {x : Int32} : vi_ald X (v_sh, M) 20 0 x = if 0 ≤ x ∧ x.toNatClampNeg < 96 then some (M 20 x.toNatClampNeg) else none := by
  show (if (0 = 0 ∧ ¬ (x < 0 ∨ 96 ≤ x.toNatClampNeg)) then some (M 20 x.toNatClampNeg) else none) = _
  simp
theorem vas20 {M : Nat → Nat → Int32} {x y : Int32} : vi_ast (v_sh, M) 20 0 x y = if 0 ≤ x ∧ x.toNatClampNeg < 96 then some (v_sh, vi_up M 20 x.toNatClampNeg y) else none := by
  show (if (0 = 0 ∧ ¬ (x < 0 ∨ 96 ≤ x.toNatClampNeg)) then some (v_sh, vi_up M 20 x.toNatClampNeg y) else none) = _
  simp
theorem vle20 {X : vi_Ex} {M : Nat → Nat → Int32} : vi_len X (v_sh, M) 20 = some 96 := rfl
theorem v_sh21 : v_sh[21]? = some (.inl (0, 192)) := rfl
theorem val21 {X : vi_Ex} {M : Nat → Nat → Int32} {x : Int32} : vi_ald X (v_sh, M) 21 0 x = if 0 ≤ x ∧ x.toNatClampNeg < 192 then some (M 21 x.toNatClampNeg) else none := by
  show (if (0 = 0 ∧ ¬ (x < 0 ∨ 192 ≤ x.toNatClampNeg)) then some (M 21 x.toNatClampNeg) else none) = _
  simp
theorem vas21 {M : Nat → Nat → Int32} {x y : Int32} : vi_ast (v_sh, M) 21 0 x y = if 0 ≤ x ∧ x.toNatClampNeg < 192 then some (v_sh, vi_up M 21 x.toNatClampNeg y) else none := by
  show (if (0 = 0 ∧ ¬ (x < 0 ∨ 192 ≤ x.toNatClampNeg)) then some (v_sh, vi_up M 21 x.toNatClampNeg y) else none) = _
  simp
theorem vle21 {X : vi_Ex} {M : Nat → Nat → Int32} : vi_len X (v_sh, M) 21 = some 192 := rfl
theorem v_sh22 : v_sh[22]? = some (.inr (.inl (9, [some (.ref 1), some (.ref 4), some (.ref 16), some (.ref 23), some (.ref 25), some (.ref 26)]))) := rfl
theorem vf22_0 {M : Nat → Nat → Int32} : vi_fld (v_sh, M) 22 9 0 = some (.ref 1) := rfl
theorem vf22_1 {M : Nat → Nat → Int32} : vi_fld (v_sh, M) 22 9 1 = some (.ref 4) := rfl
theorem vf22_2 {M : Nat → Nat → Int32} : vi_fld (v_sh, M) 22 9 2 = some (.ref 16) := rfl
theorem vf22_3 {M : Nat → Nat → Int32} : vi_fld (v_sh, M) 22 9 3 = some (.ref 23) := rfl
theorem vf22_4 {M : Nat → Nat → Int32} : vi_fld (v_sh, M) 22 9 4 = some (.ref 25) := rfl
theorem vf22_5 {M : Nat → Nat → Int32} : vi_fld (v_sh, M) 22 9 5 = some (.ref 26) := rfl
theorem vis22 {M : Nat → Nat → Int32} : vi_is (v_sh, M) 22 9 = true := rfl
theorem v_sh23 : v_sh[23]? = some (.inr (.inl (2, [some (.ref 24), none, none]))) := rfl
theorem vf23_0 {M : Nat → Nat → Int32} : vi_fld (v_sh, M) 23 2 0 = some (.ref 24) := rfl
theorem vf23_1 {M : Nat → Nat → Int32} : vi_fld (v_sh, M) 23 2 1 = some (.int (M 23 1)) := rfl
theorem vp23_1 {M : Nat → Nat → Int32} {x : Int32} : vi_put (v_sh, M) 23 2 1 0 (.int x) = some (v_sh, vi_up M 23 1 x) := rfl
theorem vf23_2 {M : Nat → Nat → Int32} : vi_fld (v_sh, M) 23 2 2 = some (.int (M 23 2)) := rfl
theorem vp23_2 {M : Nat → Nat → Int32} {x : Int32} : vi_put (v_sh, M) 23 2 2 1 (.int x) = if x = 0 ∨ x = 1 then some (v_sh, vi_up M 23 2 x) else none := by
  show (if (1 : Int) = 0 ∨ ((1 : Int) = 1 ∧ (x = 0 ∨ x = 1)) then some (v_sh, vi_up M 23 2 x) else none) = _
  simp
theorem vis23 {M : Nat → Nat → Int32} : vi_is (v_sh, M) 23 2 = true := rfl
theorem v_sh24 : v_sh[24]? = some (.inl (0, 96)) := rfl
theorem val24 {X : vi_Ex} {M : Nat → Nat → Int32} {x : Int32} : vi_ald X (v_sh, M) 24 0 x = if 0 ≤ x ∧ x.toNatClampNeg < 96 then some (M 24 x.toNatClampNeg) else none := by
  show (if (0 = 0 ∧ ¬ (x < 0 ∨ 96 ≤ x.toNatClampNeg)) then some (M 24 x.toNatClampNeg) else none) = _
  simp
theorem vas24 {M : Nat → Nat → Int32} {x y : Int32} : vi_ast (v_sh, M) 24 0 x y = if 0 ≤ x ∧ x.toNatClampNeg < 96 then some (v_sh, vi_up M 24 x.toNatClampNeg y) else none := by
  show (if (0 = 0 ∧ ¬ (x < 0 ∨ 96 ≤ x.toNatClampNeg)) then some (v_sh, vi_up M 24 x.toNatClampNeg y) else none) = _
  simp
theorem vle24 {X : vi_Ex} {M : Nat → Nat → Int32} : vi_len X (v_sh, M) 24 = some 96 := rfl
theorem v_sh25 : v_sh[25]? = some (.inl (1, 24)) := rfl
theorem val25 {X : vi_Ex} {M : Nat → Nat → Int32} {x : Int32} : vi_ald X (v_sh, M) 25 1 x = if 0 ≤ x ∧ x.toNatClampNeg < 24 then some (M 25 x.toNatClampNeg) else none := by
  show (if (1 = 1 ∧ ¬ (x < 0 ∨ 24 ≤ x.toNatClampNeg)) then some (M 25 x.toNatClampNeg) else none) = _
  simp
theorem vas25 {M : Nat → Nat → Int32} {x y : Int32} : vi_ast (v_sh, M) 25 1 x y = if 0 ≤ x ∧ x.toNatClampNeg < 24 then some (v_sh, vi_up M 25 x.toNatClampNeg y) else none := by
  show (if (1 = 1 ∧ ¬ (x < 0 ∨ 24 ≤ x.toNatClampNeg)) then some (v_sh, vi_up M 25 x.toNatClampNeg y) else none) = _
  simp
theorem vle25 {X : vi_Ex} {M : Nat → Nat → Int32} : vi_len X (v_sh, M) 25 = some 24 := rfl
theorem v_sh26 : v_sh[26]? = some (.inl (1, 96)) := rfl
theorem val26 {X : vi_Ex} {M : Nat → Nat → Int32} {x : Int32} : vi_ald X (v_sh, M) 26 1 x = if 0 ≤ x ∧ x.toNatClampNeg < 96 then some (M 26 x.toNatClampNeg) else none := by
  show (if (1 = 1 ∧ ¬ (x < 0 ∨ 96 ≤ x.toNatClampNeg)) then some (M 26 x.toNatClampNeg) else none) = _
  simp
theorem vas26 {M : Nat → Nat → Int32} {x y : Int32} : vi_ast (v_sh, M) 26 1 x y = if 0 ≤ x ∧ x.toNatClampNeg < 96 then some (v_sh, vi_up M 26 x.toNatClampNeg y) else none := by
  show (if (1 = 1 ∧ ¬ (x < 0 ∨ 96 ≤ x.toNatClampNeg)) then some (v_sh, vi_up M 26 x.toNatClampNeg y) else none) = _
  simp
theorem vle26 {X : vi_Ex} {M : Nat → Nat → Int32} : vi_len X (v_sh, M) 26 = some 96 := rfl
theorem v_sh27 : v_sh[27]? = some (.inr (.inl (10, [some (.ref 28), some (.ref 30), some (.ref 32), some (.ref 36), some (.ref 39), some (.ref 33), some (.ref 34), some (.ref 35), some (.ref 37), some (.ref 38), some (.ref 50), some (.ref 51), some (.ref 52), none]))) := rfl
theorem vf27_0 {M : Nat → Nat → Int32} : vi_fld (v_sh, M) 27 10 0 = some (.ref 28) := rfl
theorem vf27_1 {M : Nat → Nat → Int32} : vi_fld (v_sh, M) 27 10 1 = some (.ref 30) := rfl
theorem vf27_2 {M : Nat → Nat → Int32} : vi_fld (v_sh, M) 27 10 2 = some (.ref 32) := rfl
theorem vf27_3 {M : Nat → Nat → Int32} : vi_fld (v_sh, M) 27 10 3 = some (.ref 36) := rfl
theorem vf27_4 {M : Nat → Nat → Int32} : vi_fld (v_sh, M) 27 10 4 = some (.ref 39) := rfl
theorem vf27_5 {M : Nat → Nat → Int32} : vi_fld (v_sh, M) 27 10 5 = some (.ref 33) := rfl
theorem vf27_6 {M : Nat → Nat → Int32} : vi_fld (v_sh, M) 27 10 6 = some (.ref 34) := rfl
theorem vf27_7 {M : Nat → Nat → Int32} : vi_fld (v_sh, M) 27 10 7 = some (.ref 35) := rfl
theorem vf27_8 {M : Nat → Nat → Int32} : vi_fld (v_sh, M) 27 10 8 = some (.ref 37) := rfl
theorem vf27_9 {M : Nat → Nat → Int32} : vi_fld (v_sh, M) 27 10 9 = some (.ref 38) := rfl
theorem vf27_10 {M : Nat → Nat → Int32} : vi_fld (v_sh, M) 27 10 10 = some (.ref 50) := rfl
theorem vf27_11 {M : Nat → Nat → Int32} : vi_fld (v_sh, M) 27 10 11 = some (.ref 51) := rfl
theorem vf27_12 {M : Nat → Nat → Int32} : vi_fld (v_sh, M) 27 10 12 = some (.ref 52) := rfl
theorem vf27_13 {M : Nat → Nat → Int32} : vi_fld (v_sh, M) 27 10 13 = some (.int (M 27 13)) := rfl
theorem vp27_13 {M : Nat → Nat → Int32} {x : Int32} : vi_put (v_sh, M) 27 10 13 0 (.int x) = some (v_sh, vi_up M 27 13 x) := rfl
theorem vis27 {M : Nat → Nat → Int32} : vi_is (v_sh, M) 27 10 = true := rfl
theorem v_sh28 : v_sh[28]? = some (.inr (.inl (11, [some (.ref 29), none]))) := rfl
theorem vf28_0 {M : Nat → Nat → Int32} : vi_fld (v_sh, M) 28 11 0 = some (.ref 29) := rfl
theorem vf28_1 {M : Nat → Nat → Int32} : vi_fld (v_sh, M) 28 11 1 = some (.int (M 28 1)) := rfl
theorem vp28_1 {M : Nat → Nat → Int32} {x : Int32} : vi_put (v_sh, M) 28 11 1 0 (.int x) = some (v_sh, vi_up M 28 1 x) := rfl
theorem vis28 {M : Nat → Nat → Int32} : vi_is (v_sh, M) 28 11 = true := rfl
theorem v_sh29 : v_sh[29]? = some (.inl (0, 192)) := rfl
theorem val29 {X : vi_Ex} {M : Nat → Nat → Int32} {x : Int32} : vi_ald X (v_sh, M) 29 0 x = if 0 ≤ x ∧ x.toNatClampNeg < 192 then some (M 29 x.toNatClampNeg) else none := by
  show (if (0 = 0 ∧ ¬ (x < 0 ∨ 192 ≤ x.toNatClampNeg)) then some (M 29 x.toNatClampNeg) else none) = _
  simp
theorem vas29 {M : Nat → Nat → Int32} {x y : Int32} : vi_ast (v_sh, M) 29 0 x y = if 0 ≤ x ∧ x.toNatClampNeg < 192 then some (v_sh, vi_up M 29 x.toNatClampNeg y) else none := by
  show (if (0 = 0 ∧ ¬ (x < 0 ∨ 192 ≤ x.toNatClampNeg)) then some (v_sh, vi_up M 29 x.toNatClampNeg y) else none) = _
  simp
theorem vle29 {X : vi_Ex} {M : Nat → Nat → Int32} : vi_len X (v_sh, M) 29 = some 192 := rfl
theorem v_sh30 : v_sh[30]? = some (.inr (.inl (11, [some (.ref 31), none]))) := rfl
theorem vf30_0 {M : Nat → Nat → Int32} : vi_fld (v_sh, M) 30 11 0 = some (.ref 31) := rfl
theorem vf30_1 {M : Nat → Nat → Int32} : vi_fld (v_sh, M) 30 11 1 = some (.int (M 30 1)) := rfl
theorem vp30_1 {M : Nat → Nat → Int32} {x : Int32} : vi_put (v_sh, M) 30 11 1 0 (.int x) = some (v_sh, vi_up M 30 1 x) := rfl
theorem vis30 {M : Nat → Nat → Int32} : vi_is (v_sh, M) 30 11 = true := rfl
theorem v_sh31 : v_sh[31]? = some (.inl (0, 192)) := rfl
theorem val31 {X : vi_Ex} {M : Nat → Nat → Int32} {x : Int32} : vi_ald X (v_sh, M) 31 0 x = if 0 ≤ x ∧ x.toNatClampNeg < 192 then some (M 31 x.toNatClampNeg) else none := by
  show (if (0 = 0 ∧ ¬ (x < 0 ∨ 192 ≤ x.toNatClampNeg)) then some (M 31 x.toNatClampNeg) else none) = _
  simp
theorem vas31 {M : Nat → Nat → Int32} {x y : Int32} : vi_ast (v_sh, M) 31 0 x y = if 0 ≤ x ∧ x.toNatClampNeg < 192 then some (v_sh, vi_up M 31 x.toNatClampNeg y) else none := by
  show (if (0 = 0 ∧ ¬ (x < 0 ∨ 192 ≤ x.toNatClampNeg)) then some (v_sh, vi_up M 31 x.toNatClampNeg y) else none) = _
  simp
theorem vle31 {X : vi_Ex} {M : Nat → Nat → Int32} : vi_len X (v_sh, M) 31 = some 192 := rfl
theorem v_sh32 : v_sh[32]? = some (.inr (.inl (1, [some (.ref 30), none, none, none]))) := rfl
theorem vf32_0 {M : Nat → Nat → Int32} : vi_fld (v_sh, M) 32 1 0 = some (.ref 30) := rfl
theorem vf32_1 {M : Nat → Nat → Int32} : vi_fld (v_sh, M) 32 1 1 = some (.int (M 32 1)) := rfl
theorem vp32_1 {M : Nat → Nat → Int32} {x : Int32} : vi_put (v_sh, M) 32 1 1 0 (.int x) = some (v_sh, vi_up M 32 1 x) := rfl
theorem vf32_2 {M : Nat → Nat → Int32} : vi_fld (v_sh, M) 32 1 2 = some (.int (M 32 2)) := rfl
theorem vp32_2 {M : Nat → Nat → Int32} {x : Int32} : vi_put (v_sh, M) 32 1 2 0 (.int x) = some (v_sh, vi_up M 32 2 x) := rfl
theorem vf32_3 {M : Nat → Nat → Int32} : vi_fld (v_sh, M) 32 1 3 = some (.int (M 32 3)) := rfl
theorem vp32_3 {M : Nat → Nat → Int32} {x : Int32} : vi_put (v_sh, M) 32 1 3 0 (.int x) = some (v_sh, vi_up M 32 3 x) := rfl
theorem vis32 {M : Nat → Nat → Int32} : vi_is (v_sh, M) 32 1 = true := rfl
theorem v_sh33 : v_sh[33]? = some (.inr (.inl (1, [some (.ref 30), none, none, none]))) := rfl
theorem vf33_0 {M : Nat → Nat → Int32} : vi_fld (v_sh, M) 33 1 0 = some (.ref 30) := rfl
theorem vf33_1 {M : Nat → Nat → Int32} : vi_fld (v_sh, M) 33 1 1 = some (.int (M 33 1)) := rfl
theorem vp33_1 {M : Nat → Nat → Int32} {x : Int32} : vi_put (v_sh, M) 33 1 1 0 (.int x) = some (v_sh, vi_up M 33 1 x) := rfl
theorem vf33_2 {M : Nat → Nat → Int32} : vi_fld (v_sh, M) 33 1 2 = some (.int (M 33 2)) := rfl
theorem vp33_2 {M : Nat → Nat → Int32} {x : Int32} : vi_put (v_sh, M) 33 1 2 0 (.int x) = some (v_sh, vi_up M 33 2 x) := rfl
theorem vf33_3 {M : Nat → Nat → Int32} : vi_fld (v_sh, M) 33 1 3 = some (.int (M 33 3)) := rfl
theorem vp33_3 {M : Nat → Nat → Int32} {x : Int32} : vi_put (v_sh, M) 33 1 3 0 (.int x) = some (v_sh, vi_up M 33 3 x) := rfl
theorem vis33 {M : Nat → Nat → Int32} : vi_is (v_sh, M) 33 1 = true := rfl
theorem v_sh34 : v_sh[34]? = some (.inr (.inl (1, [some (.ref 30), none, none, none]))) := rfl
theorem vf34_0 {M : Nat → Nat → Int32} : vi_fld (v_sh, M) 34 1 0 = some (.ref 30) := rfl
theorem vf34_1 {M : Nat → Nat → Int32} : vi_fld (v_sh, M) 34 1 1 = some (.int (M 34 1)) := rfl
theorem vp34_1 {M : Nat → Nat → Int32} {x : Int32} : vi_put (v_sh, M) 34 1 1 0 (.int x) = some (v_sh, vi_up M 34 1 x) := rfl
theorem vf34_2 {M : Nat → Nat → Int32} : vi_fld (v_sh, M) 34 1 2 = some (.int (M 34 2)) := rfl
theorem vp34_2 {M : Nat → Nat → Int32} {x : Int32} : vi_put (v_sh, M) 34 1 2 0 (.int x) = some (v_sh, vi_up M 34 2 x) := rfl
theorem vf34_3 {M : Nat → Nat → Int32} : vi_fld (v_sh, M) 34 1 3 = some (.int (M 34 3)) := rfl
theorem vp34_3 {M : Nat → Nat → Int32} {x : Int32} : vi_put (v_sh, M) 34 1 3 0 (.int x) = some (v_sh, vi_up M 34 3 x) := rfl
theorem vis34 {M : Nat → Nat → Int32} : vi_is (v_sh, M) 34 1 = true := rfl
theorem v_sh35 : v_sh[35]? = some (.inr (.inl (5, [some (.ref 30)]))) := rfl
theorem vf35_0 {M : Nat → Nat → Int32} : vi_fld (v_sh, M) 35 5 0 = some (.ref 30) := rfl
theorem vis35 {M : Nat → Nat → Int32} : vi_is (v_sh, M) 35 5 = true := rfl
theorem v_sh36 : v_sh[36]? = some (.inl (0, 400)) := rfl
theorem val36 {X : vi_Ex} {M : Nat → Nat → Int32} {x : Int32} : vi_ald X (v_sh, M) 36 0 x = if 0 ≤ x ∧ x.toNatClampNeg < 400 then some (M 36 x.toNatClampNeg) else none := by
  show (if (0 = 0 ∧ ¬ (x < 0 ∨ 400 ≤ x.toNatClampNeg)) then some (M 36 x.toNatClampNeg) else none) = _
  simp
theorem vas36 {M : Nat → Nat → Int32} {x y : Int32} : vi_ast (v_sh, M) 36 0 x y = if 0 ≤ x ∧ x.toNatClampNeg < 400 then some (v_sh, vi_up M 36 x.toNatClampNeg y) else none := by
  show (if (0 = 0 ∧ ¬ (x < 0 ∨ 400 ≤ x.toNatClampNeg)) then some (v_sh, vi_up M 36 x.toNatClampNeg y) else none) = _
  simp
theorem vle36 {X : vi_Ex} {M : Nat → Nat → Int32} : vi_len X (v_sh, M) 36 = some 400 := rfl
theorem v_sh37 : v_sh[37]? = some (.inl (0, 12)) := rfl
theorem val37 {X : vi_Ex} {M : Nat → Nat → Int32} {x : Int32} : vi_ald X (v_sh, M) 37 0 x = if 0 ≤ x ∧ x.toNatClampNeg < 12 then some (M 37 x.toNatClampNeg) else none := by
  show (if (0 = 0 ∧ ¬ (x < 0 ∨ 12 ≤ x.toNatClampNeg)) then some (M 37 x.toNatClampNeg) else none) = _
  simp
theorem vas37 {M : Nat → Nat → Int32} {x y : Int32} : vi_ast (v_sh, M) 37 0 x y = if 0 ≤ x ∧ x.toNatClampNeg < 12 then some (v_sh, vi_up M 37 x.toNatClampNeg y) else none := by
  show (if (0 = 0 ∧ ¬ (x < 0 ∨ 12 ≤ x.toNatClampNeg)) then some (v_sh, vi_up M 37 x.toNatClampNeg y) else none) = _
  simp
theorem vle37 {X : vi_Ex} {M : Nat → Nat → Int32} : vi_len X (v_sh, M) 37 = some 12 := rfl
theorem v_sh38 : v_sh[38]? = some (.inl (1, 10)) := rfl
theorem val38 {X : vi_Ex} {M : Nat → Nat → Int32} {x : Int32} : vi_ald X (v_sh, M) 38 1 x = if 0 ≤ x ∧ x.toNatClampNeg < 10 then some (M 38 x.toNatClampNeg) else none := by
  show (if (1 = 1 ∧ ¬ (x < 0 ∨ 10 ≤ x.toNatClampNeg)) then some (M 38 x.toNatClampNeg) else none) = _
  simp
theorem vas38 {M : Nat → Nat → Int32} {x y : Int32} : vi_ast (v_sh, M) 38 1 x y = if 0 ≤ x ∧ x.toNatClampNeg < 10 then some (v_sh, vi_up M 38 x.toNatClampNeg y) else none := by
  show (if (1 = 1 ∧ ¬ (x < 0 ∨ 10 ≤ x.toNatClampNeg)) then some (v_sh, vi_up M 38 x.toNatClampNeg y) else none) = _
  simp
theorem vle38 {X : vi_Ex} {M : Nat → Nat → Int32} : vi_len X (v_sh, M) 38 = some 10 := rfl
theorem v_sh39 : v_sh[39]? = some (.inr (.inr [some 40, some 41, some 42, some 43, some 44, some 45, some 46, some 47, some 48, some 49])) := rfl
theorem v_sh40 : v_sh[40]? = some (.inr (.inl (6, [none, none, none]))) := rfl
theorem vf40_0 {M : Nat → Nat → Int32} : vi_fld (v_sh, M) 40 6 0 = some (.int (M 40 0)) := rfl
theorem vp40_0 {M : Nat → Nat → Int32} {x : Int32} : vi_put (v_sh, M) 40 6 0 0 (.int x) = some (v_sh, vi_up M 40 0 x) := rfl
theorem vf40_1 {M : Nat → Nat → Int32} : vi_fld (v_sh, M) 40 6 1 = some (.int (M 40 1)) := rfl
theorem vp40_1 {M : Nat → Nat → Int32} {x : Int32} : vi_put (v_sh, M) 40 6 1 0 (.int x) = some (v_sh, vi_up M 40 1 x) := rfl
theorem vf40_2 {M : Nat → Nat → Int32} : vi_fld (v_sh, M) 40 6 2 = some (.int (M 40 2)) := rfl
theorem vp40_2 {M : Nat → Nat → Int32} {x : Int32} : vi_put (v_sh, M) 40 6 2 0 (.int x) = some (v_sh, vi_up M 40 2 x) := rfl
theorem vis40 {M : Nat → Nat → Int32} : vi_is (v_sh, M) 40 6 = true := rfl
theorem v_sh41 : v_sh[41]? = some (.inr (.inl (6, [none, none, none]))) := rfl
theorem vf41_0 {M : Nat → Nat → Int32} : vi_fld (v_sh, M) 41 6 0 = some (.int (M 41 0)) := rfl
theorem vp41_0 {M : Nat → Nat → Int32} {x : Int32} : vi_put (v_sh, M) 41 6 0 0 (.int x) = some (v_sh, vi_up M 41 0 x) := rfl
theorem vf41_1 {M : Nat → Nat → Int32} : vi_fld (v_sh, M) 41 6 1 = some (.int (M 41 1)) := rfl
theorem vp41_1 {M : Nat → Nat → Int32} {x : Int32} : vi_put (v_sh, M) 41 6 1 0 (.int x) = some (v_sh, vi_up M 41 1 x) := rfl
theorem vf41_2 {M : Nat → Nat → Int32} : vi_fld (v_sh, M) 41 6 2 = some (.int (M 41 2)) := rfl
theorem vp41_2 {M : Nat → Nat → Int32} {x : Int32} : vi_put (v_sh, M) 41 6 2 0 (.int x) = some (v_sh, vi_up M 41 2 x) := rfl
theorem vis41 {M : Nat → Nat → Int32} : vi_is (v_sh, M) 41 6 = true := rfl
theorem v_sh42 : v_sh[42]? = some (.inr (.inl (6, [none, none, none]))) := rfl
theorem vf42_0 {M : Nat → Nat → Int32} : vi_fld (v_sh, M) 42 6 0 = some (.int (M 42 0)) := rfl
theorem vp42_0 {M : Nat → Nat → Int32} {x : Int32} : vi_put (v_sh, M) 42 6 0 0 (.int x) = some (v_sh, vi_up M 42 0 x) := rfl
theorem vf42_1 {M : Nat → Nat → Int32} : vi_fld (v_sh, M) 42 6 1 = some (.int (M 42 1)) := rfl
theorem vp42_1 {M : Nat → Nat → Int32} {x : Int32} : vi_put (v_sh, M) 42 6 1 0 (.int x) = some (v_sh, vi_up M 42 1 x) := rfl
theorem vf42_2 {M : Nat → Nat → Int32} : vi_fld (v_sh, M) 42 6 2 = some (.int (M 42 2)) := rfl
theorem vp42_2 {M : Nat → Nat → Int32} {x : Int32} : vi_put (v_sh, M) 42 6 2 0 (.int x) = some (v_sh, vi_up M 42 2 x) := rfl
theorem vis42 {M : Nat → Nat → Int32} : vi_is (v_sh, M) 42 6 = true := rfl
theorem v_sh43 : v_sh[43]? = some (.inr (.inl (6, [none, none, none]))) := rfl
theorem vf43_0 {M : Nat → Nat → Int32} : vi_fld (v_sh, M) 43 6 0 = some (.int (M 43 0)) := rfl
theorem vp43_0 {M : Nat → Nat → Int32} {x : Int32} : vi_put (v_sh, M) 43 6 0 0 (.int x) = some (v_sh, vi_up M 43 0 x) := rfl
theorem vf43_1 {M : Nat → Nat → Int32} : vi_fld (v_sh, M) 43 6 1 = some (.int (M 43 1)) := rfl
theorem vp43_1 {M : Nat → Nat → Int32} {x : Int32} : vi_put (v_sh, M) 43 6 1 0 (.int x) = some (v_sh, vi_up M 43 1 x) := rfl
theorem vf43_2 {M : Nat → Nat → Int32} : vi_fld (v_sh, M) 43 6 2 = some (.int (M 43 2)) := rfl
theorem vp43_2 {M : Nat → Nat → Int32} {x : Int32} : vi_put (v_sh, M) 43 6 2 0 (.int x) = some (v_sh, vi_up M 43 2 x) := rfl
theorem vis43 {M : Nat → Nat → Int32} : vi_is (v_sh, M) 43 6 = true := rfl
theorem v_sh44 : v_sh[44]? = some (.inr (.inl (6, [none, none, none]))) := rfl
theorem vf44_0 {M : Nat → Nat → Int32} : vi_fld (v_sh, M) 44 6 0 = some (.int (M 44 0)) := rfl
theorem vp44_0 {M : Nat → Nat → Int32} {x : Int32} : vi_put (v_sh, M) 44 6 0 0 (.int x) = some (v_sh, vi_up M 44 0 x) := rfl
theorem vf44_1 {M : Nat → Nat → Int32} : vi_fld (v_sh, M) 44 6 1 = some (.int (M 44 1)) := rfl
theorem vp44_1 {M : Nat → Nat → Int32} {x : Int32} : vi_put (v_sh, M) 44 6 1 0 (.int x) = some (v_sh, vi_up M 44 1 x) := rfl
theorem vf44_2 {M : Nat → Nat → Int32} : vi_fld (v_sh, M) 44 6 2 = some (.int (M 44 2)) := rfl
theorem vp44_2 {M : Nat → Nat → Int32} {x : Int32} : vi_put (v_sh, M) 44 6 2 0 (.int x) = some (v_sh, vi_up M 44 2 x) := rfl
theorem vis44 {M : Nat → Nat → Int32} : vi_is (v_sh, M) 44 6 = true := rfl
theorem v_sh45 : v_sh[45]? = some (.inr (.inl (6, [none, none, none]))) := rfl
theorem vf45_0 {M : Nat → Nat → Int32} : vi_fld (v_sh, M) 45 6 0 = some (.int (M 45 0)) := rfl
theorem vp45_0 {M : Nat → Nat → Int32} {x : Int32} : vi_put (v_sh, M) 45 6 0 0 (.int x) = some (v_sh, vi_up M 45 0 x) := rfl
theorem vf45_1 {M : Nat → Nat → Int32} : vi_fld (v_sh, M) 45 6 1 = some (.int (M 45 1)) := rfl
theorem vp45_1 {M : Nat → Nat → Int32} {x : Int32} : vi_put (v_sh, M) 45 6 1 0 (.int x) = some (v_sh, vi_up M 45 1 x) := rfl
theorem vf45_2 {M : Nat → Nat → Int32} : vi_fld (v_sh, M) 45 6 2 = some (.int (M 45 2)) := rfl
theorem vp45_2 {M : Nat → Nat → Int32} {x : Int32} : vi_put (v_sh, M) 45 6 2 0 (.int x) = some (v_sh, vi_up M 45 2 x) := rfl
theorem vis45 {M : Nat → Nat → Int32} : vi_is (v_sh, M) 45 6 = true := rfl
theorem v_sh46 : v_sh[46]? = some (.inr (.inl (6, [none, none, none]))) := rfl
theorem vf46_0 {M : Nat → Nat → Int32} : vi_fld (v_sh, M) 46 6 0 = some (.int (M 46 0)) := rfl
theorem vp46_0 {M : Nat → Nat → Int32} {x : Int32} : vi_put (v_sh, M) 46 6 0 0 (.int x) = some (v_sh, vi_up M 46 0 x) := rfl
theorem vf46_1 {M : Nat → Nat → Int32} : vi_fld (v_sh, M) 46 6 1 = some (.int (M 46 1)) := rfl
theorem vp46_1 {M : Nat → Nat → Int32} {x : Int32} : vi_put (v_sh, M) 46 6 1 0 (.int x) = some (v_sh, vi_up M 46 1 x) := rfl
theorem vf46_2 {M : Nat → Nat → Int32} : vi_fld (v_sh, M) 46 6 2 = some (.int (M 46 2)) := rfl
theorem vp46_2 {M : Nat → Nat → Int32} {x : Int32} : vi_put (v_sh, M) 46 6 2 0 (.int x) = some (v_sh, vi_up M 46 2 x) := rfl
theorem vis46 {M : Nat → Nat → Int32} : vi_is (v_sh, M) 46 6 = true := rfl
theorem v_sh47 : v_sh[47]? = some (.inr (.inl (6, [none, none, none]))) := rfl
theorem vf47_0 {M : Nat → Nat → Int32} : vi_fld (v_sh, M) 47 6 0 = some (.int (M 47 0)) := rfl
theorem vp47_0 {M : Nat → Nat → Int32} {x : Int32} : vi_put (v_sh, M) 47 6 0 0 (.int x) = some (v_sh, vi_up M 47 0 x) := rfl
theorem vf47_1 {M : Nat → Nat → Int32} : vi_fld (v_sh, M) 47 6 1 = some (.int (M 47 1)) := rfl
theorem vp47_1 {M : Nat → Nat → Int32} {x : Int32} : vi_put (v_sh, M) 47 6 1 0 (.int x) = some (v_sh, vi_up M 47 1 x) := rfl
theorem vf47_2 {M : Nat → Nat → Int32} : vi_fld (v_sh, M) 47 6 2 = some (.int (M 47 2)) := rfl
theorem vp47_2 {M : Nat → Nat → Int32} {x : Int32} : vi_put (v_sh, M) 47 6 2 0 (.int x) = some (v_sh, vi_up M 47 2 x) := rfl
theorem vis47 {M : Nat → Nat → Int32} : vi_is (v_sh, M) 47 6 = true := rfl
theorem v_sh48 : v_sh[48]? = some (.inr (.inl (6, [none, none, none]))) := rfl
theorem vf48_0 {M : Nat → Nat → Int32} : vi_fld (v_sh, M) 48 6 0 = some (.int (M 48 0)) := rfl
theorem vp48_0 {M : Nat → Nat → Int32} {x : Int32} : vi_put (v_sh, M) 48 6 0 0 (.int x) = some (v_sh, vi_up M 48 0 x) := rfl
theorem vf48_1 {M : Nat → Nat → Int32} : vi_fld (v_sh, M) 48 6 1 = some (.int (M 48 1)) := rfl
theorem vp48_1 {M : Nat → Nat → Int32} {x : Int32} : vi_put (v_sh, M) 48 6 1 0 (.int x) = some (v_sh, vi_up M 48 1 x) := rfl
theorem vf48_2 {M : Nat → Nat → Int32} : vi_fld (v_sh, M) 48 6 2 = some (.int (M 48 2)) := rfl
theorem vp48_2 {M : Nat → Nat → Int32} {x : Int32} : vi_put (v_sh, M) 48 6 2 0 (.int x) = some (v_sh, vi_up M 48 2 x) := rfl
theorem vis48 {M : Nat → Nat → Int32} : vi_is (v_sh, M) 48 6 = true := rfl
theorem v_sh49 : v_sh[49]? = some (.inr (.inl (6, [none, none, none]))) := rfl
theorem vf49_0 {M : Nat → Nat → Int32} : vi_fld (v_sh, M) 49 6 0 = some (.int (M 49 0)) := rfl
theorem vp49_0 {M : Nat → Nat → Int32} {x : Int32} : vi_put (v_sh, M) 49 6 0 0 (.int x) = some (v_sh, vi_up M 49 0 x) := rfl
theorem vf49_1 {M : Nat → Nat → Int32} : vi_fld (v_sh, M) 49 6 1 = some (.int (M 49 1)) := rfl
theorem vp49_1 {M : Nat → Nat → Int32} {x : Int32} : vi_put (v_sh, M) 49 6 1 0 (.int x) = some (v_sh, vi_up M 49 1 x) := rfl
theorem vf49_2 {M : Nat → Nat → Int32} : vi_fld (v_sh, M) 49 6 2 = some (.int (M 49 2)) := rfl
theorem vp49_2 {M : Nat → Nat → Int32} {x : Int32} : vi_put (v_sh, M) 49 6 2 0 (.int x) = some (v_sh, vi_up M 49 2 x) := rfl
theorem vis49 {M : Nat → Nat → Int32} : vi_is (v_sh, M) 49 6 = true := rfl
theorem v_sh50 : v_sh[50]? = some (.inr (.inl (6, [none, none, none]))) := rfl
theorem vf50_0 {M : Nat → Nat → Int32} : vi_fld (v_sh, M) 50 6 0 = some (.int (M 50 0)) := rfl
theorem vp50_0 {M : Nat → Nat → Int32} {x : Int32} : vi_put (v_sh, M) 50 6 0 0 (.int x) = some (v_sh, vi_up M 50 0 x) := rfl
theorem vf50_1 {M : Nat → Nat → Int32} : vi_fld (v_sh, M) 50 6 1 = some (.int (M 50 1)) := rfl
theorem vp50_1 {M : Nat → Nat → Int32} {x : Int32} : vi_put (v_sh, M) 50 6 1 0 (.int x) = some (v_sh, vi_up M 50 1 x) := rfl
theorem vf50_2 {M : Nat → Nat → Int32} : vi_fld (v_sh, M) 50 6 2 = some (.int (M 50 2)) := rfl
theorem vp50_2 {M : Nat → Nat → Int32} {x : Int32} : vi_put (v_sh, M) 50 6 2 0 (.int x) = some (v_sh, vi_up M 50 2 x) := rfl
theorem vis50 {M : Nat → Nat → Int32} : vi_is (v_sh, M) 50 6 = true := rfl
theorem v_sh51 : v_sh[51]? = some (.inr (.inl (6, [none, none, none]))) := rfl
theorem vf51_0 {M : Nat → Nat → Int32} : vi_fld (v_sh, M) 51 6 0 = some (.int (M 51 0)) := rfl
theorem vp51_0 {M : Nat → Nat → Int32} {x : Int32} : vi_put (v_sh, M) 51 6 0 0 (.int x) = some (v_sh, vi_up M 51 0 x) := rfl
theorem vf51_1 {M : Nat → Nat → Int32} : vi_fld (v_sh, M) 51 6 1 = some (.int (M 51 1)) := rfl
theorem vp51_1 {M : Nat → Nat → Int32} {x : Int32} : vi_put (v_sh, M) 51 6 1 0 (.int x) = some (v_sh, vi_up M 51 1 x) := rfl
theorem vf51_2 {M : Nat → Nat → Int32} : vi_fld (v_sh, M) 51 6 2 = some (.int (M 51 2)) := rfl
theorem vp51_2 {M : Nat → Nat → Int32} {x : Int32} : vi_put (v_sh, M) 51 6 2 0 (.int x) = some (v_sh, vi_up M 51 2 x) := rfl
theorem vis51 {M : Nat → Nat → Int32} : vi_is (v_sh, M) 51 6 = true := rfl
theorem v_sh52 : v_sh[52]? = some (.inr (.inl (4, [none, some (.ref 53)]))) := rfl
theorem vf52_0 {M : Nat → Nat → Int32} : vi_fld (v_sh, M) 52 4 0 = some (.int (M 52 0)) := rfl
theorem vp52_0 {M : Nat → Nat → Int32} {x : Int32} : vi_put (v_sh, M) 52 4 0 0 (.int x) = some (v_sh, vi_up M 52 0 x) := rfl
theorem vf52_1 {M : Nat → Nat → Int32} : vi_fld (v_sh, M) 52 4 1 = some (.ref 53) := rfl
theorem vis52 {M : Nat → Nat → Int32} : vi_is (v_sh, M) 52 4 = true := rfl
theorem v_sh53 : v_sh[53]? = some (.inl (1, 400)) := rfl
theorem val53 {X : vi_Ex} {M : Nat → Nat → Int32} {x : Int32} : vi_ald X (v_sh, M) 53 1 x = if 0 ≤ x ∧ x.toNatClampNeg < 400 then some (M 53 x.toNatClampNeg) else none := by
  show (if (1 = 1 ∧ ¬ (x < 0 ∨ 400 ≤ x.toNatClampNeg)) then some (M 53 x.toNatClampNeg) else none) = _
  simp
theorem vas53 {M : Nat → Nat → Int32} {x y : Int32} : vi_ast (v_sh, M) 53 1 x y = if 0 ≤ x ∧ x.toNatClampNeg < 400 then some (v_sh, vi_up M 53 x.toNatClampNeg y) else none := by
  show (if (1 = 1 ∧ ¬ (x < 0 ∨ 400 ≤ x.toNatClampNeg)) then some (v_sh, vi_up M 53 x.toNatClampNeg y) else none) = _
  simp
theorem vle53 {X : vi_Ex} {M : Nat → Nat → Int32} : vi_len X (v_sh, M) 53 = some 400 := rfl
theorem v_sh54 : v_sh[54]? = some (.inr (.inl (12, [some (.ref 55), none, none, none, some (.ref 56), some (.ref 57), some (.ref 58), some (.ref 59), some (.ref 60), none, none, none, some (.ref 61), some (.ref 62), some (.ref 63), some (.ref 64), some (.ref 65), none, some (.ref 66), some (.ref 67), none, none, none, some (.ref 68), none, none, none, none, none, none, none, none, none, none]))) := rfl
theorem vf54_0 {M : Nat → Nat → Int32} : vi_fld (v_sh, M) 54 12 0 = some (.ref 55) := rfl
theorem vf54_1 {M : Nat → Nat → Int32} : vi_fld (v_sh, M) 54 12 1 = some (.int (M 54 1)) := rfl
theorem vp54_1 {M : Nat → Nat → Int32} {x : Int32} : vi_put (v_sh, M) 54 12 1 0 (.int x) = some (v_sh, vi_up M 54 1 x) := rfl
theorem vf54_2 {M : Nat → Nat → Int32} : vi_fld (v_sh, M) 54 12 2 = some (.int (M 54 2)) := rfl
theorem vp54_2 {M : Nat → Nat → Int32} {x : Int32} : vi_put (v_sh, M) 54 12 2 1 (.int x) = if x = 0 ∨ x = 1 then some (v_sh, vi_up M 54 2 x) else none := by
  show (if (1 : Int) = 0 ∨ ((1 : Int) = 1 ∧ (x = 0 ∨ x = 1)) then some (v_sh, vi_up M 54 2 x) else none) = _
  simp
theorem vf54_3 {M : Nat → Nat → Int32} : vi_fld (v_sh, M) 54 12 3 = some (.int (M 54 3)) := rfl
theorem vp54_3 {M : Nat → Nat → Int32} {x : Int32} : vi_put (v_sh, M) 54 12 3 1 (.int x) = if x = 0 ∨ x = 1 then some (v_sh, vi_up M 54 3 x) else none := by
  show (if (1 : Int) = 0 ∨ ((1 : Int) = 1 ∧ (x = 0 ∨ x = 1)) then some (v_sh, vi_up M 54 3 x) else none) = _
  simp
theorem vf54_4 {M : Nat → Nat → Int32} : vi_fld (v_sh, M) 54 12 4 = some (.ref 56) := rfl
theorem vf54_5 {M : Nat → Nat → Int32} : vi_fld (v_sh, M) 54 12 5 = some (.ref 57) := rfl
theorem vf54_6 {M : Nat → Nat → Int32} : vi_fld (v_sh, M) 54 12 6 = some (.ref 58) := rfl
theorem vf54_7 {M : Nat → Nat → Int32} : vi_fld (v_sh, M) 54 12 7 = some (.ref 59) := rfl
theorem vf54_8 {M : Nat → Nat → Int32} : vi_fld (v_sh, M) 54 12 8 = some (.ref 60) := rfl
theorem vf54_9 {M : Nat → Nat → Int32} : vi_fld (v_sh, M) 54 12 9 = some (.int (M 54 9)) := rfl
theorem vp54_9 {M : Nat → Nat → Int32} {x : Int32} : vi_put (v_sh, M) 54 12 9 0 (.int x) = some (v_sh, vi_up M 54 9 x) := rfl
theorem vf54_10 {M : Nat → Nat → Int32} : vi_fld (v_sh, M) 54 12 10 = some (.int (M 54 10)) := rfl
theorem vp54_10 {M : Nat → Nat → Int32} {x : Int32} : vi_put (v_sh, M) 54 12 10 0 (.int x) = some (v_sh, vi_up M 54 10 x) := rfl
theorem vf54_11 {M : Nat → Nat → Int32} : vi_fld (v_sh, M) 54 12 11 = some (.int (M 54 11)) := rfl
theorem vp54_11 {M : Nat → Nat → Int32} {x : Int32} : vi_put (v_sh, M) 54 12 11 0 (.int x) = some (v_sh, vi_up M 54 11 x) := rfl
theorem vf54_12 {M : Nat → Nat → Int32} : vi_fld (v_sh, M) 54 12 12 = some (.ref 61) := rfl
theorem vf54_13 {M : Nat → Nat → Int32} : vi_fld (v_sh, M) 54 12 13 = some (.ref 62) := rfl
theorem vf54_14 {M : Nat → Nat → Int32} : vi_fld (v_sh, M) 54 12 14 = some (.ref 63) := rfl
theorem vf54_15 {M : Nat → Nat → Int32} : vi_fld (v_sh, M) 54 12 15 = some (.ref 64) := rfl
theorem vf54_16 {M : Nat → Nat → Int32} : vi_fld (v_sh, M) 54 12 16 = some (.ref 65) := rfl
theorem vf54_17 {M : Nat → Nat → Int32} : vi_fld (v_sh, M) 54 12 17 = some (.int (M 54 17)) := rfl
theorem vp54_17 {M : Nat → Nat → Int32} {x : Int32} : vi_put (v_sh, M) 54 12 17 0 (.int x) = some (v_sh, vi_up M 54 17 x) := rfl
theorem vf54_18 {M : Nat → Nat → Int32} : vi_fld (v_sh, M) 54 12 18 = some (.ref 66) := rfl
theorem vf54_19 {M : Nat → Nat → Int32} : vi_fld (v_sh, M) 54 12 19 = some (.ref 67) := rfl
theorem vf54_20 {M : Nat → Nat → Int32} : vi_fld (v_sh, M) 54 12 20 = some (.int (M 54 20)) := rfl
theorem vp54_20 {M : Nat → Nat → Int32} {x : Int32} : vi_put (v_sh, M) 54 12 20 0 (.int x) = some (v_sh, vi_up M 54 20 x) := rfl
theorem vf54_21 {M : Nat → Nat → Int32} : vi_fld (v_sh, M) 54 12 21 = some (.int (M 54 21)) := rfl
theorem vp54_21 {M : Nat → Nat → Int32} {x : Int32} : vi_put (v_sh, M) 54 12 21 0 (.int x) = some (v_sh, vi_up M 54 21 x) := rfl
theorem vf54_22 {M : Nat → Nat → Int32} : vi_fld (v_sh, M) 54 12 22 = some (.int (M 54 22)) := rfl
theorem vp54_22 {M : Nat → Nat → Int32} {x : Int32} : vi_put (v_sh, M) 54 12 22 0 (.int x) = some (v_sh, vi_up M 54 22 x) := rfl
theorem vf54_23 {M : Nat → Nat → Int32} : vi_fld (v_sh, M) 54 12 23 = some (.ref 68) := rfl
theorem vf54_24 {M : Nat → Nat → Int32} : vi_fld (v_sh, M) 54 12 24 = some (.int (M 54 24)) := rfl
theorem vp54_24 {M : Nat → Nat → Int32} {x : Int32} : vi_put (v_sh, M) 54 12 24 0 (.int x) = some (v_sh, vi_up M 54 24 x) := rfl
theorem vf54_25 {M : Nat → Nat → Int32} : vi_fld (v_sh, M) 54 12 25 = some (.int (M 54 25)) := rfl
theorem vp54_25 {M : Nat → Nat → Int32} {x : Int32} : vi_put (v_sh, M) 54 12 25 0 (.int x) = some (v_sh, vi_up M 54 25 x) := rfl
theorem vf54_26 {M : Nat → Nat → Int32} : vi_fld (v_sh, M) 54 12 26 = some (.int (M 54 26)) := rfl
theorem vp54_26 {M : Nat → Nat → Int32} {x : Int32} : vi_put (v_sh, M) 54 12 26 0 (.int x) = some (v_sh, vi_up M 54 26 x) := rfl
theorem vf54_27 {M : Nat → Nat → Int32} : vi_fld (v_sh, M) 54 12 27 = some (.int (M 54 27)) := rfl
theorem vp54_27 {M : Nat → Nat → Int32} {x : Int32} : vi_put (v_sh, M) 54 12 27 0 (.int x) = some (v_sh, vi_up M 54 27 x) := rfl
theorem vf54_28 {M : Nat → Nat → Int32} : vi_fld (v_sh, M) 54 12 28 = some (.int (M 54 28)) := rfl
theorem vp54_28 {M : Nat → Nat → Int32} {x : Int32} : vi_put (v_sh, M) 54 12 28 0 (.int x) = some (v_sh, vi_up M 54 28 x) := rfl
theorem vf54_29 {M : Nat → Nat → Int32} : vi_fld (v_sh, M) 54 12 29 = some (.int (M 54 29)) := rfl
theorem vp54_29 {M : Nat → Nat → Int32} {x : Int32} : vi_put (v_sh, M) 54 12 29 0 (.int x) = some (v_sh, vi_up M 54 29 x) := rfl
theorem vf54_30 {M : Nat → Nat → Int32} : vi_fld (v_sh, M) 54 12 30 = some (.int (M 54 30)) := rfl
theorem vp54_30 {M : Nat → Nat → Int32} {x : Int32} : vi_put (v_sh, M) 54 12 30 0 (.int x) = some (v_sh, vi_up M 54 30 x) := rfl
theorem vf54_31 {M : Nat → Nat → Int32} : vi_fld (v_sh, M) 54 12 31 = some (.int (M 54 31)) := rfl
theorem vp54_31 {M : Nat → Nat → Int32} {x : Int32} : vi_put (v_sh, M) 54 12 31 0 (.int x) = some (v_sh, vi_up M 54 31 x) := rfl
theorem vf54_32 {M : Nat → Nat → Int32} : vi_fld (v_sh, M) 54 12 32 = some (.int (M 54 32)) := rfl
theorem vp54_32 {M : Nat → Nat → Int32} {x : Int32} : vi_put (v_sh, M) 54 12 32 0 (.int x) = some (v_sh, vi_up M 54 32 x) := rfl
theorem vf54_33 {M : Nat → Nat → Int32} : vi_fld (v_sh, M) 54 12 33 = some (.int (M 54 33)) := rfl
theorem vp54_33 {M : Nat → Nat → Int32} {x : Int32} : vi_put (v_sh, M) 54 12 33 0 (.int x) = some (v_sh, vi_up M 54 33 x) := rfl
theorem vis54 {M : Nat → Nat → Int32} : vi_is (v_sh, M) 54 12 = true := rfl
theorem v_sh55 : v_sh[55]? = some (.inl (0, 192)) := rfl
theorem val55 {X : vi_Ex} {M : Nat → Nat → Int32} {x : Int32} : vi_ald X (v_sh, M) 55 0 x = if 0 ≤ x ∧ x.toNatClampNeg < 192 then some (M 55 x.toNatClampNeg) else none := by
  show (if (0 = 0 ∧ ¬ (x < 0 ∨ 192 ≤ x.toNatClampNeg)) then some (M 55 x.toNatClampNeg) else none) = _
  simp
theorem vas55 {M : Nat → Nat → Int32} {x y : Int32} : vi_ast (v_sh, M) 55 0 x y = if 0 ≤ x ∧ x.toNatClampNeg < 192 then some (v_sh, vi_up M 55 x.toNatClampNeg y) else none := by
  show (if (0 = 0 ∧ ¬ (x < 0 ∨ 192 ≤ x.toNatClampNeg)) then some (v_sh, vi_up M 55 x.toNatClampNeg y) else none) = _
  simp
theorem vle55 {X : vi_Ex} {M : Nat → Nat → Int32} : vi_len X (v_sh, M) 55 = some 192 := rfl
theorem v_sh56 : v_sh[56]? = some (.inl (0, 24)) := rfl
theorem val56 {X : vi_Ex} {M : Nat → Nat → Int32} {x : Int32} : vi_ald X (v_sh, M) 56 0 x = if 0 ≤ x ∧ x.toNatClampNeg < 24 then some (M 56 x.toNatClampNeg) else none := by
  show (if (0 = 0 ∧ ¬ (x < 0 ∨ 24 ≤ x.toNatClampNeg)) then some (M 56 x.toNatClampNeg) else none) = _
  simp
theorem vas56 {M : Nat → Nat → Int32} {x y : Int32} : vi_ast (v_sh, M) 56 0 x y = if 0 ≤ x ∧ x.toNatClampNeg < 24 then some (v_sh, vi_up M 56 x.toNatClampNeg y) else none := by
  show (if (0 = 0 ∧ ¬ (x < 0 ∨ 24 ≤ x.toNatClampNeg)) then some (v_sh, vi_up M 56 x.toNatClampNeg y) else none) = _
  simp
theorem vle56 {X : vi_Ex} {M : Nat → Nat → Int32} : vi_len X (v_sh, M) 56 = some 24 := rfl
theorem v_sh57 : v_sh[57]? = some (.inl (0, 24)) := rfl
theorem val57 {X : vi_Ex} {M : Nat → Nat → Int32} {x : Int32} : vi_ald X (v_sh, M) 57 0 x = if 0 ≤ x ∧ x.toNatClampNeg < 24 then some (M 57 x.toNatClampNeg) else none := by
  show (if (0 = 0 ∧ ¬ (x < 0 ∨ 24 ≤ x.toNatClampNeg)) then some (M 57 x.toNatClampNeg) else none) = _
  simp
theorem vas57 {M : Nat → Nat → Int32} {x y : Int32} : vi_ast (v_sh, M) 57 0 x y = if 0 ≤ x ∧ x.toNatClampNeg < 24 then some (v_sh, vi_up M 57 x.toNatClampNeg y) else none := by
  show (if (0 = 0 ∧ ¬ (x < 0 ∨ 24 ≤ x.toNatClampNeg)) then some (v_sh, vi_up M 57 x.toNatClampNeg y) else none) = _
  simp
theorem vle57 {X : vi_Ex} {M : Nat → Nat → Int32} : vi_len X (v_sh, M) 57 = some 24 := rfl
theorem v_sh58 : v_sh[58]? = some (.inl (0, 24)) := rfl
theorem val58 {X : vi_Ex} {M : Nat → Nat → Int32} {x : Int32} : vi_ald X (v_sh, M) 58 0 x = if 0 ≤ x ∧ x.toNatClampNeg < 24 then some (M 58 x.toNatClampNeg) else none := by
  show (if (0 = 0 ∧ ¬ (x < 0 ∨ 24 ≤ x.toNatClampNeg)) then some (M 58 x.toNatClampNeg) else none) = _
  simp
theorem vas58 {M : Nat → Nat → Int32} {x y : Int32} : vi_ast (v_sh, M) 58 0 x y = if 0 ≤ x ∧ x.toNatClampNeg < 24 then some (v_sh, vi_up M 58 x.toNatClampNeg y) else none := by
  show (if (0 = 0 ∧ ¬ (x < 0 ∨ 24 ≤ x.toNatClampNeg)) then some (v_sh, vi_up M 58 x.toNatClampNeg y) else none) = _
  simp
theorem vle58 {X : vi_Ex} {M : Nat → Nat → Int32} : vi_len X (v_sh, M) 58 = some 24 := rfl
theorem v_sh59 : v_sh[59]? = some (.inl (0, 24)) := rfl
theorem val59 {X : vi_Ex} {M : Nat → Nat → Int32} {x : Int32} : vi_ald X (v_sh, M) 59 0 x = if 0 ≤ x ∧ x.toNatClampNeg < 24 then some (M 59 x.toNatClampNeg) else none := by
  show (if (0 = 0 ∧ ¬ (x < 0 ∨ 24 ≤ x.toNatClampNeg)) then some (M 59 x.toNatClampNeg) else none) = _
  simp
theorem vas59 {M : Nat → Nat → Int32} {x y : Int32} : vi_ast (v_sh, M) 59 0 x y = if 0 ≤ x ∧ x.toNatClampNeg < 24 then some (v_sh, vi_up M 59 x.toNatClampNeg y) else none := by
  show (if (0 = 0 ∧ ¬ (x < 0 ∨ 24 ≤ x.toNatClampNeg)) then some (v_sh, vi_up M 59 x.toNatClampNeg y) else none) = _
  simp
theorem vle59 {X : vi_Ex} {M : Nat → Nat → Int32} : vi_len X (v_sh, M) 59 = some 24 := rfl
theorem v_sh60 : v_sh[60]? = some (.inl (0, 96)) := rfl
theorem val60 {X : vi_Ex} {M : Nat → Nat → Int32} {x : Int32} : vi_ald X (v_sh, M) 60 0 x = if 0 ≤ x ∧ x.toNatClampNeg < 96 then some (M 60 x.toNatClampNeg) else none := by
  show (if (0 = 0 ∧ ¬ (x < 0 ∨ 96 ≤ x.toNatClampNeg)) then some (M 60 x.toNatClampNeg) else none) = _
  simp
theorem vas60 {M : Nat → Nat → Int32} {x y : Int32} : vi_ast (v_sh, M) 60 0 x y = if 0 ≤ x ∧ x.toNatClampNeg < 96 then some (v_sh, vi_up M 60 x.toNatClampNeg y) else none := by
  show (if (0 = 0 ∧ ¬ (x < 0 ∨ 96 ≤ x.toNatClampNeg)) then some (v_sh, vi_up M 60 x.toNatClampNeg y) else none) = _
  simp
theorem vle60 {X : vi_Ex} {M : Nat → Nat → Int32} : vi_len X (v_sh, M) 60 = some 96 := rfl
theorem v_sh61 : v_sh[61]? = some (.inl (1, 96)) := rfl
theorem val61 {X : vi_Ex} {M : Nat → Nat → Int32} {x : Int32} : vi_ald X (v_sh, M) 61 1 x = if 0 ≤ x ∧ x.toNatClampNeg < 96 then some (M 61 x.toNatClampNeg) else none := by
  show (if (1 = 1 ∧ ¬ (x < 0 ∨ 96 ≤ x.toNatClampNeg)) then some (M 61 x.toNatClampNeg) else none) = _
  simp
theorem vas61 {M : Nat → Nat → Int32} {x y : Int32} : vi_ast (v_sh, M) 61 1 x y = if 0 ≤ x ∧ x.toNatClampNeg < 96 then some (v_sh, vi_up M 61 x.toNatClampNeg y) else none := by
  show (if (1 = 1 ∧ ¬ (x < 0 ∨ 96 ≤ x.toNatClampNeg)) then some (v_sh, vi_up M 61 x.toNatClampNeg y) else none) = _
  simp
theorem vle61 {X : vi_Ex} {M : Nat → Nat → Int32} : vi_len X (v_sh, M) 61 = some 96 := rfl
theorem v_sh62 : v_sh[62]? = some (.inl (1, 12)) := rfl
theorem val62 {X : vi_Ex} {M : Nat → Nat → Int32} {x : Int32} : vi_ald X (v_sh, M) 62 1 x = if 0 ≤ x ∧ x.toNatClampNeg < 12 then some (M 62 x.toNatClampNeg) else none := by
  show (if (1 = 1 ∧ ¬ (x < 0 ∨ 12 ≤ x.toNatClampNeg)) then some (M 62 x.toNatClampNeg) else none) = _
  simp
theorem vas62 {M : Nat → Nat → Int32} {x y : Int32} : vi_ast (v_sh, M) 62 1 x y = if 0 ≤ x ∧ x.toNatClampNeg < 12 then some (v_sh, vi_up M 62 x.toNatClampNeg y) else none := by
  show (if (1 = 1 ∧ ¬ (x < 0 ∨ 12 ≤ x.toNatClampNeg)) then some (v_sh, vi_up M 62 x.toNatClampNeg y) else none) = _
  simp
theorem vle62 {X : vi_Ex} {M : Nat → Nat → Int32} : vi_len X (v_sh, M) 62 = some 12 := rfl
theorem v_sh63 : v_sh[63]? = some (.inl (1, 12)) := rfl
theorem val63 {X : vi_Ex} {M : Nat → Nat → Int32} {x : Int32} : vi_ald X (v_sh, M) 63 1 x = if 0 ≤ x ∧ x.toNatClampNeg < 12 then some (M 63 x.toNatClampNeg) else none := by
  show (if (1 = 1 ∧ ¬ (x < 0 ∨ 12 ≤ x.toNatClampNeg)) then some (M 63 x.toNatClampNeg) else none) = _
  simp
theorem vas63 {M : Nat → Nat → Int32} {x y : Int32} : vi_ast (v_sh, M) 63 1 x y = if 0 ≤ x ∧ x.toNatClampNeg < 12 then some (v_sh, vi_up M 63 x.toNatClampNeg y) else none := by
  show (if (1 = 1 ∧ ¬ (x < 0 ∨ 12 ≤ x.toNatClampNeg)) then some (v_sh, vi_up M 63 x.toNatClampNeg y) else none) = _
  simp
theorem vle63 {X : vi_Ex} {M : Nat → Nat → Int32} : vi_len X (v_sh, M) 63 = some 12 := rfl
theorem v_sh64 : v_sh[64]? = some (.inl (0, 12)) := rfl
theorem val64 {X : vi_Ex} {M : Nat → Nat → Int32} {x : Int32} : vi_ald X (v_sh, M) 64 0 x = if 0 ≤ x ∧ x.toNatClampNeg < 12 then some (M 64 x.toNatClampNeg) else none := by
  show (if (0 = 0 ∧ ¬ (x < 0 ∨ 12 ≤ x.toNatClampNeg)) then some (M 64 x.toNatClampNeg) else none) = _
  simp
theorem vas64 {M : Nat → Nat → Int32} {x y : Int32} : vi_ast (v_sh, M) 64 0 x y = if 0 ≤ x ∧ x.toNatClampNeg < 12 then some (v_sh, vi_up M 64 x.toNatClampNeg y) else none := by
  show (if (0 = 0 ∧ ¬ (x < 0 ∨ 12 ≤ x.toNatClampNeg)) then some (v_sh, vi_up M 64 x.toNatClampNeg y) else none) = _
  simp
theorem vle64 {X : vi_Ex} {M : Nat → Nat → Int32} : vi_len X (v_sh, M) 64 = some 12 := rfl
theorem v_sh65 : v_sh[65]? = some (.inl (0, 12)) := rfl
theorem val65 {X : vi_Ex} {M : Nat → Nat → Int32} {x : Int32} : vi_ald X (v_sh, M) 65 0 x = if 0 ≤ x ∧ x.toNatClampNeg < 12 then some (M 65 x.toNatClampNeg) else none := by
  show (if (0 = 0 ∧ ¬ (x < 0 ∨ 12 ≤ x.toNatClampNeg)) then some (M 65 x.toNatClampNeg) else none) = _
  simp
theorem vas65 {M : Nat → Nat → Int32} {x y : Int32} : vi_ast (v_sh, M) 65 0 x y = if 0 ≤ x ∧ x.toNatClampNeg < 12 then some (v_sh, vi_up M 65 x.toNatClampNeg y) else none := by
  show (if (0 = 0 ∧ ¬ (x < 0 ∨ 12 ≤ x.toNatClampNeg)) then some (v_sh, vi_up M 65 x.toNatClampNeg y) else none) = _
  simp
theorem vle65 {X : vi_Ex} {M : Nat → Nat → Int32} : vi_len X (v_sh, M) 65 = some 12 := rfl
theorem v_sh66 : v_sh[66]? = some (.inl (0, 192)) := rfl
theorem val66 {X : vi_Ex} {M : Nat → Nat → Int32} {x : Int32} : vi_ald X (v_sh, M) 66 0 x = if 0 ≤ x ∧ x.toNatClampNeg < 192 then some (M 66 x.toNatClampNeg) else none := by
  show (if (0 = 0 ∧ ¬ (x < 0 ∨ 192 ≤ x.toNatClampNeg)) then some (M 66 x.toNatClampNeg) else none) = _
  simp
theorem vas66 {M : Nat → Nat → Int32} {x y : Int32} : vi_ast (v_sh, M) 66 0 x y = if 0 ≤ x ∧ x.toNatClampNeg < 192 then some (v_sh, vi_up M 66 x.toNatClampNeg y) else none := by
  show (if (0 = 0 ∧ ¬ (x < 0 ∨ 192 ≤ x.toNatClampNeg)) then some (v_sh, vi_up M 66 x.toNatClampNeg y) else none) = _
  simp
theorem vle66 {X : vi_Ex} {M : Nat → Nat → Int32} : vi_len X (v_sh, M) 66 = some 192 := rfl
theorem v_sh67 : v_sh[67]? = some (.inl (0, 192)) := rfl
theorem val67 {X : vi_Ex} {M : Nat → Nat → Int32} {x : Int32} : vi_ald X (v_sh, M) 67 0 x = if 0 ≤ x ∧ x.toNatClampNeg < 192 then some (M 67 x.toNatClampNeg) else none := by
  show (if (0 = 0 ∧ ¬ (x < 0 ∨ 192 ≤ x.toNatClampNeg)) then some (M 67 x.toNatClampNeg) else none) = _
  simp
theorem vas67 {M : Nat → Nat → Int32} {x y : Int32} : vi_ast (v_sh, M) 67 0 x y = if 0 ≤ x ∧ x.toNatClampNeg < 192 then some (v_sh, vi_up M 67 x.toNatClampNeg y) else none := by
  show (if (0 = 0 ∧ ¬ (x < 0 ∨ 192 ≤ x.toNatClampNeg)) then some (v_sh, vi_up M 67 x.toNatClampNeg y) else none) = _
  simp
theorem vle67 {X : vi_Ex} {M : Nat → Nat → Int32} : vi_len X (v_sh, M) 67 = some 192 := rfl
theorem v_sh68 : v_sh[68]? = some (.inl (0, 12)) := rfl
theorem val68 {X : vi_Ex} {M : Nat → Nat → Int32} {x : Int32} : vi_ald X (v_sh, M) 68 0 x = if 0 ≤ x ∧ x.toNatClampNeg < 12 then some (M 68 x.toNatClampNeg) else none := by
  show (if (0 = 0 ∧ ¬ (x < 0 ∨ 12 ≤ x.toNatClampNeg)) then some (M 68 x.toNatClampNeg) else none) = _
  simp
theorem vas68 {M : Nat → Nat → Int32} {x y : Int32} : vi_ast (v_sh, M) 68 0 x y = if 0 ≤ x ∧ x.toNatClampNeg < 12 then some (v_sh, vi_up M 68 x.toNatClampNeg y) else none := by
  show (if (0 = 0 ∧ ¬ (x < 0 ∨ 12 ≤ x.toNatClampNeg)) then some (v_sh, vi_up M 68 x.toNatClampNeg y) else none) = _
  simp
theorem vle68 {X : vi_Ex} {M : Nat → Nat → Int32} : vi_len X (v_sh, M) 68 = some 12 := rfl
theorem v_S4_sh : v_S4.1 = v_sh := by decide +kernel
/-- the memory behind the constructors -/
def v_M0 : Nat → Nat → Int32 := v_S4.2
theorem v_pair {S : vi_Me} {sh : List vi_Sh} (h : S.1 = sh) : S = (sh, S.2) := by
  cases S
  cases h
  rfl
theorem v_S4_eq : v_S4 = (v_sh, v_M0) := by
  have h := v_pair v_S4_sh
  unfold v_M0
  exact h
