theorem vY0_ok : ∀ k, k < 7 → parseFieldDescriptor (vT0 k).2.2.1 = some (vY0 k) := by decide +kernel
theorem vN0_ok : ∀ a, a < 7 → ∀ b, b < 7 → a ≠ b → (vT0 a).2.1 ≠ (vT0 b).2.1 := by decide +kernel
theorem vD0_ok : ∀ j, j < 7 → defaultValue (vY0 j) = vp_V ((v_nf 0).map (fun x => x.getD (.int 0))) j := by decide +kernel
theorem vW0_ok : ∀ w ∈ u_ws vR0 vT0 7, w ∈ v_Ts := by
  have h : ∀ w ∈ u_ws vR0 vT0 7, w ∈ lw_tbl ∧ goodWord w = true := by decide +kernel
  exact fun w hw => List.mem_filter.mpr (h w hw)
theorem vY1_ok : ∀ k, k < 4 → parseFieldDescriptor (vT1 k).2.2.1 = some (vY1 k) := by decide +kernel
theorem vN1_ok : ∀ a, a < 4 → ∀ b, b < 4 → a ≠ b → (vT1 a).2.1 ≠ (vT1 b).2.1 := by decide +kernel
theorem vD1_ok : ∀ j, j < 4 → defaultValue (vY1 j) = vp_V ((v_nf 1).map (fun x => x.getD (.int 0))) j := by decide +kernel
theorem vW1_ok : ∀ w ∈ u_ws vR1 vT1 4, w ∈ v_Ts := by
  have h : ∀ w ∈ u_ws vR1 vT1 4, w ∈ lw_tbl ∧ goodWord w = true := by decide +kernel
  exact fun w hw => List.mem_filter.mpr (h w hw)
theorem vY2_ok : ∀ k, k < 3 → parseFieldDescriptor (vT2 k).2.2.1 = some (vY2 k) := by decide +kernel
theorem vN2_ok : ∀ a, a < 3 → ∀ b, b < 3 → a ≠ b → (vT2 a).2.1 ≠ (vT2 b).2.1 := by decide +kernel
theorem vD2_ok : ∀ j, j < 3 → defaultValue (vY2 j) = vp_V ((v_nf 2).map (fun x => x.getD (.int 0))) j := by decide +kernel
theorem vW2_ok : ∀ w ∈ u_ws vR2 vT2 3, w ∈ v_Ts := by
  have h : ∀ w ∈ u_ws vR2 vT2 3, w ∈ lw_tbl ∧ goodWord w = true := by decide +kernel
  exact fun w hw => List.mem_filter.mpr (h w hw)
theorem vY3_ok : ∀ k, k < 13 → parseFieldDescriptor (vT3 k).2.2.1 = some (vY3 k) := by decide +kernel
theorem vN3_ok : ∀ a, a < 13 → ∀ b, b < 13 → a ≠ b → (vT3 a).2.1 ≠ (vT3 b).2.1 := by decide +kernel
theorem vD3_ok : ∀ j, j < 13 → defaultValue (vY3 j) = vp_V ((v_nf 3).map (fun x => x.getD (.int 0))) j := by decide +kernel
theorem vW3_ok : ∀ w ∈ u_ws vR3 vT3 13, w ∈ v_Ts := by
  have h : ∀ w ∈ u_ws vR3 vT3 13, w ∈ lw_tbl ∧ goodWord w = true := by decide +kernel
  exact fun w hw => List.mem_filter.mpr (h w hw)
theorem vY4_ok : ∀ k, k < 2 → parseFieldDescriptor (vT4 k).2.2.1 = some (vY4 k) := by decide +kernel
theorem vN4_ok : ∀ a, a < 2 → ∀ b, b < 2 → a ≠ b → (vT4 a).2.1 ≠ (vT4 b).2.1 := by decide +kernel
theorem vD4_ok : ∀ j, j < 2 → defaultValue (vY4 j) = vp_V ((v_nf 4).map (fun x => x.getD (.int 0))) j := by decide +kernel
theorem vW4_ok : ∀ w ∈ u_ws vR4 vT4 2, w ∈ v_Ts := by
  have h : ∀ w ∈ u_ws vR4 vT4 2, w ∈ lw_tbl ∧ goodWord w = true := by decide +kernel
  exact fun w hw => List.mem_filter.mpr (h w hw)
theorem vY5_ok : ∀ k, k < 1 → parseFieldDescriptor (vT5 k).2.2.1 = some (vY5 k) := by decide +kernel
theorem vN5_ok : ∀ a, a < 1 → ∀ b, b < 1 → a ≠ b → (vT5 a).2.1 ≠ (vT5 b).2.1 := by decide +kernel
theorem vD5_ok : ∀ j, j < 1 → defaultValue (vY5 j) = vp_V ((v_nf 5).map (fun x => x.getD (.int 0))) j := by decide +kernel
theorem vW5_ok : ∀ w ∈ u_ws vR5 vT5 1, w ∈ v_Ts := by
  have h : ∀ w ∈ u_ws vR5 vT5 1, w ∈ lw_tbl ∧ goodWord w = true := by decide +kernel
  exact fun w hw => List.mem_filter.mpr (h w hw)
theorem vY6_ok : ∀ k, k < 3 → parseFieldDescriptor (vT6 k).2.2.1 = some (vY6 k) := by decide +kernel
theorem vN6_ok : ∀ a, a < 3 → ∀ b, b < 3 → a ≠ b → (vT6 a).2.1 ≠ (vT6 b).2.1 := by decide +kernel
theorem vD6_ok : ∀ j, j < 3 → defaultValue (vY6 j) = vp_V ((v_nf 6).map (fun x => x.getD (.int 0))) j := by decide +kernel
theorem vW6_ok : ∀ w ∈ u_ws vR6 vT6 3, w ∈ v_Ts := by
  have h : ∀ w ∈ u_ws vR6 vT6 3, w ∈ lw_tbl ∧ goodWord w = true := by decide +kernel
  exact fun w hw => List.mem_filter.mpr (h w hw)
theorem vY7_ok : ∀ k, k < 3 → parseFieldDescriptor (vT7 k).2.2.1 = some (vY7 k) := by decide +kernel
theorem vN7_ok : ∀ a, a < 3 → ∀ b, b < 3 → a ≠ b → (vT7 a).2.1 ≠ (vT7 b).2.1 := by decide +kernel
theorem vD7_ok : ∀ j, j < 3 → defaultValue (vY7 j) = vp_V ((v_nf 7).map (fun x => x.getD (.int 0))) j := by decide +kernel
theorem vW7_ok : ∀ w ∈ u_ws vR7 vT7 3, w ∈ v_Ts := by
  have h : ∀ w ∈ u_ws vR7 vT7 3, w ∈ lw_tbl ∧ goodWord w = true := by decide +kernel
  exact fun w hw => List.mem_filter.mpr (h w hw)
theorem vY8_ok : ∀ k, k < 5 → parseFieldDescriptor (vT8 k).2.2.1 = some (vY8 k) := by decide +kernel
theorem vN8_ok : ∀ a, a < 5 → ∀ b, b < 5 → a ≠ b → (vT8 a).2.1 ≠ (vT8 b).2.1 := by decide +kernel
theorem vD8_ok : ∀ j, j < 5 → defaultValue (vY8 j) = vp_V ((v_nf 8).map (fun x => x.getD (.int 0))) j := by decide +kernel
theorem vW8_ok : ∀ w ∈ u_ws vR8 vT8 5, w ∈ v_Ts := by
  have h : ∀ w ∈ u_ws vR8 vT8 5, w ∈ lw_tbl ∧ goodWord w = true := by decide +kernel
  exact fun w hw => List.mem_filter.mpr (h w hw)
theorem vY9_ok : ∀ k, k < 6 → parseFieldDescriptor (vT9 k).2.2.1 = some (vY9 k) := by decide +kernel
theorem vN9_ok : ∀ a, a < 6 → ∀ b, b < 6 → a ≠ b → (vT9 a).2.1 ≠ (vT9 b).2.1 := by decide +kernel
theorem vD9_ok : ∀ j, j < 6 → defaultValue (vY9 j) = vp_V ((v_nf 9).map (fun x => x.getD (.int 0))) j := by decide +kernel
theorem vW9_ok : ∀ w ∈ u_ws vR9 vT9 6, w ∈ v_Ts := by
  have h : ∀ w ∈ u_ws vR9 vT9 6, w ∈ lw_tbl ∧ goodWord w = true := by decide +kernel
  exact fun w hw => List.mem_filter.mpr (h w hw)
theorem vY10_ok : ∀ k, k < 14 → parseFieldDescriptor (vT10 k).2.2.1 = some (vY10 k) := by decide +kernel
theorem vN10_ok : ∀ a, a < 14 → ∀ b, b < 14 → a ≠ b → (vT10 a).2.1 ≠ (vT10 b).2.1 := by decide +kernel
theorem vD10_ok : ∀ j, j < 14 → defaultValue (vY10 j) = vp_V ((v_nf 10).map (fun x => x.getD (.int 0))) j := by decide +kernel
theorem vW10_ok : ∀ w ∈ u_ws vR10 vT10 14, w ∈ v_Ts := by
  have h : ∀ w ∈ u_ws vR10 vT10 14, w ∈ lw_tbl ∧ goodWord w = true := by decide +kernel
  exact fun w hw => List.mem_filter.mpr (h w hw)
theorem vY11_ok : ∀ k, k < 2 → parseFieldDescriptor (vT11 k).2.2.1 = some (vY11 k) := by decide +kernel
theorem vN11_ok : ∀ a, a < 2 → ∀ b, b < 2 → a ≠ b → (vT11 a).2.1 ≠ (vT11 b).2.1 := by decide +kernel
theorem vD11_ok : ∀ j, j < 2 → defaultValue (vY11 j) = vp_V ((v_nf 11).map (fun x => x.getD (.int 0))) j := by decide +kernel
theorem vW11_ok : ∀ w ∈ u_ws vR11 vT11 2, w ∈ v_Ts := by
  have h : ∀ w ∈ u_ws vR11 vT11 2, w ∈ lw_tbl ∧ goodWord w = true := by decide +kernel
  exact fun w hw => List.mem_filter.mpr (h w hw)
theorem vY12_ok : ∀ k, k < 34 → parseFieldDescriptor (vT12 k).2.2.1 = some (vY12 k) := by decide +kernel
theorem vN12_ok : ∀ a, a < 34 → ∀ b, b < 34 → a ≠ b → (vT12 a).2.1 ≠ (vT12 b).2.1 := by decide +kernel
theorem vD12_ok : ∀ j, j < 34 → defaultValue (vY12 j) = vp_V ((v_nf 12).map (fun x => x.getD (.int 0))) j := by decide +kernel
theorem vW12_ok : ∀ w ∈ u_ws vR12 vT12 34, w ∈ v_Ts := by
  have h : ∀ w ∈ u_ws vR12 vT12 34, w ∈ lw_tbl ∧ goodWord w = true := by decide +kernel
  exact fun w hw => List.mem_filter.mpr (h w hw)
/-! From the checks to what soundness asks. -/
theorem v_all16 {α : Type} {f : Nat → List α} {g : Nat → α → Bool} (h : (List.range 16).all (fun o => (f o).all (g o)) = true) {o : Nat} (ho : o < 16) {r : α} (hr : r ∈ f o) : g o r = true := List.all_eq_true.mp (List.all_eq_true.mp h o (List.mem_range.mpr ho)) r hr
theorem v_cls : ∀ k, k < 232 → ∃ (o : Nat) (r : Nat × Nat × Nat × Nat × Nat × Nat), v_mi[k]? = some (o, r) ∧ o < 16 ∧ (v_mt k).1.cls = v_own o := by
  intro k hk
  match k, hk with
  | 0, _ => exact ⟨_, _, rfl, by decide, rfl⟩
  | 1, _ => exact ⟨_, _, rfl, by decide, rfl⟩
  | 2, _ => exact ⟨_, _, rfl, by decide, rfl⟩
  | 3, _ => exact ⟨_, _, rfl, by decide, rfl⟩
  | 4, _ => exact ⟨_, _, rfl, by decide, rfl⟩
  | 5, _ => exact ⟨_, _, rfl, by decide, rfl⟩
  | 6, _ => exact ⟨_, _, rfl, by decide, rfl⟩
  | 7, _ => exact ⟨_, _, rfl, by decide, rfl⟩
  | 8, _ => exact ⟨_, _, rfl, by decide, rfl⟩
  | 9, _ => exact ⟨_, _, rfl, by decide, rfl⟩
  | 10, _ => exact ⟨_, _, rfl, by decide, rfl⟩
  | 11, _ => exact ⟨_, _, rfl, by decide, rfl⟩
  | 12, _ => exact ⟨_, _, rfl, by decide, rfl⟩
  | 13, _ => exact ⟨_, _, rfl, by decide, rfl⟩
  | 14, _ => exact ⟨_, _, rfl, by decide, rfl⟩
  | 15, _ => exact ⟨_, _, rfl, by decide, rfl⟩
  | 16, _ => exact ⟨_, _, rfl, by decide, rfl⟩
  | 17, _ => exact ⟨_, _, rfl, by decide, rfl⟩
  | 18, _ => exact ⟨_, _, rfl, by decide, rfl⟩
  | 19, _ => exact ⟨_, _, rfl, by decide, rfl⟩
  | 20, _ => exact ⟨_, _, rfl, by decide, rfl⟩
  | 21, _ => exact ⟨_, _, rfl, by decide, rfl⟩
  | 22, _ => exact ⟨_, _, rfl, by decide, rfl⟩
  | 23, _ => exact ⟨_, _, rfl, by decide, rfl⟩
  | 24, _ => exact ⟨_, _, rfl, by decide, rfl⟩
  | 25, _ => exact ⟨_, _, rfl, by decide, rfl⟩
  | 26, _ => exact ⟨_, _, rfl, by decide, rfl⟩
  | 27, _ => exact ⟨_, _, rfl, by decide, rfl⟩
  | 28, _ => exact ⟨_, _, rfl, by decide, rfl⟩
  | 29, _ => exact ⟨_, _, rfl, by decide, rfl⟩
  | 30, _ => exact ⟨_, _, rfl, by decide, rfl⟩
  | 31, _ => exact ⟨_, _, rfl, by decide, rfl⟩
  | 32, _ => exact ⟨_, _, rfl, by decide, rfl⟩
  | 33, _ => exact ⟨_, _, rfl, by decide, rfl⟩
  | 34, _ => exact ⟨_, _, rfl, by decide, rfl⟩
  | 35, _ => exact ⟨_, _, rfl, by decide, rfl⟩
  | 36, _ => exact ⟨_, _, rfl, by decide, rfl⟩
  | 37, _ => exact ⟨_, _, rfl, by decide, rfl⟩
  | 38, _ => exact ⟨_, _, rfl, by decide, rfl⟩
  | 39, _ => exact ⟨_, _, rfl, by decide, rfl⟩
  | 40, _ => exact ⟨_, _, rfl, by decide, rfl⟩
  | 41, _ => exact ⟨_, _, rfl, by decide, rfl⟩
  | 42, _ => exact ⟨_, _, rfl, by decide, rfl⟩
  | 43, _ => exact ⟨_, _, rfl, by decide, rfl⟩
  | 44, _ => exact ⟨_, _, rfl, by decide, rfl⟩
  | 45, _ => exact ⟨_, _, rfl, by decide, rfl⟩
  | 46, _ => exact ⟨_, _, rfl, by decide, rfl⟩
  | 47, _ => exact ⟨_, _, rfl, by decide, rfl⟩
  | 48, _ => exact ⟨_, _, rfl, by decide, rfl⟩
  | 49, _ => exact ⟨_, _, rfl, by decide, rfl⟩
  | 50, _ => exact ⟨_, _, rfl, by decide, rfl⟩
  | 51, _ => exact ⟨_, _, rfl, by decide, rfl⟩
  | 52, _ => exact ⟨_, _, rfl, by decide, rfl⟩
  | 53, _ => exact ⟨_, _, rfl, by decide, rfl⟩
  | 54, _ => exact ⟨_, _, rfl, by decide, rfl⟩
  | 55, _ => exact ⟨_, _, rfl, by decide, rfl⟩
  | 56, _ => exact ⟨_, _, rfl, by decide, rfl⟩
  | 57, _ => exact ⟨_, _, rfl, by decide, rfl⟩
  | 58, _ => exact ⟨_, _, rfl, by decide, rfl⟩
  | 59, _ => exact ⟨_, _, rfl, by decide, rfl⟩
  | 60, _ => exact ⟨_, _, rfl, by decide, rfl⟩
  | 61, _ => exact ⟨_, _, rfl, by decide, rfl⟩
  | 62, _ => exact ⟨_, _, rfl, by decide, rfl⟩
  | 63, _ => exact ⟨_, _, rfl, by decide, rfl⟩
  | 64, _ => exact ⟨_, _, rfl, by decide, rfl⟩
  | 65, _ => exact ⟨_, _, rfl, by decide, rfl⟩
  | 66, _ => exact ⟨_, _, rfl, by decide, rfl⟩
  | 67, _ => exact ⟨_, _, rfl, by decide, rfl⟩
  | 68, _ => exact ⟨_, _, rfl, by decide, rfl⟩
  | 69, _ => exact ⟨_, _, rfl, by decide, rfl⟩
  | 70, _ => exact ⟨_, _, rfl, by decide, rfl⟩
  | 71, _ => exact ⟨_, _, rfl, by decide, rfl⟩
  | 72, _ => exact ⟨_, _, rfl, by decide, rfl⟩
  | 73, _ => exact ⟨_, _, rfl, by decide, rfl⟩
  | 74, _ => exact ⟨_, _, rfl, by decide, rfl⟩
  | 75, _ => exact ⟨_, _, rfl, by decide, rfl⟩
  | 76, _ => exact ⟨_, _, rfl, by decide, rfl⟩
  | 77, _ => exact ⟨_, _, rfl, by decide, rfl⟩
  | 78, _ => exact ⟨_, _, rfl, by decide, rfl⟩
  | 79, _ => exact ⟨_, _, rfl, by decide, rfl⟩
  | 80, _ => exact ⟨_, _, rfl, by decide, rfl⟩
  | 81, _ => exact ⟨_, _, rfl, by decide, rfl⟩
  | 82, _ => exact ⟨_, _, rfl, by decide, rfl⟩
  | 83, _ => exact ⟨_, _, rfl, by decide, rfl⟩
  | 84, _ => exact ⟨_, _, rfl, by decide, rfl⟩
  | 85, _ => exact ⟨_, _, rfl, by decide, rfl⟩
  | 86, _ => exact ⟨_, _, rfl, by decide, rfl⟩
  | 87, _ => exact ⟨_, _, rfl, by decide, rfl⟩
  | 88, _ => exact ⟨_, _, rfl, by decide, rfl⟩
  | 89, _ => exact ⟨_, _, rfl, by decide, rfl⟩
  | 90, _ => exact ⟨_, _, rfl, by decide, rfl⟩
  | 91, _ => exact ⟨_, _, rfl, by decide, rfl⟩
  | 92, _ => exact ⟨_, _, rfl, by decide, rfl⟩
  | 93, _ => exact ⟨_, _, rfl, by decide, rfl⟩
  | 94, _ => exact ⟨_, _, rfl, by decide, rfl⟩
  | 95, _ => exact ⟨_, _, rfl, by decide, rfl⟩
  | 96, _ => exact ⟨_, _, rfl, by decide, rfl⟩
  | 97, _ => exact ⟨_, _, rfl, by decide, rfl⟩
  | 98, _ => exact ⟨_, _, rfl, by decide, rfl⟩
  | 99, _ => exact ⟨_, _, rfl, by decide, rfl⟩
  | 100, _ => exact ⟨_, _, rfl, by decide, rfl⟩
  | 101, _ => exact ⟨_, _, rfl, by decide, rfl⟩
  | 102, _ => exact ⟨_, _, rfl, by decide, rfl⟩
  | 103, _ => exact ⟨_, _, rfl, by decide, rfl⟩
  | 104, _ => exact ⟨_, _, rfl, by decide, rfl⟩
  | 105, _ => exact ⟨_, _, rfl, by decide, rfl⟩
  | 106, _ => exact ⟨_, _, rfl, by decide, rfl⟩
  | 107, _ => exact ⟨_, _, rfl, by decide, rfl⟩
  | 108, _ => exact ⟨_, _, rfl, by decide, rfl⟩
  | 109, _ => exact ⟨_, _, rfl, by decide, rfl⟩
  | 110, _ => exact ⟨_, _, rfl, by decide, rfl⟩
  | 111, _ => exact ⟨_, _, rfl, by decide, rfl⟩
  | 112, _ => exact ⟨_, _, rfl, by decide, rfl⟩
  | 113, _ => exact ⟨_, _, rfl, by decide, rfl⟩
  | 114, _ => exact ⟨_, _, rfl, by decide, rfl⟩
  | 115, _ => exact ⟨_, _, rfl, by decide, rfl⟩
  | 116, _ => exact ⟨_, _, rfl, by decide, rfl⟩
  | 117, _ => exact ⟨_, _, rfl, by decide, rfl⟩
  | 118, _ => exact ⟨_, _, rfl, by decide, rfl⟩
  | 119, _ => exact ⟨_, _, rfl, by decide, rfl⟩
  | 120, _ => exact ⟨_, _, rfl, by decide, rfl⟩
  | 121, _ => exact ⟨_, _, rfl, by decide, rfl⟩
  | 122, _ => exact ⟨_, _, rfl, by decide, rfl⟩
  | 123, _ => exact ⟨_, _, rfl, by decide, rfl⟩
  | 124, _ => exact ⟨_, _, rfl, by decide, rfl⟩
  | 125, _ => exact ⟨_, _, rfl, by decide, rfl⟩
  | 126, _ => exact ⟨_, _, rfl, by decide, rfl⟩
  | 127, _ => exact ⟨_, _, rfl, by decide, rfl⟩
  | 128, _ => exact ⟨_, _, rfl, by decide, rfl⟩
  | 129, _ => exact ⟨_, _, rfl, by decide, rfl⟩
  | 130, _ => exact ⟨_, _, rfl, by decide, rfl⟩
  | 131, _ => exact ⟨_, _, rfl, by decide, rfl⟩
  | 132, _ => exact ⟨_, _, rfl, by decide, rfl⟩
  | 133, _ => exact ⟨_, _, rfl, by decide, rfl⟩
  | 134, _ => exact ⟨_, _, rfl, by decide, rfl⟩
  | 135, _ => exact ⟨_, _, rfl, by decide, rfl⟩
  | 136, _ => exact ⟨_, _, rfl, by decide, rfl⟩
  | 137, _ => exact ⟨_, _, rfl, by decide, rfl⟩
  | 138, _ => exact ⟨_, _, rfl, by decide, rfl⟩
  | 139, _ => exact ⟨_, _, rfl, by decide, rfl⟩
  | 140, _ => exact ⟨_, _, rfl, by decide, rfl⟩
  | 141, _ => exact ⟨_, _, rfl, by decide, rfl⟩
  | 142, _ => exact ⟨_, _, rfl, by decide, rfl⟩
  | 143, _ => exact ⟨_, _, rfl, by decide, rfl⟩
  | 144, _ => exact ⟨_, _, rfl, by decide, rfl⟩
  | 145, _ => exact ⟨_, _, rfl, by decide, rfl⟩
  | 146, _ => exact ⟨_, _, rfl, by decide, rfl⟩
  | 147, _ => exact ⟨_, _, rfl, by decide, rfl⟩
  | 148, _ => exact ⟨_, _, rfl, by decide, rfl⟩
  | 149, _ => exact ⟨_, _, rfl, by decide, rfl⟩
  | 150, _ => exact ⟨_, _, rfl, by decide, rfl⟩
  | 151, _ => exact ⟨_, _, rfl, by decide, rfl⟩
  | 152, _ => exact ⟨_, _, rfl, by decide, rfl⟩
  | 153, _ => exact ⟨_, _, rfl, by decide, rfl⟩
  | 154, _ => exact ⟨_, _, rfl, by decide, rfl⟩
  | 155, _ => exact ⟨_, _, rfl, by decide, rfl⟩
  | 156, _ => exact ⟨_, _, rfl, by decide, rfl⟩
  | 157, _ => exact ⟨_, _, rfl, by decide, rfl⟩
  | 158, _ => exact ⟨_, _, rfl, by decide, rfl⟩
  | 159, _ => exact ⟨_, _, rfl, by decide, rfl⟩
  | 160, _ => exact ⟨_, _, rfl, by decide, rfl⟩
  | 161, _ => exact ⟨_, _, rfl, by decide, rfl⟩
  | 162, _ => exact ⟨_, _, rfl, by decide, rfl⟩
  | 163, _ => exact ⟨_, _, rfl, by decide, rfl⟩
  | 164, _ => exact ⟨_, _, rfl, by decide, rfl⟩
  | 165, _ => exact ⟨_, _, rfl, by decide, rfl⟩
  | 166, _ => exact ⟨_, _, rfl, by decide, rfl⟩
  | 167, _ => exact ⟨_, _, rfl, by decide, rfl⟩
  | 168, _ => exact ⟨_, _, rfl, by decide, rfl⟩
  | 169, _ => exact ⟨_, _, rfl, by decide, rfl⟩
  | 170, _ => exact ⟨_, _, rfl, by decide, rfl⟩
  | 171, _ => exact ⟨_, _, rfl, by decide, rfl⟩
  | 172, _ => exact ⟨_, _, rfl, by decide, rfl⟩
  | 173, _ => exact ⟨_, _, rfl, by decide, rfl⟩
  | 174, _ => exact ⟨_, _, rfl, by decide, rfl⟩
  | 175, _ => exact ⟨_, _, rfl, by decide, rfl⟩
  | 176, _ => exact ⟨_, _, rfl, by decide, rfl⟩
  | 177, _ => exact ⟨_, _, rfl, by decide, rfl⟩
  | 178, _ => exact ⟨_, _, rfl, by decide, rfl⟩
  | 179, _ => exact ⟨_, _, rfl, by decide, rfl⟩
  | 180, _ => exact ⟨_, _, rfl, by decide, rfl⟩
  | 181, _ => exact ⟨_, _, rfl, by decide, rfl⟩
  | 182, _ => exact ⟨_, _, rfl, by decide, rfl⟩
  | 183, _ => exact ⟨_, _, rfl, by decide, rfl⟩
  | 184, _ => exact ⟨_, _, rfl, by decide, rfl⟩
  | 185, _ => exact ⟨_, _, rfl, by decide, rfl⟩
  | 186, _ => exact ⟨_, _, rfl, by decide, rfl⟩
  | 187, _ => exact ⟨_, _, rfl, by decide, rfl⟩
  | 188, _ => exact ⟨_, _, rfl, by decide, rfl⟩
  | 189, _ => exact ⟨_, _, rfl, by decide, rfl⟩
  | 190, _ => exact ⟨_, _, rfl, by decide, rfl⟩
  | 191, _ => exact ⟨_, _, rfl, by decide, rfl⟩
  | 192, _ => exact ⟨_, _, rfl, by decide, rfl⟩
  | 193, _ => exact ⟨_, _, rfl, by decide, rfl⟩
  | 194, _ => exact ⟨_, _, rfl, by decide, rfl⟩
  | 195, _ => exact ⟨_, _, rfl, by decide, rfl⟩
  | 196, _ => exact ⟨_, _, rfl, by decide, rfl⟩
  | 197, _ => exact ⟨_, _, rfl, by decide, rfl⟩
  | 198, _ => exact ⟨_, _, rfl, by decide, rfl⟩
  | 199, _ => exact ⟨_, _, rfl, by decide, rfl⟩
  | 200, _ => exact ⟨_, _, rfl, by decide, rfl⟩
  | 201, _ => exact ⟨_, _, rfl, by decide, rfl⟩
  | 202, _ => exact ⟨_, _, rfl, by decide, rfl⟩
  | 203, _ => exact ⟨_, _, rfl, by decide, rfl⟩
  | 204, _ => exact ⟨_, _, rfl, by decide, rfl⟩
  | 205, _ => exact ⟨_, _, rfl, by decide, rfl⟩
  | 206, _ => exact ⟨_, _, rfl, by decide, rfl⟩
  | 207, _ => exact ⟨_, _, rfl, by decide, rfl⟩
  | 208, _ => exact ⟨_, _, rfl, by decide, rfl⟩
  | 209, _ => exact ⟨_, _, rfl, by decide, rfl⟩
  | 210, _ => exact ⟨_, _, rfl, by decide, rfl⟩
  | 211, _ => exact ⟨_, _, rfl, by decide, rfl⟩
  | 212, _ => exact ⟨_, _, rfl, by decide, rfl⟩
  | 213, _ => exact ⟨_, _, rfl, by decide, rfl⟩
  | 214, _ => exact ⟨_, _, rfl, by decide, rfl⟩
  | 215, _ => exact ⟨_, _, rfl, by decide, rfl⟩
  | 216, _ => exact ⟨_, _, rfl, by decide, rfl⟩
  | 217, _ => exact ⟨_, _, rfl, by decide, rfl⟩
  | 218, _ => exact ⟨_, _, rfl, by decide, rfl⟩
  | 219, _ => exact ⟨_, _, rfl, by decide, rfl⟩
  | 220, _ => exact ⟨_, _, rfl, by decide, rfl⟩
  | 221, _ => exact ⟨_, _, rfl, by decide, rfl⟩
  | 222, _ => exact ⟨_, _, rfl, by decide, rfl⟩
  | 223, _ => exact ⟨_, _, rfl, by decide, rfl⟩
  | 224, _ => exact ⟨_, _, rfl, by decide, rfl⟩
  | 225, _ => exact ⟨_, _, rfl, by decide, rfl⟩
  | 226, _ => exact ⟨_, _, rfl, by decide, rfl⟩
  | 227, _ => exact ⟨_, _, rfl, by decide, rfl⟩
  | 228, _ => exact ⟨_, _, rfl, by decide, rfl⟩
  | 229, _ => exact ⟨_, _, rfl, by decide, rfl⟩
  | 230, _ => exact ⟨_, _, rfl, by decide, rfl⟩
  | 231, _ => exact ⟨_, _, rfl, by decide, rfl⟩
  | n + 232, h => omega
theorem v_good : ∀ w ∈ v_Ts, (w.onTables && w.keeps) = true ∨ ∃ ty, w = .arrayClass ty := fun w hw => good_of_word (List.mem_filter.mp hw).2
theorem v_mi_all : ∀ k, k < 231 → v_mib k = true := by
  have h : ∀ a n, (List.range' a n).all v_mib = true → ∀ k, a ≤ k → k < a + n → v_mib k = true := fun a n h k h1 h2 => List.all_eq_true.mp h k (List.mem_range'_1.mpr ⟨h1, h2⟩)
  intro k hk
  by_cases h0 : k < 20
  · exact h 0 20 v_mi_0 k (by omega) (by omega)
  by_cases h1 : k < 40
  · exact h 20 20 v_mi_1 k (by omega) (by omega)
  by_cases h2 : k < 60
  · exact h 40 20 v_mi_2 k (by omega) (by omega)
  by_cases h3 : k < 80
  · exact h 60 20 v_mi_3 k (by omega) (by omega)
  by_cases h4 : k < 100
  · exact h 80 20 v_mi_4 k (by omega) (by omega)
  by_cases h5 : k < 120
  · exact h 100 20 v_mi_5 k (by omega) (by omega)
  by_cases h6 : k < 140
  · exact h 120 20 v_mi_6 k (by omega) (by omega)
  by_cases h7 : k < 160
  · exact h 140 20 v_mi_7 k (by omega) (by omega)
  by_cases h8 : k < 180
  · exact h 160 20 v_mi_8 k (by omega) (by omega)
  by_cases h9 : k < 200
  · exact h 180 20 v_mi_9 k (by omega) (by omega)
  by_cases h10 : k < 220
  · exact h 200 20 v_mi_10 k (by omega) (by omega)
  exact h 220 11 v_mi_11 k (by omega) (by omega)
theorem v_chk_all : ∀ k, k < 232 → v_chk k = true := by
  have h : ∀ a n, (List.range' a n).all v_chk = true → ∀ k, a ≤ k → k < a + n → v_chk k = true := fun a n h k h1 h2 => List.all_eq_true.mp h k (List.mem_range'_1.mpr ⟨h1, h2⟩)
  intro k hk
  by_cases h0 : k < 40
  · exact h 0 40 v_chk_0 k (by omega) (by omega)
  by_cases h1 : k < 80
  · exact h 40 40 v_chk_1 k (by omega) (by omega)
  by_cases h2 : k < 120
  · exact h 80 40 v_chk_2 k (by omega) (by omega)
  by_cases h3 : k < 160
  · exact h 120 40 v_chk_3 k (by omega) (by omega)
  by_cases h4 : k < 200
  · exact h 160 40 v_chk_4 k (by omega) (by omega)
  by_cases h5 : k < 231
  · exact h 200 31 v_chk_5 k (by omega) (by omega)
  have : k = 231 := by omega
  subst this
  exact v_chk_6
theorem v_clname : ∀ c, c < 13 → ∃ g : vw_C, v_cl[c]? = some g ∧ g.1 = v_own c := by
  intro c hc
  match c, hc with
  | 0, _ => exact ⟨_, rfl, rfl⟩
  | 1, _ => exact ⟨_, rfl, rfl⟩
  | 2, _ => exact ⟨_, rfl, rfl⟩
  | 3, _ => exact ⟨_, rfl, rfl⟩
  | 4, _ => exact ⟨_, rfl, rfl⟩
  | 5, _ => exact ⟨_, rfl, rfl⟩
  | 6, _ => exact ⟨_, rfl, rfl⟩
  | 7, _ => exact ⟨_, rfl, rfl⟩
  | 8, _ => exact ⟨_, rfl, rfl⟩
  | 9, _ => exact ⟨_, rfl, rfl⟩
  | 10, _ => exact ⟨_, rfl, rfl⟩
  | 11, _ => exact ⟨_, rfl, rfl⟩
  | 12, _ => exact ⟨_, rfl, rfl⟩
  | n + 13, h => omega
theorem v_plain : ∀ o, o < 14 → plainName (v_own o) = true ∧ v_own o ≠ "java/lang/invoke/MethodHandle" ∧ v_own o ≠ "java/lang/invoke/VarHandle" := by
  intro o ho
  have h := List.all_eq_true.mp v_on_c o (List.mem_range.mpr ho)
  simp only [v_onb, Bool.and_eq_true, decide_eq_true_eq] at h
  exact ⟨h.1.1, h.1.2, h.2⟩
theorem v_plainFor : ∀ k, k < 231 → plainFor (v_mt k).1 = true ∧ (v_mt k).1.cls ≠ "java/lang/invoke/MethodHandle" ∧ (v_mt k).1.cls ≠ "java/lang/invoke/VarHandle" := by
  intro k hk
  have h3 := v_pf_20
  simp only [Bool.and_eq_true] at h3
  by_cases h20 : k = 20
  · subst h20; exact ⟨h3.1.1, by decide, by decide⟩
  by_cases h47 : k = 47
  · subst h47; exact ⟨h3.1.2, by decide, by decide⟩
  by_cases h125 : k = 125
  · subst h125; exact ⟨h3.2, by decide, by decide⟩
  obtain ⟨o, r, h1, h2, h4⟩ := v_cls k (by omega)
  have ho : o < 14 := by
    have hall : ∀ j, j < 231 → j ≠ 20 → j ≠ 47 → j ≠ 125 → (v_mi.getD j (0, 0, 0, 0, 0, 0, 0)).1 < 14 := by decide +kernel
    have := hall k hk h20 h47 h125
    rw [List.getD_eq_getElem?_getD, h1] at this
    exact this
  obtain ⟨p1, p2, p3⟩ := v_plain o ho
  rw [h4]
  exact ⟨plainFor_of_name (by rw [h4]; exact p1), p2, p3⟩
theorem v_cab_ok {o i a b dep kd : Nat} {own : String} (ho : o < 16) (how : own = v_own o) (h : v_cab o i a b dep kd = true) : vi_okC v_Ts own i b dep (v_mt a) ∧ a < 231 ∧ ∃ r, v_mi[a]? = some r ∧ r.2.2.1 = kd := by
  simp only [v_cab, Bool.and_eq_true, decide_eq_true_eq] at h
  obtain ⟨⟨h1, h2⟩, h3⟩ := h
  obtain ⟨r, hr, hr2⟩ := List.any_eq_true.mp h1
  simp only [Bool.and_eq_true, beq_iff_eq] at hr2
  split at h2
  · rename_i o' np kd' r' hmi
    simp only [Bool.and_eq_true, decide_eq_true_eq] at h2
    obtain ⟨⟨hnp, hkd⟩, ha⟩ := h2
    have hm := v_all16 v_ml_c ho hr
    simp only [v_mlb] at hm
    rw [hr2.1, hr2.2] at hm
    have hmib := v_mi_all a ha
    simp only [v_mib, hmi, Bool.and_eq_true, decide_eq_true_eq] at hmib
    obtain ⟨⟨⟨m1, m2⟩, m3⟩, m4⟩ := hmib
    obtain ⟨q1, q2, q3⟩ := v_plainFor a ha
    refine ⟨⟨by rw [how]; exact v_at_mem hm, v_at_mem m1, v_code_in a ha, ⟨q2, q3, by rw [m2, hnp]⟩, h3, m3, q1⟩, ha, _, hmi, hkd⟩
  · cases h2
theorem v_kind {a : Nat} {r : Nat × Nat × Nat × Nat × Nat × Nat × Nat} (ha : a < 231) (hr : v_mi[a]? = some r) : (r.2.2.1 = 0 → Cond.static (v_mt a).1 ∈ v_Ts) ∧ (r.2.2.1 = 1 → Cond.instanceMethod (v_mt a).1 ∈ v_Ts ∧ Cond.selects (v_mt a).1.cls (v_mt a).1 (v_mt a).1 ∈ v_Ts) ∧ (r.2.2.1 = 2 → Cond.instanceMethod (v_mt a).1 ∈ v_Ts ∧ (v_mt a).1.name = "<init>" ∧ (v_mt a).2.2.2.1 = none) := by
  obtain ⟨o, np, kd, pi, pc, pm, ps⟩ := r
  have hmib := v_mi_all a ha
  simp only [v_mib, hr, Bool.and_eq_true, decide_eq_true_eq] at hmib
  obtain ⟨-, m4⟩ := hmib
  dsimp only
  refine ⟨fun h => ?_, fun h => ?_, fun h => ?_⟩
  · subst h
    exact v_at_mem (by simpa using m4)
  · subst h
    simp only [Nat.one_ne_zero, if_false, if_true, Bool.and_eq_true] at m4
    exact ⟨v_at_mem m4.1, v_at_mem m4.2⟩
  · subst h
    simp only [show ¬ (2 : Nat) = 0 by decide, show ¬ (2 : Nat) = 1 by decide, if_false, Bool.and_eq_true, decide_eq_true_eq] at m4
    exact ⟨v_at_mem m4.1.1, m4.1.2, m4.2⟩
theorem v_fl_ok {o i a b : Nat} {own : String} (ho : o < 16) (how : own = v_own o) (h : (v_fl o).any (fun r => r.1 == i && r.2.1 == a && r.2.2.1 == b) = true) : ∃ r : vw_C, v_cl[a]? = some r ∧ b < r.2.2 ∧ (r.2.1 b).1 = r.1 ∧ Cond.fieldLink own i r.1 (r.2.1 b).2.1 (r.2.1 b).2.2.1 ∈ v_Ts := by
  obtain ⟨r, hr, hr2⟩ := List.any_eq_true.mp h
  simp only [Bool.and_eq_true, beq_iff_eq] at hr2
  obtain ⟨⟨e1, e2⟩, e3⟩ := hr2
  subst e1; subst e2; subst e3
  have hm := v_all16 v_fl_c ho hr
  unfold v_flb at hm
  split at hm
  · rename_i g hg
    simp only [Bool.and_eq_true, decide_eq_true_eq] at hm
    exact ⟨g, hg, hm.1.1, hm.1.2, by rw [how]; exact v_at_mem hm.2⟩
  · cases hm
theorem v_kl_ok {o i a : Nat} {own : String} (ho : o < 16) (how : own = v_own o) (h : (v_kl o).any (fun r => r.1 == i && r.2.1 == a) = true) : ∃ g : vw_C, v_cl[a]? = some g ∧ Cond.classLink own i g.1 ∈ v_Ts := by
  obtain ⟨r, hr, hr2⟩ := List.any_eq_true.mp h
  simp only [Bool.and_eq_true, beq_iff_eq] at hr2
  obtain ⟨e1, e2⟩ := hr2
  subst e1; subst e2
  have hm := v_all16 v_kl_c ho hr
  unfold v_klb at hm
  split at hm
  · rename_i g hg
    exact ⟨g, hg, by rw [how]; exact v_at_mem hm⟩
  · cases hm
theorem v_new_ok : ∀ a, a < 13 → ∃ (r : vw_C) (ty : Nat → FieldType), v_cl[a]? = some r ∧ (∀ k, k < r.2.2 → parseFieldDescriptor (r.2.1 k).2.2.1 = some (ty k)) ∧ (∀ j, j < r.2.2 → defaultValue (ty j) = vp_V ((v_nf a).map (fun x => x.getD (.int 0))) j) ∧ (∀ w ∈ u_ws r.1 r.2.1 r.2.2, w ∈ v_Ts) ∧ ∀ x, x < r.2.2 → ∀ y, y < r.2.2 → x ≠ y → (r.2.1 x).2.1 ≠ (r.2.1 y).2.1 := by
  intro a ha
  match a, ha with
  | 0, _ => exact ⟨_, vY0, rfl, vY0_ok, vD0_ok, vW0_ok, vN0_ok⟩
  | 1, _ => exact ⟨_, vY1, rfl, vY1_ok, vD1_ok, vW1_ok, vN1_ok⟩
  | 2, _ => exact ⟨_, vY2, rfl, vY2_ok, vD2_ok, vW2_ok, vN2_ok⟩
  | 3, _ => exact ⟨_, vY3, rfl, vY3_ok, vD3_ok, vW3_ok, vN3_ok⟩
  | 4, _ => exact ⟨_, vY4, rfl, vY4_ok, vD4_ok, vW4_ok, vN4_ok⟩
  | 5, _ => exact ⟨_, vY5, rfl, vY5_ok, vD5_ok, vW5_ok, vN5_ok⟩
  | 6, _ => exact ⟨_, vY6, rfl, vY6_ok, vD6_ok, vW6_ok, vN6_ok⟩
  | 7, _ => exact ⟨_, vY7, rfl, vY7_ok, vD7_ok, vW7_ok, vN7_ok⟩
  | 8, _ => exact ⟨_, vY8, rfl, vY8_ok, vD8_ok, vW8_ok, vN8_ok⟩
  | 9, _ => exact ⟨_, vY9, rfl, vY9_ok, vD9_ok, vW9_ok, vN9_ok⟩
  | 10, _ => exact ⟨_, vY10, rfl, vY10_ok, vD10_ok, vW10_ok, vN10_ok⟩
  | 11, _ => exact ⟨_, vY11, rfl, vY11_ok, vD11_ok, vW11_ok, vN11_ok⟩
  | 12, _ => exact ⟨_, vY12, rfl, vY12_ok, vD12_ok, vW12_ok, vN12_ok⟩
  | n + 13, h => omega
theorem v_new_ok2 : ∀ a, a < 13 → ∃ r : vw_C, v_cl[a]? = some r ∧ Cond.instantiable r.1 r.2.2 ∈ v_Ts ∧ Cond.initialized r.1 ∈ v_Ts ∧ (v_nf a).length = r.2.2 ∧ (∀ x ∈ v_nf a, x = none ∨ x = some .null) := by
  intro a ha
  have h := List.all_eq_true.mp v_ci_c a (List.mem_range.mpr ha)
  unfold v_cib at h
  split at h
  · rename_i g r hg hr
    simp only [Bool.and_eq_true, decide_eq_true_eq] at h
    obtain ⟨⟨⟨h1, h2⟩, h3⟩, h4⟩ := h
    refine ⟨g, hg, v_at_mem h1, v_at_mem h2, h3, fun x hx => ?_⟩
    have := List.all_eq_true.mp h4 x hx
    split at this
    · exact Or.inl rfl
    · exact Or.inr rfl
    · cases this
  · cases h
theorem v_Cl : vi_Cl v_cl v_Ts := by
  intro r hr
  obtain ⟨a, ha⟩ := List.getElem?_of_mem hr
  have hl : a < 13 := (List.getElem?_eq_some_iff.mp ha).1
  obtain ⟨r', ty, h1, h2, h3, h4, h5⟩ := v_new_ok a hl
  have : r' = r := Option.some.inj (h1.symm.trans ha)
  subst this
  exact ⟨h4, ⟨ty, h2⟩, h5⟩
set_option maxHeartbeats 1000000 in
theorem v_eb_ok {q : vi_Mt} {o : Nat} (ho : o < 16) (how : q.1.cls = v_own o) {E : vi_En} (h : v_eb o q.2.2.2.2 q.2.2.2.1 (decide (q.1.name = "<init>")) E = true) : vi_okE v_cl v_Ts v_zt v_LK v_nf v_mt q E := by
  have hap := v_ap_c
  simp only [Bool.and_eq_true] at hap
  obtain ⟨⟨⟨ap1, ap2⟩, ap4⟩, ap5⟩ := hap
  obtain ⟨pc, ins, a, b, z⟩ := E
  cases ins
  case ldc i =>
    obtain ⟨r, hr, hr2⟩ := List.any_eq_true.mp h
    simp only [Bool.and_eq_true, beq_iff_eq] at hr2
    obtain ⟨e1, e2⟩ := hr2
    subst e1; subst e2
    have hm := v_all16 v_cn_c ho hr
    show Cond.constant q.1.cls _ _ ∈ v_Ts
    rw [how]
    exact v_at_mem hm
  case ldc2_w i =>
    obtain ⟨r, hr, hr2⟩ := List.any_eq_true.mp h
    simp only [Bool.and_eq_true, beq_iff_eq] at hr2
    obtain ⟨e1, e2⟩ := hr2
    subst e1; subst e2
    have hm := v_all16 v_cj_c ho hr
    show Cond.constantLong q.1.cls _ _ ∈ v_Ts
    rw [how]
    exact v_at_mem hm
  case goto off => exact of_decide_eq_true (p := (pc : Int) + off = (a : Int)) h
  case if_icmp c off => exact of_decide_eq_true (p := (pc : Int) + off = (a : Int)) h
  case ifCond c off => exact of_decide_eq_true (p := (pc : Int) + off = (a : Int)) h
  case tableswitch d lo hi offs =>
    simp only [v_eb, Bool.and_eq_true, decide_eq_true_eq] at h
    exact ⟨h.1, fun x hx => of_decide_eq_true (List.all_eq_true.mp h.2 x hx)⟩
  case getfield i => exact v_fl_ok ho how h
  case putfield i =>
    simp only [v_eb, Bool.and_eq_true] at h
    obtain ⟨h1, h2⟩ := h
    obtain ⟨r, g1, g2, g3, g4⟩ := v_fl_ok ho how (by simpa only [Bool.and_eq_true] using h1)
    unfold v_pfb at h2
    rw [g1] at h2
    simp only [Bool.and_eq_true, Bool.or_eq_true, Bool.not_eq_true', decide_eq_true_eq] at h2
    obtain ⟨h3, h4⟩ := h2
    have hfin : (r.2.1 b).2.2.2 = false ∨ ((r.2.1 b).2.2.2 = true ∧ q.1.name = "<init>" ∧ (r.2.1 b).1 = q.1.cls) := by
      rcases hq : (r.2.1 b).2.2.2 with _ | _
      · exact Or.inl rfl
      · rw [hq] at h4
        rcases h4 with h4 | h4
        · cases h4
        · exact Or.inr ⟨rfl, h4.1, by rw [how]; exact h4.2⟩
    split at h3
    · rename_i hty
      have hz := of_decide_eq_true h3
      subst hz
      exact ⟨r, _, g1, g2, g3, g4, hty, (fun _ => rfl), (fun h => by cases h), (fun h => by cases h), hfin⟩
    · rename_i hty
      have hz := of_decide_eq_true h3
      subst hz
      exact ⟨r, _, g1, g2, g3, g4, hty, (fun h => by cases h), (fun _ => rfl), (fun h => by cases h), hfin⟩
    · rename_i nm hty
      have hz := of_decide_eq_true h3
      subst hz
      exact ⟨r, _, g1, g2, g3, g4, hty, (fun h => by cases h), (fun h => by cases h), fun _ => Or.inl ⟨_, rfl⟩, hfin⟩
    · rename_i nm hty
      have hz := of_decide_eq_true h3
      subst hz
      exact ⟨r, _, g1, g2, g3, g4, hty, (fun h => by cases h), (fun h => by cases h), fun _ => Or.inr ⟨_, rfl⟩, hfin⟩
    · cases h3
  case getstatic i =>
    simp only [v_eb, Bool.and_eq_true, Bool.or_eq_true, beq_iff_eq] at h
    obtain ⟨h1, h2⟩ := h
    refine ⟨h1, ?_⟩
    rcases h2 with h2 | h2
    · obtain ⟨r, hr, hr2⟩ := List.any_eq_true.mp h2
      have hm := v_all16 v_gs_c ho hr
      simp only [beq_iff_eq] at hr2
      subst hr2
      refine Or.inl ?_
      rw [how]
      exact v_at_mem hm
    · obtain ⟨r, hr, hr2⟩ := List.any_eq_true.mp h2
      have hm := v_all16 (g := fun o (r : Nat × String × Nat) => decide (r.1 = v_zt.2.2.2.2.1) && decide (v_own o = v_zt.2.2.2.1)) v_gn_c ho hr
      simp only [beq_iff_eq] at hr2
      subst hr2
      simp only [Bool.and_eq_true, decide_eq_true_eq] at hm
      exact Or.inr ⟨by rw [how]; exact hm.2, hm.1⟩
  case new i =>
    simp only [v_eb, Bool.and_eq_true, decide_eq_true_eq] at h
    obtain ⟨h1, h2⟩ := h
    obtain ⟨g, hg, hl⟩ := v_kl_ok ho how (by simpa only [Bool.and_eq_true] using h1)
    obtain ⟨r', ty, k1, k2, k3, k4, k5⟩ := v_new_ok a h2
    obtain ⟨r2, l1, l2, l3, l4, l5⟩ := v_new_ok2 a h2
    have e1 : r' = g := Option.some.inj (k1.symm.trans hg)
    have e2 : r2 = g := Option.some.inj (l1.symm.trans hg)
    subst e1; subst e2
    exact ⟨_, ty, hg, hl, l2, l3, k2, l4, l5, k3⟩
  case newarray t =>
    cases t <;> simp only [v_eb, beq_iff_eq] at h <;> first | (cases h; done) | exact ⟨Or.inl ⟨h, rfl⟩, v_at_mem ap1⟩ | exact ⟨Or.inr ⟨h, rfl⟩, v_at_mem ap2⟩
  case anewarray i =>
    obtain ⟨g, hg, hl⟩ := v_kl_ok ho how h
    have : g.1 = v_LK := by cases hg; rfl
    rw [this] at hl
    exact hl
  case aastore =>
    simp only [v_eb, beq_iff_eq] at h
    subst h
    exact ⟨_, rfl, rfl⟩
  case invokestatic i =>
    obtain ⟨h1, h2, r, h3, h4⟩ := v_cab_ok ho how h
    exact ⟨h1, (v_kind h2 h3).1 h4⟩
  case invokevirtual i =>
    simp only [v_eb, Bool.and_eq_true, decide_eq_true_eq] at h
    obtain ⟨⟨hc, hz⟩, hm⟩ := h
    obtain ⟨h1, h2, r, h3, h4⟩ := v_cab_ok ho how hc
    obtain ⟨o2, r2, k1, k2, k3⟩ := v_cls a (by omega)
    rw [k1] at hm
    have hm : o2 = z.toNat := of_decide_eq_true hm
    obtain ⟨g, hg, hg1⟩ := v_clname z.toNat hz
    have := (v_kind h2 h3).2.1 h4
    exact ⟨h1, this.1, this.2, g, hg, by rw [k3, hm]; exact hg1⟩
  case invokespecial i =>
    by_cases ha : a = vi_O
    · dsimp only [v_eb] at h
      rw [if_pos ha] at h
      simp only [Bool.and_eq_true, decide_eq_true_eq] at h
      obtain ⟨h1, h2⟩ := h
      obtain ⟨r, hr, hr2⟩ := List.any_eq_true.mp h1
      have hm := v_all16 v_ol_c ho hr
      simp only [beq_iff_eq] at hr2
      subst hr2
      dsimp only [vi_okE]
      rw [if_pos ha, how]
      exact ⟨v_at_mem hm, v_at_mem ap4, v_at_mem ap5, h2⟩
    · dsimp only [v_eb] at h
      rw [if_neg ha] at h
      dsimp only [vi_okE]
      rw [if_neg ha]
      obtain ⟨h1, h2, r, h3, h4⟩ := v_cab_ok ho how h
      have := (v_kind h2 h3).2.2 h4
      exact ⟨h1, this.2.2, this.2.1, this.1⟩
  case ireturn =>
    dsimp only [v_eb] at h
    split at h
    · rename_i hz
      exact ⟨fun _ => of_decide_eq_true h, fun g => absurd hz g⟩
    · rename_i hz
      exact ⟨fun g => absurd g hz, fun _ => of_decide_eq_true h⟩
  case lreturn => exact of_decide_eq_true (p := q.2.2.2.1 = some .long) h
  case areturn =>
    dsimp only [v_eb] at h
    split at h
    · rename_i hrt; exact ⟨_, hrt, Or.inl ⟨_, rfl⟩⟩
    · rename_i hrt; exact ⟨_, hrt, Or.inr ⟨_, rfl⟩⟩
    · cases h
  case return_ => exact of_decide_eq_true (p := q.2.2.2.1 = none) h
  all_goals trivial
theorem v_hd {cs : List vi_En} {n : Nat} (h1 : (match cs with | [] => true | E2 :: _ => E2.1 == n) = true) : ∀ E2, cs.head? = some E2 → E2.1 = n := by
  intro E2 hE2
  cases cs with
  | nil => cases hE2
  | cons E3 cs =>
    cases hE2
    simpa using h1
theorem v_decb_ok {cc : ByteArray} {E : vi_En} {cs : List vi_En} (h : v_decb cc E cs = true) : vi_dec cc E cs := by
  obtain ⟨pc, ins, a, b, z⟩ := E
  cases ins
  case tableswitch d lo hi offs =>
    dsimp only [v_decb] at h
    split at h
    · rename_i ins len hd
      have h := of_decide_eq_true h
      subst h
      exact ⟨len, hd⟩
    · cases h
  all_goals
    simp only [v_decb, Bool.and_eq_true, decide_eq_true_eq] at h
    exact ⟨h.1, v_hd h.2⟩
theorem v_okb_ok {q : vi_Mt} {o : Nat} (ho : o < 16) (how : q.1.cls = v_own o) : ∀ cs : List vi_En, v_okb q.2.1 o q.2.2.2.2 q.2.2.2.1 (decide (q.1.name = "<init>")) cs = true → vi_okL (vi_okE v_cl v_Ts v_zt v_LK v_nf v_mt q) q.2.1 cs
  | [], _ => trivial
  | E :: cs, h => by
    simp only [v_okb, Bool.and_eq_true] at h
    exact ⟨v_decb_ok h.1, v_eb_ok ho how h.2.1, v_okb_ok ho how cs h.2.2⟩
theorem v_okL_drop {ok : vi_En → Prop} {cc : ByteArray} (f : vi_En → Bool) : ∀ cs : List vi_En, vi_okL ok cc cs → vi_okL ok cc (cs.dropWhile f)
  | [], _ => trivial
  | E :: cs, h => by
    rw [List.dropWhile_cons]
    split
    · exact v_okL_drop f cs h.2.2
    · exact h
theorem v_okB : vi_okB v_cl v_Ts v_zt v_LK v_nf v_mt v_B := by
  intro k t
  by_cases hk : k < 232
  · obtain ⟨o, r, h1, h2, h3⟩ := v_cls k hk
    have hc := v_chk_all k hk
    unfold v_chk at hc
    rw [h1] at hc
    refine ⟨v_okL_drop _ _ (v_okb_ok h2 h3 _ hc), fun E hE => ?_⟩
    have := List.head?_dropWhile_not (fun E : vi_En => E.1 != t) (v_code k)
    unfold v_B at hE
    rw [hE] at this
    simpa using this
  · have : v_code k = [] := by
      unfold v_code
      rw [List.getD_eq_getElem?_getD, List.getElem?_eq_none (by show 232 ≤ k; omega)]
      rfl
    unfold v_B
    rw [this]
    exact ⟨trivial, fun E hE => by cases hE⟩
