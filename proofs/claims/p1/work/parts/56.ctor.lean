/-! The constructors, by computing: a run that reads no outside array is the same whatever these are. -/
theorem vi_stp_X {X : vi_Ex} {nf : Nat → List (Option Value)} {E : vi_En} {ls : vi_Ls} {st : List Value} {S : vi_Me} {r : vi_Ac} (hs : vi_stp (fun _ => none) nf E ls st S = some r) : vi_stp X nf E ls st S = some r := by
  obtain ⟨pc, ins, a, b, z⟩ := E
  have h1 : ∀ n t i x, vi_ald (fun _ => none) S n t i = some x → vi_ald X S n t i = some x := by
    intro n t i x h
    unfold vi_ald at h ⊢
    split at h
    · exact h
    · cases h
    · cases h
  have h2 : ∀ n L, vi_len (fun _ => none) S n = some L → vi_len X S n = some L := by
    intro n L h
    unfold vi_len at h ⊢
    split at h
    · exact h
    · exact h
    · cases h
    · cases h
  cases ins
  case iaload =>
    unfold vi_stp at hs ⊢
    dsimp only at hs ⊢
    split at hs
    · split at hs
      · rename_i hv
        rw [h1 _ _ _ _ hv]
        exact hs
      · cases hs
    · cases hs
  case baload =>
    unfold vi_stp at hs ⊢
    dsimp only at hs ⊢
    split at hs
    · split at hs
      · rename_i hv
        rw [h1 _ _ _ _ hv]
        exact hs
      · cases hs
    · cases hs
  case arraylength =>
    unfold vi_stp at hs ⊢
    dsimp only at hs ⊢
    split at hs
    · split at hs
      · rename_i hv
        rw [h2 _ _ hv]
        exact hs
      · cases hs
    · cases hs
  all_goals exact hs
theorem vi_R_X {X : vi_Ex} {nf : Nat → List (Option Value)} {B : Nat → Nat → List vi_En} {nl : Nat → Nat} : ∀ (n k : Nat) (cs : List vi_En) (ls : vi_Ls) (st : List Value) (S : vi_Me) (r : Option Value × vi_Me), vi_R (fun _ => none) nf B nl n k cs ls st S = some r → vi_R X nf B nl n k cs ls st S = some r := by
  intro n
  induction n with
  | zero => intro k cs ls st S r h; simp [vi_R] at h
  | succ n ih =>
    intro k cs ls st S r h
    cases cs with
    | nil => simp [vi_R] at h
    | cons E cs =>
      rw [vi_R] at h ⊢
      cases hs : vi_stp (fun _ => none) nf E ls st S with
      | none => rw [hs] at h; cases h
      | some a =>
        rw [hs] at h
        rw [vi_stp_X hs]
        match a, h with
        | .inl (none, ls', st', S'), h => exact ih _ _ _ _ _ _ h
        | .inl (some t, ls', st', S'), h => exact ih _ _ _ _ _ _ h
        | .inr (.inl (k', as, ls', st', S')), h =>
          dsimp only at h ⊢
          split at h
          · rename_i hf
            rw [if_pos hf]
            split at h
            · cases h
            · rename_i v S2 h1
              rw [ih _ _ _ _ _ _ h1]
              exact ih _ _ _ _ _ _ h
          · cases h
        | .inr (.inr r), h => exact h
def v_S1 : vi_Me := ([.inr (.inl (0, v_nf 0))], vi_row (fun _ _ => 0) 0 (fun _ => 0))
def v_run0 : Option (Option Value × vi_Me) := vi_R (fun _ => none) v_nf v_B (vi_nl v_mt) 300 0 (v_B 0 0) (vi_ent (vi_nl v_mt 0) [.ref 0]) [] v_S1
def v_S2 : vi_Me := match v_run0 with
  | some (_, S) => S
  | none => ([], fun _ _ => 0)
theorem v_run0_c : (match v_run0 with | some (none, _) => true | _ => false) = true := by decide +kernel
theorem v_run0_ok : v_run0 = some (none, v_S2) := by
  have h := v_run0_c
  unfold v_S2
  split at h
  · rename_i S hS
    rw [hS]
  · cases h
theorem v_S2_len : v_S2.1.length = 54 := by decide +kernel
def v_S3 : vi_Me := (v_S2.1 ++ [.inr (.inl (12, v_nf 12))], vi_row v_S2.2 54 (fun _ => 0))
def v_run1 : Option (Option Value × vi_Me) := vi_R (fun _ => none) v_nf v_B (vi_nl v_mt) 300 149 (v_B 149 0) (vi_ent (vi_nl v_mt 149) [.ref 54]) [] v_S3
def v_S4 : vi_Me := match v_run1 with
  | some (_, S) => S
  | none => ([], fun _ _ => 0)
theorem v_run1_c : (match v_run1 with | some (none, _) => true | _ => false) = true := by decide +kernel
theorem v_run1_ok : v_run1 = some (none, v_S4) := by
  have h := v_run1_c
  unfold v_S4
  split at h
  · rename_i S hS
    rw [hS]
  · cases h
