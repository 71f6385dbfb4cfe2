/-! RULES: what a piece of code comes to, an iff for each instruction; nothing here has a lambda behind it, so that simp doesn't run ahead. -/
def vw (X : vi_Ex) (k : Nat) (cs : List vi_En) (ls : vi_Ls) (st : List Value) (S : vi_Me) (post : Option Value → vi_Me → Prop) : Prop := ∃ (n : Nat) (v : Option Value) (S' : vi_Me), vi_R X v_nf v_B (vi_nl v_mt) n k cs ls st S = some (v, S') ∧ post v S'
def vo (X : vi_Ex) (k : Nat) (as : List Value) (S : vi_Me) (post : Option Value → vi_Me → Prop) : Prop := (vi_arg as).length ≤ vi_nl v_mt k ∧ vw X k (v_B k 0) (vi_ent (vi_nl v_mt k) as) [] S post
def vkt (X : vi_Ex) (k : Nat) (cs : List vi_En) (ls : vi_Ls) (st : List Value) (post : Option Value → vi_Me → Prop) (v : Option Value) (S : vi_Me) : Prop := vw X k cs ls (v.toList ++ st) S post
theorem vi_R_up {X : vi_Ex} {nf : Nat → List (Option Value)} {B : Nat → Nat → List vi_En} {nl : Nat → Nat} : ∀ (n k : Nat) (cs : List vi_En) (ls : vi_Ls) (st : List Value) (S : vi_Me) (r : Option Value × vi_Me), vi_R X nf B nl n k cs ls st S = some r → vi_R X nf B nl (n + 1) k cs ls st S = some r := by
  intro n
  induction n with
  | zero => intro k cs ls st S r h; simp [vi_R] at h
  | succ n ih =>
    intro k cs ls st S r h
    cases cs with
    | nil => simp [vi_R] at h
    | cons E cs =>
      rw [vi_R] at h ⊢
      cases hs : vi_stp X nf E ls st S with
      | none => rw [hs] at h; cases h
      | some a =>
        rw [hs] at h
        match a, h with
        | .inl (none, ls', st', S'), h => exact ih _ _ _ _ _ _ h
        | .inl (some t, ls', st', S'), h => exact ih _ _ _ _ _ _ h
        | .inr (.inl (k', as, ls', st', S')), h =>
          dsimp only at h ⊢
          split at h
          · rename_i hf
            rw [if_pos hf]
            split at h
            · cases h
            · rename_i v S2 h1
              rw [ih _ _ _ _ _ _ h1]
              exact ih _ _ _ _ _ _ h
          · cases h
        | .inr (.inr r), h => exact h
theorem vi_R_le2 {X : vi_Ex} {nf : Nat → List (Option Value)} {B : Nat → Nat → List vi_En} {nl : Nat → Nat} {n m k : Nat} {cs : List vi_En} {ls : vi_Ls} {st : List Value} {S : vi_Me} {r : Option Value × vi_Me} (hnm : n ≤ m) (h : vi_R X nf B nl n k cs ls st S = some r) : vi_R X nf B nl m k cs ls st S = some r := by
  induction hnm with
  | refl => exact h
  | step _ ih => exact vi_R_up _ _ _ _ _ _ _ ih
section VW
variable {X : vi_Ex} {k : Nat} {cs : List vi_En} {ls : vi_Ls} {st : List Value} {S : vi_Me} {post : Option Value → vi_Me → Prop}
theorem vw_go {E : vi_En} {ls' : vi_Ls} {st' : List Value} {S' : vi_Me} (h : vi_stp X v_nf E ls st S = some (.inl (none, ls', st', S'))) : vw X k (E :: cs) ls st S post ↔ vw X k cs ls' st' S' post := by
  constructor
  · rintro ⟨n, v, S2, h1, h2⟩
    cases n with
    | zero => simp [vi_R] at h1
    | succ n => rw [vi_R, h] at h1; exact ⟨n, v, S2, h1, h2⟩
  · rintro ⟨n, v, S2, h1, h2⟩
    exact ⟨n + 1, v, S2, by rw [vi_R, h]; exact h1, h2⟩
theorem vw_jump {E : vi_En} {t : Nat} {ls' : vi_Ls} {st' : List Value} {S' : vi_Me} (h : vi_stp X v_nf E ls st S = some (.inl (some t, ls', st', S'))) : vw X k (E :: cs) ls st S post ↔ vw X k (v_B k t) ls' st' S' post := by
  constructor
  · rintro ⟨n, v, S2, h1, h2⟩
    cases n with
    | zero => simp [vi_R] at h1
    | succ n => rw [vi_R, h] at h1; exact ⟨n, v, S2, h1, h2⟩
  · rintro ⟨n, v, S2, h1, h2⟩
    exact ⟨n + 1, v, S2, by rw [vi_R, h]; exact h1, h2⟩
theorem vw_ret {E : vi_En} {v0 : Option Value} {S' : vi_Me} (h : vi_stp X v_nf E ls st S = some (.inr (.inr (v0, S')))) : vw X k (E :: cs) ls st S post ↔ post v0 S' := by
  constructor
  · rintro ⟨n, v, S2, h1, h2⟩
    cases n with
    | zero => simp [vi_R] at h1
    | succ n => rw [vi_R, h] at h1; cases h1; exact h2
  · intro h2
    exact ⟨1, v0, S', by rw [vi_R, h], h2⟩
theorem vw_no {E : vi_En} (h : vi_stp X v_nf E ls st S = none) : vw X k (E :: cs) ls st S post ↔ False := by
  constructor
  · rintro ⟨n, v, S2, h1, h2⟩
    cases n with
    | zero => simp [vi_R] at h1
    | succ n => rw [vi_R, h] at h1; cases h1
  · intro h; cases h
theorem vw_call {E : vi_En} {k' : Nat} {as : List Value} {ls' : vi_Ls} {st' : List Value} {S' : vi_Me} (h : vi_stp X v_nf E ls st S = some (.inr (.inl (k', as, ls', st', S')))) : vw X k (E :: cs) ls st S post ↔ vo X k' as S' (vkt X k cs ls' st' post) := by
  constructor
  · rintro ⟨n, v, S2, h1, h2⟩
    cases n with
    | zero => simp [vi_R] at h1
    | succ n =>
      rw [vi_R, h] at h1
      dsimp only at h1
      split at h1
      · rename_i hf
        split at h1
        · cases h1
        · rename_i v1 S1 h3
          exact ⟨hf, n, v1, S1, h3, n, v, S2, h1, h2⟩
      · cases h1
  · rintro ⟨hf, n, v1, S1, h3, m, v, S2, h1, h2⟩
    refine ⟨max n m + 1, v, S2, ?_, h2⟩
    rw [vi_R, h]
    dsimp only
    rw [if_pos hf, vi_R_le2 (Nat.le_max_left n m) h3]
    exact vi_R_le2 (Nat.le_max_right n m) h1
theorem vw_mono {post' : Option Value → vi_Me → Prop} (h : vw X k cs ls st S post) (hp : ∀ v S', post v S' → post' v S') : vw X k cs ls st S post' := by
  obtain ⟨n, v, S2, h1, h2⟩ := h
  exact ⟨n, v, S2, h1, hp _ _ h2⟩
theorem vo_mono {as : List Value} {post' : Option Value → vi_Me → Prop} (h : vo X k as S post) (hp : ∀ v S', post v S' → post' v S') : vo X k as S post' := ⟨h.1, vw_mono h.2 hp⟩
/-- an exact contract out of an implication: the machine is a function -/
theorem vo_iff {as : List Value} {v0 : Option Value} {S' : vi_Me} (h : vo X k as S (fun v S2 => v = v0 ∧ S2 = S')) : vo X k as S post ↔ post v0 S' := by
  obtain ⟨hf, n, v, S2, h1, rfl, rfl⟩ := h
  constructor
  · rintro ⟨-, m, v1, S1, h3, h4⟩
    have e1 := vi_R_le2 (Nat.le_max_left n m) h1
    have e2 := vi_R_le2 (Nat.le_max_right n m) h3
    rw [e1] at e2
    cases e2
    exact h4
  · intro h4
    exact ⟨hf, n, v, S2, h1, h4⟩
theorem vkt_v {v : Value} : vkt X k cs ls st post (some v) S ↔ vw X k cs ls (v :: st) S post := Iff.rfl
theorem vkt_n : vkt X k cs ls st post none S ↔ vw X k cs ls st S post := Iff.rfl
/-- what a look-up comes to -/
def vg (o : Option Value) (X : vi_Ex) (k : Nat) (cs : List vi_En) (ls : vi_Ls) (st : List Value) (S : vi_Me) (post : Option Value → vi_Me → Prop) : Prop := match o with
  | some v => vw X k cs ls (v :: st) S post
  | none => False
theorem vg_some {v : Value} : vg (some v) X k cs ls st S post ↔ vw X k cs ls (v :: st) S post := Iff.rfl
def vgi (o : Option Int32) (X : vi_Ex) (k : Nat) (cs : List vi_En) (ls : vi_Ls) (st : List Value) (S : vi_Me) (post : Option Value → vi_Me → Prop) : Prop := match o with
  | some v => vw X k cs ls (.int v :: st) S post
  | none => False
theorem vgi_some {v : Int32} : vgi (some v) X k cs ls st S post ↔ vw X k cs ls (.int v :: st) S post := Iff.rfl
theorem vgi_if {c : Prop} [Decidable c] {v : Int32} : vgi (if c then some v else none) X k cs ls st S post ↔ c ∧ vw X k cs ls (.int v :: st) S post := by
  by_cases h : c <;> simp [h, vgi]
def vps (o : Option vi_Me) (X : vi_Ex) (k : Nat) (cs : List vi_En) (ls : vi_Ls) (st : List Value) (post : Option Value → vi_Me → Prop) : Prop := match o with
  | some S => vw X k cs ls st S post
  | none => False
theorem vps_some : vps (some S) X k cs ls st post ↔ vw X k cs ls st S post := Iff.rfl
theorem vps_if {c : Prop} [Decidable c] : vps (if c then some S else none) X k cs ls st post ↔ c ∧ vw X k cs ls st S post := by
  by_cases h : c <;> simp [h, vps]
def vcat (st : List Value) : Nat := (st.map fun v => v.category).sum
theorem vcat_nil : vcat [] = 0 := rfl
theorem vcat_i {x : Int32} {l : List Value} : vcat (.int x :: l) = vcat l + 1 := by simp [vcat, Value.category]; omega
theorem vcat_r {x : Nat} {l : List Value} : vcat (.ref x :: l) = vcat l + 1 := by simp [vcat, Value.category]; omega
theorem vcat_l {x : Int64} {l : List Value} : vcat (.long x :: l) = vcat l + 2 := by simp [vcat, Value.category]; omega
def vcl : Option Value → Option Value
  | some v => if v.category = 2 then none else some v
  | none => none
theorem vcl_n : vcl none = none := rfl
theorem vcl_i {x : Int32} : vcl (some (.int x)) = some (.int x) := rfl
theorem vcl_r {x : Nat} : vcl (some (.ref x)) = some (.ref x) := rfl
theorem vcl_l {x : Int64} : vcl (some (.long x)) = none := rfl
variable {pc a b i : Nat} {z off : Int}
def vi_aal (S : vi_Me) (n : Nat) (x : Int32) : Option Value := match S.1[n]? with
  | some (.inr (.inr l)) => if ¬ (x < 0 ∨ l.length ≤ x.toNatClampNeg) then (match l[x.toNatClampNeg]? with | some (some q) => some (.ref q) | _ => none) else none
  | _ => none
theorem vw_icm1 : vw X k ((pc, .iconst (-1), a, b, z) :: cs) ls st S post ↔ vw X k cs ls (.int (-1) :: st) S post := vw_go rfl
theorem vw_ic0 : vw X k ((pc, .iconst 0, a, b, z) :: cs) ls st S post ↔ vw X k cs ls (.int 0 :: st) S post := vw_go rfl
theorem vw_ic1 : vw X k ((pc, .iconst 1, a, b, z) :: cs) ls st S post ↔ vw X k cs ls (.int 1 :: st) S post := vw_go rfl
theorem vw_ic2 : vw X k ((pc, .iconst 2, a, b, z) :: cs) ls st S post ↔ vw X k cs ls (.int 2 :: st) S post := vw_go rfl
theorem vw_ic3 : vw X k ((pc, .iconst 3, a, b, z) :: cs) ls st S post ↔ vw X k cs ls (.int 3 :: st) S post := vw_go rfl
theorem vw_ic4 : vw X k ((pc, .iconst 4, a, b, z) :: cs) ls st S post ↔ vw X k cs ls (.int 4 :: st) S post := vw_go rfl
theorem vw_ic5 : vw X k ((pc, .iconst 5, a, b, z) :: cs) ls st S post ↔ vw X k cs ls (.int 5 :: st) S post := vw_go rfl
theorem vw_bi {n : Int} : vw X k ((pc, .bipush n, a, b, z) :: cs) ls st S post ↔ vw X k cs ls (.int (Int8.ofInt n).toInt32 :: st) S post := vw_go rfl
theorem vw_si {n : Int} : vw X k ((pc, .sipush n, a, b, z) :: cs) ls st S post ↔ vw X k cs ls (.int (Int16.ofInt n).toInt32 :: st) S post := vw_go rfl
theorem vw_lc {n : Fin 2} : vw X k ((pc, .lconst n, a, b, z) :: cs) ls st S post ↔ vw X k cs ls (.long (Int64.ofNat n) :: st) S post := vw_go rfl
theorem vw_ldc : vw X k ((pc, .ldc i, a, b, z) :: cs) ls st S post ↔ vw X k cs ls (.int (Int32.ofInt z) :: st) S post := vw_go rfl
theorem vw_ldc2 : vw X k ((pc, .ldc2_w i, a, b, z) :: cs) ls st S post ↔ vw X k cs ls (.long (Int64.ofInt z) :: st) S post := vw_go rfl
theorem vw_il0 {x : Int32} {l : List (Option Value)} : vw X k ((pc, .iload 0, a, b, z) :: cs) (some (.int x) :: l) st S post ↔ vw X k cs (some (.int x) :: l) (.int x :: st) S post := vw_go rfl
theorem vw_iln0 {x : Int32} {l : List (Option Value)} : vw X k ((pc, .iload_n 0, a, b, z) :: cs) (some (.int x) :: l) st S post ↔ vw X k cs (some (.int x) :: l) (.int x :: st) S post := vw_go rfl
theorem vw_is0 {y0 : Option Value} {x : Int32} {l : List (Option Value)} : vw X k ((pc, .istore 0, a, b, z) :: cs) (y0 :: l) (.int x :: st) S post ↔ vw X k cs (some (.int x) :: l) st S post := by
  refine vw_go ?_
  simp [vi_stp, vi_set, vi_clr, vi_get, vi_two, vcl, vi_on, Value.category, show ((3 : Fin 4) : Nat) = 3 from rfl]
theorem vw_isn0 {y0 : Option Value} {x : Int32} {l : List (Option Value)} : vw X k ((pc, .istore_n 0, a, b, z) :: cs) (y0 :: l) (.int x :: st) S post ↔ vw X k cs (some (.int x) :: l) st S post := by
  refine vw_go ?_
  simp [vi_stp, vi_set, vi_clr, vi_get, vi_two, vcl, vi_on, Value.category, show ((3 : Fin 4) : Nat) = 3 from rfl]
theorem vw_il1 {y0 : Option Value} {x : Int32} {l : List (Option Value)} : vw X k ((pc, .iload 1, a, b, z) :: cs) (y0 :: some (.int x) :: l) st S post ↔ vw X k cs (y0 :: some (.int x) :: l) (.int x :: st) S post := vw_go rfl
theorem vw_iln1 {y0 : Option Value} {x : Int32} {l : List (Option Value)} : vw X k ((pc, .iload_n 1, a, b, z) :: cs) (y0 :: some (.int x) :: l) st S post ↔ vw X k cs (y0 :: some (.int x) :: l) (.int x :: st) S post := vw_go rfl
theorem vw_is1 {y0 y1 : Option Value} {x : Int32} {l : List (Option Value)} : vw X k ((pc, .istore 1, a, b, z) :: cs) (y0 :: y1 :: l) (.int x :: st) S post ↔ vw X k cs ((vcl y0) :: some (.int x) :: l) st S post := by
  refine vw_go ?_
  cases y0 with
  | none => simp [vi_stp, vi_set, vi_clr, vi_get, vi_two, vcl, vi_on, Value.category, show ((3 : Fin 4) : Nat) = 3 from rfl]
  | some w => cases w <;> simp [vi_stp, vi_set, vi_clr, vi_get, vi_two, vcl, vi_on, Value.category, show ((3 : Fin 4) : Nat) = 3 from rfl]
theorem vw_isn1 {y0 y1 : Option Value} {x : Int32} {l : List (Option Value)} : vw X k ((pc, .istore_n 1, a, b, z) :: cs) (y0 :: y1 :: l) (.int x :: st) S post ↔ vw X k cs ((vcl y0) :: some (.int x) :: l) st S post := by
  refine vw_go ?_
  cases y0 with
  | none => simp [vi_stp, vi_set, vi_clr, vi_get, vi_two, vcl, vi_on, Value.category, show ((3 : Fin 4) : Nat) = 3 from rfl]
  | some w => cases w <;> simp [vi_stp, vi_set, vi_clr, vi_get, vi_two, vcl, vi_on, Value.category, show ((3 : Fin 4) : Nat) = 3 from rfl]
theorem vw_il2 {y0 y1 : Option Value} {x : Int32} {l : List (Option Value)} : vw X k ((pc, .iload 2, a, b, z) :: cs) (y0 :: y1 :: some (.int x) :: l) st S post ↔ vw X k cs (y0 :: y1 :: some (.int x) :: l) (.int x :: st) S post := vw_go rfl
theorem vw_iln2 {y0 y1 : Option Value} {x : Int32} {l : List (Option Value)} : vw X k ((pc, .iload_n 2, a, b, z) :: cs) (y0 :: y1 :: some (.int x) :: l) st S post ↔ vw X k cs (y0 :: y1 :: some (.int x) :: l) (.int x :: st) S post := vw_go rfl
theorem vw_is2 {y0 y1 y2 : Option Value} {x : Int32} {l : List (Option Value)} : vw X k ((pc, .istore 2, a, b, z) :: cs) (y0 :: y1 :: y2 :: l) (.int x :: st) S post ↔ vw X k cs (y0 :: (vcl y1) :: some (.int x) :: l) st S post := by
  refine vw_go ?_
  cases y1 with
  | none => simp [vi_stp, vi_set, vi_clr, vi_get, vi_two, vcl, vi_on, Value.category, show ((3 : Fin 4) : Nat) = 3 from rfl]
  | some w => cases w <;> simp [vi_stp, vi_set, vi_clr, vi_get, vi_two, vcl, vi_on, Value.category, show ((3 : Fin 4) : Nat) = 3 from rfl]
theorem vw_isn2 {y0 y1 y2 : Option Value} {x : Int32} {l : List (Option Value)} : vw X k ((pc, .istore_n 2, a, b, z) :: cs) (y0 :: y1 :: y2 :: l) (.int x :: st) S post ↔ vw X k cs (y0 :: (vcl y1) :: some (.int x) :: l) st S post := by
  refine vw_go ?_
  cases y1 with
  | none => simp [vi_stp, vi_set, vi_clr, vi_get, vi_two, vcl, vi_on, Value.category, show ((3 : Fin 4) : Nat) = 3 from rfl]
  | some w => cases w <;> simp [vi_stp, vi_set, vi_clr, vi_get, vi_two, vcl, vi_on, Value.category, show ((3 : Fin 4) : Nat) = 3 from rfl]
theorem vw_il3 {y0 y1 y2 : Option Value} {x : Int32} {l : List (Option Value)} : vw X k ((pc, .iload 3, a, b, z) :: cs) (y0 :: y1 :: y2 :: some (.int x) :: l) st S post ↔ vw X k cs (y0 :: y1 :: y2 :: some (.int x) :: l) (.int x :: st) S post := vw_go rfl
theorem vw_iln3 {y0 y1 y2 : Option Value} {x : Int32} {l : List (Option Value)} : vw X k ((pc, .iload_n 3, a, b, z) :: cs) (y0 :: y1 :: y2 :: some (.int x) :: l) st S post ↔ vw X k cs (y0 :: y1 :: y2 :: some (.int x) :: l) (.int x :: st) S post := vw_go rfl
theorem vw_is3 {y0 y1 y2 y3 : Option Value} {x : Int32} {l : List (Option Value)} : vw X k ((pc, .istore 3, a, b, z) :: cs) (y0 :: y1 :: y2 :: y3 :: l) (.int x :: st) S post ↔ vw X k cs (y0 :: y1 :: (vcl y2) :: some (.int x) :: l) st S post := by
  refine vw_go ?_
  cases y2 with
  | none => simp [vi_stp, vi_set, vi_clr, vi_get, vi_two, vcl, vi_on, Value.category, show ((3 : Fin 4) : Nat) = 3 from rfl]
  | some w => cases w <;> simp [vi_stp, vi_set, vi_clr, vi_get, vi_two, vcl, vi_on, Value.category, show ((3 : Fin 4) : Nat) = 3 from rfl]
theorem vw_isn3 {y0 y1 y2 y3 : Option Value} {x : Int32} {l : List (Option Value)} : vw X k ((pc, .istore_n 3, a, b, z) :: cs) (y0 :: y1 :: y2 :: y3 :: l) (.int x :: st) S post ↔ vw X k cs (y0 :: y1 :: (vcl y2) :: some (.int x) :: l) st S post := by
  refine vw_go ?_
  cases y2 with
  | none => simp [vi_stp, vi_set, vi_clr, vi_get, vi_two, vcl, vi_on, Value.category, show ((3 : Fin 4) : Nat) = 3 from rfl]
  | some w => cases w <;> simp [vi_stp, vi_set, vi_clr, vi_get, vi_two, vcl, vi_on, Value.category, show ((3 : Fin 4) : Nat) = 3 from rfl]
theorem vw_il4 {y0 y1 y2 y3 : Option Value} {x : Int32} {l : List (Option Value)} : vw X k ((pc, .iload 4, a, b, z) :: cs) (y0 :: y1 :: y2 :: y3 :: some (.int x) :: l) st S post ↔ vw X k cs (y0 :: y1 :: y2 :: y3 :: some (.int x) :: l) (.int x :: st) S post := vw_go rfl
theorem vw_is4 {y0 y1 y2 y3 y4 : Option Value} {x : Int32} {l : List (Option Value)} : vw X k ((pc, .istore 4, a, b, z) :: cs) (y0 :: y1 :: y2 :: y3 :: y4 :: l) (.int x :: st) S post ↔ vw X k cs (y0 :: y1 :: y2 :: (vcl y3) :: some (.int x) :: l) st S post := by
  refine vw_go ?_
  cases y3 with
  | none => simp [vi_stp, vi_set, vi_clr, vi_get, vi_two, vcl, vi_on, Value.category, show ((3 : Fin 4) : Nat) = 3 from rfl]
  | some w => cases w <;> simp [vi_stp, vi_set, vi_clr, vi_get, vi_two, vcl, vi_on, Value.category, show ((3 : Fin 4) : Nat) = 3 from rfl]
theorem vw_il5 {y0 y1 y2 y3 y4 : Option Value} {x : Int32} {l : List (Option Value)} : vw X k ((pc, .iload 5, a, b, z) :: cs) (y0 :: y1 :: y2 :: y3 :: y4 :: some (.int x) :: l) st S post ↔ vw X k cs (y0 :: y1 :: y2 :: y3 :: y4 :: some (.int x) :: l) (.int x :: st) S post := vw_go rfl
theorem vw_is5 {y0 y1 y2 y3 y4 y5 : Option Value} {x : Int32} {l : List (Option Value)} : vw X k ((pc, .istore 5, a, b, z) :: cs) (y0 :: y1 :: y2 :: y3 :: y4 :: y5 :: l) (.int x :: st) S post ↔ vw X k cs (y0 :: y1 :: y2 :: y3 :: (vcl y4) :: some (.int x) :: l) st S post := by
  refine vw_go ?_
  cases y4 with
  | none => simp [vi_stp, vi_set, vi_clr, vi_get, vi_two, vcl, vi_on, Value.category, show ((3 : Fin 4) : Nat) = 3 from rfl]
  | some w => cases w <;> simp [vi_stp, vi_set, vi_clr, vi_get, vi_two, vcl, vi_on, Value.category, show ((3 : Fin 4) : Nat) = 3 from rfl]
theorem vw_il6 {y0 y1 y2 y3 y4 y5 : Option Value} {x : Int32} {l : List (Option Value)} : vw X k ((pc, .iload 6, a, b, z) :: cs) (y0 :: y1 :: y2 :: y3 :: y4 :: y5 :: some (.int x) :: l) st S post ↔ vw X k cs (y0 :: y1 :: y2 :: y3 :: y4 :: y5 :: some (.int x) :: l) (.int x :: st) S post := vw_go rfl
theorem vw_is6 {y0 y1 y2 y3 y4 y5 y6 : Option Value} {x : Int32} {l : List (Option Value)} : vw X k ((pc, .istore 6, a, b, z) :: cs) (y0 :: y1 :: y2 :: y3 :: y4 :: y5 :: y6 :: l) (.int x :: st) S post ↔ vw X k cs (y0 :: y1 :: y2 :: y3 :: y4 :: (vcl y5) :: some (.int x) :: l) st S post := by
  refine vw_go ?_
  cases y5 with
  | none => simp [vi_stp, vi_set, vi_clr, vi_get, vi_two, vcl, vi_on, Value.category, show ((3 : Fin 4) : Nat) = 3 from rfl]
  | some w => cases w <;> simp [vi_stp, vi_set, vi_clr, vi_get, vi_two, vcl, vi_on, Value.category, show ((3 : Fin 4) : Nat) = 3 from rfl]
theorem vw_il7 {y0 y1 y2 y3 y4 y5 y6 : Option Value} {x : Int32} {l : List (Option Value)} : vw X k ((pc, .iload 7, a, b, z) :: cs) (y0 :: y1 :: y2 :: y3 :: y4 :: y5 :: y6 :: some (.int x) :: l) st S post ↔ vw X k cs (y0 :: y1 :: y2 :: y3 :: y4 :: y5 :: y6 :: some (.int x) :: l) (.int x :: st) S post := vw_go rfl
theorem vw_is7 {y0 y1 y2 y3 y4 y5 y6 y7 : Option Value} {x : Int32} {l : List (Option Value)} : vw X k ((pc, .istore 7, a, b, z) :: cs) (y0 :: y1 :: y2 :: y3 :: y4 :: y5 :: y6 :: y7 :: l) (.int x :: st) S post ↔ vw X k cs (y0 :: y1 :: y2 :: y3 :: y4 :: y5 :: (vcl y6) :: some (.int x) :: l) st S post := by
  refine vw_go ?_
  cases y6 with
  | none => simp [vi_stp, vi_set, vi_clr, vi_get, vi_two, vcl, vi_on, Value.category, show ((3 : Fin 4) : Nat) = 3 from rfl]
  | some w => cases w <;> simp [vi_stp, vi_set, vi_clr, vi_get, vi_two, vcl, vi_on, Value.category, show ((3 : Fin 4) : Nat) = 3 from rfl]
theorem vw_al0 {x : Nat} {l : List (Option Value)} : vw X k ((pc, .aload 0, a, b, z) :: cs) (some (.ref x) :: l) st S post ↔ vw X k cs (some (.ref x) :: l) (.ref x :: st) S post := vw_go rfl
theorem vw_aln0 {x : Nat} {l : List (Option Value)} : vw X k ((pc, .aload_n 0, a, b, z) :: cs) (some (.ref x) :: l) st S post ↔ vw X k cs (some (.ref x) :: l) (.ref x :: st) S post := vw_go rfl
theorem vw_as0 {y0 : Option Value} {x : Nat} {l : List (Option Value)} : vw X k ((pc, .astore 0, a, b, z) :: cs) (y0 :: l) (.ref x :: st) S post ↔ vw X k cs (some (.ref x) :: l) st S post := by
  refine vw_go ?_
  simp [vi_stp, vi_set, vi_clr, vi_get, vi_two, vcl, vi_on, Value.category, show ((3 : Fin 4) : Nat) = 3 from rfl]
theorem vw_asn0 {y0 : Option Value} {x : Nat} {l : List (Option Value)} : vw X k ((pc, .astore_n 0, a, b, z) :: cs) (y0 :: l) (.ref x :: st) S post ↔ vw X k cs (some (.ref x) :: l) st S post := by
  refine vw_go ?_
  simp [vi_stp, vi_set, vi_clr, vi_get, vi_two, vcl, vi_on, Value.category, show ((3 : Fin 4) : Nat) = 3 from rfl]
theorem vw_al1 {y0 : Option Value} {x : Nat} {l : List (Option Value)} : vw X k ((pc, .aload 1, a, b, z) :: cs) (y0 :: some (.ref x) :: l) st S post ↔ vw X k cs (y0 :: some (.ref x) :: l) (.ref x :: st) S post := vw_go rfl
theorem vw_aln1 {y0 : Option Value} {x : Nat} {l : List (Option Value)} : vw X k ((pc, .aload_n 1, a, b, z) :: cs) (y0 :: some (.ref x) :: l) st S post ↔ vw X k cs (y0 :: some (.ref x) :: l) (.ref x :: st) S post := vw_go rfl
theorem vw_as1 {y0 y1 : Option Value} {x : Nat} {l : List (Option Value)} : vw X k ((pc, .astore 1, a, b, z) :: cs) (y0 :: y1 :: l) (.ref x :: st) S post ↔ vw X k cs ((vcl y0) :: some (.ref x) :: l) st S post := by
  refine vw_go ?_
  cases y0 with
  | none => simp [vi_stp, vi_set, vi_clr, vi_get, vi_two, vcl, vi_on, Value.category, show ((3 : Fin 4) : Nat) = 3 from rfl]
  | some w => cases w <;> simp [vi_stp, vi_set, vi_clr, vi_get, vi_two, vcl, vi_on, Value.category, show ((3 : Fin 4) : Nat) = 3 from rfl]
theorem vw_asn1 {y0 y1 : Option Value} {x : Nat} {l : List (Option Value)} : vw X k ((pc, .astore_n 1, a, b, z) :: cs) (y0 :: y1 :: l) (.ref x :: st) S post ↔ vw X k cs ((vcl y0) :: some (.ref x) :: l) st S post := by
  refine vw_go ?_
  cases y0 with
  | none => simp [vi_stp, vi_set, vi_clr, vi_get, vi_two, vcl, vi_on, Value.category, show ((3 : Fin 4) : Nat) = 3 from rfl]
  | some w => cases w <;> simp [vi_stp, vi_set, vi_clr, vi_get, vi_two, vcl, vi_on, Value.category, show ((3 : Fin 4) : Nat) = 3 from rfl]
theorem vw_al2 {y0 y1 : Option Value} {x : Nat} {l : List (Option Value)} : vw X k ((pc, .aload 2, a, b, z) :: cs) (y0 :: y1 :: some (.ref x) :: l) st S post ↔ vw X k cs (y0 :: y1 :: some (.ref x) :: l) (.ref x :: st) S post := vw_go rfl
theorem vw_aln2 {y0 y1 : Option Value} {x : Nat} {l : List (Option Value)} : vw X k ((pc, .aload_n 2, a, b, z) :: cs) (y0 :: y1 :: some (.ref x) :: l) st S post ↔ vw X k cs (y0 :: y1 :: some (.ref x) :: l) (.ref x :: st) S post := vw_go rfl
theorem vw_as2 {y0 y1 y2 : Option Value} {x : Nat} {l : List (Option Value)} : vw X k ((pc, .astore 2, a, b, z) :: cs) (y0 :: y1 :: y2 :: l) (.ref x :: st) S post ↔ vw X k cs (y0 :: (vcl y1) :: some (.ref x) :: l) st S post := by
  refine vw_go ?_
  cases y1 with
  | none => simp [vi_stp, vi_set, vi_clr, vi_get, vi_two, vcl, vi_on, Value.category, show ((3 : Fin 4) : Nat) = 3 from rfl]
  | some w => cases w <;> simp [vi_stp, vi_set, vi_clr, vi_get, vi_two, vcl, vi_on, Value.category, show ((3 : Fin 4) : Nat) = 3 from rfl]
theorem vw_asn2 {y0 y1 y2 : Option Value} {x : Nat} {l : List (Option Value)} : vw X k ((pc, .astore_n 2, a, b, z) :: cs) (y0 :: y1 :: y2 :: l) (.ref x :: st) S post ↔ vw X k cs (y0 :: (vcl y1) :: some (.ref x) :: l) st S post := by
  refine vw_go ?_
  cases y1 with
  | none => simp [vi_stp, vi_set, vi_clr, vi_get, vi_two, vcl, vi_on, Value.category, show ((3 : Fin 4) : Nat) = 3 from rfl]
  | some w => cases w <;> simp [vi_stp, vi_set, vi_clr, vi_get, vi_two, vcl, vi_on, Value.category, show ((3 : Fin 4) : Nat) = 3 from rfl]
theorem vw_al3 {y0 y1 y2 : Option Value} {x : Nat} {l : List (Option Value)} : vw X k ((pc, .aload 3, a, b, z) :: cs) (y0 :: y1 :: y2 :: some (.ref x) :: l) st S post ↔ vw X k cs (y0 :: y1 :: y2 :: some (.ref x) :: l) (.ref x :: st) S post := vw_go rfl
theorem vw_aln3 {y0 y1 y2 : Option Value} {x : Nat} {l : List (Option Value)} : vw X k ((pc, .aload_n 3, a, b, z) :: cs) (y0 :: y1 :: y2 :: some (.ref x) :: l) st S post ↔ vw X k cs (y0 :: y1 :: y2 :: some (.ref x) :: l) (.ref x :: st) S post := vw_go rfl
theorem vw_as3 {y0 y1 y2 y3 : Option Value} {x : Nat} {l : List (Option Value)} : vw X k ((pc, .astore 3, a, b, z) :: cs) (y0 :: y1 :: y2 :: y3 :: l) (.ref x :: st) S post ↔ vw X k cs (y0 :: y1 :: (vcl y2) :: some (.ref x) :: l) st S post := by
  refine vw_go ?_
  cases y2 with
  | none => simp [vi_stp, vi_set, vi_clr, vi_get, vi_two, vcl, vi_on, Value.category, show ((3 : Fin 4) : Nat) = 3 from rfl]
  | some w => cases w <;> simp [vi_stp, vi_set, vi_clr, vi_get, vi_two, vcl, vi_on, Value.category, show ((3 : Fin 4) : Nat) = 3 from rfl]
theorem vw_asn3 {y0 y1 y2 y3 : Option Value} {x : Nat} {l : List (Option Value)} : vw X k ((pc, .astore_n 3, a, b, z) :: cs) (y0 :: y1 :: y2 :: y3 :: l) (.ref x :: st) S post ↔ vw X k cs (y0 :: y1 :: (vcl y2) :: some (.ref x) :: l) st S post := by
  refine vw_go ?_
  cases y2 with
  | none => simp [vi_stp, vi_set, vi_clr, vi_get, vi_two, vcl, vi_on, Value.category, show ((3 : Fin 4) : Nat) = 3 from rfl]
  | some w => cases w <;> simp [vi_stp, vi_set, vi_clr, vi_get, vi_two, vcl, vi_on, Value.category, show ((3 : Fin 4) : Nat) = 3 from rfl]
theorem vw_al4 {y0 y1 y2 y3 : Option Value} {x : Nat} {l : List (Option Value)} : vw X k ((pc, .aload 4, a, b, z) :: cs) (y0 :: y1 :: y2 :: y3 :: some (.ref x) :: l) st S post ↔ vw X k cs (y0 :: y1 :: y2 :: y3 :: some (.ref x) :: l) (.ref x :: st) S post := vw_go rfl
theorem vw_as4 {y0 y1 y2 y3 y4 : Option Value} {x : Nat} {l : List (Option Value)} : vw X k ((pc, .astore 4, a, b, z) :: cs) (y0 :: y1 :: y2 :: y3 :: y4 :: l) (.ref x :: st) S post ↔ vw X k cs (y0 :: y1 :: y2 :: (vcl y3) :: some (.ref x) :: l) st S post := by
  refine vw_go ?_
  cases y3 with
  | none => simp [vi_stp, vi_set, vi_clr, vi_get, vi_two, vcl, vi_on, Value.category, show ((3 : Fin 4) : Nat) = 3 from rfl]
  | some w => cases w <;> simp [vi_stp, vi_set, vi_clr, vi_get, vi_two, vcl, vi_on, Value.category, show ((3 : Fin 4) : Nat) = 3 from rfl]
theorem vw_al5 {y0 y1 y2 y3 y4 : Option Value} {x : Nat} {l : List (Option Value)} : vw X k ((pc, .aload 5, a, b, z) :: cs) (y0 :: y1 :: y2 :: y3 :: y4 :: some (.ref x) :: l) st S post ↔ vw X k cs (y0 :: y1 :: y2 :: y3 :: y4 :: some (.ref x) :: l) (.ref x :: st) S post := vw_go rfl
theorem vw_as5 {y0 y1 y2 y3 y4 y5 : Option Value} {x : Nat} {l : List (Option Value)} : vw X k ((pc, .astore 5, a, b, z) :: cs) (y0 :: y1 :: y2 :: y3 :: y4 :: y5 :: l) (.ref x :: st) S post ↔ vw X k cs (y0 :: y1 :: y2 :: y3 :: (vcl y4) :: some (.ref x) :: l) st S post := by
  refine vw_go ?_
  cases y4 with
  | none => simp [vi_stp, vi_set, vi_clr, vi_get, vi_two, vcl, vi_on, Value.category, show ((3 : Fin 4) : Nat) = 3 from rfl]
  | some w => cases w <;> simp [vi_stp, vi_set, vi_clr, vi_get, vi_two, vcl, vi_on, Value.category, show ((3 : Fin 4) : Nat) = 3 from rfl]
theorem vw_al6 {y0 y1 y2 y3 y4 y5 : Option Value} {x : Nat} {l : List (Option Value)} : vw X k ((pc, .aload 6, a, b, z) :: cs) (y0 :: y1 :: y2 :: y3 :: y4 :: y5 :: some (.ref x) :: l) st S post ↔ vw X k cs (y0 :: y1 :: y2 :: y3 :: y4 :: y5 :: some (.ref x) :: l) (.ref x :: st) S post := vw_go rfl
theorem vw_as6 {y0 y1 y2 y3 y4 y5 y6 : Option Value} {x : Nat} {l : List (Option Value)} : vw X k ((pc, .astore 6, a, b, z) :: cs) (y0 :: y1 :: y2 :: y3 :: y4 :: y5 :: y6 :: l) (.ref x :: st) S post ↔ vw X k cs (y0 :: y1 :: y2 :: y3 :: y4 :: (vcl y5) :: some (.ref x) :: l) st S post := by
  refine vw_go ?_
  cases y5 with
  | none => simp [vi_stp, vi_set, vi_clr, vi_get, vi_two, vcl, vi_on, Value.category, show ((3 : Fin 4) : Nat) = 3 from rfl]
  | some w => cases w <;> simp [vi_stp, vi_set, vi_clr, vi_get, vi_two, vcl, vi_on, Value.category, show ((3 : Fin 4) : Nat) = 3 from rfl]
theorem vw_al7 {y0 y1 y2 y3 y4 y5 y6 : Option Value} {x : Nat} {l : List (Option Value)} : vw X k ((pc, .aload 7, a, b, z) :: cs) (y0 :: y1 :: y2 :: y3 :: y4 :: y5 :: y6 :: some (.ref x) :: l) st S post ↔ vw X k cs (y0 :: y1 :: y2 :: y3 :: y4 :: y5 :: y6 :: some (.ref x) :: l) (.ref x :: st) S post := vw_go rfl
theorem vw_as7 {y0 y1 y2 y3 y4 y5 y6 y7 : Option Value} {x : Nat} {l : List (Option Value)} : vw X k ((pc, .astore 7, a, b, z) :: cs) (y0 :: y1 :: y2 :: y3 :: y4 :: y5 :: y6 :: y7 :: l) (.ref x :: st) S post ↔ vw X k cs (y0 :: y1 :: y2 :: y3 :: y4 :: y5 :: (vcl y6) :: some (.ref x) :: l) st S post := by
  refine vw_go ?_
  cases y6 with
  | none => simp [vi_stp, vi_set, vi_clr, vi_get, vi_two, vcl, vi_on, Value.category, show ((3 : Fin 4) : Nat) = 3 from rfl]
  | some w => cases w <;> simp [vi_stp, vi_set, vi_clr, vi_get, vi_two, vcl, vi_on, Value.category, show ((3 : Fin 4) : Nat) = 3 from rfl]
theorem vw_ll0 {x : Int64} {l : List (Option Value)} : vw X k ((pc, .lload 0, a, b, z) :: cs) (some (.long x) :: l) st S post ↔ vw X k cs (some (.long x) :: l) (.long x :: st) S post := vw_go rfl
theorem vw_lln0 {x : Int64} {l : List (Option Value)} : vw X k ((pc, .lload_n 0, a, b, z) :: cs) (some (.long x) :: l) st S post ↔ vw X k cs (some (.long x) :: l) (.long x :: st) S post := vw_go rfl
theorem vw_ls0 {y0 y1 : Option Value} {x : Int64} {l : List (Option Value)} : vw X k ((pc, .lstore 0, a, b, z) :: cs) (y0 :: y1 :: l) (.long x :: st) S post ↔ vw X k cs (some (.long x) :: none :: l) st S post := by
  refine vw_go ?_
  simp [vi_stp, vi_set, vi_clr, vi_get, vi_two, vcl, vi_on, Value.category, show ((3 : Fin 4) : Nat) = 3 from rfl]
theorem vw_lsn0 {y0 y1 : Option Value} {x : Int64} {l : List (Option Value)} : vw X k ((pc, .lstore_n 0, a, b, z) :: cs) (y0 :: y1 :: l) (.long x :: st) S post ↔ vw X k cs (some (.long x) :: none :: l) st S post := by
  refine vw_go ?_
  simp [vi_stp, vi_set, vi_clr, vi_get, vi_two, vcl, vi_on, Value.category, show ((3 : Fin 4) : Nat) = 3 from rfl]
theorem vw_ll1 {y0 : Option Value} {x : Int64} {l : List (Option Value)} : vw X k ((pc, .lload 1, a, b, z) :: cs) (y0 :: some (.long x) :: l) st S post ↔ vw X k cs (y0 :: some (.long x) :: l) (.long x :: st) S post := vw_go rfl
theorem vw_lln1 {y0 : Option Value} {x : Int64} {l : List (Option Value)} : vw X k ((pc, .lload_n 1, a, b, z) :: cs) (y0 :: some (.long x) :: l) st S post ↔ vw X k cs (y0 :: some (.long x) :: l) (.long x :: st) S post := vw_go rfl
theorem vw_ls1 {y0 y1 y2 : Option Value} {x : Int64} {l : List (Option Value)} : vw X k ((pc, .lstore 1, a, b, z) :: cs) (y0 :: y1 :: y2 :: l) (.long x :: st) S post ↔ vw X k cs ((vcl y0) :: some (.long x) :: none :: l) st S post := by
  refine vw_go ?_
  cases y0 with
  | none => simp [vi_stp, vi_set, vi_clr, vi_get, vi_two, vcl, vi_on, Value.category, show ((3 : Fin 4) : Nat) = 3 from rfl]
  | some w => cases w <;> simp [vi_stp, vi_set, vi_clr, vi_get, vi_two, vcl, vi_on, Value.category, show ((3 : Fin 4) : Nat) = 3 from rfl]
theorem vw_lsn1 {y0 y1 y2 : Option Value} {x : Int64} {l : List (Option Value)} : vw X k ((pc, .lstore_n 1, a, b, z) :: cs) (y0 :: y1 :: y2 :: l) (.long x :: st) S post ↔ vw X k cs ((vcl y0) :: some (.long x) :: none :: l) st S post := by
  refine vw_go ?_
  cases y0 with
  | none => simp [vi_stp, vi_set, vi_clr, vi_get, vi_two, vcl, vi_on, Value.category, show ((3 : Fin 4) : Nat) = 3 from rfl]
  | some w => cases w <;> simp [vi_stp, vi_set, vi_clr, vi_get, vi_two, vcl, vi_on, Value.category, show ((3 : Fin 4) : Nat) = 3 from rfl]
theorem vw_ll2 {y0 y1 : Option Value} {x : Int64} {l : List (Option Value)} : vw X k ((pc, .lload 2, a, b, z) :: cs) (y0 :: y1 :: some (.long x) :: l) st S post ↔ vw X k cs (y0 :: y1 :: some (.long x) :: l) (.long x :: st) S post := vw_go rfl
theorem vw_lln2 {y0 y1 : Option Value} {x : Int64} {l : List (Option Value)} : vw X k ((pc, .lload_n 2, a, b, z) :: cs) (y0 :: y1 :: some (.long x) :: l) st S post ↔ vw X k cs (y0 :: y1 :: some (.long x) :: l) (.long x :: st) S post := vw_go rfl
theorem vw_ls2 {y0 y1 y2 y3 : Option Value} {x : Int64} {l : List (Option Value)} : vw X k ((pc, .lstore 2, a, b, z) :: cs) (y0 :: y1 :: y2 :: y3 :: l) (.long x :: st) S post ↔ vw X k cs (y0 :: (vcl y1) :: some (.long x) :: none :: l) st S post := by
  refine vw_go ?_
  cases y1 with
  | none => simp [vi_stp, vi_set, vi_clr, vi_get, vi_two, vcl, vi_on, Value.category, show ((3 : Fin 4) : Nat) = 3 from rfl]
  | some w => cases w <;> simp [vi_stp, vi_set, vi_clr, vi_get, vi_two, vcl, vi_on, Value.category, show ((3 : Fin 4) : Nat) = 3 from rfl]
theorem vw_lsn2 {y0 y1 y2 y3 : Option Value} {x : Int64} {l : List (Option Value)} : vw X k ((pc, .lstore_n 2, a, b, z) :: cs) (y0 :: y1 :: y2 :: y3 :: l) (.long x :: st) S post ↔ vw X k cs (y0 :: (vcl y1) :: some (.long x) :: none :: l) st S post := by
  refine vw_go ?_
  cases y1 with
  | none => simp [vi_stp, vi_set, vi_clr, vi_get, vi_two, vcl, vi_on, Value.category, show ((3 : Fin 4) : Nat) = 3 from rfl]
  | some w => cases w <;> simp [vi_stp, vi_set, vi_clr, vi_get, vi_two, vcl, vi_on, Value.category, show ((3 : Fin 4) : Nat) = 3 from rfl]
theorem vw_ll3 {y0 y1 y2 : Option Value} {x : Int64} {l : List (Option Value)} : vw X k ((pc, .lload 3, a, b, z) :: cs) (y0 :: y1 :: y2 :: some (.long x) :: l) st S post ↔ vw X k cs (y0 :: y1 :: y2 :: some (.long x) :: l) (.long x :: st) S post := vw_go rfl
theorem vw_lln3 {y0 y1 y2 : Option Value} {x : Int64} {l : List (Option Value)} : vw X k ((pc, .lload_n 3, a, b, z) :: cs) (y0 :: y1 :: y2 :: some (.long x) :: l) st S post ↔ vw X k cs (y0 :: y1 :: y2 :: some (.long x) :: l) (.long x :: st) S post := vw_go rfl
theorem vw_ls3 {y0 y1 y2 y3 y4 : Option Value} {x : Int64} {l : List (Option Value)} : vw X k ((pc, .lstore 3, a, b, z) :: cs) (y0 :: y1 :: y2 :: y3 :: y4 :: l) (.long x :: st) S post ↔ vw X k cs (y0 :: y1 :: (vcl y2) :: some (.long x) :: none :: l) st S post := by
  refine vw_go ?_
  cases y2 with
  | none => simp [vi_stp, vi_set, vi_clr, vi_get, vi_two, vcl, vi_on, Value.category, show ((3 : Fin 4) : Nat) = 3 from rfl]
  | some w => cases w <;> simp [vi_stp, vi_set, vi_clr, vi_get, vi_two, vcl, vi_on, Value.category, show ((3 : Fin 4) : Nat) = 3 from rfl]
theorem vw_lsn3 {y0 y1 y2 y3 y4 : Option Value} {x : Int64} {l : List (Option Value)} : vw X k ((pc, .lstore_n 3, a, b, z) :: cs) (y0 :: y1 :: y2 :: y3 :: y4 :: l) (.long x :: st) S post ↔ vw X k cs (y0 :: y1 :: (vcl y2) :: some (.long x) :: none :: l) st S post := by
  refine vw_go ?_
  cases y2 with
  | none => simp [vi_stp, vi_set, vi_clr, vi_get, vi_two, vcl, vi_on, Value.category, show ((3 : Fin 4) : Nat) = 3 from rfl]
  | some w => cases w <;> simp [vi_stp, vi_set, vi_clr, vi_get, vi_two, vcl, vi_on, Value.category, show ((3 : Fin 4) : Nat) = 3 from rfl]
theorem vw_ll4 {y0 y1 y2 y3 : Option Value} {x : Int64} {l : List (Option Value)} : vw X k ((pc, .lload 4, a, b, z) :: cs) (y0 :: y1 :: y2 :: y3 :: some (.long x) :: l) st S post ↔ vw X k cs (y0 :: y1 :: y2 :: y3 :: some (.long x) :: l) (.long x :: st) S post := vw_go rfl
theorem vw_ls4 {y0 y1 y2 y3 y4 y5 : Option Value} {x : Int64} {l : List (Option Value)} : vw X k ((pc, .lstore 4, a, b, z) :: cs) (y0 :: y1 :: y2 :: y3 :: y4 :: y5 :: l) (.long x :: st) S post ↔ vw X k cs (y0 :: y1 :: y2 :: (vcl y3) :: some (.long x) :: none :: l) st S post := by
  refine vw_go ?_
  cases y3 with
  | none => simp [vi_stp, vi_set, vi_clr, vi_get, vi_two, vcl, vi_on, Value.category, show ((3 : Fin 4) : Nat) = 3 from rfl]
  | some w => cases w <;> simp [vi_stp, vi_set, vi_clr, vi_get, vi_two, vcl, vi_on, Value.category, show ((3 : Fin 4) : Nat) = 3 from rfl]
theorem vw_ll5 {y0 y1 y2 y3 y4 : Option Value} {x : Int64} {l : List (Option Value)} : vw X k ((pc, .lload 5, a, b, z) :: cs) (y0 :: y1 :: y2 :: y3 :: y4 :: some (.long x) :: l) st S post ↔ vw X k cs (y0 :: y1 :: y2 :: y3 :: y4 :: some (.long x) :: l) (.long x :: st) S post := vw_go rfl
theorem vw_ls5 {y0 y1 y2 y3 y4 y5 y6 : Option Value} {x : Int64} {l : List (Option Value)} : vw X k ((pc, .lstore 5, a, b, z) :: cs) (y0 :: y1 :: y2 :: y3 :: y4 :: y5 :: y6 :: l) (.long x :: st) S post ↔ vw X k cs (y0 :: y1 :: y2 :: y3 :: (vcl y4) :: some (.long x) :: none :: l) st S post := by
  refine vw_go ?_
  cases y4 with
  | none => simp [vi_stp, vi_set, vi_clr, vi_get, vi_two, vcl, vi_on, Value.category, show ((3 : Fin 4) : Nat) = 3 from rfl]
  | some w => cases w <;> simp [vi_stp, vi_set, vi_clr, vi_get, vi_two, vcl, vi_on, Value.category, show ((3 : Fin 4) : Nat) = 3 from rfl]
theorem vw_ll6 {y0 y1 y2 y3 y4 y5 : Option Value} {x : Int64} {l : List (Option Value)} : vw X k ((pc, .lload 6, a, b, z) :: cs) (y0 :: y1 :: y2 :: y3 :: y4 :: y5 :: some (.long x) :: l) st S post ↔ vw X k cs (y0 :: y1 :: y2 :: y3 :: y4 :: y5 :: some (.long x) :: l) (.long x :: st) S post := vw_go rfl
theorem vw_ls6 {y0 y1 y2 y3 y4 y5 y6 y7 : Option Value} {x : Int64} {l : List (Option Value)} : vw X k ((pc, .lstore 6, a, b, z) :: cs) (y0 :: y1 :: y2 :: y3 :: y4 :: y5 :: y6 :: y7 :: l) (.long x :: st) S post ↔ vw X k cs (y0 :: y1 :: y2 :: y3 :: y4 :: (vcl y5) :: some (.long x) :: none :: l) st S post := by
  refine vw_go ?_
  cases y5 with
  | none => simp [vi_stp, vi_set, vi_clr, vi_get, vi_two, vcl, vi_on, Value.category, show ((3 : Fin 4) : Nat) = 3 from rfl]
  | some w => cases w <;> simp [vi_stp, vi_set, vi_clr, vi_get, vi_two, vcl, vi_on, Value.category, show ((3 : Fin 4) : Nat) = 3 from rfl]
theorem vw_ll7 {y0 y1 y2 y3 y4 y5 y6 : Option Value} {x : Int64} {l : List (Option Value)} : vw X k ((pc, .lload 7, a, b, z) :: cs) (y0 :: y1 :: y2 :: y3 :: y4 :: y5 :: y6 :: some (.long x) :: l) st S post ↔ vw X k cs (y0 :: y1 :: y2 :: y3 :: y4 :: y5 :: y6 :: some (.long x) :: l) (.long x :: st) S post := vw_go rfl
theorem vw_iinc0 {x : Int32} {n : Int} {l : List (Option Value)} : vw X k ((pc, .iinc 0 n, a, b, z) :: cs) (some (.int x) :: l) st S post ↔ vw X k cs (some (.int (x + Int32.ofInt n)) :: l) st S post := by
  refine vw_go ?_
  simp [vi_stp, vi_set, vi_clr, vi_get, vi_two, vcl, vi_on, Value.category, show ((3 : Fin 4) : Nat) = 3 from rfl]
theorem vw_iinc1 {y0 : Option Value} {x : Int32} {n : Int} {l : List (Option Value)} : vw X k ((pc, .iinc 1 n, a, b, z) :: cs) (y0 :: some (.int x) :: l) st S post ↔ vw X k cs ((vcl y0) :: some (.int (x + Int32.ofInt n)) :: l) st S post := by
  refine vw_go ?_
  cases y0 with
  | none => simp [vi_stp, vi_set, vi_clr, vi_get, vi_two, vcl, vi_on, Value.category, show ((3 : Fin 4) : Nat) = 3 from rfl]
  | some w => cases w <;> simp [vi_stp, vi_set, vi_clr, vi_get, vi_two, vcl, vi_on, Value.category, show ((3 : Fin 4) : Nat) = 3 from rfl]
theorem vw_iinc2 {y0 y1 : Option Value} {x : Int32} {n : Int} {l : List (Option Value)} : vw X k ((pc, .iinc 2 n, a, b, z) :: cs) (y0 :: y1 :: some (.int x) :: l) st S post ↔ vw X k cs (y0 :: (vcl y1) :: some (.int (x + Int32.ofInt n)) :: l) st S post := by
  refine vw_go ?_
  cases y1 with
  | none => simp [vi_stp, vi_set, vi_clr, vi_get, vi_two, vcl, vi_on, Value.category, show ((3 : Fin 4) : Nat) = 3 from rfl]
  | some w => cases w <;> simp [vi_stp, vi_set, vi_clr, vi_get, vi_two, vcl, vi_on, Value.category, show ((3 : Fin 4) : Nat) = 3 from rfl]
theorem vw_iinc3 {y0 y1 y2 : Option Value} {x : Int32} {n : Int} {l : List (Option Value)} : vw X k ((pc, .iinc 3 n, a, b, z) :: cs) (y0 :: y1 :: y2 :: some (.int x) :: l) st S post ↔ vw X k cs (y0 :: y1 :: (vcl y2) :: some (.int (x + Int32.ofInt n)) :: l) st S post := by
  refine vw_go ?_
  cases y2 with
  | none => simp [vi_stp, vi_set, vi_clr, vi_get, vi_two, vcl, vi_on, Value.category, show ((3 : Fin 4) : Nat) = 3 from rfl]
  | some w => cases w <;> simp [vi_stp, vi_set, vi_clr, vi_get, vi_two, vcl, vi_on, Value.category, show ((3 : Fin 4) : Nat) = 3 from rfl]
theorem vw_iinc4 {y0 y1 y2 y3 : Option Value} {x : Int32} {n : Int} {l : List (Option Value)} : vw X k ((pc, .iinc 4 n, a, b, z) :: cs) (y0 :: y1 :: y2 :: y3 :: some (.int x) :: l) st S post ↔ vw X k cs (y0 :: y1 :: y2 :: (vcl y3) :: some (.int (x + Int32.ofInt n)) :: l) st S post := by
  refine vw_go ?_
  cases y3 with
  | none => simp [vi_stp, vi_set, vi_clr, vi_get, vi_two, vcl, vi_on, Value.category, show ((3 : Fin 4) : Nat) = 3 from rfl]
  | some w => cases w <;> simp [vi_stp, vi_set, vi_clr, vi_get, vi_two, vcl, vi_on, Value.category, show ((3 : Fin 4) : Nat) = 3 from rfl]
theorem vw_iinc5 {y0 y1 y2 y3 y4 : Option Value} {x : Int32} {n : Int} {l : List (Option Value)} : vw X k ((pc, .iinc 5 n, a, b, z) :: cs) (y0 :: y1 :: y2 :: y3 :: y4 :: some (.int x) :: l) st S post ↔ vw X k cs (y0 :: y1 :: y2 :: y3 :: (vcl y4) :: some (.int (x + Int32.ofInt n)) :: l) st S post := by
  refine vw_go ?_
  cases y4 with
  | none => simp [vi_stp, vi_set, vi_clr, vi_get, vi_two, vcl, vi_on, Value.category, show ((3 : Fin 4) : Nat) = 3 from rfl]
  | some w => cases w <;> simp [vi_stp, vi_set, vi_clr, vi_get, vi_two, vcl, vi_on, Value.category, show ((3 : Fin 4) : Nat) = 3 from rfl]
theorem vw_iinc6 {y0 y1 y2 y3 y4 y5 : Option Value} {x : Int32} {n : Int} {l : List (Option Value)} : vw X k ((pc, .iinc 6 n, a, b, z) :: cs) (y0 :: y1 :: y2 :: y3 :: y4 :: y5 :: some (.int x) :: l) st S post ↔ vw X k cs (y0 :: y1 :: y2 :: y3 :: y4 :: (vcl y5) :: some (.int (x + Int32.ofInt n)) :: l) st S post := by
  refine vw_go ?_
  cases y5 with
  | none => simp [vi_stp, vi_set, vi_clr, vi_get, vi_two, vcl, vi_on, Value.category, show ((3 : Fin 4) : Nat) = 3 from rfl]
  | some w => cases w <;> simp [vi_stp, vi_set, vi_clr, vi_get, vi_two, vcl, vi_on, Value.category, show ((3 : Fin 4) : Nat) = 3 from rfl]
theorem vw_iinc7 {y0 y1 y2 y3 y4 y5 y6 : Option Value} {x : Int32} {n : Int} {l : List (Option Value)} : vw X k ((pc, .iinc 7 n, a, b, z) :: cs) (y0 :: y1 :: y2 :: y3 :: y4 :: y5 :: y6 :: some (.int x) :: l) st S post ↔ vw X k cs (y0 :: y1 :: y2 :: y3 :: y4 :: y5 :: (vcl y6) :: some (.int (x + Int32.ofInt n)) :: l) st S post := by
  refine vw_go ?_
  cases y6 with
  | none => simp [vi_stp, vi_set, vi_clr, vi_get, vi_two, vcl, vi_on, Value.category, show ((3 : Fin 4) : Nat) = 3 from rfl]
  | some w => cases w <;> simp [vi_stp, vi_set, vi_clr, vi_get, vi_two, vcl, vi_on, Value.category, show ((3 : Fin 4) : Nat) = 3 from rfl]
theorem vw_iadd {x y : Int32} : vw X k ((pc, .iadd, a, b, z) :: cs) ls (.int y :: .int x :: st) S post ↔ vw X k cs ls (.int (x + y) :: st) S post := vw_go rfl
theorem vw_isub {x y : Int32} : vw X k ((pc, .isub, a, b, z) :: cs) ls (.int y :: .int x :: st) S post ↔ vw X k cs ls (.int (x - y) :: st) S post := vw_go rfl
theorem vw_imul {x y : Int32} : vw X k ((pc, .imul, a, b, z) :: cs) ls (.int y :: .int x :: st) S post ↔ vw X k cs ls (.int (x * y) :: st) S post := vw_go rfl
theorem vw_iand {x y : Int32} : vw X k ((pc, .iand, a, b, z) :: cs) ls (.int y :: .int x :: st) S post ↔ vw X k cs ls (.int (x &&& y) :: st) S post := vw_go rfl
theorem vw_ior {x y : Int32} : vw X k ((pc, .ior, a, b, z) :: cs) ls (.int y :: .int x :: st) S post ↔ vw X k cs ls (.int (x ||| y) :: st) S post := vw_go rfl
theorem vw_ixor {x y : Int32} : vw X k ((pc, .ixor, a, b, z) :: cs) ls (.int y :: .int x :: st) S post ↔ vw X k cs ls (.int (x ^^^ y) :: st) S post := vw_go rfl
theorem vw_ishl {x y : Int32} : vw X k ((pc, .ishl, a, b, z) :: cs) ls (.int y :: .int x :: st) S post ↔ vw X k cs ls (.int (x <<< (y &&& 31)) :: st) S post := vw_go rfl
theorem vw_ishr {x y : Int32} : vw X k ((pc, .ishr, a, b, z) :: cs) ls (.int y :: .int x :: st) S post ↔ vw X k cs ls (.int (x >>> (y &&& 31)) :: st) S post := vw_go rfl
theorem vw_iushr {x y : Int32} : vw X k ((pc, .iushr, a, b, z) :: cs) ls (.int y :: .int x :: st) S post ↔ vw X k cs ls (.int ((x.toUInt32 >>> (y.toUInt32 &&& Int32.toUInt32 31)).toInt32) :: st) S post := vw_go rfl
theorem vw_idiv {x y : Int32} : vw X k ((pc, .idiv, a, b, z) :: cs) ls (.int y :: .int x :: st) S post ↔ ¬ y = 0 ∧ vw X k cs ls (.int (x / y) :: st) S post := by
  by_cases h : y = 0
  · simp only [h, not_true_eq_false, false_and, iff_false]
    rw [vw_no (by simp [vi_stp, vi_bin])]
    simp
  · simp only [h, not_false_eq_true, true_and]
    exact vw_go (by simp [vi_stp, vi_bin, h, vi_on])
theorem vw_irem {x y : Int32} : vw X k ((pc, .irem, a, b, z) :: cs) ls (.int y :: .int x :: st) S post ↔ ¬ y = 0 ∧ vw X k cs ls (.int (x - x / y * y) :: st) S post := by
  by_cases h : y = 0
  · simp only [h, not_true_eq_false, false_and, iff_false]
    rw [vw_no (by simp [vi_stp, vi_bin])]
    simp
  · simp only [h, not_false_eq_true, true_and]
    exact vw_go (by simp [vi_stp, vi_bin, h, vi_on])
theorem vw_ladd {x y : Int64} : vw X k ((pc, .ladd, a, b, z) :: cs) ls (.long y :: .long x :: st) S post ↔ vw X k cs ls (.long (x + y) :: st) S post := vw_go rfl
theorem vw_lsub {x y : Int64} : vw X k ((pc, .lsub, a, b, z) :: cs) ls (.long y :: .long x :: st) S post ↔ vw X k cs ls (.long (x - y) :: st) S post := vw_go rfl
theorem vw_lmul {x y : Int64} : vw X k ((pc, .lmul, a, b, z) :: cs) ls (.long y :: .long x :: st) S post ↔ vw X k cs ls (.long (x * y) :: st) S post := vw_go rfl
theorem vw_ldiv {x y : Int64} : vw X k ((pc, .ldiv, a, b, z) :: cs) ls (.long y :: .long x :: st) S post ↔ ¬ y = 0 ∧ vw X k cs ls (.long (x / y) :: st) S post := by
  by_cases h : y = 0
  · simp only [h, not_true_eq_false, false_and, iff_false]
    rw [vw_no (by simp [vi_stp, vi_lbin])]
    simp
  · simp only [h, not_false_eq_true, true_and]
    exact vw_go (by simp [vi_stp, vi_lbin, h, vi_on])
theorem vw_lcmp {x y : Int64} : vw X k ((pc, .lcmp, a, b, z) :: cs) ls (.long y :: .long x :: st) S post ↔ vw X k cs ls (.int (lg_cmp x y) :: st) S post := vw_go rfl
theorem vw_i2l {x : Int32} : vw X k ((pc, .i2l, a, b, z) :: cs) ls (.int x :: st) S post ↔ vw X k cs ls (.long x.toInt64 :: st) S post := vw_go rfl
theorem vw_l2i {x : Int64} : vw X k ((pc, .l2i, a, b, z) :: cs) ls (.long x :: st) S post ↔ vw X k cs ls (.int x.toInt32 :: st) S post := vw_go rfl
theorem vw_dupi {x : Int32} : vw X k ((pc, .dup, a, b, z) :: cs) ls (.int x :: st) S post ↔ vw X k cs ls (.int x :: .int x :: st) S post := vw_go rfl
theorem vw_dupr {x : Nat} : vw X k ((pc, .dup, a, b, z) :: cs) ls (.ref x :: st) S post ↔ vw X k cs ls (.ref x :: .ref x :: st) S post := vw_go rfl
theorem vw_goto : vw X k ((pc, .goto off, a, b, z) :: cs) ls st S post ↔ vw X k (v_B k a) ls st S post := vw_jump rfl
theorem vw_ic_eq {x y : Int32} : vw X k ((pc, .if_icmp .eq off, a, b, z) :: cs) ls (.int y :: .int x :: st) S post ↔ (x = y → vw X k (v_B k a) ls st S post) ∧ (¬ x = y → vw X k cs ls st S post) := by
  by_cases h : x = y
  · rw [vw_jump (t := a) (ls' := ls) (st' := st) (S' := S) (by simp [vi_stp, vi_br, h])]; simp [h]
  · rw [vw_go (ls' := ls) (st' := st) (S' := S) (by simp [vi_stp, vi_br, h])]; simp [h]
theorem vw_if_eq {x : Int32} : vw X k ((pc, .ifCond .eq off, a, b, z) :: cs) ls (.int x :: st) S post ↔ (x = 0 → vw X k (v_B k a) ls st S post) ∧ (¬ x = 0 → vw X k cs ls st S post) := by
  by_cases h : x = 0
  · rw [vw_jump (t := a) (ls' := ls) (st' := st) (S' := S) (by simp [vi_stp, vi_br, h])]; simp [h]
  · rw [vw_go (ls' := ls) (st' := st) (S' := S) (by simp [vi_stp, vi_br, h])]; simp [h]
theorem vw_ic_ne {x y : Int32} : vw X k ((pc, .if_icmp .ne off, a, b, z) :: cs) ls (.int y :: .int x :: st) S post ↔ (¬ x = y → vw X k (v_B k a) ls st S post) ∧ (x = y → vw X k cs ls st S post) := by
  by_cases h : x = y
  · rw [vw_go (ls' := ls) (st' := st) (S' := S) (by simp [vi_stp, vi_br, h])]; simp [h]
  · rw [vw_jump (t := a) (ls' := ls) (st' := st) (S' := S) (by simp [vi_stp, vi_br, h])]; simp [h]
theorem vw_if_ne {x : Int32} : vw X k ((pc, .ifCond .ne off, a, b, z) :: cs) ls (.int x :: st) S post ↔ (¬ x = 0 → vw X k (v_B k a) ls st S post) ∧ (x = 0 → vw X k cs ls st S post) := by
  by_cases h : x = 0
  · rw [vw_go (ls' := ls) (st' := st) (S' := S) (by simp [vi_stp, vi_br, h])]; simp [h]
  · rw [vw_jump (t := a) (ls' := ls) (st' := st) (S' := S) (by simp [vi_stp, vi_br, h])]; simp [h]
theorem vw_ic_lt {x y : Int32} : vw X k ((pc, .if_icmp .lt off, a, b, z) :: cs) ls (.int y :: .int x :: st) S post ↔ (x < y → vw X k (v_B k a) ls st S post) ∧ (y ≤ x → vw X k cs ls st S post) := by
  by_cases h : x < y
  · rw [vw_jump (t := a) (ls' := ls) (st' := st) (S' := S) (by simp [vi_stp, vi_br, h])]
    exact ⟨fun q => ⟨fun _ => q, fun g => absurd g (Int32.not_le.mpr h)⟩, fun q => q.1 h⟩
  · rw [vw_go (ls' := ls) (st' := st) (S' := S) (by simp [vi_stp, vi_br, h])]
    exact ⟨fun q => ⟨fun g => absurd g h, fun _ => q⟩, fun q => q.2 (Int32.not_lt.mp h)⟩
theorem vw_if_lt {x : Int32} : vw X k ((pc, .ifCond .lt off, a, b, z) :: cs) ls (.int x :: st) S post ↔ (x < 0 → vw X k (v_B k a) ls st S post) ∧ (0 ≤ x → vw X k cs ls st S post) := by
  by_cases h : x < 0
  · rw [vw_jump (t := a) (ls' := ls) (st' := st) (S' := S) (by simp [vi_stp, vi_br, h])]
    exact ⟨fun q => ⟨fun _ => q, fun g => absurd g (Int32.not_le.mpr h)⟩, fun q => q.1 h⟩
  · rw [vw_go (ls' := ls) (st' := st) (S' := S) (by simp [vi_stp, vi_br, h])]
    exact ⟨fun q => ⟨fun g => absurd g h, fun _ => q⟩, fun q => q.2 (Int32.not_lt.mp h)⟩
theorem vw_ic_ge {x y : Int32} : vw X k ((pc, .if_icmp .ge off, a, b, z) :: cs) ls (.int y :: .int x :: st) S post ↔ (y ≤ x → vw X k (v_B k a) ls st S post) ∧ (x < y → vw X k cs ls st S post) := by
  by_cases h : y ≤ x
  · rw [vw_jump (t := a) (ls' := ls) (st' := st) (S' := S) (by simp [vi_stp, vi_br, h])]
    exact ⟨fun q => ⟨fun _ => q, fun g => absurd g (Int32.not_lt.mpr h)⟩, fun q => q.1 h⟩
  · rw [vw_go (ls' := ls) (st' := st) (S' := S) (by simp [vi_stp, vi_br, h])]
    exact ⟨fun q => ⟨fun g => absurd g h, fun _ => q⟩, fun q => q.2 (Int32.not_le.mp h)⟩
theorem vw_if_ge {x : Int32} : vw X k ((pc, .ifCond .ge off, a, b, z) :: cs) ls (.int x :: st) S post ↔ (0 ≤ x → vw X k (v_B k a) ls st S post) ∧ (x < 0 → vw X k cs ls st S post) := by
  by_cases h : 0 ≤ x
  · rw [vw_jump (t := a) (ls' := ls) (st' := st) (S' := S) (by simp [vi_stp, vi_br, h])]
    exact ⟨fun q => ⟨fun _ => q, fun g => absurd g (Int32.not_lt.mpr h)⟩, fun q => q.1 h⟩
  · rw [vw_go (ls' := ls) (st' := st) (S' := S) (by simp [vi_stp, vi_br, h])]
    exact ⟨fun q => ⟨fun g => absurd g h, fun _ => q⟩, fun q => q.2 (Int32.not_le.mp h)⟩
theorem vw_ic_gt {x y : Int32} : vw X k ((pc, .if_icmp .gt off, a, b, z) :: cs) ls (.int y :: .int x :: st) S post ↔ (y < x → vw X k (v_B k a) ls st S post) ∧ (x ≤ y → vw X k cs ls st S post) := by
  by_cases h : y < x
  · rw [vw_jump (t := a) (ls' := ls) (st' := st) (S' := S) (by simp [vi_stp, vi_br, h])]
    exact ⟨fun q => ⟨fun _ => q, fun g => absurd g (Int32.not_le.mpr h)⟩, fun q => q.1 h⟩
  · rw [vw_go (ls' := ls) (st' := st) (S' := S) (by simp [vi_stp, vi_br, h])]
    exact ⟨fun q => ⟨fun g => absurd g h, fun _ => q⟩, fun q => q.2 (Int32.not_lt.mp h)⟩
theorem vw_if_gt {x : Int32} : vw X k ((pc, .ifCond .gt off, a, b, z) :: cs) ls (.int x :: st) S post ↔ (0 < x → vw X k (v_B k a) ls st S post) ∧ (x ≤ 0 → vw X k cs ls st S post) := by
  by_cases h : 0 < x
  · rw [vw_jump (t := a) (ls' := ls) (st' := st) (S' := S) (by simp [vi_stp, vi_br, h])]
    exact ⟨fun q => ⟨fun _ => q, fun g => absurd g (Int32.not_le.mpr h)⟩, fun q => q.1 h⟩
  · rw [vw_go (ls' := ls) (st' := st) (S' := S) (by simp [vi_stp, vi_br, h])]
    exact ⟨fun q => ⟨fun g => absurd g h, fun _ => q⟩, fun q => q.2 (Int32.not_lt.mp h)⟩
theorem vw_ic_le {x y : Int32} : vw X k ((pc, .if_icmp .le off, a, b, z) :: cs) ls (.int y :: .int x :: st) S post ↔ (x ≤ y → vw X k (v_B k a) ls st S post) ∧ (y < x → vw X k cs ls st S post) := by
  by_cases h : x ≤ y
  · rw [vw_jump (t := a) (ls' := ls) (st' := st) (S' := S) (by simp [vi_stp, vi_br, h])]
    exact ⟨fun q => ⟨fun _ => q, fun g => absurd g (Int32.not_lt.mpr h)⟩, fun q => q.1 h⟩
  · rw [vw_go (ls' := ls) (st' := st) (S' := S) (by simp [vi_stp, vi_br, h])]
    exact ⟨fun q => ⟨fun g => absurd g h, fun _ => q⟩, fun q => q.2 (Int32.not_le.mp h)⟩
theorem vw_if_le {x : Int32} : vw X k ((pc, .ifCond .le off, a, b, z) :: cs) ls (.int x :: st) S post ↔ (x ≤ 0 → vw X k (v_B k a) ls st S post) ∧ (0 < x → vw X k cs ls st S post) := by
  by_cases h : x ≤ 0
  · rw [vw_jump (t := a) (ls' := ls) (st' := st) (S' := S) (by simp [vi_stp, vi_br, h])]
    exact ⟨fun q => ⟨fun _ => q, fun g => absurd g (Int32.not_lt.mpr h)⟩, fun q => q.1 h⟩
  · rw [vw_go (ls' := ls) (st' := st) (S' := S) (by simp [vi_stp, vi_br, h])]
    exact ⟨fun q => ⟨fun g => absurd g h, fun _ => q⟩, fun q => q.2 (Int32.not_le.mp h)⟩
theorem vw_gf {n : Nat} : vw X k ((pc, .getfield i, a, b, z) :: cs) ls (.ref n :: st) S post ↔ vg (vi_fld S n a b) X k cs ls st S post := by
  cases h : vi_fld S n a b with
  | none => exact vw_no (by simp [vi_stp, h])
  | some v => exact vw_go (by simp [vi_stp, h, vi_on])
theorem vw_pf {n : Nat} {v : Value} : vw X k ((pc, .putfield i, a, b, z) :: cs) ls (v :: .ref n :: st) S post ↔ vps (vi_put S n a b z v) X k cs ls st post := by
  cases h : vi_put S n a b z v with
  | none => exact vw_no (by simp [vi_stp, h])
  | some v => exact vw_go (by simp [vi_stp, h, vi_on])
theorem vw_iaload {n : Nat} {x : Int32} : vw X k ((pc, .iaload, a, b, z) :: cs) ls (.int x :: .ref n :: st) S post ↔ vgi (vi_ald X S n 0 x) X k cs ls st S post := by
  cases h : vi_ald X S n 0 x with
  | none => exact vw_no (by simp [vi_stp, h])
  | some v => exact vw_go (by simp [vi_stp, h, vi_on])
theorem vw_baload {n : Nat} {x : Int32} : vw X k ((pc, .baload, a, b, z) :: cs) ls (.int x :: .ref n :: st) S post ↔ vgi (vi_ald X S n 1 x) X k cs ls st S post := by
  cases h : vi_ald X S n 1 x with
  | none => exact vw_no (by simp [vi_stp, h])
  | some v => exact vw_go (by simp [vi_stp, h, vi_on])
theorem vw_iastore {n : Nat} {x y : Int32} : vw X k ((pc, .iastore, a, b, z) :: cs) ls (.int y :: .int x :: .ref n :: st) S post ↔ vps (vi_ast S n 0 x y) X k cs ls st post := by
  cases h : vi_ast S n 0 x y with
  | none => exact vw_no (by simp [vi_stp, h])
  | some v => exact vw_go (by simp [vi_stp, h, vi_on])
theorem vw_bastore {n : Nat} {x y : Int32} : vw X k ((pc, .bastore, a, b, z) :: cs) ls (.int y :: .int x :: .ref n :: st) S post ↔ (y = 0 ∨ y = 1) ∧ vps (vi_ast S n 1 x y) X k cs ls st post := by
  by_cases hy : y = 0 ∨ y = 1
  · simp only [hy, true_and]
    cases h : vi_ast S n 1 x y with
    | none => exact vw_no (by simp [vi_stp, h])
    | some v => exact vw_go (by simp [vi_stp, h, hy, vi_on])
  · simp only [hy, false_and]
    exact vw_no (by simp [vi_stp, hy])
theorem vw_alen {n : Nat} : vw X k ((pc, .arraylength, a, b, z) :: cs) ls (.ref n :: st) S post ↔ vgi ((vi_len X S n).map Int32.ofNat) X k cs ls st S post := by
  cases h : vi_len X S n with
  | none => exact vw_no (by simp [vi_stp, h])
  | some v => exact vw_go (by simp [vi_stp, h, vi_on])
theorem vw_gs : vw X k ((pc, .getstatic i, a, b, z) :: cs) ls st S post ↔ vw X k cs ls (.ref a :: st) S post := vw_go rfl
theorem vw_aaload {n q : Nat} {x : Int32} : vw X k ((pc, .aaload, a, b, z) :: cs) ls (.int x :: .ref n :: st) S post ↔ vg (vi_aal S n x) X k cs ls st S post := by
  unfold vi_aal
  cases h : S.1[n]? with
  | none => exact vw_no (by simp [vi_stp, h])
  | some sh =>
    match sh, h with
    | .inl _, h => exact vw_no (by simp [vi_stp, h])
    | .inr (.inl _), h => exact vw_no (by simp [vi_stp, h])
    | .inr (.inr l), h =>
      dsimp only
      by_cases hc : ¬ (x < 0 ∨ l.length ≤ x.toNatClampNeg)
      · rw [if_pos hc]
        cases hq : l[x.toNatClampNeg]? with
        | none => exact vw_no (by simp only [vi_stp, h, if_pos hc, hq])
        | some o =>
          cases o with
          | none => exact vw_no (by simp only [vi_stp, h, if_pos hc, hq])
          | some q => exact vw_go (by simp only [vi_stp, h, if_pos hc, hq, vi_on])
      · rw [if_neg hc]
        exact vw_no (by simp only [vi_stp, h, if_neg hc])
theorem vw_iret {v : Int32} : vw X k ((pc, .ireturn, a, b, 0) :: cs) ls [.int v] S post ↔ post (some (.int v)) S := vw_ret rfl
theorem vw_zret {v : Int32} : vw X k ((pc, .ireturn, a, b, 1) :: cs) ls [.int v] S post ↔ (v = 0 ∨ v = 1) ∧ post (some (.int v)) S := by
  by_cases h : v = 0 ∨ v = 1
  · simp only [h, true_and]; exact vw_ret (by simp [vi_stp, h])
  · simp only [h, false_and]; exact vw_no (by simp [vi_stp, h])
theorem vw_lret {v : Int64} : vw X k ((pc, .lreturn, a, b, z) :: cs) ls [.long v] S post ↔ post (some (.long v)) S := vw_ret rfl
theorem vw_aret {v : Nat} : vw X k ((pc, .areturn, a, b, z) :: cs) ls [.ref v] S post ↔ post (some (.ref v)) S := vw_ret rfl
theorem vw_vret : vw X k ((pc, .return_, a, b, z) :: cs) ls [] S post ↔ post none S := vw_ret rfl
theorem vw_st0 : vw X k ((pc, .invokestatic i, a, 0, z) :: cs) ls st S post ↔ vcat st ≤ 8 ∧ vo X a [] S (vkt X k cs ls st post) := by
  by_cases h : (st.map fun v => v.category).sum ≤ 8
  · simp only [vcat, h, true_and]
    exact vw_call (by simp [vi_stp, vi_call, h])
  · simp only [vcat, h, false_and]
    exact vw_no (by simp [vi_stp, vi_call, h])
theorem vw_iv0 {q : Nat} : vw X k ((pc, .invokevirtual i, a, 0, z) :: cs) ls (.ref q :: st) S post ↔ vi_is S q z.toNat = true ∧ vcat st ≤ 8 ∧ vo X a [.ref q] S (vkt X k cs ls st post) := by
  by_cases h : vi_is S q z.toNat = true ∧ (st.map fun v => v.category).sum ≤ 8
  · simp only [vcat, h.1, h.2, true_and]
    exact vw_call (by simp [vi_stp, vi_calr, h.1, h.2])
  · rw [← and_assoc]
    simp only [vcat, h, false_and]
    exact vw_no (by simp only [vi_stp, vi_calr, List.drop_succ_cons, List.drop_zero, if_neg h])
theorem vw_st1 {v1 : Value} : vw X k ((pc, .invokestatic i, a, 1, z) :: cs) ls (v1 :: st) S post ↔ vcat st ≤ 8 ∧ vo X a [v1] S (vkt X k cs ls st post) := by
  by_cases h : (st.map fun v => v.category).sum ≤ 8
  · simp only [vcat, h, true_and]
    exact vw_call (by simp [vi_stp, vi_call, h])
  · simp only [vcat, h, false_and]
    exact vw_no (by simp [vi_stp, vi_call, h])
theorem vw_iv1 {v1 : Value} {q : Nat} : vw X k ((pc, .invokevirtual i, a, 1, z) :: cs) ls (v1 :: .ref q :: st) S post ↔ vi_is S q z.toNat = true ∧ vcat st ≤ 8 ∧ vo X a [.ref q, v1] S (vkt X k cs ls st post) := by
  by_cases h : vi_is S q z.toNat = true ∧ (st.map fun v => v.category).sum ≤ 8
  · simp only [vcat, h.1, h.2, true_and]
    exact vw_call (by simp [vi_stp, vi_calr, h.1, h.2])
  · rw [← and_assoc]
    simp only [vcat, h, false_and]
    exact vw_no (by simp only [vi_stp, vi_calr, List.drop_succ_cons, List.drop_zero, if_neg h])
theorem vw_st2 {v1 v2 : Value} : vw X k ((pc, .invokestatic i, a, 2, z) :: cs) ls (v2 :: v1 :: st) S post ↔ vcat st ≤ 8 ∧ vo X a [v1, v2] S (vkt X k cs ls st post) := by
  by_cases h : (st.map fun v => v.category).sum ≤ 8
  · simp only [vcat, h, true_and]
    exact vw_call (by simp [vi_stp, vi_call, h])
  · simp only [vcat, h, false_and]
    exact vw_no (by simp [vi_stp, vi_call, h])
theorem vw_iv2 {v1 v2 : Value} {q : Nat} : vw X k ((pc, .invokevirtual i, a, 2, z) :: cs) ls (v2 :: v1 :: .ref q :: st) S post ↔ vi_is S q z.toNat = true ∧ vcat st ≤ 8 ∧ vo X a [.ref q, v1, v2] S (vkt X k cs ls st post) := by
  by_cases h : vi_is S q z.toNat = true ∧ (st.map fun v => v.category).sum ≤ 8
  · simp only [vcat, h.1, h.2, true_and]
    exact vw_call (by simp [vi_stp, vi_calr, h.1, h.2])
  · rw [← and_assoc]
    simp only [vcat, h, false_and]
    exact vw_no (by simp only [vi_stp, vi_calr, List.drop_succ_cons, List.drop_zero, if_neg h])
theorem vw_st3 {v1 v2 v3 : Value} : vw X k ((pc, .invokestatic i, a, 3, z) :: cs) ls (v3 :: v2 :: v1 :: st) S post ↔ vcat st ≤ 8 ∧ vo X a [v1, v2, v3] S (vkt X k cs ls st post) := by
  by_cases h : (st.map fun v => v.category).sum ≤ 8
  · simp only [vcat, h, true_and]
    exact vw_call (by simp [vi_stp, vi_call, h])
  · simp only [vcat, h, false_and]
    exact vw_no (by simp [vi_stp, vi_call, h])
theorem vw_iv3 {v1 v2 v3 : Value} {q : Nat} : vw X k ((pc, .invokevirtual i, a, 3, z) :: cs) ls (v3 :: v2 :: v1 :: .ref q :: st) S post ↔ vi_is S q z.toNat = true ∧ vcat st ≤ 8 ∧ vo X a [.ref q, v1, v2, v3] S (vkt X k cs ls st post) := by
  by_cases h : vi_is S q z.toNat = true ∧ (st.map fun v => v.category).sum ≤ 8
  · simp only [vcat, h.1, h.2, true_and]
    exact vw_call (by simp [vi_stp, vi_calr, h.1, h.2])
  · rw [← and_assoc]
    simp only [vcat, h, false_and]
    exact vw_no (by simp only [vi_stp, vi_calr, List.drop_succ_cons, List.drop_zero, if_neg h])
theorem vw_st4 {v1 v2 v3 v4 : Value} : vw X k ((pc, .invokestatic i, a, 4, z) :: cs) ls (v4 :: v3 :: v2 :: v1 :: st) S post ↔ vcat st ≤ 8 ∧ vo X a [v1, v2, v3, v4] S (vkt X k cs ls st post) := by
  by_cases h : (st.map fun v => v.category).sum ≤ 8
  · simp only [vcat, h, true_and]
    exact vw_call (by simp [vi_stp, vi_call, h])
  · simp only [vcat, h, false_and]
    exact vw_no (by simp [vi_stp, vi_call, h])
theorem vw_iv4 {v1 v2 v3 v4 : Value} {q : Nat} : vw X k ((pc, .invokevirtual i, a, 4, z) :: cs) ls (v4 :: v3 :: v2 :: v1 :: .ref q :: st) S post ↔ vi_is S q z.toNat = true ∧ vcat st ≤ 8 ∧ vo X a [.ref q, v1, v2, v3, v4] S (vkt X k cs ls st post) := by
  by_cases h : vi_is S q z.toNat = true ∧ (st.map fun v => v.category).sum ≤ 8
  · simp only [vcat, h.1, h.2, true_and]
    exact vw_call (by simp [vi_stp, vi_calr, h.1, h.2])
  · rw [← and_assoc]
    simp only [vcat, h, false_and]
    exact vw_no (by simp only [vi_stp, vi_calr, List.drop_succ_cons, List.drop_zero, if_neg h])
theorem vw_st5 {v1 v2 v3 v4 v5 : Value} : vw X k ((pc, .invokestatic i, a, 5, z) :: cs) ls (v5 :: v4 :: v3 :: v2 :: v1 :: st) S post ↔ vcat st ≤ 8 ∧ vo X a [v1, v2, v3, v4, v5] S (vkt X k cs ls st post) := by
  by_cases h : (st.map fun v => v.category).sum ≤ 8
  · simp only [vcat, h, true_and]
    exact vw_call (by simp [vi_stp, vi_call, h])
  · simp only [vcat, h, false_and]
    exact vw_no (by simp [vi_stp, vi_call, h])
theorem vw_iv5 {v1 v2 v3 v4 v5 : Value} {q : Nat} : vw X k ((pc, .invokevirtual i, a, 5, z) :: cs) ls (v5 :: v4 :: v3 :: v2 :: v1 :: .ref q :: st) S post ↔ vi_is S q z.toNat = true ∧ vcat st ≤ 8 ∧ vo X a [.ref q, v1, v2, v3, v4, v5] S (vkt X k cs ls st post) := by
  by_cases h : vi_is S q z.toNat = true ∧ (st.map fun v => v.category).sum ≤ 8
  · simp only [vcat, h.1, h.2, true_and]
    exact vw_call (by simp [vi_stp, vi_calr, h.1, h.2])
  · rw [← and_assoc]
    simp only [vcat, h, false_and]
    exact vw_no (by simp only [vi_stp, vi_calr, List.drop_succ_cons, List.drop_zero, if_neg h])
end VW
