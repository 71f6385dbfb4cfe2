/-! The picture and the heap: a reference's number n is the address ad n. -/
def vi_r (ad : Nat → Nat) : Value → Value
  | .ref n => .ref (ad n)
  | v => v
theorem vi_r_cat (ad : Nat → Nat) (v : Value) : (vi_r ad v).category = v.category := by cases v <;> rfl
def vi_fv (ad : Nat → Nat) (f : Nat → Int32) (j : Nat) : Option Value → Value
  | none => .int (f j)
  | some v => vi_r ad v
def vi_fs (ad : Nat → Nat) (f : Nat → Int32) (rs : List (Option Value)) : List Value := rs.mapIdx (fun j r => vi_fv ad f j r)
def vi_rq (ad : Nat → Nat) (l : List (Option Nat)) (j : Nat) : Option Nat := match l[j]? with
  | some (some q) => some (ad q)
  | _ => none
def vi_con (cy : Nat → ClassId) (ad : Nat → Nat) (h : vi_Sh) (f : Nat → Int32) : va_E := match h with
  | .inl (t, n) => .inl (cy t, n, .inl f)
  | .inr (.inl (ci, rs)) => .inr (ci, vi_fs ad f rs)
  | .inr (.inr l) => .inl (cy 2, l.length, .inr (.inr (.inr (.inr (vi_rq ad l)))))
def vi_W (cy : Nat → ClassId) (ad : Nat → Nat) (S : vi_Me) : va_W := S.1.mapIdx (fun j h => (ad j, vi_con cy ad h (S.2 j)))
theorem vi_W_get {cy : Nat → ClassId} {ad : Nat → Nat} {S : vi_Me} {n : Nat} {h : vi_Sh} (hn : S.1[n]? = some h) : (vi_W cy ad S)[n]? = some (ad n, vi_con cy ad h (S.2 n)) := by
  simp [vi_W, List.getElem?_mapIdx, hn]
theorem vi_W_set {cy : Nat → ClassId} {ad : Nat → Nat} {S : vi_Me} {n : Nat} (h : vi_Sh) (f : Nat → Int32) : (vi_W cy ad S).set n (ad n, vi_con cy ad h f) = vi_W cy ad (S.1.set n h, vi_row S.2 n f) := by
  apply List.ext_getElem?
  intro j
  by_cases hj : n = j
  · subst hj
    by_cases hl : n < S.1.length
    · simp [vi_W, List.getElem?_mapIdx, List.getElem?_set, vi_row, hl]
    · simp [vi_W, List.getElem?_mapIdx, List.getElem?_set, vi_row, hl]
  · simp [vi_W, List.getElem?_mapIdx, List.getElem?_set, vi_row, hj, Ne.symm hj, fun e : j = n => hj e.symm]
theorem vi_set_same {α : Type} {l : List α} {n : Nat} {h : α} (hn : l[n]? = some h) : l.set n h = l := by
  apply List.ext_getElem?
  intro j
  by_cases hj : n = j
  · subst hj
    obtain ⟨hl, -⟩ := List.getElem?_eq_some_iff.mp hn
    rw [List.getElem?_set_self hl, hn]
  · rw [List.getElem?_set_ne hj]
theorem vi_W_row {cy : Nat → ClassId} {ad : Nat → Nat} {S : vi_Me} {n : Nat} {h : vi_Sh} (hn : S.1[n]? = some h) (f : Nat → Int32) : (vi_W cy ad S).set n (ad n, vi_con cy ad h f) = vi_W cy ad (S.1, vi_row S.2 n f) := by
  rw [vi_W_set, vi_set_same hn]
theorem vi_row_self (M : Nat → Nat → Int32) (n : Nat) : vi_row M n (M n) = M := by
  funext j
  unfold vi_row
  split
  · rename_i h; rw [h]
  · rfl
theorem vi_W_shp {cy : Nat → ClassId} {ad : Nat → Nat} {S : vi_Me} {n : Nat} (h : vi_Sh) : (vi_W cy ad S).set n (ad n, vi_con cy ad h (S.2 n)) = vi_W cy ad (S.1.set n h, S.2) := by
  rw [vi_W_set, vi_row_self]
theorem vi_W_push {cy : Nat → ClassId} {ad : Nat → Nat} {S : vi_Me} (h : vi_Sh) (f : Nat → Int32) : vi_W cy ad S ++ [(ad S.1.length, vi_con cy ad h f)] = vi_W cy ad (S.1 ++ [h], vi_row S.2 S.1.length f) := by
  unfold vi_W
  rw [List.mapIdx_append]
  congr 1
  · apply List.ext_getElem?
    intro j
    by_cases hl : j < S.1.length
    · simp [List.getElem?_mapIdx, vi_row, Nat.ne_of_lt hl]
    · simp [List.getElem?_mapIdx, hl]
  · simp [vi_row]
theorem vi_fs_get {ad : Nat → Nat} {f : Nat → Int32} {rs : List (Option Value)} {k : Nat} {r : Option Value} (h : rs[k]? = some r) : (vi_fs ad f rs)[k]? = some (vi_fv ad f k r) := by
  simp [vi_fs, List.getElem?_mapIdx, h]
theorem vi_fs_len {ad : Nat → Nat} {f : Nat → Int32} {rs : List (Option Value)} : (vi_fs ad f rs).length = rs.length := by simp [vi_fs]
theorem vi_fs_int {ad : Nat → Nat} {f : Nat → Int32} {rs : List (Option Value)} {k : Nat} (h : rs[k]? = some none) (x : Int32) : (vi_fs ad f rs).set k (.int x) = vi_fs ad (upd f k x) rs := by
  apply List.ext_getElem?
  intro j
  by_cases hj : k = j
  · subst hj
    rw [List.getElem?_set_self (by rw [vi_fs_len]; exact (List.getElem?_eq_some_iff.mp h).1), vi_fs_get h]
    simp [upd, vi_fv]
  · rw [List.getElem?_set_ne hj]
    have hj2 : ¬ j = k := fun e => hj e.symm
    simp only [vi_fs, List.getElem?_mapIdx]
    cases rs[j]? with
    | none => rfl
    | some r => cases r <;> simp [upd, vi_fv, hj2]
theorem vi_fs_ref {ad : Nat → Nat} {f : Nat → Int32} {rs : List (Option Value)} {k : Nat} (h : k < rs.length) (v : Value) : (vi_fs ad f rs).set k (vi_r ad v) = vi_fs ad f (rs.set k (some v)) := by
  apply List.ext_getElem?
  intro j
  by_cases hj : k = j
  · subst hj
    rw [List.getElem?_set_self (by rw [vi_fs_len]; exact h)]
    simp [vi_fs, List.getElem?_mapIdx, List.getElem?_set, h, vi_fv]
  · rw [List.getElem?_set_ne hj]
    simp [vi_fs, List.getElem?_mapIdx, List.getElem?_set_ne hj]
/-- the locals -/
def vi_lr (ad : Nat → Nat) (nL : Nat) (ls : vi_Ls) (lsA : Array Slot) : Prop := ls.length = nL ∧ lsA.size = nL ∧ lv_wf lsA ∧ ∀ (i : Nat) (v : Value), ls[i]? = some (some v) → lsA[i]? = some (.val (vi_r ad v))
theorem vi_get_some {ls : vi_Ls} {i : Nat} {v : Value} (h : vi_get ls i = some v) : ls[i]? = some (some v) := by
  unfold vi_get at h
  split at h
  · rename_i w hw; rw [hw, Option.some.inj h]
  · cases h
theorem vi_lr.at {ad : Nat → Nat} {nL : Nat} {ls : vi_Ls} {lsA : Array Slot} (h : vi_lr ad nL ls lsA) {i : Nat} {v : Value} (hv : vi_get ls i = some v) : lsA[i]? = some (.val (vi_r ad v)) := h.2.2.2 i v (vi_get_some hv)
/-- all that is known of the locals, as the kit's list -/
def vi_lv (ad : Nat → Nat) (ls : vi_Ls) : List (Nat × Value) := (List.range ls.length).filterMap (fun i => (vi_get ls i).map (fun v => (i, vi_r ad v)))
theorem vi_lv_mem {ad : Nat → Nat} {ls : vi_Ls} {i : Nat} {w : Value} : (i, w) ∈ vi_lv ad ls ↔ ∃ v, vi_get ls i = some v ∧ w = vi_r ad v := by
  unfold vi_lv
  rw [List.mem_filterMap]
  constructor
  · rintro ⟨j, -, hj⟩
    cases hg : vi_get ls j with
    | none => rw [hg] at hj; cases hj
    | some v =>
      rw [hg] at hj
      cases hj
      exact ⟨v, hg, rfl⟩
  · rintro ⟨v, hv, rfl⟩
    have hl := (List.getElem?_eq_some_iff.mp (vi_get_some hv)).1
    exact ⟨i, List.mem_range.mpr hl, by rw [hv]; rfl⟩
theorem vi_lr.has {ad : Nat → Nat} {nL : Nat} {ls : vi_Ls} {lsA : Array Slot} (h : vi_lr ad nL ls lsA) : lv_has lsA nL (vi_lv ad ls) := by
  refine ⟨h.2.1, h.2.2.1, fun q hq => ?_⟩
  obtain ⟨i, w⟩ := q
  obtain ⟨v, hv, rfl⟩ := vi_lv_mem.mp hq
  exact h.at hv
theorem vi_clr_len (ls : vi_Ls) (i : Nat) : (vi_clr ls i).length = ls.length := by
  cases i with
  | zero => rfl
  | succ j => simp only [vi_clr]; split <;> simp
theorem vi_set_len (ls : vi_Ls) (i : Nat) (v : Value) : (vi_set ls i v).length = ls.length := by
  unfold vi_set
  split <;> simp [vi_clr_len]
/-- what is left of the locals behind a store -/
theorem vi_set_get {ls : vi_Ls} {i : Nat} {v0 : Value} {j : Nat} {v : Value} (h : (vi_set ls i v0)[j]? = some (some v)) : (j = i ∧ v = v0) ∨ (j ≠ i ∧ vi_get ls j = some v ∧ ¬ (j + 1 = i ∧ v.category = 2) ∧ ¬ (v0.category = 2 ∧ j = i + 1)) := by
  by_cases hj : j = i
  · subst hj
    left
    refine ⟨rfl, ?_⟩
    unfold vi_set at h
    have hl : j < ((if (v0.category == 2) = true then (vi_clr ls j).set (j + 1) none else vi_clr ls j)).length := by
      have := (List.getElem?_eq_some_iff.mp h).1
      simpa using this
    rw [List.getElem?_set_self hl] at h
    exact (Option.some.inj (Option.some.inj h)).symm
  · right
    unfold vi_set at h
    rw [List.getElem?_set_ne (Ne.symm hj)] at h
    have h2 : (vi_clr ls i)[j]? = some (some v) ∧ ¬ (v0.category = 2 ∧ j = i + 1) := by
      split at h
      · rename_i hc
        by_cases hj1 : j = i + 1
        · subst hj1
          by_cases hl : i + 1 < (vi_clr ls i).length
          · rw [List.getElem?_set_self hl] at h; cases h
          · rw [List.getElem?_eq_none (by simpa using Nat.not_lt.mp hl)] at h; cases h
        · rw [List.getElem?_set_ne (Ne.symm hj1)] at h
          exact ⟨h, fun q => hj1 q.2⟩
      · rename_i hc
        exact ⟨h, fun q => hc (by simp [q.1])⟩
    refine ⟨hj, ?_, ?_, h2.2⟩
    · cases i with
      | zero => unfold vi_clr at h2; unfold vi_get; rw [h2.1]
      | succ i' =>
        have h3 := h2.1
        simp only [vi_clr] at h3
        split at h3
        · by_cases hji : i' = j
          · subst hji
            by_cases hl : i' < ls.length
            · rw [List.getElem?_set_self hl] at h3; cases h3
            · rw [List.getElem?_eq_none (by simpa using Nat.not_lt.mp hl)] at h3; cases h3
          · rw [List.getElem?_set_ne hji] at h3
            unfold vi_get; rw [h3]
        · unfold vi_get; rw [h3]
    · rintro ⟨rfl, hc⟩
      have h3 := h2.1
      simp only [vi_clr] at h3
      split at h3
      · by_cases hl : j < ls.length
        · rw [List.getElem?_set_self hl] at h3; cases h3
        · rw [List.getElem?_eq_none (by simpa using Nat.not_lt.mp hl)] at h3; cases h3
      · rename_i hn
        apply hn
        unfold vi_get
        rw [h3]
        simp [vi_two, hc]
theorem vi_lr.set1 {ad : Nat → Nat} {nL : Nat} {ls : vi_Ls} {lsA lsB : Array Slot} {i : Nat} {v : Value} (h : vi_lr ad nL ls lsA) (hc : v.category = 1) (hB : lv_has lsB nL ((i, vi_r ad v) :: (vi_lv ad ls).filter (fun q => !(q.1 == i) && !(q.1 + 1 == i && q.2.category == 2)))) : vi_lr ad nL (vi_set ls i v) lsB := by
  refine ⟨by rw [vi_set_len]; exact h.1, hB.1, hB.2.1, fun j w hw => ?_⟩
  rcases vi_set_get hw with ⟨rfl, rfl⟩ | ⟨h1, h2, h3, -⟩
  · exact hB.2.2 (j, vi_r ad w) List.mem_cons_self
  · refine hB.2.2 (j, vi_r ad w) (List.mem_cons_of_mem _ (List.mem_filter.mpr ⟨vi_lv_mem.mpr ⟨w, h2, rfl⟩, ?_⟩))
    have h4 : ¬ (j + 1 = i ∧ (vi_r ad w).category = 2) := by rw [vi_r_cat]; exact h3
    simp only [Bool.and_eq_true, Bool.not_eq_true', beq_eq_false_iff_ne, ne_eq, Bool.and_eq_false_iff]
    exact ⟨h1, by by_cases q : j + 1 = i
                  · exact Or.inr fun z => h4 ⟨q, z⟩
                  · exact Or.inl q⟩
theorem vi_lr.set2 {ad : Nat → Nat} {nL : Nat} {ls : vi_Ls} {lsA lsB : Array Slot} {i : Nat} {x : Int64} (h : vi_lr ad nL ls lsA) (hB : lv_has lsB nL ((i, Value.long x) :: (vi_lv ad ls).filter (fun q => !(q.1 == i) && (!(q.1 == i + 1) && !(q.1 + 1 == i && q.2.category == 2))))) : vi_lr ad nL (vi_set ls i (.long x)) lsB := by
  refine ⟨by rw [vi_set_len]; exact h.1, hB.1, hB.2.1, fun j w hw => ?_⟩
  rcases vi_set_get hw with ⟨rfl, rfl⟩ | ⟨h1, h2, h3, h5⟩
  · exact hB.2.2 (j, vi_r ad (.long x)) List.mem_cons_self
  · refine hB.2.2 (j, vi_r ad w) (List.mem_cons_of_mem _ (List.mem_filter.mpr ⟨vi_lv_mem.mpr ⟨w, h2, rfl⟩, ?_⟩))
    have h4 : ¬ (j + 1 = i ∧ (vi_r ad w).category = 2) := by rw [vi_r_cat]; exact h3
    have h6 : ¬ j = i + 1 := fun q => h5 ⟨rfl, q⟩
    simp only [Bool.and_eq_true, Bool.not_eq_true', beq_eq_false_iff_ne, ne_eq, Bool.and_eq_false_iff]
    exact ⟨h1, h6, by by_cases q : j + 1 = i
                      · exact Or.inr fun z => h4 ⟨q, z⟩
                      · exact Or.inl q⟩
/-- the locals at the entry -/
theorem vi_arg_sl (vs : List Value) : (vi_arg vs).length = (lg_sl vs).length := by
  induction vs with
  | nil => rfl
  | cons v vs ih =>
    unfold vi_arg
    simp only [lg_sl, List.flatMap_cons] at ih ⊢
    split <;> simp [ih] <;> omega
theorem vi_arg_at (ad : Nat → Nat) (vs : List Value) : ∀ (b i : Nat) (v : Value), (vi_arg vs)[i]? = some (some v) → (b + i, vi_r ad v) ∈ lv_args b (vs.map (vi_r ad)) := by
  induction vs with
  | nil => intro b i v h; simp [vi_arg] at h
  | cons w vs ih =>
    intro b i v h
    show (b + i, vi_r ad v) ∈ (b, vi_r ad w) :: lv_args (if (vi_r ad w).category = 2 then b + 2 else b + 1) (vs.map (vi_r ad))
    rw [vi_r_cat]
    unfold vi_arg at h
    split at h
    · rename_i hc
      rw [if_pos hc]
      match i, h with
      | 0, h => simp at h; subst h; exact List.mem_cons_self
      | 1, h => simp at h
      | i + 2, h =>
        have h2 : (vi_arg vs)[i]? = some (some v) := by simpa using h
        have := ih (b + 2) i v h2
        rw [show b + (i + 2) = b + 2 + i by omega]
        exact List.mem_cons_of_mem _ this
    · rename_i hc
      rw [if_neg hc]
      match i, h with
      | 0, h => simp at h; subst h; exact List.mem_cons_self
      | i + 1, h =>
        have h2 : (vi_arg vs)[i]? = some (some v) := by simpa using h
        have := ih (b + 1) i v h2
        rw [show b + (i + 1) = b + 1 + i by omega]
        exact List.mem_cons_of_mem _ this
theorem vi_ent_lr {ad : Nat → Nat} {vs : List Value} {n : Nat} (h : (vi_arg vs).length ≤ n) : vi_lr ad n (vi_ent n vs) ((lg_sl (vs.map (vi_r ad)) ++ List.replicate (n - (lg_sl (vs.map (vi_r ad))).length) Slot.unset).toArray) := by
  have hsl : (lg_sl (vs.map (vi_r ad))).length = (vi_arg vs).length := by
    rw [vi_arg_sl]
    clear h
    induction vs with
    | nil => rfl
    | cons v vs ih =>
      simp only [lg_sl, List.map_cons, List.flatMap_cons, List.length_append, vi_r_cat] at ih ⊢
      rw [ih]
      split <;> rfl
  have hb := lv_entry (vs.map (vi_r ad)) (n := n) (by rw [hsl]; exact h)
  refine ⟨by simp [vi_ent]; omega, hb.1, hb.2.1, fun i v hv => ?_⟩
  unfold vi_ent at hv
  have hv2 : (vi_arg vs)[i]? = some (some v) := by
    by_cases hl : i < (vi_arg vs).length
    · rw [List.getElem?_append_left hl] at hv; exact hv
    · rw [List.getElem?_append_right (by omega)] at hv
      have := List.eq_of_mem_replicate (List.mem_of_getElem? hv)
      cases this
  have := vi_arg_at ad vs 0 i v hv2
  rw [Nat.zero_add] at this
  exact hb.2.2 _ this
