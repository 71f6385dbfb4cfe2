/-! One instruction of the small machine is one of the real one. -/
/-- a static field: class, name, descriptor; who reads it, at which link, by which host -/
abbrev vi_Zt : Type := String × String × String × String × Nat × String
abbrev vi_Mt : Type := MethodName × ByteArray × Nat × Option FieldType × Nat
/-- words that a frame of the small machine costs at most: a callee's locals and what the machine books beside them -/
abbrev vi_Lc : Nat := 34
def vi_ws (Ts : List Cond) (q : vi_Mt) : List Cond := Cond.code q.1 q.2.1 q.2.2.1 q.2.2.2.1 :: Ts
/-- what the tables must say of a callee -/
def vi_okC (Ts : List Cond) (own : String) (i b : Nat) (dep : Nat) (q : vi_Mt) : Prop := Cond.methodLink own i q.1 ∈ Ts ∧ Cond.initialized q.1.cls ∈ Ts ∧ Cond.code q.1 q.2.1 q.2.2.1 q.2.2.2.1 ∈ Ts ∧ (q.1.cls ≠ "java/lang/invoke/MethodHandle" ∧ q.1.cls ≠ "java/lang/invoke/VarHandle" ∧ (parseMethodDescriptor q.1.desc).map (fun d => d.parameters.length) = some b) ∧ q.2.2.2.2 < dep ∧ q.2.2.1 + 19 ≤ vi_Lc ∧ plainFor q.1 = true
/-- what the tables must say of an instruction, by its links: of method q -/
def vi_okE (cl : List vw_C) (Ts : List Cond) (zt : vi_Zt) (LK : String) (nf : Nat → List (Option Value)) (mt : Nat → vi_Mt) (q : vi_Mt) (E : vi_En) : Prop := match E with
  | (pc, ins, a, b, z) => match ins with
    | .ldc i => Cond.constant q.1.cls i (Int32.ofInt z) ∈ Ts
    | .ldc2_w i => Cond.constantLong q.1.cls i (Int64.ofInt z) ∈ Ts
    | .goto off => (pc : Int) + off = (a : Int)
    | .if_icmp _ off => (pc : Int) + off = (a : Int)
    | .ifCond _ off => (pc : Int) + off = (a : Int)
    | .tableswitch d _ _ offs => 0 ≤ (pc : Int) + d ∧ ∀ o ∈ offs.toList, 0 ≤ (pc : Int) + o
    | .getfield i => ∃ r : vw_C, cl[a]? = some r ∧ b < r.2.2 ∧ (r.2.1 b).1 = r.1 ∧ Cond.fieldLink q.1.cls i r.1 (r.2.1 b).2.1 (r.2.1 b).2.2.1 ∈ Ts
    | .putfield i => ∃ (r : vw_C) (ty : FieldType), cl[a]? = some r ∧ b < r.2.2 ∧ (r.2.1 b).1 = r.1 ∧ Cond.fieldLink q.1.cls i r.1 (r.2.1 b).2.1 (r.2.1 b).2.2.1 ∈ Ts ∧ parseFieldDescriptor (r.2.1 b).2.2.1 = some ty ∧ (z = 0 → ty = .int) ∧ (z = 1 → ty = .boolean) ∧ (z = 2 → (∃ n, ty = .object n) ∨ ∃ t, ty = .array t) ∧ ((r.2.1 b).2.2.2 = false ∨ ((r.2.1 b).2.2.2 = true ∧ q.1.name = "<init>" ∧ (r.2.1 b).1 = q.1.cls))
    | .getstatic i => a = 999 ∧ (Cond.fieldLink q.1.cls i zt.1 zt.2.1 zt.2.2.1 ∈ Ts ∨ (q.1.cls = zt.2.2.2.1 ∧ i = zt.2.2.2.2.1))
    | .new i => ∃ (r : vw_C) (ty : Nat → FieldType), cl[a]? = some r ∧ Cond.classLink q.1.cls i r.1 ∈ Ts ∧ Cond.instantiable r.1 r.2.2 ∈ Ts ∧ Cond.initialized r.1 ∈ Ts ∧ (∀ k, k < r.2.2 → parseFieldDescriptor (r.2.1 k).2.2.1 = some (ty k)) ∧ (nf a).length = r.2.2 ∧ (∀ x ∈ nf a, x = none ∨ x = some .null) ∧ ∀ j, j < r.2.2 → defaultValue (ty j) = vp_V ((nf a).map (fun x => x.getD (.int 0))) j
    | .newarray t => (a = 0 ∧ t = .int ∨ a = 1 ∧ t = .boolean) ∧ Cond.arrayClass (newarray.typeOf t) ∈ Ts
    | .anewarray i => Cond.classLink q.1.cls i LK ∈ Ts
    | .aastore => ∃ r : vw_C, cl[a]? = some r ∧ r.1 = LK
    | .invokestatic i => vi_okC Ts q.1.cls i b q.2.2.2.2 (mt a) ∧ Cond.static (mt a).1 ∈ Ts
    | .invokevirtual i => vi_okC Ts q.1.cls i b q.2.2.2.2 (mt a) ∧ Cond.instanceMethod (mt a).1 ∈ Ts ∧ Cond.selects (mt a).1.cls (mt a).1 (mt a).1 ∈ Ts ∧ ∃ r : vw_C, cl[z.toNat]? = some r ∧ r.1 = (mt a).1.cls
    | .invokespecial i => if a = vi_O then Cond.methodLink q.1.cls i objectInit ∈ Ts ∧ Cond.instanceMethod objectInit ∈ Ts ∧ Cond.code objectInit ⟨#[0xb1]⟩ 1 none ∈ Ts ∧ 1 ≤ q.2.2.2.2 else vi_okC Ts q.1.cls i b q.2.2.2.2 (mt a) ∧ (mt a).2.2.2.1 = none ∧ (mt a).1.name = "<init>" ∧ Cond.instanceMethod (mt a).1 ∈ Ts
    | .ireturn => (z = 0 → q.2.2.2.1 = some .int) ∧ (¬ z = 0 → q.2.2.2.1 = some .boolean)
    | .lreturn => q.2.2.2.1 = some .long
    | .areturn => ∃ rt, q.2.2.2.1 = some rt ∧ ((∃ n, rt = .object n) ∨ ∃ t, rt = .array t)
    | .return_ => q.2.2.2.1 = none
    | _ => True
/-- how many bytes an instruction has (a switch apart: nothing comes behind it) -/
def vi_ilen : Instr → Nat
  | .bipush _ | .ldc _ | .iload _ | .lload _ | .aload _ | .istore _ | .lstore _ | .astore _ | .newarray _ => 2
  | .sipush _ | .ldc2_w _ | .iinc _ _ | .goto _ | .if_icmp _ _ | .ifCond _ _ | .getfield _ | .putfield _ | .getstatic _ | .new _ | .anewarray _ | .invokestatic _ | .invokevirtual _ | .invokespecial _ => 3
  | _ => 1
def vi_dec (cc : ByteArray) (E : vi_En) (cs : List vi_En) : Prop := match E.2.1 with
  | .tableswitch d lo hi offs => ∃ len, decode cc E.1 = .ok (.tableswitch d lo hi offs, len)
  | ins => decode cc E.1 = .ok (ins, vi_ilen ins) ∧ ∀ E2, cs.head? = some E2 → E2.1 = E.1 + vi_ilen ins
def vi_okL (ok : vi_En → Prop) (cc : ByteArray) : List vi_En → Prop
  | [] => True
  | E :: cs => vi_dec cc E cs ∧ ok E ∧ vi_okL ok cc cs
section VI
variable {p : Program} {l : Launch} {e : Env} {R : Room} {s : State} {m : MethodId} {args : Array Value} {below : List Frame} {meth : Method} {c : Code} {Q : State → Prop} {cells slots : Nat}
variable {X : vi_Ex} {nf : Nat → List (Option Value)} {D : va_G} {cl : List vw_C} {cy : Nat → ClassId} {ad : Nat → Nat} {base n0 : Nat} {Ts : List Cond} {zt : vi_Zt} {LK : String} {mt : Nat → vi_Mt} {q : vi_Mt}
/-- ours is every address from base on -/
abbrev vi_A (base : Nat) : Nat → Prop := fun j => base ≤ j
/-- what holds all the time in a method -/
def vi_Cx (X : vi_Ex) (D : va_G) (cl : List vw_C) (cy : Nat → ClassId) (ad : Nat → Nat) (base : Nat) (zt : vi_Zt) (LK : String) (n0 : Nat) (s : State) : Prop :=
  va_K D cl [(cy 0, .int), (cy 1, .boolean), (cy 2, .object LK)] s ∧ s.heap.size = base + n0 ∧ (∀ j, j < 900 → ad j = base + j) ∧ (∀ (n L : Nat) (f : Nat → Int32), X n = some (L, f) → va_T .int (ad n) L (fun j => .int (f j)) (vi_A base) s s.heap) ∧ va_Z zt.1 zt.2.1 zt.2.2.1 (.ref (ad 999)) (vi_A base) s s.heap ∧ va_AO LK s ∧ va_Nw (.fieldLinkNest zt.2.2.2.1 zt.2.2.2.2.1 zt.1 zt.2.1 zt.2.2.1 zt.2.2.2.2.2) s
/-- the frame: code, words, class -/
def vi_Fm (Ts : List Cond) (q : vi_Mt) (p : Program) (s : State) (m : MethodId) (args : Array Value) (meth : Method) (c : Code) : Prop :=
  p.tables.exec = Jvm.exec ∧ c.code = q.2.1 ∧ c.maxLocals = q.2.2.1 ∧ s.vm.findClass q.1.cls = some m.cls ∧ (∀ w ∈ Ts, w.before args s = true) ∧ meth.sig.returnType = q.2.2.2.1 ∧ meth.locks = false ∧ (q.1.name = "<init>" → meth.name = "<init>")
/-- the picture holds -/
def vi_I (D : va_G) (cl : List vw_C) (cy : Nat → ClassId) (ad : Nat → Nat) (base : Nat) (s : State) (S : vi_Me) (H : Heap) (locs : List Loc) : Prop :=
  va_P D cl (vi_W cy ad S) H ∧ va_D (vi_A base) (vi_W cy ad S) ∧ va_S (vi_A base) s.heap H locs
/-- from every heap that holds the picture the machine comes to Q -/
def vi_At (p : Program) (l : Launch) (e : Env) (R : Room) (s : State) (m : MethodId) (args : Array Value) (below : List Frame) (meth : Method) (c : Code) (Q : State → Prop) (D : va_G) (cl : List vw_C) (cy : Nat → ClassId) (ad : Nat → Nat) (base : Nat) (nL cells slots pc : Nat) (ls : vi_Ls) (st : List Value) (S : vi_Me) : Prop :=
  ∀ (H : Heap) (locs : List Loc) (lsA : Array Slot), vi_lr ad nL ls lsA → vi_I D cl cy ad base s S H locs → W p l e R s m args below meth c H locs cells slots Q (F0 m pc lsA (st.map (vi_r ad)))
def vi_sz : vi_Sh → Nat
  | .inl (_, n) => n
  | .inr (.inl (_, rs)) => rs.length
  | .inr (.inr r) => r.length
def vi_tot (S : vi_Me) : Nat := (S.1.map vi_sz).sum
/-- what the tables say of the classes -/
def vi_Cl (cl : List vw_C) (Ts : List Cond) : Prop := ∀ r ∈ cl, (∀ w ∈ u_ws r.1 r.2.1 r.2.2, w ∈ Ts) ∧ (∃ ty0 : Nat → FieldType, ∀ k, k < r.2.2 → parseFieldDescriptor (r.2.1 k).2.2.1 = some (ty0 k)) ∧ ∀ a, a < r.2.2 → ∀ b, b < r.2.2 → a ≠ b → (r.2.1 a).2.1 ≠ (r.2.1 b).2.1
theorem vi_W_put {cy : Nat → ClassId} {ad : Nat → Nat} {S : vi_Me} {n ci k : Nat} {rs : List (Option Value)} (hsh : S.1[n]? = some (.inr (.inl (ci, rs)))) (hr : rs[k]? = some none) (x : Int32) : (vi_W cy ad S).set n (ad n, .inr (ci, (vi_fs ad (S.2 n) rs).set k (.int x))) = vi_W cy ad (S.1, vi_up S.2 n k x) := by
  rw [vi_fs_int hr]
  exact vi_W_row hsh _
theorem vi_W_putr {cy : Nat → ClassId} {ad : Nat → Nat} {S : vi_Me} {n ci k : Nat} {rs : List (Option Value)} (hk : k < rs.length) (v : Value) : (vi_W cy ad S).set n (ad n, .inr (ci, (vi_fs ad (S.2 n) rs).set k (vi_r ad v))) = vi_W cy ad (S.1.set n (.inr (.inl (ci, rs.set k (some v)))), S.2) := by
  rw [vi_fs_ref hk]
  exact vi_W_shp (cy := cy) (ad := ad) (S := S) (n := n) (.inr (.inl (ci, rs.set k (some v))))
theorem vi_W_ast {cy : Nat → ClassId} {ad : Nat → Nat} {S : vi_Me} {n t L i : Nat} (hsh : S.1[n]? = some (.inl (t, L))) (x : Int32) : (vi_W cy ad S).set n (ad n, .inl (cy t, L, .inl (upd (S.2 n) i x))) = vi_W cy ad (S.1, vi_up S.2 n i x) := vi_W_row hsh _
theorem vi_rq_set {ad : Nat → Nat} {l : List (Option Nat)} {i : Nat} (hi : i < l.length) (q : Nat) : va_up (vi_rq ad l) i (some (ad q)) = vi_rq ad (l.set i (some q)) := by
  funext j
  by_cases hj : j = i
  · subst hj
    simp [va_up, vi_rq, hi]
  · simp [va_up, vi_rq, hj, Ne.symm hj]
theorem vi_rq_nil {ad : Nat → Nat} (N : Nat) : vi_rq ad (List.replicate N none) = fun _ => none := by
  funext j
  unfold vi_rq
  by_cases hj : j < N
  · simp [hj]
  · simp [hj]
theorem vi_W_aast {cy : Nat → ClassId} {ad : Nat → Nat} {S : vi_Me} {n i : Nat} {l : List (Option Nat)} (hi : i < l.length) (q : Nat) : (vi_W cy ad S).set n (ad n, .inl (cy 2, l.length, .inr (.inr (.inr (.inr (va_up (vi_rq ad l) i (some (ad q)))))))) = vi_W cy ad (S.1.set n (.inr (.inr (l.set i (some q)))), S.2) := by
  rw [vi_rq_set hi]
  have h := vi_W_shp (cy := cy) (ad := ad) (S := S) (n := n) (.inr (.inr (l.set i (some q))))
  rw [← h]
  simp [vi_con]
theorem vi_tot_set {S : vi_Me} {n : Nat} {h h' : vi_Sh} (M : Nat → Nat → Int32) (hn : S.1[n]? = some h) (he : vi_sz h' = vi_sz h) : vi_tot (S.1.set n h', M) = vi_tot S := by
  unfold vi_tot
  show ((S.1.set n h').map vi_sz).sum = _
  rw [List.map_set, he, vi_set_same (by rw [List.getElem?_map, hn]; rfl)]
/-- the address of a new cell -/
theorem vi_new_q {p : Program} {l : Launch} {e : Env} {R : Room} {s : State} {m : MethodId} {args : Array Value} {below : List Frame} {meth : Method} {c : Code} {cells slots : Nat} {T : State} {locs : List Loc} {D : va_G} {cl : List vw_C} {cy : Nat → ClassId} {ad : Nat → Nat} {base n0 : Nat} {S : vi_Me} {q : Nat} {E : va_E} {H1 : Heap} (hsz : s.heap.size = base + n0) (had : ∀ j, j < 900 → ad j = base + j) (hn : n0 + cells = S.1.length) (hlt : S.1.length < 900)
    (hP : va_P D cl (vi_W cy ad S ++ [(q, E)]) H1) (hD : va_D (vi_A base) (vi_W cy ad S ++ [(q, E)])) (hT : T.heap = H1) (X : Stand p l e R s m args below meth c T locs (cells + 1) slots) : q = ad S.1.length := by
  have hl : (vi_W cy ad S).length = S.1.length := by simp [vi_W]
  have h1 : (vi_W cy ad S ++ [(q, E)])[S.1.length]? = some (q, E) := by
    rw [← hl, List.getElem?_append_right (Nat.le_refl _)]
    simp
  have hA : base ≤ q := hD.2 _ _ h1
  have hq : q < H1.size := (hP _ _ h1).lt
  have hz := X.heapSize
  rw [hT] at hz
  rw [had _ hlt]
  by_cases hc : q < base + S.1.length
  · exfalso
    have hi : q - base < S.1.length := by omega
    have h2 : (vi_W cy ad S ++ [(q, E)])[q - base]? = some (ad (q - base), vi_con cy ad S.1[q - base] (S.2 (q - base))) := by
      rw [List.getElem?_append_left (by rw [hl]; exact hi)]
      exact vi_W_get (List.getElem?_eq_getElem hi)
    have h3 := hD.1 _ _ _ _ h2 h1 (by show ad (q - base) = q; rw [had _ (by omega)]; omega)
    omega
  · omega
theorem vi_fs0 {ad : Nat → Nat} {rs : List (Option Value)} (h : ∀ r ∈ rs, r = none ∨ r = some .null) : vi_fs ad (fun _ => 0) rs = rs.map (fun r => r.getD (.int 0)) := by
  apply List.ext_getElem?
  intro j
  simp only [vi_fs, List.getElem?_mapIdx, List.getElem?_map]
  cases hj : rs[j]? with
  | none => rfl
  | some r =>
    rcases h r (List.mem_of_getElem? hj) with rfl | rfl <;> rfl
theorem vi_dec_of {cc : ByteArray} {pc a b : Nat} {ins : Instr} {z : Int} {cs : List vi_En} (h : vi_dec cc (pc, ins, a, b, z) cs) (ht : ∀ d lo hi offs, ins ≠ .tableswitch d lo hi offs) : decode cc pc = .ok (ins, vi_ilen ins) ∧ ∀ E2, cs.head? = some E2 → E2.1 = pc + vi_ilen ins := by
  unfold vi_dec at h
  cases ins <;> first | exact h | exact absurd rfl (ht _ _ _ _)
set_option maxHeartbeats 8000000 in
set_option maxRecDepth 100000 in
theorem vi_next (F : vi_Fm Ts q p s m args meth c) (C : vi_Cx X D cl cy ad base zt LK n0 s) (hC : vi_Cl cl Ts) {E : vi_En} {cs : List vi_En} {ls ls' : vi_Ls} {st st' : List Value} {S S' : vi_Me} {o : Option Nat} (hd : vi_dec q.2.1 E cs) (hok : vi_okE cl Ts zt LK nf mt q E) (hs : vi_stp X nf E ls st S = some (.inl (o, ls', st', S')))
    (hcell : cells + (S'.1.length - S.1.length) ≤ R.cells) (hslot : slots + (vi_tot S' - vi_tot S) ≤ R.slots) (hn : n0 + cells = S.1.length) (hRf : q.2.2.2.2 ≤ R.frames) (hRl : vi_Lc * q.2.2.2.2 ≤ R.locals)
    (k : vi_At p l e R s m args below meth c Q D cl cy ad base q.2.2.1 (cells + (S'.1.length - S.1.length)) (slots + (vi_tot S' - vi_tot S)) (o.getD (E.1 + vi_ilen E.2.1)) ls' st' S') : vi_At p l e R s m args below meth c Q D cl cy ad base q.2.2.1 cells slots E.1 ls st S := by
  obtain ⟨pc, ins, a, b, z⟩ := E
  obtain ⟨hx, hb, hml, hown, hts, hr, hlk, hnm⟩ := F
  obtain ⟨hK, hsz, had, hX, hZ, hAO, hNL⟩ := C
  have same : S'.1 = S.1 → vi_At p l e R s m args below meth c Q D cl cy ad base q.2.2.1 cells slots (o.getD (pc + vi_ilen ins)) ls' st' S' := by
    intro h
    have h1 : vi_tot S' = vi_tot S := by unfold vi_tot; rw [h]
    rw [h, h1, Nat.sub_self, Nat.sub_self, Nat.add_zero, Nat.add_zero] at k
    exact k
  have same' : S'.1.length = S.1.length → vi_tot S' = vi_tot S → vi_At p l e R s m args below meth c Q D cl cy ad base q.2.2.1 cells slots (o.getD (pc + vi_ilen ins)) ls' st' S' := by
    intro h h1
    rw [h, h1, Nat.sub_self, Nat.sub_self, Nat.add_zero, Nat.add_zero] at k
    exact k
  have hAA : ∀ j, s.heap.size ≤ j → vi_A base j := fun j hj => by rw [hsz] at hj; exact Nat.le_trans (Nat.le_add_right _ _) hj
  have hty : ∀ t : Nat, t < 3 → ([(cy 0, FieldType.int), (cy 1, .boolean), (cy 2, .object LK)] : List (ClassId × FieldType))[t]? = some (cy t, if t = 0 then FieldType.int else if t = 1 then .boolean else .object LK) := by
    intro t ht
    match t, ht with
    | 0, _ => rfl
    | 1, _ => rfl
    | 2, _ => rfl
  cases ins
  case iconst n =>
    replace hd := (vi_dec_of hd (fun _ _ _ _ h => by cases h)).1
    cases hs
    exact fun H locs lsA hl hI => lv_iconst hx hb hd rfl (same rfl H locs lsA hl hI)
  case bipush n =>
    replace hd := (vi_dec_of hd (fun _ _ _ _ h => by cases h)).1
    cases hs
    exact fun H locs lsA hl hI => lv_bipush hx hb hd rfl (same rfl H locs lsA hl hI)
  case sipush n =>
    replace hd := (vi_dec_of hd (fun _ _ _ _ h => by cases h)).1
    cases hs
    exact fun H locs lsA hl hI => lv_sipush hx hb hd rfl (same rfl H locs lsA hl hI)
  case lconst n =>
    replace hd := (vi_dec_of hd (fun _ _ _ _ h => by cases h)).1
    cases hs
    exact fun H locs lsA hl hI => lv_lconst hx hb hd rfl (same rfl H locs lsA hl hI)
  case ldc i =>
    replace hd := (vi_dec_of hd (fun _ _ _ _ h => by cases h)).1
    cases hs
    exact fun H locs lsA hl hI => lv_ldc hx hb hown (hts _ hok) hd (same rfl H locs lsA hl hI)
  case ldc2_w i =>
    replace hd := (vi_dec_of hd (fun _ _ _ _ h => by cases h)).1
    cases hs
    exact fun H locs lsA hl hI => lv_ldc2 hx hb hown (hts _ hok) hd (same rfl H locs lsA hl hI)
  case iload_n i =>
    replace hd := (vi_dec_of hd (fun _ _ _ _ h => by cases h)).1
    unfold vi_stp at hs
    dsimp only at hs
    split at hs
    · rename_i x hg
      cases hs
      exact fun H locs lsA hl hI => lv_iload_n hx hb hd rfl (hl.at hg) (same rfl H locs lsA hl hI)
    · cases hs
  case iload i =>
    replace hd := (vi_dec_of hd (fun _ _ _ _ h => by cases h)).1
    unfold vi_stp at hs
    dsimp only at hs
    split at hs
    · rename_i x hg
      cases hs
      exact fun H locs lsA hl hI => lv_iload hx hb hd (hl.at hg) (same rfl H locs lsA hl hI)
    · cases hs
  case lload_n i =>
    replace hd := (vi_dec_of hd (fun _ _ _ _ h => by cases h)).1
    unfold vi_stp at hs
    dsimp only at hs
    split at hs
    · rename_i x hg
      cases hs
      exact fun H locs lsA hl hI => lv_lload_n hx hb hd rfl (hl.at hg) (same rfl H locs lsA hl hI)
    · cases hs
  case lload i =>
    replace hd := (vi_dec_of hd (fun _ _ _ _ h => by cases h)).1
    unfold vi_stp at hs
    dsimp only at hs
    split at hs
    · rename_i x hg
      cases hs
      exact fun H locs lsA hl hI => lv_lload hx hb hd (hl.at hg) (same rfl H locs lsA hl hI)
    · cases hs
  case aload_n i =>
    replace hd := (vi_dec_of hd (fun _ _ _ _ h => by cases h)).1
    unfold vi_stp at hs
    dsimp only at hs
    split at hs
    · rename_i x hg
      cases hs
      exact fun H locs lsA hl hI => lv_aload_n hx hb hd rfl (hl.at hg) (same rfl H locs lsA hl hI)
    · cases hs
  case aload i =>
    replace hd := (vi_dec_of hd (fun _ _ _ _ h => by cases h)).1
    unfold vi_stp at hs
    dsimp only at hs
    split at hs
    · rename_i x hg
      cases hs
      exact fun H locs lsA hl hI => lv_aload hx hb hd (hl.at hg) (same rfl H locs lsA hl hI)
    · cases hs
  case istore_n i =>
    replace hd := (vi_dec_of hd (fun _ _ _ _ h => by cases h)).1
    unfold vi_stp at hs
    dsimp only at hs
    split at hs
    · split at hs
      · rename_i hi
        cases hs
        exact fun H locs lsA hl hI => lv_istore_n hx hb hd rfl hl.has (by rw [← hl.1]; exact hi) rfl (fun lsB hB => same rfl H locs lsB (vi_lr.set1 hl rfl hB) hI)
      · cases hs
    · cases hs
  case istore i =>
    replace hd := (vi_dec_of hd (fun _ _ _ _ h => by cases h)).1
    unfold vi_stp at hs
    dsimp only at hs
    split at hs
    · split at hs
      · rename_i hi
        cases hs
        exact fun H locs lsA hl hI => lv_istore hx hb hd hl.has (by rw [← hl.1]; exact hi) rfl (fun lsB hB => same rfl H locs lsB (vi_lr.set1 hl rfl hB) hI)
      · cases hs
    · cases hs
  case lstore_n i =>
    replace hd := (vi_dec_of hd (fun _ _ _ _ h => by cases h)).1
    unfold vi_stp at hs
    dsimp only at hs
    split at hs
    · split at hs
      · rename_i hi
        cases hs
        exact fun H locs lsA hl hI => lv_lstore_n hx hb hd rfl hl.has (by rw [← hl.1]; exact hi) rfl (fun lsB hB => same rfl H locs lsB (vi_lr.set2 hl hB) hI)
      · cases hs
    · cases hs
  case lstore i =>
    replace hd := (vi_dec_of hd (fun _ _ _ _ h => by cases h)).1
    unfold vi_stp at hs
    dsimp only at hs
    split at hs
    · split at hs
      · rename_i hi
        cases hs
        exact fun H locs lsA hl hI => lv_lstore hx hb hd hl.has (by rw [← hl.1]; exact hi) rfl (fun lsB hB => same rfl H locs lsB (vi_lr.set2 hl hB) hI)
      · cases hs
    · cases hs
  case astore_n i =>
    replace hd := (vi_dec_of hd (fun _ _ _ _ h => by cases h)).1
    unfold vi_stp at hs
    dsimp only at hs
    split at hs
    · split at hs
      · rename_i hi
        cases hs
        exact fun H locs lsA hl hI => lv_astore_n hx hb hd rfl hl.has (by rw [← hl.1]; exact hi) rfl (fun lsB hB => same rfl H locs lsB (vi_lr.set1 hl rfl hB) hI)
      · cases hs
    · cases hs
  case astore i =>
    replace hd := (vi_dec_of hd (fun _ _ _ _ h => by cases h)).1
    unfold vi_stp at hs
    dsimp only at hs
    split at hs
    · split at hs
      · rename_i hi
        cases hs
        exact fun H locs lsA hl hI => lv_astore hx hb hd hl.has (by rw [← hl.1]; exact hi) rfl (fun lsB hB => same rfl H locs lsB (vi_lr.set1 hl rfl hB) hI)
      · cases hs
    · cases hs
  case iinc i n =>
    replace hd := (vi_dec_of hd (fun _ _ _ _ h => by cases h)).1
    unfold vi_stp at hs
    dsimp only at hs
    split at hs
    · rename_i x hg
      split at hs
      · rename_i hi
        cases hs
        intro H locs lsA hl hI
        obtain ⟨j, hj⟩ := List.getElem?_of_mem (vi_lv_mem (ad := ad).mpr ⟨_, hg, rfl⟩)
        exact lv_iinc hx hb hd hl.has hj rfl (by rw [← hl.1]; exact hi) rfl (fun lsB hB => same rfl H locs lsB (vi_lr.set1 hl rfl hB) hI)
      · cases hs
    · cases hs
  case iadd =>
    replace hd := (vi_dec_of hd (fun _ _ _ _ h => by cases h)).1
    unfold vi_stp at hs
    dsimp only [vi_bin] at hs
    split at hs
    · cases hs
      exact fun H locs lsA hl hI => lv_iadd hx hb hd (same rfl H locs lsA hl hI)
    · cases hs
  case isub =>
    replace hd := (vi_dec_of hd (fun _ _ _ _ h => by cases h)).1
    unfold vi_stp at hs
    dsimp only [vi_bin] at hs
    split at hs
    · cases hs
      exact fun H locs lsA hl hI => lv_isub hx hb hd (same rfl H locs lsA hl hI)
    · cases hs
  case imul =>
    replace hd := (vi_dec_of hd (fun _ _ _ _ h => by cases h)).1
    unfold vi_stp at hs
    dsimp only [vi_bin] at hs
    split at hs
    · cases hs
      exact fun H locs lsA hl hI => lv_imul hx hb hd (same rfl H locs lsA hl hI)
    · cases hs
  case iand =>
    replace hd := (vi_dec_of hd (fun _ _ _ _ h => by cases h)).1
    unfold vi_stp at hs
    dsimp only [vi_bin] at hs
    split at hs
    · cases hs
      exact fun H locs lsA hl hI => lv_iand hx hb hd (same rfl H locs lsA hl hI)
    · cases hs
  case ior =>
    replace hd := (vi_dec_of hd (fun _ _ _ _ h => by cases h)).1
    unfold vi_stp at hs
    dsimp only [vi_bin] at hs
    split at hs
    · cases hs
      exact fun H locs lsA hl hI => lv_ior hx hb hd (same rfl H locs lsA hl hI)
    · cases hs
  case ixor =>
    replace hd := (vi_dec_of hd (fun _ _ _ _ h => by cases h)).1
    unfold vi_stp at hs
    dsimp only [vi_bin] at hs
    split at hs
    · cases hs
      exact fun H locs lsA hl hI => lv_ixor hx hb hd (same rfl H locs lsA hl hI)
    · cases hs
  case ishl =>
    replace hd := (vi_dec_of hd (fun _ _ _ _ h => by cases h)).1
    unfold vi_stp at hs
    dsimp only [vi_bin] at hs
    split at hs
    · cases hs
      exact fun H locs lsA hl hI => lv_ishl hx hb hd (same rfl H locs lsA hl hI)
    · cases hs
  case ishr =>
    replace hd := (vi_dec_of hd (fun _ _ _ _ h => by cases h)).1
    unfold vi_stp at hs
    dsimp only [vi_bin] at hs
    split at hs
    · cases hs
      exact fun H locs lsA hl hI => lv_ishr hx hb hd (same rfl H locs lsA hl hI)
    · cases hs
  case iushr =>
    replace hd := (vi_dec_of hd (fun _ _ _ _ h => by cases h)).1
    unfold vi_stp at hs
    dsimp only [vi_bin] at hs
    split at hs
    · cases hs
      exact fun H locs lsA hl hI => lv_iushr hx hb hd rfl (same rfl H locs lsA hl hI)
    · cases hs
  case idiv =>
    replace hd := (vi_dec_of hd (fun _ _ _ _ h => by cases h)).1
    unfold vi_stp at hs
    dsimp only [vi_bin] at hs
    split at hs
    · rename_i y x r
      by_cases h0 : y = 0
      · simp [h0] at hs
      · rw [if_neg h0] at hs
        cases hs
        exact fun H locs lsA hl hI => lv_idiv hx hb hd h0 (same rfl H locs lsA hl hI)
    · cases hs
  case irem =>
    replace hd := (vi_dec_of hd (fun _ _ _ _ h => by cases h)).1
    unfold vi_stp at hs
    dsimp only [vi_bin] at hs
    split at hs
    · rename_i y x r
      by_cases h0 : y = 0
      · simp [h0] at hs
      · rw [if_neg h0] at hs
        cases hs
        exact fun H locs lsA hl hI => lv_irem hx hb hd h0 (same rfl H locs lsA hl hI)
    · cases hs
  case ladd =>
    replace hd := (vi_dec_of hd (fun _ _ _ _ h => by cases h)).1
    unfold vi_stp at hs
    dsimp only [vi_lbin] at hs
    split at hs
    · cases hs
      exact fun H locs lsA hl hI => lv_ladd hx hb hd (same rfl H locs lsA hl hI)
    · cases hs
  case lsub =>
    replace hd := (vi_dec_of hd (fun _ _ _ _ h => by cases h)).1
    unfold vi_stp at hs
    dsimp only [vi_lbin] at hs
    split at hs
    · cases hs
      exact fun H locs lsA hl hI => lv_lsub hx hb hd (same rfl H locs lsA hl hI)
    · cases hs
  case lmul =>
    replace hd := (vi_dec_of hd (fun _ _ _ _ h => by cases h)).1
    unfold vi_stp at hs
    dsimp only [vi_lbin] at hs
    split at hs
    · cases hs
      exact fun H locs lsA hl hI => lv_lmul hx hb hd (same rfl H locs lsA hl hI)
    · cases hs
  case ldiv =>
    replace hd := (vi_dec_of hd (fun _ _ _ _ h => by cases h)).1
    unfold vi_stp at hs
    dsimp only [vi_lbin] at hs
    split at hs
    · rename_i y x r
      by_cases h0 : y = 0
      · simp [h0] at hs
      · rw [if_neg h0] at hs
        cases hs
        exact fun H locs lsA hl hI => lv_ldiv hx hb hd h0 (same rfl H locs lsA hl hI)
    · cases hs
  case i2l =>
    replace hd := (vi_dec_of hd (fun _ _ _ _ h => by cases h)).1
    unfold vi_stp at hs
    dsimp only at hs
    split at hs
    · cases hs
      exact fun H locs lsA hl hI => lv_i2l hx hb hd rfl (same rfl H locs lsA hl hI)
    · cases hs
  case l2i =>
    replace hd := (vi_dec_of hd (fun _ _ _ _ h => by cases h)).1
    unfold vi_stp at hs
    dsimp only at hs
    split at hs
    · cases hs
      exact fun H locs lsA hl hI => lv_l2i hx hb hd rfl (same rfl H locs lsA hl hI)
    · cases hs
  case lcmp =>
    replace hd := (vi_dec_of hd (fun _ _ _ _ h => by cases h)).1
    unfold vi_stp at hs
    dsimp only at hs
    split at hs
    · cases hs
      exact fun H locs lsA hl hI => W.lcmp hx hb hd (same rfl H locs lsA hl hI)
    · cases hs
  case dup =>
    replace hd := (vi_dec_of hd (fun _ _ _ _ h => by cases h)).1
    unfold vi_stp at hs
    dsimp only at hs
    split at hs
    · split at hs
      · rename_i v r hc
        cases hs
        exact fun H locs lsA hl hI => lv_dup hx hb hd (by rw [vi_r_cat]; exact hc) (same rfl H locs lsA hl hI)
      · cases hs
    · cases hs
  case goto off =>
    replace hd := (vi_dec_of hd (fun _ _ _ _ h => by cases h)).1
    cases hs
    exact fun H locs lsA hl hI => lv_goto hx hb hd hok (same rfl H locs lsA hl hI)
  case if_icmp cd off =>
    replace hd := (vi_dec_of hd (fun _ _ _ _ h => by cases h)).1
    unfold vi_stp at hs
    dsimp only at hs
    split at hs
    · cases cd
      case eq =>
        dsimp only [vi_br] at hs
        split at hs <;> rename_i hc <;> cases hs
        · exact fun H locs lsA hl hI => lv_icmp_eq hx hb hd hok (fun _ => same rfl H locs lsA hl hI) (fun h => absurd hc h)
        · exact fun H locs lsA hl hI => lv_icmp_eq hx hb hd hok (fun h => absurd h hc) (fun _ => same rfl H locs lsA hl hI)
      case ne =>
        dsimp only [vi_br] at hs
        split at hs <;> rename_i hc <;> cases hs
        · exact fun H locs lsA hl hI => lv_icmp_ne hx hb hd hok (fun h => absurd hc h) (fun _ => same rfl H locs lsA hl hI)
        · exact fun H locs lsA hl hI => lv_icmp_ne hx hb hd hok (fun _ => same rfl H locs lsA hl hI) (fun h => absurd h hc)
      case lt =>
        dsimp only [vi_br] at hs
        split at hs <;> rename_i hc <;> cases hs
        · exact fun H locs lsA hl hI => lv_icmp_lt hx hb hd hok (fun _ => same rfl H locs lsA hl hI) (fun h => absurd hc h)
        · exact fun H locs lsA hl hI => lv_icmp_lt hx hb hd hok (fun h => absurd h hc) (fun _ => same rfl H locs lsA hl hI)
      case ge =>
        dsimp only [vi_br] at hs
        split at hs <;> rename_i hc <;> cases hs
        · exact fun H locs lsA hl hI => lv_icmp_ge hx hb hd hok (fun _ => same rfl H locs lsA hl hI) (fun h => absurd hc h)
        · exact fun H locs lsA hl hI => lv_icmp_ge hx hb hd hok (fun h => absurd h hc) (fun _ => same rfl H locs lsA hl hI)
      case gt =>
        dsimp only [vi_br] at hs
        split at hs <;> rename_i hc <;> cases hs
        · exact fun H locs lsA hl hI => lv_icmp_gt hx hb hd hok (fun _ => same rfl H locs lsA hl hI) (fun h => absurd hc h)
        · exact fun H locs lsA hl hI => lv_icmp_gt hx hb hd hok (fun h => absurd h hc) (fun _ => same rfl H locs lsA hl hI)
      case le =>
        dsimp only [vi_br] at hs
        split at hs <;> rename_i hc <;> cases hs
        · exact fun H locs lsA hl hI => lv_icmp_le hx hb hd hok (fun _ => same rfl H locs lsA hl hI) (fun h => absurd hc h)
        · exact fun H locs lsA hl hI => lv_icmp_le hx hb hd hok (fun h => absurd h hc) (fun _ => same rfl H locs lsA hl hI)
    · cases hs
  case ifCond cd off =>
    replace hd := (vi_dec_of hd (fun _ _ _ _ h => by cases h)).1
    unfold vi_stp at hs
    dsimp only at hs
    split at hs
    · cases cd
      case eq =>
        dsimp only [vi_br] at hs
        split at hs <;> rename_i hc <;> cases hs
        · exact fun H locs lsA hl hI => lv_if_eq hx hb hd hok (fun _ => same rfl H locs lsA hl hI) (fun h => absurd hc h)
        · exact fun H locs lsA hl hI => lv_if_eq hx hb hd hok (fun h => absurd h hc) (fun _ => same rfl H locs lsA hl hI)
      case ne =>
        dsimp only [vi_br] at hs
        split at hs <;> rename_i hc <;> cases hs
        · exact fun H locs lsA hl hI => lv_if_ne hx hb hd hok (fun h => absurd hc h) (fun _ => same rfl H locs lsA hl hI)
        · exact fun H locs lsA hl hI => lv_if_ne hx hb hd hok (fun _ => same rfl H locs lsA hl hI) (fun h => absurd h hc)
      case lt =>
        dsimp only [vi_br] at hs
        split at hs <;> rename_i hc <;> cases hs
        · exact fun H locs lsA hl hI => lv_if_lt hx hb hd hok (fun _ => same rfl H locs lsA hl hI) (fun h => absurd hc h)
        · exact fun H locs lsA hl hI => lv_if_lt hx hb hd hok (fun h => absurd h hc) (fun _ => same rfl H locs lsA hl hI)
      case ge =>
        dsimp only [vi_br] at hs
        split at hs <;> rename_i hc <;> cases hs
        · exact fun H locs lsA hl hI => lv_if_ge hx hb hd hok (fun _ => same rfl H locs lsA hl hI) (fun h => absurd hc h)
        · exact fun H locs lsA hl hI => lv_if_ge hx hb hd hok (fun h => absurd h hc) (fun _ => same rfl H locs lsA hl hI)
      case gt =>
        dsimp only [vi_br] at hs
        split at hs <;> rename_i hc <;> cases hs
        · exact fun H locs lsA hl hI => lv_if_gt hx hb hd hok (fun _ => same rfl H locs lsA hl hI) (fun h => absurd hc h)
        · exact fun H locs lsA hl hI => lv_if_gt hx hb hd hok (fun h => absurd h hc) (fun _ => same rfl H locs lsA hl hI)
      case le =>
        dsimp only [vi_br] at hs
        split at hs <;> rename_i hc <;> cases hs
        · exact fun H locs lsA hl hI => lv_if_le hx hb hd hok (fun _ => same rfl H locs lsA hl hI) (fun h => absurd hc h)
        · exact fun H locs lsA hl hI => lv_if_le hx hb hd hok (fun h => absurd h hc) (fun _ => same rfl H locs lsA hl hI)
    · cases hs
  case tableswitch d lo hi offs =>
    obtain ⟨len, hd⟩ := hd
    unfold vi_stp at hs
    dsimp only at hs
    split at hs
    · rename_i x r
      split at hs
      · rename_i hc
        cases hs
        exact fun H locs lsA hl hI => lv_tableOut hx hb hd hc (Int.toNat_of_nonneg hok.1).symm (same rfl H locs lsA hl hI)
      · rename_i hc
        split at hs
        · rename_i o ho
          cases hs
          exact fun H locs lsA hl hI => lv_tableIn hx hb hd (fun h => hc (Or.inl h)) (fun h => hc (Or.inr h)) ho (Int.toNat_of_nonneg (hok.2 o (Array.mem_toList_iff.mpr (Array.mem_of_getElem? ho)))).symm (same rfl H locs lsA hl hI)
        · cases hs
    · cases hs
  case getfield i =>
    replace hd := (vi_dec_of hd (fun _ _ _ _ h => by cases h)).1
    unfold vi_stp at hs
    dsimp only at hs
    split at hs
    · rename_i n r
      split at hs
      · rename_i v hv
        cases hs
        obtain ⟨g, hg, hbN, hdc, hlk2⟩ := hok
        obtain ⟨hin, -, -⟩ := hC g (List.mem_of_getElem? hg)
        unfold vi_fld at hv
        split at hv
        · rename_i c0 rs hsh
          split at hv
          · rename_i hce
            subst hce
            intro H locs lsA hl hI
            have hw := vi_W_get (cy := cy) (ad := ad) hsh
            refine va_get hx hb hts hin hown hK hI.1 n hw hg b hbN (hts _ hlk2) (by rw [hdc]; exact fun _ h => h) (v := vi_r ad v) ?_ hd (same rfl H locs lsA hl hI)
            split at hv
            · rename_i hrs; cases hv; exact vi_fs_get hrs
            · rename_i w hrs; cases hv; exact vi_fs_get hrs
            · cases hv
          · cases hv
        · cases hv
      · cases hs
    · cases hs
  case putfield i =>
    replace hd := (vi_dec_of hd (fun _ _ _ _ h => by cases h)).1
    unfold vi_stp at hs
    dsimp only at hs
    split at hs
    · rename_i v n r
      split at hs
      · rename_i S1 hv
        cases hs
        obtain ⟨g, ty, hg, hbN, hdc, hlk2, hpd, hz0, hz1, hz2, hfin⟩ := hok
        obtain ⟨hin, ⟨ty0, hty0⟩, hnm2⟩ := hC g (List.mem_of_getElem? hg)
        unfold vi_put at hv
        split at hv
        · rename_i c0 rs hsh
          split at hv
          · rename_i hce
            subst hce
            have hw := vi_W_get (cy := cy) (ad := ad) hsh
            have fin : ∀ (w : Value) (S2 : vi_Me), S2.1.length = S.1.length → vi_tot S2 = vi_tot S → b < rs.length → narrow ty (vi_r ad w) = vi_r ad w → fits ty (vi_r ad w) = true → (vi_W cy ad S).set n (ad n, .inr (c0, (vi_fs ad (S.2 n) rs).set b (vi_r ad w))) = vi_W cy ad S2 → vi_At p l e R s m args below meth c Q D cl cy ad base q.2.2.1 cells slots (pc + 3) ls st' S2 → vi_At p l e R s m args below meth c Q D cl cy ad base q.2.2.1 cells slots pc ls (w :: .ref n :: st') S := by
              intro w S2 e1 e2 hbr hnar hfit hset hk2 H locs lsA hl hI
              rcases hfin with hf | ⟨hf, hf2, hf3⟩
              · exact va_put hx hb hts hin ty0 hty0 hnm2 hown hK hI.1 hI.2.1 hI.2.2 n hw hg b hbN (hts _ hlk2) (by rw [hdc]; exact fun _ h => h) hf hpd hnar hfit (by rw [vi_fs_len]; exact hbr) hd (fun H1 locs1 h1 h2 h3 => by
                  rw [hset] at h1 h2
                  exact hk2 H1 locs1 lsA hl ⟨h1, h2, h3⟩)
              · exact va_putF hx hb hts hin ty0 hty0 hnm2 hown hK hI.1 hI.2.1 hI.2.2 n hw hg b hbN (hts _ hlk2) (by rw [hdc]; exact fun _ h => h) hf (hnm hf2) hf3 hpd hnar hfit (by rw [vi_fs_len]; exact hbr) hd (fun H1 locs1 h1 h2 h3 => by
                  rw [hset] at h1 h2
                  exact hk2 H1 locs1 lsA hl ⟨h1, h2, h3⟩)
            split at hv
            · rename_i x hrs
              split at hv
              · rename_i hzz
                cases hv
                refine fin (.int x) (S.1, vi_up S.2 n b x) rfl rfl (List.getElem?_eq_some_iff.mp hrs).1 ?_ ?_ (vi_W_put hsh hrs x) (same' rfl rfl)
                · rcases hzz with h | ⟨h, h3⟩
                  · rw [hz0 h]; rfl
                  · rw [hz1 h]; rcases h3 with rfl | rfl <;> rfl
                · rcases hzz with h | ⟨h, h3⟩
                  · rw [hz0 h]; rfl
                  · rw [hz1 h]; rcases h3 with rfl | rfl <;> rfl
              · cases hv
            · rename_i v0 x hrs
              split at hv
              · rename_i hzz
                cases hv
                have hbr := (List.getElem?_eq_some_iff.mp hrs).1
                refine fin (.ref x) _ (by simp) (vi_tot_set _ hsh (by simp [vi_sz])) hbr ?_ ?_ (vi_W_putr hbr (.ref x)) (same' (by simp) (vi_tot_set _ hsh (by simp [vi_sz])))
                · rcases hz2 hzz with ⟨n1, h⟩ | ⟨t1, h⟩ <;> rw [h] <;> rfl
                · rcases hz2 hzz with ⟨n1, h⟩ | ⟨t1, h⟩ <;> rw [h] <;> rfl
              · cases hv
            · cases hv
          · cases hv
        · cases hv
      · cases hs
    · cases hs
  case iaload =>
    replace hd := (vi_dec_of hd (fun _ _ _ _ h => by cases h)).1
    unfold vi_stp at hs
    dsimp only at hs
    split at hs
    · rename_i i n r
      split at hs
      · rename_i x hv
        cases hs
        unfold vi_ald at hv
        split at hv
        · rename_i t' L hsh
          split at hv
          · rename_i hc
            obtain ⟨rfl, hc⟩ := hc
            cases hv
            exact fun H locs lsA hl hI => va_iald hx hb hK hI.1 n 0 (vi_W_get hsh) rfl hc hd (same' rfl rfl H locs lsA hl hI)
          · cases hv
        · cases hv
        · split at hv
          · rename_i L f hXn
            split at hv
            · rename_i hc
              cases hv
              exact fun H locs lsA hl hI => va_ti hx hb (hX n L f hXn) hI.2.2 hc.2 rfl hd (same' rfl rfl H locs lsA hl hI)
            · cases hv
          · cases hv
      · cases hs
    · cases hs
  case baload =>
    replace hd := (vi_dec_of hd (fun _ _ _ _ h => by cases h)).1
    unfold vi_stp at hs
    dsimp only at hs
    split at hs
    · rename_i i n r
      split at hs
      · rename_i x hv
        cases hs
        unfold vi_ald at hv
        split at hv
        · rename_i t' L hsh
          split at hv
          · rename_i hc
            obtain ⟨rfl, hc⟩ := hc
            cases hv
            exact fun H locs lsA hl hI => va_zald hx hb hK hI.1 n 1 (vi_W_get hsh) rfl hc hd (same' rfl rfl H locs lsA hl hI)
          · cases hv
        · cases hv
        · split at hv
          · split at hv
            · rename_i hc
              exact absurd hc.1 (by decide)
            · cases hv
          · cases hv
      · cases hs
    · cases hs
  case iastore =>
    replace hd := (vi_dec_of hd (fun _ _ _ _ h => by cases h)).1
    unfold vi_stp at hs
    dsimp only at hs
    split at hs
    · rename_i x i n r
      split at hs
      · rename_i S1 hv
        cases hs
        unfold vi_ast at hv
        split at hv
        · rename_i t' L hsh
          split at hv
          · rename_i hc
            obtain ⟨rfl, hc⟩ := hc
            cases hv
            exact fun H locs lsA hl hI => va_iast hx hb hK hI.1 hI.2.1 hI.2.2 n 0 (vi_W_get hsh) rfl hc hd (fun H1 locs1 h1 h2 h3 => by
              rw [vi_W_ast hsh] at h1 h2
              exact same' rfl rfl H1 locs1 lsA hl ⟨h1, h2, h3⟩)
          · cases hv
        · cases hv
      · cases hs
    · cases hs
  case bastore =>
    replace hd := (vi_dec_of hd (fun _ _ _ _ h => by cases h)).1
    unfold vi_stp at hs
    dsimp only at hs
    split at hs
    · rename_i x i n r
      split at hs
      · rename_i hx01
        split at hs
        · rename_i S1 hv
          cases hs
          unfold vi_ast at hv
          split at hv
          · rename_i t' L hsh
            split at hv
            · rename_i hc
              obtain ⟨rfl, hc⟩ := hc
              cases hv
              have hnar : vp_nar .boolean x = x := by rcases hx01 with rfl | rfl <;> rfl
              exact fun H locs lsA hl hI => va_zast hx hb hK hI.1 hI.2.1 hI.2.2 n 1 (vi_W_get hsh) rfl hc hd (fun H1 locs1 h1 h2 h3 => by
                rw [hnar, vi_W_ast hsh] at h1 h2
                exact same' rfl rfl H1 locs1 lsA hl ⟨h1, h2, h3⟩)
            · cases hv
          · cases hv
        · cases hs
      · cases hs
    · cases hs
  case aaload =>
    replace hd := (vi_dec_of hd (fun _ _ _ _ h => by cases h)).1
    unfold vi_stp at hs
    dsimp only at hs
    split at hs
    · rename_i i n r
      split at hs
      · rename_i l0 hsh
        split at hs
        · rename_i hc
          split at hs
          · rename_i q0 hq0
            cases hs
            have he : va_rf (vi_rq ad l0 i.toNatClampNeg) = .ref (ad q0) := by simp [vi_rq, hq0, va_rf]
            exact fun H locs lsA hl hI => va_aldq hx hb hK hI.1 n 2 (vi_W_get hsh) rfl hc hd (by rw [he]; exact same' rfl rfl H locs lsA hl hI)
          · cases hs
        · cases hs
      · cases hs
    · cases hs
  case aastore =>
    replace hd := (vi_dec_of hd (fun _ _ _ _ h => by cases h)).1
    unfold vi_stp at hs
    dsimp only at hs
    split at hs
    · rename_i q0 i n r
      split at hs
      · rename_i l0 hsh
        split at hs
        · rename_i hc
          obtain ⟨hc, his⟩ := hc
          cases hs
          obtain ⟨g, hg, hg1⟩ := hok
          unfold vi_is at his
          split at his
          · rename_i c' fs' hq0
            have hce : c' = a := by simpa using his
            subst hce
            have hlt : i.toNatClampNeg < l0.length := Nat.not_le.mp fun z => hc (Or.inr z)
            exact fun H locs lsA hl hI => va_astq hx hb hK hI.1 hI.2.1 hI.2.2 n 2 q0 c' (vi_W_get hsh) (by rw [hg1]; rfl) (vi_W_get hq0) hg hc hd (fun H1 locs1 h1 h2 h3 => by
              rw [vi_W_aast hlt] at h1 h2
              exact same' (by simp) (vi_tot_set _ hsh (by simp [vi_sz])) H1 locs1 lsA hl ⟨h1, h2, h3⟩)
          · cases his
        · cases hs
      · cases hs
    · cases hs
  case arraylength =>
    replace hd := (vi_dec_of hd (fun _ _ _ _ h => by cases h)).1
    unfold vi_stp at hs
    dsimp only at hs
    split at hs
    · rename_i n r
      split at hs
      · rename_i L hv
        cases hs
        unfold vi_len at hv
        split at hv
        · rename_i t L' hsh
          split at hv
          · rename_i ht
            cases hv
            exact fun H locs lsA hl hI => va_alen hx hb hK hI.1 n t (vi_W_get hsh) (hty t ht) rfl hd (same' rfl rfl H locs lsA hl hI)
          · cases hv
        · rename_i r0 hsh
          cases hv
          exact fun H locs lsA hl hI => va_alen hx hb hK hI.1 n 2 (vi_W_get hsh) (hty 2 (by decide)) rfl hd (same' rfl rfl H locs lsA hl hI)
        · cases hv
        · rw [Option.map_eq_some_iff] at hv
          obtain ⟨⟨L2, f⟩, hXn, rfl⟩ := hv
          exact fun H locs lsA hl hI => va_tlen hx hb (hX n _ f hXn) hI.2.2 rfl hd (same' rfl rfl H locs lsA hl hI)
      · cases hs
    · cases hs
  case getstatic i =>
    replace hd := (vi_dec_of hd (fun _ _ _ _ h => by cases h)).1
    cases hs
    obtain ⟨rfl, hl1 | ⟨hl1, hl2⟩⟩ := hok
    · exact fun H locs lsA hl hI => va_gets hx hb hZ hI.2.2 hown (hts _ hl1) (fun _ h => h) hd (same' rfl rfl H locs lsA hl hI)
    · exact fun H locs lsA hl hI => va_getsN hx hb hZ hI.2.2 hown (by rw [hl1, hl2]; exact va_Nw.use rfl hNL) (fun _ h => h) hd (same' rfl rfl H locs lsA hl hI)
  case new i =>
    replace hd := (vi_dec_of hd (fun _ _ _ _ h => by cases h)).1
    unfold vi_stp at hs
    dsimp only at hs
    split at hs
    · rename_i hlt
      cases hs
      obtain ⟨g, ty, hg, h1, h2, h3, h4, h5, h6, h7⟩ := hok
      obtain ⟨hin, -, -⟩ := hC g (List.mem_of_getElem? hg)
      have e1 : (S.1 ++ [Sum.inr (Sum.inl (a, nf a))]).length - S.1.length = 1 := by simp
      have e2 : vi_tot (S.1 ++ [.inr (.inl (a, nf a))], vi_row S.2 S.1.length (fun _ => 0)) - vi_tot S = g.2.2 := by simp [vi_tot, vi_sz, h5]
      dsimp only at k hcell hslot
      rw [e1] at k hcell
      rw [e2] at k hslot
      intro H locs lsA hl hI
      refine va_new hx hb hts hin ty h4 hown (hts _ h1) (hts _ h2) (hts _ h3) hK hI.1 hI.2.1 hI.2.2 hAA hg (fs := vi_fs ad (fun _ => 0) (nf a)) (fun j hj => by rw [vi_fs0 h6]; exact h7 j hj) hcell hslot hd (fun q0 H1 p1 p2 p3 => ?_)
      intro T hT X1
      have hq0 := vi_new_q hsz had hn hlt p1 p2 hT X1
      subst hq0
      have hpush := vi_W_push (cy := cy) (ad := ad) (S := S) (.inr (.inl (a, nf a))) (fun _ => 0)
      dsimp only [vi_con] at hpush
      rw [hpush] at p1 p2
      exact k H1 locs lsA hl ⟨p1, p2, p3⟩ T hT X1
    · cases hs
  case newarray t =>
    replace hd := (vi_dec_of hd (fun _ _ _ _ h => by cases h)).1
    unfold vi_stp at hs
    dsimp only at hs
    split at hs
    · rename_i n r
      split at hs
      · rename_i hc
        obtain ⟨hlt, hn0, hn1⟩ := hc
        cases hs
        obtain ⟨hat, harr⟩ := hok
        have e1 : (S.1 ++ [Sum.inl (a, n.toNatClampNeg)]).length - S.1.length = 1 := by simp
        have e2 : vi_tot (S.1 ++ [.inl (a, n.toNatClampNeg)], vi_row S.2 S.1.length (fun _ => 0)) - vi_tot S = n.toNatClampNeg := by simp [vi_tot, vi_sz]
        dsimp only at k hcell hslot
        rw [e1] at k hcell
        rw [e2] at k hslot
        intro H locs lsA hl hI
        have hpush := vi_W_push (cy := cy) (ad := ad) (S := S) (.inl (a, n.toNatClampNeg)) (fun _ => 0)
        dsimp only [vi_con] at hpush
        rcases hat with ⟨rfl, rfl⟩ | ⟨rfl, rfl⟩
        · refine va_newa hx hb (hts _ harr) (ty := .int) rfl hK hI.1 hI.2.1 hI.2.2 hAA (a0 := (n.toNatClampNeg, .inl (fun _ => 0))) (fun cA => rfl) hn0 rfl (by show _ * 4 ≤ _; omega) hcell hslot hd (fun q0 cA H1 p0 p1 p2 p3 => ?_)
          have hcA : cA = cy 0 := by
            have g1 := (p0.2 3 (cA, .int) rfl).2
            have g2 := (hK.2 0 (cy 0, .int) rfl).2
            exact Option.some.inj (g1.symm.trans g2)
          subst hcA
          intro T hT X1
          have hq0 := vi_new_q hsz had hn hlt p1 p2 hT X1
          subst hq0
          rw [hpush] at p1 p2
          exact k H1 locs lsA hl ⟨p1, p2, p3⟩ T hT X1
        · refine va_newa hx hb (hts _ harr) (ty := .boolean) rfl hK hI.1 hI.2.1 hI.2.2 hAA (a0 := (n.toNatClampNeg, .inl (fun _ => 0))) (fun cA => rfl) hn0 rfl (by show _ * 1 ≤ _; omega) hcell hslot hd (fun q0 cA H1 p0 p1 p2 p3 => ?_)
          have hcA : cA = cy 1 := by
            have g1 := (p0.2 3 (cA, .boolean) rfl).2
            have g2 := (hK.2 1 (cy 1, .boolean) rfl).2
            exact Option.some.inj (g1.symm.trans g2)
          subst hcA
          intro T hT X1
          have hq0 := vi_new_q hsz had hn hlt p1 p2 hT X1
          subst hq0
          rw [hpush] at p1 p2
          exact k H1 locs lsA hl ⟨p1, p2, p3⟩ T hT X1
      · cases hs
    · cases hs
  case anewarray i =>
    replace hd := (vi_dec_of hd (fun _ _ _ _ h => by cases h)).1
    unfold vi_stp at hs
    dsimp only at hs
    split at hs
    · rename_i n r
      split at hs
      · rename_i hc
        obtain ⟨hlt, hn0, hn1⟩ := hc
        cases hs
        have hcl := hok
        have e1 : (S.1 ++ [Sum.inr (Sum.inr (List.replicate n.toNatClampNeg none))]).length - S.1.length = 1 := by simp
        have e2 : vi_tot (S.1 ++ [.inr (.inr (List.replicate n.toNatClampNeg none))], vi_row S.2 S.1.length (fun _ => 0)) - vi_tot S = n.toNatClampNeg := by simp [vi_tot, vi_sz]
        dsimp only at k hcell hslot
        rw [e1] at k hcell
        rw [e2] at k hslot
        intro H locs lsA hl hI
        have hpush := vi_W_push (cy := cy) (ad := ad) (S := S) (.inr (.inr (List.replicate n.toNatClampNeg none))) (fun _ => 0)
        dsimp only [vi_con] at hpush
        rw [vi_rq_nil, List.length_replicate] at hpush
        refine va_newq hx hb hown (hts _ hcl) hAO hK hI.1 hI.2.1 hI.2.2 hAA hn0 rfl (by omega) hcell hslot hd (fun q0 cA H1 p0 p1 p2 p3 => ?_)
        have hcA : cA = cy 2 := by
          obtain ⟨_, _, -, -, -, g1⟩ := (p0.2 3 (cA, .object LK) rfl).2
          obtain ⟨_, _, -, -, -, g2⟩ := (hK.2 2 (cy 2, .object LK) rfl).2
          exact Option.some.inj (g1.symm.trans g2)
        subst hcA
        intro T hT X1
        have hq0 := vi_new_q hsz had hn hlt p1 p2 hT X1
        subst hq0
        rw [hpush] at p1 p2
        exact k H1 locs lsA hl ⟨p1, p2, p3⟩ T hT X1
      · cases hs
    · cases hs
  case invokespecial i =>
    replace hd := (vi_dec_of hd (fun _ _ _ _ h => by cases h)).1
    unfold vi_stp at hs
    dsimp only at hs
    split at hs
    · rename_i ha
      split at hs
      · rename_i x r
        split at hs
        · rename_i hw
          cases hs
          dsimp only [vi_okE] at hok
          rw [if_pos ha] at hok
          obtain ⟨h1, h2, h3, h4⟩ := hok
          intro H locs lsA hl hI
          refine W.objInit hx hb hown (hts _ h1) (hts _ h2) (hts _ h3) rfl (by rw [hml]; exact hl.2.1) rfl hd (by omega) ?_ (same' rfl rfl H locs lsA hl hI)
          have e1 : ((st'.map (vi_r ad)).map fun v => v.category) = st'.map fun v => v.category := by
            rw [List.map_map]
            exact List.map_congr_left (fun v _ => vi_r_cat ad v)
          show 2 * 0 + _ + 12 ≤ R.locals
          rw [e1]
          have : 34 * 1 ≤ vi_Lc * q.2.2.2.2 := Nat.mul_le_mul_left _ h4
          omega
        · cases hs
      · cases hs
    · unfold vi_calr at hs
      split at hs
      · split at hs <;> cases hs
      · cases hs
  case invokevirtual i =>
    unfold vi_stp vi_calr at hs
    dsimp only at hs
    split at hs
    · split at hs <;> cases hs
    · cases hs
  case invokestatic i =>
    unfold vi_stp vi_call at hs
    dsimp only at hs
    split at hs <;> cases hs
  case ireturn =>
    unfold vi_stp at hs
    dsimp only at hs
    split at hs
    · split at hs <;> cases hs
    · cases hs
  case lreturn =>
    unfold vi_stp at hs
    dsimp only at hs
    split at hs <;> cases hs
  case areturn =>
    unfold vi_stp at hs
    dsimp only at hs
    split at hs <;> cases hs
  case return_ =>
    unfold vi_stp at hs
    dsimp only at hs
    split at hs <;> cases hs
  all_goals cases hs
end VI
