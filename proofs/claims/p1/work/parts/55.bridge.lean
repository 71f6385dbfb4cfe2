/-! THE CLAIM OUT OF ONE WALK OF THE LAW'S BODY. Your part is whole_start (and what it stands on); all else here is the same for every law, but numbers. -/
def R_law : String := "SectorDocumentLaw"
def lw_P (b : Addr) (xs : List Int32) (args : Array Value) (s : State) : Prop := args = #[.ref b] ∧ s.IntsAt b xs ∧ xs.length ≤ 6 ∧ (Jvm.Cond.and given_1 narrow_1).before args s = true
def lw_Q (_ : Array Value) (s : State) (o : Outcome) (t : State) : Prop := o = .returned (some (.int 1)) ∧ Framed s o t [] 600000 7302250
def lw_Z (below : List Frame) (a : Array Value) (s : State) : State → Prop := fun t => ∃ o, t.status = .running ∧ Ended t below o ∧ lw_Q a s o t
/-- the law's own end, with 1 on the stack, nothing written that was there before, its room as the claim has it -/
theorem lw_ret {p : Program} {l : Launch} {e : Env} {s : State} {m : MethodId} {below : List Frame} {meth : Method} {c : Code} {b : Nat} (hx : p.tables.exec = Jvm.exec) (hb : c.code = code) (hr : meth.sig.returnType = ret) (hlocks : meth.locks = false) {pc : Nat} {H : Heap} {ls : Array Slot} (hdg : decode code pc = .ok (.ireturn, 1)) : W p l e room_1 s m #[Value.ref b] below meth c H [] 600000 7302250 (lw_Z below #[Value.ref b] s) (F0 m pc ls [.int 1]) := by
  intro T hT X
  obtain ⟨fs, hret, hrun, hended, hW, hframe⟩ := X.leave (v := some (.int 1)) (hlocks := hlocks) (fun h => by rw [hr] at h; cases h)
  have hmeth' : T.vm.method? m = some meth := X.method'
  refine ⟨T.setFrames fs, ?_, .returned (some (.int 1)), hrun, hended, rfl, ⟨_, rfl⟩, hW, hframe⟩
  jvm_step X.here [X.here.top, hx, hb, hdg, hmeth', hr, ret, narrow_b1]
  (try refine ⟨rfl, ?_⟩); (try refine ⟨rfl, ?_⟩)
  first | (intro acts; rw [hret _ acts rfl rfl rfl]) | rw [hret _ _ rfl rfl rfl]
  exact Steps.refl _
/-- what holds at the law's entry: the machine, the code, the tables' words (any of lw_tbl by 'hts w (by decide +kernel)'), the script of L ints xs at the cell b, what the Statement gives of the start (any of its parts by flat_of_before) -/
def lw_At (p : Program) (s : State) (m : MethodId) (meth : Method) (c : Code) (b L : Nat) (xs : Nat → Int32) : Prop :=
  p.tables.exec = Jvm.exec ∧ c.code = code ∧ meth.sig.returnType = ret ∧ c.maxLocals = 4 ∧ s.vm.findClass R_law = some m.cls ∧ (∀ w ∈ lw_tbl, w.before #[Value.ref b] s = true) ∧ va_X b L xs s s.heap ∧ b < s.heap.size ∧ meth.locks = false ∧ (Jvm.Cond.and given_1 narrow_1).before #[Value.ref b] s = true
/-- what the static table holds -/
def v_trs : List Int32 := [128, 129, 8218, 402, 8222, 8230, 8224, 8225, 710, 8240, 352, 8249, 338, 141, 142, 143, 144, 8216, 8217, 8220, 8221, 8226, 8211, 8212, 732, 8482, 353, 8250, 339, 157, 158, 376]
def v_tr (j : Nat) : Int32 := v_trs.getD j 0
/-- the arrays outside the picture: the script, the static table -/
def v_X (L : Nat) (xs : Nat → Int32) : vi_Ex := fun n => if n = 998 then some (L, xs) else if n = 999 then some (32, v_tr) else none
/-- THE LAW, over the small machine -/
def v_Law : Prop := ∀ (L : Nat) (xs : Nat → Int32), L ≤ 6 → vo (v_X L xs) 231 [.ref 998] ([], fun _ _ => 0) (fun v S => v = some (.int 1) ∧ S.1.length ≤ 600000 ∧ vi_tot S ≤ 7302250)
theorem v_sub {w : Cond} (h : w ∈ v_Ts) : w ∈ lw_tbl := (List.mem_filter.mp h).1
theorem v_arr {args : Array Value} {s : State} {ty : FieldType} (hty : ∀ C, ty ≠ .object C) (h : (Cond.arrayClass ty).before args s = true) : ∃ cA : ClassId, ArrOfT s cA ty ∧ va_RA s cA ty := by
  obtain ⟨c, k, comp, h1, h2, h3⟩ := Cond.arrayClass_spec h
  refine ⟨c, fun n z => ⟨fun k h => (by cases h), k, h2, comp, h3⟩, ?_⟩
  cases ty <;> first | exact absurd rfl (hty _) | exact h1
theorem v_arrO {args : Array Value} {s : State} {C : String} (h : (Cond.arrayOver (.object C)).before args s = true) : ∃ cA : ClassId, ArrOfT s cA (.object C) ∧ va_RA s cA (.object C) := by
  obtain ⟨comp, c, k, h1, h2, h3, h4, h5⟩ := Cond.arrayOver_spec h
  exact ⟨c, fun n z => ⟨fun k h => (by cases h), k, h3, comp, h4⟩, k, comp, h3, h4, h1, h5⟩
theorem v_known {args : Array Value} {s : State} (hts : ∀ w ∈ lw_tbl, w.before args s = true) : ∃ D : va_G, ∀ (c : Nat) (q : vw_C), v_cl[c]? = some q → u_Kn s q.1 q.2.1 q.2.2 (D.1 c) (D.2 c) := by
  have h : ∀ c : Nat, ∃ x : ClassId × (Nat → Nat), ∀ q, v_cl[c]? = some q → u_Kn s q.1 q.2.1 q.2.2 x.1 x.2 := by
    intro c
    cases hq : v_cl[c]? with
    | none => exact ⟨(0, fun _ => 0), fun q h => by cases h⟩
    | some q =>
      have hc : c < 13 := (List.getElem?_eq_some_iff.mp hq).1
      obtain ⟨r, ty, a1, a2, a3, a4, a5⟩ := v_new_ok c hc
      obtain ⟨r2, b1, b2, b3, b4, b5⟩ := v_new_ok2 c hc
      have e1 : r = q := Option.some.inj (a1.symm.trans hq)
      have e2 : r2 = q := Option.some.inj (b1.symm.trans hq)
      subst e1; subst e2
      obtain ⟨cC, iS, hK⟩ := u_known (ws := v_Ts) (fun w hw => hts w (v_sub hw)) a4 (hts _ (v_sub b2))
      exact ⟨(cC, iS), fun q h => by cases h; exact hK⟩
  exact ⟨(fun c => (Classical.choose (h c)).1, fun c => (Classical.choose (h c)).2), fun c q hq => Classical.choose_spec (h c) q hq⟩
theorem v_flatC {w : Cond} (h : (flatC (Jvm.Cond.and given_1 narrow_1)).contains w = true) : w ∈ flatC (Jvm.Cond.and given_1 narrow_1) := by
  simpa using h
theorem v_table {args : Array Value} {s : State} {A : Nat → Prop} (hgv : (Jvm.Cond.and given_1 narrow_1).before args s = true) (hA : ∀ a : Nat, a < s.heap.size → ¬ A a) : ∃ t : Nat, (Term.static "SectorDocument" "TRANSLATED" "[I").eval args s none [] s = some (.ref t) ∧ va_T .int t 32 (fun j => .int (v_tr j)) A s s.heap := by
  have hf := flat_of_before _ hgv
  refine va_Tof (by decide) (hf _ (by decide +kernel)) (va_eqt (hf _ (by decide +kernel))) ?_ hA
  intro j hj
  match j, hj with
  | 0, _ => exact va_eqt (z := v_tr 0) (hf _ (by decide +kernel))
  | 1, _ => exact va_eqt (z := v_tr 1) (hf _ (by decide +kernel))
  | 2, _ => exact va_eqt (z := v_tr 2) (hf _ (by decide +kernel))
  | 3, _ => exact va_eqt (z := v_tr 3) (hf _ (by decide +kernel))
  | 4, _ => exact va_eqt (z := v_tr 4) (hf _ (by decide +kernel))
  | 5, _ => exact va_eqt (z := v_tr 5) (hf _ (by decide +kernel))
  | 6, _ => exact va_eqt (z := v_tr 6) (hf _ (by decide +kernel))
  | 7, _ => exact va_eqt (z := v_tr 7) (hf _ (by decide +kernel))
  | 8, _ => exact va_eqt (z := v_tr 8) (hf _ (by decide +kernel))
  | 9, _ => exact va_eqt (z := v_tr 9) (hf _ (by decide +kernel))
  | 10, _ => exact va_eqt (z := v_tr 10) (hf _ (by decide +kernel))
  | 11, _ => exact va_eqt (z := v_tr 11) (hf _ (by decide +kernel))
  | 12, _ => exact va_eqt (z := v_tr 12) (hf _ (by decide +kernel))
  | 13, _ => exact va_eqt (z := v_tr 13) (hf _ (by decide +kernel))
  | 14, _ => exact va_eqt (z := v_tr 14) (hf _ (by decide +kernel))
  | 15, _ => exact va_eqt (z := v_tr 15) (hf _ (by decide +kernel))
  | 16, _ => exact va_eqt (z := v_tr 16) (hf _ (by decide +kernel))
  | 17, _ => exact va_eqt (z := v_tr 17) (hf _ (by decide +kernel))
  | 18, _ => exact va_eqt (z := v_tr 18) (hf _ (by decide +kernel))
  | 19, _ => exact va_eqt (z := v_tr 19) (hf _ (by decide +kernel))
  | 20, _ => exact va_eqt (z := v_tr 20) (hf _ (by decide +kernel))
  | 21, _ => exact va_eqt (z := v_tr 21) (hf _ (by decide +kernel))
  | 22, _ => exact va_eqt (z := v_tr 22) (hf _ (by decide +kernel))
  | 23, _ => exact va_eqt (z := v_tr 23) (hf _ (by decide +kernel))
  | 24, _ => exact va_eqt (z := v_tr 24) (hf _ (by decide +kernel))
  | 25, _ => exact va_eqt (z := v_tr 25) (hf _ (by decide +kernel))
  | 26, _ => exact va_eqt (z := v_tr 26) (hf _ (by decide +kernel))
  | 27, _ => exact va_eqt (z := v_tr 27) (hf _ (by decide +kernel))
  | 28, _ => exact va_eqt (z := v_tr 28) (hf _ (by decide +kernel))
  | 29, _ => exact va_eqt (z := v_tr 29) (hf _ (by decide +kernel))
  | 30, _ => exact va_eqt (z := v_tr 30) (hf _ (by decide +kernel))
  | 31, _ => exact va_eqt (z := v_tr 31) (hf _ (by decide +kernel))
  | n + 32, h => omega
set_option maxHeartbeats 1000000 in
/-- the claim's start out of the law over the small machine -/
theorem v_start (hLaw : v_Law) {p : Program} {e : Env} {s : State} {m : MethodId} {below : List Frame} {meth : Method} {c : Code} (l : Launch) {b L : Nat} {xs : Nat → Int32} (hL : L ≤ 6) (C0 : lw_At p s m meth c b L xs) : W p l e room_1 s m #[Value.ref b] below meth c s.heap [] 0 0 (lw_Z below #[Value.ref b] s) (entryFrame m ([Value.ref b] : List Value).toArray 4) := by
  obtain ⟨hx, hb, hr, hml, hown, hts, hX, hbl, hlk, hgv⟩ := C0
  have hA : ∀ a : Nat, a < s.heap.size → ¬ vi_A s.heap.size a := fun a h1 h2 => Nat.lt_irrefl _ (Nat.lt_of_lt_of_le h1 h2)
  obtain ⟨t, ht1, ht2⟩ := v_table (A := vi_A s.heap.size) hgv hA
  obtain ⟨D, hD⟩ := v_known hts
  have hap := v_ap_c
  simp only [Bool.and_eq_true] at hap
  obtain ⟨⟨⟨ap1, ap2⟩, ap4⟩, ap5⟩ := hap
  have hover : (Cond.arrayOver (.object v_LK)).before #[Value.ref b] s = true := hts _ (by simpa using v_over_c)
  have hnest := hts _ (show Cond.fieldLinkNest v_zt.2.2.2.1 v_zt.2.2.2.2.1 v_zt.1 v_zt.2.1 v_zt.2.2.1 v_zt.2.2.2.2.2 ∈ lw_tbl by simpa using v_nest_c)
  obtain ⟨c0, i1, i2⟩ := v_arr (ty := .int) (fun C h => by cases h) (hts _ (v_sub (v_at_mem ap1)))
  obtain ⟨c1, j1, j2⟩ := v_arr (ty := .boolean) (fun C h => by cases h) (hts _ (v_sub (v_at_mem ap2)))
  obtain ⟨c2, k1, k2⟩ := v_arrO hover
  obtain ⟨hfit, n, v, Sf, hR, hv, hc, hs⟩ := hLaw L xs hL
  subst hv
  let cy : Nat → ClassId := fun n => if n = 0 then c0 else if n = 1 then c1 else c2
  let ad : Nat → Nat := fun n => if n < 900 then s.heap.size + n else if n = 998 then b else t
  have hini : (Cond.initialized "SectorDocument").before #[Value.ref b] s = true := hts _ (by decide +kernel)
  have hlay : (Cond.laysStatic "SectorDocument" "TRANSLATED" "[I").before #[Value.ref b] s = true := hts _ (by decide +kernel)
  have C : vi_Cx (v_X L xs) D v_cl cy ad s.heap.size v_zt v_LK 0 s := by
    refine ⟨⟨hD, fun k q hk => ?_⟩, rfl, fun j hj => if_pos hj, fun n L2 f hn => ?_, va_Zref hlay hini ht1 hA, va_AO.of hover, va_Nw.of rfl hnest⟩
    · match k, hk with
      | 0, hk => cases hk; exact ⟨i1, i2⟩
      | 1, hk => cases hk; exact ⟨j1, j2⟩
      | 2, hk => cases hk; exact ⟨k1, k2⟩
      | k + 3, hk => simp at hk
    · unfold v_X at hn
      split at hn
      · rename_i h998
        subst h998
        cases hn
        obtain ⟨scr, h1, h2, h3, h4, h5⟩ := hX
        exact ⟨scr, h1, h2, h3, Nat.le_of_eq h4.symm, by rw [h4] <;> rfl, h5, hA b hbl⟩
      · split at hn
        · rename_i h999
          subst h999
          cases hn
          exact ht2
        · cases hn
  have F : vi_Fm v_Ts (v_mt 231) p s m #[Value.ref b] meth c := ⟨hx, hb, hml, hown, fun w hw => hts w (v_sub hw), hr, hlk, fun h => absurd h (by decide)⟩
  rw [lg_entry_eq]
  obtain ⟨hb1, hb2⟩ := v_okB 231 0
  rw [vb231_0] at hR hb1 hb2
  have hgo := vi_walk (p := p) (l := l) (e := e) (R := room_1) (below := below) (Q := lw_Z below #[Value.ref b] s) (t0 := 0) (n0 := 0) v_good v_Cl v_okB (fun j _ => vi_sound v_good v_Cl v_okB j) F C (Sf := Sf) (v := some (.int 1)) (by show _ ≤ 0 + 600000; omega) (by show _ ≤ 0 + 7302250; omega) (by decide) (by decide) (fun E cs ls st S1 cells slots a1 a2 a3 a4 a5 => ?_) n (Nat.le_refl _) (vc231_0.head (by decide)) vc231_0.tail (vi_ent (vi_nl v_mt 231) [.ref 998]) [] ([], fun _ _ => 0) 0 0 hb1 hR rfl rfl (by decide)
  · exact hgo s.heap [] _ (vi_ent_lr hfit) ⟨fun k q hk => by simp [vi_W] at hk, ⟨fun i j p q hi => by simp [vi_W] at hi, fun k q hk => by simp [vi_W] at hk⟩, va_S.rf⟩
  · obtain ⟨pc, ins, a, b2, z⟩ := E
    have hSS : S1 = Sf ∧ ins = .ireturn ∧ st = [.int 1] := by
      cases ins
      case ireturn =>
        unfold vi_stp at a3
        dsimp only at a3
        split at a3
        · split at a3
          · cases a3; exact ⟨rfl, rfl, rfl⟩
          · cases a3
        · cases a3
      all_goals
        exfalso
        unfold vi_stp at a3
        first
        | (cases a3; done)
        | (try dsimp only [vi_call, vi_calr] at a3
           repeat' (split at a3)
           all_goals (cases a3; done))
    obtain ⟨rfl, rfl, rfl⟩ := hSS
    have hd := (vi_dec_of a1 (fun _ _ _ _ h => by cases h)).1
    intro H locs lsA hl hI
    refine va_forget (fun q hq => hI.2.2.2.2 q hq) ?_
    intro T hT X1
    have X2 := stand_widen (k := 600000) (n := 7302250) X1 (by omega) (by omega)
    exact lw_ret hx hb hr hlk hd T hT X2
