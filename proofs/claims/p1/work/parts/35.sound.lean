/-! The small machine's runs are the real one's. -/
def vi_le (S S' : vi_Me) : Prop := S.1.length ≤ S'.1.length ∧ vi_tot S ≤ vi_tot S' ∧ (S.1.length ≤ 900 → S'.1.length ≤ 900)
theorem vi_le.rf {S : vi_Me} : vi_le S S := ⟨Nat.le_refl _, Nat.le_refl _, fun h => h⟩
theorem vi_le.tr {S S1 S2 : vi_Me} (h : vi_le S S1) (h1 : vi_le S1 S2) : vi_le S S2 := ⟨Nat.le_trans h.1 h1.1, Nat.le_trans h.2.1 h1.2.1, fun x => h1.2.2 (h.2.2 x)⟩
theorem vi_le.sm {S S' : vi_Me} (h : S'.1.length = S.1.length) (h1 : vi_tot S' = vi_tot S) : vi_le S S' := ⟨Nat.le_of_eq h.symm, Nat.le_of_eq h1.symm, fun x => h ▸ x⟩
def vi_acM : vi_Ac → vi_Me
  | .inl r => r.2.2.2
  | .inr (.inl r) => r.2.2.2.2
  | .inr (.inr r) => r.2
theorem vi_put_le {S S' : vi_Me} {n ci fi : Nat} {z : Int} {v : Value} (h : vi_put S n ci fi z v = some S') : vi_le S S' := by
  unfold vi_put at h
  split at h
  · rename_i c rs hsh
    split at h
    · split at h
      · split at h
        · cases h; exact vi_le.rf
        · cases h
      · split at h
        · cases h
          exact vi_le.sm (by simp) (vi_tot_set _ hsh (by simp [vi_sz]))
        · cases h
      · cases h
    · cases h
  · cases h
theorem vi_ast_le {S S' : vi_Me} {n t : Nat} {i x : Int32} (h : vi_ast S n t i x = some S') : vi_le S S' := by
  unfold vi_ast at h
  split at h
  · split at h
    · cases h; exact vi_le.rf
    · cases h
  · cases h
theorem vi_push_le {S : vi_Me} {h : vi_Sh} {M : Nat → Nat → Int32} (hl : S.1.length < 900) : vi_le S (S.1 ++ [h], M) := by
  refine ⟨?_, ?_, fun _ => ?_⟩
  · show S.1.length ≤ (S.1 ++ [h]).length
    simp
  · simp [vi_tot]
  · show (S.1 ++ [h]).length ≤ 900
    simp; omega
set_option maxHeartbeats 4000000 in
theorem vi_stp_le {X : vi_Ex} {nf : Nat → List (Option Value)} {E : vi_En} {ls : vi_Ls} {st : List Value} {S : vi_Me} {r : vi_Ac} (hs : vi_stp X nf E ls st S = some r) : vi_le S (vi_acM r) := by
  obtain ⟨pc, ins, a, b, z⟩ := E
  cases ins
  case putfield i =>
    unfold vi_stp at hs
    dsimp only at hs
    split at hs
    · split at hs
      · rename_i hv
        cases hs
        exact vi_put_le hv
      · cases hs
    · cases hs
  case iastore =>
    unfold vi_stp at hs
    dsimp only at hs
    split at hs
    · split at hs
      · rename_i hv
        cases hs
        exact vi_ast_le hv
      · cases hs
    · cases hs
  case bastore =>
    unfold vi_stp at hs
    dsimp only at hs
    split at hs
    · split at hs
      · split at hs
        · rename_i hv
          cases hs
          exact vi_ast_le hv
        · cases hs
      · cases hs
    · cases hs
  case aastore =>
    unfold vi_stp at hs
    dsimp only at hs
    split at hs
    · split at hs
      · rename_i hsh
        split at hs
        · cases hs
          exact vi_le.sm (by simp [vi_acM]) (vi_tot_set _ hsh (by simp [vi_sz]))
        · cases hs
      · cases hs
    · cases hs
  case new i =>
    unfold vi_stp at hs
    dsimp only at hs
    split at hs
    · rename_i hl
      cases hs
      exact vi_push_le hl
    · cases hs
  case newarray t =>
    unfold vi_stp at hs
    dsimp only at hs
    split at hs
    · split at hs
      · rename_i hl
        cases hs
        exact vi_push_le hl.1
      · cases hs
    · cases hs
  case anewarray t =>
    unfold vi_stp at hs
    dsimp only at hs
    split at hs
    · split at hs
      · rename_i hl
        cases hs
        exact vi_push_le hl.1
      · cases hs
    · cases hs
  all_goals
    unfold vi_stp at hs
    first
    | (cases hs; done)
    | (cases hs; exact vi_le.rf)
    | (try dsimp only [vi_call, vi_calr] at hs
       repeat' (split at hs)
       all_goals first | (cases hs; done) | (cases hs; exact vi_le.rf))
theorem vi_R_le {X : vi_Ex} {nf : Nat → List (Option Value)} {B : Nat → Nat → List vi_En} {nl : Nat → Nat} : ∀ (n k : Nat) (cs : List vi_En) (ls : vi_Ls) (st : List Value) (S : vi_Me) (r : Option Value × vi_Me), vi_R X nf B nl n k cs ls st S = some r → vi_le S r.2 := by
  intro n
  induction n with
  | zero => intro k cs ls st S r h; simp [vi_R] at h
  | succ n ih =>
    intro k cs ls st S r h
    cases cs with
    | nil => simp [vi_R] at h
    | cons E cs =>
      simp only [vi_R] at h
      split at h
      · cases h
      · rename_i hs
        exact (vi_stp_le hs).tr (ih _ _ _ _ _ _ h)
      · rename_i hs
        exact (vi_stp_le hs).tr (ih _ _ _ _ _ _ h)
      · rename_i hs
        split at h
        · split at h
          · cases h
          · rename_i h1
            exact (vi_stp_le hs).tr ((ih _ _ _ _ _ _ h1).tr (ih _ _ _ _ _ _ h))
        · cases h
      · rename_i hs
        cases h
        exact vi_stp_le hs
section VJ
variable {X : vi_Ex} {nf : Nat → List (Option Value)} {D : va_G} {cl : List vw_C} {cy : Nat → ClassId} {ad : Nat → Nat} {base n0 : Nat} {Ts : List Cond} {zt : vi_Zt} {LK : String} {mt : Nat → vi_Mt} {q : vi_Mt}
def vi_Pc (X : vi_Ex) (D : va_G) (cl : List vw_C) (cy : Nat → ClassId) (ad : Nat → Nat) (base : Nat) (zt : vi_Zt) (LK : String) (vs : List Value) (S : vi_Me) : Array Value → State → Prop := fun a U => a = (vs.map (vi_r ad)).toArray ∧ vi_Cx X D cl cy ad base zt LK S.1.length U ∧ va_P D cl (vi_W cy ad S) U.heap ∧ va_D (vi_A base) (vi_W cy ad S)
def vi_Qc (D : va_G) (cl : List vw_C) (cy : Nat → ClassId) (ad : Nat → Nat) (base : Nat) (v : Option Value) (S' : vi_Me) : Array Value → State → Outcome → State → Prop := fun _ st o t => o = .returned (v.map (vi_r ad)) ∧ va_P D cl (vi_W cy ad S') t.heap ∧ va_D (vi_A base) (vi_W cy ad S') ∧ va_F (vi_A base) st t
def vi_rm (q : vi_Mt) (S S' : vi_Me) : Room := { frames := q.2.2.2.2, cells := S'.1.length - S.1.length, slots := vi_tot S' - vi_tot S, locals := vi_Lc * q.2.2.2.2 }
def vi_Met (l : Launch) (X : vi_Ex) (D : va_G) (cl : List vw_C) (cy : Nat → ClassId) (ad : Nat → Nat) (base : Nat) (Ts : List Cond) (zt : vi_Zt) (LK : String) (q : vi_Mt) (vs : List Value) (S : vi_Me) (v : Option Value) (S' : vi_Me) : Prop :=
  Met l q.1 (vi_ws Ts q) (vi_rm q S S') (vi_Pc X D cl cy ad base zt LK vs S) (vi_Qc D cl cy ad base v S') (S'.1.length - S.1.length) (vi_tot S' - vi_tot S) (vi_A base)
theorem vi_Cx_call {s U : State} {H : Heap} {locs : List Loc} {n : Nat} (C : vi_Cx X D cl cy ad base zt LK n0 s) (hS : va_S (vi_A base) s.heap H locs) (hU : U.heap = H) (hW : s.WarmedH U.vm) (hH : H.size = base + n) : vi_Cx X D cl cy ad base zt LK n U := by
  obtain ⟨hK, hsz, had, hX, hZ, hAO, hNL⟩ := C
  subst hU
  exact ⟨hK.moved hW.alike, hH, had, fun n L f h => ((hX n L f h).kept (hS.2.1)).moved hW.alike, (hZ.kept hS.2.1).moved hW.alike, hAO.moved hW.alike, hNL.warmF hW⟩
theorem vi_Pc_blind {vs : List Value} {S : vi_Me} : FrameBlind (vi_Pc X D cl cy ad base zt LK vs S) := by
  intro a U g mk h
  obtain ⟨h1, ⟨hK, hsz, had, hX, hZ, hAO, hNL⟩, h3, h4⟩ := h
  exact ⟨h1, ⟨va_K.moved (u := U) (U := U.calling g mk a) (Vm.Alike.refl U.vm) hK, hsz, had, fun n L f h => va_T.moved (u := U) (U := U.calling g mk a) (Vm.Alike.refl U.vm) (hX n L f h), va_Z.moved (u := U) (U := U.calling g mk a) (Vm.Alike.refl U.vm) hZ, va_AO.moved (u := U) (U := U.calling g mk a) (Vm.Alike.refl U.vm) hAO, va_Nw.same (u := U) (U := U.calling g mk a) rfl rfl hNL⟩, h3, h4⟩
variable {p : Program} {l : Launch} {e : Env} {R : Room} {s : State} {m : MethodId} {args : Array Value} {below : List Frame} {meth : Method} {c : Code} {Q : State → Prop} {cells slots : Nat}
/-- the heap's size is known where the machine stands -/
theorem vi_size {T : State} {H : Heap} {locs : List Loc} {S : vi_Me} (C : vi_Cx X D cl cy ad base zt LK n0 s) (hI : vi_I D cl cy ad base s S H locs) (hn : n0 + cells = S.1.length) (h9 : S.1.length ≤ 900) (hT : T.heap = H) (X1 : Stand p l e R s m args below meth c T locs cells slots) : H.size = base + S.1.length := by
  obtain ⟨hK, hsz, had, hX, hZ, -, -⟩ := C
  have h1 := X1.heapSize
  rw [hT, hsz] at h1
  have h2 := hI.2.2.1
  rw [hsz] at h2
  by_cases h0 : S.1.length = 0
  · omega
  · have hlt : S.1.length - 1 < S.1.length := by omega
    have h3 := (hI.1 _ _ (vi_W_get (cy := cy) (ad := ad) (List.getElem?_eq_getElem hlt))).lt
    have h4 : ad (S.1.length - 1) < H.size := h3
    rw [had _ (by omega)] at h4
    omega
theorem vi_cats (ad : Nat → Nat) (r : List Value) : ((r.map (vi_r ad)).map fun v => v.category) = r.map fun v => v.category := by
  rw [List.map_map]
  exact List.map_congr_left (fun v _ => vi_r_cat ad v)
/-- behind a call -/
theorem vi_run_at {H : Heap} {locs : List Loc} {mc ms pc : Nat} {lsA : Array Slot} {st0 rest : List Value} {v : Option Value} {S2 : vi_Me} {a : Array Value} (hr : va_Run p l e R s m args below meth c H locs cells slots mc ms (F0 m pc lsA st0) rest (vi_Qc D cl cy ad base v S2 a) (vi_A base)) (hS : va_S (vi_A base) s.heap H locs)
    (k : ∀ (H1 : Heap) (locs1 : List Loc), vi_I D cl cy ad base s S2 H1 locs1 → W p l e R s m args below meth c H1 locs1 (cells + mc) (slots + ms) Q (F0 m (pc + 3) lsA ((v.map (vi_r ad)).toList ++ rest))) : W p l e R s m args below meth c H locs cells slots Q (F0 m pc lsA st0) := by
  intro T hT X1
  obtain ⟨v1, st₀, t, T', L, h0, X', hL, e1, e2, ⟨hv, hp, hd, hz, hk⟩, st⟩ := hr T hT X1
  cases hv
  rw [h0] at hz hk
  obtain ⟨t2, a1, b1⟩ := k T'.heap (locs ++ L) ⟨by rw [e1]; exact hp, hd, Nat.le_trans hS.1 (by rw [e1]; exact hz), fun x h1 h2 => by rw [e1, hk x (Nat.lt_of_lt_of_le h1 hS.1) h2]; exact hS.2.1 x h1 h2, fun x hx => by
      rcases List.mem_append.mp hx with h | h
      · exact hS.2.2 x h
      · exact hL x h⟩ T' rfl X'
  exact ⟨t2, st t2 a1, b1⟩
theorem vi_good (hG : ∀ w ∈ Ts, (w.onTables && w.keeps) = true ∨ ∃ ty, w = .arrayClass ty) {q : vi_Mt} (hc : Cond.code q.1 q.2.1 q.2.2.1 q.2.2.2.1 ∈ Ts) : GoodIn Ts (vi_ws Ts q) := by
  intro w hw
  rcases List.mem_cons.mp hw with rfl | h
  · exact ⟨hc, hG _ hc⟩
  · exact ⟨h, hG w h⟩
theorem vi_takes {st : List Value} {b : Nat} (ad : Nat → Nat) : st.map (vi_r ad) = (((st.take b).reverse).map (vi_r ad)).reverse ++ (st.drop b).map (vi_r ad) := by
  rw [← List.map_reverse, List.reverse_reverse, ← List.map_append, List.take_append_drop]
set_option maxHeartbeats 1000000 in
theorem vi_cl (hG : ∀ w ∈ Ts, (w.onTables && w.keeps) = true ∨ ∃ ty, w = .arrayClass ty) (F : vi_Fm Ts q p s m args meth c) (C : vi_Cx X D cl cy ad base zt LK n0 s) {E : vi_En} {cs : List vi_En} {ls ls' : vi_Ls} {st st' : List Value} {S S1 S2 : vi_Me} {k' : Nat} {as : List Value} {v : Option Value} (hd : vi_dec q.2.1 E cs) (hok : vi_okE cl Ts zt LK nf mt q E) (hs : vi_stp X nf E ls st S = some (.inr (.inl (k', as, ls', st', S1))))
    (hM : vi_Met l X D cl cy ad base Ts zt LK (mt k') as S1 v S2) (h9 : S.1.length ≤ 900) (hcell : cells + (S2.1.length - S1.1.length) ≤ R.cells) (hslot : slots + (vi_tot S2 - vi_tot S1) ≤ R.slots) (hn : n0 + cells = S.1.length) (hRf : q.2.2.2.2 ≤ R.frames) (hRl : vi_Lc * q.2.2.2.2 ≤ R.locals)
    (k : vi_At p l e R s m args below meth c Q D cl cy ad base q.2.2.1 (cells + (S2.1.length - S1.1.length)) (slots + (vi_tot S2 - vi_tot S1)) (E.1 + vi_ilen E.2.1) ls' (v.toList ++ st') S2) : vi_At p l e R s m args below meth c Q D cl cy ad base q.2.2.1 cells slots E.1 ls st S := by
  obtain ⟨pc, ins, a, b, z⟩ := E
  have hF := F
  obtain ⟨hx, hb, hml, hown, hts, hr, hlk, hnm⟩ := F
  have hfix : CallFix p m c q.2.1 q.2.2.1 s args Ts q.1.cls := ⟨hx, hb, hml, hown, hts⟩
  have hroom : ∀ x : vi_Mt, x.2.2.2.2 < q.2.2.2.2 → x.2.2.1 + 19 ≤ vi_Lc → (vi_rm x S1 S2).frames + 1 ≤ R.frames ∧ 8 + (x.2.2.1 + 11) + (vi_rm x S1 S2).locals ≤ R.locals := by
    intro x h1 h2
    refine ⟨by show x.2.2.2.2 + 1 ≤ _; omega, ?_⟩
    show 8 + (x.2.2.1 + 11) + 34 * x.2.2.2.2 ≤ R.locals
    have h3 : 34 * (x.2.2.2.2 + 1) ≤ 34 * q.2.2.2.2 := Nat.mul_le_mul_left 34 h1
    have h4 : 34 * q.2.2.2.2 ≤ R.locals := hRl
    have h5 : x.2.2.1 + 19 ≤ 34 := h2
    omega
  have hv2 : ∀ r : List Value, (v.map (vi_r ad)).toList ++ r.map (vi_r ad) = (v.toList ++ r).map (vi_r ad) := by
    intro r
    cases v <;> simp
  cases ins
  case invokestatic i =>
    replace hd := (vi_dec_of hd (fun _ _ _ _ h => by cases h)).1
    unfold vi_stp vi_call at hs
    dsimp only at hs
    split at hs
    · rename_i hc
      cases hs
      obtain ⟨⟨o1, o2, o3, o4, o5, o6, o7⟩, hst⟩ := hok
      intro H locs lsA hl hI T hT X1
      have hH := vi_size C hI hn h9 hT X1
      have hrun := va_runS (H := H) (locs := locs) (cells := cells) (slots := slots) (below := below) (meth := meth) (e := e) (R := R) (g := F0 m pc lsA (st.map (vi_r ad))) (As := ((st.take b).reverse).map (vi_r ad)) (rest := (st.drop b).map (vi_r ad)) (n := b) hfix hM ⟨callB_of b hts (vi_good hG o3) rfl rfl rfl (hts _ o2) (hts _ o1) o4 (hroom _ o5 o6), hts _ hst⟩ ⟨vi_Pc_blind, fun U hU hW => ⟨rfl, vi_Cx_call C hI.2.2 hU hW hH, by rw [hU]; exact hI.1, hI.2.1⟩⟩ rfl (by simp [hc.1]) hl.2.1 (vi_takes ad) (by rw [vi_cats]; simpa using hc.2) hd ⟨hcell, hslot⟩
      exact vi_run_at hrun hI.2.2 (fun H1 locs1 hI1 => by rw [hv2]; exact k H1 locs1 lsA hl hI1) T hT X1
    · cases hs
  case invokevirtual i =>
    replace hd := (vi_dec_of hd (fun _ _ _ _ h => by cases h)).1
    unfold vi_stp vi_calr at hs
    dsimp only at hs
    split at hs
    · rename_i q0 r hdrop
      split at hs
      · rename_i hc
        cases hs
        obtain ⟨⟨o1, o2, o3, o4, o5, o6, o7⟩, hin, hsel, g, hg, hg1⟩ := hok
        intro H locs lsA hl hI T hT X1
        have hH := vi_size C hI hn h9 hT X1
        have his := hc.1
        unfold vi_is at his
        split at his
        · rename_i c' fs' hq0
          have hce : c' = z.toNat := by simpa using his
          subst hce
          have hrecv := va_recv C.1 hI.1 hg (vi_W_get hq0)
          rw [hg1] at hrecv
          have hb2 : b ≤ st.length := by
            have := congrArg List.length hdrop
            simp at this
            omega
          have hrun := va_runV (H := H) (locs := locs) (cells := cells) (slots := slots) (below := below) (meth := meth) (e := e) (R := R) (g := F0 m pc lsA (st.map (vi_r ad))) (b := ad q0) (C := (mt k').1.cls) (As := ((st.take b).reverse).map (vi_r ad)) (rest := st'.map (vi_r ad)) (n := b) hfix hM ⟨callB_of b hts (vi_good hG o3) rfl rfl rfl (hts _ o2) (hts _ o1) o4 (hroom _ o5 o6), hts _ hin, hts _ hsel⟩ ⟨vi_Pc_blind, hrecv, fun U hU hW => ⟨rfl, vi_Cx_call C hI.2.2 hU hW hH, by rw [hU]; exact hI.1, hI.2.1⟩⟩ rfl (by simp [hb2]) hl.2.1 (by show st.map (vi_r ad) = _; rw [vi_takes (b := b) ad, hdrop]; rfl) (by rw [vi_cats]; simpa using hc.2) hd ⟨hcell, hslot⟩
          exact vi_run_at hrun hI.2.2 (fun H1 locs1 hI1 => by rw [hv2]; exact k H1 locs1 lsA hl hI1) T hT X1
        · cases his
      · cases hs
    · cases hs
  case invokespecial i =>
    replace hd := (vi_dec_of hd (fun _ _ _ _ h => by cases h)).1
    unfold vi_stp vi_calr at hs
    dsimp only at hs
    split at hs
    · split at hs
      · split at hs <;> cases hs
      · cases hs
    · rename_i ha
      split at hs
      · rename_i q0 r hdrop
        split at hs
        · rename_i hc
          cases hs
          dsimp only [vi_okE] at hok
          rw [if_neg ha] at hok
          obtain ⟨⟨o1, o2, o3, o4, o5, o6, o7⟩, hret, hni, hin⟩ := hok
          intro H locs lsA hl hI T hT X1
          have hH := vi_size C hI hn h9 hT X1
          have hb2 : b ≤ st.length := by
            have := congrArg List.length hdrop
            simp at this
            omega
          rw [hret] at o3
          have hgood : GoodIn Ts (vi_ws Ts (mt k')) := vi_good hG (by rw [hret]; exact o3)
          have hrun := va_runI (H := H) (locs := locs) (cells := cells) (slots := slots) (below := below) (meth := meth) (e := e) (R := R) (g := F0 m pc lsA (st.map (vi_r ad))) (b := ad q0) (As := ((st.take b).reverse).map (vi_r ad)) (rest := st'.map (vi_r ad)) (n := b) (bytes := (mt k').2.1) (maxL := (mt k').2.2.1) hfix hM ⟨callB_of b hts hgood (ws' := Ts) (by unfold vi_ws; rw [hret]) rfl rfl (hts _ o2) (hts _ o1) o4 (hroom _ o5 o6), hni, hts _ hin⟩ ⟨vi_Pc_blind, fun U hU hW => ⟨rfl, vi_Cx_call C hI.2.2 hU hW hH, by rw [hU]; exact hI.1, hI.2.1⟩⟩ rfl (by simp [hb2]) hl.2.1 (by show st.map (vi_r ad) = _; rw [vi_takes (b := b) ad, hdrop]; rfl) (by rw [vi_cats]; simpa using hc.2) hd ⟨hcell, hslot⟩
          exact vi_run_at hrun hI.2.2 (fun H1 locs1 hI1 => by rw [hv2]; exact k H1 locs1 lsA hl hI1) T hT X1
        · cases hs
      · cases hs
  all_goals
    exfalso
    unfold vi_stp at hs
    first
    | (cases hs; done)
    | (try dsimp only at hs
       repeat' (split at hs)
       all_goals (cases hs; done))
/-- the end of a method -/
theorem vi_end (F : vi_Fm Ts q p s m args meth c) {E : vi_En} {cs : List vi_En} {ls : vi_Ls} {st : List Value} {S S' : vi_Me} {v : Option Value} {t0 : Nat} (hd : vi_dec q.2.1 E cs) (hok : vi_okE cl Ts zt LK nf mt q E) (hs : vi_stp X nf E ls st S = some (.inr (.inr (v, S')))) (hn : n0 + cells = S.1.length) (ht : t0 + slots = vi_tot S) :
    vi_At p l e R s m args below meth c (MQ below (vi_Qc D cl cy ad base v S') args s (S'.1.length - n0) (vi_tot S' - t0) (vi_A base)) D cl cy ad base q.2.2.1 cells slots E.1 ls st S := by
  obtain ⟨pc, ins, a, b, z⟩ := E
  obtain ⟨hx, hb, hml, hown, hts, hr, hlk, hnm⟩ := F
  have e1 : S.1.length - n0 = cells := by omega
  have e2 : vi_tot S - t0 = slots := by omega
  cases ins
  case ireturn =>
    replace hd := (vi_dec_of hd (fun _ _ _ _ h => by cases h)).1
    unfold vi_stp at hs
    dsimp only at hs
    split at hs
    · rename_i x
      split at hs
      · rename_i hz
        cases hs
        rw [e1, e2]
        intro H locs lsA hl hI
        obtain ⟨k1, k2⟩ := hok
        by_cases hz0 : z = 0
        · exact W.iret hx hb (hr.trans (k1 hz0)) (fun t ht1 _ => ⟨rfl, by rw [ht1]; exact hI.1, hI.2.1, hI.2.2.F ht1⟩) hI.2.2.2.2 hd hlk
        · have hx01 : x = 0 ∨ x = 1 := by
            rcases hz with h | h
            · exact absurd h hz0
            · exact h
          exact W.zret hx hb (hr.trans (k2 hz0)) (by rcases hx01 with rfl | rfl <;> rfl) (fun t ht1 _ => ⟨rfl, by rw [ht1]; exact hI.1, hI.2.1, hI.2.2.F ht1⟩) hI.2.2.2.2 hd hlk
      · cases hs
    · cases hs
  case lreturn =>
    replace hd := (vi_dec_of hd (fun _ _ _ _ h => by cases h)).1
    unfold vi_stp at hs
    dsimp only at hs
    split at hs
    · cases hs
      rw [e1, e2]
      exact fun H locs lsA hl hI => W.lret hx hb (hr.trans hok) (fun t ht1 _ => ⟨rfl, by rw [ht1]; exact hI.1, hI.2.1, hI.2.2.F ht1⟩) hI.2.2.2.2 hd hlk
    · cases hs
  case areturn =>
    replace hd := (vi_dec_of hd (fun _ _ _ _ h => by cases h)).1
    unfold vi_stp at hs
    dsimp only at hs
    split at hs
    · rename_i x
      cases hs
      rw [e1, e2]
      obtain ⟨rt, h1, h2⟩ := hok
      exact fun H locs lsA hl hI => W.aret hx hb (hr.trans h1) h2 (Or.inr ⟨_, rfl⟩) (fun t ht1 _ => ⟨rfl, by rw [ht1]; exact hI.1, hI.2.1, hI.2.2.F ht1⟩) hI.2.2.2.2 hd hlk
    · cases hs
  case return_ =>
    replace hd := (vi_dec_of hd (fun _ _ _ _ h => by cases h)).1
    unfold vi_stp at hs
    dsimp only at hs
    split at hs
    · cases hs
      rw [e1, e2]
      exact fun H locs lsA hl hI => W.vret hx hb (hr.trans hok) (fun t ht1 _ => ⟨rfl, by rw [ht1]; exact hI.1, hI.2.1, hI.2.2.F ht1⟩) hI.2.2.2.2 hd hlk
    · cases hs
  all_goals
    exfalso
    unfold vi_stp at hs
    first
    | (cases hs; done)
    | (try dsimp only [vi_call, vi_calr] at hs
       repeat' (split at hs)
       all_goals (cases hs; done))
/-- the code is what the tables say -/
def vi_okB (cl : List vw_C) (Ts : List Cond) (zt : vi_Zt) (LK : String) (nf : Nat → List (Option Value)) (mt : Nat → vi_Mt) (B : Nat → Nat → List vi_En) : Prop := ∀ k t : Nat, vi_okL (vi_okE cl Ts zt LK nf mt (mt k)) (mt k).2.1 (B k t) ∧ ∀ E, (B k t).head? = some E → E.1 = t
abbrev vi_nl (mt : Nat → vi_Mt) : Nat → Nat := fun k => (mt k).2.2.1
/-- every run of at most n steps is a run of the real machine -/
def vi_Runs (l : Launch) (X : vi_Ex) (nf : Nat → List (Option Value)) (D : va_G) (cl : List vw_C) (cy : Nat → ClassId) (ad : Nat → Nat) (base : Nat) (Ts : List Cond) (zt : vi_Zt) (LK : String) (mt : Nat → vi_Mt) (B : Nat → Nat → List vi_En) (n : Nat) : Prop :=
  ∀ (k : Nat) (vs : List Value) (S : vi_Me) (v : Option Value) (S' : vi_Me), plainFor (mt k).1 = true → (vi_arg vs).length ≤ vi_nl mt k → S.1.length ≤ 900 → vi_R X nf B (vi_nl mt) n k (B k 0) (vi_ent (vi_nl mt k) vs) [] S = some (v, S') → vi_Met l X D cl cy ad base Ts zt LK (mt k) vs S v S'
theorem vi_walk {B : Nat → Nat → List vi_En} (hG : ∀ w ∈ Ts, (w.onTables && w.keeps) = true ∨ ∃ ty, w = .arrayClass ty) (hC : vi_Cl cl Ts) (hB : vi_okB cl Ts zt LK nf mt B) {n k t0 : Nat} {Sf : vi_Me} {v : Option Value} (hcalls : ∀ j, j < n → vi_Runs l X nf D cl cy ad base Ts zt LK mt B j) (F : vi_Fm Ts (mt k) p s m args meth c) (C : vi_Cx X D cl cy ad base zt LK n0 s)
    (hRc : Sf.1.length ≤ n0 + R.cells) (hRs : vi_tot Sf ≤ t0 + R.slots) (hRf : (mt k).2.2.2.2 ≤ R.frames) (hRl : vi_Lc * (mt k).2.2.2.2 ≤ R.locals)
    (hend : ∀ (E : vi_En) (cs : List vi_En) (ls : vi_Ls) (st : List Value) (S : vi_Me) (cells slots : Nat), vi_dec (mt k).2.1 E cs → vi_okE cl Ts zt LK nf mt (mt k) E → vi_stp X nf E ls st S = some (.inr (.inr (v, Sf))) → n0 + cells = S.1.length → t0 + slots = vi_tot S → vi_At p l e R s m args below meth c Q D cl cy ad base (mt k).2.2.1 cells slots E.1 ls st S) :
    ∀ j, j ≤ n → ∀ (E : vi_En) (cs : List vi_En) (ls : vi_Ls) (st : List Value) (S : vi_Me) (cells slots : Nat), vi_okL (vi_okE cl Ts zt LK nf mt (mt k)) (mt k).2.1 (E :: cs) → vi_R X nf B (vi_nl mt) j k (E :: cs) ls st S = some (v, Sf) → n0 + cells = S.1.length → t0 + slots = vi_tot S → S.1.length ≤ 900 → vi_At p l e R s m args below meth c Q D cl cy ad base (mt k).2.2.1 cells slots E.1 ls st S := by
  intro j
  induction j with
  | zero => intro _ E cs ls st S cells slots _ h; simp [vi_R] at h
  | succ j ih =>
    intro hj E cs ls st S cells slots hokL h hn ht h9
    obtain ⟨hd, hok, hokr⟩ := hokL
    simp only [vi_R] at h
    split at h
    · cases h
    · rename_i ls' st' S' hs
      have hle := vi_stp_le hs
      have hle2 := vi_R_le _ _ _ _ _ _ _ h
      simp only [vi_acM] at hle
      have hle3 := hle.1; have hle4 := hle.2.1; have hle5 := hle2.1; have hle6 := hle2.2.1
      dsimp only at hle5 hle6
      refine vi_next F C hC hd hok hs (by omega) (by omega) hn hRf hRl ?_
      cases cs with
      | nil =>
        cases j <;> simp [vi_R] at h
      | cons E2 cs2 =>
        have hpc : E2.1 = E.1 + vi_ilen E.2.1 := by
          unfold vi_dec at hd
          split at hd
          · rename_i d lo hi offs he
            exfalso
            obtain ⟨pc, ins, a, b, z⟩ := E
            dsimp only at he
            subst he
            unfold vi_stp at hs
            dsimp only at hs
            split at hs
            · split at hs
              · cases hs
              · split at hs <;> cases hs
            · cases hs
          · exact hd.2 _ rfl
        have hgo := ih (by omega) E2 cs2 ls' st' S' (cells + (S'.1.length - S.1.length)) (slots + (vi_tot S' - vi_tot S)) hokr h (by omega) (by omega) (hle.2.2 h9)
        rw [hpc] at hgo
        exact hgo
    · rename_i t ls' st' S' hs
      have hle := vi_stp_le hs
      have hle2 := vi_R_le _ _ _ _ _ _ _ h
      simp only [vi_acM] at hle
      have hle3 := hle.1; have hle4 := hle.2.1; have hle5 := hle2.1; have hle6 := hle2.2.1
      dsimp only at hle5 hle6
      refine vi_next F C hC hd hok hs (by omega) (by omega) hn hRf hRl ?_
      obtain ⟨hb1, hb2⟩ := hB k t
      cases hcs : B k t with
      | nil =>
        rw [hcs] at h
        cases j <;> simp [vi_R] at h
      | cons E2 cs2 =>
        rw [hcs] at h hb1 hb2
        have hgo := ih (by omega) E2 cs2 ls' st' S' (cells + (S'.1.length - S.1.length)) (slots + (vi_tot S' - vi_tot S)) hb1 h (by omega) (by omega) (hle.2.2 h9)
        rw [hb2 _ rfl] at hgo
        exact hgo
    · rename_i k' as ls' st' S1 hs
      split at h
      · rename_i hfit
        split at h
        · cases h
        · rename_i v2 S2 h1
          have hle := vi_stp_le hs
          have hle1 := vi_R_le _ _ _ _ _ _ _ h1
          have hle2 := vi_R_le _ _ _ _ _ _ _ h
          simp only [vi_acM] at hle
          have hle3 := hle.1; have hle4 := hle.2.1; have hle5 := hle2.1; have hle6 := hle2.2.1; have hle7 := hle1.1; have hle8 := hle1.2.1
          dsimp only at hle5 hle6 hle7 hle8
          have hS1 : S1 = S ∧ (E.1 + vi_ilen E.2.1 = E.1 + 3 ∧ ∃ i, (E.2.1 = .invokestatic i ∨ E.2.1 = .invokevirtual i ∨ E.2.1 = .invokespecial i)) ∧ plainFor (mt k').1 = true := by
            obtain ⟨pc, ins, a, b, z⟩ := E
            cases ins
            case invokestatic i =>
              unfold vi_stp vi_call at hs
              dsimp only at hs
              split at hs
              · cases hs
                exact ⟨rfl, ⟨rfl, i, Or.inl rfl⟩, hok.1.2.2.2.2.2.2⟩
              · cases hs
            case invokevirtual i =>
              unfold vi_stp vi_calr at hs
              dsimp only at hs
              split at hs
              · split at hs
                · cases hs
                  exact ⟨rfl, ⟨rfl, i, Or.inr (Or.inl rfl)⟩, hok.1.2.2.2.2.2.2⟩
                · cases hs
              · cases hs
            case invokespecial i =>
              unfold vi_stp vi_calr at hs
              dsimp only at hs
              split at hs
              · split at hs
                · split at hs <;> cases hs
                · cases hs
              · rename_i ha
                dsimp only [vi_okE] at hok
                rw [if_neg ha] at hok
                split at hs
                · split at hs
                  · cases hs
                    exact ⟨rfl, ⟨rfl, i, Or.inr (Or.inr rfl)⟩, hok.1.2.2.2.2.2.2⟩
                  · cases hs
                · cases hs
            all_goals
              exfalso
              unfold vi_stp at hs
              first
              | (cases hs; done)
              | (try dsimp only at hs
                 repeat' (split at hs)
                 all_goals (cases hs; done))
          obtain ⟨rfl, hlen, hpl⟩ := hS1
          have hM := hcalls j (by omega) k' as S1 v2 S2 hpl hfit h9 h1
          refine vi_cl hG F C hd hok hs hM h9 (by omega) (by omega) hn hRf hRl ?_
          cases cs with
          | nil =>
            cases j <;> simp [vi_R] at h
          | cons E2 cs2 =>
            have hpc : E2.1 = E.1 + vi_ilen E.2.1 := by
              unfold vi_dec at hd
              split at hd
              · rename_i d lo hi offs he
                exfalso
                obtain ⟨-, i, hi⟩ := hlen
                rw [he] at hi
                rcases hi with h | h | h <;> cases h
              · exact hd.2 _ rfl
            have hgo := ih (by omega) E2 cs2 ls' (v2.toList ++ st') S2 (cells + (S2.1.length - S1.1.length)) (slots + (vi_tot S2 - vi_tot S1)) hokr h (by omega) (by omega) (hle1.2.2 h9)
            rw [hpc] at hgo
            exact hgo
      · cases h
    · rename_i r hs
      cases h
      exact hend E cs ls st S cells slots hd hok hs hn ht
theorem vi_sound {B : Nat → Nat → List vi_En} (hG : ∀ w ∈ Ts, (w.onTables && w.keeps) = true ∨ ∃ ty, w = .arrayClass ty) (hC : vi_Cl cl Ts) (hB : vi_okB cl Ts zt LK nf mt B) : ∀ n, vi_Runs l X nf D cl cy ad base Ts zt LK mt B n := by
  intro n
  induction n using Nat.strongRecOn with
  | ind n ihn =>
    intro k vs S v S' hpl hfit h9 h
    refine va_MetF (cc := (mt k).2.1) (maxL := (mt k).2.2.1) (ret := (mt k).2.2.2.1) (ws' := Ts) hpl rfl ?_
    intro p e s m args below meth c s₁ Bd hml hP
    obtain ⟨rfl, C, hP1, hD1⟩ := hP
    have hle := vi_R_le _ _ _ _ _ _ _ h
    have hle1 := hle.1; have hle2 := hle.2.1
    dsimp only at hle1 hle2
    have hts0 := atoms_spec (ws := vi_ws Ts (mt k)) Bd.pre
    have F : vi_Fm Ts (mt k) p s m (vs.map (vi_r ad)).toArray meth c := ⟨Bd.exec, Bd.bytes, hml, findClass_of_methodNamed Bd.named, fun w hw => hts0 w (List.mem_cons_of_mem _ hw), Bd.returns, Bd.notSynchronized, fun h => (name_of_methodNamed Bd.named Bd.method).1.trans h⟩
    rw [lg_entry_eq]
    obtain ⟨hb1, hb2⟩ := hB k 0
    cases hcs : B k 0 with
    | nil =>
      rw [hcs] at h
      cases n <;> simp [vi_R] at h
    | cons E2 cs2 =>
      rw [hcs] at h hb1 hb2
      have hgo := vi_walk (p := p) (l := l) (e := e) (R := vi_rm (mt k) S S') (below := below) (Q := MQ below (vi_Qc D cl cy ad base v S') (vs.map (vi_r ad)).toArray s (S'.1.length - S.1.length) (vi_tot S' - vi_tot S) (vi_A base)) (t0 := vi_tot S) hG hC hB ihn F C (Sf := S') (v := v) (by show _ ≤ S.1.length + (S'.1.length - S.1.length); omega) (by show _ ≤ vi_tot S + (vi_tot S' - vi_tot S); omega) (Nat.le_refl _) (Nat.le_refl _) (fun E cs ls st S1 cells slots a1 a2 a3 a4 a5 => vi_end F a1 a2 a3 a4 a5) n (Nat.le_refl _) E2 cs2 (vi_ent (vi_nl mt k) vs) [] S 0 0 hb1 h rfl rfl h9
      rw [hb2 _ rfl] at hgo
      exact hgo s.heap [] _ (vi_ent_lr hfit) ⟨hP1, hD1, va_S.rf⟩
end VJ
