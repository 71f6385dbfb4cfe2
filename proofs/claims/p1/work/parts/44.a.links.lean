/-! The code and the tables are what the Statement says: checked by computing. -/
/-- the tables' words that hold in every callee -/
def v_Ts : List Cond := lw_tbl.filter goodWord
def v_at (i : Nat) (w : Cond) : Bool := decide (lw_tbl[i]? = some w) && goodWord w
theorem v_at_mem {i : Nat} {w : Cond} (h : v_at i w = true) : w ∈ v_Ts := by
  simp only [v_at, Bool.and_eq_true, decide_eq_true_eq] at h
  exact List.mem_filter.mpr ⟨List.mem_of_getElem? h.1, h.2⟩
/-! links -/
def v_flb (o : Nat) (r : Nat × Nat × Nat × Nat) : Bool := match v_cl[r.2.1]? with
  | some g => decide (r.2.2.1 < g.2.2) && decide ((g.2.1 r.2.2.1).1 = g.1) && v_at r.2.2.2 (.fieldLink (v_own o) r.1 g.1 (g.2.1 r.2.2.1).2.1 (g.2.1 r.2.2.1).2.2.1)
  | none => false
theorem v_fl_c : (List.range 16).all (fun o => (v_fl o).all (v_flb o)) = true := by decide +kernel
def v_mlb (o : Nat) (r : Nat × Nat × Nat) : Bool := v_at r.2.2 (.methodLink (v_own o) r.1 (v_mt r.2.1).1)
theorem v_ml_c : (List.range 16).all (fun o => (v_ml o).all (v_mlb o)) = true := by decide +kernel
def v_olb (o : Nat) (r : Nat × Nat) : Bool := v_at r.2 (.methodLink (v_own o) r.1 objectInit)
theorem v_ol_c : (List.range 16).all (fun o => (v_ol o).all (v_olb o)) = true := by decide +kernel
def v_klb (o : Nat) (r : Nat × Nat × Nat) : Bool := match v_cl[r.2.1]? with
  | some g => v_at r.2.2 (.classLink (v_own o) r.1 g.1)
  | none => false
theorem v_kl_c : (List.range 16).all (fun o => (v_kl o).all (v_klb o)) = true := by decide +kernel
def v_cnb (o : Nat) (r : Nat × Nat × Int) : Bool := v_at r.2.1 (.constant (v_own o) r.1 (Int32.ofInt r.2.2))
theorem v_cn_c : (List.range 16).all (fun o => (v_cn o).all (v_cnb o)) = true := by decide +kernel
def v_cjb (o : Nat) (r : Nat × Nat × Int) : Bool := v_at r.2.1 (.constantLong (v_own o) r.1 (Int64.ofInt r.2.2))
theorem v_cj_c : (List.range 16).all (fun o => (v_cj o).all (v_cjb o)) = true := by decide +kernel
theorem v_gn_c : (List.range 16).all (fun o => (v_gn o).all (fun r => decide (r.1 = v_zt.2.2.2.2.1) && decide (v_own o = v_zt.2.2.2.1))) = true := by decide +kernel
theorem v_nest_c : lw_tbl.contains (.fieldLinkNest v_zt.2.2.2.1 v_zt.2.2.2.2.1 v_zt.1 v_zt.2.1 v_zt.2.2.1 v_zt.2.2.2.2.2) = true := by decide +kernel
theorem v_over_c : lw_tbl.contains (.arrayOver (.object v_LK)) = true := by decide +kernel
def v_gsb (o : Nat) (r : Nat × Nat) : Bool := v_at r.2 (.fieldLink (v_own o) r.1 v_zt.1 v_zt.2.1 v_zt.2.2.1)
theorem v_gs_c : (List.range 16).all (fun o => (v_gs o).all (v_gsb o)) = true := by decide +kernel
/-- a class's own words: instantiable, initialized -/
def v_cib (a : Nat) : Bool := match v_cl[a]?, v_ci[a]? with
  | some g, some r => v_at r.1 (.instantiable g.1 g.2.2) && v_at r.2 (.initialized g.1) && decide ((v_nf a).length = g.2.2) && (v_nf a).all (fun x => match x with | none => true | some .null => true | _ => false)
  | _, _ => false
theorem v_ci_c : (List.range 13).all v_cib = true := by decide +kernel
theorem v_ap_c : (v_at 148 (.arrayClass .int) && v_at 220 (.arrayClass .boolean) && v_at 128 (.instanceMethod objectInit) && v_at 129 (.code objectInit ⟨#[0xb1]⟩ 1 none)) = true := by decide +kernel
/-- a method's own words, but for its code -/
def v_mib (k : Nat) : Bool := match v_mi[k]? with
  | some (_, np, kd, pi, _, pm, ps) => v_at pi (.initialized (v_mt k).1.cls) && decide ((parseMethodDescriptor (v_mt k).1.desc).map (fun d => d.parameters.length) = some np) && decide ((v_mt k).2.2.1 + 19 ≤ vi_Lc) &&
      (if kd = 0 then v_at pm (.static (v_mt k).1) else if kd = 1 then v_at pm (.instanceMethod (v_mt k).1) && v_at ps (.selects (v_mt k).1.cls (v_mt k).1 (v_mt k).1) else v_at pm (.instanceMethod (v_mt k).1) && decide ((v_mt k).1.name = "<init>") && decide ((v_mt k).2.2.2.1 = none))
  | none => false
theorem v_mi_0 : (List.range' 0 20).all v_mib = true := by decide +kernel
theorem v_mi_1 : (List.range' 20 20).all v_mib = true := by decide +kernel
theorem v_mi_2 : (List.range' 40 20).all v_mib = true := by decide +kernel
theorem v_mi_3 : (List.range' 60 20).all v_mib = true := by decide +kernel
theorem v_mi_4 : (List.range' 80 20).all v_mib = true := by decide +kernel
theorem v_mi_5 : (List.range' 100 20).all v_mib = true := by decide +kernel
theorem v_mi_6 : (List.range' 120 20).all v_mib = true := by decide +kernel
theorem v_mi_7 : (List.range' 140 20).all v_mib = true := by decide +kernel
theorem v_mi_8 : (List.range' 160 20).all v_mib = true := by decide +kernel
theorem v_mi_9 : (List.range' 180 20).all v_mib = true := by decide +kernel
theorem v_mi_10 : (List.range' 200 20).all v_mib = true := by decide +kernel
theorem v_mi_11 : (List.range' 220 11).all v_mib = true := by decide +kernel
/-- an owner's name is plain -/
def v_onb (o : Nat) : Bool := plainName (v_own o) && decide (v_own o ≠ "java/lang/invoke/MethodHandle") && decide (v_own o ≠ "java/lang/invoke/VarHandle")
theorem v_on_c : (List.range 14).all v_onb = true := by decide +kernel
theorem v_pf_20 : (plainFor (v_mt 20).1 && plainFor (v_mt 47).1 && plainFor (v_mt 125).1) = true := by decide +kernel
