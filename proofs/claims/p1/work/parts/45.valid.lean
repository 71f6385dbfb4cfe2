/-! an instruction -/
def v_pfb (o a b : Nat) (z : Int) (ini : Bool) : Bool := match v_cl[a]? with
  | some g => (match parseFieldDescriptor (g.2.1 b).2.2.1 with
    | some .int => decide (z = 0)
    | some .boolean => decide (z = 1)
    | some (.object _) => decide (z = 2)
    | some (.array _) => decide (z = 2)
    | _ => false) && (!(g.2.1 b).2.2.2 || (ini && decide ((g.2.1 b).1 = v_own o)))
  | none => false
def v_cab (o i a b dep kd : Nat) : Bool := (v_ml o).any (fun r => r.1 == i && r.2.1 == a) && (match v_mi[a]? with
  | some (_, np, kd', _) => decide (np = b) && decide (kd' = kd) && decide (a < 231)
  | none => false) && decide ((v_mt a).2.2.2.2 < dep)
def v_eb (o dep : Nat) (rt : Option FieldType) (ini : Bool) (E : vi_En) : Bool := match E with
  | (pc, ins, a, b, z) => match ins with
    | .ldc i => (v_cn o).any (fun r => r.1 == i && r.2.2 == z)
    | .ldc2_w i => (v_cj o).any (fun r => r.1 == i && r.2.2 == z)
    | .goto off => decide ((pc : Int) + off = (a : Int))
    | .if_icmp _ off => decide ((pc : Int) + off = (a : Int))
    | .ifCond _ off => decide ((pc : Int) + off = (a : Int))
    | .tableswitch d _ _ offs => decide (0 ≤ (pc : Int) + d) && offs.toList.all (fun x => decide (0 ≤ (pc : Int) + x))
    | .getfield i => (v_fl o).any (fun r => r.1 == i && r.2.1 == a && r.2.2.1 == b)
    | .putfield i => (v_fl o).any (fun r => r.1 == i && r.2.1 == a && r.2.2.1 == b) && v_pfb o a b z ini
    | .getstatic i => a == 999 && ((v_gs o).any (fun r => r.1 == i) || (v_gn o).any (fun r => r.1 == i))
    | .new i => (v_kl o).any (fun r => r.1 == i && r.2.1 == a) && decide (a < 13)
    | .newarray t => (match t with | .int => a == 0 | .boolean => a == 1 | _ => false)
    | .anewarray i => (v_kl o).any (fun r => r.1 == i && r.2.1 == 6)
    | .aastore => a == 6
    | .invokestatic i => v_cab o i a b dep 0
    | .invokevirtual i => v_cab o i a b dep 1 && decide (z.toNat < 13) && (match v_mi[a]? with | some (o', _) => decide (o' = z.toNat) | none => false)
    | .invokespecial i => if a = vi_O then (v_ol o).any (fun r => r.1 == i) && decide (1 ≤ dep) else v_cab o i a b dep 2
    | .ireturn => if z = 0 then decide (rt = some .int) else decide (rt = some .boolean)
    | .lreturn => decide (rt = some .long)
    | .areturn => (match rt with | some (.object _) => true | some (.array _) => true | _ => false)
    | .return_ => decide (rt = none)
    | _ => true
def v_decb (cc : ByteArray) (E : vi_En) (cs : List vi_En) : Bool := match E.2.1 with
  | .tableswitch d lo hi offs => (match decode cc E.1 with | .ok (ins, _) => decide (ins = .tableswitch d lo hi offs) | .error _ => false)
  | ins => decide (decode cc E.1 = .ok (ins, vi_ilen ins)) && (match cs with | [] => true | E2 :: _ => E2.1 == E.1 + vi_ilen ins)
def v_okb (cc : ByteArray) (o dep : Nat) (rt : Option FieldType) (ini : Bool) : List vi_En → Bool
  | [] => true
  | E :: cs => v_decb cc E cs && (v_eb o dep rt ini E && v_okb cc o dep rt ini cs)
def v_chk (k : Nat) : Bool := match v_mi[k]? with
  | some (o, _) => v_okb (v_mt k).2.1 o (v_mt k).2.2.2.2 (v_mt k).2.2.2.1 (decide ((v_mt k).1.name = "<init>")) (v_code k)
  | none => false
theorem v_chk_0 : (List.range' 0 40).all v_chk = true := by decide +kernel
theorem v_chk_1 : (List.range' 40 40).all v_chk = true := by decide +kernel
theorem v_chk_2 : (List.range' 80 40).all v_chk = true := by decide +kernel
theorem v_chk_3 : (List.range' 120 40).all v_chk = true := by decide +kernel
theorem v_chk_4 : (List.range' 160 40).all v_chk = true := by decide +kernel
theorem v_chk_5 : (List.range' 200 31).all v_chk = true := by decide +kernel
theorem v_chk_6 : v_chk 231 = true := by decide +kernel
