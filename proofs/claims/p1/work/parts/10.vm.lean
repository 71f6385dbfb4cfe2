/-! A small machine for the instructions that the system uses, over a picture of the heap. An object or array has a NUMBER (in the order of making); a reference in this machine is that number. A shape says what stays: (array type, length), (class, fields: 'none' an int, 'some v' a reference or null), or an array of references. The ints lie apart: number, place. -/
abbrev vi_Sh : Type := (Nat × Nat) ⊕ ((Nat × List (Option Value)) ⊕ List (Option Nat))
abbrev vi_Me : Type := List vi_Sh × (Nat → Nat → Int32)
abbrev vi_Ls : Type := List (Option Value)
/-- an instruction: its place, itself, and what its links mean (target, class and field, callee and arguments, constant) -/
abbrev vi_En : Type := Nat × Instr × Nat × Nat × Int
abbrev vi_Fr : Type := vi_Ls × List Value × vi_Me
/-- what an instruction comes to: on (or a jump), a call, an end -/
abbrev vi_Ac : Type := (Option Nat × vi_Fr) ⊕ ((Nat × List Value × vi_Fr) ⊕ (Option Value × vi_Me))
/-- int arrays outside the picture, never written: by number, length and contents -/
abbrev vi_Ex : Type := Nat → Option (Nat × (Nat → Int32))
def vi_get (ls : vi_Ls) (i : Nat) : Option Value := match ls[i]? with
  | some (some v) => some v
  | _ => none
def vi_two : Option Value → Bool
  | some v => v.category == 2
  | none => false
def vi_clr (ls : vi_Ls) : Nat → vi_Ls
  | 0 => ls
  | j + 1 => if vi_two (vi_get ls j) = true then ls.set j none else ls
def vi_set (ls : vi_Ls) (i : Nat) (v : Value) : vi_Ls := (if (v.category == 2) = true then (vi_clr ls i).set (i + 1) none else vi_clr ls i).set i (some v)
def vi_row (M : Nat → Nat → Int32) (n : Nat) (f : Nat → Int32) : Nat → Nat → Int32 := fun j => if j = n then f else M j
def vi_up (M : Nat → Nat → Int32) (n i : Nat) (x : Int32) : Nat → Nat → Int32 := vi_row M n (upd (M n) i x)
def vi_fld (S : vi_Me) (n ci fi : Nat) : Option Value := match S.1[n]? with
  | some (.inr (.inl (c, rs))) => if c = ci then (match rs[fi]? with
    | some none => some (.int (S.2 n fi))
    | some (some v) => some v
    | none => none) else none
  | _ => none
/-- a field is written: z = 0 an int, 1 a boolean, 2 a reference -/
def vi_put (S : vi_Me) (n ci fi : Nat) (z : Int) (v : Value) : Option vi_Me := match S.1[n]? with
  | some (.inr (.inl (c, rs))) => if c = ci then (match rs[fi]?, v with
    | some none, .int x => if z = 0 ∨ (z = 1 ∧ (x = 0 ∨ x = 1)) then some (S.1, vi_up S.2 n fi x) else none
    | some (some _), .ref q => if z = 2 then some (S.1.set n (.inr (.inl (c, rs.set fi (some (.ref q))))), S.2) else none
    | _, _ => none) else none
  | _ => none
def vi_ald (X : vi_Ex) (S : vi_Me) (n t : Nat) (i : Int32) : Option Int32 := match S.1[n]? with
  | some (.inl (t', L)) => if t' = t ∧ ¬ (i < 0 ∨ L ≤ i.toNatClampNeg) then some (S.2 n i.toNatClampNeg) else none
  | some _ => none
  | none => match X n with
    | some (L, f) => if t = 0 ∧ ¬ (i < 0 ∨ L ≤ i.toNatClampNeg) then some (f i.toNatClampNeg) else none
    | none => none
def vi_ast (S : vi_Me) (n t : Nat) (i x : Int32) : Option vi_Me := match S.1[n]? with
  | some (.inl (t', L)) => if t' = t ∧ ¬ (i < 0 ∨ L ≤ i.toNatClampNeg) then some (S.1, vi_up S.2 n i.toNatClampNeg x) else none
  | _ => none
def vi_len (X : vi_Ex) (S : vi_Me) (n : Nat) : Option Nat := match S.1[n]? with
  | some (.inl (t, L)) => if t < 3 then some L else none
  | some (.inr (.inr r)) => some r.length
  | some _ => none
  | none => (X n).map (fun q => q.1)
def vi_bin (ins : Instr) (x y : Int32) : Option Int32 := match ins with
  | .iadd => some (x + y)
  | .isub => some (x - y)
  | .imul => some (x * y)
  | .iand => some (x &&& y)
  | .ior => some (x ||| y)
  | .ixor => some (x ^^^ y)
  | .ishl => some (x <<< (y &&& 31))
  | .ishr => some (x >>> (y &&& 31))
  | .iushr => some ((x.toUInt32 >>> (y.toUInt32 &&& Int32.toUInt32 31)).toInt32)
  | .idiv => if y = 0 then none else some (x / y)
  | .irem => if y = 0 then none else some (x - x / y * y)
  | _ => none
def vi_lbin (ins : Instr) (x y : Int64) : Option Int64 := match ins with
  | .ladd => some (x + y)
  | .lsub => some (x - y)
  | .lmul => some (x * y)
  | .ldiv => if y = 0 then none else some (x / y)
  | _ => none
def vi_br (c : ClassFile.Cond) (x y : Int32) (t : Nat) : Option Nat := match c with
  | .eq => if x = y then some t else none
  | .ne => if x = y then none else some t
  | .lt => if x < y then some t else none
  | .ge => if y ≤ x then some t else none
  | .gt => if y < x then some t else none
  | .le => if x ≤ y then some t else none
abbrev vi_on (ls : vi_Ls) (st : List Value) (S : vi_Me) : Option vi_Ac := some (.inl (none, ls, st, S))
/-- a call's arguments off the stack: b of them, and the receiver if it has one -/
def vi_call (a b : Nat) (ls : vi_Ls) (st : List Value) (S : vi_Me) : Option vi_Ac :=
  if b ≤ st.length ∧ ((st.drop b).map fun v => v.category).sum ≤ 8 then some (.inr (.inl (a, (st.take b).reverse, ls, st.drop b, S))) else none
def vi_is (S : vi_Me) (q c : Nat) : Bool := match S.1[q]? with
  | some (.inr (.inl (c', _))) => c' == c
  | _ => false
def vi_calr (a b c : Nat) (ls : vi_Ls) (st : List Value) (S : vi_Me) : Option vi_Ac := match st.drop b with
  | .ref q :: r => if vi_is S q c = true ∧ (r.map fun v => v.category).sum ≤ 8 then some (.inr (.inl (a, .ref q :: (st.take b).reverse, ls, r, S))) else none
  | _ => none
/-- the number that stands for Object.<init> -/
abbrev vi_O : Nat := 9999
/-- one instruction -/
def vi_stp (X : vi_Ex) (nf : Nat → List (Option Value)) (E : vi_En) (ls : vi_Ls) (st : List Value) (S : vi_Me) : Option vi_Ac := match E with
  | (pc, ins, a, b, z) => match ins with
    | .iconst n => vi_on ls (.int (Int32.ofInt n) :: st) S
    | .bipush n => vi_on ls (.int (Int8.ofInt n).toInt32 :: st) S
    | .sipush n => vi_on ls (.int (Int16.ofInt n).toInt32 :: st) S
    | .lconst n => vi_on ls (.long (Int64.ofNat n) :: st) S
    | .ldc _ => vi_on ls (.int (Int32.ofInt z) :: st) S
    | .ldc2_w _ => vi_on ls (.long (Int64.ofInt z) :: st) S
    | .iload_n i => (match vi_get ls i with | some (.int x) => vi_on ls (.int x :: st) S | _ => none)
    | .iload i => (match vi_get ls i with | some (.int x) => vi_on ls (.int x :: st) S | _ => none)
    | .lload_n i => (match vi_get ls i with | some (.long x) => vi_on ls (.long x :: st) S | _ => none)
    | .lload i => (match vi_get ls i with | some (.long x) => vi_on ls (.long x :: st) S | _ => none)
    | .aload_n i => (match vi_get ls i with | some (.ref x) => vi_on ls (.ref x :: st) S | _ => none)
    | .aload i => (match vi_get ls i with | some (.ref x) => vi_on ls (.ref x :: st) S | _ => none)
    | .istore_n i => (match st with | .int x :: r => if (i : Nat) < ls.length then vi_on (vi_set ls i (.int x)) r S else none | _ => none)
    | .istore i => (match st with | .int x :: r => if i < ls.length then vi_on (vi_set ls i (.int x)) r S else none | _ => none)
    | .lstore_n i => (match st with | .long x :: r => if (i : Nat) + 1 < ls.length then vi_on (vi_set ls i (.long x)) r S else none | _ => none)
    | .lstore i => (match st with | .long x :: r => if i + 1 < ls.length then vi_on (vi_set ls i (.long x)) r S else none | _ => none)
    | .astore_n i => (match st with | .ref x :: r => if (i : Nat) < ls.length then vi_on (vi_set ls i (.ref x)) r S else none | _ => none)
    | .astore i => (match st with | .ref x :: r => if i < ls.length then vi_on (vi_set ls i (.ref x)) r S else none | _ => none)
    | .iinc i n => (match vi_get ls i with | some (.int x) => if i < ls.length then vi_on (vi_set ls i (.int (x + Int32.ofInt n))) st S else none | _ => none)
    | .iadd | .isub | .imul | .iand | .ior | .ixor | .ishl | .ishr | .iushr | .idiv | .irem => (match st with
      | .int y :: .int x :: r => (match vi_bin ins x y with | some w => vi_on ls (.int w :: r) S | none => none)
      | _ => none)
    | .ladd | .lsub | .lmul | .ldiv => (match st with
      | .long y :: .long x :: r => (match vi_lbin ins x y with | some w => vi_on ls (.long w :: r) S | none => none)
      | _ => none)
    | .i2l => (match st with | .int x :: r => vi_on ls (.long x.toInt64 :: r) S | _ => none)
    | .l2i => (match st with | .long x :: r => vi_on ls (.int x.toInt32 :: r) S | _ => none)
    | .lcmp => (match st with | .long y :: .long x :: r => vi_on ls (.int (lg_cmp x y) :: r) S | _ => none)
    | .dup => (match st with | v :: r => if v.category = 1 then vi_on ls (v :: v :: r) S else none | _ => none)
    | .goto _ => some (.inl (some a, ls, st, S))
    | .if_icmp c _ => (match st with | .int y :: .int x :: r => some (.inl (vi_br c x y a, ls, r, S)) | _ => none)
    | .ifCond c _ => (match st with | .int x :: r => some (.inl (vi_br c x 0 a, ls, r, S)) | _ => none)
    | .tableswitch d lo hi offs => (match st with
      | .int x :: r => if x.toInt < lo ∨ hi < x.toInt then some (.inl (some (((pc : Int) + d).toNat), ls, r, S)) else (match offs[(x.toInt - lo).toNat]? with
        | some o => some (.inl (some (((pc : Int) + o).toNat), ls, r, S))
        | none => none)
      | _ => none)
    | .getfield _ => (match st with | .ref n :: r => (match vi_fld S n a b with | some v => vi_on ls (v :: r) S | none => none) | _ => none)
    | .putfield _ => (match st with | v :: .ref n :: r => (match vi_put S n a b z v with | some S' => vi_on ls r S' | none => none) | _ => none)
    | .iaload => (match st with | .int i :: .ref n :: r => (match vi_ald X S n 0 i with | some x => vi_on ls (.int x :: r) S | none => none) | _ => none)
    | .baload => (match st with | .int i :: .ref n :: r => (match vi_ald X S n 1 i with | some x => vi_on ls (.int x :: r) S | none => none) | _ => none)
    | .iastore => (match st with | .int x :: .int i :: .ref n :: r => (match vi_ast S n 0 i x with | some S' => vi_on ls r S' | none => none) | _ => none)
    | .bastore => (match st with | .int x :: .int i :: .ref n :: r => if x = 0 ∨ x = 1 then (match vi_ast S n 1 i x with | some S' => vi_on ls r S' | none => none) else none | _ => none)
    | .aaload => (match st with
      | .int i :: .ref n :: r => (match S.1[n]? with
        | some (.inr (.inr l)) => if ¬ (i < 0 ∨ l.length ≤ i.toNatClampNeg) then (match l[i.toNatClampNeg]? with | some (some q) => vi_on ls (.ref q :: r) S | _ => none) else none
        | _ => none)
      | _ => none)
    | .aastore => (match st with
      | .ref q :: .int i :: .ref n :: r => (match S.1[n]? with
        | some (.inr (.inr l)) => if ¬ (i < 0 ∨ l.length ≤ i.toNatClampNeg) ∧ vi_is S q a = true then vi_on ls r (S.1.set n (.inr (.inr (l.set i.toNatClampNeg (some q)))), S.2) else none
        | _ => none)
      | _ => none)
    | .arraylength => (match st with | .ref n :: r => (match vi_len X S n with | some L => vi_on ls (.int (Int32.ofNat L) :: r) S | none => none) | _ => none)
    | .getstatic _ => vi_on ls (.ref a :: st) S
    | .new _ => if S.1.length < 900 then vi_on ls (.ref S.1.length :: st) (S.1 ++ [.inr (.inl (a, nf a))], vi_row S.2 S.1.length (fun _ => 0)) else none
    | .newarray _ => (match st with
      | .int n :: r => if S.1.length < 900 ∧ ¬ n < 0 ∧ n.toNatClampNeg ≤ 4096 then vi_on ls (.ref S.1.length :: r) (S.1 ++ [.inl (a, n.toNatClampNeg)], vi_row S.2 S.1.length (fun _ => 0)) else none
      | _ => none)
    | .anewarray _ => (match st with
      | .int n :: r => if S.1.length < 900 ∧ ¬ n < 0 ∧ n.toNatClampNeg ≤ 4096 then vi_on ls (.ref S.1.length :: r) (S.1 ++ [.inr (.inr (List.replicate n.toNatClampNeg none))], vi_row S.2 S.1.length (fun _ => 0)) else none
      | _ => none)
    | .invokestatic _ => vi_call a b ls st S
    | .invokevirtual _ => vi_calr a b z.toNat ls st S
    | .invokespecial _ => if a = vi_O then (match st with | .ref _ :: r => if (r.map fun v => v.category).sum ≤ 8 then vi_on ls r S else none | _ => none) else vi_calr a b z.toNat ls st S
    | .ireturn => (match st with | [.int v] => if z = 0 ∨ v = 0 ∨ v = 1 then some (.inr (.inr (some (.int v), S))) else none | _ => none)
    | .lreturn => (match st with | [.long v] => some (.inr (.inr (some (.long v), S))) | _ => none)
    | .areturn => (match st with | [.ref v] => some (.inr (.inr (some (.ref v), S))) | _ => none)
    | .return_ => (match st with | [] => some (.inr (.inr (none, S))) | _ => none)
    | _ => none
/-- a method's locals at its entry -/
def vi_arg : List Value → vi_Ls
  | [] => []
  | v :: vs => if v.category = 2 then some v :: none :: vi_arg vs else some v :: vi_arg vs
def vi_ent (n : Nat) (vs : List Value) : vi_Ls := vi_arg vs ++ List.replicate (n - (vi_arg vs).length) none
/-- the machine: B k t the code of method k from its place t on, nl k its number of locals; the first number is fuel -/
def vi_R (X : vi_Ex) (nf : Nat → List (Option Value)) (B : Nat → Nat → List vi_En) (nl : Nat → Nat) : Nat → Nat → List vi_En → vi_Ls → List Value → vi_Me → Option (Option Value × vi_Me)
  | 0, _, _, _, _, _ => none
  | _ + 1, _, [], _, _, _ => none
  | n + 1, k, E :: cs, ls, st, S => match vi_stp X nf E ls st S with
    | none => none
    | some (.inl (none, ls', st', S')) => vi_R X nf B nl n k cs ls' st' S'
    | some (.inl (some t, ls', st', S')) => vi_R X nf B nl n k (B k t) ls' st' S'
    | some (.inr (.inl (k', as, ls', st', S'))) => if (vi_arg as).length ≤ nl k' then (match vi_R X nf B nl n k' (B k' 0) (vi_ent (nl k') as) [] S' with
      | none => none
      | some (v, S2) => vi_R X nf B nl n k cs ls' (v.toList ++ st') S2) else none
    | some (.inr (.inr r)) => some r
