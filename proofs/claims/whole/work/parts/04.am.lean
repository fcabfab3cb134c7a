/-! ===== THE SMALL MACHINE: the code of the claim's methods, run over plain data (a heap is a function of places, a place below 20 is one that was there before) ===== -/
abbrev ax_E : Type := (Nat × Nat × (Nat → Int32)) ⊕ (Nat × List Value)
abbrev ax_H : Type := Nat → ax_E
def ax_dead : ax_E := .inr (99, [])
abbrev ax_dm : Value := .float 0
def ax_up (h : ax_H) (a : Nat) (e : ax_E) : ax_H := fun j => if j = a then e else h j
abbrev ax_R : Type := Option Value × Nat × ax_H
def ax_len (i : Instr) : Nat := match i with
  | .bipush _ => 2
  | .iload _ => 2
  | .istore _ => 2
  | .lload _ => 2
  | .lstore _ => 2
  | .ldc _ => 2
  | .newarray _ => 2
  | .sipush _ => 3
  | .ldc_w _ => 3
  | .ldc2_w _ => 3
  | .iinc _ _ => 3
  | .goto _ => 3
  | .if_icmp _ _ => 3
  | .ifCond _ _ => 3
  | .getfield _ => 3
  | .putfield _ => 3
  | .getstatic _ => 3
  | .new _ => 3
  | .invokevirtual _ => 3
  | .invokestatic _ => 3
  | .invokespecial _ => 3
  | .tableswitch _ _ _ _ => 0
  | _ => 1
def ax_at (y pc : Nat) : Option Instr := ((ax_codes.getD y []).find? (fun q => q.1 == pc)).map (fun q => q.2.1)
def ax_fld (c k : Nat) : Option (Nat × Nat) := (ax_flds.find? (fun q => q.1 == c && q.2.1 == k)).map (fun q => (q.2.2.1, q.2.2.2.1))
def ax_mth (c k : Nat) : Option Nat := (ax_mths.find? (fun q => q.1 == c && q.2.1 == k)).map (fun q => q.2.2.1)
def ax_sta (c k : Nat) : Option Value := (ax_stas.find? (fun q => q.1 == c && q.2.1 == k)).map (fun q => q.2.2.1)
def ax_csi (c k : Nat) : Option Int32 := (ax_csis.find? (fun q => q.1 == c && q.2.1 == k)).map (fun q => q.2.2.1)
def ax_csl (c k : Nat) : Option Int64 := (ax_csls.find? (fun q => q.1 == c && q.2.1 == k)).map (fun q => q.2.2.1)
def ax_str (c k : Nat) : Option Nat := (ax_strs.find? (fun q => q.1 == c && q.2.1 == k)).map (fun q => q.2.2.2)
def ax_cls (c k : Nat) : Option Nat := (ax_clss.find? (fun q => q.1 == c && q.2.1 == k)).map (fun q => q.2.2.1)
def ax_inf (y : Nat) : ax_I := ax_infs.getD y ax_i0
abbrev ax_cl (y : Nat) : Nat := (ax_inf y).1
abbrev ax_nm (y : Nat) : MethodName := (ax_inf y).2.1
abbrev ax_by (y : Nat) : ByteArray := (ax_inf y).2.2.1
abbrev ax_ml (y : Nat) : Nat := (ax_inf y).2.2.2.1
abbrev ax_rt (y : Nat) : Option FieldType := (ax_inf y).2.2.2.2.1
abbrev ax_np (y : Nat) : Nat := (ax_inf y).2.2.2.2.2.1
abbrev ax_sc (y : Nat) : Bool := (ax_inf y).2.2.2.2.2.2
def ax_ii (f : Int32 → Int32 → Int32) (st : List Value) : Option (List Value) := match st with
  | .int y :: .int x :: r => some (.int (f x y) :: r)
  | _ => none
def ax_ll (f : Int64 → Int64 → Int64) (st : List Value) : Option (List Value) := match st with
  | .long y :: .long x :: r => some (.long (f x y) :: r)
  | _ => none
def ax_ld (f : Int64 → Int64 → Int64) (st : List Value) : Option (List Value) := match st with
  | .long y :: .long x :: r => if y = 0 then none else some (.long (f x y) :: r)
  | _ => none
def ax_id (f : Int32 → Int32 → Int32) (st : List Value) : Option (List Value) := match st with
  | .int y :: .int x :: r => if y = 0 then none else some (.int (f x y) :: r)
  | _ => none
def ax_u1 (f : Int32 → Value) (st : List Value) : Option (List Value) := match st with
  | .int x :: r => some (f x :: r)
  | _ => none
/-- the operand stack alone -/
def ax_st (i : Instr) (st : List Value) : Option (List Value) := match i with
  | .iadd => ax_ii (fun x y => x + y) st
  | .isub => ax_ii (fun x y => x - y) st
  | .imul => ax_ii (fun x y => x * y) st
  | .iand => ax_ii (fun x y => x &&& y) st
  | .ior => ax_ii (fun x y => x ||| y) st
  | .ishl => ax_ii (fun x y => x <<< (y &&& 31)) st
  | .ishr => ax_ii (fun x y => x >>> (y &&& 31)) st
  | .iushr => ax_ii (fun x y => (x.toUInt32 >>> (y.toUInt32 &&& Int32.toUInt32 31)).toInt32) st
  | .irem => ax_id (fun x y => x - x / y * y) st
  | .ineg => ax_u1 (fun x => .int (-x)) st
  | .i2l => ax_u1 (fun x => .long x.toInt64) st
  | .i2c => ax_u1 (fun x => .int (x.toUInt32 % 65536).toInt32) st
  | .l2i => match st with
    | .long x :: r => some (.int x.toInt32 :: r)
    | _ => none
  | .ladd => ax_ll (fun x y => x + y) st
  | .lmul => ax_ll (fun x y => x * y) st
  | .ldiv => ax_ld (fun x y => x / y) st
  | .lrem => ax_ld (fun x y => x - x / y * y) st
  | .lcmp => match st with
    | .long y :: .long x :: r => some (.int (lg_cmp x y) :: r)
    | _ => none
  | .iconst n => some (.int (Int32.ofInt n) :: st)
  | .bipush n => some (.int (Int8.ofInt n).toInt32 :: st)
  | .sipush n => some (.int (Int16.ofInt n).toInt32 :: st)
  | .lconst n => some (.long (Int64.ofNat (n : Nat)) :: st)
  | .dup => match st with
    | v :: r => if v.category = 1 then some (v :: v :: r) else none
    | _ => none
  | .pop => match st with
    | v :: r => if v.category = 1 then some r else none
    | _ => none
  | .dup2 => match st with
    | v :: w :: r => if v.category = 1 ∧ w.category = 1 then some (v :: w :: v :: w :: r) else none
    | _ => none
  | _ => none
def ax_put : List Value → Nat → Value → List Value
  | [], _, _ => []
  | _ :: l, 0, v => v :: (if v.category = 2 then (match l with
    | [] => []
    | _ :: l2 => ax_dm :: l2) else l)
  | w :: l, i + 1, v => (if i = 0 ∧ w.category = 2 then ax_dm else w) :: ax_put l i v
def ax_ldi (k : Nat) (lc st : List Value) : Option (List Value × List Value) := match lc[k]? with
  | some (.int x) => some (lc, .int x :: st)
  | _ => none
def ax_ldl (k : Nat) (lc st : List Value) : Option (List Value × List Value) := match lc[k]? with
  | some (.long x) => some (lc, .long x :: st)
  | _ => none
def ax_lda (k : Nat) (lc st : List Value) : Option (List Value × List Value) := match lc[k]? with
  | some (.ref x) => some (lc, .ref x :: st)
  | _ => none
def ax_sti (k : Nat) (lc st : List Value) : Option (List Value × List Value) := match st with
  | .int x :: r => if k < lc.length then some (ax_put lc k (.int x), r) else none
  | _ => none
def ax_sta1 (k : Nat) (lc st : List Value) : Option (List Value × List Value) := match st with
  | .ref x :: r => if k < lc.length then some (ax_put lc k (.ref x), r) else none
  | _ => none
def ax_stl (k : Nat) (lc st : List Value) : Option (List Value × List Value) := match st with
  | .long x :: r => if k + 1 < lc.length then some (ax_put lc k (.long x), r) else none
  | _ => none
/-- the locals -/
def ax_lc (i : Instr) (lc st : List Value) : Option (List Value × List Value) := match i with
  | .iload k => ax_ldi k lc st
  | .iload_n k => ax_ldi k lc st
  | .lload k => ax_ldl k lc st
  | .lload_n k => ax_ldl k lc st
  | .aload_n k => ax_lda k lc st
  | .istore k => ax_sti k lc st
  | .istore_n k => ax_sti k lc st
  | .lstore k => ax_stl k lc st
  | .lstore_n k => ax_stl k lc st
  | .astore_n k => ax_sta1 k lc st
  | .iinc k n => match lc[k]? with
    | some (.int x) => if k < lc.length then some (ax_put lc k (.int (x + Int32.ofInt n)), st) else none
    | _ => none
  | _ => none
def ax_cmp (c : Jvm.ClassFile.Cond) (x y : Int32) : Bool := match c with
  | .eq => decide (x = y)
  | .ne => decide (¬ x = y)
  | .lt => decide (x < y)
  | .ge => decide (y ≤ x)
  | .gt => decide (y < x)
  | .le => decide (x ≤ y)
/-- where it goes on -/
def ax_br (i : Instr) (pc : Nat) (st : List Value) : Option (Nat × List Value) := match i with
  | .goto off => if 0 ≤ (pc : Int) + off then some (((pc : Int) + off).toNat, st) else none
  | .if_icmp c off => match st with
    | .int y :: .int x :: r => if 0 ≤ (pc : Int) + off then some (if ax_cmp c x y then ((pc : Int) + off).toNat else pc + 3, r) else none
    | _ => none
  | .ifCond c off => match st with
    | .int x :: r => if 0 ≤ (pc : Int) + off then some (if ax_cmp c x 0 then ((pc : Int) + off).toNat else pc + 3, r) else none
    | _ => none
  | .tableswitch dflt lo hi offs => match st with
    | .int x :: r => if x.toInt < lo ∨ hi < x.toInt then (if 0 ≤ (pc : Int) + dflt then some (((pc : Int) + dflt).toNat, r) else none) else (match offs[(x.toInt - lo).toNat]? with
      | some off => if 0 ≤ (pc : Int) + off then some (((pc : Int) + off).toNat, r) else none
      | none => none)
    | _ => none
  | _ => none
def ax_fty (ci j : Nat) : FieldType := (ax_ftys.getD ci []).getD j .int
def ax_fin (ci j : Nat) : Bool := (ax_fins.getD ci []).getD j true
def ax_getf (c k a : Nat) (r : List Value) (h : ax_H) : Option (List Value) := match ax_fld c k with
  | some q => (match h a with
    | .inr (ci, fs) => if ci = q.1 then (match fs[q.2]? with
      | some v => some (v :: r)
      | none => none) else none
    | .inl _ => none)
  | none => none
def ax_putf (c : Nat) (ini : Bool) (k a : Nat) (v : Value) (h : ax_H) : Option ax_H := match ax_fld c k with
  | some q => (match h a with
    | .inr (ci, fs) => if ci = q.1 ∧ ci < 11 ∧ q.2 < fs.length ∧ 20 ≤ a ∧ narrow (ax_fty q.1 q.2) v = v ∧ fits (ax_fty q.1 q.2) v = true ∧ (ax_fin q.1 q.2 = false ∨ (ini = true ∧ q.1 = c)) then some (ax_up h a (.inr (ci, fs.set q.2 v))) else none
    | .inl _ => none)
  | none => none
/-- the heap -/
def ax_hp (c : Nat) (ini : Bool) (i : Instr) (st : List Value) (n : Nat) (h : ax_H) : Option (List Value × Nat × ax_H) := match i with
  | .getfield k => match st with
    | .ref a :: r => (ax_getf c k a r h).map (fun s => (s, n, h))
    | _ => none
  | .putfield k => match st with
    | v :: .ref a :: r => (ax_putf c ini k a v h).map (fun h1 => (r, n, h1))
    | _ => none
  | .getstatic k => (ax_sta c k).map (fun v => (v :: st, n, h))
  | .ldc k => match ax_csi c k with
    | some v => some (.int v :: st, n, h)
    | none => (ax_str c k).map (fun a => (.ref a :: st, n, h))
  | .ldc_w k => (ax_csi c k).map (fun v => (.int v :: st, n, h))
  | .ldc2_w k => (ax_csl c k).map (fun v => (.long v :: st, n, h))
  | .arraylength => match st with
    | .ref a :: r => (match h a with
      | .inl (_, len, _) => some (.int (nI len) :: r, n, h)
      | .inr _ => none)
    | _ => none
  | .iaload => match st with
    | .int x :: .ref a :: r => (match h a with
      | .inl (t, len, f) => if t = 0 ∧ ¬ (x < 0 ∨ len ≤ x.toNatClampNeg) then some (.int (f x.toNatClampNeg) :: r, n, h) else none
      | .inr _ => none)
    | _ => none
  | .baload => match st with
    | .int x :: .ref a :: r => (match h a with
      | .inl (t, len, f) => if (t = 1 ∨ t = 2) ∧ ¬ (x < 0 ∨ len ≤ x.toNatClampNeg) then some (.int (f x.toNatClampNeg) :: r, n, h) else none
      | .inr _ => none)
    | _ => none
  | .iastore => match st with
    | .int v :: .int x :: .ref a :: r => (match h a with
      | .inl (t, len, f) => if t = 0 ∧ 20 ≤ a ∧ ¬ (x < 0 ∨ len ≤ x.toNatClampNeg) then some (r, n, ax_up h a (.inl (0, len, upd f x.toNatClampNeg v))) else none
      | .inr _ => none)
    | _ => none
  | .bastore => match st with
    | .int v :: .int x :: .ref a :: r => (match h a with
      | .inl (t, len, f) => if t = 1 ∧ 20 ≤ a ∧ (v = 0 ∨ v = 1) ∧ ¬ (x < 0 ∨ len ≤ x.toNatClampNeg) then some (r, n, ax_up h a (.inl (1, len, upd f x.toNatClampNeg v))) else none
      | .inr _ => none)
    | _ => none
  | .newarray ty => match st with
    | .int x :: r => if (ty = .int ∨ ty = .boolean) ∧ ¬ x < 0 ∧ x.toNatClampNeg ≤ 400 then some (.ref (n + 20) :: r, n + 1, ax_up h (n + 20) (.inl (if ty = .int then 0 else 1, x.toNatClampNeg, fun _ => 0))) else none
    | _ => none
  | .new k => (ax_cls c k).map (fun ci => (.ref (n + 20) :: st, n + 1, ax_up h (n + 20) (.inr (ci, ax_news.getD ci []))))
  | _ => none
/-- as many values off the stack, the first below -/
def ax_pop : Nat → List Value → List Value → Option (List Value × List Value)
  | 0, as, st => some (as, st)
  | k + 1, as, v :: st => ax_pop k (v :: as) st
  | _ + 1, _, [] => none
def ax_spread : List Value → List Value
  | [] => []
  | v :: l => if v.category = 2 then v :: ax_dm :: ax_spread l else v :: ax_spread l
/-- the locals at a method's entry -/
def ax_ent (z : Nat) (as : List Value) : List Value := ax_spread as ++ List.replicate (ax_ml z - (ax_spread as).length) ax_dm
/-- a call: the method, its arguments, what stays on the stack -/
def ax_cv (c : Nat) (i : Instr) (st : List Value) (h : ax_H) : Option (Nat × List Value × List Value) := match i with
  | .invokestatic k => (match ax_mth c k with
    | some z => if z < 226 ∧ ax_sc z = true then (match ax_pop (ax_np z) [] st with
      | some (as, r) => if r.length ≤ 4 ∧ (ax_spread as).length ≤ ax_ml z then some (z, as, r) else none
      | none => none) else none
    | none => none)
  | .invokevirtual k => (match ax_mth c k with
    | some z => if z < 226 ∧ ax_sc z = false ∧ ¬ (ax_nm z).name = "<init>" then (match ax_pop (ax_np z) [] st with
      | some (as, .ref b :: r) => (match h b with
        | .inr (ci, _) => if ci = ax_cl z ∧ r.length ≤ 4 ∧ (ax_spread (.ref b :: as)).length ≤ ax_ml z then some (z, .ref b :: as, r) else none
        | .inl _ => none)
      | _ => none) else none
    | none => none)
  | .invokespecial k => (match ax_mth c k with
    | some z => if z < 226 ∧ ax_sc z = false ∧ (ax_nm z).name = "<init>" then (match ax_pop (ax_np z) [] st with
      | some (as, .ref b :: r) => if r.length ≤ 4 ∧ (ax_spread (.ref b :: as)).length ≤ ax_ml z then some (z, .ref b :: as, r) else none
      | _ => none) else none
    | none => none)
  | _ => none
/-- Object's constructor, System.arraycopy -/
def ax_nv (c : Nat) (i : Instr) (st : List Value) (h : ax_H) : Option (List Value × ax_H) := match i with
  | .invokespecial k => if ax_mth c k = some 900 then (match st with
    | .ref _ :: r => if r.length ≤ 4 then some (r, h) else none
    | _ => none) else none
  | .invokestatic k => if ax_mth c k = some 901 then (match st with
    | .int m :: .int dp :: .ref a :: .int sp :: .ref a0 :: r => (match h a0, h a with
      | .inl (t0, n0, f), .inl (t1, n1, g) => if t0 = 0 ∧ t1 = 0 ∧ 20 ≤ a0 ∧ 20 ≤ a ∧ r.length ≤ 4 ∧ ¬ sp < 0 ∧ ¬ dp < 0 ∧ ¬ m < 0 ∧ sp.toNatClampNeg + m.toNatClampNeg ≤ n0 ∧ dp.toNatClampNeg + m.toNatClampNeg ≤ n1 then some (r, ax_up h a (.inl (0, n1, va_cpy f g sp.toNatClampNeg dp.toNatClampNeg m.toNatClampNeg))) else none
      | _, _ => none)
    | _ => none) else (if ax_mth c k = some 902 then (match st with
    | .int y :: .int x :: r => if r.length ≤ 4 then some (.int (if x < y then y else x) :: r, h) else none
    | _ => none) else (if ax_mth c k = some 903 then (match st with
    | .int y :: .int x :: r => if r.length ≤ 4 then some (.int (if y < x then y else x) :: r, h) else none
    | _ => none) else (if ax_mth c k = some 904 then (match st with
    | .int x :: r => if r.length ≤ 4 then some (.int (if 0 ≤ x then x else 0 - x) :: r, h) else none
    | _ => none) else none)))
  | _ => none
/-- the end of a method -/
def ax_rv (y : Nat) (i : Instr) (st : List Value) : Option (Option Value) := match i with
  | .ireturn => match st with
    | [.int v] => (match ax_rt y with
      | some ty => if narrow ty (.int v) = .int v then some (some (.int v)) else none
      | none => none)
    | _ => none
  | .lreturn => match st with
    | [.long v] => if ax_rt y = some .long then some (some (.long v)) else none
    | _ => none
  | .areturn => match st with
    | [.ref a] => (match ax_rt y with
      | some (.object _) => some (some (.ref a))
      | _ => none)
    | _ => none
  | .return_ => match st with
    | [] => if ax_rt y = none then some none else none
    | _ => none
  | _ => none
def ax_ini (y : Nat) : Bool := decide ((ax_nm y).name = "<init>")
def ax_run : Nat → Nat → Nat → Nat → List Value → List Value → Nat → ax_H → Option ax_R
  | 0, _, _, _, _, _, _, _ => none
  | g + 1, d, y, pc, lc, st, n, h => match ax_at y pc with
    | none => none
    | some i => match ax_st i st with
      | some st1 => ax_run g d y (pc + ax_len i) lc st1 n h
      | none => match ax_lc i lc st with
        | some q => ax_run g d y (pc + ax_len i) q.1 q.2 n h
        | none => match ax_br i pc st with
          | some q => ax_run g d y q.1 lc q.2 n h
          | none => match ax_hp (ax_cl y) (ax_ini y) i st n h with
            | some q => ax_run g d y (pc + ax_len i) lc q.1 q.2.1 q.2.2
            | none => match ax_cv (ax_cl y) i st h with
              | some q => (match d with
                | 0 => none
                | d + 1 => (match ax_run g d q.1 0 (ax_ent q.1 q.2.1) [] n h with
                  | none => none
                  | some o => ax_run g (d + 1) y (pc + 3) lc (o.1.toList ++ q.2.2) o.2.1 o.2.2))
              | none => match ax_nv (ax_cl y) i st h with
                | some q => if d = 0 then none else ax_run g d y (pc + 3) lc q.1 n q.2
                | none => (ax_rv y i st).map (fun v => (v, n, h))
/-- it comes to an end, with Q -/
def ax_W (d y pc : Nat) (lc st : List Value) (n : Nat) (h : ax_H) (Q : Option Value → Nat → ax_H → Prop) : Prop := ∃ (g : Nat) (o : ax_R), ax_run g d y pc lc st n h = some o ∧ Q o.1 o.2.1 o.2.2
