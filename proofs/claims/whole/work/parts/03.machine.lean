/-! a small machine of our own, over cells that are numbered from 0 as they are made: an int or boolean field or array place is a number 'mi a k', a place for a reference 'mr a k'; 'g' says how many cells and slots are made, and of which kind each is (below 11: an object of that class; 20 ints, 21 booleans, 22 references; 99 none) and how long. The script is the value .retAddr 0. -/
abbrev tw_G : Type := Nat × Nat × (Nat → Nat × Nat)
abbrev tw_I : Type := Nat → Nat → Int32
abbrev tw_Q : Type := Nat → Nat → Option Nat
abbrev tw_L : Type := List (Option Value)
def tw_kd (g : tw_G) (a : Nat) : Nat := (g.2.2 a).1
def tw_ln (g : tw_G) (a : Nat) : Nat := (g.2.2 a).2
def tw_st {α : Type} (f : Nat → α) (a : Nat) (r : α) : Nat → α := fun b => if b = a then r else f b
def tw_rf (c k : Nat) : Bool := match tw_ty c k with
  | .object _ => true
  | .array _ => true
  | _ => false
def tw_to (pc : Nat) (off : Int) (ls : tw_L) (st : List Value) : Option (Nat × tw_L × List Value) := if 0 ≤ (pc : Int) + off then some (((pc : Int) + off).toNat, ls, st) else none
def tw_sto (m i : Nat) (v : Value) (ls : tw_L) : Option tw_L := if i < ls.length ∧ (tw_lp m).all (fun j => i != j && i != j + 1) = true then some (ls.set i (some v)) else none
def tw_ci (b : Jvm.ClassFile.Cond) (x y : Int32) : Bool := match b with
  | .eq => decide (x = y)
  | .ne => decide (¬ x = y)
  | .lt => decide (x < y)
  | .ge => decide (y ≤ x)
  | .gt => decide (y < x)
  | .le => decide (x ≤ y)
/-- loads and stores -/
def tw_ld (ins : Instr) (len : Nat) (pc : Nat) (ls : tw_L) (st : List Value) : Option (Nat × tw_L × List Value) :=
  match ins with
  | .iload_n k => if len = 1 then (match ls[(k : Nat)]? with | some (some (.int x)) => some (pc + 1, ls, .int x :: st) | _ => none) else none
  | .iload i => if len = 2 then (match ls[i]? with | some (some (.int x)) => some (pc + 2, ls, .int x :: st) | _ => none) else none
  | .lload_n k => if len = 1 then (match ls[(k : Nat)]? with | some (some (.long x)) => some (pc + 1, ls, .long x :: st) | _ => none) else none
  | .lload i => if len = 2 then (match ls[i]? with | some (some (.long x)) => some (pc + 2, ls, .long x :: st) | _ => none) else none
  | .aload_n k => if len = 1 then (match ls[(k : Nat)]? with | some (some (.ref x)) => some (pc + 1, ls, .ref x :: st) | some (some .null) => some (pc + 1, ls, .null :: st) | some (some (.retAddr x)) => some (pc + 1, ls, .retAddr x :: st) | _ => none) else none
  | .aload i => if len = 2 then (match ls[i]? with | some (some (.ref x)) => some (pc + 2, ls, .ref x :: st) | some (some .null) => some (pc + 2, ls, .null :: st) | _ => none) else none
  | _ => none
def tw_so (m : Nat) (ins : Instr) (len : Nat) (pc : Nat) (ls : tw_L) (st : List Value) : Option (Nat × tw_L × List Value) :=
  match ins with
  | .istore_n k => if len = 1 then (match st with | .int x :: r => (tw_sto m k (.int x) ls).map (fun l => (pc + 1, l, r)) | _ => none) else none
  | .istore i => if len = 2 then (match st with | .int x :: r => (tw_sto m i (.int x) ls).map (fun l => (pc + 2, l, r)) | _ => none) else none
  | .astore_n k => if len = 1 then (match st with | .ref x :: r => (tw_sto m k (.ref x) ls).map (fun l => (pc + 1, l, r)) | .null :: r => (tw_sto m k .null ls).map (fun l => (pc + 1, l, r)) | _ => none) else none
  | .astore i => if len = 2 then (match st with | .ref x :: r => (tw_sto m i (.ref x) ls).map (fun l => (pc + 2, l, r)) | .null :: r => (tw_sto m i .null ls).map (fun l => (pc + 2, l, r)) | _ => none) else none
  | .iinc i n => if len = 3 then (match ls[i]? with | some (some (.int x)) => (tw_sto m i (.int (x + Int32.ofInt n)) ls).map (fun l => (pc + 3, l, st)) | _ => none) else none
  | _ => none
/-- constants and arithmetic -/
def tw_ar (ins : Instr) (len : Nat) (st : List Value) : Option (List Value) :=
  match ins with
  | .iconst n => if len = 1 then some (.int (Int32.ofInt n) :: st) else none
  | .bipush n => if len = 2 then some (.int (Int8.ofInt n).toInt32 :: st) else none
  | .sipush n => if len = 3 then some (.int (Int16.ofInt n).toInt32 :: st) else none
  | .lconst n => if len = 1 then some (.long (Int64.ofNat (n : Nat)) :: st) else none
  | .aconst_null => if len = 1 then some (.null :: st) else none
  | .iadd => if len = 1 then (match st with | .int y :: .int x :: r => some (.int (x + y) :: r) | _ => none) else none
  | .isub => if len = 1 then (match st with | .int y :: .int x :: r => some (.int (x - y) :: r) | _ => none) else none
  | .imul => if len = 1 then (match st with | .int y :: .int x :: r => some (.int (x * y) :: r) | _ => none) else none
  | .iand => if len = 1 then (match st with | .int y :: .int x :: r => some (.int (x &&& y) :: r) | _ => none) else none
  | .ior => if len = 1 then (match st with | .int y :: .int x :: r => some (.int (x ||| y) :: r) | _ => none) else none
  | .ixor => if len = 1 then (match st with | .int y :: .int x :: r => some (.int (x ^^^ y) :: r) | _ => none) else none
  | .ishl => if len = 1 then (match st with | .int y :: .int x :: r => some (.int (x <<< (y &&& 31)) :: r) | _ => none) else none
  | .ishr => if len = 1 then (match st with | .int y :: .int x :: r => some (.int (x >>> (y &&& 31)) :: r) | _ => none) else none
  | .idiv => if len = 1 then (match st with | .int y :: .int x :: r => if y = 0 then none else some (.int (x / y) :: r) | _ => none) else none
  | .irem => if len = 1 then (match st with | .int y :: .int x :: r => if y = 0 then none else some (.int (x - x / y * y) :: r) | _ => none) else none
  | .land => if len = 1 then (match st with | .long y :: .long x :: r => some (.long (x &&& y) :: r) | _ => none) else none
  | .lor => if len = 1 then (match st with | .long y :: .long x :: r => some (.long (x ||| y) :: r) | _ => none) else none
  | .lshl => if len = 1 then (match st with | .int y :: .long x :: r => some (.long (x <<< (y.toInt64 &&& 63)) :: r) | _ => none) else none
  | .lshr => if len = 1 then (match st with | .int y :: .long x :: r => some (.long (x >>> (y.toInt64 &&& 63)) :: r) | _ => none) else none
  | .lushr => if len = 1 then (match st with | .int y :: .long x :: r => some (.long (x.toUInt64 >>> (y.toInt64.toUInt64 &&& Int64.toUInt64 63)).toInt64 :: r) | _ => none) else none
  | .lcmp => if len = 1 then (match st with | .long y :: .long x :: r => some (.int (lg_cmp x y) :: r) | _ => none) else none
  | .i2l => if len = 1 then (match st with | .int x :: r => some (.long x.toInt64 :: r) | _ => none) else none
  | .l2i => if len = 1 then (match st with | .long x :: r => some (.int x.toInt32 :: r) | _ => none) else none
  | .dup => if len = 1 then (match st with | v :: r => if v.category = 1 then some (v :: v :: r) else none | _ => none) else none
  | .dup2 => if len = 1 then (match st with | v :: w :: r => if v.category = 1 ∧ w.category = 1 then some (v :: w :: v :: w :: r) else none | _ => none) else none
  | .pop => if len = 1 then (match st with | v :: r => if v.category = 1 then some r else none | _ => none) else none
  | _ => none
/-- jumps -/
def tw_jp (ins : Instr) (len : Nat) (pc : Nat) (ls : tw_L) (st : List Value) : Option (Nat × tw_L × List Value) :=
  match ins with
  | .ifCond b off => if len = 3 ∧ 0 ≤ (pc : Int) + off then (match st with | .int x :: r => if tw_ci b x 0 = true then tw_to pc off ls r else some (pc + 3, ls, r) | _ => none) else none
  | .if_icmp b off => if len = 3 ∧ 0 ≤ (pc : Int) + off then (match st with | .int y :: .int x :: r => if tw_ci b x y = true then tw_to pc off ls r else some (pc + 3, ls, r) | _ => none) else none
  | .goto off => if len = 3 then tw_to pc off ls st else none
  | .ifnull off => if len = 3 then (match st with | .ref _ :: r => some (pc + 3, ls, r) | .null :: r => tw_to pc off ls r | _ => none) else none
  | .ifnonnull off => if len = 3 then (match st with | .ref _ :: r => tw_to pc off ls r | .null :: r => some (pc + 3, ls, r) | _ => none) else none
  | .tableswitch dflt lo hi offs => (match st with
    | .int x :: r => if x.toInt < lo ∨ hi < x.toInt then tw_to pc dflt ls r else (match offs[(x.toInt - lo).toNat]? with | some off => tw_to pc off ls r | none => none)
    | _ => none)
  | .lookupswitch dflt ps => (match st with
    | .int x :: r => if (ps.toList.zip (ps.toList.drop 1)).all (fun (a, next) => a.1 < next.1) = true then tw_to pc (Op.lookupswitch.offset ps.toList dflt x.toInt) ls r else none
    | _ => none)
  | _ => none
/-- what touches the cells; 'd': how many calls may stand open still -/
def tw_rd (sc : Nat × (Nat → Int32)) (m : Nat) (d : Nat) (ins : Instr) (len : Nat) (st : List Value) (g : tw_G) (mi : tw_I) (mr : tw_Q) : Option (List Value) :=
  match ins with
  | .getfield i => if len = 3 then (match st with
    | .ref a :: r => (match tw_fld (tw_ow m) i with
      | some q => if tw_kd g a = q.2.2.1 then (if tw_rf q.2.2.1 q.2.2.2.1 = true then some (va_rf (mr a q.2.2.2.1) :: r) else some (.int (mi a q.2.2.2.1) :: r)) else none
      | none => none)
    | _ => none) else none
  | .iaload => if len = 1 then (match st with
    | .int j :: .ref a :: r => if tw_kd g a = 20 ∧ ¬ (j < 0 ∨ tw_ln g a ≤ j.toNatClampNeg) then some (.int (mi a j.toNatClampNeg) :: r) else none
    | .int j :: .retAddr _ :: r => if ¬ (j < 0 ∨ sc.1 ≤ j.toNatClampNeg) then some (.int (sc.2 j.toNatClampNeg) :: r) else none
    | _ => none) else none
  | .baload => if len = 1 then (match st with
    | .int j :: .ref a :: r => if tw_kd g a = 21 ∧ ¬ (j < 0 ∨ tw_ln g a ≤ j.toNatClampNeg) then some (.int (mi a j.toNatClampNeg) :: r) else none
    | _ => none) else none
  | .aaload => if len = 1 then (match st with
    | .int j :: .ref a :: r => if tw_kd g a = 22 ∧ ¬ (j < 0 ∨ tw_ln g a ≤ j.toNatClampNeg) then some (va_rf (mr a j.toNatClampNeg) :: r) else none
    | _ => none) else none
  | .arraylength => if len = 1 then (match st with
    | .retAddr _ :: r => some (.int (Int32.ofNat sc.1) :: r)
    | _ => none) else none
  | .ldc i => if len = 2 then (match tw_ldc (tw_ow m) i with | some q => some (.int q.2.2.1 :: st) | none => none) else none
  | .ldc2_w i => if len = 3 then (match tw_ldl (tw_ow m) i with | some q => some (.long q.2.2.1 :: st) | none => none) else none
  | .invokestatic i => if len = 3 then (match st with
    | .int y :: .int x :: r => (match tw_mat (tw_ow m) i with
      | some q => if 1 ≤ d ∧ r.length ≤ 4 then (if q.2.2.1 = true then some (.int (if x < y then y else x) :: r) else some (.int (if y < x then y else x) :: r)) else none
      | none => none)
    | _ => none) else none
  | .invokespecial i => if len = 3 then (match st with
    | .ref _ :: r => (match tw_oin (tw_ow m) i with
      | some _ => if 1 ≤ d ∧ r.length ≤ 4 then some r else none
      | none => none)
    | _ => none) else none
  | _ => none
def tw_gn (g : tw_G) (k n s : Nat) : tw_G := (g.1 + 1, g.2.1 + s, tw_st g.2.2 g.1 (k, n))
def tw_wr (m : Nat) (ins : Instr) (len : Nat) (st : List Value) (g : tw_G) (mi : tw_I) (mr : tw_Q) : Option (List Value × tw_G × tw_I × tw_Q) :=
  match ins with
  | .putfield i => if len = 3 then (match tw_fld (tw_ow m) i with
    | some q => if q.2.2.2.2.1 = false ∧ ((tw_fd q.2.2.1 q.2.2.2.1).2.2.1 = false ∨ ((tw_y m).name = "<init>" ∧ q.2.2.1 = tw_ow m)) then
        (match st with
        | .int x :: .ref a :: r => if tw_kd g a = q.2.2.1 ∧ (tw_ty q.2.2.1 q.2.2.2.1 = .int ∨ (tw_ty q.2.2.1 q.2.2.2.1 = .boolean ∧ (x = 0 ∨ x = 1))) then some (r, g, tw_st mi a (tw_st (mi a) q.2.2.2.1 x), mr) else none
        | .ref b :: .ref a :: r => if tw_kd g a = q.2.2.1 ∧ tw_rf q.2.2.1 q.2.2.2.1 = true then some (r, g, mi, tw_st mr a (tw_st (mr a) q.2.2.2.1 (some b))) else none
        | _ => none)
      else none
    | none => none) else none
  | .iastore => if len = 1 then (match st with
    | .int x :: .int j :: .ref a :: r => if tw_kd g a = 20 ∧ ¬ (j < 0 ∨ tw_ln g a ≤ j.toNatClampNeg) then some (r, g, tw_st mi a (tw_st (mi a) j.toNatClampNeg x), mr) else none
    | _ => none) else none
  | .bastore => if len = 1 then (match st with
    | .int x :: .int j :: .ref a :: r => if tw_kd g a = 21 ∧ (x = 0 ∨ x = 1) ∧ ¬ (j < 0 ∨ tw_ln g a ≤ j.toNatClampNeg) then some (r, g, tw_st mi a (tw_st (mi a) j.toNatClampNeg x), mr) else none
    | _ => none) else none
  | .aastore => if len = 1 then (match st with
    | .ref b :: .int j :: .ref a :: r => if tw_kd g a = 22 ∧ tw_kd g b = 2 ∧ ¬ (j < 0 ∨ tw_ln g a ≤ j.toNatClampNeg) then some (r, g, mi, tw_st mr a (tw_st (mr a) j.toNatClampNeg (some b))) else none
    | _ => none) else none
  | .new i => if len = 3 then (match tw_new (tw_ow m) i with
    | some q => some (.ref g.1 :: st, tw_gn g q.2.2.1 0 (tw_N q.2.2.1), tw_st mi g.1 (fun _ => 0), tw_st mr g.1 (fun _ => none))
    | none => none) else none
  | .newarray .int => if len = 2 then (match st with
    | .int n :: r => if ¬ n < 0 ∧ n.toNatClampNeg ≤ 100000 then some (.ref g.1 :: r, tw_gn g 20 n.toNatClampNeg n.toNatClampNeg, tw_st mi g.1 (fun _ => 0), tw_st mr g.1 (fun _ => none)) else none
    | _ => none) else none
  | .newarray .boolean => if len = 2 then (match st with
    | .int n :: r => if ¬ n < 0 ∧ n.toNatClampNeg ≤ 100000 then some (.ref g.1 :: r, tw_gn g 21 n.toNatClampNeg n.toNatClampNeg, tw_st mi g.1 (fun _ => 0), tw_st mr g.1 (fun _ => none)) else none
    | _ => none) else none
  | .anewarray i => if len = 3 ∧ tw_ow m = 1 ∧ i = 9 then (match st with
    | .int n :: r => if ¬ n < 0 ∧ n.toNatClampNeg ≤ 100000 then some (.ref g.1 :: r, tw_gn g 22 n.toNatClampNeg n.toNatClampNeg, tw_st mi g.1 (fun _ => 0), tw_st mr g.1 (fun _ => none)) else none
    | _ => none) else none
  | _ => none
def tw_en : List Value → tw_L
  | [] => []
  | v :: t => if v.category = 2 then some v :: none :: tw_en t else some v :: tw_en t
def tw_lg : Nat → List Value → List Nat
  | _, [] => []
  | i, v :: t => if v.category = 2 then i :: tw_lg (i + 2) t else tw_lg (i + 1) t
/-- a call: of which method, with which arguments, and what stays on the stack -/
def tw_ca (m : Nat) (ins : Instr) (len : Nat) (st : List Value) (g : tw_G) : Option (Nat × List Value × List Value) :=
  match ins with
  | .invokestatic i => if len = 3 then (match tw_cal (tw_ow m) i with
    | some q => if q.2.2.1 % 3 = 0 ∧ q.2.2.2.2.1 ≤ st.length then some (q.2.2.2.1, (st.take q.2.2.2.2.1).reverse, st.drop q.2.2.2.2.1) else none
    | none => none) else none
  | .invokevirtual i => if len = 3 then (match tw_cal (tw_ow m) i with
    | some q => if q.2.2.1 = 1 ∧ q.2.2.2.2.1 ≤ st.length then (match st.drop q.2.2.2.2.1 with
      | .ref b :: r => if tw_kd g b = tw_ow q.2.2.2.1 then some (q.2.2.2.1, .ref b :: (st.take q.2.2.2.2.1).reverse, r) else none
      | _ => none) else none
    | none => none) else none
  | .invokespecial i => if len = 3 then (match tw_cal (tw_ow m) i with
    | some q => if q.2.2.1 % 3 = 2 ∧ q.2.2.2.2.1 ≤ st.length then (match st.drop q.2.2.2.2.1 with
      | .ref b :: r => some (q.2.2.2.1, .ref b :: (st.take q.2.2.2.2.1).reverse, r)
      | _ => none) else none
    | none => none) else none
  | _ => none
def tw_re (m : Nat) (ins : Instr) (len : Nat) (st : List Value) : Option (Option Value) :=
  match ins with
  | .ireturn => if len = 1 then (match st with
    | [.int v] => (match tw_rt m with
      | some .int => some (some (.int v))
      | some .boolean => if v = 0 ∨ v = 1 then some (some (.int v)) else none
      | _ => none)
    | _ => none) else none
  | .areturn => if len = 1 then (match st with
    | [.ref a] => (match tw_rt m with | some (.object _) => some (some (.ref a)) | _ => none)
    | [.null] => (match tw_rt m with | some (.object _) => some (some .null) | _ => none)
    | _ => none) else none
  | .return_ => if len = 1 then (match st with
    | [] => (match tw_rt m with | none => some none | _ => none)
    | _ => none) else none
  | _ => none
def tw_lo (m : Nat) (ins : Instr) (len : Nat) (pc : Nat) (ls : tw_L) (st : List Value) : Option (Nat × tw_L × List Value) :=
  match tw_ar ins len st with
  | some st' => some (pc + len, ls, st')
  | none => match tw_ld ins len pc ls st with
    | some r => some r
    | none => match tw_so m ins len pc ls st with
      | some r => some r
      | none => tw_jp ins len pc ls st
def tw_hp (sc : Nat × (Nat → Int32)) (m : Nat) (d : Nat) (ins : Instr) (len : Nat) (st : List Value) (g : tw_G) (mi : tw_I) (mr : tw_Q) : Option (List Value × tw_G × tw_I × tw_Q) :=
  match tw_rd sc m d ins len st g mi mr with
  | some st' => some (st', g, mi, mr)
  | none => tw_wr m ins len st g mi mr
def tw_n0 (k : Nat) (as : List Value) : tw_L := tw_en as ++ List.replicate (tw_ml k - (tw_en as).length) none
def tw_run (sc : Nat × (Nat → Int32)) : Nat → Nat → Nat → Nat → tw_L → List Value → tw_G → tw_I → tw_Q → Option (Option Value × tw_G × tw_I × tw_Q)
  | 0, _, _, _, _, _, _, _, _ => none
  | f + 1, d, m, pc, ls, st, g, mi, mr =>
    match decode (tw_cd m) pc with
    | .error _ => none
    | .ok (ins, len) =>
      match tw_lo m ins len pc ls st with
      | some (pc', ls', st') => tw_run sc f d m pc' ls' st' g mi mr
      | none => match tw_hp sc m d ins len st g mi mr with
        | some (st', g', mi', mr') => tw_run sc f d m (pc + len) ls st' g' mi' mr'
        | none => match tw_ca m ins len st g with
          | some (k, as, r) =>
            if 1 ≤ d ∧ r.length ≤ 4 ∧ k < tw_ny ∧ tw_lg 0 as = tw_lp k ∧ (tw_en as).length ≤ tw_ml k then
              match tw_run sc f (d - 1) k 0 (tw_n0 k as) [] g mi mr with
              | some (v, g', mi', mr') => tw_run sc f d m (pc + 3) ls (v.toList ++ r) g' mi' mr'
              | none => none
            else none
          | none => match tw_re m ins len st with
            | some v => some (v, g, mi, mr)
            | none => none
/-- from here the machine comes to the end of its method, and the end is as Q says -/
def tw_E (sc : Nat × (Nat → Int32)) (d m pc : Nat) (ls : tw_L) (st : List Value) (g : tw_G) (mi : tw_I) (mr : tw_Q) (Q : Option Value → tw_G → tw_I → tw_Q → Prop) : Prop :=
  ∃ (f : Nat) (v : Option Value) (g' : tw_G) (mi' : tw_I) (mr' : tw_Q), tw_run sc f d m pc ls st g mi mr = some (v, g', mi', mr') ∧ Q v g' mi' mr'
