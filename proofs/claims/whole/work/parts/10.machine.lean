/-! The small machine: a list of cells (a tag, its values), frames of lists; partial: none where it has no answer. -/
abbrev mj_C : Type := Nat × List Value
abbrev mj_H : Type := List mj_C
abbrev mj_L : Type := List (Nat × Value)
def mj_lk : mj_L → Nat → Option Value
  | [], _ => none
  | q :: l, i => if q.1 = i then some q.2 else mj_lk l i
def mj_s1 (ls : mj_L) (i : Nat) (v : Value) : mj_L := (i, v) :: ls.filter (fun q => !(q.1 == i) && !(q.1 + 1 == i && q.2.category == 2))
def mj_s2 (ls : mj_L) (i : Nat) (v : Value) : mj_L := (i, v) :: ls.filter (fun q => !(q.1 == i) && (!(q.1 == i + 1) && !(q.1 + 1 == i && q.2.category == 2)))
/-- kinds: 0 stack and locals read, 1 locals written, 2 jumps, 3 heap read, 4 heap written, 5 calls, 6 returns, 7 none -/
def mj_kd : Jvm.ClassFile.Instr → Nat
  | .aconst_null | .iconst _ | .bipush _ | .sipush _ | .lconst _ | .iload _ | .iload_n _ | .lload _ | .lload_n _ | .aload _ | .aload_n _ => 0
  | .iadd | .isub | .imul | .iand | .ior | .ixor | .ishl | .ishr | .iushr | .irem => 0
  | .ladd | .lsub | .lmul | .land | .lor | .lshl | .lshr | .lushr | .lrem | .lcmp | .i2l | .l2i | .i2b | .i2c | .dup | .dup2 | .pop => 0
  | .istore _ | .istore_n _ | .lstore _ | .lstore_n _ | .astore _ | .astore_n _ | .iinc _ _ => 1
  | .ifCond _ _ | .if_icmp _ _ | .goto _ | .ifnull _ | .ifnonnull _ | .tableswitch _ _ _ _ | .lookupswitch _ _ => 2
  | .getfield _ | .arraylength | .iaload | .baload | .laload | .aaload | .getstatic _ | .ldc _ | .ldc_w _ | .ldc2_w _ => 3
  | .putfield _ | .iastore | .bastore | .lastore | .aastore | .new _ | .newarray _ | .anewarray _ => 4
  | .invokevirtual _ | .invokespecial _ | .invokestatic _ => 5
  | .ireturn | .lreturn | .areturn | .return_ => 6
  | _ => 7
def mj_ldi (v : Option Value) (st : List Value) : Option (List Value) := match v with
  | some (.int x) => some (.int x :: st)
  | _ => none
def mj_ldl (v : Option Value) (st : List Value) : Option (List Value) := match v with
  | some (.long x) => some (.long x :: st)
  | _ => none
def mj_lda (v : Option Value) (st : List Value) : Option (List Value) := match v with
  | some (.ref x) => some (.ref x :: st)
  | some .null => some (.null :: st)
  | _ => none
def mj_ii (f : Int32 → Int32 → Int32) : List Value → Option (List Value)
  | .int y :: .int x :: r => some (.int (f x y) :: r)
  | _ => none
def mj_ll (f : Int64 → Int64 → Int64) : List Value → Option (List Value)
  | .long y :: .long x :: r => some (.long (f x y) :: r)
  | _ => none
def mj_li (f : Int64 → Int32 → Int64) : List Value → Option (List Value)
  | .int y :: .long x :: r => some (.long (f x y) :: r)
  | _ => none
def mj_i1 (f : Int32 → Value) : List Value → Option (List Value)
  | .int x :: r => some (f x :: r)
  | _ => none
def mj_pu (i : Jvm.ClassFile.Instr) (ls : mj_L) (st : List Value) : Option (List Value) := match i with
  | .aconst_null => some (.null :: st)
  | .iconst n => some (.int (Int32.ofInt n) :: st)
  | .bipush n => some (.int (Int8.ofInt n).toInt32 :: st)
  | .sipush n => some (.int (Int16.ofInt n).toInt32 :: st)
  | .lconst n => some (.long (Int64.ofNat (n : Nat)) :: st)
  | .iload k => mj_ldi (mj_lk ls k) st
  | .iload_n k => mj_ldi (mj_lk ls (k : Nat)) st
  | .lload k => mj_ldl (mj_lk ls k) st
  | .lload_n k => mj_ldl (mj_lk ls (k : Nat)) st
  | .aload k => mj_lda (mj_lk ls k) st
  | .aload_n k => mj_lda (mj_lk ls (k : Nat)) st
  | .iadd => mj_ii (fun x y => x + y) st
  | .isub => mj_ii (fun x y => x - y) st
  | .imul => mj_ii (fun x y => x * y) st
  | .iand => mj_ii (fun x y => x &&& y) st
  | .ior => mj_ii (fun x y => x ||| y) st
  | .ixor => mj_ii (fun x y => x ^^^ y) st
  | .ishl => mj_ii (fun x y => x <<< (y &&& 31)) st
  | .ishr => mj_ii (fun x y => x >>> (y &&& 31)) st
  | .iushr => mj_ii (fun x y => (x.toUInt32 >>> (y.toUInt32 &&& Int32.toUInt32 31)).toInt32) st
  | .irem => match st with
    | .int y :: .int x :: r => if y = 0 then none else some (.int (x - x / y * y) :: r)
    | _ => none
  | .ladd => mj_ll (fun x y => x + y) st
  | .lsub => mj_ll (fun x y => x - y) st
  | .lmul => mj_ll (fun x y => x * y) st
  | .land => mj_ll (fun x y => x &&& y) st
  | .lor => mj_ll (fun x y => x ||| y) st
  | .lshl => mj_li (fun x y => x <<< (y.toInt64 &&& 63)) st
  | .lshr => mj_li (fun x y => x >>> (y.toInt64 &&& 63)) st
  | .lushr => mj_li (fun x y => (x.toUInt64 >>> (y.toInt64.toUInt64 &&& Int64.toUInt64 63)).toInt64) st
  | .lrem => match st with
    | .long y :: .long x :: r => if y = 0 then none else some (.long (x - x / y * y) :: r)
    | _ => none
  | .lcmp => match st with
    | .long y :: .long x :: r => some (.int (lg_cmp x y) :: r)
    | _ => none
  | .i2l => mj_i1 (fun x => .long x.toInt64) st
  | .l2i => match st with
    | .long x :: r => some (.int x.toInt32 :: r)
    | _ => none
  | .i2b => mj_i1 (fun x => .int x.toInt8.toInt32) st
  | .i2c => mj_i1 (fun x => .int (x.toUInt32 % 65536).toInt32) st
  | .dup => match st with
    | v :: r => if v.category = 1 then some (v :: v :: r) else none
    | _ => none
  | .dup2 => match st with
    | v :: r => if v.category = 2 then some (v :: v :: r) else match r with
      | w :: r => if w.category = 1 then some (v :: w :: v :: w :: r) else none
      | _ => none
    | _ => none
  | .pop => match st with
    | v :: r => if v.category = 1 then some r else none
    | _ => none
  | _ => none
def mj_lo (nL : Nat) (i : Jvm.ClassFile.Instr) (ls : mj_L) (st : List Value) : Option (mj_L × List Value) := match i, st with
  | .istore k, .int x :: r => if k < nL then some (mj_s1 ls k (.int x), r) else none
  | .istore_n k, .int x :: r => if (k : Nat) < nL then some (mj_s1 ls (k : Nat) (.int x), r) else none
  | .lstore k, .long x :: r => if k + 1 < nL then some (mj_s2 ls k (.long x), r) else none
  | .lstore_n k, .long x :: r => if (k : Nat) + 1 < nL then some (mj_s2 ls (k : Nat) (.long x), r) else none
  | .astore k, .ref x :: r => if k < nL then some (mj_s1 ls k (.ref x), r) else none
  | .astore k, .null :: r => if k < nL then some (mj_s1 ls k .null, r) else none
  | .astore_n k, .ref x :: r => if (k : Nat) < nL then some (mj_s1 ls (k : Nat) (.ref x), r) else none
  | .astore_n k, .null :: r => if (k : Nat) < nL then some (mj_s1 ls (k : Nat) .null, r) else none
  | .iinc k n, r => match mj_lk ls k with
    | some (.int x) => if k < nL then some (mj_s1 ls k (.int (x + Int32.ofInt n)), r) else none
    | _ => none
  | _, _ => none
def mj_tg (pc : Nat) (off : Int) : Option Nat := if 0 ≤ (pc : Int) + off then some ((pc : Int) + off).toNat else none
def mj_c1 : Jvm.ClassFile.Cond → Int32 → Bool
  | .eq, x => decide (x = 0)
  | .ne, x => !decide (x = 0)
  | .lt, x => decide (x < 0)
  | .ge, x => decide (0 ≤ x)
  | .gt, x => decide (0 < x)
  | .le, x => decide (x ≤ 0)
def mj_c2 : Jvm.ClassFile.Cond → Int32 → Int32 → Bool
  | .eq, x, y => decide (x = y)
  | .ne, x, y => !decide (x = y)
  | .lt, x, y => decide (x < y)
  | .ge, x, y => decide (y ≤ x)
  | .gt, x, y => decide (y < x)
  | .le, x, y => decide (x ≤ y)
def mj_br (i : Jvm.ClassFile.Instr) (pc : Nat) (st : List Value) : Option (Nat × List Value) := match i, st with
  | .ifCond c off, .int x :: r => (mj_tg pc off).map (fun t => (bif mj_c1 c x then t else pc + 3, r))
  | .if_icmp c off, .int y :: .int x :: r => (mj_tg pc off).map (fun t => (bif mj_c2 c x y then t else pc + 3, r))
  | .goto off, r => (mj_tg pc off).map (·, r)
  | .ifnull off, .null :: r => (mj_tg pc off).map (·, r)
  | .ifnull _, .ref _ :: r => some (pc + 3, r)
  | .ifnonnull off, .ref _ :: r => (mj_tg pc off).map (·, r)
  | .ifnonnull _, .null :: r => some (pc + 3, r)
  | .tableswitch dflt lo hi offs, .int x :: r => if x.toInt < lo ∨ hi < x.toInt then (mj_tg pc dflt).map (·, r) else match offs[(x.toInt - lo).toNat]? with
    | some off => (mj_tg pc off).map (·, r)
    | none => none
  | .lookupswitch dflt ps, .int x :: r => if (ps.toList.zip (ps.toList.drop 1)).all (fun (a, next) => a.1 < next.1) = true then (mj_tg pc (Op.lookupswitch.offset ps.toList dflt x.toInt)).map (·, r) else none
  | _, _ => none
def mj_ix (i : Int32) (n : Nat) : Option Nat := if i < 0 ∨ n ≤ i.toNatClampNeg then none else some i.toNatClampNeg
/-- an element of an array with a tag of a list -/
def mj_ar (tags : List Nat) (M : mj_H) (a : Nat) (i : Int32) : Option Value := match M[a]? with
  | some q => if q.1 ∈ tags then (mj_ix i q.2.length).bind (fun k => q.2[k]?) else none
  | none => none
def mj_hr (r : mj_R) (st : List Value) (M : mj_H) : Option (List Value) := match r.1, st with
  | .getfield _, .ref a :: s => match M[a]? with
    | some q => if q.1 = r.2.2.1 then (q.2[r.2.2.2.1]?).map (· :: s) else none
    | none => none
  | .arraylength, .ref a :: s => match M[a]? with
    | some q => if 1000 ≤ q.1 then some (.int (Int32.ofNat q.2.length) :: s) else none
    | none => none
  | .iaload, .int i :: .ref a :: s => (mj_ar [1000] M a i).map (· :: s)
  | .baload, .int i :: .ref a :: s => (mj_ar [1001, 1002] M a i).map (· :: s)
  | .laload, .int i :: .ref a :: s => (mj_ar [1003] M a i).map (· :: s)
  | .aaload, .int i :: .ref a :: s => (mj_ar [1004, 1005, 1006, 1007, 1008, 1009] M a i).map (· :: s)
  | .getstatic _, s => (mj_st[r.2.2.1]?).map (fun q => q.2.2.2 :: s)
  | .ldc _, s => (mj_k[r.2.2.2.1]?).map (· :: s)
  | .ldc_w _, s => (mj_k[r.2.2.2.1]?).map (· :: s)
  | .ldc2_w _, s => (mj_k[r.2.2.2.1]?).map (· :: s)
  | _, _ => none
/-- an element of an array of ours becomes v -/
def mj_aw (tag : Nat) (M : mj_H) (a : Nat) (i : Int32) (v : Value) : Option mj_H := if a < mj_E then none else match M[a]? with
  | some q => if q.1 = tag then (mj_ix i q.2.length).map (fun k => M.set a (q.1, q.2.set k v)) else none
  | none => none
def mj_hw (r : mj_R) (st : List Value) (M : mj_H) : Option (List Value × mj_H) := match r.1, st with
  | .putfield _, v :: .ref a :: s => if a < mj_E then none else match M[a]? with
    | some q => match (mj_ty.getD r.2.2.1 [])[r.2.2.2.1]? with
      | some ty => if q.1 = r.2.2.1 ∧ r.2.2.2.1 < q.2.length ∧ narrow ty v = v ∧ fits ty v = true then some (s, M.set a (q.1, q.2.set r.2.2.2.1 v)) else none
      | none => none
    | none => none
  | .iastore, .int x :: .int i :: .ref a :: s => (mj_aw 1000 M a i (.int x)).map (s, ·)
  | .bastore, .int x :: .int i :: .ref a :: s => (mj_aw 1002 M a i (narrow .boolean (.int x))).map (s, ·)
  | .lastore, .long x :: .int i :: .ref a :: s => (mj_aw 1003 M a i (.long x)).map (s, ·)
  | .aastore, .ref v :: .int i :: .ref a :: s => match M[a]?, M[v]? with
    | some q, some w => if mj_E ≤ v ∧ w.1 < mj_cl.length ∧ mj_aty q.1 = .object ((mj_cl.map (·.1)).getD w.1 "") then if 1004 ≤ q.1 then (mj_aw q.1 M a i (.ref v)).map (s, ·) else none else none
    | _, _ => none
  | .new _, s => match mj_ty[r.2.2.1]? with
    | some tys => some (.ref M.length :: s, M ++ [(r.2.2.1, tys.map defaultValue)])
    | none => none
  | .newarray _, .int n :: s => if n < 0 then none else if n.toNatClampNeg * 8 ≤ 536870912 then some (.ref M.length :: s, M ++ [(r.2.2.1, List.replicate n.toNatClampNeg (defaultValue (mj_aty r.2.2.1)))]) else none
  | .anewarray _, .int n :: s => if n < 0 then none else if n.toNatClampNeg * 8 ≤ 536870912 then some (.ref M.length :: s, M ++ [(r.2.2.1, List.replicate n.toNatClampNeg .null)]) else none
  | _, _ => none
/-- System.arraycopy between arrays of ints -/
def mj_cp (st : List Value) (M : mj_H) : Option (List Value × mj_H) := match st with
  | .int n :: .int dp :: .ref b :: .int sp :: .ref a :: s => if b < mj_E ∨ a < mj_E then none else match M[a]?, M[b]? with
    | some f, some g => if f.1 = 1000 ∧ g.1 = 1000 ∧ ¬ sp < 0 ∧ ¬ dp < 0 ∧ ¬ n < 0 ∧ sp.toNatClampNeg + n.toNatClampNeg ≤ f.2.length ∧ dp.toNatClampNeg + n.toNatClampNeg ≤ g.2.length ∧ ((f.2.drop sp.toNatClampNeg).take n.toNatClampNeg).all (fits .int) = true then
        some (s, M.set b (1000, g.2.take dp.toNatClampNeg ++ ((f.2.drop sp.toNatClampNeg).take n.toNatClampNeg ++ g.2.drop (dp.toNatClampNeg + n.toNatClampNeg)))) else none
    | _, _ => none
  | _ => none
def mj_rm (rest : List Value) : Bool := decide ((rest.map fun v => v.category).sum ≤ 8)
/-- a call: its arguments and what stays on the stack -/
def mj_ca (kind : Nat) (y : mj_Me) (st : List Value) (M : mj_H) : Option (List Value × List Value) :=
  if st.length < y.2.2.2.2.1 then none else
  if kind = 2 ∨ kind = 3 then (if mj_rm (st.drop y.2.2.2.2.1) then some ((st.take y.2.2.2.2.1).reverse, st.drop y.2.2.2.2.1) else none)
  else match st.drop y.2.2.2.2.1 with
    | .ref b :: rest => if mj_rm rest then
        (if kind = 4 ∨ kind = 5 then some (.ref b :: (st.take y.2.2.2.2.1).reverse, rest)
         else match M[b]? with
          | some q => if q.1 = y.2.2.2.2.2.1 then some (.ref b :: (st.take y.2.2.2.2.1).reverse, rest) else none
          | none => none) else none
    | _ => none
def mj_re (ret : Option FieldType) (i : Jvm.ClassFile.Instr) (st : List Value) : Option (Option Value) := match i, st with
  | .ireturn, [.int v] => match ret with
    | some ty => if narrow ty (.int v) = .int v then some (some (.int v)) else none
    | none => none
  | .lreturn, [.long v] => if ret = some .long then some (some (.long v)) else none
  | .areturn, [v] => match ret with
    | some (.object _) => if v = .null then some (some v) else match v with
      | .ref _ => some (some v)
      | _ => none
    | some (.array _) => if v = .null then some (some v) else match v with
      | .ref _ => some (some v)
      | _ => none
    | _ => none
  | .return_, [] => if ret = none then some none else none
  | _, _ => none
abbrev mj_F : Type := Nat → List Value → mj_H → Option (Option Value × mj_H)
/-- the machine in a method: how many frames may stand above it; fuel, pc, locals, stack, cells -/
def mj_go (dp : Nat) (call : mj_F) (y : mj_Me) : Nat → Nat → mj_L → List Value → mj_H → Option (Option Value × mj_H)
  | 0, _, _, _, _ => none
  | n + 1, pc, ls, st, M => match (y.2.2.2.2.2.2.2)[pc]? with
    | some (some r) => match mj_kd r.1 with
      | 0 => match mj_pu r.1 ls st with
        | some st' => mj_go dp call y n (pc + r.2.1) ls st' M
        | none => none
      | 1 => match mj_lo y.2.2.1 r.1 ls st with
        | some q => mj_go dp call y n (pc + r.2.1) q.1 q.2 M
        | none => none
      | 2 => match mj_br r.1 pc st with
        | some q => mj_go dp call y n q.1 ls q.2 M
        | none => none
      | 3 => match mj_hr r st M with
        | some st' => mj_go dp call y n (pc + r.2.1) ls st' M
        | none => none
      | 4 => match mj_hw r st M with
        | some q => mj_go dp call y n (pc + r.2.1) ls q.1 q.2
        | none => none
      | 5 => if dp = 0 then none else if r.2.2.1 = 6 then (match st with
          | .ref _ :: s => if mj_rm s then mj_go dp call y n (pc + 3) ls s M else none
          | _ => none)
        else if r.2.2.1 = 7 then (match mj_cp st M with
          | some q => if mj_rm q.1 then mj_go dp call y n (pc + 3) ls q.1 q.2 else none
          | none => none)
        else match mj_ms[r.2.2.2.1]? with
          | some z => match mj_ca r.2.2.1 z st M with
            | some q => match call r.2.2.2.1 q.1 M with
              | some t => mj_go dp call y n (pc + 3) ls (t.1.toList ++ q.2) t.2
              | none => none
            | none => none
          | none => none
      | 6 => match mj_re y.2.2.2.1 r.1 st with
        | some v => some (v, M)
        | none => none
      | _ => none
    | _ => none
/-- String.checkIndex, where it does not throw (it reads a static of which nothing is known) -/
def mj_ci (d : Nat) (args : List Value) (M : mj_H) : Option (Option Value × mj_H) := match args with
  | [.int i, .int n] => if d = 0 ∨ i < 0 ∨ ¬ i < n then none else some (none, M)
  | _ => none
/-- a call of method j: depth, fuel of each frame -/
def mj_ex (fuel : Nat) : Nat → mj_F
  | 0, _, _, _ => none
  | d + 1, j, args, M => if j = 98 then mj_ci d args M else match mj_ms[j]? with
    | some y => if (lg_sl args).length ≤ y.2.2.1 then mj_go d (mj_ex fuel d) y fuel 0 (lv_args 0 args) [] M else none
    | none => none
def mj_sl (M : mj_H) : Nat := (M.map (fun c => c.2.length)).sum
