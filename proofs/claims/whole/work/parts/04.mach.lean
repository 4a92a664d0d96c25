/-! THE SMALL MACHINE: numbers in cells of known shapes; no cell is made -/
abbrev mj_S : Type := Nat → Nat → Int32
abbrev mj_T : Type := Nat → Nat → Int64
abbrev mj_L : Type := List (Option Value)
/-- what one instruction comes to: the next place, locals, stack, numbers; an answer; a call (method, arguments, behind it: place, stack) -/
abbrev mj_O : Type := (Nat × mj_L × List Value × mj_S × mj_T) ⊕ (Option Value) ⊕ (Nat × List Value × Nat × List Value)
abbrev mj_R : Type := Option (Option Value × mj_S × mj_T)
def mj_up (σ : mj_S) (k i : Nat) (v : Int32) : mj_S := fun k' i' => if k' = k ∧ i' = i then v else σ k' i'
def mj_uq (τ : mj_T) (k i : Nat) (v : Int64) : mj_T := fun k' i' => if k' = k ∧ i' = i then v else τ k' i'
def mj_rp {α : Type} (σ : Nat → Nat → α) (k : Nat) (f : Nat → α) : Nat → Nat → α := fun k' => if k' = k then f else σ k'
/-- a field's value: of the class ci, its place j -/
def mj_fv (ci j : Nat) (σ : mj_S) (k : Nat) : Option Value :=
  if ci = 20 then (if 93 ≤ k ∧ k < 98 then (if j = 0 then some (.ref (k + 7)) else if j = 1 then some (.int 0) else none) else none)
  else match mj_sh k with
  | some (.inl (c, fs)) => if c = ci then (match fs[j]? with | some (some q) => some (.ref q) | some none => some (.int (σ k j)) | none => none) else none
  | _ => none
def mj_fw (ci j k : Nat) : Bool := match mj_sh k with
  | some (.inl (c, fs)) => c == ci && fs[j]? == some none
  | _ => false
/-- the length of an array of ints (98 is the script, whose length is the number 0 of the cell 99) -/
def mj_li (σ : mj_S) (k : Nat) : Option Nat := if k = 98 then some (σ 99 0).toNatClampNeg else if k = 90 then some 7 else if k = 91 then some 21 else if k = 92 then some 5 else match mj_sh k with
  | some (.inr (0, n)) => some n
  | _ => none
def mj_lw (k : Nat) : Option Nat := match mj_sh k with
  | some (.inr (0, n)) => some n
  | _ => none
def mj_ll (k : Nat) : Option Nat := match mj_sh k with
  | some (.inr (1, n)) => some n
  | _ => none
def mj_bl (k : Nat) : Option Nat := if 100 ≤ k then (mj_tx[k - 100]?).map List.length else none
def mj_bc (k i : Nat) : Int32 := (mj_tx.getD (k - 100) []).getD i 0
def mj_cd (c : ClassFile.Cond) (x y : Int32) : Bool := match c with
  | .eq => decide (x = y) | .ne => decide (¬ x = y) | .lt => decide (x < y) | .ge => decide (y ≤ x) | .gt => decide (y < x) | .le => decide (x ≤ y)
/-- the answers that a method of such a type may give -/
def mj_ok (ret : Option FieldType) (v : Int32) : Bool := match ret with
  | some .int => true
  | some .boolean => v == 0 || v == 1
  | some .char => decide (0 ≤ v.toInt) && decide (v.toInt < 65536)
  | some .byte => decide (-128 ≤ v.toInt) && decide (v.toInt < 128)
  | _ => false
def mj_isR (ret : Option FieldType) : Bool := match ret with
  | some (.object _) => true
  | some (.array _) => true
  | _ => false
def mj_lay : List Value → mj_L
  | [] => []
  | v :: r => if v.category = 2 then some v :: none :: mj_lay r else some v :: mj_lay r
def mj_ent (n : Nat) (as : List Value) : mj_L := mj_lay as ++ List.replicate (n - (mj_lay as).length) none
/-- from the file's instruction to the machine's: absolute targets, links resolved -/
def mj_tg (pc : Nat) (off : Int) : Option Int := if 0 ≤ (pc : Int) + off then some ((pc : Int) + off) else none
def mj_call (m c idx : Nat) (i : Nat → Instr) : Option Instr := match mj_lk mj_mtL c idx with
  | some t => some (i (if t = mj_RUN ∧ 1000 ≤ m then m + 1 else if t = mj_RUN then 1000 else t))
  | none => none
def mj_tr (m c pc n : Nat) (i : Instr) : Option (Instr × Nat) := match i with
  | .iadd | .isub | .imul | .idiv | .irem | .ineg | .iand | .ior | .ixor | .ishl | .ishr | .iushr | .i2l | .l2i | .i2b | .i2s | .i2c | .land | .lor | .lcmp | .lshl | .dup | .dup2 | .dup_x1 | .pop
  | .iaload | .iastore | .laload | .lastore | .aaload | .baload | .arraylength | .aconst_null | .ireturn | .lreturn | .areturn | .return_ => if n = 1 then some (i, pc + 1) else none
  | .iconst _ | .lconst _ => if n = 1 then some (i, pc + 1) else none
  | .bipush b => if n = 2 ∧ (Int8.ofInt b).toInt32 = Int32.ofInt b then some (.iconst b, pc + 2) else none
  | .sipush b => if n = 3 ∧ (Int16.ofInt b).toInt32 = Int32.ofInt b then some (.iconst b, pc + 3) else none
  | .iload k => if n = 2 then some (.iload k, pc + 2) else none
  | .iload_n k => if n = 1 then some (.iload k.val, pc + 1) else none
  | .aload k => if n = 2 then some (.aload k, pc + 2) else none
  | .aload_n k => if n = 1 then some (.aload k.val, pc + 1) else none
  | .lload_n k => if n = 1 then some (.lload k.val, pc + 1) else none
  | .istore k => if n = 2 then some (.istore k, pc + 2) else none
  | .istore_n k => if n = 1 then some (.istore k.val, pc + 1) else none
  | .astore k => if n = 2 then some (.astore k, pc + 2) else none
  | .astore_n k => if n = 1 then some (.astore k.val, pc + 1) else none
  | .iinc k z => if n = 3 then some (.iinc k z, pc + 3) else none
  | .goto o => if n = 3 then (mj_tg pc o).map (fun t => (.goto t, pc + 3)) else none
  | .ifCond q o => if n = 3 then (mj_tg pc o).map (fun t => (.ifCond q t, pc + 3)) else none
  | .if_icmp q o => if n = 3 then (mj_tg pc o).map (fun t => (.if_icmp q t, pc + 3)) else none
  | .ifnull o => if n = 3 then (mj_tg pc o).map (fun t => (.ifnull t, pc + 3)) else none
  | .ifnonnull o => if n = 3 then (mj_tg pc o).map (fun t => (.ifnonnull t, pc + 3)) else none
  | .tableswitch d lo hi os => if 0 ≤ (pc : Int) + d ∧ os.toList.all (fun o => decide (0 ≤ (pc : Int) + o)) then some (.tableswitch (pc + d) lo hi (os.map (fun o => (pc : Int) + o)), pc) else none
  | .lookupswitch d ps => if (0 ≤ (pc : Int) + d ∧ ps.toList.all (fun q => decide (0 ≤ (pc : Int) + q.2))) ∧ (ps.toList.zip (ps.toList.drop 1)).all (fun (a, next) => a.1 < next.1) = true then some (.lookupswitch d ps, pc) else none
  | .getfield x => if n = 3 then (match mj_lk (mj_ftL.map (fun q => (q.1, q.2.1, q.2.2))) c x with
      | some (ci, j) => some (.getfield (100 * ci + j), pc + 3)
      | none => (mj_lk mj_fsL c x).map (fun j => (.getfield (2000 + j), pc + 3))) else none
  | .putfield x => if n = 3 then (mj_lk (mj_ftL.map (fun q => (q.1, q.2.1, q.2.2))) c x).map (fun q => (.putfield (100 * q.1 + q.2), pc + 3)) else none
  | .getstatic x => if n = 3 then (mj_lk mj_gsL c x).map (fun q => (.getstatic q, pc + 3)) else none
  | .ldc x => if n = 2 then (match mj_lk mj_csL c x with
      | some q => some (.ldc q, pc + 2)
      | none => (mj_lk mj_ctL c x).map (fun z => (.iconst z, pc + 2))) else none
  | .ldc_w x => if n = 3 then (mj_lk mj_ctL c x).map (fun z => (.iconst z, pc + 3)) else none
  | .ldc2_w x => if n = 3 ∧ c = 10 ∧ x = 18 then some (.ldc2_w 0, pc + 3) else none
  | .invokevirtual x => if n = 3 then (mj_call m c x .invokevirtual).map (fun i => (i, pc + 3)) else none
  | .invokestatic x => if n = 3 then (match mj_lk mj_ntL c x with
      | some q => some (.invokedynamic q, pc + 3)
      | none => match mj_lk mj_nsL c x with
        | some t => some (.invokespecial t, pc + 3)
        | none => (mj_call m c x .invokestatic).map (fun i => (i, pc + 3))) else none
  | _ => none
def mj_ins (m pc : Nat) : Option (Instr × Nat) := match mj_e m with
  | some e => (match decode e.2.1 pc with
    | .ok (i, n) => mj_tr m e.2.2.2.2.1 pc n i
    | .error _ => none)
  | none => none
def mj_ml (m : Nat) : Nat := match mj_e m with | some e => e.2.2.1 | none => 0
/-- ahead of the place k no long begins -/
def mj_nlb (ls : mj_L) (k : Nat) : Bool := match k with
  | 0 => true
  | j + 1 => match ls[j]? with
    | some (some v) => v.category == 1
    | _ => true
/-- one instruction i of the method m (the next stands at np) -/
def mj_do (m : Nat) (i : Instr) (np : Nat) (ls : mj_L) (st : List Value) (σ : mj_S) (τ : mj_T) : Option mj_O :=
  let nx := fun (st' : List Value) => some (.inl (np, ls, st', σ, τ) : mj_O)
  let bi := fun (f : Int32 → Int32 → Int32) => match st with | .int y :: .int x :: r => nx (.int (f x y) :: r) | _ => none
  let ui := fun (f : Int32 → Value) => match st with | .int x :: r => nx (f x :: r) | _ => none
  match i with
  | .iadd => bi (fun x y => x + y)
  | .isub => bi (fun x y => x - y)
  | .imul => bi (fun x y => x * y)
  | .iand => bi (fun x y => x &&& y)
  | .ior => bi (fun x y => x ||| y)
  | .ixor => bi (fun x y => x ^^^ y)
  | .ishl => bi (fun x y => x <<< (y &&& 31))
  | .ishr => bi (fun x y => x >>> (y &&& 31))
  | .iushr => bi (fun x y => (x.toUInt32 >>> (y.toUInt32 &&& Int32.toUInt32 31)).toInt32)
  | .idiv => (match st with | .int y :: .int x :: r => if y = 0 then none else nx (.int (x / y) :: r) | _ => none)
  | .irem => (match st with | .int y :: .int x :: r => if y = 0 then none else nx (.int (x - x / y * y) :: r) | _ => none)
  | .ineg => ui (fun x => .int (-x))
  | .i2l => ui (fun x => .long x.toInt64)
  | .i2b => ui (fun x => .int x.toInt8.toInt32)
  | .i2s => ui (fun x => .int x.toInt16.toInt32)
  | .i2c => ui (fun x => .int (x.toUInt32 % 65536).toInt32)
  | .l2i => (match st with | .long x :: r => nx (.int x.toInt32 :: r) | _ => none)
  | .land => (match st with | .long y :: .long x :: r => nx (.long (x &&& y) :: r) | _ => none)
  | .lor => (match st with | .long y :: .long x :: r => nx (.long (x ||| y) :: r) | _ => none)
  | .lcmp => (match st with | .long y :: .long x :: r => nx (.int (lg_cmp x y) :: r) | _ => none)
  | .lshl => (match st with | .int y :: .long x :: r => nx (.long (x <<< (y.toInt64 &&& 63)) :: r) | _ => none)
  | .dup => (match st with | .int x :: r => nx (.int x :: .int x :: r) | .ref x :: r => nx (.ref x :: .ref x :: r) | _ => none)
  | .dup2 => (match st with | .int y :: .ref x :: r => nx (.int y :: .ref x :: .int y :: .ref x :: r) | _ => none)
  | .dup_x1 => (match st with | .int y :: .ref x :: r => nx (.int y :: .ref x :: .int y :: r) | _ => none)
  | .pop => (match st with | .int _ :: r => nx r | .ref _ :: r => nx r | _ => none)
  | .iconst z => nx (.int (Int32.ofInt z) :: st)
  | .lconst z => nx (.long (Int64.ofNat z.val) :: st)
  | .ldc2_w _ => nx (.long 4294967295 :: st)
  | .ldc q => nx (.ref q :: st)
  | .aconst_null => nx (.null :: st)
  | .getstatic q => if q = 1 then nx (.int 1 :: st) else if q = 2 then nx (.retAddr 0 :: st) else if q = 90 ∨ q = 91 ∨ q = 92 then nx (.ref q :: st) else none
  | .iload k => (match ls[k]? with | some (some (.int x)) => nx (.int x :: st) | _ => none)
  | .lload k => (match ls[k]? with | some (some (.long x)) => nx (.long x :: st) | _ => none)
  | .aload k => (match ls[k]? with | some (some (.ref x)) => nx (.ref x :: st) | some (some .null) => nx (.null :: st) | _ => none)
  | .istore k => (match st with | .int x :: r => if k < ls.length ∧ (mj_lg m = false ∨ mj_nlb ls k = true) then some (.inl (np, ls.set k (some (.int x)), r, σ, τ)) else none | _ => none)
  | .astore k => (match st with
    | .ref x :: r => if k < ls.length ∧ (mj_lg m = false ∨ mj_nlb ls k = true) then some (.inl (np, ls.set k (some (.ref x)), r, σ, τ)) else none
    | .null :: r => if k < ls.length ∧ (mj_lg m = false ∨ mj_nlb ls k = true) then some (.inl (np, ls.set k (some .null), r, σ, τ)) else none
    | _ => none)
  | .iinc k z => (match ls[k]? with | some (some (.int x)) => if mj_lg m then none else some (.inl (np, ls.set k (some (.int (x + Int32.ofInt z))), st, σ, τ)) | _ => none)
  | .goto t => some (.inl (t.toNat, ls, st, σ, τ))
  | .ifCond q t => (match st with | .int x :: r => some (.inl (if mj_cd q x 0 then t.toNat else np, ls, r, σ, τ)) | _ => none)
  | .if_icmp q t => (match st with | .int y :: .int x :: r => some (.inl (if mj_cd q x y then t.toNat else np, ls, r, σ, τ)) | _ => none)
  | .ifnull t => (match st with | .null :: r => some (.inl (t.toNat, ls, r, σ, τ)) | .ref _ :: r => nx r | _ => none)
  | .ifnonnull t => (match st with | .ref _ :: r => some (.inl (t.toNat, ls, r, σ, τ)) | .null :: r => nx r | _ => none)
  | .tableswitch d lo hi os => (match st with
    | .int x :: r => if x.toInt < lo ∨ hi < x.toInt then some (.inl (d.toNat, ls, r, σ, τ)) else (match os[(x.toInt - lo).toNat]? with | some t => some (.inl (t.toNat, ls, r, σ, τ)) | none => none)
    | _ => none)
  | .lookupswitch d ps => (match st with | .int x :: r => some (.inl (((np : Int) + Op.lookupswitch.offset ps.toList d x.toInt).toNat, ls, r, σ, τ)) | _ => none)
  | .getfield f => (match st with | .ref k :: r => (match mj_fv (f / 100) (f % 100) σ k with | some v => nx (v :: r) | none => none) | _ => none)
  | .putfield f => (match st with
    | .int v :: .ref k :: r => if mj_fw (f / 100) (f % 100) k && (!mj_fb (f / 100) (f % 100) || v == 0 || v == 1) then some (.inl (np, ls, r, mj_up σ k (f % 100) v, τ)) else none
    | _ => none)
  | .arraylength => (match st with
    | .ref k :: r => (match mj_li σ k with | some n => nx (.int (nI n) :: r) | none => match mj_bl k with | some n => nx (.int (nI n) :: r) | none => none)
    | _ => none)
  | .iaload => (match st with | .int x :: .ref k :: r => (match mj_li σ k with | some n => if x < 0 ∨ n ≤ x.toNatClampNeg then none else nx (.int (σ k x.toNatClampNeg) :: r) | none => none) | _ => none)
  | .iastore => (match st with | .int v :: .int x :: .ref k :: r => (match mj_lw k with | some n => if x < 0 ∨ n ≤ x.toNatClampNeg then none else some (.inl (np, ls, r, mj_up σ k x.toNatClampNeg v, τ)) | none => none) | _ => none)
  | .laload => (match st with | .int x :: .ref k :: r => (match mj_ll k with | some n => if x < 0 ∨ n ≤ x.toNatClampNeg then none else nx (.long (τ k x.toNatClampNeg) :: r) | none => none) | _ => none)
  | .lastore => (match st with | .long v :: .int x :: .ref k :: r => (match mj_ll k with | some n => if x < 0 ∨ n ≤ x.toNatClampNeg then none else some (.inl (np, ls, r, σ, mj_uq τ k x.toNatClampNeg v)) | none => none) | _ => none)
  | .aaload => (match st with | .int x :: .ref k :: r => if k = 7 then (if x < 0 ∨ 8 ≤ x.toNatClampNeg then none else nx (.ref (40 + x.toNatClampNeg) :: r)) else none | _ => none)
  | .baload => (match st with | .int x :: .ref k :: r => (match mj_bl k with | some n => if x < 0 ∨ n ≤ x.toNatClampNeg then none else nx (.int (mj_bc k x.toNatClampNeg) :: r) | none => none) | _ => none)
  | .invokedynamic q => (match q, st with
    | 2, .int y :: .int x :: r => if 4 < r.length then none else nx (.int (if x < y then y else x) :: r)
    | 3, .int y :: .int x :: r => if 4 < r.length then none else nx (.int (if y < x then y else x) :: r)
    | 4, .int n :: .int dp :: .ref b :: .int sp :: .ref a :: r => if sp < 0 ∨ dp < 0 ∨ n < 0 ∨ 4 < r.length then none else (match mj_lw a, mj_lw b with
      | some na, some nb => if na < sp.toNatClampNeg + n.toNatClampNeg ∨ nb < dp.toNatClampNeg + n.toNatClampNeg then none else some (.inl (np, ls, r, mj_rp σ b (va_cpy (σ a) (σ b) sp.toNatClampNeg dp.toNatClampNeg n.toNatClampNeg), τ))
      | _, _ => match mj_ll a, mj_ll b with
        | some na, some nb => if na < sp.toNatClampNeg + n.toNatClampNeg ∨ nb < dp.toNatClampNeg + n.toNatClampNeg then none else some (.inl (np, ls, r, σ, mj_rp τ b (va_cpy (τ a) (τ b) sp.toNatClampNeg dp.toNatClampNeg n.toNatClampNeg)))
        | _, _ => none)
    | _, _ => none)
  | .ireturn => (match mj_e m, st with | some e, [.int v] => if mj_ok e.2.2.2.1 v then some (.inr (.inl (some (.int v)))) else none | _, _ => none)
  | .lreturn => (match mj_e m, st with | some e, [.long v] => if e.2.2.2.1 = some .long then some (.inr (.inl (some (.long v)))) else none | _, _ => none)
  | .areturn => (match mj_e m, st with
    | some e, [.ref v] => if mj_isR e.2.2.2.1 then some (.inr (.inl (some (.ref v)))) else none
    | some e, [.null] => if mj_isR e.2.2.2.1 then some (.inr (.inl (some .null))) else none
    | _, _ => none)
  | .return_ => (match mj_e m, st with | some e, [] => if e.2.2.2.1 = none then some (.inr (.inl none)) else none | _, _ => none)
  | .invokevirtual t => (match mj_e t with
    | some e => if e.2.2.2.2.2.2.1 = 30 ∨ st.length < e.2.2.2.2.2.1 + 1 ∨ ¬ (1 ≤ mj_h t ∧ mj_h t < mj_h m) ∨ mj_base t = mj_law ∨ 4 < (st.drop (e.2.2.2.2.2.1 + 1)).length ∨ e.2.2.1 < (mj_lay (st.take (e.2.2.2.2.2.1 + 1)).reverse).length ∨ (mj_lg t = false ∧ ((st.take (e.2.2.2.2.2.1 + 1)).reverse).any (fun v => v.category == 2) = true) then none else
      (match (st.take (e.2.2.2.2.2.1 + 1)).reverse with
      | .ref b :: as => if (if e.2.2.2.2.2.2.1 = 20 then decide (93 ≤ b) && decide (b < 98) else (match mj_sh b with | some (.inl (c, _)) => c == e.2.2.2.2.2.2.1 | _ => false)) then some (.inr (.inr (t, .ref b :: as, np, st.drop (e.2.2.2.2.2.1 + 1)))) else none
      | _ => none)
    | none => none)
  | .invokestatic t => (match mj_e t with
    | some e => if ¬ e.2.2.2.2.2.2.1 = 30 ∨ st.length < e.2.2.2.2.2.1 ∨ ¬ (1 ≤ mj_h t ∧ mj_h t < mj_h m) ∨ mj_base t = mj_law ∨ 4 < (st.drop e.2.2.2.2.2.1).length ∨ e.2.2.1 < (mj_lay (st.take e.2.2.2.2.2.1).reverse).length ∨ (mj_lg t = false ∧ ((st.take e.2.2.2.2.2.1).reverse).any (fun v => v.category == 2) = true) then none else some (.inr (.inr (t, (st.take e.2.2.2.2.2.1).reverse, np, st.drop e.2.2.2.2.2.1)))
    | none => none)
  | .invokespecial t => (match mj_e t with
    | some e => if ¬ e.2.2.2.2.2.2.1 = 30 ∨ st.length < e.2.2.2.2.2.1 ∨ ¬ (1 ≤ mj_h t ∧ mj_h t < mj_h m) ∨ mj_base t = mj_law ∨ 4 < (st.drop e.2.2.2.2.2.1).length ∨ e.2.2.1 < (mj_lay (st.take e.2.2.2.2.2.1).reverse).length ∨ (mj_lg t = false ∧ ((st.take e.2.2.2.2.2.1).reverse).any (fun v => v.category == 2) = true) then none else some (.inr (.inr (t, (st.take e.2.2.2.2.2.1).reverse, np, st.drop e.2.2.2.2.2.1)))
    | none => none)
  | _ => none
def mj_stp (m pc : Nat) (ls : mj_L) (st : List Value) (σ : mj_S) (τ : mj_T) : Option mj_O := match mj_ins m pc with
  | some (i, np) => mj_do m i np ls st σ τ
  | none => none
/-- the machine, n deep -/
def mj_run : Nat → Nat → Nat → mj_L → List Value → mj_S → mj_T → mj_R
  | 0, _, _, _, _, _, _ => none
  | n + 1, m, pc, ls, st, σ, τ => match mj_stp m pc ls st σ τ with
    | none => none
    | some (.inl (pc', ls', st', σ', τ')) => mj_run n m pc' ls' st' σ' τ'
    | some (.inr (.inl v)) => some (v, σ, τ)
    | some (.inr (.inr (t, as, np, r))) => match mj_run n t 0 (mj_ent (mj_ml t) as) [] σ τ with
      | none => none
      | some (v, σ', τ') => mj_run n m np ls (v.toList ++ r) σ' τ'
theorem mj_mono1 : ∀ (n m pc : Nat) (ls : mj_L) (st : List Value) (σ : mj_S) (τ : mj_T) (r : Option Value × mj_S × mj_T), mj_run n m pc ls st σ τ = some r → mj_run (n + 1) m pc ls st σ τ = some r := by
  intro n
  induction n with
  | zero => intro m pc ls st σ τ r h; simp [mj_run] at h
  | succ n ih =>
    intro m pc ls st σ τ r h
    rw [mj_run] at h ⊢
    split at h <;> rename_i q
    · cases h
    · exact ih _ _ _ _ _ _ _ h
    · exact h
    · split at h <;> rename_i q2
      · cases h
      · rw [ih _ _ _ _ _ _ _ q2]; exact ih _ _ _ _ _ _ _ h
theorem mj_mono {n k m pc : Nat} {ls : mj_L} {st : List Value} {σ : mj_S} {τ : mj_T} {r : Option Value × mj_S × mj_T} (hk : n ≤ k) (h : mj_run n m pc ls st σ τ = some r) : mj_run k m pc ls st σ τ = some r := by
  induction hk with
  | refl => exact h
  | step _ ih => exact mj_mono1 _ _ _ _ _ _ _ _ ih
/-- the machine without its depth -/
noncomputable def mj_E (m pc : Nat) (ls : mj_L) (st : List Value) (σ : mj_S) (τ : mj_T) : mj_R := by
  classical exact if h : ∃ n r, mj_run n m pc ls st σ τ = some r then some h.choose_spec.choose else none
theorem mj_E_of {n m pc : Nat} {ls : mj_L} {st : List Value} {σ : mj_S} {τ : mj_T} {r : Option Value × mj_S × mj_T} (h : mj_run n m pc ls st σ τ = some r) : mj_E m pc ls st σ τ = some r := by
  have hx : ∃ n r, mj_run n m pc ls st σ τ = some r := ⟨n, r, h⟩
  unfold mj_E
  rw [dif_pos hx]
  have h2 := hx.choose_spec.choose_spec
  rcases Nat.le_total n hx.choose with q | q
  · exact h2.symm.trans (mj_mono q h)
  · exact (mj_mono q h2).symm.trans h
theorem mj_E_run {m pc : Nat} {ls : mj_L} {st : List Value} {σ : mj_S} {τ : mj_T} {r : Option Value × mj_S × mj_T} (h : mj_E m pc ls st σ τ = some r) : ∃ n, mj_run n m pc ls st σ τ = some r := by
  unfold mj_E at h
  split at h
  · rename_i hx
    exact ⟨hx.choose, by rw [hx.choose_spec.choose_spec]; exact h⟩
  · cases h
theorem mj_E_none {m pc : Nat} {ls : mj_L} {st : List Value} {σ : mj_S} {τ : mj_T} (h : ∀ n, mj_run n m pc ls st σ τ = none) : mj_E m pc ls st σ τ = none := by
  cases e : mj_E m pc ls st σ τ with
  | none => rfl
  | some r => obtain ⟨n, hn⟩ := mj_E_run e; rw [h n] at hn; cases hn
theorem mj_E_eq {m pc m2 pc2 : Nat} {ls ls2 : mj_L} {st st2 : List Value} {σ σ2 : mj_S} {τ τ2 : mj_T} (h : ∀ n, mj_run (n + 1) m pc ls st σ τ = mj_run n m2 pc2 ls2 st2 σ2 τ2) : mj_E m pc ls st σ τ = mj_E m2 pc2 ls2 st2 σ2 τ2 := by
  cases e : mj_E m2 pc2 ls2 st2 σ2 τ2 with
  | some r => obtain ⟨n, hn⟩ := mj_E_run e; exact mj_E_of ((h n).trans hn)
  | none =>
    apply mj_E_none
    intro n
    cases n with
    | zero => rfl
    | succ n =>
      rw [h n]
      cases q : mj_run n m2 pc2 ls2 st2 σ2 τ2 with
      | none => rfl
      | some r => rw [mj_E_of q] at e; cases e
noncomputable def mj_C (t : Nat) (as : List Value) (σ : mj_S) (τ : mj_T) : mj_R := mj_E t 0 (mj_ent (mj_ml t) as) [] σ τ
def mj_bd (x : mj_R) (f : Option Value → mj_S → mj_T → mj_R) : mj_R := match x with
  | some (v, σ, τ) => f v σ τ
  | none => none
/-- THE EQUATIONS -/
theorem mj_nx {m pc np : Nat} {i : Instr} {ls : mj_L} {st : List Value} {σ : mj_S} {τ : mj_T} {pc' : Nat} {ls' : mj_L} {st' : List Value} {σ' : mj_S} {τ' : mj_T} (hi : mj_ins m pc = some (i, np)) (h : mj_do m i np ls st σ τ = some (.inl (pc', ls', st', σ', τ'))) : mj_E m pc ls st σ τ = mj_E m pc' ls' st' σ' τ' := by
  apply mj_E_eq
  intro n
  rw [mj_run]
  simp only [mj_stp, hi, h]
theorem mj_rt {m pc np : Nat} {i : Instr} {ls : mj_L} {st : List Value} {σ : mj_S} {τ : mj_T} {v : Option Value} (hi : mj_ins m pc = some (i, np)) (h : mj_do m i np ls st σ τ = some (.inr (.inl v))) : mj_E m pc ls st σ τ = some (v, σ, τ) := by
  apply mj_E_of (n := 1)
  rw [mj_run]
  simp only [mj_stp, hi, h]
theorem mj_no {m pc np : Nat} {i : Instr} {ls : mj_L} {st : List Value} {σ : mj_S} {τ : mj_T} (hi : mj_ins m pc = some (i, np)) (h : mj_do m i np ls st σ τ = none) : mj_E m pc ls st σ τ = none := by
  apply mj_E_none
  intro n
  cases n with
  | zero => rfl
  | succ n => rw [mj_run]; simp only [mj_stp, hi, h]
theorem mj_cl {m pc np np' t : Nat} {i : Instr} {ls : mj_L} {st r as : List Value} {σ : mj_S} {τ : mj_T} (hi : mj_ins m pc = some (i, np)) (h : mj_do m i np ls st σ τ = some (.inr (.inr (t, as, np', r)))) :
    mj_E m pc ls st σ τ = mj_bd (mj_C t as σ τ) (fun v σ' τ' => mj_E m np' ls (v.toList ++ r) σ' τ') := by
  have hs : mj_stp m pc ls st σ τ = some (.inr (.inr (t, as, np', r))) := by simp only [mj_stp, hi, h]
  cases e : mj_C t as σ τ with
  | none =>
    apply mj_E_none
    intro n
    cases n with
    | zero => rfl
    | succ n =>
      rw [mj_run]
      simp only [hs]
      cases q : mj_run n t 0 (mj_ent (mj_ml t) as) [] σ τ with
      | none => rfl
      | some r => have := mj_E_of q; unfold mj_C at e; rw [e] at this; cases this
  | some x =>
    obtain ⟨v, σ', τ'⟩ := x
    obtain ⟨n1, h1⟩ := mj_E_run e
    show _ = mj_E m np' ls (v.toList ++ r) σ' τ'
    cases e2 : mj_E m np' ls (v.toList ++ r) σ' τ' with
    | some y =>
      obtain ⟨n2, h2⟩ := mj_E_run e2
      apply mj_E_of (n := max n1 n2 + 1)
      rw [mj_run]
      simp only [hs]
      rw [mj_mono (Nat.le_max_left n1 n2) h1]
      exact mj_mono (Nat.le_max_right n1 n2) h2
    | none =>
      apply mj_E_none
      intro n
      cases n with
      | zero => rfl
      | succ n =>
        rw [mj_run]
        simp only [hs]
        cases q : mj_run n t 0 (mj_ent (mj_ml t) as) [] σ τ with
        | none => rfl
        | some r2 =>
          have h3 := mj_E_of q
          unfold mj_C at e
          rw [e] at h3
          cases h3
          cases q2 : mj_run n m np' ls (v.toList ++ r) σ' τ' with
          | none => exact q2
          | some r2 => rw [mj_E_of q2] at e2; cases e2
theorem mj_bd_some {v : Option Value} {σ : mj_S} {τ : mj_T} {f : Option Value → mj_S → mj_T → mj_R} : mj_bd (some (v, σ, τ)) f = f v σ τ := rfl
