/-! what one instruction does in the small machine -/
/-- a constant -/
def mx_k (n : Int) : Int32 := match n with
  | .ofNat k => nI k
  | .negSucc k => -nI (k + 1)
theorem mx_k_eq (n : Int) : Int32.ofInt n = mx_k n := by
  cases n with
  | ofNat k => rfl
  | negSucc k =>
    show Int32.ofInt (Int.negSucc k) = -Int32.ofNat (k + 1)
    rw [Int.negSucc_eq, Int32.ofInt_neg]
    rfl
theorem mx_k_8 {n : Int} (h1 : -128 ≤ n) (h2 : n < 128) : (Int8.ofInt n).toInt32 = mx_k n := by
  rw [← mx_k_eq]
  apply Int32.toInt_inj.mp
  rw [Int8.toInt_toInt32, Int8.toInt_ofInt_of_le (by omega) (by omega), Int32.toInt_ofInt_of_le (by omega) (by omega)]
theorem mx_k_16 {n : Int} (h1 : -32768 ≤ n) (h2 : n < 32768) : (Int16.ofInt n).toInt32 = mx_k n := by
  rw [← mx_k_eq]
  apply Int32.toInt_inj.mp
  rw [Int16.toInt_toInt32, Int16.toInt_ofInt_of_le (by omega) (by omega), Int32.toInt_ofInt_of_le (by omega) (by omega)]
def mx_ii (f : Int32 → Int32 → Int32) (st : mx_S) : Option mx_S := match st with
  | (pc, L, .int y :: .int x :: r, k) => some (pc + 1, L, .int (f x y) :: r, k)
  | _ => none
def mx_dv (f : Int32 → Int32 → Int32) (st : mx_S) : Option mx_S := match st with
  | (pc, L, .int y :: .int x :: r, k) => if y = 0 then none else some (pc + 1, L, .int (f x y) :: r, k)
  | _ => none
def mx_push (n : Nat) (v : Value) (st : mx_S) : Option mx_S := some (st.1 + n, st.2.1, v :: st.2.2.1, st.2.2.2)
def mx_ldi (n i : Nat) (st : mx_S) : Option mx_S := match mx_fd st.2.1 i with
  | some (.int x) => some (st.1 + n, st.2.1, .int x :: st.2.2.1, st.2.2.2)
  | _ => none
def mx_ldl (n i : Nat) (st : mx_S) : Option mx_S := match mx_fd st.2.1 i with
  | some (.long x) => some (st.1 + n, st.2.1, .long x :: st.2.2.1, st.2.2.2)
  | _ => none
def mx_lda (n i : Nat) (st : mx_S) : Option mx_S := match mx_fd st.2.1 i with
  | some (.ref x) => some (st.1 + n, st.2.1, .ref x :: st.2.2.1, st.2.2.2)
  | _ => none
def mx_sti (n i ml : Nat) (st : mx_S) : Option mx_S := match st with
  | (pc, L, .int x :: r, k) => bif Nat.blt i ml then some (pc + n, mx_st1 L i (.int x), r, k) else none
  | _ => none
def mx_inc (i ml : Nat) (n : Int) (st : mx_S) : Option mx_S := match mx_fd st.2.1 i with
  | some (.int x) => bif Nat.blt i ml then some (st.1 + 3, mx_st1 st.2.1 i (.int (x + mx_k n)), st.2.2) else none
  | _ => none
/-- a jump's end -/
def mx_to (pc : Nat) (off : Int) : Nat := ((pc : Int) + off).toNat
def mx_cnd (c : Jvm.ClassFile.Cond) (x y : Int32) : Bool := match c with
  | .eq => decide (x = y)
  | .ne => decide (¬ x = y)
  | .lt => decide (x < y)
  | .ge => decide (y ≤ x)
  | .gt => decide (y < x)
  | .le => decide (x ≤ y)
def mx_i2 (f : Int64 → Int64 → Int64) (st : mx_S) : Option mx_S := match st with
  | (pc, L, .long y :: .long x :: r, k) => some (pc + 1, L, .long (f x y) :: r, k)
  | _ => none
def mx_ls (f : Int64 → Int32 → Int64) (st : mx_S) : Option mx_S := match st with
  | (pc, L, .int y :: .long x :: r, k) => some (pc + 1, L, .long (f x y) :: r, k)
  | _ => none
def mx_l2i (st : mx_S) : Option mx_S := match st with
  | (pc, L, .long x :: r, k) => some (pc + 1, L, .int x.toInt32 :: r, k)
  | _ => none
def mx_dup (st : mx_S) : Option mx_S := match st with
  | (pc, L, v :: r, k) => bif v.category == 1 then some (pc + 1, L, v :: v :: r, k) else none
  | _ => none
def mx_pop (st : mx_S) : Option mx_S := match st with
  | (pc, L, v :: r, k) => bif v.category == 1 then some (pc + 1, L, r, k) else none
  | _ => none
def mx_dup2 (st : mx_S) : Option mx_S := match st with
  | (pc, L, v :: u :: r, k) => bif v.category == 1 && u.category == 1 then some (pc + 1, L, v :: u :: v :: u :: r, k) else none
  | _ => none
def mx_goto (off : Int) (st : mx_S) : Option mx_S := bif decide (0 ≤ (st.1 : Int) + off) then some (mx_to st.1 off, st.2) else none
/-- fields: what lies at the place, and its class -/
def mx_getf (q : Option (Nat × Nat)) (st : mx_S) : Option mx_S := match q, st with
  | some (ci, k), (pc, L, .ref a :: r, w, n) => match w[a]? with
    | some (.inr (cj, fs)) => (match fs[k]? with
      | some v => bif cj == ci then some (pc + 3, L, v :: r, w, n) else none
      | none => none)
    | _ => none
  | _, _ => none
/-- may a value be stored in a field of this type -/
def mx_fit (ty : FieldType) (v : Value) : Bool := match ty, v with
  | .int, .int _ => true
  | .boolean, .int x => x == 0 || x == 1
  | .object _, .ref _ => true
  | .array _, .ref _ => true
  | _, _ => false
def mx_putf (cl : List vw_C) (ty : Nat → Nat → FieldType) (M : mx_M) (q : Option (Nat × Nat)) (st : mx_S) : Option mx_S := match q, st with
  | some (ci, k), (pc, L, v :: .ref a :: r, w, n) => match w[a]? with
    | some (.inr (cj, fs)) => bif cj == ci && Nat.blt k fs.length && mx_fit (ty ci k) v then (match cl[ci]? with
      | some rr => bif !(rr.2.1 k).2.2.2 || (mx_kd M == 2 && ci == mx_ci M) then some (pc + 3, L, r, w.set a (.inr (ci, fs.set k v)), n) else none
      | none => none) else none
    | _ => none
  | _, _ => none
def mx_alen (st : mx_S) : Option mx_S := match st with
  | (pc, L, .ref a :: r, w, n) => match w[a]? with
    | some (.inl (t, x)) => bif Nat.blt t 3 then some (pc + 1, L, .int (Int32.ofNat x.1) :: r, w, n) else none
    | _ => none
  | _ => none
/-- loads and stores in arrays of ints (kind 0) and of booleans (kind 1) -/
def mx_ald (t : Nat) (st : mx_S) : Option mx_S := match st with
  | (pc, L, .int i :: .ref a :: r, w, n) => match w[a]? with
    | some (.inl (t', N, .inl f)) => if t' = t ∧ ¬ (i < 0 ∨ N ≤ i.toNatClampNeg) then some (pc + 1, L, .int (f i.toNatClampNeg) :: r, w, n) else none
    | _ => none
  | _ => none
def mx_ast (t : Nat) (g : Int32 → Int32) (st : mx_S) : Option mx_S := match st with
  | (pc, L, .int x :: .int i :: .ref a :: r, w, n) => match w[a]? with
    | some (.inl (t', N, .inl f)) => if t' = t ∧ ¬ (i < 0 ∨ N ≤ i.toNatClampNeg) then some (pc + 1, L, r, w.set a (.inl (t, N, .inl (upd f i.toNatClampNeg (g x)))), n) else none
    | _ => none
  | _ => none
def mx_sta (n i ml : Nat) (st : mx_S) : Option mx_S := match st with
  | (pc, L, .ref x :: r, k) => bif Nat.blt i ml then some (pc + n, mx_st1 L i (.ref x), r, k) else none
  | _ => none
def mx_i2l (st : mx_S) : Option mx_S := match st with
  | (pc, L, .int x :: r, k) => some (pc + 1, L, .long x.toInt64 :: r, k)
  | _ => none
def mx_lcmp (st : mx_S) : Option mx_S := match st with
  | (pc, L, .long y :: .long x :: r, k) => some (pc + 1, L, .int (lg_cmp x y) :: r, k)
  | _ => none
def mx_lald (st : mx_S) : Option mx_S := match st with
  | (pc, L, .int i :: .ref a :: r, w, n) => match w[a]? with
    | some (.inl (t', N, .inr (.inl f))) => if t' = 2 ∧ ¬ (i < 0 ∨ N ≤ i.toNatClampNeg) then some (pc + 1, L, .long (f i.toNatClampNeg) :: r, w, n) else none
    | _ => none
  | _ => none
def mx_last (st : mx_S) : Option mx_S := match st with
  | (pc, L, .long x :: .int i :: .ref a :: r, w, n) => match w[a]? with
    | some (.inl (t', N, .inr (.inl f))) => if t' = 2 ∧ ¬ (i < 0 ∨ N ≤ i.toNatClampNeg) then some (pc + 1, L, r, w.set a (.inl (2, N, .inr (.inl (vp_updL f i.toNatClampNeg x)))), n) else none
    | _ => none
  | _ => none
def mx_cs (S : List Value) : Nat := (S.map (fun v => v.category)).sum
def mx_tab (d lo hi : Int) (offs : Array Int) (st : mx_S) : Option mx_S := match st with
  | (pc, L, .int x :: r, k) => if x.toInt < lo ∨ hi < x.toInt then mx_goto d (pc, L, r, k) else (match offs[(x.toInt - lo).toNat]? with
    | some off => mx_goto off (pc, L, r, k)
    | none => none)
  | _ => none
def mx_if (c : Jvm.ClassFile.Cond) (off : Int) (st : mx_S) : Option mx_S := match st with
  | (pc, L, .int x :: r, k) => bif decide (0 ≤ (pc : Int) + off) then some (cond (mx_cnd c x 0) (mx_to pc off) (pc + 3), L, r, k) else none
  | _ => none
def mx_cmp (c : Jvm.ClassFile.Cond) (off : Int) (st : mx_S) : Option mx_S := match st with
  | (pc, L, .int y :: .int x :: r, k) => bif decide (0 ≤ (pc : Int) + off) then some (cond (mx_cnd c x y) (mx_to pc off) (pc + 3), L, r, k) else none
  | _ => none
/-- the calls of the JDK that are steps here: 0 Object's constructor, 1 Math.max, 2 Math.min, 3 System.arraycopy -/
def mx_j0 (st : mx_S) : Option mx_S := match st with
  | (pc, L, .ref _ :: r, k) => bif Nat.ble (mx_cs r) 8 then some (pc + 3, L, r, k) else none
  | _ => none
def mx_mm (f : Int32 → Int32 → Int32) (st : mx_S) : Option mx_S := match st with
  | (pc, L, .int y :: .int x :: r, k) => bif Nat.ble (mx_cs r) 8 then some (pc + 3, L, .int (f x y) :: r, k) else none
  | _ => none
def mx_cp (st : mx_S) : Option mx_S := match st with
  | (pc, L, .int z :: .int dp :: .ref a1 :: .int sp :: .ref a0 :: r, w, k) => (match w[a0]?, w[a1]? with
    | some (.inl (t0, n0, .inl f)), some (.inl (t1, n1, .inl g)) => if t0 = 0 ∧ t1 = 0 ∧ Nat.ble (mx_cs r) 8 = true ∧ ¬ sp < 0 ∧ ¬ dp < 0 ∧ ¬ z < 0 ∧ sp.toNatClampNeg + z.toNatClampNeg ≤ n0 ∧ dp.toNatClampNeg + z.toNatClampNeg ≤ n1 then some (pc + 3, L, r, w.set a1 (.inl (0, n1, .inl (va_cpy f g sp.toNatClampNeg dp.toNatClampNeg z.toNatClampNeg))), k) else none
    | _, _ => none)
  | _ => none
def mx_jdk (n : Nat) (st : mx_S) : Option mx_S := match n with
  | 1 => mx_mm (fun x y => if x < y then y else x) st
  | 2 => mx_mm (fun x y => if y < x then y else x) st
  | 3 => mx_cp st
  | _ => none
/-- all places that the state names are there -/
def mx_all (st : mx_S) : Bool := Nat.blt st.2.2.2.1.length 1000 && mx_okl st.2.2.2.1.length st.2.1 && st.2.2.1.all (mx_okv st.2.2.2.1.length) && st.2.2.2.1.all (mx_okc st.2.2.2.1.length)
def mx_newc (cl : List vw_C) (ty : Nat → Nat → FieldType) (q : Option Nat) (st : mx_S) : Option mx_S := match q with
  | some ci => (match cl[ci]? with
    | some rr => bif mx_all st then some (st.1 + 3, st.2.1, .ref st.2.2.2.1.length :: st.2.2.1, st.2.2.2.1 ++ [.inr (ci, (List.range rr.2.2).map (fun j => defaultValue (ty ci j)))], st.2.2.2.2.1 + 1, st.2.2.2.2.2 + rr.2.2) else none
    | none => none)
  | none => none
def mx_newa (t : ArrayType) (st : mx_S) : Option mx_S := match st with
  | (pc, L, .int n :: r, w, kc, ks) => bif mx_all st then (if ¬ n < 0 ∧ n.toNatClampNeg ≤ 65536 then (match t with
    | .int => some (pc + 2, L, .ref w.length :: r, w ++ [.inl (0, n.toNatClampNeg, .inl (fun _ => 0))], kc + 1, ks + n.toNatClampNeg)
    | .boolean => some (pc + 2, L, .ref w.length :: r, w ++ [.inl (1, n.toNatClampNeg, .inl (fun _ => 0))], kc + 1, ks + n.toNatClampNeg)
    | .long => some (pc + 2, L, .ref w.length :: r, w ++ [.inl (2, n.toNatClampNeg, .inr (.inl (fun _ => 0)))], kc + 1, ks + n.toNatClampNeg)
    | _ => none) else none) else none
  | _ => none
def mx_lok (i : Instr) (len : Nat) : Bool := match i with
  | .tableswitch .. => true
  | .bipush _ => len == 2
  | .iload _ => len == 2
  | .istore _ => len == 2
  | .aload _ => len == 2
  | .astore _ => len == 2
  | .lload _ => len == 2
  | .ldc _ => len == 2
  | .newarray _ => len == 2
  | .sipush _ => len == 3
  | .iinc .. => len == 3
  | .goto _ => len == 3
  | .if_icmp .. => len == 3
  | .ifCond .. => len == 3
  | .getfield _ => len == 3
  | .putfield _ => len == 3
  | .new _ => len == 3
  | .invokespecial _ => len == 3
  | .invokestatic _ => len == 3
  | .invokevirtual _ => len == 3
  | .ldc_w _ => len == 3
  | .ldc2_w _ => len == 3
  | _ => len == 1
def mx_stp (cl : List vw_C) (ty : Nat → Nat → FieldType) (M : mx_M) (i : Instr) (st : mx_S) : Option mx_S := match i with
  | .iconst n => mx_push 1 (.int (mx_k n)) st
  | .bipush n => bif decide (-128 ≤ n) && decide (n < 128) then mx_push 2 (.int (mx_k n)) st else none
  | .sipush n => bif decide (-32768 ≤ n) && decide (n < 32768) then mx_push 3 (.int (mx_k n)) st else none
  | .ldc x => (mx_fd (mx_lk M) x).bind fun v => mx_push 2 (.int v) st
  | .ldc_w x => (mx_fd (mx_lk M) x).bind fun v => mx_push 3 (.int v) st
  | .ldc2_w x => (mx_fd (mx_ll M) x).bind fun v => mx_push 3 (.long v) st
  | .iload x => mx_ldi 2 x st
  | .iload_n x => mx_ldi 1 x.val st
  | .lload x => mx_ldl 2 x st
  | .lload_n x => mx_ldl 1 x.val st
  | .aload x => mx_lda 2 x st
  | .aload_n x => mx_lda 1 x.val st
  | .istore x => mx_sti 2 x (mx_ml M) st
  | .istore_n x => mx_sti 1 x.val (mx_ml M) st
  | .iinc x n => mx_inc x (mx_ml M) n st
  | .iadd => mx_ii (fun x y => x + y) st
  | .isub => mx_ii (fun x y => x - y) st
  | .imul => mx_ii (fun x y => x * y) st
  | .iand => mx_ii (fun x y => x &&& y) st
  | .ior => mx_ii (fun x y => x ||| y) st
  | .ixor => mx_ii (fun x y => x ^^^ y) st
  | .ishl => mx_ii (fun x y => x <<< (y &&& 31)) st
  | .ishr => mx_ii (fun x y => x >>> (y &&& 31)) st
  | .iushr => mx_ii (fun x y => (x.toUInt32 >>> (y.toUInt32 &&& Int32.toUInt32 31)).toInt32) st
  | .idiv => mx_dv (fun x y => x / y) st
  | .irem => mx_dv (fun x y => x - x / y * y) st
  | .land => mx_i2 (fun x y => x &&& y) st
  | .lshr => mx_ls (fun x y => x >>> (y.toInt64 &&& 63)) st
  | .lushr => mx_ls (fun x y => (x.toUInt64 >>> (y.toInt64.toUInt64 &&& Int64.toUInt64 63)).toInt64) st
  | .l2i => mx_l2i st
  | .dup => mx_dup st
  | .dup2 => mx_dup2 st
  | .pop => mx_pop st
  | .goto off => mx_goto off st
  | .ifCond c off => mx_if c off st
  | .if_icmp c off => mx_cmp c off st
  | .tableswitch d lo hi offs => mx_tab d lo hi offs st
  | .getfield x => mx_getf (mx_fd (mx_lf M) x) st
  | .putfield x => mx_putf cl ty M (mx_fd (mx_lf M) x) st
  | .arraylength => mx_alen st
  | .iaload => mx_ald 0 st
  | .iastore => mx_ast 0 (fun x => x) st
  | .baload => mx_ald 1 st
  | .bastore => mx_ast 1 (vp_nar .boolean) st
  | .new x => mx_newc cl ty (mx_fd (mx_lc M) x) st
  | .newarray t => mx_newa t st
  | .invokespecial x => (mx_fd (mx_lm M) x).bind fun n => bif n == 0 && Nat.blt 0 (mx_rk M) then mx_j0 st else none
  | .invokestatic x => (mx_fd (mx_lm M) x).bind fun n => bif Nat.blt 0 (mx_rk M) then mx_jdk n st else none
  | .astore x => mx_sta 2 x (mx_ml M) st
  | .astore_n x => mx_sta 1 x.val (mx_ml M) st
  | .i2l => mx_i2l st
  | .lcmp => mx_lcmp st
  | .lor => mx_i2 (fun x y => x ||| y) st
  | .lshl => mx_ls (fun x y => x <<< (y.toInt64 &&& 63)) st
  | .laload => mx_lald st
  | .lastore => mx_last st
  | _ => none
/-- one step, but no call and no return -/
def mx_go (cl : List vw_C) (ty : Nat → Nat → FieldType) (M : mx_M) (i : Instr) (len : Nat) (st : mx_S) : Option mx_S := bif mx_lok i len then mx_stp cl ty M i st else none
/-- a return -/
def mx_end (M : mx_M) (i : Instr) (st : mx_S) : Option mx_A := match i, mx_ret M, st with
  | .ireturn, some .int, (_, _, [.int v], k) => some (some (.int v), k)
  | .ireturn, some .boolean, (_, _, [.int v], k) => if v = 0 ∨ v = 1 then some (some (.int v), k) else none
  | .return_, none, (_, _, [], k) => some (none, k)
  | _, _, _ => none
/-- a call: the callee's number, its arguments in order, the rest of the stack -/
def mx_cal (MT : Nat → Option mx_M) (M : mx_M) (i : Instr) (st : mx_S) : Option (Nat × mx_M × List Value × List Value) := match i with
  | .invokestatic x => (mx_fd (mx_lm M) x).bind fun n => (MT n).bind fun M' => bif mx_kd M' == 1 && Nat.blt (mx_rk M') (mx_rk M) && Nat.ble (mx_np M') st.2.2.1.length && Nat.ble (mx_cs (st.2.2.1.drop (mx_np M'))) 8 && Nat.ble 4 n then some (n, M', (st.2.2.1.take (mx_np M')).reverse, st.2.2.1.drop (mx_np M')) else none
  | .invokevirtual x => (mx_fd (mx_lm M) x).bind fun n => (MT n).bind fun M' => bif mx_kd M' == 0 && Nat.blt (mx_rk M') (mx_rk M) && Nat.ble (mx_np M') st.2.2.1.length && Nat.ble 4 n then (match st.2.2.1.drop (mx_np M') with
    | .ref a :: rest => (match st.2.2.2.1[a]? with
      | some (.inr (ci, _)) => bif Nat.ble (mx_cs rest) 8 && ci == mx_ci M' then some (n, M', .ref a :: (st.2.2.1.take (mx_np M')).reverse, rest) else none
      | _ => none)
    | _ => none) else none
  | .invokespecial x => (mx_fd (mx_lm M) x).bind fun n => (MT n).bind fun M' => bif mx_kd M' == 2 && Nat.blt (mx_rk M') (mx_rk M) && Nat.ble (mx_np M') st.2.2.1.length && Nat.ble 4 n then (match st.2.2.1.drop (mx_np M') with
    | .ref a :: rest => bif Nat.ble (mx_cs rest) 8 then some (n, M', .ref a :: (st.2.2.1.take (mx_np M')).reverse, rest) else none
    | _ => none) else none
  | _ => none
/-- a run from a state to an answer, within f steps -/
def mx_R (cl : List vw_C) (ty : Nat → Nat → FieldType) (MT : Nat → Option mx_M) : Nat → Nat → mx_S → mx_A → Prop
  | 0, _, _, _ => False
  | f + 1, mi, st, r => ∃ (M : mx_M) (i : Instr) (len : Nat), MT mi = some M ∧ decode (mx_cc M) st.1 = .ok (i, len) ∧
      ((len = 1 ∧ mx_end M i st = some r) ∨ (∃ st', mx_go cl ty M i len st = some st' ∧ mx_R cl ty MT f mi st' r) ∨
       (len = 3 ∧ ∃ (n : Nat) (M' : mx_M) (av rest : List Value) (q : mx_A), mx_cal MT M i st = some (n, M', av, rest) ∧ Nat.ble (mx_cs av) (mx_ml M') = true ∧ mx_R cl ty MT f n (0, lv_args 0 av, [], st.2.2.2.1, 0, 0) q ∧
          (q.2.2.1 = 0 ∨ (Nat.ble q.2.1.length 1000 && mx_okl st.2.2.2.1.length st.2.1 && rest.all (mx_okv st.2.2.2.1.length)) = true) ∧
          mx_R cl ty MT f mi (st.1 + 3, st.2.1, q.1.toList ++ rest, q.2.1, st.2.2.2.2.1 + q.2.2.1, st.2.2.2.2.2 + q.2.2.2) r))
theorem mx_R_up {cl : List vw_C} {ty : Nat → Nat → FieldType} {MT : Nat → Option mx_M} : ∀ (f : Nat) (mi : Nat) (st : mx_S) (r : mx_A), mx_R cl ty MT f mi st r → mx_R cl ty MT (f + 1) mi st r := by
  intro f
  induction f with
  | zero => intro mi st r h; exact h.elim
  | succ f ih =>
    intro mi st r h
    obtain ⟨M, i, len, h1, h2, h3⟩ := h
    refine ⟨M, i, len, h1, h2, ?_⟩
    rcases h3 with h3 | ⟨st', h3, h4⟩ | ⟨h3, n, M', av, rest, q, h4, h8, h5, h6, h7⟩
    · exact Or.inl h3
    · exact Or.inr (Or.inl ⟨st', h3, ih _ _ _ h4⟩)
    · exact Or.inr (Or.inr ⟨h3, n, M', av, rest, q, h4, h8, ih _ _ _ h5, h6, ih _ _ _ h7⟩)
theorem mx_R_le {cl : List vw_C} {ty : Nat → Nat → FieldType} {MT : Nat → Option mx_M} {f g : Nat} (hfg : f ≤ g) {mi : Nat} {st : mx_S} {r : mx_A} (h : mx_R cl ty MT f mi st r) : mx_R cl ty MT g mi st r := by
  induction hfg with
  | refl => exact h
  | step _ ih => exact mx_R_up _ _ _ _ ih
/-- a run of any length -/
def mx_X (cl : List vw_C) (ty : Nat → Nat → FieldType) (MT : Nat → Option mx_M) (mi : Nat) (st : mx_S) (r : mx_A) : Prop := ∃ f, mx_R cl ty MT f mi st r
theorem mx_X.go {cl : List vw_C} {ty : Nat → Nat → FieldType} {MT : Nat → Option mx_M} {mi : Nat} {st st' : mx_S} {r : mx_A} {M : mx_M} {i : Instr} {len : Nat} (h1 : MT mi = some M) (h2 : decode (mx_cc M) st.1 = .ok (i, len)) (h3 : mx_go cl ty M i len st = some st') (k : mx_X cl ty MT mi st' r) : mx_X cl ty MT mi st r := by
  obtain ⟨f, k⟩ := k
  exact ⟨f + 1, M, i, len, h1, h2, Or.inr (Or.inl ⟨st', h3, k⟩)⟩
theorem mx_X.fin {cl : List vw_C} {ty : Nat → Nat → FieldType} {MT : Nat → Option mx_M} {mi : Nat} {st : mx_S} {r : mx_A} {M : mx_M} {i : Instr} (h1 : MT mi = some M) (h2 : decode (mx_cc M) st.1 = .ok (i, 1)) (h3 : mx_end M i st = some r) : mx_X cl ty MT mi st r := ⟨1, M, i, 1, h1, h2, Or.inl ⟨rfl, h3⟩⟩
theorem mx_X.call {cl : List vw_C} {ty : Nat → Nat → FieldType} {MT : Nat → Option mx_M} {mi : Nat} {st : mx_S} {r : mx_A} {M M' : mx_M} {i : Instr} {n : Nat} {av rest : List Value} {q : mx_A} (h1 : MT mi = some M) (h2 : decode (mx_cc M) st.1 = .ok (i, 3)) (h3 : mx_cal MT M i st = some (n, M', av, rest)) (h6 : Nat.ble (mx_cs av) (mx_ml M') = true) (h4 : mx_X cl ty MT n (0, lv_args 0 av, [], st.2.2.2.1, 0, 0) q)
    (h5 : q.2.2.1 = 0 ∨ (Nat.ble q.2.1.length 1000 && mx_okl st.2.2.2.1.length st.2.1 && rest.all (mx_okv st.2.2.2.1.length)) = true) (k : mx_X cl ty MT mi (st.1 + 3, st.2.1, q.1.toList ++ rest, q.2.1, st.2.2.2.2.1 + q.2.2.1, st.2.2.2.2.2 + q.2.2.2) r) : mx_X cl ty MT mi st r := by
  obtain ⟨f, h4⟩ := h4
  obtain ⟨g, k⟩ := k
  exact ⟨(f + g) + 1, M, i, 3, h1, h2, Or.inr (Or.inr ⟨rfl, n, M', av, rest, q, h3, h6, mx_R_le (Nat.le_add_right f g) h4, h5, mx_R_le (Nat.le_add_left g f) k⟩)⟩
