/-! AN ABSTRACT MACHINE over the same bytecode: values with addresses counted from the law's first cell; '.float w' stands for a cell that was there before (0 the row of cuts, 1 the script, 2 and 3 the two texts of names, 4 and 5 their bytes); '.double' a local of which nothing is known -/
abbrev MXH : Type := List va_E
abbrev MXX : Type := Nat × (Nat → Int32)
abbrev MXR : Type := (Nat × List Value × List Value × MXH) ⊕ (Option Value) ⊕ (Nat × List Value × List Value)
def mx_pk {α : Type} : List (Nat × α) → Nat → Option α
  | [], _ => none
  | q :: t, k => bif Nat.beq q.1 k then some q.2 else mx_pk t k
def mx_at (k pc : Nat) : Option (Instr × Nat) := match mx_M[k]? with
  | some e => mx_pk e.2.2.2.2.2 pc
  | none => none
def mx_ow (k : Nat) : Nat := match mx_M[k]? with
  | some e => e.2.2.2.2.1
  | none => 99
def mx_rt (k : Nat) : Option FieldType := match mx_M[k]? with
  | some e => e.2.2.2.1
  | none => none
def mx_ml (k : Nat) : Nat := match mx_M[k]? with
  | some e => e.2.2.1
  | none => 0
def mx_cl (k idx : Nat) : Option (Nat × Nat × List MXQ) := match mx_pk mx_CT (mx_ow k) with
  | some t => mx_pk t idx
  | none => none
/-- an entry of a pool, by the class of the method -/
def mx_lk {α : Type} (t : List (Nat × α)) (k idx : Nat) : Option α := if idx < 10000 then mx_pk t (mx_ow k * 10000 + idx) else none
def mx_fd (k idx : Nat) : Option (Nat × Nat × Nat × List (Nat × Nat)) := mx_lk mx_F k idx
def mx_isA : Value → Bool
  | .ref _ => true
  | .null => true
  | .float _ => true
  | _ => false
def mx_c1 : Value → Bool
  | .long _ => false
  | .double _ => false
  | _ => true
def mx_cuts : Nat → Int32 := fun j => ([0, 10, 20, 50, 100] : List Int32).getD j 0
def mx_by0 : Nat → Int32 := fun j => ([112, 97, 116, 117] : List Int32).getD j 0
def mx_by1 : Nat → Int32 := fun j => ([112, 102, 115, 116] : List Int32).getD j 0
/-- rows that were there before: int rows -/
def mx_xi (X : MXX) (w : UInt32) : Option (Nat × (Nat → Int32)) := if w = 0 then some (5, mx_cuts) else if w = 1 then some X else none
/-- and rows of bytes -/
def mx_xb (w : UInt32) : Option (Nat × (Nat → Int32)) := if w = 4 then some (4, mx_by0) else if w = 5 then some (4, mx_by1) else none
/-- fields of the two texts of names -/
def mx_xf (k idx : Nat) (w : UInt32) : Option Value :=
  if mx_ow k = 15 ∧ idx = 9 then (if w = 2 then some (.float 4) else if w = 3 then some (.float 5) else none)
  else if mx_ow k = 15 ∧ idx = 15 ∧ (w = 2 ∨ w = 3) then some (.int 0) else none
def mx_gs (k idx : Nat) : Option Value := if mx_ow k = 11 ∧ idx = 323 then some (.float 0) else if mx_ow k = 15 ∧ idx = 38 then some (.int 1) else none
def mx_lc (k idx : Nat) : Option Value := if mx_ow k = 10 ∧ idx = 26 then some (.float 2) else if mx_ow k = 10 ∧ idx = 28 then some (.float 3) else
  match mx_lk mx_KI k idx with
  | some v => some (.int v.1)
  | none => none
def mx_st (l : List Value) (i : Nat) (v : Value) : Option (List Value) :=
  if i < l.length then
    match i with
    | 0 => some (l.set 0 v)
    | j + 1 => match l[j]? with
      | some (.long _) => none
      | _ => some (l.set (j + 1) v)
  else none
def mx_sl : List Value → List Value
  | [] => []
  | .long x :: t => .long x :: .double 0 :: mx_sl t
  | .double x :: t => .double x :: .double 0 :: mx_sl t
  | v :: t => v :: mx_sl t
def mx_en (as : List Value) (n : Nat) : List Value := mx_sl as ++ List.replicate (n - (mx_sl as).length) (.double 0)
def mx_cb (c : ClassFile.Cond) (x y : Int32) : Bool := match c with
  | .eq => decide (x = y)
  | .ne => decide (¬ x = y)
  | .lt => decide (x < y)
  | .ge => decide (y ≤ x)
  | .gt => decide (y < x)
  | .le => decide (x ≤ y)
def mx_in (i : Int32) (n : Nat) : Bool := decide (0 ≤ i) && decide (i.toNatClampNeg < n)
def mx_nx (pc : Nat) (l st : List Value) (h : MXH) : Option MXR := some (.inl (pc, l, st, h))
def mx_to (pc : Nat) (off : Int) (l st : List Value) (h : MXH) : Option MXR := if 0 ≤ (pc : Int) + off then mx_nx ((pc : Int) + off).toNat l st h else none
def mx_br (c : Bool) (pc : Nat) (off : Int) (l st : List Value) (h : MXH) : Option MXR := if 0 ≤ (pc : Int) + off then (bif c then mx_nx ((pc : Int) + off).toNat l st h else mx_nx (pc + 3) l st h) else none
def mx_ld (l : List Value) (i pc : Nat) (st : List Value) (h : MXH) (ok : Value → Bool) : Option MXR := match l[i]? with
  | some v => bif ok v then mx_nx pc l (v :: st) h else none
  | none => none
def mx_isI : Value → Bool
  | .int _ => true
  | _ => false
def mx_isJ : Value → Bool
  | .long _ => true
  | _ => false
def mx_sto (l : List Value) (i pc : Nat) (st : List Value) (h : MXH) (ok : Value → Bool) : Option MXR := match st with
  | v :: st => bif ok v then (match mx_st l i v with
    | some l' => mx_nx pc l' st h
    | none => none) else none
  | [] => none
/-- an operation on two ints -/
def mx_o2 (pc : Nat) (l st : List Value) (h : MXH) (f : Int32 → Int32 → Int32) : Option MXR := match st with
  | .int y :: .int x :: st => mx_nx (pc + 1) l (.int (f x y) :: st) h
  | _ => none
def mx_o1 (pc : Nat) (l st : List Value) (h : MXH) (f : Int32 → Int32) : Option MXR := match st with
  | .int x :: st => mx_nx (pc + 1) l (.int (f x) :: st) h
  | _ => none
def mx_l2 (pc : Nat) (l st : List Value) (h : MXH) (f : Int64 → Int64 → Int64) : Option MXR := match st with
  | .long y :: .long x :: st => mx_nx (pc + 1) l (.long (f x y) :: st) h
  | _ => none
def mx_ls (pc : Nat) (l st : List Value) (h : MXH) (f : Int64 → Int32 → Int64) : Option MXR := match st with
  | .int y :: .long x :: st => mx_nx (pc + 1) l (.long (f x y) :: st) h
  | _ => none
abbrev mx_rfs (f : Nat → Option Nat) : (Nat → Int32) ⊕ (Nat → Int64) ⊕ (Nat → UInt32) ⊕ (Nat → UInt64) ⊕ (Nat → Option Nat) := .inr (.inr (.inr (.inr f)))
def mx_vr : Option Nat → Value
  | none => .null
  | some a => .ref a
/-- a call: the method, its arguments, what stays on the stack -/
def mx_go (k' : Nat) (as rest : List Value) : Option MXR := if rest.length ≤ 4 ∧ (mx_sl as).length ≤ mx_ml k' then some (.inr (.inr (k', as, rest))) else none
def mx_fit (ty : FieldType) (v : Value) : Bool := match ty, v with
  | .int, .int _ => true
  | .boolean, .int x => decide (x = 0) || decide (x = 1)
  | .object _, v => mx_isA v
  | .array _, v => mx_isA v
  | _, _ => false
def mx_ftT (ci j : Nat) : Option (FieldType × Bool × String) := match vwCl[ci]?, mx_tyL[ci]? with
  | some q, some t => some (t j, (q.2.1 j).2.2.2, (q.2.1 j).1)
  | _, _ => none
def mx_isInit (k : Nat) : Bool := match mx_M[k]? with
  | some e => decide (e.1.name = "<init>")
  | none => false
def mx_sub (a b : Nat) : Bool := mx_SB.any (fun q => Nat.beq q.1 a && Nat.beq q.2 b)
def mx_selr (ci : Nat) : Bool := ci == 0 || ci == 1 || ci == 2 || ci == 4 || ci == 6 || ci == 8 || ci == 9
/-- the class whose objects a row of references holds, by the row's kind -/
def mx_cmp (kd : Nat) : Option Nat := if kd = 2 then some 10 else if kd = 3 then some 6 else if kd = 4 then some 7 else if kd = 5 then some 3 else none
def mx_newarr (kd pc : Nat) (l st : List Value) (h : MXH) : Option MXR := match st with
  | .int n :: st => if 0 ≤ n ∧ n.toNatClampNeg ≤ 1000 then mx_nx pc l (.ref h.length :: st) (h ++ [.inl (kd, n.toNatClampNeg, .inl (fun _ => 0))]) else none
  | _ => none
def mx_iald (X : MXX) (pc : Nat) (l st : List Value) (h : MXH) : Option MXR := match st with
  | .int i :: .ref a :: st => match h[a]? with
    | some (.inl (0, n, .inl f)) => bif mx_in i n then mx_nx (pc + 1) l (.int (f i.toNatClampNeg) :: st) h else none
    | _ => none
  | .int i :: .float w :: st => match mx_xi X w with
    | some (n, f) => bif mx_in i n then mx_nx (pc + 1) l (.int (f i.toNatClampNeg) :: st) h else none
    | none => none
  | _ => none
def mx_bald (pc : Nat) (l st : List Value) (h : MXH) : Option MXR := match st with
  | .int i :: .ref a :: st => match h[a]? with
    | some (.inl (1, n, .inl f)) => bif mx_in i n then mx_nx (pc + 1) l (.int (f i.toNatClampNeg) :: st) h else none
    | _ => none
  | .int i :: .float w :: st => match mx_xb w with
    | some (n, f) => bif mx_in i n then mx_nx (pc + 1) l (.int (f i.toNatClampNeg) :: st) h else none
    | none => none
  | _ => none
def mx_iast (pc : Nat) (l st : List Value) (h : MXH) : Option MXR := match st with
  | .int x :: .int i :: .ref a :: st => match h[a]? with
    | some (.inl (0, n, .inl f)) => bif mx_in i n then mx_nx (pc + 1) l st (h.set a (.inl (0, n, .inl (upd f i.toNatClampNeg x)))) else none
    | _ => none
  | _ => none
def mx_bast (pc : Nat) (l st : List Value) (h : MXH) : Option MXR := match st with
  | .int x :: .int i :: .ref a :: st => match h[a]? with
    | some (.inl (1, n, .inl f)) => bif mx_in i n then mx_nx (pc + 1) l st (h.set a (.inl (1, n, .inl (upd f i.toNatClampNeg (vp_nar .boolean x))))) else none
    | _ => none
  | _ => none
def mx_aald (pc : Nat) (l st : List Value) (h : MXH) : Option MXR := match st with
  | .int i :: .ref a :: st => match h[a]? with
    | some (.inl (kd, n, .inr (.inr (.inr (.inr f))))) => bif mx_in i n && (mx_cmp kd).isSome then mx_nx (pc + 1) l (mx_vr (f i.toNatClampNeg) :: st) h else none
    | _ => none
  | _ => none
def mx_aast (pc : Nat) (l st : List Value) (h : MXH) : Option MXR := match st with
  | .ref v :: .int i :: .ref a :: st => match h[a]? with
    | some (.inl (kd, n, .inr (.inr (.inr (.inr f))))) => match h[v]?, mx_cmp kd with
      | some (.inr (ci, _)), some cc => bif mx_in i n && mx_sub ci cc then mx_nx (pc + 1) l st (h.set a (.inl (kd, n, mx_rfs (va_up f i.toNatClampNeg (some v))))) else none
      | _, _ => none
    | _ => none
  | .null :: .int i :: .ref a :: st => match h[a]? with
    | some (.inl (kd, n, .inr (.inr (.inr (.inr f))))) => bif mx_in i n && (mx_cmp kd).isSome then mx_nx (pc + 1) l st (h.set a (.inl (kd, n, mx_rfs (va_up f i.toNatClampNeg none)))) else none
    | _ => none
  | _ => none
def mx_alen (X : MXX) (pc : Nat) (l st : List Value) (h : MXH) : Option MXR := match st with
  | .ref a :: st => match h[a]? with
    | some (.inl (0, n, .inl _)) => mx_nx (pc + 1) l (.int (Int32.ofNat n) :: st) h
    | _ => none
  | .float w :: st => match mx_xi X w with
    | some (n, _) => mx_nx (pc + 1) l (.int (Int32.ofNat n) :: st) h
    | none => match mx_xb w with
      | some (n, _) => mx_nx (pc + 1) l (.int (Int32.ofNat n) :: st) h
      | none => none
  | _ => none
def mx_getf (k idx pc : Nat) (l st : List Value) (h : MXH) : Option MXR := match st with
  | .ref a :: st => match h[a]?, mx_fd k idx with
    | some (.inr (ci, fs)), some (j, _, _, cs) => match mx_pk cs ci, fs[j]? with
      | some _, some v => mx_nx (pc + 3) l (v :: st) h
      | _, _ => none
    | _, _ => none
  | .float w :: st => match mx_xf k idx w with
    | some v => mx_nx (pc + 3) l (v :: st) h
    | none => none
  | _ => none
def mx_putf (k idx pc : Nat) (l st : List Value) (h : MXH) : Option MXR := match st with
  | v :: .ref a :: st => match h[a]?, mx_fd k idx with
    | some (.inr (ci, fs)), some (j, _, _, cs) => match mx_pk cs ci, mx_ftT ci j with
      | some _, some (ty, fin, dc) => bif mx_fit ty v && decide (j < fs.length) && (!fin || (mx_isInit k && decide (dc = mx_cn (mx_ow k)))) then mx_nx (pc + 3) l st (h.set a (.inr (ci, fs.set j v))) else none
      | _, _ => none
    | _, _ => none
  | _ => none
def mx_new (k idx pc : Nat) (l st : List Value) (h : MXH) : Option MXR := match mx_lk mx_CL k idx with
  | some (ci, _) => match mx_dfL[ci]? with
    | some fs => mx_nx (pc + 3) l (.ref h.length :: st) (h ++ [.inr (ci, fs)])
    | none => none
  | none => none
def mx_anew (k idx pc : Nat) (l st : List Value) (h : MXH) : Option MXR := match mx_lk mx_CL k idx with
  | some (ci, _) => match mx_pk mx_AK ci, st with
    | some kd, .int n :: st => if 0 ≤ n ∧ n.toNatClampNeg ≤ 1000 then mx_nx (pc + 3) l (.ref h.length :: st) (h ++ [.inl (kd, n.toNatClampNeg, mx_rfs (fun _ => none))]) else none
    | _, _ => none
  | none => none
def mx_inst (k idx pc : Nat) (l st : List Value) (h : MXH) : Option MXR := match st, mx_lk mx_CL k idx with
  | .ref a :: st, some (t, _) => match h[a]? with
    | some (.inr (ci, _)) => bif mx_selr ci && mx_selr t then mx_nx (pc + 3) l (.int (bif mx_sub ci t then 1 else 0) :: st) h else none
    | _ => none
  | _, _ => none
def mx_copy (d pc : Nat) (l st : List Value) (h : MXH) : Option MXR := match st with
  | .int n :: .int dp :: .ref a :: .int sp :: .ref b :: rest => match h[b]?, h[a]? with
    | some (.inl (0, n0, .inl f)), some (.inl (0, n1, .inl g)) =>
      if 0 ≤ n ∧ 0 ≤ dp ∧ 0 ≤ sp ∧ sp.toNatClampNeg + n.toNatClampNeg ≤ n0 ∧ dp.toNatClampNeg + n.toNatClampNeg ≤ n1 ∧ 1 ≤ d ∧ rest.length ≤ 4 then
        mx_nx (pc + 3) l rest (h.set a (.inl (0, n1, .inl (va_cpy f g sp.toNatClampNeg dp.toNatClampNeg n.toNatClampNeg)))) else none
    | _, _ => none
  | _ => none
def mx_mth (d pc : Nat) (l st : List Value) (h : MXH) (f : Int32 → Int32 → Int32) : Option MXR := match st with
  | .int y :: .int x :: rest => if 1 ≤ d ∧ rest.length ≤ 4 then mx_nx (pc + 3) l (.int (f x y) :: rest) h else none
  | _ => none
def mx_cS (d k idx pc : Nat) (l st : List Value) (h : MXH) : Option MXR := match mx_cl k idx with
  | some (0, n, (_, k', _) :: _) => if n ≤ st.length then mx_go k' (st.take n).reverse (st.drop n) else none
  | some (7, _, _) => mx_copy d pc l st h
  | some (8, _, _) => mx_mth d pc l st h (fun x y => if x < y then y else x)
  | some (9, _, _) => mx_mth d pc l st h (fun x y => if y < x then y else x)
  | _ => none
def mx_cI (d k idx pc : Nat) (l st : List Value) (h : MXH) : Option MXR := match mx_cl k idx with
  | some (6, _, _) => match st with
    | .ref _ :: rest => if 1 ≤ d ∧ rest.length ≤ 4 then mx_nx (pc + 3) l rest h else none
    | _ => none
  | some (kd, n, (_, k', _) :: _) => if n ≤ st.length then (match st.drop n with
    | .ref b :: rest => if kd = 1 ∨ kd = 2 then mx_go k' (.ref b :: (st.take n).reverse) rest else if kd = 3 then (match h[b]? with
      | some (.inr (ci, _)) => if ci < 13 then mx_go k' (.ref b :: (st.take n).reverse) rest else none
      | _ => none) else none
    | _ => none) else none
  | _ => none
def mx_cV (k idx : Nat) (st : List Value) (h : MXH) : Option MXR := match mx_cl k idx with
  | some (4, n, rows) => if n ≤ st.length then (match st.drop n with
    | .ref b :: rest => match h[b]? with
      | some (.inr (ci, _)) => match mx_pk rows ci with
        | some (k', _) => if ci < 13 then mx_go k' (.ref b :: (st.take n).reverse) rest else none
        | none => none
      | _ => none
    | .float w :: rest => if w = 2 ∨ w = 3 then (match mx_pk rows 15 with
      | some (k', _) => mx_go k' (.float w :: (st.take n).reverse) rest
      | none => none) else none
    | _ => none) else none
  | _ => none
def mx_ret (k : Nat) (v : Int32) : Option MXR := match mx_rt k with
  | some ty => if narrow ty (.int v) = .int v then some (.inr (.inl (some (.int v)))) else none
  | none => none
def mx_step (X : MXX) (d k pc : Nat) (i : Instr) (l st : List Value) (h : MXH) : Option MXR := match i with
  | .iconst n => mx_nx (pc + 1) l (.int (Int32.ofInt n) :: st) h
  | .bipush n => mx_nx (pc + 2) l (.int (Int8.ofInt n).toInt32 :: st) h
  | .sipush n => mx_nx (pc + 3) l (.int (Int16.ofInt n).toInt32 :: st) h
  | .lconst n => mx_nx (pc + 1) l (.long (Int64.ofNat n.val) :: st) h
  | .ldc idx => match mx_lc k idx with
    | some v => mx_nx (pc + 2) l (v :: st) h
    | none => none
  | .ldc_w idx => match mx_lk mx_KI k idx with
    | some v => mx_nx (pc + 3) l (.int v.1 :: st) h
    | none => none
  | .ldc2_w idx => match mx_lk mx_KL k idx with
    | some v => mx_nx (pc + 3) l (.long v.1 :: st) h
    | none => none
  | .iload_n n => mx_ld l n.val (pc + 1) st h mx_isI
  | .iload n => mx_ld l n (pc + 2) st h mx_isI
  | .lload_n n => mx_ld l n.val (pc + 1) st h mx_isJ
  | .lload n => mx_ld l n (pc + 2) st h mx_isJ
  | .aload_n n => mx_ld l n.val (pc + 1) st h mx_isA
  | .aload n => mx_ld l n (pc + 2) st h mx_isA
  | .istore_n n => mx_sto l n.val (pc + 1) st h mx_isI
  | .istore n => mx_sto l n (pc + 2) st h mx_isI
  | .astore_n n => mx_sto l n.val (pc + 1) st h mx_isA
  | .astore n => mx_sto l n (pc + 2) st h mx_isA
  | .iinc n c => match l[n]? with
    | some (.int x) => (match mx_st l n (.int (x + Int32.ofInt c)) with
      | some l' => mx_nx (pc + 3) l' st h
      | none => none)
    | _ => none
  | .iadd => mx_o2 pc l st h (fun x y => x + y)
  | .isub => mx_o2 pc l st h (fun x y => x - y)
  | .imul => mx_o2 pc l st h (fun x y => x * y)
  | .iand => mx_o2 pc l st h (fun x y => x &&& y)
  | .ixor => mx_o2 pc l st h (fun x y => x ^^^ y)
  | .ishr => mx_o2 pc l st h (fun x y => x >>> (y &&& 31))
  | .iushr => mx_o2 pc l st h (fun x y => (x.toUInt32 >>> (y.toUInt32 &&& Int32.toUInt32 31)).toInt32)
  | .idiv => match st with
    | .int y :: .int x :: st => if y = 0 then none else mx_nx (pc + 1) l (.int (x / y) :: st) h
    | _ => none
  | .irem => match st with
    | .int y :: .int x :: st => if y = 0 then none else mx_nx (pc + 1) l (.int (x - x / y * y) :: st) h
    | _ => none
  | .ineg => mx_o1 pc l st h (fun x => -x)
  | .i2b => mx_o1 pc l st h (fun x => x.toInt8.toInt32)
  | .i2s => mx_o1 pc l st h (fun x => x.toInt16.toInt32)
  | .i2c => mx_o1 pc l st h (fun x => (x.toUInt32 % 65536).toInt32)
  | .i2l => match st with
    | .int x :: st => mx_nx (pc + 1) l (.long x.toInt64 :: st) h
    | _ => none
  | .l2i => match st with
    | .long x :: st => mx_nx (pc + 1) l (.int x.toInt32 :: st) h
    | _ => none
  | .land => mx_l2 pc l st h (fun x y => x &&& y)
  | .lor => mx_l2 pc l st h (fun x y => x ||| y)
  | .lshl => mx_ls pc l st h (fun x y => x <<< (y.toInt64 &&& 63))
  | .lshr => mx_ls pc l st h (fun x y => x >>> (y.toInt64 &&& 63))
  | .lushr => mx_ls pc l st h (fun x y => (x.toUInt64 >>> (y.toInt64.toUInt64 &&& Int64.toUInt64 63)).toInt64)
  | .lcmp => match st with
    | .long y :: .long x :: st => mx_nx (pc + 1) l (.int (lg_cmp x y) :: st) h
    | _ => none
  | .dup => match st with
    | v :: st => bif mx_c1 v then mx_nx (pc + 1) l (v :: v :: st) h else none
    | _ => none
  | .dup2 => match st with
    | v :: w :: st => bif mx_c1 v && mx_c1 w then mx_nx (pc + 1) l (v :: w :: v :: w :: st) h else none
    | _ => none
  | .pop => match st with
    | v :: st => bif mx_c1 v then mx_nx (pc + 1) l st h else none
    | _ => none
  | .ifCond c off => match st with
    | .int x :: st => mx_br (mx_cb c x 0) pc off l st h
    | _ => none
  | .if_icmp c off => match st with
    | .int y :: .int x :: st => mx_br (mx_cb c x y) pc off l st h
    | _ => none
  | .ifnull off => match st with
    | .null :: st => mx_to pc off l st h
    | .ref _ :: st => mx_nx (pc + 3) l st h
    | _ => none
  | .goto off => mx_to pc off l st h
  | .tableswitch df lo hi offs => match st with
    | .int x :: st => if x.toInt < lo ∨ hi < x.toInt then mx_to pc df l st h else (match offs[(x.toInt - lo).toNat]? with
      | some off => mx_to pc off l st h
      | none => none)
    | _ => none
  | .lookupswitch df ps => match st with
    | .int x :: st => if (ps.toList.zip (ps.toList.drop 1)).all (fun (a, next) => a.1 < next.1) = true then mx_to pc (Op.lookupswitch.offset ps.toList df x.toInt) l st h else none
    | _ => none
  | .iaload => mx_iald X pc l st h
  | .baload => mx_bald pc l st h
  | .aaload => mx_aald pc l st h
  | .iastore => mx_iast pc l st h
  | .bastore => mx_bast pc l st h
  | .aastore => mx_aast pc l st h
  | .arraylength => mx_alen X pc l st h
  | .newarray .int => mx_newarr 0 (pc + 2) l st h
  | .newarray .boolean => mx_newarr 1 (pc + 2) l st h
  | .anewarray idx => mx_anew k idx pc l st h
  | .new idx => mx_new k idx pc l st h
  | .instanceof idx => mx_inst k idx pc l st h
  | .getfield idx => mx_getf k idx pc l st h
  | .putfield idx => mx_putf k idx pc l st h
  | .getstatic idx => match mx_gs k idx with
    | some v => mx_nx (pc + 3) l (v :: st) h
    | none => none
  | .invokestatic idx => mx_cS d k idx pc l st h
  | .invokespecial idx => mx_cI d k idx pc l st h
  | .invokevirtual idx => mx_cV k idx st h
  | .ireturn => match st with
    | [.int v] => mx_ret k v
    | _ => none
  | .areturn => match st, mx_rt k with
    | [v], some (.object _) => bif mx_isA v then some (.inr (.inl (some v))) else none
    | _, _ => none
  | .return_ => match st, mx_rt k with
    | [], none => some (.inr (.inl none))
    | _, _ => none
  | _ => none
def mx_run (X : MXX) : Nat → Nat → Nat → Nat → List Value → List Value → MXH → Option (Option Value × MXH)
  | 0, _, _, _, _, _, _ => none
  | n + 1, d, k, pc, l, st, h => match mx_at k pc with
    | none => none
    | some (i, _) => match mx_step X d k pc i l st h with
      | none => none
      | some (.inl (pc', l', st', h')) => mx_run X n d k pc' l' st' h'
      | some (.inr (.inl r)) => some (r, h)
      | some (.inr (.inr (k', as, rest))) => match d with
        | 0 => none
        | d' + 1 => match mx_run X n d' k' 0 (mx_en as (mx_ml k')) [] h with
          | none => none
          | some (r, h') => mx_run X n (d' + 1) k (pc + 3) l (r.toList ++ rest) h'
