/-! THE PURE MACHINE: memory, one instruction, runs -/
abbrev PM : Type := (Nat → Nat → Int32) × (Nat → Nat → Int64) × (Nat → Nat → Option Nat) × List Nat
def rI (μ : PM) (a j : Nat) : Int32 := μ.1 a j
def rL (μ : PM) (a j : Nat) : Int64 := μ.2.1 a j
def rR (μ : PM) (a j : Nat) : Option Nat := μ.2.2.1 a j
def aS (μ : PM) : List Nat := μ.2.2.2
def wI (μ : PM) (a j : Nat) (x : Int32) : PM := (fun b k => if a = b ∧ j = k then x else μ.1 b k, μ.2)
def wL (μ : PM) (a j : Nat) (x : Int64) : PM := (μ.1, fun b k => if a = b ∧ j = k then x else μ.2.1 b k, μ.2.2)
def wR (μ : PM) (a j : Nat) (x : Option Nat) : PM := (μ.1, μ.2.1, fun b k => if a = b ∧ j = k then x else μ.2.2.1 b k, μ.2.2.2)
/-- a stretch of ints of a, from sp on, comes to b, from dp on -/
def cI (μ : PM) (a sp b dp n : Nat) : PM := (fun c k => if b = c ∧ dp ≤ k ∧ k < dp + n then μ.1 a (sp + (k - dp)) else μ.1 c k, μ.2)
def nw (μ : PM) (a : Nat) : PM := (fun b k => if a = b then 0 else μ.1 b k, fun b k => if a = b then 0 else μ.2.1 b k, fun b k => if a = b then none else μ.2.2.1 b k, μ.2.2.2 ++ [a])
/-- the address of what is made next -/
def nx (μ : PM) (n t : Nat) : Nat := ((aS μ).length + 2) * 1000000 + n * 100 + t
/-- the made words' address -/
abbrev kwA : Nat := 1002821
def fv (μ : PM) (a : Nat) (ty : FieldType) (k : Nat) : Value := match ty with
  | .long => .long (rL μ a k)
  | .object _ => va_rf (rR μ a k)
  | .array _ => va_rf (rR μ a k)
  | _ => .int (rI μ a k)
abbrev PL : Type := List (Option Value)
abbrev PR : Type := (Nat × PL × List Value × PM) ⊕ ((Nat × List Value × List Value) ⊕ Option Value)
def nxt (pc : Nat) (ls : PL) (st : List Value) (μ : PM) : Option PR := some (.inl (pc, ls, st, μ))
def ck (c : Prop) [Decidable c] (k : Option PR) : Option PR := if c then k else none
def pI (st : List Value) (k : Int32 → List Value → Option PR) : Option PR := match st with
  | .int x :: r => k x r
  | _ => none
def pL (st : List Value) (k : Int64 → List Value → Option PR) : Option PR := match st with
  | .long x :: r => k x r
  | _ => none
def pA (st : List Value) (k : Nat → List Value → Option PR) : Option PR := match st with
  | .ref x :: r => k x r
  | _ => none
def pV (st : List Value) (k : Value → List Value → Option PR) : Option PR := match st with
  | x :: r => k x r
  | _ => none
/-- on x and, above it, y -/
def bI (f : Int32 → Int32 → Int32) (pc : Nat) (ls : PL) (st : List Value) (μ : PM) : Option PR := pI st fun y r => pI r fun x r => nxt (pc + 1) ls (.int (f x y) :: r) μ
def bL (f : Int64 → Int64 → Int64) (pc : Nat) (ls : PL) (st : List Value) (μ : PM) : Option PR := pL st fun y r => pL r fun x r => nxt (pc + 1) ls (.long (f x y) :: r) μ
def jmp (pc : Nat) (off : Int) (ls : PL) (st : List Value) (μ : PM) : Option PR := ck (0 ≤ (pc : Int) + off) (nxt ((pc : Int) + off).toNat ls st μ)
def br (c : Prop) [Decidable c] (pc : Nat) (off : Int) (ls : PL) (st : List Value) (μ : PM) : Option PR := ck (0 ≤ (pc : Int) + off) (if c then nxt ((pc : Int) + off).toNat ls st μ else nxt (pc + 3) ls st μ)
def ldI (i len pc : Nat) (ls : PL) (st : List Value) (μ : PM) : Option PR := match ls[i]? with
  | some (some (.int x)) => nxt (pc + len) ls (.int x :: st) μ
  | _ => none
def ldL (i len pc : Nat) (ls : PL) (st : List Value) (μ : PM) : Option PR := match ls[i]? with
  | some (some (.long x)) => nxt (pc + len) ls (.long x :: st) μ
  | _ => none
def ldA (i len pc : Nat) (ls : PL) (st : List Value) (μ : PM) : Option PR := match ls[i]? with
  | some (some (.ref x)) => nxt (pc + len) ls (.ref x :: st) μ
  | _ => none
def ok1 (y i : Nat) : Bool := decide (i < xN y) && !(gN y).contains i && (i == 0 || !(gN y).contains (i - 1))
def ok2 (y i : Nat) : Bool := decide (i + 1 < xN y) && (gN y).contains i && (i == 0 || !(gN y).contains (i - 1)) && !(gN y).contains (i + 1)
def stI (y i len pc : Nat) (ls : PL) (st : List Value) (μ : PM) : Option PR := pI st fun x r => ck (ok1 y i = true) (nxt (pc + len) (ls.set i (some (.int x))) r μ)
def stA (y i len pc : Nat) (ls : PL) (st : List Value) (μ : PM) : Option PR := pA st fun x r => ck (ok1 y i = true) (nxt (pc + len) (ls.set i (some (.ref x))) r μ)
def stL (y i len pc : Nat) (ls : PL) (st : List Value) (μ : PM) : Option PR := pL st fun x r => ck (ok2 y i = true) (nxt (pc + len) ((ls.set i (some (.long x))).set (i + 1) none) r μ)
def inB (i : Int32) (a : Nat) : Prop := ¬ (i < 0 ∨ a / 100 % 10000 ≤ i.toNatClampNeg)
theorem inB_iff (i : Int32) (a : Nat) : inB i a ↔ vp_in i (a / 100 % 10000) := Iff.rfl
def lookF (o i : Nat) : Option (Nat × Nat) := (fL.find? fun q => q.1 == o && q.2.1 == i).map fun q => (q.2.2.1, q.2.2.2.1)
def lookM (o i : Nat) : Option Nat := (mL.find? fun q => q.1 == o && q.2.1 == i).map fun q => q.2.2.1
def lookH (o i : Nat) : Option Nat := (hL.find? fun q => q.1 == o && q.2.1 == i).map fun q => q.2.2.1
def lookC (o i : Nat) : Option Nat := (cL.find? fun q => q.1 == o && q.2.1 == i).map fun q => q.2.2.1
def lookN (o i : Nat) : Option Int32 := (nL.find? fun q => q.1 == o && q.2.1 == i).map fun q => q.2.2.1
def lookL (o i : Nat) : Option Int64 := (lL.find? fun q => q.1 == o && q.2.1 == i).map fun q => q.2.2.1
def putV (μ : PM) (a k : Nat) (ty : FieldType) (v : Value) : Option PM := match ty, v with
  | .int, .int x => some (wI μ a k x)
  | .boolean, .int x => if x = 0 ∨ x = 1 then some (wI μ a k x) else none
  | .long, .long x => some (wL μ a k x)
  | .object _, .ref b => some (wR μ a k (some b))
  | .object _, .null => some (wR μ a k none)
  | .array _, .ref b => some (wR μ a k (some b))
  | .array _, .null => some (wR μ a k none)
  | _, _ => none
def sw (st : List Value) : Nat := (st.map fun v => v.category).sum
def slL (as : List Value) : PL := as.flatMap fun v => if v.category = 2 then [some v, none] else [some v]
def entG (z : Nat) : Nat → List Value → Bool
  | i, [] => decide (i ≤ xN z)
  | i, v :: vs => if v.category = 2 then (gN z).contains i && entG z (i + 2) vs else entG z (i + 1) vs
/-- a call of z with n arguments (and its object, where it has one) -/
def cal (z : Nat) (st : List Value) : Option PR :=
  let n := if kN z = 1 then aN z else aN z + 1
  if n ≤ st.length ∧ sw (st.drop n) ≤ 8 ∧ entG z 0 (st.take n).reverse = true then some (.inr (.inl (z, (st.take n).reverse, st.drop n))) else none
def isOf (c : Nat) (v : Option Value) : Bool := match v with
  | some (.ref a) => a % 100 == c
  | _ => false
def exC (y i pc : Nat) (ls : PL) (st : List Value) (μ : PM) : Option PR := match lookM (oN y) i with
  | some z => ck (kN z = 1) (cal z st)
  | none => match lookH (oN y) i with
    | some 900 => match st with
      | .int n :: .int dp :: .ref b :: .int sp :: .ref a :: r => ck (a % 100 = 20 ∧ b % 100 = 20 ∧ 2000000 ≤ a ∧ 2000000 ≤ b ∧ ¬ sp < 0 ∧ ¬ dp < 0 ∧ ¬ n < 0 ∧ sp.toNatClampNeg + n.toNatClampNeg ≤ a / 100 % 10000 ∧ dp.toNatClampNeg + n.toNatClampNeg ≤ b / 100 % 10000 ∧ sw r ≤ 8) (nxt (pc + 3) ls r (cI μ a sp.toNatClampNeg b dp.toNatClampNeg n.toNatClampNeg))
      | _ => none
    | some 902 => pI st fun y r => pI r fun x r => ck (sw r ≤ 8) (nxt (pc + 3) ls (.int (if x < y then y else x) :: r) μ)
    | some 903 => pI st fun y r => pI r fun x r => ck (sw r ≤ 8) (nxt (pc + 3) ls (.int (if y < x then y else x) :: r) μ)
    | some 904 => pI st fun x r => ck (sw r ≤ 8) (nxt (pc + 3) ls (.int (if 0 ≤ x then x else 0 - x) :: r) μ)
    | _ => none
def tgT (t : ArrayType) : Option Nat := match t with
  | .int => some 20
  | .long => some 21
  | .char => some 22
  | .boolean => some 23
  | _ => none
def jT (dflt lo hi : Int) (offs : Array Int) (x : Int32) : Option Int := if x.toInt < lo ∨ hi < x.toInt then some dflt else offs[(x.toInt - lo).toNat]?
def exI (y : Nat) (i : Instr) (len pc : Nat) (ls : PL) (st : List Value) (μ : PM) : Option PR := match i with
  | .iconst n => ck (len = 1) (nxt (pc + 1) ls (.int (Int32.ofInt n) :: st) μ)
  | .bipush n => ck (len = 2) (nxt (pc + 2) ls (.int (Int8.ofInt n).toInt32 :: st) μ)
  | .sipush n => ck (len = 3) (nxt (pc + 3) ls (.int (Int16.ofInt n).toInt32 :: st) μ)
  | .lconst n => ck (len = 1) (nxt (pc + 1) ls (.long (Int64.ofNat (n : Nat)) :: st) μ)
  | .ldc k => ck (len = 2) (match lookN (oN y) k with
    | some v => nxt (pc + 2) ls (.int v :: st) μ
    | none => none)
  | .ldc_w k => ck (len = 3) (match lookN (oN y) k with
    | some v => nxt (pc + 3) ls (.int v :: st) μ
    | none => none)
  | .ldc2_w k => ck (len = 3) (match lookL (oN y) k with
    | some v => nxt (pc + 3) ls (.long v :: st) μ
    | none => none)
  | .aconst_null => ck (len = 1) (nxt (pc + 1) ls (.null :: st) μ)
  | .iload_n k => ck (len = 1) (ldI k 1 pc ls st μ)
  | .iload k => ck (len = 2) (ldI k 2 pc ls st μ)
  | .lload_n k => ck (len = 1) (ldL k 1 pc ls st μ)
  | .lload k => ck (len = 2) (ldL k 2 pc ls st μ)
  | .aload_n k => ck (len = 1) (ldA k 1 pc ls st μ)
  | .aload k => ck (len = 2) (ldA k 2 pc ls st μ)
  | .istore_n k => ck (len = 1) (stI y k 1 pc ls st μ)
  | .istore k => ck (len = 2) (stI y k 2 pc ls st μ)
  | .lstore_n k => ck (len = 1) (stL y k 1 pc ls st μ)
  | .lstore k => ck (len = 2) (stL y k 2 pc ls st μ)
  | .astore_n k => ck (len = 1) (stA y k 1 pc ls st μ)
  | .astore k => ck (len = 2) (stA y k 2 pc ls st μ)
  | .iinc k n => ck (len = 3 ∧ ok1 y k = true) (match ls[k]? with
    | some (some (.int x)) => nxt (pc + 3) (ls.set k (some (.int (x + Int32.ofInt n)))) st μ
    | _ => none)
  | .iadd => ck (len = 1) (bI (fun x y => x + y) pc ls st μ)
  | .isub => ck (len = 1) (bI (fun x y => x - y) pc ls st μ)
  | .imul => ck (len = 1) (bI (fun x y => x * y) pc ls st μ)
  | .iand => ck (len = 1) (bI (fun x y => x &&& y) pc ls st μ)
  | .ior => ck (len = 1) (bI (fun x y => x ||| y) pc ls st μ)
  | .ixor => ck (len = 1) (bI (fun x y => x ^^^ y) pc ls st μ)
  | .ishl => ck (len = 1) (bI (fun x y => x <<< (y &&& 31)) pc ls st μ)
  | .ishr => ck (len = 1) (bI (fun x y => x >>> (y &&& 31)) pc ls st μ)
  | .iushr => ck (len = 1) (bI (fun x y => (x.toUInt32 >>> (y.toUInt32 &&& Int32.toUInt32 31)).toInt32) pc ls st μ)
  | .idiv => ck (len = 1) (pI st fun y r => pI r fun x r => ck (¬ y = 0) (nxt (pc + 1) ls (.int (x / y) :: r) μ))
  | .irem => ck (len = 1) (pI st fun y r => pI r fun x r => ck (¬ y = 0) (nxt (pc + 1) ls (.int (x - x / y * y) :: r) μ))
  | .ineg => ck (len = 1) (pI st fun x r => nxt (pc + 1) ls (.int (-x) :: r) μ)
  | .ladd => ck (len = 1) (bL (fun x y => x + y) pc ls st μ)
  | .lsub => ck (len = 1) (bL (fun x y => x - y) pc ls st μ)
  | .lmul => ck (len = 1) (bL (fun x y => x * y) pc ls st μ)
  | .land => ck (len = 1) (bL (fun x y => x &&& y) pc ls st μ)
  | .lor => ck (len = 1) (bL (fun x y => x ||| y) pc ls st μ)
  | .ldiv => ck (len = 1) (pL st fun y r => pL r fun x r => ck (¬ y = 0) (nxt (pc + 1) ls (.long (x / y) :: r) μ))
  | .lrem => ck (len = 1) (pL st fun y r => pL r fun x r => ck (¬ y = 0) (nxt (pc + 1) ls (.long (x - x / y * y) :: r) μ))
  | .lshl => ck (len = 1) (pI st fun y r => pL r fun x r => nxt (pc + 1) ls (.long (x <<< (y.toInt64 &&& 63)) :: r) μ)
  | .lshr => ck (len = 1) (pI st fun y r => pL r fun x r => nxt (pc + 1) ls (.long (x >>> (y.toInt64 &&& 63)) :: r) μ)
  | .lushr => ck (len = 1) (pI st fun y r => pL r fun x r => nxt (pc + 1) ls (.long (x.toUInt64 >>> (y.toInt64.toUInt64 &&& Int64.toUInt64 63)).toInt64 :: r) μ)
  | .lcmp => ck (len = 1) (pL st fun y r => pL r fun x r => nxt (pc + 1) ls (.int (lg_cmp x y) :: r) μ)
  | .i2l => ck (len = 1) (pI st fun x r => nxt (pc + 1) ls (.long x.toInt64 :: r) μ)
  | .l2i => ck (len = 1) (pL st fun x r => nxt (pc + 1) ls (.int x.toInt32 :: r) μ)
  | .i2c => ck (len = 1) (pI st fun x r => nxt (pc + 1) ls (.int (x.toUInt32 % 65536).toInt32 :: r) μ)
  | .dup => ck (len = 1) (pV st fun v r => ck (v.category = 1) (nxt (pc + 1) ls (v :: v :: r) μ))
  | .dup2 => ck (len = 1) (pV st fun v r => ck (v.category = 1) (pV r fun w r => ck (w.category = 1) (nxt (pc + 1) ls (v :: w :: v :: w :: r) μ)))
  | .goto off => ck (len = 3) (jmp pc off ls st μ)
  | .ifCond c off => ck (len = 3) (pI st fun x r => match c with
    | .eq => br (x = 0) pc off ls r μ
    | .ne => br (¬ x = 0) pc off ls r μ
    | .lt => br (x < 0) pc off ls r μ
    | .ge => br (0 ≤ x) pc off ls r μ
    | .gt => br (0 < x) pc off ls r μ
    | .le => br (x ≤ 0) pc off ls r μ)
  | .if_icmp c off => ck (len = 3) (pI st fun y r => pI r fun x r => match c with
    | .eq => br (x = y) pc off ls r μ
    | .ne => br (¬ x = y) pc off ls r μ
    | .lt => br (x < y) pc off ls r μ
    | .ge => br (y ≤ x) pc off ls r μ
    | .gt => br (y < x) pc off ls r μ
    | .le => br (x ≤ y) pc off ls r μ)
  | .ifnull off => ck (len = 3) (pV st fun v r => match v with
    | .null => jmp pc off ls r μ
    | .ref _ => nxt (pc + 3) ls r μ
    | _ => none)
  | .tableswitch dflt lo hi offs => pI st fun x r => match jT dflt lo hi offs x with
    | some off => jmp pc off ls r μ
    | none => none
  | .lookupswitch dflt ps => ck ((ps.toList.zip (ps.toList.drop 1)).all (fun (a, next) => a.1 < next.1) = true) (pI st fun x r => jmp pc (Op.lookupswitch.offset ps.toList dflt x.toInt) ls r μ)
  | .getfield k => ck (len = 3) (match lookF (oN y) k with
    | some (c, j) => pA st fun a r => ck (a % 100 = c) (nxt (pc + 3) ls (fv μ a (tyN c j) j :: r) μ)
    | none => none)
  | .putfield k => ck (len = 3) (match lookF (oN y) k with
    | some (c, j) => pV st fun v r => pA r fun a r => ck (a % 100 = c ∧ ((TN c j).2.2.2 = false ∨ (kN y = 2 ∧ oN y = c))) (match putV μ a j (tyN c j) v with
      | some μ' => nxt (pc + 3) ls r μ'
      | none => none)
    | none => none)
  | .getstatic k => ck (len = 3 ∧ oN y = 3 ∧ k = 55) (nxt (pc + 3) ls (.ref kwA :: st) μ)
  | .iaload => ck (len = 1) (pI st fun i r => pA r fun a r => ck (a % 100 = 20 ∧ ¬ (i < 0 ∨ a / 100 % 10000 ≤ i.toNatClampNeg)) (nxt (pc + 1) ls (.int (rI μ a i.toNatClampNeg) :: r) μ))
  | .laload => ck (len = 1) (pI st fun i r => pA r fun a r => ck (a % 100 = 21 ∧ ¬ (i < 0 ∨ a / 100 % 10000 ≤ i.toNatClampNeg)) (nxt (pc + 1) ls (.long (rL μ a i.toNatClampNeg) :: r) μ))
  | .caload => ck (len = 1) (pI st fun i r => pA r fun a r => ck (a % 100 = 22 ∧ ¬ (i < 0 ∨ a / 100 % 10000 ≤ i.toNatClampNeg)) (nxt (pc + 1) ls (.int (rI μ a i.toNatClampNeg) :: r) μ))
  | .baload => ck (len = 1) (pI st fun i r => pA r fun a r => ck (a % 100 = 23 ∧ ¬ (i < 0 ∨ a / 100 % 10000 ≤ i.toNatClampNeg)) (nxt (pc + 1) ls (.int (rI μ a i.toNatClampNeg) :: r) μ))
  | .aaload => ck (len = 1) (pI st fun i r => pA r fun a r => ck (a % 100 = 24 ∧ ¬ (i < 0 ∨ a / 100 % 10000 ≤ i.toNatClampNeg)) (nxt (pc + 1) ls (va_rf (rR μ a i.toNatClampNeg) :: r) μ))
  | .iastore => ck (len = 1) (pI st fun x r => pI r fun i r => pA r fun a r => ck (a % 100 = 20 ∧ 2000000 ≤ a ∧ ¬ (i < 0 ∨ a / 100 % 10000 ≤ i.toNatClampNeg)) (nxt (pc + 1) ls r (wI μ a i.toNatClampNeg x)))
  | .lastore => ck (len = 1) (pL st fun x r => pI r fun i r => pA r fun a r => ck (a % 100 = 21 ∧ 2000000 ≤ a ∧ ¬ (i < 0 ∨ a / 100 % 10000 ≤ i.toNatClampNeg)) (nxt (pc + 1) ls r (wL μ a i.toNatClampNeg x)))
  | .castore => ck (len = 1) (pI st fun x r => pI r fun i r => pA r fun a r => ck (a % 100 = 22 ∧ 2000000 ≤ a ∧ ¬ (i < 0 ∨ a / 100 % 10000 ≤ i.toNatClampNeg)) (nxt (pc + 1) ls r (wI μ a i.toNatClampNeg (vp_nar .char x))))
  | .bastore => ck (len = 1) (pI st fun x r => pI r fun i r => pA r fun a r => ck (a % 100 = 23 ∧ 2000000 ≤ a ∧ ¬ (i < 0 ∨ a / 100 % 10000 ≤ i.toNatClampNeg)) (nxt (pc + 1) ls r (wI μ a i.toNatClampNeg (vp_nar .boolean x))))
  | .aastore => ck (len = 1) (pA st fun v r => pI r fun i r => pA r fun a r => ck (a % 100 = 24 ∧ v % 100 = 8 ∧ 2000000 ≤ a ∧ ¬ (i < 0 ∨ a / 100 % 10000 ≤ i.toNatClampNeg)) (nxt (pc + 1) ls r (wR μ a i.toNatClampNeg (some v))))
  | .arraylength => ck (len = 1) (pA st fun a r => ck (20 ≤ a % 100 ∧ a % 100 ≤ 24) (nxt (pc + 1) ls (.int (Int32.ofNat (a / 100 % 10000)) :: r) μ))
  | .new k => ck (len = 3) (match lookC (oN y) k with
    | some c => nxt (pc + 3) ls (.ref (nx μ 0 c) :: st) (nw μ (nx μ 0 c))
    | none => none)
  | .newarray t => ck (len = 2) (match tgT t with
    | some g => pI st fun n r => ck (¬ n < 0 ∧ n.toNatClampNeg < 10000) (nxt (pc + 2) ls (.ref (nx μ n.toNatClampNeg g) :: r) (nw μ (nx μ n.toNatClampNeg g)))
    | none => none)
  | .anewarray k => ck (len = 3) (match lookC (oN y) k with
    | some 8 => pI st fun n r => ck (¬ n < 0 ∧ n.toNatClampNeg < 10000) (nxt (pc + 3) ls (.ref (nx μ n.toNatClampNeg 24) :: r) (nw μ (nx μ n.toNatClampNeg 24)))
    | _ => none)
  | .invokevirtual k => ck (len = 3) (match lookM (oN y) k with
    | some z => ck (kN z = 0 ∧ isOf (oN z) (st[aN z]?) = true) (cal z st)
    | none => none)
  | .invokespecial k => ck (len = 3) (match lookM (oN y) k with
    | some z => ck (kN z = 2 ∧ isOf (oN z) (st[aN z]?) = true) (cal z st)
    | none => match lookH (oN y) k with
      | some 901 => pA st fun _ r => ck (sw r ≤ 8) (nxt (pc + 3) ls r μ)
      | _ => none)
  | .invokestatic k => ck (len = 3) (exC y k pc ls st μ)
  | .ireturn => ck (len = 1) (match st with
    | [.int x] => match tN y with
      | some .int => some (.inr (.inr (some (.int x))))
      | some .boolean => ck (x = 0 ∨ x = 1) (some (.inr (.inr (some (.int x)))))
      | _ => none
    | _ => none)
  | .lreturn => ck (len = 1) (match st with
    | [.long x] => ck (tN y = some .long) (some (.inr (.inr (some (.long x)))))
    | _ => none)
  | .return_ => ck (len = 1) (match st with
    | [] => ck (tN y = none) (some (.inr (.inr none)))
    | _ => none)
  | _ => none
def st1 (y pc : Nat) (ls : PL) (st : List Value) (μ : PM) : Option PR := match decode (bN y) pc with
  | .ok (i, len) => exI y i len pc ls st μ
  | .error _ => none
def ent (z : Nat) (as : List Value) : PL := slL as ++ List.replicate (xN z - (slL as).length) none
def run : Nat → Nat → Nat → Nat → PL → List Value → PM → Option (Option Value × PM)
  | 0, _, _, _, _, _, _ => none
  | n + 1, d, y, pc, ls, st, μ => match st1 y pc ls st μ with
    | none => none
    | some (.inl (pc', ls', st', μ')) => run n d y pc' ls' st' μ'
    | some (.inr (.inr v)) => some (v, μ)
    | some (.inr (.inl (z, as, rest))) => match d with
      | 0 => none
      | d' + 1 => match run n d' z 0 (ent z as) [] μ with
        | none => none
        | some (v, μ') => run n (d' + 1) y (pc + 3) ls (v.toList ++ rest) μ'
def R (d y pc : Nat) (ls : PL) (st : List Value) (μ : PM) (Q : Option Value → PM → Prop) : Prop := ∃ n v μ', run n d y pc ls st μ = some (v, μ') ∧ Q v μ'
