/-! THE PURE MACHINE: a world is a list of cells, an address its place in the list; a method's run as a least fixed point. -/
abbrev zL : Type := List (Option Value)
abbrev zW : Type := List va_E
abbrev zS : Type := Nat × zL × List Value × zW × Nat × Nat
abbrev zE : Type := Nat × Instr × Nat × Nat × Nat
/-- name, bytes, locals, what it returns, its class's number, its rows -/
abbrev zM : Type := MethodName × ByteArray × Nat × Option FieldType × Nat × List zE
abbrev zQ : Type := Option Value → zW → Prop
abbrev zX : Type := Option (Nat × (Nat → Int32))
abbrev zCT : Type := Nat → List Value → zW → Nat → Nat → zQ → Prop
def zcls : List vw_C := [(RX0, TX0, 7), (RX1, TX1, 7), (RX2, TX2, 10), (RX4, TX4, 4), (RX5, TX5, 15), (RX6, TX6, 3), (RX7, TX7, 8), (RX8, TX8, 8), (RX9, TX9, 5), (RX10, TX10, 4), (RX11, TX11, 8), (RX12, TX12, 52)]
def ztyf : Nat → Nat → FieldType := fun i => match i with
  | 0 => tyX0
  | 1 => tyX1
  | 2 => tyX2
  | 3 => tyX4
  | 4 => tyX5
  | 5 => tyX6
  | 6 => tyX7
  | 7 => tyX8
  | 8 => tyX9
  | 9 => tyX10
  | 10 => tyX11
  | _ => tyX12
def zix {α : Type} : List α → Nat → Option α
  | [], _ => none
  | x :: _, 0 => some x
  | _ :: t, n + 1 => zix t n
theorem zix_eq {α : Type} : ∀ (l : List α) (i : Nat), zix l i = l[i]?
  | [], _ => rfl
  | _ :: _, 0 => rfl
  | _ :: t, n + 1 => by rw [List.getElem?_cons_succ]; exact zix_eq t n
def zst {α : Type} : List α → Nat → α → List α
  | [], _, _ => []
  | _ :: t, 0, v => v :: t
  | x :: t, n + 1, v => x :: zst t n v
theorem zst_eq {α : Type} : ∀ (l : List α) (i : Nat) (v : α), zst l i v = l.set i v
  | [], _, _ => rfl
  | _ :: _, 0, _ => rfl
  | x :: t, n + 1, v => by rw [List.set_cons_succ]; exact congrArg (x :: ·) (zst_eq t n v)
def zcn (i : Nat) : String := match zix zcls i with
  | some q => q.1
  | none => ""
def zcN (i : Nat) : Nat := match zix zcls i with
  | some q => q.2.2
  | none => 0
def zcf (i k : Nat) : String × String × String × Bool := match zix zcls i with
  | some q => q.2.1 k
  | none => ("", "", "", false)
/-- the arrays' kinds -/
def zats : List FieldType := [.byte, .int, .boolean, .object "ReadAloud$Book", .object "ReadAloud$Year", .object "ReadAloud$Sight", .object "ReadAloud$Told", .object "ReadAloud$Readings", .object "ReadAloud$Walk"]
/-- the class of an array's elements -/
def zec : Nat → Nat := fun i => match i with
  | 3 => 0
  | 4 => 9
  | 5 => 5
  | 6 => 7
  | 7 => 3
  | 8 => 8
  | _ => 99
/-- the String constants: lengths and bytes -/
def zslens : List Nat := [5, 4, 6, 4, 4, 4, 3, 6, 4, 4, 4, 4, 7, 4, 3]
def zsbyts : List (List Int32) := [[115, 104, 105, 102, 116], [100, 114, 111, 112], [100, 111, 117, 98, 108, 101], [115, 119, 97, 112], [116, 117, 114, 110], [116, 101, 120, 116], [107, 105, 110], [114, 101, 97, 100, 101, 114], [115, 101, 101, 110], [114, 101, 97, 100], [99, 111, 112, 121], [115, 101, 97, 108], [114, 101, 115, 116, 111, 114, 101], [104, 117, 115, 104], [100, 97, 121]]
def zdv : FieldType → Value := defaultValue
def zdl : Nat → Nat → (Nat → FieldType) → List Value
  | 0, _, _ => []
  | n + 1, i, f => zdv (f i) :: zdl n (i + 1) f
def zdf (ci : Nat) : List Value := zdl (zcN ci) 0 (ztyf ci)
def zda (ti n : Nat) : vp_A := match Nat.ble ti 2 with
  | true => (n, .inl (fun _ => 0))
  | false => (n, .inr (.inr (.inr (.inr (fun _ => none)))))
def zfit (ty : FieldType) (v : Value) : Bool := match ty with
  | .int => match v with
    | .int _ => true
    | _ => false
  | .long => match v with
    | .long _ => true
    | _ => false
  | .object _ => match v with
    | .ref _ => true
    | .null => true
    | _ => false
  | .array _ => match v with
    | .ref _ => true
    | .null => true
    | _ => false
  | _ => false
def zat : List zE → Nat → Option (Instr × Nat × Nat × Nat)
  | [], _ => none
  | e :: t, pc => match Nat.beq e.1 pc with
    | true => some e.2
    | false => zat t pc
def zget : zL → Nat → Option Value
  | [], _ => none
  | x :: _, 0 => x
  | _ :: t, n + 1 => zget t n
def zput : zL → Nat → Option Value → zL
  | [], _, _ => []
  | _ :: t, 0, v => v :: t
  | x :: t, n + 1, v => x :: zput t n v
def zc2 (v : Option Value) : Bool := match v with
  | some (.long _) => true
  | some (.double _) => true
  | _ => false
def zfree (L : zL) (i : Nat) : Bool := match i with
  | 0 => true
  | j + 1 => match zc2 (zget L j) with
    | true => false
    | false => true
def zrm (S : List Value) : Bool := Nat.ble (S.map fun v => v.category).sum 8
def zbr (c : Jvm.ClassFile.Cond) (x y : Int32) (A B : Prop) : Prop := match c with
  | .eq => (x = y → A) ∧ (¬ x = y → B)
  | .ne => (¬ x = y → A) ∧ (x = y → B)
  | .lt => (x < y → A) ∧ (¬ x < y → B)
  | .ge => (y ≤ x → A) ∧ (¬ y ≤ x → B)
  | .gt => (y < x → A) ∧ (¬ y < x → B)
  | .le => (x ≤ y → A) ∧ (¬ x ≤ y → B)
def zbr0 (c : Jvm.ClassFile.Cond) (x : Int32) (A B : Prop) : Prop := match c with
  | .eq => (x = 0 → A) ∧ (¬ x = 0 → B)
  | .ne => (¬ x = 0 → A) ∧ (x = 0 → B)
  | .lt => (x < 0 → A) ∧ (¬ x < 0 → B)
  | .ge => (0 ≤ x → A) ∧ (¬ 0 ≤ x → B)
  | .gt => (0 < x → A) ∧ (¬ 0 < x → B)
  | .le => (x ≤ 0 → A) ∧ (¬ x ≤ 0 → B)
def z1i (S : List Value) (f : Int32 → List Value → Prop) : Prop := match S with
  | .int x :: t => f x t
  | _ => False
def z2i (S : List Value) (f : Int32 → Int32 → List Value → Prop) : Prop := match S with
  | .int y :: .int x :: t => f x y t
  | _ => False
def z1l (S : List Value) (f : Int64 → List Value → Prop) : Prop := match S with
  | .long x :: t => f x t
  | _ => False
def z2l (S : List Value) (f : Int64 → Int64 → List Value → Prop) : Prop := match S with
  | .long y :: .long x :: t => f x y t
  | _ => False
def z1r (S : List Value) (f : Nat → List Value → Prop) : Prop := match S with
  | .ref q :: t => f q t
  | _ => False
/-- a reference to the world, or to what lies outside -/
def zgf (S : List Value) (f g : Nat → List Value → Prop) : Prop := match S with
  | .ref q :: t => f q t
  | .retAddr j :: t => g j t
  | _ => False
/-- of three methods (Book's, Year's, Sight's) that of the object's class -/
def zvt (w : zW) (q a : Nat) (f : Nat → Nat → Prop) : Prop := match zix w q with
  | some (.inr (ci, _)) => match ci with
    | 0 => f 0 (a % 1000)
    | 9 => f 9 (a / 1000 % 1000)
    | 5 => f 5 (a / 1000000)
    | _ => False
  | _ => False
def zstr (j : Nat) : Bool := Nat.ble 1 j && Nat.ble j 15
def zsby (j : Nat) : Bool := Nat.ble 101 j && Nat.ble j 115
def z1v (S : List Value) (f : Value → List Value → Prop) : Prop := match S with
  | v :: t => f v t
  | _ => False
/-- a value above a reference -/
def zvr (S : List Value) (f : Value → Nat → List Value → Prop) : Prop := match S with
  | v :: .ref q :: t => f v q t
  | _ => False
/-- an index above an array -/
def zia (S : List Value) (f g : Int32 → Nat → List Value → Prop) : Prop := match S with
  | .int i :: .ref q :: t => f i q t
  | .int i :: .retAddr j :: t => g i j t
  | _ => False
/-- a value above an index above an array -/
def zvia (S : List Value) (f : Value → Int32 → Nat → List Value → Prop) : Prop := match S with
  | v :: .int i :: .ref q :: t => f v i q t
  | _ => False
/-- a condition that is reckoned -/
def zif (b : Bool) (A : Prop) : Prop := match b with
  | true => A
  | false => False
def zli (L : zL) (j : Nat) (f : Int32 → Prop) : Prop := match zget L j with
  | some (.int x) => f x
  | _ => False
def zll (L : zL) (j : Nat) (f : Int64 → Prop) : Prop := match zget L j with
  | some (.long x) => f x
  | _ => False
def zla (L : zL) (j : Nat) (f : Value → Prop) : Prop := match zget L j with
  | some (.ref q) => f (.ref q)
  | some .null => f .null
  | some (.retAddr q) => f (.retAddr q)
  | _ => False
/-- an object of a class -/
def zob (w : zW) (q ci : Nat) (f : List Value → Prop) : Prop := match zix w q with
  | some (.inr (c, fs)) => zif (Nat.beq c ci) (f fs)
  | _ => False
def zai (w : zW) (q : Nat) (f : Nat → Nat → (Nat → Int32) → Prop) : Prop := match zix w q with
  | some (.inl (ti, len, .inl g)) => f ti len g
  | _ => False
def zaq (w : zW) (q : Nat) (f : Nat → Nat → (Nat → Option Nat) → Prop) : Prop := match zix w q with
  | some (.inl (ti, len, .inr (.inr (.inr (.inr g))))) => f ti len g
  | _ => False
def zin1 (S : List Value) (f : Value → Prop) : Prop := match S with
  | [v] => f v
  | _ => False
def zret (r : Option FieldType) (v : Value) : Prop := match v with
  | .int x => match r with
    | some .int => True
    | some .boolean => x = 0 ∨ x = 1
    | some .byte => narrow .byte (.int x) = .int x
    | some .char => narrow .char (.int x) = .int x
    | _ => False
  | .long _ => match r with
    | some .long => True
    | _ => False
  | .ref _ => match r with
    | some (.object _) => True
    | _ => False
  | .null => match r with
    | some (.object _) => True
    | _ => False
  | _ => False
/-- an int above a long -/
def zil (S : List Value) (f : Int64 → Int32 → List Value → Prop) : Prop := match S with
  | .int y :: .long x :: t => f x y t
  | _ => False
def zro (v : Value) : Option (Option Nat) := match v with
  | .ref q => some (some q)
  | .null => some none
  | _ => none
/-- two references, or null -/
def z2r (S : List Value) (f : Option Nat → Option Nat → List Value → Prop) : Prop := match S with
  | y :: x :: t => match zro x with
    | some rx => match zro y with
      | some ry => f rx ry t
      | none => False
    | none => False
  | _ => False
def zbra (c : Jvm.ClassFile.ACond) (x y : Option Nat) (A B : Prop) : Prop := match c with
  | .eq => (x = y → A) ∧ (¬ x = y → B)
  | .ne => (¬ x = y → A) ∧ (x = y → B)
/-- what a store of a reference takes -/
def zasv (S : List Value) (f : Value → List Value → Prop) : Prop := match S with
  | .ref q :: t => f (.ref q) t
  | .null :: t => f .null t
  | _ => False
def zvr2 (S : List Value) (f : Value → Value → List Value → Prop) : Prop := match S with
  | v :: u :: t => f v u t
  | _ => False
/-- a reference, or null -/
def zrn (S : List Value) (f g : List Value → Prop) : Prop := match S with
  | .ref _ :: t => f t
  | .null :: t => g t
  | _ => False
def zrn2 (v : Value) (f : Nat → Prop) (g : Prop) : Prop := match v with
  | .ref q => f q
  | .null => g
  | _ => False
def zfld (fs : List Value) (b : Nat) (f : Value → Prop) : Prop := match zix fs b with
  | some v => f v
  | none => False
def zext (E : zX) (f : Nat → (Nat → Int32) → Prop) : Prop := match E with
  | some q => f q.1 q.2
  | none => False
def zor (b : Bool) (A B : Prop) : Prop := match b with
  | true => A
  | false => B
def zlen1 (S : List Value) (f g : Nat → List Value → Prop) : Prop := match S with
  | .retAddr j :: t => f j t
  | .ref q :: t => g q t
  | _ => False
def zcpy (S : List Value) (f : Nat → Int32 → Nat → Int32 → Int32 → List Value → Prop) : Prop := match S with
  | .int m :: .int dp :: .ref q1 :: .int sp :: .ref q0 :: t => f q0 sp q1 dp m t
  | _ => False
def zaty (i : Nat) : FieldType := match i with
  | 0 => .byte
  | _ => .int
def znil (S : List Value) (A : Prop) : Prop := match S with
  | [] => A
  | _ => False
def zmc (tab : List zM) (a : Nat) : Nat := match zix tab a with
  | some M => M.2.2.2.2.1
  | none => 99
/-- a method uses just its room, the law at most its room -/
def zfin (E : zX) (k n mc ms : Nat) : Prop := match E with
  | none => k = mc ∧ n ≤ ms
  | some _ => k ≤ mc ∧ n ≤ ms
/-- the call: at most so many new cells and slots, the operands below it, then on -/
def zcall (C : zCT) (a : Nat) (As : List Value) (S : List Value) (w : zW) (k n mc ms np : Nat) (L : zL) (K : zS → Prop) : Prop :=
  ∃ mc' ms' : Nat, (k + mc' ≤ mc ∧ n + ms' ≤ ms) ∧ C a As w mc' ms' (fun r w' => K (np, L, r.toList ++ S, w', k + mc', n + ms'))
def zins (C : zCT) (d : Nat) (M : zM) (E : zX) (tab : List zM) (mc ms : Nat) (Q : zQ) (pc : Nat) (L : zL) (S : List Value) (w : zW) (k n : Nat) (i : Instr) (np a b : Nat) (K : zS → Prop) : Prop := match i with
  | .iconst v => K (np, L, .int (Int32.ofInt v) :: S, w, k, n)
  | .bipush v => K (np, L, .int (Int8.ofInt v).toInt32 :: S, w, k, n)
  | .sipush v => K (np, L, .int (Int16.ofInt v).toInt32 :: S, w, k, n)
  | .ldc _ => zor (Nat.beq b 1) (K (np, L, .retAddr (a + 1) :: S, w, k, n)) (K (np, L, .int (Int32.ofNat a) :: S, w, k, n))
  | .ldc2_w _ => K (np, L, .long (Int64.ofNat a) :: S, w, k, n)
  | .lconst v => K (np, L, .long (Int64.ofNat v.val) :: S, w, k, n)
  | .aconst_null => K (np, L, .null :: S, w, k, n)
  | .iload_n j => zli L j.val fun x => K (np, L, .int x :: S, w, k, n)
  | .iload j => zli L j fun x => K (np, L, .int x :: S, w, k, n)
  | .lload_n j => zll L j.val fun x => K (np, L, .long x :: S, w, k, n)
  | .lload j => zll L j fun x => K (np, L, .long x :: S, w, k, n)
  | .aload_n j => zla L j.val fun v => K (np, L, v :: S, w, k, n)
  | .aload j => zla L j fun v => K (np, L, v :: S, w, k, n)
  | .istore_n j => z1i S fun x t => zif (zfree L j.val) (K (np, zput L j.val (some (.int x)), t, w, k, n))
  | .istore j => z1i S fun x t => zif (zfree L j) (K (np, zput L j (some (.int x)), t, w, k, n))
  | .lstore_n j => z1l S fun x t => zif (zfree L j.val) (K (np, zput (zput L (j.val + 1) none) j.val (some (.long x)), t, w, k, n))
  | .lstore j => z1l S fun x t => zif (zfree L j) (K (np, zput (zput L (j + 1) none) j (some (.long x)), t, w, k, n))
  | .astore_n j => zasv S fun v t => zif (zfree L j.val) (K (np, zput L j.val (some v), t, w, k, n))
  | .astore j => zasv S fun v t => zif (zfree L j) (K (np, zput L j (some v), t, w, k, n))
  | .iinc j v => zli L j fun x => zif (zfree L j) (K (np, zput L j (some (.int (x + Int32.ofInt v))), S, w, k, n))
  | .iadd => z2i S fun x y t => K (np, L, .int (x + y) :: t, w, k, n)
  | .isub => z2i S fun x y t => K (np, L, .int (x - y) :: t, w, k, n)
  | .imul => z2i S fun x y t => K (np, L, .int (x * y) :: t, w, k, n)
  | .iand => z2i S fun x y t => K (np, L, .int (x &&& y) :: t, w, k, n)
  | .ior => z2i S fun x y t => K (np, L, .int (x ||| y) :: t, w, k, n)
  | .ixor => z2i S fun x y t => K (np, L, .int (x ^^^ y) :: t, w, k, n)
  | .idiv => z2i S fun x y t => ¬ y = 0 ∧ K (np, L, .int (x / y) :: t, w, k, n)
  | .irem => z2i S fun x y t => ¬ y = 0 ∧ K (np, L, .int (x - x / y * y) :: t, w, k, n)
  | .ishl => z2i S fun x y t => K (np, L, .int (x <<< (y &&& 31)) :: t, w, k, n)
  | .ishr => z2i S fun x y t => K (np, L, .int (x >>> (y &&& 31)) :: t, w, k, n)
  | .iushr => z2i S fun x y t => K (np, L, .int (x.toUInt32 >>> (y.toUInt32 &&& Int32.toUInt32 31)).toInt32 :: t, w, k, n)
  | .i2b => z1i S fun x t => K (np, L, .int x.toInt8.toInt32 :: t, w, k, n)
  | .i2c => z1i S fun x t => K (np, L, .int (x.toUInt32 % 65536).toInt32 :: t, w, k, n)
  | .i2l => z1i S fun x t => K (np, L, .long x.toInt64 :: t, w, k, n)
  | .ladd => z2l S fun x y t => K (np, L, .long (x + y) :: t, w, k, n)
  | .lsub => z2l S fun x y t => K (np, L, .long (x - y) :: t, w, k, n)
  | .lmul => z2l S fun x y t => K (np, L, .long (x * y) :: t, w, k, n)
  | .lor => z2l S fun x y t => K (np, L, .long (x ||| y) :: t, w, k, n)
  | .ldiv => z2l S fun x y t => ¬ y = 0 ∧ K (np, L, .long (x / y) :: t, w, k, n)
  | .lrem => z2l S fun x y t => ¬ y = 0 ∧ K (np, L, .long (x - x / y * y) :: t, w, k, n)
  | .lshl => zil S fun x y t => K (np, L, .long (x <<< (y.toInt64 &&& 63)) :: t, w, k, n)
  | .ldc_w _ => K (np, L, .int (Int32.ofNat a) :: S, w, k, n)
  | .if_acmp c _ => z2r S fun x y t => zbra c x y (K (a, L, t, w, k, n)) (K (np, L, t, w, k, n))
  | .lcmp => z2l S fun x y t => K (np, L, .int (lg_cmp x y) :: t, w, k, n)
  | .dup => z1v S fun v t => zif (Nat.beq v.category 1) (K (np, L, v :: v :: t, w, k, n))
  | .pop => z1v S fun v t => zif (Nat.beq v.category 1) (K (np, L, t, w, k, n))
  | .pop2 => z1v S fun v t => zif (Nat.beq v.category 2) (K (np, L, t, w, k, n))
  | .dup2 => zvr2 S fun v u t => zif (Nat.beq v.category 1) (zif (Nat.beq u.category 1) (K (np, L, v :: u :: v :: u :: t, w, k, n)))
  | .if_icmp c _ => z2i S fun x y t => zbr c x y (K (a, L, t, w, k, n)) (K (np, L, t, w, k, n))
  | .ifCond c _ => z1i S fun x t => zbr0 c x (K (a, L, t, w, k, n)) (K (np, L, t, w, k, n))
  | .goto _ => K (a, L, S, w, k, n)
  | .ifnull _ => zrn S (fun t => K (np, L, t, w, k, n)) (fun t => K (a, L, t, w, k, n))
  | .ifnonnull _ => zrn S (fun t => K (a, L, t, w, k, n)) (fun t => K (np, L, t, w, k, n))
  | .tableswitch df lo hi offs => z1i S fun x t => (x.toInt < lo ∨ hi < x.toInt → K (((pc : Int) + df).toNat, L, t, w, k, n)) ∧ (¬ (x.toInt < lo ∨ hi < x.toInt) → ∃ off, offs[(x.toInt - lo).toNat]? = some off ∧ K (((pc : Int) + off).toNat, L, t, w, k, n))
  | .lookupswitch df ps => z1i S fun x t => K (((pc : Int) + Op.lookupswitch.offset ps.toList df x.toInt).toNat, L, t, w, k, n)
  | .getstatic _ => zor (Nat.beq a 0) (K (np, L, .int 1 :: S, w, k, n)) (K (np, L, .retAddr 99 :: S, w, k, n))
  | .getfield _ => zgf S (fun q t => zob w q a fun fs => zfld fs b fun v => K (np, L, v :: t, w, k, n)) (fun j t => zif (zstr j && Nat.beq a 50) (zor (Nat.beq b 0) (K (np, L, .retAddr (j + 100) :: t, w, k, n)) (K (np, L, .int 0 :: t, w, k, n))))
  | .putfield _ => zvr S fun v q t => zob w q a fun fs => zif (zfit (ztyf a b) v) (zif (Nat.blt b fs.length) (K (np, L, t, zst w q (.inr (a, zst fs b v)), k, n)))
  | .new _ => zif (Nat.ble (k + 1) mc) (zif (Nat.ble (n + zcN a) ms) (K (np, L, .ref w.length :: S, w ++ [.inr (a, zdf a)], k + 1, n + zcN a)))
  | .newarray _ => z1i S fun x t => zif (decide (x = Int32.ofNat b)) (zif (Nat.ble (k + 1) mc) (zif (Nat.ble (n + b) ms) (K (np, L, .ref w.length :: t, w ++ [.inl (a, zda a b)], k + 1, n + b))))
  | .anewarray _ => z1i S fun x t => zif (decide (x = Int32.ofNat b)) (zif (Nat.ble (k + 1) mc) (zif (Nat.ble (n + b) ms) (K (np, L, .ref w.length :: t, w ++ [.inl (a, zda a b)], k + 1, n + b))))
  | .iaload => zia S (fun i q t => zai w q fun ti len g => zif (Nat.beq ti 1) (vp_in i len ∧ K (np, L, .int (g i.toNatClampNeg) :: t, w, k, n))) (fun i j t => zif (Nat.beq j 0) (zext E fun len g => vp_in i len ∧ K (np, L, .int (g i.toNatClampNeg) :: t, w, k, n)))
  | .baload => zia S (fun i q t => zai w q fun ti len g => zif (Nat.beq ti 0 || Nat.beq ti 2) (vp_in i len ∧ K (np, L, .int (g i.toNatClampNeg) :: t, w, k, n))) (fun i j t => zif (zsby j) (vp_in i (zslens.getD (j - 101) 0) ∧ K (np, L, .int ((zsbyts.getD (j - 101) []).getD i.toNatClampNeg 0) :: t, w, k, n)))
  | .aaload => zia S (fun i q t => zaq w q fun ti len g => zif (Nat.ble 3 ti && Nat.ble ti 8) (vp_in i len ∧ K (np, L, va_rf (g i.toNatClampNeg) :: t, w, k, n))) (fun _ _ _ => False)
  | .iastore => zvia S fun v i q t => z1i [v] fun x _ => zai w q fun ti len g => zif (Nat.beq ti 1) (vp_in i len ∧ K (np, L, t, zst w q (.inl (ti, len, .inl (upd g i.toNatClampNeg x))), k, n))
  | .bastore => zvia S fun v i q t => z1i [v] fun x _ => zai w q fun ti len g => zor (Nat.beq ti 0) (vp_in i len ∧ K (np, L, t, zst w q (.inl (ti, len, .inl (upd g i.toNatClampNeg (vp_nar .byte x)))), k, n)) (zif (Nat.beq ti 2) (vp_in i len ∧ K (np, L, t, zst w q (.inl (ti, len, .inl (upd g i.toNatClampNeg (vp_nar .boolean x)))), k, n)))
  | .aastore => zvia S fun v i q t => zaq w q fun ti len g => zif (Nat.ble 3 ti && Nat.ble ti 8) (zrn2 v (fun q2 => zob w q2 (zec ti) fun _ => vp_in i len ∧ K (np, L, t, zst w q (.inl (ti, len, .inr (.inr (.inr (.inr (va_up g i.toNatClampNeg (some q2))))))), k, n)) (vp_in i len ∧ K (np, L, t, zst w q (.inl (ti, len, .inr (.inr (.inr (.inr (va_up g i.toNatClampNeg none)))))), k, n)))
  | .arraylength => zlen1 S (fun j t => zor (Nat.beq j 0) (zext E fun len _ => K (np, L, .int (Int32.ofNat len) :: t, w, k, n)) (zif (zsby j) (K (np, L, .int (Int32.ofNat (zslens.getD (j - 101) 0)) :: t, w, k, n)))) (fun q t => zai w q fun ti len _ => zif (Nat.ble ti 2) (K (np, L, .int (Int32.ofNat len) :: t, w, k, n)))
  | .invokestatic _ => zor (Nat.beq b 100) (z2i S fun x y t => zif (Nat.ble 1 d && zrm t && (Nat.ble k mc && Nat.ble n ms)) (K (np, L, .int (if x < y then y else x) :: t, w, k, n)))
      (zor (Nat.beq b 101) (z2i S fun x y t => zif (Nat.ble 1 d && zrm t && (Nat.ble k mc && Nat.ble n ms)) (K (np, L, .int (if y < x then y else x) :: t, w, k, n)))
      (zor (Nat.beq b 102) (zcpy S fun q0 sp q1 dp m t => zif (Nat.ble 1 d && zrm t) (zai w q0 fun t0 n0 f => zai w q1 fun t1 n1 g => zif (Nat.beq t0 t1 && Nat.ble t0 1) (((¬ sp < 0 ∧ ¬ dp < 0 ∧ ¬ m < 0) ∧ (sp.toNatClampNeg + m.toNatClampNeg ≤ n0 ∧ dp.toNatClampNeg + m.toNatClampNeg ≤ n1) ∧ ∀ j, j < m.toNatClampNeg → fits (zaty t0) (.int (f (sp.toNatClampNeg + j))) = true) ∧ K (np, L, t, zst w q1 (.inl (t1, n1, .inl (va_cpy f g sp.toNatClampNeg dp.toNatClampNeg m.toNatClampNeg))), k, n))))
      (zif (Nat.ble b S.length && zrm (S.drop b)) (zcall C a (S.take b).reverse (S.drop b) w k n mc ms np L K))))
  | .invokevirtual _ => zor (Nat.ble 10 b)
      (zif (Nat.ble (b - 10) S.length) (z1r (S.drop (b - 10)) fun q t => zvt w q a fun _ a' => zif (zrm t) (zcall C a' (.ref q :: (S.take (b - 10)).reverse) t w k n mc ms np L K)))
      (zif (Nat.ble b S.length) (zgf (S.drop b) (fun q t => zob w q (zmc tab a) fun _ => zif (zrm t) (zcall C a (.ref q :: (S.take b).reverse) t w k n mc ms np L K)) (fun j t => zif (zstr j && Nat.beq (zmc tab a) 50) (zif (zrm t) (zcall C a (.retAddr j :: (S.take b).reverse) t w k n mc ms np L K)))))
  | .invokespecial _ => zor (Nat.beq b 99) (z1r S fun _ t => zif (Nat.ble 1 d && zrm t) (K (np, L, t, w, k, n)))
      (zif (Nat.ble b S.length) (z1r (S.drop b) fun q t => zif (zrm t) (zcall C a (.ref q :: (S.take b).reverse) t w k n mc ms np L K)))
  | .ireturn => zin1 S fun v => z1i [v] fun _ _ => zfin E k n mc ms ∧ zret M.2.2.2.1 v ∧ Q (some v) w
  | .lreturn => zin1 S fun v => z1l [v] fun _ _ => zfin E k n mc ms ∧ zret M.2.2.2.1 v ∧ Q (some v) w
  | .areturn => zin1 S fun v => zrn2 v (fun _ => zfin E k n mc ms ∧ zret M.2.2.2.1 v ∧ Q (some v) w) (zfin E k n mc ms ∧ zret M.2.2.2.1 v ∧ Q (some v) w)
  | .return_ => znil S (zfin E k n mc ms ∧ M.2.2.2.1 = none ∧ Q none w)
  | _ => False
/-- one step, its state by its parts -/
def zsc (C : zCT) (d : Nat) (M : zM) (E : zX) (tab : List zM) (mc ms : Nat) (Q : zQ) (pc : Nat) (L : zL) (S : List Value) (w : zW) (k n : Nat) (K : zS → Prop) : Prop :=
  match zat M.2.2.2.2.2 pc with
  | none => False
  | some e => zins C d M E tab mc ms Q pc L S w k n e.1 e.2.1 e.2.2.1 e.2.2.2 K
def zstep (C : zCT) (d : Nat) (M : zM) (E : zX) (tab : List zM) (mc ms : Nat) (Q : zQ) (x : zS) (K : zS → Prop) : Prop :=
  zsc C d M E tab mc ms Q x.1 x.2.1 x.2.2.1 x.2.2.2.1 x.2.2.2.2.1 x.2.2.2.2.2 K
def zwp (C : zCT) (d : Nat) (M : zM) (E : zX) (tab : List zM) (mc ms : Nat) (Q : zQ) (x : zS) : Prop :=
  ∀ R : zS → Prop, (∀ y, (∃ P : zS → Prop, (∀ u, P u → R u) ∧ zstep C d M E tab mc ms Q y P) → R y) → R x
/-- the locals at the entry -/
def zent : Nat → List Value → zL
  | 0, _ => []
  | n + 1, [] => none :: zent n []
  | n + 1, v :: t => match zc2 (some v) with
    | false => some v :: zent n t
    | true => match n with
      | 0 => [some v]
      | j + 1 => some v :: none :: zent j t
def zCl (tab : List zM) : Nat → zCT
  | 0 => fun _ _ _ _ _ _ => False
  | d + 1 => fun a As w mc ms Q => match zix tab a with
    | none => False
    | some M => (lg_sl As).length ≤ M.2.2.1 ∧ zwp (zCl tab d) d M none tab mc ms Q (0, zent M.2.2.1 As, [], w, 0, 0)
theorem zR {C : zCT} {d : Nat} {M : zM} {E : zX} {tab : List zM} {mc ms : Nat} {Q : zQ} {R : zS → Prop} (h : ∀ y, (∃ P : zS → Prop, (∀ u, P u → R u) ∧ zstep C d M E tab mc ms Q y P) → R y) : ∀ y, zstep C d M E tab mc ms Q y R → R y :=
  fun y hy => h y ⟨R, fun _ q => q, hy⟩
