/-! WHAT THE PURE MACHINE'S ROWS ASK OF THE TABLES, and how its worlds stand in a heap. -/
def zNF : List (String × Nat × String × String × String) := [("ReadAloud", 326, "ReadAloud$Told", "tape", "[B"), ("ReadAloud", 54, "ReadAloud$Told", "length", "I"), ("ReadAloud", 62, "ReadAloud$Told", "fault", "I"), ("ReadAloud", 65, "ReadAloud$Told", "place", "I"), ("ReadAloud", 68, "ReadAloud$Told", "counts", "[I"), ("ReadAloud", 334, "ReadAloud$Told", "books", "[LReadAloud$Book;"), ("ReadAloud", 339, "ReadAloud$Told", "years", "[LReadAloud$Year;"), ("ReadAloud", 344, "ReadAloud$Told", "sights", "[LReadAloud$Sight;"), ("ReadAloud$Year", 55, "ReadAloud$Teller", "value", "I"), ("ReadAloud$Sight", 38, "ReadAloud$Teller", "value", "I"), ("ReadAloud$Book", 71, "ReadAloud$Teller", "value", "I"), ("ReadAloud", 76, "ReadAloud$Teller", "fault", "I"), ("ReadAloud", 77, "ReadAloud$Teller", "place", "I"), ("ReadAloud$Course", 35, "ReadAloud$Book", "number", "I"), ("ReadAloud$Levels", 70, "ReadAloud$Book", "number", "I"), ("ReadAloud$Walk", 44, "ReadAloud$Book", "readers", "I"), ("ReadAloud$Readings", 32, "ReadAloud$Book", "readers", "I"), ("ReadAloud$Levels", 87, "ReadAloud$Book", "readers", "I"), ("ReadAloud$Course", 86, "ReadAloud$Book", "readers", "I"), ("ReadAloud$Rings", 99, "ReadAloud$Book", "readers", "I"), ("ReadAloud", 300, "ReadAloud$Book", "readers", "I"), ("ReadAloud$Course", 46, "ReadAloud$Year", "deeds", "I"), ("ReadAloud", 125, "ReadAloud$Year", "deeds", "I"), ("ReadAloud$Course", 51, "ReadAloud$Year", "kinds", "[I"), ("ReadAloud$Course", 54, "ReadAloud$Year", "ones", "[I"), ("ReadAloud$Course", 57, "ReadAloud$Year", "others", "[I"), ("ReadAloud$Levels", 53, "ReadAloud$Sight", "facts", "I"), ("ReadAloud$Levels", 58, "ReadAloud$Sight", "behind", "[I"), ("ReadAloud$Levels", 61, "ReadAloud$Sight", "numbers", "[I"), ("ReadAloud$Walk", 38, "ReadAloud$Readings", "book", "LReadAloud$Book;"), ("ReadAloud$Levels", 64, "ReadAloud$Readings", "book", "LReadAloud$Book;"), ("ReadAloud$Rings", 95, "ReadAloud$Readings", "book", "LReadAloud$Book;"), ("ReadAloud", 165, "ReadAloud$Readings", "book", "LReadAloud$Book;"), ("ReadAloud", 162, "ReadAloud$Walk", "size", "I"), ("ReadAloud", 149, "ReadAloud$Walk", "needed", "[I"), ("ReadAloud", 188, "ReadAloud$Rings", "answers", "[I"), ("ReadAloud", 312, "ReadAloud$Rings", "circles", "I"), ("ReadAloud", 315, "ReadAloud$Rings", "largest", "I"), ("ReadAloud", 318, "ReadAloud$Rings", "sizeOf", "[I")]
def zNM : List (String × Nat × MethodName) := [("ReadAloud", 9, ⟨"ReadAloud$Told", "<init>", "()V"⟩), ("ReadAloud", 22, ⟨"ReadAloud$Teller", "<init>", "()V"⟩), ("ReadAloud", 29, ⟨"ReadAloud$Course", "<init>", "()V"⟩), ("ReadAloud", 58, ⟨"ReadAloud$Told", "putBytes", "(I)V"⟩), ("ReadAloud", 325, ⟨"ReadAloud$Book", "<init>", "()V"⟩), ("ReadAloud$Book", 3, ⟨"ReadAloud$Lines", "<init>", "()V"⟩), ("ReadAloud", 330, ⟨"ReadAloud$Teller", "tell", "([BILReadAloud$Lines;)Z"⟩), ("ReadAloud$Book", 36, ⟨"ReadAloud$Teller", "isAtHand", "(Ljava/lang/String;)Z"⟩), ("ReadAloud$Sight", 24, ⟨"ReadAloud$Teller", "isAtHand", "(Ljava/lang/String;)Z"⟩), ("ReadAloud$Year", 27, ⟨"ReadAloud$Teller", "isAtHand", "(Ljava/lang/String;)Z"⟩), ("ReadAloud$Book", 59, ⟨"ReadAloud$Teller", "faultHere", "(I)V"⟩), ("ReadAloud$Sight", 30, ⟨"ReadAloud$Teller", "faultHere", "(I)V"⟩), ("ReadAloud$Year", 47, ⟨"ReadAloud$Teller", "faultHere", "(I)V"⟩), ("ReadAloud$Book", 67, ⟨"ReadAloud$Teller", "isWithin", "(II)Z"⟩), ("ReadAloud$Book", 78, ⟨"ReadAloud", "longer", "(II)I"⟩), ("ReadAloud$Book", 82, ⟨"ReadAloud", "isWord", "(I)Z"⟩), ("ReadAloud$Sight", 34, ⟨"ReadAloud$Teller", "isWithin", "(II)Z"⟩), ("ReadAloud$Sight", 41, ⟨"ReadAloud", "longer", "(II)I"⟩), ("ReadAloud$Year", 51, ⟨"ReadAloud$Teller", "isWithin", "(II)Z"⟩), ("ReadAloud", 338, ⟨"ReadAloud$Year", "<init>", "()V"⟩), ("ReadAloud$Year", 3, ⟨"ReadAloud$Lines", "<init>", "()V"⟩), ("ReadAloud", 343, ⟨"ReadAloud$Sight", "<init>", "()V"⟩), ("ReadAloud$Sight", 3, ⟨"ReadAloud$Lines", "<init>", "()V"⟩), ("ReadAloud", 88, ⟨"ReadAloud$Book", "tells", "(I)I"⟩), ("ReadAloud", 107, ⟨"ReadAloud$Book", "hasReader", "(I)Z"⟩), ("ReadAloud", 110, ⟨"ReadAloud$Book", "readBy", "(II)I"⟩), ("ReadAloud$Book", 92, ⟨"ReadAloud", "bitsOf", "(I)I"⟩), ("ReadAloud$Book", 102, ⟨"ReadAloud", "lengthOfBits", "(I)I"⟩), ("ReadAloud$Book", 99, ⟨"ReadAloud", "numberOfBits", "(I)I"⟩), ("ReadAloud", 117, ⟨"ReadAloud$Year", "tells", "(II)I"⟩), ("ReadAloud", 121, ⟨"ReadAloud$Course", "begin", "(LReadAloud$Book;)V"⟩), ("ReadAloud", 128, ⟨"ReadAloud$Course", "doFirst", "(LReadAloud$Year;I)I"⟩), ("ReadAloud$Course", 74, ⟨"ReadAloud$Book", "hasReader", "(I)Z"⟩), ("ReadAloud$Course", 71, ⟨"ReadAloud", "isIn", "(II)Z"⟩), ("ReadAloud$Course", 78, ⟨"ReadAloud$Book", "readBy", "(II)I"⟩), ("ReadAloud", 132, ⟨"ReadAloud$Course", "tells", "(I)I"⟩), ("ReadAloud$Course", 100, ⟨"ReadAloud", "driftOf", "(II)I"⟩), ("ReadAloud", 348, ⟨"ReadAloud$Readings", "<init>", "()V"⟩), ("ReadAloud", 349, ⟨"ReadAloud$Readings", "takeUp", "(LReadAloud$Book;)V"⟩), ("ReadAloud", 352, ⟨"ReadAloud$Walk", "<init>", "()V"⟩), ("ReadAloud", 141, ⟨"ReadAloud$Readings", "all", "()I"⟩), ("ReadAloud", 145, ⟨"ReadAloud$Walk", "go", "(LReadAloud$Readings;III)V"⟩), ("ReadAloud$Walk", 49, ⟨"ReadAloud", "isIn", "(II)Z"⟩), ("ReadAloud$Walk", 53, ⟨"ReadAloud$Readings", "after", "(II)I"⟩), ("ReadAloud$Readings", 38, ⟨"ReadAloud$Book", "readBy", "(II)I"⟩), ("ReadAloud", 152, ⟨"ReadAloud$Walk", "readerOnWay", "(II)I"⟩), ("ReadAloud", 155, ⟨"ReadAloud$Walk", "wayBack", "(LReadAloud$Readings;I)I"⟩), ("ReadAloud", 159, ⟨"ReadAloud$Walk", "farthest", "()I"⟩), ("ReadAloud", 169, ⟨"ReadAloud$Book", "hasReaders", "(I)Z"⟩), ("ReadAloud", 172, ⟨"ReadAloud$Readings", "unchangedBy", "(I)I"⟩), ("ReadAloud$Readings", 42, ⟨"ReadAloud", "isIn", "(II)Z"⟩), ("ReadAloud", 175, ⟨"ReadAloud$Readings", "alikeEitherWay", "(II)I"⟩), ("ReadAloud", 354, ⟨"ReadAloud$Rings", "<init>", "()V"⟩), ("ReadAloud", 184, ⟨"ReadAloud$Rings", "findOrbits", "(LReadAloud$Readings;I)V"⟩), ("ReadAloud$Rings", 64, ⟨"ReadAloud$Readings", "after", "(II)I"⟩), ("ReadAloud", 353, ⟨"ReadAloud$Levels", "<init>", "()V"⟩), ("ReadAloud", 198, ⟨"ReadAloud$Levels", "wantNothing", "()V"⟩), ("ReadAloud", 203, ⟨"ReadAloud$Levels", "spread", "(LReadAloud$Readings;III)V"⟩), ("ReadAloud$Levels", 93, ⟨"ReadAloud", "isIn", "(II)Z"⟩), ("ReadAloud$Levels", 96, ⟨"ReadAloud$Readings", "after", "(II)I"⟩), ("ReadAloud", 206, ⟨"ReadAloud$Levels", "endByDrift", "()V"⟩), ("ReadAloud$Levels", 100, ⟨"ReadAloud", "driftOf", "(II)I"⟩), ("ReadAloud", 209, ⟨"ReadAloud$Levels", "bestEnd", "(Z)I"⟩), ("ReadAloud", 213, ⟨"ReadAloud$Levels", "foldBack", "(II)V"⟩), ("ReadAloud", 217, ⟨"ReadAloud$Levels", "chosenAt", "(I)I"⟩), ("ReadAloud", 222, ⟨"ReadAloud$Levels", "sumOfEnds", "()J"⟩), ("ReadAloud", 226, ⟨"ReadAloud$Levels", "rows", "()I"⟩), ("ReadAloud", 233, ⟨"ReadAloud$Readings", "goBack", "(II)V"⟩), ("ReadAloud", 236, ⟨"ReadAloud$Readings", "leastMarked", "()I"⟩), ("ReadAloud", 239, ⟨"ReadAloud$Readings", "marked", "()I"⟩), ("ReadAloud", 245, ⟨"ReadAloud$Levels", "endByWord", "(I)V"⟩), ("ReadAloud$Levels", 103, ⟨"ReadAloud", "timesOf", "(II)I"⟩), ("ReadAloud", 248, ⟨"ReadAloud$Levels", "bestStart", "()I"⟩), ("ReadAloud", 255, ⟨"ReadAloud$Sight", "tells", "(II)I"⟩), ("ReadAloud", 258, ⟨"ReadAloud$Levels", "want", "(LReadAloud$Sight;)V"⟩), ("ReadAloud", 262, ⟨"ReadAloud$Levels", "rowsTo", "(I)I"⟩), ("ReadAloud", 265, ⟨"ReadAloud$Levels", "endByOne", "()V"⟩), ("ReadAloud", 268, ⟨"ReadAloud$Levels", "look", "()I"⟩), ("ReadAloud", 271, ⟨"ReadAloud$Levels", "onlyReaderAt", "(I)I"⟩), ("ReadAloud", 274, ⟨"ReadAloud$Course", "draw", "(II)V"⟩), ("ReadAloud", 277, ⟨"ReadAloud$Book", "kinRing", "(I)I"⟩), ("ReadAloud", 280, ⟨"ReadAloud$Book", "kinUntilRing", "(I)I"⟩), ("ReadAloud", 286, ⟨"ReadAloud$Walk", "meeting", "(LReadAloud$Walk;)I"⟩), ("ReadAloud", 290, ⟨"ReadAloud$Walk", "nearestTo", "(I)I"⟩), ("ReadAloud$Walk", 57, ⟨"ReadAloud", "driftOf", "(II)I"⟩), ("ReadAloud", 293, ⟨"ReadAloud$Walk", "firstSettled", "(LReadAloud$Readings;)I"⟩), ("ReadAloud$Walk", 60, ⟨"ReadAloud$Readings", "all", "()I"⟩), ("ReadAloud$Walk", 64, ⟨"ReadAloud$Readings", "isChanged", "(II)Z"⟩), ("ReadAloud", 297, ⟨"ReadAloud$Readings", "markUnmade", "()V"⟩), ("ReadAloud", 308, ⟨"ReadAloud$Rings", "findCircles", "(LReadAloud$Readings;)V"⟩), ("ReadAloud", 321, ⟨"ReadAloud$Told", "becomes", "(LReadAloud$Told;)V"⟩)]
def zAO : List String := ["ReadAloud$Book", "ReadAloud$Year", "ReadAloud$Sight", "ReadAloud$Told", "ReadAloud$Readings", "ReadAloud$Walk"]
def zDL : List MethodName := [⟨"ReadAloud$Lines", "lineOf", "(LReadAloud$Teller;)I"⟩, ⟨"ReadAloud$Lines", "beginLine", "(ILReadAloud$Teller;)V"⟩, ⟨"ReadAloud$Lines", "mostNumbers", "(I)I"⟩, ⟨"ReadAloud$Lines", "takeNumber", "(IILReadAloud$Teller;)V"⟩, ⟨"ReadAloud$Lines", "fewestNumbers", "(I)I"⟩]
def zSR : List (String × Nat × String × Nat) := [("ReadAloud$Book", 34, "shift", 0), ("ReadAloud$Book", 42, "drop", 1), ("ReadAloud$Book", 44, "double", 2), ("ReadAloud$Book", 46, "swap", 3), ("ReadAloud$Book", 48, "turn", 4), ("ReadAloud$Book", 50, "text", 5), ("ReadAloud$Book", 52, "kin", 6), ("ReadAloud$Book", 53, "reader", 7), ("ReadAloud$Sight", 22, "seen", 8), ("ReadAloud$Year", 25, "read", 9), ("ReadAloud$Year", 33, "copy", 10), ("ReadAloud$Year", 35, "seal", 11), ("ReadAloud$Year", 37, "restore", 12), ("ReadAloud$Year", 39, "hush", 13), ("ReadAloud$Year", 41, "day", 14)]
/-- the words of private members of nest mates, and of arrays of objects: they hold along the run -/
def zN (U : State) : Prop := (∀ t ∈ zNF, va_Nw (.fieldLinkNest t.1 t.2.1 t.2.2.1 t.2.2.2.1 t.2.2.2.2 "ReadAloud") U) ∧ (∀ t ∈ zNM, va_Nw (.methodLinkNest t.1 t.2.1 t.2.2 "ReadAloud") U) ∧ (∀ C ∈ zAO, va_AO C U) ∧ ∀ x ∈ zDL, va_Nw (.declares x) U
theorem zN.warm {s U : State} (hW : s.WarmedH U.vm) (h : zN s) : zN U :=
  ⟨fun t ht => (h.1 t ht).warmF hW, fun t ht => (h.2.1 t ht).warmM hW, fun C hC => (h.2.2.1 C hC).moved hW.alike, fun x hx => (h.2.2.2 x hx).warmD hW⟩
theorem zN.same {s U : State} (hv : s.vm = U.vm) (h : zN s) : zN U :=
  ⟨fun t ht => (h.1 t ht).same rfl hv, fun t ht => (h.2.1 t ht).same rfl hv, fun C hC => (h.2.2.1 C hC).moved (hv ▸ Vm.Alike.refl s.vm), fun x hx => (h.2.2.2 x hx).same rfl hv⟩
/-- what lies outside: the String constants, two statics of the JDK's -/
def zXs (b : Nat) (sc : Nat → Option Nat) (U : State) (H : Heap) : Prop :=
  (∃ adK adV : Nat → Nat, vk_S 15 zslens zsbyts adK adV (fun q => b ≤ q) U H ∧ (∀ i, i < 15 → sc (i + 1) = some (adK i) ∧ sc (i + 101) = some (adV i)) ∧ ∀ t ∈ zSR, vk_R t.1 t.2.1 t.2.2.1 (adK t.2.2.2) U) ∧ va_Z "java/lang/String" "COMPACT_STRINGS" "Z" (.int 1) (fun q => b ≤ q) U H ∧ va_Z "jdk/internal/util/Preconditions" "SIOOBE_FORMATTER" "Ljava/util/function/BiFunction;" (va_rf (sc 99)) (fun q => b ≤ q) U H
theorem zXs.next {b : Nat} {sc : Nat → Option Nat} {s U : State} {H : Heap} {locs : List Loc} (h : zXs b sc s s.heap) (hS : va_S (fun q => b ≤ q) s.heap H locs) (hU : U.heap = H) (hW : s.WarmedH U.vm) : zXs b sc U U.heap := by
  obtain ⟨⟨adK, adV, h1, h2, h3⟩, h4, h5⟩ := h
  rw [hU]
  exact ⟨⟨adK, adV, (h1.kept hS.2.1).moved hW.alike, h2, fun t ht => (h3 t ht).warm hW⟩, (h4.kept hS.2.1).moved hW.alike, (h5.kept hS.2.1).moved hW.alike⟩
theorem zXs.same {b : Nat} {sc : Nat → Option Nat} {s U : State} (h : zXs b sc s s.heap) (hv : s.vm = U.vm) (hh : U.heap = s.heap) : zXs b sc U U.heap := by
  obtain ⟨⟨adK, adV, h1, h2, h3⟩, h4, h5⟩ := h
  have ha : s.vm.Alike U.vm := hv ▸ Vm.Alike.refl s.vm
  rw [hh]
  exact ⟨⟨adK, adV, h1.moved ha, h2, fun t ht => (h3 t ht).same hv.symm⟩, h4.moved ha, h5.moved ha⟩
def zlen (i : Instr) : Nat := match i with
  | .bipush _ => 2
  | .ldc _ => 2
  | .iload _ => 2
  | .lload _ => 2
  | .aload _ => 2
  | .istore _ => 2
  | .lstore _ => 2
  | .astore _ => 2
  | .newarray _ => 2
  | .sipush _ => 3
  | .ldc2_w _ => 3
  | .getstatic _ => 3
  | .ldc_w _ => 3
  | .if_acmp _ _ => 3
  | .iinc _ _ => 3
  | .if_icmp _ _ => 3
  | .ifCond _ _ => 3
  | .goto _ => 3
  | .ifnull _ => 3
  | .ifnonnull _ => 3
  | .getfield _ => 3
  | .putfield _ => 3
  | .new _ => 3
  | .anewarray _ => 3
  | .invokestatic _ => 3
  | .invokevirtual _ => 3
  | .invokespecial _ => 3
  | .tableswitch _ _ _ _ => 0
  | .lookupswitch _ _ => 0
  | _ => 1
def zoff (i : Instr) : Option Int := match i with
  | .if_icmp _ o => some o
  | .if_acmp _ o => some o
  | .ifCond _ o => some o
  | .goto o => some o
  | .ifnull o => some o
  | .ifnonnull o => some o
  | _ => none
def zslot (n : Nat) (i : Instr) : Bool := match i with
  | .istore_n j => Nat.blt j.val n
  | .istore j => Nat.blt j n
  | .astore_n j => Nat.blt j.val n
  | .astore j => Nat.blt j n
  | .iinc j _ => Nat.blt j n
  | .lstore_n j => Nat.blt (j.val + 1) n
  | .lstore j => Nat.blt (j + 1) n
  | _ => true
def zsw (pc : Nat) (i : Instr) : Bool := match i with
  | .tableswitch df _ _ offs => decide (0 ≤ (pc : Int) + df) && offs.toList.all fun o => decide (0 ≤ (pc : Int) + o)
  | .lookupswitch df ps => decide (0 ≤ (pc : Int) + df) && (ps.toList.all fun o => decide (0 ≤ (pc : Int) + o.2)) && (ps.toList.zip (ps.toList.drop 1)).all fun (a, next) => a.1 < next.1
  | _ => true
def zmat (tab : List zM) (a : Nat) : zM := match zix tab a with
  | some M => M
  | none => (⟨"", "", ""⟩, ⟨#[]⟩, 0, none, 99, [])
def zhas (tab : List zM) (a : Nat) : Bool := match zix tab a with
  | some _ => true
  | none => false
def zjdk : List String := ["java/lang/Integer", "java/util/Arrays", "java/lang/String", "java/lang/StringLatin1", "jdk/internal/util/Preconditions"]
def zpub (own : String) (y : MethodName) : Bool := decide (own = y.cls) || (decide (own = "ReadAloudLaw") || decide (y.cls ∈ zjdk))
def zcode (M : zM) : Cond := .code M.1 M.2.1 M.2.2.1 M.2.2.2.1
def zlw (own : String) (ix : Nat) (y : MethodName) : List Cond := match zpub own y with
  | true => [.methodLink own ix y]
  | false => []
/-- the abstract method that a method carries out -/
def zabs (y : MethodName) : MethodName := ⟨"ReadAloud$Lines", y.name, y.desc⟩
def zaq3 (tab : List zM) (own : String) (ix ci a : Nat) : List Cond := [.methodLink own ix (zabs (zmat tab a).1), .sameMethod "ReadAloud$Lines" "ReadAloud$Lines" (zmat tab a).1.name (zmat tab a).1.desc, .selects (zcn ci) (zabs (zmat tab a).1) (zmat tab a).1, .instanceMethod (zmat tab a).1, .initialized (zmat tab a).1.cls, zcode (zmat tab a)]
/-- the good words that a row asks for -/
def zrq (tab : List zM) (own : String) (e : zE) : List Cond := match e.2.1 with
  | .ldc ix => match Nat.beq e.2.2.2.2 1 with
    | true => []
    | false => [.constant own ix (Int32.ofNat e.2.2.2.1)]
  | .getstatic ix => match Nat.beq e.2.2.2.1 0 with
    | true => [.fieldLink own ix "java/lang/String" "COMPACT_STRINGS" "Z"]
    | false => [.fieldLink own ix "jdk/internal/util/Preconditions" "SIOOBE_FORMATTER" "Ljava/util/function/BiFunction;"]
  | .ldc_w ix => [.constant own ix (Int32.ofNat e.2.2.2.1)]
  | .ldc2_w ix => [.constantLong own ix (Int64.ofNat e.2.2.2.1)]
  | .getfield ix => match Nat.beq e.2.2.2.1 50 with
    | true => match Nat.beq e.2.2.2.2 0 with
      | true => [.fieldLink own ix "java/lang/String" "value" "[B"]
      | false => [.fieldLink own ix "java/lang/String" "coder" "B"]
    | false => if own = (zcf e.2.2.2.1 e.2.2.2.2).1 then [.fieldLink own ix (zcf e.2.2.2.1 e.2.2.2.2).1 (zcf e.2.2.2.1 e.2.2.2.2).2.1 (zcf e.2.2.2.1 e.2.2.2.2).2.2.1] else []
  | .putfield ix => if own = (zcf e.2.2.2.1 e.2.2.2.2).1 then [.fieldLink own ix (zcf e.2.2.2.1 e.2.2.2.2).1 (zcf e.2.2.2.1 e.2.2.2.2).2.1 (zcf e.2.2.2.1 e.2.2.2.2).2.2.1] else []
  | .new ix => [.classLink own ix (zcn e.2.2.2.1), .instantiable (zcn e.2.2.2.1) (zcN e.2.2.2.1), .initialized (zcn e.2.2.2.1)]
  | .newarray t => [.arrayClass (newarray.typeOf t)]
  | .anewarray ix => [.classLink own ix (zcn (zec e.2.2.2.1))]
  | .invokestatic ix => match Nat.beq e.2.2.2.2 100 with
    | true => [.methodLink own ix Lib.Math.max.name, .static Lib.Math.max.name, .initialized "java/lang/Math", .code Lib.Math.max.name Lib.Math.max.code 2 (some .int)]
    | false => match Nat.beq e.2.2.2.2 101 with
      | true => [.methodLink own ix Lib.Math.min.name, .static Lib.Math.min.name, .initialized "java/lang/Math", .code Lib.Math.min.name Lib.Math.min.code 2 (some .int)]
      | false => match Nat.beq e.2.2.2.2 102 with
        | true => [.methodLink own ix arraycopyName, .native arraycopyName, .static arraycopyName, .initialized "java/lang/System"]
        | false => [zcode (zmat tab e.2.2.2.1), .static (zmat tab e.2.2.2.1).1, .initialized (zmat tab e.2.2.2.1).1.cls] ++ zlw own ix (zmat tab e.2.2.2.1).1
  | .invokevirtual ix => match Nat.ble 10 e.2.2.2.2 with
    | true => zaq3 tab own ix 0 (e.2.2.2.1 % 1000) ++ (zaq3 tab own ix 9 (e.2.2.2.1 / 1000 % 1000) ++ zaq3 tab own ix 5 (e.2.2.2.1 / 1000000))
    | false => [zcode (zmat tab e.2.2.2.1), .instanceMethod (zmat tab e.2.2.2.1).1, .selects (zmat tab e.2.2.2.1).1.cls (zmat tab e.2.2.2.1).1 (zmat tab e.2.2.2.1).1, .initialized (zmat tab e.2.2.2.1).1.cls] ++ zlw own ix (zmat tab e.2.2.2.1).1
  | .invokespecial ix => match Nat.beq e.2.2.2.2 99 with
    | true => [.methodLink own ix objectInit, .instanceMethod objectInit, .code objectInit ⟨#[0xb1]⟩ 1 none]
    | false => [zcode (zmat tab e.2.2.2.1), .instanceMethod (zmat tab e.2.2.2.1).1, .initialized (zmat tab e.2.2.2.1).1.cls] ++ zlw own ix (zmat tab e.2.2.2.1).1
  | _ => []
def zcallok (tab : List zM) (own : String) (ix : Nat) (a b : Nat) : Bool := zhas tab a && decide ((zmat tab a).1.cls ≠ "java/lang/invoke/MethodHandle") && decide ((zmat tab a).1.cls ≠ "java/lang/invoke/VarHandle") && decide ((parseMethodDescriptor (zmat tab a).1.desc).map (fun d => d.parameters.length) = some b) && (zpub own (zmat tab a).1 || decide ((own, ix, (zmat tab a).1) ∈ zNM))
def zabok (tab : List zM) (ci a n : Nat) : Bool := zhas tab a && (decide ((parseMethodDescriptor (zmat tab a).1.desc).map (fun d => d.parameters.length) = some n) && decide (zabs (zmat tab a).1 ∈ zDL))
def zlk (tab : List zM) (M : zM) (e : zE) : Bool := match e.2.1 with
  | .ldc ix => Nat.beq e.2.2.2.2 0 || (Nat.beq e.2.2.2.2 1 && zSR.any fun t => decide (t.1 = M.1.cls) && (decide (t.2.1 = ix) && decide (t.2.2.2 = e.2.2.2.1)))
  | .getfield ix => (Nat.beq e.2.2.2.1 50 && Nat.ble e.2.2.2.2 1) || Nat.blt e.2.2.2.2 (zcN e.2.2.2.1) && (decide (M.1.cls = (zcf e.2.2.2.1 e.2.2.2.2).1) || decide ((M.1.cls, ix, (zcf e.2.2.2.1 e.2.2.2.2).1, (zcf e.2.2.2.1 e.2.2.2.2).2.1, (zcf e.2.2.2.1 e.2.2.2.2).2.2.1) ∈ zNF))
  | .putfield ix => Nat.blt e.2.2.2.2 (zcN e.2.2.2.1) && (decide (M.1.cls = (zcf e.2.2.2.1 e.2.2.2.2).1) || decide ((M.1.cls, ix, (zcf e.2.2.2.1 e.2.2.2.2).1, (zcf e.2.2.2.1 e.2.2.2.2).2.1, (zcf e.2.2.2.1 e.2.2.2.2).2.2.1) ∈ zNF)) && (decide ((zcf e.2.2.2.1 e.2.2.2.2).2.2.2 = false) || (decide (M.1.name = "<init>") && decide (M.1.cls = (zcf e.2.2.2.1 e.2.2.2.2).1)))
  | .new _ => Nat.ble e.2.2.2.1 11
  | .newarray t => Nat.ble e.2.2.2.1 2 && decide (zix zats e.2.2.2.1 = some (newarray.typeOf t)) && Nat.ble e.2.2.2.2 60000000
  | .anewarray _ => Nat.ble 3 e.2.2.2.1 && decide (zix zats e.2.2.2.1 = some (.object (zcn (zec e.2.2.2.1)))) && decide (zcn (zec e.2.2.2.1) ∈ zAO) && Nat.ble e.2.2.2.2 60000000
  | .invokestatic ix => Nat.beq e.2.2.2.2 100 || (Nat.beq e.2.2.2.2 101 || (Nat.beq e.2.2.2.2 102 || zcallok tab M.1.cls ix e.2.2.2.1 e.2.2.2.2))
  | .invokevirtual ix => match Nat.ble 10 e.2.2.2.2 with
    | true => zabok tab 0 (e.2.2.2.1 % 1000) (e.2.2.2.2 - 10) && (zabok tab 9 (e.2.2.2.1 / 1000 % 1000) (e.2.2.2.2 - 10) && zabok tab 5 (e.2.2.2.1 / 1000000) (e.2.2.2.2 - 10))
    | false => zcallok tab M.1.cls ix e.2.2.2.1 e.2.2.2.2 && ((Nat.beq (zmat tab e.2.2.2.1).2.2.2.2.1 50 && decide ((zmat tab e.2.2.2.1).1.cls = "java/lang/String")) || (decide (zcn (zmat tab e.2.2.2.1).2.2.2.2.1 = (zmat tab e.2.2.2.1).1.cls) && Nat.ble (zmat tab e.2.2.2.1).2.2.2.2.1 11))
  | .invokespecial ix => Nat.beq e.2.2.2.2 99 || (zcallok tab M.1.cls ix e.2.2.2.1 e.2.2.2.2 && decide ((zmat tab e.2.2.2.1).1.name = "<init>") && decide ((zmat tab e.2.2.2.1).2.2.2.1 = none))
  | _ => true
/-- a row is what the bytes say -/
def zde (M : zM) (e : zE) : Bool := decide (decode M.2.1 e.1 = .ok (e.2.1, e.2.2.1 - e.1)) && (Nat.beq (zlen e.2.1) 0 || Nat.beq e.2.2.1 (e.1 + zlen e.2.1))
def zrow (tab : List zM) (M : zM) (e : zE) : Bool := (match zoff e.2.1 with
    | some o => decide ((e.1 : Int) + o = (e.2.2.2.1 : Int))
    | none => true) && zslot M.2.2.1 e.2.1 && zsw e.1 e.2.1 && zlk tab M e
def zokM (tab : List zM) (M : zM) : Prop := M.2.2.2.2.2.all (zde M) = true ∧ M.2.2.2.2.2.all (zrow tab M) = true ∧ (Nat.ble M.2.2.1 16 && plainName M.1.cls) = true
def zuw : List Cond := zcls.flatMap fun q => u_ws q.1 q.2.1 q.2.2
def zt (tab : List zM) : List Cond := zuw ++ tab.flatMap fun M => M.2.2.2.2.2.flatMap (zrq tab M.1.cls)
def zws (tab : List zM) (M : zM) : List Cond := zcode M :: zt tab
theorem zt_uw {tab : List zM} {w : Cond} (h : w ∈ zuw) : w ∈ zt tab := List.mem_append_left _ h
theorem zt_rq {tab : List zM} {M : zM} {e : zE} (hM : M ∈ tab) (he : e ∈ M.2.2.2.2.2) {w : Cond} (h : w ∈ zrq tab M.1.cls e) : w ∈ zt tab :=
  List.mem_append_right _ (List.mem_flatMap.mpr ⟨M, hM, List.mem_flatMap.mpr ⟨e, he, h⟩⟩)
theorem zat_mem : ∀ {cd : List zE} {pc : Nat} {r : Instr × Nat × Nat × Nat}, zat cd pc = some r → (pc, r) ∈ cd
  | [], _, _, h => by cases h
  | e :: t, pc, r, h => by
    unfold zat at h
    split at h
    · next hb =>
      have h1 : e.1 = pc := Nat.eq_of_beq_eq_true hb
      cases h
      subst h1
      exact List.mem_cons_self
    · exact List.mem_cons_of_mem _ (zat_mem h)
/-! worlds in the heap -/
def zv (b : Nat) (sc : Nat → Option Nat) (v : Value) : Value := match v with
  | .ref q => .ref (b + q)
  | .retAddr j => va_rf (sc j)
  | .int x => .int x
  | .long x => .long x
  | .float x => .float x
  | .double x => .double x
  | .null => .null
def zcc (b : Nat) (sc : Nat → Option Nat) (dA : Nat → Nat) (c : va_E) : va_E := match c with
  | .inl (ti, len, .inr (.inr (.inr (.inr g)))) => .inl (dA ti, len, .inr (.inr (.inr (.inr (fun j => (g j).map (b + ·))))))
  | .inl (ti, len, .inl g) => .inl (dA ti, len, .inl g)
  | .inl (ti, len, .inr (.inl g)) => .inl (dA ti, len, .inr (.inl g))
  | .inl (ti, len, .inr (.inr (.inl g))) => .inl (dA ti, len, .inr (.inr (.inl g)))
  | .inl (ti, len, .inr (.inr (.inr (.inl g)))) => .inl (dA ti, len, .inr (.inr (.inr (.inl g))))
  | .inr (ci, fs) => .inr (ci, fs.map (zv b sc))
def zco (b : Nat) (sc : Nat → Option Nat) (dA : Nat → Nat) : Nat → zW → va_W
  | _, [] => []
  | o, c :: t => (o, zcc b sc dA c) :: zco b sc dA (o + 1) t
theorem zco_get (b : Nat) (sc : Nat → Option Nat) (dA : Nat → Nat) : ∀ (w : zW) (o k : Nat), (zco b sc dA o w)[k]? = (w[k]?).map fun c => (o + k, zcc b sc dA c)
  | [], _, _ => by simp [zco]
  | c :: t, o, 0 => by simp [zco]
  | c :: t, o, k + 1 => by
    rw [zco, List.getElem?_cons_succ, List.getElem?_cons_succ, zco_get b sc dA t (o + 1) k, show o + 1 + k = o + (k + 1) by omega]
theorem zco_len (b : Nat) (sc : Nat → Option Nat) (dA : Nat → Nat) : ∀ (w : zW) (o : Nat), (zco b sc dA o w).length = w.length
  | [], _ => rfl
  | c :: t, o => by rw [zco, List.length_cons, List.length_cons, zco_len b sc dA t (o + 1)]
theorem zco_set (b : Nat) (sc : Nat → Option Nat) (dA : Nat → Nat) : ∀ (w : zW) (o k : Nat) (c : va_E), zco b sc dA o (w.set k c) = (zco b sc dA o w).set k (o + k, zcc b sc dA c)
  | [], _, _, _ => rfl
  | _ :: t, o, 0, c => rfl
  | x :: t, o, k + 1, c => by
    rw [List.set_cons_succ, zco, zco, List.set_cons_succ, zco_set b sc dA t (o + 1) k c, show o + 1 + k = o + (k + 1) by omega]
theorem zco_app (b : Nat) (sc : Nat → Option Nat) (dA : Nat → Nat) : ∀ (w : zW) (o : Nat) (c : va_E), zco b sc dA o (w ++ [c]) = zco b sc dA o w ++ [(o + w.length, zcc b sc dA c)]
  | [], o, c => rfl
  | x :: t, o, c => by
    rw [List.cons_append, zco, zco, List.cons_append, zco_app b sc dA t (o + 1) c, List.length_cons, show o + 1 + t.length = o + (t.length + 1) by omega]
theorem zco_at {b : Nat} {sc : Nat → Option Nat} {dA : Nat → Nat} {w : zW} {q : Nat} {c : va_E} (h : zix w q = some c) : (zco b sc dA b w)[q]? = some (b + q, zcc b sc dA c) := by
  rw [zco_get, ← zix_eq, h]; rfl
theorem zco_D (b : Nat) (sc : Nat → Option Nat) (dA : Nat → Nat) (w : zW) : va_D (fun q => b ≤ q) (zco b sc dA b w) := by
  have key : ∀ (k : Nat) (q : Nat × va_E), (zco b sc dA b w)[k]? = some q → q.1 = b + k := by
    intro k q h
    rw [zco_get] at h
    cases hw : w[k]? with
    | none => rw [hw] at h; cases h
    | some c => rw [hw] at h; cases h; rfl
  exact ⟨fun i j p q hi hj hpq => by have h1 := key i p hi; have h2 := key j q hj; omega, fun k q hk => by have h1 := key k q hk; show b ≤ q.1; omega⟩
def ztys (dA : Nat → Nat) : List (ClassId × FieldType) := [(dA 0, .byte), (dA 1, .int), (dA 2, .boolean), (dA 3, .object "ReadAloud$Book"), (dA 4, .object "ReadAloud$Year"), (dA 5, .object "ReadAloud$Sight"), (dA 6, .object "ReadAloud$Told"), (dA 7, .object "ReadAloud$Readings"), (dA 8, .object "ReadAloud$Walk")]
theorem ztys_at {dA : Nat → Nat} {a : Nat} {ty : FieldType} (h : zix zats a = some ty) : (ztys dA)[a]? = some (dA a, ty) := by
  match a, h with
  | 0, h => cases h; rfl
  | 1, h => cases h; rfl
  | 2, h => cases h; rfl
  | 3, h => cases h; rfl
  | 4, h => cases h; rfl
  | 5, h => cases h; rfl
  | 6, h => cases h; rfl
  | 7, h => cases h; rfl
  | 8, h => cases h; rfl
  | n + 9, h => cases n <;> cases h
theorem zcls_at {a : Nat} (h : 0 < zcN a ∨ a ≤ 11) : zcls[a]? = some (zcn a, zcf a, zcN a) := by
  match a, h with
  | 0, _ => rfl
  | 1, _ => rfl
  | 2, _ => rfl
  | 3, _ => rfl
  | 4, _ => rfl
  | 5, _ => rfl
  | 6, _ => rfl
  | 7, _ => rfl
  | 8, _ => rfl
  | 9, _ => rfl
  | 10, _ => rfl
  | 11, _ => rfl
  | n + 12, h =>
    have h0 : zcN (n + 12) = 0 := by cases n <;> rfl
    rw [h0] at h
    omega
theorem zcls_ty {a : Nat} (h : a ≤ 11) : (∀ k, k < zcN a → parseFieldDescriptor (zcf a k).2.2.1 = some (ztyf a k)) ∧ ∀ i, i < zcN a → ∀ j, j < zcN a → i ≠ j → (zcf a i).2.1 ≠ (zcf a j).2.1 := by
  match a, h with
  | 0, _ => exact ⟨tyX0_ok, nmX0⟩
  | 1, _ => exact ⟨tyX1_ok, nmX1⟩
  | 2, _ => exact ⟨tyX2_ok, nmX2⟩
  | 3, _ => exact ⟨tyX4_ok, nmX4⟩
  | 4, _ => exact ⟨tyX5_ok, nmX5⟩
  | 5, _ => exact ⟨tyX6_ok, nmX6⟩
  | 6, _ => exact ⟨tyX7_ok, nmX7⟩
  | 7, _ => exact ⟨tyX8_ok, nmX8⟩
  | 8, _ => exact ⟨tyX9_ok, nmX9⟩
  | 9, _ => exact ⟨tyX10_ok, nmX10⟩
  | 10, _ => exact ⟨tyX11_ok, nmX11⟩
  | 11, _ => exact ⟨tyX12_ok, nmX12⟩
  | n + 12, h => omega
theorem zcN_le {a : Nat} (h : 0 < zcN a) : a ≤ 11 := by
  rcases Nat.lt_or_ge a 12 with q | q
  · omega
  · have h0 : zcN a = 0 := by
      obtain ⟨n, rfl⟩ : ∃ n, a = n + 12 := ⟨a - 12, by omega⟩
      cases n <;> rfl
    omega
theorem zuw_at {a : Nat} (h : a ≤ 11) : ∀ w ∈ u_ws (zcn a) (zcf a) (zcN a), w ∈ zuw := fun w hw => List.mem_flatMap.mpr ⟨(zcn a, zcf a, zcN a), List.mem_of_getElem? (zcls_at (Or.inr h)), hw⟩
/-! the locals -/
def zpr (b : Nat) (sc : Nat → Option Nat) (L : zL) : List (Nat × Value) := (List.range L.length).filterMap fun j => (zget L j).map fun v => (j, zv b sc v)
theorem zget_lt : ∀ {L : zL} {j : Nat} {v : Value}, zget L j = some v → j < L.length
  | [], _, _, h => by cases h
  | _ :: _, 0, _, _ => Nat.zero_lt_succ _
  | _ :: t, j + 1, v, h => Nat.succ_lt_succ (zget_lt (L := t) h)
theorem zpr_mem {b : Nat} {sc : Nat → Option Nat} {L : zL} {q : Nat × Value} : q ∈ zpr b sc L ↔ ∃ v, zget L q.1 = some v ∧ q.2 = zv b sc v := by
  unfold zpr
  rw [List.mem_filterMap]
  constructor
  · rintro ⟨j, -, h⟩
    cases hz : zget L j with
    | none => rw [hz] at h; cases h
    | some v => rw [hz] at h; cases h; exact ⟨v, hz, rfl⟩
  · rintro ⟨v, h1, h2⟩
    exact ⟨q.1, List.mem_range.mpr (zget_lt h1), by rw [h1]; show some (q.1, zv b sc v) = some q; rw [← h2]⟩
theorem zpr_at {b nL : Nat} {sc : Nat → Option Nat} {L : zL} {ls : Array Slot} (h : lv_has ls nL (zpr b sc L)) {j : Nat} {v : Value} (hj : zget L j = some v) : ls[j]? = some (.val (zv b sc v)) := h.2.2 (j, zv b sc v) (zpr_mem.mpr ⟨v, hj, rfl⟩)
theorem zput_len : ∀ (L : zL) (i : Nat) (v : Option Value), (zput L i v).length = L.length
  | [], _, _ => rfl
  | _ :: _, 0, _ => rfl
  | _ :: t, i + 1, v => congrArg (· + 1) (zput_len t i v)
theorem zget_put_ne : ∀ (L : zL) (i j : Nat) (v : Option Value), j ≠ i → zget (zput L i v) j = zget L j
  | [], _, _, _, _ => rfl
  | _ :: _, 0, 0, _, h => absurd rfl h
  | _ :: _, 0, _ + 1, _, _ => rfl
  | _ :: _, _ + 1, 0, _, _ => rfl
  | _ :: t, i + 1, j + 1, v, h => zget_put_ne t i j v (fun q => h (q ▸ rfl))
theorem zget_put_self : ∀ (L : zL) (i : Nat) (v : Option Value) (u : Value), zget (zput L i v) i = some u → v = some u
  | [], _, _, _, h => by cases h
  | _ :: _, 0, _, _, h => h
  | _ :: t, i + 1, v, u, h => zget_put_self t i v u h
theorem zrf_cat (o : Option Nat) : (va_rf o).category = 1 := by cases o <;> rfl
theorem zc2_cat {b : Nat} {sc : Nat → Option Nat} {v : Value} (h : zc2 (some v) = false) : ((zv b sc v).category == 2) = false := by
  cases v <;> first | rfl | (show ((va_rf (sc _)).category == 2) = false; rw [zrf_cat]; rfl) | cases h
theorem zfree_cat {b : Nat} {sc : Nat → Option Nat} {L : zL} {i j : Nat} {u : Value} (hf : zfree L i = true) (hj : zget L j = some u) : (j + 1 == i && (zv b sc u).category == 2) = false := by
  by_cases h : j + 1 = i
  · subst h
    have h1 : zc2 (zget L j) = false := by
      unfold zfree at hf
      simp only at hf
      split at hf
      · cases hf
      · assumption
    rw [hj] at h1
    rw [zc2_cat h1]
    simp
  · simp [h]
theorem zpr_store1 {b nL : Nat} {sc : Nat → Option Nat} {L : zL} {ls : Array Slot} {i : Nat} {v : Value} (hf : zfree L i = true) (h : lv_has ls nL ((i, zv b sc v) :: (zpr b sc L).filter (fun q => !(q.1 == i) && !(q.1 + 1 == i && q.2.category == 2)))) : lv_has ls nL (zpr b sc (zput L i (some v))) := by
  refine ⟨h.1, h.2.1, fun q hq => h.2.2 q ?_⟩
  obtain ⟨u, h1, h2⟩ := zpr_mem.mp hq
  by_cases hi : q.1 = i
  · rw [hi] at h1
    cases zget_put_self L i _ u h1
    refine List.mem_cons.mpr (Or.inl ?_)
    rw [← hi, ← h2]
  · rw [zget_put_ne L i q.1 _ hi] at h1
    refine List.mem_cons_of_mem _ (List.mem_filter.mpr ⟨zpr_mem.mpr ⟨u, h1, h2⟩, ?_⟩)
    rw [h2, zfree_cat hf h1]
    simp [hi]
theorem zpr_store2 {b nL : Nat} {sc : Nat → Option Nat} {L : zL} {ls : Array Slot} {i : Nat} {v : Value} (hf : zfree L i = true) (h : lv_has ls nL ((i, zv b sc v) :: (zpr b sc L).filter (fun q => !(q.1 == i) && (!(q.1 == i + 1) && !(q.1 + 1 == i && q.2.category == 2))))) : lv_has ls nL (zpr b sc (zput (zput L (i + 1) none) i (some v))) := by
  refine ⟨h.1, h.2.1, fun q hq => h.2.2 q ?_⟩
  obtain ⟨u, h1, h2⟩ := zpr_mem.mp hq
  by_cases hi : q.1 = i
  · rw [hi] at h1
    cases zget_put_self _ i _ u h1
    refine List.mem_cons.mpr (Or.inl ?_)
    rw [← hi, ← h2]
  · rw [zget_put_ne _ i q.1 _ hi] at h1
    by_cases hi2 : q.1 = i + 1
    · rw [hi2] at h1
      have := zget_put_self L (i + 1) none u h1
      cases this
    · rw [zget_put_ne L (i + 1) q.1 _ hi2] at h1
      refine List.mem_cons_of_mem _ (List.mem_filter.mpr ⟨zpr_mem.mpr ⟨u, h1, h2⟩, ?_⟩)
      rw [h2, zfree_cat hf h1]
      simp [hi, hi2]
theorem zent_mem (b : Nat) (sc : Nat → Option Nat) : ∀ (As : List Value) (n o j : Nat) (u : Value), zget (zent n As) j = some u → (o + j, zv b sc u) ∈ lv_args o (As.map (zv b sc))
  | [], n, o, j, u, h => by
    exfalso
    induction n generalizing j with
    | zero => cases h
    | succ n ih =>
      cases j with
      | zero => cases h
      | succ j => exact ih j h
  | v :: t, n, o, j, u, h => by
    cases n with
    | zero => cases h
    | succ n =>
      cases hc : zc2 (some v) with
      | false =>
        have hz : zent (n + 1) (v :: t) = some v :: zent n t := by rw [zent.eq_def]; simp only [hc]
        rw [hz] at h
        cases j with
        | zero => cases h; exact List.mem_cons_self
        | succ j =>
          have hd : ¬ (zv b sc v).category = 2 := by
            have := zc2_cat (b := b) (sc := sc) hc
            simpa using this
          rw [List.map_cons, lv_args, if_neg hd, show o + (j + 1) = o + 1 + j by omega]
          exact List.mem_cons_of_mem _ (zent_mem b sc t n (o + 1) j u h)
      | true =>
        have hd : (zv b sc v).category = 2 := by cases v <;> first | rfl | cases hc
        cases n with
        | zero =>
          have hz : zent (0 + 1) (v :: t) = [some v] := by rw [zent.eq_def]; simp only [hc]
          rw [hz] at h
          cases j with
          | zero => cases h; exact List.mem_cons_self
          | succ j => cases j <;> cases h
        | succ n =>
          have hz : zent (n + 1 + 1) (v :: t) = some v :: none :: zent n t := by rw [zent.eq_def]; simp only [hc]
          rw [hz] at h
          cases j with
          | zero => cases h; exact List.mem_cons_self
          | succ j =>
            cases j with
            | zero => cases h
            | succ j =>
              have h1 := zent_mem b sc t n (o + 2) j u h
              rw [List.map_cons, lv_args, if_pos hd, show o + (j + 1 + 1) = o + 2 + j by omega]
              exact List.mem_cons_of_mem _ h1
