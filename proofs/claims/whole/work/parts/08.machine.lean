/-! THE ABSTRACT MACHINE. A state: shapes of cells (kind, number of places, references), and one int for each cell and place.
kinds: 0 int array, 1 byte array, 2 + ci array of objects of class ci, 20 + ci object of class ci.
Values are the machine's, but a reference's number is the cell's place in the state (below 1000), or a thing outside (1000 script, 1002 the table ABOVE, 1010.. texts, 1030.. their bytes). -/
abbrev aSh : Type := Nat × Nat × List (Option Nat)
abbrev aSt : Type := List aSh × (Nat → Nat → Int32)
abbrev aLo : Type := List (Option Value)
abbrev aCf : Type := Nat × Nat × Nat × aLo × List Value × aSt
abbrev aRs : Type := Option Value × aSt
abbrev aOut : Type := aRs ⊕ aCf ⊕ (aCf × (aRs → Option aCf))
def inb (i : Int32) (n : Nat) : Bool := decide (¬ (i < 0 ∨ n ≤ i.toNatClampNeg))
def ix (i : Int32) : Nat := i.toNatClampNeg
/-- a row of the state becomes f -/
def sr (σ : Nat → Nat → Int32) (h : Nat) (f : Nat → Int32) : Nat → Nat → Int32 := fun a => if a = h then f else σ a
/-- a place of a row becomes v -/
def su (σ : Nat → Nat → Int32) (h i : Nat) (v : Int32) : Nat → Nat → Int32 := sr σ h (upd (σ h) i v)
def nx (d mi pc : Nat) (ls : aLo) (st : List Value) (S : aSt) : Option aOut := some (.inr (.inl (d, mi, pc, ls, st, S)))
def c1 : Value → Bool
  | .int _ => true
  | .ref _ => true
  | .null => true
  | _ => false
def clr : Option Value → Option Value
  | some (.long _) => none
  | some (.double _) => none
  | x => x
def sto : Nat → Value → aLo → Option aLo
  | 0, v, _ :: ls => some (some v :: ls)
  | 1, v, a :: _ :: ls => some (clr a :: some v :: ls)
  | i + 2, v, a :: ls => (sto (i + 1) v ls).map (fun q => a :: q)
  | _, _, _ => none
def splA : Nat → List Value → List Value → Option (List Value × List Value)
  | 0, as, st => some (as, st)
  | n + 1, as, v :: st => splA n (v :: as) st
  | _ + 1, _, [] => none
def entA : List Value → aLo
  | [] => []
  | v :: vs => if v.category = 2 then some v :: none :: entA vs else some v :: entA vs
def ent (n : Nat) (as : List Value) : aLo := entA as ++ List.replicate (n - (entA as).length) none
def tgO (pc : Nat) (off : Int) : Nat := ((pc : Int) + off).toNat
def tgOk (pc : Nat) (off : Int) : Bool := decide (0 ≤ (pc : Int) + off)
def orf : Option Nat → Value
  | some j => .ref j
  | none => .null
/-- a field's value -/
def fv (σ : Nat → Nat → Int32) (h : Nat) (sh : aSh) (k : Nat) : Value := if isRT (fty (sh.1 - 20) k) then orf (sh.2.2.getD k none) else .int (σ h k)
def rok : Option FieldType → Int32 → Bool
  | some .int, _ => true
  | some .boolean, v => v == 0 || v == 1
  | some .char, v => decide (narrow .char (.int v) = .int v)
  | some .byte, v => decide (narrow .byte (.int v) = .int v)
  | _, _ => false
def abv : List Int32 := [-1, 0, 0, 1, 2, 0]
/-! constants -/
def stK (d mi : Nat) (q : aMt) (pc : Nat) (i : Instr) (n : Nat) (ls : aLo) (st : List Value) (S : aSt) : Option aOut := match i with
  | .iconst k => if n = 1 then nx d mi (pc + 1) ls (.int (Int32.ofInt k) :: st) S else none
  | .bipush k => if n = 2 then nx d mi (pc + 2) ls (.int (Int8.ofInt k).toInt32 :: st) S else none
  | .sipush k => if n = 3 then nx d mi (pc + 3) ls (.int (Int16.ofInt k).toInt32 :: st) S else none
  | .lconst k => if n = 1 then nx d mi (pc + 1) ls (.long (Int64.ofNat (k : Nat)) :: st) S else none
  | .ldc x => if n = 2 then (match cstE q.2.2.2.2 x with
      | some e => nx d mi (pc + 2) ls (.int e.2.2.1 :: st) S
      | none => (match strE q.2.2.2.2 x with
        | some e => nx d mi (pc + 2) ls (.ref (1010 + e.2.2.1) :: st) S
        | none => none)) else none
  | .ldc_w x => if n = 3 then (match cstE q.2.2.2.2 x with
      | some e => nx d mi (pc + 3) ls (.int e.2.2.1 :: st) S
      | none => none) else none
  | .ldc2_w x => if n = 3 then (match lngE q.2.2.2.2 x with
      | some e => nx d mi (pc + 3) ls (.long e.2.2.1 :: st) S
      | none => none) else none
  | _ => none
/-! loads -/
def ldI (ls : aLo) (k : Nat) : Option Value := match ls[k]? with
  | some (some (.int x)) => some (.int x)
  | _ => none
def ldA (ls : aLo) (k : Nat) : Option Value := match ls[k]? with
  | some (some (.ref x)) => some (.ref x)
  | _ => none
def ldL (ls : aLo) (k : Nat) : Option Value := match ls[k]? with
  | some (some (.long x)) => some (.long x)
  | _ => none
def nxl (d mi pc : Nat) (ls : aLo) (st : List Value) (S : aSt) (v : Option Value) : Option aOut := match v with
  | some w => nx d mi pc ls (w :: st) S
  | none => none
def stL (d mi : Nat) (pc : Nat) (i : Instr) (n : Nat) (ls : aLo) (st : List Value) (S : aSt) : Option aOut := match i with
  | .iload_n k => if n = 1 then nxl d mi (pc + 1) ls st S (ldI ls k) else none
  | .iload k => if n = 2 then nxl d mi (pc + 2) ls st S (ldI ls k) else none
  | .aload_n k => if n = 1 then nxl d mi (pc + 1) ls st S (ldA ls k) else none
  | .aload k => if n = 2 then nxl d mi (pc + 2) ls st S (ldA ls k) else none
  | .lload_n k => if n = 1 then nxl d mi (pc + 1) ls st S (ldL ls k) else none
  | .lload k => if n = 2 then nxl d mi (pc + 2) ls st S (ldL ls k) else none
  | _ => none
/-! stores -/
def nxs (d mi pc : Nat) (st : List Value) (S : aSt) (ls : Option aLo) : Option aOut := match ls with
  | some l => nx d mi pc l st S
  | none => none
def stS (d mi : Nat) (pc : Nat) (i : Instr) (n : Nat) (ls : aLo) (st : List Value) (S : aSt) : Option aOut := match i with
  | .istore_n k => if n = 1 then (match st with
      | .int x :: st => nxs d mi (pc + 1) st S (sto k (.int x) ls)
      | _ => none) else none
  | .istore k => if n = 2 then (match st with
      | .int x :: st => nxs d mi (pc + 2) st S (sto k (.int x) ls)
      | _ => none) else none
  | .astore_n k => if n = 1 then (match st with
      | .ref x :: st => nxs d mi (pc + 1) st S (sto k (.ref x) ls)
      | _ => none) else none
  | .astore k => if n = 2 then (match st with
      | .ref x :: st => nxs d mi (pc + 2) st S (sto k (.ref x) ls)
      | _ => none) else none
  | .iinc k m => if n = 3 then (match ls[k]? with
      | some (some (.int x)) => nxs d mi (pc + 3) st S (sto k (.int (x + Int32.ofInt m)) ls)
      | _ => none) else none
  | _ => none
/-! arithmetic -/
def bin (i : Instr) (x y : Int32) : Option Int32 := match i with
  | .iadd => some (x + y)
  | .isub => some (x - y)
  | .imul => some (x * y)
  | .idiv => if y = 0 then none else some (x / y)
  | .irem => if y = 0 then none else some (x - x / y * y)
  | .iand => some (x &&& y)
  | .ior => some (x ||| y)
  | .ixor => some (x ^^^ y)
  | .ishl => some (x <<< (y &&& 31))
  | .ishr => some (x >>> (y &&& 31))
  | .iushr => some ((x.toUInt32 >>> (y.toUInt32 &&& Int32.toUInt32 31)).toInt32)
  | _ => none
def una (i : Instr) (x : Int32) : Option Value := match i with
  | .ineg => some (.int (-x))
  | .i2b => some (.int x.toInt8.toInt32)
  | .i2s => some (.int x.toInt16.toInt32)
  | .i2c => some (.int (x.toUInt32 % 65536).toInt32)
  | .i2l => some (.long x.toInt64)
  | _ => none
def stI (d mi : Nat) (pc : Nat) (i : Instr) (n : Nat) (ls : aLo) (st : List Value) (S : aSt) : Option aOut := if n = 1 then (match st with
  | .int y :: .int x :: st => (match bin i x y with
    | some v => nx d mi (pc + 1) ls (.int v :: st) S
    | none => none)
  | _ => none) else none
def stU (d mi : Nat) (pc : Nat) (i : Instr) (n : Nat) (ls : aLo) (st : List Value) (S : aSt) : Option aOut := if n = 1 then (match st with
  | .int x :: st => (match una i x with
    | some v => nx d mi (pc + 1) ls (v :: st) S
    | none => none)
  | _ => none) else none
def stJ (d mi : Nat) (pc : Nat) (i : Instr) (n : Nat) (ls : aLo) (st : List Value) (S : aSt) : Option aOut := if n = 1 then (match i with
  | .ladd => (match st with
    | .long y :: .long x :: st => nx d mi (pc + 1) ls (.long (x + y) :: st) S
    | _ => none)
  | .lcmp => (match st with
    | .long y :: .long x :: st => nx d mi (pc + 1) ls (.int (lg_cmp x y) :: st) S
    | _ => none)
  | .dup => (match st with
    | v :: st => if c1 v then nx d mi (pc + 1) ls (v :: v :: st) S else none
    | _ => none)
  | .dup2 => (match st with
    | v :: w :: st => if c1 v && c1 w then nx d mi (pc + 1) ls (v :: w :: v :: w :: st) S else none
    | _ => none)
  | .pop => (match st with
    | v :: st => if c1 v then nx d mi (pc + 1) ls st S else none
    | _ => none)
  | _ => none) else none
/-! branches -/
def cmpB (c : ClassFile.Cond) (x y : Int32) : Bool := match c with
  | .eq => decide (x = y)
  | .ne => decide (¬ x = y)
  | .lt => decide (x < y)
  | .ge => decide (y ≤ x)
  | .gt => decide (y < x)
  | .le => decide (x ≤ y)
def stB (d mi : Nat) (pc : Nat) (i : Instr) (n : Nat) (ls : aLo) (st : List Value) (S : aSt) : Option aOut := match i with
  | .ifCond c off => if n = 3 ∧ tgOk pc off = true then (match st with
    | .int x :: st => if cmpB c x 0 then nx d mi (tgO pc off) ls st S else nx d mi (pc + 3) ls st S
    | _ => none) else none
  | .if_icmp c off => if n = 3 ∧ tgOk pc off = true then (match st with
    | .int y :: .int x :: st => if cmpB c x y then nx d mi (tgO pc off) ls st S else nx d mi (pc + 3) ls st S
    | _ => none) else none
  | .goto off => if n = 3 ∧ tgOk pc off = true then nx d mi (tgO pc off) ls st S else none
  | .tableswitch df lo hi offs => (match st with
    | .int x :: st => if x.toInt < lo ∨ hi < x.toInt then (if tgOk pc df = true then nx d mi (tgO pc df) ls st S else none)
      else (match offs[(x.toInt - lo).toNat]? with
        | some off => if tgOk pc off = true then nx d mi (tgO pc off) ls st S else none
        | none => none)
    | _ => none)
  | .lookupswitch df ps => (match st with
    | .int x :: st => if (ps.toList.zip (ps.toList.drop 1)).all (fun (a, next) => a.1 < next.1) = true ∧ tgOk pc (Op.lookupswitch.offset ps.toList df x.toInt) = true then nx d mi (tgO pc (Op.lookupswitch.offset ps.toList df x.toInt)) ls st S else none
    | _ => none)
  | _ => none
/-! the heap -/
def shO (S : aSt) (h ci k : Nat) : Option aSh := match S.1[h]? with
  | some sh => if sh.1 = 20 + ci ∧ k < sh.2.1 then some sh else none
  | none => none
def shA (S : aSt) (h t : Nat) (i : Int32) : Option aSh := match S.1[h]? with
  | some sh => if sh.1 = t ∧ inb i sh.2.1 = true then some sh else none
  | none => none
def rdX (S : aSt) (h : Nat) (i : Int32) : Option Int32 :=
  if h = 1002 then (if inb i 6 = true then some (abv.getD (ix i) 0) else none) else none
def rdI (S : aSt) (h : Nat) (i : Int32) : Option Int32 := match S.1[h]? with
  | some sh => if sh.1 = 0 ∧ inb i sh.2.1 = true then some (S.2 h (ix i)) else none
  | none => rdX S h i
def rdB (S : aSt) (h : Nat) (i : Int32) : Option Int32 := match S.1[h]? with
  | some sh => if sh.1 = 1 ∧ inb i sh.2.1 = true then some (S.2 h (ix i)) else none
  | none => if 1030 ≤ h ∧ h < 1041 ∧ inb i (strX.getD (h - 1030) []).length = true then some ((strX.getD (h - 1030) []).getD (ix i) 0) else none
def alS (S : aSt) (sh : aSh) : aSt := (S.1 ++ [sh], sr S.2 S.1.length (fun _ => 0))
def stH (d mi : Nat) (q : aMt) (pc : Nat) (i : Instr) (n : Nat) (ls : aLo) (st : List Value) (S : aSt) : Option aOut := match i with
  | .getfield x => if n = 3 then (match st with
    | .ref h :: st => (match fldE q.2.2.2.2 x with
      | some e => (match shO S h e.2.2.1 e.2.2.2.1 with
        | some sh => nx d mi (pc + 3) ls (fv S.2 h sh e.2.2.2.1 :: st) S
        | none => none)
      | none => (match sfdE q.2.2.2.2 x with
        | some e => if 1010 ≤ h ∧ h < 1021 then nx d mi (pc + 3) ls ((if e.2.2.1 = 0 then .ref (h + 20) else .int 0) :: st) S else none
        | none => none))
    | _ => none) else none
  | .putfield x => if n = 3 then (match fldE q.2.2.2.2 x with
    | some e => (match st with
      | .int v :: .ref h :: st => (match shO S h e.2.2.1 e.2.2.2.1 with
        | some _ => if fty e.2.2.1 e.2.2.2.1 = .int ∨ (fty e.2.2.1 e.2.2.2.1 = .boolean ∧ (v = 0 ∨ v = 1)) then nx d mi (pc + 3) ls st (S.1, su S.2 h e.2.2.2.1 v) else none
        | none => none)
      | .ref r :: .ref h :: st => (match shO S h e.2.2.1 e.2.2.2.1 with
        | some sh => if isRT (fty e.2.2.1 e.2.2.2.1) = true ∧ e.2.2.2.1 < sh.2.2.length ∧ q.1.name = "<init>" ∧ (vwCl.getD e.2.2.1 ("", fun _ => ("", "", "", false), 0)).1 = q.1.cls then nx d mi (pc + 3) ls st (S.1.set h (sh.1, sh.2.1, sh.2.2.set e.2.2.2.1 (some r)), S.2) else none
        | none => none)
      | _ => none)
    | none => none) else none
  | .getstatic x => if n = 3 then (match gstE q.2.2.2.2 x with
    | some e => nx d mi (pc + 3) ls ((if e.2.2.1 = 0 then .ref 1002 else if e.2.2.1 = 1 then .int 1 else .retAddr 0) :: st) S
    | none => none) else none
  | .iaload => if n = 1 then (match st with
    | .int j :: .ref h :: st => (match rdI S h j with
      | some v => nx d mi (pc + 1) ls (.int v :: st) S
      | none => none)
    | _ => none) else none
  | .baload => if n = 1 then (match st with
    | .int j :: .ref h :: st => (match rdB S h j with
      | some v => nx d mi (pc + 1) ls (.int v :: st) S
      | none => none)
    | _ => none) else none
  | .iastore => if n = 1 then (match st with
    | .int v :: .int j :: .ref h :: st => (match shA S h 0 j with
      | some _ => nx d mi (pc + 1) ls st (S.1, su S.2 h (ix j) v)
      | none => none)
    | _ => none) else none
  | .bastore => if n = 1 then (match st with
    | .int v :: .int j :: .ref h :: st => (match shA S h 1 j with
      | some _ => nx d mi (pc + 1) ls st (S.1, su S.2 h (ix j) v.toInt8.toInt32)
      | none => none)
    | _ => none) else none
  | .aaload => if n = 1 then (match st with
    | .int j :: .ref h :: st => (match S.1[h]? with
      | some sh => if 4 ≤ sh.1 ∧ sh.1 < 7 ∧ inb j sh.2.1 = true then nx d mi (pc + 1) ls (orf (sh.2.2.getD (ix j) none) :: st) S else none
      | none => none)
    | _ => none) else none
  | .aastore => if n = 1 then (match st with
    | .ref r :: .int j :: .ref h :: st => (match S.1[h]?, S.1[r]? with
      | some sh, some sr => if 4 ≤ sh.1 ∧ sh.1 < 7 ∧ inb j sh.2.1 = true ∧ sr.1 = sh.1 + 18 ∧ ix j < sh.2.2.length then nx d mi (pc + 1) ls st (S.1.set h (sh.1, sh.2.1, sh.2.2.set (ix j) (some r)), S.2) else none
      | _, _ => none)
    | _ => none) else none
  | .arraylength => if n = 1 then (match st with
    | .ref h :: st => if 1030 ≤ h ∧ h < 1041 then nx d mi (pc + 1) ls (.int (Int32.ofNat (strX.getD (h - 1030) []).length) :: st) S else none
    | _ => none) else none
  | .new x => if n = 3 then (match newE q.2.2.2.2 x with
    | some e => if S.1.length < 900 then nx d mi (pc + 3) ls (.ref S.1.length :: st) (alS S (20 + e.2.2.1, (vwCl.getD e.2.2.1 ("", fun _ => ("", "", "", false), 0)).2.2, List.replicate (vwCl.getD e.2.2.1 ("", fun _ => ("", "", "", false), 0)).2.2 none)) else none
    | none => none) else none
  | .newarray t => if n = 2 then (match st with
    | .int k :: st => if S.1.length < 900 ∧ ¬ k < 0 ∧ ix k ≤ 4000 ∧ (t = .int ∨ t = .byte) then nx d mi (pc + 2) ls (.ref S.1.length :: st) (alS S (if t = .int then 0 else 1, ix k, [])) else none
    | _ => none) else none
  | .anewarray x => if n = 3 then (match anwE q.2.2.2.2 x with
    | some e => (match st with
      | .int k :: st => if S.1.length < 900 ∧ ¬ k < 0 ∧ ix k ≤ 4000 ∧ 2 ≤ e.2.2.1 ∧ e.2.2.1 < 5 then nx d mi (pc + 3) ls (.ref S.1.length :: st) (alS S (2 + e.2.2.1, ix k, List.replicate (ix k) none)) else none
      | _ => none)
    | none => none) else none
  | .invokespecial x => if n = 3 then (match objE q.2.2.2.2 x with
    | some _ => (match st with
      | .ref h :: st => if 1 ≤ d ∧ st.length ≤ 4 then nx d mi (pc + 3) ls st S else none
      | _ => none)
    | none => none) else none
  | .invokestatic x => if n = 3 then (match acpE q.2.2.2.2 x with
    | some _ => (match st with
      | .int k :: .int dp :: .ref b :: .int sp :: .ref a :: st => (match S.1[a]?, S.1[b]? with
        | some s0, some s1 => if s0.1 = 0 ∧ s1.1 = 0 ∧ ¬ sp < 0 ∧ ¬ dp < 0 ∧ ¬ k < 0 ∧ ix sp + ix k ≤ s0.2.1 ∧ ix dp + ix k ≤ s1.2.1 ∧ 1 ≤ d ∧ st.length ≤ 4 then nx d mi (pc + 3) ls st (S.1, sr S.2 b (va_cpy (S.2 a) (S.2 b) (ix sp) (ix dp) (ix k))) else none
        | _, _ => none)
      | _ => none)
    | none => none) else none
  | _ => none
/-! max, min, abs -/
def stM (d mi : Nat) (q : aMt) (pc : Nat) (i : Instr) (n : Nat) (ls : aLo) (st : List Value) (S : aSt) : Option aOut := match i with
  | .invokestatic x => if n = 3 ∧ 1 ≤ d then (match matE q.2.2.2.2 x with
    | some e => if e.2.2.1 = 2 then (match st with
        | .int x :: st => if st.length ≤ 4 then nx d mi (pc + 3) ls (.int (if 0 ≤ x then x else 0 - x) :: st) S else none
        | _ => none)
      else (match st with
        | .int y :: .int x :: st => if st.length ≤ 4 then nx d mi (pc + 3) ls (.int (if e.2.2.1 = 0 then (if x < y then y else x) else (if y < x then y else x)) :: st) S else none
        | _ => none)
    | none => none) else none
  | _ => none
/-! calls -/
def rcv (S : aSt) (h : Nat) (own : Nat) : Bool := match S.1[h]? with
  | some sh => decide (20 ≤ sh.1) && decide ((vwCl.getD (sh.1 - 20) ("", fun _ => ("", "", "", false), 0)).1 = ownN own) && decide (sh.1 - 20 < 8)
  | none => decide (1010 ≤ h) && decide (h < 1021) && decide (ownN own = "java/lang/String")
def cal (d mi pc : Nat) (ls : aLo) (S : aSt) (j : Nat) (mx : Nat) (as rest : List Value) : Option aOut := match d with
  | 0 => none
  | d + 1 => if (entA as).length ≤ mx ∧ rest.length ≤ 4 then some (.inr (.inr ((d, j, 0, ent mx as, [], S), fun r => some (d + 1, mi, pc + 3, ls, r.1.toList ++ rest, r.2)))) else none
def stC (d mi : Nat) (q : aMt) (pc : Nat) (i : Instr) (n : Nat) (ls : aLo) (st : List Value) (S : aSt) : Option aOut := match i with
  | .invokestatic x => if n = 3 then (match mthE q.2.2.2.2 x with
    | some e => if e.2.2.2.1 = 0 ∨ e.2.2.2.1 = 3 then (match mtb[e.2.2.1]?, splA e.2.2.2.2.1 [] st with
      | some y, some (as, rest) => cal d mi pc ls S e.2.2.1 y.2.2.1 as rest
      | _, _ => none) else none
    | none => none) else none
  | .invokevirtual x => if n = 3 then (match mthE q.2.2.2.2 x with
    | some e => if e.2.2.2.1 = 1 then (match mtb[e.2.2.1]?, splA e.2.2.2.2.1 [] st with
      | some y, some (as, .ref h :: rest) => if rcv S h y.2.2.2.2 = true then cal d mi pc ls S e.2.2.1 y.2.2.1 (.ref h :: as) rest else none
      | _, _ => none) else none
    | none => none) else none
  | .invokespecial x => if n = 3 then (match mthE q.2.2.2.2 x with
    | some e => if e.2.2.2.1 = 2 ∨ e.2.2.2.1 = 4 then (match mtb[e.2.2.1]?, splA e.2.2.2.2.1 [] st with
      | some y, some (as, .ref h :: rest) => cal d mi pc ls S e.2.2.1 y.2.2.1 (.ref h :: as) rest
      | _, _ => none) else none
    | none => none) else none
  | _ => none
/-! returns -/
def stR (q : aMt) (i : Instr) (n : Nat) (st : List Value) (S : aSt) : Option aOut := match i with
  | .ireturn => if n = 1 then (match st with
    | [.int v] => if rok q.2.2.2.1 v = true then some (.inl (some (.int v), S)) else none
    | _ => none) else none
  | .areturn => if n = 1 then (match st with
    | [.ref h] => if (q.2.2.2.1).any isRT = true then some (.inl (some (.ref h), S)) else none
    | _ => none) else none
  | .return_ => if n = 1 then (match st with
    | [] => if q.2.2.2.1 = none then some (.inl (none, S)) else none
    | _ => none) else none
  | _ => none
def oe (a : Option aOut) (b : Option aOut) : Option aOut := match a with
  | some x => some x
  | none => b
/-! the script: its length, its numbers -/
abbrev aE : Type := Option (Nat × (Nat → Int32))
def stX (E : aE) (d mi : Nat) (pc : Nat) (i : Instr) (n : Nat) (ls : aLo) (st : List Value) (S : aSt) : Option aOut := match E with
  | none => none
  | some (len, xs) => (match i with
    | .iaload => if n = 1 then (match st with
      | .int j :: .ref h :: st => if h = 1000 ∧ inb j len = true then nx d mi (pc + 1) ls (.int (xs (ix j)) :: st) S else none
      | _ => none) else none
    | .arraylength => if n = 1 then (match st with
      | .ref h :: st => if h = 1000 then nx d mi (pc + 1) ls (.int (Int32.ofNat len) :: st) S else none
      | _ => none) else none
    | _ => none)
def stA (d mi : Nat) (q : aMt) (pc : Nat) (i : Instr) (n : Nat) (ls : aLo) (st : List Value) (S : aSt) : Option aOut :=
  oe (stK d mi q pc i n ls st S) (oe (stL d mi pc i n ls st S) (oe (stS d mi pc i n ls st S) (oe (stI d mi pc i n ls st S) (oe (stU d mi pc i n ls st S) (oe (stJ d mi pc i n ls st S)
    (oe (stB d mi pc i n ls st S) (oe (stH d mi q pc i n ls st S) (oe (stM d mi q pc i n ls st S) (oe (stC d mi q pc i n ls st S) (stR q i n st S))))))))))
def stp (E : aE) (x : aCf) : Option aOut := match x with
  | (d, mi, pc, ls, st, S) => match mtb[mi]? with
    | none => none
    | some q => match decode q.2.1 pc with
      | .ok (i, n) => oe (stA d mi q pc i n ls st S) (stX E d mi pc i n ls st S)
      | _ => none
/-! runs -/
def rn (E : aE) : Nat → aCf → Option aRs
  | 0, _ => none
  | n + 1, x => match stp E x with
    | none => none
    | some (.inl r) => some r
    | some (.inr (.inl y)) => rn E n y
    | some (.inr (.inr (y, k))) => (rn E n y).bind (fun r => (k r).bind (rn E n))
theorem rn_succ (E : aE) : ∀ (n : Nat) (x : aCf) (r : aRs), rn E n x = some r → rn E (n + 1) x = some r := by
  intro n
  induction n with
  | zero => intro x r h; cases h
  | succ n ih =>
    intro x r h
    rw [rn] at h ⊢
    cases hs : stp E x with
    | none => rw [hs] at h; cases h
    | some o =>
      rw [hs] at h
      rcases o with r' | y | ⟨y, k⟩
      · exact h
      · exact ih y r h
      · simp only [Option.bind_eq_some_iff] at h ⊢
        obtain ⟨r1, h1, z, h2, h3⟩ := h
        exact ⟨r1, ih y r1 h1, z, h2, ih z r h3⟩
theorem rn_le {E : aE} {n m : Nat} {x : aCf} {r : aRs} (h : rn E n x = some r) (hm : n ≤ m) : rn E m x = some r := by
  induction hm with
  | refl => exact h
  | step _ ih => exact rn_succ _ _ _ _ ih
theorem rn_one {E : aE} {n m : Nat} {x : aCf} {r r' : aRs} (h : rn E n x = some r) (h' : rn E m x = some r') : r = r' := by
  have a := rn_le h (Nat.le_max_left n m)
  have b := rn_le h' (Nat.le_max_right n m)
  exact Option.some.inj (a.symm.trans b)
noncomputable def RN (E : aE) (x : aCf) : Option aRs := @dite _ (∃ r, ∃ n, rn E n x = some r) (Classical.propDecidable _) (fun h => some (Classical.choose h)) (fun _ => none)
theorem RN_iff {E : aE} {x : aCf} {r : aRs} : RN E x = some r ↔ ∃ n, rn E n x = some r := by
  unfold RN
  by_cases h : ∃ r, ∃ n, rn E n x = some r
  · rw [dif_pos h]
    obtain ⟨n, hn⟩ := Classical.choose_spec h
    constructor
    · intro e
      cases e
      exact ⟨n, hn⟩
    · rintro ⟨m, hm⟩
      rw [rn_one hn hm]
  · rw [dif_neg h]
    constructor
    · intro e; cases e
    · rintro ⟨m, hm⟩
      exact absurd ⟨r, m, hm⟩ h
def fol (F : aCf → Option aRs) (o : Option aOut) : Option aRs := match o with
  | none => none
  | some (.inl r) => some r
  | some (.inr (.inl y)) => F y
  | some (.inr (.inr (y, k))) => (F y).bind (fun r => (k r).bind F)
theorem RN_eq (E : aE) (x : aCf) : RN E x = fol (RN E) (stp E x) := by
  apply Option.ext
  intro r
  rw [RN_iff]
  constructor
  · rintro ⟨n, hn⟩
    cases n with
    | zero => cases hn
    | succ n =>
      rw [rn] at hn
      cases hs : stp E x with
      | none => rw [hs] at hn; cases hn
      | some o =>
        rw [hs] at hn
        rcases o with r' | y | ⟨y, k⟩
        · exact hn
        · exact RN_iff.mpr ⟨n, hn⟩
        · simp only [Option.bind_eq_some_iff] at hn
          obtain ⟨r1, h1, z, h2, h3⟩ := hn
          show (RN E y).bind (fun r => (k r).bind (RN E)) = some r
          simp only [Option.bind_eq_some_iff]
          exact ⟨r1, RN_iff.mpr ⟨n, h1⟩, z, h2, RN_iff.mpr ⟨n, h3⟩⟩
  · intro h
    cases hs : stp E x with
    | none => rw [hs] at h; cases h
    | some o =>
      rw [hs] at h
      rcases o with r' | y | ⟨y, k⟩
      · exact ⟨1, by rw [rn, hs]; exact h⟩
      · obtain ⟨n, hn⟩ := RN_iff.mp (show RN E y = some r from h)
        exact ⟨n + 1, by rw [rn, hs]; exact hn⟩
      · have h : (RN E y).bind (fun r => (k r).bind (RN E)) = some r := h
        simp only [Option.bind_eq_some_iff] at h
        obtain ⟨r1, h1, z, h2, h3⟩ := h
        obtain ⟨n, hn⟩ := RN_iff.mp h1
        obtain ⟨m, hm⟩ := RN_iff.mp h3
        refine ⟨max n m + 1, ?_⟩
        rw [rn, hs]
        simp only [Option.bind_eq_some_iff]
        exact ⟨r1, rn_le hn (Nat.le_max_left n m), z, h2, rn_le hm (Nat.le_max_right n m)⟩
noncomputable def Rn (E : aE) (d mi pc : Nat) (ls : aLo) (st : List Value) (S : aSt) : Option aRs := RN E (d, mi, pc, ls, st, S)
/-- what runs without the script runs with it -/
theorem stp_E {E : aE} {x : aCf} {o : aOut} (h : stp none x = some o) : stp E x = some o := by
  obtain ⟨d, mi, pc, ls, st, S⟩ := x
  simp only [stp] at h ⊢
  cases hq : mtb[mi]? with
  | none => simp only [hq] at h; exact absurd h (by simp)
  | some q =>
    simp only [hq] at h ⊢
    cases hd : decode q.2.1 pc with
    | error ee => simp only [hd] at h; exact absurd h (by simp)
    | ok x =>
      obtain ⟨i, n⟩ := x
      simp only [hd] at h ⊢
      cases ha : stA d mi q pc i n ls st S with
      | none => rw [ha] at h; cases h
      | some o1 => rw [ha] at h; exact h
theorem rn_E {E : aE} : ∀ (n : Nat) (x : aCf) (r : aRs), rn none n x = some r → rn E n x = some r := by
  intro n
  induction n with
  | zero => intro x r h; cases h
  | succ n ih =>
    intro x r h
    rw [rn] at h ⊢
    cases hs : stp none x with
    | none => rw [hs] at h; cases h
    | some o =>
      rw [hs] at h
      rw [stp_E hs]
      rcases o with r' | y | ⟨y, k⟩
      · exact h
      · exact ih y r h
      · simp only [Option.bind_eq_some_iff] at h ⊢
        obtain ⟨r1, h1, z, h2, h3⟩ := h
        exact ⟨r1, ih y r1 h1, z, h2, ih z r h3⟩
/-- n steps of the frame at hand, without the script; calls are run to their ends -/
def adv : Nat → aCf → Option aCf
  | 0, x => some x
  | n + 1, x => match stp none x with
    | some (.inr (.inl y)) => adv n y
    | some (.inr (.inr (y, k))) => (rn none 3000 y).bind (fun r => (k r).bind (adv n))
    | _ => none
theorem adv_RN {E : aE} : ∀ (n : Nat) (x y : aCf), adv n x = some y → RN E x = RN E y := by
  intro n
  induction n with
  | zero => intro x y h; cases h; rfl
  | succ n ih =>
    intro x y h
    rw [adv] at h
    cases hs : stp none x with
    | none => rw [hs] at h; cases h
    | some o =>
      rw [hs] at h
      rw [RN_eq, stp_E hs]
      rcases o with r' | z | ⟨z, k⟩
      · cases h
      · exact ih z y h
      · simp only [Option.bind_eq_some_iff] at h
        obtain ⟨r1, h1, w, h2, h3⟩ := h
        show (RN E z).bind (fun r => (k r).bind (RN E)) = RN E y
        rw [RN_iff.mpr ⟨_, rn_E _ _ _ h1⟩]
        show (k r1).bind (RN E) = RN E y
        rw [h2]
        exact ih w y h3
