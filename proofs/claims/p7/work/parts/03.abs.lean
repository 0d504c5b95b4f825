/-! An abstract machine with whole numbers for values. Tags: 0 int, 1 long, 2 and on references. -/
def zTy : Nat → Nat → FieldType := fun ci => match ci with
  | 0 => tyX0 | 1 => tyX1 | 2 => tyX2 | 3 => tyX3 | 4 => tyX4 | 5 => tyX5 | 6 => tyX6 | 7 => tyX7 | 8 => tyX8 | 9 => tyX9 | 10 => tyX10 | 11 => tyX11 | _ => tyX12
def zTg (ty : FieldType) : Nat := match ty with
  | .int => 0
  | .boolean => 0
  | .long => 1
  | _ => 2
abbrev zAv : Type := Nat × Int
abbrev zLo : Type := List (Option zAv)
abbrev zAx : Type := Nat × Nat × Int
abbrev zCf (σ : Type) : Type := Nat × zLo × List zAv × σ
def zR32 (x : Int) : Prop := -2147483648 ≤ x ∧ x < 2147483648
def zR64 (x : Int) : Prop := -9223372036854775808 ≤ x ∧ x < 9223372036854775808
def wadd (x y : Int) : Int := (Int32.ofInt x + Int32.ofInt y).toInt
def wsub (x y : Int) : Int := (Int32.ofInt x - Int32.ofInt y).toInt
def wmul (x y : Int) : Int := (Int32.ofInt x * Int32.ofInt y).toInt
def wdiv (x y : Int) : Int := (Int32.ofInt x / Int32.ofInt y).toInt
def wrem (x y : Int) : Int := (Int32.ofInt x - Int32.ofInt x / Int32.ofInt y * Int32.ofInt y).toInt
def wneg (x : Int) : Int := (-Int32.ofInt x).toInt
def wand (x y : Int) : Int := (Int32.ofInt x &&& Int32.ofInt y).toInt
def wor (x y : Int) : Int := (Int32.ofInt x ||| Int32.ofInt y).toInt
def wxor (x y : Int) : Int := (Int32.ofInt x ^^^ Int32.ofInt y).toInt
def wshl (x y : Int) : Int := (Int32.ofInt x <<< (Int32.ofInt y &&& 31)).toInt
def wshr (x y : Int) : Int := (Int32.ofInt x >>> (Int32.ofInt y &&& 31)).toInt
def wushr (x y : Int) : Int := (((Int32.ofInt x).toUInt32 >>> ((Int32.ofInt y).toUInt32 &&& Int32.toUInt32 31)).toInt32).toInt
def qadd (x y : Int) : Int := (Int64.ofInt x + Int64.ofInt y).toInt
def qsub (x y : Int) : Int := (Int64.ofInt x - Int64.ofInt y).toInt
def qmul (x y : Int) : Int := (Int64.ofInt x * Int64.ofInt y).toInt
def qdiv (x y : Int) : Int := (Int64.ofInt x / Int64.ofInt y).toInt
def qrem (x y : Int) : Int := (Int64.ofInt x - Int64.ofInt x / Int64.ofInt y * Int64.ofInt y).toInt
def qor (x y : Int) : Int := (Int64.ofInt x ||| Int64.ofInt y).toInt
def qshl (x y : Int) : Int := (Int64.ofInt x <<< ((Int32.ofInt y).toInt64 &&& 63)).toInt
def qshr (x y : Int) : Int := (Int64.ofInt x >>> ((Int32.ofInt y).toInt64 &&& 63)).toInt
def wl2i (x : Int) : Int := ((Int64.ofInt x).toInt32).toInt
def qcmp (x y : Int) : Int := if y < x then 1 else if x = y then 0 else -1
/-- all of a list of conditions -/
def zAll : List Prop → Prop
  | [] => True
  | p :: r => p ∧ zAll r
theorem zAll_app {a b : List Prop} : zAll (a ++ b) ↔ zAll a ∧ zAll b := by
  induction a with
  | nil => simp [zAll]
  | cons p r ih => simp [zAll, ih, and_assoc]
/-- locals -/
def zGl (L : zLo) (i : Nat) : Option zAv := match L[i]? with
  | some (some a) => some a
  | _ => none
def zKl (L : zLo) : Nat → zLo
  | 0 => L
  | j + 1 => match zGl L j with
    | some (1, _) => L.set j none
    | _ => L
def zSt (L : zLo) (i : Nat) (a : zAv) : zLo := ((zKl L i).set i (some a))
def zStL (L : zLo) (i : Nat) (a : zAv) : zLo := (((zKl L i).set i (some a)).set (i + 1) none)
section ZX
variable {σ : Type}
abbrev zRs (σ : Type) : Type := Option (List Prop × zCf σ)
def zPu (v : zAv) (len : Nat) (c : zCf σ) : zRs σ := some ([], c.1 + len, c.2.1, v :: c.2.2.1, c.2.2.2)
def zLd (ok : Nat → Bool) (n len : Nat) (c : zCf σ) : zRs σ := match zGl c.2.1 n with
  | some (t, x) => match ok t with
    | true => some ([], c.1 + len, c.2.1, (t, x) :: c.2.2.1, c.2.2.2)
    | false => none
  | none => none
def zSto (ok : Nat → Bool) (n len : Nat) (c : zCf σ) : zRs σ := match c.2.2.1 with
  | (t, x) :: r => match ok t && Nat.blt n c.2.1.length with
    | true => some ([], c.1 + len, zSt c.2.1 n (t, x), r, c.2.2.2)
    | false => none
  | [] => none
def zStoL (n len : Nat) (c : zCf σ) : zRs σ := match c.2.2.1 with
  | (1, x) :: r => match Nat.blt (n + 1) c.2.1.length with
    | true => some ([], c.1 + len, zStL c.2.1 n (1, x), r, c.2.2.2)
    | false => none
  | _ => none
def zB0 (f : Int → Int → Int) (c : zCf σ) : zRs σ := match c.2.2.1 with
  | (0, y) :: (0, x) :: r => some ([], c.1 + 1, c.2.1, (0, f x y) :: r, c.2.2.2)
  | _ => none
def zB0d (f : Int → Int → Int) (c : zCf σ) : zRs σ := match c.2.2.1 with
  | (0, y) :: (0, x) :: r => some ([¬ y = 0], c.1 + 1, c.2.1, (0, f x y) :: r, c.2.2.2)
  | _ => none
def zB1 (f : Int → Int → Int) (c : zCf σ) : zRs σ := match c.2.2.1 with
  | (1, y) :: (1, x) :: r => some ([], c.1 + 1, c.2.1, (1, f x y) :: r, c.2.2.2)
  | _ => none
def zB1d (f : Int → Int → Int) (c : zCf σ) : zRs σ := match c.2.2.1 with
  | (1, y) :: (1, x) :: r => some ([¬ y = 0], c.1 + 1, c.2.1, (1, f x y) :: r, c.2.2.2)
  | _ => none
def zB10 (f : Int → Int → Int) (c : zCf σ) : zRs σ := match c.2.2.1 with
  | (0, y) :: (1, x) :: r => some ([], c.1 + 1, c.2.1, (1, f x y) :: r, c.2.2.2)
  | _ => none
def zCp (c : zCf σ) : zRs σ := match c.2.2.1 with
  | (1, y) :: (1, x) :: r => some ([], c.1 + 1, c.2.1, (0, qcmp x y) :: r, c.2.2.2)
  | _ => none
def zU (s t : Nat) (f : Int → Int) (c : zCf σ) : zRs σ := match c.2.2.1 with
  | (u, x) :: r => match Nat.beq u s with
    | true => some ([], c.1 + 1, c.2.1, (t, f x) :: r, c.2.2.2)
    | false => none
  | _ => none
def zDup (c : zCf σ) : zRs σ := match c.2.2.1 with
  | (t, x) :: r => match Nat.beq t 1 with
    | true => none
    | false => some ([], c.1 + 1, c.2.1, (t, x) :: (t, x) :: r, c.2.2.2)
  | _ => none
def zPop (c : zCf σ) : zRs σ := match c.2.2.1 with
  | (t, _) :: r => match Nat.beq t 1 with
    | true => none
    | false => some ([], c.1 + 1, c.2.1, r, c.2.2.2)
  | _ => none
def zDup2 (c : zCf σ) : zRs σ := match c.2.2.1 with
  | (t, x) :: (u, y) :: r => match Nat.beq t 1 || Nat.beq u 1 with
    | true => none
    | false => some ([], c.1 + 1, c.2.1, (t, x) :: (u, y) :: (t, x) :: (u, y) :: r, c.2.2.2)
  | _ => none
def zCo (k : ClassFile.Cond) (x y : Int) : Prop := match k with
  | .eq => x = y
  | .ne => ¬ x = y
  | .lt => x < y
  | .ge => y ≤ x
  | .gt => y < x
  | .le => x ≤ y
def zJ (off : Int) (pc : Nat) : Option Nat := match decide (0 ≤ (pc : Int) + off) with
  | true => some ((pc : Int) + off).toNat
  | false => none
def zBr (g : Prop) (off d : Int) (r : List zAv) (c : zCf σ) : zRs σ := match zJ off c.1 with
  | some t => match decide (d = 1) with
    | true => some ([g], t, c.2.1, r, c.2.2.2)
    | false => some ([¬ g], c.1 + 3, c.2.1, r, c.2.2.2)
  | none => none
def zIf (k : ClassFile.Cond) (off d : Int) (c : zCf σ) : zRs σ := match c.2.2.1 with
  | (0, x) :: r => zBr (zCo k x 0) off d r c
  | _ => none
def zIc (k : ClassFile.Cond) (off d : Int) (c : zCf σ) : zRs σ := match c.2.2.1 with
  | (0, y) :: (0, x) :: r => zBr (zCo k x y) off d r c
  | _ => none
def zGo (off : Int) (c : zCf σ) : zRs σ := match zJ off c.1 with
  | some t => some ([], t, c.2.1, c.2.2.1, c.2.2.2)
  | none => none
def zTs (dflt lo hi : Int) (offs : Array Int) (d : Int) (c : zCf σ) : zRs σ := match c.2.2.1 with
  | (0, x) :: r => match decide (lo ≤ d) && decide (d ≤ hi) with
    | true => match offs.toList[(d - lo).toNat]? with
      | some off => match zJ off c.1 with
        | some t => some ([x = d], t, c.2.1, r, c.2.2.2)
        | none => none
      | none => none
    | false => match zJ dflt c.1 with
      | some t => some ([x < lo ∨ hi < x], t, c.2.1, r, c.2.2.2)
      | none => none
  | _ => none
def zLk (ps : List (Int × Int)) (d : Int) : Option Int := match ps with
  | [] => none
  | (k, o) :: r => match decide (k = d) with
    | true => some o
    | false => zLk r d
def zLs (dflt : Int) (ps : Array (Int × Int)) (d : Int) (c : zCf σ) : zRs σ := match c.2.2.1 with
  | (0, x) :: r => match (ps.toList.zip (ps.toList.drop 1)).all (fun (a, next) => a.1 < next.1) with
    | true => match zLk ps.toList d with
      | some off => match zJ off c.1 with
        | some t => some ([x = d], t, c.2.1, r, c.2.2.2)
        | none => none
      | none => match zJ dflt c.1 with
        | some t => some (ps.toList.map (fun q => ¬ x = q.1), t, c.2.1, r, c.2.2.2)
        | none => none
    | false => none
  | _ => none
def zIi (n : Nat) (k : Int) (c : zCf σ) : zRs σ := match zGl c.2.1 n with
  | some (0, x) => some ([], c.1 + 3, zSt c.2.1 n (0, wadd x k), c.2.2.1, c.2.2.2)
  | _ => none
def zCk (b : Bool) (r : zRs σ) : zRs σ := match b with
  | true => r
  | false => none
abbrev zHop (σ : Type) : Type := Instr → zAx → List zAv → σ → Option (List Prop × List zAv × σ)
def zHp (hop : zHop σ) (i : Instr) (len : Nat) (ax : zAx) (c : zCf σ) : zRs σ := match hop i ax c.2.2.1 c.2.2.2 with
  | some (gs, st, h) => some (gs, c.1 + len, c.2.1, st, h)
  | none => none
def zEq0 (t : Nat) : Bool := Nat.beq t 0
def zEq1 (t : Nat) : Bool := Nat.beq t 1
def zGe2 (t : Nat) : Bool := Nat.ble 2 t
/-- one instruction; d: the way taken at a branch -/
def zX (hop : zHop σ) (i : Instr) (len : Nat) (ax : zAx) (d : Int) (c : zCf σ) : zRs σ := match i with
  | .aload n => zLd zGe2 n 2 c
  | .aload_n n => zLd zGe2 n 1 c
  | .iload n => zLd zEq0 n 2 c
  | .iload_n n => zLd zEq0 n 1 c
  | .lload n => zLd zEq1 n 2 c
  | .lload_n n => zLd zEq1 n 1 c
  | .astore n => zSto zGe2 n 2 c
  | .astore_n n => zSto zGe2 n 1 c
  | .istore n => zSto zEq0 n 2 c
  | .istore_n n => zSto zEq0 n 1 c
  | .lstore n => zStoL n 2 c
  | .lstore_n n => zStoL n 1 c
  | .iconst n => zCk (decide (-1 ≤ n) && decide (n ≤ 5)) (zPu (0, n) 1 c)
  | .lconst n => zPu (1, ((n : Nat) : Int)) 1 c
  | .bipush n => zCk (decide (-128 ≤ n) && decide (n < 128)) (zPu (0, n) 2 c)
  | .sipush n => zCk (decide (-32768 ≤ n) && decide (n < 32768)) (zPu (0, n) 3 c)
  | .ldc _ => zPu (0, ax.2.2) 2 c
  | .ldc_w _ => zPu (0, ax.2.2) 3 c
  | .ldc2_w _ => zPu (1, ax.2.2) 3 c
  | .iadd => zB0 wadd c
  | .isub => zB0 wsub c
  | .imul => zB0 wmul c
  | .idiv => zB0d wdiv c
  | .irem => zB0d wrem c
  | .iand => zB0 wand c
  | .ior => zB0 wor c
  | .ixor => zB0 wxor c
  | .ishl => zB0 wshl c
  | .ishr => zB0 wshr c
  | .iushr => zB0 wushr c
  | .ineg => zU 0 0 wneg c
  | .ladd => zB1 qadd c
  | .lsub => zB1 qsub c
  | .lmul => zB1 qmul c
  | .ldiv => zB1d qdiv c
  | .lrem => zB1d qrem c
  | .lor => zB1 qor c
  | .lshl => zB10 qshl c
  | .lshr => zB10 qshr c
  | .lcmp => zCp c
  | .i2l => zU 0 1 (fun x => x) c
  | .l2i => zU 1 0 wl2i c
  | .dup => zDup c
  | .pop => zPop c
  | .dup2 => zDup2 c
  | .iinc n k => zIi n k c
  | .ifCond k off => zIf k off d c
  | .if_icmp k off => zIc k off d c
  | .goto off => zGo off c
  | .tableswitch dflt lo hi offs => zTs dflt lo hi offs d c
  | .lookupswitch dflt ps => zLs dflt ps d c
  | .getfield _ => zHp hop i 3 ax c
  | .putfield _ => zHp hop i 3 ax c
  | .iaload => zHp hop i 1 ax c
  | .iastore => zHp hop i 1 ax c
  | .laload => zHp hop i 1 ax c
  | .lastore => zHp hop i 1 ax c
  | .baload => zHp hop i 1 ax c
  | .bastore => zHp hop i 1 ax c
  | .aaload => zHp hop i 1 ax c
  | .aastore => zHp hop i 1 ax c
  | .arraylength => zHp hop i 1 ax c
  | .new _ => zHp hop i 3 ax c
  | .newarray _ => zHp hop i 2 ax c
  | .anewarray _ => zHp hop i 3 ax c
  | .invokestatic _ => zHp hop i 3 ax c
  | .invokespecial _ => zHp hop i 3 ax c
  | _ => none
end ZX
