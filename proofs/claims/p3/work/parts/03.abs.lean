section
/-! An abstract machine with whole numbers for values. Tags: 0 int, 1 long, 2 and on references. -/
def zTy : Nat → Nat → FieldType := fun ci => match ci with
  | 0 => tyX0 | 1 => tyX1 | 2 => tyX2 | 3 => tyX3 | 4 => tyX4 | 5 => tyX5 | 6 => tyX6 | 7 => tyX7 | 8 => tyX8 | 9 => tyX9 | 10 => tyX10 | 11 => tyX11 | _ => tyX12
def zTg (ty : FieldType) : Nat := match ty with
  | .int => 0
  | .boolean => 0
  | .long => 1
  | _ => 2
abbrev zAv : Type := Nat × Int
abbrev zLo : Type := List (Option zAv)
abbrev zAx : Type := Nat × Nat × Int
abbrev zCf (σ : Type) : Type := Nat × zLo × List zAv × σ
def zR32 (x : Int) : Prop := -2147483648 ≤ x ∧ x < 2147483648
def zR64 (x : Int) : Prop := -9223372036854775808 ≤ x ∧ x < 9223372036854775808
def wadd (x y : Int) : Int := (Int32.ofInt x + Int32.ofInt y).toInt
def wsub (x y : Int) : Int := (Int32.ofInt x - Int32.ofInt y).toInt
def wmul (x y : Int) : Int := (Int32.ofInt x * Int32.ofInt y).toInt
def wdiv (x y : Int) : Int := (Int32.ofInt x / Int32.ofInt y).toInt
def wrem (x y : Int) : Int := (Int32.ofInt x - Int32.ofInt x / Int32.ofInt y * Int32.ofInt y).toInt
def wneg (x : Int) : Int := (-Int32.ofInt x).toInt
def wand (x y : Int) : Int := (Int32.ofInt x &&& Int32.ofInt y).toInt
def wor (x y : Int) : Int := (Int32.ofInt x ||| Int32.ofInt y).toInt
def wxor (x y : Int) : Int := (Int32.ofInt x ^^^ Int32.ofInt y).toInt
def wshl (x y : Int) : Int := (Int32.ofInt x <<< (Int32.ofInt y &&& 31)).toInt
def wshr (x y : Int) : Int := (Int32.ofInt x >>> (Int32.ofInt y &&& 31)).toInt
def wushr (x y : Int) : Int := (((Int32.ofInt x).toUInt32 >>> ((Int32.ofInt y).toUInt32 &&& Int32.toUInt32 31)).toInt32).toInt
def qadd (x y : Int) : Int := (Int64.ofInt x + Int64.ofInt y).toInt
def qsub (x y : Int) : Int := (Int64.ofInt x - Int64.ofInt y).toInt
def qmul (x y : Int) : Int := (Int64.ofInt x * Int64.ofInt y).toInt
def qdiv (x y : Int) : Int := (Int64.ofInt x / Int64.ofInt y).toInt
def qrem (x y : Int) : Int := (Int64.ofInt x - Int64.ofInt x / Int64.ofInt y * Int64.ofInt y).toInt
def qor (x y : Int) : Int := (Int64.ofInt x ||| Int64.ofInt y).toInt
def qshl (x y : Int) : Int := (Int64.ofInt x <<< ((Int32.ofInt y).toInt64 &&& 63)).toInt
def qshr (x y : Int) : Int := (Int64.ofInt x >>> ((Int32.ofInt y).toInt64 &&& 63)).toInt
def wl2i (x : Int) : Int := ((Int64.ofInt x).toInt32).toInt
def qcmp (x y : Int) : Int := if y < x then 1 else if x = y then 0 else -1
/-- all of a list of conditions -/
def zAll : List Prop → Prop
  | [] => True
  | p :: r => p ∧ zAll r
theorem zAll_app {a b : List Prop} : zAll (a ++ b) ↔ zAll a ∧ zAll b := by
  induction a with
  | nil => simp [zAll]
  | cons p r ih => simp [zAll, ih, and_assoc]
/-- locals -/
def zGl (L : zLo) (i : Nat) : Option zAv := match L[i]? with
  | some (some a) => some a
  | _ => none
def zKl (L : zLo) : Nat → zLo
  | 0 => L
  | j + 1 => match zGl L j with
    | some (1, _) => L.set j none
    | _ => L
def zSt (L : zLo) (i : Nat) (a : zAv) : zLo := ((zKl L i).set i (some a))
def zStL (L : zLo) (i : Nat) (a : zAv) : zLo := (((zKl L i).set i (some a)).set (i + 1) none)
section ZX
variable {σ : Type}
abbrev zRs (σ : Type) : Type := Option (List Prop × zCf σ)
def zPu (v : zAv) (len : Nat) (c : zCf σ) : zRs σ := some ([], c.1 + len, c.2.1, v :: c.2.2.1, c.2.2.2)
def zLd (ok : Nat → Bool) (n len : Nat) (c : zCf σ) : zRs σ := match zGl c.2.1 n with
  | some (t, x) => match ok t with
    | true => some ([], c.1 + len, c.2.1, (t, x) :: c.2.2.1, c.2.2.2)
    | false => none
  | none => none
def zSto (ok : Nat → Bool) (n len : Nat) (c : zCf σ) : zRs σ := match c.2.2.1 with
  | (t, x) :: r => match ok t && Nat.blt n c.2.1.length with
    | true => some ([], c.1 + len, zSt c.2.1 n (t, x), r, c.2.2.2)
    | false => none
  | [] => none
def zStoL (n len : Nat) (c : zCf σ) : zRs σ := match c.2.2.1 with
  | (1, x) :: r => match Nat.blt (n + 1) c.2.1.length with
    | true => some ([], c.1 + len, zStL c.2.1 n (1, x), r, c.2.2.2)
    | false => none
  | _ => none
def zB0 (f : Int → Int → Int) (c : zCf σ) : zRs σ := match c.2.2.1 with
  | (0, y) :: (0, x) :: r => some ([], c.1 + 1, c.2.1, (0, f x y) :: r, c.2.2.2)
  | _ => none
def zB0d (f : Int → Int → Int) (c : zCf σ) : zRs σ := match c.2.2.1 with
  | (0, y) :: (0, x) :: r => some ([¬ y = 0], c.1 + 1, c.2.1, (0, f x y) :: r, c.2.2.2)
  | _ => none
def zB1 (f : Int → Int → Int) (c : zCf σ) : zRs σ := match c.2.2.1 with
  | (1, y) :: (1, x) :: r => some ([], c.1 + 1, c.2.1, (1, f x y) :: r, c.2.2.2)
  | _ => none
def zB1d (f : Int → Int → Int) (c : zCf σ) : zRs σ := match c.2.2.1 with
  | (1, y) :: (1, x) :: r => some ([¬ y = 0], c.1 + 1, c.2.1, (1, f x y) :: r, c.2.2.2)
  | _ => none
def zB10 (f : Int → Int → Int) (c : zCf σ) : zRs σ := match c.2.2.1 with
  | (0, y) :: (1, x) :: r => some ([], c.1 + 1, c.2.1, (1, f x y) :: r, c.2.2.2)
  | _ => none
def zCp (c : zCf σ) : zRs σ := match c.2.2.1 with
  | (1, y) :: (1, x) :: r => some ([], c.1 + 1, c.2.1, (0, qcmp x y) :: r, c.2.2.2)
  | _ => none
def zU (s t : Nat) (f : Int → Int) (c : zCf σ) : zRs σ := match c.2.2.1 with
  | (u, x) :: r => match Nat.beq u s with
    | true => some ([], c.1 + 1, c.2.1, (t, f x) :: r, c.2.2.2)
    | false => none
  | _ => none
def zDup (c : zCf σ) : zRs σ := match c.2.2.1 with
  | (t, x) :: r => match Nat.beq t 1 with
    | true => none
    | false => some ([], c.1 + 1, c.2.1, (t, x) :: (t, x) :: r, c.2.2.2)
  | _ => none
def zPop (c : zCf σ) : zRs σ := match c.2.2.1 with
  | (t, _) :: r => match Nat.beq t 1 with
    | true => none
    | false => some ([], c.1 + 1, c.2.1, r, c.2.2.2)
  | _ => none
def zDup2 (c : zCf σ) : zRs σ := match c.2.2.1 with
  | (t, x) :: (u, y) :: r => match Nat.beq t 1 || Nat.beq u 1 with
    | true => none
    | false => some ([], c.1 + 1, c.2.1, (t, x) :: (u, y) :: (t, x) :: (u, y) :: r, c.2.2.2)
  | _ => none
def zCo (k : ClassFile.Cond) (x y : Int) : Prop := match k with
  | .eq => x = y
  | .ne => ¬ x = y
  | .lt => x < y
  | .ge => y ≤ x
  | .gt => y < x
  | .le => x ≤ y
def zJ (off : Int) (pc : Nat) : Option Nat := match decide (0 ≤ (pc : Int) + off) with
  | true => some ((pc : Int) + off).toNat
  | false => none
def zBr (g : Prop) (off d : Int) (r : List zAv) (c : zCf σ) : zRs σ := match zJ off c.1 with
  | some t => match decide (d = 1) with
    | true => some ([g], t, c.2.1, r, c.2.2.2)
    | false => some ([¬ g], c.1 + 3, c.2.1, r, c.2.2.2)
  | none => none
def zIf (k : ClassFile.Cond) (off d : Int) (c : zCf σ) : zRs σ := match c.2.2.1 with
  | (0, x) :: r => zBr (zCo k x 0) off d r c
  | _ => none
def zIc (k : ClassFile.Cond) (off d : Int) (c : zCf σ) : zRs σ := match c.2.2.1 with
  | (0, y) :: (0, x) :: r => zBr (zCo k x y) off d r c
  | _ => none
def zGo (off : Int) (c : zCf σ) : zRs σ := match zJ off c.1 with
  | some t => some ([], t, c.2.1, c.2.2.1, c.2.2.2)
  | none => none
def zTs (dflt lo hi : Int) (offs : Array Int) (d : Int) (c : zCf σ) : zRs σ := match c.2.2.1 with
  | (0, x) :: r => match decide (lo ≤ d) && decide (d ≤ hi) with
    | true => match offs.toList[(d - lo).toNat]? with
      | some off => match zJ off c.1 with
        | some t => some ([x = d], t, c.2.1, r, c.2.2.2)
        | none => none
      | none => none
    | false => match zJ dflt c.1 with
      | some t => some ([x < lo ∨ hi < x], t, c.2.1, r, c.2.2.2)
      | none => none
  | _ => none
def zLk (ps : List (Int × Int)) (d : Int) : Option Int := match ps with
  | [] => none
  | (k, o) :: r => match decide (k = d) with
    | true => some o
    | false => zLk r d
def zLs (dflt : Int) (ps : Array (Int × Int)) (d : Int) (c : zCf σ) : zRs σ := match c.2.2.1 with
  | (0, x) :: r => match (ps.toList.zip (ps.toList.drop 1)).all (fun (a, next) => a.1 < next.1) with
    | true => match zLk ps.toList d with
      | some off => match zJ off c.1 with
        | some t => some ([x = d], t, c.2.1, r, c.2.2.2)
        | none => none
      | none => match zJ dflt c.1 with
        | some t => some (ps.toList.map (fun q => ¬ x = q.1), t, c.2.1, r, c.2.2.2)
        | none => none
    | false => none
  | _ => none
def zIi (n : Nat) (k : Int) (c : zCf σ) : zRs σ := match zGl c.2.1 n with
  | some (0, x) => some ([], c.1 + 3, zSt c.2.1 n (0, wadd x k), c.2.2.1, c.2.2.2)
  | _ => none
def zCk (b : Bool) (r : zRs σ) : zRs σ := match b with
  | true => r
  | false => none
abbrev zHop (σ : Type) : Type := Instr → zAx → List zAv → σ → Option (List Prop × List zAv × σ)
def zHp (hop : zHop σ) (i : Instr) (len : Nat) (ax : zAx) (c : zCf σ) : zRs σ := match hop i ax c.2.2.1 c.2.2.2 with
  | some (gs, st, h) => some (gs, c.1 + len, c.2.1, st, h)
  | none => none
def zEq0 (t : Nat) : Bool := Nat.beq t 0
def zEq1 (t : Nat) : Bool := Nat.beq t 1
def zGe2 (t : Nat) : Bool := Nat.ble 2 t
/-- one instruction; d: the way taken at a branch -/
def zX (hop : zHop σ) (i : Instr) (len : Nat) (ax : zAx) (d : Int) (c : zCf σ) : zRs σ := match i with
  | .aload n => zLd zGe2 n 2 c
  | .aload_n n => zLd zGe2 n 1 c
  | .iload n => zLd zEq0 n 2 c
  | .iload_n n => zLd zEq0 n 1 c
  | .lload n => zLd zEq1 n 2 c
  | .lload_n n => zLd zEq1 n 1 c
  | .astore n => zSto zGe2 n 2 c
  | .astore_n n => zSto zGe2 n 1 c
  | .istore n => zSto zEq0 n 2 c
  | .istore_n n => zSto zEq0 n 1 c
  | .lstore n => zStoL n 2 c
  | .lstore_n n => zStoL n 1 c
  | .iconst n => zCk (decide (-1 ≤ n) && decide (n ≤ 5)) (zPu (0, n) 1 c)
  | .lconst n => zPu (1, ((n : Nat) : Int)) 1 c
  | .bipush n => zCk (decide (-128 ≤ n) && decide (n < 128)) (zPu (0, n) 2 c)
  | .sipush n => zCk (decide (-32768 ≤ n) && decide (n < 32768)) (zPu (0, n) 3 c)
  | .ldc _ => zPu (0, ax.2.2) 2 c
  | .ldc_w _ => zPu (0, ax.2.2) 3 c
  | .ldc2_w _ => zPu (1, ax.2.2) 3 c
  | .iadd => zB0 wadd c
  | .isub => zB0 wsub c
  | .imul => zB0 wmul c
  | .idiv => zB0d wdiv c
  | .irem => zB0d wrem c
  | .iand => zB0 wand c
  | .ior => zB0 wor c
  | .ixor => zB0 wxor c
  | .ishl => zB0 wshl c
  | .ishr => zB0 wshr c
  | .iushr => zB0 wushr c
  | .ineg => zU 0 0 wneg c
  | .ladd => zB1 qadd c
  | .lsub => zB1 qsub c
  | .lmul => zB1 qmul c
  | .ldiv => zB1d qdiv c
  | .lrem => zB1d qrem c
  | .lor => zB1 qor c
  | .lshl => zB10 qshl c
  | .lshr => zB10 qshr c
  | .lcmp => zCp c
  | .i2l => zU 0 1 (fun x => x) c
  | .l2i => zU 1 0 wl2i c
  | .dup => zDup c
  | .pop => zPop c
  | .dup2 => zDup2 c
  | .iinc n k => zIi n k c
  | .ifCond k off => zIf k off d c
  | .if_icmp k off => zIc k off d c
  | .goto off => zGo off c
  | .tableswitch dflt lo hi offs => zTs dflt lo hi offs d c
  | .lookupswitch dflt ps => zLs dflt ps d c
  | .getfield _ => zHp hop i 3 ax c
  | .putfield _ => zHp hop i 3 ax c
  | .iaload => zHp hop i 1 ax c
  | .iastore => zHp hop i 1 ax c
  | .laload => zHp hop i 1 ax c
  | .lastore => zHp hop i 1 ax c
  | .baload => zHp hop i 1 ax c
  | .bastore => zHp hop i 1 ax c
  | .aaload => zHp hop i 1 ax c
  | .aastore => zHp hop i 1 ax c
  | .arraylength => zHp hop i 1 ax c
  | .new _ => zHp hop i 3 ax c
  | .newarray _ => zHp hop i 2 ax c
  | .anewarray _ => zHp hop i 3 ax c
  | .invokestatic _ => zHp hop i 3 ax c
  | .invokespecial _ => zHp hop i 3 ax c
  | _ => none
end ZX
end
section
/-! links of the pools: class, index, what, places of the words (chunk, index) -/
def zT (k : Nat) : List Cond := match k with
  | 0 => k2_sels lw_privs
  | 1 => tables_1_1
  | 2 => tables_1_2
  | 3 => tables_1_3
  | 4 => tables_1_4
  | 5 => tables_1_5
  | 6 => tables_1_6
  | 7 => tables_1_7
  | 8 => tables_1_8
  | _ => []
def zLF : List (Nat × Nat × Nat × Nat × Nat × Nat) := [(5, 9, 5, 0, 1, 95), (4, 30, 5, 0, 1, 96), (4, 24, 5, 1, 1, 97), (11, 105, 5, 1, 1, 98), (5, 39, 5, 1, 1, 99), (11, 136, 5, 2, 1, 100), (5, 48, 5, 2, 1, 101), (11, 116, 5, 3, 1, 102), (5, 51, 5, 3, 1, 103), (10, 46, 5, 4, 1, 104), (0, 33, 5, 4, 1, 105), (7, 62, 5, 4, 1, 106), (5, 70, 5, 4, 1, 107), (5, 67, 5, 5, 1, 108), (0, 36, 5, 6, 1, 109), (10, 52, 5, 6, 1, 110), (7, 66, 5, 6, 1, 111), (5, 82, 5, 6, 1, 112), (10, 95, 5, 7, 1, 113), (5, 88, 5, 7, 1, 114), (5, 45, 5, 8, 1, 115), (5, 42, 5, 9, 1, 116), (5, 19, 5, 10, 1, 117), (9, 52, 9, 0, 1, 150), (10, 76, 9, 0, 1, 151), (11, 365, 9, 0, 1, 152), (9, 56, 9, 1, 1, 153), (10, 86, 9, 1, 1, 154), (11, 368, 9, 1, 1, 155), (9, 59, 9, 2, 1, 156), (4, 33, 9, 2, 1, 157), (10, 89, 9, 2, 1, 158), (1, 69, 9, 2, 1, 159), (11, 282, 9, 2, 1, 160), (9, 62, 9, 3, 1, 161), (2, 39, 9, 3, 1, 162), (10, 120, 9, 3, 1, 163), (11, 311, 9, 3, 1, 164), (9, 65, 9, 4, 1, 165), (10, 132, 9, 4, 1, 166), (1, 92, 9, 4, 1, 167), (9, 68, 9, 5, 1, 168), (10, 151, 9, 5, 1, 169), (9, 71, 9, 6, 1, 170), (10, 160, 9, 6, 1, 171), (9, 9, 9, 7, 1, 172), (10, 106, 9, 7, 1, 173), (11, 330, 9, 7, 1, 174), (9, 15, 9, 8, 1, 175), (10, 110, 9, 8, 1, 176), (11, 150, 9, 8, 1, 177), (9, 19, 9, 9, 1, 178), (10, 114, 9, 9, 1, 179), (4, 71, 9, 9, 1, 180), (11, 153, 9, 9, 1, 181), (1, 84, 9, 9, 1, 182), (9, 22, 9, 10, 1, 183), (10, 117, 9, 10, 1, 184), (11, 156, 9, 10, 1, 185), (1, 116, 9, 10, 1, 186), (9, 25, 9, 11, 1, 187), (10, 123, 9, 11, 1, 188), (9, 28, 9, 12, 1, 189), (1, 40, 9, 12, 1, 190), (10, 126, 9, 12, 1, 191), (9, 31, 9, 13, 1, 192), (10, 129, 9, 13, 1, 193), (11, 188, 9, 13, 1, 194), (9, 34, 9, 14, 1, 195), (10, 145, 9, 14, 1, 196), (1, 95, 9, 14, 1, 197), (9, 37, 9, 15, 1, 198), (10, 142, 9, 15, 1, 199), (1, 98, 9, 15, 1, 200), (9, 40, 9, 16, 1, 201), (10, 148, 9, 16, 1, 202), (1, 101, 9, 16, 1, 203), (9, 43, 9, 17, 1, 204), (10, 157, 9, 17, 1, 205), (9, 46, 9, 18, 1, 206), (10, 166, 9, 18, 1, 207), (9, 49, 9, 19, 1, 208), (10, 169, 9, 19, 1, 209), (10, 12, 10, 0, 2, 19), (11, 119, 10, 0, 2, 20), (10, 25, 10, 1, 2, 21), (11, 133, 10, 1, 2, 22), (10, 18, 10, 2, 2, 23), (0, 15, 0, 0, 2, 37), (11, 308, 0, 0, 2, 38), (0, 9, 0, 1, 2, 39), (6, 19, 6, 0, 2, 51), (7, 69, 6, 0, 2, 52), (11, 351, 6, 0, 2, 53), (6, 23, 6, 1, 2, 54), (6, 9, 6, 2, 2, 55), (6, 15, 6, 3, 2, 56), (7, 12, 7, 0, 2, 75), (11, 347, 7, 0, 2, 76), (7, 18, 7, 1, 2, 77), (1, 30, 1, 0, 2, 89), (2, 22, 1, 0, 2, 90), (11, 159, 1, 0, 2, 91), (4, 74, 1, 0, 2, 92), (1, 34, 1, 1, 2, 93), (0, 61, 1, 1, 2, 94), (4, 78, 1, 1, 2, 95), (11, 354, 1, 1, 2, 96), (1, 37, 1, 2, 2, 97), (4, 81, 1, 2, 2, 98), (11, 208, 1, 2, 2, 99), (1, 9, 1, 3, 2, 100), (11, 177, 1, 3, 2, 101), (1, 15, 1, 4, 2, 102), (11, 199, 1, 4, 2, 103), (1, 18, 1, 5, 2, 104), (11, 202, 1, 5, 2, 105), (1, 21, 1, 6, 2, 106), (1, 24, 1, 7, 2, 107), (1, 27, 1, 8, 2, 108), (8, 18, 8, 0, 2, 137), (11, 239, 8, 0, 2, 138), (8, 22, 8, 1, 2, 139), (8, 11, 8, 2, 2, 140), (11, 362, 3, 0, 2, 161), (3, 10, 3, 1, 2, 162), (11, 359, 3, 1, 2, 163), (3, 19, 3, 2, 2, 164), (11, 360, 3, 2, 2, 165), (3, 26, 3, 3, 2, 166), (11, 361, 3, 3, 2, 167), (4, 45, 4, 0, 2, 183), (11, 299, 4, 0, 2, 184), (4, 9, 4, 1, 2, 185), (11, 302, 4, 1, 2, 186), (4, 42, 4, 2, 2, 187), (4, 15, 4, 3, 2, 188), (4, 18, 4, 4, 2, 189), (4, 21, 4, 5, 2, 190), (2, 16, 2, 0, 2, 210), (11, 317, 2, 0, 2, 211), (2, 19, 2, 1, 2, 212), (11, 320, 2, 1, 2, 213), (2, 9, 2, 2, 2, 214), (11, 12, 11, 0, 2, 222), (11, 19, 11, 1, 2, 223), (11, 28, 11, 2, 2, 224), (11, 35, 11, 3, 2, 225), (11, 42, 11, 4, 2, 226), (11, 49, 11, 5, 2, 227), (11, 56, 11, 6, 2, 228), (11, 60, 11, 7, 2, 229), (11, 66, 11, 8, 2, 230), (11, 72, 11, 9, 2, 231), (11, 80, 11, 10, 2, 232), (11, 87, 11, 11, 2, 233), (11, 91, 11, 12, 2, 234), (11, 95, 11, 13, 2, 235), (11, 327, 11, 14, 2, 236), (11, 98, 11, 15, 2, 237), (11, 102, 11, 16, 2, 238), (12, 81, 12, 0, 6, 52), (12, 7, 12, 1, 6, 53), (12, 85, 12, 2, 6, 54), (12, 96, 12, 3, 6, 55), (12, 104, 12, 4, 6, 56), (12, 98, 12, 5, 6, 57), (12, 101, 12, 6, 6, 58), (12, 107, 12, 7, 6, 59), (12, 124, 12, 8, 6, 60), (12, 117, 12, 9, 6, 61), (12, 142, 12, 10, 6, 62), (12, 145, 12, 11, 6, 63), (12, 120, 12, 12, 6, 64), (12, 155, 12, 13, 6, 65), (12, 13, 12, 14, 6, 66), (12, 16, 12, 15, 6, 67), (12, 19, 12, 16, 6, 68), (12, 22, 12, 17, 6, 69), (12, 25, 12, 18, 6, 70), (12, 28, 12, 19, 6, 71), (12, 32, 12, 20, 6, 72), (12, 35, 12, 21, 6, 73), (12, 38, 12, 22, 6, 74), (12, 232, 12, 23, 6, 75), (12, 186, 12, 24, 6, 76), (12, 42, 12, 25, 6, 77), (12, 45, 12, 26, 6, 78), (12, 48, 12, 27, 6, 79), (12, 51, 12, 28, 6, 80), (12, 54, 12, 29, 6, 81), (12, 57, 12, 30, 6, 82), (12, 60, 12, 31, 6, 83), (12, 63, 12, 32, 6, 84), (12, 66, 12, 33, 6, 85), (12, 345, 12, 34, 6, 86), (12, 351, 12, 35, 6, 87), (12, 360, 12, 36, 6, 88), (12, 363, 12, 37, 6, 89), (12, 369, 12, 38, 6, 90), (12, 373, 12, 39, 6, 91), (12, 376, 12, 40, 6, 92), (12, 69, 12, 41, 6, 93), (12, 72, 12, 42, 6, 94), (12, 75, 12, 43, 6, 95), (12, 385, 12, 44, 6, 96), (12, 78, 12, 45, 6, 97), (12, 394, 12, 46, 6, 98), (12, 410, 12, 47, 6, 99), (12, 413, 12, 48, 6, 100), (12, 400, 12, 49, 6, 101)]
def zLV : List (Nat × Nat × Nat × Nat × Nat × Nat × Nat × Nat × Nat) := [(16, 25, 14, 3, 34, 3, 35, 3, 36), (11, 108, 15, 3, 38, 3, 39, 3, 40), (16, 30, 16, 3, 42, 3, 43, 3, 44), (16, 35, 17, 3, 46, 3, 47, 3, 48), (11, 112, 18, 3, 50, 3, 51, 3, 52), (10, 22, 19, 3, 54, 3, 55, 3, 56), (10, 29, 20, 3, 58, 3, 59, 3, 60), (5, 54, 21, 3, 62, 3, 63, 3, 64), (5, 79, 26, 3, 78, 3, 80, 0, 0), (5, 92, 27, 3, 82, 3, 84, 0, 1), (10, 35, 29, 3, 89, 3, 90, 3, 91), (10, 39, 30, 3, 93, 3, 95, 0, 2), (10, 49, 31, 3, 97, 3, 98, 3, 99), (10, 55, 32, 3, 101, 3, 103, 0, 3), (10, 79, 21, 3, 105, 3, 63, 3, 64), (10, 82, 33, 3, 106, 3, 107, 3, 108), (5, 96, 31, 3, 110, 3, 98, 3, 99), (10, 58, 34, 3, 111, 3, 113, 0, 4), (10, 92, 35, 3, 115, 3, 117, 0, 5), (10, 172, 36, 3, 119, 3, 120, 3, 121), (9, 86, 37, 3, 123, 3, 124, 3, 125), (9, 90, 38, 3, 127, 3, 128, 3, 129), (10, 99, 39, 3, 131, 3, 133, 0, 6), (10, 103, 40, 3, 135, 3, 136, 3, 137), (10, 61, 41, 3, 139, 3, 141, 0, 7), (10, 64, 42, 3, 143, 3, 145, 0, 8), (10, 135, 43, 3, 147, 3, 148, 3, 149), (5, 102, 38, 3, 151, 3, 128, 3, 129), (10, 139, 44, 3, 152, 3, 153, 3, 154), (10, 67, 45, 3, 156, 3, 158, 0, 9), (10, 70, 46, 3, 160, 3, 162, 0, 10), (10, 154, 47, 3, 164, 3, 165, 3, 166), (10, 73, 48, 3, 168, 3, 170, 0, 11), (10, 163, 49, 3, 172, 3, 173, 3, 174), (10, 42, 50, 3, 176, 3, 177, 3, 178), (5, 99, 51, 3, 180, 3, 181, 3, 182), (11, 120, 52, 3, 184, 3, 185, 3, 186), (11, 124, 53, 3, 191, 3, 192, 3, 193), (11, 127, 54, 3, 196, 3, 197, 3, 198), (11, 130, 55, 3, 200, 3, 201, 3, 202), (16, 40, 56, 3, 204, 3, 205, 3, 206), (16, 56, 57, 3, 208, 3, 209, 3, 210), (11, 191, 58, 3, 212, 3, 214, 0, 12), (11, 139, 59, 3, 216, 3, 218, 0, 13), (16, 61, 60, 3, 220, 3, 221, 3, 222), (11, 172, 61, 3, 224, 3, 226, 0, 14), (11, 205, 62, 3, 228, 3, 229, 3, 230), (1, 138, 63, 3, 232, 3, 233, 3, 234), (16, 65, 66, 4, 5, 4, 6, 4, 7), (11, 211, 67, 4, 9, 4, 10, 4, 11), (16, 69, 68, 4, 13, 4, 14, 4, 15), (11, 214, 69, 4, 17, 4, 18, 4, 19), (11, 217, 70, 4, 21, 4, 22, 4, 23), (8, 25, 71, 4, 25, 4, 26, 4, 27), (1, 51, 72, 4, 29, 4, 30, 4, 31), (16, 74, 73, 4, 33, 4, 34, 4, 35), (11, 224, 75, 4, 40, 4, 41, 4, 42), (11, 227, 76, 4, 44, 4, 45, 4, 46), (1, 55, 77, 4, 48, 4, 49, 4, 50), (9, 93, 47, 4, 52, 3, 165, 3, 166), (1, 59, 79, 4, 56, 4, 57, 4, 58), (1, 72, 82, 4, 66, 4, 67, 4, 68), (1, 76, 85, 4, 76, 4, 78, 0, 15), (1, 80, 86, 4, 80, 4, 82, 0, 16), (16, 78, 87, 4, 85, 4, 86, 4, 87), (11, 231, 88, 4, 89, 4, 90, 4, 91), (1, 88, 89, 4, 93, 4, 94, 4, 95), (1, 104, 90, 4, 97, 4, 99, 0, 17), (1, 112, 91, 4, 101, 4, 102, 4, 103), (1, 124, 92, 4, 106, 4, 108, 0, 18), (1, 127, 93, 4, 110, 4, 111, 4, 112), (1, 131, 94, 4, 114, 4, 116, 0, 19), (1, 135, 95, 4, 118, 4, 119, 4, 120), (16, 83, 96, 4, 122, 4, 123, 4, 124), (11, 235, 97, 4, 126, 4, 127, 4, 128), (16, 87, 98, 4, 130, 4, 131, 4, 132), (11, 245, 100, 4, 137, 4, 139, 0, 20), (11, 266, 71, 4, 141, 4, 26, 4, 27), (11, 179, 101, 4, 142, 4, 143, 4, 144), (1, 150, 62, 4, 146, 3, 229, 3, 230), (16, 91, 102, 4, 147, 4, 148, 4, 149), (16, 95, 103, 4, 151, 4, 152, 4, 153), (11, 249, 104, 4, 155, 4, 157, 0, 21), (11, 371, 105, 4, 159, 4, 160, 4, 161), (11, 252, 106, 4, 163, 4, 165, 0, 22), (16, 99, 107, 4, 168, 4, 169, 4, 170), (11, 256, 108, 4, 172, 4, 174, 0, 23), (11, 259, 109, 4, 176, 4, 178, 0, 24), (16, 103, 110, 4, 180, 4, 181, 4, 182), (11, 262, 111, 4, 184, 4, 186, 0, 25), (11, 276, 72, 4, 188, 4, 30, 4, 31), (11, 196, 63, 4, 189, 3, 233, 3, 234), (16, 107, 112, 4, 190, 4, 191, 4, 192), (16, 111, 113, 4, 194, 4, 195, 4, 196), (11, 268, 89, 4, 198, 4, 94, 4, 95), (16, 115, 114, 4, 199, 4, 200, 4, 201), (16, 119, 115, 4, 203, 4, 204, 4, 205), (16, 123, 116, 4, 207, 4, 208, 4, 209), (16, 127, 117, 4, 211, 4, 212, 4, 213), (11, 279, 77, 4, 216, 4, 49, 4, 50), (11, 285, 82, 4, 217, 4, 67, 4, 68), (16, 131, 118, 4, 219, 4, 220, 4, 221), (11, 291, 119, 4, 223, 4, 224, 4, 225), (11, 295, 120, 4, 228, 4, 229, 4, 230), (4, 48, 121, 4, 232, 4, 234, 0, 26), (4, 52, 69, 5, 0, 4, 18, 4, 19), (4, 55, 123, 5, 1, 5, 3, 0, 27), (4, 84, 79, 5, 5, 4, 57, 4, 58), (4, 88, 124, 5, 6, 5, 7, 5, 8), (1, 108, 125, 5, 10, 5, 11, 5, 12), (4, 91, 126, 5, 14, 5, 16, 0, 28), (4, 95, 67, 5, 18, 4, 10, 4, 11), (4, 59, 127, 5, 19, 5, 21, 0, 29), (16, 135, 128, 5, 23, 5, 24, 5, 25), (16, 139, 129, 5, 27, 5, 28, 5, 29), (11, 305, 130, 5, 31, 5, 32, 5, 33), (0, 19, 20, 5, 35, 3, 59, 3, 60), (0, 25, 29, 5, 36, 3, 90, 3, 91), (0, 29, 131, 5, 37, 5, 39, 0, 30), (0, 39, 31, 5, 41, 3, 98, 3, 99), (0, 43, 21, 5, 42, 3, 63, 3, 64), (0, 46, 43, 5, 43, 3, 148, 3, 149), (0, 50, 33, 5, 44, 3, 107, 3, 108), (0, 66, 63, 5, 48, 3, 233, 3, 234), (0, 58, 50, 5, 50, 3, 177, 3, 178), (16, 143, 133, 5, 51, 5, 52, 5, 53), (11, 314, 134, 5, 55, 5, 56, 5, 57), (2, 27, 135, 5, 59, 5, 61, 0, 31), (2, 31, 89, 5, 64, 4, 94, 4, 95), (2, 35, 136, 5, 65, 5, 67, 0, 32), (2, 44, 75, 5, 69, 4, 41, 4, 42), (2, 48, 76, 5, 70, 4, 45, 4, 46), (16, 147, 137, 5, 71, 5, 72, 5, 73), (16, 151, 138, 5, 75, 5, 76, 5, 77), (16, 155, 139, 5, 79, 5, 80, 5, 81), (16, 159, 140, 5, 83, 5, 84, 5, 85), (16, 163, 141, 5, 87, 5, 88, 5, 89), (11, 323, 93, 5, 91, 4, 111, 4, 112), (16, 167, 142, 5, 92, 5, 93, 5, 94), (11, 334, 143, 5, 96, 5, 98, 0, 33), (11, 338, 144, 5, 100, 5, 102, 0, 34), (11, 341, 145, 5, 104, 5, 106, 0, 35), (16, 171, 146, 5, 108, 5, 109, 5, 110), (16, 175, 147, 5, 112, 5, 113, 5, 114), (11, 344, 148, 5, 116, 5, 117, 5, 118), (7, 22, 54, 5, 120, 3, 197, 3, 198), (7, 25, 20, 5, 121, 3, 59, 3, 60), (7, 31, 149, 5, 122, 5, 124, 0, 36), (7, 43, 150, 5, 126, 5, 128, 0, 37), (7, 56, 151, 5, 130, 5, 132, 0, 38), (7, 59, 51, 5, 134, 3, 181, 3, 182), (7, 39, 31, 5, 135, 3, 98, 3, 99), (7, 49, 21, 5, 136, 3, 63, 3, 64), (7, 72, 50, 5, 137, 3, 177, 3, 178), (7, 46, 152, 5, 138, 5, 139, 5, 140), (7, 52, 153, 5, 142, 5, 143, 5, 144), (7, 75, 154, 5, 146, 5, 148, 0, 39), (7, 79, 43, 5, 150, 3, 148, 3, 149), (7, 35, 29, 5, 151, 3, 90, 3, 91), (11, 348, 155, 5, 152, 5, 153, 5, 154), (16, 179, 156, 5, 157, 5, 158, 5, 159), (11, 355, 157, 5, 161, 5, 162, 5, 163), (6, 32, 158, 5, 165, 5, 167, 0, 40), (6, 36, 63, 5, 169, 3, 233, 3, 234), (6, 42, 125, 5, 170, 5, 11, 5, 12), (16, 183, 160, 5, 176, 5, 177, 5, 178), (16, 187, 161, 5, 180, 5, 181, 5, 182), (16, 191, 162, 5, 184, 5, 185, 5, 186), (11, 162, 91, 5, 188, 4, 102, 4, 103), (16, 7, 163, 5, 193, 5, 194, 5, 195), (16, 15, 164, 6, 25, 6, 26, 6, 27), (11, 182, 165, 6, 30, 6, 31, 6, 32), (11, 185, 166, 6, 34, 6, 35, 6, 36), (16, 18, 167, 6, 41, 6, 42, 6, 43), (16, 29, 170, 6, 203, 6, 204, 6, 205), (12, 88, 171, 6, 207, 6, 209, 0, 42), (16, 34, 172, 6, 211, 6, 212, 6, 213), (16, 39, 173, 6, 215, 6, 216, 6, 217), (12, 226, 174, 6, 219, 6, 221, 0, 43), (12, 168, 175, 6, 223, 6, 225, 0, 44), (12, 162, 176, 6, 227, 6, 229, 0, 45), (12, 127, 179, 6, 237, 6, 239, 0, 46), (12, 229, 180, 7, 3, 7, 5, 0, 47), (12, 199, 181, 7, 7, 7, 9, 0, 48), (12, 202, 184, 7, 17, 7, 19, 0, 49), (12, 148, 185, 7, 21, 7, 23, 0, 50), (12, 180, 186, 7, 25, 7, 27, 0, 51), (12, 158, 187, 7, 29, 7, 31, 0, 52), (12, 205, 189, 7, 36, 7, 38, 0, 53), (12, 190, 190, 7, 40, 7, 42, 0, 54), (12, 172, 191, 7, 44, 7, 46, 0, 55), (12, 183, 193, 7, 51, 7, 53, 0, 56), (12, 208, 194, 7, 55, 7, 57, 0, 57), (12, 193, 195, 7, 59, 7, 61, 0, 58), (12, 211, 196, 7, 63, 7, 65, 0, 59), (12, 196, 197, 7, 67, 7, 69, 0, 60), (12, 214, 198, 7, 71, 7, 73, 0, 61), (12, 217, 199, 7, 75, 7, 77, 0, 62), (12, 220, 200, 7, 79, 7, 81, 0, 63), (12, 223, 201, 7, 83, 7, 85, 0, 64), (12, 165, 202, 7, 87, 7, 89, 0, 65), (16, 43, 203, 7, 91, 7, 92, 7, 93), (16, 49, 204, 7, 95, 7, 96, 7, 97), (12, 235, 205, 7, 99, 7, 101, 0, 66), (12, 238, 206, 7, 103, 7, 105, 0, 67), (12, 241, 207, 7, 107, 7, 109, 0, 68), (12, 244, 208, 7, 111, 7, 113, 0, 69), (16, 52, 209, 7, 115, 7, 116, 7, 117), (12, 260, 210, 7, 119, 7, 121, 0, 70), (12, 263, 211, 7, 123, 7, 125, 0, 71), (12, 257, 212, 7, 127, 7, 129, 0, 72), (12, 247, 213, 7, 131, 7, 133, 0, 73), (16, 55, 216, 7, 141, 7, 142, 7, 143), (12, 266, 217, 7, 145, 7, 147, 0, 74), (16, 60, 218, 7, 149, 7, 150, 7, 151), (12, 269, 219, 7, 153, 7, 155, 0, 75), (16, 64, 220, 7, 157, 7, 158, 7, 159), (16, 68, 221, 7, 161, 7, 162, 7, 163), (16, 86, 222, 7, 165, 7, 166, 7, 167), (16, 73, 223, 7, 169, 7, 170, 7, 171), (12, 305, 224, 7, 173, 7, 175, 0, 76), (12, 308, 225, 7, 177, 7, 179, 0, 77), (16, 77, 226, 7, 181, 7, 182, 7, 183), (12, 311, 227, 7, 185, 7, 187, 0, 78), (12, 273, 228, 7, 189, 7, 191, 0, 79), (12, 276, 229, 7, 193, 7, 195, 0, 80), (12, 282, 232, 7, 203, 7, 205, 0, 81), (12, 285, 233, 7, 207, 7, 209, 0, 82), (16, 82, 234, 7, 211, 7, 212, 7, 213), (12, 314, 235, 7, 215, 7, 217, 0, 83), (12, 302, 236, 7, 219, 7, 221, 0, 84), (12, 292, 237, 7, 223, 7, 225, 0, 85), (12, 298, 239, 7, 230, 7, 232, 0, 86), (12, 289, 240, 7, 234, 7, 236, 0, 87), (16, 90, 241, 7, 238, 7, 239, 8, 0), (12, 326, 243, 8, 5, 8, 7, 0, 88), (12, 317, 244, 8, 9, 8, 11, 0, 89), (12, 320, 245, 8, 13, 8, 15, 0, 90), (16, 94, 246, 8, 17, 8, 18, 8, 19), (16, 98, 247, 8, 21, 8, 22, 8, 23), (12, 329, 248, 8, 25, 8, 27, 0, 91), (12, 332, 249, 8, 29, 8, 31, 0, 92), (16, 102, 250, 8, 33, 8, 34, 8, 35), (12, 336, 251, 8, 37, 8, 39, 0, 93), (16, 106, 252, 8, 41, 8, 42, 8, 43), (16, 110, 253, 8, 45, 8, 46, 8, 47), (16, 114, 254, 8, 49, 8, 50, 8, 51), (16, 118, 255, 8, 53, 8, 54, 8, 55), (16, 122, 256, 8, 57, 8, 58, 8, 59), (16, 126, 257, 8, 61, 8, 62, 8, 63), (16, 130, 258, 8, 65, 8, 66, 8, 67), (12, 339, 259, 8, 69, 8, 71, 0, 94), (16, 162, 260, 8, 73, 8, 74, 8, 75), (16, 166, 261, 8, 77, 8, 78, 8, 79), (16, 134, 262, 8, 81, 8, 82, 8, 83), (12, 348, 263, 8, 85, 8, 87, 0, 95), (12, 354, 264, 8, 89, 8, 91, 0, 96), (12, 342, 265, 8, 93, 8, 95, 0, 97), (12, 357, 266, 8, 97, 8, 99, 0, 98), (16, 138, 267, 8, 101, 8, 102, 8, 103), (16, 142, 268, 8, 105, 8, 106, 8, 107), (12, 366, 269, 8, 109, 8, 111, 0, 99), (16, 146, 270, 8, 113, 8, 114, 8, 115), (12, 382, 271, 8, 117, 8, 119, 0, 100), (12, 379, 272, 8, 121, 8, 123, 0, 101), (16, 150, 273, 8, 126, 8, 127, 8, 128), (16, 154, 274, 8, 130, 8, 131, 8, 132), (16, 158, 275, 8, 134, 8, 135, 8, 136), (16, 170, 276, 8, 138, 8, 139, 8, 140), (12, 388, 277, 8, 142, 8, 144, 0, 102), (12, 391, 278, 8, 146, 8, 148, 0, 103), (16, 174, 279, 8, 150, 8, 151, 8, 152), (16, 178, 280, 8, 154, 8, 155, 8, 156), (12, 428, 281, 8, 158, 8, 160, 0, 104), (12, 397, 282, 8, 162, 8, 164, 0, 105), (12, 407, 283, 8, 166, 8, 168, 0, 106), (12, 416, 284, 8, 170, 8, 172, 0, 107), (12, 419, 285, 8, 174, 8, 176, 0, 108), (12, 403, 286, 8, 178, 8, 180, 0, 109), (12, 422, 287, 8, 182, 8, 184, 0, 110), (12, 425, 288, 8, 186, 8, 188, 0, 111), (16, 182, 289, 8, 190, 8, 191, 8, 192), (12, 431, 290, 8, 194, 8, 196, 0, 112), (12, 434, 291, 8, 198, 8, 200, 0, 113), (16, 186, 292, 8, 202, 8, 203, 8, 204), (16, 190, 293, 8, 206, 8, 207, 8, 208), (16, 194, 294, 8, 210, 8, 211, 8, 212)]
def zLS : List (Nat × Nat × Nat × Nat × Nat × Nat × Nat) := [(5, 15, 2, 1, 40, 1, 41), (5, 35, 3, 1, 92, 1, 93), (5, 63, 23, 3, 69, 3, 70), (5, 73, 24, 3, 72, 3, 73), (5, 76, 25, 3, 75, 3, 76), (5, 85, 28, 3, 86, 3, 87), (1, 141, 64, 3, 236, 3, 237), (11, 221, 74, 4, 37, 4, 38), (1, 63, 80, 4, 60, 4, 61), (15, 13, 81, 4, 63, 4, 64), (9, 101, 83, 4, 70, 4, 71), (11, 242, 99, 4, 134, 4, 135), (11, 272, 65, 4, 167, 4, 3), (4, 63, 122, 4, 236, 4, 237), (0, 54, 132, 5, 45, 5, 46), (6, 46, 64, 5, 171, 3, 237), (6, 56, 159, 5, 173, 5, 174), (12, 110, 177, 6, 231, 6, 232), (12, 114, 178, 6, 234, 6, 235), (12, 138, 182, 7, 11, 7, 12), (12, 134, 183, 7, 14, 7, 15), (12, 151, 188, 7, 33, 7, 34), (12, 176, 192, 7, 48, 7, 49), (12, 251, 214, 7, 135, 7, 136), (12, 254, 215, 7, 138, 7, 139), (12, 279, 230, 7, 197, 7, 198), (12, 92, 231, 7, 200, 7, 201), (12, 295, 238, 7, 227, 7, 228), (12, 323, 242, 8, 2, 8, 3)]
def zLSN : List (Nat × Nat × Nat × Nat × Nat × Nat × Nat) := [(1, 146, 65, 4, 2, 4, 3), (4, 38, 74, 4, 227, 4, 38), (4, 67, 65, 4, 239, 4, 3), (0, 70, 65, 5, 49, 4, 3), (6, 52, 65, 5, 172, 4, 3)]
def zLP : List (Nat × Nat × Nat × Nat × Nat × Nat × Nat) := [(16, 21, 0, 1, 28, 1, 29), (11, 25, 5, 2, 13, 2, 14), (11, 34, 6, 2, 33, 2, 34), (11, 48, 8, 2, 69, 2, 70), (11, 65, 10, 2, 130, 2, 131), (16, 24, 168, 6, 48, 6, 49)]
def zLPN : List (Nat × Nat × Nat × Nat × Nat × Nat × Nat) := [(11, 11, 1, 1, 36, 1, 37), (11, 18, 4, 1, 146, 1, 147), (10, 11, 4, 2, 18, 1, 147), (11, 41, 7, 2, 47, 2, 48), (7, 11, 7, 2, 74, 2, 48), (11, 55, 9, 2, 85, 2, 86), (8, 17, 9, 2, 136, 2, 86), (11, 76, 11, 2, 151, 2, 152), (3, 9, 4, 2, 156, 1, 147), (3, 18, 9, 2, 158, 2, 86), (3, 25, 7, 2, 160, 2, 48), (11, 79, 12, 2, 179, 2, 180), (11, 86, 13, 2, 206, 2, 207)]
def zLM : List (Nat × Nat × Nat × Nat × Nat) := [(5, 57, 3, 3, 66), (9, 97, 4, 4, 53), (9, 80, 2, 4, 73), (1, 119, 3, 4, 105), (11, 166, 4, 4, 215), (11, 288, 3, 4, 218)]
def zLC : List (Nat × Nat × Int × Nat × Nat) := [(13, 265, 1431655765, 3, 239), (13, 266, 858993459, 4, 0), (13, 267, 252645135, 4, 1), (1, 87, 1000000, 4, 84), (2, 15, 1103515245, 5, 63), (12, 372, 1103515245, 8, 125)]
def zLJ : List (Nat × Nat × Int × Nat × Nat) := [(12, 130, 27, 7, 1), (12, 132, 96, 7, 2)]
def zLN : List (Nat × Nat × Nat × Nat × Nat × Nat × Nat × Nat × Nat) := [(16, 8, 11, 1, 26, 1, 27, 1, 1), (11, 9, 5, 1, 34, 1, 35, 1, 2), (11, 16, 9, 1, 144, 1, 145, 1, 7), (11, 23, 10, 2, 11, 2, 12, 1, 8), (10, 9, 9, 2, 17, 1, 145, 1, 7), (11, 32, 0, 2, 31, 2, 32, 1, 9), (11, 39, 6, 2, 45, 2, 46, 1, 10), (11, 46, 7, 2, 67, 2, 68, 1, 11), (7, 9, 6, 2, 73, 2, 46, 1, 10), (11, 53, 1, 2, 83, 2, 84, 1, 12), (11, 63, 8, 2, 128, 2, 129, 1, 13), (8, 9, 1, 2, 134, 2, 84, 1, 12), (11, 70, 3, 2, 148, 2, 150, 1, 14), (3, 7, 9, 2, 155, 1, 145, 1, 7), (3, 16, 1, 2, 157, 2, 84, 1, 12), (3, 23, 6, 2, 159, 2, 46, 1, 10), (11, 77, 4, 2, 177, 2, 178, 1, 15), (11, 84, 2, 2, 204, 2, 205, 1, 16), (16, 22, 12, 6, 46, 6, 47, 1, 17)]
def zLA : List (Nat × Nat × Nat × Nat × Nat) := [(11, 53, 1, 2, 83), (8, 9, 1, 2, 134), (11, 70, 3, 2, 148), (3, 16, 1, 2, 157)]
def zLY : List (Nat × Nat × Nat × Nat) := [(9, 74, 3, 188), (1, 45, 3, 195), (6, 26, 5, 156)]
def zLO : List (Nat × Nat × Nat × Nat) := [(11, 3, 1, 31), (5, 3, 1, 39), (9, 3, 1, 149), (10, 3, 2, 16), (0, 3, 2, 36), (6, 3, 2, 50), (7, 3, 2, 72), (1, 3, 2, 88), (8, 3, 2, 133), (3, 1, 2, 154), (4, 3, 2, 182), (2, 3, 2, 209), (12, 1, 6, 51)]
def zIni : List (Nat × Nat) := [(1, 9), (1, 12), (1, 16), (1, 14), (1, 15), (1, 2), (1, 10), (1, 11), (1, 13), (1, 7), (1, 8), (1, 1), (1, 17), (1, 24), (1, 18), (1, 25), (1, 0)]
def zLay0 : List (Nat × Nat) := [(2, 40), (2, 42)]
def zLay1 : List (Nat × Nat) := [(2, 109), (2, 111), (2, 113), (2, 115), (2, 117), (2, 119), (2, 121), (2, 123), (2, 125)]
def zLay2 : List (Nat × Nat) := [(2, 215), (2, 217), (2, 219)]
def zLay3 : List (Nat × Nat) := [(2, 168), (2, 170), (2, 172), (2, 174)]
def zLay4 : List (Nat × Nat) := [(2, 191), (2, 193), (2, 195), (2, 197), (2, 199), (2, 201)]
def zLay5 : List (Nat × Nat) := [(1, 118), (1, 120), (1, 122), (1, 124), (1, 126), (1, 128), (1, 130), (1, 132), (1, 134), (1, 136), (1, 138)]
def zLay6 : List (Nat × Nat) := [(2, 57), (2, 59), (2, 61), (2, 63)]
def zLay7 : List (Nat × Nat) := [(2, 78), (2, 80)]
def zLay8 : List (Nat × Nat) := [(2, 141), (2, 143), (2, 145)]
def zLay9 : List (Nat × Nat) := [(1, 210), (1, 212), (1, 214), (1, 216), (1, 218), (1, 220), (1, 222), (1, 224), (1, 226), (1, 228), (1, 230), (1, 232), (1, 234), (1, 236), (1, 238), (2, 0), (2, 2), (2, 4), (2, 6), (2, 8)]
def zLay10 : List (Nat × Nat) := [(2, 24), (2, 26), (2, 28)]
def zLay11 : List (Nat × Nat) := [(2, 239), (3, 1), (3, 3), (3, 5), (3, 7), (3, 9), (3, 11), (3, 13), (3, 15), (3, 17), (3, 19), (3, 21), (3, 23), (3, 25), (3, 27), (3, 29), (3, 31)]
def zLay12 : List (Nat × Nat) := [(6, 102), (6, 104), (6, 106), (6, 108), (6, 110), (6, 112), (6, 114), (6, 116), (6, 118), (6, 120), (6, 122), (6, 124), (6, 126), (6, 128), (6, 130), (6, 132), (6, 134), (6, 136), (6, 138), (6, 140), (6, 142), (6, 144), (6, 146), (6, 148), (6, 150), (6, 152), (6, 154), (6, 156), (6, 158), (6, 160), (6, 162), (6, 164), (6, 166), (6, 168), (6, 170), (6, 172), (6, 174), (6, 176), (6, 178), (6, 180), (6, 182), (6, 184), (6, 186), (6, 188), (6, 190), (6, 192), (6, 194), (6, 196), (6, 198), (6, 200)]
theorem zT_mem {k i : Nat} {w : Cond} (h : (zT k)[i]? = some w) : w ∈ lw_tbl := by
  have h1 : w ∈ zT k := List.mem_of_getElem? h
  clear h
  unfold lw_tbl tables_1
  unfold zT at h1
  split at h1 <;> first | exact absurd h1 List.not_mem_nil | (simp only [List.mem_append]; simp only [h1, true_or, or_true])
def zGW : List Cond := lw_tbl.filter goodWord
theorem zGW_in {w : Cond} (h1 : w ∈ lw_tbl) (h2 : goodWord w = true) : w ∈ zGW := List.mem_filter.mpr ⟨h1, h2⟩
theorem zGW_good {ws : List Cond} (h : ∀ w ∈ ws, w ∈ zGW) : GoodIn zGW ws := fun w hw => ⟨h w hw, good_of_word (List.mem_filter.mp (h w hw)).2⟩
theorem zAt {k i : Nat} {w : Cond} (h : (zT k)[i]? = some w) (h2 : goodWord w = true) : w ∈ zGW := zGW_in (zT_mem h) h2
abbrev zMt : Type := MethodName × ByteArray × Nat × Option FieldType × Nat × Nat × Nat × Nat
/-- behind the last one: the law -/
def zm (mi : Nat) : zMt := zMs.getD mi (x, code, 7, ret, 16, 1, 0, 0)
def zmY (mi : Nat) : MethodName := (zm mi).1
def zmCode (mi : Nat) : ByteArray := (zm mi).2.1
def zmMax (mi : Nat) : Nat := (zm mi).2.2.1
def zmRet (mi : Nat) : Option FieldType := (zm mi).2.2.2.1
def zmC (mi : Nat) : Nat := (zm mi).2.2.2.2.1
def zmN (mi : Nat) : Nat := (zm mi).2.2.2.2.2.1
def zOw (k : Nat) : String := zOwn.getD k ""
theorem zMap {α β : Type} {l : List α} {f g : α → β} (h : l.map f = l.map g) : ∀ a ∈ l, f a = g a := List.map_inj_left.mp h
set_option maxRecDepth 100000 in
theorem zM0_at : zM0.map (fun r => (zT r.2.2.2.2.2.2.1)[r.2.2.2.2.2.2.2]?) = zM0.map (fun r => some (Cond.code r.1 r.2.1 r.2.2.1 r.2.2.2.1)) := rfl
set_option maxRecDepth 100000 in
theorem zLF_at : zLF.map (fun r => (zT r.2.2.2.2.1)[r.2.2.2.2.2]?) = zLF.map (fun r => match vwCl[r.2.2.1]? with | some q => some (Cond.fieldLink (zOw r.1) r.2.1 (q.2.1 r.2.2.2.1).1 (q.2.1 r.2.2.2.1).2.1 (q.2.1 r.2.2.2.1).2.2.1) | none => none) := rfl
set_option maxRecDepth 100000 in
theorem zM1_at : zM1.map (fun r => (zT r.2.2.2.2.2.2.1)[r.2.2.2.2.2.2.2]?) = zM1.map (fun r => some (Cond.code r.1 r.2.1 r.2.2.1 r.2.2.2.1)) := rfl
set_option maxRecDepth 100000 in
theorem zM2_at : zM2.map (fun r => (zT r.2.2.2.2.2.2.1)[r.2.2.2.2.2.2.2]?) = zM2.map (fun r => some (Cond.code r.1 r.2.1 r.2.2.1 r.2.2.2.1)) := rfl
set_option maxRecDepth 100000 in
theorem zM3_at : zM3.map (fun r => (zT r.2.2.2.2.2.2.1)[r.2.2.2.2.2.2.2]?) = zM3.map (fun r => some (Cond.code r.1 r.2.1 r.2.2.1 r.2.2.2.1)) := rfl
set_option maxRecDepth 100000 in
theorem zM4_at : zM4.map (fun r => (zT r.2.2.2.2.2.2.1)[r.2.2.2.2.2.2.2]?) = zM4.map (fun r => some (Cond.code r.1 r.2.1 r.2.2.1 r.2.2.2.1)) := rfl
set_option maxRecDepth 100000 in
theorem zM5_at : zM5.map (fun r => (zT r.2.2.2.2.2.2.1)[r.2.2.2.2.2.2.2]?) = zM5.map (fun r => some (Cond.code r.1 r.2.1 r.2.2.1 r.2.2.2.1)) := rfl
set_option maxRecDepth 100000 in
theorem zM6_at : zM6.map (fun r => (zT r.2.2.2.2.2.2.1)[r.2.2.2.2.2.2.2]?) = zM6.map (fun r => some (Cond.code r.1 r.2.1 r.2.2.1 r.2.2.2.1)) := rfl
set_option maxRecDepth 100000 in
theorem zM7_at : zM7.map (fun r => (zT r.2.2.2.2.2.2.1)[r.2.2.2.2.2.2.2]?) = zM7.map (fun r => some (Cond.code r.1 r.2.1 r.2.2.1 r.2.2.2.1)) := rfl
theorem zMs_at : ∀ r ∈ zMs, (zT r.2.2.2.2.2.2.1)[r.2.2.2.2.2.2.2]? = some (Cond.code r.1 r.2.1 r.2.2.1 r.2.2.2.1) := by
  apply zMap
  simp only [zMs, List.map_append, zM0_at, zM1_at, zM2_at, zM3_at, zM4_at, zM5_at, zM6_at, zM7_at]
def zMpar (r : zMt) : Bool := decide ((parseMethodDescriptor r.1.desc).map (fun d => d.parameters.length) = some r.2.2.2.2.2.1) && (Nat.ble r.2.2.1 20 && Nat.blt r.2.2.2.2.1 17)
theorem zM0_par : zM0.all zMpar = true := by decide +kernel
theorem zM1_par : zM1.all zMpar = true := by decide +kernel
theorem zM2_par : zM2.all zMpar = true := by decide +kernel
theorem zM3_par : zM3.all zMpar = true := by decide +kernel
theorem zM4_par : zM4.all zMpar = true := by decide +kernel
theorem zM5_par : zM5.all zMpar = true := by decide +kernel
theorem zM6_par : zM6.all zMpar = true := by decide +kernel
theorem zM7_par : zM7.all zMpar = true := by decide +kernel
theorem zMs_par : zMs.all zMpar = true := by
  simp only [zMs, List.all_append, zM0_par, zM1_par, zM2_par, zM3_par, zM4_par, zM5_par, zM6_par, zM7_par, Bool.and_self]
set_option maxRecDepth 100000 in
theorem zMs_cls : ∀ r ∈ zMs, r.1.cls = zOw r.2.2.2.2.1 := zMap (l := zMs) (f := fun r => r.1.cls) (g := fun r => zOw r.2.2.2.2.1) rfl
theorem zm_in {mi : Nat} (h : mi < zMs.length) : zm mi ∈ zMs := by
  unfold zm
  rw [List.getD_eq_getElem?_getD, List.getElem?_eq_getElem h]
  exact List.getElem_mem h
theorem zMs_len : zMs.length = 295 := by decide +kernel
theorem zOw_plain : (List.range 17).all (fun k => (plainName (zOw k) || Nat.beq k 14) && decide (zOw k ≠ "java/lang/invoke/MethodHandle") && decide (zOw k ≠ "java/lang/invoke/VarHandle")) = true := by decide +kernel
theorem zm_code {mi : Nat} (h : mi < zMs.length) : Cond.code (zmY mi) (zmCode mi) (zmMax mi) (zmRet mi) ∈ zGW := zAt (zMs_at _ (zm_in h)) rfl
theorem zm_par {mi : Nat} (h : mi < zMs.length) : (parseMethodDescriptor (zmY mi).desc).map (fun d => d.parameters.length) = some (zmN mi) ∧ zmMax mi ≤ 20 ∧ zmC mi < 17 := by
  have h1 := List.all_eq_true.mp zMs_par _ (zm_in h)
  simp only [zMpar, Bool.and_eq_true, decide_eq_true_eq] at h1
  exact ⟨h1.1, Nat.le_of_ble_eq_true h1.2.1, Nat.le_of_ble_eq_true h1.2.2⟩
theorem zm_cls {mi : Nat} (h : mi < zMs.length) : (zmY mi).cls = zOw (zmC mi) := zMs_cls _ (zm_in h)
theorem zm_plain {mi : Nat} (h : mi < zMs.length) (h14 : ¬ zmC mi = 14) : plainName (zmY mi).cls = true ∧ (zmY mi).cls ≠ "java/lang/invoke/MethodHandle" ∧ (zmY mi).cls ≠ "java/lang/invoke/VarHandle" := by
  rw [zm_cls h]
  have h1 := List.all_eq_true.mp zOw_plain (zmC mi) (List.mem_range.mpr (zm_par h).2.2)
  simp only [Bool.and_eq_true, Bool.or_eq_true, decide_eq_true_eq] at h1
  exact ⟨h1.1.1.resolve_right (fun e => h14 (Nat.eq_of_beq_eq_true e)), h1.1.2, h1.2⟩
set_option maxRecDepth 100000 in
theorem zIni_at : zIni.map (fun r => (zT r.1)[r.2]?) = (List.range 17).map (fun k => some (Cond.initialized (zOw k))) := rfl
theorem zIni_in {k : Nat} (h : k < 17) : Cond.initialized (zOw k) ∈ zGW := by
  have h0 : some (Cond.initialized (zOw k)) ∈ (List.range 17).map (fun k => some (Cond.initialized (zOw k))) := List.mem_map.mpr ⟨k, List.mem_range.mpr h, rfl⟩
  rw [← zIni_at] at h0
  obtain ⟨r, -, hr⟩ := List.mem_map.mp h0
  exact zAt hr rfl
theorem zm_ini {mi : Nat} (h : mi < zMs.length) : Cond.initialized (zmY mi).cls ∈ zGW := by
  rw [zm_cls h]
  exact zIni_in (zm_par h).2.2
set_option maxRecDepth 100000 in
theorem zLV_at : zLV.map (fun r => ((zT r.2.2.2.1)[r.2.2.2.2.1]?, (zT r.2.2.2.2.2.1)[r.2.2.2.2.2.2.1]?, (zT r.2.2.2.2.2.2.2.1)[r.2.2.2.2.2.2.2.2]?)) = zLV.map (fun r => (some (Cond.methodLink (zOw r.1) r.2.1 (zmY r.2.2.1)), some (Cond.instanceMethod (zmY r.2.2.1)), some (Cond.selects (zmY r.2.2.1).cls (zmY r.2.2.1) (zmY r.2.2.1)))) := rfl
set_option maxRecDepth 100000 in
theorem zLS_at : zLS.map (fun r => ((zT r.2.2.2.1)[r.2.2.2.2.1]?, (zT r.2.2.2.2.2.1)[r.2.2.2.2.2.2]?)) = zLS.map (fun r => (some (Cond.methodLink (zOw r.1) r.2.1 (zmY r.2.2.1)), some (Cond.static (zmY r.2.2.1)))) := rfl
set_option maxRecDepth 100000 in
theorem zLSN_at : zLSN.map (fun r => ((zT r.2.2.2.1)[r.2.2.2.2.1]?, (zT r.2.2.2.2.2.1)[r.2.2.2.2.2.2]?)) = zLSN.map (fun r => (some (Cond.methodLinkNest (zOw r.1) r.2.1 (zmY r.2.2.1) "EchoVale"), some (Cond.static (zmY r.2.2.1)))) := rfl
set_option maxRecDepth 100000 in
theorem zLP_at : zLP.map (fun r => ((zT r.2.2.2.1)[r.2.2.2.2.1]?, (zT r.2.2.2.2.2.1)[r.2.2.2.2.2.2]?, (zmY r.2.2.1).name, zmRet r.2.2.1)) = zLP.map (fun r => (some (Cond.methodLink (zOw r.1) r.2.1 (zmY r.2.2.1)), some (Cond.instanceMethod (zmY r.2.2.1)), "<init>", none)) := rfl
set_option maxRecDepth 100000 in
theorem zLPN_at : zLPN.map (fun r => ((zT r.2.2.2.1)[r.2.2.2.2.1]?, (zT r.2.2.2.2.2.1)[r.2.2.2.2.2.2]?, (zmY r.2.2.1).name, zmRet r.2.2.1)) = zLPN.map (fun r => (some (Cond.methodLinkNest (zOw r.1) r.2.1 (zmY r.2.2.1) "EchoVale"), some (Cond.instanceMethod (zmY r.2.2.1)), "<init>", none)) := rfl
set_option maxRecDepth 100000 in
theorem zLC_at : zLC.map (fun r => (zT r.2.2.2.1)[r.2.2.2.2]?) = zLC.map (fun r => some (Cond.constant (zOw r.1) r.2.1 (Int32.ofInt r.2.2.1))) := rfl
set_option maxRecDepth 100000 in
theorem zLJ_at : zLJ.map (fun r => (zT r.2.2.2.1)[r.2.2.2.2]?) = zLJ.map (fun r => some (Cond.constantLong (zOw r.1) r.2.1 (Int64.ofInt r.2.2.1))) := rfl
theorem zLC_r : zLC.all (fun r => decide (-2147483648 ≤ r.2.2.1) && decide (r.2.2.1 < 2147483648)) = true := by decide +kernel
theorem zLJ_r : zLJ.all (fun r => decide (-9223372036854775808 ≤ r.2.2.1) && decide (r.2.2.1 < 9223372036854775808)) = true := by decide +kernel
def zNf (ci : Nat) : Nat := match vwCl[ci]? with
  | some q => q.2.2
  | none => 0
def zTX (ci : Nat) : u_T := match vwCl[ci]? with
  | some q => q.2.1
  | none => fun _ => ("", "", "", false)
set_option maxRecDepth 100000 in
theorem zLN_at : zLN.map (fun r => ((zT r.2.2.2.1)[r.2.2.2.2.1]?, (zT r.2.2.2.2.2.1)[r.2.2.2.2.2.2.1]?, (zT r.2.2.2.2.2.2.2.1)[r.2.2.2.2.2.2.2.2]?)) = zLN.map (fun r => (some (Cond.classLink (zOw r.1) r.2.1 (zOw r.2.2.1)), some (Cond.instantiable (zOw r.2.2.1) (zNf r.2.2.1)), some (Cond.initialized (zOw r.2.2.1)))) := rfl
set_option maxRecDepth 100000 in
theorem zLA_at : zLA.map (fun r => (zT r.2.2.2.1)[r.2.2.2.2]?) = zLA.map (fun r => some (Cond.classLink (zOw r.1) r.2.1 (zOw r.2.2.1))) := rfl
set_option maxRecDepth 100000 in
theorem zLY_at : zLY.map (fun r => (zT r.2.2.1)[r.2.2.2]?) = zLY.map (fun r => some (Cond.methodLink (zOw r.1) r.2.1 arraycopyName)) := rfl
set_option maxRecDepth 100000 in
theorem zLO_at : zLO.map (fun r => (zT r.2.2.1)[r.2.2.2]?) = zLO.map (fun r => some (Cond.methodLink (zOw r.1) r.2.1 Lib.objectInit)) := rfl
theorem zL_lt : (zLF.all (fun r => Nat.blt r.2.2.2.1 (zNf r.2.2.1) && Nat.blt r.2.2.1 13) && zLV.all (fun r => Nat.blt r.2.2.1 295) && zLS.all (fun r => Nat.blt r.2.2.1 295) && zLSN.all (fun r => Nat.blt r.2.2.1 295) && zLP.all (fun r => Nat.blt r.2.2.1 295) && zLPN.all (fun r => Nat.blt r.2.2.1 295) && zLN.all (fun r => Nat.blt r.2.2.1 13) && zLA.all (fun r => Nat.beq r.2.2.1 1 || Nat.beq r.2.2.1 3)) = true := by decide +kernel
theorem zp_nat : Cond.native arraycopyName ∈ zGW := zAt (show (zT (([3, 190] : List Nat).getD 0 0))[([3, 190] : List Nat).getD 1 0]? = _ from rfl) rfl
theorem zp_stat : Cond.static arraycopyName ∈ zGW := zAt (show (zT (([3, 189] : List Nat).getD 0 0))[([3, 189] : List Nat).getD 1 0]? = _ from rfl) rfl
theorem zp_isys : Cond.initialized "java/lang/System" ∈ zGW := zAt (show (zT (([1, 19] : List Nat).getD 0 0))[([1, 19] : List Nat).getD 1 0]? = _ from rfl) rfl
theorem zp_obi : Cond.instanceMethod Lib.objectInit ∈ zGW := zAt (show (zT (([1, 32] : List Nat).getD 0 0))[([1, 32] : List Nat).getD 1 0]? = _ from rfl) rfl
theorem zp_obc : Cond.code Lib.objectInit ⟨#[0xb1]⟩ 1 none ∈ zGW := zAt (show (zT (([1, 33] : List Nat).getD 0 0))[([1, 33] : List Nat).getD 1 0]? = _ from rfl) rfl
theorem zp_aI : Cond.arrayClass .int ∈ zGW := zAt (show (zT (([1, 141] : List Nat).getD 0 0))[([1, 141] : List Nat).getD 1 0]? = _ from rfl) rfl
theorem zp_aJ : Cond.arrayClass .long ∈ zGW := zAt (show (zT (([1, 142] : List Nat).getD 0 0))[([1, 142] : List Nat).getD 1 0]? = _ from rfl) rfl
theorem zp_aZ : Cond.arrayClass .boolean ∈ zGW := zAt (show (zT (([2, 66] : List Nat).getD 0 0))[([2, 66] : List Nat).getD 1 0]? = _ from rfl) rfl
theorem zp_oC : Cond.arrayOver (.object "EchoVale$Course") ∈ lw_tbl := zT_mem (show (zT (([2, 135] : List Nat).getD 0 0))[([2, 135] : List Nat).getD 1 0]? = _ from rfl)
theorem zp_oM : Cond.arrayOver (.object "EchoVale$Image") ∈ lw_tbl := zT_mem (show (zT (([2, 149] : List Nat).getD 0 0))[([2, 149] : List Nat).getD 1 0]? = _ from rfl)
def zLays : List (List (Nat × Nat)) := [zLay0, zLay1, zLay2, zLay3, zLay4, zLay5, zLay6, zLay7, zLay8, zLay9, zLay10, zLay11, zLay12]
set_option maxRecDepth 100000 in
theorem zLays_at : zLays.map (fun l => l.map (fun r => (zT r.1)[r.2]?)) = (List.range 13).map (fun ci => (List.range (zNf ci)).map (fun k => some (u_lay (zOw ci) (zTX ci) k))) := rfl
theorem zLay_good (C : String) (T : u_T) (k : Nat) : goodWord (u_lay C T k) = true := by
  unfold u_lay
  split <;> rfl
theorem zCl_in {ci : Nat} (h : ci < 13) : ∀ w ∈ u_ws (zOw ci) (zTX ci) (zNf ci), w ∈ zGW := by
  intro w hw
  obtain ⟨k, hk, rfl⟩ := List.mem_map.mp hw
  have h0 : (List.range (zNf ci)).map (fun k => some (u_lay (zOw ci) (zTX ci) k)) ∈ (List.range 13).map (fun ci => (List.range (zNf ci)).map (fun k => some (u_lay (zOw ci) (zTX ci) k))) := List.mem_map.mpr ⟨ci, List.mem_range.mpr h, rfl⟩
  rw [← zLays_at] at h0
  obtain ⟨l, -, hl⟩ := List.mem_map.mp h0
  have h1 : some (u_lay (zOw ci) (zTX ci) k) ∈ (List.range (zNf ci)).map (fun k => some (u_lay (zOw ci) (zTX ci) k)) := List.mem_map.mpr ⟨k, hk, rfl⟩
  rw [← hl] at h1
  obtain ⟨r, -, hr⟩ := List.mem_map.mp h1
  exact zAt hr (zLay_good _ _ _)
theorem zCl_at {ci : Nat} (h : ci < 13) : vwCl[ci]? = some (zOw ci, zTX ci, zNf ci) := by
  match ci, h with
  | 0, _ => rfl | 1, _ => rfl | 2, _ => rfl | 3, _ => rfl | 4, _ => rfl | 5, _ => rfl | 6, _ => rfl | 7, _ => rfl | 8, _ => rfl | 9, _ => rfl | 10, _ => rfl | 11, _ => rfl | 12, _ => rfl
theorem zCl_nm {ci : Nat} (h : ci < 13) : ∀ a, a < zNf ci → ∀ b, b < zNf ci → a ≠ b → (zTX ci a).2.1 ≠ (zTX ci b).2.1 := by
  match ci, h with
  | 0, _ => exact nmX0 | 1, _ => exact nmX1 | 2, _ => exact nmX2 | 3, _ => exact nmX3 | 4, _ => exact nmX4 | 5, _ => exact nmX5 | 6, _ => exact nmX6 | 7, _ => exact nmX7 | 8, _ => exact nmX8 | 9, _ => exact nmX9 | 10, _ => exact nmX10 | 11, _ => exact nmX11 | 12, _ => exact nmX12
theorem zCl_ty {ci : Nat} (h : ci < 13) : ∀ k, k < zNf ci → parseFieldDescriptor (zTX ci k).2.2.1 = some (zTy ci k) := by
  match ci, h with
  | 0, _ => exact tyX0_ok | 1, _ => exact tyX1_ok | 2, _ => exact tyX2_ok | 3, _ => exact tyX3_ok | 4, _ => exact tyX4_ok | 5, _ => exact tyX5_ok | 6, _ => exact tyX6_ok | 7, _ => exact tyX7_ok | 8, _ => exact tyX8_ok | 9, _ => exact tyX9_ok | 10, _ => exact tyX10_ok | 11, _ => exact tyX11_ok | 12, _ => exact tyX12_ok
theorem zp_mabss : Cond.static Lib.Math.abs.name ∈ zGW := zAt (show (zT (([4, 74] : List Nat).getD 0 0))[([4, 74] : List Nat).getD 1 0]? = _ from rfl) rfl
theorem zp_mabsc : Cond.code Lib.Math.abs.name Lib.Math.abs.code 1 (some .int) ∈ zGW := zAt (show (zT (([4, 75] : List Nat).getD 0 0))[([4, 75] : List Nat).getD 1 0]? = _ from rfl) rfl
theorem zp_mmins : Cond.static Lib.Math.min.name ∈ zGW := zAt (show (zT (([3, 67] : List Nat).getD 0 0))[([3, 67] : List Nat).getD 1 0]? = _ from rfl) rfl
theorem zp_mminc : Cond.code Lib.Math.min.name Lib.Math.min.code 2 (some .int) ∈ zGW := zAt (show (zT (([3, 68] : List Nat).getD 0 0))[([3, 68] : List Nat).getD 1 0]? = _ from rfl) rfl
theorem zp_mmaxs : Cond.static Lib.Math.max.name ∈ zGW := zAt (show (zT (([4, 54] : List Nat).getD 0 0))[([4, 54] : List Nat).getD 1 0]? = _ from rfl) rfl
theorem zp_mmaxc : Cond.code Lib.Math.max.name Lib.Math.max.code 2 (some .int) ∈ zGW := zAt (show (zT (([4, 55] : List Nat).getD 0 0))[([4, 55] : List Nat).getD 1 0]? = _ from rfl) rfl
theorem zp_mini : Cond.initialized "java/lang/Math" ∈ zGW := zAt (show (zT (([1, 18] : List Nat).getD 0 0))[([1, 18] : List Nat).getD 1 0]? = _ from rfl) rfl
def zMn (k : Nat) : MethodName := match k with
  | 2 => Lib.Math.abs.name
  | 3 => Lib.Math.min.name
  | _ => Lib.Math.max.name
set_option maxRecDepth 100000 in
theorem zLM_at : zLM.map (fun r => (zT r.2.2.2.1)[r.2.2.2.2]?) = zLM.map (fun r => some (Cond.methodLink (zOw r.1) r.2.1 (zMn r.2.2.1))) := rfl
theorem zMs_nl : zMs.all (fun r => !Nat.beq r.2.2.2.2.1 16) = true := by decide +kernel
theorem zm_notlaw {mi : Nat} (h : mi < zMs.length) : ¬ zmC mi = 16 := by
  intro q
  have h1 := List.all_eq_true.mp zMs_nl _ (zm_in h)
  have q : (zm mi).2.2.2.2.1 = 16 := q
  rw [q] at h1
  cases h1
end
section
/-! The first heap: cells by number. A cell: its kind (0 to 12 an object of that class; 20 int[], 21 long[], 22 boolean[], 23 Course[], 24 Image[]), its size, what it holds. -/
abbrev zCe : Type := Nat × Nat × (Nat → Int)
abbrev zH1 : Type := List zCe
def zTag (ci k : Nat) : Nat := zTg (zTy ci k)
def zUp (f : Nat → Int) (k : Nat) (v : Int) : Nat → Int := fun j => if j = k then v else f j
def zIsB (ci k : Nat) : Bool := match zTy ci k with
  | .boolean => true
  | _ => false
def zIni0 (ci : Nat) : Nat → Int := fun k => if zTag ci k = 2 then -1 else 0
def zSl (h : zH1) : Nat := (h.map (fun c => c.2.1)).sum
def zAk (kd : Nat) : FieldType := match kd with
  | 20 => .int
  | 21 => .long
  | 22 => .boolean
  | 23 => .object "EchoVale$Course"
  | _ => .object "EchoVale$Image"
def zNk (ty : ArrayType) : Option Nat := match ty with
  | .int => some 20
  | .long => some 21
  | .boolean => some 22
  | _ => none
def zCpy (f g : Nat → Int) (sp dp n : Nat) : Nat → Int := fun k => if dp ≤ k ∧ k < dp + n then f (sp + (k - dp)) else g k
/-- what lies below the arguments of a call is little -/
def zRm (r : List zAv) : Bool := Nat.ble r.length 8
def zLdA (kd t : Nat) (b : Bool) (st : List zAv) (h : zH1) : Option (List Prop × List zAv × zH1) := match st with
  | (0, i) :: (2, a) :: r => match h[a.toNat]? with
    | some (k, n, f) => match Nat.beq k kd with
      | true => some ((match b with
        | true => [0 ≤ i ∧ i < (n : Int), 0 ≤ f i.toNat]
        | false => [0 ≤ i ∧ i < (n : Int)]), (t, f i.toNat) :: r, h)
      | false => none
    | none => none
  | _ => none
def zStA (kd t : Nat) (g : Int → List Prop) (st : List zAv) (h : zH1) : Option (List Prop × List zAv × zH1) := match st with
  | (u, v) :: (0, i) :: (2, a) :: r => match h[a.toNat]? with
    | some (k, n, f) => match Nat.beq k kd && Nat.beq u t with
      | true => some ((0 ≤ i ∧ i < (n : Int)) :: g v, r, h.set a.toNat (k, n, zUp f i.toNat v))
      | false => none
    | none => none
  | _ => none
def zLinkF (cls idx ci k : Nat) : Bool := zLF.any (fun r => Nat.beq r.1 cls && Nat.beq r.2.1 idx && Nat.beq r.2.2.1 ci && Nat.beq r.2.2.2.1 k)
/-- L: how long the script is; xs: what it holds -/
def zHop1 (L : Nat) (xs : Nat → Int) : zHop zH1 := fun i ax st h => match i with
  | .getfield _ => match st with
    | (2, o) :: r => match h[o.toNat]? with
      | some (kd, _, f) => match Nat.beq kd ax.1 with
        | true => match Nat.beq (zTag ax.1 ax.2.1) 2 with
          | true => some ([0 ≤ f ax.2.1], (2, f ax.2.1) :: r, h)
          | false => some ([], (zTag ax.1 ax.2.1, f ax.2.1) :: r, h)
        | false => none
      | none => none
    | _ => none
  | .putfield _ => match st with
    | (t, v) :: (2, o) :: r => match h[o.toNat]? with
      | some (kd, n, f) => match Nat.beq kd ax.1 && Nat.beq t (zTag ax.1 ax.2.1) with
        | true => some ((match zIsB ax.1 ax.2.1 with
          | true => [v = 0 ∨ v = 1]
          | false => []), r, h.set o.toNat (kd, n, zUp f ax.2.1 v))
        | false => none
      | none => none
    | _ => none
  | .iaload => match Nat.beq ax.1 1 with
    | true => match st with
      | (0, j) :: (5, _) :: r => some ([0 ≤ j ∧ j < (L : Int)], (0, xs j.toNat) :: r, h)
      | _ => none
    | false => zLdA 20 0 false st h
  | .laload => zLdA 21 1 false st h
  | .baload => zLdA 22 0 false st h
  | .aaload => match Nat.beq ax.1 23 || Nat.beq ax.1 24 with
    | true => zLdA ax.1 2 true st h
    | false => none
  | .iastore => zStA 20 0 (fun _ => []) st h
  | .lastore => zStA 21 1 (fun _ => []) st h
  | .bastore => zStA 22 0 (fun v => [v = 0 ∨ v = 1]) st h
  | .aastore => match st with
    | (2, v) :: _ => match h[v.toNat]? with
      | some (k, _, _) => match (Nat.beq ax.1 23 && Nat.beq k 1) || (Nat.beq ax.1 24 && Nat.beq k 3) with
        | true => zStA ax.1 2 (fun _ => []) st h
        | false => none
      | none => none
    | _ => none
  | .arraylength => match Nat.beq ax.1 1 with
    | true => match st with
      | (5, _) :: r => some ([], (0, (L : Int)) :: r, h)
      | _ => none
    | false => match st with
      | (2, a) :: r => match h[a.toNat]? with
        | some (k, n, _) => match Nat.ble 20 k with
          | true => some ([], (0, (n : Int)) :: r, h)
          | false => none
        | none => none
      | _ => none
  | .new _ => some ([], (2, (h.length : Int)) :: st, h ++ [((ax.1, zNf ax.1, zIni0 ax.1) : zCe)])
  | .newarray ty => match zNk ty with
    | some kd => match st with
      | (0, n) :: r => some ([0 ≤ n ∧ n ≤ 100000], (2, (h.length : Int)) :: r, h ++ [((kd, n.toNat, fun _ => (0 : Int)) : zCe)])
      | _ => none
    | none => none
  | .anewarray _ => match Nat.beq ax.1 23 || Nat.beq ax.1 24 with
    | true => match st with
      | (0, n) :: r => some ([0 ≤ n ∧ n ≤ 100000], (2, (h.length : Int)) :: r, h ++ [((ax.1, n.toNat, fun _ => (-1 : Int)) : zCe)])
      | _ => none
    | false => none
  | .invokestatic _ => match ax.1 with
    | 5001 => match st with
      | (0, n) :: (0, dp) :: (2, d) :: (0, sp) :: (2, s) :: r => match h[s.toNat]?, h[d.toNat]? with
        | some (k0, n0, f), some (k1, n1, g) => match (Nat.beq k0 k1 && (Nat.beq k0 20 || Nat.beq k0 21)) && zRm r with
          | true => some ([0 ≤ sp, 0 ≤ dp, 0 ≤ n, sp + n ≤ (n0 : Int), dp + n ≤ (n1 : Int)], r, h.set d.toNat (k1, n1, zCpy f g sp.toNat dp.toNat n.toNat))
          | false => none
        | _, _ => none
      | _ => none
    | 5002 => match st with
      | (0, x) :: r => match zRm r with
        | true => some ([], (0, if x < 0 then wneg x else x) :: r, h)
        | false => none
      | _ => none
    | 5003 => match st with
      | (0, y) :: (0, x) :: r => match zRm r with
        | true => some ([], (0, if y < x then y else x) :: r, h)
        | false => none
      | _ => none
    | 5004 => match st with
      | (0, y) :: (0, x) :: r => match zRm r with
        | true => some ([], (0, if x < y then y else x) :: r, h)
        | false => none
      | _ => none
    | _ => none
  | .invokespecial _ => match Nat.beq ax.1 5000 with
    | true => match st with
      | (2, _) :: r => match zRm r with
        | true => some ([], r, h)
        | false => none
      | _ => none
    | false => none
  | _ => none
/-- are the pool's numbers as the tables have them? cls: the method's class; ini: it is a constructor -/
def zAxOk (cls : Nat) (ini : Bool) (i : Instr) (ax : zAx) : Bool := match i with
  | .getfield x => zLinkF cls x ax.1 ax.2.1
  | .putfield x => zLinkF cls x ax.1 ax.2.1 && (!(zTX ax.1 ax.2.1).2.2.2 || (ini && Nat.beq cls ax.1))
  | .ldc x => zLC.any (fun r => Nat.beq r.1 cls && Nat.beq r.2.1 x && decide (r.2.2.1 = ax.2.2))
  | .ldc_w x => zLC.any (fun r => Nat.beq r.1 cls && Nat.beq r.2.1 x && decide (r.2.2.1 = ax.2.2))
  | .ldc2_w x => zLJ.any (fun r => Nat.beq r.1 cls && Nat.beq r.2.1 x && decide (r.2.2.1 = ax.2.2))
  | .new x => zLN.any (fun r => Nat.beq r.1 cls && Nat.beq r.2.1 x && Nat.beq r.2.2.1 ax.1)
  | .anewarray x => zLA.any (fun r => Nat.beq r.1 cls && Nat.beq r.2.1 x && Nat.beq (if r.2.2.1 = 1 then 23 else 24) ax.1)
  | .iaload => Nat.beq ax.1 0 || Nat.beq cls 16
  | .arraylength => Nat.beq ax.1 0 || Nat.beq cls 16
  | .invokestatic x => match ax.1 with
    | 5001 => zLY.any (fun r => Nat.beq r.1 cls && Nat.beq r.2.1 x)
    | 5002 => zLM.any (fun r => Nat.beq r.1 cls && Nat.beq r.2.1 x && Nat.beq r.2.2.1 2)
    | 5003 => zLM.any (fun r => Nat.beq r.1 cls && Nat.beq r.2.1 x && Nat.beq r.2.2.1 3)
    | 5004 => zLM.any (fun r => Nat.beq r.1 cls && Nat.beq r.2.1 x && Nat.beq r.2.2.1 4)
    | mi => zLS.any (fun r => Nat.beq r.1 cls && Nat.beq r.2.1 x && Nat.beq r.2.2.1 mi) || zLSN.any (fun r => Nat.beq r.1 cls && Nat.beq r.2.1 x && Nat.beq r.2.2.1 mi)
  | .invokevirtual x => zLV.any (fun r => Nat.beq r.1 cls && Nat.beq r.2.1 x && Nat.beq r.2.2.1 ax.1)
  | .invokespecial x => match ax.1 with
    | 5000 => zLO.any (fun r => Nat.beq r.1 cls && Nat.beq r.2.1 x)
    | mi => zLP.any (fun r => Nat.beq r.1 cls && Nat.beq r.2.1 x && Nat.beq r.2.2.1 mi) || zLPN.any (fun r => Nat.beq r.1 cls && Nat.beq r.2.1 x && Nat.beq r.2.2.1 mi)
  | _ => true
end
section
/-! What the abstract machine's things are on the real one. -/
def cv (b : Nat) (as : List Nat) (a : zAv) : Value := match a.1 with
  | 0 => .int (Int32.ofInt a.2)
  | 1 => .long (Int64.ofInt a.2)
  | 2 => .ref (as.getD a.2.toNat 0)
  | _ => .ref b
def wfv (n : Nat) (sc : Prop) (a : zAv) : Prop := match a.1 with
  | 0 => zR32 a.2
  | 1 => zR64 a.2
  | 2 => 0 ≤ a.2 ∧ a.2 < (n : Int)
  | 5 => sc
  | _ => False
def zFv (as : List Nat) (t : Nat) (x : Int) : Value := match t with
  | 0 => .int (Int32.ofInt x)
  | 1 => .long (Int64.ofInt x)
  | _ => if x < 0 then .null else .ref (as.getD x.toNat 0)
def wff (n : Nat) (t : Nat) (x : Int) : Prop := match t with
  | 0 => zR32 x
  | 1 => zR64 x
  | _ => x < (n : Int)
def zKt (kd : Nat) : Nat := match kd with
  | 20 => 0
  | 21 => 1
  | 22 => 0
  | _ => 2
def wfc (n : Nat) (c : zCe) : Prop := (c.1 < 13 ∧ c.2.1 = zNf c.1 ∧ ∀ k, k < c.2.1 → wff n (zTag c.1 k) (c.2.2 k)) ∨ (20 ≤ c.1 ∧ c.1 < 25 ∧ c.2.1 ≤ 100000 ∧ ∀ k, k < c.2.1 → wff n (zKt c.1) (c.2.2 k))
def zEr (as : List Nat) (x : Int) : Option Nat := if x < 0 then none else some (as.getD x.toNat 0)
def zEnt (as : List Nat) (cA : ClassId) (c : zCe) : va_E := match Nat.ble 20 c.1 with
  | false => .inr (c.1, (List.range c.2.1).map (fun k => zFv as (zTag c.1 k) (c.2.2 k)))
  | true => .inl (cA, c.2.1, match c.1 with
    | 20 => .inl (fun j => Int32.ofInt (c.2.2 j))
    | 22 => .inl (fun j => Int32.ofInt (c.2.2 j))
    | 21 => .inr (.inl (fun j => Int64.ofInt (c.2.2 j)))
    | _ => .inr (.inr (.inr (.inr (fun j => zEr as (c.2.2 j))))))
def zWs (as : List Nat) (ca : Nat → ClassId) (h : zH1) : va_W := h.mapIdx (fun k c => (as.getD k 0, zEnt as (ca k) c))
theorem zWs_at {as : List Nat} {ca : Nat → ClassId} {h : zH1} {k : Nat} {c : zCe} (e : h[k]? = some c) : (zWs as ca h)[k]? = some (as.getD k 0, zEnt as (ca k) c) := by
  simp [zWs, e]
theorem zWs_len {as : List Nat} {ca : Nat → ClassId} {h : zH1} : (zWs as ca h).length = h.length := by simp [zWs]
theorem zWs_set {as : List Nat} {ca : Nat → ClassId} {h : zH1} {k : Nat} {c' : zCe} : (zWs as ca h).set k (as.getD k 0, zEnt as (ca k) c') = zWs as ca (h.set k c') := by
  apply List.ext_getElem?
  intro i
  simp only [zWs, List.getElem?_set, List.getElem?_mapIdx, List.length_mapIdx]
  by_cases hi : k = i
  · subst hi
    by_cases hl : k < h.length <;> simp [hl]
  · simp [hi]
theorem getD_app {as : List Nat} {q k : Nat} (h : k < as.length) : (as ++ [q]).getD k 0 = as.getD k 0 := by
  simp [List.getD_eq_getElem?_getD, List.getElem?_append_left h]
theorem getD_last {as : List Nat} {q : Nat} : (as ++ [q]).getD as.length 0 = q := by
  simp [List.getD_eq_getElem?_getD]
theorem zFv_app {as : List Nat} {q t : Nat} {x : Int} (h : wff as.length t x) : zFv (as ++ [q]) t x = zFv as t x := by
  unfold zFv wff at *
  split
  · rfl
  · rfl
  · rename_i h0 h1
    split
    · rfl
    · rename_i hx
      have : x < (as.length : Int) := by
        revert h; split
        · exact absurd rfl h0
        · exact absurd rfl h1
        · exact id
      rw [getD_app (by omega)]
theorem zEr_app {as : List Nat} {q : Nat} {x : Int} (h : x < (as.length : Int)) : zEr (as ++ [q]) x = zEr as x := by
  unfold zEr
  split
  · rfl
  · rw [getD_app (by omega)]
theorem zEnt_congr {as as' : List Nat} {cA : ClassId} {k n : Nat} {f g : Nat → Int} (hk : k < 20) (h : ∀ j, j < n → zFv as (zTag k j) (f j) = zFv as' (zTag k j) (g j)) : zEnt as cA (k, n, f) = zEnt as' cA (k, n, g) := by
  have hb : Nat.ble 20 k = false := by
    cases e : Nat.ble 20 k with
    | false => rfl
    | true => have := Nat.le_of_ble_eq_true e; omega
  simp only [zEnt, hb]
  congr 2
  apply List.map_congr_left
  intro j hj
  exact h j (List.mem_range.mp hj)
/-- beyond an array's size it doesn't matter what its row holds -/
theorem vp_cell_congr {cA : ClassId} {n : Nat} {f g : Nat → Option Nat} (h : ∀ j, j < n → f j = g j) : vp_cell cA (n, .inr (.inr (.inr (.inr f)))) = vp_cell cA (n, .inr (.inr (.inr (.inr g)))) := by
  simp only [vp_cell, arrV]
  congr 2
  funext j
  rw [h j.val j.isLt]
theorem zAt_app {D : va_G} {as : List Nat} {q a : Nat} {cA : ClassId} {c : zCe} {H : Heap} (hw : wfc as.length c) (h : va_at D vwCl (a, zEnt as cA c) H) : va_at D vwCl (a, zEnt (as ++ [q]) cA c) H := by
  obtain ⟨k, n, f⟩ := c
  rcases hw with ⟨h1, h2, h3⟩ | ⟨h1, h2, h3, h4⟩
  · rw [zEnt_congr (as := as ++ [q]) (as' := as) (g := f) (by omega) (fun j hj => zFv_app (h3 j hj))]
    exact h
  · have hb : Nat.ble 20 k = true := Nat.ble_eq_true_of_le h1
    simp only [zEnt, hb] at h ⊢
    have hk : k = 20 ∨ k = 21 ∨ k = 22 ∨ k = 23 ∨ k = 24 := by simp only at h1 h2; omega
    rcases hk with rfl | rfl | rfl | rfl | rfl
    · exact h
    · exact h
    · exact h
    · show H[a]? = some (vp_cell cA (n, .inr (.inr (.inr (.inr (fun j => zEr (as ++ [q]) (f j)))))))
      rw [vp_cell_congr (g := fun j => zEr as (f j)) (fun j hj => zEr_app (h4 j hj))]
      exact h
    · show H[a]? = some (vp_cell cA (n, .inr (.inr (.inr (.inr (fun j => zEr (as ++ [q]) (f j)))))))
      rw [vp_cell_congr (g := fun j => zEr as (f j)) (fun j hj => zEr_app (h4 j hj))]
      exact h
theorem cv_app {b : Nat} {as : List Nat} {sc : Prop} {q : Nat} {a : zAv} (h : wfv as.length sc a) : cv b (as ++ [q]) a = cv b as a := by
  obtain ⟨t, x⟩ := a
  unfold cv wfv at *
  simp only at *
  split
  · rfl
  · rfl
  · obtain ⟨h1, h2⟩ := h
    rw [getD_app (by omega)]
  · rfl
theorem wfv_up {n n' : Nat} {sc : Prop} {a : zAv} (hn : n ≤ n') (h : wfv n sc a) : wfv n' sc a := by
  obtain ⟨t, x⟩ := a
  unfold wfv at *
  simp only at *
  split at h
  · exact h
  · exact h
  · exact ⟨h.1, by omega⟩
  · exact h
  · exact h
theorem wff_up {n n' t : Nat} {x : Int} (hn : n ≤ n') (h : wff n t x) : wff n' t x := by
  unfold wff at *
  split at h
  · exact h
  · exact h
  · omega
theorem wfc_up {n n' : Nat} {c : zCe} (hn : n ≤ n') (h : wfc n c) : wfc n' c := by
  rcases h with ⟨h1, h2, h3⟩ | ⟨h1, h2, h3, h4⟩
  · exact Or.inl ⟨h1, h2, fun k hk => wff_up hn (h3 k hk)⟩
  · exact Or.inr ⟨h1, h2, h3, fun k hk => wff_up hn (h4 k hk)⟩
/-- the heap -/
def zHR (s : State) (D : va_G) (A : Nat → Prop) (H0 : Heap) (as : List Nat) (ca : Nat → ClassId) (h : zH1) (H : Heap) (locs : List Loc) : Prop :=
  as.length = h.length ∧ (∃ tys, va_K D vwCl tys s ∧ ∀ (k : Nat) (c : zCe), h[k]? = some c → 20 ≤ c.1 → ∃ t0 : Nat, tys[t0]? = some (ca k, zAk c.1)) ∧ va_P D vwCl (zWs as ca h) H ∧ va_D A (zWs as ca h) ∧ va_S A H0 H locs ∧ ∀ (k : Nat) (c : zCe), h[k]? = some c → wfc h.length c
def lvF (b : Nat) (as : List Nat) (ls : Array Slot) (nL : Nat) (L : zLo) : Prop := ls.size = nL ∧ lv_wf ls ∧ ∀ (i : Nat) (a : zAv), zGl L i = some a → ls[i]? = some (.val (cv b as a))
/-- the frame -/
def zFR (b : Nat) (sc : Prop) (as : List Nat) (n : Nat) (L : zLo) (st : List zAv) (ls : Array Slot) (nL : Nat) : Prop :=
  lvF b as ls nL L ∧ L.length = nL ∧ (∀ (i : Nat) (a : zAv), zGl L i = some a → wfv n sc a) ∧ ∀ a ∈ st, wfv n sc a
theorem zGl_set {L : zLo} {i j : Nat} {x : Option zAv} {a : zAv} (h : zGl (L.set i x) j = some a) : (i = j ∧ x = some a) ∨ (i ≠ j ∧ zGl L j = some a) := by
  unfold zGl at *
  rw [List.getElem?_set] at h
  by_cases hi : i = j
  · rw [if_pos hi] at h
    left
    refine ⟨hi, ?_⟩
    by_cases hl : i < L.length
    · rw [if_pos hl] at h
      cases x with
      | none => simp at h
      | some y => simpa using h
    · rw [if_neg hl] at h
      simp at h
  · rw [if_neg hi] at h
    exact Or.inr ⟨hi, h⟩
theorem zGl_kl {L : zLo} {i j : Nat} {a : zAv} (h : zGl (zKl L i) j = some a) : zGl L j = some a ∧ ¬ (j + 1 = i ∧ a.1 = 1) := by
  cases i with
  | zero => exact ⟨h, fun q => by omega⟩
  | succ i =>
    unfold zKl at h
    simp only at h
    split at h
    · rename_i x hx
      rcases zGl_set h with ⟨h1, h2⟩ | ⟨h1, h2⟩
      · cases h2
      · exact ⟨h2, fun q => h1 (by omega)⟩
    · rename_i hx
      refine ⟨h, fun q => ?_⟩
      obtain ⟨q1, q2⟩ := q
      have hj : j = i := by omega
      subst hj
      obtain ⟨t, x⟩ := a
      simp only at q2
      subst q2
      exact hx x h
theorem zKl_len {L : zLo} {i : Nat} : (zKl L i).length = L.length := by
  cases i with
  | zero => rfl
  | succ i => unfold zKl; simp only; split <;> simp
theorem cv_cat2 {b : Nat} {as : List Nat} {a : zAv} (h : (cv b as a).category = 2) : a.1 = 1 := by
  obtain ⟨t, x⟩ := a
  unfold cv at h
  simp only at *
  split at h <;> simp_all [Value.category]
theorem cv_cat1 {b : Nat} {as : List Nat} {a : zAv} (h : ¬ a.1 = 1) : (cv b as a).category = 1 := by
  rcases lv_cat (cv b as a) with h1 | h1
  · exact h1
  · exact absurd (cv_cat2 h1) h
/-- the listed values of the locals -/
def zAs (b : Nat) (as : List Nat) (L : zLo) : List (Nat × Value) := (List.range L.length).filterMap (fun i => (zGl L i).map (fun a => (i, cv b as a)))
theorem zGl_lt {L : zLo} {i : Nat} {a : zAv} (h : zGl L i = some a) : i < L.length := by
  unfold zGl at h
  split at h
  · rename_i e; exact (List.getElem?_eq_some_iff.mp e).1
  · cases h
theorem zAs_in {b : Nat} {as : List Nat} {L : zLo} {i : Nat} {a : zAv} (h : zGl L i = some a) : (i, cv b as a) ∈ zAs b as L :=
  List.mem_filterMap.mpr ⟨i, List.mem_range.mpr (zGl_lt h), by rw [h]; rfl⟩
theorem lvF.has {b : Nat} {as : List Nat} {ls : Array Slot} {nL : Nat} {L : zLo} (h : lvF b as ls nL L) : lv_has ls nL (zAs b as L) := by
  refine ⟨h.1, h.2.1, fun q hq => ?_⟩
  obtain ⟨i, -, hi⟩ := List.mem_filterMap.mp hq
  cases e : zGl L i with
  | none => rw [e] at hi; cases hi
  | some a => rw [e] at hi; cases hi; exact h.2.2 i a e
theorem lvF.sto {b : Nat} {as : List Nat} {ls' : Array Slot} {nL n : Nat} {L : zLo} {a : zAv} (h : lv_has ls' nL ((n, cv b as a) :: (zAs b as L).filter (fun q => !(q.1 == n) && !(q.1 + 1 == n && q.2.category == 2)))) : lvF b as ls' nL (zSt L n a) := by
  refine ⟨h.1, h.2.1, fun j c hj => ?_⟩
  rcases zGl_set hj with ⟨h1, h2⟩ | ⟨h1, h2⟩
  · cases h2
    subst h1
    exact h.2.2 (n, _) List.mem_cons_self
  · obtain ⟨h3, h4⟩ := zGl_kl h2
    refine h.2.2 (j, cv b as c) (List.mem_cons_of_mem _ (List.mem_filter.mpr ⟨zAs_in h3, ?_⟩))
    simp only [Bool.and_eq_true, Bool.not_eq_true', beq_eq_false_iff_ne, Bool.and_eq_false_iff]
    refine ⟨fun e => h1 e.symm, ?_⟩
    by_cases hc : (cv b as c).category = 2
    · left
      intro e
      exact h4 ⟨e, cv_cat2 hc⟩
    · right
      exact hc
theorem lvF.stoL {b : Nat} {as : List Nat} {ls' : Array Slot} {nL n : Nat} {L : zLo} {a : zAv} (h : lv_has ls' nL ((n, cv b as a) :: (zAs b as L).filter (fun q => !(q.1 == n) && (!(q.1 == n + 1) && !(q.1 + 1 == n && q.2.category == 2))))) : lvF b as ls' nL (zStL L n a) := by
  refine ⟨h.1, h.2.1, fun j c hj => ?_⟩
  rcases zGl_set hj with ⟨h1, h2⟩ | ⟨h0, h2⟩
  · cases h2
  · rcases zGl_set h2 with ⟨h1, h2⟩ | ⟨h1, h2⟩
    · cases h2
      subst h1
      exact h.2.2 (n, _) List.mem_cons_self
    · obtain ⟨h3, h4⟩ := zGl_kl h2
      refine h.2.2 (j, cv b as c) (List.mem_cons_of_mem _ (List.mem_filter.mpr ⟨zAs_in h3, ?_⟩))
      simp only [Bool.and_eq_true, Bool.not_eq_true', beq_eq_false_iff_ne, Bool.and_eq_false_iff]
      refine ⟨fun e => h1 e.symm, fun e => h0 e.symm, ?_⟩
      by_cases hc : (cv b as c).category = 2
      · left
        intro e
        exact h4 ⟨e, cv_cat2 hc⟩
      · right
        exact hc
theorem o32 {x : Int} (h : zR32 x) : (Int32.ofInt x).toInt = x := Int32.toInt_ofInt_of_le h.1 h.2
theorem o64 {x : Int} (h : zR64 x) : (Int64.ofInt x).toInt = x := Int64.toInt_ofInt_of_le h.1 h.2
theorem r32 (x : Int32) : zR32 x.toInt := ⟨x.le_toInt, x.toInt_lt⟩
theorem r64 (x : Int64) : zR64 x.toInt := ⟨x.le_toInt, x.toInt_lt⟩
theorem o32_lt {x y : Int} (hx : zR32 x) (hy : zR32 y) : Int32.ofInt x < Int32.ofInt y ↔ x < y := by
  rw [Int32.lt_iff_toInt_lt, o32 hx, o32 hy]
theorem o32_le {x y : Int} (hx : zR32 x) (hy : zR32 y) : Int32.ofInt x ≤ Int32.ofInt y ↔ x ≤ y := by
  rw [Int32.le_iff_toInt_le, o32 hx, o32 hy]
theorem o32_eq {x y : Int} (hx : zR32 x) (hy : zR32 y) : Int32.ofInt x = Int32.ofInt y ↔ x = y := by
  rw [← Int32.toInt_inj, o32 hx, o32 hy]
theorem o64_lt {x y : Int} (hx : zR64 x) (hy : zR64 y) : Int64.ofInt x < Int64.ofInt y ↔ x < y := by
  rw [Int64.lt_iff_toInt_lt, o64 hx, o64 hy]
theorem o64_eq {x y : Int} (hx : zR64 x) (hy : zR64 y) : Int64.ofInt x = Int64.ofInt y ↔ x = y := by
  rw [← Int64.toInt_inj, o64 hx, o64 hy]
theorem o32_0 : Int32.ofInt 0 = 0 := rfl
theorem r32_0 : zR32 0 := ⟨by decide, by decide⟩
theorem o32_cl {x : Int} (h : zR32 x) (h0 : 0 ≤ x) : (Int32.ofInt x).toNatClampNeg = x.toNat := by
  rw [Int32.toNatClampNeg, o32 h]
theorem o32_in {x : Int} {n : Nat} (h : zR32 x) (h0 : 0 ≤ x ∧ x < (n : Int)) : vp_in (Int32.ofInt x) n := by
  unfold vp_in
  rw [Int32.lt_iff_toInt_lt, o32 h, o32_cl h h0.1]
  have : (0 : Int32).toInt = 0 := rfl
  omega
end
section
/-! One instruction of the abstract machine is one of the real one. -/
def zLn (i : Instr) : Nat := match i with
  | .aload _ => 2
  | .iload _ => 2
  | .lload _ => 2
  | .astore _ => 2
  | .istore _ => 2
  | .lstore _ => 2
  | .bipush _ => 2
  | .ldc _ => 2
  | .newarray _ => 2
  | .sipush _ => 3
  | .ldc_w _ => 3
  | .ldc2_w _ => 3
  | .iinc _ _ => 3
  | .ifCond _ _ => 3
  | .if_icmp _ _ => 3
  | .goto _ => 3
  | .getfield _ => 3
  | .putfield _ => 3
  | .new _ => 3
  | .anewarray _ => 3
  | .invokestatic _ => 3
  | .invokespecial _ => 3
  | .invokevirtual _ => 3
  | .tableswitch _ _ _ _ => 0
  | .lookupswitch _ _ => 0
  | _ => 1
def zLnOk (i : Instr) (len : Nat) : Bool := Nat.beq (zLn i) len || Nat.beq (zLn i) 0
def zKnS (s : State) : Prop := va_AO "EchoVale$Course" s ∧ va_AO "EchoVale$Image" s ∧ (∀ r ∈ zLSN, va_Nw (.methodLinkNest (zOw r.1) r.2.1 (zmY r.2.2.1) "EchoVale") s) ∧ ∀ r ∈ zLPN, va_Nw (.methodLinkNest (zOw r.1) r.2.1 (zmY r.2.2.1) "EchoVale") s
def zIsI (mi : Nat) : Bool := decide ((zmY mi).name = "<init>")
section ZS
variable {p : Program} {l : Launch} {e : Env} {R : Room} {s : State} {m : MethodId} {args : Array Value} {below : List Frame} {meth : Method} {c : Code} {Q : State → Prop}
variable {D : va_G} {A : Nat → Prop} {H0 : Heap} {b Ls : Nat} {xs : Nat → Int32} {mi n0 s0 : Nat}
def zCx (p : Program) (R : Room) (s : State) (m : MethodId) (args : Array Value) (meth : Method) (c : Code) (A : Nat → Prop) (H0 : Heap) (b Ls : Nat) (xs : Nat → Int32) (mi : Nat) : Prop :=
  p.tables.exec = Jvm.exec ∧ c.code = zmCode mi ∧ c.maxLocals = zmMax mi ∧ s.vm.findClass (zOw (zmC mi)) = some m.cls ∧ (∀ w ∈ zGW, w.before args s = true) ∧ zKnS s ∧ (∀ q, H0.size ≤ q → A q) ∧ meth.name = (zmY mi).name ∧ (zmC mi = 16 → va_X b Ls xs s H0 ∧ b < H0.size ∧ ¬ A b ∧ Ls < 2 ^ 31) ∧ 1 ≤ R.frames ∧ 40 ≤ R.locals
/-- what is still to be shown of a place of the method -/
def zGoal (p : Program) (l : Launch) (e : Env) (R : Room) (s : State) (m : MethodId) (args : Array Value) (below : List Frame) (meth : Method) (c : Code) (Q : State → Prop) (D : va_G) (A : Nat → Prop) (H0 : Heap) (b mi n0 s0 : Nat) (as0 : List Nat) (cf : zCf zH1) : Prop :=
  ∀ (as : List Nat) (ca : Nat → ClassId) (ls : Array Slot) (H : Heap) (locs : List Loc), zHR s D A H0 as ca cf.2.2.2 H locs → zFR b (zmC mi = 16) as cf.2.2.2.length cf.2.1 cf.2.2.1 ls (zmMax mi) → as0 <+: as →
    W p l e R s m args below meth c H locs (cf.2.2.2.length - n0) (zSl cf.2.2.2 - s0) Q (F0 m cf.1 ls (cf.2.2.1.map (cv b as)))
theorem zGoal.mono {as0 as1 : List Nat} {cf : zCf zH1} (h : as0 <+: as1) (g : zGoal p l e R s m args below meth c Q D A H0 b mi n0 s0 as0 cf) : zGoal p l e R s m args below meth c Q D A H0 b mi n0 s0 as1 cf :=
  fun as ca ls H locs hH hF hp => g as ca ls H locs hH hF (h.trans hp)
theorem cv_ref {as : List Nat} {t : Nat} {x : Int} (h : zGe2 t = true) : ∃ r : Nat, cv b as (t, x) = .ref r := by
  have h2 := Nat.le_of_ble_eq_true h
  unfold cv
  simp only
  split
  · omega
  · omega
  · exact ⟨_, rfl⟩
  · exact ⟨_, rfl⟩
theorem zFR.push {sc : Prop} {as : List Nat} {n nL : Nat} {L : zLo} {st : List zAv} {ls : Array Slot} {a : zAv} (h : zFR b sc as n L st ls nL) (ha : wfv n sc a) : zFR b sc as n L (a :: st) ls nL :=
  ⟨h.1, h.2.1, h.2.2.1, fun x hx => by
    rcases List.mem_cons.mp hx with rfl | hx
    · exact ha
    · exact h.2.2.2 x hx⟩
theorem zFR.tl {sc : Prop} {as : List Nat} {n nL : Nat} {L : zLo} {st : List zAv} {ls : Array Slot} {a : zAv} (h : zFR b sc as n L (a :: st) ls nL) : zFR b sc as n L st ls nL :=
  ⟨h.1, h.2.1, h.2.2.1, fun x hx => h.2.2.2 x (List.mem_cons_of_mem _ hx)⟩
theorem zFR.hd {sc : Prop} {as : List Nat} {n nL : Nat} {L : zLo} {st : List zAv} {ls : Array Slot} {a : zAv} (h : zFR b sc as n L (a :: st) ls nL) : wfv n sc a := h.2.2.2 a List.mem_cons_self
theorem zFR.sto {sc : Prop} {as : List Nat} {n nL k : Nat} {L L' : zLo} {st : List zAv} {ls ls' : Array Slot} {a : zAv} (h : zFR b sc as n L st ls nL) (ha : wfv n sc a) (h1 : lvF b as ls' nL L') (h2 : L'.length = L.length) (h3 : ∀ i c, zGl L' i = some c → (c = a) ∨ zGl L i = some c) : zFR b sc as n L' st ls' nL :=
  ⟨h1, h2.trans h.2.1, fun i c hc => by
    rcases h3 i c hc with rfl | h4
    · exact ha
    · exact h.2.2.1 i c h4, h.2.2.2⟩
theorem zSt_or {L : zLo} {k : Nat} {a : zAv} : ∀ i c, zGl (zSt L k a) i = some c → (c = a) ∨ zGl L i = some c := by
  intro i c hc
  rcases zGl_set hc with ⟨-, h2⟩ | ⟨-, h2⟩
  · cases h2; exact Or.inl rfl
  · exact Or.inr (zGl_kl h2).1
theorem zStL_or {L : zLo} {k : Nat} {a : zAv} : ∀ i c, zGl (zStL L k a) i = some c → (c = a) ∨ zGl L i = some c := by
  intro i c hc
  rcases zGl_set hc with ⟨-, h2⟩ | ⟨-, h2⟩
  · cases h2
  · rcases zGl_set h2 with ⟨-, h2⟩ | ⟨-, h2⟩
    · cases h2; exact Or.inl rfl
    · exact Or.inr (zGl_kl h2).1
theorem zSt_len {L : zLo} {k : Nat} {a : zAv} : (zSt L k a).length = L.length := by simp [zSt, zKl_len]
theorem zStL_len {L : zLo} {k : Nat} {a : zAv} : (zStL L k a).length = L.length := by simp [zStL, zKl_len]
theorem lvF.at {as : List Nat} {ls : Array Slot} {nL i : Nat} {L : zLo} {a : zAv} (h : lvF b as ls nL L) (e : zGl L i = some a) : ls[i]? = some (.val (cv b as a)) := h.2.2 i a e
/-- loads -/
theorem z_ld {pc len n : Nat} {L : zLo} {st : List zAv} {h : zH1} {gs : List Prop} {cf : zCf zH1} {ok : Nat → Bool} {as0 : List Nat}
    (row : ∀ (as : List Nat) (t : Nat) (x : Int) (ls : Array Slot) (H : Heap) (locs : List Loc) (rest : List Value) (k1 k2 : Nat), ok t = true → ls[n]? = some (.val (cv b as (t, x))) → W p l e R s m args below meth c H locs k1 k2 Q (F0 m (pc + len) ls (cv b as (t, x) :: rest)) → W p l e R s m args below meth c H locs k1 k2 Q (F0 m pc ls rest))
    (hE : zLd ok n len (pc, L, st, h) = some (gs, cf)) (kk : zGoal p l e R s m args below meth c Q D A H0 b mi n0 s0 as0 cf) : zGoal p l e R s m args below meth c Q D A H0 b mi n0 s0 as0 (pc, L, st, h) := by
  unfold zLd at hE
  simp only at hE
  split at hE
  · rename_i t x e1
    split at hE
    · rename_i e2
      cases hE
      intro as ca ls H locs hH hF hp
      exact row as t x ls H locs _ _ _ e2 (hF.1.at e1) (kk as ca ls H locs hH (hF.push (hF.2.2.1 n _ e1)) hp)
    · cases hE
  · cases hE
/-- a push -/
theorem z_pu {pc len : Nat} {L : zLo} {st : List zAv} {h : zH1} {gs : List Prop} {cf : zCf zH1} {v : zAv} {as0 : List Nat} (hv : ∀ n, wfv n (zmC mi = 16) v)
    (row : ∀ (as : List Nat) (ls : Array Slot) (H : Heap) (locs : List Loc) (rest : List Value) (k1 k2 : Nat), W p l e R s m args below meth c H locs k1 k2 Q (F0 m (pc + len) ls (cv b as v :: rest)) → W p l e R s m args below meth c H locs k1 k2 Q (F0 m pc ls rest))
    (hE : zPu v len (pc, L, st, h) = some (gs, cf)) (kk : zGoal p l e R s m args below meth c Q D A H0 b mi n0 s0 as0 cf) : zGoal p l e R s m args below meth c Q D A H0 b mi n0 s0 as0 (pc, L, st, h) := by
  cases hE
  intro as ca ls H locs hH hF hp
  exact row as ls H locs _ _ _ (kk as ca ls H locs hH (hF.push (hv _)) hp)
/-- stores -/
theorem z_sto {pc len n : Nat} {L : zLo} {st : List zAv} {h : zH1} {gs : List Prop} {cf : zCf zH1} {ok : Nat → Bool} {as0 : List Nat}
    (row : ∀ (as : List Nat) (t : Nat) (x : Int) (ls : Array Slot) (H : Heap) (locs : List Loc) (rest : List Value) (k1 k2 : Nat), ok t = true → n < zmMax mi → lv_has ls (zmMax mi) (zAs b as L) → (∀ ls' : Array Slot, lv_has ls' (zmMax mi) ((n, cv b as (t, x)) :: (zAs b as L).filter (fun q => !(q.1 == n) && !(q.1 + 1 == n && q.2.category == 2))) → W p l e R s m args below meth c H locs k1 k2 Q (F0 m (pc + len) ls' rest)) → W p l e R s m args below meth c H locs k1 k2 Q (F0 m pc ls (cv b as (t, x) :: rest)))
    (hE : zSto ok n len (pc, L, st, h) = some (gs, cf)) (kk : zGoal p l e R s m args below meth c Q D A H0 b mi n0 s0 as0 cf) : zGoal p l e R s m args below meth c Q D A H0 b mi n0 s0 as0 (pc, L, st, h) := by
  unfold zSto at hE
  simp only at hE
  split at hE
  · rename_i t x r
    split at hE
    · rename_i e2
      cases hE
      rw [Bool.and_eq_true] at e2
      intro as ca ls H locs hH hF hp
      have hn : n < zmMax mi := by rw [← hF.2.1]; exact Nat.le_of_ble_eq_true e2.2
      exact row as t x ls H locs _ _ _ e2.1 hn hF.1.has (fun ls' hl => kk as ca ls' H locs hH (hF.tl.sto (k := 0) hF.hd (lvF.sto hl) zSt_len zSt_or) hp)
    · cases hE
  · cases hE
theorem z_stoL {pc len n : Nat} {L : zLo} {st : List zAv} {h : zH1} {gs : List Prop} {cf : zCf zH1} {as0 : List Nat}
    (row : ∀ (as : List Nat) (x : Int) (ls : Array Slot) (H : Heap) (locs : List Loc) (rest : List Value) (k1 k2 : Nat), n + 1 < zmMax mi → lv_has ls (zmMax mi) (zAs b as L) → (∀ ls' : Array Slot, lv_has ls' (zmMax mi) ((n, .long (Int64.ofInt x)) :: (zAs b as L).filter (fun q => !(q.1 == n) && (!(q.1 == n + 1) && !(q.1 + 1 == n && q.2.category == 2)))) → W p l e R s m args below meth c H locs k1 k2 Q (F0 m (pc + len) ls' rest)) → W p l e R s m args below meth c H locs k1 k2 Q (F0 m pc ls (.long (Int64.ofInt x) :: rest)))
    (hE : zStoL n len (pc, L, st, h) = some (gs, cf)) (kk : zGoal p l e R s m args below meth c Q D A H0 b mi n0 s0 as0 cf) : zGoal p l e R s m args below meth c Q D A H0 b mi n0 s0 as0 (pc, L, st, h) := by
  unfold zStoL at hE
  simp only at hE
  split at hE
  · rename_i x r
    split at hE
    · rename_i e2
      cases hE
      intro as ca ls H locs hH hF hp
      have hn : n + 1 < zmMax mi := by rw [← hF.2.1]; exact Nat.le_of_ble_eq_true e2
      exact row as x ls H locs _ _ _ hn hF.1.has (fun ls' hl => kk as ca ls' H locs hH (hF.tl.sto (k := 0) hF.hd (lvF.stoL hl) zStL_len zStL_or) hp)
    · cases hE
  · cases hE
theorem z_b0 {pc : Nat} {L : zLo} {st : List zAv} {h : zH1} {gs : List Prop} {cf : zCf zH1} {f : Int → Int → Int} {as0 : List Nat} {F : Int32 → Int32 → Int32} (hf : ∀ x y, f x y = (F (Int32.ofInt x) (Int32.ofInt y)).toInt)
    (row : ∀ (x y : Int32) (ls : Array Slot) (H : Heap) (locs : List Loc) (rest : List Value) (k1 k2 : Nat), W p l e R s m args below meth c H locs k1 k2 Q (F0 m (pc + 1) ls (.int (F x y) :: rest)) → W p l e R s m args below meth c H locs k1 k2 Q (F0 m pc ls (.int y :: .int x :: rest)))
    (hE : zB0 f (pc, L, st, h) = some (gs, cf)) (kk : zGoal p l e R s m args below meth c Q D A H0 b mi n0 s0 as0 cf) : zGoal p l e R s m args below meth c Q D A H0 b mi n0 s0 as0 (pc, L, st, h) := by
  unfold zB0 at hE
  simp only at hE
  split at hE
  · rename_i y x r
    cases hE
    intro as ca ls H locs hH hF hp
    refine row (Int32.ofInt x) (Int32.ofInt y) ls H locs _ _ _ ?_
    have := kk as ca ls H locs hH (hF.tl.tl.push (a := (0, f x y)) (by rw [hf]; exact r32 _)) hp
    simpa only [List.map_cons, cv, hf, Int32.ofInt_toInt] using this
  · cases hE
theorem z_b0d {pc : Nat} {L : zLo} {st : List zAv} {h : zH1} {gs : List Prop} {cf : zCf zH1} {f : Int → Int → Int} {as0 : List Nat} {F : Int32 → Int32 → Int32} (hf : ∀ x y, f x y = (F (Int32.ofInt x) (Int32.ofInt y)).toInt)
    (row : ∀ (x y : Int32) (ls : Array Slot) (H : Heap) (locs : List Loc) (rest : List Value) (k1 k2 : Nat), ¬ y = 0 → W p l e R s m args below meth c H locs k1 k2 Q (F0 m (pc + 1) ls (.int (F x y) :: rest)) → W p l e R s m args below meth c H locs k1 k2 Q (F0 m pc ls (.int y :: .int x :: rest)))
    (hE : zB0d f (pc, L, st, h) = some (gs, cf)) (hg : zAll gs) (kk : zGoal p l e R s m args below meth c Q D A H0 b mi n0 s0 as0 cf) : zGoal p l e R s m args below meth c Q D A H0 b mi n0 s0 as0 (pc, L, st, h) := by
  unfold zB0d at hE
  simp only at hE
  split at hE
  · rename_i y x r
    cases hE
    intro as ca ls H locs hH hF hp
    have hy : ¬ Int32.ofInt y = 0 := by
      rw [← o32_0, o32_eq hF.hd r32_0]; exact hg.1
    refine row (Int32.ofInt x) (Int32.ofInt y) ls H locs _ _ _ hy ?_
    have := kk as ca ls H locs hH (hF.tl.tl.push (a := (0, f x y)) (by rw [hf]; exact r32 _)) hp
    simpa only [List.map_cons, cv, hf, Int32.ofInt_toInt] using this
  · cases hE
theorem z_b1 {pc : Nat} {L : zLo} {st : List zAv} {h : zH1} {gs : List Prop} {cf : zCf zH1} {f : Int → Int → Int} {as0 : List Nat} {F : Int64 → Int64 → Int64} (hf : ∀ x y, f x y = (F (Int64.ofInt x) (Int64.ofInt y)).toInt)
    (row : ∀ (x y : Int64) (ls : Array Slot) (H : Heap) (locs : List Loc) (rest : List Value) (k1 k2 : Nat), W p l e R s m args below meth c H locs k1 k2 Q (F0 m (pc + 1) ls (.long (F x y) :: rest)) → W p l e R s m args below meth c H locs k1 k2 Q (F0 m pc ls (.long y :: .long x :: rest)))
    (hE : zB1 f (pc, L, st, h) = some (gs, cf)) (kk : zGoal p l e R s m args below meth c Q D A H0 b mi n0 s0 as0 cf) : zGoal p l e R s m args below meth c Q D A H0 b mi n0 s0 as0 (pc, L, st, h) := by
  unfold zB1 at hE
  simp only at hE
  split at hE
  · rename_i y x r
    cases hE
    intro as ca ls H locs hH hF hp
    refine row (Int64.ofInt x) (Int64.ofInt y) ls H locs _ _ _ ?_
    have := kk as ca ls H locs hH (hF.tl.tl.push (a := (1, f x y)) (by rw [hf]; exact r64 _)) hp
    simpa only [List.map_cons, cv, hf, Int64.ofInt_toInt] using this
  · cases hE
theorem z_b1d {pc : Nat} {L : zLo} {st : List zAv} {h : zH1} {gs : List Prop} {cf : zCf zH1} {f : Int → Int → Int} {as0 : List Nat} {F : Int64 → Int64 → Int64} (hf : ∀ x y, f x y = (F (Int64.ofInt x) (Int64.ofInt y)).toInt)
    (row : ∀ (x y : Int64) (ls : Array Slot) (H : Heap) (locs : List Loc) (rest : List Value) (k1 k2 : Nat), ¬ y = 0 → W p l e R s m args below meth c H locs k1 k2 Q (F0 m (pc + 1) ls (.long (F x y) :: rest)) → W p l e R s m args below meth c H locs k1 k2 Q (F0 m pc ls (.long y :: .long x :: rest)))
    (hE : zB1d f (pc, L, st, h) = some (gs, cf)) (hg : zAll gs) (kk : zGoal p l e R s m args below meth c Q D A H0 b mi n0 s0 as0 cf) : zGoal p l e R s m args below meth c Q D A H0 b mi n0 s0 as0 (pc, L, st, h) := by
  unfold zB1d at hE
  simp only at hE
  split at hE
  · rename_i y x r
    cases hE
    intro as ca ls H locs hH hF hp
    have hy : ¬ Int64.ofInt y = 0 := by
      rw [show (0 : Int64) = Int64.ofInt 0 from rfl, o64_eq hF.hd ⟨by decide, by decide⟩]; exact hg.1
    refine row (Int64.ofInt x) (Int64.ofInt y) ls H locs _ _ _ hy ?_
    have := kk as ca ls H locs hH (hF.tl.tl.push (a := (1, f x y)) (by rw [hf]; exact r64 _)) hp
    simpa only [List.map_cons, cv, hf, Int64.ofInt_toInt] using this
  · cases hE
theorem z_b10 {pc : Nat} {L : zLo} {st : List zAv} {h : zH1} {gs : List Prop} {cf : zCf zH1} {f : Int → Int → Int} {as0 : List Nat} {F : Int64 → Int32 → Int64} (hf : ∀ x y, f x y = (F (Int64.ofInt x) (Int32.ofInt y)).toInt)
    (row : ∀ (x : Int64) (y : Int32) (ls : Array Slot) (H : Heap) (locs : List Loc) (rest : List Value) (k1 k2 : Nat), W p l e R s m args below meth c H locs k1 k2 Q (F0 m (pc + 1) ls (.long (F x y) :: rest)) → W p l e R s m args below meth c H locs k1 k2 Q (F0 m pc ls (.int y :: .long x :: rest)))
    (hE : zB10 f (pc, L, st, h) = some (gs, cf)) (kk : zGoal p l e R s m args below meth c Q D A H0 b mi n0 s0 as0 cf) : zGoal p l e R s m args below meth c Q D A H0 b mi n0 s0 as0 (pc, L, st, h) := by
  unfold zB10 at hE
  simp only at hE
  split at hE
  · rename_i y x r
    cases hE
    intro as ca ls H locs hH hF hp
    refine row (Int64.ofInt x) (Int32.ofInt y) ls H locs _ _ _ ?_
    have := kk as ca ls H locs hH (hF.tl.tl.push (a := (1, f x y)) (by rw [hf]; exact r64 _)) hp
    simpa only [List.map_cons, cv, hf, Int64.ofInt_toInt] using this
  · cases hE
end ZS
end
section
section ZS2
variable {p : Program} {l : Launch} {e : Env} {R : Room} {s : State} {m : MethodId} {args : Array Value} {below : List Frame} {meth : Method} {c : Code} {Q : State → Prop}
variable {D : va_G} {A : Nat → Prop} {H0 : Heap} {b Ls : Nat} {xs : Nat → Int32} {mi n0 s0 : Nat}
variable {pc : Nat} {L : zLo} {st : List zAv} {h : zH1} {gs : List Prop} {cf : zCf zH1} {as0 : List Nat}
theorem z_cp (row : ∀ (x y : Int64) (ls : Array Slot) (H : Heap) (locs : List Loc) (rest : List Value) (k1 k2 : Nat), W p l e R s m args below meth c H locs k1 k2 Q (F0 m (pc + 1) ls (.int (lg_cmp x y) :: rest)) → W p l e R s m args below meth c H locs k1 k2 Q (F0 m pc ls (.long y :: .long x :: rest)))
    (hE : zCp (pc, L, st, h) = some (gs, cf)) (kk : zGoal p l e R s m args below meth c Q D A H0 b mi n0 s0 as0 cf) : zGoal p l e R s m args below meth c Q D A H0 b mi n0 s0 as0 (pc, L, st, h) := by
  unfold zCp at hE
  simp only at hE
  split at hE
  · rename_i y x r
    cases hE
    intro as ca ls H locs hH hF hp
    refine row (Int64.ofInt x) (Int64.ofInt y) ls H locs _ _ _ ?_
    have hx : zR64 x := hF.tl.hd
    have hy : zR64 y := hF.hd
    have e1 : Int32.ofInt (qcmp x y) = lg_cmp (Int64.ofInt x) (Int64.ofInt y) := by
      unfold qcmp lg_cmp
      simp only [gt_iff_lt, o64_lt hy hx, o64_eq hx hy]
      repeat' split
      all_goals rfl
    have := kk as ca ls H locs hH (hF.tl.tl.push (a := (0, qcmp x y)) (by
      show zR32 _
      unfold qcmp
      repeat' split
      all_goals exact ⟨by decide, by decide⟩)) hp
    simpa only [List.map_cons, cv, e1] using this
  · cases hE
theorem z_u {u t : Nat} {f : Int → Int} (hf : ∀ n x, wfv n (zmC mi = 16) (u, x) → wfv n (zmC mi = 16) (t, f x))
    (row : ∀ (n : Nat) (as : List Nat) (x : Int) (ls : Array Slot) (H : Heap) (locs : List Loc) (rest : List Value) (k1 k2 : Nat), wfv n (zmC mi = 16) (u, x) → W p l e R s m args below meth c H locs k1 k2 Q (F0 m (pc + 1) ls (cv b as (t, f x) :: rest)) → W p l e R s m args below meth c H locs k1 k2 Q (F0 m pc ls (cv b as (u, x) :: rest)))
    (hE : zU u t f (pc, L, st, h) = some (gs, cf)) (kk : zGoal p l e R s m args below meth c Q D A H0 b mi n0 s0 as0 cf) : zGoal p l e R s m args below meth c Q D A H0 b mi n0 s0 as0 (pc, L, st, h) := by
  unfold zU at hE
  simp only at hE
  split at hE
  · rename_i u' x r
    split at hE
    · rename_i e1
      cases hE
      have e2 := Nat.eq_of_beq_eq_true e1
      subst e2
      intro as ca ls H locs hH hF hp
      exact row _ as x ls H locs _ _ _ hF.hd (kk as ca ls H locs hH (hF.tl.push (hf _ x hF.hd)) hp)
    · cases hE
  · cases hE
theorem z_dup (row : ∀ (va : Value) (ls : Array Slot) (H : Heap) (locs : List Loc) (rest : List Value) (k1 k2 : Nat), va.category = 1 → W p l e R s m args below meth c H locs k1 k2 Q (F0 m (pc + 1) ls (va :: va :: rest)) → W p l e R s m args below meth c H locs k1 k2 Q (F0 m pc ls (va :: rest)))
    (hE : zDup (pc, L, st, h) = some (gs, cf)) (kk : zGoal p l e R s m args below meth c Q D A H0 b mi n0 s0 as0 cf) : zGoal p l e R s m args below meth c Q D A H0 b mi n0 s0 as0 (pc, L, st, h) := by
  unfold zDup at hE
  simp only at hE
  split at hE
  · rename_i t x r
    split at hE
    · cases hE
    · rename_i e1
      cases hE
      intro as ca ls H locs hH hF hp
      exact row _ ls H locs _ _ _ (cv_cat1 (Nat.ne_of_beq_eq_false e1)) (kk as ca ls H locs hH (hF.push hF.hd) hp)
  · cases hE
theorem z_pop (row : ∀ (va : Value) (ls : Array Slot) (H : Heap) (locs : List Loc) (rest : List Value) (k1 k2 : Nat), va.category = 1 → W p l e R s m args below meth c H locs k1 k2 Q (F0 m (pc + 1) ls (rest)) → W p l e R s m args below meth c H locs k1 k2 Q (F0 m pc ls (va :: rest)))
    (hE : zPop (pc, L, st, h) = some (gs, cf)) (kk : zGoal p l e R s m args below meth c Q D A H0 b mi n0 s0 as0 cf) : zGoal p l e R s m args below meth c Q D A H0 b mi n0 s0 as0 (pc, L, st, h) := by
  unfold zPop at hE
  simp only at hE
  split at hE
  · rename_i t x r
    split at hE
    · cases hE
    · rename_i e1
      cases hE
      intro as ca ls H locs hH hF hp
      exact row _ ls H locs _ _ _ (cv_cat1 (Nat.ne_of_beq_eq_false e1)) (kk as ca ls H locs hH hF.tl hp)
  · cases hE
theorem z_dup2 (row : ∀ (va vb : Value) (ls : Array Slot) (H : Heap) (locs : List Loc) (rest : List Value) (k1 k2 : Nat), va.category = 1 → vb.category = 1 → W p l e R s m args below meth c H locs k1 k2 Q (F0 m (pc + 1) ls (va :: vb :: va :: vb :: rest)) → W p l e R s m args below meth c H locs k1 k2 Q (F0 m pc ls (va :: vb :: rest)))
    (hE : zDup2 (pc, L, st, h) = some (gs, cf)) (kk : zGoal p l e R s m args below meth c Q D A H0 b mi n0 s0 as0 cf) : zGoal p l e R s m args below meth c Q D A H0 b mi n0 s0 as0 (pc, L, st, h) := by
  unfold zDup2 at hE
  simp only at hE
  split at hE
  · rename_i t x u y r
    split at hE
    · cases hE
    · rename_i e1
      cases hE
      rw [Bool.or_eq_false_iff] at e1
      intro as ca ls H locs hH hF hp
      exact row _ _ ls H locs _ _ _ (cv_cat1 (Nat.ne_of_beq_eq_false e1.1)) (cv_cat1 (Nat.ne_of_beq_eq_false e1.2)) (kk as ca ls H locs hH ((hF.push hF.tl.hd).push hF.hd) hp)
  · cases hE
theorem zJ_spec {off : Int} {pc t : Nat} (h : zJ off pc = some t) : (pc : Int) + off = (t : Int) := by
  unfold zJ at h
  split at h
  · rename_i e1
    cases h
    have := of_decide_eq_true e1
    omega
  · cases h
theorem z_go {off : Int} (row : ∀ (tgt : Nat) (ls : Array Slot) (H : Heap) (locs : List Loc) (rest : List Value) (k1 k2 : Nat), (pc : Int) + off = (tgt : Int) → W p l e R s m args below meth c H locs k1 k2 Q (F0 m tgt ls rest) → W p l e R s m args below meth c H locs k1 k2 Q (F0 m pc ls rest))
    (hE : zGo off (pc, L, st, h) = some (gs, cf)) (kk : zGoal p l e R s m args below meth c Q D A H0 b mi n0 s0 as0 cf) : zGoal p l e R s m args below meth c Q D A H0 b mi n0 s0 as0 (pc, L, st, h) := by
  unfold zGo at hE
  simp only at hE
  split at hE
  · rename_i t e1
    cases hE
    intro as ca ls H locs hH hF hp
    exact row _ ls H locs _ _ _ (zJ_spec e1) (kk as ca ls H locs hH hF hp)
  · cases hE
/-- a branch on a condition over the stack's top -/
theorem z_br {g : Prop} {off d : Int} {r : List zAv}
    (hE : zBr g off d r (pc, L, st, h) = some (gs, cf)) (hg : zAll gs) (kk : zGoal p l e R s m args below meth c Q D A H0 b mi n0 s0 as0 cf) :
    (∃ t : Nat, (pc : Int) + off = (t : Int) ∧ g ∧ zGoal p l e R s m args below meth c Q D A H0 b mi n0 s0 as0 (t, L, r, h)) ∨ (∃ t : Nat, (pc : Int) + off = (t : Int) ∧ ¬ g ∧ zGoal p l e R s m args below meth c Q D A H0 b mi n0 s0 as0 (pc + 3, L, r, h)) := by
  unfold zBr at hE
  simp only at hE
  split at hE
  · rename_i t e1
    split at hE
    · cases hE
      exact Or.inl ⟨t, zJ_spec e1, hg.1, kk⟩
    · cases hE
      exact Or.inr ⟨t, zJ_spec e1, hg.1, kk⟩
  · cases hE
theorem z_if {k : ClassFile.Cond} {off d : Int} {P : Int32 → Prop} (hP : ∀ x, zR32 x → (P (Int32.ofInt x) ↔ zCo k x 0))
    (row : ∀ (tgt : Nat) (x : Int32) (ls : Array Slot) (H : Heap) (locs : List Loc) (rest : List Value) (k1 k2 : Nat), (pc : Int) + off = (tgt : Int) → (P x → W p l e R s m args below meth c H locs k1 k2 Q (F0 m tgt ls rest)) → (¬ P x → W p l e R s m args below meth c H locs k1 k2 Q (F0 m (pc + 3) ls rest)) → W p l e R s m args below meth c H locs k1 k2 Q (F0 m pc ls (.int x :: rest)))
    (hE : zIf k off d (pc, L, st, h) = some (gs, cf)) (hg : zAll gs) (kk : zGoal p l e R s m args below meth c Q D A H0 b mi n0 s0 as0 cf) : zGoal p l e R s m args below meth c Q D A H0 b mi n0 s0 as0 (pc, L, st, h) := by
  unfold zIf at hE
  simp only at hE
  split at hE
  · rename_i x r
    intro as ca ls H locs hH hF hp
    rcases z_br hE hg kk with ⟨t, e1, e2, k1⟩ | ⟨t, e1, e2, k1⟩
    · exact row t (Int32.ofInt x) ls H locs _ _ _ e1 (fun _ => k1 as ca ls H locs hH hF.tl hp) (fun q => absurd ((hP x hF.hd).mpr e2) q)
    · exact row t (Int32.ofInt x) ls H locs _ _ _ e1 (fun q => absurd ((hP x hF.hd).mp q) e2) (fun _ => k1 as ca ls H locs hH hF.tl hp)
  · cases hE
theorem z_ic {k : ClassFile.Cond} {off d : Int} {P : Int32 → Int32 → Prop} (hP : ∀ x y, zR32 x → zR32 y → (P (Int32.ofInt x) (Int32.ofInt y) ↔ zCo k x y))
    (row : ∀ (tgt : Nat) (x y : Int32) (ls : Array Slot) (H : Heap) (locs : List Loc) (rest : List Value) (k1 k2 : Nat), (pc : Int) + off = (tgt : Int) → (P x y → W p l e R s m args below meth c H locs k1 k2 Q (F0 m tgt ls rest)) → (¬ P x y → W p l e R s m args below meth c H locs k1 k2 Q (F0 m (pc + 3) ls rest)) → W p l e R s m args below meth c H locs k1 k2 Q (F0 m pc ls (.int y :: .int x :: rest)))
    (hE : zIc k off d (pc, L, st, h) = some (gs, cf)) (hg : zAll gs) (kk : zGoal p l e R s m args below meth c Q D A H0 b mi n0 s0 as0 cf) : zGoal p l e R s m args below meth c Q D A H0 b mi n0 s0 as0 (pc, L, st, h) := by
  unfold zIc at hE
  simp only at hE
  split at hE
  · rename_i y x r
    intro as ca ls H locs hH hF hp
    have hx : zR32 x := hF.tl.hd
    have hy : zR32 y := hF.hd
    rcases z_br hE hg kk with ⟨t, e1, e2, k1⟩ | ⟨t, e1, e2, k1⟩
    · exact row t (Int32.ofInt x) (Int32.ofInt y) ls H locs _ _ _ e1 (fun _ => k1 as ca ls H locs hH hF.tl.tl hp) (fun q => absurd ((hP x y hx hy).mpr e2) q)
    · exact row t (Int32.ofInt x) (Int32.ofInt y) ls H locs _ _ _ e1 (fun q => absurd ((hP x y hx hy).mp q) e2) (fun _ => k1 as ca ls H locs hH hF.tl.tl hp)
  · cases hE
theorem z_ii {n : Nat} {k : Int}
    (row : ∀ (as : List Nat) (x : Int) (j : Nat) (ls : Array Slot) (H : Heap) (locs : List Loc) (rest : List Value) (k1 k2 : Nat), n < zmMax mi → lv_has ls (zmMax mi) (zAs b as L) → (zAs b as L)[j]? = some (n, .int (Int32.ofInt x)) → (∀ ls' : Array Slot, lv_has ls' (zmMax mi) ((n, cv b as (0, wadd x k)) :: (zAs b as L).filter (fun q => !(q.1 == n) && !(q.1 + 1 == n && q.2.category == 2))) → W p l e R s m args below meth c H locs k1 k2 Q (F0 m (pc + 3) ls' rest)) → W p l e R s m args below meth c H locs k1 k2 Q (F0 m pc ls rest))
    (hE : zIi n k (pc, L, st, h) = some (gs, cf)) (kk : zGoal p l e R s m args below meth c Q D A H0 b mi n0 s0 as0 cf) : zGoal p l e R s m args below meth c Q D A H0 b mi n0 s0 as0 (pc, L, st, h) := by
  unfold zIi at hE
  simp only at hE
  split at hE
  · rename_i x e1
    cases hE
    intro as ca ls H locs hH hF hp
    have hn : n < zmMax mi := by rw [← hF.2.1]; exact zGl_lt e1
    obtain ⟨j, hj⟩ := List.getElem?_of_mem (zAs_in (b := b) (as := as) e1)
    exact row as x j ls H locs _ _ _ hn hF.1.has hj (fun ls' hl => kk as ca ls' H locs hH (hF.sto (k := 0) (a := (0, wadd x k)) (r32 _) (lvF.sto hl) zSt_len zSt_or) hp)
  · cases hE
theorem z_ts {dflt lo hi d : Int} {offs : Array Int} {len : Nat}
    (rowO : ∀ (tgt : Nat) (x : Int32) (ls : Array Slot) (H : Heap) (locs : List Loc) (rest : List Value) (k1 k2 : Nat), x.toInt < lo ∨ hi < x.toInt → (pc : Int) + dflt = (tgt : Int) → W p l e R s m args below meth c H locs k1 k2 Q (F0 m tgt ls rest) → W p l e R s m args below meth c H locs k1 k2 Q (F0 m pc ls (.int x :: rest)))
    (rowI : ∀ (tgt : Nat) (off : Int) (x : Int32) (ls : Array Slot) (H : Heap) (locs : List Loc) (rest : List Value) (k1 k2 : Nat), ¬ x.toInt < lo → ¬ hi < x.toInt → offs[(x.toInt - lo).toNat]? = some off → (pc : Int) + off = (tgt : Int) → W p l e R s m args below meth c H locs k1 k2 Q (F0 m tgt ls rest) → W p l e R s m args below meth c H locs k1 k2 Q (F0 m pc ls (.int x :: rest)))
    (hE : zTs dflt lo hi offs d (pc, L, st, h) = some (gs, cf)) (hg : zAll gs) (kk : zGoal p l e R s m args below meth c Q D A H0 b mi n0 s0 as0 cf) : zGoal p l e R s m args below meth c Q D A H0 b mi n0 s0 as0 (pc, L, st, h) := by
  unfold zTs at hE
  simp only at hE
  split at hE
  · rename_i x r
    intro as ca ls H locs hH hF hp
    have hx : zR32 x := hF.hd
    split at hE
    · rename_i e1
      rw [Bool.and_eq_true, decide_eq_true_eq, decide_eq_true_eq] at e1
      split at hE
      · rename_i off e2
        split at hE
        · rename_i t e3
          cases hE
          have hxd : x = d := hg.1
          subst hxd
          refine rowI t off (Int32.ofInt x) ls H locs _ _ _ (by rw [o32 hx]; omega) (by rw [o32 hx]; omega) (by rw [o32 hx]; rw [← Array.getElem?_toList]; exact e2) (zJ_spec e3) (kk as ca ls H locs hH hF.tl hp)
        · cases hE
      · cases hE
    · split at hE
      · rename_i t e3
        cases hE
        exact rowO t (Int32.ofInt x) ls H locs _ _ _ (by rw [o32 hx]; exact hg.1) (zJ_spec e3) (kk as ca ls H locs hH hF.tl hp)
      · cases hE
  · cases hE
theorem zLk_off {ps : List (Int × Int)} {d o : Int} (dflt : Int) (h : zLk ps d = some o) : Op.lookupswitch.offset ps dflt d = o := by
  induction ps with
  | nil => cases h
  | cons q r ih =>
    obtain ⟨k, o'⟩ := q
    unfold zLk at h
    split at h
    · rename_i e1
      cases h
      have := of_decide_eq_true e1
      subst this
      simp [Op.lookupswitch.offset]
    · rename_i e1
      have hk := of_decide_eq_false e1
      have := ih h
      simpa [Op.lookupswitch.offset, hk] using this
theorem zLk_dflt {ps : List (Int × Int)} {x : Int} (dflt : Int) (h : zAll (ps.map (fun q => ¬ x = q.1))) : Op.lookupswitch.offset ps dflt x = dflt := by
  induction ps with
  | nil => rfl
  | cons q r ih =>
    obtain ⟨k, o'⟩ := q
    have h1 : ¬ x = k := h.1
    have := ih h.2
    have hk : ¬ k = x := fun q => h1 q.symm
    simpa [Op.lookupswitch.offset, hk] using this
theorem z_ls {dflt d : Int} {ps : Array (Int × Int)}
    (row : ∀ (tgt : Nat) (off : Int) (x : Int32) (ls : Array Slot) (H : Heap) (locs : List Loc) (rest : List Value) (k1 k2 : Nat), (ps.toList.zip (ps.toList.drop 1)).all (fun (a, next) => a.1 < next.1) = true → Op.lookupswitch.offset ps.toList dflt x.toInt = off → (pc : Int) + off = (tgt : Int) → W p l e R s m args below meth c H locs k1 k2 Q (F0 m tgt ls rest) → W p l e R s m args below meth c H locs k1 k2 Q (F0 m pc ls (.int x :: rest)))
    (hE : zLs dflt ps d (pc, L, st, h) = some (gs, cf)) (hg : zAll gs) (kk : zGoal p l e R s m args below meth c Q D A H0 b mi n0 s0 as0 cf) : zGoal p l e R s m args below meth c Q D A H0 b mi n0 s0 as0 (pc, L, st, h) := by
  unfold zLs at hE
  simp only at hE
  split at hE
  · rename_i x r
    intro as ca ls H locs hH hF hp
    have hx : zR32 x := hF.hd
    split at hE
    · rename_i e0
      split at hE
      · rename_i off e1
        split at hE
        · rename_i t e3
          cases hE
          have hxd : x = d := hg.1
          subst hxd
          exact row t off (Int32.ofInt x) ls H locs _ _ _ e0 (by rw [o32 hx]; exact zLk_off dflt e1) (zJ_spec e3) (kk as ca ls H locs hH hF.tl hp)
        · cases hE
      · split at hE
        · rename_i t e3
          cases hE
          exact row t dflt (Int32.ofInt x) ls H locs _ _ _ e0 (by rw [o32 hx]; exact zLk_dflt dflt hg) (zJ_spec e3) (kk as ca ls H locs hH hF.tl hp)
        · cases hE
    · cases hE
  · cases hE
end ZS2
end
