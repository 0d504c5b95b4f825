/-! The first heap: cells by number. A cell: its kind (0 to 12 an object of that class; 20 int[], 21 long[], 22 boolean[], 23 Course[], 24 Image[]), its size, what it holds. -/
abbrev zCe : Type := Nat × Nat × (Nat → Int)
abbrev zH1 : Type := List zCe
def zTag (ci k : Nat) : Nat := zTg (zTy ci k)
def zUp (f : Nat → Int) (k : Nat) (v : Int) : Nat → Int := fun j => if j = k then v else f j
def zIsB (ci k : Nat) : Bool := match zTy ci k with
  | .boolean => true
  | _ => false
def zIni0 (ci : Nat) : Nat → Int := fun k => if zTag ci k = 2 then -1 else 0
def zSl (h : zH1) : Nat := (h.map (fun c => c.2.1)).sum
def zAk (kd : Nat) : FieldType := match kd with
  | 20 => .int
  | 21 => .long
  | 22 => .boolean
  | 23 => .object "EchoVale$Course"
  | _ => .object "EchoVale$Image"
def zNk (ty : ArrayType) : Option Nat := match ty with
  | .int => some 20
  | .long => some 21
  | .boolean => some 22
  | _ => none
def zCpy (f g : Nat → Int) (sp dp n : Nat) : Nat → Int := fun k => if dp ≤ k ∧ k < dp + n then f (sp + (k - dp)) else g k
/-- what lies below the arguments of a call is little -/
def zRm (r : List zAv) : Bool := Nat.ble r.length 8
def zLdA (kd t : Nat) (b : Bool) (st : List zAv) (h : zH1) : Option (List Prop × List zAv × zH1) := match st with
  | (0, i) :: (2, a) :: r => match h[a.toNat]? with
    | some (k, n, f) => match Nat.beq k kd with
      | true => some ((match b with
        | true => [0 ≤ i ∧ i < (n : Int), 0 ≤ f i.toNat]
        | false => [0 ≤ i ∧ i < (n : Int)]), (t, f i.toNat) :: r, h)
      | false => none
    | none => none
  | _ => none
def zStA (kd t : Nat) (g : Int → List Prop) (st : List zAv) (h : zH1) : Option (List Prop × List zAv × zH1) := match st with
  | (u, v) :: (0, i) :: (2, a) :: r => match h[a.toNat]? with
    | some (k, n, f) => match Nat.beq k kd && Nat.beq u t with
      | true => some ((0 ≤ i ∧ i < (n : Int)) :: g v, r, h.set a.toNat (k, n, zUp f i.toNat v))
      | false => none
    | none => none
  | _ => none
def zLinkF (cls idx ci k : Nat) : Bool := zLF.any (fun r => Nat.beq r.1 cls && Nat.beq r.2.1 idx && Nat.beq r.2.2.1 ci && Nat.beq r.2.2.2.1 k)
/-- L: how long the script is; xs: what it holds -/
def zHop1 (L : Nat) (xs : Nat → Int) : zHop zH1 := fun i ax st h => match i with
  | .getfield _ => match st with
    | (2, o) :: r => match h[o.toNat]? with
      | some (kd, _, f) => match Nat.beq kd ax.1 with
        | true => match Nat.beq (zTag ax.1 ax.2.1) 2 with
          | true => some ([0 ≤ f ax.2.1], (2, f ax.2.1) :: r, h)
          | false => some ([], (zTag ax.1 ax.2.1, f ax.2.1) :: r, h)
        | false => none
      | none => none
    | _ => none
  | .putfield _ => match st with
    | (t, v) :: (2, o) :: r => match h[o.toNat]? with
      | some (kd, n, f) => match Nat.beq kd ax.1 && Nat.beq t (zTag ax.1 ax.2.1) with
        | true => some ((match zIsB ax.1 ax.2.1 with
          | true => [v = 0 ∨ v = 1]
          | false => []), r, h.set o.toNat (kd, n, zUp f ax.2.1 v))
        | false => none
      | none => none
    | _ => none
  | .iaload => match Nat.beq ax.1 1 with
    | true => match st with
      | (0, j) :: (5, _) :: r => some ([0 ≤ j ∧ j < (L : Int)], (0, xs j.toNat) :: r, h)
      | _ => none
    | false => zLdA 20 0 false st h
  | .laload => zLdA 21 1 false st h
  | .baload => zLdA 22 0 false st h
  | .aaload => match Nat.beq ax.1 23 || Nat.beq ax.1 24 with
    | true => zLdA ax.1 2 true st h
    | false => none
  | .iastore => zStA 20 0 (fun _ => []) st h
  | .lastore => zStA 21 1 (fun _ => []) st h
  | .bastore => zStA 22 0 (fun v => [v = 0 ∨ v = 1]) st h
  | .aastore => match st with
    | (2, v) :: _ => match h[v.toNat]? with
      | some (k, _, _) => match (Nat.beq ax.1 23 && Nat.beq k 1) || (Nat.beq ax.1 24 && Nat.beq k 3) with
        | true => zStA ax.1 2 (fun _ => []) st h
        | false => none
      | none => none
    | _ => none
  | .arraylength => match Nat.beq ax.1 1 with
    | true => match st with
      | (5, _) :: r => some ([], (0, (L : Int)) :: r, h)
      | _ => none
    | false => match st with
      | (2, a) :: r => match h[a.toNat]? with
        | some (k, n, _) => match Nat.ble 20 k with
          | true => some ([], (0, (n : Int)) :: r, h)
          | false => none
        | none => none
      | _ => none
  | .new _ => some ([], (2, (h.length : Int)) :: st, h ++ [((ax.1, zNf ax.1, zIni0 ax.1) : zCe)])
  | .newarray ty => match zNk ty with
    | some kd => match st with
      | (0, n) :: r => some ([0 ≤ n ∧ n ≤ 100000], (2, (h.length : Int)) :: r, h ++ [((kd, n.toNat, fun _ => (0 : Int)) : zCe)])
      | _ => none
    | none => none
  | .anewarray _ => match Nat.beq ax.1 23 || Nat.beq ax.1 24 with
    | true => match st with
      | (0, n) :: r => some ([0 ≤ n ∧ n ≤ 100000], (2, (h.length : Int)) :: r, h ++ [((ax.1, n.toNat, fun _ => (-1 : Int)) : zCe)])
      | _ => none
    | false => none
  | .invokestatic _ => match ax.1 with
    | 5001 => match st with
      | (0, n) :: (0, dp) :: (2, d) :: (0, sp) :: (2, s) :: r => match h[s.toNat]?, h[d.toNat]? with
        | some (k0, n0, f), some (k1, n1, g) => match (Nat.beq k0 k1 && (Nat.beq k0 20 || Nat.beq k0 21)) && zRm r with
          | true => some ([0 ≤ sp, 0 ≤ dp, 0 ≤ n, sp + n ≤ (n0 : Int), dp + n ≤ (n1 : Int)], r, h.set d.toNat (k1, n1, zCpy f g sp.toNat dp.toNat n.toNat))
          | false => none
        | _, _ => none
      | _ => none
    | 5002 => match st with
      | (0, x) :: r => match zRm r with
        | true => some ([], (0, if x < 0 then wneg x else x) :: r, h)
        | false => none
      | _ => none
    | 5003 => match st with
      | (0, y) :: (0, x) :: r => match zRm r with
        | true => some ([], (0, if y < x then y else x) :: r, h)
        | false => none
      | _ => none
    | 5004 => match st with
      | (0, y) :: (0, x) :: r => match zRm r with
        | true => some ([], (0, if x < y then y else x) :: r, h)
        | false => none
      | _ => none
    | _ => none
  | .invokespecial _ => match Nat.beq ax.1 5000 with
    | true => match st with
      | (2, _) :: r => match zRm r with
        | true => some ([], r, h)
        | false => none
      | _ => none
    | false => none
  | _ => none
/-- are the pool's numbers as the tables have them? cls: the method's class; ini: it is a constructor -/
def zAxOk (cls : Nat) (ini : Bool) (i : Instr) (ax : zAx) : Bool := match i with
  | .getfield x => zLinkF cls x ax.1 ax.2.1
  | .putfield x => zLinkF cls x ax.1 ax.2.1 && (!(zTX ax.1 ax.2.1).2.2.2 || (ini && Nat.beq cls ax.1))
  | .ldc x => zLC.any (fun r => Nat.beq r.1 cls && Nat.beq r.2.1 x && decide (r.2.2.1 = ax.2.2))
  | .ldc_w x => zLC.any (fun r => Nat.beq r.1 cls && Nat.beq r.2.1 x && decide (r.2.2.1 = ax.2.2))
  | .ldc2_w x => zLJ.any (fun r => Nat.beq r.1 cls && Nat.beq r.2.1 x && decide (r.2.2.1 = ax.2.2))
  | .new x => zLN.any (fun r => Nat.beq r.1 cls && Nat.beq r.2.1 x && Nat.beq r.2.2.1 ax.1)
  | .anewarray x => zLA.any (fun r => Nat.beq r.1 cls && Nat.beq r.2.1 x && Nat.beq (if r.2.2.1 = 1 then 23 else 24) ax.1)
  | .iaload => Nat.beq ax.1 0 || Nat.beq cls 16
  | .arraylength => Nat.beq ax.1 0 || Nat.beq cls 16
  | .invokestatic x => match ax.1 with
    | 5001 => zLY.any (fun r => Nat.beq r.1 cls && Nat.beq r.2.1 x)
    | 5002 => zLM.any (fun r => Nat.beq r.1 cls && Nat.beq r.2.1 x && Nat.beq r.2.2.1 2)
    | 5003 => zLM.any (fun r => Nat.beq r.1 cls && Nat.beq r.2.1 x && Nat.beq r.2.2.1 3)
    | 5004 => zLM.any (fun r => Nat.beq r.1 cls && Nat.beq r.2.1 x && Nat.beq r.2.2.1 4)
    | mi => zLS.any (fun r => Nat.beq r.1 cls && Nat.beq r.2.1 x && Nat.beq r.2.2.1 mi) || zLSN.any (fun r => Nat.beq r.1 cls && Nat.beq r.2.1 x && Nat.beq r.2.2.1 mi)
  | .invokevirtual x => zLV.any (fun r => Nat.beq r.1 cls && Nat.beq r.2.1 x && Nat.beq r.2.2.1 ax.1)
  | .invokespecial x => match ax.1 with
    | 5000 => zLO.any (fun r => Nat.beq r.1 cls && Nat.beq r.2.1 x)
    | mi => zLP.any (fun r => Nat.beq r.1 cls && Nat.beq r.2.1 x && Nat.beq r.2.2.1 mi) || zLPN.any (fun r => Nat.beq r.1 cls && Nat.beq r.2.1 x && Nat.beq r.2.2.1 mi)
  | _ => true
