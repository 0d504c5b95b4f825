/-! The second heap: a region is a field (class * 64 + place), or the row that a field holds; instance; index. The class's, the model's, the answer's row apart. -/
abbrev zHC : Type := Nat → Int → Int → Int
abbrev zHM : Type := Nat → Int → Int
abbrev zH2 : Type := zHC × zHM × (Int → Int)
def hset (h : zHC) (r : Nat) (n i v : Int) : zHC := fun r' n' i' => if r' = r ∧ n' = n ∧ i' = i then v else h r' n' i'
def mset (h : zHM) (k : Nat) (i v : Int) : zHM := fun k' i' => if k' = k ∧ i' = i then v else h k' i'
def hcpy (h : zHC) (rd : Nat) (nd : Int) (rs : Nat) (ns sp dp n : Int) : zHC := fun r' n' i' => if r' = rd ∧ n' = nd ∧ dp ≤ i' ∧ i' < dp + n then h rs ns (sp + (i' - dp)) else h r' n' i'
def zGt (g : zH2) (r : Nat) (n i : Int) : Int := match Nat.ble 768 r with
  | false => g.1 r n i
  | true => g.2.1 (r - 768) i
def zPt (g : zH2) (r : Nat) (n i v : Int) : zH2 := match Nat.ble 768 r with
  | false => (hset g.1 r n i v, g.2)
  | true => (g.1, mset g.2.1 (r - 768) i v, g.2.2)
/-- of a row's tag: its region, its kind, its length -/
def zTr (t : Nat) : Nat := (t - 1000) % 1024
def zTk (t : Nat) : Nat := (t - 1000) / 1024 / 65536
def zTl (t : Nat) : Nat := (t - 1000) / 1024 % 65536
def zTg2 (r x : Nat) : Nat := 1000 + r + 1024 * x
def zLd2 (kd t : Nat) (st : List zAv) (g : zH2) : Option (List Prop × List zAv × zH2) := match st with
  | (0, i) :: (a, n) :: r => match Nat.ble 1000 a && Nat.beq (zTk a) kd with
    | true => some ([0 ≤ i ∧ i < (zTl a : Int)], (t, zGt g (zTr a) n i) :: r, g)
    | false => none
  | _ => none
def zSt2 (kd t : Nat) (b : Bool) (st : List zAv) (g : zH2) : Option (List Prop × List zAv × zH2) := match st with
  | (u, v) :: (0, i) :: (a, n) :: r => match (Nat.ble 1000 a && Nat.beq (zTk a) kd) && Nat.beq u t with
    | true => some ((match b with
      | true => [0 ≤ i ∧ i < (zTl a : Int), v = 0 ∨ v = 1]
      | false => [0 ≤ i ∧ i < (zTl a : Int)]), r, zPt g (zTr a) n i v)
    | false => none
  | _ => none
def zHop2 (L : Nat) (xs : Nat → Int) : zHop zH2 := fun i ax st g => match i with
  | .getfield _ => match st with
    | (t, n) :: r => match Nat.beq t (10 + ax.1) with
      | true => match ax.2.2.toNat % 4 with
        | 0 => some ([], (0, zGt g (ax.1 * 64 + ax.2.1) n 0) :: r, g)
        | 1 => some ([], (1, zGt g (ax.1 * 64 + ax.2.1) n 0) :: r, g)
        | 2 => some ([], (zTg2 (ax.1 * 64 + ax.2.1) (ax.2.2.toNat / 4), n) :: r, g)
        | _ => match ax.2.2.toNat / 64 % 2 with
          | 0 => some ([], (10 + ax.2.2.toNat / 4 % 16, ((ax.2.2.toNat / 128 : Nat) : Int)) :: r, g)
          | _ => some ([], (10 + ax.2.2.toNat / 4 % 16, n + ((ax.2.2.toNat / 128 : Nat) : Int)) :: r, g)
      | false => none
    | _ => none
  | .putfield _ => match st with
    | (u, v) :: (t, n) :: r => match Nat.beq t (10 + ax.1) && (Nat.ble ax.2.2.toNat 1 && Nat.beq u ax.2.2.toNat) with
      | true => some ((match zIsB ax.1 ax.2.1 with
        | true => [v = 0 ∨ v = 1]
        | false => []), r, zPt g (ax.1 * 64 + ax.2.1) n 0 v)
      | false => none
    | _ => none
  | .iaload => match Nat.beq ax.1 1 with
    | true => match st with
      | (0, j) :: (5, _) :: r => some ([0 ≤ j ∧ j < (L : Int)], (0, xs j.toNat) :: r, g)
      | _ => none
    | false => zLd2 20 0 st g
  | .laload => match st with
    | (0, i) :: (6, _) :: r => some ([i = 0], (1, g.2.2 0) :: r, g)
    | _ => zLd2 21 1 st g
  | .baload => zLd2 22 0 st g
  | .aaload => match st with
    | (0, i) :: (a, _) :: r => match Nat.ble 1000 a && Nat.beq (zTk a) ax.1 with
      | true => match ax.1 with
        | 23 => some ([0 ≤ i ∧ i < (zTl a : Int)], (11, 2 + i) :: r, g)
        | 24 => some ([0 ≤ i ∧ i < (zTl a : Int)], (13, i) :: r, g)
        | _ => none
      | false => none
    | _ => none
  | .iastore => zSt2 20 0 false st g
  | .lastore => zSt2 21 1 false st g
  | .bastore => zSt2 22 0 true st g
  | .arraylength => match Nat.beq ax.1 1 with
    | true => match st with
      | (5, _) :: r => some ([], (0, (L : Int)) :: r, g)
      | _ => none
    | false => match st with
      | (a, _) :: r => match Nat.ble 1000 a with
        | true => some ([], (0, (zTl a : Int)) :: r, g)
        | false => none
      | _ => none
  | .invokestatic _ => match ax.1 with
    | 5001 => match st with
      | (0, n) :: (0, dp) :: (a, d) :: (0, sp) :: (a1, s) :: r => match (((Nat.ble 1000 a && Nat.ble 1000 a1) && (Nat.beq (zTk a) (zTk a1) && (Nat.beq (zTk a) 20 || Nat.beq (zTk a) 21))) && (Nat.blt (zTr a) 768 && Nat.blt (zTr a1) 768)) && zRm r with
        | true => some ([0 ≤ sp, 0 ≤ dp, 0 ≤ n, sp + n ≤ (zTl a1 : Int), dp + n ≤ (zTl a : Int)], r, (hcpy g.1 (zTr a) d (zTr a1) s sp dp n, g.2))
        | false => none
      | _ => none
    | 5002 => match st with
      | (0, x) :: r => match zRm r with
        | true => some ([], (0, if x < 0 then wneg x else x) :: r, g)
        | false => none
      | _ => none
    | 5003 => match st with
      | (0, y) :: (0, x) :: r => match zRm r with
        | true => some ([], (0, if y < x then y else x) :: r, g)
        | false => none
      | _ => none
    | 5004 => match st with
      | (0, y) :: (0, x) :: r => match zRm r with
        | true => some ([], (0, if x < y then y else x) :: r, g)
        | false => none
      | _ => none
    | _ => none
  | _ => none
def zFws : List (List Nat) := [[0, 23],
  [0, 0, 0, 5242906, 5243602, 5243602, 5243842, 5246482, 5243002],
  [0, 0, 0],
  [0, 359, 1351, 347],
  [0, 5243082, 0, 5242906, 5242906, 5242906],
  [5246642, 0, 0, 0, 0, 0, 0, 1, 0, 0, 5505110],
  [0, 0, 5243362, 5767330],
  [155, 23],
  [0, 0, 6029346],
  [0, 0, 0, 0, 0, 0, 0, 5505050, 5242906, 5242906, 5242906, 5505050, 5242906, 5242906, 5242962, 5242962, 5242962, 5242914, 5242906, 5242906],
  [167, 0, 23],
  [23, 39, 43, 3, 27, 31, 7, 135, 35, 6291466, 19, 11, 5244418, 5243266, 0, 0, 0],
  [0, 5246642, 0, 0, 0, 0, 0, 0, 0, 0, 0, 0, 1, 0, 5251442, 5243718, 5260002, 5296930, 5249638, 5505074, 5505074, 5505122, 5767178, 0, 0, 5244418, 5242906, 5242906, 5242906, 5243082, 5242906, 5242906, 5242906, 5242906, 0, 0, 0, 0, 0, 0, 0, 5242890, 5243682, 5242910, 0, 5243842, 0, 0, 0, 0]]
def zW (ci k : Nat) : Nat := (zFws.getD ci []).getD k 0
def zCnt (ci : Nat) : Nat := ([1, 12, 1, 2, 1, 1, 4, 1, 1, 4, 1, 1, 1] : List Nat).getD ci 0
/-- are the second heap's codes as the table has them? -/
def zAx2 (i : Instr) (ax : zAx) : Bool := match i with
  | .getfield _ => decide (ax.2.2 = (zW ax.1 ax.2.1 : Int)) && Nat.blt ax.2.1 (zNf ax.1) && Nat.blt ax.1 13
  | .putfield _ => decide (ax.2.2 = (zW ax.1 ax.2.1 : Int)) && Nat.blt ax.2.1 (zNf ax.1) && Nat.blt ax.1 13
  | _ => true
/-- where things lie: lO an object of a class, by instance; lA the row of a region -/
def zVR (lO lA : Nat → Int → Nat) (sc : Prop) (a2 a1 : zAv) : Prop :=
  (a2.1 = 0 ∧ a1 = a2) ∨ (a2.1 = 1 ∧ a1 = a2) ∨ (a2.1 = 5 ∧ a1 = a2 ∧ sc) ∨ (a2.1 = 6 ∧ a1 = (2, (lO 20 0 : Int))) ∨
  (∃ ci, ci < 13 ∧ a2.1 = 10 + ci ∧ 0 ≤ a2.2 ∧ a2.2 < (zCnt ci : Int) ∧ a1 = (2, (lO ci a2.2 : Int))) ∨
  (∃ ci k x, ci < 13 ∧ k < zNf ci ∧ zW ci k = 2 + 4 * x ∧ a2.1 = zTg2 (ci * 64 + k) x ∧ 0 ≤ a2.2 ∧ a2.2 < (zCnt ci : Int) ∧ a1 = (2, (lA (ci * 64 + k) a2.2 : Int)))
/-- what a field of an object holds -/
def zFl2 (lO lA : Nat → Int → Nat) (g : zH2) (ci k : Nat) (n v : Int) : Prop :=
  match zW ci k % 4 with
  | 0 => v = zGt g (ci * 64 + k) n 0
  | 1 => v = zGt g (ci * 64 + k) n 0
  | 2 => v = (lA (ci * 64 + k) n : Int)
  | _ => match zW ci k / 64 % 2 with
    | 0 => v = (lO (zW ci k / 4 % 16) ((zW ci k / 128 : Nat) : Int) : Int)
    | _ => v = (lO (zW ci k / 4 % 16) (n + ((zW ci k / 128 : Nat) : Int)) : Int)
/-- what a row holds -/
def zRw2 (lO : Nat → Int → Nat) (g : zH2) (kd r : Nat) (n : Int) (i : Nat) (v : Int) : Prop :=
  match kd with
  | 23 => v = (lO 1 (2 + (i : Int)) : Int)
  | 24 => v = (lO 3 (i : Int) : Int)
  | _ => v = zGt g r n i
def zR2 (lO lA : Nat → Int → Nat) (g : zH2) (h : zH1) : Prop :=
  (∀ (ci : Nat) (n : Int), ci < 13 → 0 ≤ n → n < (zCnt ci : Int) → ∃ f, h[lO ci n]? = some (ci, zNf ci, f) ∧ ∀ k, k < zNf ci → zFl2 lO lA g ci k n (f k)) ∧
  (∀ (ci k x : Nat) (n : Int), ci < 13 → k < zNf ci → zW ci k = 2 + 4 * x → 0 ≤ n → n < (zCnt ci : Int) → ∃ f, h[lA (ci * 64 + k) n]? = some (x / 65536, x % 65536, f) ∧ ∀ i, i < x % 65536 → zRw2 lO g (x / 65536) (ci * 64 + k) n i (f i)) ∧
  ∃ f, h[lO 20 0]? = some (21, 1, f) ∧ f 0 = g.2.2 0
/-- apart -/
def zAp (lO lA : Nat → Int → Nat) : Prop :=
  (∀ (ci k x : Nat) (n : Int), ci < 13 → k < zNf ci → zW ci k = 2 + 4 * x → 0 ≤ n → n < (zCnt ci : Int) → ¬ lA (ci * 64 + k) n = lO 20 0) ∧
  (∀ (ci cj : Nat) (n n' : Int), ci < 13 → cj < 13 → 0 ≤ n → n < (zCnt ci : Int) → 0 ≤ n' → n' < (zCnt cj : Int) → lO ci n = lO cj n' → ci = cj ∧ n = n') ∧
  (∀ (ci k x cj k' x' : Nat) (n n' : Int), ci < 13 → k < zNf ci → zW ci k = 2 + 4 * x → 0 ≤ n → n < (zCnt ci : Int) → cj < 13 → k' < zNf cj → zW cj k' = 2 + 4 * x' → 0 ≤ n' → n' < (zCnt cj : Int) → lA (ci * 64 + k) n = lA (cj * 64 + k') n' → ci = cj ∧ k = k' ∧ n = n')
theorem zTg2_r {r x : Nat} (h : r < 1024) : zTr (zTg2 r x) = r ∧ zTk (zTg2 r x) = x / 65536 ∧ zTl (zTg2 r x) = x % 65536 ∧ 1000 ≤ zTg2 r x := by
  unfold zTr zTk zTl zTg2
  have h1 : 1000 + r + 1024 * x - 1000 = r + 1024 * x := by omega
  rw [h1]
  have h2 : (r + 1024 * x) / 1024 = x := by omega
  rw [h2]
  refine ⟨by omega, rfl, rfl, by omega⟩
theorem zNf_le2 {ci k : Nat} (h : ci < 13) (hk : k < zNf ci) : ci * 64 + k < 1024 ∧ k < 64 := by
  have := zNf_le h
  omega
theorem zW_all : ((List.range 13).all (fun ci => (List.range (zNf ci)).all (fun k => (match zW ci k % 4 with
  | 0 => Nat.beq (zTag ci k) 0 && Nat.beq (zW ci k) 0
  | 1 => Nat.beq (zTag ci k) 1 && Nat.beq (zW ci k) 1
  | 2 => Nat.beq (zTag ci k) 2 && ((Nat.ble 20 (zW ci k / 4 / 65536) && Nat.ble (zW ci k / 4 / 65536) 24) && (Nat.beq (zW ci k / 4 / 65536) 23 == (Nat.beq ci 8 && Nat.beq k 2)) && (Nat.beq (zW ci k / 4 / 65536) 24 == (Nat.beq ci 11 && Nat.beq k 9)))
  | _ => Nat.beq (zTag ci k) 2 && (Nat.blt (zW ci k / 4 % 16) 13 && (match zW ci k / 64 % 2 with
    | 0 => Nat.blt (zW ci k / 128) (zCnt (zW ci k / 4 % 16))
    | _ => Nat.ble (zCnt ci + zW ci k / 128) (zCnt (zW ci k / 4 % 16)))))))) = true := by decide +kernel
