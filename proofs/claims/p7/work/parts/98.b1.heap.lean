/-! The heap of the start, and what it tells. -/
def kwf : Nat → Int := fun j => zPk 32 (kw (j : Int))
def zSta1 : Option (Option zAv × zH1) := zEm zRws kwf 5 0 [(2, 0)] [((11, zNf 11, zIni0 11) : zCe)]
def zSta2 (h1 : zH1) : Option (Option zAv × zH1) := zEm zRws kwf 5 168 [(2, (h1.length : Int))] (h1 ++ [((12, zNf 12, zIni0 12) : zCe)])
def zSta3 (h2 : zH1) : zH1 := h2 ++ [((21, 1, fun _ => (0 : Int)) : zCe)]
/-- all of a row's first n places -/
def zR0 (h : zH1) (r n : Nat) (v : Int) : Bool := match h[zlA r 0]? with
  | some (_, _, f) => (List.range n).all (fun i => decide (f i = v))
  | none => false
def zF0 (h : zH1) (ci k n : Nat) (v : Int) : Bool := match h[zlO ci (n : Int)]? with
  | some (_, _, f) => decide (f k = v)
  | none => false
def zK0 (h : zH1) : Bool := match h[zlA 330 0]? with
  | some (_, _, f) => (List.range 21).all (fun i => decide (f i = zPk 32 (kw (i : Int))))
  | none => false
def zWt0 (h : zH1) (n s : Nat) : Bool := Nat.beq h.length n && Nat.beq (zSl h) s
def zChk (h : zH1) : Bool := zWt0 h 197 (zSl h) && (zOk h && ((zR0 h 320 940 0 && (zR0 h 769 940 0 && (zR0 h 782 2140 0 && (zR0 h 790 2 0 && (zR0 h 809 2 (-1) && zK0 h))))) &&
  ((zF0 h 5 1 0 0 && (zF0 h 5 2 0 0 && (zF0 h 1 0 0 0 && (zF0 h 1 1 0 0 && (zF0 h 1 2 0 0 && (zF0 h 9 0 0 0 && (zF0 h 9 1 0 0 && (zF0 h 9 2 0 0 && (zF0 h 9 3 0 0 && (zF0 h 9 4 0 0 && (zF0 h 9 5 0 0 && (zF0 h 9 6 0 0 && (zF0 h 6 0 0 0 && (zF0 h 6 1 0 0 && (zF0 h 8 0 0 0 && (zF0 h 8 1 0 0 && (zF0 h 3 0 0 0 && (zF0 h 3 0 1 0 && (zF0 h 4 0 0 0 && (zF0 h 11 14 0 0 && (zF0 h 11 15 0 (-1) && zF0 h 11 16 0 (-1)))))))))))))))))))))) &&
   (zF0 h 12 2 0 0 && (zF0 h 12 10 0 0 && (zF0 h 12 23 0 0 && (zF0 h 12 35 0 0 && zF0 h 12 44 0 0)))))))
def zSlen : Nat := 200000
def zAll0 : Bool := match zSta1 with
  | some (none, h1) => match zSta2 h1 with
    | some (none, h2) => Nat.beq h1.length 172 && (Nat.beq h2.length 196 && (Nat.ble (zSl h2) 100000 && zChk (zSta3 h2)))
    | _ => false
  | _ => false
set_option maxRecDepth 1000000 in
theorem zAll0_ok : zAll0 = true := by decide +kernel
