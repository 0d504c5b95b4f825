/-! Functions of the methods, by wip/gen/lift.py. -/
def B127_0 : List zRow := [(9, .aload_n 0, 1, (0, 0, 0)), (10, .getfield 9, 3, (4, 1, 5243082)), (13, .aload_n 0, 1, (0, 0, 0)), (14, .getfield 45, 3, (4, 0, 0)), (17, .iload_n 1, 1, (0, 0, 0)), (18, .iastore, 1, (0, 0, 0))]
theorem K127_0 : zRk 127 B127_0 = true := by decide +kernel
def B127_1 : List zRow := [(0, .aload_n 0, 1, (0, 0, 0)), (1, .getfield 45, 3, (4, 0, 0)), (4, .bipush 50, 2, (0, 0, 0)), (6, .if_icmp .ge 13, 3, (0, 0, 0))]
theorem K127_1 : zRk 127 B127_1 = true := by decide +kernel
def B127_2 : List zRow := [(19, .aload_n 0, 1, (0, 0, 0)), (20, .dup, 1, (0, 0, 0)), (21, .getfield 45, 3, (4, 0, 0)), (24, .iconst 1, 1, (0, 0, 0)), (25, .iadd, 1, (0, 0, 0)), (26, .putfield 45, 3, (4, 0, 0))]
theorem K127_2 : zRk 127 B127_2 = true := by decide +kernel
def F127_0 (h : zHC) : Option zHC := some (hset h 256 0 0 (wadd (h 256 0 0) 1))
set_option maxRecDepth 100000 in
theorem T127_0 {spec : zRn zH2} {hm : zHM} {o : Int → Int} {d : Nat} (hd : 0 ≤ d) (h : zHC) (v : zHC) (e : F127_0 h = some v) : zFin 0 (fun _ => 0) (zRu2 spec d) 127 none (v, hm, o) (19, [some (14, 0), none], [], (h, hm, o)) := by
  unfold F127_0 at e
  refine zF_blk (m := []) (d := 0) (b := B127_2) (gs := []) (c' := (29, [some (14, 0), none], [], ((hset h 256 0 0 (wadd (h 256 0 0) 1)), hm, o))) K127_2 rfl trivial ?_
  obtain rfl := Option.some.inj e
  exact zF_rv (by decide +kernel)
/-- EchoVale$Pieces.addWay(I)V -/
def F127 (v1 : Int) (h : zHC) : Option zHC := if 50 ≤ (h 256 0 0) then F127_0 h else zG (0 ≤ (h 256 0 0) ∧ (h 256 0 0) < 50) (F127_0 (hset h 257 0 (h 256 0 0) v1))
set_option maxRecDepth 100000 in
theorem S127 {spec : zRn zH2} {hm : zHM} {o : Int → Int} {d : Nat} (hd : 1 ≤ d) (v1 : Int) (h : zHC) (v : zHC) (e : F127 v1 h = some v) : zRu2 spec d 127 [(14, 0), (0, v1)] (h, hm, o) none (v, hm, o) := by
  refine zF_in (D := 0) (mx := 2) (L := [some (14, 0), some (0, v1)]) (by decide +kernel) rfl rfl hd (fun d hd => ?_)
  unfold F127 at e
  rcases zI_s e with ⟨q1, e⟩ | ⟨q1, e⟩
  · refine zF_blk (m := []) (d := 1) (b := B127_1) (gs := [50 ≤ (h 256 0 0)]) (c' := (19, [some (14, 0), some (0, v1)], [], (h, hm, o))) K127_1 rfl ⟨q1, trivial⟩ ?_
    refine zF_blk (m := [true, false]) (d := 0) (b := []) (gs := []) (c' := (19, [some (14, 0), none], [], (h, hm, o))) rfl rfl trivial ?_
    exact T127_0 hd h _ e
  · refine zF_blk (m := []) (d := 0) (b := B127_1) (gs := [¬ (50 ≤ (h 256 0 0))]) (c' := (9, [some (14, 0), some (0, v1)], [], (h, hm, o))) K127_1 rfl ⟨q1, trivial⟩ ?_
    obtain ⟨q2, e⟩ := zG_s e
    refine zF_blk (m := []) (d := 0) (b := B127_0) (gs := [0 ≤ (h 256 0 0) ∧ (h 256 0 0) < 50]) (c' := (19, [some (14, 0), some (0, v1)], [], ((hset h 257 0 (h 256 0 0) v1), hm, o))) K127_0 rfl ⟨q2, trivial⟩ ?_
    refine zF_blk (m := [true, false]) (d := 0) (b := []) (gs := []) (c' := (19, [some (14, 0), none], [], ((hset h 257 0 (h 256 0 0) v1), hm, o))) rfl rfl trivial ?_
    exact T127_0 hd (hset h 257 0 (h 256 0 0) v1) _ e
def B120_0 : List zRow := [(0, .aload_n 0, 1, (0, 0, 0)), (1, .iconst 0, 1, (0, 0, 0)), (2, .putfield 45, 3, (4, 0, 0)), (5, .iconst 0, 1, (0, 0, 0)), (6, .istore_n 3, 1, (0, 0, 0))]
theorem K120_0 : zRk 120 B120_0 = true := by decide +kernel
def B120_1 : List zRow := [(106, .aload_n 0, 1, (0, 0, 0)), (107, .getfield 45, 3, (4, 0, 0))]
theorem K120_1 : zRk 120 B120_1 = true := by decide +kernel
def B120_2 : List zRow := [(14, .aload_n 0, 1, (0, 0, 0)), (15, .aload_n 1, 1, (0, 0, 0)), (16, .iload_n 3, 1, (0, 0, 0))]
theorem K120_2 : zRk 120 B120_2 = true := by decide +kernel
def B120_3 : List zRow := [(20, .istore 4, 2, (0, 0, 0)), (22, .iconst 0, 1, (0, 0, 0)), (23, .istore 5, 2, (0, 0, 0))]
theorem K120_3 : zRk 120 B120_3 = true := by decide +kernel
def B120_4 : List zRow := [(7, .iload_n 3, 1, (0, 0, 0)), (8, .sipush 200, 3, (0, 0, 0)), (11, .if_icmp .gt 95, 3, (0, 0, 0))]
theorem K120_4 : zRk 120 B120_4 = true := by decide +kernel
def B120_5 : List zRow := [(37, .iconst 1, 1, (0, 0, 0)), (38, .istore 6, 2, (0, 0, 0))]
theorem K120_5 : zRk 120 B120_5 = true := by decide +kernel
def B120_6 : List zRow := [(32, .iload 4, 2, (0, 0, 0)), (34, .ifCond .eq 66, 3, (0, 0, 0))]
theorem K120_6 : zRk 120 B120_6 = true := by decide +kernel
def B120_7 : List zRow := [(25, .iload 5, 2, (0, 0, 0)), (27, .bipush 100, 2, (0, 0, 0)), (29, .if_icmp .ge 71, 3, (0, 0, 0))]
theorem K120_7 : zRk 120 B120_7 = true := by decide +kernel
def B120_8 : List zRow := [(47, .aload_n 1, 1, (0, 0, 0)), (48, .iload 5, 2, (0, 0, 0))]
theorem K120_8 : zRk 120 B120_8 = true := by decide +kernel
def B120_9 : List zRow := [(56, .aload_n 0, 1, (0, 0, 0)), (57, .aload_n 1, 1, (0, 0, 0)), (58, .aload_n 2, 1, (0, 0, 0)), (59, .iload_n 3, 1, (0, 0, 0)), (60, .iload 5, 2, (0, 0, 0)), (62, .iload 6, 2, (0, 0, 0))]
theorem K120_9 : zRk 120 B120_9 = true := by decide +kernel
def B120_10 : List zRow := [(70, .aload_n 0, 1, (0, 0, 0)), (71, .iload_n 3, 1, (0, 0, 0)), (72, .sipush 1000, 3, (0, 0, 0)), (75, .imul, 1, (0, 0, 0)), (76, .iload 5, 2, (0, 0, 0)), (78, .bipush 10, 2, (0, 0, 0)), (80, .imul, 1, (0, 0, 0)), (81, .iadd, 1, (0, 0, 0)), (82, .iload 6, 2, (0, 0, 0)), (84, .iadd, 1, (0, 0, 0))]
theorem K120_10 : zRk 120 B120_10 = true := by decide +kernel
def B120_11 : List zRow := [(67, .ifCond .eq 21, 3, (0, 0, 0))]
theorem K120_11 : zRk 120 B120_11 = true := by decide +kernel
def B120_12 : List zRow := [(53, .ifCond .eq 41, 3, (0, 0, 0))]
theorem K120_12 : zRk 120 B120_12 = true := by decide +kernel
def B120_13 : List zRow := [(40, .iload 6, 2, (0, 0, 0)), (42, .bipush 9, 2, (0, 0, 0)), (44, .if_icmp .gt 50, 3, (0, 0, 0))]
theorem K120_13 : zRk 120 B120_13 = true := by decide +kernel
def B120_14 : List zRow := [(88, .iinc 6 1, 3, (0, 0, 0)), (91, .goto (-51), 3, (0, 0, 0))]
theorem K120_14 : zRk 120 B120_14 = true := by decide +kernel
def B120_15 : List zRow := [(94, .iinc 5 1, 3, (0, 0, 0)), (97, .goto (-72), 3, (0, 0, 0))]
theorem K120_15 : zRk 120 B120_15 = true := by decide +kernel
def B120_16 : List zRow := [(100, .iinc 3 1, 3, (0, 0, 0)), (103, .goto (-96), 3, (0, 0, 0))]
theorem K120_16 : zRk 120 B120_16 = true := by decide +kernel
def F120_2 (k0 : Int → Int → Int → zHC → Option (Int × zHC)) (v1 : Int) (v2 : Int) (v3 : Int) (h : zHC) : Option (Int × zHC) := k0 v1 v2 (wadd v3 1) h
set_option maxRecDepth 100000 in
theorem T120_2 {spec : zRn zH2} {hm : zHM} {o : Int → Int} {d : Nat} (hd : 6 ≤ d) (k0 : Int → Int → Int → zHC → Option (Int × zHC)) (hk0 : ∀ (v1 : Int) (v2 : Int) (v3 : Int) (h : zHC) (v : (Int × zHC)), k0 v1 v2 v3 h = some v → zFin 0 (fun _ => 0) (zRu2 spec d) 120 (some (0, v.1)) (v.2, hm, o) (7, [some (14, 0), some (19, v1), some (11, v2), some (0, v3), none, none, none], [], (h, hm, o))) (v1 : Int) (v2 : Int) (v3 : Int) (h : zHC) (v : (Int × zHC)) (e : F120_2 k0 v1 v2 v3 h = some v) : zFin 0 (fun _ => 0) (zRu2 spec d) 120 (some (0, v.1)) (v.2, hm, o) (100, [some (14, 0), some (19, v1), some (11, v2), some (0, v3), none, none, none], [], (h, hm, o)) := by
  unfold F120_2 at e
  refine zF_blk (m := []) (d := 0) (b := B120_16) (gs := []) (c' := (7, [some (14, 0), some (19, v1), some (11, v2), some (0, (wadd v3 1)), none, none, none], [], (h, hm, o))) K120_16 rfl trivial ?_
  exact hk0 v1 v2 (wadd v3 1) h _ e
def F120_4 (k0 : Int → Int → Int → zHC → Option (Int × zHC)) (k1 : Int → Int → Int → Int → Int → zHC → Option (Int × zHC)) (v1 : Int) (v2 : Int) (v3 : Int) (v4 : Int) (v5 : Int) (h : zHC) : Option (Int × zHC) := k1 v1 v2 v3 v4 (wadd v5 1) h
set_option maxRecDepth 100000 in
theorem T120_4 {spec : zRn zH2} {hm : zHM} {o : Int → Int} {d : Nat} (hd : 6 ≤ d) (k0 : Int → Int → Int → zHC → Option (Int × zHC)) (hk0 : ∀ (v1 : Int) (v2 : Int) (v3 : Int) (h : zHC) (v : (Int × zHC)), k0 v1 v2 v3 h = some v → zFin 0 (fun _ => 0) (zRu2 spec d) 120 (some (0, v.1)) (v.2, hm, o) (7, [some (14, 0), some (19, v1), some (11, v2), some (0, v3), none, none, none], [], (h, hm, o))) (k1 : Int → Int → Int → Int → Int → zHC → Option (Int × zHC)) (hk1 : ∀ (v1 : Int) (v2 : Int) (v3 : Int) (v4 : Int) (v5 : Int) (h : zHC) (v : (Int × zHC)), k1 v1 v2 v3 v4 v5 h = some v → zFin 0 (fun _ => 0) (zRu2 spec d) 120 (some (0, v.1)) (v.2, hm, o) (25, [some (14, 0), some (19, v1), some (11, v2), some (0, v3), some (0, v4), some (0, v5), none], [], (h, hm, o))) (v1 : Int) (v2 : Int) (v3 : Int) (v4 : Int) (v5 : Int) (h : zHC) (v : (Int × zHC)) (e : F120_4 k0 k1 v1 v2 v3 v4 v5 h = some v) : zFin 0 (fun _ => 0) (zRu2 spec d) 120 (some (0, v.1)) (v.2, hm, o) (94, [some (14, 0), some (19, v1), some (11, v2), some (0, v3), some (0, v4), some (0, v5), none], [], (h, hm, o)) := by
  unfold F120_4 at e
  refine zF_blk (m := []) (d := 0) (b := B120_15) (gs := []) (c' := (25, [some (14, 0), some (19, v1), some (11, v2), some (0, v3), some (0, v4), some (0, (wadd v5 1)), none], [], (h, hm, o))) K120_15 rfl trivial ?_
  exact hk1 v1 v2 v3 v4 (wadd v5 1) h _ e
def F120_5 (k0 : Int → Int → Int → zHC → Option (Int × zHC)) (k1 : Int → Int → Int → Int → Int → zHC → Option (Int × zHC)) (k2 : Int → Int → Int → Int → Int → Int → zHC → Option (Int × zHC)) (v1 : Int) (v2 : Int) (v3 : Int) (v4 : Int) (v5 : Int) (v6 : Int) (h : zHC) : Option (Int × zHC) := k2 v1 v2 v3 v4 v5 (wadd v6 1) h
set_option maxRecDepth 100000 in
theorem T120_5 {spec : zRn zH2} {hm : zHM} {o : Int → Int} {d : Nat} (hd : 6 ≤ d) (k0 : Int → Int → Int → zHC → Option (Int × zHC)) (hk0 : ∀ (v1 : Int) (v2 : Int) (v3 : Int) (h : zHC) (v : (Int × zHC)), k0 v1 v2 v3 h = some v → zFin 0 (fun _ => 0) (zRu2 spec d) 120 (some (0, v.1)) (v.2, hm, o) (7, [some (14, 0), some (19, v1), some (11, v2), some (0, v3), none, none, none], [], (h, hm, o))) (k1 : Int → Int → Int → Int → Int → zHC → Option (Int × zHC)) (hk1 : ∀ (v1 : Int) (v2 : Int) (v3 : Int) (v4 : Int) (v5 : Int) (h : zHC) (v : (Int × zHC)), k1 v1 v2 v3 v4 v5 h = some v → zFin 0 (fun _ => 0) (zRu2 spec d) 120 (some (0, v.1)) (v.2, hm, o) (25, [some (14, 0), some (19, v1), some (11, v2), some (0, v3), some (0, v4), some (0, v5), none], [], (h, hm, o))) (k2 : Int → Int → Int → Int → Int → Int → zHC → Option (Int × zHC)) (hk2 : ∀ (v1 : Int) (v2 : Int) (v3 : Int) (v4 : Int) (v5 : Int) (v6 : Int) (h : zHC) (v : (Int × zHC)), k2 v1 v2 v3 v4 v5 v6 h = some v → zFin 0 (fun _ => 0) (zRu2 spec d) 120 (some (0, v.1)) (v.2, hm, o) (40, [some (14, 0), some (19, v1), some (11, v2), some (0, v3), some (0, v4), some (0, v5), some (0, v6)], [], (h, hm, o))) (v1 : Int) (v2 : Int) (v3 : Int) (v4 : Int) (v5 : Int) (v6 : Int) (h : zHC) (v : (Int × zHC)) (e : F120_5 k0 k1 k2 v1 v2 v3 v4 v5 v6 h = some v) : zFin 0 (fun _ => 0) (zRu2 spec d) 120 (some (0, v.1)) (v.2, hm, o) (88, [some (14, 0), some (19, v1), some (11, v2), some (0, v3), some (0, v4), some (0, v5), some (0, v6)], [], (h, hm, o)) := by
  unfold F120_5 at e
  refine zF_blk (m := []) (d := 0) (b := B120_14) (gs := []) (c' := (40, [some (14, 0), some (19, v1), some (11, v2), some (0, v3), some (0, v4), some (0, v5), some (0, (wadd v6 1))], [], (h, hm, o))) K120_14 rfl trivial ?_
  exact hk2 v1 v2 v3 v4 v5 (wadd v6 1) h _ e
def F120_3 (k0 : Int → Int → Int → zHC → Option (Int × zHC)) (k1 : Int → Int → Int → Int → Int → zHC → Option (Int × zHC)) : Nat → Int → Int → Int → Int → Int → Int → zHC → Option (Int × zHC)
  | 0, _, _, _, _, _, _, _ => none
  | n + 1, v1, v2, v3, v4, v5, v6, h => if 9 < v6 then F120_4 k0 k1 v1 v2 v3 v4 v5 h else (F69 v1 v5 h).bind fun r1 => if r1 = 0 then F120_4 k0 k1 v1 v2 v3 v4 v5 h else (F123 v1 v2 v3 v5 v6 h).bind fun r2 => if r2.1 = 0 then F120_5 k0 k1 (F120_3 k0 k1 n) v1 v2 v3 v4 v5 v6 r2.2 else (F127 (wadd (wadd (wmul v3 1000) (wmul v5 10)) v6) r2.2).bind fun r3 => F120_5 k0 k1 (F120_3 k0 k1 n) v1 v2 v3 v4 v5 v6 r3
set_option maxRecDepth 100000 in
theorem T120_3 {spec : zRn zH2} {hm : zHM} {o : Int → Int} {d : Nat} (hd : 6 ≤ d) (k0 : Int → Int → Int → zHC → Option (Int × zHC)) (hk0 : ∀ (v1 : Int) (v2 : Int) (v3 : Int) (h : zHC) (v : (Int × zHC)), k0 v1 v2 v3 h = some v → zFin 0 (fun _ => 0) (zRu2 spec d) 120 (some (0, v.1)) (v.2, hm, o) (7, [some (14, 0), some (19, v1), some (11, v2), some (0, v3), none, none, none], [], (h, hm, o))) (k1 : Int → Int → Int → Int → Int → zHC → Option (Int × zHC)) (hk1 : ∀ (v1 : Int) (v2 : Int) (v3 : Int) (v4 : Int) (v5 : Int) (h : zHC) (v : (Int × zHC)), k1 v1 v2 v3 v4 v5 h = some v → zFin 0 (fun _ => 0) (zRu2 spec d) 120 (some (0, v.1)) (v.2, hm, o) (25, [some (14, 0), some (19, v1), some (11, v2), some (0, v3), some (0, v4), some (0, v5), none], [], (h, hm, o))) : ∀ (n : Nat) (v1 : Int) (v2 : Int) (v3 : Int) (v4 : Int) (v5 : Int) (v6 : Int) (h : zHC) (v : (Int × zHC)), F120_3 k0 k1 n v1 v2 v3 v4 v5 v6 h = some v → zFin 0 (fun _ => 0) (zRu2 spec d) 120 (some (0, v.1)) (v.2, hm, o) (40, [some (14, 0), some (19, v1), some (11, v2), some (0, v3), some (0, v4), some (0, v5), some (0, v6)], [], (h, hm, o)) := by
  intro n
  induction n with
  | zero => intro v1 v2 v3 v4 v5 v6 h v e; unfold F120_3 at e; cases e
  | succ n hk2 =>
    intro v1 v2 v3 v4 v5 v6 h v e
    unfold F120_3 at e
    rcases zI_s e with ⟨q1, e⟩ | ⟨q1, e⟩
    · refine zF_blk (m := []) (d := 1) (b := B120_13) (gs := [9 < v6]) (c' := (94, [some (14, 0), some (19, v1), some (11, v2), some (0, v3), some (0, v4), some (0, v5), some (0, v6)], [], (h, hm, o))) K120_13 rfl ⟨q1, trivial⟩ ?_
      refine zF_blk (m := [true, true, true, true, true, true, false]) (d := 0) (b := []) (gs := []) (c' := (94, [some (14, 0), some (19, v1), some (11, v2), some (0, v3), some (0, v4), some (0, v5), none], [], (h, hm, o))) rfl rfl trivial ?_
      exact T120_4 hd k0 hk0 k1 hk1 v1 v2 v3 v4 v5 h _ e
    · refine zF_blk (m := []) (d := 0) (b := B120_13) (gs := [¬ (9 < v6)]) (c' := (47, [some (14, 0), some (19, v1), some (11, v2), some (0, v3), some (0, v4), some (0, v5), some (0, v6)], [], (h, hm, o))) K120_13 rfl ⟨q1, trivial⟩ ?_
      obtain ⟨r1, q2, e⟩ := zB_s e
      refine zF_blk (m := []) (d := 0) (b := B120_8) (gs := []) (c' := (50, [some (14, 0), some (19, v1), some (11, v2), some (0, v3), some (0, v4), some (0, v5), some (0, v6)], [(0, v5), (19, v1)], (h, hm, o))) K120_8 rfl trivial ?_
      refine zF_call (k := 69) (cl := 9) (n := 2) (i := .invokevirtual 52) (args := [(19, v1), (0, v5)]) (rest := []) (g1 := (h, hm, o)) (r1 := some (0, r1)) (by decide +kernel) rfl rfl rfl (st' := [(0, r1)]) rfl (S69 (Nat.le_trans (by decide) hd) v1 v5 h _ q2) ?_
      rcases zI_s e with ⟨q3, e⟩ | ⟨q3, e⟩
      · refine zF_blk (m := []) (d := 1) (b := B120_12) (gs := [r1 = 0]) (c' := (94, [some (14, 0), some (19, v1), some (11, v2), some (0, v3), some (0, v4), some (0, v5), some (0, v6)], [], (h, hm, o))) K120_12 rfl ⟨q3, trivial⟩ ?_
        refine zF_blk (m := [true, true, true, true, true, true, false]) (d := 0) (b := []) (gs := []) (c' := (94, [some (14, 0), some (19, v1), some (11, v2), some (0, v3), some (0, v4), some (0, v5), none], [], (h, hm, o))) rfl rfl trivial ?_
        exact T120_4 hd k0 hk0 k1 hk1 v1 v2 v3 v4 v5 h _ e
      · refine zF_blk (m := []) (d := 0) (b := B120_12) (gs := [¬ (r1 = 0)]) (c' := (56, [some (14, 0), some (19, v1), some (11, v2), some (0, v3), some (0, v4), some (0, v5), some (0, v6)], [], (h, hm, o))) K120_12 rfl ⟨q3, trivial⟩ ?_
        obtain ⟨r2, q4, e⟩ := zB_s e
        refine zF_blk (m := []) (d := 0) (b := B120_9) (gs := []) (c' := (64, [some (14, 0), some (19, v1), some (11, v2), some (0, v3), some (0, v4), some (0, v5), some (0, v6)], [(0, v6), (0, v5), (0, v3), (11, v2), (19, v1), (14, 0)], (h, hm, o))) K120_9 rfl trivial ?_
        refine zF_call (k := 123) (cl := 4) (n := 6) (i := .invokevirtual 55) (args := [(14, 0), (19, v1), (11, v2), (0, v3), (0, v5), (0, v6)]) (rest := []) (g1 := (r2.2, hm, o)) (r1 := some (0, r2.1)) (by decide +kernel) rfl rfl rfl (st' := [(0, r2.1)]) rfl (S123 (Nat.le_trans (by decide) hd) v1 v2 v3 v5 v6 h _ q4) ?_
        rcases zI_s e with ⟨q5, e⟩ | ⟨q5, e⟩
        · refine zF_blk (m := []) (d := 1) (b := B120_11) (gs := [r2.1 = 0]) (c' := (88, [some (14, 0), some (19, v1), some (11, v2), some (0, v3), some (0, v4), some (0, v5), some (0, v6)], [], (r2.2, hm, o))) K120_11 rfl ⟨q5, trivial⟩ ?_
          exact T120_5 hd k0 hk0 k1 hk1 (F120_3 k0 k1 n) hk2 v1 v2 v3 v4 v5 v6 r2.2 _ e
        · refine zF_blk (m := []) (d := 0) (b := B120_11) (gs := [¬ (r2.1 = 0)]) (c' := (70, [some (14, 0), some (19, v1), some (11, v2), some (0, v3), some (0, v4), some (0, v5), some (0, v6)], [], (r2.2, hm, o))) K120_11 rfl ⟨q5, trivial⟩ ?_
          obtain ⟨r3, q6, e⟩ := zB_s e
          refine zF_blk (m := []) (d := 0) (b := B120_10) (gs := []) (c' := (85, [some (14, 0), some (19, v1), some (11, v2), some (0, v3), some (0, v4), some (0, v5), some (0, v6)], [(0, (wadd (wadd (wmul v3 1000) (wmul v5 10)) v6)), (14, 0)], (r2.2, hm, o))) K120_10 rfl trivial ?_
          refine zF_call (k := 127) (cl := 4) (n := 2) (i := .invokevirtual 59) (args := [(14, 0), (0, (wadd (wadd (wmul v3 1000) (wmul v5 10)) v6))]) (rest := []) (g1 := (r3, hm, o)) (r1 := none) (by decide +kernel) rfl rfl rfl (st' := []) rfl (S127 (Nat.le_trans (by decide) hd) (wadd (wadd (wmul v3 1000) (wmul v5 10)) v6) r2.2 _ q6) ?_
          exact T120_5 hd k0 hk0 k1 hk1 (F120_3 k0 k1 n) hk2 v1 v2 v3 v4 v5 v6 r3 _ e
def F120_1 (k0 : Int → Int → Int → zHC → Option (Int × zHC)) : Nat → Int → Int → Int → Int → Int → zHC → Option (Int × zHC)
  | 0, _, _, _, _, _, _ => none
  | n + 1, v1, v2, v3, v4, v5, h => if 100 ≤ v5 then F120_2 k0 v1 v2 v3 h else if v4 = 0 then F120_2 k0 v1 v2 v3 h else F120_3 k0 (F120_1 k0 n) zFu v1 v2 v3 v4 v5 1 h
set_option maxRecDepth 100000 in
theorem T120_1 {spec : zRn zH2} {hm : zHM} {o : Int → Int} {d : Nat} (hd : 6 ≤ d) (k0 : Int → Int → Int → zHC → Option (Int × zHC)) (hk0 : ∀ (v1 : Int) (v2 : Int) (v3 : Int) (h : zHC) (v : (Int × zHC)), k0 v1 v2 v3 h = some v → zFin 0 (fun _ => 0) (zRu2 spec d) 120 (some (0, v.1)) (v.2, hm, o) (7, [some (14, 0), some (19, v1), some (11, v2), some (0, v3), none, none, none], [], (h, hm, o))) : ∀ (n : Nat) (v1 : Int) (v2 : Int) (v3 : Int) (v4 : Int) (v5 : Int) (h : zHC) (v : (Int × zHC)), F120_1 k0 n v1 v2 v3 v4 v5 h = some v → zFin 0 (fun _ => 0) (zRu2 spec d) 120 (some (0, v.1)) (v.2, hm, o) (25, [some (14, 0), some (19, v1), some (11, v2), some (0, v3), some (0, v4), some (0, v5), none], [], (h, hm, o)) := by
  intro n
  induction n with
  | zero => intro v1 v2 v3 v4 v5 h v e; unfold F120_1 at e; cases e
  | succ n hk1 =>
    intro v1 v2 v3 v4 v5 h v e
    unfold F120_1 at e
    rcases zI_s e with ⟨q1, e⟩ | ⟨q1, e⟩
    · refine zF_blk (m := []) (d := 1) (b := B120_7) (gs := [100 ≤ v5]) (c' := (100, [some (14, 0), some (19, v1), some (11, v2), some (0, v3), some (0, v4), some (0, v5), none], [], (h, hm, o))) K120_7 rfl ⟨q1, trivial⟩ ?_
      refine zF_blk (m := [true, true, true, true, false, false, false]) (d := 0) (b := []) (gs := []) (c' := (100, [some (14, 0), some (19, v1), some (11, v2), some (0, v3), none, none, none], [], (h, hm, o))) rfl rfl trivial ?_
      exact T120_2 hd k0 hk0 v1 v2 v3 h _ e
    · refine zF_blk (m := []) (d := 0) (b := B120_7) (gs := [¬ (100 ≤ v5)]) (c' := (32, [some (14, 0), some (19, v1), some (11, v2), some (0, v3), some (0, v4), some (0, v5), none], [], (h, hm, o))) K120_7 rfl ⟨q1, trivial⟩ ?_
      rcases zI_s e with ⟨q2, e⟩ | ⟨q2, e⟩
      · refine zF_blk (m := []) (d := 1) (b := B120_6) (gs := [v4 = 0]) (c' := (100, [some (14, 0), some (19, v1), some (11, v2), some (0, v3), some (0, v4), some (0, v5), none], [], (h, hm, o))) K120_6 rfl ⟨q2, trivial⟩ ?_
        refine zF_blk (m := [true, true, true, true, false, false, false]) (d := 0) (b := []) (gs := []) (c' := (100, [some (14, 0), some (19, v1), some (11, v2), some (0, v3), none, none, none], [], (h, hm, o))) rfl rfl trivial ?_
        exact T120_2 hd k0 hk0 v1 v2 v3 h _ e
      · refine zF_blk (m := []) (d := 0) (b := B120_6) (gs := [¬ (v4 = 0)]) (c' := (37, [some (14, 0), some (19, v1), some (11, v2), some (0, v3), some (0, v4), some (0, v5), none], [], (h, hm, o))) K120_6 rfl ⟨q2, trivial⟩ ?_
        refine zF_blk (m := []) (d := 0) (b := B120_5) (gs := []) (c' := (40, [some (14, 0), some (19, v1), some (11, v2), some (0, v3), some (0, v4), some (0, v5), some (0, 1)], [], (h, hm, o))) K120_5 rfl trivial ?_
        exact T120_3 hd k0 hk0 (F120_1 k0 n) hk1 zFu v1 v2 v3 v4 v5 1 h _ e
def F120_0 : Nat → Int → Int → Int → zHC → Option (Int × zHC)
  | 0, _, _, _, _ => none
  | n + 1, v1, v2, v3, h => if 200 < v3 then some ((h 256 0 0), h) else (F121 v1 v3 h).bind fun r1 => F120_1 (F120_0 n) zFu v1 v2 v3 r1 0 h
set_option maxRecDepth 100000 in
theorem T120_0 {spec : zRn zH2} {hm : zHM} {o : Int → Int} {d : Nat} (hd : 6 ≤ d) : ∀ (n : Nat) (v1 : Int) (v2 : Int) (v3 : Int) (h : zHC) (v : (Int × zHC)), F120_0 n v1 v2 v3 h = some v → zFin 0 (fun _ => 0) (zRu2 spec d) 120 (some (0, v.1)) (v.2, hm, o) (7, [some (14, 0), some (19, v1), some (11, v2), some (0, v3), none, none, none], [], (h, hm, o)) := by
  intro n
  induction n with
  | zero => intro v1 v2 v3 h v e; unfold F120_0 at e; cases e
  | succ n hk0 =>
    intro v1 v2 v3 h v e
    unfold F120_0 at e
    rcases zI_s e with ⟨q1, e⟩ | ⟨q1, e⟩
    · refine zF_blk (m := []) (d := 1) (b := B120_4) (gs := [200 < v3]) (c' := (106, [some (14, 0), some (19, v1), some (11, v2), some (0, v3), none, none, none], [], (h, hm, o))) K120_4 rfl ⟨q1, trivial⟩ ?_
      refine zF_blk (m := []) (d := 0) (b := B120_1) (gs := []) (c' := (110, [some (14, 0), some (19, v1), some (11, v2), some (0, v3), none, none, none], [(0, (h 256 0 0))], (h, hm, o))) K120_1 rfl trivial ?_
      exact zF_riC (by decide +kernel) e
    · refine zF_blk (m := []) (d := 0) (b := B120_4) (gs := [¬ (200 < v3)]) (c' := (14, [some (14, 0), some (19, v1), some (11, v2), some (0, v3), none, none, none], [], (h, hm, o))) K120_4 rfl ⟨q1, trivial⟩ ?_
      obtain ⟨r1, q2, e⟩ := zB_s e
      refine zF_blk (m := []) (d := 0) (b := B120_2) (gs := []) (c' := (17, [some (14, 0), some (19, v1), some (11, v2), some (0, v3), none, none, none], [(0, v3), (19, v1), (14, 0)], (h, hm, o))) K120_2 rfl trivial ?_
      refine zF_call (k := 121) (cl := 4) (n := 3) (i := .invokevirtual 48) (args := [(14, 0), (19, v1), (0, v3)]) (rest := []) (g1 := (h, hm, o)) (r1 := some (0, r1)) (by decide +kernel) rfl rfl rfl (st' := [(0, r1)]) rfl (S121 (Nat.le_trans (by decide) hd) v1 v3 h _ q2) ?_
      refine zF_blk (m := []) (d := 0) (b := B120_3) (gs := []) (c' := (25, [some (14, 0), some (19, v1), some (11, v2), some (0, v3), some (0, r1), some (0, 0), none], [], (h, hm, o))) K120_3 rfl trivial ?_
      exact T120_1 hd (F120_0 n) hk0 zFu v1 v2 v3 r1 0 h _ e
/-- EchoVale$Pieces.find(LEchoVale$Valley;LEchoVale$Course;)I -/
def F120 (v1 : Int) (v2 : Int) (h : zHC) : Option (Int × zHC) := F120_0 zFu v1 v2 0 (hset h 256 0 0 0)
set_option maxRecDepth 100000 in
theorem S120 {spec : zRn zH2} {hm : zHM} {o : Int → Int} {d : Nat} (hd : 7 ≤ d) (v1 : Int) (v2 : Int) (h : zHC) (v : (Int × zHC)) (e : F120 v1 v2 h = some v) : zRu2 spec d 120 [(14, 0), (19, v1), (11, v2)] (h, hm, o) (some (0, v.1)) (v.2, hm, o) := by
  refine zF_in (D := 6) (mx := 7) (L := [some (14, 0), some (19, v1), some (11, v2), none, none, none, none]) (by decide +kernel) rfl rfl hd (fun d hd => ?_)
  unfold F120 at e
  refine zF_blk (m := []) (d := 0) (b := B120_0) (gs := []) (c' := (7, [some (14, 0), some (19, v1), some (11, v2), some (0, 0), none, none, none], [], ((hset h 256 0 0 0), hm, o))) K120_0 rfl trivial ?_
  exact T120_0 hd zFu v1 v2 0 (hset h 256 0 0 0) _ e
def B118_0 : List zRow := [(0, .aload_n 0, 1, (0, 0, 0)), (1, .getfield 80, 3, (11, 10, 19)), (4, .aload_n 0, 1, (0, 0, 0)), (5, .getfield 12, 3, (11, 0, 23)), (8, .aload_n 0, 1, (0, 0, 0)), (9, .getfield 19, 3, (11, 1, 39))]
theorem K118_0 : zRk 118 B118_0 = true := by decide +kernel
def B118_1 : List zRow := [(46, .iconst (-1), 1, (0, 0, 0))]
theorem K118_1 : zRk 118 B118_1 = true := by decide +kernel
def B118_2 : List zRow := [(28, .aload_n 0, 1, (0, 0, 0)), (29, .getfield 80, 3, (11, 10, 19)), (32, .aload_n 0, 1, (0, 0, 0)), (33, .getfield 19, 3, (11, 1, 39)), (36, .aload_n 0, 1, (0, 0, 0)), (37, .getfield 60, 3, (11, 7, 135))]
theorem K118_2 : zRk 118 B118_2 = true := by decide +kernel
def B118_3 : List zRow := [(43, .goto 4, 3, (0, 0, 0))]
theorem K118_3 : zRk 118 B118_3 = true := by decide +kernel
def B118_4 : List zRow := [(15, .istore_n 1, 1, (0, 0, 0)), (16, .aload_n 0, 1, (0, 0, 0)), (17, .getfield 12, 3, (11, 0, 23)), (20, .iconst 0, 1, (0, 0, 0)), (21, .putfield 105, 3, (5, 1, 0)), (24, .iload_n 1, 1, (0, 0, 0)), (25, .ifCond .eq 21, 3, (0, 0, 0))]
theorem K118_4 : zRk 118 B118_4 = true := by decide +kernel
/-- EchoVale.pieces()I -/
def F118 (h : zHC) : Option (Int × zHC) := (F119 0 h).bind fun r1 => if r1.1 = 0 then some ((-1), (hset r1.2 321 0 0 0)) else (F120 0 1 (hset r1.2 321 0 0 0)).bind fun r2 => some (r2.1, r2.2)
set_option maxRecDepth 100000 in
theorem S118 {spec : zRn zH2} {hm : zHM} {o : Int → Int} {d : Nat} (hd : 8 ≤ d) (h : zHC) (v : (Int × zHC)) (e : F118 h = some v) : zRu2 spec d 118 [(21, 0)] (h, hm, o) (some (0, v.1)) (v.2, hm, o) := by
  refine zF_in (D := 7) (mx := 2) (L := [some (21, 0), none]) (by decide +kernel) rfl rfl hd (fun d hd => ?_)
  unfold F118 at e
  obtain ⟨r1, q1, e⟩ := zB_s e
  refine zF_blk (m := []) (d := 0) (b := B118_0) (gs := []) (c' := (12, [some (21, 0), none], [(19, 0), (15, 0), (14, 0)], (h, hm, o))) K118_0 rfl trivial ?_
  refine zF_call (k := 119) (cl := 4) (n := 3) (i := .invokevirtual 291) (args := [(14, 0), (15, 0), (19, 0)]) (rest := []) (g1 := (r1.2, hm, o)) (r1 := some (0, r1.1)) (by decide +kernel) rfl rfl rfl (st' := [(0, r1.1)]) rfl (S119 (Nat.le_trans (by decide) hd) 0 h _ q1) ?_
  rcases zI_s e with ⟨q2, e⟩ | ⟨q2, e⟩
  · refine zF_blk (m := []) (d := 1) (b := B118_4) (gs := [r1.1 = 0]) (c' := (46, [some (21, 0), some (0, r1.1)], [], ((hset r1.2 321 0 0 0), hm, o))) K118_4 rfl ⟨q2, trivial⟩ ?_
    refine zF_blk (m := []) (d := 0) (b := B118_1) (gs := []) (c' := (47, [some (21, 0), some (0, r1.1)], [(0, (-1))], ((hset r1.2 321 0 0 0), hm, o))) K118_1 rfl trivial ?_
    exact zF_riC (by decide +kernel) e
  · refine zF_blk (m := []) (d := 0) (b := B118_4) (gs := [¬ (r1.1 = 0)]) (c' := (28, [some (21, 0), some (0, r1.1)], [], ((hset r1.2 321 0 0 0), hm, o))) K118_4 rfl ⟨q2, trivial⟩ ?_
    obtain ⟨r2, q3, e⟩ := zB_s e
    refine zF_blk (m := []) (d := 0) (b := B118_2) (gs := []) (c' := (40, [some (21, 0), some (0, r1.1)], [(11, 1), (19, 0), (14, 0)], ((hset r1.2 321 0 0 0), hm, o))) K118_2 rfl trivial ?_
    refine zF_call (k := 120) (cl := 4) (n := 3) (i := .invokevirtual 295) (args := [(14, 0), (19, 0), (11, 1)]) (rest := []) (g1 := (r2.2, hm, o)) (r1 := some (0, r2.1)) (by decide +kernel) rfl rfl rfl (st' := [(0, r2.1)]) rfl (S120 (Nat.le_trans (by decide) hd) 0 1 (hset r1.2 321 0 0 0) _ q3) ?_
    refine zF_blk (m := []) (d := 0) (b := B118_3) (gs := []) (c' := (47, [some (21, 0), some (0, r1.1)], [(0, r2.1)], (r2.2, hm, o))) K118_3 rfl trivial ?_
    exact zF_riC (by decide +kernel) e
def B263_0 : List zRow := [(0, .aload_n 0, 1, (0, 0, 0))]
theorem K263_0 : zRk 263 B263_0 = true := by decide +kernel
def B263_1 : List zRow := [(23, .iconst 0, 1, (0, 0, 0))]
theorem K263_1 : zRk 263 B263_1 = true := by decide +kernel
def B263_2 : List zRow := [(11, .iload_n 1, 1, (0, 0, 0)), (12, .iconst 3, 1, (0, 0, 0)), (13, .idiv, 1, (0, 0, 0)), (14, .iconst 1, 1, (0, 0, 0)), (15, .bipush 6, 2, (0, 0, 0))]
theorem K263_2 : zRk 263 B263_2 = true := by decide +kernel
def B263_3 : List zRow := [(25, .iconst 0, 1, (0, 0, 0)), (26, .istore_n 2, 1, (0, 0, 0))]
theorem K263_3 : zRk 263 B263_3 = true := by decide +kernel
def B263_4 : List zRow := [(20, .ifCond .ne 5, 3, (0, 0, 0))]
theorem K263_4 : zRk 263 B263_4 = true := by decide +kernel
def B263_5 : List zRow := [(4, .istore_n 1, 1, (0, 0, 0)), (5, .iload_n 1, 1, (0, 0, 0)), (6, .iconst 3, 1, (0, 0, 0)), (7, .irem, 1, (0, 0, 0)), (8, .ifCond .ne 15, 3, (0, 0, 0))]
theorem K263_5 : zRk 263 B263_5 = true := by decide +kernel
def B263_6 : List zRow := [(72, .aload_n 0, 1, (0, 0, 0)), (73, .iload_n 1, 1, (0, 0, 0)), (74, .iconst 3, 1, (0, 0, 0)), (75, .idiv, 1, (0, 0, 0)), (76, .putfield 345, 3, (12, 34, 0)), (79, .iconst 0, 1, (0, 0, 0)), (80, .istore_n 2, 1, (0, 0, 0))]
theorem K263_6 : zRk 263 B263_6 = true := by decide +kernel
def B263_7 : List zRow := [(64, .iconst 0, 1, (0, 0, 0))]
theorem K263_7 : zRk 263 B263_7 = true := by decide +kernel
def B263_8 : List zRow := [(47, .aload_n 0, 1, (0, 0, 0)), (48, .getfield 7, 3, (12, 1, 5246642)), (51, .iload_n 2, 1, (0, 0, 0)), (52, .iconst 2, 1, (0, 0, 0)), (53, .iadd, 1, (0, 0, 0)), (54, .iaload, 1, (0, 0, 0)), (55, .iconst 1, 1, (0, 0, 0)), (56, .bipush 9, 2, (0, 0, 0))]
theorem K263_8 : zRk 263 B263_8 = true := by decide +kernel
def B263_9 : List zRow := [(66, .iinc 2 3, 3, (0, 0, 0)), (69, .goto (-42), 3, (0, 0, 0))]
theorem K263_9 : zRk 263 B263_9 = true := by decide +kernel
def B263_10 : List zRow := [(61, .ifCond .ne 5, 3, (0, 0, 0))]
theorem K263_10 : zRk 263 B263_10 = true := by decide +kernel
def B263_11 : List zRow := [(32, .aload_n 0, 1, (0, 0, 0)), (33, .getfield 7, 3, (12, 1, 5246642)), (36, .iload_n 2, 1, (0, 0, 0)), (37, .iaload, 1, (0, 0, 0)), (38, .aload_n 0, 1, (0, 0, 0)), (39, .getfield 13, 3, (12, 14, 5251442)), (42, .iconst 2, 1, (0, 0, 0)), (43, .iaload, 1, (0, 0, 0)), (44, .if_icmp .ge 20, 3, (0, 0, 0))]
theorem K263_11 : zRk 263 B263_11 = true := by decide +kernel
def B263_12 : List zRow := [(27, .iload_n 2, 1, (0, 0, 0)), (28, .iload_n 1, 1, (0, 0, 0)), (29, .if_icmp .ge 43, 3, (0, 0, 0))]
theorem K263_12 : zRk 263 B263_12 = true := by decide +kernel
def B263_13 : List zRow := [(141, .iconst 1, 1, (0, 0, 0))]
theorem K263_13 : zRk 263 B263_13 = true := by decide +kernel
def B263_14 : List zRow := [(89, .aload_n 0, 1, (0, 0, 0)), (90, .getfield 45, 3, (12, 26, 5242906)), (93, .iload_n 2, 1, (0, 0, 0)), (94, .aload_n 0, 1, (0, 0, 0)), (95, .getfield 7, 3, (12, 1, 5246642)), (98, .iconst 3, 1, (0, 0, 0)), (99, .iload_n 2, 1, (0, 0, 0))]
theorem K263_14 : zRk 263 B263_14 = true := by decide +kernel
def B263_15 : List zRow := [(100, .imul, 1, (0, 0, 0)), (101, .iaload, 1, (0, 0, 0)), (102, .iastore, 1, (0, 0, 0)), (103, .aload_n 0, 1, (0, 0, 0)), (104, .getfield 48, 3, (12, 27, 5242906)), (107, .iload_n 2, 1, (0, 0, 0)), (108, .aload_n 0, 1, (0, 0, 0)), (109, .getfield 7, 3, (12, 1, 5246642)), (112, .iconst 3, 1, (0, 0, 0)), (113, .iload_n 2, 1, (0, 0, 0))]
theorem K263_15 : zRk 263 B263_15 = true := by decide +kernel
def B263_16 : List zRow := [(114, .imul, 1, (0, 0, 0)), (115, .iconst 1, 1, (0, 0, 0)), (116, .iadd, 1, (0, 0, 0)), (117, .iaload, 1, (0, 0, 0)), (118, .iastore, 1, (0, 0, 0)), (119, .aload_n 0, 1, (0, 0, 0)), (120, .getfield 51, 3, (12, 28, 5242906)), (123, .iload_n 2, 1, (0, 0, 0)), (124, .aload_n 0, 1, (0, 0, 0)), (125, .getfield 7, 3, (12, 1, 5246642)), (128, .iconst 3, 1, (0, 0, 0)), (129, .iload_n 2, 1, (0, 0, 0))]
theorem K263_16 : zRk 263 B263_16 = true := by decide +kernel
def B263_17 : List zRow := [(130, .imul, 1, (0, 0, 0)), (131, .iconst 2, 1, (0, 0, 0)), (132, .iadd, 1, (0, 0, 0)), (133, .iaload, 1, (0, 0, 0)), (134, .iastore, 1, (0, 0, 0)), (135, .iinc 2 1, 3, (0, 0, 0)), (138, .goto (-57), 3, (0, 0, 0))]
theorem K263_17 : zRk 263 B263_17 = true := by decide +kernel
def B263_18 : List zRow := [(81, .iload_n 2, 1, (0, 0, 0)), (82, .aload_n 0, 1, (0, 0, 0)), (83, .getfield 345, 3, (12, 34, 0)), (86, .if_icmp .ge 55, 3, (0, 0, 0))]
theorem K263_18 : zRk 263 B263_18 = true := by decide +kernel
def F263_1 : Nat → Int → zHM → Option (Int × zHM)
  | 0, _, _ => none
  | n + 1, v2, h => if (h 34 0) ≤ v2 then some (1, h) else zG (0 ≤ (wmul 3 v2) ∧ (wmul 3 v2) < 940) (zG (0 ≤ v2 ∧ v2 < 6) (zG (0 ≤ (wadd (wmul 3 v2) 1) ∧ (wadd (wmul 3 v2) 1) < 940) (zG (0 ≤ v2 ∧ v2 < 6) (zG (0 ≤ (wadd (wmul 3 v2) 2) ∧ (wadd (wmul 3 v2) 2) < 940) (zG (0 ≤ v2 ∧ v2 < 6) ((F263_1 n) (wadd v2 1) (mset (mset (mset h 26 v2 (h 1 (wmul 3 v2))) 27 v2 (h 1 (wadd (wmul 3 v2) 1))) 28 v2 (h 1 (wadd (wmul 3 v2) 2)))))))))
set_option maxRecDepth 100000 in
theorem T263_1 {spec : zRn zH2} {hc : zHC} {o : Int → Int} {d : Nat} (hd : 1 ≤ d) : ∀ (n : Nat) (v2 : Int) (h : zHM) (v : (Int × zHM)), F263_1 n v2 h = some v → zFin 0 (fun _ => 0) (zRu2 spec d) 263 (some (0, v.1)) (hc, v.2, o) (81, [some (22, 0), none, some (0, v2)], [], (hc, h, o)) := by
  intro n
  induction n with
  | zero => intro v2 h v e; unfold F263_1 at e; cases e
  | succ n hk0 =>
    intro v2 h v e
    unfold F263_1 at e
    rcases zI_s e with ⟨q1, e⟩ | ⟨q1, e⟩
    · refine zF_blk (m := []) (d := 1) (b := B263_18) (gs := [(h 34 0) ≤ v2]) (c' := (141, [some (22, 0), none, some (0, v2)], [], (hc, h, o))) K263_18 rfl ⟨q1, trivial⟩ ?_
      refine zF_blk (m := []) (d := 0) (b := B263_13) (gs := []) (c' := (142, [some (22, 0), none, some (0, v2)], [(0, 1)], (hc, h, o))) K263_13 rfl trivial ?_
      exact zF_rbM (by decide +kernel) (Or.inr rfl) e
    · refine zF_blk (m := []) (d := 0) (b := B263_18) (gs := [¬ ((h 34 0) ≤ v2)]) (c' := (89, [some (22, 0), none, some (0, v2)], [], (hc, h, o))) K263_18 rfl ⟨q1, trivial⟩ ?_
      obtain ⟨q2, e⟩ := zG_s e
      obtain ⟨q3, e⟩ := zG_s e
      obtain ⟨q4, e⟩ := zG_s e
      obtain ⟨q5, e⟩ := zG_s e
      obtain ⟨q6, e⟩ := zG_s e
      obtain ⟨q7, e⟩ := zG_s e
      refine zF_blk (m := []) (d := 0) (b := B263_14) (gs := []) (c' := (100, [some (22, 0), none, some (0, v2)], [(0, v2), (0, 3), (1343141609, 0), (0, v2), (1342185218, 0)], (hc, h, o))) K263_14 rfl trivial ?_
      refine zF_blk (m := []) (d := 0) (b := B263_15) (gs := [0 ≤ (wmul 3 v2) ∧ (wmul 3 v2) < 940, 0 ≤ v2 ∧ v2 < 6]) (c' := (114, [some (22, 0), none, some (0, v2)], [(0, v2), (0, 3), (1343141609, 0), (0, v2), (1342185219, 0)], (hc, (mset h 26 v2 (h 1 (wmul 3 v2))), o))) K263_15 rfl ⟨q2, q3, trivial⟩ ?_
      refine zF_blk (m := []) (d := 0) (b := B263_16) (gs := [0 ≤ (wadd (wmul 3 v2) 1) ∧ (wadd (wmul 3 v2) 1) < 940, 0 ≤ v2 ∧ v2 < 6]) (c' := (130, [some (22, 0), none, some (0, v2)], [(0, v2), (0, 3), (1343141609, 0), (0, v2), (1342185220, 0)], (hc, (mset (mset h 26 v2 (h 1 (wmul 3 v2))) 27 v2 (h 1 (wadd (wmul 3 v2) 1))), o))) K263_16 rfl ⟨q4, q5, trivial⟩ ?_
      refine zF_blk (m := []) (d := 0) (b := B263_17) (gs := [0 ≤ (wadd (wmul 3 v2) 2) ∧ (wadd (wmul 3 v2) 2) < 940, 0 ≤ v2 ∧ v2 < 6]) (c' := (81, [some (22, 0), none, some (0, (wadd v2 1))], [], (hc, (mset (mset (mset h 26 v2 (h 1 (wmul 3 v2))) 27 v2 (h 1 (wadd (wmul 3 v2) 1))) 28 v2 (h 1 (wadd (wmul 3 v2) 2))), o))) K263_17 rfl ⟨q6, q7, trivial⟩ ?_
      exact hk0 (wadd v2 1) (mset (mset (mset h 26 v2 (h 1 (wmul 3 v2))) 27 v2 (h 1 (wadd (wmul 3 v2) 1))) 28 v2 (h 1 (wadd (wmul 3 v2) 2))) _ e
def F263_0 : Nat → Int → Int → zHM → Option (Int × zHM)
  | 0, _, _, _ => none
  | n + 1, v1, v2, h => if v1 ≤ v2 then F263_1 zFu 0 (mset h 34 0 (wdiv v1 3)) else zG (0 ≤ v2 ∧ v2 < 940) (if (h 14 2) ≤ (h 1 v2) then some (0, h) else zG (0 ≤ (wadd v2 2) ∧ (wadd v2 2) < 940) ((F188 (h 1 (wadd v2 2)) 1 9).bind fun r1 => if ¬ r1 = 0 then (F263_0 n) v1 (wadd v2 3) h else some (0, h)))
set_option maxRecDepth 100000 in
theorem T263_0 {spec : zRn zH2} {hc : zHC} {o : Int → Int} {d : Nat} (hd : 1 ≤ d) : ∀ (n : Nat) (v1 : Int) (v2 : Int) (h : zHM) (v : (Int × zHM)), F263_0 n v1 v2 h = some v → zFin 0 (fun _ => 0) (zRu2 spec d) 263 (some (0, v.1)) (hc, v.2, o) (27, [some (22, 0), some (0, v1), some (0, v2)], [], (hc, h, o)) := by
  intro n
  induction n with
  | zero => intro v1 v2 h v e; unfold F263_0 at e; cases e
  | succ n hk0 =>
    intro v1 v2 h v e
    unfold F263_0 at e
    rcases zI_s e with ⟨q1, e⟩ | ⟨q1, e⟩
    · refine zF_blk (m := []) (d := 1) (b := B263_12) (gs := [v1 ≤ v2]) (c' := (72, [some (22, 0), some (0, v1), some (0, v2)], [], (hc, h, o))) K263_12 rfl ⟨q1, trivial⟩ ?_
      refine zF_blk (m := []) (d := 0) (b := B263_6) (gs := [¬ 3 = 0]) (c' := (81, [some (22, 0), some (0, v1), some (0, 0)], [], (hc, (mset h 34 0 (wdiv v1 3)), o))) K263_6 rfl ⟨by decide, trivial⟩ ?_
      refine zF_blk (m := [true, false, true]) (d := 0) (b := []) (gs := []) (c' := (81, [some (22, 0), none, some (0, 0)], [], (hc, (mset h 34 0 (wdiv v1 3)), o))) rfl rfl trivial ?_
      exact T263_1 hd zFu 0 (mset h 34 0 (wdiv v1 3)) _ e
    · refine zF_blk (m := []) (d := 0) (b := B263_12) (gs := [¬ (v1 ≤ v2)]) (c' := (32, [some (22, 0), some (0, v1), some (0, v2)], [], (hc, h, o))) K263_12 rfl ⟨q1, trivial⟩ ?_
      obtain ⟨q2, e⟩ := zG_s e
      rcases zI_s e with ⟨q3, e⟩ | ⟨q3, e⟩
      · refine zF_blk (m := []) (d := 1) (b := B263_11) (gs := [0 ≤ v2 ∧ v2 < 940, 0 ≤ 2 ∧ 2 < 2140, (h 14 2) ≤ (h 1 v2)]) (c' := (64, [some (22, 0), some (0, v1), some (0, v2)], [], (hc, h, o))) K263_11 rfl ⟨q2, by decide, q3, trivial⟩ ?_
        refine zF_blk (m := []) (d := 0) (b := B263_7) (gs := []) (c' := (65, [some (22, 0), some (0, v1), some (0, v2)], [(0, 0)], (hc, h, o))) K263_7 rfl trivial ?_
        exact zF_rbM (by decide +kernel) (Or.inl rfl) e
      · refine zF_blk (m := []) (d := 0) (b := B263_11) (gs := [0 ≤ v2 ∧ v2 < 940, 0 ≤ 2 ∧ 2 < 2140, ¬ ((h 14 2) ≤ (h 1 v2))]) (c' := (47, [some (22, 0), some (0, v1), some (0, v2)], [], (hc, h, o))) K263_11 rfl ⟨q2, by decide, q3, trivial⟩ ?_
        obtain ⟨q4, e⟩ := zG_s e
        obtain ⟨r1, q5, e⟩ := zB_s e
        refine zF_blk (m := []) (d := 0) (b := B263_8) (gs := [0 ≤ (wadd v2 2) ∧ (wadd v2 2) < 940]) (c' := (58, [some (22, 0), some (0, v1), some (0, v2)], [(0, 9), (0, 1), (0, (h 1 (wadd v2 2)))], (hc, h, o))) K263_8 rfl ⟨q4, trivial⟩ ?_
        refine zF_call (k := 188) (cl := 12) (n := 3) (i := .invokestatic 151) (args := [(0, (h 1 (wadd v2 2))), (0, 1), (0, 9)]) (rest := []) (g1 := (hc, h, o)) (r1 := some (0, r1)) (by decide +kernel) rfl rfl rfl (st' := [(0, r1)]) rfl (S188 (Nat.le_trans (by decide) hd) (h 1 (wadd v2 2)) 1 9 h _ q5) ?_
        rcases zI_s e with ⟨q6, e⟩ | ⟨q6, e⟩
        · refine zF_blk (m := []) (d := 1) (b := B263_10) (gs := [¬ r1 = 0]) (c' := (66, [some (22, 0), some (0, v1), some (0, v2)], [], (hc, h, o))) K263_10 rfl ⟨q6, trivial⟩ ?_
          refine zF_blk (m := []) (d := 0) (b := B263_9) (gs := []) (c' := (27, [some (22, 0), some (0, v1), some (0, (wadd v2 3))], [], (hc, h, o))) K263_9 rfl trivial ?_
          exact hk0 v1 (wadd v2 3) h _ e
        · refine zF_blk (m := []) (d := 0) (b := B263_10) (gs := [¬ (¬ r1 = 0)]) (c' := (64, [some (22, 0), some (0, v1), some (0, v2)], [], (hc, h, o))) K263_10 rfl ⟨q6, trivial⟩ ?_
          refine zF_blk (m := []) (d := 0) (b := B263_7) (gs := []) (c' := (65, [some (22, 0), some (0, v1), some (0, v2)], [(0, 0)], (hc, h, o))) K263_7 rfl trivial ?_
          exact zF_rbM (by decide +kernel) (Or.inl rfl) e
/-- EchoValeModel.takePieces()Z -/
def F263 (h : zHM) : Option (Int × zHM) := (F175 h).bind fun r1 => if ¬ (wrem r1.1 3) = 0 then some (0, r1.2) else (F188 (wdiv r1.1 3) 1 6).bind fun r2 => if ¬ r2 = 0 then F263_0 zFu r1.1 0 r1.2 else some (0, r1.2)
set_option maxRecDepth 100000 in
theorem S263 {spec : zRn zH2} {hc : zHC} {o : Int → Int} {d : Nat} (hd : 2 ≤ d) (h : zHM) (v : (Int × zHM)) (e : F263 h = some v) : zRu2 spec d 263 [(22, 0)] (hc, h, o) (some (0, v.1)) (hc, v.2, o) := by
  refine zF_in (D := 1) (mx := 3) (L := [some (22, 0), none, none]) (by decide +kernel) rfl rfl hd (fun d hd => ?_)
  unfold F263 at e
  obtain ⟨r1, q1, e⟩ := zB_s e
  refine zF_blk (m := []) (d := 0) (b := B263_0) (gs := []) (c' := (1, [some (22, 0), none, none], [(22, 0)], (hc, h, o))) K263_0 rfl trivial ?_
  refine zF_call (k := 175) (cl := 12) (n := 1) (i := .invokevirtual 168) (args := [(22, 0)]) (rest := []) (g1 := (hc, r1.2, o)) (r1 := some (0, r1.1)) (by decide +kernel) rfl rfl rfl (st' := [(0, r1.1)]) rfl (S175 (Nat.le_trans (by decide) hd)  h _ q1) ?_
  rcases zI_s e with ⟨q2, e⟩ | ⟨q2, e⟩
  · refine zF_blk (m := []) (d := 1) (b := B263_5) (gs := [¬ 3 = 0, ¬ (wrem r1.1 3) = 0]) (c' := (23, [some (22, 0), some (0, r1.1), none], [], (hc, r1.2, o))) K263_5 rfl ⟨by decide, q2, trivial⟩ ?_
    refine zF_blk (m := []) (d := 0) (b := B263_1) (gs := []) (c' := (24, [some (22, 0), some (0, r1.1), none], [(0, 0)], (hc, r1.2, o))) K263_1 rfl trivial ?_
    exact zF_rbM (by decide +kernel) (Or.inl rfl) e
  · refine zF_blk (m := []) (d := 0) (b := B263_5) (gs := [¬ 3 = 0, ¬ (¬ (wrem r1.1 3) = 0)]) (c' := (11, [some (22, 0), some (0, r1.1), none], [], (hc, r1.2, o))) K263_5 rfl ⟨by decide, q2, trivial⟩ ?_
    obtain ⟨r2, q3, e⟩ := zB_s e
    refine zF_blk (m := []) (d := 0) (b := B263_2) (gs := [¬ 3 = 0]) (c' := (17, [some (22, 0), some (0, r1.1), none], [(0, 6), (0, 1), (0, (wdiv r1.1 3))], (hc, r1.2, o))) K263_2 rfl ⟨by decide, trivial⟩ ?_
    refine zF_call (k := 188) (cl := 12) (n := 3) (i := .invokestatic 151) (args := [(0, (wdiv r1.1 3)), (0, 1), (0, 6)]) (rest := []) (g1 := (hc, r1.2, o)) (r1 := some (0, r2)) (by decide +kernel) rfl rfl rfl (st' := [(0, r2)]) rfl (S188 (Nat.le_trans (by decide) hd) (wdiv r1.1 3) 1 6 r1.2 _ q3) ?_
    rcases zI_s e with ⟨q4, e⟩ | ⟨q4, e⟩
    · refine zF_blk (m := []) (d := 1) (b := B263_4) (gs := [¬ r2 = 0]) (c' := (25, [some (22, 0), some (0, r1.1), none], [], (hc, r1.2, o))) K263_4 rfl ⟨q4, trivial⟩ ?_
      refine zF_blk (m := []) (d := 0) (b := B263_3) (gs := []) (c' := (27, [some (22, 0), some (0, r1.1), some (0, 0)], [], (hc, r1.2, o))) K263_3 rfl trivial ?_
      exact T263_0 hd zFu r1.1 0 r1.2 _ e
    · refine zF_blk (m := []) (d := 0) (b := B263_4) (gs := [¬ (¬ r2 = 0)]) (c' := (23, [some (22, 0), some (0, r1.1), none], [], (hc, r1.2, o))) K263_4 rfl ⟨q4, trivial⟩ ?_
      refine zF_blk (m := []) (d := 0) (b := B263_1) (gs := []) (c' := (24, [some (22, 0), some (0, r1.1), none], [(0, 0)], (hc, r1.2, o))) K263_1 rfl trivial ?_
      exact zF_rbM (by decide +kernel) (Or.inl rfl) e
