/-! Functions of the methods, by wip/gen/lift.py. -/
def B254_0 : List zRow := [(0, .aload_n 0, 1, (0, 0, 0)), (1, .iconst 0, 1, (0, 0, 0)), (2, .putfield 81, 3, (12, 0, 0)), (5, .iload_n 1, 1, (0, 0, 0)), (6, .iconst 1, 1, (0, 0, 0)), (7, .bipush 100, 2, (0, 0, 0))]
theorem K254_0 : zRk 254 B254_0 = true := by decide +kernel
def B254_1 : List zRow := [(17, .aload_n 0, 1, (0, 0, 0))]
theorem K254_1 : zRk 254 B254_1 = true := by decide +kernel
def B254_2 : List zRow := [(21, .aload_n 0, 1, (0, 0, 0)), (22, .getfield 13, 3, (12, 14, 5251442)), (25, .sipush 997, 3, (0, 0, 0)), (28, .iaload, 1, (0, 0, 0)), (29, .istore_n 2, 1, (0, 0, 0)), (30, .aload_n 0, 1, (0, 0, 0)), (31, .iload_n 1, 1, (0, 0, 0))]
theorem K254_2 : zRk 254 B254_2 = true := by decide +kernel
def B254_3 : List zRow := [(65, .iconst (-1), 1, (0, 0, 0))]
theorem K254_3 : zRk 254 B254_3 = true := by decide +kernel
def B254_4 : List zRow := [(48, .aload_n 0, 1, (0, 0, 0)), (49, .getfield 13, 3, (12, 14, 5251442)), (52, .sipush 998, 3, (0, 0, 0)), (55, .iconst 5, 1, (0, 0, 0)), (56, .iload_n 2, 1, (0, 0, 0))]
theorem K254_4 : zRk 254 B254_4 = true := by decide +kernel
def B254_5 : List zRow := [(57, .imul, 1, (0, 0, 0))]
theorem K254_5 : zRk 254 B254_5 = true := by decide +kernel
def B254_6 : List zRow := [(58, .iadd, 1, (0, 0, 0)), (59, .iconst 2, 1, (0, 0, 0)), (60, .iadd, 1, (0, 0, 0)), (61, .iaload, 1, (0, 0, 0)), (62, .goto 4, 3, (0, 0, 0))]
theorem K254_6 : zRk 254 B254_6 = true := by decide +kernel
def B254_7 : List zRow := [(35, .pop, 1, (0, 0, 0)), (36, .aload_n 0, 1, (0, 0, 0)), (37, .getfield 13, 3, (12, 14, 5251442)), (40, .sipush 997, 3, (0, 0, 0)), (43, .iaload, 1, (0, 0, 0)), (44, .iload_n 2, 1, (0, 0, 0)), (45, .if_icmp .le 20, 3, (0, 0, 0))]
theorem K254_7 : zRk 254 B254_7 = true := by decide +kernel
def B254_8 : List zRow := [(15, .iconst (-1), 1, (0, 0, 0))]
theorem K254_8 : zRk 254 B254_8 = true := by decide +kernel
def B254_9 : List zRow := [(12, .ifCond .ne 5, 3, (0, 0, 0))]
theorem K254_9 : zRk 254 B254_9 = true := by decide +kernel
def B254_10 : List zRow := [(66, .istore_n 3, 1, (0, 0, 0)), (67, .aload_n 0, 1, (0, 0, 0))]
theorem K254_10 : zRk 254 B254_10 = true := by decide +kernel
def B254_11 : List zRow := [(71, .iload_n 3, 1, (0, 0, 0))]
theorem K254_11 : zRk 254 B254_11 = true := by decide +kernel
def F254_0 (s0 : Int) (h : zHM) : Option (Int × zHM) := (F245 h).bind fun r1 => some (s0, r1)
set_option maxRecDepth 100000 in
theorem T254_0 {spec : zRn zH2} {hc : zHC} {o : Int → Int} {d : Nat} (hd : 6 ≤ d) (s0 : Int) (h : zHM) (v : (Int × zHM)) (e : F254_0 s0 h = some v) : zFin 0 (fun _ => 0) (zRu2 spec d) 254 (some (0, v.1)) (hc, v.2, o) (66, [some (22, 0), none, none, none], [(0, s0)], (hc, h, o)) := by
  unfold F254_0 at e
  obtain ⟨r1, q1, e⟩ := zB_s e
  refine zF_blk (m := []) (d := 0) (b := B254_10) (gs := []) (c' := (68, [some (22, 0), none, none, some (0, s0)], [(22, 0)], (hc, h, o))) K254_10 rfl trivial ?_
  refine zF_call (k := 245) (cl := 12) (n := 1) (i := .invokevirtual 320) (args := [(22, 0)]) (rest := []) (g1 := (hc, r1, o)) (r1 := none) (by decide +kernel) rfl rfl rfl (st' := []) rfl (S245 (Nat.le_trans (by decide) hd)  h _ q1) ?_
  refine zF_blk (m := []) (d := 0) (b := B254_11) (gs := []) (c' := (72, [some (22, 0), none, none, some (0, s0)], [(0, s0)], (hc, r1, o))) K254_11 rfl trivial ?_
  exact zF_riM (by decide +kernel) e
/-- EchoValeModel.next(I)I -/
def F254 (v1 : Int) (h : zHM) : Option (Int × zHM) := (F188 v1 1 100).bind fun r1 => if ¬ r1 = 0 then (F244 (mset h 0 0 0)).bind fun r2 => (F235 v1 r2).bind fun r3 => if (r3.2 14 997) ≤ (r2 14 997) then F254_0 (-1) r3.2 else zG (0 ≤ (wadd (wadd 998 (wmul 5 (r2 14 997))) 2) ∧ (wadd (wadd 998 (wmul 5 (r2 14 997))) 2) < 2140) (F254_0 (r3.2 14 (wadd (wadd 998 (wmul 5 (r2 14 997))) 2)) r3.2) else some ((-1), (mset h 0 0 0))
set_option maxRecDepth 100000 in
theorem S254 {spec : zRn zH2} {hc : zHC} {o : Int → Int} {d : Nat} (hd : 7 ≤ d) (v1 : Int) (h : zHM) (v : (Int × zHM)) (e : F254 v1 h = some v) : zRu2 spec d 254 [(22, 0), (0, v1)] (hc, h, o) (some (0, v.1)) (hc, v.2, o) := by
  refine zF_in (D := 6) (mx := 4) (L := [some (22, 0), some (0, v1), none, none]) (by decide +kernel) rfl rfl hd (fun d hd => ?_)
  unfold F254 at e
  obtain ⟨r1, q1, e⟩ := zB_s e
  refine zF_blk (m := []) (d := 0) (b := B254_0) (gs := []) (c' := (9, [some (22, 0), some (0, v1), none, none], [(0, 100), (0, 1), (0, v1)], (hc, (mset h 0 0 0), o))) K254_0 rfl trivial ?_
  refine zF_call (k := 188) (cl := 12) (n := 3) (i := .invokestatic 151) (args := [(0, v1), (0, 1), (0, 100)]) (rest := []) (g1 := (hc, (mset h 0 0 0), o)) (r1 := some (0, r1)) (by decide +kernel) rfl rfl rfl (st' := [(0, r1)]) rfl (S188 (Nat.le_trans (by decide) hd) v1 1 100 (mset h 0 0 0) _ q1) ?_
  rcases zI_s e with ⟨q2, e⟩ | ⟨q2, e⟩
  · refine zF_blk (m := []) (d := 1) (b := B254_9) (gs := [¬ r1 = 0]) (c' := (17, [some (22, 0), some (0, v1), none, none], [], (hc, (mset h 0 0 0), o))) K254_9 rfl ⟨q2, trivial⟩ ?_
    obtain ⟨r2, q3, e⟩ := zB_s e
    refine zF_blk (m := []) (d := 0) (b := B254_1) (gs := []) (c' := (18, [some (22, 0), some (0, v1), none, none], [(22, 0)], (hc, (mset h 0 0 0), o))) K254_1 rfl trivial ?_
    refine zF_call (k := 244) (cl := 12) (n := 1) (i := .invokevirtual 317) (args := [(22, 0)]) (rest := []) (g1 := (hc, r2, o)) (r1 := none) (by decide +kernel) rfl rfl rfl (st' := []) rfl (S244 (Nat.le_trans (by decide) hd)  (mset h 0 0 0) _ q3) ?_
    obtain ⟨r3, q4, e⟩ := zB_s e
    refine zF_blk (m := []) (d := 0) (b := B254_2) (gs := [0 ≤ 997 ∧ 997 < 2140]) (c' := (32, [some (22, 0), some (0, v1), some (0, (r2 14 997)), none], [(0, v1), (22, 0)], (hc, r2, o))) K254_2 rfl ⟨by decide, trivial⟩ ?_
    refine zF_call (k := 235) (cl := 12) (n := 2) (i := .invokevirtual 314) (args := [(22, 0), (0, v1)]) (rest := []) (g1 := (hc, r3.2, o)) (r1 := some (0, r3.1)) (by decide +kernel) rfl rfl rfl (st' := [(0, r3.1)]) rfl (S235 (Nat.le_trans (by decide) hd) v1 r2 _ q4) ?_
    rcases zI_s e with ⟨q5, e⟩ | ⟨q5, e⟩
    · refine zF_blk (m := []) (d := 1) (b := B254_7) (gs := [0 ≤ 997 ∧ 997 < 2140, (r3.2 14 997) ≤ (r2 14 997)]) (c' := (65, [some (22, 0), some (0, v1), some (0, (r2 14 997)), none], [], (hc, r3.2, o))) K254_7 rfl ⟨by decide, q5, trivial⟩ ?_
      refine zF_blk (m := []) (d := 0) (b := B254_3) (gs := []) (c' := (66, [some (22, 0), some (0, v1), some (0, (r2 14 997)), none], [(0, (-1))], (hc, r3.2, o))) K254_3 rfl trivial ?_
      refine zF_blk (m := [true, false, false, false]) (d := 0) (b := []) (gs := []) (c' := (66, [some (22, 0), none, none, none], [(0, (-1))], (hc, r3.2, o))) rfl rfl trivial ?_
      exact T254_0 hd (-1) r3.2 _ e
    · refine zF_blk (m := []) (d := 0) (b := B254_7) (gs := [0 ≤ 997 ∧ 997 < 2140, ¬ ((r3.2 14 997) ≤ (r2 14 997))]) (c' := (48, [some (22, 0), some (0, v1), some (0, (r2 14 997)), none], [], (hc, r3.2, o))) K254_7 rfl ⟨by decide, q5, trivial⟩ ?_
      obtain ⟨q6, e⟩ := zG_s e
      refine zF_blk (m := []) (d := 0) (b := B254_4) (gs := []) (c' := (57, [some (22, 0), some (0, v1), some (0, (r2 14 997)), none], [(0, (r2 14 997)), (0, 5), (0, 998), (1344370422, 0)], (hc, r3.2, o))) K254_4 rfl trivial ?_
      refine zF_blk (m := []) (d := 0) (b := B254_5) (gs := []) (c' := (58, [some (22, 0), some (0, v1), some (0, (r2 14 997)), none], [(0, (wmul 5 (r2 14 997))), (0, 998), (1344370422, 0)], (hc, r3.2, o))) K254_5 rfl trivial ?_
      refine zF_blk (m := []) (d := 0) (b := B254_6) (gs := [0 ≤ (wadd (wadd 998 (wmul 5 (r2 14 997))) 2) ∧ (wadd (wadd 998 (wmul 5 (r2 14 997))) 2) < 2140]) (c' := (66, [some (22, 0), some (0, v1), some (0, (r2 14 997)), none], [(0, (r3.2 14 (wadd (wadd 998 (wmul 5 (r2 14 997))) 2)))], (hc, r3.2, o))) K254_6 rfl ⟨q6, trivial⟩ ?_
      refine zF_blk (m := [true, false, false, false]) (d := 0) (b := []) (gs := []) (c' := (66, [some (22, 0), none, none, none], [(0, (r3.2 14 (wadd (wadd 998 (wmul 5 (r2 14 997))) 2)))], (hc, r3.2, o))) rfl rfl trivial ?_
      exact T254_0 hd (r3.2 14 (wadd (wadd 998 (wmul 5 (r2 14 997))) 2)) r3.2 _ e
  · refine zF_blk (m := []) (d := 0) (b := B254_9) (gs := [¬ (¬ r1 = 0)]) (c' := (15, [some (22, 0), some (0, v1), none, none], [], (hc, (mset h 0 0 0), o))) K254_9 rfl ⟨q2, trivial⟩ ?_
    refine zF_blk (m := []) (d := 0) (b := B254_8) (gs := []) (c' := (16, [some (22, 0), some (0, v1), none, none], [(0, (-1))], (hc, (mset h 0 0 0), o))) K254_8 rfl trivial ?_
    exact zF_riM (by decide +kernel) e
def B114_0 : List zRow := [(0, .aload_n 0, 1, (0, 0, 0)), (1, .iload_n 1, 1, (0, 0, 0))]
theorem K114_0 : zRk 114 B114_0 = true := by decide +kernel
def B114_1 : List zRow := [(15, .iconst (-1), 1, (0, 0, 0))]
theorem K114_1 : zRk 114 B114_1 = true := by decide +kernel
def B114_2 : List zRow := [(8, .iload_n 2, 1, (0, 0, 0))]
theorem K114_2 : zRk 114 B114_2 = true := by decide +kernel
def B114_3 : List zRow := [(17, .aload_n 0, 1, (0, 0, 0)), (18, .getfield 60, 3, (11, 7, 135)), (21, .aload_n 0, 1, (0, 0, 0)), (22, .getfield 56, 3, (11, 6, 7))]
theorem K114_3 : zRk 114 B114_3 = true := by decide +kernel
def B114_4 : List zRow := [(28, .aload_n 0, 1, (0, 0, 0)), (29, .getfield 60, 3, (11, 7, 135)), (32, .aload_n 0, 1, (0, 0, 0)), (33, .getfield 19, 3, (11, 1, 39)), (36, .iload_n 2, 1, (0, 0, 0))]
theorem K114_4 : zRk 114 B114_4 = true := by decide +kernel
def B114_5 : List zRow := [(40, .pop, 1, (0, 0, 0)), (41, .aload_n 0, 1, (0, 0, 0)), (42, .getfield 60, 3, (11, 7, 135)), (45, .iload_n 1, 1, (0, 0, 0)), (46, .iconst 5, 1, (0, 0, 0))]
theorem K114_5 : zRk 114 B114_5 = true := by decide +kernel
def B114_6 : List zRow := [(12, .ifCond .ne 5, 3, (0, 0, 0))]
theorem K114_6 : zRk 114 B114_6 = true := by decide +kernel
def B114_7 : List zRow := [(5, .ifCond .eq 10, 3, (0, 0, 0))]
theorem K114_7 : zRk 114 B114_7 = true := by decide +kernel
/-- EchoVale.heirs(II)I -/
def F114 (v1 : Int) (v2 : Int) (h : zHC) : Option (Int × zHC) := (F58 v1 h).bind fun r1 => if r1 = 0 then some ((-1), h) else (F99 v2).bind fun r2 => if ¬ r2 = 0 then (F71 1 0 h).bind fun r3 => (F88 1 0 v2 r3).bind fun r4 => (F63 1 v1 5 r4.2).bind fun r5 => some (r5, r4.2) else some ((-1), h)
set_option maxRecDepth 100000 in
theorem S114 {spec : zRn zH2} {hm : zHM} {o : Int → Int} {d : Nat} (hd : 7 ≤ d) (v1 : Int) (v2 : Int) (h : zHC) (v : (Int × zHC)) (e : F114 v1 v2 h = some v) : zRu2 spec d 114 [(21, 0), (0, v1), (0, v2)] (h, hm, o) (some (0, v.1)) (v.2, hm, o) := by
  refine zF_in (D := 6) (mx := 3) (L := [some (21, 0), some (0, v1), some (0, v2)]) (by decide +kernel) rfl rfl hd (fun d hd => ?_)
  unfold F114 at e
  obtain ⟨r1, q1, e⟩ := zB_s e
  refine zF_blk (m := []) (d := 0) (b := B114_0) (gs := []) (c' := (2, [some (21, 0), some (0, v1), some (0, v2)], [(0, v1), (21, 0)], (h, hm, o))) K114_0 rfl trivial ?_
  refine zF_call (k := 58) (cl := 11) (n := 2) (i := .invokevirtual 191) (args := [(21, 0), (0, v1)]) (rest := []) (g1 := (h, hm, o)) (r1 := some (0, r1)) (by decide +kernel) rfl rfl rfl (st' := [(0, r1)]) rfl (S58 (Nat.le_trans (by decide) hd) v1 h _ q1) ?_
  rcases zI_s e with ⟨q2, e⟩ | ⟨q2, e⟩
  · refine zF_blk (m := []) (d := 1) (b := B114_7) (gs := [r1 = 0]) (c' := (15, [some (21, 0), some (0, v1), some (0, v2)], [], (h, hm, o))) K114_7 rfl ⟨q2, trivial⟩ ?_
    refine zF_blk (m := []) (d := 0) (b := B114_1) (gs := []) (c' := (16, [some (21, 0), some (0, v1), some (0, v2)], [(0, (-1))], (h, hm, o))) K114_1 rfl trivial ?_
    exact zF_riC (by decide +kernel) e
  · refine zF_blk (m := []) (d := 0) (b := B114_7) (gs := [¬ (r1 = 0)]) (c' := (8, [some (21, 0), some (0, v1), some (0, v2)], [], (h, hm, o))) K114_7 rfl ⟨q2, trivial⟩ ?_
    obtain ⟨r2, q3, e⟩ := zB_s e
    refine zF_blk (m := []) (d := 0) (b := B114_2) (gs := []) (c' := (9, [some (21, 0), some (0, v1), some (0, v2)], [(0, v2)], (h, hm, o))) K114_2 rfl trivial ?_
    refine zF_call (k := 99) (cl := 11) (n := 1) (i := .invokestatic 242) (args := [(0, v2)]) (rest := []) (g1 := (h, hm, o)) (r1 := some (0, r2)) (by decide +kernel) rfl rfl rfl (st' := [(0, r2)]) rfl (S99 (Nat.le_trans (by decide) hd) v2 h _ q3) ?_
    rcases zI_s e with ⟨q4, e⟩ | ⟨q4, e⟩
    · refine zF_blk (m := []) (d := 1) (b := B114_6) (gs := [¬ r2 = 0]) (c' := (17, [some (21, 0), some (0, v1), some (0, v2)], [], (h, hm, o))) K114_6 rfl ⟨q4, trivial⟩ ?_
      obtain ⟨r3, q5, e⟩ := zB_s e
      refine zF_blk (m := []) (d := 0) (b := B114_3) (gs := []) (c' := (25, [some (21, 0), some (0, v1), some (0, v2)], [(11, 0), (11, 1)], (h, hm, o))) K114_3 rfl trivial ?_
      refine zF_call (k := 71) (cl := 1) (n := 2) (i := .invokevirtual 266) (args := [(11, 1), (11, 0)]) (rest := []) (g1 := (r3, hm, o)) (r1 := none) (by decide +kernel) rfl rfl rfl (st' := []) rfl (S71 (Nat.le_trans (by decide) hd) 1 0 h _ q5) ?_
      obtain ⟨r4, q6, e⟩ := zB_s e
      refine zF_blk (m := []) (d := 0) (b := B114_4) (gs := []) (c' := (37, [some (21, 0), some (0, v1), some (0, v2)], [(0, v2), (19, 0), (11, 1)], (r3, hm, o))) K114_4 rfl trivial ?_
      refine zF_call (k := 88) (cl := 1) (n := 3) (i := .invokevirtual 231) (args := [(11, 1), (19, 0), (0, v2)]) (rest := []) (g1 := (r4.2, hm, o)) (r1 := some (0, r4.1)) (by decide +kernel) rfl rfl rfl (st' := [(0, r4.1)]) rfl (S88 (Nat.le_trans (by decide) hd) 1 0 v2 r3 _ q6) ?_
      obtain ⟨r5, q7, e⟩ := zB_s e
      refine zF_blk (m := []) (d := 0) (b := B114_5) (gs := []) (c' := (47, [some (21, 0), some (0, v1), some (0, v2)], [(0, 5), (0, v1), (11, 1)], (r4.2, hm, o))) K114_5 rfl trivial ?_
      refine zF_call (k := 63) (cl := 1) (n := 3) (i := .invokevirtual 196) (args := [(11, 1), (0, v1), (0, 5)]) (rest := []) (g1 := (r4.2, hm, o)) (r1 := some (0, r5)) (by decide +kernel) rfl rfl rfl (st' := [(0, r5)]) rfl (S63 (Nat.le_trans (by decide) hd) 1 v1 5 r4.2 _ q7) ?_
      exact zF_riC (by decide +kernel) e
    · refine zF_blk (m := []) (d := 0) (b := B114_6) (gs := [¬ (¬ r2 = 0)]) (c' := (15, [some (21, 0), some (0, v1), some (0, v2)], [], (h, hm, o))) K114_6 rfl ⟨q4, trivial⟩ ?_
      refine zF_blk (m := []) (d := 0) (b := B114_1) (gs := []) (c' := (16, [some (21, 0), some (0, v1), some (0, v2)], [(0, (-1))], (h, hm, o))) K114_1 rfl trivial ?_
      exact zF_riC (by decide +kernel) e
def B255_0 : List zRow := [(0, .aload_n 0, 1, (0, 0, 0)), (1, .iconst 0, 1, (0, 0, 0)), (2, .putfield 81, 3, (12, 0, 0)), (5, .aload_n 0, 1, (0, 0, 0)), (6, .iload_n 1, 1, (0, 0, 0))]
theorem K255_0 : zRk 255 B255_0 = true := by decide +kernel
def B255_1 : List zRow := [(20, .iconst (-1), 1, (0, 0, 0))]
theorem K255_1 : zRk 255 B255_1 = true := by decide +kernel
def B255_2 : List zRow := [(13, .iload_n 2, 1, (0, 0, 0))]
theorem K255_2 : zRk 255 B255_2 = true := by decide +kernel
def B255_3 : List zRow := [(22, .aload_n 0, 1, (0, 0, 0))]
theorem K255_3 : zRk 255 B255_3 = true := by decide +kernel
def B255_4 : List zRow := [(26, .aload_n 0, 1, (0, 0, 0)), (27, .iload_n 2, 1, (0, 0, 0))]
theorem K255_4 : zRk 255 B255_4 = true := by decide +kernel
def B255_5 : List zRow := [(31, .pop, 1, (0, 0, 0)), (32, .aload_n 0, 1, (0, 0, 0)), (33, .iload_n 1, 1, (0, 0, 0)), (34, .iconst 5, 1, (0, 0, 0))]
theorem K255_5 : zRk 255 B255_5 = true := by decide +kernel
def B255_6 : List zRow := [(38, .istore_n 3, 1, (0, 0, 0)), (39, .aload_n 0, 1, (0, 0, 0))]
theorem K255_6 : zRk 255 B255_6 = true := by decide +kernel
def B255_7 : List zRow := [(43, .iload_n 3, 1, (0, 0, 0))]
theorem K255_7 : zRk 255 B255_7 = true := by decide +kernel
def B255_8 : List zRow := [(17, .ifCond .ne 5, 3, (0, 0, 0))]
theorem K255_8 : zRk 255 B255_8 = true := by decide +kernel
def B255_9 : List zRow := [(10, .ifCond .eq 10, 3, (0, 0, 0))]
theorem K255_9 : zRk 255 B255_9 = true := by decide +kernel
/-- EchoValeModel.heirs(II)I -/
def F255 (v1 : Int) (v2 : Int) (h : zHM) : Option (Int × zHM) := (F217 v1 (mset h 0 0 0)).bind fun r1 => if r1 = 0 then some ((-1), (mset h 0 0 0)) else (F242 v2).bind fun r2 => if ¬ r2 = 0 then (F244 (mset h 0 0 0)).bind fun r3 => (F235 v2 r3).bind fun r4 => (F213 v1 5 r4.2).bind fun r5 => (F245 r4.2).bind fun r6 => some (r5, r6) else some ((-1), (mset h 0 0 0))
set_option maxRecDepth 100000 in
theorem S255 {spec : zRn zH2} {hc : zHC} {o : Int → Int} {d : Nat} (hd : 7 ≤ d) (v1 : Int) (v2 : Int) (h : zHM) (v : (Int × zHM)) (e : F255 v1 v2 h = some v) : zRu2 spec d 255 [(22, 0), (0, v1), (0, v2)] (hc, h, o) (some (0, v.1)) (hc, v.2, o) := by
  refine zF_in (D := 6) (mx := 4) (L := [some (22, 0), some (0, v1), some (0, v2), none]) (by decide +kernel) rfl rfl hd (fun d hd => ?_)
  unfold F255 at e
  obtain ⟨r1, q1, e⟩ := zB_s e
  refine zF_blk (m := []) (d := 0) (b := B255_0) (gs := []) (c' := (7, [some (22, 0), some (0, v1), some (0, v2), none], [(0, v1), (22, 0)], (hc, (mset h 0 0 0), o))) K255_0 rfl trivial ?_
  refine zF_call (k := 217) (cl := 12) (n := 2) (i := .invokevirtual 266) (args := [(22, 0), (0, v1)]) (rest := []) (g1 := (hc, (mset h 0 0 0), o)) (r1 := some (0, r1)) (by decide +kernel) rfl rfl rfl (st' := [(0, r1)]) rfl (S217 (Nat.le_trans (by decide) hd) v1 (mset h 0 0 0) _ q1) ?_
  rcases zI_s e with ⟨q2, e⟩ | ⟨q2, e⟩
  · refine zF_blk (m := []) (d := 1) (b := B255_9) (gs := [r1 = 0]) (c' := (20, [some (22, 0), some (0, v1), some (0, v2), none], [], (hc, (mset h 0 0 0), o))) K255_9 rfl ⟨q2, trivial⟩ ?_
    refine zF_blk (m := []) (d := 0) (b := B255_1) (gs := []) (c' := (21, [some (22, 0), some (0, v1), some (0, v2), none], [(0, (-1))], (hc, (mset h 0 0 0), o))) K255_1 rfl trivial ?_
    exact zF_riM (by decide +kernel) e
  · refine zF_blk (m := []) (d := 0) (b := B255_9) (gs := [¬ (r1 = 0)]) (c' := (13, [some (22, 0), some (0, v1), some (0, v2), none], [], (hc, (mset h 0 0 0), o))) K255_9 rfl ⟨q2, trivial⟩ ?_
    obtain ⟨r2, q3, e⟩ := zB_s e
    refine zF_blk (m := []) (d := 0) (b := B255_2) (gs := []) (c' := (14, [some (22, 0), some (0, v1), some (0, v2), none], [(0, v2)], (hc, (mset h 0 0 0), o))) K255_2 rfl trivial ?_
    refine zF_call (k := 242) (cl := 12) (n := 1) (i := .invokestatic 323) (args := [(0, v2)]) (rest := []) (g1 := (hc, (mset h 0 0 0), o)) (r1 := some (0, r2)) (by decide +kernel) rfl rfl rfl (st' := [(0, r2)]) rfl (S242 (Nat.le_trans (by decide) hd) v2 (mset h 0 0 0) _ q3) ?_
    rcases zI_s e with ⟨q4, e⟩ | ⟨q4, e⟩
    · refine zF_blk (m := []) (d := 1) (b := B255_8) (gs := [¬ r2 = 0]) (c' := (22, [some (22, 0), some (0, v1), some (0, v2), none], [], (hc, (mset h 0 0 0), o))) K255_8 rfl ⟨q4, trivial⟩ ?_
      obtain ⟨r3, q5, e⟩ := zB_s e
      refine zF_blk (m := []) (d := 0) (b := B255_3) (gs := []) (c' := (23, [some (22, 0), some (0, v1), some (0, v2), none], [(22, 0)], (hc, (mset h 0 0 0), o))) K255_3 rfl trivial ?_
      refine zF_call (k := 244) (cl := 12) (n := 1) (i := .invokevirtual 317) (args := [(22, 0)]) (rest := []) (g1 := (hc, r3, o)) (r1 := none) (by decide +kernel) rfl rfl rfl (st' := []) rfl (S244 (Nat.le_trans (by decide) hd)  (mset h 0 0 0) _ q5) ?_
      obtain ⟨r4, q6, e⟩ := zB_s e
      refine zF_blk (m := []) (d := 0) (b := B255_4) (gs := []) (c' := (28, [some (22, 0), some (0, v1), some (0, v2), none], [(0, v2), (22, 0)], (hc, r3, o))) K255_4 rfl trivial ?_
      refine zF_call (k := 235) (cl := 12) (n := 2) (i := .invokevirtual 314) (args := [(22, 0), (0, v2)]) (rest := []) (g1 := (hc, r4.2, o)) (r1 := some (0, r4.1)) (by decide +kernel) rfl rfl rfl (st' := [(0, r4.1)]) rfl (S235 (Nat.le_trans (by decide) hd) v2 r3 _ q6) ?_
      obtain ⟨r5, q7, e⟩ := zB_s e
      refine zF_blk (m := []) (d := 0) (b := B255_5) (gs := []) (c' := (35, [some (22, 0), some (0, v1), some (0, v2), none], [(0, 5), (0, v1), (22, 0)], (hc, r4.2, o))) K255_5 rfl trivial ?_
      refine zF_call (k := 213) (cl := 12) (n := 3) (i := .invokevirtual 247) (args := [(22, 0), (0, v1), (0, 5)]) (rest := []) (g1 := (hc, r4.2, o)) (r1 := some (0, r5)) (by decide +kernel) rfl rfl rfl (st' := [(0, r5)]) rfl (S213 (Nat.le_trans (by decide) hd) v1 5 r4.2 _ q7) ?_
      obtain ⟨r6, q8, e⟩ := zB_s e
      refine zF_blk (m := []) (d := 0) (b := B255_6) (gs := []) (c' := (40, [some (22, 0), some (0, v1), some (0, v2), some (0, r5)], [(22, 0)], (hc, r4.2, o))) K255_6 rfl trivial ?_
      refine zF_call (k := 245) (cl := 12) (n := 1) (i := .invokevirtual 320) (args := [(22, 0)]) (rest := []) (g1 := (hc, r6, o)) (r1 := none) (by decide +kernel) rfl rfl rfl (st' := []) rfl (S245 (Nat.le_trans (by decide) hd)  r4.2 _ q8) ?_
      refine zF_blk (m := []) (d := 0) (b := B255_7) (gs := []) (c' := (44, [some (22, 0), some (0, v1), some (0, v2), some (0, r5)], [(0, r5)], (hc, r6, o))) K255_7 rfl trivial ?_
      exact zF_riM (by decide +kernel) e
    · refine zF_blk (m := []) (d := 0) (b := B255_8) (gs := [¬ (¬ r2 = 0)]) (c' := (20, [some (22, 0), some (0, v1), some (0, v2), none], [], (hc, (mset h 0 0 0), o))) K255_8 rfl ⟨q4, trivial⟩ ?_
      refine zF_blk (m := []) (d := 0) (b := B255_1) (gs := []) (c' := (21, [some (22, 0), some (0, v1), some (0, v2), none], [(0, (-1))], (hc, (mset h 0 0 0), o))) K255_1 rfl trivial ?_
      exact zF_riM (by decide +kernel) e
def B115_0 : List zRow := [(0, .aload_n 0, 1, (0, 0, 0)), (1, .iload_n 1, 1, (0, 0, 0))]
theorem K115_0 : zRk 115 B115_0 = true := by decide +kernel
def B115_1 : List zRow := [(27, .iconst (-1), 1, (0, 0, 0))]
theorem K115_1 : zRk 115 B115_1 = true := by decide +kernel
def B115_2 : List zRow := [(8, .aload_n 0, 1, (0, 0, 0)), (9, .iload_n 2, 1, (0, 0, 0))]
theorem K115_2 : zRk 115 B115_2 = true := by decide +kernel
def B115_3 : List zRow := [(29, .aload_n 0, 1, (0, 0, 0)), (30, .getfield 60, 3, (11, 7, 135)), (33, .aload_n 0, 1, (0, 0, 0)), (34, .getfield 56, 3, (11, 6, 7))]
theorem K115_3 : zRk 115 B115_3 = true := by decide +kernel
def B115_4 : List zRow := [(40, .aload_n 0, 1, (0, 0, 0)), (41, .getfield 60, 3, (11, 7, 135)), (44, .aload_n 0, 1, (0, 0, 0)), (45, .getfield 19, 3, (11, 1, 39)), (48, .iload_n 3, 1, (0, 0, 0))]
theorem K115_4 : zRk 115 B115_4 = true := by decide +kernel
def B115_5 : List zRow := [(52, .pop, 1, (0, 0, 0)), (53, .aload_n 0, 1, (0, 0, 0)), (54, .getfield 56, 3, (11, 6, 7)), (57, .getfield 208, 3, (1, 2, 0)), (60, .istore 4, 2, (0, 0, 0))]
theorem K115_5 : zRk 115 B115_5 = true := by decide +kernel
def B115_6 : List zRow := [(21, .iload_n 3, 1, (0, 0, 0)), (22, .bipush 100, 2, (0, 0, 0)), (24, .if_icmp .le 5, 3, (0, 0, 0))]
theorem K115_6 : zRk 115 B115_6 = true := by decide +kernel
def B115_7 : List zRow := [(16, .iload_n 3, 1, (0, 0, 0)), (17, .iconst 1, 1, (0, 0, 0)), (18, .if_icmp .lt 9, 3, (0, 0, 0))]
theorem K115_7 : zRk 115 B115_7 = true := by decide +kernel
def B115_8 : List zRow := [(13, .ifCond .eq 14, 3, (0, 0, 0))]
theorem K115_8 : zRk 115 B115_8 = true := by decide +kernel
def B115_9 : List zRow := [(5, .ifCond .eq 22, 3, (0, 0, 0))]
theorem K115_9 : zRk 115 B115_9 = true := by decide +kernel
def B115_10 : List zRow := [(122, .iconst (-1), 1, (0, 0, 0))]
theorem K115_10 : zRk 115 B115_10 = true := by decide +kernel
def B115_11 : List zRow := [(74, .aload_n 0, 1, (0, 0, 0)), (75, .getfield 60, 3, (11, 7, 135)), (78, .iload 4, 2, (0, 0, 0)), (80, .iconst 0, 1, (0, 0, 0))]
theorem K115_11 : zRk 115 B115_11 = true := by decide +kernel
def B115_12 : List zRow := [(88, .aload_n 0, 1, (0, 0, 0)), (89, .getfield 60, 3, (11, 7, 135)), (92, .iload 4, 2, (0, 0, 0)), (94, .iconst 4, 1, (0, 0, 0))]
theorem K115_12 : zRk 115 B115_12 = true := by decide +kernel
def B115_13 : List zRow := [(98, .iload_n 1, 1, (0, 0, 0))]
theorem K115_13 : zRk 115 B115_13 = true := by decide +kernel
def B115_14 : List zRow := [(105, .aload_n 0, 1, (0, 0, 0)), (106, .getfield 60, 3, (11, 7, 135)), (109, .iload 4, 2, (0, 0, 0)), (111, .iconst 2, 1, (0, 0, 0))]
theorem K115_14 : zRk 115 B115_14 = true := by decide +kernel
def B115_15 : List zRow := [(102, .ifCond .eq 14, 3, (0, 0, 0))]
theorem K115_15 : zRk 115 B115_15 = true := by decide +kernel
def B115_16 : List zRow := [(84, .iload_n 2, 1, (0, 0, 0)), (85, .if_icmp .ne 31, 3, (0, 0, 0))]
theorem K115_16 : zRk 115 B115_16 = true := by decide +kernel
def B115_17 : List zRow := [(62, .iload 4, 2, (0, 0, 0)), (64, .aload_n 0, 1, (0, 0, 0)), (65, .getfield 60, 3, (11, 7, 135)), (68, .getfield 208, 3, (1, 2, 0)), (71, .if_icmp .ge 51, 3, (0, 0, 0))]
theorem K115_17 : zRk 115 B115_17 = true := by decide +kernel
def B115_18 : List zRow := [(116, .iinc 4 1, 3, (0, 0, 0)), (119, .goto (-57), 3, (0, 0, 0))]
theorem K115_18 : zRk 115 B115_18 = true := by decide +kernel
def F115_1 (k0 : Int → Int → Int → zHC → Option (Int × zHC)) (v1 : Int) (v2 : Int) (v4 : Int) (h : zHC) : Option (Int × zHC) := k0 v1 v2 (wadd v4 1) h
set_option maxRecDepth 100000 in
theorem T115_1 {spec : zRn zH2} {hm : zHM} {o : Int → Int} {d : Nat} (hd : 6 ≤ d) (k0 : Int → Int → Int → zHC → Option (Int × zHC)) (hk0 : ∀ (v1 : Int) (v2 : Int) (v4 : Int) (h : zHC) (v : (Int × zHC)), k0 v1 v2 v4 h = some v → zFin 0 (fun _ => 0) (zRu2 spec d) 115 (some (0, v.1)) (v.2, hm, o) (62, [some (21, 0), some (0, v1), some (0, v2), none, some (0, v4)], [], (h, hm, o))) (v1 : Int) (v2 : Int) (v4 : Int) (h : zHC) (v : (Int × zHC)) (e : F115_1 k0 v1 v2 v4 h = some v) : zFin 0 (fun _ => 0) (zRu2 spec d) 115 (some (0, v.1)) (v.2, hm, o) (116, [some (21, 0), some (0, v1), some (0, v2), none, some (0, v4)], [], (h, hm, o)) := by
  unfold F115_1 at e
  refine zF_blk (m := []) (d := 0) (b := B115_18) (gs := []) (c' := (62, [some (21, 0), some (0, v1), some (0, v2), none, some (0, (wadd v4 1))], [], (h, hm, o))) K115_18 rfl trivial ?_
  exact hk0 v1 v2 (wadd v4 1) h _ e
def F115_0 : Nat → Int → Int → Int → zHC → Option (Int × zHC)
  | 0, _, _, _, _ => none
  | n + 1, v1, v2, v4, h => if (h 66 1 0) ≤ v4 then some ((-1), h) else (F67 1 v4 0 h).bind fun r1 => if ¬ r1 = v2 then F115_1 (F115_0 n) v1 v2 v4 h else (F67 1 v4 4 h).bind fun r2 => (F65 r2 v1).bind fun r3 => if r3 = 0 then F115_1 (F115_0 n) v1 v2 v4 h else (F67 1 v4 2 h).bind fun r4 => some (r4, h)
set_option maxRecDepth 100000 in
theorem T115_0 {spec : zRn zH2} {hm : zHM} {o : Int → Int} {d : Nat} (hd : 6 ≤ d) : ∀ (n : Nat) (v1 : Int) (v2 : Int) (v4 : Int) (h : zHC) (v : (Int × zHC)), F115_0 n v1 v2 v4 h = some v → zFin 0 (fun _ => 0) (zRu2 spec d) 115 (some (0, v.1)) (v.2, hm, o) (62, [some (21, 0), some (0, v1), some (0, v2), none, some (0, v4)], [], (h, hm, o)) := by
  intro n
  induction n with
  | zero => intro v1 v2 v4 h v e; unfold F115_0 at e; cases e
  | succ n hk0 =>
    intro v1 v2 v4 h v e
    unfold F115_0 at e
    rcases zI_s e with ⟨q1, e⟩ | ⟨q1, e⟩
    · refine zF_blk (m := []) (d := 1) (b := B115_17) (gs := [(h 66 1 0) ≤ v4]) (c' := (122, [some (21, 0), some (0, v1), some (0, v2), none, some (0, v4)], [], (h, hm, o))) K115_17 rfl ⟨q1, trivial⟩ ?_
      refine zF_blk (m := []) (d := 0) (b := B115_10) (gs := []) (c' := (123, [some (21, 0), some (0, v1), some (0, v2), none, some (0, v4)], [(0, (-1))], (h, hm, o))) K115_10 rfl trivial ?_
      exact zF_riC (by decide +kernel) e
    · refine zF_blk (m := []) (d := 0) (b := B115_17) (gs := [¬ ((h 66 1 0) ≤ v4)]) (c' := (74, [some (21, 0), some (0, v1), some (0, v2), none, some (0, v4)], [], (h, hm, o))) K115_17 rfl ⟨q1, trivial⟩ ?_
      obtain ⟨r1, q2, e⟩ := zB_s e
      refine zF_blk (m := []) (d := 0) (b := B115_11) (gs := []) (c' := (81, [some (21, 0), some (0, v1), some (0, v2), none, some (0, v4)], [(0, 0), (0, v4), (11, 1)], (h, hm, o))) K115_11 rfl trivial ?_
      refine zF_call (k := 67) (cl := 1) (n := 3) (i := .invokevirtual 211) (args := [(11, 1), (0, v4), (0, 0)]) (rest := []) (g1 := (h, hm, o)) (r1 := some (0, r1)) (by decide +kernel) rfl rfl rfl (st' := [(0, r1)]) rfl (S67 (Nat.le_trans (by decide) hd) 1 v4 0 h _ q2) ?_
      rcases zI_s e with ⟨q3, e⟩ | ⟨q3, e⟩
      · refine zF_blk (m := []) (d := 1) (b := B115_16) (gs := [¬ r1 = v2]) (c' := (116, [some (21, 0), some (0, v1), some (0, v2), none, some (0, v4)], [], (h, hm, o))) K115_16 rfl ⟨q3, trivial⟩ ?_
        exact T115_1 hd (F115_0 n) hk0 v1 v2 v4 h _ e
      · refine zF_blk (m := []) (d := 0) (b := B115_16) (gs := [¬ (¬ r1 = v2)]) (c' := (88, [some (21, 0), some (0, v1), some (0, v2), none, some (0, v4)], [], (h, hm, o))) K115_16 rfl ⟨q3, trivial⟩ ?_
        obtain ⟨r2, q4, e⟩ := zB_s e
        refine zF_blk (m := []) (d := 0) (b := B115_12) (gs := []) (c' := (95, [some (21, 0), some (0, v1), some (0, v2), none, some (0, v4)], [(0, 4), (0, v4), (11, 1)], (h, hm, o))) K115_12 rfl trivial ?_
        refine zF_call (k := 67) (cl := 1) (n := 3) (i := .invokevirtual 211) (args := [(11, 1), (0, v4), (0, 4)]) (rest := []) (g1 := (h, hm, o)) (r1 := some (0, r2)) (by decide +kernel) rfl rfl rfl (st' := [(0, r2)]) rfl (S67 (Nat.le_trans (by decide) hd) 1 v4 4 h _ q4) ?_
        obtain ⟨r3, q5, e⟩ := zB_s e
        refine zF_blk (m := []) (d := 0) (b := B115_13) (gs := []) (c' := (99, [some (21, 0), some (0, v1), some (0, v2), none, some (0, v4)], [(0, v1), (0, r2)], (h, hm, o))) K115_13 rfl trivial ?_
        refine zF_call (k := 65) (cl := 11) (n := 2) (i := .invokestatic 272) (args := [(0, r2), (0, v1)]) (rest := []) (g1 := (h, hm, o)) (r1 := some (0, r3)) (by decide +kernel) rfl rfl rfl (st' := [(0, r3)]) rfl (S65 (Nat.le_trans (by decide) hd) r2 v1 h _ q5) ?_
        rcases zI_s e with ⟨q6, e⟩ | ⟨q6, e⟩
        · refine zF_blk (m := []) (d := 1) (b := B115_15) (gs := [r3 = 0]) (c' := (116, [some (21, 0), some (0, v1), some (0, v2), none, some (0, v4)], [], (h, hm, o))) K115_15 rfl ⟨q6, trivial⟩ ?_
          exact T115_1 hd (F115_0 n) hk0 v1 v2 v4 h _ e
        · refine zF_blk (m := []) (d := 0) (b := B115_15) (gs := [¬ (r3 = 0)]) (c' := (105, [some (21, 0), some (0, v1), some (0, v2), none, some (0, v4)], [], (h, hm, o))) K115_15 rfl ⟨q6, trivial⟩ ?_
          obtain ⟨r4, q7, e⟩ := zB_s e
          refine zF_blk (m := []) (d := 0) (b := B115_14) (gs := []) (c' := (112, [some (21, 0), some (0, v1), some (0, v2), none, some (0, v4)], [(0, 2), (0, v4), (11, 1)], (h, hm, o))) K115_14 rfl trivial ?_
          refine zF_call (k := 67) (cl := 1) (n := 3) (i := .invokevirtual 211) (args := [(11, 1), (0, v4), (0, 2)]) (rest := []) (g1 := (h, hm, o)) (r1 := some (0, r4)) (by decide +kernel) rfl rfl rfl (st' := [(0, r4)]) rfl (S67 (Nat.le_trans (by decide) hd) 1 v4 2 h _ q7) ?_
          exact zF_riC (by decide +kernel) e
/-- EchoVale.when(III)I -/
def F115 (v1 : Int) (v2 : Int) (v3 : Int) (h : zHC) : Option (Int × zHC) := (F61 v1 h).bind fun r1 => if r1 = 0 then some ((-1), h) else (F58 v2 h).bind fun r2 => if r2 = 0 then some ((-1), h) else if v3 < 1 then some ((-1), h) else if v3 ≤ 100 then (F71 1 0 h).bind fun r3 => (F88 1 0 v3 r3).bind fun r4 => F115_0 zFu v1 v2 (r4.2 66 0 0) r4.2 else some ((-1), h)
set_option maxRecDepth 100000 in
theorem S115 {spec : zRn zH2} {hm : zHM} {o : Int → Int} {d : Nat} (hd : 7 ≤ d) (v1 : Int) (v2 : Int) (v3 : Int) (h : zHC) (v : (Int × zHC)) (e : F115 v1 v2 v3 h = some v) : zRu2 spec d 115 [(21, 0), (0, v1), (0, v2), (0, v3)] (h, hm, o) (some (0, v.1)) (v.2, hm, o) := by
  refine zF_in (D := 6) (mx := 5) (L := [some (21, 0), some (0, v1), some (0, v2), some (0, v3), none]) (by decide +kernel) rfl rfl hd (fun d hd => ?_)
  unfold F115 at e
  obtain ⟨r1, q1, e⟩ := zB_s e
  refine zF_blk (m := []) (d := 0) (b := B115_0) (gs := []) (c' := (2, [some (21, 0), some (0, v1), some (0, v2), some (0, v3), none], [(0, v1), (21, 0)], (h, hm, o))) K115_0 rfl trivial ?_
  refine zF_call (k := 61) (cl := 11) (n := 2) (i := .invokevirtual 172) (args := [(21, 0), (0, v1)]) (rest := []) (g1 := (h, hm, o)) (r1 := some (0, r1)) (by decide +kernel) rfl rfl rfl (st' := [(0, r1)]) rfl (S61 (Nat.le_trans (by decide) hd) v1 h _ q1) ?_
  rcases zI_s e with ⟨q2, e⟩ | ⟨q2, e⟩
  · refine zF_blk (m := []) (d := 1) (b := B115_9) (gs := [r1 = 0]) (c' := (27, [some (21, 0), some (0, v1), some (0, v2), some (0, v3), none], [], (h, hm, o))) K115_9 rfl ⟨q2, trivial⟩ ?_
    refine zF_blk (m := []) (d := 0) (b := B115_1) (gs := []) (c' := (28, [some (21, 0), some (0, v1), some (0, v2), some (0, v3), none], [(0, (-1))], (h, hm, o))) K115_1 rfl trivial ?_
    exact zF_riC (by decide +kernel) e
  · refine zF_blk (m := []) (d := 0) (b := B115_9) (gs := [¬ (r1 = 0)]) (c' := (8, [some (21, 0), some (0, v1), some (0, v2), some (0, v3), none], [], (h, hm, o))) K115_9 rfl ⟨q2, trivial⟩ ?_
    obtain ⟨r2, q3, e⟩ := zB_s e
    refine zF_blk (m := []) (d := 0) (b := B115_2) (gs := []) (c' := (10, [some (21, 0), some (0, v1), some (0, v2), some (0, v3), none], [(0, v2), (21, 0)], (h, hm, o))) K115_2 rfl trivial ?_
    refine zF_call (k := 58) (cl := 11) (n := 2) (i := .invokevirtual 191) (args := [(21, 0), (0, v2)]) (rest := []) (g1 := (h, hm, o)) (r1 := some (0, r2)) (by decide +kernel) rfl rfl rfl (st' := [(0, r2)]) rfl (S58 (Nat.le_trans (by decide) hd) v2 h _ q3) ?_
    rcases zI_s e with ⟨q4, e⟩ | ⟨q4, e⟩
    · refine zF_blk (m := []) (d := 1) (b := B115_8) (gs := [r2 = 0]) (c' := (27, [some (21, 0), some (0, v1), some (0, v2), some (0, v3), none], [], (h, hm, o))) K115_8 rfl ⟨q4, trivial⟩ ?_
      refine zF_blk (m := []) (d := 0) (b := B115_1) (gs := []) (c' := (28, [some (21, 0), some (0, v1), some (0, v2), some (0, v3), none], [(0, (-1))], (h, hm, o))) K115_1 rfl trivial ?_
      exact zF_riC (by decide +kernel) e
    · refine zF_blk (m := []) (d := 0) (b := B115_8) (gs := [¬ (r2 = 0)]) (c' := (16, [some (21, 0), some (0, v1), some (0, v2), some (0, v3), none], [], (h, hm, o))) K115_8 rfl ⟨q4, trivial⟩ ?_
      rcases zI_s e with ⟨q5, e⟩ | ⟨q5, e⟩
      · refine zF_blk (m := []) (d := 1) (b := B115_7) (gs := [v3 < 1]) (c' := (27, [some (21, 0), some (0, v1), some (0, v2), some (0, v3), none], [], (h, hm, o))) K115_7 rfl ⟨q5, trivial⟩ ?_
        refine zF_blk (m := []) (d := 0) (b := B115_1) (gs := []) (c' := (28, [some (21, 0), some (0, v1), some (0, v2), some (0, v3), none], [(0, (-1))], (h, hm, o))) K115_1 rfl trivial ?_
        exact zF_riC (by decide +kernel) e
      · refine zF_blk (m := []) (d := 0) (b := B115_7) (gs := [¬ (v3 < 1)]) (c' := (21, [some (21, 0), some (0, v1), some (0, v2), some (0, v3), none], [], (h, hm, o))) K115_7 rfl ⟨q5, trivial⟩ ?_
        rcases zI_s e with ⟨q6, e⟩ | ⟨q6, e⟩
        · refine zF_blk (m := []) (d := 1) (b := B115_6) (gs := [v3 ≤ 100]) (c' := (29, [some (21, 0), some (0, v1), some (0, v2), some (0, v3), none], [], (h, hm, o))) K115_6 rfl ⟨q6, trivial⟩ ?_
          obtain ⟨r3, q7, e⟩ := zB_s e
          refine zF_blk (m := []) (d := 0) (b := B115_3) (gs := []) (c' := (37, [some (21, 0), some (0, v1), some (0, v2), some (0, v3), none], [(11, 0), (11, 1)], (h, hm, o))) K115_3 rfl trivial ?_
          refine zF_call (k := 71) (cl := 1) (n := 2) (i := .invokevirtual 266) (args := [(11, 1), (11, 0)]) (rest := []) (g1 := (r3, hm, o)) (r1 := none) (by decide +kernel) rfl rfl rfl (st' := []) rfl (S71 (Nat.le_trans (by decide) hd) 1 0 h _ q7) ?_
          obtain ⟨r4, q8, e⟩ := zB_s e
          refine zF_blk (m := []) (d := 0) (b := B115_4) (gs := []) (c' := (49, [some (21, 0), some (0, v1), some (0, v2), some (0, v3), none], [(0, v3), (19, 0), (11, 1)], (r3, hm, o))) K115_4 rfl trivial ?_
          refine zF_call (k := 88) (cl := 1) (n := 3) (i := .invokevirtual 231) (args := [(11, 1), (19, 0), (0, v3)]) (rest := []) (g1 := (r4.2, hm, o)) (r1 := some (0, r4.1)) (by decide +kernel) rfl rfl rfl (st' := [(0, r4.1)]) rfl (S88 (Nat.le_trans (by decide) hd) 1 0 v3 r3 _ q8) ?_
          refine zF_blk (m := []) (d := 0) (b := B115_5) (gs := []) (c' := (62, [some (21, 0), some (0, v1), some (0, v2), some (0, v3), some (0, (r4.2 66 0 0))], [], (r4.2, hm, o))) K115_5 rfl trivial ?_
          refine zF_blk (m := [true, true, true, false, true]) (d := 0) (b := []) (gs := []) (c' := (62, [some (21, 0), some (0, v1), some (0, v2), none, some (0, (r4.2 66 0 0))], [], (r4.2, hm, o))) rfl rfl trivial ?_
          exact T115_0 hd zFu v1 v2 (r4.2 66 0 0) r4.2 _ e
        · refine zF_blk (m := []) (d := 0) (b := B115_6) (gs := [¬ (v3 ≤ 100)]) (c' := (27, [some (21, 0), some (0, v1), some (0, v2), some (0, v3), none], [], (h, hm, o))) K115_6 rfl ⟨q6, trivial⟩ ?_
          refine zF_blk (m := []) (d := 0) (b := B115_1) (gs := []) (c' := (28, [some (21, 0), some (0, v1), some (0, v2), some (0, v3), none], [(0, (-1))], (h, hm, o))) K115_1 rfl trivial ?_
          exact zF_riC (by decide +kernel) e
