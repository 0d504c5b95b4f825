/-! Functions of the methods, by wip/gen/lift.py. -/
def B65_0 : List zRow := [(13, .iconst 0, 1, (0, 0, 0))]
theorem K65_0 : zRk 65 B65_0 = true := by decide +kernel
def B65_1 : List zRow := [(9, .iconst 1, 1, (0, 0, 0)), (10, .goto 4, 3, (0, 0, 0))]
theorem K65_1 : zRk 65 B65_1 = true := by decide +kernel
def B65_2 : List zRow := [(0, .iload_n 0, 1, (0, 0, 0)), (1, .iload_n 1, 1, (0, 0, 0)), (2, .ishr, 1, (0, 0, 0)), (3, .iconst 1, 1, (0, 0, 0)), (4, .iand, 1, (0, 0, 0)), (5, .iconst 1, 1, (0, 0, 0)), (6, .if_icmp .ne 7, 3, (0, 0, 0))]
theorem K65_2 : zRk 65 B65_2 = true := by decide +kernel
/-- EchoVale.hasBit(II)Z -/
def F65 (v0 : Int) (v1 : Int) : Option Int := if ¬ (wand (wshr v0 v1) 1) = 1 then some 0 else some 1
set_option maxRecDepth 100000 in
theorem S65 {spec : zRn zH2} {hm : zHM} {o : Int → Int} {d : Nat} (hd : 1 ≤ d) (v0 : Int) (v1 : Int) (h : zHC) (v : Int) (e : F65 v0 v1 = some v) : zRu2 spec d 65 [(0, v0), (0, v1)] (h, hm, o) (some (0, v)) (h, hm, o) := by
  refine zF_in (D := 0) (mx := 2) (L := [some (0, v0), some (0, v1)]) (by decide +kernel) rfl rfl hd (fun d hd => ?_)
  unfold F65 at e
  rcases zI_s e with ⟨q1, e⟩ | ⟨q1, e⟩
  · refine zF_blk (m := []) (d := 1) (b := B65_2) (gs := [¬ (wand (wshr v0 v1) 1) = 1]) (c' := (13, [some (0, v0), some (0, v1)], [], (h, hm, o))) K65_2 rfl ⟨q1, trivial⟩ ?_
    refine zF_blk (m := []) (d := 0) (b := B65_0) (gs := []) (c' := (14, [some (0, v0), some (0, v1)], [(0, 0)], (h, hm, o))) K65_0 rfl trivial ?_
    obtain rfl := Option.some.inj e
    exact zF_rb (by decide +kernel) (Or.inl rfl)
  · refine zF_blk (m := []) (d := 0) (b := B65_2) (gs := [¬ (¬ (wand (wshr v0 v1) 1) = 1)]) (c' := (9, [some (0, v0), some (0, v1)], [], (h, hm, o))) K65_2 rfl ⟨q1, trivial⟩ ?_
    refine zF_blk (m := []) (d := 0) (b := B65_1) (gs := []) (c' := (14, [some (0, v0), some (0, v1)], [(0, 1)], (h, hm, o))) K65_1 rfl trivial ?_
    obtain rfl := Option.some.inj e
    exact zF_rb (by decide +kernel) (Or.inr rfl)
def B62_0 : List zRow := [(0, .aload_n 0, 1, (0, 0, 0)), (1, .iload_n 2, 1, (0, 0, 0)), (2, .iconst 5, 1, (0, 0, 0))]
theorem K62_0 : zRk 62 B62_0 = true := by decide +kernel
def B62_1 : List zRow := [(6, .istore_n 3, 1, (0, 0, 0)), (7, .iload_n 3, 1, (0, 0, 0))]
theorem K62_1 : zRk 62 B62_1 = true := by decide +kernel
def B62_2 : List zRow := [(26, .iconst 0, 1, (0, 0, 0))]
theorem K62_2 : zRk 62 B62_2 = true := by decide +kernel
def B62_3 : List zRow := [(18, .iload_n 3, 1, (0, 0, 0)), (19, .iload_n 1, 1, (0, 0, 0))]
theorem K62_3 : zRk 62 B62_3 = true := by decide +kernel
def B62_4 : List zRow := [(28, .iload_n 3, 1, (0, 0, 0)), (29, .iconst 1, 1, (0, 0, 0)), (30, .iload_n 1, 1, (0, 0, 0)), (31, .ishl, 1, (0, 0, 0)), (32, .iconst 1, 1, (0, 0, 0)), (33, .isub, 1, (0, 0, 0)), (34, .iand, 1, (0, 0, 0))]
theorem K62_4 : zRk 62 B62_4 = true := by decide +kernel
def B62_5 : List zRow := [(38, .istore 5, 2, (0, 0, 0)), (40, .aload_n 0, 1, (0, 0, 0)), (41, .iload_n 2, 1, (0, 0, 0)), (42, .iconst 0, 1, (0, 0, 0))]
theorem K62_5 : zRk 62 B62_5 = true := by decide +kernel
def B62_6 : List zRow := [(67, .iconst 0, 1, (0, 0, 0))]
theorem K62_6 : zRk 62 B62_6 = true := by decide +kernel
def B62_7 : List zRow := [(63, .iconst 1, 1, (0, 0, 0)), (64, .goto 4, 3, (0, 0, 0))]
theorem K62_7 : zRk 62 B62_7 = true := by decide +kernel
def B62_8 : List zRow := [(46, .istore 6, 2, (0, 0, 0)), (48, .iload 6, 2, (0, 0, 0)), (50, .iload 4, 2, (0, 0, 0)), (52, .idiv, 1, (0, 0, 0)), (53, .iload 5, 2, (0, 0, 0)), (55, .iload 6, 2, (0, 0, 0)), (57, .iload 4, 2, (0, 0, 0)), (59, .irem, 1, (0, 0, 0)), (60, .if_icmp .ge 7, 3, (0, 0, 0))]
theorem K62_8 : zRk 62 B62_8 = true := by decide +kernel
def B62_9 : List zRow := [(23, .ifCond .ne 5, 3, (0, 0, 0))]
theorem K62_9 : zRk 62 B62_9 = true := by decide +kernel
def B62_10 : List zRow := [(11, .istore 4, 2, (0, 0, 0)), (13, .iload 4, 2, (0, 0, 0)), (15, .ifCond .eq 11, 3, (0, 0, 0))]
theorem K62_10 : zRk 62 B62_10 = true := by decide +kernel
def B62_11 : List zRow := [(68, .iadd, 1, (0, 0, 0))]
theorem K62_11 : zRk 62 B62_11 = true := by decide +kernel
def F62_0 (h : zHC) (s0 : Int) (s1 : Int) : Option Int := some (wadd s1 s0)
set_option maxRecDepth 100000 in
theorem T62_0 {spec : zRn zH2} {hm : zHM} {o : Int → Int} {d : Nat} (hd : 1 ≤ d) (h : zHC) (s0 : Int) (s1 : Int) (v : Int) (e : F62_0 h s0 s1 = some v) : zFin 0 (fun _ => 0) (zRu2 spec d) 62 (some (0, v)) (h, hm, o) (68, [none, none, none, none, none, none, none], [(0, s0), (0, s1)], (h, hm, o)) := by
  unfold F62_0 at e
  refine zF_blk (m := []) (d := 0) (b := B62_11) (gs := []) (c' := (69, [none, none, none, none, none, none, none], [(0, (wadd s1 s0))], (h, hm, o))) K62_11 rfl trivial ?_
  obtain rfl := Option.some.inj e
  exact zF_ri (by decide +kernel)
/-- EchoVale$Course.shareOf(II)I -/
def F62 (v0 : Int) (v1 : Int) (v2 : Int) (h : zHC) : Option Int := (F63 v0 v2 5 h).bind fun r1 => (F64 r1).bind fun r2 => if r2 = 0 then some 0 else (F65 r1 v1).bind fun r3 => if ¬ r3 = 0 then (F64 (wand r1 (wsub (wshl 1 v1) 1))).bind fun r4 => (F63 v0 v2 0 h).bind fun r5 => zG (¬ r2 = 0) (zG (¬ r2 = 0) (if (wrem r5 r2) ≤ r4 then F62_0 h 0 (wdiv r5 r2) else F62_0 h 1 (wdiv r5 r2))) else some 0
set_option maxRecDepth 100000 in
theorem S62 {spec : zRn zH2} {hm : zHM} {o : Int → Int} {d : Nat} (hd : 2 ≤ d) (v0 : Int) (v1 : Int) (v2 : Int) (h : zHC) (v : Int) (e : F62 v0 v1 v2 h = some v) : zRu2 spec d 62 [(11, v0), (0, v1), (0, v2)] (h, hm, o) (some (0, v)) (h, hm, o) := by
  refine zF_in (D := 1) (mx := 7) (L := [some (11, v0), some (0, v1), some (0, v2), none, none, none, none]) (by decide +kernel) rfl rfl hd (fun d hd => ?_)
  unfold F62 at e
  obtain ⟨r1, q1, e⟩ := zB_s e
  refine zF_blk (m := []) (d := 0) (b := B62_0) (gs := []) (c' := (3, [some (11, v0), some (0, v1), some (0, v2), none, none, none, none], [(0, 5), (0, v2), (11, v0)], (h, hm, o))) K62_0 rfl trivial ?_
  refine zF_call (k := 63) (cl := 1) (n := 3) (i := .invokevirtual 138) (args := [(11, v0), (0, v2), (0, 5)]) (rest := []) (g1 := (h, hm, o)) (r1 := some (0, r1)) (by decide +kernel) rfl rfl rfl (st' := [(0, r1)]) rfl (S63 (Nat.le_trans (by decide) hd) v0 v2 5 h _ q1) ?_
  obtain ⟨r2, q2, e⟩ := zB_s e
  refine zF_blk (m := []) (d := 0) (b := B62_1) (gs := []) (c' := (8, [some (11, v0), some (0, v1), some (0, v2), some (0, r1), none, none, none], [(0, r1)], (h, hm, o))) K62_1 rfl trivial ?_
  refine zF_call (k := 64) (cl := 13) (n := 1) (i := .invokestatic 141) (args := [(0, r1)]) (rest := []) (g1 := (h, hm, o)) (r1 := some (0, r2)) (by decide +kernel) rfl rfl rfl (st' := [(0, r2)]) rfl (S64 (Nat.le_trans (by decide) hd) r1 h _ q2) ?_
  rcases zI_s e with ⟨q3, e⟩ | ⟨q3, e⟩
  · refine zF_blk (m := []) (d := 1) (b := B62_10) (gs := [r2 = 0]) (c' := (26, [some (11, v0), some (0, v1), some (0, v2), some (0, r1), some (0, r2), none, none], [], (h, hm, o))) K62_10 rfl ⟨q3, trivial⟩ ?_
    refine zF_blk (m := []) (d := 0) (b := B62_2) (gs := []) (c' := (27, [some (11, v0), some (0, v1), some (0, v2), some (0, r1), some (0, r2), none, none], [(0, 0)], (h, hm, o))) K62_2 rfl trivial ?_
    obtain rfl := Option.some.inj e
    exact zF_ri (by decide +kernel)
  · refine zF_blk (m := []) (d := 0) (b := B62_10) (gs := [¬ (r2 = 0)]) (c' := (18, [some (11, v0), some (0, v1), some (0, v2), some (0, r1), some (0, r2), none, none], [], (h, hm, o))) K62_10 rfl ⟨q3, trivial⟩ ?_
    obtain ⟨r3, q4, e⟩ := zB_s e
    refine zF_blk (m := []) (d := 0) (b := B62_3) (gs := []) (c' := (20, [some (11, v0), some (0, v1), some (0, v2), some (0, r1), some (0, r2), none, none], [(0, v1), (0, r1)], (h, hm, o))) K62_3 rfl trivial ?_
    refine zF_call (k := 65) (cl := 11) (n := 2) (i := .invokestatic 146) (args := [(0, r1), (0, v1)]) (rest := []) (g1 := (h, hm, o)) (r1 := some (0, r3)) (by decide +kernel) rfl rfl rfl (st' := [(0, r3)]) rfl (S65 (Nat.le_trans (by decide) hd) r1 v1 h _ q4) ?_
    rcases zI_s e with ⟨q5, e⟩ | ⟨q5, e⟩
    · refine zF_blk (m := []) (d := 1) (b := B62_9) (gs := [¬ r3 = 0]) (c' := (28, [some (11, v0), some (0, v1), some (0, v2), some (0, r1), some (0, r2), none, none], [], (h, hm, o))) K62_9 rfl ⟨q5, trivial⟩ ?_
      obtain ⟨r4, q6, e⟩ := zB_s e
      refine zF_blk (m := []) (d := 0) (b := B62_4) (gs := []) (c' := (35, [some (11, v0), some (0, v1), some (0, v2), some (0, r1), some (0, r2), none, none], [(0, (wand r1 (wsub (wshl 1 v1) 1)))], (h, hm, o))) K62_4 rfl trivial ?_
      refine zF_call (k := 64) (cl := 13) (n := 1) (i := .invokestatic 141) (args := [(0, (wand r1 (wsub (wshl 1 v1) 1)))]) (rest := []) (g1 := (h, hm, o)) (r1 := some (0, r4)) (by decide +kernel) rfl rfl rfl (st' := [(0, r4)]) rfl (S64 (Nat.le_trans (by decide) hd) (wand r1 (wsub (wshl 1 v1) 1)) h _ q6) ?_
      obtain ⟨r5, q7, e⟩ := zB_s e
      refine zF_blk (m := []) (d := 0) (b := B62_5) (gs := []) (c' := (43, [some (11, v0), some (0, v1), some (0, v2), some (0, r1), some (0, r2), some (0, r4), none], [(0, 0), (0, v2), (11, v0)], (h, hm, o))) K62_5 rfl trivial ?_
      refine zF_call (k := 63) (cl := 1) (n := 3) (i := .invokevirtual 138) (args := [(11, v0), (0, v2), (0, 0)]) (rest := []) (g1 := (h, hm, o)) (r1 := some (0, r5)) (by decide +kernel) rfl rfl rfl (st' := [(0, r5)]) rfl (S63 (Nat.le_trans (by decide) hd) v0 v2 0 h _ q7) ?_
      obtain ⟨q8, e⟩ := zG_s e
      obtain ⟨q8, e⟩ := zG_s e
      rcases zI_s e with ⟨q9, e⟩ | ⟨q9, e⟩
      · refine zF_blk (m := []) (d := 1) (b := B62_8) (gs := [¬ r2 = 0, ¬ r2 = 0, (wrem r5 r2) ≤ r4]) (c' := (67, [some (11, v0), some (0, v1), some (0, v2), some (0, r1), some (0, r2), some (0, r4), some (0, r5)], [(0, (wdiv r5 r2))], (h, hm, o))) K62_8 rfl ⟨q8, q8, q9, trivial⟩ ?_
        refine zF_blk (m := []) (d := 0) (b := B62_6) (gs := []) (c' := (68, [some (11, v0), some (0, v1), some (0, v2), some (0, r1), some (0, r2), some (0, r4), some (0, r5)], [(0, 0), (0, (wdiv r5 r2))], (h, hm, o))) K62_6 rfl trivial ?_
        refine zF_blk (m := [false, false, false, false, false, false, false]) (d := 0) (b := []) (gs := []) (c' := (68, [none, none, none, none, none, none, none], [(0, 0), (0, (wdiv r5 r2))], (h, hm, o))) rfl rfl trivial ?_
        exact T62_0 hd h 0 (wdiv r5 r2) _ e
      · refine zF_blk (m := []) (d := 0) (b := B62_8) (gs := [¬ r2 = 0, ¬ r2 = 0, ¬ ((wrem r5 r2) ≤ r4)]) (c' := (63, [some (11, v0), some (0, v1), some (0, v2), some (0, r1), some (0, r2), some (0, r4), some (0, r5)], [(0, (wdiv r5 r2))], (h, hm, o))) K62_8 rfl ⟨q8, q8, q9, trivial⟩ ?_
        refine zF_blk (m := []) (d := 0) (b := B62_7) (gs := []) (c' := (68, [some (11, v0), some (0, v1), some (0, v2), some (0, r1), some (0, r2), some (0, r4), some (0, r5)], [(0, 1), (0, (wdiv r5 r2))], (h, hm, o))) K62_7 rfl trivial ?_
        refine zF_blk (m := [false, false, false, false, false, false, false]) (d := 0) (b := []) (gs := []) (c' := (68, [none, none, none, none, none, none, none], [(0, 1), (0, (wdiv r5 r2))], (h, hm, o))) rfl rfl trivial ?_
        exact T62_0 hd h 1 (wdiv r5 r2) _ e
    · refine zF_blk (m := []) (d := 0) (b := B62_9) (gs := [¬ (¬ r3 = 0)]) (c' := (26, [some (11, v0), some (0, v1), some (0, v2), some (0, r1), some (0, r2), none, none], [], (h, hm, o))) K62_9 rfl ⟨q5, trivial⟩ ?_
      refine zF_blk (m := []) (d := 0) (b := B62_2) (gs := []) (c' := (27, [some (11, v0), some (0, v1), some (0, v2), some (0, r1), some (0, r2), none, none], [(0, 0)], (h, hm, o))) K62_2 rfl trivial ?_
      obtain rfl := Option.some.inj e
      exact zF_ri (by decide +kernel)
def B60_0 : List zRow := [(0, .aload_n 0, 1, (0, 0, 0)), (1, .iload_n 1, 1, (0, 0, 0))]
theorem K60_0 : zRk 60 B60_0 = true := by decide +kernel
def B60_1 : List zRow := [(28, .iconst (-1), 1, (0, 0, 0))]
theorem K60_1 : zRk 60 B60_1 = true := by decide +kernel
def B60_2 : List zRow := [(8, .aload_n 0, 1, (0, 0, 0)), (9, .iload_n 2, 1, (0, 0, 0))]
theorem K60_2 : zRk 60 B60_2 = true := by decide +kernel
def B60_3 : List zRow := [(16, .aload_n 0, 1, (0, 0, 0)), (17, .getfield 56, 3, (11, 6, 7)), (20, .iload_n 1, 1, (0, 0, 0)), (21, .iload_n 2, 1, (0, 0, 0))]
theorem K60_3 : zRk 60 B60_3 = true := by decide +kernel
def B60_4 : List zRow := [(25, .goto 4, 3, (0, 0, 0))]
theorem K60_4 : zRk 60 B60_4 = true := by decide +kernel
def B60_5 : List zRow := [(13, .ifCond .eq 15, 3, (0, 0, 0))]
theorem K60_5 : zRk 60 B60_5 = true := by decide +kernel
def B60_6 : List zRow := [(5, .ifCond .eq 23, 3, (0, 0, 0))]
theorem K60_6 : zRk 60 B60_6 = true := by decide +kernel
/-- EchoVale.share(II)I -/
def F60 (v1 : Int) (v2 : Int) (h : zHC) : Option Int := (F61 v1 h).bind fun r1 => if r1 = 0 then some (-1) else (F58 v2 h).bind fun r2 => if r2 = 0 then some (-1) else (F62 0 v1 v2 h).bind fun r3 => some r3
set_option maxRecDepth 100000 in
theorem S60 {spec : zRn zH2} {hm : zHM} {o : Int → Int} {d : Nat} (hd : 3 ≤ d) (v1 : Int) (v2 : Int) (h : zHC) (v : Int) (e : F60 v1 v2 h = some v) : zRu2 spec d 60 [(21, 0), (0, v1), (0, v2)] (h, hm, o) (some (0, v)) (h, hm, o) := by
  refine zF_in (D := 2) (mx := 3) (L := [some (21, 0), some (0, v1), some (0, v2)]) (by decide +kernel) rfl rfl hd (fun d hd => ?_)
  unfold F60 at e
  obtain ⟨r1, q1, e⟩ := zB_s e
  refine zF_blk (m := []) (d := 0) (b := B60_0) (gs := []) (c' := (2, [some (21, 0), some (0, v1), some (0, v2)], [(0, v1), (21, 0)], (h, hm, o))) K60_0 rfl trivial ?_
  refine zF_call (k := 61) (cl := 11) (n := 2) (i := .invokevirtual 172) (args := [(21, 0), (0, v1)]) (rest := []) (g1 := (h, hm, o)) (r1 := some (0, r1)) (by decide +kernel) rfl rfl rfl (st' := [(0, r1)]) rfl (S61 (Nat.le_trans (by decide) hd) v1 h _ q1) ?_
  rcases zI_s e with ⟨q2, e⟩ | ⟨q2, e⟩
  · refine zF_blk (m := []) (d := 1) (b := B60_6) (gs := [r1 = 0]) (c' := (28, [some (21, 0), some (0, v1), some (0, v2)], [], (h, hm, o))) K60_6 rfl ⟨q2, trivial⟩ ?_
    refine zF_blk (m := []) (d := 0) (b := B60_1) (gs := []) (c' := (29, [some (21, 0), some (0, v1), some (0, v2)], [(0, (-1))], (h, hm, o))) K60_1 rfl trivial ?_
    obtain rfl := Option.some.inj e
    exact zF_ri (by decide +kernel)
  · refine zF_blk (m := []) (d := 0) (b := B60_6) (gs := [¬ (r1 = 0)]) (c' := (8, [some (21, 0), some (0, v1), some (0, v2)], [], (h, hm, o))) K60_6 rfl ⟨q2, trivial⟩ ?_
    obtain ⟨r2, q3, e⟩ := zB_s e
    refine zF_blk (m := []) (d := 0) (b := B60_2) (gs := []) (c' := (10, [some (21, 0), some (0, v1), some (0, v2)], [(0, v2), (21, 0)], (h, hm, o))) K60_2 rfl trivial ?_
    refine zF_call (k := 58) (cl := 11) (n := 2) (i := .invokevirtual 191) (args := [(21, 0), (0, v2)]) (rest := []) (g1 := (h, hm, o)) (r1 := some (0, r2)) (by decide +kernel) rfl rfl rfl (st' := [(0, r2)]) rfl (S58 (Nat.le_trans (by decide) hd) v2 h _ q3) ?_
    rcases zI_s e with ⟨q4, e⟩ | ⟨q4, e⟩
    · refine zF_blk (m := []) (d := 1) (b := B60_5) (gs := [r2 = 0]) (c' := (28, [some (21, 0), some (0, v1), some (0, v2)], [], (h, hm, o))) K60_5 rfl ⟨q4, trivial⟩ ?_
      refine zF_blk (m := []) (d := 0) (b := B60_1) (gs := []) (c' := (29, [some (21, 0), some (0, v1), some (0, v2)], [(0, (-1))], (h, hm, o))) K60_1 rfl trivial ?_
      obtain rfl := Option.some.inj e
      exact zF_ri (by decide +kernel)
    · refine zF_blk (m := []) (d := 0) (b := B60_5) (gs := [¬ (r2 = 0)]) (c' := (16, [some (21, 0), some (0, v1), some (0, v2)], [], (h, hm, o))) K60_5 rfl ⟨q4, trivial⟩ ?_
      obtain ⟨r3, q5, e⟩ := zB_s e
      refine zF_blk (m := []) (d := 0) (b := B60_3) (gs := []) (c' := (22, [some (21, 0), some (0, v1), some (0, v2)], [(0, v2), (0, v1), (11, 0)], (h, hm, o))) K60_3 rfl trivial ?_
      refine zF_call (k := 62) (cl := 1) (n := 3) (i := .invokevirtual 205) (args := [(11, 0), (0, v1), (0, v2)]) (rest := []) (g1 := (h, hm, o)) (r1 := some (0, r3)) (by decide +kernel) rfl rfl rfl (st' := [(0, r3)]) rfl (S62 (Nat.le_trans (by decide) hd) 0 v1 v2 h _ q5) ?_
      refine zF_blk (m := []) (d := 0) (b := B60_4) (gs := []) (c' := (29, [some (21, 0), some (0, v1), some (0, v2)], [(0, r3)], (h, hm, o))) K60_4 rfl trivial ?_
      obtain rfl := Option.some.inj e
      exact zF_ri (by decide +kernel)
def B220_0 : List zRow := [(0, .aload_n 0, 1, (0, 0, 0)), (1, .iconst 0, 1, (0, 0, 0)), (2, .putfield 81, 3, (12, 0, 0)), (5, .aload_n 0, 1, (0, 0, 0)), (6, .iload_n 1, 1, (0, 0, 0))]
theorem K220_0 : zRk 220 B220_0 = true := by decide +kernel
def B220_1 : List zRow := [(30, .iconst (-1), 1, (0, 0, 0))]
theorem K220_1 : zRk 220 B220_1 = true := by decide +kernel
def B220_2 : List zRow := [(13, .aload_n 0, 1, (0, 0, 0)), (14, .iload_n 2, 1, (0, 0, 0))]
theorem K220_2 : zRk 220 B220_2 = true := by decide +kernel
def B220_3 : List zRow := [(21, .aload_n 0, 1, (0, 0, 0)), (22, .iload_n 1, 1, (0, 0, 0)), (23, .iload_n 2, 1, (0, 0, 0))]
theorem K220_3 : zRk 220 B220_3 = true := by decide +kernel
def B220_4 : List zRow := [(27, .goto 4, 3, (0, 0, 0))]
theorem K220_4 : zRk 220 B220_4 = true := by decide +kernel
def B220_5 : List zRow := [(18, .ifCond .eq 12, 3, (0, 0, 0))]
theorem K220_5 : zRk 220 B220_5 = true := by decide +kernel
def B220_6 : List zRow := [(10, .ifCond .eq 20, 3, (0, 0, 0))]
theorem K220_6 : zRk 220 B220_6 = true := by decide +kernel
/-- EchoValeModel.share(II)I -/
def F220 (v1 : Int) (v2 : Int) (h : zHM) : Option (Int × zHM) := (F210 v1 (mset h 0 0 0)).bind fun r1 => if r1 = 0 then some ((-1), (mset h 0 0 0)) else (F217 v2 (mset h 0 0 0)).bind fun r2 => if r2 = 0 then some ((-1), (mset h 0 0 0)) else (F212 v1 v2 (mset h 0 0 0)).bind fun r3 => some (r3, (mset h 0 0 0))
set_option maxRecDepth 100000 in
theorem S220 {spec : zRn zH2} {hc : zHC} {o : Int → Int} {d : Nat} (hd : 3 ≤ d) (v1 : Int) (v2 : Int) (h : zHM) (v : (Int × zHM)) (e : F220 v1 v2 h = some v) : zRu2 spec d 220 [(22, 0), (0, v1), (0, v2)] (hc, h, o) (some (0, v.1)) (hc, v.2, o) := by
  refine zF_in (D := 2) (mx := 3) (L := [some (22, 0), some (0, v1), some (0, v2)]) (by decide +kernel) rfl rfl hd (fun d hd => ?_)
  unfold F220 at e
  obtain ⟨r1, q1, e⟩ := zB_s e
  refine zF_blk (m := []) (d := 0) (b := B220_0) (gs := []) (c' := (7, [some (22, 0), some (0, v1), some (0, v2)], [(0, v1), (22, 0)], (hc, (mset h 0 0 0), o))) K220_0 rfl trivial ?_
  refine zF_call (k := 210) (cl := 12) (n := 2) (i := .invokevirtual 260) (args := [(22, 0), (0, v1)]) (rest := []) (g1 := (hc, (mset h 0 0 0), o)) (r1 := some (0, r1)) (by decide +kernel) rfl rfl rfl (st' := [(0, r1)]) rfl (S210 (Nat.le_trans (by decide) hd) v1 (mset h 0 0 0) _ q1) ?_
  rcases zI_s e with ⟨q2, e⟩ | ⟨q2, e⟩
  · refine zF_blk (m := []) (d := 1) (b := B220_6) (gs := [r1 = 0]) (c' := (30, [some (22, 0), some (0, v1), some (0, v2)], [], (hc, (mset h 0 0 0), o))) K220_6 rfl ⟨q2, trivial⟩ ?_
    refine zF_blk (m := []) (d := 0) (b := B220_1) (gs := []) (c' := (31, [some (22, 0), some (0, v1), some (0, v2)], [(0, (-1))], (hc, (mset h 0 0 0), o))) K220_1 rfl trivial ?_
    exact zF_riM (by decide +kernel) e
  · refine zF_blk (m := []) (d := 0) (b := B220_6) (gs := [¬ (r1 = 0)]) (c' := (13, [some (22, 0), some (0, v1), some (0, v2)], [], (hc, (mset h 0 0 0), o))) K220_6 rfl ⟨q2, trivial⟩ ?_
    obtain ⟨r2, q3, e⟩ := zB_s e
    refine zF_blk (m := []) (d := 0) (b := B220_2) (gs := []) (c' := (15, [some (22, 0), some (0, v1), some (0, v2)], [(0, v2), (22, 0)], (hc, (mset h 0 0 0), o))) K220_2 rfl trivial ?_
    refine zF_call (k := 217) (cl := 12) (n := 2) (i := .invokevirtual 266) (args := [(22, 0), (0, v2)]) (rest := []) (g1 := (hc, (mset h 0 0 0), o)) (r1 := some (0, r2)) (by decide +kernel) rfl rfl rfl (st' := [(0, r2)]) rfl (S217 (Nat.le_trans (by decide) hd) v2 (mset h 0 0 0) _ q3) ?_
    rcases zI_s e with ⟨q4, e⟩ | ⟨q4, e⟩
    · refine zF_blk (m := []) (d := 1) (b := B220_5) (gs := [r2 = 0]) (c' := (30, [some (22, 0), some (0, v1), some (0, v2)], [], (hc, (mset h 0 0 0), o))) K220_5 rfl ⟨q4, trivial⟩ ?_
      refine zF_blk (m := []) (d := 0) (b := B220_1) (gs := []) (c' := (31, [some (22, 0), some (0, v1), some (0, v2)], [(0, (-1))], (hc, (mset h 0 0 0), o))) K220_1 rfl trivial ?_
      exact zF_riM (by decide +kernel) e
    · refine zF_blk (m := []) (d := 0) (b := B220_5) (gs := [¬ (r2 = 0)]) (c' := (21, [some (22, 0), some (0, v1), some (0, v2)], [], (hc, (mset h 0 0 0), o))) K220_5 rfl ⟨q4, trivial⟩ ?_
      obtain ⟨r3, q5, e⟩ := zB_s e
      refine zF_blk (m := []) (d := 0) (b := B220_3) (gs := []) (c' := (24, [some (22, 0), some (0, v1), some (0, v2)], [(0, v2), (0, v1), (22, 0)], (hc, (mset h 0 0 0), o))) K220_3 rfl trivial ?_
      refine zF_call (k := 212) (cl := 12) (n := 3) (i := .invokevirtual 257) (args := [(22, 0), (0, v1), (0, v2)]) (rest := []) (g1 := (hc, (mset h 0 0 0), o)) (r1 := some (0, r3)) (by decide +kernel) rfl rfl rfl (st' := [(0, r3)]) rfl (S212 (Nat.le_trans (by decide) hd) v1 v2 (mset h 0 0 0) _ q5) ?_
      refine zF_blk (m := []) (d := 0) (b := B220_4) (gs := []) (c' := (31, [some (22, 0), some (0, v1), some (0, v2)], [(0, r3)], (hc, (mset h 0 0 0), o))) K220_4 rfl trivial ?_
      exact zF_riM (by decide +kernel) e
def B67_0 : List zRow := [(0, .aload_n 0, 1, (0, 0, 0)), (1, .getfield 24, 3, (1, 7, 5246482)), (4, .iload_n 1, 1, (0, 0, 0)), (5, .iconst 5, 1, (0, 0, 0)), (6, .imul, 1, (0, 0, 0)), (7, .iload_n 2, 1, (0, 0, 0)), (8, .iadd, 1, (0, 0, 0)), (9, .iaload, 1, (0, 0, 0))]
theorem K67_0 : zRk 67 B67_0 = true := by decide +kernel
/-- EchoVale$Course.logged(II)I -/
def F67 (v0 : Int) (v1 : Int) (v2 : Int) (h : zHC) : Option Int := zG (0 ≤ (wadd (wmul v1 5) v2) ∧ (wadd (wmul v1 5) v2) < 900) (some (h 71 v0 (wadd (wmul v1 5) v2)))
set_option maxRecDepth 100000 in
theorem S67 {spec : zRn zH2} {hm : zHM} {o : Int → Int} {d : Nat} (hd : 1 ≤ d) (v0 : Int) (v1 : Int) (v2 : Int) (h : zHC) (v : Int) (e : F67 v0 v1 v2 h = some v) : zRu2 spec d 67 [(11, v0), (0, v1), (0, v2)] (h, hm, o) (some (0, v)) (h, hm, o) := by
  refine zF_in (D := 0) (mx := 3) (L := [some (11, v0), some (0, v1), some (0, v2)]) (by decide +kernel) rfl rfl hd (fun d hd => ?_)
  unfold F67 at e
  obtain ⟨q1, e⟩ := zG_s e
  refine zF_blk (m := []) (d := 0) (b := B67_0) (gs := [0 ≤ (wadd (wmul v1 5) v2) ∧ (wadd (wmul v1 5) v2) < 900]) (c' := (10, [some (11, v0), some (0, v1), some (0, v2)], [(0, (h 71 v0 (wadd (wmul v1 5) v2)))], (h, hm, o))) K67_0 rfl ⟨q1, trivial⟩ ?_
  obtain rfl := Option.some.inj e
  exact zF_ri (by decide +kernel)
def B66_0 : List zRow := [(24, .iconst (-1), 1, (0, 0, 0))]
theorem K66_0 : zRk 66 B66_0 = true := by decide +kernel
def B66_1 : List zRow := [(26, .aload_n 0, 1, (0, 0, 0)), (27, .getfield 56, 3, (11, 6, 7)), (30, .iload_n 1, 1, (0, 0, 0)), (31, .iload_n 2, 1, (0, 0, 0))]
theorem K66_1 : zRk 66 B66_1 = true := by decide +kernel
def B66_2 : List zRow := [(19, .iload_n 2, 1, (0, 0, 0)), (20, .iconst 5, 1, (0, 0, 0)), (21, .if_icmp .lt 5, 3, (0, 0, 0))]
theorem K66_2 : zRk 66 B66_2 = true := by decide +kernel
def B66_3 : List zRow := [(15, .iload_n 2, 1, (0, 0, 0)), (16, .ifCond .lt 8, 3, (0, 0, 0))]
theorem K66_3 : zRk 66 B66_3 = true := by decide +kernel
def B66_4 : List zRow := [(4, .iload_n 1, 1, (0, 0, 0)), (5, .aload_n 0, 1, (0, 0, 0)), (6, .getfield 56, 3, (11, 6, 7)), (9, .getfield 208, 3, (1, 2, 0)), (12, .if_icmp .ge 12, 3, (0, 0, 0))]
theorem K66_4 : zRk 66 B66_4 = true := by decide +kernel
def B66_5 : List zRow := [(0, .iload_n 1, 1, (0, 0, 0)), (1, .ifCond .lt 23, 3, (0, 0, 0))]
theorem K66_5 : zRk 66 B66_5 = true := by decide +kernel
/-- EchoVale.sounded(II)I -/
def F66 (v1 : Int) (v2 : Int) (h : zHC) : Option Int := if v1 < 0 then some (-1) else if (h 66 0 0) ≤ v1 then some (-1) else if v2 < 0 then some (-1) else if v2 < 5 then (F67 0 v1 v2 h).bind fun r1 => some r1 else some (-1)
set_option maxRecDepth 100000 in
theorem S66 {spec : zRn zH2} {hm : zHM} {o : Int → Int} {d : Nat} (hd : 2 ≤ d) (v1 : Int) (v2 : Int) (h : zHC) (v : Int) (e : F66 v1 v2 h = some v) : zRu2 spec d 66 [(21, 0), (0, v1), (0, v2)] (h, hm, o) (some (0, v)) (h, hm, o) := by
  refine zF_in (D := 1) (mx := 3) (L := [some (21, 0), some (0, v1), some (0, v2)]) (by decide +kernel) rfl rfl hd (fun d hd => ?_)
  unfold F66 at e
  rcases zI_s e with ⟨q1, e⟩ | ⟨q1, e⟩
  · refine zF_blk (m := []) (d := 1) (b := B66_5) (gs := [v1 < 0]) (c' := (24, [some (21, 0), some (0, v1), some (0, v2)], [], (h, hm, o))) K66_5 rfl ⟨q1, trivial⟩ ?_
    refine zF_blk (m := []) (d := 0) (b := B66_0) (gs := []) (c' := (25, [some (21, 0), some (0, v1), some (0, v2)], [(0, (-1))], (h, hm, o))) K66_0 rfl trivial ?_
    obtain rfl := Option.some.inj e
    exact zF_ri (by decide +kernel)
  · refine zF_blk (m := []) (d := 0) (b := B66_5) (gs := [¬ (v1 < 0)]) (c' := (4, [some (21, 0), some (0, v1), some (0, v2)], [], (h, hm, o))) K66_5 rfl ⟨q1, trivial⟩ ?_
    rcases zI_s e with ⟨q2, e⟩ | ⟨q2, e⟩
    · refine zF_blk (m := []) (d := 1) (b := B66_4) (gs := [(h 66 0 0) ≤ v1]) (c' := (24, [some (21, 0), some (0, v1), some (0, v2)], [], (h, hm, o))) K66_4 rfl ⟨q2, trivial⟩ ?_
      refine zF_blk (m := []) (d := 0) (b := B66_0) (gs := []) (c' := (25, [some (21, 0), some (0, v1), some (0, v2)], [(0, (-1))], (h, hm, o))) K66_0 rfl trivial ?_
      obtain rfl := Option.some.inj e
      exact zF_ri (by decide +kernel)
    · refine zF_blk (m := []) (d := 0) (b := B66_4) (gs := [¬ ((h 66 0 0) ≤ v1)]) (c' := (15, [some (21, 0), some (0, v1), some (0, v2)], [], (h, hm, o))) K66_4 rfl ⟨q2, trivial⟩ ?_
      rcases zI_s e with ⟨q3, e⟩ | ⟨q3, e⟩
      · refine zF_blk (m := []) (d := 1) (b := B66_3) (gs := [v2 < 0]) (c' := (24, [some (21, 0), some (0, v1), some (0, v2)], [], (h, hm, o))) K66_3 rfl ⟨q3, trivial⟩ ?_
        refine zF_blk (m := []) (d := 0) (b := B66_0) (gs := []) (c' := (25, [some (21, 0), some (0, v1), some (0, v2)], [(0, (-1))], (h, hm, o))) K66_0 rfl trivial ?_
        obtain rfl := Option.some.inj e
        exact zF_ri (by decide +kernel)
      · refine zF_blk (m := []) (d := 0) (b := B66_3) (gs := [¬ (v2 < 0)]) (c' := (19, [some (21, 0), some (0, v1), some (0, v2)], [], (h, hm, o))) K66_3 rfl ⟨q3, trivial⟩ ?_
        rcases zI_s e with ⟨q4, e⟩ | ⟨q4, e⟩
        · refine zF_blk (m := []) (d := 1) (b := B66_2) (gs := [v2 < 5]) (c' := (26, [some (21, 0), some (0, v1), some (0, v2)], [], (h, hm, o))) K66_2 rfl ⟨q4, trivial⟩ ?_
          obtain ⟨r1, q5, e⟩ := zB_s e
          refine zF_blk (m := []) (d := 0) (b := B66_1) (gs := []) (c' := (32, [some (21, 0), some (0, v1), some (0, v2)], [(0, v2), (0, v1), (11, 0)], (h, hm, o))) K66_1 rfl trivial ?_
          refine zF_call (k := 67) (cl := 1) (n := 3) (i := .invokevirtual 211) (args := [(11, 0), (0, v1), (0, v2)]) (rest := []) (g1 := (h, hm, o)) (r1 := some (0, r1)) (by decide +kernel) rfl rfl rfl (st' := [(0, r1)]) rfl (S67 (Nat.le_trans (by decide) hd) 0 v1 v2 h _ q5) ?_
          obtain rfl := Option.some.inj e
          exact zF_ri (by decide +kernel)
        · refine zF_blk (m := []) (d := 0) (b := B66_2) (gs := [¬ (v2 < 5)]) (c' := (24, [some (21, 0), some (0, v1), some (0, v2)], [], (h, hm, o))) K66_2 rfl ⟨q4, trivial⟩ ?_
          refine zF_blk (m := []) (d := 0) (b := B66_0) (gs := []) (c' := (25, [some (21, 0), some (0, v1), some (0, v2)], [(0, (-1))], (h, hm, o))) K66_0 rfl trivial ?_
          obtain rfl := Option.some.inj e
          exact zF_ri (by decide +kernel)
def B221_0 : List zRow := [(47, .iconst (-1), 1, (0, 0, 0))]
theorem K221_0 : zRk 221 B221_0 = true := by decide +kernel
def B221_1 : List zRow := [(21, .iload_n 2, 1, (0, 0, 0)), (22, .iconst 0, 1, (0, 0, 0)), (23, .iconst 4, 1, (0, 0, 0))]
theorem K221_1 : zRk 221 B221_1 = true := by decide +kernel
def B221_2 : List zRow := [(30, .aload_n 0, 1, (0, 0, 0)), (31, .getfield 13, 3, (12, 14, 5251442)), (34, .sipush 998, 3, (0, 0, 0)), (37, .iconst 5, 1, (0, 0, 0)), (38, .iload_n 1, 1, (0, 0, 0))]
theorem K221_2 : zRk 221 B221_2 = true := by decide +kernel
def B221_3 : List zRow := [(39, .imul, 1, (0, 0, 0))]
theorem K221_3 : zRk 221 B221_3 = true := by decide +kernel
def B221_4 : List zRow := [(40, .iadd, 1, (0, 0, 0)), (41, .iload_n 2, 1, (0, 0, 0)), (42, .iadd, 1, (0, 0, 0)), (43, .iaload, 1, (0, 0, 0)), (44, .goto 4, 3, (0, 0, 0))]
theorem K221_4 : zRk 221 B221_4 = true := by decide +kernel
def B221_5 : List zRow := [(27, .ifCond .eq 20, 3, (0, 0, 0))]
theorem K221_5 : zRk 221 B221_5 = true := by decide +kernel
def B221_6 : List zRow := [(9, .iload_n 1, 1, (0, 0, 0)), (10, .aload_n 0, 1, (0, 0, 0)), (11, .getfield 13, 3, (12, 14, 5251442)), (14, .sipush 997, 3, (0, 0, 0)), (17, .iaload, 1, (0, 0, 0)), (18, .if_icmp .ge 29, 3, (0, 0, 0))]
theorem K221_6 : zRk 221 B221_6 = true := by decide +kernel
def B221_7 : List zRow := [(0, .aload_n 0, 1, (0, 0, 0)), (1, .iconst 0, 1, (0, 0, 0)), (2, .putfield 81, 3, (12, 0, 0)), (5, .iload_n 1, 1, (0, 0, 0)), (6, .ifCond .lt 41, 3, (0, 0, 0))]
theorem K221_7 : zRk 221 B221_7 = true := by decide +kernel
/-- EchoValeModel.sounded(II)I -/
def F221 (v1 : Int) (v2 : Int) (h : zHM) : Option (Int × zHM) := if v1 < 0 then some ((-1), (mset h 0 0 0)) else if (h 14 997) ≤ v1 then some ((-1), (mset h 0 0 0)) else (F188 v2 0 4).bind fun r1 => if r1 = 0 then some ((-1), (mset h 0 0 0)) else zG (0 ≤ (wadd (wadd 998 (wmul 5 v1)) v2) ∧ (wadd (wadd 998 (wmul 5 v1)) v2) < 2140) (some ((h 14 (wadd (wadd 998 (wmul 5 v1)) v2)), (mset h 0 0 0)))
set_option maxRecDepth 100000 in
theorem S221 {spec : zRn zH2} {hc : zHC} {o : Int → Int} {d : Nat} (hd : 2 ≤ d) (v1 : Int) (v2 : Int) (h : zHM) (v : (Int × zHM)) (e : F221 v1 v2 h = some v) : zRu2 spec d 221 [(22, 0), (0, v1), (0, v2)] (hc, h, o) (some (0, v.1)) (hc, v.2, o) := by
  refine zF_in (D := 1) (mx := 3) (L := [some (22, 0), some (0, v1), some (0, v2)]) (by decide +kernel) rfl rfl hd (fun d hd => ?_)
  unfold F221 at e
  rcases zI_s e with ⟨q1, e⟩ | ⟨q1, e⟩
  · refine zF_blk (m := []) (d := 1) (b := B221_7) (gs := [v1 < 0]) (c' := (47, [some (22, 0), some (0, v1), some (0, v2)], [], (hc, (mset h 0 0 0), o))) K221_7 rfl ⟨q1, trivial⟩ ?_
    refine zF_blk (m := []) (d := 0) (b := B221_0) (gs := []) (c' := (48, [some (22, 0), some (0, v1), some (0, v2)], [(0, (-1))], (hc, (mset h 0 0 0), o))) K221_0 rfl trivial ?_
    exact zF_riM (by decide +kernel) e
  · refine zF_blk (m := []) (d := 0) (b := B221_7) (gs := [¬ (v1 < 0)]) (c' := (9, [some (22, 0), some (0, v1), some (0, v2)], [], (hc, (mset h 0 0 0), o))) K221_7 rfl ⟨q1, trivial⟩ ?_
    rcases zI_s e with ⟨q2, e⟩ | ⟨q2, e⟩
    · refine zF_blk (m := []) (d := 1) (b := B221_6) (gs := [0 ≤ 997 ∧ 997 < 2140, (h 14 997) ≤ v1]) (c' := (47, [some (22, 0), some (0, v1), some (0, v2)], [], (hc, (mset h 0 0 0), o))) K221_6 rfl ⟨by decide, q2, trivial⟩ ?_
      refine zF_blk (m := []) (d := 0) (b := B221_0) (gs := []) (c' := (48, [some (22, 0), some (0, v1), some (0, v2)], [(0, (-1))], (hc, (mset h 0 0 0), o))) K221_0 rfl trivial ?_
      exact zF_riM (by decide +kernel) e
    · refine zF_blk (m := []) (d := 0) (b := B221_6) (gs := [0 ≤ 997 ∧ 997 < 2140, ¬ ((h 14 997) ≤ v1)]) (c' := (21, [some (22, 0), some (0, v1), some (0, v2)], [], (hc, (mset h 0 0 0), o))) K221_6 rfl ⟨by decide, q2, trivial⟩ ?_
      obtain ⟨r1, q3, e⟩ := zB_s e
      refine zF_blk (m := []) (d := 0) (b := B221_1) (gs := []) (c' := (24, [some (22, 0), some (0, v1), some (0, v2)], [(0, 4), (0, 0), (0, v2)], (hc, (mset h 0 0 0), o))) K221_1 rfl trivial ?_
      refine zF_call (k := 188) (cl := 12) (n := 3) (i := .invokestatic 151) (args := [(0, v2), (0, 0), (0, 4)]) (rest := []) (g1 := (hc, (mset h 0 0 0), o)) (r1 := some (0, r1)) (by decide +kernel) rfl rfl rfl (st' := [(0, r1)]) rfl (S188 (Nat.le_trans (by decide) hd) v2 0 4 (mset h 0 0 0) _ q3) ?_
      rcases zI_s e with ⟨q4, e⟩ | ⟨q4, e⟩
      · refine zF_blk (m := []) (d := 1) (b := B221_5) (gs := [r1 = 0]) (c' := (47, [some (22, 0), some (0, v1), some (0, v2)], [], (hc, (mset h 0 0 0), o))) K221_5 rfl ⟨q4, trivial⟩ ?_
        refine zF_blk (m := []) (d := 0) (b := B221_0) (gs := []) (c' := (48, [some (22, 0), some (0, v1), some (0, v2)], [(0, (-1))], (hc, (mset h 0 0 0), o))) K221_0 rfl trivial ?_
        exact zF_riM (by decide +kernel) e
      · refine zF_blk (m := []) (d := 0) (b := B221_5) (gs := [¬ (r1 = 0)]) (c' := (30, [some (22, 0), some (0, v1), some (0, v2)], [], (hc, (mset h 0 0 0), o))) K221_5 rfl ⟨q4, trivial⟩ ?_
        obtain ⟨q5, e⟩ := zG_s e
        refine zF_blk (m := []) (d := 0) (b := B221_2) (gs := []) (c' := (39, [some (22, 0), some (0, v1), some (0, v2)], [(0, v1), (0, 5), (0, 998), (1344370422, 0)], (hc, (mset h 0 0 0), o))) K221_2 rfl trivial ?_
        refine zF_blk (m := []) (d := 0) (b := B221_3) (gs := []) (c' := (40, [some (22, 0), some (0, v1), some (0, v2)], [(0, (wmul 5 v1)), (0, 998), (1344370422, 0)], (hc, (mset h 0 0 0), o))) K221_3 rfl trivial ?_
        refine zF_blk (m := []) (d := 0) (b := B221_4) (gs := [0 ≤ (wadd (wadd 998 (wmul 5 v1)) v2) ∧ (wadd (wadd 998 (wmul 5 v1)) v2) < 2140]) (c' := (48, [some (22, 0), some (0, v1), some (0, v2)], [(0, (h 14 (wadd (wadd 998 (wmul 5 v1)) v2)))], (hc, (mset h 0 0 0), o))) K221_4 rfl ⟨q5, trivial⟩ ?_
        exact zF_riM (by decide +kernel) e
