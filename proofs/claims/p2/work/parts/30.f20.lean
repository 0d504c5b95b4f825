/-! Functions of the methods, by wip/gen/lift.py. -/
def B69_0 : List zRow := [(30, .iconst 0, 1, (0, 0, 0))]
theorem K69_0 : zRk 69 B69_0 = true := by decide +kernel
def B69_1 : List zRow := [(26, .iconst 1, 1, (0, 0, 0)), (27, .goto 4, 3, (0, 0, 0))]
theorem K69_1 : zRk 69 B69_1 = true := by decide +kernel
def B69_2 : List zRow := [(15, .iload_n 1, 1, (0, 0, 0)), (16, .bipush 10, 2, (0, 0, 0)), (18, .irem, 1, (0, 0, 0)), (19, .aload_n 0, 1, (0, 0, 0)), (20, .getfield 52, 3, (9, 0, 0)), (23, .if_icmp .ge 7, 3, (0, 0, 0))]
theorem K69_2 : zRk 69 B69_2 = true := by decide +kernel
def B69_3 : List zRow := [(4, .iload_n 1, 1, (0, 0, 0)), (5, .bipush 10, 2, (0, 0, 0)), (7, .idiv, 1, (0, 0, 0)), (8, .aload_n 0, 1, (0, 0, 0)), (9, .getfield 56, 3, (9, 1, 0)), (12, .if_icmp .ge 18, 3, (0, 0, 0))]
theorem K69_3 : zRk 69 B69_3 = true := by decide +kernel
def B69_4 : List zRow := [(0, .iload_n 1, 1, (0, 0, 0)), (1, .ifCond .lt 29, 3, (0, 0, 0))]
theorem K69_4 : zRk 69 B69_4 = true := by decide +kernel
/-- EchoVale$Valley.isCell(I)Z -/
def F69 (v0 : Int) (v1 : Int) (h : zHC) : Option Int := if v1 < 0 then some 0 else if (h 577 v0 0) ≤ (wdiv v1 10) then some 0 else if (h 576 v0 0) ≤ (wrem v1 10) then some 0 else some 1
set_option maxRecDepth 100000 in
theorem S69 {spec : zRn zH2} {hm : zHM} {o : Int → Int} {d : Nat} (hd : 1 ≤ d) (v0 : Int) (v1 : Int) (h : zHC) (v : Int) (e : F69 v0 v1 h = some v) : zRu2 spec d 69 [(19, v0), (0, v1)] (h, hm, o) (some (0, v)) (h, hm, o) := by
  refine zF_in (D := 0) (mx := 2) (L := [some (19, v0), some (0, v1)]) (by decide +kernel) rfl rfl hd (fun d hd => ?_)
  unfold F69 at e
  rcases zI_s e with ⟨q1, e⟩ | ⟨q1, e⟩
  · refine zF_blk (m := []) (d := 1) (b := B69_4) (gs := [v1 < 0]) (c' := (30, [some (19, v0), some (0, v1)], [], (h, hm, o))) K69_4 rfl ⟨q1, trivial⟩ ?_
    refine zF_blk (m := []) (d := 0) (b := B69_0) (gs := []) (c' := (31, [some (19, v0), some (0, v1)], [(0, 0)], (h, hm, o))) K69_0 rfl trivial ?_
    obtain rfl := Option.some.inj e
    exact zF_rb (by decide +kernel) (Or.inl rfl)
  · refine zF_blk (m := []) (d := 0) (b := B69_4) (gs := [¬ (v1 < 0)]) (c' := (4, [some (19, v0), some (0, v1)], [], (h, hm, o))) K69_4 rfl ⟨q1, trivial⟩ ?_
    rcases zI_s e with ⟨q2, e⟩ | ⟨q2, e⟩
    · refine zF_blk (m := []) (d := 1) (b := B69_3) (gs := [¬ 10 = 0, (h 577 v0 0) ≤ (wdiv v1 10)]) (c' := (30, [some (19, v0), some (0, v1)], [], (h, hm, o))) K69_3 rfl ⟨by decide, q2, trivial⟩ ?_
      refine zF_blk (m := []) (d := 0) (b := B69_0) (gs := []) (c' := (31, [some (19, v0), some (0, v1)], [(0, 0)], (h, hm, o))) K69_0 rfl trivial ?_
      obtain rfl := Option.some.inj e
      exact zF_rb (by decide +kernel) (Or.inl rfl)
    · refine zF_blk (m := []) (d := 0) (b := B69_3) (gs := [¬ 10 = 0, ¬ ((h 577 v0 0) ≤ (wdiv v1 10))]) (c' := (15, [some (19, v0), some (0, v1)], [], (h, hm, o))) K69_3 rfl ⟨by decide, q2, trivial⟩ ?_
      rcases zI_s e with ⟨q3, e⟩ | ⟨q3, e⟩
      · refine zF_blk (m := []) (d := 1) (b := B69_2) (gs := [¬ 10 = 0, (h 576 v0 0) ≤ (wrem v1 10)]) (c' := (30, [some (19, v0), some (0, v1)], [], (h, hm, o))) K69_2 rfl ⟨by decide, q3, trivial⟩ ?_
        refine zF_blk (m := []) (d := 0) (b := B69_0) (gs := []) (c' := (31, [some (19, v0), some (0, v1)], [(0, 0)], (h, hm, o))) K69_0 rfl trivial ?_
        obtain rfl := Option.some.inj e
        exact zF_rb (by decide +kernel) (Or.inl rfl)
      · refine zF_blk (m := []) (d := 0) (b := B69_2) (gs := [¬ 10 = 0, ¬ ((h 576 v0 0) ≤ (wrem v1 10))]) (c' := (26, [some (19, v0), some (0, v1)], [], (h, hm, o))) K69_2 rfl ⟨by decide, q3, trivial⟩ ?_
        refine zF_blk (m := []) (d := 0) (b := B69_1) (gs := []) (c' := (31, [some (19, v0), some (0, v1)], [(0, 1)], (h, hm, o))) K69_1 rfl trivial ?_
        obtain rfl := Option.some.inj e
        exact zF_rb (by decide +kernel) (Or.inr rfl)
def B72_0 : List zRow := [(0, .aload_n 0, 1, (0, 0, 0)), (1, .aload_n 1, 1, (0, 0, 0)), (2, .getfield 30, 3, (1, 0, 0)), (5, .putfield 30, 3, (1, 0, 0)), (8, .aload_n 0, 1, (0, 0, 0)), (9, .iconst 0, 1, (0, 0, 0)), (10, .putfield 34, 3, (1, 1, 0)), (13, .aload_n 0, 1, (0, 0, 0)), (14, .iconst 0, 1, (0, 0, 0)), (15, .putfield 37, 3, (1, 2, 0)), (18, .aload_n 1, 1, (0, 0, 0)), (19, .getfield 9, 3, (1, 3, 5242906)), (22, .iconst 0, 1, (0, 0, 0)), (23, .aload_n 0, 1, (0, 0, 0)), (24, .getfield 9, 3, (1, 3, 5242906)), (27, .iconst 0, 1, (0, 0, 0)), (28, .bipush 6, 2, (0, 0, 0)), (30, .invokestatic 45, 3, (5001, 0, 0))]
theorem K72_0 : zRk 72 B72_0 = true := by decide +kernel
/-- EchoVale$Course.copyPlaces(LEchoVale$Course;)V -/
def F72 (v0 : Int) (v1 : Int) (h : zHC) : Option zHC := some (hcpy (hset (hset (hset h 64 v0 0 (h 64 v1 0)) 65 v0 0 0) 66 v0 0 0) 67 v0 67 v1 0 0 6)
set_option maxRecDepth 100000 in
theorem S72 {spec : zRn zH2} {hm : zHM} {o : Int → Int} {d : Nat} (hd : 1 ≤ d) (v0 : Int) (v1 : Int) (h : zHC) (v : zHC) (e : F72 v0 v1 h = some v) : zRu2 spec d 72 [(11, v0), (11, v1)] (h, hm, o) none (v, hm, o) := by
  refine zF_in (D := 0) (mx := 2) (L := [some (11, v0), some (11, v1)]) (by decide +kernel) rfl rfl hd (fun d hd => ?_)
  unfold F72 at e
  refine zF_blk (m := []) (d := 0) (b := B72_0) (gs := [0 ≤ 0, 0 ≤ 0, 0 ≤ 6, 0 + 6 ≤ 6, 0 + 6 ≤ 6]) (c' := (33, [some (11, v0), some (11, v1)], [], ((hcpy (hset (hset (hset h 64 v0 0 (h 64 v1 0)) 65 v0 0 0) 66 v0 0 0) 67 v0 67 v1 0 0 6), hm, o))) K72_0 rfl ⟨by decide, by decide, by decide, by decide, by decide, trivial⟩ ?_
  obtain rfl := Option.some.inj e
  exact zF_rv (by decide +kernel)
def B71_0 : List zRow := [(0, .aload_n 0, 1, (0, 0, 0)), (1, .aload_n 1, 1, (0, 0, 0))]
theorem K71_0 : zRk 71 B71_0 = true := by decide +kernel
def B71_1 : List zRow := [(5, .aload_n 0, 1, (0, 0, 0)), (6, .aload_n 1, 1, (0, 0, 0)), (7, .getfield 34, 3, (1, 1, 0)), (10, .putfield 34, 3, (1, 1, 0)), (13, .aload_n 0, 1, (0, 0, 0)), (14, .aload_n 1, 1, (0, 0, 0)), (15, .getfield 37, 3, (1, 2, 0)), (18, .putfield 37, 3, (1, 2, 0)), (21, .aload_n 1, 1, (0, 0, 0)), (22, .getfield 15, 3, (1, 4, 5243602)), (25, .iconst 0, 1, (0, 0, 0)), (26, .aload_n 0, 1, (0, 0, 0)), (27, .getfield 15, 3, (1, 4, 5243602)), (30, .iconst 0, 1, (0, 0, 0)), (31, .aload_n 0, 1, (0, 0, 0)), (32, .getfield 34, 3, (1, 1, 0)), (35, .bipush 6, 2, (0, 0, 0)), (37, .imul, 1, (0, 0, 0)), (38, .invokestatic 45, 3, (5001, 0, 0)), (41, .aload_n 1, 1, (0, 0, 0)), (42, .getfield 18, 3, (1, 5, 5243602)), (45, .iconst 0, 1, (0, 0, 0)), (46, .aload_n 0, 1, (0, 0, 0)), (47, .getfield 18, 3, (1, 5, 5243602)), (50, .iconst 0, 1, (0, 0, 0)), (51, .aload_n 0, 1, (0, 0, 0)), (52, .getfield 34, 3, (1, 1, 0)), (55, .bipush 6, 2, (0, 0, 0)), (57, .imul, 1, (0, 0, 0)), (58, .invokestatic 45, 3, (5001, 0, 0)), (61, .aload_n 1, 1, (0, 0, 0)), (62, .getfield 21, 3, (1, 6, 5243842)), (65, .iconst 0, 1, (0, 0, 0)), (66, .aload_n 0, 1, (0, 0, 0)), (67, .getfield 21, 3, (1, 6, 5243842)), (70, .iconst 0, 1, (0, 0, 0)), (71, .aload_n 0, 1, (0, 0, 0)), (72, .getfield 34, 3, (1, 1, 0)), (75, .bipush 8, 2, (0, 0, 0)), (77, .imul, 1, (0, 0, 0)), (78, .invokestatic 45, 3, (5001, 0, 0)), (81, .aload_n 1, 1, (0, 0, 0)), (82, .getfield 27, 3, (1, 8, 5243002)), (85, .iconst 0, 1, (0, 0, 0)), (86, .aload_n 0, 1, (0, 0, 0)), (87, .getfield 27, 3, (1, 8, 5243002)), (90, .iconst 0, 1, (0, 0, 0)), (91, .aload_n 0, 1, (0, 0, 0)), (92, .getfield 34, 3, (1, 1, 0)), (95, .invokestatic 45, 3, (5001, 0, 0)), (98, .aload_n 1, 1, (0, 0, 0)), (99, .getfield 24, 3, (1, 7, 5246482)), (102, .iconst 0, 1, (0, 0, 0)), (103, .aload_n 0, 1, (0, 0, 0)), (104, .getfield 24, 3, (1, 7, 5246482)), (107, .iconst 0, 1, (0, 0, 0)), (108, .aload_n 0, 1, (0, 0, 0)), (109, .getfield 37, 3, (1, 2, 0)), (112, .iconst 5, 1, (0, 0, 0)), (113, .imul, 1, (0, 0, 0)), (114, .invokestatic 45, 3, (5001, 0, 0))]
theorem K71_1 : zRk 71 B71_1 = true := by decide +kernel
/-- EchoVale$Course.copyFrom(LEchoVale$Course;)V -/
def F71 (v0 : Int) (v1 : Int) (h : zHC) : Option zHC := (F72 v0 v1 h).bind fun r1 => zG (0 ≤ (wmul ((hset r1 65 v0 0 (r1 65 v1 0)) 65 v0 0) 6)) (zG (0 + (wmul ((hset r1 65 v0 0 (r1 65 v1 0)) 65 v0 0) 6) ≤ 180) (zG (0 + (wmul ((hset r1 65 v0 0 (r1 65 v1 0)) 65 v0 0) 6) ≤ 180) (zG (0 ≤ (wmul ((hset r1 65 v0 0 (r1 65 v1 0)) 65 v0 0) 6)) (zG (0 + (wmul ((hset r1 65 v0 0 (r1 65 v1 0)) 65 v0 0) 6) ≤ 180) (zG (0 + (wmul ((hset r1 65 v0 0 (r1 65 v1 0)) 65 v0 0) 6) ≤ 180) (zG (0 ≤ (wmul ((hset r1 65 v0 0 (r1 65 v1 0)) 65 v0 0) 8)) (zG (0 + (wmul ((hset r1 65 v0 0 (r1 65 v1 0)) 65 v0 0) 8) ≤ 240) (zG (0 + (wmul ((hset r1 65 v0 0 (r1 65 v1 0)) 65 v0 0) 8) ≤ 240) (zG (0 ≤ ((hset r1 65 v0 0 (r1 65 v1 0)) 65 v0 0)) (zG (0 + ((hset r1 65 v0 0 (r1 65 v1 0)) 65 v0 0) ≤ 30) (zG (0 + ((hset r1 65 v0 0 (r1 65 v1 0)) 65 v0 0) ≤ 30) (zG (0 ≤ (wmul ((hset (hset r1 65 v0 0 (r1 65 v1 0)) 66 v0 0 (r1 66 v1 0)) 66 v0 0) 5)) (zG (0 + (wmul ((hset (hset r1 65 v0 0 (r1 65 v1 0)) 66 v0 0 (r1 66 v1 0)) 66 v0 0) 5) ≤ 900) (zG (0 + (wmul ((hset (hset r1 65 v0 0 (r1 65 v1 0)) 66 v0 0 (r1 66 v1 0)) 66 v0 0) 5) ≤ 900) (some (hcpy (hcpy (hcpy (hcpy (hcpy (hset (hset r1 65 v0 0 (r1 65 v1 0)) 66 v0 0 (r1 66 v1 0)) 68 v0 68 v1 0 0 (wmul ((hset r1 65 v0 0 (r1 65 v1 0)) 65 v0 0) 6)) 69 v0 69 v1 0 0 (wmul ((hset r1 65 v0 0 (r1 65 v1 0)) 65 v0 0) 6)) 70 v0 70 v1 0 0 (wmul ((hset r1 65 v0 0 (r1 65 v1 0)) 65 v0 0) 8)) 72 v0 72 v1 0 0 ((hset r1 65 v0 0 (r1 65 v1 0)) 65 v0 0)) 71 v0 71 v1 0 0 (wmul ((hset (hset r1 65 v0 0 (r1 65 v1 0)) 66 v0 0 (r1 66 v1 0)) 66 v0 0) 5)))))))))))))))))
set_option maxRecDepth 100000 in
theorem S71 {spec : zRn zH2} {hm : zHM} {o : Int → Int} {d : Nat} (hd : 2 ≤ d) (v0 : Int) (v1 : Int) (h : zHC) (v : zHC) (e : F71 v0 v1 h = some v) : zRu2 spec d 71 [(11, v0), (11, v1)] (h, hm, o) none (v, hm, o) := by
  refine zF_in (D := 1) (mx := 2) (L := [some (11, v0), some (11, v1)]) (by decide +kernel) rfl rfl hd (fun d hd => ?_)
  unfold F71 at e
  obtain ⟨r1, q1, e⟩ := zB_s e
  refine zF_blk (m := []) (d := 0) (b := B71_0) (gs := []) (c' := (2, [some (11, v0), some (11, v1)], [(11, v1), (11, v0)], (h, hm, o))) K71_0 rfl trivial ?_
  refine zF_call (k := 72) (cl := 1) (n := 2) (i := .invokevirtual 51) (args := [(11, v0), (11, v1)]) (rest := []) (g1 := (r1, hm, o)) (r1 := none) (by decide +kernel) rfl rfl rfl (st' := []) rfl (S72 (Nat.le_trans (by decide) hd) v0 v1 h _ q1) ?_
  obtain ⟨q2, e⟩ := zG_s e
  obtain ⟨q3, e⟩ := zG_s e
  obtain ⟨q3, e⟩ := zG_s e
  obtain ⟨q2, e⟩ := zG_s e
  obtain ⟨q3, e⟩ := zG_s e
  obtain ⟨q3, e⟩ := zG_s e
  obtain ⟨q4, e⟩ := zG_s e
  obtain ⟨q5, e⟩ := zG_s e
  obtain ⟨q5, e⟩ := zG_s e
  obtain ⟨q6, e⟩ := zG_s e
  obtain ⟨q7, e⟩ := zG_s e
  obtain ⟨q7, e⟩ := zG_s e
  obtain ⟨q8, e⟩ := zG_s e
  obtain ⟨q9, e⟩ := zG_s e
  obtain ⟨q9, e⟩ := zG_s e
  refine zF_blk (m := []) (d := 0) (b := B71_1) (gs := [0 ≤ 0, 0 ≤ 0, 0 ≤ (wmul ((hset r1 65 v0 0 (r1 65 v1 0)) 65 v0 0) 6), 0 + (wmul ((hset r1 65 v0 0 (r1 65 v1 0)) 65 v0 0) 6) ≤ 180, 0 + (wmul ((hset r1 65 v0 0 (r1 65 v1 0)) 65 v0 0) 6) ≤ 180, 0 ≤ 0, 0 ≤ 0, 0 ≤ (wmul ((hset r1 65 v0 0 (r1 65 v1 0)) 65 v0 0) 6), 0 + (wmul ((hset r1 65 v0 0 (r1 65 v1 0)) 65 v0 0) 6) ≤ 180, 0 + (wmul ((hset r1 65 v0 0 (r1 65 v1 0)) 65 v0 0) 6) ≤ 180, 0 ≤ 0, 0 ≤ 0, 0 ≤ (wmul ((hset r1 65 v0 0 (r1 65 v1 0)) 65 v0 0) 8), 0 + (wmul ((hset r1 65 v0 0 (r1 65 v1 0)) 65 v0 0) 8) ≤ 240, 0 + (wmul ((hset r1 65 v0 0 (r1 65 v1 0)) 65 v0 0) 8) ≤ 240, 0 ≤ 0, 0 ≤ 0, 0 ≤ ((hset r1 65 v0 0 (r1 65 v1 0)) 65 v0 0), 0 + ((hset r1 65 v0 0 (r1 65 v1 0)) 65 v0 0) ≤ 30, 0 + ((hset r1 65 v0 0 (r1 65 v1 0)) 65 v0 0) ≤ 30, 0 ≤ 0, 0 ≤ 0, 0 ≤ (wmul ((hset (hset r1 65 v0 0 (r1 65 v1 0)) 66 v0 0 (r1 66 v1 0)) 66 v0 0) 5), 0 + (wmul ((hset (hset r1 65 v0 0 (r1 65 v1 0)) 66 v0 0 (r1 66 v1 0)) 66 v0 0) 5) ≤ 900, 0 + (wmul ((hset (hset r1 65 v0 0 (r1 65 v1 0)) 66 v0 0 (r1 66 v1 0)) 66 v0 0) 5) ≤ 900]) (c' := (117, [some (11, v0), some (11, v1)], [], ((hcpy (hcpy (hcpy (hcpy (hcpy (hset (hset r1 65 v0 0 (r1 65 v1 0)) 66 v0 0 (r1 66 v1 0)) 68 v0 68 v1 0 0 (wmul ((hset r1 65 v0 0 (r1 65 v1 0)) 65 v0 0) 6)) 69 v0 69 v1 0 0 (wmul ((hset r1 65 v0 0 (r1 65 v1 0)) 65 v0 0) 6)) 70 v0 70 v1 0 0 (wmul ((hset r1 65 v0 0 (r1 65 v1 0)) 65 v0 0) 8)) 72 v0 72 v1 0 0 ((hset r1 65 v0 0 (r1 65 v1 0)) 65 v0 0)) 71 v0 71 v1 0 0 (wmul ((hset (hset r1 65 v0 0 (r1 65 v1 0)) 66 v0 0 (r1 66 v1 0)) 66 v0 0) 5)), hm, o))) K71_1 rfl ⟨by decide, by decide, q2, q3, q3, by decide, by decide, q2, q3, q3, by decide, by decide, q4, q5, q5, by decide, by decide, q6, q7, q7, by decide, by decide, q8, q9, q9, trivial⟩ ?_
  obtain rfl := Option.some.inj e
  exact zF_rv (by decide +kernel)
def B70_0 : List zRow := [(9, .aload_n 0, 1, (0, 0, 0)), (10, .aload_n 0, 1, (0, 0, 0)), (11, .getfield 22, 3, (8, 1, 0)), (14, .iconst 1, 1, (0, 0, 0)), (15, .iadd, 1, (0, 0, 0)), (16, .bipush 8, 2, (0, 0, 0)), (18, .irem, 1, (0, 0, 0)), (19, .putfield 22, 3, (8, 1, 0)), (22, .aload_n 0, 1, (0, 0, 0)), (23, .dup, 1, (0, 0, 0)), (24, .getfield 18, 3, (8, 0, 0)), (27, .iconst 1, 1, (0, 0, 0)), (28, .isub, 1, (0, 0, 0)), (29, .putfield 18, 3, (8, 0, 0))]
theorem K70_0 : zRk 70 B70_0 = true := by decide +kernel
def B70_1 : List zRow := [(0, .aload_n 0, 1, (0, 0, 0)), (1, .getfield 18, 3, (8, 0, 0)), (4, .bipush 8, 2, (0, 0, 0)), (6, .if_icmp .ne 26, 3, (0, 0, 0))]
theorem K70_1 : zRk 70 B70_1 = true := by decide +kernel
def B70_2 : List zRow := [(32, .aload_n 0, 1, (0, 0, 0)), (33, .getfield 11, 3, (8, 2, 6029346)), (36, .aload_n 0, 1, (0, 0, 0)), (37, .getfield 22, 3, (8, 1, 0)), (40, .aload_n 0, 1, (0, 0, 0)), (41, .getfield 18, 3, (8, 0, 0)), (44, .iadd, 1, (0, 0, 0)), (45, .bipush 8, 2, (0, 0, 0)), (47, .irem, 1, (0, 0, 0)), (48, .aaload, 1, (23, 0, 0)), (49, .aload_n 1, 1, (0, 0, 0))]
theorem K70_2 : zRk 70 B70_2 = true := by decide +kernel
def B70_3 : List zRow := [(53, .aload_n 0, 1, (0, 0, 0)), (54, .dup, 1, (0, 0, 0)), (55, .getfield 18, 3, (8, 0, 0)), (58, .iconst 1, 1, (0, 0, 0)), (59, .iadd, 1, (0, 0, 0)), (60, .putfield 18, 3, (8, 0, 0))]
theorem K70_3 : zRk 70 B70_3 = true := by decide +kernel
def F70_0 (v1 : Int) (h : zHC) : Option zHC := zG (0 ≤ (wrem (wadd (h 513 0 0) (h 512 0 0)) 8) ∧ (wrem (wadd (h 513 0 0) (h 512 0 0)) 8) < 8) ((F71 (2 + (wrem (wadd (h 513 0 0) (h 512 0 0)) 8)) v1 h).bind fun r1 => some (hset r1 512 0 0 (wadd (r1 512 0 0) 1)))
set_option maxRecDepth 100000 in
theorem T70_0 {spec : zRn zH2} {hm : zHM} {o : Int → Int} {d : Nat} (hd : 2 ≤ d) (v1 : Int) (h : zHC) (v : zHC) (e : F70_0 v1 h = some v) : zFin 0 (fun _ => 0) (zRu2 spec d) 70 none (v, hm, o) (32, [some (18, 0), some (11, v1)], [], (h, hm, o)) := by
  unfold F70_0 at e
  obtain ⟨q1, e⟩ := zG_s e
  obtain ⟨r1, q2, e⟩ := zB_s e
  refine zF_blk (m := []) (d := 0) (b := B70_2) (gs := [¬ 8 = 0, 0 ≤ (wrem (wadd (h 513 0 0) (h 512 0 0)) 8) ∧ (wrem (wadd (h 513 0 0) (h 512 0 0)) 8) < 8]) (c' := (50, [some (18, 0), some (11, v1)], [(11, v1), (11, (2 + (wrem (wadd (h 513 0 0) (h 512 0 0)) 8)))], (h, hm, o))) K70_2 rfl ⟨by decide, q1, trivial⟩ ?_
  refine zF_call (k := 71) (cl := 1) (n := 2) (i := .invokevirtual 25) (args := [(11, (2 + (wrem (wadd (h 513 0 0) (h 512 0 0)) 8))), (11, v1)]) (rest := []) (g1 := (r1, hm, o)) (r1 := none) (by decide +kernel) rfl rfl rfl (st' := []) rfl (S71 (Nat.le_trans (by decide) hd) (2 + (wrem (wadd (h 513 0 0) (h 512 0 0)) 8)) v1 h _ q2) ?_
  refine zF_blk (m := []) (d := 0) (b := B70_3) (gs := []) (c' := (63, [some (18, 0), some (11, v1)], [], ((hset r1 512 0 0 (wadd (r1 512 0 0) 1)), hm, o))) K70_3 rfl trivial ?_
  obtain rfl := Option.some.inj e
  exact zF_rv (by decide +kernel)
/-- EchoVale$Undo.keep(LEchoVale$Course;)V -/
def F70 (v1 : Int) (h : zHC) : Option zHC := if ¬ (h 512 0 0) = 8 then F70_0 v1 h else F70_0 v1 (hset (hset h 513 0 0 (wrem (wadd (h 513 0 0) 1) 8)) 512 0 0 (wsub (h 512 0 0) 1))
set_option maxRecDepth 100000 in
theorem S70 {spec : zRn zH2} {hm : zHM} {o : Int → Int} {d : Nat} (hd : 3 ≤ d) (v1 : Int) (h : zHC) (v : zHC) (e : F70 v1 h = some v) : zRu2 spec d 70 [(18, 0), (11, v1)] (h, hm, o) none (v, hm, o) := by
  refine zF_in (D := 2) (mx := 2) (L := [some (18, 0), some (11, v1)]) (by decide +kernel) rfl rfl hd (fun d hd => ?_)
  unfold F70 at e
  rcases zI_s e with ⟨q1, e⟩ | ⟨q1, e⟩
  · refine zF_blk (m := []) (d := 1) (b := B70_1) (gs := [¬ (h 512 0 0) = 8]) (c' := (32, [some (18, 0), some (11, v1)], [], (h, hm, o))) K70_1 rfl ⟨q1, trivial⟩ ?_
    exact T70_0 hd v1 h _ e
  · refine zF_blk (m := []) (d := 0) (b := B70_1) (gs := [¬ (¬ (h 512 0 0) = 8)]) (c' := (9, [some (18, 0), some (11, v1)], [], (h, hm, o))) K70_1 rfl ⟨q1, trivial⟩ ?_
    refine zF_blk (m := []) (d := 0) (b := B70_0) (gs := [¬ 8 = 0]) (c' := (32, [some (18, 0), some (11, v1)], [], ((hset (hset h 513 0 0 (wrem (wadd (h 513 0 0) 1) 8)) 512 0 0 (wsub (h 512 0 0) 1)), hm, o))) K70_0 rfl ⟨by decide, trivial⟩ ?_
    exact T70_0 hd v1 (hset (hset h 513 0 0 (wrem (wadd (h 513 0 0) 1) 8)) 512 0 0 (wsub (h 512 0 0) 1)) _ e
def B68_0 : List zRow := [(0, .aload_n 0, 1, (0, 0, 0)), (1, .iload_n 1, 1, (0, 0, 0))]
theorem K68_0 : zRk 68 B68_0 = true := by decide +kernel
def B68_1 : List zRow := [(19, .iconst 0, 1, (0, 0, 0))]
theorem K68_1 : zRk 68 B68_1 = true := by decide +kernel
def B68_2 : List zRow := [(8, .aload_n 0, 1, (0, 0, 0)), (9, .getfield 19, 3, (11, 1, 39)), (12, .iload_n 2, 1, (0, 0, 0))]
theorem K68_2 : zRk 68 B68_2 = true := by decide +kernel
def B68_3 : List zRow := [(21, .aload_n 0, 1, (0, 0, 0)), (22, .getfield 66, 3, (11, 8, 35)), (25, .aload_n 0, 1, (0, 0, 0)), (26, .getfield 56, 3, (11, 6, 7))]
theorem K68_3 : zRk 68 B68_3 = true := by decide +kernel
def B68_4 : List zRow := [(32, .aload_n 0, 1, (0, 0, 0)), (33, .getfield 56, 3, (11, 6, 7)), (36, .getfield 177, 3, (1, 3, 5242906)), (39, .iload_n 1, 1, (0, 0, 0)), (40, .iload_n 2, 1, (0, 0, 0)), (41, .iastore, 1, (0, 0, 0)), (42, .iconst 1, 1, (0, 0, 0))]
theorem K68_4 : zRk 68 B68_4 = true := by decide +kernel
def B68_5 : List zRow := [(16, .ifCond .ne 5, 3, (0, 0, 0))]
theorem K68_5 : zRk 68 B68_5 = true := by decide +kernel
def B68_6 : List zRow := [(5, .ifCond .eq 14, 3, (0, 0, 0))]
theorem K68_6 : zRk 68 B68_6 = true := by decide +kernel
/-- EchoVale.goes(II)Z -/
def F68 (v1 : Int) (v2 : Int) (h : zHC) : Option (Int × zHC) := (F61 v1 h).bind fun r1 => if r1 = 0 then some (0, h) else (F69 0 v2 h).bind fun r2 => if ¬ r2 = 0 then (F70 0 h).bind fun r3 => zG (0 ≤ v1 ∧ v1 < 6) (some (1, (hset r3 67 0 v1 v2))) else some (0, h)
set_option maxRecDepth 100000 in
theorem S68 {spec : zRn zH2} {hm : zHM} {o : Int → Int} {d : Nat} (hd : 4 ≤ d) (v1 : Int) (v2 : Int) (h : zHC) (v : (Int × zHC)) (e : F68 v1 v2 h = some v) : zRu2 spec d 68 [(21, 0), (0, v1), (0, v2)] (h, hm, o) (some (0, v.1)) (v.2, hm, o) := by
  refine zF_in (D := 3) (mx := 3) (L := [some (21, 0), some (0, v1), some (0, v2)]) (by decide +kernel) rfl rfl hd (fun d hd => ?_)
  unfold F68 at e
  obtain ⟨r1, q1, e⟩ := zB_s e
  refine zF_blk (m := []) (d := 0) (b := B68_0) (gs := []) (c' := (2, [some (21, 0), some (0, v1), some (0, v2)], [(0, v1), (21, 0)], (h, hm, o))) K68_0 rfl trivial ?_
  refine zF_call (k := 61) (cl := 11) (n := 2) (i := .invokevirtual 172) (args := [(21, 0), (0, v1)]) (rest := []) (g1 := (h, hm, o)) (r1 := some (0, r1)) (by decide +kernel) rfl rfl rfl (st' := [(0, r1)]) rfl (S61 (Nat.le_trans (by decide) hd) v1 h _ q1) ?_
  rcases zI_s e with ⟨q2, e⟩ | ⟨q2, e⟩
  · refine zF_blk (m := []) (d := 1) (b := B68_6) (gs := [r1 = 0]) (c' := (19, [some (21, 0), some (0, v1), some (0, v2)], [], (h, hm, o))) K68_6 rfl ⟨q2, trivial⟩ ?_
    refine zF_blk (m := []) (d := 0) (b := B68_1) (gs := []) (c' := (20, [some (21, 0), some (0, v1), some (0, v2)], [(0, 0)], (h, hm, o))) K68_1 rfl trivial ?_
    exact zF_rbC (by decide +kernel) (Or.inl rfl) e
  · refine zF_blk (m := []) (d := 0) (b := B68_6) (gs := [¬ (r1 = 0)]) (c' := (8, [some (21, 0), some (0, v1), some (0, v2)], [], (h, hm, o))) K68_6 rfl ⟨q2, trivial⟩ ?_
    obtain ⟨r2, q3, e⟩ := zB_s e
    refine zF_blk (m := []) (d := 0) (b := B68_2) (gs := []) (c' := (13, [some (21, 0), some (0, v1), some (0, v2)], [(0, v2), (19, 0)], (h, hm, o))) K68_2 rfl trivial ?_
    refine zF_call (k := 69) (cl := 9) (n := 2) (i := .invokevirtual 214) (args := [(19, 0), (0, v2)]) (rest := []) (g1 := (h, hm, o)) (r1 := some (0, r2)) (by decide +kernel) rfl rfl rfl (st' := [(0, r2)]) rfl (S69 (Nat.le_trans (by decide) hd) 0 v2 h _ q3) ?_
    rcases zI_s e with ⟨q4, e⟩ | ⟨q4, e⟩
    · refine zF_blk (m := []) (d := 1) (b := B68_5) (gs := [¬ r2 = 0]) (c' := (21, [some (21, 0), some (0, v1), some (0, v2)], [], (h, hm, o))) K68_5 rfl ⟨q4, trivial⟩ ?_
      obtain ⟨r3, q5, e⟩ := zB_s e
      refine zF_blk (m := []) (d := 0) (b := B68_3) (gs := []) (c' := (29, [some (21, 0), some (0, v1), some (0, v2)], [(11, 0), (18, 0)], (h, hm, o))) K68_3 rfl trivial ?_
      refine zF_call (k := 70) (cl := 8) (n := 2) (i := .invokevirtual 217) (args := [(18, 0), (11, 0)]) (rest := []) (g1 := (r3, hm, o)) (r1 := none) (by decide +kernel) rfl rfl rfl (st' := []) rfl (S70 (Nat.le_trans (by decide) hd) 0 h _ q5) ?_
      obtain ⟨q6, e⟩ := zG_s e
      refine zF_blk (m := []) (d := 0) (b := B68_4) (gs := [0 ≤ v1 ∧ v1 < 6]) (c' := (43, [some (21, 0), some (0, v1), some (0, v2)], [(0, 1)], ((hset r3 67 0 v1 v2), hm, o))) K68_4 rfl ⟨q6, trivial⟩ ?_
      exact zF_rbC (by decide +kernel) (Or.inr rfl) e
    · refine zF_blk (m := []) (d := 0) (b := B68_5) (gs := [¬ (¬ r2 = 0)]) (c' := (19, [some (21, 0), some (0, v1), some (0, v2)], [], (h, hm, o))) K68_5 rfl ⟨q4, trivial⟩ ?_
      refine zF_blk (m := []) (d := 0) (b := B68_1) (gs := []) (c' := (20, [some (21, 0), some (0, v1), some (0, v2)], [(0, 0)], (h, hm, o))) K68_1 rfl trivial ?_
      exact zF_rbC (by decide +kernel) (Or.inl rfl) e
def B224_0 : List zRow := [(34, .iconst 0, 1, (0, 0, 0))]
theorem K224_0 : zRk 224 B224_0 = true := by decide +kernel
def B224_1 : List zRow := [(30, .iconst 1, 1, (0, 0, 0)), (31, .goto 4, 3, (0, 0, 0))]
theorem K224_1 : zRk 224 B224_1 = true := by decide +kernel
def B224_2 : List zRow := [(17, .iload_n 1, 1, (0, 0, 0)), (18, .bipush 10, 2, (0, 0, 0)), (20, .idiv, 1, (0, 0, 0)), (21, .aload_n 0, 1, (0, 0, 0)), (22, .getfield 13, 3, (12, 14, 5251442)), (25, .iconst 1, 1, (0, 0, 0)), (26, .iaload, 1, (0, 0, 0)), (27, .if_icmp .ge 7, 3, (0, 0, 0))]
theorem K224_2 : zRk 224 B224_2 = true := by decide +kernel
def B224_3 : List zRow := [(4, .iload_n 1, 1, (0, 0, 0)), (5, .bipush 10, 2, (0, 0, 0)), (7, .irem, 1, (0, 0, 0)), (8, .aload_n 0, 1, (0, 0, 0)), (9, .getfield 13, 3, (12, 14, 5251442)), (12, .iconst 0, 1, (0, 0, 0)), (13, .iaload, 1, (0, 0, 0)), (14, .if_icmp .ge 20, 3, (0, 0, 0))]
theorem K224_3 : zRk 224 B224_3 = true := by decide +kernel
def B224_4 : List zRow := [(0, .iload_n 1, 1, (0, 0, 0)), (1, .ifCond .lt 33, 3, (0, 0, 0))]
theorem K224_4 : zRk 224 B224_4 = true := by decide +kernel
/-- EchoValeModel.isAt(I)Z -/
def F224 (v1 : Int) (h : zHM) : Option Int := if v1 < 0 then some 0 else if (h 14 0) ≤ (wrem v1 10) then some 0 else if (h 14 1) ≤ (wdiv v1 10) then some 0 else some 1
set_option maxRecDepth 100000 in
theorem S224 {spec : zRn zH2} {hc : zHC} {o : Int → Int} {d : Nat} (hd : 1 ≤ d) (v1 : Int) (h : zHM) (v : Int) (e : F224 v1 h = some v) : zRu2 spec d 224 [(22, 0), (0, v1)] (hc, h, o) (some (0, v)) (hc, h, o) := by
  refine zF_in (D := 0) (mx := 2) (L := [some (22, 0), some (0, v1)]) (by decide +kernel) rfl rfl hd (fun d hd => ?_)
  unfold F224 at e
  rcases zI_s e with ⟨q1, e⟩ | ⟨q1, e⟩
  · refine zF_blk (m := []) (d := 1) (b := B224_4) (gs := [v1 < 0]) (c' := (34, [some (22, 0), some (0, v1)], [], (hc, h, o))) K224_4 rfl ⟨q1, trivial⟩ ?_
    refine zF_blk (m := []) (d := 0) (b := B224_0) (gs := []) (c' := (35, [some (22, 0), some (0, v1)], [(0, 0)], (hc, h, o))) K224_0 rfl trivial ?_
    obtain rfl := Option.some.inj e
    exact zF_rb (by decide +kernel) (Or.inl rfl)
  · refine zF_blk (m := []) (d := 0) (b := B224_4) (gs := [¬ (v1 < 0)]) (c' := (4, [some (22, 0), some (0, v1)], [], (hc, h, o))) K224_4 rfl ⟨q1, trivial⟩ ?_
    rcases zI_s e with ⟨q2, e⟩ | ⟨q2, e⟩
    · refine zF_blk (m := []) (d := 1) (b := B224_3) (gs := [¬ 10 = 0, 0 ≤ 0 ∧ 0 < 2140, (h 14 0) ≤ (wrem v1 10)]) (c' := (34, [some (22, 0), some (0, v1)], [], (hc, h, o))) K224_3 rfl ⟨by decide, by decide, q2, trivial⟩ ?_
      refine zF_blk (m := []) (d := 0) (b := B224_0) (gs := []) (c' := (35, [some (22, 0), some (0, v1)], [(0, 0)], (hc, h, o))) K224_0 rfl trivial ?_
      obtain rfl := Option.some.inj e
      exact zF_rb (by decide +kernel) (Or.inl rfl)
    · refine zF_blk (m := []) (d := 0) (b := B224_3) (gs := [¬ 10 = 0, 0 ≤ 0 ∧ 0 < 2140, ¬ ((h 14 0) ≤ (wrem v1 10))]) (c' := (17, [some (22, 0), some (0, v1)], [], (hc, h, o))) K224_3 rfl ⟨by decide, by decide, q2, trivial⟩ ?_
      rcases zI_s e with ⟨q3, e⟩ | ⟨q3, e⟩
      · refine zF_blk (m := []) (d := 1) (b := B224_2) (gs := [¬ 10 = 0, 0 ≤ 1 ∧ 1 < 2140, (h 14 1) ≤ (wdiv v1 10)]) (c' := (34, [some (22, 0), some (0, v1)], [], (hc, h, o))) K224_2 rfl ⟨by decide, by decide, q3, trivial⟩ ?_
        refine zF_blk (m := []) (d := 0) (b := B224_0) (gs := []) (c' := (35, [some (22, 0), some (0, v1)], [(0, 0)], (hc, h, o))) K224_0 rfl trivial ?_
        obtain rfl := Option.some.inj e
        exact zF_rb (by decide +kernel) (Or.inl rfl)
      · refine zF_blk (m := []) (d := 0) (b := B224_2) (gs := [¬ 10 = 0, 0 ≤ 1 ∧ 1 < 2140, ¬ ((h 14 1) ≤ (wdiv v1 10))]) (c' := (30, [some (22, 0), some (0, v1)], [], (hc, h, o))) K224_2 rfl ⟨by decide, by decide, q3, trivial⟩ ?_
        refine zF_blk (m := []) (d := 0) (b := B224_1) (gs := []) (c' := (35, [some (22, 0), some (0, v1)], [(0, 1)], (hc, h, o))) K224_1 rfl trivial ?_
        obtain rfl := Option.some.inj e
        exact zF_rb (by decide +kernel) (Or.inr rfl)
def B225_0 : List zRow := [(9, .sipush 1689, 3, (0, 0, 0)), (12, .istore_n 1, 1, (0, 0, 0))]
theorem K225_0 : zRk 225 B225_0 = true := by decide +kernel
def B225_1 : List zRow := [(0, .aload_n 0, 1, (0, 0, 0)), (1, .getfield 232, 3, (12, 23, 0)), (4, .bipush 8, 2, (0, 0, 0)), (6, .if_icmp .ne 46, 3, (0, 0, 0))]
theorem K225_1 : zRk 225 B225_1 = true := by decide +kernel
def B225_2 : List zRow := [(42, .aload_n 0, 1, (0, 0, 0)), (43, .dup, 1, (0, 0, 0)), (44, .getfield 232, 3, (12, 23, 0)), (47, .iconst 1, 1, (0, 0, 0)), (48, .isub, 1, (0, 0, 0)), (49, .putfield 232, 3, (12, 23, 0))]
theorem K225_2 : zRk 225 B225_2 = true := by decide +kernel
def B225_3 : List zRow := [(20, .aload_n 0, 1, (0, 0, 0)), (21, .getfield 22, 3, (12, 17, 5296930)), (24, .iload_n 1, 1, (0, 0, 0)), (25, .sipush 1689, 3, (0, 0, 0)), (28, .isub, 1, (0, 0, 0)), (29, .aload_n 0, 1, (0, 0, 0)), (30, .getfield 22, 3, (12, 17, 5296930)), (33, .iload_n 1, 1, (0, 0, 0)), (34, .iaload, 1, (0, 0, 0)), (35, .iastore, 1, (0, 0, 0)), (36, .iinc 1 1, 3, (0, 0, 0)), (39, .goto (-26), 3, (0, 0, 0))]
theorem K225_3 : zRk 225 B225_3 = true := by decide +kernel
def B225_4 : List zRow := [(13, .iload_n 1, 1, (0, 0, 0)), (14, .sipush 13512, 3, (0, 0, 0)), (17, .if_icmp .ge 25, 3, (0, 0, 0))]
theorem K225_4 : zRk 225 B225_4 = true := by decide +kernel
def B225_5 : List zRow := [(52, .iconst 0, 1, (0, 0, 0)), (53, .istore_n 1, 1, (0, 0, 0))]
theorem K225_5 : zRk 225 B225_5 = true := by decide +kernel
def B225_6 : List zRow := [(92, .aload_n 0, 1, (0, 0, 0)), (93, .dup, 1, (0, 0, 0)), (94, .getfield 232, 3, (12, 23, 0)), (97, .iconst 1, 1, (0, 0, 0)), (98, .iadd, 1, (0, 0, 0)), (99, .putfield 232, 3, (12, 23, 0))]
theorem K225_6 : zRk 225 B225_6 = true := by decide +kernel
def B225_7 : List zRow := [(61, .aload_n 0, 1, (0, 0, 0)), (62, .getfield 22, 3, (12, 17, 5296930)), (65, .sipush 1689, 3, (0, 0, 0)), (68, .aload_n 0, 1, (0, 0, 0)), (69, .getfield 232, 3, (12, 23, 0))]
theorem K225_7 : zRk 225 B225_7 = true := by decide +kernel
def B225_8 : List zRow := [(72, .imul, 1, (0, 0, 0)), (73, .iload_n 1, 1, (0, 0, 0)), (74, .iadd, 1, (0, 0, 0)), (75, .aload_n 0, 1, (0, 0, 0)), (76, .getfield 13, 3, (12, 14, 5251442)), (79, .sipush 209, 3, (0, 0, 0)), (82, .iload_n 1, 1, (0, 0, 0))]
theorem K225_8 : zRk 225 B225_8 = true := by decide +kernel
def B225_9 : List zRow := [(83, .iadd, 1, (0, 0, 0)), (84, .iaload, 1, (0, 0, 0)), (85, .iastore, 1, (0, 0, 0)), (86, .iinc 1 1, 3, (0, 0, 0)), (89, .goto (-35), 3, (0, 0, 0))]
theorem K225_9 : zRk 225 B225_9 = true := by decide +kernel
def B225_10 : List zRow := [(54, .iload_n 1, 1, (0, 0, 0)), (55, .sipush 1689, 3, (0, 0, 0)), (58, .if_icmp .ge 34, 3, (0, 0, 0))]
theorem K225_10 : zRk 225 B225_10 = true := by decide +kernel
def F225_2 : Nat → Int → zHM → Option zHM
  | 0, _, _ => none
  | n + 1, v1, h => if 1689 ≤ v1 then some (mset h 23 0 (wadd (h 23 0) 1)) else zG (0 ≤ (wadd 209 v1) ∧ (wadd 209 v1) < 2140) (zG (0 ≤ (wadd (wmul 1689 (h 23 0)) v1) ∧ (wadd (wmul 1689 (h 23 0)) v1) < 13512) ((F225_2 n) (wadd v1 1) (mset h 17 (wadd (wmul 1689 (h 23 0)) v1) (h 14 (wadd 209 v1)))))
set_option maxRecDepth 100000 in
theorem T225_2 {spec : zRn zH2} {hc : zHC} {o : Int → Int} {d : Nat} (hd : 0 ≤ d) : ∀ (n : Nat) (v1 : Int) (h : zHM) (v : zHM), F225_2 n v1 h = some v → zFin 0 (fun _ => 0) (zRu2 spec d) 225 none (hc, v, o) (54, [some (22, 0), some (0, v1)], [], (hc, h, o)) := by
  intro n
  induction n with
  | zero => intro v1 h v e; unfold F225_2 at e; cases e
  | succ n hk0 =>
    intro v1 h v e
    unfold F225_2 at e
    rcases zI_s e with ⟨q1, e⟩ | ⟨q1, e⟩
    · refine zF_blk (m := []) (d := 1) (b := B225_10) (gs := [1689 ≤ v1]) (c' := (92, [some (22, 0), some (0, v1)], [], (hc, h, o))) K225_10 rfl ⟨q1, trivial⟩ ?_
      refine zF_blk (m := []) (d := 0) (b := B225_6) (gs := []) (c' := (102, [some (22, 0), some (0, v1)], [], (hc, (mset h 23 0 (wadd (h 23 0) 1)), o))) K225_6 rfl trivial ?_
      obtain rfl := Option.some.inj e
      exact zF_rv (by decide +kernel)
    · refine zF_blk (m := []) (d := 0) (b := B225_10) (gs := [¬ (1689 ≤ v1)]) (c' := (61, [some (22, 0), some (0, v1)], [], (hc, h, o))) K225_10 rfl ⟨q1, trivial⟩ ?_
      obtain ⟨q2, e⟩ := zG_s e
      obtain ⟨q3, e⟩ := zG_s e
      refine zF_blk (m := []) (d := 0) (b := B225_7) (gs := []) (c' := (72, [some (22, 0), some (0, v1)], [(0, (h 23 0)), (0, 1689), (1356015353, 0)], (hc, h, o))) K225_7 rfl trivial ?_
      refine zF_blk (m := []) (d := 0) (b := B225_8) (gs := []) (c' := (83, [some (22, 0), some (0, v1)], [(0, v1), (0, 209), (1344370422, 0), (0, (wadd (wmul 1689 (h 23 0)) v1)), (1356015353, 0)], (hc, h, o))) K225_8 rfl trivial ?_
      refine zF_blk (m := []) (d := 0) (b := B225_9) (gs := [0 ≤ (wadd 209 v1) ∧ (wadd 209 v1) < 2140, 0 ≤ (wadd (wmul 1689 (h 23 0)) v1) ∧ (wadd (wmul 1689 (h 23 0)) v1) < 13512]) (c' := (54, [some (22, 0), some (0, (wadd v1 1))], [], (hc, (mset h 17 (wadd (wmul 1689 (h 23 0)) v1) (h 14 (wadd 209 v1))), o))) K225_9 rfl ⟨q2, q3, trivial⟩ ?_
      exact hk0 (wadd v1 1) (mset h 17 (wadd (wmul 1689 (h 23 0)) v1) (h 14 (wadd 209 v1))) _ e
def F225_0 (h : zHM) : Option zHM := F225_2 zFu 0 h
set_option maxRecDepth 100000 in
theorem T225_0 {spec : zRn zH2} {hc : zHC} {o : Int → Int} {d : Nat} (hd : 0 ≤ d) (h : zHM) (v : zHM) (e : F225_0 h = some v) : zFin 0 (fun _ => 0) (zRu2 spec d) 225 none (hc, v, o) (52, [some (22, 0), none], [], (hc, h, o)) := by
  unfold F225_0 at e
  refine zF_blk (m := []) (d := 0) (b := B225_5) (gs := []) (c' := (54, [some (22, 0), some (0, 0)], [], (hc, h, o))) K225_5 rfl trivial ?_
  exact T225_2 hd zFu 0 h _ e
def F225_1 : Nat → Int → zHM → Option zHM
  | 0, _, _ => none
  | n + 1, v1, h => if 13512 ≤ v1 then F225_0 (mset h 23 0 (wsub (h 23 0) 1)) else zG (0 ≤ v1 ∧ v1 < 13512) (zG (0 ≤ (wsub v1 1689) ∧ (wsub v1 1689) < 13512) ((F225_1 n) (wadd v1 1) (mset h 17 (wsub v1 1689) (h 17 v1))))
set_option maxRecDepth 100000 in
theorem T225_1 {spec : zRn zH2} {hc : zHC} {o : Int → Int} {d : Nat} (hd : 0 ≤ d) : ∀ (n : Nat) (v1 : Int) (h : zHM) (v : zHM), F225_1 n v1 h = some v → zFin 0 (fun _ => 0) (zRu2 spec d) 225 none (hc, v, o) (13, [some (22, 0), some (0, v1)], [], (hc, h, o)) := by
  intro n
  induction n with
  | zero => intro v1 h v e; unfold F225_1 at e; cases e
  | succ n hk0 =>
    intro v1 h v e
    unfold F225_1 at e
    rcases zI_s e with ⟨q1, e⟩ | ⟨q1, e⟩
    · refine zF_blk (m := []) (d := 1) (b := B225_4) (gs := [13512 ≤ v1]) (c' := (42, [some (22, 0), some (0, v1)], [], (hc, h, o))) K225_4 rfl ⟨q1, trivial⟩ ?_
      refine zF_blk (m := []) (d := 0) (b := B225_2) (gs := []) (c' := (52, [some (22, 0), some (0, v1)], [], (hc, (mset h 23 0 (wsub (h 23 0) 1)), o))) K225_2 rfl trivial ?_
      refine zF_blk (m := [true, false]) (d := 0) (b := []) (gs := []) (c' := (52, [some (22, 0), none], [], (hc, (mset h 23 0 (wsub (h 23 0) 1)), o))) rfl rfl trivial ?_
      exact T225_0 hd (mset h 23 0 (wsub (h 23 0) 1)) _ e
    · refine zF_blk (m := []) (d := 0) (b := B225_4) (gs := [¬ (13512 ≤ v1)]) (c' := (20, [some (22, 0), some (0, v1)], [], (hc, h, o))) K225_4 rfl ⟨q1, trivial⟩ ?_
      obtain ⟨q2, e⟩ := zG_s e
      obtain ⟨q3, e⟩ := zG_s e
      refine zF_blk (m := []) (d := 0) (b := B225_3) (gs := [0 ≤ v1 ∧ v1 < 13512, 0 ≤ (wsub v1 1689) ∧ (wsub v1 1689) < 13512]) (c' := (13, [some (22, 0), some (0, (wadd v1 1))], [], (hc, (mset h 17 (wsub v1 1689) (h 17 v1)), o))) K225_3 rfl ⟨q2, q3, trivial⟩ ?_
      exact hk0 (wadd v1 1) (mset h 17 (wsub v1 1689) (h 17 v1)) _ e
/-- EchoValeModel.snap()V -/
def F225 (h : zHM) : Option zHM := if ¬ (h 23 0) = 8 then F225_0 h else F225_1 zFu 1689 h
set_option maxRecDepth 100000 in
theorem S225 {spec : zRn zH2} {hc : zHC} {o : Int → Int} {d : Nat} (hd : 1 ≤ d) (h : zHM) (v : zHM) (e : F225 h = some v) : zRu2 spec d 225 [(22, 0)] (hc, h, o) none (hc, v, o) := by
  refine zF_in (D := 0) (mx := 2) (L := [some (22, 0), none]) (by decide +kernel) rfl rfl hd (fun d hd => ?_)
  unfold F225 at e
  rcases zI_s e with ⟨q1, e⟩ | ⟨q1, e⟩
  · refine zF_blk (m := []) (d := 1) (b := B225_1) (gs := [¬ (h 23 0) = 8]) (c' := (52, [some (22, 0), none], [], (hc, h, o))) K225_1 rfl ⟨q1, trivial⟩ ?_
    exact T225_0 hd h _ e
  · refine zF_blk (m := []) (d := 0) (b := B225_1) (gs := [¬ (¬ (h 23 0) = 8)]) (c' := (9, [some (22, 0), none], [], (hc, h, o))) K225_1 rfl ⟨q1, trivial⟩ ?_
    refine zF_blk (m := []) (d := 0) (b := B225_0) (gs := []) (c' := (13, [some (22, 0), some (0, 1689)], [], (hc, h, o))) K225_0 rfl trivial ?_
    exact T225_1 hd zFu 1689 h _ e
