/-! Functions of the methods, by wip/gen/lift.py. -/
noncomputable def B229_0 : List zRow := [(0, .aload_n 0, 1, (0, 0, 0)), (1, .getfield 13, 3, (12, 14, 5251442)), (4, .bipush 7, 2, (0, 0, 0)), (6, .iconst 3, 1, (0, 0, 0)), (7, .iload_n 1, 1, (0, 0, 0))]
theorem K229_0 : zRk 229 B229_0 = true := zRw_ok (by decide +kernel)
noncomputable def B229_1 : List zRow := [(8, .imul, 1, (0, 0, 0))]
theorem K229_1 : zRk 229 B229_1 = true := zRw_ok (by decide +kernel)
noncomputable def B229_2 : List zRow := [(9, .iadd, 1, (0, 0, 0)), (10, .iaload, 1, (0, 0, 0))]
theorem K229_2 : zRk 229 B229_2 = true := zRw_ok (by decide +kernel)
/-- EchoValeModel.cliffAt(I)I -/
def F229 (v1 : Int) (h : zHM) : Option Int := zG (0 ≤ (wadd 7 (wmul 3 v1)) ∧ (wadd 7 (wmul 3 v1)) < 2140) (some (h 14 (wadd 7 (wmul 3 v1))))
set_option maxRecDepth 100000 in
theorem S229 {spec : zRn zH2} {hc : zHC} {o : Int → Int} {d : Nat} (hd : 1 ≤ d) (v1 : Int) (h : zHM) (v : Int) (e : F229 v1 h = some v) : zRu2 spec d 229 [(22, 0), (0, v1)] (hc, h, o) (some (0, v)) (hc, h, o) := by
  refine zF_in (D := 0) (mx := 2) (L := [some (22, 0), some (0, v1)]) (by decide +kernel) rfl rfl hd (fun d hd => ?_)
  unfold F229 at e
  obtain ⟨q1, e⟩ := zG_s e
  refine zF_blk (m := []) (d := 0) (b := B229_0) (gs := []) (c' := (8, [some (22, 0), some (0, v1)], [(0, v1), (0, 3), (0, 7), (1344370422, 0)], (hc, h, o))) K229_0 rfl trivial ?_
  refine zF_blk (m := []) (d := 0) (b := B229_1) (gs := []) (c' := (9, [some (22, 0), some (0, v1)], [(0, (wmul 3 v1)), (0, 7), (1344370422, 0)], (hc, h, o))) K229_1 rfl trivial ?_
  refine zF_blk (m := []) (d := 0) (b := B229_2) (gs := [0 ≤ (wadd 7 (wmul 3 v1)) ∧ (wadd 7 (wmul 3 v1)) < 2140]) (c' := (11, [some (22, 0), some (0, v1)], [(0, (h 14 (wadd 7 (wmul 3 v1))))], (hc, h, o))) K229_2 rfl ⟨q1, trivial⟩ ?_
  obtain rfl := Option.some.inj e
  exact zF_ri (zRe1_w (by decide +kernel))
noncomputable def B231_0 : List zRow := [(9, .iload_n 0, 1, (0, 0, 0))]
theorem K231_0 : zRk 231 B231_0 = true := zRw_ok (by decide +kernel)
noncomputable def B231_1 : List zRow := [(4, .iload_n 0, 1, (0, 0, 0)), (5, .ineg, 1, (0, 0, 0)), (6, .goto 4, 3, (0, 0, 0))]
theorem K231_1 : zRk 231 B231_1 = true := zRw_ok (by decide +kernel)
noncomputable def B231_2 : List zRow := [(0, .iload_n 0, 1, (0, 0, 0)), (1, .ifCond .ge 8, 3, (0, 0, 0))]
theorem K231_2 : zRk 231 B231_2 = true := zRw_ok (by decide +kernel)
/-- EchoValeModel.size(I)I -/
def F231 (v0 : Int) : Option Int := if 0 ≤ v0 then some v0 else some (wneg v0)
set_option maxRecDepth 100000 in
theorem S231 {spec : zRn zH2} {hc : zHC} {o : Int → Int} {d : Nat} (hd : 1 ≤ d) (v0 : Int) (h : zHM) (v : Int) (e : F231 v0 = some v) : zRu2 spec d 231 [(0, v0)] (hc, h, o) (some (0, v)) (hc, h, o) := by
  refine zF_in (D := 0) (mx := 1) (L := [some (0, v0)]) (by decide +kernel) rfl rfl hd (fun d hd => ?_)
  unfold F231 at e
  rcases zI_s e with ⟨q1, e⟩ | ⟨q1, e⟩
  · refine zF_blk (m := []) (d := 1) (b := B231_2) (gs := [0 ≤ v0]) (c' := (9, [some (0, v0)], [], (hc, h, o))) K231_2 rfl ⟨q1, trivial⟩ ?_
    refine zF_blk (m := []) (d := 0) (b := B231_0) (gs := []) (c' := (10, [some (0, v0)], [(0, v0)], (hc, h, o))) K231_0 rfl trivial ?_
    obtain rfl := Option.some.inj e
    exact zF_ri (zRe1_w (by decide +kernel))
  · refine zF_blk (m := []) (d := 0) (b := B231_2) (gs := [¬ (0 ≤ v0)]) (c' := (4, [some (0, v0)], [], (hc, h, o))) K231_2 rfl ⟨q1, trivial⟩ ?_
    refine zF_blk (m := []) (d := 0) (b := B231_1) (gs := []) (c' := (10, [some (0, v0)], [(0, (wneg v0))], (hc, h, o))) K231_1 rfl trivial ?_
    obtain rfl := Option.some.inj e
    exact zF_ri (zRe1_w (by decide +kernel))
noncomputable def B230_0 : List zRow := [(0, .iload_n 0, 1, (0, 0, 0)), (1, .bipush 10, 2, (0, 0, 0)), (3, .irem, 1, (0, 0, 0)), (4, .iload_n 1, 1, (0, 0, 0)), (5, .bipush 10, 2, (0, 0, 0)), (7, .irem, 1, (0, 0, 0)), (8, .isub, 1, (0, 0, 0))]
theorem K230_0 : zRk 230 B230_0 = true := zRw_ok (by decide +kernel)
noncomputable def B230_1 : List zRow := [(12, .iload_n 0, 1, (0, 0, 0)), (13, .bipush 10, 2, (0, 0, 0)), (15, .idiv, 1, (0, 0, 0)), (16, .iload_n 1, 1, (0, 0, 0)), (17, .bipush 10, 2, (0, 0, 0)), (19, .idiv, 1, (0, 0, 0)), (20, .isub, 1, (0, 0, 0))]
theorem K230_1 : zRk 230 B230_1 = true := zRw_ok (by decide +kernel)
noncomputable def B230_2 : List zRow := [(24, .iadd, 1, (0, 0, 0))]
theorem K230_2 : zRk 230 B230_2 = true := zRw_ok (by decide +kernel)
/-- EchoValeModel.apart(II)I -/
def F230 (v0 : Int) (v1 : Int) : Option Int := (F231 (wsub (wrem v0 10) (wrem v1 10))).bind fun r1 => (F231 (wsub (wdiv v0 10) (wdiv v1 10))).bind fun r2 => some (wadd r1 r2)
set_option maxRecDepth 100000 in
theorem S230 {spec : zRn zH2} {hc : zHC} {o : Int → Int} {d : Nat} (hd : 2 ≤ d) (v0 : Int) (v1 : Int) (h : zHM) (v : Int) (e : F230 v0 v1 = some v) : zRu2 spec d 230 [(0, v0), (0, v1)] (hc, h, o) (some (0, v)) (hc, h, o) := by
  refine zF_in (D := 1) (mx := 2) (L := [some (0, v0), some (0, v1)]) (by decide +kernel) rfl rfl hd (fun d hd => ?_)
  unfold F230 at e
  obtain ⟨r1, q1, e⟩ := zB_s e
  refine zF_blk (m := []) (d := 0) (b := B230_0) (gs := [¬ 10 = 0, ¬ 10 = 0]) (c' := (9, [some (0, v0), some (0, v1)], [(0, (wsub (wrem v0 10) (wrem v1 10)))], (hc, h, o))) K230_0 rfl ⟨by decide, by decide, trivial⟩ ?_
  refine zF_call (k := 231) (cl := 12) (n := 1) (i := .invokestatic 92) (args := [(0, (wsub (wrem v0 10) (wrem v1 10)))]) (rest := []) (g1 := (hc, h, o)) (r1 := some (0, r1)) (zCk1_w (by decide +kernel)) rfl rfl rfl (st' := [(0, r1)]) rfl (S231 (Nat.le_trans (by decide) hd) (wsub (wrem v0 10) (wrem v1 10)) h _ q1) ?_
  obtain ⟨r2, q2, e⟩ := zB_s e
  refine zF_blk (m := []) (d := 0) (b := B230_1) (gs := [¬ 10 = 0, ¬ 10 = 0]) (c' := (21, [some (0, v0), some (0, v1)], [(0, (wsub (wdiv v0 10) (wdiv v1 10))), (0, r1)], (hc, h, o))) K230_1 rfl ⟨by decide, by decide, trivial⟩ ?_
  refine zF_call (k := 231) (cl := 12) (n := 1) (i := .invokestatic 92) (args := [(0, (wsub (wdiv v0 10) (wdiv v1 10)))]) (rest := [(0, r1)]) (g1 := (hc, h, o)) (r1 := some (0, r2)) (zCk1_w (by decide +kernel)) rfl rfl rfl (st' := [(0, r2), (0, r1)]) rfl (S231 (Nat.le_trans (by decide) hd) (wsub (wdiv v0 10) (wdiv v1 10)) h _ q2) ?_
  refine zF_blk (m := []) (d := 0) (b := B230_2) (gs := []) (c' := (25, [some (0, v0), some (0, v1)], [(0, (wadd r1 r2))], (hc, h, o))) K230_2 rfl trivial ?_
  obtain rfl := Option.some.inj e
  exact zF_ri (zRe1_w (by decide +kernel))
noncomputable def B232_0 : List zRow := [(0, .aload_n 0, 1, (0, 0, 0)), (1, .getfield 13, 3, (12, 14, 5251442)), (4, .bipush 7, 2, (0, 0, 0)), (6, .iconst 3, 1, (0, 0, 0)), (7, .iload_n 1, 1, (0, 0, 0))]
theorem K232_0 : zRk 232 B232_0 = true := zRw_ok (by decide +kernel)
noncomputable def B232_1 : List zRow := [(8, .imul, 1, (0, 0, 0))]
theorem K232_1 : zRk 232 B232_1 = true := zRw_ok (by decide +kernel)
noncomputable def B232_2 : List zRow := [(9, .iadd, 1, (0, 0, 0)), (10, .iconst 1, 1, (0, 0, 0)), (11, .iadd, 1, (0, 0, 0)), (12, .iaload, 1, (0, 0, 0))]
theorem K232_2 : zRk 232 B232_2 = true := zRw_ok (by decide +kernel)
/-- EchoValeModel.delay(I)I -/
def F232 (v1 : Int) (h : zHM) : Option Int := zG (0 ≤ (wadd (wadd 7 (wmul 3 v1)) 1) ∧ (wadd (wadd 7 (wmul 3 v1)) 1) < 2140) (some (h 14 (wadd (wadd 7 (wmul 3 v1)) 1)))
set_option maxRecDepth 100000 in
theorem S232 {spec : zRn zH2} {hc : zHC} {o : Int → Int} {d : Nat} (hd : 1 ≤ d) (v1 : Int) (h : zHM) (v : Int) (e : F232 v1 h = some v) : zRu2 spec d 232 [(22, 0), (0, v1)] (hc, h, o) (some (0, v)) (hc, h, o) := by
  refine zF_in (D := 0) (mx := 2) (L := [some (22, 0), some (0, v1)]) (by decide +kernel) rfl rfl hd (fun d hd => ?_)
  unfold F232 at e
  obtain ⟨q1, e⟩ := zG_s e
  refine zF_blk (m := []) (d := 0) (b := B232_0) (gs := []) (c' := (8, [some (22, 0), some (0, v1)], [(0, v1), (0, 3), (0, 7), (1344370422, 0)], (hc, h, o))) K232_0 rfl trivial ?_
  refine zF_blk (m := []) (d := 0) (b := B232_1) (gs := []) (c' := (9, [some (22, 0), some (0, v1)], [(0, (wmul 3 v1)), (0, 7), (1344370422, 0)], (hc, h, o))) K232_1 rfl trivial ?_
  refine zF_blk (m := []) (d := 0) (b := B232_2) (gs := [0 ≤ (wadd (wadd 7 (wmul 3 v1)) 1) ∧ (wadd (wadd 7 (wmul 3 v1)) 1) < 2140]) (c' := (13, [some (22, 0), some (0, v1)], [(0, (h 14 (wadd (wadd 7 (wmul 3 v1)) 1)))], (hc, h, o))) K232_2 rfl ⟨q1, trivial⟩ ?_
  obtain rfl := Option.some.inj e
  exact zF_ri (zRe1_w (by decide +kernel))
noncomputable def B233_0 : List zRow := [(0, .sipush 457, 3, (0, 0, 0)), (3, .bipush 18, 2, (0, 0, 0)), (5, .iload_n 1, 1, (0, 0, 0))]
theorem K233_0 : zRk 233 B233_0 = true := zRw_ok (by decide +kernel)
noncomputable def B233_1 : List zRow := [(6, .imul, 1, (0, 0, 0))]
theorem K233_1 : zRk 233 B233_1 = true := zRw_ok (by decide +kernel)
noncomputable def B233_2 : List zRow := [(7, .iadd, 1, (0, 0, 0)), (8, .iconst 3, 1, (0, 0, 0)), (9, .iload_n 2, 1, (0, 0, 0))]
theorem K233_2 : zRk 233 B233_2 = true := zRw_ok (by decide +kernel)
noncomputable def B233_3 : List zRow := [(58, .iload 4, 2, (0, 0, 0)), (60, .aload_n 0, 1, (0, 0, 0)), (61, .getfield 13, 3, (12, 14, 5251442)), (64, .iload 5, 2, (0, 0, 0)), (66, .iconst 1, 1, (0, 0, 0)), (67, .iadd, 1, (0, 0, 0)), (68, .iaload, 1, (0, 0, 0)), (69, .if_icmp .le 7, 3, (0, 0, 0))]
theorem K233_3 : zRk 233 B233_3 = true := zRw_ok (by decide +kernel)
noncomputable def B233_4 : List zRow := [(47, .iload_n 3, 1, (0, 0, 0)), (48, .aload_n 0, 1, (0, 0, 0)), (49, .getfield 13, 3, (12, 14, 5251442)), (52, .iload 5, 2, (0, 0, 0)), (54, .iaload, 1, (0, 0, 0)), (55, .if_icmp .ne 21, 3, (0, 0, 0))]
theorem K233_4 : zRk 233 B233_4 = true := zRw_ok (by decide +kernel)
noncomputable def B233_5 : List zRow := [(36, .iload_n 3, 1, (0, 0, 0)), (37, .aload_n 0, 1, (0, 0, 0)), (38, .getfield 13, 3, (12, 14, 5251442)), (41, .iload 5, 2, (0, 0, 0)), (43, .iaload, 1, (0, 0, 0)), (44, .if_icmp .lt 28, 3, (0, 0, 0))]
theorem K233_5 : zRk 233 B233_5 = true := zRw_ok (by decide +kernel)
noncomputable def B233_6 : List zRow := [(24, .aload_n 0, 1, (0, 0, 0)), (25, .getfield 13, 3, (12, 14, 5251442)), (28, .iload 5, 2, (0, 0, 0)), (30, .iconst 2, 1, (0, 0, 0)), (31, .iadd, 1, (0, 0, 0)), (32, .iaload, 1, (0, 0, 0)), (33, .ifCond .ne 43, 3, (0, 0, 0))]
theorem K233_6 : zRk 233 B233_6 = true := zRw_ok (by decide +kernel)
noncomputable def B233_7 : List zRow := [(10, .imul, 1, (0, 0, 0)), (11, .iadd, 1, (0, 0, 0)), (12, .istore 5, 2, (0, 0, 0)), (14, .aload_n 0, 1, (0, 0, 0)), (15, .getfield 13, 3, (12, 14, 5251442)), (18, .iload 5, 2, (0, 0, 0)), (20, .iaload, 1, (0, 0, 0)), (21, .ifCond .eq 51, 3, (0, 0, 0))]
theorem K233_7 : zRk 233 B233_7 = true := zRw_ok (by decide +kernel)
noncomputable def B233_8 : List zRow := [(76, .iconst 0, 1, (0, 0, 0))]
theorem K233_8 : zRk 233 B233_8 = true := zRw_ok (by decide +kernel)
noncomputable def B233_9 : List zRow := [(85, .aload_n 0, 1, (0, 0, 0)), (86, .getfield 13, 3, (12, 14, 5251442)), (89, .iload 5, 2, (0, 0, 0)), (91, .iload_n 3, 1, (0, 0, 0)), (92, .iastore, 1, (0, 0, 0)), (93, .aload_n 0, 1, (0, 0, 0)), (94, .getfield 13, 3, (12, 14, 5251442)), (97, .iload 5, 2, (0, 0, 0)), (99, .iconst 1, 1, (0, 0, 0)), (100, .iadd, 1, (0, 0, 0)), (101, .iload 4, 2, (0, 0, 0)), (103, .iastore, 1, (0, 0, 0))]
theorem K233_9 : zRk 233 B233_9 = true := zRw_ok (by decide +kernel)
noncomputable def B233_10 : List zRow := [(77, .istore 6, 2, (0, 0, 0)), (79, .iload 6, 2, (0, 0, 0)), (81, .ifCond .ne 4, 3, (0, 0, 0))]
theorem K233_10 : zRk 233 B233_10 = true := zRw_ok (by decide +kernel)
noncomputable def B233_11 : List zRow := [(72, .iconst 1, 1, (0, 0, 0)), (73, .goto 4, 3, (0, 0, 0))]
theorem K233_11 : zRk 233 B233_11 = true := zRw_ok (by decide +kernel)
def F233_2 (v3 : Int) (v4 : Int) (v5 : Int) (s0 : Int) (h : zHM) : Option zHM := if ¬ s0 = 0 then zG (0 ≤ v5 ∧ v5 < 2140) (zG (0 ≤ (wadd v5 1) ∧ (wadd v5 1) < 2140) (some (mset (mset h 14 v5 v3) 14 (wadd v5 1) v4))) else some h
set_option maxRecDepth 100000 in
theorem T233_2 {spec : zRn zH2} {hc : zHC} {o : Int → Int} {d : Nat} (hd : 0 ≤ d) (v3 : Int) (v4 : Int) (v5 : Int) (s0 : Int) (h : zHM) (v : zHM) (e : F233_2 v3 v4 v5 s0 h = some v) : zFin 0 (fun _ => 0) (zRu2 spec d) 233 none (hc, v, o) (77, [some (22, 0), none, none, some (0, v3), some (0, v4), some (0, v5), none], [(0, s0)], (hc, h, o)) := by
  unfold F233_2 at e
  rcases zI_s e with ⟨q1, e⟩ | ⟨q1, e⟩
  · refine zF_blk (m := []) (d := 1) (b := B233_10) (gs := [¬ s0 = 0]) (c' := (85, [some (22, 0), none, none, some (0, v3), some (0, v4), some (0, v5), some (0, s0)], [], (hc, h, o))) K233_10 rfl ⟨q1, trivial⟩ ?_
    obtain ⟨q2, e⟩ := zG_s e
    obtain ⟨q3, e⟩ := zG_s e
    refine zF_blk (m := []) (d := 0) (b := B233_9) (gs := [0 ≤ v5 ∧ v5 < 2140, 0 ≤ (wadd v5 1) ∧ (wadd v5 1) < 2140]) (c' := (104, [some (22, 0), none, none, some (0, v3), some (0, v4), some (0, v5), some (0, s0)], [], (hc, (mset (mset h 14 v5 v3) 14 (wadd v5 1) v4), o))) K233_9 rfl ⟨q2, q3, trivial⟩ ?_
    obtain rfl := Option.some.inj e
    exact zF_rv (zRe1_w (by decide +kernel))
  · refine zF_blk (m := []) (d := 0) (b := B233_10) (gs := [¬ (¬ s0 = 0)]) (c' := (84, [some (22, 0), none, none, some (0, v3), some (0, v4), some (0, v5), some (0, s0)], [], (hc, h, o))) K233_10 rfl ⟨q1, trivial⟩ ?_
    obtain rfl := Option.some.inj e
    exact zF_rv (zRe1_w (by decide +kernel))
def F233_1 (v3 : Int) (v4 : Int) (v5 : Int) (h : zHM) : Option zHM := F233_2 v3 v4 v5 0 h
set_option maxRecDepth 100000 in
theorem T233_1 {spec : zRn zH2} {hc : zHC} {o : Int → Int} {d : Nat} (hd : 0 ≤ d) (v3 : Int) (v4 : Int) (v5 : Int) (h : zHM) (v : zHM) (e : F233_1 v3 v4 v5 h = some v) : zFin 0 (fun _ => 0) (zRu2 spec d) 233 none (hc, v, o) (76, [some (22, 0), none, none, some (0, v3), some (0, v4), some (0, v5), none], [], (hc, h, o)) := by
  unfold F233_1 at e
  refine zF_blk (m := []) (d := 0) (b := B233_8) (gs := []) (c' := (77, [some (22, 0), none, none, some (0, v3), some (0, v4), some (0, v5), none], [(0, 0)], (hc, h, o))) K233_8 rfl trivial ?_
  exact T233_2 hd v3 v4 v5 0 h _ e
def F233_0 (v3 : Int) (v4 : Int) (v5 : Int) (h : zHM) : Option zHM := F233_2 v3 v4 v5 1 h
set_option maxRecDepth 100000 in
theorem T233_0 {spec : zRn zH2} {hc : zHC} {o : Int → Int} {d : Nat} (hd : 0 ≤ d) (v3 : Int) (v4 : Int) (v5 : Int) (h : zHM) (v : zHM) (e : F233_0 v3 v4 v5 h = some v) : zFin 0 (fun _ => 0) (zRu2 spec d) 233 none (hc, v, o) (72, [some (22, 0), none, none, some (0, v3), some (0, v4), some (0, v5), none], [], (hc, h, o)) := by
  unfold F233_0 at e
  refine zF_blk (m := []) (d := 0) (b := B233_11) (gs := []) (c' := (77, [some (22, 0), none, none, some (0, v3), some (0, v4), some (0, v5), none], [(0, 1)], (hc, h, o))) K233_11 rfl trivial ?_
  exact T233_2 hd v3 v4 v5 1 h _ e
/-- EchoValeModel.comeTo(IIII)V -/
def F233 (v1 : Int) (v2 : Int) (v3 : Int) (v4 : Int) (h : zHM) : Option zHM := zG (0 ≤ (wadd (wadd 457 (wmul 18 v1)) (wmul 3 v2)) ∧ (wadd (wadd 457 (wmul 18 v1)) (wmul 3 v2)) < 2140) (if (h 14 (wadd (wadd 457 (wmul 18 v1)) (wmul 3 v2))) = 0 then F233_0 v3 v4 (wadd (wadd 457 (wmul 18 v1)) (wmul 3 v2)) h else zG (0 ≤ (wadd (wadd (wadd 457 (wmul 18 v1)) (wmul 3 v2)) 2) ∧ (wadd (wadd (wadd 457 (wmul 18 v1)) (wmul 3 v2)) 2) < 2140) (if ¬ (h 14 (wadd (wadd (wadd 457 (wmul 18 v1)) (wmul 3 v2)) 2)) = 0 then F233_1 v3 v4 (wadd (wadd 457 (wmul 18 v1)) (wmul 3 v2)) h else zG (0 ≤ (wadd (wadd 457 (wmul 18 v1)) (wmul 3 v2)) ∧ (wadd (wadd 457 (wmul 18 v1)) (wmul 3 v2)) < 2140) (if v3 < (h 14 (wadd (wadd 457 (wmul 18 v1)) (wmul 3 v2))) then F233_0 v3 v4 (wadd (wadd 457 (wmul 18 v1)) (wmul 3 v2)) h else zG (0 ≤ (wadd (wadd 457 (wmul 18 v1)) (wmul 3 v2)) ∧ (wadd (wadd 457 (wmul 18 v1)) (wmul 3 v2)) < 2140) (if ¬ v3 = (h 14 (wadd (wadd 457 (wmul 18 v1)) (wmul 3 v2))) then F233_1 v3 v4 (wadd (wadd 457 (wmul 18 v1)) (wmul 3 v2)) h else zG (0 ≤ (wadd (wadd (wadd 457 (wmul 18 v1)) (wmul 3 v2)) 1) ∧ (wadd (wadd (wadd 457 (wmul 18 v1)) (wmul 3 v2)) 1) < 2140) (if v4 ≤ (h 14 (wadd (wadd (wadd 457 (wmul 18 v1)) (wmul 3 v2)) 1)) then F233_1 v3 v4 (wadd (wadd 457 (wmul 18 v1)) (wmul 3 v2)) h else F233_0 v3 v4 (wadd (wadd 457 (wmul 18 v1)) (wmul 3 v2)) h)))))
set_option maxRecDepth 100000 in
theorem S233 {spec : zRn zH2} {hc : zHC} {o : Int → Int} {d : Nat} (hd : 1 ≤ d) (v1 : Int) (v2 : Int) (v3 : Int) (v4 : Int) (h : zHM) (v : zHM) (e : F233 v1 v2 v3 v4 h = some v) : zRu2 spec d 233 [(22, 0), (0, v1), (0, v2), (0, v3), (0, v4)] (hc, h, o) none (hc, v, o) := by
  refine zF_in (D := 0) (mx := 7) (L := [some (22, 0), some (0, v1), some (0, v2), some (0, v3), some (0, v4), none, none]) (by decide +kernel) rfl rfl hd (fun d hd => ?_)
  unfold F233 at e
  obtain ⟨q1, e⟩ := zG_s e
  refine zF_blk (m := []) (d := 0) (b := B233_0) (gs := []) (c' := (6, [some (22, 0), some (0, v1), some (0, v2), some (0, v3), some (0, v4), none, none], [(0, v1), (0, 18), (0, 457)], (hc, h, o))) K233_0 rfl trivial ?_
  refine zF_blk (m := []) (d := 0) (b := B233_1) (gs := []) (c' := (7, [some (22, 0), some (0, v1), some (0, v2), some (0, v3), some (0, v4), none, none], [(0, (wmul 18 v1)), (0, 457)], (hc, h, o))) K233_1 rfl trivial ?_
  refine zF_blk (m := []) (d := 0) (b := B233_2) (gs := []) (c' := (10, [some (22, 0), some (0, v1), some (0, v2), some (0, v3), some (0, v4), none, none], [(0, v2), (0, 3), (0, (wadd 457 (wmul 18 v1)))], (hc, h, o))) K233_2 rfl trivial ?_
  rcases zI_s e with ⟨q2, e⟩ | ⟨q2, e⟩
  · refine zF_blk (m := []) (d := 1) (b := B233_7) (gs := [0 ≤ (wadd (wadd 457 (wmul 18 v1)) (wmul 3 v2)) ∧ (wadd (wadd 457 (wmul 18 v1)) (wmul 3 v2)) < 2140, (h 14 (wadd (wadd 457 (wmul 18 v1)) (wmul 3 v2))) = 0]) (c' := (72, [some (22, 0), some (0, v1), some (0, v2), some (0, v3), some (0, v4), some (0, (wadd (wadd 457 (wmul 18 v1)) (wmul 3 v2))), none], [], (hc, h, o))) K233_7 rfl ⟨q1, q2, trivial⟩ ?_
    refine zF_blk (m := [true, false, false, true, true, true, false]) (d := 0) (b := []) (gs := []) (c' := (72, [some (22, 0), none, none, some (0, v3), some (0, v4), some (0, (wadd (wadd 457 (wmul 18 v1)) (wmul 3 v2))), none], [], (hc, h, o))) rfl rfl trivial ?_
    exact T233_0 hd v3 v4 (wadd (wadd 457 (wmul 18 v1)) (wmul 3 v2)) h _ e
  · refine zF_blk (m := []) (d := 0) (b := B233_7) (gs := [0 ≤ (wadd (wadd 457 (wmul 18 v1)) (wmul 3 v2)) ∧ (wadd (wadd 457 (wmul 18 v1)) (wmul 3 v2)) < 2140, ¬ ((h 14 (wadd (wadd 457 (wmul 18 v1)) (wmul 3 v2))) = 0)]) (c' := (24, [some (22, 0), some (0, v1), some (0, v2), some (0, v3), some (0, v4), some (0, (wadd (wadd 457 (wmul 18 v1)) (wmul 3 v2))), none], [], (hc, h, o))) K233_7 rfl ⟨q1, q2, trivial⟩ ?_
    obtain ⟨q3, e⟩ := zG_s e
    rcases zI_s e with ⟨q4, e⟩ | ⟨q4, e⟩
    · refine zF_blk (m := []) (d := 1) (b := B233_6) (gs := [0 ≤ (wadd (wadd (wadd 457 (wmul 18 v1)) (wmul 3 v2)) 2) ∧ (wadd (wadd (wadd 457 (wmul 18 v1)) (wmul 3 v2)) 2) < 2140, ¬ (h 14 (wadd (wadd (wadd 457 (wmul 18 v1)) (wmul 3 v2)) 2)) = 0]) (c' := (76, [some (22, 0), some (0, v1), some (0, v2), some (0, v3), some (0, v4), some (0, (wadd (wadd 457 (wmul 18 v1)) (wmul 3 v2))), none], [], (hc, h, o))) K233_6 rfl ⟨q3, q4, trivial⟩ ?_
      refine zF_blk (m := [true, false, false, true, true, true, false]) (d := 0) (b := []) (gs := []) (c' := (76, [some (22, 0), none, none, some (0, v3), some (0, v4), some (0, (wadd (wadd 457 (wmul 18 v1)) (wmul 3 v2))), none], [], (hc, h, o))) rfl rfl trivial ?_
      exact T233_1 hd v3 v4 (wadd (wadd 457 (wmul 18 v1)) (wmul 3 v2)) h _ e
    · refine zF_blk (m := []) (d := 0) (b := B233_6) (gs := [0 ≤ (wadd (wadd (wadd 457 (wmul 18 v1)) (wmul 3 v2)) 2) ∧ (wadd (wadd (wadd 457 (wmul 18 v1)) (wmul 3 v2)) 2) < 2140, ¬ (¬ (h 14 (wadd (wadd (wadd 457 (wmul 18 v1)) (wmul 3 v2)) 2)) = 0)]) (c' := (36, [some (22, 0), some (0, v1), some (0, v2), some (0, v3), some (0, v4), some (0, (wadd (wadd 457 (wmul 18 v1)) (wmul 3 v2))), none], [], (hc, h, o))) K233_6 rfl ⟨q3, q4, trivial⟩ ?_
      obtain ⟨q5, e⟩ := zG_s e
      rcases zI_s e with ⟨q6, e⟩ | ⟨q6, e⟩
      · refine zF_blk (m := []) (d := 1) (b := B233_5) (gs := [0 ≤ (wadd (wadd 457 (wmul 18 v1)) (wmul 3 v2)) ∧ (wadd (wadd 457 (wmul 18 v1)) (wmul 3 v2)) < 2140, v3 < (h 14 (wadd (wadd 457 (wmul 18 v1)) (wmul 3 v2)))]) (c' := (72, [some (22, 0), some (0, v1), some (0, v2), some (0, v3), some (0, v4), some (0, (wadd (wadd 457 (wmul 18 v1)) (wmul 3 v2))), none], [], (hc, h, o))) K233_5 rfl ⟨q5, q6, trivial⟩ ?_
        refine zF_blk (m := [true, false, false, true, true, true, false]) (d := 0) (b := []) (gs := []) (c' := (72, [some (22, 0), none, none, some (0, v3), some (0, v4), some (0, (wadd (wadd 457 (wmul 18 v1)) (wmul 3 v2))), none], [], (hc, h, o))) rfl rfl trivial ?_
        exact T233_0 hd v3 v4 (wadd (wadd 457 (wmul 18 v1)) (wmul 3 v2)) h _ e
      · refine zF_blk (m := []) (d := 0) (b := B233_5) (gs := [0 ≤ (wadd (wadd 457 (wmul 18 v1)) (wmul 3 v2)) ∧ (wadd (wadd 457 (wmul 18 v1)) (wmul 3 v2)) < 2140, ¬ (v3 < (h 14 (wadd (wadd 457 (wmul 18 v1)) (wmul 3 v2))))]) (c' := (47, [some (22, 0), some (0, v1), some (0, v2), some (0, v3), some (0, v4), some (0, (wadd (wadd 457 (wmul 18 v1)) (wmul 3 v2))), none], [], (hc, h, o))) K233_5 rfl ⟨q5, q6, trivial⟩ ?_
        obtain ⟨q7, e⟩ := zG_s e
        rcases zI_s e with ⟨q8, e⟩ | ⟨q8, e⟩
        · refine zF_blk (m := []) (d := 1) (b := B233_4) (gs := [0 ≤ (wadd (wadd 457 (wmul 18 v1)) (wmul 3 v2)) ∧ (wadd (wadd 457 (wmul 18 v1)) (wmul 3 v2)) < 2140, ¬ v3 = (h 14 (wadd (wadd 457 (wmul 18 v1)) (wmul 3 v2)))]) (c' := (76, [some (22, 0), some (0, v1), some (0, v2), some (0, v3), some (0, v4), some (0, (wadd (wadd 457 (wmul 18 v1)) (wmul 3 v2))), none], [], (hc, h, o))) K233_4 rfl ⟨q7, q8, trivial⟩ ?_
          refine zF_blk (m := [true, false, false, true, true, true, false]) (d := 0) (b := []) (gs := []) (c' := (76, [some (22, 0), none, none, some (0, v3), some (0, v4), some (0, (wadd (wadd 457 (wmul 18 v1)) (wmul 3 v2))), none], [], (hc, h, o))) rfl rfl trivial ?_
          exact T233_1 hd v3 v4 (wadd (wadd 457 (wmul 18 v1)) (wmul 3 v2)) h _ e
        · refine zF_blk (m := []) (d := 0) (b := B233_4) (gs := [0 ≤ (wadd (wadd 457 (wmul 18 v1)) (wmul 3 v2)) ∧ (wadd (wadd 457 (wmul 18 v1)) (wmul 3 v2)) < 2140, ¬ (¬ v3 = (h 14 (wadd (wadd 457 (wmul 18 v1)) (wmul 3 v2))))]) (c' := (58, [some (22, 0), some (0, v1), some (0, v2), some (0, v3), some (0, v4), some (0, (wadd (wadd 457 (wmul 18 v1)) (wmul 3 v2))), none], [], (hc, h, o))) K233_4 rfl ⟨q7, q8, trivial⟩ ?_
          obtain ⟨q9, e⟩ := zG_s e
          rcases zI_s e with ⟨q10, e⟩ | ⟨q10, e⟩
          · refine zF_blk (m := []) (d := 1) (b := B233_3) (gs := [0 ≤ (wadd (wadd (wadd 457 (wmul 18 v1)) (wmul 3 v2)) 1) ∧ (wadd (wadd (wadd 457 (wmul 18 v1)) (wmul 3 v2)) 1) < 2140, v4 ≤ (h 14 (wadd (wadd (wadd 457 (wmul 18 v1)) (wmul 3 v2)) 1))]) (c' := (76, [some (22, 0), some (0, v1), some (0, v2), some (0, v3), some (0, v4), some (0, (wadd (wadd 457 (wmul 18 v1)) (wmul 3 v2))), none], [], (hc, h, o))) K233_3 rfl ⟨q9, q10, trivial⟩ ?_
            refine zF_blk (m := [true, false, false, true, true, true, false]) (d := 0) (b := []) (gs := []) (c' := (76, [some (22, 0), none, none, some (0, v3), some (0, v4), some (0, (wadd (wadd 457 (wmul 18 v1)) (wmul 3 v2))), none], [], (hc, h, o))) rfl rfl trivial ?_
            exact T233_1 hd v3 v4 (wadd (wadd 457 (wmul 18 v1)) (wmul 3 v2)) h _ e
          · refine zF_blk (m := []) (d := 0) (b := B233_3) (gs := [0 ≤ (wadd (wadd (wadd 457 (wmul 18 v1)) (wmul 3 v2)) 1) ∧ (wadd (wadd (wadd 457 (wmul 18 v1)) (wmul 3 v2)) 1) < 2140, ¬ (v4 ≤ (h 14 (wadd (wadd (wadd 457 (wmul 18 v1)) (wmul 3 v2)) 1)))]) (c' := (72, [some (22, 0), some (0, v1), some (0, v2), some (0, v3), some (0, v4), some (0, (wadd (wadd 457 (wmul 18 v1)) (wmul 3 v2))), none], [], (hc, h, o))) K233_3 rfl ⟨q9, q10, trivial⟩ ?_
            refine zF_blk (m := [true, false, false, true, true, true, false]) (d := 0) (b := []) (gs := []) (c' := (72, [some (22, 0), none, none, some (0, v3), some (0, v4), some (0, (wadd (wadd 457 (wmul 18 v1)) (wmul 3 v2))), none], [], (hc, h, o))) rfl rfl trivial ?_
            exact T233_0 hd v3 v4 (wadd (wadd 457 (wmul 18 v1)) (wmul 3 v2)) h _ e
noncomputable def B227_0 : List zRow := [(0, .aload_n 0, 1, (0, 0, 0)), (1, .getfield 13, 3, (12, 14, 5251442)), (4, .sipush 216, 3, (0, 0, 0)), (7, .iaload, 1, (0, 0, 0)), (8, .istore 4, 2, (0, 0, 0)), (10, .sipush 217, 3, (0, 0, 0)), (13, .bipush 8, 2, (0, 0, 0)), (15, .iload 4, 2, (0, 0, 0))]
theorem K227_0 : zRk 227 B227_0 = true := zRw_ok (by decide +kernel)
noncomputable def B227_1 : List zRow := [(17, .imul, 1, (0, 0, 0))]
theorem K227_1 : zRk 227 B227_1 = true := zRw_ok (by decide +kernel)
noncomputable def B227_2 : List zRow := [(18, .iadd, 1, (0, 0, 0)), (19, .istore 5, 2, (0, 0, 0)), (21, .aload_n 0, 1, (0, 0, 0)), (22, .getfield 13, 3, (12, 14, 5251442)), (25, .sipush 210, 3, (0, 0, 0)), (28, .iload_n 1, 1, (0, 0, 0))]
theorem K227_2 : zRk 227 B227_2 = true := zRw_ok (by decide +kernel)
noncomputable def B227_3 : List zRow := [(29, .iadd, 1, (0, 0, 0)), (30, .iaload, 1, (0, 0, 0)), (31, .istore 6, 2, (0, 0, 0)), (33, .aload_n 0, 1, (0, 0, 0)), (34, .getfield 13, 3, (12, 14, 5251442)), (37, .iload 5, 2, (0, 0, 0)), (39, .iconst 0, 1, (0, 0, 0)), (40, .iadd, 1, (0, 0, 0)), (41, .iload_n 2, 1, (0, 0, 0)), (42, .iastore, 1, (0, 0, 0)), (43, .aload_n 0, 1, (0, 0, 0)), (44, .getfield 13, 3, (12, 14, 5251442)), (47, .iload 5, 2, (0, 0, 0)), (49, .iconst 1, 1, (0, 0, 0)), (50, .iadd, 1, (0, 0, 0)), (51, .iload_n 1, 1, (0, 0, 0)), (52, .iastore, 1, (0, 0, 0)), (53, .aload_n 0, 1, (0, 0, 0)), (54, .getfield 13, 3, (12, 14, 5251442)), (57, .iload 5, 2, (0, 0, 0)), (59, .iconst 2, 1, (0, 0, 0)), (60, .iadd, 1, (0, 0, 0)), (61, .aload_n 0, 1, (0, 0, 0)), (62, .getfield 13, 3, (12, 14, 5251442)), (65, .sipush 209, 3, (0, 0, 0)), (68, .iaload, 1, (0, 0, 0)), (69, .iastore, 1, (0, 0, 0)), (70, .aload_n 0, 1, (0, 0, 0)), (71, .getfield 13, 3, (12, 14, 5251442)), (74, .iload 5, 2, (0, 0, 0)), (76, .iconst 3, 1, (0, 0, 0)), (77, .iadd, 1, (0, 0, 0)), (78, .iload 6, 2, (0, 0, 0)), (80, .iastore, 1, (0, 0, 0)), (81, .aload_n 0, 1, (0, 0, 0)), (82, .getfield 13, 3, (12, 14, 5251442)), (85, .iload 5, 2, (0, 0, 0)), (87, .iconst 4, 1, (0, 0, 0)), (88, .iadd, 1, (0, 0, 0)), (89, .aload_n 0, 1, (0, 0, 0)), (90, .iload 6, 2, (0, 0, 0)), (92, .iload_n 3, 1, (0, 0, 0))]
theorem K227_3 : zRk 227 B227_3 = true := zRw_ok (by decide +kernel)
noncomputable def B227_4 : List zRow := [(96, .iastore, 1, (0, 0, 0)), (97, .aload_n 0, 1, (0, 0, 0)), (98, .getfield 13, 3, (12, 14, 5251442)), (101, .iload 5, 2, (0, 0, 0)), (103, .iconst 5, 1, (0, 0, 0)), (104, .iadd, 1, (0, 0, 0)), (105, .iconst 1, 1, (0, 0, 0)), (106, .iload_n 1, 1, (0, 0, 0)), (107, .ishl, 1, (0, 0, 0)), (108, .iastore, 1, (0, 0, 0)), (109, .aload_n 0, 1, (0, 0, 0)), (110, .getfield 13, 3, (12, 14, 5251442)), (113, .iload 5, 2, (0, 0, 0)), (115, .bipush 6, 2, (0, 0, 0)), (117, .iadd, 1, (0, 0, 0)), (118, .iconst 0, 1, (0, 0, 0)), (119, .iastore, 1, (0, 0, 0)), (120, .aload_n 0, 1, (0, 0, 0)), (121, .getfield 13, 3, (12, 14, 5251442)), (124, .iload 5, 2, (0, 0, 0)), (126, .bipush 7, 2, (0, 0, 0)), (128, .iadd, 1, (0, 0, 0)), (129, .iconst 0, 1, (0, 0, 0)), (130, .iastore, 1, (0, 0, 0)), (131, .iconst 0, 1, (0, 0, 0)), (132, .istore 7, 2, (0, 0, 0))]
theorem K227_4 : zRk 227 B227_4 = true := zRw_ok (by decide +kernel)
noncomputable def B227_5 : List zRow := [(165, .aload_n 0, 1, (0, 0, 0)), (166, .getfield 13, 3, (12, 14, 5251442)), (169, .sipush 216, 3, (0, 0, 0)), (172, .dup2, 1, (0, 0, 0)), (173, .iaload, 1, (0, 0, 0)), (174, .iconst 1, 1, (0, 0, 0)), (175, .iadd, 1, (0, 0, 0)), (176, .iastore, 1, (0, 0, 0)), (177, .aload_n 0, 1, (0, 0, 0)), (178, .getfield 13, 3, (12, 14, 5251442)), (181, .iload 5, 2, (0, 0, 0)), (183, .iconst 4, 1, (0, 0, 0)), (184, .iadd, 1, (0, 0, 0)), (185, .iaload, 1, (0, 0, 0)), (186, .istore 7, 2, (0, 0, 0)), (188, .iconst 0, 1, (0, 0, 0)), (189, .istore 8, 2, (0, 0, 0))]
theorem K227_5 : zRk 227 B227_5 = true := zRw_ok (by decide +kernel)
noncomputable def B227_6 : List zRow := [(141, .aload_n 0, 1, (0, 0, 0)), (142, .getfield 13, 3, (12, 14, 5251442)), (145, .sipush 457, 3, (0, 0, 0)), (148, .bipush 18, 2, (0, 0, 0)), (150, .iload 4, 2, (0, 0, 0))]
theorem K227_6 : zRk 227 B227_6 = true := zRw_ok (by decide +kernel)
noncomputable def B227_7 : List zRow := [(152, .imul, 1, (0, 0, 0))]
theorem K227_7 : zRk 227 B227_7 = true := zRw_ok (by decide +kernel)
noncomputable def B227_8 : List zRow := [(153, .iadd, 1, (0, 0, 0)), (154, .iload 7, 2, (0, 0, 0)), (156, .iadd, 1, (0, 0, 0)), (157, .iconst 0, 1, (0, 0, 0)), (158, .iastore, 1, (0, 0, 0)), (159, .iinc 7 1, 3, (0, 0, 0)), (162, .goto (-28), 3, (0, 0, 0))]
theorem K227_8 : zRk 227 B227_8 = true := zRw_ok (by decide +kernel)
noncomputable def B227_9 : List zRow := [(134, .iload 7, 2, (0, 0, 0)), (136, .bipush 18, 2, (0, 0, 0)), (138, .if_icmp .ge 27, 3, (0, 0, 0))]
theorem K227_9 : zRk 227 B227_9 = true := zRw_ok (by decide +kernel)
noncomputable def B227_10 : List zRow := [(268, .iload 4, 2, (0, 0, 0))]
theorem K227_10 : zRk 227 B227_10 = true := zRw_ok (by decide +kernel)
noncomputable def B227_11 : List zRow := [(207, .iload 6, 2, (0, 0, 0)), (209, .aload_n 0, 1, (0, 0, 0)), (210, .iload 8, 2, (0, 0, 0))]
theorem K227_11 : zRk 227 B227_11 = true := zRw_ok (by decide +kernel)
noncomputable def B227_12 : List zRow := [(223, .aload_n 0, 1, (0, 0, 0)), (224, .iload 4, 2, (0, 0, 0)), (226, .iload 8, 2, (0, 0, 0)), (228, .aload_n 0, 1, (0, 0, 0)), (229, .getfield 13, 3, (12, 14, 5251442)), (232, .sipush 209, 3, (0, 0, 0)), (235, .iaload, 1, (0, 0, 0)), (236, .aload_n 0, 1, (0, 0, 0)), (237, .iload 8, 2, (0, 0, 0))]
theorem K227_12 : zRk 227 B227_12 = true := zRw_ok (by decide +kernel)
noncomputable def B227_13 : List zRow := [(242, .iadd, 1, (0, 0, 0)), (243, .iload 7, 2, (0, 0, 0)), (245, .iload 6, 2, (0, 0, 0)), (247, .aload_n 0, 1, (0, 0, 0)), (248, .iload 8, 2, (0, 0, 0))]
theorem K227_13 : zRk 227 B227_13 = true := zRw_ok (by decide +kernel)
noncomputable def B227_14 : List zRow := [(256, .iconst 2, 1, (0, 0, 0)), (257, .idiv, 1, (0, 0, 0)), (258, .isub, 1, (0, 0, 0))]
theorem K227_14 : zRk 227 B227_14 = true := zRw_ok (by decide +kernel)
noncomputable def B227_15 : List zRow := [(218, .iload 7, 2, (0, 0, 0)), (220, .if_icmp .gt 42, 3, (0, 0, 0))]
theorem K227_15 : zRk 227 B227_15 = true := zRw_ok (by decide +kernel)
noncomputable def B227_16 : List zRow := [(202, .iload 7, 2, (0, 0, 0)), (204, .ifCond .le 58, 3, (0, 0, 0))]
theorem K227_16 : zRk 227 B227_16 = true := zRw_ok (by decide +kernel)
noncomputable def B227_17 : List zRow := [(191, .iload 8, 2, (0, 0, 0)), (193, .aload_n 0, 1, (0, 0, 0)), (194, .getfield 13, 3, (12, 14, 5251442)), (197, .iconst 2, 1, (0, 0, 0)), (198, .iaload, 1, (0, 0, 0)), (199, .if_icmp .ge 69, 3, (0, 0, 0))]
theorem K227_17 : zRk 227 B227_17 = true := zRw_ok (by decide +kernel)
noncomputable def B227_18 : List zRow := [(262, .iinc 8 1, 3, (0, 0, 0)), (265, .goto (-74), 3, (0, 0, 0))]
theorem K227_18 : zRk 227 B227_18 = true := zRw_ok (by decide +kernel)
def F227_2 (k0 : Int → Int → Int → Int → zHM → Option (Int × zHM)) (v4 : Int) (v6 : Int) (v7 : Int) (v8 : Int) (h : zHM) : Option (Int × zHM) := k0 v4 v6 v7 (wadd v8 1) h
set_option maxRecDepth 100000 in
theorem T227_2 {spec : zRn zH2} {hc : zHC} {o : Int → Int} {d : Nat} (hd : 2 ≤ d) (k0 : Int → Int → Int → Int → zHM → Option (Int × zHM)) (hk0 : ∀ (v4 : Int) (v6 : Int) (v7 : Int) (v8 : Int) (h : zHM) (v : (Int × zHM)), k0 v4 v6 v7 v8 h = some v → zFin 0 (fun _ => 0) (zRu2 spec d) 227 (some (0, v.1)) (hc, v.2, o) (191, [some (22, 0), none, none, none, some (0, v4), none, some (0, v6), some (0, v7), some (0, v8)], [], (hc, h, o))) (v4 : Int) (v6 : Int) (v7 : Int) (v8 : Int) (h : zHM) (v : (Int × zHM)) (e : F227_2 k0 v4 v6 v7 v8 h = some v) : zFin 0 (fun _ => 0) (zRu2 spec d) 227 (some (0, v.1)) (hc, v.2, o) (262, [some (22, 0), none, none, none, some (0, v4), none, some (0, v6), some (0, v7), some (0, v8)], [], (hc, h, o)) := by
  unfold F227_2 at e
  refine zF_blk (m := []) (d := 0) (b := B227_18) (gs := []) (c' := (191, [some (22, 0), none, none, none, some (0, v4), none, some (0, v6), some (0, v7), some (0, (wadd v8 1))], [], (hc, h, o))) K227_18 rfl trivial ?_
  exact hk0 v4 v6 v7 (wadd v8 1) h _ e
def F227_1 : Nat → Int → Int → Int → Int → zHM → Option (Int × zHM)
  | 0, _, _, _, _, _ => none
  | n + 1, v4, v6, v7, v8, h => if (h 14 2) ≤ v8 then some (v4, h) else if v7 ≤ 0 then F227_2 (F227_1 n) v4 v6 v7 v8 h else (F229 v8 h).bind fun r1 => (F230 v6 r1).bind fun r2 => if v7 < r2 then F227_2 (F227_1 n) v4 v6 v7 v8 h else (F232 v8 h).bind fun r3 => (F229 v8 h).bind fun r4 => (F230 v6 r4).bind fun r5 => (F233 v4 v8 (wadd (h 14 209) r3) (wsub v7 (wdiv r5 2)) h).bind fun r6 => F227_2 (F227_1 n) v4 v6 v7 v8 r6
set_option maxRecDepth 100000 in
theorem T227_1 {spec : zRn zH2} {hc : zHC} {o : Int → Int} {d : Nat} (hd : 2 ≤ d) : ∀ (n : Nat) (v4 : Int) (v6 : Int) (v7 : Int) (v8 : Int) (h : zHM) (v : (Int × zHM)), F227_1 n v4 v6 v7 v8 h = some v → zFin 0 (fun _ => 0) (zRu2 spec d) 227 (some (0, v.1)) (hc, v.2, o) (191, [some (22, 0), none, none, none, some (0, v4), none, some (0, v6), some (0, v7), some (0, v8)], [], (hc, h, o)) := by
  intro n
  induction n with
  | zero => intro v4 v6 v7 v8 h v e; unfold F227_1 at e; cases e
  | succ n hk0 =>
    intro v4 v6 v7 v8 h v e
    unfold F227_1 at e
    rcases zI_s e with ⟨q1, e⟩ | ⟨q1, e⟩
    · refine zF_blk (m := []) (d := 1) (b := B227_17) (gs := [0 ≤ 2 ∧ 2 < 2140, (h 14 2) ≤ v8]) (c' := (268, [some (22, 0), none, none, none, some (0, v4), none, some (0, v6), some (0, v7), some (0, v8)], [], (hc, h, o))) K227_17 rfl ⟨by decide, q1, trivial⟩ ?_
      refine zF_blk (m := []) (d := 0) (b := B227_10) (gs := []) (c' := (270, [some (22, 0), none, none, none, some (0, v4), none, some (0, v6), some (0, v7), some (0, v8)], [(0, v4)], (hc, h, o))) K227_10 rfl trivial ?_
      exact zF_riM (zRe1_w (by decide +kernel)) e
    · refine zF_blk (m := []) (d := 0) (b := B227_17) (gs := [0 ≤ 2 ∧ 2 < 2140, ¬ ((h 14 2) ≤ v8)]) (c' := (202, [some (22, 0), none, none, none, some (0, v4), none, some (0, v6), some (0, v7), some (0, v8)], [], (hc, h, o))) K227_17 rfl ⟨by decide, q1, trivial⟩ ?_
      rcases zI_s e with ⟨q2, e⟩ | ⟨q2, e⟩
      · refine zF_blk (m := []) (d := 1) (b := B227_16) (gs := [v7 ≤ 0]) (c' := (262, [some (22, 0), none, none, none, some (0, v4), none, some (0, v6), some (0, v7), some (0, v8)], [], (hc, h, o))) K227_16 rfl ⟨q2, trivial⟩ ?_
        exact T227_2 hd (F227_1 n) hk0 v4 v6 v7 v8 h _ e
      · refine zF_blk (m := []) (d := 0) (b := B227_16) (gs := [¬ (v7 ≤ 0)]) (c' := (207, [some (22, 0), none, none, none, some (0, v4), none, some (0, v6), some (0, v7), some (0, v8)], [], (hc, h, o))) K227_16 rfl ⟨q2, trivial⟩ ?_
        obtain ⟨r1, q3, e⟩ := zB_s e
        refine zF_blk (m := []) (d := 0) (b := B227_11) (gs := []) (c' := (212, [some (22, 0), none, none, none, some (0, v4), none, some (0, v6), some (0, v7), some (0, v8)], [(0, v8), (22, 0), (0, v6)], (hc, h, o))) K227_11 rfl trivial ?_
        refine zF_call (k := 229) (cl := 12) (n := 2) (i := .invokevirtual 276) (args := [(22, 0), (0, v8)]) (rest := [(0, v6)]) (g1 := (hc, h, o)) (r1 := some (0, r1)) (zCk1_w (by decide +kernel)) rfl rfl rfl (st' := [(0, r1), (0, v6)]) rfl (S229 (Nat.le_trans (by decide) hd) v8 h _ q3) ?_
        obtain ⟨r2, q4, e⟩ := zB_s e
        refine zF_call (k := 230) (cl := 12) (n := 2) (i := .invokestatic 279) (args := [(0, v6), (0, r1)]) (rest := []) (g1 := (hc, h, o)) (r1 := some (0, r2)) (zCk1_w (by decide +kernel)) rfl rfl rfl (st' := [(0, r2)]) rfl (S230 (Nat.le_trans (by decide) hd) v6 r1 h _ q4) ?_
        rcases zI_s e with ⟨q5, e⟩ | ⟨q5, e⟩
        · refine zF_blk (m := []) (d := 1) (b := B227_15) (gs := [v7 < r2]) (c' := (262, [some (22, 0), none, none, none, some (0, v4), none, some (0, v6), some (0, v7), some (0, v8)], [], (hc, h, o))) K227_15 rfl ⟨q5, trivial⟩ ?_
          exact T227_2 hd (F227_1 n) hk0 v4 v6 v7 v8 h _ e
        · refine zF_blk (m := []) (d := 0) (b := B227_15) (gs := [¬ (v7 < r2)]) (c' := (223, [some (22, 0), none, none, none, some (0, v4), none, some (0, v6), some (0, v7), some (0, v8)], [], (hc, h, o))) K227_15 rfl ⟨q5, trivial⟩ ?_
          obtain ⟨r3, q6, e⟩ := zB_s e
          refine zF_blk (m := []) (d := 0) (b := B227_12) (gs := [0 ≤ 209 ∧ 209 < 2140]) (c' := (239, [some (22, 0), none, none, none, some (0, v4), none, some (0, v6), some (0, v7), some (0, v8)], [(0, v8), (22, 0), (0, (h 14 209)), (0, v8), (0, v4), (22, 0)], (hc, h, o))) K227_12 rfl ⟨by decide, trivial⟩ ?_
          refine zF_call (k := 232) (cl := 12) (n := 2) (i := .invokevirtual 282) (args := [(22, 0), (0, v8)]) (rest := [(0, (h 14 209)), (0, v8), (0, v4), (22, 0)]) (g1 := (hc, h, o)) (r1 := some (0, r3)) (zCk1_w (by decide +kernel)) rfl rfl rfl (st' := [(0, r3), (0, (h 14 209)), (0, v8), (0, v4), (22, 0)]) rfl (S232 (Nat.le_trans (by decide) hd) v8 h _ q6) ?_
          obtain ⟨r4, q7, e⟩ := zB_s e
          refine zF_blk (m := []) (d := 0) (b := B227_13) (gs := []) (c' := (250, [some (22, 0), none, none, none, some (0, v4), none, some (0, v6), some (0, v7), some (0, v8)], [(0, v8), (22, 0), (0, v6), (0, v7), (0, (wadd (h 14 209) r3)), (0, v8), (0, v4), (22, 0)], (hc, h, o))) K227_13 rfl trivial ?_
          refine zF_call (k := 229) (cl := 12) (n := 2) (i := .invokevirtual 276) (args := [(22, 0), (0, v8)]) (rest := [(0, v6), (0, v7), (0, (wadd (h 14 209) r3)), (0, v8), (0, v4), (22, 0)]) (g1 := (hc, h, o)) (r1 := some (0, r4)) (zCk1_w (by decide +kernel)) rfl rfl rfl (st' := [(0, r4), (0, v6), (0, v7), (0, (wadd (h 14 209) r3)), (0, v8), (0, v4), (22, 0)]) rfl (S229 (Nat.le_trans (by decide) hd) v8 h _ q7) ?_
          obtain ⟨r5, q8, e⟩ := zB_s e
          refine zF_call (k := 230) (cl := 12) (n := 2) (i := .invokestatic 279) (args := [(0, v6), (0, r4)]) (rest := [(0, v7), (0, (wadd (h 14 209) r3)), (0, v8), (0, v4), (22, 0)]) (g1 := (hc, h, o)) (r1 := some (0, r5)) (zCk1_w (by decide +kernel)) rfl rfl rfl (st' := [(0, r5), (0, v7), (0, (wadd (h 14 209) r3)), (0, v8), (0, v4), (22, 0)]) rfl (S230 (Nat.le_trans (by decide) hd) v6 r4 h _ q8) ?_
          obtain ⟨r6, q9, e⟩ := zB_s e
          refine zF_blk (m := []) (d := 0) (b := B227_14) (gs := [¬ 2 = 0]) (c' := (259, [some (22, 0), none, none, none, some (0, v4), none, some (0, v6), some (0, v7), some (0, v8)], [(0, (wsub v7 (wdiv r5 2))), (0, (wadd (h 14 209) r3)), (0, v8), (0, v4), (22, 0)], (hc, h, o))) K227_14 rfl ⟨by decide, trivial⟩ ?_
          refine zF_call (k := 233) (cl := 12) (n := 5) (i := .invokevirtual 285) (args := [(22, 0), (0, v4), (0, v8), (0, (wadd (h 14 209) r3)), (0, (wsub v7 (wdiv r5 2)))]) (rest := []) (g1 := (hc, r6, o)) (r1 := none) (zCk1_w (by decide +kernel)) rfl rfl rfl (st' := []) rfl (S233 (Nat.le_trans (by decide) hd) v4 v8 (wadd (h 14 209) r3) (wsub v7 (wdiv r5 2)) h _ q9) ?_
          exact T227_2 hd (F227_1 n) hk0 v4 v6 v7 v8 r6 _ e
def F227_0 : Nat → Int → Int → Int → Int → zHM → Option (Int × zHM)
  | 0, _, _, _, _, _ => none
  | n + 1, v4, v5, v6, v7, h => if 18 ≤ v7 then zG (0 ≤ (wadd v5 4) ∧ (wadd v5 4) < 2140) (F227_1 zFu v4 v6 ((mset h 14 216 (wadd (h 14 216) 1)) 14 (wadd v5 4)) 0 (mset h 14 216 (wadd (h 14 216) 1))) else zG (0 ≤ (wadd (wadd 457 (wmul 18 v4)) v7) ∧ (wadd (wadd 457 (wmul 18 v4)) v7) < 2140) ((F227_0 n) v4 v5 v6 (wadd v7 1) (mset h 14 (wadd (wadd 457 (wmul 18 v4)) v7) 0))
set_option maxRecDepth 100000 in
theorem T227_0 {spec : zRn zH2} {hc : zHC} {o : Int → Int} {d : Nat} (hd : 2 ≤ d) : ∀ (n : Nat) (v4 : Int) (v5 : Int) (v6 : Int) (v7 : Int) (h : zHM) (v : (Int × zHM)), F227_0 n v4 v5 v6 v7 h = some v → zFin 0 (fun _ => 0) (zRu2 spec d) 227 (some (0, v.1)) (hc, v.2, o) (134, [some (22, 0), none, none, none, some (0, v4), some (0, v5), some (0, v6), some (0, v7), none], [], (hc, h, o)) := by
  intro n
  induction n with
  | zero => intro v4 v5 v6 v7 h v e; unfold F227_0 at e; cases e
  | succ n hk0 =>
    intro v4 v5 v6 v7 h v e
    unfold F227_0 at e
    rcases zI_s e with ⟨q1, e⟩ | ⟨q1, e⟩
    · refine zF_blk (m := []) (d := 1) (b := B227_9) (gs := [18 ≤ v7]) (c' := (165, [some (22, 0), none, none, none, some (0, v4), some (0, v5), some (0, v6), some (0, v7), none], [], (hc, h, o))) K227_9 rfl ⟨q1, trivial⟩ ?_
      obtain ⟨q2, e⟩ := zG_s e
      refine zF_blk (m := []) (d := 0) (b := B227_5) (gs := [0 ≤ 216 ∧ 216 < 2140, 0 ≤ 216 ∧ 216 < 2140, 0 ≤ (wadd v5 4) ∧ (wadd v5 4) < 2140]) (c' := (191, [some (22, 0), none, none, none, some (0, v4), some (0, v5), some (0, v6), some (0, ((mset h 14 216 (wadd (h 14 216) 1)) 14 (wadd v5 4))), some (0, 0)], [], (hc, (mset h 14 216 (wadd (h 14 216) 1)), o))) K227_5 rfl ⟨by decide, by decide, q2, trivial⟩ ?_
      refine zF_blk (m := [true, false, false, false, true, false, true, true, true]) (d := 0) (b := []) (gs := []) (c' := (191, [some (22, 0), none, none, none, some (0, v4), none, some (0, v6), some (0, ((mset h 14 216 (wadd (h 14 216) 1)) 14 (wadd v5 4))), some (0, 0)], [], (hc, (mset h 14 216 (wadd (h 14 216) 1)), o))) rfl rfl trivial ?_
      exact T227_1 hd zFu v4 v6 ((mset h 14 216 (wadd (h 14 216) 1)) 14 (wadd v5 4)) 0 (mset h 14 216 (wadd (h 14 216) 1)) _ e
    · refine zF_blk (m := []) (d := 0) (b := B227_9) (gs := [¬ (18 ≤ v7)]) (c' := (141, [some (22, 0), none, none, none, some (0, v4), some (0, v5), some (0, v6), some (0, v7), none], [], (hc, h, o))) K227_9 rfl ⟨q1, trivial⟩ ?_
      obtain ⟨q3, e⟩ := zG_s e
      refine zF_blk (m := []) (d := 0) (b := B227_6) (gs := []) (c' := (152, [some (22, 0), none, none, none, some (0, v4), some (0, v5), some (0, v6), some (0, v7), none], [(0, v4), (0, 18), (0, 457), (1344370422, 0)], (hc, h, o))) K227_6 rfl trivial ?_
      refine zF_blk (m := []) (d := 0) (b := B227_7) (gs := []) (c' := (153, [some (22, 0), none, none, none, some (0, v4), some (0, v5), some (0, v6), some (0, v7), none], [(0, (wmul 18 v4)), (0, 457), (1344370422, 0)], (hc, h, o))) K227_7 rfl trivial ?_
      refine zF_blk (m := []) (d := 0) (b := B227_8) (gs := [0 ≤ (wadd (wadd 457 (wmul 18 v4)) v7) ∧ (wadd (wadd 457 (wmul 18 v4)) v7) < 2140]) (c' := (134, [some (22, 0), none, none, none, some (0, v4), some (0, v5), some (0, v6), some (0, (wadd v7 1)), none], [], (hc, (mset h 14 (wadd (wadd 457 (wmul 18 v4)) v7) 0), o))) K227_8 rfl ⟨q3, trivial⟩ ?_
      exact hk0 v4 v5 v6 (wadd v7 1) (mset h 14 (wadd (wadd 457 (wmul 18 v4)) v7) 0) _ e
/-- EchoValeModel.sayIt(III)I -/
def F227 (v1 : Int) (v2 : Int) (v3 : Int) (h : zHM) : Option (Int × zHM) := zG (0 ≤ (wadd 210 v1) ∧ (wadd 210 v1) < 2140) (zG (0 ≤ (wadd (wadd 217 (wmul 8 (h 14 216))) 0) ∧ (wadd (wadd 217 (wmul 8 (h 14 216))) 0) < 2140) (zG (0 ≤ (wadd (wadd 217 (wmul 8 (h 14 216))) 1) ∧ (wadd (wadd 217 (wmul 8 (h 14 216))) 1) < 2140) (zG (0 ≤ (wadd (wadd 217 (wmul 8 (h 14 216))) 2) ∧ (wadd (wadd 217 (wmul 8 (h 14 216))) 2) < 2140) (zG (0 ≤ (wadd (wadd 217 (wmul 8 (h 14 216))) 3) ∧ (wadd (wadd 217 (wmul 8 (h 14 216))) 3) < 2140) ((F228 (h 14 (wadd 210 v1)) v3 (mset (mset (mset (mset h 14 (wadd (wadd 217 (wmul 8 (h 14 216))) 0) v2) 14 (wadd (wadd 217 (wmul 8 (h 14 216))) 1) v1) 14 (wadd (wadd 217 (wmul 8 (h 14 216))) 2) ((mset (mset h 14 (wadd (wadd 217 (wmul 8 (h 14 216))) 0) v2) 14 (wadd (wadd 217 (wmul 8 (h 14 216))) 1) v1) 14 209)) 14 (wadd (wadd 217 (wmul 8 (h 14 216))) 3) (h 14 (wadd 210 v1)))).bind fun r1 => zG (0 ≤ (wadd (wadd 217 (wmul 8 (h 14 216))) 4) ∧ (wadd (wadd 217 (wmul 8 (h 14 216))) 4) < 2140) (zG (0 ≤ (wadd (wadd 217 (wmul 8 (h 14 216))) 5) ∧ (wadd (wadd 217 (wmul 8 (h 14 216))) 5) < 2140) (zG (0 ≤ (wadd (wadd 217 (wmul 8 (h 14 216))) 6) ∧ (wadd (wadd 217 (wmul 8 (h 14 216))) 6) < 2140) (zG (0 ≤ (wadd (wadd 217 (wmul 8 (h 14 216))) 7) ∧ (wadd (wadd 217 (wmul 8 (h 14 216))) 7) < 2140) (F227_0 zFu (h 14 216) (wadd 217 (wmul 8 (h 14 216))) (h 14 (wadd 210 v1)) 0 (mset (mset (mset (mset (mset (mset (mset (mset h 14 (wadd (wadd 217 (wmul 8 (h 14 216))) 0) v2) 14 (wadd (wadd 217 (wmul 8 (h 14 216))) 1) v1) 14 (wadd (wadd 217 (wmul 8 (h 14 216))) 2) ((mset (mset h 14 (wadd (wadd 217 (wmul 8 (h 14 216))) 0) v2) 14 (wadd (wadd 217 (wmul 8 (h 14 216))) 1) v1) 14 209)) 14 (wadd (wadd 217 (wmul 8 (h 14 216))) 3) (h 14 (wadd 210 v1))) 14 (wadd (wadd 217 (wmul 8 (h 14 216))) 4) r1) 14 (wadd (wadd 217 (wmul 8 (h 14 216))) 5) (wshl 1 v1)) 14 (wadd (wadd 217 (wmul 8 (h 14 216))) 6) 0) 14 (wadd (wadd 217 (wmul 8 (h 14 216))) 7) 0))))))))))
set_option maxRecDepth 100000 in
theorem S227 {spec : zRn zH2} {hc : zHC} {o : Int → Int} {d : Nat} (hd : 3 ≤ d) (v1 : Int) (v2 : Int) (v3 : Int) (h : zHM) (v : (Int × zHM)) (e : F227 v1 v2 v3 h = some v) : zRu2 spec d 227 [(22, 0), (0, v1), (0, v2), (0, v3)] (hc, h, o) (some (0, v.1)) (hc, v.2, o) := by
  refine zF_in (D := 2) (mx := 9) (L := [some (22, 0), some (0, v1), some (0, v2), some (0, v3), none, none, none, none, none]) (by decide +kernel) rfl rfl hd (fun d hd => ?_)
  unfold F227 at e
  obtain ⟨q1, e⟩ := zG_s e
  obtain ⟨q2, e⟩ := zG_s e
  obtain ⟨q3, e⟩ := zG_s e
  obtain ⟨q4, e⟩ := zG_s e
  obtain ⟨q5, e⟩ := zG_s e
  refine zF_blk (m := []) (d := 0) (b := B227_0) (gs := [0 ≤ 216 ∧ 216 < 2140]) (c' := (17, [some (22, 0), some (0, v1), some (0, v2), some (0, v3), some (0, (h 14 216)), none, none, none, none], [(0, (h 14 216)), (0, 8), (0, 217)], (hc, h, o))) K227_0 rfl ⟨by decide, trivial⟩ ?_
  refine zF_blk (m := []) (d := 0) (b := B227_1) (gs := []) (c' := (18, [some (22, 0), some (0, v1), some (0, v2), some (0, v3), some (0, (h 14 216)), none, none, none, none], [(0, (wmul 8 (h 14 216))), (0, 217)], (hc, h, o))) K227_1 rfl trivial ?_
  refine zF_blk (m := []) (d := 0) (b := B227_2) (gs := []) (c' := (29, [some (22, 0), some (0, v1), some (0, v2), some (0, v3), some (0, (h 14 216)), some (0, (wadd 217 (wmul 8 (h 14 216)))), none, none, none], [(0, v1), (0, 210), (1344370422, 0)], (hc, h, o))) K227_2 rfl trivial ?_
  obtain ⟨r1, q6, e⟩ := zB_s e
  refine zF_blk (m := []) (d := 0) (b := B227_3) (gs := [0 ≤ (wadd 210 v1) ∧ (wadd 210 v1) < 2140, 0 ≤ (wadd (wadd 217 (wmul 8 (h 14 216))) 0) ∧ (wadd (wadd 217 (wmul 8 (h 14 216))) 0) < 2140, 0 ≤ (wadd (wadd 217 (wmul 8 (h 14 216))) 1) ∧ (wadd (wadd 217 (wmul 8 (h 14 216))) 1) < 2140, 0 ≤ 209 ∧ 209 < 2140, 0 ≤ (wadd (wadd 217 (wmul 8 (h 14 216))) 2) ∧ (wadd (wadd 217 (wmul 8 (h 14 216))) 2) < 2140, 0 ≤ (wadd (wadd 217 (wmul 8 (h 14 216))) 3) ∧ (wadd (wadd 217 (wmul 8 (h 14 216))) 3) < 2140]) (c' := (93, [some (22, 0), some (0, v1), some (0, v2), some (0, v3), some (0, (h 14 216)), some (0, (wadd 217 (wmul 8 (h 14 216)))), some (0, (h 14 (wadd 210 v1))), none, none], [(0, v3), (0, (h 14 (wadd 210 v1))), (22, 0), (0, (wadd (wadd 217 (wmul 8 (h 14 216))) 4)), (1344370422, 0)], (hc, (mset (mset (mset (mset h 14 (wadd (wadd 217 (wmul 8 (h 14 216))) 0) v2) 14 (wadd (wadd 217 (wmul 8 (h 14 216))) 1) v1) 14 (wadd (wadd 217 (wmul 8 (h 14 216))) 2) ((mset (mset h 14 (wadd (wadd 217 (wmul 8 (h 14 216))) 0) v2) 14 (wadd (wadd 217 (wmul 8 (h 14 216))) 1) v1) 14 209)) 14 (wadd (wadd 217 (wmul 8 (h 14 216))) 3) (h 14 (wadd 210 v1))), o))) K227_3 rfl ⟨q1, q2, q3, by decide, q4, q5, trivial⟩ ?_
  refine zF_call (k := 228) (cl := 12) (n := 3) (i := .invokevirtual 273) (args := [(22, 0), (0, (h 14 (wadd 210 v1))), (0, v3)]) (rest := [(0, (wadd (wadd 217 (wmul 8 (h 14 216))) 4)), (1344370422, 0)]) (g1 := (hc, (mset (mset (mset (mset h 14 (wadd (wadd 217 (wmul 8 (h 14 216))) 0) v2) 14 (wadd (wadd 217 (wmul 8 (h 14 216))) 1) v1) 14 (wadd (wadd 217 (wmul 8 (h 14 216))) 2) ((mset (mset h 14 (wadd (wadd 217 (wmul 8 (h 14 216))) 0) v2) 14 (wadd (wadd 217 (wmul 8 (h 14 216))) 1) v1) 14 209)) 14 (wadd (wadd 217 (wmul 8 (h 14 216))) 3) (h 14 (wadd 210 v1))), o)) (r1 := some (0, r1)) (zCk1_w (by decide +kernel)) rfl rfl rfl (st' := [(0, r1), (0, (wadd (wadd 217 (wmul 8 (h 14 216))) 4)), (1344370422, 0)]) rfl (S228 (Nat.le_trans (by decide) hd) (h 14 (wadd 210 v1)) v3 (mset (mset (mset (mset h 14 (wadd (wadd 217 (wmul 8 (h 14 216))) 0) v2) 14 (wadd (wadd 217 (wmul 8 (h 14 216))) 1) v1) 14 (wadd (wadd 217 (wmul 8 (h 14 216))) 2) ((mset (mset h 14 (wadd (wadd 217 (wmul 8 (h 14 216))) 0) v2) 14 (wadd (wadd 217 (wmul 8 (h 14 216))) 1) v1) 14 209)) 14 (wadd (wadd 217 (wmul 8 (h 14 216))) 3) (h 14 (wadd 210 v1))) _ q6) ?_
  obtain ⟨q7, e⟩ := zG_s e
  obtain ⟨q8, e⟩ := zG_s e
  obtain ⟨q9, e⟩ := zG_s e
  obtain ⟨q10, e⟩ := zG_s e
  refine zF_blk (m := []) (d := 0) (b := B227_4) (gs := [0 ≤ (wadd (wadd 217 (wmul 8 (h 14 216))) 4) ∧ (wadd (wadd 217 (wmul 8 (h 14 216))) 4) < 2140, 0 ≤ (wadd (wadd 217 (wmul 8 (h 14 216))) 5) ∧ (wadd (wadd 217 (wmul 8 (h 14 216))) 5) < 2140, 0 ≤ (wadd (wadd 217 (wmul 8 (h 14 216))) 6) ∧ (wadd (wadd 217 (wmul 8 (h 14 216))) 6) < 2140, 0 ≤ (wadd (wadd 217 (wmul 8 (h 14 216))) 7) ∧ (wadd (wadd 217 (wmul 8 (h 14 216))) 7) < 2140]) (c' := (134, [some (22, 0), some (0, v1), some (0, v2), some (0, v3), some (0, (h 14 216)), some (0, (wadd 217 (wmul 8 (h 14 216)))), some (0, (h 14 (wadd 210 v1))), some (0, 0), none], [], (hc, (mset (mset (mset (mset (mset (mset (mset (mset h 14 (wadd (wadd 217 (wmul 8 (h 14 216))) 0) v2) 14 (wadd (wadd 217 (wmul 8 (h 14 216))) 1) v1) 14 (wadd (wadd 217 (wmul 8 (h 14 216))) 2) ((mset (mset h 14 (wadd (wadd 217 (wmul 8 (h 14 216))) 0) v2) 14 (wadd (wadd 217 (wmul 8 (h 14 216))) 1) v1) 14 209)) 14 (wadd (wadd 217 (wmul 8 (h 14 216))) 3) (h 14 (wadd 210 v1))) 14 (wadd (wadd 217 (wmul 8 (h 14 216))) 4) r1) 14 (wadd (wadd 217 (wmul 8 (h 14 216))) 5) (wshl 1 v1)) 14 (wadd (wadd 217 (wmul 8 (h 14 216))) 6) 0) 14 (wadd (wadd 217 (wmul 8 (h 14 216))) 7) 0), o))) K227_4 rfl ⟨q7, q8, q9, q10, trivial⟩ ?_
  refine zF_blk (m := [true, false, false, false, true, true, true, true, false]) (d := 0) (b := []) (gs := []) (c' := (134, [some (22, 0), none, none, none, some (0, (h 14 216)), some (0, (wadd 217 (wmul 8 (h 14 216)))), some (0, (h 14 (wadd 210 v1))), some (0, 0), none], [], (hc, (mset (mset (mset (mset (mset (mset (mset (mset h 14 (wadd (wadd 217 (wmul 8 (h 14 216))) 0) v2) 14 (wadd (wadd 217 (wmul 8 (h 14 216))) 1) v1) 14 (wadd (wadd 217 (wmul 8 (h 14 216))) 2) ((mset (mset h 14 (wadd (wadd 217 (wmul 8 (h 14 216))) 0) v2) 14 (wadd (wadd 217 (wmul 8 (h 14 216))) 1) v1) 14 209)) 14 (wadd (wadd 217 (wmul 8 (h 14 216))) 3) (h 14 (wadd 210 v1))) 14 (wadd (wadd 217 (wmul 8 (h 14 216))) 4) r1) 14 (wadd (wadd 217 (wmul 8 (h 14 216))) 5) (wshl 1 v1)) 14 (wadd (wadd 217 (wmul 8 (h 14 216))) 6) 0) 14 (wadd (wadd 217 (wmul 8 (h 14 216))) 7) 0), o))) rfl rfl trivial ?_
  exact T227_0 hd zFu (h 14 216) (wadd 217 (wmul 8 (h 14 216))) (h 14 (wadd 210 v1)) 0 (mset (mset (mset (mset (mset (mset (mset (mset h 14 (wadd (wadd 217 (wmul 8 (h 14 216))) 0) v2) 14 (wadd (wadd 217 (wmul 8 (h 14 216))) 1) v1) 14 (wadd (wadd 217 (wmul 8 (h 14 216))) 2) ((mset (mset h 14 (wadd (wadd 217 (wmul 8 (h 14 216))) 0) v2) 14 (wadd (wadd 217 (wmul 8 (h 14 216))) 1) v1) 14 209)) 14 (wadd (wadd 217 (wmul 8 (h 14 216))) 3) (h 14 (wadd 210 v1))) 14 (wadd (wadd 217 (wmul 8 (h 14 216))) 4) r1) 14 (wadd (wadd 217 (wmul 8 (h 14 216))) 5) (wshl 1 v1)) 14 (wadd (wadd 217 (wmul 8 (h 14 216))) 6) 0) 14 (wadd (wadd 217 (wmul 8 (h 14 216))) 7) 0) _ e
noncomputable def B226_0 : List zRow := [(0, .aload_n 0, 1, (0, 0, 0)), (1, .iconst 0, 1, (0, 0, 0)), (2, .putfield 81, 3, (12, 0, 0)), (5, .aload_n 0, 1, (0, 0, 0)), (6, .iload_n 1, 1, (0, 0, 0))]
theorem K226_0 : zRk 226 B226_0 = true := zRw_ok (by decide +kernel)
noncomputable def B226_1 : List zRow := [(46, .iconst (-1), 1, (0, 0, 0))]
theorem K226_1 : zRk 226 B226_1 = true := zRw_ok (by decide +kernel)
noncomputable def B226_2 : List zRow := [(13, .iload_n 2, 1, (0, 0, 0)), (14, .iconst 1, 1, (0, 0, 0)), (15, .bipush 99, 2, (0, 0, 0))]
theorem K226_2 : zRk 226 B226_2 = true := zRw_ok (by decide +kernel)
noncomputable def B226_3 : List zRow := [(23, .iload_n 3, 1, (0, 0, 0)), (24, .iconst 1, 1, (0, 0, 0)), (25, .bipush 9, 2, (0, 0, 0))]
theorem K226_3 : zRk 226 B226_3 = true := zRw_ok (by decide +kernel)
noncomputable def B226_4 : List zRow := [(48, .aload_n 0, 1, (0, 0, 0))]
theorem K226_4 : zRk 226 B226_4 = true := zRw_ok (by decide +kernel)
noncomputable def B226_5 : List zRow := [(52, .aload_n 0, 1, (0, 0, 0)), (53, .iload_n 1, 1, (0, 0, 0)), (54, .iload_n 2, 1, (0, 0, 0)), (55, .iload_n 3, 1, (0, 0, 0))]
theorem K226_5 : zRk 226 B226_5 = true := zRw_ok (by decide +kernel)
noncomputable def B226_6 : List zRow := [(33, .aload_n 0, 1, (0, 0, 0)), (34, .getfield 13, 3, (12, 14, 5251442)), (37, .sipush 216, 3, (0, 0, 0)), (40, .iaload, 1, (0, 0, 0)), (41, .bipush 30, 2, (0, 0, 0)), (43, .if_icmp .ne 5, 3, (0, 0, 0))]
theorem K226_6 : zRk 226 B226_6 = true := zRw_ok (by decide +kernel)
noncomputable def B226_7 : List zRow := [(30, .ifCond .eq 16, 3, (0, 0, 0))]
theorem K226_7 : zRk 226 B226_7 = true := zRw_ok (by decide +kernel)
noncomputable def B226_8 : List zRow := [(20, .ifCond .eq 26, 3, (0, 0, 0))]
theorem K226_8 : zRk 226 B226_8 = true := zRw_ok (by decide +kernel)
noncomputable def B226_9 : List zRow := [(10, .ifCond .eq 36, 3, (0, 0, 0))]
theorem K226_9 : zRk 226 B226_9 = true := zRw_ok (by decide +kernel)
/-- EchoValeModel.says(III)I -/
def F226 (v1 : Int) (v2 : Int) (v3 : Int) (h : zHM) : Option (Int × zHM) := (F210 v1 (mset h 0 0 0)).bind fun r1 => if r1 = 0 then some ((-1), (mset h 0 0 0)) else (F188 v2 1 99).bind fun r2 => if r2 = 0 then some ((-1), (mset h 0 0 0)) else (F188 v3 1 9).bind fun r3 => if r3 = 0 then some ((-1), (mset h 0 0 0)) else if ¬ (h 14 216) = 30 then (F225 (mset h 0 0 0)).bind fun r4 => (F227 v1 v2 v3 r4).bind fun r5 => some (r5.1, r5.2) else some ((-1), (mset h 0 0 0))
set_option maxRecDepth 100000 in
theorem S226 {spec : zRn zH2} {hc : zHC} {o : Int → Int} {d : Nat} (hd : 4 ≤ d) (v1 : Int) (v2 : Int) (v3 : Int) (h : zHM) (v : (Int × zHM)) (e : F226 v1 v2 v3 h = some v) : zRu2 spec d 226 [(22, 0), (0, v1), (0, v2), (0, v3)] (hc, h, o) (some (0, v.1)) (hc, v.2, o) := by
  refine zF_in (D := 3) (mx := 4) (L := [some (22, 0), some (0, v1), some (0, v2), some (0, v3)]) (by decide +kernel) rfl rfl hd (fun d hd => ?_)
  unfold F226 at e
  obtain ⟨r1, q1, e⟩ := zB_s e
  refine zF_blk (m := []) (d := 0) (b := B226_0) (gs := []) (c' := (7, [some (22, 0), some (0, v1), some (0, v2), some (0, v3)], [(0, v1), (22, 0)], (hc, (mset h 0 0 0), o))) K226_0 rfl trivial ?_
  refine zF_call (k := 210) (cl := 12) (n := 2) (i := .invokevirtual 260) (args := [(22, 0), (0, v1)]) (rest := []) (g1 := (hc, (mset h 0 0 0), o)) (r1 := some (0, r1)) (zCk1_w (by decide +kernel)) rfl rfl rfl (st' := [(0, r1)]) rfl (S210 (Nat.le_trans (by decide) hd) v1 (mset h 0 0 0) _ q1) ?_
  rcases zI_s e with ⟨q2, e⟩ | ⟨q2, e⟩
  · refine zF_blk (m := []) (d := 1) (b := B226_9) (gs := [r1 = 0]) (c' := (46, [some (22, 0), some (0, v1), some (0, v2), some (0, v3)], [], (hc, (mset h 0 0 0), o))) K226_9 rfl ⟨q2, trivial⟩ ?_
    refine zF_blk (m := []) (d := 0) (b := B226_1) (gs := []) (c' := (47, [some (22, 0), some (0, v1), some (0, v2), some (0, v3)], [(0, (-1))], (hc, (mset h 0 0 0), o))) K226_1 rfl trivial ?_
    exact zF_riM (zRe1_w (by decide +kernel)) e
  · refine zF_blk (m := []) (d := 0) (b := B226_9) (gs := [¬ (r1 = 0)]) (c' := (13, [some (22, 0), some (0, v1), some (0, v2), some (0, v3)], [], (hc, (mset h 0 0 0), o))) K226_9 rfl ⟨q2, trivial⟩ ?_
    obtain ⟨r2, q3, e⟩ := zB_s e
    refine zF_blk (m := []) (d := 0) (b := B226_2) (gs := []) (c' := (17, [some (22, 0), some (0, v1), some (0, v2), some (0, v3)], [(0, 99), (0, 1), (0, v2)], (hc, (mset h 0 0 0), o))) K226_2 rfl trivial ?_
    refine zF_call (k := 188) (cl := 12) (n := 3) (i := .invokestatic 151) (args := [(0, v2), (0, 1), (0, 99)]) (rest := []) (g1 := (hc, (mset h 0 0 0), o)) (r1 := some (0, r2)) (zCk1_w (by decide +kernel)) rfl rfl rfl (st' := [(0, r2)]) rfl (S188 (Nat.le_trans (by decide) hd) v2 1 99 (mset h 0 0 0) _ q3) ?_
    rcases zI_s e with ⟨q4, e⟩ | ⟨q4, e⟩
    · refine zF_blk (m := []) (d := 1) (b := B226_8) (gs := [r2 = 0]) (c' := (46, [some (22, 0), some (0, v1), some (0, v2), some (0, v3)], [], (hc, (mset h 0 0 0), o))) K226_8 rfl ⟨q4, trivial⟩ ?_
      refine zF_blk (m := []) (d := 0) (b := B226_1) (gs := []) (c' := (47, [some (22, 0), some (0, v1), some (0, v2), some (0, v3)], [(0, (-1))], (hc, (mset h 0 0 0), o))) K226_1 rfl trivial ?_
      exact zF_riM (zRe1_w (by decide +kernel)) e
    · refine zF_blk (m := []) (d := 0) (b := B226_8) (gs := [¬ (r2 = 0)]) (c' := (23, [some (22, 0), some (0, v1), some (0, v2), some (0, v3)], [], (hc, (mset h 0 0 0), o))) K226_8 rfl ⟨q4, trivial⟩ ?_
      obtain ⟨r3, q5, e⟩ := zB_s e
      refine zF_blk (m := []) (d := 0) (b := B226_3) (gs := []) (c' := (27, [some (22, 0), some (0, v1), some (0, v2), some (0, v3)], [(0, 9), (0, 1), (0, v3)], (hc, (mset h 0 0 0), o))) K226_3 rfl trivial ?_
      refine zF_call (k := 188) (cl := 12) (n := 3) (i := .invokestatic 151) (args := [(0, v3), (0, 1), (0, 9)]) (rest := []) (g1 := (hc, (mset h 0 0 0), o)) (r1 := some (0, r3)) (zCk1_w (by decide +kernel)) rfl rfl rfl (st' := [(0, r3)]) rfl (S188 (Nat.le_trans (by decide) hd) v3 1 9 (mset h 0 0 0) _ q5) ?_
      rcases zI_s e with ⟨q6, e⟩ | ⟨q6, e⟩
      · refine zF_blk (m := []) (d := 1) (b := B226_7) (gs := [r3 = 0]) (c' := (46, [some (22, 0), some (0, v1), some (0, v2), some (0, v3)], [], (hc, (mset h 0 0 0), o))) K226_7 rfl ⟨q6, trivial⟩ ?_
        refine zF_blk (m := []) (d := 0) (b := B226_1) (gs := []) (c' := (47, [some (22, 0), some (0, v1), some (0, v2), some (0, v3)], [(0, (-1))], (hc, (mset h 0 0 0), o))) K226_1 rfl trivial ?_
        exact zF_riM (zRe1_w (by decide +kernel)) e
      · refine zF_blk (m := []) (d := 0) (b := B226_7) (gs := [¬ (r3 = 0)]) (c' := (33, [some (22, 0), some (0, v1), some (0, v2), some (0, v3)], [], (hc, (mset h 0 0 0), o))) K226_7 rfl ⟨q6, trivial⟩ ?_
        rcases zI_s e with ⟨q7, e⟩ | ⟨q7, e⟩
        · refine zF_blk (m := []) (d := 1) (b := B226_6) (gs := [0 ≤ 216 ∧ 216 < 2140, ¬ (h 14 216) = 30]) (c' := (48, [some (22, 0), some (0, v1), some (0, v2), some (0, v3)], [], (hc, (mset h 0 0 0), o))) K226_6 rfl ⟨by decide, q7, trivial⟩ ?_
          obtain ⟨r4, q8, e⟩ := zB_s e
          refine zF_blk (m := []) (d := 0) (b := B226_4) (gs := []) (c' := (49, [some (22, 0), some (0, v1), some (0, v2), some (0, v3)], [(22, 0)], (hc, (mset h 0 0 0), o))) K226_4 rfl trivial ?_
          refine zF_call (k := 225) (cl := 12) (n := 1) (i := .invokevirtual 308) (args := [(22, 0)]) (rest := []) (g1 := (hc, r4, o)) (r1 := none) (zCk1_w (by decide +kernel)) rfl rfl rfl (st' := []) rfl (S225 (Nat.le_trans (by decide) hd)  (mset h 0 0 0) _ q8) ?_
          obtain ⟨r5, q9, e⟩ := zB_s e
          refine zF_blk (m := []) (d := 0) (b := B226_5) (gs := []) (c' := (56, [some (22, 0), some (0, v1), some (0, v2), some (0, v3)], [(0, v3), (0, v2), (0, v1), (22, 0)], (hc, r4, o))) K226_5 rfl trivial ?_
          refine zF_call (k := 227) (cl := 12) (n := 4) (i := .invokevirtual 311) (args := [(22, 0), (0, v1), (0, v2), (0, v3)]) (rest := []) (g1 := (hc, r5.2, o)) (r1 := some (0, r5.1)) (zCk1_w (by decide +kernel)) rfl rfl rfl (st' := [(0, r5.1)]) rfl (S227 (Nat.le_trans (by decide) hd) v1 v2 v3 r4 _ q9) ?_
          exact zF_riM (zRe1_w (by decide +kernel)) e
        · refine zF_blk (m := []) (d := 0) (b := B226_6) (gs := [0 ≤ 216 ∧ 216 < 2140, ¬ (¬ (h 14 216) = 30)]) (c' := (46, [some (22, 0), some (0, v1), some (0, v2), some (0, v3)], [], (hc, (mset h 0 0 0), o))) K226_6 rfl ⟨by decide, q7, trivial⟩ ?_
          refine zF_blk (m := []) (d := 0) (b := B226_1) (gs := []) (c' := (47, [some (22, 0), some (0, v1), some (0, v2), some (0, v3)], [(0, (-1))], (hc, (mset h 0 0 0), o))) K226_1 rfl trivial ?_
          exact zF_riM (zRe1_w (by decide +kernel)) e
noncomputable def B91_0 : List zRow := [(0, .iconst (-1), 1, (0, 0, 0)), (1, .istore_n 2, 1, (0, 0, 0)), (2, .iconst 0, 1, (0, 0, 0)), (3, .istore_n 3, 1, (0, 0, 0)), (4, .iconst 0, 1, (0, 0, 0)), (5, .istore 4, 2, (0, 0, 0))]
theorem K91_0 : zRk 91 B91_0 = true := zRw_ok (by decide +kernel)
noncomputable def B91_1 : List zRow := [(60, .iload_n 3, 1, (0, 0, 0))]
theorem K91_1 : zRk 91 B91_1 = true := zRw_ok (by decide +kernel)
noncomputable def B91_2 : List zRow := [(38, .aload_n 0, 1, (0, 0, 0)), (39, .getfield 46, 3, (9, 18, 5242906)), (42, .iload 4, 2, (0, 0, 0)), (44, .iaload, 1, (0, 0, 0)), (45, .istore_n 2, 1, (0, 0, 0)), (46, .aload_n 0, 1, (0, 0, 0)), (47, .getfield 49, 3, (9, 19, 5242906)), (50, .iload 4, 2, (0, 0, 0)), (52, .iaload, 1, (0, 0, 0)), (53, .istore_n 3, 1, (0, 0, 0))]
theorem K91_2 : zRk 91 B91_2 = true := zRw_ok (by decide +kernel)
noncomputable def B91_3 : List zRow := [(27, .aload_n 0, 1, (0, 0, 0)), (28, .getfield 46, 3, (9, 18, 5242906)), (31, .iload 4, 2, (0, 0, 0)), (33, .iaload, 1, (0, 0, 0)), (34, .iload_n 2, 1, (0, 0, 0)), (35, .if_icmp .le 19, 3, (0, 0, 0))]
theorem K91_3 : zRk 91 B91_3 = true := zRw_ok (by decide +kernel)
noncomputable def B91_4 : List zRow := [(16, .aload_n 0, 1, (0, 0, 0)), (17, .getfield 46, 3, (9, 18, 5242906)), (20, .iload 4, 2, (0, 0, 0)), (22, .iaload, 1, (0, 0, 0)), (23, .iload_n 1, 1, (0, 0, 0)), (24, .if_icmp .gt 30, 3, (0, 0, 0))]
theorem K91_4 : zRk 91 B91_4 = true := zRw_ok (by decide +kernel)
noncomputable def B91_5 : List zRow := [(7, .iload 4, 2, (0, 0, 0)), (9, .aload_n 0, 1, (0, 0, 0)), (10, .getfield 71, 3, (9, 6, 0)), (13, .if_icmp .ge 47, 3, (0, 0, 0))]
theorem K91_5 : zRk 91 B91_5 = true := zRw_ok (by decide +kernel)
noncomputable def B91_6 : List zRow := [(54, .iinc 4 1, 3, (0, 0, 0)), (57, .goto (-50), 3, (0, 0, 0))]
theorem K91_6 : zRk 91 B91_6 = true := zRw_ok (by decide +kernel)
def F91_1 (k0 : Int → Int → Int → Int → Int → Option Int) (h : zHC) (v0 : Int) (v1 : Int) (v2 : Int) (v3 : Int) (v4 : Int) : Option Int := k0 v0 v1 v2 v3 (wadd v4 1)
set_option maxRecDepth 100000 in
theorem T91_1 {spec : zRn zH2} {hm : zHM} {o : Int → Int} {d : Nat} (hd : 0 ≤ d) (h : zHC) (k0 : Int → Int → Int → Int → Int → Option Int) (hk0 : ∀ (v0 : Int) (v1 : Int) (v2 : Int) (v3 : Int) (v4 : Int) (v : Int), k0 v0 v1 v2 v3 v4 = some v → zFin 0 (fun _ => 0) (zRu2 spec d) 91 (some (0, v)) (h, hm, o) (7, [some (19, v0), some (0, v1), some (0, v2), some (0, v3), some (0, v4)], [], (h, hm, o))) (v0 : Int) (v1 : Int) (v2 : Int) (v3 : Int) (v4 : Int) (v : Int) (e : F91_1 k0 h v0 v1 v2 v3 v4 = some v) : zFin 0 (fun _ => 0) (zRu2 spec d) 91 (some (0, v)) (h, hm, o) (54, [some (19, v0), some (0, v1), some (0, v2), some (0, v3), some (0, v4)], [], (h, hm, o)) := by
  unfold F91_1 at e
  refine zF_blk (m := []) (d := 0) (b := B91_6) (gs := []) (c' := (7, [some (19, v0), some (0, v1), some (0, v2), some (0, v3), some (0, (wadd v4 1))], [], (h, hm, o))) K91_6 rfl trivial ?_
  exact hk0 v0 v1 v2 v3 (wadd v4 1) _ e
def F91_0 (h : zHC) : Nat → Int → Int → Int → Int → Int → Option Int
  | 0, _, _, _, _, _ => none
  | n + 1, v0, v1, v2, v3, v4 => if (h 582 v0 0) ≤ v4 then some v3 else zG (0 ≤ v4 ∧ v4 < 6) (if v1 < (h 594 v0 v4) then F91_1 (F91_0 h n) h v0 v1 v2 v3 v4 else zG (0 ≤ v4 ∧ v4 < 6) (if (h 594 v0 v4) ≤ v2 then F91_1 (F91_0 h n) h v0 v1 v2 v3 v4 else zG (0 ≤ v4 ∧ v4 < 6) (zG (0 ≤ v4 ∧ v4 < 6) (F91_1 (F91_0 h n) h v0 v1 (h 594 v0 v4) (h 595 v0 v4) v4))))
set_option maxRecDepth 100000 in
theorem T91_0 {spec : zRn zH2} {hm : zHM} {o : Int → Int} {d : Nat} (hd : 0 ≤ d) (h : zHC) : ∀ (n : Nat) (v0 : Int) (v1 : Int) (v2 : Int) (v3 : Int) (v4 : Int) (v : Int), F91_0 h n v0 v1 v2 v3 v4 = some v → zFin 0 (fun _ => 0) (zRu2 spec d) 91 (some (0, v)) (h, hm, o) (7, [some (19, v0), some (0, v1), some (0, v2), some (0, v3), some (0, v4)], [], (h, hm, o)) := by
  intro n
  induction n with
  | zero => intro v0 v1 v2 v3 v4 v e; unfold F91_0 at e; cases e
  | succ n hk0 =>
    intro v0 v1 v2 v3 v4 v e
    unfold F91_0 at e
    rcases zI_s e with ⟨q1, e⟩ | ⟨q1, e⟩
    · refine zF_blk (m := []) (d := 1) (b := B91_5) (gs := [(h 582 v0 0) ≤ v4]) (c' := (60, [some (19, v0), some (0, v1), some (0, v2), some (0, v3), some (0, v4)], [], (h, hm, o))) K91_5 rfl ⟨q1, trivial⟩ ?_
      refine zF_blk (m := []) (d := 0) (b := B91_1) (gs := []) (c' := (61, [some (19, v0), some (0, v1), some (0, v2), some (0, v3), some (0, v4)], [(0, v3)], (h, hm, o))) K91_1 rfl trivial ?_
      obtain rfl := Option.some.inj e
      exact zF_ri (zRe1_w (by decide +kernel))
    · refine zF_blk (m := []) (d := 0) (b := B91_5) (gs := [¬ ((h 582 v0 0) ≤ v4)]) (c' := (16, [some (19, v0), some (0, v1), some (0, v2), some (0, v3), some (0, v4)], [], (h, hm, o))) K91_5 rfl ⟨q1, trivial⟩ ?_
      obtain ⟨q2, e⟩ := zG_s e
      rcases zI_s e with ⟨q3, e⟩ | ⟨q3, e⟩
      · refine zF_blk (m := []) (d := 1) (b := B91_4) (gs := [0 ≤ v4 ∧ v4 < 6, v1 < (h 594 v0 v4)]) (c' := (54, [some (19, v0), some (0, v1), some (0, v2), some (0, v3), some (0, v4)], [], (h, hm, o))) K91_4 rfl ⟨q2, q3, trivial⟩ ?_
        exact T91_1 hd h (F91_0 h n) hk0 v0 v1 v2 v3 v4 _ e
      · refine zF_blk (m := []) (d := 0) (b := B91_4) (gs := [0 ≤ v4 ∧ v4 < 6, ¬ (v1 < (h 594 v0 v4))]) (c' := (27, [some (19, v0), some (0, v1), some (0, v2), some (0, v3), some (0, v4)], [], (h, hm, o))) K91_4 rfl ⟨q2, q3, trivial⟩ ?_
        obtain ⟨q4, e⟩ := zG_s e
        rcases zI_s e with ⟨q5, e⟩ | ⟨q5, e⟩
        · refine zF_blk (m := []) (d := 1) (b := B91_3) (gs := [0 ≤ v4 ∧ v4 < 6, (h 594 v0 v4) ≤ v2]) (c' := (54, [some (19, v0), some (0, v1), some (0, v2), some (0, v3), some (0, v4)], [], (h, hm, o))) K91_3 rfl ⟨q4, q5, trivial⟩ ?_
          exact T91_1 hd h (F91_0 h n) hk0 v0 v1 v2 v3 v4 _ e
        · refine zF_blk (m := []) (d := 0) (b := B91_3) (gs := [0 ≤ v4 ∧ v4 < 6, ¬ ((h 594 v0 v4) ≤ v2)]) (c' := (38, [some (19, v0), some (0, v1), some (0, v2), some (0, v3), some (0, v4)], [], (h, hm, o))) K91_3 rfl ⟨q4, q5, trivial⟩ ?_
          obtain ⟨q6, e⟩ := zG_s e
          obtain ⟨q6, e⟩ := zG_s e
          refine zF_blk (m := []) (d := 0) (b := B91_2) (gs := [0 ≤ v4 ∧ v4 < 6, 0 ≤ v4 ∧ v4 < 6]) (c' := (54, [some (19, v0), some (0, v1), some (0, (h 594 v0 v4)), some (0, (h 595 v0 v4)), some (0, v4)], [], (h, hm, o))) K91_2 rfl ⟨q6, q6, trivial⟩ ?_
          exact T91_1 hd h (F91_0 h n) hk0 v0 v1 (h 594 v0 v4) (h 595 v0 v4) v4 _ e
/-- EchoVale$Valley.snowAt(I)I -/
def F91 (v0 : Int) (v1 : Int) (h : zHC) : Option Int := F91_0 h zFu v0 v1 (-1) 0 0
set_option maxRecDepth 100000 in
theorem S91 {spec : zRn zH2} {hm : zHM} {o : Int → Int} {d : Nat} (hd : 1 ≤ d) (v0 : Int) (v1 : Int) (h : zHC) (v : Int) (e : F91 v0 v1 h = some v) : zRu2 spec d 91 [(19, v0), (0, v1)] (h, hm, o) (some (0, v)) (h, hm, o) := by
  refine zF_in (D := 0) (mx := 5) (L := [some (19, v0), some (0, v1), none, none, none]) (by decide +kernel) rfl rfl hd (fun d hd => ?_)
  unfold F91 at e
  refine zF_blk (m := []) (d := 0) (b := B91_0) (gs := []) (c' := (7, [some (19, v0), some (0, v1), some (0, (-1)), some (0, 0), some (0, 0)], [], (h, hm, o))) K91_0 rfl trivial ?_
  exact T91_0 hd h zFu v0 v1 (-1) 0 0 _ e
noncomputable def B93_0 : List zRow := [(0, .iconst 0, 1, (0, 0, 0)), (1, .istore 4, 2, (0, 0, 0)), (3, .iconst 0, 1, (0, 0, 0)), (4, .istore 5, 2, (0, 0, 0))]
theorem K93_0 : zRk 93 B93_0 = true := zRw_ok (by decide +kernel)
noncomputable def B93_1 : List zRow := [(54, .iload 4, 2, (0, 0, 0))]
theorem K93_1 : zRk 93 B93_1 = true := zRw_ok (by decide +kernel)
noncomputable def B93_2 : List zRow := [(22, .aload_n 0, 1, (0, 0, 0)), (23, .getfield 15, 3, (9, 8, 5242906)), (26, .iload_n 1, 1, (0, 0, 0)), (27, .iaload, 1, (0, 0, 0)), (28, .aload_n 3, 1, (0, 0, 0)), (29, .iload 5, 2, (0, 0, 0)), (31, .iaload, 1, (0, 0, 0))]
theorem K93_2 : zRk 93 B93_2 = true := zRw_ok (by decide +kernel)
noncomputable def B93_3 : List zRow := [(39, .iload 4, 2, (0, 0, 0)), (41, .iconst 1, 1, (0, 0, 0)), (42, .iload 5, 2, (0, 0, 0)), (44, .ishl, 1, (0, 0, 0)), (45, .ior, 1, (0, 0, 0)), (46, .istore 4, 2, (0, 0, 0))]
theorem K93_3 : zRk 93 B93_3 = true := zRw_ok (by decide +kernel)
noncomputable def B93_4 : List zRow := [(35, .iload_n 2, 1, (0, 0, 0)), (36, .if_icmp .gt 12, 3, (0, 0, 0))]
theorem K93_4 : zRk 93 B93_4 = true := zRw_ok (by decide +kernel)
noncomputable def B93_5 : List zRow := [(15, .iload 5, 2, (0, 0, 0)), (17, .aload_n 3, 1, (0, 0, 0)), (18, .arraylength, 1, (0, 0, 0)), (19, .if_icmp .ge 35, 3, (0, 0, 0))]
theorem K93_5 : zRk 93 B93_5 = true := zRw_ok (by decide +kernel)
noncomputable def B93_6 : List zRow := [(6, .iload 5, 2, (0, 0, 0)), (8, .aload_n 0, 1, (0, 0, 0)), (9, .getfield 62, 3, (9, 3, 0)), (12, .if_icmp .ge 42, 3, (0, 0, 0))]
theorem K93_6 : zRk 93 B93_6 = true := zRw_ok (by decide +kernel)
noncomputable def B93_7 : List zRow := [(48, .iinc 5 1, 3, (0, 0, 0)), (51, .goto (-45), 3, (0, 0, 0))]
theorem K93_7 : zRk 93 B93_7 = true := zRw_ok (by decide +kernel)
def F93_1 (k0 : Int → Int → Int → Int → Int → Int → Option Int) (h : zHC) (v0 : Int) (v1 : Int) (v2 : Int) (v3 : Int) (v4 : Int) (v5 : Int) : Option Int := k0 v0 v1 v2 v3 v4 (wadd v5 1)
set_option maxRecDepth 100000 in
theorem T93_1 {spec : zRn zH2} {hm : zHM} {o : Int → Int} {d : Nat} (hd : 1 ≤ d) (h : zHC) (k0 : Int → Int → Int → Int → Int → Int → Option Int) (hk0 : ∀ (v0 : Int) (v1 : Int) (v2 : Int) (v3 : Int) (v4 : Int) (v5 : Int) (v : Int), k0 v0 v1 v2 v3 v4 v5 = some v → zFin 0 (fun _ => 0) (zRu2 spec d) 93 (some (0, v)) (h, hm, o) (6, [some (19, v0), some (0, v1), some (0, v2), some (1342184491, v3), some (0, v4), some (0, v5)], [], (h, hm, o))) (v0 : Int) (v1 : Int) (v2 : Int) (v3 : Int) (v4 : Int) (v5 : Int) (v : Int) (e : F93_1 k0 h v0 v1 v2 v3 v4 v5 = some v) : zFin 0 (fun _ => 0) (zRu2 spec d) 93 (some (0, v)) (h, hm, o) (48, [some (19, v0), some (0, v1), some (0, v2), some (1342184491, v3), some (0, v4), some (0, v5)], [], (h, hm, o)) := by
  unfold F93_1 at e
  refine zF_blk (m := []) (d := 0) (b := B93_7) (gs := []) (c' := (6, [some (19, v0), some (0, v1), some (0, v2), some (1342184491, v3), some (0, v4), some (0, (wadd v5 1))], [], (h, hm, o))) K93_7 rfl trivial ?_
  exact hk0 v0 v1 v2 v3 v4 (wadd v5 1) _ e
def F93_0 (h : zHC) : Nat → Int → Int → Int → Int → Int → Int → Option Int
  | 0, _, _, _, _, _, _ => none
  | n + 1, v0, v1, v2, v3, v4, v5 => if (h 579 v0 0) ≤ v5 then some v4 else if 6 ≤ v5 then some v4 else zG (0 ≤ v1 ∧ v1 < 6) (zG (0 ≤ v5 ∧ v5 < 6) ((F83 (h 584 v0 v1) (h 67 v3 v5)).bind fun r1 => if v2 < r1 then F93_1 (F93_0 h n) h v0 v1 v2 v3 v4 v5 else F93_1 (F93_0 h n) h v0 v1 v2 v3 (wor v4 (wshl 1 v5)) v5))
set_option maxRecDepth 100000 in
theorem T93_0 {spec : zRn zH2} {hm : zHM} {o : Int → Int} {d : Nat} (hd : 1 ≤ d) (h : zHC) : ∀ (n : Nat) (v0 : Int) (v1 : Int) (v2 : Int) (v3 : Int) (v4 : Int) (v5 : Int) (v : Int), F93_0 h n v0 v1 v2 v3 v4 v5 = some v → zFin 0 (fun _ => 0) (zRu2 spec d) 93 (some (0, v)) (h, hm, o) (6, [some (19, v0), some (0, v1), some (0, v2), some (1342184491, v3), some (0, v4), some (0, v5)], [], (h, hm, o)) := by
  intro n
  induction n with
  | zero => intro v0 v1 v2 v3 v4 v5 v e; unfold F93_0 at e; cases e
  | succ n hk0 =>
    intro v0 v1 v2 v3 v4 v5 v e
    unfold F93_0 at e
    rcases zI_s e with ⟨q1, e⟩ | ⟨q1, e⟩
    · refine zF_blk (m := []) (d := 1) (b := B93_6) (gs := [(h 579 v0 0) ≤ v5]) (c' := (54, [some (19, v0), some (0, v1), some (0, v2), some (1342184491, v3), some (0, v4), some (0, v5)], [], (h, hm, o))) K93_6 rfl ⟨q1, trivial⟩ ?_
      refine zF_blk (m := []) (d := 0) (b := B93_1) (gs := []) (c' := (56, [some (19, v0), some (0, v1), some (0, v2), some (1342184491, v3), some (0, v4), some (0, v5)], [(0, v4)], (h, hm, o))) K93_1 rfl trivial ?_
      obtain rfl := Option.some.inj e
      exact zF_ri (zRe1_w (by decide +kernel))
    · refine zF_blk (m := []) (d := 0) (b := B93_6) (gs := [¬ ((h 579 v0 0) ≤ v5)]) (c' := (15, [some (19, v0), some (0, v1), some (0, v2), some (1342184491, v3), some (0, v4), some (0, v5)], [], (h, hm, o))) K93_6 rfl ⟨q1, trivial⟩ ?_
      rcases zI_s e with ⟨q2, e⟩ | ⟨q2, e⟩
      · refine zF_blk (m := []) (d := 1) (b := B93_5) (gs := [6 ≤ v5]) (c' := (54, [some (19, v0), some (0, v1), some (0, v2), some (1342184491, v3), some (0, v4), some (0, v5)], [], (h, hm, o))) K93_5 rfl ⟨q2, trivial⟩ ?_
        refine zF_blk (m := []) (d := 0) (b := B93_1) (gs := []) (c' := (56, [some (19, v0), some (0, v1), some (0, v2), some (1342184491, v3), some (0, v4), some (0, v5)], [(0, v4)], (h, hm, o))) K93_1 rfl trivial ?_
        obtain rfl := Option.some.inj e
        exact zF_ri (zRe1_w (by decide +kernel))
      · refine zF_blk (m := []) (d := 0) (b := B93_5) (gs := [¬ (6 ≤ v5)]) (c' := (22, [some (19, v0), some (0, v1), some (0, v2), some (1342184491, v3), some (0, v4), some (0, v5)], [], (h, hm, o))) K93_5 rfl ⟨q2, trivial⟩ ?_
        obtain ⟨q3, e⟩ := zG_s e
        obtain ⟨q4, e⟩ := zG_s e
        obtain ⟨r1, q5, e⟩ := zB_s e
        refine zF_blk (m := []) (d := 0) (b := B93_2) (gs := [0 ≤ v1 ∧ v1 < 6, 0 ≤ v5 ∧ v5 < 6]) (c' := (32, [some (19, v0), some (0, v1), some (0, v2), some (1342184491, v3), some (0, v4), some (0, v5)], [(0, (h 67 v3 v5)), (0, (h 584 v0 v1))], (h, hm, o))) K93_2 rfl ⟨q3, q4, trivial⟩ ?_
        refine zF_call (k := 83) (cl := 9) (n := 2) (i := .invokestatic 101) (args := [(0, (h 584 v0 v1)), (0, (h 67 v3 v5))]) (rest := []) (g1 := (h, hm, o)) (r1 := some (0, r1)) (zCk1_w (by decide +kernel)) rfl rfl rfl (st' := [(0, r1)]) rfl (S83 (Nat.le_trans (by decide) hd) (h 584 v0 v1) (h 67 v3 v5) h _ q5) ?_
        rcases zI_s e with ⟨q6, e⟩ | ⟨q6, e⟩
        · refine zF_blk (m := []) (d := 1) (b := B93_4) (gs := [v2 < r1]) (c' := (48, [some (19, v0), some (0, v1), some (0, v2), some (1342184491, v3), some (0, v4), some (0, v5)], [], (h, hm, o))) K93_4 rfl ⟨q6, trivial⟩ ?_
          exact T93_1 hd h (F93_0 h n) hk0 v0 v1 v2 v3 v4 v5 _ e
        · refine zF_blk (m := []) (d := 0) (b := B93_4) (gs := [¬ (v2 < r1)]) (c' := (39, [some (19, v0), some (0, v1), some (0, v2), some (1342184491, v3), some (0, v4), some (0, v5)], [], (h, hm, o))) K93_4 rfl ⟨q6, trivial⟩ ?_
          refine zF_blk (m := []) (d := 0) (b := B93_3) (gs := []) (c' := (48, [some (19, v0), some (0, v1), some (0, v2), some (1342184491, v3), some (0, (wor v4 (wshl 1 v5))), some (0, v5)], [], (h, hm, o))) K93_3 rfl trivial ?_
          exact T93_1 hd h (F93_0 h n) hk0 v0 v1 v2 v3 (wor v4 (wshl 1 v5)) v5 _ e
/-- EchoVale$Valley.hearersAt(II[I)I -/
def F93 (v0 : Int) (v1 : Int) (v2 : Int) (v3 : Int) (h : zHC) : Option Int := F93_0 h zFu v0 v1 v2 v3 0 0
set_option maxRecDepth 100000 in
theorem S93 {spec : zRn zH2} {hm : zHM} {o : Int → Int} {d : Nat} (hd : 2 ≤ d) (v0 : Int) (v1 : Int) (v2 : Int) (v3 : Int) (h : zHC) (v : Int) (e : F93 v0 v1 v2 v3 h = some v) : zRu2 spec d 93 [(19, v0), (0, v1), (0, v2), (1342184491, v3)] (h, hm, o) (some (0, v)) (h, hm, o) := by
  refine zF_in (D := 1) (mx := 6) (L := [some (19, v0), some (0, v1), some (0, v2), some (1342184491, v3), none, none]) (by decide +kernel) rfl rfl hd (fun d hd => ?_)
  unfold F93 at e
  refine zF_blk (m := []) (d := 0) (b := B93_0) (gs := []) (c' := (6, [some (19, v0), some (0, v1), some (0, v2), some (1342184491, v3), some (0, 0), some (0, 0)], [], (h, hm, o))) K93_0 rfl trivial ?_
  exact T93_0 hd h zFu v0 v1 v2 v3 0 0 _ e
noncomputable def B94_0 : List zRow := [(11, .aload_n 0, 1, (0, 0, 0)), (12, .getfield 37, 3, (1, 2, 0)), (15, .iconst 5, 1, (0, 0, 0)), (16, .imul, 1, (0, 0, 0)), (17, .istore 5, 2, (0, 0, 0)), (19, .aload_n 0, 1, (0, 0, 0)), (20, .getfield 24, 3, (1, 7, 5246482)), (23, .iload 5, 2, (0, 0, 0)), (25, .iconst 0, 1, (0, 0, 0)), (26, .iadd, 1, (0, 0, 0)), (27, .iload_n 1, 1, (0, 0, 0)), (28, .iastore, 1, (0, 0, 0)), (29, .aload_n 0, 1, (0, 0, 0)), (30, .getfield 24, 3, (1, 7, 5246482)), (33, .iload 5, 2, (0, 0, 0)), (35, .iconst 1, 1, (0, 0, 0)), (36, .iadd, 1, (0, 0, 0)), (37, .iload_n 2, 1, (0, 0, 0)), (38, .iastore, 1, (0, 0, 0)), (39, .aload_n 0, 1, (0, 0, 0)), (40, .getfield 24, 3, (1, 7, 5246482)), (43, .iload 5, 2, (0, 0, 0)), (45, .iconst 2, 1, (0, 0, 0)), (46, .iadd, 1, (0, 0, 0)), (47, .aload_n 0, 1, (0, 0, 0)), (48, .getfield 30, 3, (1, 0, 0)), (51, .iastore, 1, (0, 0, 0)), (52, .aload_n 0, 1, (0, 0, 0)), (53, .getfield 24, 3, (1, 7, 5246482)), (56, .iload 5, 2, (0, 0, 0)), (58, .iconst 3, 1, (0, 0, 0)), (59, .iadd, 1, (0, 0, 0)), (60, .iload_n 3, 1, (0, 0, 0)), (61, .iastore, 1, (0, 0, 0)), (62, .aload_n 0, 1, (0, 0, 0)), (63, .getfield 24, 3, (1, 7, 5246482)), (66, .iload 5, 2, (0, 0, 0)), (68, .iconst 4, 1, (0, 0, 0)), (69, .iadd, 1, (0, 0, 0)), (70, .iload 4, 2, (0, 0, 0)), (72, .iastore, 1, (0, 0, 0)), (73, .aload_n 0, 1, (0, 0, 0)), (74, .dup, 1, (0, 0, 0)), (75, .getfield 37, 3, (1, 2, 0)), (78, .iconst 1, 1, (0, 0, 0)), (79, .iadd, 1, (0, 0, 0)), (80, .putfield 37, 3, (1, 2, 0))]
theorem K94_0 : zRk 94 B94_0 = true := zRw_ok (by decide +kernel)
noncomputable def B94_1 : List zRow := [(0, .aload_n 0, 1, (0, 0, 0)), (1, .getfield 37, 3, (1, 2, 0)), (4, .sipush 180, 3, (0, 0, 0)), (7, .if_icmp .lt 4, 3, (0, 0, 0))]
theorem K94_1 : zRk 94 B94_1 = true := zRw_ok (by decide +kernel)
/-- EchoVale$Course.enterLog(IIII)V -/
def F94 (v0 : Int) (v1 : Int) (v2 : Int) (v3 : Int) (v4 : Int) (h : zHC) : Option zHC := if (h 66 v0 0) < 180 then zG (0 ≤ (wadd (wmul (h 66 v0 0) 5) 0) ∧ (wadd (wmul (h 66 v0 0) 5) 0) < 900) (zG (0 ≤ (wadd (wmul (h 66 v0 0) 5) 1) ∧ (wadd (wmul (h 66 v0 0) 5) 1) < 900) (zG (0 ≤ (wadd (wmul (h 66 v0 0) 5) 2) ∧ (wadd (wmul (h 66 v0 0) 5) 2) < 900) (zG (0 ≤ (wadd (wmul (h 66 v0 0) 5) 3) ∧ (wadd (wmul (h 66 v0 0) 5) 3) < 900) (zG (0 ≤ (wadd (wmul (h 66 v0 0) 5) 4) ∧ (wadd (wmul (h 66 v0 0) 5) 4) < 900) (some (hset (hset (hset (hset (hset (hset h 71 v0 (wadd (wmul (h 66 v0 0) 5) 0) v1) 71 v0 (wadd (wmul (h 66 v0 0) 5) 1) v2) 71 v0 (wadd (wmul (h 66 v0 0) 5) 2) (h 64 v0 0)) 71 v0 (wadd (wmul (h 66 v0 0) 5) 3) v3) 71 v0 (wadd (wmul (h 66 v0 0) 5) 4) v4) 66 v0 0 (wadd (h 66 v0 0) 1))))))) else some h
set_option maxRecDepth 100000 in
theorem S94 {spec : zRn zH2} {hm : zHM} {o : Int → Int} {d : Nat} (hd : 1 ≤ d) (v0 : Int) (v1 : Int) (v2 : Int) (v3 : Int) (v4 : Int) (h : zHC) (v : zHC) (e : F94 v0 v1 v2 v3 v4 h = some v) : zRu2 spec d 94 [(11, v0), (0, v1), (0, v2), (0, v3), (0, v4)] (h, hm, o) none (v, hm, o) := by
  refine zF_in (D := 0) (mx := 6) (L := [some (11, v0), some (0, v1), some (0, v2), some (0, v3), some (0, v4), none]) (by decide +kernel) rfl rfl hd (fun d hd => ?_)
  unfold F94 at e
  rcases zI_s e with ⟨q1, e⟩ | ⟨q1, e⟩
  · refine zF_blk (m := []) (d := 1) (b := B94_1) (gs := [(h 66 v0 0) < 180]) (c' := (11, [some (11, v0), some (0, v1), some (0, v2), some (0, v3), some (0, v4), none], [], (h, hm, o))) K94_1 rfl ⟨q1, trivial⟩ ?_
    obtain ⟨q2, e⟩ := zG_s e
    obtain ⟨q3, e⟩ := zG_s e
    obtain ⟨q4, e⟩ := zG_s e
    obtain ⟨q5, e⟩ := zG_s e
    obtain ⟨q6, e⟩ := zG_s e
    refine zF_blk (m := []) (d := 0) (b := B94_0) (gs := [0 ≤ (wadd (wmul (h 66 v0 0) 5) 0) ∧ (wadd (wmul (h 66 v0 0) 5) 0) < 900, 0 ≤ (wadd (wmul (h 66 v0 0) 5) 1) ∧ (wadd (wmul (h 66 v0 0) 5) 1) < 900, 0 ≤ (wadd (wmul (h 66 v0 0) 5) 2) ∧ (wadd (wmul (h 66 v0 0) 5) 2) < 900, 0 ≤ (wadd (wmul (h 66 v0 0) 5) 3) ∧ (wadd (wmul (h 66 v0 0) 5) 3) < 900, 0 ≤ (wadd (wmul (h 66 v0 0) 5) 4) ∧ (wadd (wmul (h 66 v0 0) 5) 4) < 900]) (c' := (83, [some (11, v0), some (0, v1), some (0, v2), some (0, v3), some (0, v4), some (0, (wmul (h 66 v0 0) 5))], [], ((hset (hset (hset (hset (hset (hset h 71 v0 (wadd (wmul (h 66 v0 0) 5) 0) v1) 71 v0 (wadd (wmul (h 66 v0 0) 5) 1) v2) 71 v0 (wadd (wmul (h 66 v0 0) 5) 2) (h 64 v0 0)) 71 v0 (wadd (wmul (h 66 v0 0) 5) 3) v3) 71 v0 (wadd (wmul (h 66 v0 0) 5) 4) v4) 66 v0 0 (wadd (h 66 v0 0) 1)), hm, o))) K94_0 rfl ⟨q2, q3, q4, q5, q6, trivial⟩ ?_
    obtain rfl := Option.some.inj e
    exact zF_rv (zRe1_w (by decide +kernel))
  · refine zF_blk (m := []) (d := 0) (b := B94_1) (gs := [¬ ((h 66 v0 0) < 180)]) (c' := (10, [some (11, v0), some (0, v1), some (0, v2), some (0, v3), some (0, v4), none], [], (h, hm, o))) K94_1 rfl ⟨q1, trivial⟩ ?_
    obtain rfl := Option.some.inj e
    exact zF_rv (zRe1_w (by decide +kernel))
noncomputable def B95_0 : List zRow := [(0, .aload_n 0, 1, (0, 0, 0)), (1, .getfield 15, 3, (9, 8, 5242906)), (4, .iload_n 1, 1, (0, 0, 0)), (5, .iaload, 1, (0, 0, 0)), (6, .aload_n 0, 1, (0, 0, 0)), (7, .getfield 15, 3, (9, 8, 5242906)), (10, .iload_n 2, 1, (0, 0, 0)), (11, .iaload, 1, (0, 0, 0))]
theorem K95_0 : zRk 95 B95_0 = true := zRw_ok (by decide +kernel)
noncomputable def B95_1 : List zRow := [(38, .iconst 0, 1, (0, 0, 0))]
theorem K95_1 : zRk 95 B95_1 = true := zRw_ok (by decide +kernel)
noncomputable def B95_2 : List zRow := [(23, .iconst 0, 1, (0, 0, 0)), (24, .iload_n 3, 1, (0, 0, 0)), (25, .iconst 1, 1, (0, 0, 0)), (26, .isub, 1, (0, 0, 0)), (27, .iload 4, 2, (0, 0, 0)), (29, .iconst 2, 1, (0, 0, 0)), (30, .idiv, 1, (0, 0, 0)), (31, .isub, 1, (0, 0, 0)), (32, .invokestatic 97, 3, (5004, 0, 0)), (35, .goto 4, 3, (0, 0, 0))]
theorem K95_2 : zRk 95 B95_2 = true := zRw_ok (by decide +kernel)
noncomputable def B95_3 : List zRow := [(15, .istore 4, 2, (0, 0, 0)), (17, .iload 4, 2, (0, 0, 0)), (19, .iload_n 3, 1, (0, 0, 0)), (20, .if_icmp .gt 18, 3, (0, 0, 0))]
theorem K95_3 : zRk 95 B95_3 = true := zRw_ok (by decide +kernel)
/-- EchoVale$Valley.onward(III)I -/
def F95 (v0 : Int) (v1 : Int) (v2 : Int) (v3 : Int) (h : zHC) : Option Int := zG (0 ≤ v1 ∧ v1 < 6) (zG (0 ≤ v2 ∧ v2 < 6) ((F83 (h 584 v0 v1) (h 584 v0 v2)).bind fun r1 => if v3 < r1 then some 0 else some (if 0 < (wsub (wsub v3 1) (wdiv r1 2)) then (wsub (wsub v3 1) (wdiv r1 2)) else 0)))
set_option maxRecDepth 100000 in
theorem S95 {spec : zRn zH2} {hm : zHM} {o : Int → Int} {d : Nat} (hd : 2 ≤ d) (v0 : Int) (v1 : Int) (v2 : Int) (v3 : Int) (h : zHC) (v : Int) (e : F95 v0 v1 v2 v3 h = some v) : zRu2 spec d 95 [(19, v0), (0, v1), (0, v2), (0, v3)] (h, hm, o) (some (0, v)) (h, hm, o) := by
  refine zF_in (D := 1) (mx := 5) (L := [some (19, v0), some (0, v1), some (0, v2), some (0, v3), none]) (by decide +kernel) rfl rfl hd (fun d hd => ?_)
  unfold F95 at e
  obtain ⟨q1, e⟩ := zG_s e
  obtain ⟨q2, e⟩ := zG_s e
  obtain ⟨r1, q3, e⟩ := zB_s e
  refine zF_blk (m := []) (d := 0) (b := B95_0) (gs := [0 ≤ v1 ∧ v1 < 6, 0 ≤ v2 ∧ v2 < 6]) (c' := (12, [some (19, v0), some (0, v1), some (0, v2), some (0, v3), none], [(0, (h 584 v0 v2)), (0, (h 584 v0 v1))], (h, hm, o))) K95_0 rfl ⟨q1, q2, trivial⟩ ?_
  refine zF_call (k := 83) (cl := 9) (n := 2) (i := .invokestatic 101) (args := [(0, (h 584 v0 v1)), (0, (h 584 v0 v2))]) (rest := []) (g1 := (h, hm, o)) (r1 := some (0, r1)) (zCk1_w (by decide +kernel)) rfl rfl rfl (st' := [(0, r1)]) rfl (S83 (Nat.le_trans (by decide) hd) (h 584 v0 v1) (h 584 v0 v2) h _ q3) ?_
  rcases zI_s e with ⟨q4, e⟩ | ⟨q4, e⟩
  · refine zF_blk (m := []) (d := 1) (b := B95_3) (gs := [v3 < r1]) (c' := (38, [some (19, v0), some (0, v1), some (0, v2), some (0, v3), some (0, r1)], [], (h, hm, o))) K95_3 rfl ⟨q4, trivial⟩ ?_
    refine zF_blk (m := []) (d := 0) (b := B95_1) (gs := []) (c' := (39, [some (19, v0), some (0, v1), some (0, v2), some (0, v3), some (0, r1)], [(0, 0)], (h, hm, o))) K95_1 rfl trivial ?_
    obtain rfl := Option.some.inj e
    exact zF_ri (zRe1_w (by decide +kernel))
  · refine zF_blk (m := []) (d := 0) (b := B95_3) (gs := [¬ (v3 < r1)]) (c' := (23, [some (19, v0), some (0, v1), some (0, v2), some (0, v3), some (0, r1)], [], (h, hm, o))) K95_3 rfl ⟨q4, trivial⟩ ?_
    refine zF_blk (m := []) (d := 0) (b := B95_2) (gs := [¬ 2 = 0]) (c' := (39, [some (19, v0), some (0, v1), some (0, v2), some (0, v3), some (0, r1)], [(0, (if 0 < (wsub (wsub v3 1) (wdiv r1 2)) then (wsub (wsub v3 1) (wdiv r1 2)) else 0))], (h, hm, o))) K95_2 rfl ⟨by decide, trivial⟩ ?_
    obtain rfl := Option.some.inj e
    exact zF_ri (zRe1_w (by decide +kernel))
noncomputable def B92_0 : List zRow := [(7, .aload_n 1, 1, (0, 0, 0)), (8, .iload_n 3, 1, (0, 0, 0)), (9, .iload 4, 2, (0, 0, 0)), (11, .aload_n 0, 1, (0, 0, 0)), (12, .getfield 9, 3, (1, 3, 5242906))]
theorem K92_0 : zRk 92 B92_0 = true := zRw_ok (by decide +kernel)
noncomputable def B92_1 : List zRow := [(31, .aload_n 0, 1, (0, 0, 0)), (32, .getfield 21, 3, (1, 6, 5243842)), (35, .iload 6, 2, (0, 0, 0)), (37, .iconst 5, 1, (0, 0, 0)), (38, .iadd, 1, (0, 0, 0)), (39, .iload 5, 2, (0, 0, 0)), (41, .iastore, 1, (0, 0, 0))]
theorem K92_1 : zRk 92 B92_1 = true := zRw_ok (by decide +kernel)
noncomputable def B92_2 : List zRow := [(18, .istore 5, 2, (0, 0, 0)), (20, .iload_n 2, 1, (0, 0, 0)), (21, .bipush 8, 2, (0, 0, 0)), (23, .imul, 1, (0, 0, 0)), (24, .istore 6, 2, (0, 0, 0)), (26, .iload 5, 2, (0, 0, 0)), (28, .ifCond .eq 14, 3, (0, 0, 0))]
theorem K92_2 : zRk 92 B92_2 = true := zRw_ok (by decide +kernel)
noncomputable def B92_3 : List zRow := [(0, .iload 4, 2, (0, 0, 0)), (2, .iconst 1, 1, (0, 0, 0)), (3, .if_icmp .ge 4, 3, (0, 0, 0))]
theorem K92_3 : zRk 92 B92_3 = true := zRw_ok (by decide +kernel)
noncomputable def B92_4 : List zRow := [(42, .aload_n 0, 1, (0, 0, 0)), (43, .getfield 21, 3, (1, 6, 5243842)), (46, .iload 6, 2, (0, 0, 0)), (48, .bipush 6, 2, (0, 0, 0)), (50, .iadd, 1, (0, 0, 0)), (51, .dup2, 1, (0, 0, 0)), (52, .iaload, 1, (0, 0, 0)), (53, .iconst 1, 1, (0, 0, 0)), (54, .iadd, 1, (0, 0, 0)), (55, .iastore, 1, (0, 0, 0)), (56, .aload_n 0, 1, (0, 0, 0)), (57, .getfield 21, 3, (1, 6, 5243842)), (60, .iload 6, 2, (0, 0, 0)), (62, .bipush 7, 2, (0, 0, 0)), (64, .iadd, 1, (0, 0, 0)), (65, .dup2, 1, (0, 0, 0)), (66, .iaload, 1, (0, 0, 0)), (67, .iload 5, 2, (0, 0, 0)), (69, .ior, 1, (0, 0, 0)), (70, .iastore, 1, (0, 0, 0)), (71, .aload_n 0, 1, (0, 0, 0)), (72, .iload_n 2, 1, (0, 0, 0)), (73, .iload_n 3, 1, (0, 0, 0)), (74, .iload 4, 2, (0, 0, 0)), (76, .iload 5, 2, (0, 0, 0))]
theorem K92_4 : zRk 92 B92_4 = true := zRw_ok (by decide +kernel)
noncomputable def B92_5 : List zRow := [(81, .iconst 0, 1, (0, 0, 0)), (82, .istore 7, 2, (0, 0, 0))]
theorem K92_5 : zRk 92 B92_5 = true := zRw_ok (by decide +kernel)
noncomputable def B92_6 : List zRow := [(99, .aload_n 0, 1, (0, 0, 0)), (100, .aload_n 1, 1, (0, 0, 0)), (101, .iload_n 2, 1, (0, 0, 0)), (102, .iload 7, 2, (0, 0, 0)), (104, .aload_n 1, 1, (0, 0, 0)), (105, .iload_n 3, 1, (0, 0, 0)), (106, .iload 7, 2, (0, 0, 0)), (108, .iload 4, 2, (0, 0, 0))]
theorem K92_6 : zRk 92 B92_6 = true := zRw_ok (by decide +kernel)
noncomputable def B92_7 : List zRow := [(93, .iload 7, 2, (0, 0, 0)), (95, .iload_n 3, 1, (0, 0, 0)), (96, .if_icmp .eq 20, 3, (0, 0, 0))]
theorem K92_7 : zRk 92 B92_7 = true := zRw_ok (by decide +kernel)
noncomputable def B92_8 : List zRow := [(84, .iload 7, 2, (0, 0, 0)), (86, .aload_n 1, 1, (0, 0, 0)), (87, .getfield 69, 3, (9, 2, 0)), (90, .if_icmp .ge 32, 3, (0, 0, 0))]
theorem K92_8 : zRk 92 B92_8 = true := zRw_ok (by decide +kernel)
noncomputable def B92_9 : List zRow := [(116, .iinc 7 1, 3, (0, 0, 0)), (119, .goto (-35), 3, (0, 0, 0))]
theorem K92_9 : zRk 92 B92_9 = true := zRw_ok (by decide +kernel)
def F92_2 (k0 : Int → Int → Int → Int → Int → Int → zHC → Option zHC) (v0 : Int) (v1 : Int) (v2 : Int) (v3 : Int) (v4 : Int) (v7 : Int) (h : zHC) : Option zHC := k0 v0 v1 v2 v3 v4 (wadd v7 1) h
set_option maxRecDepth 100000 in
theorem T92_2 {spec : zRn zH2} {hm : zHM} {o : Int → Int} {d : Nat} (hd : 2 ≤ d) (k0 : Int → Int → Int → Int → Int → Int → zHC → Option zHC) (hk0 : ∀ (v0 : Int) (v1 : Int) (v2 : Int) (v3 : Int) (v4 : Int) (v7 : Int) (h : zHC) (v : zHC), k0 v0 v1 v2 v3 v4 v7 h = some v → zFin 0 (fun _ => 0) (zRu2 spec d) 92 none (v, hm, o) (84, [some (11, v0), some (19, v1), some (0, v2), some (0, v3), some (0, v4), none, none, some (0, v7)], [], (h, hm, o))) (v0 : Int) (v1 : Int) (v2 : Int) (v3 : Int) (v4 : Int) (v7 : Int) (h : zHC) (v : zHC) (e : F92_2 k0 v0 v1 v2 v3 v4 v7 h = some v) : zFin 0 (fun _ => 0) (zRu2 spec d) 92 none (v, hm, o) (116, [some (11, v0), some (19, v1), some (0, v2), some (0, v3), some (0, v4), none, none, some (0, v7)], [], (h, hm, o)) := by
  unfold F92_2 at e
  refine zF_blk (m := []) (d := 0) (b := B92_9) (gs := []) (c' := (84, [some (11, v0), some (19, v1), some (0, v2), some (0, v3), some (0, v4), none, none, some (0, (wadd v7 1))], [], (h, hm, o))) K92_9 rfl trivial ?_
  exact hk0 v0 v1 v2 v3 v4 (wadd v7 1) h _ e
def F92_1 : Nat → Int → Int → Int → Int → Int → Int → zHC → Option zHC
  | 0, _, _, _, _, _, _, _ => none
  | n + 1, v0, v1, v2, v3, v4, v7, h => if (h 578 v1 0) ≤ v7 then some h else if v7 = v3 then F92_2 (F92_1 n) v0 v1 v2 v3 v4 v7 h else (F95 v1 v3 v7 v4 h).bind fun r1 => (F85 v0 v1 v2 v7 r1 h).bind fun r2 => F92_2 (F92_1 n) v0 v1 v2 v3 v4 v7 r2
set_option maxRecDepth 100000 in
theorem T92_1 {spec : zRn zH2} {hm : zHM} {o : Int → Int} {d : Nat} (hd : 2 ≤ d) : ∀ (n : Nat) (v0 : Int) (v1 : Int) (v2 : Int) (v3 : Int) (v4 : Int) (v7 : Int) (h : zHC) (v : zHC), F92_1 n v0 v1 v2 v3 v4 v7 h = some v → zFin 0 (fun _ => 0) (zRu2 spec d) 92 none (v, hm, o) (84, [some (11, v0), some (19, v1), some (0, v2), some (0, v3), some (0, v4), none, none, some (0, v7)], [], (h, hm, o)) := by
  intro n
  induction n with
  | zero => intro v0 v1 v2 v3 v4 v7 h v e; unfold F92_1 at e; cases e
  | succ n hk0 =>
    intro v0 v1 v2 v3 v4 v7 h v e
    unfold F92_1 at e
    rcases zI_s e with ⟨q1, e⟩ | ⟨q1, e⟩
    · refine zF_blk (m := []) (d := 1) (b := B92_8) (gs := [(h 578 v1 0) ≤ v7]) (c' := (122, [some (11, v0), some (19, v1), some (0, v2), some (0, v3), some (0, v4), none, none, some (0, v7)], [], (h, hm, o))) K92_8 rfl ⟨q1, trivial⟩ ?_
      obtain rfl := Option.some.inj e
      exact zF_rv (zRe1_w (by decide +kernel))
    · refine zF_blk (m := []) (d := 0) (b := B92_8) (gs := [¬ ((h 578 v1 0) ≤ v7)]) (c' := (93, [some (11, v0), some (19, v1), some (0, v2), some (0, v3), some (0, v4), none, none, some (0, v7)], [], (h, hm, o))) K92_8 rfl ⟨q1, trivial⟩ ?_
      rcases zI_s e with ⟨q2, e⟩ | ⟨q2, e⟩
      · refine zF_blk (m := []) (d := 1) (b := B92_7) (gs := [v7 = v3]) (c' := (116, [some (11, v0), some (19, v1), some (0, v2), some (0, v3), some (0, v4), none, none, some (0, v7)], [], (h, hm, o))) K92_7 rfl ⟨q2, trivial⟩ ?_
        exact T92_2 hd (F92_1 n) hk0 v0 v1 v2 v3 v4 v7 h _ e
      · refine zF_blk (m := []) (d := 0) (b := B92_7) (gs := [¬ (v7 = v3)]) (c' := (99, [some (11, v0), some (19, v1), some (0, v2), some (0, v3), some (0, v4), none, none, some (0, v7)], [], (h, hm, o))) K92_7 rfl ⟨q2, trivial⟩ ?_
        obtain ⟨r1, q3, e⟩ := zB_s e
        refine zF_blk (m := []) (d := 0) (b := B92_6) (gs := []) (c' := (110, [some (11, v0), some (19, v1), some (0, v2), some (0, v3), some (0, v4), none, none, some (0, v7)], [(0, v4), (0, v7), (0, v3), (19, v1), (0, v7), (0, v2), (19, v1), (11, v0)], (h, hm, o))) K92_6 rfl trivial ?_
        refine zF_call (k := 95) (cl := 9) (n := 4) (i := .invokevirtual 135) (args := [(19, v1), (0, v3), (0, v7), (0, v4)]) (rest := [(0, v7), (0, v2), (19, v1), (11, v0)]) (g1 := (h, hm, o)) (r1 := some (0, r1)) (zCk1_w (by decide +kernel)) rfl rfl rfl (st' := [(0, r1), (0, v7), (0, v2), (19, v1), (11, v0)]) rfl (S95 (Nat.le_trans (by decide) hd) v1 v3 v7 v4 h _ q3) ?_
        obtain ⟨r2, q4, e⟩ := zB_s e
        refine zF_call (k := 85) (cl := 1) (n := 5) (i := .invokevirtual 76) (args := [(11, v0), (19, v1), (0, v2), (0, v7), (0, r1)]) (rest := []) (g1 := (r2, hm, o)) (r1 := none) (zCk1_w (by decide +kernel)) rfl rfl rfl (st' := []) rfl (S85 (Nat.le_trans (by decide) hd) v0 v1 v2 v7 r1 h _ q4) ?_
        exact T92_2 hd (F92_1 n) hk0 v0 v1 v2 v3 v4 v7 r2 _ e
def F92_0 (v0 : Int) (v1 : Int) (v2 : Int) (v3 : Int) (v4 : Int) (v5 : Int) (v6 : Int) (h : zHC) : Option zHC := zG (0 ≤ (wadd v6 6) ∧ (wadd v6 6) < 240) (zG (0 ≤ (wadd v6 6) ∧ (wadd v6 6) < 240) (zG (0 ≤ (wadd v6 7) ∧ (wadd v6 7) < 240) (zG (0 ≤ (wadd v6 7) ∧ (wadd v6 7) < 240) ((F94 v0 v2 v3 v4 v5 (hset (hset h 70 v0 (wadd v6 6) (wadd (h 70 v0 (wadd v6 6)) 1)) 70 v0 (wadd v6 7) (wor ((hset h 70 v0 (wadd v6 6) (wadd (h 70 v0 (wadd v6 6)) 1)) 70 v0 (wadd v6 7)) v5))).bind fun r1 => F92_1 zFu v0 v1 v2 v3 v4 0 r1))))
set_option maxRecDepth 100000 in
theorem T92_0 {spec : zRn zH2} {hm : zHM} {o : Int → Int} {d : Nat} (hd : 2 ≤ d) (v0 : Int) (v1 : Int) (v2 : Int) (v3 : Int) (v4 : Int) (v5 : Int) (v6 : Int) (h : zHC) (v : zHC) (e : F92_0 v0 v1 v2 v3 v4 v5 v6 h = some v) : zFin 0 (fun _ => 0) (zRu2 spec d) 92 none (v, hm, o) (42, [some (11, v0), some (19, v1), some (0, v2), some (0, v3), some (0, v4), some (0, v5), some (0, v6), none], [], (h, hm, o)) := by
  unfold F92_0 at e
  obtain ⟨q1, e⟩ := zG_s e
  obtain ⟨q1, e⟩ := zG_s e
  obtain ⟨q2, e⟩ := zG_s e
  obtain ⟨q2, e⟩ := zG_s e
  obtain ⟨r1, q3, e⟩ := zB_s e
  refine zF_blk (m := []) (d := 0) (b := B92_4) (gs := [0 ≤ (wadd v6 6) ∧ (wadd v6 6) < 240, 0 ≤ (wadd v6 6) ∧ (wadd v6 6) < 240, 0 ≤ (wadd v6 7) ∧ (wadd v6 7) < 240, 0 ≤ (wadd v6 7) ∧ (wadd v6 7) < 240]) (c' := (78, [some (11, v0), some (19, v1), some (0, v2), some (0, v3), some (0, v4), some (0, v5), some (0, v6), none], [(0, v5), (0, v4), (0, v3), (0, v2), (11, v0)], ((hset (hset h 70 v0 (wadd v6 6) (wadd (h 70 v0 (wadd v6 6)) 1)) 70 v0 (wadd v6 7) (wor ((hset h 70 v0 (wadd v6 6) (wadd (h 70 v0 (wadd v6 6)) 1)) 70 v0 (wadd v6 7)) v5)), hm, o))) K92_4 rfl ⟨q1, q1, q2, q2, trivial⟩ ?_
  refine zF_call (k := 94) (cl := 1) (n := 5) (i := .invokevirtual 131) (args := [(11, v0), (0, v2), (0, v3), (0, v4), (0, v5)]) (rest := []) (g1 := (r1, hm, o)) (r1 := none) (zCk1_w (by decide +kernel)) rfl rfl rfl (st' := []) rfl (S94 (Nat.le_trans (by decide) hd) v0 v2 v3 v4 v5 (hset (hset h 70 v0 (wadd v6 6) (wadd (h 70 v0 (wadd v6 6)) 1)) 70 v0 (wadd v6 7) (wor ((hset h 70 v0 (wadd v6 6) (wadd (h 70 v0 (wadd v6 6)) 1)) 70 v0 (wadd v6 7)) v5)) _ q3) ?_
  refine zF_blk (m := []) (d := 0) (b := B92_5) (gs := []) (c' := (84, [some (11, v0), some (19, v1), some (0, v2), some (0, v3), some (0, v4), some (0, v5), some (0, v6), some (0, 0)], [], (r1, hm, o))) K92_5 rfl trivial ?_
  refine zF_blk (m := [true, true, true, true, true, false, false, true]) (d := 0) (b := []) (gs := []) (c' := (84, [some (11, v0), some (19, v1), some (0, v2), some (0, v3), some (0, v4), none, none, some (0, 0)], [], (r1, hm, o))) rfl rfl trivial ?_
  exact T92_1 hd zFu v0 v1 v2 v3 v4 0 r1 _ e
/-- EchoVale$Course.sound(LEchoVale$Valley;III)V -/
def F92 (v0 : Int) (v1 : Int) (v2 : Int) (v3 : Int) (v4 : Int) (h : zHC) : Option zHC := if 1 ≤ v4 then (F93 v1 v3 v4 v0 h).bind fun r1 => if r1 = 0 then F92_0 v0 v1 v2 v3 v4 r1 (wmul v2 8) h else zG (0 ≤ (wadd (wmul v2 8) 5) ∧ (wadd (wmul v2 8) 5) < 240) (F92_0 v0 v1 v2 v3 v4 r1 (wmul v2 8) (hset h 70 v0 (wadd (wmul v2 8) 5) r1)) else some h
set_option maxRecDepth 100000 in
theorem S92 {spec : zRn zH2} {hm : zHM} {o : Int → Int} {d : Nat} (hd : 3 ≤ d) (v0 : Int) (v1 : Int) (v2 : Int) (v3 : Int) (v4 : Int) (h : zHC) (v : zHC) (e : F92 v0 v1 v2 v3 v4 h = some v) : zRu2 spec d 92 [(11, v0), (19, v1), (0, v2), (0, v3), (0, v4)] (h, hm, o) none (v, hm, o) := by
  refine zF_in (D := 2) (mx := 8) (L := [some (11, v0), some (19, v1), some (0, v2), some (0, v3), some (0, v4), none, none, none]) (by decide +kernel) rfl rfl hd (fun d hd => ?_)
  unfold F92 at e
  rcases zI_s e with ⟨q1, e⟩ | ⟨q1, e⟩
  · refine zF_blk (m := []) (d := 1) (b := B92_3) (gs := [1 ≤ v4]) (c' := (7, [some (11, v0), some (19, v1), some (0, v2), some (0, v3), some (0, v4), none, none, none], [], (h, hm, o))) K92_3 rfl ⟨q1, trivial⟩ ?_
    obtain ⟨r1, q2, e⟩ := zB_s e
    refine zF_blk (m := []) (d := 0) (b := B92_0) (gs := []) (c' := (15, [some (11, v0), some (19, v1), some (0, v2), some (0, v3), some (0, v4), none, none, none], [(1342184491, v0), (0, v4), (0, v3), (19, v1)], (h, hm, o))) K92_0 rfl trivial ?_
    refine zF_call (k := 93) (cl := 9) (n := 4) (i := .invokevirtual 127) (args := [(19, v1), (0, v3), (0, v4), (1342184491, v0)]) (rest := []) (g1 := (h, hm, o)) (r1 := some (0, r1)) (zCk1_w (by decide +kernel)) rfl rfl rfl (st' := [(0, r1)]) rfl (S93 (Nat.le_trans (by decide) hd) v1 v3 v4 v0 h _ q2) ?_
    rcases zI_s e with ⟨q3, e⟩ | ⟨q3, e⟩
    · refine zF_blk (m := []) (d := 1) (b := B92_2) (gs := [r1 = 0]) (c' := (42, [some (11, v0), some (19, v1), some (0, v2), some (0, v3), some (0, v4), some (0, r1), some (0, (wmul v2 8)), none], [], (h, hm, o))) K92_2 rfl ⟨q3, trivial⟩ ?_
      exact T92_0 hd v0 v1 v2 v3 v4 r1 (wmul v2 8) h _ e
    · refine zF_blk (m := []) (d := 0) (b := B92_2) (gs := [¬ (r1 = 0)]) (c' := (31, [some (11, v0), some (19, v1), some (0, v2), some (0, v3), some (0, v4), some (0, r1), some (0, (wmul v2 8)), none], [], (h, hm, o))) K92_2 rfl ⟨q3, trivial⟩ ?_
      obtain ⟨q4, e⟩ := zG_s e
      refine zF_blk (m := []) (d := 0) (b := B92_1) (gs := [0 ≤ (wadd (wmul v2 8) 5) ∧ (wadd (wmul v2 8) 5) < 240]) (c' := (42, [some (11, v0), some (19, v1), some (0, v2), some (0, v3), some (0, v4), some (0, r1), some (0, (wmul v2 8)), none], [], ((hset h 70 v0 (wadd (wmul v2 8) 5) r1), hm, o))) K92_1 rfl ⟨q4, trivial⟩ ?_
      exact T92_0 hd v0 v1 v2 v3 v4 r1 (wmul v2 8) (hset h 70 v0 (wadd (wmul v2 8) 5) r1) _ e
  · refine zF_blk (m := []) (d := 0) (b := B92_3) (gs := [¬ (1 ≤ v4)]) (c' := (6, [some (11, v0), some (19, v1), some (0, v2), some (0, v3), some (0, v4), none, none, none], [], (h, hm, o))) K92_3 rfl ⟨q1, trivial⟩ ?_
    obtain rfl := Option.some.inj e
    exact zF_rv (zRe1_w (by decide +kernel))
noncomputable def B90_0 : List zRow := [(0, .aload_n 1, 1, (0, 0, 0)), (1, .aload_n 0, 1, (0, 0, 0)), (2, .getfield 30, 3, (1, 0, 0))]
theorem K90_0 : zRk 90 B90_0 = true := zRw_ok (by decide +kernel)
noncomputable def B90_1 : List zRow := [(8, .istore 4, 2, (0, 0, 0)), (10, .iconst 0, 1, (0, 0, 0)), (11, .istore 5, 2, (0, 0, 0))]
theorem K90_1 : zRk 90 B90_1 = true := zRw_ok (by decide +kernel)
noncomputable def B90_2 : List zRow := [(81, .aload_n 0, 1, (0, 0, 0)), (82, .iload_n 2, 1, (0, 0, 0))]
theorem K90_2 : zRk 90 B90_2 = true := zRw_ok (by decide +kernel)
noncomputable def B90_3 : List zRow := [(45, .aload_n 0, 1, (0, 0, 0)), (46, .aload_n 1, 1, (0, 0, 0)), (47, .iload_n 2, 1, (0, 0, 0)), (48, .iload 5, 2, (0, 0, 0)), (50, .aload_n 0, 1, (0, 0, 0)), (51, .getfield 18, 3, (1, 5, 5243602)), (54, .iload 6, 2, (0, 0, 0)), (56, .iaload, 1, (0, 0, 0)), (57, .aload_n 1, 1, (0, 0, 0)), (58, .getfield 116, 3, (9, 10, 5242906)), (61, .iload 5, 2, (0, 0, 0)), (63, .iaload, 1, (0, 0, 0)), (64, .iload 4, 2, (0, 0, 0)), (66, .isub, 1, (0, 0, 0)), (67, .iload_n 3, 1, (0, 0, 0)), (68, .isub, 1, (0, 0, 0)), (69, .invokestatic 119, 3, (5003, 0, 0))]
theorem K90_3 : zRk 90 B90_3 = true := zRw_ok (by decide +kernel)
noncomputable def B90_4 : List zRow := [(22, .iload_n 2, 1, (0, 0, 0)), (23, .bipush 6, 2, (0, 0, 0)), (25, .imul, 1, (0, 0, 0)), (26, .iload 5, 2, (0, 0, 0)), (28, .iadd, 1, (0, 0, 0)), (29, .istore 6, 2, (0, 0, 0)), (31, .aload_n 0, 1, (0, 0, 0)), (32, .getfield 15, 3, (1, 4, 5243602)), (35, .iload 6, 2, (0, 0, 0)), (37, .iaload, 1, (0, 0, 0)), (38, .aload_n 0, 1, (0, 0, 0)), (39, .getfield 30, 3, (1, 0, 0)), (42, .if_icmp .ne 33, 3, (0, 0, 0))]
theorem K90_4 : zRk 90 B90_4 = true := zRw_ok (by decide +kernel)
noncomputable def B90_5 : List zRow := [(13, .iload 5, 2, (0, 0, 0)), (15, .aload_n 1, 1, (0, 0, 0)), (16, .getfield 69, 3, (9, 2, 0)), (19, .if_icmp .ge 62, 3, (0, 0, 0))]
theorem K90_5 : zRk 90 B90_5 = true := zRw_ok (by decide +kernel)
noncomputable def B90_6 : List zRow := [(75, .iinc 5 1, 3, (0, 0, 0)), (78, .goto (-65), 3, (0, 0, 0))]
theorem K90_6 : zRk 90 B90_6 = true := zRw_ok (by decide +kernel)
def F90_1 (k0 : Int → Int → Int → Int → Int → Int → zHC → Option zHC) (v0 : Int) (v1 : Int) (v2 : Int) (v3 : Int) (v4 : Int) (v5 : Int) (h : zHC) : Option zHC := k0 v0 v1 v2 v3 v4 (wadd v5 1) h
set_option maxRecDepth 100000 in
theorem T90_1 {spec : zRn zH2} {hm : zHM} {o : Int → Int} {d : Nat} (hd : 3 ≤ d) (k0 : Int → Int → Int → Int → Int → Int → zHC → Option zHC) (hk0 : ∀ (v0 : Int) (v1 : Int) (v2 : Int) (v3 : Int) (v4 : Int) (v5 : Int) (h : zHC) (v : zHC), k0 v0 v1 v2 v3 v4 v5 h = some v → zFin 0 (fun _ => 0) (zRu2 spec d) 90 none (v, hm, o) (13, [some (11, v0), some (19, v1), some (0, v2), some (0, v3), some (0, v4), some (0, v5), none], [], (h, hm, o))) (v0 : Int) (v1 : Int) (v2 : Int) (v3 : Int) (v4 : Int) (v5 : Int) (h : zHC) (v : zHC) (e : F90_1 k0 v0 v1 v2 v3 v4 v5 h = some v) : zFin 0 (fun _ => 0) (zRu2 spec d) 90 none (v, hm, o) (75, [some (11, v0), some (19, v1), some (0, v2), some (0, v3), some (0, v4), some (0, v5), none], [], (h, hm, o)) := by
  unfold F90_1 at e
  refine zF_blk (m := []) (d := 0) (b := B90_6) (gs := []) (c' := (13, [some (11, v0), some (19, v1), some (0, v2), some (0, v3), some (0, v4), some (0, (wadd v5 1)), none], [], (h, hm, o))) K90_6 rfl trivial ?_
  exact hk0 v0 v1 v2 v3 v4 (wadd v5 1) h _ e
def F90_0 : Nat → Int → Int → Int → Int → Int → Int → zHC → Option zHC
  | 0, _, _, _, _, _, _, _ => none
  | n + 1, v0, v1, v2, v3, v4, v5, h => if (h 578 v1 0) ≤ v5 then (F86 v0 v2 h).bind fun r1 => some r1 else zG (0 ≤ (wadd (wmul v2 6) v5) ∧ (wadd (wmul v2 6) v5) < 180) (if ¬ (h 68 v0 (wadd (wmul v2 6) v5)) = (h 64 v0 0) then F90_1 (F90_0 n) v0 v1 v2 v3 v4 v5 h else zG (0 ≤ (wadd (wmul v2 6) v5) ∧ (wadd (wmul v2 6) v5) < 180) (zG (0 ≤ v5 ∧ v5 < 6) ((F92 v0 v1 v2 v5 (if (wsub (wsub (h 586 v1 v5) v4) v3) < (h 69 v0 (wadd (wmul v2 6) v5)) then (wsub (wsub (h 586 v1 v5) v4) v3) else (h 69 v0 (wadd (wmul v2 6) v5))) h).bind fun r2 => F90_1 (F90_0 n) v0 v1 v2 v3 v4 v5 r2)))
set_option maxRecDepth 100000 in
theorem T90_0 {spec : zRn zH2} {hm : zHM} {o : Int → Int} {d : Nat} (hd : 3 ≤ d) : ∀ (n : Nat) (v0 : Int) (v1 : Int) (v2 : Int) (v3 : Int) (v4 : Int) (v5 : Int) (h : zHC) (v : zHC), F90_0 n v0 v1 v2 v3 v4 v5 h = some v → zFin 0 (fun _ => 0) (zRu2 spec d) 90 none (v, hm, o) (13, [some (11, v0), some (19, v1), some (0, v2), some (0, v3), some (0, v4), some (0, v5), none], [], (h, hm, o)) := by
  intro n
  induction n with
  | zero => intro v0 v1 v2 v3 v4 v5 h v e; unfold F90_0 at e; cases e
  | succ n hk0 =>
    intro v0 v1 v2 v3 v4 v5 h v e
    unfold F90_0 at e
    rcases zI_s e with ⟨q1, e⟩ | ⟨q1, e⟩
    · refine zF_blk (m := []) (d := 1) (b := B90_5) (gs := [(h 578 v1 0) ≤ v5]) (c' := (81, [some (11, v0), some (19, v1), some (0, v2), some (0, v3), some (0, v4), some (0, v5), none], [], (h, hm, o))) K90_5 rfl ⟨q1, trivial⟩ ?_
      obtain ⟨r1, q2, e⟩ := zB_s e
      refine zF_blk (m := []) (d := 0) (b := B90_2) (gs := []) (c' := (83, [some (11, v0), some (19, v1), some (0, v2), some (0, v3), some (0, v4), some (0, v5), none], [(0, v2), (11, v0)], (h, hm, o))) K90_2 rfl trivial ?_
      refine zF_call (k := 86) (cl := 1) (n := 2) (i := .invokevirtual 80) (args := [(11, v0), (0, v2)]) (rest := []) (g1 := (r1, hm, o)) (r1 := none) (zCk1_w (by decide +kernel)) rfl rfl rfl (st' := []) rfl (S86 (Nat.le_trans (by decide) hd) v0 v2 h _ q2) ?_
      obtain rfl := Option.some.inj e
      exact zF_rv (zRe1_w (by decide +kernel))
    · refine zF_blk (m := []) (d := 0) (b := B90_5) (gs := [¬ ((h 578 v1 0) ≤ v5)]) (c' := (22, [some (11, v0), some (19, v1), some (0, v2), some (0, v3), some (0, v4), some (0, v5), none], [], (h, hm, o))) K90_5 rfl ⟨q1, trivial⟩ ?_
      obtain ⟨q3, e⟩ := zG_s e
      rcases zI_s e with ⟨q4, e⟩ | ⟨q4, e⟩
      · refine zF_blk (m := []) (d := 1) (b := B90_4) (gs := [0 ≤ (wadd (wmul v2 6) v5) ∧ (wadd (wmul v2 6) v5) < 180, ¬ (h 68 v0 (wadd (wmul v2 6) v5)) = (h 64 v0 0)]) (c' := (75, [some (11, v0), some (19, v1), some (0, v2), some (0, v3), some (0, v4), some (0, v5), some (0, (wadd (wmul v2 6) v5))], [], (h, hm, o))) K90_4 rfl ⟨q3, q4, trivial⟩ ?_
        refine zF_blk (m := [true, true, true, true, true, true, false]) (d := 0) (b := []) (gs := []) (c' := (75, [some (11, v0), some (19, v1), some (0, v2), some (0, v3), some (0, v4), some (0, v5), none], [], (h, hm, o))) rfl rfl trivial ?_
        exact T90_1 hd (F90_0 n) hk0 v0 v1 v2 v3 v4 v5 h _ e
      · refine zF_blk (m := []) (d := 0) (b := B90_4) (gs := [0 ≤ (wadd (wmul v2 6) v5) ∧ (wadd (wmul v2 6) v5) < 180, ¬ (¬ (h 68 v0 (wadd (wmul v2 6) v5)) = (h 64 v0 0))]) (c' := (45, [some (11, v0), some (19, v1), some (0, v2), some (0, v3), some (0, v4), some (0, v5), some (0, (wadd (wmul v2 6) v5))], [], (h, hm, o))) K90_4 rfl ⟨q3, q4, trivial⟩ ?_
        obtain ⟨q5, e⟩ := zG_s e
        obtain ⟨q6, e⟩ := zG_s e
        obtain ⟨r2, q7, e⟩ := zB_s e
        refine zF_blk (m := []) (d := 0) (b := B90_3) (gs := [0 ≤ (wadd (wmul v2 6) v5) ∧ (wadd (wmul v2 6) v5) < 180, 0 ≤ v5 ∧ v5 < 6]) (c' := (72, [some (11, v0), some (19, v1), some (0, v2), some (0, v3), some (0, v4), some (0, v5), some (0, (wadd (wmul v2 6) v5))], [(0, (if (wsub (wsub (h 586 v1 v5) v4) v3) < (h 69 v0 (wadd (wmul v2 6) v5)) then (wsub (wsub (h 586 v1 v5) v4) v3) else (h 69 v0 (wadd (wmul v2 6) v5)))), (0, v5), (0, v2), (19, v1), (11, v0)], (h, hm, o))) K90_3 rfl ⟨q5, q6, trivial⟩ ?_
        refine zF_call (k := 92) (cl := 1) (n := 5) (i := .invokevirtual 124) (args := [(11, v0), (19, v1), (0, v2), (0, v5), (0, (if (wsub (wsub (h 586 v1 v5) v4) v3) < (h 69 v0 (wadd (wmul v2 6) v5)) then (wsub (wsub (h 586 v1 v5) v4) v3) else (h 69 v0 (wadd (wmul v2 6) v5))))]) (rest := []) (g1 := (r2, hm, o)) (r1 := none) (zCk1_w (by decide +kernel)) rfl rfl rfl (st' := []) rfl (S92 (Nat.le_trans (by decide) hd) v0 v1 v2 v5 (if (wsub (wsub (h 586 v1 v5) v4) v3) < (h 69 v0 (wadd (wmul v2 6) v5)) then (wsub (wsub (h 586 v1 v5) v4) v3) else (h 69 v0 (wadd (wmul v2 6) v5))) h _ q7) ?_
        refine zF_blk (m := [true, true, true, true, true, true, false]) (d := 0) (b := []) (gs := []) (c' := (75, [some (11, v0), some (19, v1), some (0, v2), some (0, v3), some (0, v4), some (0, v5), none], [], (r2, hm, o))) rfl rfl trivial ?_
        exact T90_1 hd (F90_0 n) hk0 v0 v1 v2 v3 v4 v5 r2 _ e
/-- EchoVale$Course.giveBack(LEchoVale$Valley;II)V -/
def F90 (v0 : Int) (v1 : Int) (v2 : Int) (v3 : Int) (h : zHC) : Option zHC := (F91 v1 (h 64 v0 0) h).bind fun r1 => F90_0 zFu v0 v1 v2 v3 r1 0 h
set_option maxRecDepth 100000 in
theorem S90 {spec : zRn zH2} {hm : zHM} {o : Int → Int} {d : Nat} (hd : 4 ≤ d) (v0 : Int) (v1 : Int) (v2 : Int) (v3 : Int) (h : zHC) (v : zHC) (e : F90 v0 v1 v2 v3 h = some v) : zRu2 spec d 90 [(11, v0), (19, v1), (0, v2), (0, v3)] (h, hm, o) none (v, hm, o) := by
  refine zF_in (D := 3) (mx := 7) (L := [some (11, v0), some (19, v1), some (0, v2), some (0, v3), none, none, none]) (by decide +kernel) rfl rfl hd (fun d hd => ?_)
  unfold F90 at e
  obtain ⟨r1, q1, e⟩ := zB_s e
  refine zF_blk (m := []) (d := 0) (b := B90_0) (gs := []) (c' := (5, [some (11, v0), some (19, v1), some (0, v2), some (0, v3), none, none, none], [(0, (h 64 v0 0)), (19, v1)], (h, hm, o))) K90_0 rfl trivial ?_
  refine zF_call (k := 91) (cl := 9) (n := 2) (i := .invokevirtual 112) (args := [(19, v1), (0, (h 64 v0 0))]) (rest := []) (g1 := (h, hm, o)) (r1 := some (0, r1)) (zCk1_w (by decide +kernel)) rfl rfl rfl (st' := [(0, r1)]) rfl (S91 (Nat.le_trans (by decide) hd) v1 (h 64 v0 0) h _ q1) ?_
  refine zF_blk (m := []) (d := 0) (b := B90_1) (gs := []) (c' := (13, [some (11, v0), some (19, v1), some (0, v2), some (0, v3), some (0, r1), some (0, 0), none], [], (h, hm, o))) K90_1 rfl trivial ?_
  exact T90_0 hd zFu v0 v1 v2 v3 r1 0 h _ e
noncomputable def B89_0 : List zRow := [(0, .aload_n 0, 1, (0, 0, 0)), (1, .dup, 1, (0, 0, 0)), (2, .getfield 30, 3, (1, 0, 0)), (5, .iconst 1, 1, (0, 0, 0)), (6, .iadd, 1, (0, 0, 0)), (7, .putfield 30, 3, (1, 0, 0)), (10, .iconst 0, 1, (0, 0, 0)), (11, .istore_n 3, 1, (0, 0, 0))]
theorem K89_0 : zRk 89 B89_0 = true := zRw_ok (by decide +kernel)
noncomputable def B89_1 : List zRow := [(56, .iconst 0, 1, (0, 0, 0)), (57, .istore_n 3, 1, (0, 0, 0))]
theorem K89_1 : zRk 89 B89_1 = true := zRw_ok (by decide +kernel)
noncomputable def B89_2 : List zRow := [(33, .aload_n 0, 1, (0, 0, 0)), (34, .getfield 9, 3, (1, 3, 5242906)), (37, .aload_n 1, 1, (0, 0, 0)), (38, .getfield 98, 3, (9, 15, 5242962)), (41, .iload_n 3, 1, (0, 0, 0)), (42, .iaload, 1, (0, 0, 0)), (43, .aload_n 1, 1, (0, 0, 0)), (44, .getfield 101, 3, (9, 16, 5242962)), (47, .iload_n 3, 1, (0, 0, 0)), (48, .iaload, 1, (0, 0, 0)), (49, .iastore, 1, (0, 0, 0))]
theorem K89_2 : zRk 89 B89_2 = true := zRw_ok (by decide +kernel)
noncomputable def B89_3 : List zRow := [(20, .aload_n 1, 1, (0, 0, 0)), (21, .getfield 95, 3, (9, 14, 5242962)), (24, .iload_n 3, 1, (0, 0, 0)), (25, .iaload, 1, (0, 0, 0)), (26, .aload_n 0, 1, (0, 0, 0)), (27, .getfield 30, 3, (1, 0, 0)), (30, .if_icmp .ne 20, 3, (0, 0, 0))]
theorem K89_3 : zRk 89 B89_3 = true := zRw_ok (by decide +kernel)
noncomputable def B89_4 : List zRow := [(12, .iload_n 3, 1, (0, 0, 0)), (13, .aload_n 1, 1, (0, 0, 0)), (14, .getfield 92, 3, (9, 4, 0)), (17, .if_icmp .ge 39, 3, (0, 0, 0))]
theorem K89_4 : zRk 89 B89_4 = true := zRw_ok (by decide +kernel)
noncomputable def B89_5 : List zRow := [(50, .iinc 3 1, 3, (0, 0, 0)), (53, .goto (-41), 3, (0, 0, 0))]
theorem K89_5 : zRk 89 B89_5 = true := zRw_ok (by decide +kernel)
noncomputable def B89_6 : List zRow := [(79, .aload_n 0, 1, (0, 0, 0)), (80, .aload_n 1, 1, (0, 0, 0)), (81, .iload_n 3, 1, (0, 0, 0)), (82, .iload_n 2, 1, (0, 0, 0))]
theorem K89_6 : zRk 89 B89_6 = true := zRw_ok (by decide +kernel)
noncomputable def B89_7 : List zRow := [(66, .aload_n 0, 1, (0, 0, 0)), (67, .getfield 27, 3, (1, 8, 5243002)), (70, .iload_n 3, 1, (0, 0, 0)), (71, .iaload, 1, (0, 0, 0)), (72, .aload_n 0, 1, (0, 0, 0)), (73, .getfield 30, 3, (1, 0, 0)), (76, .if_icmp .ne 10, 3, (0, 0, 0))]
theorem K89_7 : zRk 89 B89_7 = true := zRw_ok (by decide +kernel)
noncomputable def B89_8 : List zRow := [(58, .iload_n 3, 1, (0, 0, 0)), (59, .aload_n 0, 1, (0, 0, 0)), (60, .getfield 34, 3, (1, 1, 0)), (63, .if_icmp .ge 29, 3, (0, 0, 0))]
theorem K89_8 : zRk 89 B89_8 = true := zRw_ok (by decide +kernel)
noncomputable def B89_9 : List zRow := [(86, .iinc 3 1, 3, (0, 0, 0)), (89, .goto (-31), 3, (0, 0, 0))]
theorem K89_9 : zRk 89 B89_9 = true := zRw_ok (by decide +kernel)
def F89_3 (k0 : Int → Int → Int → Int → zHC → Option zHC) (v0 : Int) (v1 : Int) (v2 : Int) (v3 : Int) (h : zHC) : Option zHC := k0 v0 v1 v2 (wadd v3 1) h
set_option maxRecDepth 100000 in
theorem T89_3 {spec : zRn zH2} {hm : zHM} {o : Int → Int} {d : Nat} (hd : 4 ≤ d) (k0 : Int → Int → Int → Int → zHC → Option zHC) (hk0 : ∀ (v0 : Int) (v1 : Int) (v2 : Int) (v3 : Int) (h : zHC) (v : zHC), k0 v0 v1 v2 v3 h = some v → zFin 0 (fun _ => 0) (zRu2 spec d) 89 none (v, hm, o) (58, [some (11, v0), some (19, v1), some (0, v2), some (0, v3)], [], (h, hm, o))) (v0 : Int) (v1 : Int) (v2 : Int) (v3 : Int) (h : zHC) (v : zHC) (e : F89_3 k0 v0 v1 v2 v3 h = some v) : zFin 0 (fun _ => 0) (zRu2 spec d) 89 none (v, hm, o) (86, [some (11, v0), some (19, v1), some (0, v2), some (0, v3)], [], (h, hm, o)) := by
  unfold F89_3 at e
  refine zF_blk (m := []) (d := 0) (b := B89_9) (gs := []) (c' := (58, [some (11, v0), some (19, v1), some (0, v2), some (0, (wadd v3 1))], [], (h, hm, o))) K89_9 rfl trivial ?_
  exact hk0 v0 v1 v2 (wadd v3 1) h _ e
def F89_1 : Nat → Int → Int → Int → Int → zHC → Option zHC
  | 0, _, _, _, _, _ => none
  | n + 1, v0, v1, v2, v3, h => if (h 65 v0 0) ≤ v3 then some h else zG (0 ≤ v3 ∧ v3 < 30) (if ¬ (h 72 v0 v3) = (h 64 v0 0) then F89_3 (F89_1 n) v0 v1 v2 v3 h else (F90 v0 v1 v3 v2 h).bind fun r1 => F89_3 (F89_1 n) v0 v1 v2 v3 r1)
set_option maxRecDepth 100000 in
theorem T89_1 {spec : zRn zH2} {hm : zHM} {o : Int → Int} {d : Nat} (hd : 4 ≤ d) : ∀ (n : Nat) (v0 : Int) (v1 : Int) (v2 : Int) (v3 : Int) (h : zHC) (v : zHC), F89_1 n v0 v1 v2 v3 h = some v → zFin 0 (fun _ => 0) (zRu2 spec d) 89 none (v, hm, o) (58, [some (11, v0), some (19, v1), some (0, v2), some (0, v3)], [], (h, hm, o)) := by
  intro n
  induction n with
  | zero => intro v0 v1 v2 v3 h v e; unfold F89_1 at e; cases e
  | succ n hk0 =>
    intro v0 v1 v2 v3 h v e
    unfold F89_1 at e
    rcases zI_s e with ⟨q1, e⟩ | ⟨q1, e⟩
    · refine zF_blk (m := []) (d := 1) (b := B89_8) (gs := [(h 65 v0 0) ≤ v3]) (c' := (92, [some (11, v0), some (19, v1), some (0, v2), some (0, v3)], [], (h, hm, o))) K89_8 rfl ⟨q1, trivial⟩ ?_
      obtain rfl := Option.some.inj e
      exact zF_rv (zRe1_w (by decide +kernel))
    · refine zF_blk (m := []) (d := 0) (b := B89_8) (gs := [¬ ((h 65 v0 0) ≤ v3)]) (c' := (66, [some (11, v0), some (19, v1), some (0, v2), some (0, v3)], [], (h, hm, o))) K89_8 rfl ⟨q1, trivial⟩ ?_
      obtain ⟨q2, e⟩ := zG_s e
      rcases zI_s e with ⟨q3, e⟩ | ⟨q3, e⟩
      · refine zF_blk (m := []) (d := 1) (b := B89_7) (gs := [0 ≤ v3 ∧ v3 < 30, ¬ (h 72 v0 v3) = (h 64 v0 0)]) (c' := (86, [some (11, v0), some (19, v1), some (0, v2), some (0, v3)], [], (h, hm, o))) K89_7 rfl ⟨q2, q3, trivial⟩ ?_
        exact T89_3 hd (F89_1 n) hk0 v0 v1 v2 v3 h _ e
      · refine zF_blk (m := []) (d := 0) (b := B89_7) (gs := [0 ≤ v3 ∧ v3 < 30, ¬ (¬ (h 72 v0 v3) = (h 64 v0 0))]) (c' := (79, [some (11, v0), some (19, v1), some (0, v2), some (0, v3)], [], (h, hm, o))) K89_7 rfl ⟨q2, q3, trivial⟩ ?_
        obtain ⟨r1, q4, e⟩ := zB_s e
        refine zF_blk (m := []) (d := 0) (b := B89_6) (gs := []) (c' := (83, [some (11, v0), some (19, v1), some (0, v2), some (0, v3)], [(0, v2), (0, v3), (19, v1), (11, v0)], (h, hm, o))) K89_6 rfl trivial ?_
        refine zF_call (k := 90) (cl := 1) (n := 4) (i := .invokevirtual 104) (args := [(11, v0), (19, v1), (0, v3), (0, v2)]) (rest := []) (g1 := (r1, hm, o)) (r1 := none) (zCk1_w (by decide +kernel)) rfl rfl rfl (st' := []) rfl (S90 (Nat.le_trans (by decide) hd) v0 v1 v3 v2 h _ q4) ?_
        exact T89_3 hd (F89_1 n) hk0 v0 v1 v2 v3 r1 _ e
def F89_2 (k0 : Int → Int → Int → Int → zHC → Option zHC) (v0 : Int) (v1 : Int) (v2 : Int) (v3 : Int) (h : zHC) : Option zHC := k0 v0 v1 v2 (wadd v3 1) h
set_option maxRecDepth 100000 in
theorem T89_2 {spec : zRn zH2} {hm : zHM} {o : Int → Int} {d : Nat} (hd : 4 ≤ d) (k0 : Int → Int → Int → Int → zHC → Option zHC) (hk0 : ∀ (v0 : Int) (v1 : Int) (v2 : Int) (v3 : Int) (h : zHC) (v : zHC), k0 v0 v1 v2 v3 h = some v → zFin 0 (fun _ => 0) (zRu2 spec d) 89 none (v, hm, o) (12, [some (11, v0), some (19, v1), some (0, v2), some (0, v3)], [], (h, hm, o))) (v0 : Int) (v1 : Int) (v2 : Int) (v3 : Int) (h : zHC) (v : zHC) (e : F89_2 k0 v0 v1 v2 v3 h = some v) : zFin 0 (fun _ => 0) (zRu2 spec d) 89 none (v, hm, o) (50, [some (11, v0), some (19, v1), some (0, v2), some (0, v3)], [], (h, hm, o)) := by
  unfold F89_2 at e
  refine zF_blk (m := []) (d := 0) (b := B89_5) (gs := []) (c' := (12, [some (11, v0), some (19, v1), some (0, v2), some (0, (wadd v3 1))], [], (h, hm, o))) K89_5 rfl trivial ?_
  exact hk0 v0 v1 v2 (wadd v3 1) h _ e
def F89_0 : Nat → Int → Int → Int → Int → zHC → Option zHC
  | 0, _, _, _, _, _ => none
  | n + 1, v0, v1, v2, v3, h => if (h 580 v1 0) ≤ v3 then F89_1 zFu v0 v1 v2 0 h else zG (0 ≤ v3 ∧ v3 < 20) (if ¬ (h 590 v1 v3) = (h 64 v0 0) then F89_2 (F89_0 n) v0 v1 v2 v3 h else zG (0 ≤ v3 ∧ v3 < 20) (zG (0 ≤ v3 ∧ v3 < 20) (zG (0 ≤ (h 591 v1 v3) ∧ (h 591 v1 v3) < 6) (F89_2 (F89_0 n) v0 v1 v2 v3 (hset h 67 v0 (h 591 v1 v3) (h 592 v1 v3))))))
set_option maxRecDepth 100000 in
theorem T89_0 {spec : zRn zH2} {hm : zHM} {o : Int → Int} {d : Nat} (hd : 4 ≤ d) : ∀ (n : Nat) (v0 : Int) (v1 : Int) (v2 : Int) (v3 : Int) (h : zHC) (v : zHC), F89_0 n v0 v1 v2 v3 h = some v → zFin 0 (fun _ => 0) (zRu2 spec d) 89 none (v, hm, o) (12, [some (11, v0), some (19, v1), some (0, v2), some (0, v3)], [], (h, hm, o)) := by
  intro n
  induction n with
  | zero => intro v0 v1 v2 v3 h v e; unfold F89_0 at e; cases e
  | succ n hk0 =>
    intro v0 v1 v2 v3 h v e
    unfold F89_0 at e
    rcases zI_s e with ⟨q1, e⟩ | ⟨q1, e⟩
    · refine zF_blk (m := []) (d := 1) (b := B89_4) (gs := [(h 580 v1 0) ≤ v3]) (c' := (56, [some (11, v0), some (19, v1), some (0, v2), some (0, v3)], [], (h, hm, o))) K89_4 rfl ⟨q1, trivial⟩ ?_
      refine zF_blk (m := []) (d := 0) (b := B89_1) (gs := []) (c' := (58, [some (11, v0), some (19, v1), some (0, v2), some (0, 0)], [], (h, hm, o))) K89_1 rfl trivial ?_
      exact T89_1 hd zFu v0 v1 v2 0 h _ e
    · refine zF_blk (m := []) (d := 0) (b := B89_4) (gs := [¬ ((h 580 v1 0) ≤ v3)]) (c' := (20, [some (11, v0), some (19, v1), some (0, v2), some (0, v3)], [], (h, hm, o))) K89_4 rfl ⟨q1, trivial⟩ ?_
      obtain ⟨q2, e⟩ := zG_s e
      rcases zI_s e with ⟨q3, e⟩ | ⟨q3, e⟩
      · refine zF_blk (m := []) (d := 1) (b := B89_3) (gs := [0 ≤ v3 ∧ v3 < 20, ¬ (h 590 v1 v3) = (h 64 v0 0)]) (c' := (50, [some (11, v0), some (19, v1), some (0, v2), some (0, v3)], [], (h, hm, o))) K89_3 rfl ⟨q2, q3, trivial⟩ ?_
        exact T89_2 hd (F89_0 n) hk0 v0 v1 v2 v3 h _ e
      · refine zF_blk (m := []) (d := 0) (b := B89_3) (gs := [0 ≤ v3 ∧ v3 < 20, ¬ (¬ (h 590 v1 v3) = (h 64 v0 0))]) (c' := (33, [some (11, v0), some (19, v1), some (0, v2), some (0, v3)], [], (h, hm, o))) K89_3 rfl ⟨q2, q3, trivial⟩ ?_
        obtain ⟨q4, e⟩ := zG_s e
        obtain ⟨q4, e⟩ := zG_s e
        obtain ⟨q5, e⟩ := zG_s e
        refine zF_blk (m := []) (d := 0) (b := B89_2) (gs := [0 ≤ v3 ∧ v3 < 20, 0 ≤ v3 ∧ v3 < 20, 0 ≤ (h 591 v1 v3) ∧ (h 591 v1 v3) < 6]) (c' := (50, [some (11, v0), some (19, v1), some (0, v2), some (0, v3)], [], ((hset h 67 v0 (h 591 v1 v3) (h 592 v1 v3)), hm, o))) K89_2 rfl ⟨q4, q4, q5, trivial⟩ ?_
        exact T89_2 hd (F89_0 n) hk0 v0 v1 v2 v3 (hset h 67 v0 (h 591 v1 v3) (h 592 v1 v3)) _ e
/-- EchoVale$Course.pass(LEchoVale$Valley;I)V -/
def F89 (v0 : Int) (v1 : Int) (v2 : Int) (h : zHC) : Option zHC := F89_0 zFu v0 v1 v2 0 (hset h 64 v0 0 (wadd (h 64 v0 0) 1))
set_option maxRecDepth 100000 in
theorem S89 {spec : zRn zH2} {hm : zHM} {o : Int → Int} {d : Nat} (hd : 5 ≤ d) (v0 : Int) (v1 : Int) (v2 : Int) (h : zHC) (v : zHC) (e : F89 v0 v1 v2 h = some v) : zRu2 spec d 89 [(11, v0), (19, v1), (0, v2)] (h, hm, o) none (v, hm, o) := by
  refine zF_in (D := 4) (mx := 4) (L := [some (11, v0), some (19, v1), some (0, v2), none]) (by decide +kernel) rfl rfl hd (fun d hd => ?_)
  unfold F89 at e
  refine zF_blk (m := []) (d := 0) (b := B89_0) (gs := []) (c' := (12, [some (11, v0), some (19, v1), some (0, v2), some (0, 0)], [], ((hset h 64 v0 0 (wadd (h 64 v0 0) 1)), hm, o))) K89_0 rfl trivial ?_
  exact T89_0 hd zFu v0 v1 v2 0 (hset h 64 v0 0 (wadd (h 64 v0 0) 1)) _ e
noncomputable def B88_0 : List zRow := [(0, .iconst 0, 1, (0, 0, 0)), (1, .istore_n 3, 1, (0, 0, 0))]
theorem K88_0 : zRk 88 B88_0 = true := zRw_ok (by decide +kernel)
noncomputable def B88_1 : List zRow := [(29, .iload_n 3, 1, (0, 0, 0))]
theorem K88_1 : zRk 88 B88_1 = true := zRw_ok (by decide +kernel)
noncomputable def B88_2 : List zRow := [(17, .aload_n 0, 1, (0, 0, 0)), (18, .aload_n 1, 1, (0, 0, 0)), (19, .iconst 0, 1, (0, 0, 0))]
theorem K88_2 : zRk 88 B88_2 = true := zRw_ok (by decide +kernel)
noncomputable def B88_3 : List zRow := [(23, .iinc 3 1, 3, (0, 0, 0)), (26, .goto (-24), 3, (0, 0, 0))]
theorem K88_3 : zRk 88 B88_3 = true := zRw_ok (by decide +kernel)
noncomputable def B88_4 : List zRow := [(7, .aload_n 0, 1, (0, 0, 0)), (8, .getfield 30, 3, (1, 0, 0)), (11, .sipush 400, 3, (0, 0, 0)), (14, .if_icmp .ge 15, 3, (0, 0, 0))]
theorem K88_4 : zRk 88 B88_4 = true := zRw_ok (by decide +kernel)
noncomputable def B88_5 : List zRow := [(2, .iload_n 3, 1, (0, 0, 0)), (3, .iload_n 2, 1, (0, 0, 0)), (4, .if_icmp .ge 25, 3, (0, 0, 0))]
theorem K88_5 : zRk 88 B88_5 = true := zRw_ok (by decide +kernel)
def F88_0 : Nat → Int → Int → Int → Int → zHC → Option (Int × zHC)
  | 0, _, _, _, _, _ => none
  | n + 1, v0, v1, v2, v3, h => if v2 ≤ v3 then some (v3, h) else if 400 ≤ (h 64 v0 0) then some (v3, h) else (F89 v0 v1 0 h).bind fun r1 => (F88_0 n) v0 v1 v2 (wadd v3 1) r1
set_option maxRecDepth 100000 in
theorem T88_0 {spec : zRn zH2} {hm : zHM} {o : Int → Int} {d : Nat} (hd : 5 ≤ d) : ∀ (n : Nat) (v0 : Int) (v1 : Int) (v2 : Int) (v3 : Int) (h : zHC) (v : (Int × zHC)), F88_0 n v0 v1 v2 v3 h = some v → zFin 0 (fun _ => 0) (zRu2 spec d) 88 (some (0, v.1)) (v.2, hm, o) (2, [some (11, v0), some (19, v1), some (0, v2), some (0, v3)], [], (h, hm, o)) := by
  intro n
  induction n with
  | zero => intro v0 v1 v2 v3 h v e; unfold F88_0 at e; cases e
  | succ n hk0 =>
    intro v0 v1 v2 v3 h v e
    unfold F88_0 at e
    rcases zI_s e with ⟨q1, e⟩ | ⟨q1, e⟩
    · refine zF_blk (m := []) (d := 1) (b := B88_5) (gs := [v2 ≤ v3]) (c' := (29, [some (11, v0), some (19, v1), some (0, v2), some (0, v3)], [], (h, hm, o))) K88_5 rfl ⟨q1, trivial⟩ ?_
      refine zF_blk (m := []) (d := 0) (b := B88_1) (gs := []) (c' := (30, [some (11, v0), some (19, v1), some (0, v2), some (0, v3)], [(0, v3)], (h, hm, o))) K88_1 rfl trivial ?_
      exact zF_riC (zRe1_w (by decide +kernel)) e
    · refine zF_blk (m := []) (d := 0) (b := B88_5) (gs := [¬ (v2 ≤ v3)]) (c' := (7, [some (11, v0), some (19, v1), some (0, v2), some (0, v3)], [], (h, hm, o))) K88_5 rfl ⟨q1, trivial⟩ ?_
      rcases zI_s e with ⟨q2, e⟩ | ⟨q2, e⟩
      · refine zF_blk (m := []) (d := 1) (b := B88_4) (gs := [400 ≤ (h 64 v0 0)]) (c' := (29, [some (11, v0), some (19, v1), some (0, v2), some (0, v3)], [], (h, hm, o))) K88_4 rfl ⟨q2, trivial⟩ ?_
        refine zF_blk (m := []) (d := 0) (b := B88_1) (gs := []) (c' := (30, [some (11, v0), some (19, v1), some (0, v2), some (0, v3)], [(0, v3)], (h, hm, o))) K88_1 rfl trivial ?_
        exact zF_riC (zRe1_w (by decide +kernel)) e
      · refine zF_blk (m := []) (d := 0) (b := B88_4) (gs := [¬ (400 ≤ (h 64 v0 0))]) (c' := (17, [some (11, v0), some (19, v1), some (0, v2), some (0, v3)], [], (h, hm, o))) K88_4 rfl ⟨q2, trivial⟩ ?_
        obtain ⟨r1, q3, e⟩ := zB_s e
        refine zF_blk (m := []) (d := 0) (b := B88_2) (gs := []) (c' := (20, [some (11, v0), some (19, v1), some (0, v2), some (0, v3)], [(0, 0), (19, v1), (11, v0)], (h, hm, o))) K88_2 rfl trivial ?_
        refine zF_call (k := 89) (cl := 1) (n := 3) (i := .invokevirtual 88) (args := [(11, v0), (19, v1), (0, 0)]) (rest := []) (g1 := (r1, hm, o)) (r1 := none) (zCk1_w (by decide +kernel)) rfl rfl rfl (st' := []) rfl (S89 (Nat.le_trans (by decide) hd) v0 v1 0 h _ q3) ?_
        refine zF_blk (m := []) (d := 0) (b := B88_3) (gs := []) (c' := (2, [some (11, v0), some (19, v1), some (0, v2), some (0, (wadd v3 1))], [], (r1, hm, o))) K88_3 rfl trivial ?_
        exact hk0 v0 v1 v2 (wadd v3 1) r1 _ e
/-- EchoVale$Course.passHours(LEchoVale$Valley;I)I -/
def F88 (v0 : Int) (v1 : Int) (v2 : Int) (h : zHC) : Option (Int × zHC) := F88_0 zFu v0 v1 v2 0 h
set_option maxRecDepth 100000 in
theorem S88 {spec : zRn zH2} {hm : zHM} {o : Int → Int} {d : Nat} (hd : 6 ≤ d) (v0 : Int) (v1 : Int) (v2 : Int) (h : zHC) (v : (Int × zHC)) (e : F88 v0 v1 v2 h = some v) : zRu2 spec d 88 [(11, v0), (19, v1), (0, v2)] (h, hm, o) (some (0, v.1)) (v.2, hm, o) := by
  refine zF_in (D := 5) (mx := 4) (L := [some (11, v0), some (19, v1), some (0, v2), none]) (by decide +kernel) rfl rfl hd (fun d hd => ?_)
  unfold F88 at e
  refine zF_blk (m := []) (d := 0) (b := B88_0) (gs := []) (c' := (2, [some (11, v0), some (19, v1), some (0, v2), some (0, 0)], [], (h, hm, o))) K88_0 rfl trivial ?_
  exact T88_0 hd zFu v0 v1 v2 0 h _ e
noncomputable def B87_0 : List zRow := [(11, .iconst (-1), 1, (0, 0, 0))]
theorem K87_0 : zRk 87 B87_0 = true := zRw_ok (by decide +kernel)
noncomputable def B87_1 : List zRow := [(28, .aload_n 0, 1, (0, 0, 0)), (29, .getfield 66, 3, (11, 8, 35)), (32, .aload_n 0, 1, (0, 0, 0)), (33, .getfield 56, 3, (11, 6, 7))]
theorem K87_1 : zRk 87 B87_1 = true := zRw_ok (by decide +kernel)
noncomputable def B87_2 : List zRow := [(39, .aload_n 0, 1, (0, 0, 0)), (40, .getfield 56, 3, (11, 6, 7)), (43, .aload_n 0, 1, (0, 0, 0)), (44, .getfield 19, 3, (11, 1, 39)), (47, .iload_n 1, 1, (0, 0, 0))]
theorem K87_2 : zRk 87 B87_2 = true := zRw_ok (by decide +kernel)
noncomputable def B87_3 : List zRow := [(26, .iconst 0, 1, (0, 0, 0))]
theorem K87_3 : zRk 87 B87_3 = true := zRw_ok (by decide +kernel)
noncomputable def B87_4 : List zRow := [(13, .aload_n 0, 1, (0, 0, 0)), (14, .getfield 56, 3, (11, 6, 7)), (17, .getfield 159, 3, (1, 0, 0)), (20, .sipush 400, 3, (0, 0, 0)), (23, .if_icmp .lt 5, 3, (0, 0, 0))]
theorem K87_4 : zRk 87 B87_4 = true := zRw_ok (by decide +kernel)
noncomputable def B87_5 : List zRow := [(5, .iload_n 1, 1, (0, 0, 0)), (6, .bipush 100, 2, (0, 0, 0)), (8, .if_icmp .le 5, 3, (0, 0, 0))]
theorem K87_5 : zRk 87 B87_5 = true := zRw_ok (by decide +kernel)
noncomputable def B87_6 : List zRow := [(0, .iload_n 1, 1, (0, 0, 0)), (1, .iconst 1, 1, (0, 0, 0)), (2, .if_icmp .lt 9, 3, (0, 0, 0))]
theorem K87_6 : zRk 87 B87_6 = true := zRw_ok (by decide +kernel)
/-- EchoVale.on(I)I -/
def F87 (v1 : Int) (h : zHC) : Option (Int × zHC) := if v1 < 1 then some ((-1), h) else if v1 ≤ 100 then if (h 64 0 0) < 400 then (F70 0 h).bind fun r1 => (F88 0 0 v1 r1).bind fun r2 => some (r2.1, r2.2) else some (0, h) else some ((-1), h)
set_option maxRecDepth 100000 in
theorem S87 {spec : zRn zH2} {hm : zHM} {o : Int → Int} {d : Nat} (hd : 7 ≤ d) (v1 : Int) (h : zHC) (v : (Int × zHC)) (e : F87 v1 h = some v) : zRu2 spec d 87 [(21, 0), (0, v1)] (h, hm, o) (some (0, v.1)) (v.2, hm, o) := by
  refine zF_in (D := 6) (mx := 2) (L := [some (21, 0), some (0, v1)]) (by decide +kernel) rfl rfl hd (fun d hd => ?_)
  unfold F87 at e
  rcases zI_s e with ⟨q1, e⟩ | ⟨q1, e⟩
  · refine zF_blk (m := []) (d := 1) (b := B87_6) (gs := [v1 < 1]) (c' := (11, [some (21, 0), some (0, v1)], [], (h, hm, o))) K87_6 rfl ⟨q1, trivial⟩ ?_
    refine zF_blk (m := []) (d := 0) (b := B87_0) (gs := []) (c' := (12, [some (21, 0), some (0, v1)], [(0, (-1))], (h, hm, o))) K87_0 rfl trivial ?_
    exact zF_riC (zRe1_w (by decide +kernel)) e
  · refine zF_blk (m := []) (d := 0) (b := B87_6) (gs := [¬ (v1 < 1)]) (c' := (5, [some (21, 0), some (0, v1)], [], (h, hm, o))) K87_6 rfl ⟨q1, trivial⟩ ?_
    rcases zI_s e with ⟨q2, e⟩ | ⟨q2, e⟩
    · refine zF_blk (m := []) (d := 1) (b := B87_5) (gs := [v1 ≤ 100]) (c' := (13, [some (21, 0), some (0, v1)], [], (h, hm, o))) K87_5 rfl ⟨q2, trivial⟩ ?_
      rcases zI_s e with ⟨q3, e⟩ | ⟨q3, e⟩
      · refine zF_blk (m := []) (d := 1) (b := B87_4) (gs := [(h 64 0 0) < 400]) (c' := (28, [some (21, 0), some (0, v1)], [], (h, hm, o))) K87_4 rfl ⟨q3, trivial⟩ ?_
        obtain ⟨r1, q4, e⟩ := zB_s e
        refine zF_blk (m := []) (d := 0) (b := B87_1) (gs := []) (c' := (36, [some (21, 0), some (0, v1)], [(11, 0), (18, 0)], (h, hm, o))) K87_1 rfl trivial ?_
        refine zF_call (k := 70) (cl := 8) (n := 2) (i := .invokevirtual 217) (args := [(18, 0), (11, 0)]) (rest := []) (g1 := (r1, hm, o)) (r1 := none) (zCk1_w (by decide +kernel)) rfl rfl rfl (st' := []) rfl (S70 (Nat.le_trans (by decide) hd) 0 h _ q4) ?_
        obtain ⟨r2, q5, e⟩ := zB_s e
        refine zF_blk (m := []) (d := 0) (b := B87_2) (gs := []) (c' := (48, [some (21, 0), some (0, v1)], [(0, v1), (19, 0), (11, 0)], (r1, hm, o))) K87_2 rfl trivial ?_
        refine zF_call (k := 88) (cl := 1) (n := 3) (i := .invokevirtual 231) (args := [(11, 0), (19, 0), (0, v1)]) (rest := []) (g1 := (r2.2, hm, o)) (r1 := some (0, r2.1)) (zCk1_w (by decide +kernel)) rfl rfl rfl (st' := [(0, r2.1)]) rfl (S88 (Nat.le_trans (by decide) hd) 0 0 v1 r1 _ q5) ?_
        exact zF_riC (zRe1_w (by decide +kernel)) e
      · refine zF_blk (m := []) (d := 0) (b := B87_4) (gs := [¬ ((h 64 0 0) < 400)]) (c' := (26, [some (21, 0), some (0, v1)], [], (h, hm, o))) K87_4 rfl ⟨q3, trivial⟩ ?_
        refine zF_blk (m := []) (d := 0) (b := B87_3) (gs := []) (c' := (27, [some (21, 0), some (0, v1)], [(0, 0)], (h, hm, o))) K87_3 rfl trivial ?_
        exact zF_riC (zRe1_w (by decide +kernel)) e
    · refine zF_blk (m := []) (d := 0) (b := B87_5) (gs := [¬ (v1 ≤ 100)]) (c' := (11, [some (21, 0), some (0, v1)], [], (h, hm, o))) K87_5 rfl ⟨q2, trivial⟩ ?_
      refine zF_blk (m := []) (d := 0) (b := B87_0) (gs := []) (c' := (12, [some (21, 0), some (0, v1)], [(0, (-1))], (h, hm, o))) K87_0 rfl trivial ?_
      exact zF_riC (zRe1_w (by decide +kernel)) e
noncomputable def B237_0 : List zRow := [(0, .iconst 0, 1, (0, 0, 0)), (1, .istore_n 2, 1, (0, 0, 0))]
theorem K237_0 : zRk 237 B237_0 = true := zRw_ok (by decide +kernel)
noncomputable def B237_1 : List zRow := [(12, .aload_n 0, 1, (0, 0, 0)), (13, .getfield 13, 3, (12, 14, 5251442)), (16, .bipush 37, 2, (0, 0, 0)), (18, .iconst 3, 1, (0, 0, 0)), (19, .iload_n 2, 1, (0, 0, 0))]
theorem K237_1 : zRk 237 B237_1 = true := zRw_ok (by decide +kernel)
noncomputable def B237_2 : List zRow := [(20, .imul, 1, (0, 0, 0))]
theorem K237_2 : zRk 237 B237_2 = true := zRw_ok (by decide +kernel)
noncomputable def B237_3 : List zRow := [(29, .aload_n 0, 1, (0, 0, 0)), (30, .getfield 13, 3, (12, 14, 5251442)), (33, .sipush 210, 3, (0, 0, 0)), (36, .aload_n 0, 1, (0, 0, 0)), (37, .getfield 13, 3, (12, 14, 5251442)), (40, .bipush 37, 2, (0, 0, 0)), (42, .iconst 3, 1, (0, 0, 0)), (43, .iload_n 2, 1, (0, 0, 0))]
theorem K237_3 : zRk 237 B237_3 = true := zRw_ok (by decide +kernel)
noncomputable def B237_4 : List zRow := [(44, .imul, 1, (0, 0, 0))]
theorem K237_4 : zRk 237 B237_4 = true := zRw_ok (by decide +kernel)
noncomputable def B237_5 : List zRow := [(45, .iadd, 1, (0, 0, 0)), (46, .iaload, 1, (0, 0, 0))]
theorem K237_5 : zRk 237 B237_5 = true := zRw_ok (by decide +kernel)
noncomputable def B237_6 : List zRow := [(47, .iadd, 1, (0, 0, 0)), (48, .aload_n 0, 1, (0, 0, 0)), (49, .getfield 13, 3, (12, 14, 5251442)), (52, .bipush 37, 2, (0, 0, 0)), (54, .iconst 3, 1, (0, 0, 0)), (55, .iload_n 2, 1, (0, 0, 0))]
theorem K237_6 : zRk 237 B237_6 = true := zRw_ok (by decide +kernel)
noncomputable def B237_7 : List zRow := [(56, .imul, 1, (0, 0, 0))]
theorem K237_7 : zRk 237 B237_7 = true := zRw_ok (by decide +kernel)
noncomputable def B237_8 : List zRow := [(57, .iadd, 1, (0, 0, 0)), (58, .iconst 2, 1, (0, 0, 0)), (59, .iadd, 1, (0, 0, 0)), (60, .iaload, 1, (0, 0, 0)), (61, .iastore, 1, (0, 0, 0))]
theorem K237_8 : zRk 237 B237_8 = true := zRw_ok (by decide +kernel)
noncomputable def B237_9 : List zRow := [(21, .iadd, 1, (0, 0, 0)), (22, .iconst 1, 1, (0, 0, 0)), (23, .iadd, 1, (0, 0, 0)), (24, .iaload, 1, (0, 0, 0)), (25, .iload_n 1, 1, (0, 0, 0)), (26, .if_icmp .ne 36, 3, (0, 0, 0))]
theorem K237_9 : zRk 237 B237_9 = true := zRw_ok (by decide +kernel)
noncomputable def B237_10 : List zRow := [(2, .iload_n 2, 1, (0, 0, 0)), (3, .aload_n 0, 1, (0, 0, 0)), (4, .getfield 13, 3, (12, 14, 5251442)), (7, .iconst 4, 1, (0, 0, 0)), (8, .iaload, 1, (0, 0, 0)), (9, .if_icmp .ge 59, 3, (0, 0, 0))]
theorem K237_10 : zRk 237 B237_10 = true := zRw_ok (by decide +kernel)
noncomputable def B237_11 : List zRow := [(62, .iinc 2 1, 3, (0, 0, 0)), (65, .goto (-63), 3, (0, 0, 0))]
theorem K237_11 : zRk 237 B237_11 = true := zRw_ok (by decide +kernel)
def F237_1 (k0 : Int → Int → zHM → Option zHM) (v1 : Int) (v2 : Int) (h : zHM) : Option zHM := k0 v1 (wadd v2 1) h
set_option maxRecDepth 100000 in
theorem T237_1 {spec : zRn zH2} {hc : zHC} {o : Int → Int} {d : Nat} (hd : 0 ≤ d) (k0 : Int → Int → zHM → Option zHM) (hk0 : ∀ (v1 : Int) (v2 : Int) (h : zHM) (v : zHM), k0 v1 v2 h = some v → zFin 0 (fun _ => 0) (zRu2 spec d) 237 none (hc, v, o) (2, [some (22, 0), some (0, v1), some (0, v2)], [], (hc, h, o))) (v1 : Int) (v2 : Int) (h : zHM) (v : zHM) (e : F237_1 k0 v1 v2 h = some v) : zFin 0 (fun _ => 0) (zRu2 spec d) 237 none (hc, v, o) (62, [some (22, 0), some (0, v1), some (0, v2)], [], (hc, h, o)) := by
  unfold F237_1 at e
  refine zF_blk (m := []) (d := 0) (b := B237_11) (gs := []) (c' := (2, [some (22, 0), some (0, v1), some (0, (wadd v2 1))], [], (hc, h, o))) K237_11 rfl trivial ?_
  exact hk0 v1 (wadd v2 1) h _ e
def F237_0 : Nat → Int → Int → zHM → Option zHM
  | 0, _, _, _ => none
  | n + 1, v1, v2, h => if (h 14 4) ≤ v2 then some h else zG (0 ≤ (wadd (wadd 37 (wmul 3 v2)) 1) ∧ (wadd (wadd 37 (wmul 3 v2)) 1) < 2140) (if ¬ (h 14 (wadd (wadd 37 (wmul 3 v2)) 1)) = v1 then F237_1 (F237_0 n) v1 v2 h else zG (0 ≤ (wadd 37 (wmul 3 v2)) ∧ (wadd 37 (wmul 3 v2)) < 2140) (zG (0 ≤ (wadd (wadd 37 (wmul 3 v2)) 2) ∧ (wadd (wadd 37 (wmul 3 v2)) 2) < 2140) (zG (0 ≤ (wadd 210 (h 14 (wadd 37 (wmul 3 v2)))) ∧ (wadd 210 (h 14 (wadd 37 (wmul 3 v2)))) < 2140) (F237_1 (F237_0 n) v1 v2 (mset h 14 (wadd 210 (h 14 (wadd 37 (wmul 3 v2)))) (h 14 (wadd (wadd 37 (wmul 3 v2)) 2)))))))
set_option maxRecDepth 100000 in
theorem T237_0 {spec : zRn zH2} {hc : zHC} {o : Int → Int} {d : Nat} (hd : 0 ≤ d) : ∀ (n : Nat) (v1 : Int) (v2 : Int) (h : zHM) (v : zHM), F237_0 n v1 v2 h = some v → zFin 0 (fun _ => 0) (zRu2 spec d) 237 none (hc, v, o) (2, [some (22, 0), some (0, v1), some (0, v2)], [], (hc, h, o)) := by
  intro n
  induction n with
  | zero => intro v1 v2 h v e; unfold F237_0 at e; cases e
  | succ n hk0 =>
    intro v1 v2 h v e
    unfold F237_0 at e
    rcases zI_s e with ⟨q1, e⟩ | ⟨q1, e⟩
    · refine zF_blk (m := []) (d := 1) (b := B237_10) (gs := [0 ≤ 4 ∧ 4 < 2140, (h 14 4) ≤ v2]) (c' := (68, [some (22, 0), some (0, v1), some (0, v2)], [], (hc, h, o))) K237_10 rfl ⟨by decide, q1, trivial⟩ ?_
      obtain rfl := Option.some.inj e
      exact zF_rv (zRe1_w (by decide +kernel))
    · refine zF_blk (m := []) (d := 0) (b := B237_10) (gs := [0 ≤ 4 ∧ 4 < 2140, ¬ ((h 14 4) ≤ v2)]) (c' := (12, [some (22, 0), some (0, v1), some (0, v2)], [], (hc, h, o))) K237_10 rfl ⟨by decide, q1, trivial⟩ ?_
      obtain ⟨q2, e⟩ := zG_s e
      refine zF_blk (m := []) (d := 0) (b := B237_1) (gs := []) (c' := (20, [some (22, 0), some (0, v1), some (0, v2)], [(0, v2), (0, 3), (0, 37), (1344370422, 0)], (hc, h, o))) K237_1 rfl trivial ?_
      refine zF_blk (m := []) (d := 0) (b := B237_2) (gs := []) (c' := (21, [some (22, 0), some (0, v1), some (0, v2)], [(0, (wmul 3 v2)), (0, 37), (1344370422, 0)], (hc, h, o))) K237_2 rfl trivial ?_
      rcases zI_s e with ⟨q3, e⟩ | ⟨q3, e⟩
      · refine zF_blk (m := []) (d := 1) (b := B237_9) (gs := [0 ≤ (wadd (wadd 37 (wmul 3 v2)) 1) ∧ (wadd (wadd 37 (wmul 3 v2)) 1) < 2140, ¬ (h 14 (wadd (wadd 37 (wmul 3 v2)) 1)) = v1]) (c' := (62, [some (22, 0), some (0, v1), some (0, v2)], [], (hc, h, o))) K237_9 rfl ⟨q2, q3, trivial⟩ ?_
        exact T237_1 hd (F237_0 n) hk0 v1 v2 h _ e
      · refine zF_blk (m := []) (d := 0) (b := B237_9) (gs := [0 ≤ (wadd (wadd 37 (wmul 3 v2)) 1) ∧ (wadd (wadd 37 (wmul 3 v2)) 1) < 2140, ¬ (¬ (h 14 (wadd (wadd 37 (wmul 3 v2)) 1)) = v1)]) (c' := (29, [some (22, 0), some (0, v1), some (0, v2)], [], (hc, h, o))) K237_9 rfl ⟨q2, q3, trivial⟩ ?_
        obtain ⟨q4, e⟩ := zG_s e
        obtain ⟨q5, e⟩ := zG_s e
        obtain ⟨q6, e⟩ := zG_s e
        refine zF_blk (m := []) (d := 0) (b := B237_3) (gs := []) (c' := (44, [some (22, 0), some (0, v1), some (0, v2)], [(0, v2), (0, 3), (0, 37), (1344370422, 0), (0, 210), (1344370422, 0)], (hc, h, o))) K237_3 rfl trivial ?_
        refine zF_blk (m := []) (d := 0) (b := B237_4) (gs := []) (c' := (45, [some (22, 0), some (0, v1), some (0, v2)], [(0, (wmul 3 v2)), (0, 37), (1344370422, 0), (0, 210), (1344370422, 0)], (hc, h, o))) K237_4 rfl trivial ?_
        refine zF_blk (m := []) (d := 0) (b := B237_5) (gs := [0 ≤ (wadd 37 (wmul 3 v2)) ∧ (wadd 37 (wmul 3 v2)) < 2140]) (c' := (47, [some (22, 0), some (0, v1), some (0, v2)], [(0, (h 14 (wadd 37 (wmul 3 v2)))), (0, 210), (1344370422, 0)], (hc, h, o))) K237_5 rfl ⟨q4, trivial⟩ ?_
        refine zF_blk (m := []) (d := 0) (b := B237_6) (gs := []) (c' := (56, [some (22, 0), some (0, v1), some (0, v2)], [(0, v2), (0, 3), (0, 37), (1344370422, 0), (0, (wadd 210 (h 14 (wadd 37 (wmul 3 v2))))), (1344370422, 0)], (hc, h, o))) K237_6 rfl trivial ?_
        refine zF_blk (m := []) (d := 0) (b := B237_7) (gs := []) (c' := (57, [some (22, 0), some (0, v1), some (0, v2)], [(0, (wmul 3 v2)), (0, 37), (1344370422, 0), (0, (wadd 210 (h 14 (wadd 37 (wmul 3 v2))))), (1344370422, 0)], (hc, h, o))) K237_7 rfl trivial ?_
        refine zF_blk (m := []) (d := 0) (b := B237_8) (gs := [0 ≤ (wadd (wadd 37 (wmul 3 v2)) 2) ∧ (wadd (wadd 37 (wmul 3 v2)) 2) < 2140, 0 ≤ (wadd 210 (h 14 (wadd 37 (wmul 3 v2)))) ∧ (wadd 210 (h 14 (wadd 37 (wmul 3 v2)))) < 2140]) (c' := (62, [some (22, 0), some (0, v1), some (0, v2)], [], (hc, (mset h 14 (wadd 210 (h 14 (wadd 37 (wmul 3 v2)))) (h 14 (wadd (wadd 37 (wmul 3 v2)) 2))), o))) K237_8 rfl ⟨q5, q6, trivial⟩ ?_
        exact T237_1 hd (F237_0 n) hk0 v1 v2 (mset h 14 (wadd 210 (h 14 (wadd 37 (wmul 3 v2)))) (h 14 (wadd (wadd 37 (wmul 3 v2)) 2))) _ e
/-- EchoValeModel.moveAll(I)V -/
def F237 (v1 : Int) (h : zHM) : Option zHM := F237_0 zFu v1 0 h
set_option maxRecDepth 100000 in
theorem S237 {spec : zRn zH2} {hc : zHC} {o : Int → Int} {d : Nat} (hd : 1 ≤ d) (v1 : Int) (h : zHM) (v : zHM) (e : F237 v1 h = some v) : zRu2 spec d 237 [(22, 0), (0, v1)] (hc, h, o) none (hc, v, o) := by
  refine zF_in (D := 0) (mx := 3) (L := [some (22, 0), some (0, v1), none]) (by decide +kernel) rfl rfl hd (fun d hd => ?_)
  unfold F237 at e
  refine zF_blk (m := []) (d := 0) (b := B237_0) (gs := []) (c' := (2, [some (22, 0), some (0, v1), some (0, 0)], [], (hc, h, o))) K237_0 rfl trivial ?_
  exact T237_0 hd zFu v1 0 h _ e
noncomputable def B238_0 : List zRow := [(9, .iload_n 1, 1, (0, 0, 0))]
theorem K238_0 : zRk 238 B238_0 = true := zRw_ok (by decide +kernel)
noncomputable def B238_1 : List zRow := [(5, .iload_n 0, 1, (0, 0, 0)), (6, .goto 4, 3, (0, 0, 0))]
theorem K238_1 : zRk 238 B238_1 = true := zRw_ok (by decide +kernel)
noncomputable def B238_2 : List zRow := [(0, .iload_n 0, 1, (0, 0, 0)), (1, .iload_n 1, 1, (0, 0, 0)), (2, .if_icmp .ge 7, 3, (0, 0, 0))]
theorem K238_2 : zRk 238 B238_2 = true := zRw_ok (by decide +kernel)
/-- EchoValeModel.least(II)I -/
def F238 (v0 : Int) (v1 : Int) : Option Int := if v1 ≤ v0 then some v1 else some v0
set_option maxRecDepth 100000 in
theorem S238 {spec : zRn zH2} {hc : zHC} {o : Int → Int} {d : Nat} (hd : 1 ≤ d) (v0 : Int) (v1 : Int) (h : zHM) (v : Int) (e : F238 v0 v1 = some v) : zRu2 spec d 238 [(0, v0), (0, v1)] (hc, h, o) (some (0, v)) (hc, h, o) := by
  refine zF_in (D := 0) (mx := 2) (L := [some (0, v0), some (0, v1)]) (by decide +kernel) rfl rfl hd (fun d hd => ?_)
  unfold F238 at e
  rcases zI_s e with ⟨q1, e⟩ | ⟨q1, e⟩
  · refine zF_blk (m := []) (d := 1) (b := B238_2) (gs := [v1 ≤ v0]) (c' := (9, [some (0, v0), some (0, v1)], [], (hc, h, o))) K238_2 rfl ⟨q1, trivial⟩ ?_
    refine zF_blk (m := []) (d := 0) (b := B238_0) (gs := []) (c' := (10, [some (0, v0), some (0, v1)], [(0, v1)], (hc, h, o))) K238_0 rfl trivial ?_
    obtain rfl := Option.some.inj e
    exact zF_ri (zRe1_w (by decide +kernel))
  · refine zF_blk (m := []) (d := 0) (b := B238_2) (gs := [¬ (v1 ≤ v0)]) (c' := (5, [some (0, v0), some (0, v1)], [], (hc, h, o))) K238_2 rfl ⟨q1, trivial⟩ ?_
    refine zF_blk (m := []) (d := 0) (b := B238_1) (gs := []) (c' := (10, [some (0, v0), some (0, v1)], [(0, v0)], (hc, h, o))) K238_1 rfl trivial ?_
    obtain rfl := Option.some.inj e
    exact zF_ri (zRe1_w (by decide +kernel))
noncomputable def B240_0 : List zRow := [(0, .iconst 0, 1, (0, 0, 0)), (1, .istore_n 3, 1, (0, 0, 0)), (2, .iconst 0, 1, (0, 0, 0)), (3, .istore 4, 2, (0, 0, 0))]
theorem K240_0 : zRk 240 B240_0 = true := zRw_ok (by decide +kernel)
noncomputable def B240_1 : List zRow := [(52, .iload_n 3, 1, (0, 0, 0))]
theorem K240_1 : zRk 240 B240_1 = true := zRw_ok (by decide +kernel)
noncomputable def B240_2 : List zRow := [(16, .aload_n 0, 1, (0, 0, 0)), (17, .getfield 13, 3, (12, 14, 5251442)), (20, .sipush 210, 3, (0, 0, 0)), (23, .iload 4, 2, (0, 0, 0))]
theorem K240_2 : zRk 240 B240_2 = true := zRw_ok (by decide +kernel)
noncomputable def B240_3 : List zRow := [(25, .iadd, 1, (0, 0, 0)), (26, .iaload, 1, (0, 0, 0)), (27, .aload_n 0, 1, (0, 0, 0)), (28, .iload_n 1, 1, (0, 0, 0))]
theorem K240_3 : zRk 240 B240_3 = true := zRw_ok (by decide +kernel)
noncomputable def B240_4 : List zRow := [(39, .iload_n 3, 1, (0, 0, 0)), (40, .iconst 1, 1, (0, 0, 0)), (41, .iload 4, 2, (0, 0, 0)), (43, .ishl, 1, (0, 0, 0)), (44, .ior, 1, (0, 0, 0)), (45, .istore_n 3, 1, (0, 0, 0))]
theorem K240_4 : zRk 240 B240_4 = true := zRw_ok (by decide +kernel)
noncomputable def B240_5 : List zRow := [(35, .iload_n 2, 1, (0, 0, 0)), (36, .if_icmp .gt 10, 3, (0, 0, 0))]
theorem K240_5 : zRk 240 B240_5 = true := zRw_ok (by decide +kernel)
noncomputable def B240_6 : List zRow := [(5, .iload 4, 2, (0, 0, 0)), (7, .aload_n 0, 1, (0, 0, 0)), (8, .getfield 13, 3, (12, 14, 5251442)), (11, .iconst 3, 1, (0, 0, 0)), (12, .iaload, 1, (0, 0, 0)), (13, .if_icmp .ge 39, 3, (0, 0, 0))]
theorem K240_6 : zRk 240 B240_6 = true := zRw_ok (by decide +kernel)
noncomputable def B240_7 : List zRow := [(46, .iinc 4 1, 3, (0, 0, 0)), (49, .goto (-44), 3, (0, 0, 0))]
theorem K240_7 : zRk 240 B240_7 = true := zRw_ok (by decide +kernel)
def F240_1 (k0 : Int → Int → Int → Int → Option Int) (h : zHM) (v1 : Int) (v2 : Int) (v3 : Int) (v4 : Int) : Option Int := k0 v1 v2 v3 (wadd v4 1)
set_option maxRecDepth 100000 in
theorem T240_1 {spec : zRn zH2} {hc : zHC} {o : Int → Int} {d : Nat} (hd : 2 ≤ d) (h : zHM) (k0 : Int → Int → Int → Int → Option Int) (hk0 : ∀ (v1 : Int) (v2 : Int) (v3 : Int) (v4 : Int) (v : Int), k0 v1 v2 v3 v4 = some v → zFin 0 (fun _ => 0) (zRu2 spec d) 240 (some (0, v)) (hc, h, o) (5, [some (22, 0), some (0, v1), some (0, v2), some (0, v3), some (0, v4)], [], (hc, h, o))) (v1 : Int) (v2 : Int) (v3 : Int) (v4 : Int) (v : Int) (e : F240_1 k0 h v1 v2 v3 v4 = some v) : zFin 0 (fun _ => 0) (zRu2 spec d) 240 (some (0, v)) (hc, h, o) (46, [some (22, 0), some (0, v1), some (0, v2), some (0, v3), some (0, v4)], [], (hc, h, o)) := by
  unfold F240_1 at e
  refine zF_blk (m := []) (d := 0) (b := B240_7) (gs := []) (c' := (5, [some (22, 0), some (0, v1), some (0, v2), some (0, v3), some (0, (wadd v4 1))], [], (hc, h, o))) K240_7 rfl trivial ?_
  exact hk0 v1 v2 v3 (wadd v4 1) _ e
def F240_0 (h : zHM) : Nat → Int → Int → Int → Int → Option Int
  | 0, _, _, _, _ => none
  | n + 1, v1, v2, v3, v4 => if (h 14 3) ≤ v4 then some v3 else zG (0 ≤ (wadd 210 v4) ∧ (wadd 210 v4) < 2140) ((F229 v1 h).bind fun r1 => (F230 (h 14 (wadd 210 v4)) r1).bind fun r2 => if v2 < r2 then F240_1 (F240_0 h n) h v1 v2 v3 v4 else F240_1 (F240_0 h n) h v1 v2 (wor v3 (wshl 1 v4)) v4)
set_option maxRecDepth 100000 in
theorem T240_0 {spec : zRn zH2} {hc : zHC} {o : Int → Int} {d : Nat} (hd : 2 ≤ d) (h : zHM) : ∀ (n : Nat) (v1 : Int) (v2 : Int) (v3 : Int) (v4 : Int) (v : Int), F240_0 h n v1 v2 v3 v4 = some v → zFin 0 (fun _ => 0) (zRu2 spec d) 240 (some (0, v)) (hc, h, o) (5, [some (22, 0), some (0, v1), some (0, v2), some (0, v3), some (0, v4)], [], (hc, h, o)) := by
  intro n
  induction n with
  | zero => intro v1 v2 v3 v4 v e; unfold F240_0 at e; cases e
  | succ n hk0 =>
    intro v1 v2 v3 v4 v e
    unfold F240_0 at e
    rcases zI_s e with ⟨q1, e⟩ | ⟨q1, e⟩
    · refine zF_blk (m := []) (d := 1) (b := B240_6) (gs := [0 ≤ 3 ∧ 3 < 2140, (h 14 3) ≤ v4]) (c' := (52, [some (22, 0), some (0, v1), some (0, v2), some (0, v3), some (0, v4)], [], (hc, h, o))) K240_6 rfl ⟨by decide, q1, trivial⟩ ?_
      refine zF_blk (m := []) (d := 0) (b := B240_1) (gs := []) (c' := (53, [some (22, 0), some (0, v1), some (0, v2), some (0, v3), some (0, v4)], [(0, v3)], (hc, h, o))) K240_1 rfl trivial ?_
      obtain rfl := Option.some.inj e
      exact zF_ri (zRe1_w (by decide +kernel))
    · refine zF_blk (m := []) (d := 0) (b := B240_6) (gs := [0 ≤ 3 ∧ 3 < 2140, ¬ ((h 14 3) ≤ v4)]) (c' := (16, [some (22, 0), some (0, v1), some (0, v2), some (0, v3), some (0, v4)], [], (hc, h, o))) K240_6 rfl ⟨by decide, q1, trivial⟩ ?_
      obtain ⟨q2, e⟩ := zG_s e
      refine zF_blk (m := []) (d := 0) (b := B240_2) (gs := []) (c' := (25, [some (22, 0), some (0, v1), some (0, v2), some (0, v3), some (0, v4)], [(0, v4), (0, 210), (1344370422, 0)], (hc, h, o))) K240_2 rfl trivial ?_
      obtain ⟨r1, q3, e⟩ := zB_s e
      refine zF_blk (m := []) (d := 0) (b := B240_3) (gs := [0 ≤ (wadd 210 v4) ∧ (wadd 210 v4) < 2140]) (c' := (29, [some (22, 0), some (0, v1), some (0, v2), some (0, v3), some (0, v4)], [(0, v1), (22, 0), (0, (h 14 (wadd 210 v4)))], (hc, h, o))) K240_3 rfl ⟨q2, trivial⟩ ?_
      refine zF_call (k := 229) (cl := 12) (n := 2) (i := .invokevirtual 276) (args := [(22, 0), (0, v1)]) (rest := [(0, (h 14 (wadd 210 v4)))]) (g1 := (hc, h, o)) (r1 := some (0, r1)) (zCk1_w (by decide +kernel)) rfl rfl rfl (st' := [(0, r1), (0, (h 14 (wadd 210 v4)))]) rfl (S229 (Nat.le_trans (by decide) hd) v1 h _ q3) ?_
      obtain ⟨r2, q4, e⟩ := zB_s e
      refine zF_call (k := 230) (cl := 12) (n := 2) (i := .invokestatic 279) (args := [(0, (h 14 (wadd 210 v4))), (0, r1)]) (rest := []) (g1 := (hc, h, o)) (r1 := some (0, r2)) (zCk1_w (by decide +kernel)) rfl rfl rfl (st' := [(0, r2)]) rfl (S230 (Nat.le_trans (by decide) hd) (h 14 (wadd 210 v4)) r1 h _ q4) ?_
      rcases zI_s e with ⟨q5, e⟩ | ⟨q5, e⟩
      · refine zF_blk (m := []) (d := 1) (b := B240_5) (gs := [v2 < r2]) (c' := (46, [some (22, 0), some (0, v1), some (0, v2), some (0, v3), some (0, v4)], [], (hc, h, o))) K240_5 rfl ⟨q5, trivial⟩ ?_
        exact T240_1 hd h (F240_0 h n) hk0 v1 v2 v3 v4 _ e
      · refine zF_blk (m := []) (d := 0) (b := B240_5) (gs := [¬ (v2 < r2)]) (c' := (39, [some (22, 0), some (0, v1), some (0, v2), some (0, v3), some (0, v4)], [], (hc, h, o))) K240_5 rfl ⟨q5, trivial⟩ ?_
        refine zF_blk (m := []) (d := 0) (b := B240_4) (gs := []) (c' := (46, [some (22, 0), some (0, v1), some (0, v2), some (0, (wor v3 (wshl 1 v4))), some (0, v4)], [], (hc, h, o))) K240_4 rfl trivial ?_
        exact T240_1 hd h (F240_0 h n) hk0 v1 v2 (wor v3 (wshl 1 v4)) v4 _ e
/-- EchoValeModel.hearersOf(II)I -/
def F240 (v1 : Int) (v2 : Int) (h : zHM) : Option Int := F240_0 h zFu v1 v2 0 0
set_option maxRecDepth 100000 in
theorem S240 {spec : zRn zH2} {hc : zHC} {o : Int → Int} {d : Nat} (hd : 3 ≤ d) (v1 : Int) (v2 : Int) (h : zHM) (v : Int) (e : F240 v1 v2 h = some v) : zRu2 spec d 240 [(22, 0), (0, v1), (0, v2)] (hc, h, o) (some (0, v)) (hc, h, o) := by
  refine zF_in (D := 2) (mx := 5) (L := [some (22, 0), some (0, v1), some (0, v2), none, none]) (by decide +kernel) rfl rfl hd (fun d hd => ?_)
  unfold F240 at e
  refine zF_blk (m := []) (d := 0) (b := B240_0) (gs := []) (c' := (5, [some (22, 0), some (0, v1), some (0, v2), some (0, 0), some (0, 0)], [], (hc, h, o))) K240_0 rfl trivial ?_
  exact T240_0 hd h zFu v1 v2 0 0 _ e
noncomputable def B239_0 : List zRow := [(0, .aload_n 0, 1, (0, 0, 0)), (1, .iload_n 2, 1, (0, 0, 0)), (2, .iload_n 3, 1, (0, 0, 0))]
theorem K239_0 : zRk 239 B239_0 = true := zRw_ok (by decide +kernel)
noncomputable def B239_1 : List zRow := [(6, .istore 4, 2, (0, 0, 0)), (8, .sipush 998, 3, (0, 0, 0)), (11, .iconst 5, 1, (0, 0, 0)), (12, .aload_n 0, 1, (0, 0, 0)), (13, .getfield 13, 3, (12, 14, 5251442)), (16, .sipush 997, 3, (0, 0, 0)), (19, .iaload, 1, (0, 0, 0))]
theorem K239_1 : zRk 239 B239_1 = true := zRw_ok (by decide +kernel)
noncomputable def B239_2 : List zRow := [(20, .imul, 1, (0, 0, 0))]
theorem K239_2 : zRk 239 B239_2 = true := zRw_ok (by decide +kernel)
noncomputable def B239_3 : List zRow := [(21, .iadd, 1, (0, 0, 0)), (22, .istore 5, 2, (0, 0, 0)), (24, .aload_n 0, 1, (0, 0, 0)), (25, .getfield 13, 3, (12, 14, 5251442)), (28, .iload 5, 2, (0, 0, 0)), (30, .iload_n 1, 1, (0, 0, 0)), (31, .iastore, 1, (0, 0, 0)), (32, .aload_n 0, 1, (0, 0, 0)), (33, .getfield 13, 3, (12, 14, 5251442)), (36, .iload 5, 2, (0, 0, 0)), (38, .iconst 1, 1, (0, 0, 0)), (39, .iadd, 1, (0, 0, 0)), (40, .iload_n 2, 1, (0, 0, 0)), (41, .iastore, 1, (0, 0, 0)), (42, .aload_n 0, 1, (0, 0, 0)), (43, .getfield 13, 3, (12, 14, 5251442)), (46, .iload 5, 2, (0, 0, 0)), (48, .iconst 2, 1, (0, 0, 0)), (49, .iadd, 1, (0, 0, 0)), (50, .aload_n 0, 1, (0, 0, 0)), (51, .getfield 13, 3, (12, 14, 5251442)), (54, .sipush 209, 3, (0, 0, 0))]
theorem K239_3 : zRk 239 B239_3 = true := zRw_ok (by decide +kernel)
noncomputable def B239_4 : List zRow := [(57, .iaload, 1, (0, 0, 0)), (58, .iastore, 1, (0, 0, 0)), (59, .aload_n 0, 1, (0, 0, 0)), (60, .getfield 13, 3, (12, 14, 5251442)), (63, .iload 5, 2, (0, 0, 0)), (65, .iconst 3, 1, (0, 0, 0)), (66, .iadd, 1, (0, 0, 0)), (67, .iload_n 3, 1, (0, 0, 0)), (68, .iastore, 1, (0, 0, 0)), (69, .aload_n 0, 1, (0, 0, 0)), (70, .getfield 13, 3, (12, 14, 5251442)), (73, .iload 5, 2, (0, 0, 0)), (75, .iconst 4, 1, (0, 0, 0)), (76, .iadd, 1, (0, 0, 0)), (77, .iload 4, 2, (0, 0, 0)), (79, .iastore, 1, (0, 0, 0)), (80, .aload_n 0, 1, (0, 0, 0)), (81, .getfield 13, 3, (12, 14, 5251442)), (84, .sipush 997, 3, (0, 0, 0)), (87, .dup2, 1, (0, 0, 0))]
theorem K239_4 : zRk 239 B239_4 = true := zRw_ok (by decide +kernel)
noncomputable def B239_5 : List zRow := [(88, .iaload, 1, (0, 0, 0)), (89, .iconst 1, 1, (0, 0, 0)), (90, .iadd, 1, (0, 0, 0)), (91, .iastore, 1, (0, 0, 0)), (92, .sipush 217, 3, (0, 0, 0)), (95, .bipush 8, 2, (0, 0, 0)), (97, .iload_n 1, 1, (0, 0, 0))]
theorem K239_5 : zRk 239 B239_5 = true := zRw_ok (by decide +kernel)
noncomputable def B239_6 : List zRow := [(98, .imul, 1, (0, 0, 0))]
theorem K239_6 : zRk 239 B239_6 = true := zRw_ok (by decide +kernel)
noncomputable def B239_7 : List zRow := [(99, .iadd, 1, (0, 0, 0)), (100, .istore 6, 2, (0, 0, 0)), (102, .aload_n 0, 1, (0, 0, 0)), (103, .getfield 13, 3, (12, 14, 5251442)), (106, .iload 6, 2, (0, 0, 0)), (108, .bipush 6, 2, (0, 0, 0)), (110, .iadd, 1, (0, 0, 0)), (111, .dup2, 1, (0, 0, 0))]
theorem K239_7 : zRk 239 B239_7 = true := zRw_ok (by decide +kernel)
noncomputable def B239_8 : List zRow := [(112, .iaload, 1, (0, 0, 0)), (113, .iconst 1, 1, (0, 0, 0)), (114, .iadd, 1, (0, 0, 0)), (115, .iastore, 1, (0, 0, 0)), (116, .aload_n 0, 1, (0, 0, 0)), (117, .getfield 13, 3, (12, 14, 5251442)), (120, .iload 6, 2, (0, 0, 0)), (122, .bipush 7, 2, (0, 0, 0)), (124, .iadd, 1, (0, 0, 0)), (125, .dup2, 1, (0, 0, 0))]
theorem K239_8 : zRk 239 B239_8 = true := zRw_ok (by decide +kernel)
noncomputable def B239_9 : List zRow := [(136, .aload_n 0, 1, (0, 0, 0)), (137, .getfield 13, 3, (12, 14, 5251442)), (140, .iload 6, 2, (0, 0, 0)), (142, .iconst 5, 1, (0, 0, 0)), (143, .iadd, 1, (0, 0, 0)), (144, .iload 4, 2, (0, 0, 0)), (146, .iastore, 1, (0, 0, 0))]
theorem K239_9 : zRk 239 B239_9 = true := zRw_ok (by decide +kernel)
noncomputable def B239_10 : List zRow := [(126, .iaload, 1, (0, 0, 0)), (127, .iload 4, 2, (0, 0, 0)), (129, .ior, 1, (0, 0, 0)), (130, .iastore, 1, (0, 0, 0)), (131, .iload 4, 2, (0, 0, 0)), (133, .ifCond .eq 14, 3, (0, 0, 0))]
theorem K239_10 : zRk 239 B239_10 = true := zRw_ok (by decide +kernel)
noncomputable def B239_11 : List zRow := [(147, .iconst 0, 1, (0, 0, 0)), (148, .istore 7, 2, (0, 0, 0))]
theorem K239_11 : zRk 239 B239_11 = true := zRw_ok (by decide +kernel)
noncomputable def B239_12 : List zRow := [(161, .aload_n 0, 1, (0, 0, 0)), (162, .iload_n 2, 1, (0, 0, 0))]
theorem K239_12 : zRk 239 B239_12 = true := zRw_ok (by decide +kernel)
noncomputable def B239_13 : List zRow := [(166, .aload_n 0, 1, (0, 0, 0)), (167, .iload 7, 2, (0, 0, 0))]
theorem K239_13 : zRk 239 B239_13 = true := zRw_ok (by decide +kernel)
noncomputable def B239_14 : List zRow := [(204, .aload_n 0, 1, (0, 0, 0)), (205, .iload_n 1, 1, (0, 0, 0)), (206, .iload 7, 2, (0, 0, 0)), (208, .aload_n 0, 1, (0, 0, 0)), (209, .getfield 13, 3, (12, 14, 5251442)), (212, .sipush 209, 3, (0, 0, 0)), (215, .iaload, 1, (0, 0, 0)), (216, .aload_n 0, 1, (0, 0, 0)), (217, .iload 7, 2, (0, 0, 0))]
theorem K239_14 : zRk 239 B239_14 = true := zRw_ok (by decide +kernel)
noncomputable def B239_15 : List zRow := [(222, .iadd, 1, (0, 0, 0)), (223, .iload 9, 2, (0, 0, 0))]
theorem K239_15 : zRk 239 B239_15 = true := zRw_ok (by decide +kernel)
noncomputable def B239_16 : List zRow := [(199, .iload 9, 2, (0, 0, 0)), (201, .ifCond .le 27, 3, (0, 0, 0))]
theorem K239_16 : zRk 239 B239_16 = true := zRw_ok (by decide +kernel)
noncomputable def B239_17 : List zRow := [(193, .iload 8, 2, (0, 0, 0)), (195, .iload_n 3, 1, (0, 0, 0)), (196, .if_icmp .gt 32, 3, (0, 0, 0))]
theorem K239_17 : zRk 239 B239_17 = true := zRw_ok (by decide +kernel)
noncomputable def B239_18 : List zRow := [(175, .istore 8, 2, (0, 0, 0)), (177, .iload_n 3, 1, (0, 0, 0)), (178, .iconst 1, 1, (0, 0, 0)), (179, .isub, 1, (0, 0, 0)), (180, .iload 8, 2, (0, 0, 0)), (182, .iconst 2, 1, (0, 0, 0)), (183, .idiv, 1, (0, 0, 0)), (184, .isub, 1, (0, 0, 0)), (185, .istore 9, 2, (0, 0, 0)), (187, .iload 7, 2, (0, 0, 0)), (189, .iload_n 2, 1, (0, 0, 0)), (190, .if_icmp .eq 38, 3, (0, 0, 0))]
theorem K239_18 : zRk 239 B239_18 = true := zRw_ok (by decide +kernel)
noncomputable def B239_19 : List zRow := [(150, .iload 7, 2, (0, 0, 0)), (152, .aload_n 0, 1, (0, 0, 0)), (153, .getfield 13, 3, (12, 14, 5251442)), (156, .iconst 2, 1, (0, 0, 0)), (157, .iaload, 1, (0, 0, 0)), (158, .if_icmp .ge 76, 3, (0, 0, 0))]
theorem K239_19 : zRk 239 B239_19 = true := zRw_ok (by decide +kernel)
noncomputable def B239_20 : List zRow := [(228, .iinc 7 1, 3, (0, 0, 0)), (231, .goto (-81), 3, (0, 0, 0))]
theorem K239_20 : zRk 239 B239_20 = true := zRw_ok (by decide +kernel)
def F239_2 (k0 : Int → Int → Int → Int → zHM → Option zHM) (v1 : Int) (v2 : Int) (v3 : Int) (v7 : Int) (h : zHM) : Option zHM := k0 v1 v2 v3 (wadd v7 1) h
set_option maxRecDepth 100000 in
theorem T239_2 {spec : zRn zH2} {hc : zHC} {o : Int → Int} {d : Nat} (hd : 3 ≤ d) (k0 : Int → Int → Int → Int → zHM → Option zHM) (hk0 : ∀ (v1 : Int) (v2 : Int) (v3 : Int) (v7 : Int) (h : zHM) (v : zHM), k0 v1 v2 v3 v7 h = some v → zFin 0 (fun _ => 0) (zRu2 spec d) 239 none (hc, v, o) (150, [some (22, 0), some (0, v1), some (0, v2), some (0, v3), none, none, none, some (0, v7), none, none], [], (hc, h, o))) (v1 : Int) (v2 : Int) (v3 : Int) (v7 : Int) (h : zHM) (v : zHM) (e : F239_2 k0 v1 v2 v3 v7 h = some v) : zFin 0 (fun _ => 0) (zRu2 spec d) 239 none (hc, v, o) (228, [some (22, 0), some (0, v1), some (0, v2), some (0, v3), none, none, none, some (0, v7), none, none], [], (hc, h, o)) := by
  unfold F239_2 at e
  refine zF_blk (m := []) (d := 0) (b := B239_20) (gs := []) (c' := (150, [some (22, 0), some (0, v1), some (0, v2), some (0, v3), none, none, none, some (0, (wadd v7 1)), none, none], [], (hc, h, o))) K239_20 rfl trivial ?_
  exact hk0 v1 v2 v3 (wadd v7 1) h _ e
def F239_1 : Nat → Int → Int → Int → Int → zHM → Option zHM
  | 0, _, _, _, _, _ => none
  | n + 1, v1, v2, v3, v7, h => if (h 14 2) ≤ v7 then some h else (F229 v2 h).bind fun r1 => (F229 v7 h).bind fun r2 => (F230 r1 r2).bind fun r3 => if v7 = v2 then F239_2 (F239_1 n) v1 v2 v3 v7 h else if v3 < r3 then F239_2 (F239_1 n) v1 v2 v3 v7 h else if (wsub (wsub v3 1) (wdiv r3 2)) ≤ 0 then F239_2 (F239_1 n) v1 v2 v3 v7 h else (F232 v7 h).bind fun r4 => (F233 v1 v7 (wadd (h 14 209) r4) (wsub (wsub v3 1) (wdiv r3 2)) h).bind fun r5 => F239_2 (F239_1 n) v1 v2 v3 v7 r5
set_option maxRecDepth 100000 in
theorem T239_1 {spec : zRn zH2} {hc : zHC} {o : Int → Int} {d : Nat} (hd : 3 ≤ d) : ∀ (n : Nat) (v1 : Int) (v2 : Int) (v3 : Int) (v7 : Int) (h : zHM) (v : zHM), F239_1 n v1 v2 v3 v7 h = some v → zFin 0 (fun _ => 0) (zRu2 spec d) 239 none (hc, v, o) (150, [some (22, 0), some (0, v1), some (0, v2), some (0, v3), none, none, none, some (0, v7), none, none], [], (hc, h, o)) := by
  intro n
  induction n with
  | zero => intro v1 v2 v3 v7 h v e; unfold F239_1 at e; cases e
  | succ n hk0 =>
    intro v1 v2 v3 v7 h v e
    unfold F239_1 at e
    rcases zI_s e with ⟨q1, e⟩ | ⟨q1, e⟩
    · refine zF_blk (m := []) (d := 1) (b := B239_19) (gs := [0 ≤ 2 ∧ 2 < 2140, (h 14 2) ≤ v7]) (c' := (234, [some (22, 0), some (0, v1), some (0, v2), some (0, v3), none, none, none, some (0, v7), none, none], [], (hc, h, o))) K239_19 rfl ⟨by decide, q1, trivial⟩ ?_
      obtain rfl := Option.some.inj e
      exact zF_rv (zRe1_w (by decide +kernel))
    · refine zF_blk (m := []) (d := 0) (b := B239_19) (gs := [0 ≤ 2 ∧ 2 < 2140, ¬ ((h 14 2) ≤ v7)]) (c' := (161, [some (22, 0), some (0, v1), some (0, v2), some (0, v3), none, none, none, some (0, v7), none, none], [], (hc, h, o))) K239_19 rfl ⟨by decide, q1, trivial⟩ ?_
      obtain ⟨r1, q2, e⟩ := zB_s e
      refine zF_blk (m := []) (d := 0) (b := B239_12) (gs := []) (c' := (163, [some (22, 0), some (0, v1), some (0, v2), some (0, v3), none, none, none, some (0, v7), none, none], [(0, v2), (22, 0)], (hc, h, o))) K239_12 rfl trivial ?_
      refine zF_call (k := 229) (cl := 12) (n := 2) (i := .invokevirtual 276) (args := [(22, 0), (0, v2)]) (rest := []) (g1 := (hc, h, o)) (r1 := some (0, r1)) (zCk1_w (by decide +kernel)) rfl rfl rfl (st' := [(0, r1)]) rfl (S229 (Nat.le_trans (by decide) hd) v2 h _ q2) ?_
      obtain ⟨r2, q3, e⟩ := zB_s e
      refine zF_blk (m := []) (d := 0) (b := B239_13) (gs := []) (c' := (169, [some (22, 0), some (0, v1), some (0, v2), some (0, v3), none, none, none, some (0, v7), none, none], [(0, v7), (22, 0), (0, r1)], (hc, h, o))) K239_13 rfl trivial ?_
      refine zF_call (k := 229) (cl := 12) (n := 2) (i := .invokevirtual 276) (args := [(22, 0), (0, v7)]) (rest := [(0, r1)]) (g1 := (hc, h, o)) (r1 := some (0, r2)) (zCk1_w (by decide +kernel)) rfl rfl rfl (st' := [(0, r2), (0, r1)]) rfl (S229 (Nat.le_trans (by decide) hd) v7 h _ q3) ?_
      obtain ⟨r3, q4, e⟩ := zB_s e
      refine zF_call (k := 230) (cl := 12) (n := 2) (i := .invokestatic 279) (args := [(0, r1), (0, r2)]) (rest := []) (g1 := (hc, h, o)) (r1 := some (0, r3)) (zCk1_w (by decide +kernel)) rfl rfl rfl (st' := [(0, r3)]) rfl (S230 (Nat.le_trans (by decide) hd) r1 r2 h _ q4) ?_
      rcases zI_s e with ⟨q5, e⟩ | ⟨q5, e⟩
      · refine zF_blk (m := []) (d := 1) (b := B239_18) (gs := [¬ 2 = 0, v7 = v2]) (c' := (228, [some (22, 0), some (0, v1), some (0, v2), some (0, v3), none, none, none, some (0, v7), some (0, r3), some (0, (wsub (wsub v3 1) (wdiv r3 2)))], [], (hc, h, o))) K239_18 rfl ⟨by decide, q5, trivial⟩ ?_
        refine zF_blk (m := [true, true, true, true, false, false, false, true, false, false]) (d := 0) (b := []) (gs := []) (c' := (228, [some (22, 0), some (0, v1), some (0, v2), some (0, v3), none, none, none, some (0, v7), none, none], [], (hc, h, o))) rfl rfl trivial ?_
        exact T239_2 hd (F239_1 n) hk0 v1 v2 v3 v7 h _ e
      · refine zF_blk (m := []) (d := 0) (b := B239_18) (gs := [¬ 2 = 0, ¬ (v7 = v2)]) (c' := (193, [some (22, 0), some (0, v1), some (0, v2), some (0, v3), none, none, none, some (0, v7), some (0, r3), some (0, (wsub (wsub v3 1) (wdiv r3 2)))], [], (hc, h, o))) K239_18 rfl ⟨by decide, q5, trivial⟩ ?_
        rcases zI_s e with ⟨q6, e⟩ | ⟨q6, e⟩
        · refine zF_blk (m := []) (d := 1) (b := B239_17) (gs := [v3 < r3]) (c' := (228, [some (22, 0), some (0, v1), some (0, v2), some (0, v3), none, none, none, some (0, v7), some (0, r3), some (0, (wsub (wsub v3 1) (wdiv r3 2)))], [], (hc, h, o))) K239_17 rfl ⟨q6, trivial⟩ ?_
          refine zF_blk (m := [true, true, true, true, false, false, false, true, false, false]) (d := 0) (b := []) (gs := []) (c' := (228, [some (22, 0), some (0, v1), some (0, v2), some (0, v3), none, none, none, some (0, v7), none, none], [], (hc, h, o))) rfl rfl trivial ?_
          exact T239_2 hd (F239_1 n) hk0 v1 v2 v3 v7 h _ e
        · refine zF_blk (m := []) (d := 0) (b := B239_17) (gs := [¬ (v3 < r3)]) (c' := (199, [some (22, 0), some (0, v1), some (0, v2), some (0, v3), none, none, none, some (0, v7), some (0, r3), some (0, (wsub (wsub v3 1) (wdiv r3 2)))], [], (hc, h, o))) K239_17 rfl ⟨q6, trivial⟩ ?_
          rcases zI_s e with ⟨q7, e⟩ | ⟨q7, e⟩
          · refine zF_blk (m := []) (d := 1) (b := B239_16) (gs := [(wsub (wsub v3 1) (wdiv r3 2)) ≤ 0]) (c' := (228, [some (22, 0), some (0, v1), some (0, v2), some (0, v3), none, none, none, some (0, v7), some (0, r3), some (0, (wsub (wsub v3 1) (wdiv r3 2)))], [], (hc, h, o))) K239_16 rfl ⟨q7, trivial⟩ ?_
            refine zF_blk (m := [true, true, true, true, false, false, false, true, false, false]) (d := 0) (b := []) (gs := []) (c' := (228, [some (22, 0), some (0, v1), some (0, v2), some (0, v3), none, none, none, some (0, v7), none, none], [], (hc, h, o))) rfl rfl trivial ?_
            exact T239_2 hd (F239_1 n) hk0 v1 v2 v3 v7 h _ e
          · refine zF_blk (m := []) (d := 0) (b := B239_16) (gs := [¬ ((wsub (wsub v3 1) (wdiv r3 2)) ≤ 0)]) (c' := (204, [some (22, 0), some (0, v1), some (0, v2), some (0, v3), none, none, none, some (0, v7), some (0, r3), some (0, (wsub (wsub v3 1) (wdiv r3 2)))], [], (hc, h, o))) K239_16 rfl ⟨q7, trivial⟩ ?_
            obtain ⟨r4, q8, e⟩ := zB_s e
            refine zF_blk (m := []) (d := 0) (b := B239_14) (gs := [0 ≤ 209 ∧ 209 < 2140]) (c' := (219, [some (22, 0), some (0, v1), some (0, v2), some (0, v3), none, none, none, some (0, v7), some (0, r3), some (0, (wsub (wsub v3 1) (wdiv r3 2)))], [(0, v7), (22, 0), (0, (h 14 209)), (0, v7), (0, v1), (22, 0)], (hc, h, o))) K239_14 rfl ⟨by decide, trivial⟩ ?_
            refine zF_call (k := 232) (cl := 12) (n := 2) (i := .invokevirtual 282) (args := [(22, 0), (0, v7)]) (rest := [(0, (h 14 209)), (0, v7), (0, v1), (22, 0)]) (g1 := (hc, h, o)) (r1 := some (0, r4)) (zCk1_w (by decide +kernel)) rfl rfl rfl (st' := [(0, r4), (0, (h 14 209)), (0, v7), (0, v1), (22, 0)]) rfl (S232 (Nat.le_trans (by decide) hd) v7 h _ q8) ?_
            obtain ⟨r5, q9, e⟩ := zB_s e
            refine zF_blk (m := []) (d := 0) (b := B239_15) (gs := []) (c' := (225, [some (22, 0), some (0, v1), some (0, v2), some (0, v3), none, none, none, some (0, v7), some (0, r3), some (0, (wsub (wsub v3 1) (wdiv r3 2)))], [(0, (wsub (wsub v3 1) (wdiv r3 2))), (0, (wadd (h 14 209) r4)), (0, v7), (0, v1), (22, 0)], (hc, h, o))) K239_15 rfl trivial ?_
            refine zF_call (k := 233) (cl := 12) (n := 5) (i := .invokevirtual 285) (args := [(22, 0), (0, v1), (0, v7), (0, (wadd (h 14 209) r4)), (0, (wsub (wsub v3 1) (wdiv r3 2)))]) (rest := []) (g1 := (hc, r5, o)) (r1 := none) (zCk1_w (by decide +kernel)) rfl rfl rfl (st' := []) rfl (S233 (Nat.le_trans (by decide) hd) v1 v7 (wadd (h 14 209) r4) (wsub (wsub v3 1) (wdiv r3 2)) h _ q9) ?_
            refine zF_blk (m := [true, true, true, true, false, false, false, true, false, false]) (d := 0) (b := []) (gs := []) (c' := (228, [some (22, 0), some (0, v1), some (0, v2), some (0, v3), none, none, none, some (0, v7), none, none], [], (hc, r5, o))) rfl rfl trivial ?_
            exact T239_2 hd (F239_1 n) hk0 v1 v2 v3 v7 r5 _ e
def F239_0 (v1 : Int) (v2 : Int) (v3 : Int) (h : zHM) : Option zHM := F239_1 zFu v1 v2 v3 0 h
set_option maxRecDepth 100000 in
theorem T239_0 {spec : zRn zH2} {hc : zHC} {o : Int → Int} {d : Nat} (hd : 3 ≤ d) (v1 : Int) (v2 : Int) (v3 : Int) (h : zHM) (v : zHM) (e : F239_0 v1 v2 v3 h = some v) : zFin 0 (fun _ => 0) (zRu2 spec d) 239 none (hc, v, o) (147, [some (22, 0), some (0, v1), some (0, v2), some (0, v3), none, none, none, none, none, none], [], (hc, h, o)) := by
  unfold F239_0 at e
  refine zF_blk (m := []) (d := 0) (b := B239_11) (gs := []) (c' := (150, [some (22, 0), some (0, v1), some (0, v2), some (0, v3), none, none, none, some (0, 0), none, none], [], (hc, h, o))) K239_11 rfl trivial ?_
  exact T239_1 hd zFu v1 v2 v3 0 h _ e
/-- EchoValeModel.sound(III)V -/
def F239 (v1 : Int) (v2 : Int) (v3 : Int) (h : zHM) : Option zHM := (F240 v2 v3 h).bind fun r1 => zG (0 ≤ (wadd 998 (wmul 5 (h 14 997))) ∧ (wadd 998 (wmul 5 (h 14 997))) < 2140) (zG (0 ≤ (wadd (wadd 998 (wmul 5 (h 14 997))) 1) ∧ (wadd (wadd 998 (wmul 5 (h 14 997))) 1) < 2140) (zG (0 ≤ (wadd (wadd 998 (wmul 5 (h 14 997))) 2) ∧ (wadd (wadd 998 (wmul 5 (h 14 997))) 2) < 2140) (zG (0 ≤ (wadd (wadd 998 (wmul 5 (h 14 997))) 3) ∧ (wadd (wadd 998 (wmul 5 (h 14 997))) 3) < 2140) (zG (0 ≤ (wadd (wadd 998 (wmul 5 (h 14 997))) 4) ∧ (wadd (wadd 998 (wmul 5 (h 14 997))) 4) < 2140) (zG (0 ≤ (wadd (wadd 217 (wmul 8 v1)) 6) ∧ (wadd (wadd 217 (wmul 8 v1)) 6) < 2140) (zG (0 ≤ (wadd (wadd 217 (wmul 8 v1)) 6) ∧ (wadd (wadd 217 (wmul 8 v1)) 6) < 2140) (zG (0 ≤ (wadd (wadd 217 (wmul 8 v1)) 7) ∧ (wadd (wadd 217 (wmul 8 v1)) 7) < 2140) (zG (0 ≤ (wadd (wadd 217 (wmul 8 v1)) 7) ∧ (wadd (wadd 217 (wmul 8 v1)) 7) < 2140) (if r1 = 0 then F239_0 v1 v2 v3 (mset (mset (mset (mset (mset (mset (mset (mset h 14 (wadd 998 (wmul 5 (h 14 997))) v1) 14 (wadd (wadd 998 (wmul 5 (h 14 997))) 1) v2) 14 (wadd (wadd 998 (wmul 5 (h 14 997))) 2) ((mset (mset h 14 (wadd 998 (wmul 5 (h 14 997))) v1) 14 (wadd (wadd 998 (wmul 5 (h 14 997))) 1) v2) 14 209)) 14 (wadd (wadd 998 (wmul 5 (h 14 997))) 3) v3) 14 (wadd (wadd 998 (wmul 5 (h 14 997))) 4) r1) 14 997 (wadd ((mset (mset (mset (mset (mset h 14 (wadd 998 (wmul 5 (h 14 997))) v1) 14 (wadd (wadd 998 (wmul 5 (h 14 997))) 1) v2) 14 (wadd (wadd 998 (wmul 5 (h 14 997))) 2) ((mset (mset h 14 (wadd 998 (wmul 5 (h 14 997))) v1) 14 (wadd (wadd 998 (wmul 5 (h 14 997))) 1) v2) 14 209)) 14 (wadd (wadd 998 (wmul 5 (h 14 997))) 3) v3) 14 (wadd (wadd 998 (wmul 5 (h 14 997))) 4) r1) 14 997) 1)) 14 (wadd (wadd 217 (wmul 8 v1)) 6) (wadd ((mset (mset (mset (mset (mset (mset h 14 (wadd 998 (wmul 5 (h 14 997))) v1) 14 (wadd (wadd 998 (wmul 5 (h 14 997))) 1) v2) 14 (wadd (wadd 998 (wmul 5 (h 14 997))) 2) ((mset (mset h 14 (wadd 998 (wmul 5 (h 14 997))) v1) 14 (wadd (wadd 998 (wmul 5 (h 14 997))) 1) v2) 14 209)) 14 (wadd (wadd 998 (wmul 5 (h 14 997))) 3) v3) 14 (wadd (wadd 998 (wmul 5 (h 14 997))) 4) r1) 14 997 (wadd ((mset (mset (mset (mset (mset h 14 (wadd 998 (wmul 5 (h 14 997))) v1) 14 (wadd (wadd 998 (wmul 5 (h 14 997))) 1) v2) 14 (wadd (wadd 998 (wmul 5 (h 14 997))) 2) ((mset (mset h 14 (wadd 998 (wmul 5 (h 14 997))) v1) 14 (wadd (wadd 998 (wmul 5 (h 14 997))) 1) v2) 14 209)) 14 (wadd (wadd 998 (wmul 5 (h 14 997))) 3) v3) 14 (wadd (wadd 998 (wmul 5 (h 14 997))) 4) r1) 14 997) 1)) 14 (wadd (wadd 217 (wmul 8 v1)) 6)) 1)) 14 (wadd (wadd 217 (wmul 8 v1)) 7) (wor ((mset (mset (mset (mset (mset (mset (mset h 14 (wadd 998 (wmul 5 (h 14 997))) v1) 14 (wadd (wadd 998 (wmul 5 (h 14 997))) 1) v2) 14 (wadd (wadd 998 (wmul 5 (h 14 997))) 2) ((mset (mset h 14 (wadd 998 (wmul 5 (h 14 997))) v1) 14 (wadd (wadd 998 (wmul 5 (h 14 997))) 1) v2) 14 209)) 14 (wadd (wadd 998 (wmul 5 (h 14 997))) 3) v3) 14 (wadd (wadd 998 (wmul 5 (h 14 997))) 4) r1) 14 997 (wadd ((mset (mset (mset (mset (mset h 14 (wadd 998 (wmul 5 (h 14 997))) v1) 14 (wadd (wadd 998 (wmul 5 (h 14 997))) 1) v2) 14 (wadd (wadd 998 (wmul 5 (h 14 997))) 2) ((mset (mset h 14 (wadd 998 (wmul 5 (h 14 997))) v1) 14 (wadd (wadd 998 (wmul 5 (h 14 997))) 1) v2) 14 209)) 14 (wadd (wadd 998 (wmul 5 (h 14 997))) 3) v3) 14 (wadd (wadd 998 (wmul 5 (h 14 997))) 4) r1) 14 997) 1)) 14 (wadd (wadd 217 (wmul 8 v1)) 6) (wadd ((mset (mset (mset (mset (mset (mset h 14 (wadd 998 (wmul 5 (h 14 997))) v1) 14 (wadd (wadd 998 (wmul 5 (h 14 997))) 1) v2) 14 (wadd (wadd 998 (wmul 5 (h 14 997))) 2) ((mset (mset h 14 (wadd 998 (wmul 5 (h 14 997))) v1) 14 (wadd (wadd 998 (wmul 5 (h 14 997))) 1) v2) 14 209)) 14 (wadd (wadd 998 (wmul 5 (h 14 997))) 3) v3) 14 (wadd (wadd 998 (wmul 5 (h 14 997))) 4) r1) 14 997 (wadd ((mset (mset (mset (mset (mset h 14 (wadd 998 (wmul 5 (h 14 997))) v1) 14 (wadd (wadd 998 (wmul 5 (h 14 997))) 1) v2) 14 (wadd (wadd 998 (wmul 5 (h 14 997))) 2) ((mset (mset h 14 (wadd 998 (wmul 5 (h 14 997))) v1) 14 (wadd (wadd 998 (wmul 5 (h 14 997))) 1) v2) 14 209)) 14 (wadd (wadd 998 (wmul 5 (h 14 997))) 3) v3) 14 (wadd (wadd 998 (wmul 5 (h 14 997))) 4) r1) 14 997) 1)) 14 (wadd (wadd 217 (wmul 8 v1)) 6)) 1)) 14 (wadd (wadd 217 (wmul 8 v1)) 7)) r1)) else zG (0 ≤ (wadd (wadd 217 (wmul 8 v1)) 5) ∧ (wadd (wadd 217 (wmul 8 v1)) 5) < 2140) (F239_0 v1 v2 v3 (mset (mset (mset (mset (mset (mset (mset (mset (mset h 14 (wadd 998 (wmul 5 (h 14 997))) v1) 14 (wadd (wadd 998 (wmul 5 (h 14 997))) 1) v2) 14 (wadd (wadd 998 (wmul 5 (h 14 997))) 2) ((mset (mset h 14 (wadd 998 (wmul 5 (h 14 997))) v1) 14 (wadd (wadd 998 (wmul 5 (h 14 997))) 1) v2) 14 209)) 14 (wadd (wadd 998 (wmul 5 (h 14 997))) 3) v3) 14 (wadd (wadd 998 (wmul 5 (h 14 997))) 4) r1) 14 997 (wadd ((mset (mset (mset (mset (mset h 14 (wadd 998 (wmul 5 (h 14 997))) v1) 14 (wadd (wadd 998 (wmul 5 (h 14 997))) 1) v2) 14 (wadd (wadd 998 (wmul 5 (h 14 997))) 2) ((mset (mset h 14 (wadd 998 (wmul 5 (h 14 997))) v1) 14 (wadd (wadd 998 (wmul 5 (h 14 997))) 1) v2) 14 209)) 14 (wadd (wadd 998 (wmul 5 (h 14 997))) 3) v3) 14 (wadd (wadd 998 (wmul 5 (h 14 997))) 4) r1) 14 997) 1)) 14 (wadd (wadd 217 (wmul 8 v1)) 6) (wadd ((mset (mset (mset (mset (mset (mset h 14 (wadd 998 (wmul 5 (h 14 997))) v1) 14 (wadd (wadd 998 (wmul 5 (h 14 997))) 1) v2) 14 (wadd (wadd 998 (wmul 5 (h 14 997))) 2) ((mset (mset h 14 (wadd 998 (wmul 5 (h 14 997))) v1) 14 (wadd (wadd 998 (wmul 5 (h 14 997))) 1) v2) 14 209)) 14 (wadd (wadd 998 (wmul 5 (h 14 997))) 3) v3) 14 (wadd (wadd 998 (wmul 5 (h 14 997))) 4) r1) 14 997 (wadd ((mset (mset (mset (mset (mset h 14 (wadd 998 (wmul 5 (h 14 997))) v1) 14 (wadd (wadd 998 (wmul 5 (h 14 997))) 1) v2) 14 (wadd (wadd 998 (wmul 5 (h 14 997))) 2) ((mset (mset h 14 (wadd 998 (wmul 5 (h 14 997))) v1) 14 (wadd (wadd 998 (wmul 5 (h 14 997))) 1) v2) 14 209)) 14 (wadd (wadd 998 (wmul 5 (h 14 997))) 3) v3) 14 (wadd (wadd 998 (wmul 5 (h 14 997))) 4) r1) 14 997) 1)) 14 (wadd (wadd 217 (wmul 8 v1)) 6)) 1)) 14 (wadd (wadd 217 (wmul 8 v1)) 7) (wor ((mset (mset (mset (mset (mset (mset (mset h 14 (wadd 998 (wmul 5 (h 14 997))) v1) 14 (wadd (wadd 998 (wmul 5 (h 14 997))) 1) v2) 14 (wadd (wadd 998 (wmul 5 (h 14 997))) 2) ((mset (mset h 14 (wadd 998 (wmul 5 (h 14 997))) v1) 14 (wadd (wadd 998 (wmul 5 (h 14 997))) 1) v2) 14 209)) 14 (wadd (wadd 998 (wmul 5 (h 14 997))) 3) v3) 14 (wadd (wadd 998 (wmul 5 (h 14 997))) 4) r1) 14 997 (wadd ((mset (mset (mset (mset (mset h 14 (wadd 998 (wmul 5 (h 14 997))) v1) 14 (wadd (wadd 998 (wmul 5 (h 14 997))) 1) v2) 14 (wadd (wadd 998 (wmul 5 (h 14 997))) 2) ((mset (mset h 14 (wadd 998 (wmul 5 (h 14 997))) v1) 14 (wadd (wadd 998 (wmul 5 (h 14 997))) 1) v2) 14 209)) 14 (wadd (wadd 998 (wmul 5 (h 14 997))) 3) v3) 14 (wadd (wadd 998 (wmul 5 (h 14 997))) 4) r1) 14 997) 1)) 14 (wadd (wadd 217 (wmul 8 v1)) 6) (wadd ((mset (mset (mset (mset (mset (mset h 14 (wadd 998 (wmul 5 (h 14 997))) v1) 14 (wadd (wadd 998 (wmul 5 (h 14 997))) 1) v2) 14 (wadd (wadd 998 (wmul 5 (h 14 997))) 2) ((mset (mset h 14 (wadd 998 (wmul 5 (h 14 997))) v1) 14 (wadd (wadd 998 (wmul 5 (h 14 997))) 1) v2) 14 209)) 14 (wadd (wadd 998 (wmul 5 (h 14 997))) 3) v3) 14 (wadd (wadd 998 (wmul 5 (h 14 997))) 4) r1) 14 997 (wadd ((mset (mset (mset (mset (mset h 14 (wadd 998 (wmul 5 (h 14 997))) v1) 14 (wadd (wadd 998 (wmul 5 (h 14 997))) 1) v2) 14 (wadd (wadd 998 (wmul 5 (h 14 997))) 2) ((mset (mset h 14 (wadd 998 (wmul 5 (h 14 997))) v1) 14 (wadd (wadd 998 (wmul 5 (h 14 997))) 1) v2) 14 209)) 14 (wadd (wadd 998 (wmul 5 (h 14 997))) 3) v3) 14 (wadd (wadd 998 (wmul 5 (h 14 997))) 4) r1) 14 997) 1)) 14 (wadd (wadd 217 (wmul 8 v1)) 6)) 1)) 14 (wadd (wadd 217 (wmul 8 v1)) 7)) r1)) 14 (wadd (wadd 217 (wmul 8 v1)) 5) r1)))))))))))
set_option maxRecDepth 100000 in
theorem S239 {spec : zRn zH2} {hc : zHC} {o : Int → Int} {d : Nat} (hd : 4 ≤ d) (v1 : Int) (v2 : Int) (v3 : Int) (h : zHM) (v : zHM) (e : F239 v1 v2 v3 h = some v) : zRu2 spec d 239 [(22, 0), (0, v1), (0, v2), (0, v3)] (hc, h, o) none (hc, v, o) := by
  refine zF_in (D := 3) (mx := 10) (L := [some (22, 0), some (0, v1), some (0, v2), some (0, v3), none, none, none, none, none, none]) (by decide +kernel) rfl rfl hd (fun d hd => ?_)
  unfold F239 at e
  obtain ⟨r1, q1, e⟩ := zB_s e
  refine zF_blk (m := []) (d := 0) (b := B239_0) (gs := []) (c' := (3, [some (22, 0), some (0, v1), some (0, v2), some (0, v3), none, none, none, none, none, none], [(0, v3), (0, v2), (22, 0)], (hc, h, o))) K239_0 rfl trivial ?_
  refine zF_call (k := 240) (cl := 12) (n := 3) (i := .invokevirtual 289) (args := [(22, 0), (0, v2), (0, v3)]) (rest := []) (g1 := (hc, h, o)) (r1 := some (0, r1)) (zCk1_w (by decide +kernel)) rfl rfl rfl (st' := [(0, r1)]) rfl (S240 (Nat.le_trans (by decide) hd) v2 v3 h _ q1) ?_
  obtain ⟨q2, e⟩ := zG_s e
  obtain ⟨q3, e⟩ := zG_s e
  obtain ⟨q4, e⟩ := zG_s e
  obtain ⟨q5, e⟩ := zG_s e
  obtain ⟨q6, e⟩ := zG_s e
  obtain ⟨q7, e⟩ := zG_s e
  obtain ⟨q7, e⟩ := zG_s e
  obtain ⟨q8, e⟩ := zG_s e
  obtain ⟨q8, e⟩ := zG_s e
  refine zF_blk (m := []) (d := 0) (b := B239_1) (gs := [0 ≤ 997 ∧ 997 < 2140]) (c' := (20, [some (22, 0), some (0, v1), some (0, v2), some (0, v3), some (0, r1), none, none, none, none, none], [(0, (h 14 997)), (0, 5), (0, 998)], (hc, h, o))) K239_1 rfl ⟨by decide, trivial⟩ ?_
  refine zF_blk (m := []) (d := 0) (b := B239_2) (gs := []) (c' := (21, [some (22, 0), some (0, v1), some (0, v2), some (0, v3), some (0, r1), none, none, none, none, none], [(0, (wmul 5 (h 14 997))), (0, 998)], (hc, h, o))) K239_2 rfl trivial ?_
  refine zF_blk (m := []) (d := 0) (b := B239_3) (gs := [0 ≤ (wadd 998 (wmul 5 (h 14 997))) ∧ (wadd 998 (wmul 5 (h 14 997))) < 2140, 0 ≤ (wadd (wadd 998 (wmul 5 (h 14 997))) 1) ∧ (wadd (wadd 998 (wmul 5 (h 14 997))) 1) < 2140]) (c' := (57, [some (22, 0), some (0, v1), some (0, v2), some (0, v3), some (0, r1), some (0, (wadd 998 (wmul 5 (h 14 997)))), none, none, none, none], [(0, 209), (1344370422, 0), (0, (wadd (wadd 998 (wmul 5 (h 14 997))) 2)), (1344370422, 0)], (hc, (mset (mset h 14 (wadd 998 (wmul 5 (h 14 997))) v1) 14 (wadd (wadd 998 (wmul 5 (h 14 997))) 1) v2), o))) K239_3 rfl ⟨q2, q3, trivial⟩ ?_
  generalize (mset (mset h 14 (wadd 998 (wmul 5 (h 14 997))) v1) 14 (wadd (wadd 998 (wmul 5 (h 14 997))) 1) v2) = H1 at *
  refine zF_blk (m := []) (d := 0) (b := B239_4) (gs := [0 ≤ 209 ∧ 209 < 2140, 0 ≤ (wadd (wadd 998 (wmul 5 (h 14 997))) 2) ∧ (wadd (wadd 998 (wmul 5 (h 14 997))) 2) < 2140, 0 ≤ (wadd (wadd 998 (wmul 5 (h 14 997))) 3) ∧ (wadd (wadd 998 (wmul 5 (h 14 997))) 3) < 2140, 0 ≤ (wadd (wadd 998 (wmul 5 (h 14 997))) 4) ∧ (wadd (wadd 998 (wmul 5 (h 14 997))) 4) < 2140]) (c' := (88, [some (22, 0), some (0, v1), some (0, v2), some (0, v3), some (0, r1), some (0, (wadd 998 (wmul 5 (h 14 997)))), none, none, none, none], [(0, 997), (1344370422, 0), (0, 997), (1344370422, 0)], (hc, (mset (mset (mset H1 14 (wadd (wadd 998 (wmul 5 (h 14 997))) 2) (H1 14 209)) 14 (wadd (wadd 998 (wmul 5 (h 14 997))) 3) v3) 14 (wadd (wadd 998 (wmul 5 (h 14 997))) 4) r1), o))) K239_4 rfl ⟨by decide, q4, q5, q6, trivial⟩ ?_
  generalize (mset (mset (mset H1 14 (wadd (wadd 998 (wmul 5 (h 14 997))) 2) (H1 14 209)) 14 (wadd (wadd 998 (wmul 5 (h 14 997))) 3) v3) 14 (wadd (wadd 998 (wmul 5 (h 14 997))) 4) r1) = H2 at *
  refine zF_blk (m := []) (d := 0) (b := B239_5) (gs := [0 ≤ 997 ∧ 997 < 2140, 0 ≤ 997 ∧ 997 < 2140]) (c' := (98, [some (22, 0), some (0, v1), some (0, v2), some (0, v3), some (0, r1), some (0, (wadd 998 (wmul 5 (h 14 997)))), none, none, none, none], [(0, v1), (0, 8), (0, 217)], (hc, (mset H2 14 997 (wadd (H2 14 997) 1)), o))) K239_5 rfl ⟨by decide, by decide, trivial⟩ ?_
  generalize (mset H2 14 997 (wadd (H2 14 997) 1)) = H3 at *
  refine zF_blk (m := []) (d := 0) (b := B239_6) (gs := []) (c' := (99, [some (22, 0), some (0, v1), some (0, v2), some (0, v3), some (0, r1), some (0, (wadd 998 (wmul 5 (h 14 997)))), none, none, none, none], [(0, (wmul 8 v1)), (0, 217)], (hc, H3, o))) K239_6 rfl trivial ?_
  refine zF_blk (m := []) (d := 0) (b := B239_7) (gs := []) (c' := (112, [some (22, 0), some (0, v1), some (0, v2), some (0, v3), some (0, r1), some (0, (wadd 998 (wmul 5 (h 14 997)))), some (0, (wadd 217 (wmul 8 v1))), none, none, none], [(0, (wadd (wadd 217 (wmul 8 v1)) 6)), (1344370422, 0), (0, (wadd (wadd 217 (wmul 8 v1)) 6)), (1344370422, 0)], (hc, H3, o))) K239_7 rfl trivial ?_
  refine zF_blk (m := []) (d := 0) (b := B239_8) (gs := [0 ≤ (wadd (wadd 217 (wmul 8 v1)) 6) ∧ (wadd (wadd 217 (wmul 8 v1)) 6) < 2140, 0 ≤ (wadd (wadd 217 (wmul 8 v1)) 6) ∧ (wadd (wadd 217 (wmul 8 v1)) 6) < 2140]) (c' := (126, [some (22, 0), some (0, v1), some (0, v2), some (0, v3), some (0, r1), some (0, (wadd 998 (wmul 5 (h 14 997)))), some (0, (wadd 217 (wmul 8 v1))), none, none, none], [(0, (wadd (wadd 217 (wmul 8 v1)) 7)), (1344370422, 0), (0, (wadd (wadd 217 (wmul 8 v1)) 7)), (1344370422, 0)], (hc, (mset H3 14 (wadd (wadd 217 (wmul 8 v1)) 6) (wadd (H3 14 (wadd (wadd 217 (wmul 8 v1)) 6)) 1)), o))) K239_8 rfl ⟨q7, q7, trivial⟩ ?_
  generalize (mset H3 14 (wadd (wadd 217 (wmul 8 v1)) 6) (wadd (H3 14 (wadd (wadd 217 (wmul 8 v1)) 6)) 1)) = H4 at *
  rcases zI_s e with ⟨q9, e⟩ | ⟨q9, e⟩
  · refine zF_blk (m := []) (d := 1) (b := B239_10) (gs := [0 ≤ (wadd (wadd 217 (wmul 8 v1)) 7) ∧ (wadd (wadd 217 (wmul 8 v1)) 7) < 2140, 0 ≤ (wadd (wadd 217 (wmul 8 v1)) 7) ∧ (wadd (wadd 217 (wmul 8 v1)) 7) < 2140, r1 = 0]) (c' := (147, [some (22, 0), some (0, v1), some (0, v2), some (0, v3), some (0, r1), some (0, (wadd 998 (wmul 5 (h 14 997)))), some (0, (wadd 217 (wmul 8 v1))), none, none, none], [], (hc, (mset H4 14 (wadd (wadd 217 (wmul 8 v1)) 7) (wor (H4 14 (wadd (wadd 217 (wmul 8 v1)) 7)) r1)), o))) K239_10 rfl ⟨q8, q8, q9, trivial⟩ ?_
    refine zF_blk (m := [true, true, true, true, false, false, false, false, false, false]) (d := 0) (b := []) (gs := []) (c' := (147, [some (22, 0), some (0, v1), some (0, v2), some (0, v3), none, none, none, none, none, none], [], (hc, (mset H4 14 (wadd (wadd 217 (wmul 8 v1)) 7) (wor (H4 14 (wadd (wadd 217 (wmul 8 v1)) 7)) r1)), o))) rfl rfl trivial ?_
    exact T239_0 hd v1 v2 v3 (mset H4 14 (wadd (wadd 217 (wmul 8 v1)) 7) (wor (H4 14 (wadd (wadd 217 (wmul 8 v1)) 7)) r1)) _ e
  · refine zF_blk (m := []) (d := 0) (b := B239_10) (gs := [0 ≤ (wadd (wadd 217 (wmul 8 v1)) 7) ∧ (wadd (wadd 217 (wmul 8 v1)) 7) < 2140, 0 ≤ (wadd (wadd 217 (wmul 8 v1)) 7) ∧ (wadd (wadd 217 (wmul 8 v1)) 7) < 2140, ¬ (r1 = 0)]) (c' := (136, [some (22, 0), some (0, v1), some (0, v2), some (0, v3), some (0, r1), some (0, (wadd 998 (wmul 5 (h 14 997)))), some (0, (wadd 217 (wmul 8 v1))), none, none, none], [], (hc, (mset H4 14 (wadd (wadd 217 (wmul 8 v1)) 7) (wor (H4 14 (wadd (wadd 217 (wmul 8 v1)) 7)) r1)), o))) K239_10 rfl ⟨q8, q8, q9, trivial⟩ ?_
    generalize (mset H4 14 (wadd (wadd 217 (wmul 8 v1)) 7) (wor (H4 14 (wadd (wadd 217 (wmul 8 v1)) 7)) r1)) = H5 at *
    obtain ⟨q10, e⟩ := zG_s e
    refine zF_blk (m := []) (d := 0) (b := B239_9) (gs := [0 ≤ (wadd (wadd 217 (wmul 8 v1)) 5) ∧ (wadd (wadd 217 (wmul 8 v1)) 5) < 2140]) (c' := (147, [some (22, 0), some (0, v1), some (0, v2), some (0, v3), some (0, r1), some (0, (wadd 998 (wmul 5 (h 14 997)))), some (0, (wadd 217 (wmul 8 v1))), none, none, none], [], (hc, (mset H5 14 (wadd (wadd 217 (wmul 8 v1)) 5) r1), o))) K239_9 rfl ⟨q10, trivial⟩ ?_
    refine zF_blk (m := [true, true, true, true, false, false, false, false, false, false]) (d := 0) (b := []) (gs := []) (c' := (147, [some (22, 0), some (0, v1), some (0, v2), some (0, v3), none, none, none, none, none, none], [], (hc, (mset H5 14 (wadd (wadd 217 (wmul 8 v1)) 5) r1), o))) rfl rfl trivial ?_
    exact T239_0 hd v1 v2 v3 (mset H5 14 (wadd (wadd 217 (wmul 8 v1)) 5) r1) _ e
