/-! Functions of the methods, by wip/gen/lift.py. -/
def B279_0 : List zRow := [(26, .iconst (-1), 1, (0, 0, 0))]
theorem K279_0 : zRk 279 B279_0 = true := by decide +kernel
def B279_1 : List zRow := [(17, .aload_n 0, 1, (0, 0, 0)), (18, .getfield 72, 3, (12, 42, 5243682)), (21, .iload_n 1, 1, (0, 0, 0)), (22, .iaload, 1, (0, 0, 0)), (23, .goto 4, 3, (0, 0, 0))]
theorem K279_1 : zRk 279 B279_1 = true := by decide +kernel
def B279_2 : List zRow := [(9, .iload_n 1, 1, (0, 0, 0)), (10, .aload_n 0, 1, (0, 0, 0)), (11, .getfield 385, 3, (12, 44, 0)), (14, .if_icmp .ge 12, 3, (0, 0, 0))]
theorem K279_2 : zRk 279 B279_2 = true := by decide +kernel
def B279_3 : List zRow := [(0, .aload_n 0, 1, (0, 0, 0)), (1, .iconst 0, 1, (0, 0, 0)), (2, .putfield 81, 3, (12, 0, 0)), (5, .iload_n 1, 1, (0, 0, 0)), (6, .ifCond .lt 20, 3, (0, 0, 0))]
theorem K279_3 : zRk 279 B279_3 = true := by decide +kernel
/-- EchoValeModel.byteAt(I)I -/
def F279 (v1 : Int) (h : zHM) : Option (Int × zHM) := if v1 < 0 then some ((-1), (mset h 0 0 0)) else if (h 44 0) ≤ v1 then some ((-1), (mset h 0 0 0)) else zG (0 ≤ v1 ∧ v1 < 200) (some ((h 42 v1), (mset h 0 0 0)))
set_option maxRecDepth 100000 in
theorem S279 {spec : zRn zH2} {hc : zHC} {o : Int → Int} {d : Nat} (hd : 1 ≤ d) (v1 : Int) (h : zHM) (v : (Int × zHM)) (e : F279 v1 h = some v) : zRu2 spec d 279 [(22, 0), (0, v1)] (hc, h, o) (some (0, v.1)) (hc, v.2, o) := by
  refine zF_in (D := 0) (mx := 2) (L := [some (22, 0), some (0, v1)]) (by decide +kernel) rfl rfl hd (fun d hd => ?_)
  unfold F279 at e
  rcases zI_s e with ⟨q1, e⟩ | ⟨q1, e⟩
  · refine zF_blk (m := []) (d := 1) (b := B279_3) (gs := [v1 < 0]) (c' := (26, [some (22, 0), some (0, v1)], [], (hc, (mset h 0 0 0), o))) K279_3 rfl ⟨q1, trivial⟩ ?_
    refine zF_blk (m := []) (d := 0) (b := B279_0) (gs := []) (c' := (27, [some (22, 0), some (0, v1)], [(0, (-1))], (hc, (mset h 0 0 0), o))) K279_0 rfl trivial ?_
    exact zF_riM (by decide +kernel) e
  · refine zF_blk (m := []) (d := 0) (b := B279_3) (gs := [¬ (v1 < 0)]) (c' := (9, [some (22, 0), some (0, v1)], [], (hc, (mset h 0 0 0), o))) K279_3 rfl ⟨q1, trivial⟩ ?_
    rcases zI_s e with ⟨q2, e⟩ | ⟨q2, e⟩
    · refine zF_blk (m := []) (d := 1) (b := B279_2) (gs := [(h 44 0) ≤ v1]) (c' := (26, [some (22, 0), some (0, v1)], [], (hc, (mset h 0 0 0), o))) K279_2 rfl ⟨q2, trivial⟩ ?_
      refine zF_blk (m := []) (d := 0) (b := B279_0) (gs := []) (c' := (27, [some (22, 0), some (0, v1)], [(0, (-1))], (hc, (mset h 0 0 0), o))) K279_0 rfl trivial ?_
      exact zF_riM (by decide +kernel) e
    · refine zF_blk (m := []) (d := 0) (b := B279_2) (gs := [¬ ((h 44 0) ≤ v1)]) (c' := (17, [some (22, 0), some (0, v1)], [], (hc, (mset h 0 0 0), o))) K279_2 rfl ⟨q2, trivial⟩ ?_
      obtain ⟨q3, e⟩ := zG_s e
      refine zF_blk (m := []) (d := 0) (b := B279_1) (gs := [0 ≤ v1 ∧ v1 < 200]) (c' := (27, [some (22, 0), some (0, v1)], [(0, (h 42 v1))], (hc, (mset h 0 0 0), o))) K279_1 rfl ⟨q3, trivial⟩ ?_
      exact zF_riM (by decide +kernel) e
def B152_0 : List zRow := [(20, .iconst 0, 1, (0, 0, 0))]
theorem K152_0 : zRk 152 B152_0 = true := by decide +kernel
def B152_1 : List zRow := [(16, .iconst 1, 1, (0, 0, 0)), (17, .goto 4, 3, (0, 0, 0))]
theorem K152_1 : zRk 152 B152_1 = true := by decide +kernel
def B152_2 : List zRow := [(8, .aload_n 0, 1, (0, 0, 0)), (9, .getfield 82, 3, (5, 6, 0)), (12, .iload_n 1, 1, (0, 0, 0)), (13, .if_icmp .ne 7, 3, (0, 0, 0))]
theorem K152_2 : zRk 152 B152_2 = true := by decide +kernel
def B152_3 : List zRow := [(0, .aload_n 0, 1, (0, 0, 0)), (1, .getfield 70, 3, (5, 4, 0)), (4, .iconst 3, 1, (0, 0, 0)), (5, .if_icmp .ne 15, 3, (0, 0, 0))]
theorem K152_3 : zRk 152 B152_3 = true := by decide +kernel
/-- EchoVale$Reader.isWord(I)Z -/
def F152 (v1 : Int) (h : zHC) : Option Int := if ¬ (h 324 0 0) = 3 then some 0 else if ¬ (h 326 0 0) = v1 then some 0 else some 1
set_option maxRecDepth 100000 in
theorem S152 {spec : zRn zH2} {hm : zHM} {o : Int → Int} {d : Nat} (hd : 1 ≤ d) (v1 : Int) (h : zHC) (v : Int) (e : F152 v1 h = some v) : zRu2 spec d 152 [(15, 0), (0, v1)] (h, hm, o) (some (0, v)) (h, hm, o) := by
  refine zF_in (D := 0) (mx := 2) (L := [some (15, 0), some (0, v1)]) (by decide +kernel) rfl rfl hd (fun d hd => ?_)
  unfold F152 at e
  rcases zI_s e with ⟨q1, e⟩ | ⟨q1, e⟩
  · refine zF_blk (m := []) (d := 1) (b := B152_3) (gs := [¬ (h 324 0 0) = 3]) (c' := (20, [some (15, 0), some (0, v1)], [], (h, hm, o))) K152_3 rfl ⟨q1, trivial⟩ ?_
    refine zF_blk (m := []) (d := 0) (b := B152_0) (gs := []) (c' := (21, [some (15, 0), some (0, v1)], [(0, 0)], (h, hm, o))) K152_0 rfl trivial ?_
    obtain rfl := Option.some.inj e
    exact zF_rb (by decide +kernel) (Or.inl rfl)
  · refine zF_blk (m := []) (d := 0) (b := B152_3) (gs := [¬ (¬ (h 324 0 0) = 3)]) (c' := (8, [some (15, 0), some (0, v1)], [], (h, hm, o))) K152_3 rfl ⟨q1, trivial⟩ ?_
    rcases zI_s e with ⟨q2, e⟩ | ⟨q2, e⟩
    · refine zF_blk (m := []) (d := 1) (b := B152_2) (gs := [¬ (h 326 0 0) = v1]) (c' := (20, [some (15, 0), some (0, v1)], [], (h, hm, o))) K152_2 rfl ⟨q2, trivial⟩ ?_
      refine zF_blk (m := []) (d := 0) (b := B152_0) (gs := []) (c' := (21, [some (15, 0), some (0, v1)], [(0, 0)], (h, hm, o))) K152_0 rfl trivial ?_
      obtain rfl := Option.some.inj e
      exact zF_rb (by decide +kernel) (Or.inl rfl)
    · refine zF_blk (m := []) (d := 0) (b := B152_2) (gs := [¬ (¬ (h 326 0 0) = v1)]) (c' := (16, [some (15, 0), some (0, v1)], [], (h, hm, o))) K152_2 rfl ⟨q2, trivial⟩ ?_
      refine zF_blk (m := []) (d := 0) (b := B152_1) (gs := []) (c' := (21, [some (15, 0), some (0, v1)], [(0, 1)], (h, hm, o))) K152_1 rfl trivial ?_
      obtain rfl := Option.some.inj e
      exact zF_rb (by decide +kernel) (Or.inr rfl)
def B153_0 : List zRow := [(9, .aload_n 0, 1, (0, 0, 0)), (10, .getfield 9, 3, (6, 2, 5243362)), (13, .aload_n 0, 1, (0, 0, 0)), (14, .getfield 23, 3, (6, 1, 0)), (17, .iconst 3, 1, (0, 0, 0)), (18, .imul, 1, (0, 0, 0)), (19, .iload_n 1, 1, (0, 0, 0)), (20, .iastore, 1, (0, 0, 0)), (21, .aload_n 0, 1, (0, 0, 0)), (22, .getfield 9, 3, (6, 2, 5243362)), (25, .aload_n 0, 1, (0, 0, 0)), (26, .getfield 23, 3, (6, 1, 0)), (29, .iconst 3, 1, (0, 0, 0)), (30, .imul, 1, (0, 0, 0)), (31, .iconst 1, 1, (0, 0, 0)), (32, .iadd, 1, (0, 0, 0)), (33, .iload_n 2, 1, (0, 0, 0)), (34, .iastore, 1, (0, 0, 0)), (35, .aload_n 0, 1, (0, 0, 0)), (36, .getfield 9, 3, (6, 2, 5243362)), (39, .aload_n 0, 1, (0, 0, 0)), (40, .getfield 23, 3, (6, 1, 0)), (43, .iconst 3, 1, (0, 0, 0)), (44, .imul, 1, (0, 0, 0)), (45, .iconst 2, 1, (0, 0, 0)), (46, .iadd, 1, (0, 0, 0)), (47, .iload_n 3, 1, (0, 0, 0)), (48, .iastore, 1, (0, 0, 0)), (49, .aload_n 0, 1, (0, 0, 0)), (50, .dup, 1, (0, 0, 0)), (51, .getfield 23, 3, (6, 1, 0)), (54, .iconst 1, 1, (0, 0, 0)), (55, .iadd, 1, (0, 0, 0)), (56, .putfield 23, 3, (6, 1, 0))]
theorem K153_0 : zRk 153 B153_0 = true := by decide +kernel
def B153_1 : List zRow := [(0, .aload_n 0, 1, (0, 0, 0)), (1, .getfield 23, 3, (6, 1, 0)), (4, .bipush 40, 2, (0, 0, 0)), (6, .if_icmp .ge 53, 3, (0, 0, 0))]
theorem K153_1 : zRk 153 B153_1 = true := by decide +kernel
/-- EchoVale$Sentence.add(III)V -/
def F153 (v0 : Int) (v1 : Int) (v2 : Int) (v3 : Int) (h : zHC) : Option zHC := if 40 ≤ (h 385 v0 0) then some h else zG (0 ≤ (wmul (h 385 v0 0) 3) ∧ (wmul (h 385 v0 0) 3) < 120) (zG (0 ≤ (wadd (wmul (h 385 v0 0) 3) 1) ∧ (wadd (wmul (h 385 v0 0) 3) 1) < 120) (zG (0 ≤ (wadd (wmul (h 385 v0 0) 3) 2) ∧ (wadd (wmul (h 385 v0 0) 3) 2) < 120) (some (hset (hset (hset (hset h 386 v0 (wmul (h 385 v0 0) 3) v1) 386 v0 (wadd (wmul (h 385 v0 0) 3) 1) v2) 386 v0 (wadd (wmul (h 385 v0 0) 3) 2) v3) 385 v0 0 (wadd (h 385 v0 0) 1)))))
set_option maxRecDepth 100000 in
theorem S153 {spec : zRn zH2} {hm : zHM} {o : Int → Int} {d : Nat} (hd : 1 ≤ d) (v0 : Int) (v1 : Int) (v2 : Int) (v3 : Int) (h : zHC) (v : zHC) (e : F153 v0 v1 v2 v3 h = some v) : zRu2 spec d 153 [(16, v0), (0, v1), (0, v2), (0, v3)] (h, hm, o) none (v, hm, o) := by
  refine zF_in (D := 0) (mx := 4) (L := [some (16, v0), some (0, v1), some (0, v2), some (0, v3)]) (by decide +kernel) rfl rfl hd (fun d hd => ?_)
  unfold F153 at e
  rcases zI_s e with ⟨q1, e⟩ | ⟨q1, e⟩
  · refine zF_blk (m := []) (d := 1) (b := B153_1) (gs := [40 ≤ (h 385 v0 0)]) (c' := (59, [some (16, v0), some (0, v1), some (0, v2), some (0, v3)], [], (h, hm, o))) K153_1 rfl ⟨q1, trivial⟩ ?_
    obtain rfl := Option.some.inj e
    exact zF_rv (by decide +kernel)
  · refine zF_blk (m := []) (d := 0) (b := B153_1) (gs := [¬ (40 ≤ (h 385 v0 0))]) (c' := (9, [some (16, v0), some (0, v1), some (0, v2), some (0, v3)], [], (h, hm, o))) K153_1 rfl ⟨q1, trivial⟩ ?_
    obtain ⟨q2, e⟩ := zG_s e
    obtain ⟨q3, e⟩ := zG_s e
    obtain ⟨q4, e⟩ := zG_s e
    refine zF_blk (m := []) (d := 0) (b := B153_0) (gs := [0 ≤ (wmul (h 385 v0 0) 3) ∧ (wmul (h 385 v0 0) 3) < 120, 0 ≤ (wadd (wmul (h 385 v0 0) 3) 1) ∧ (wadd (wmul (h 385 v0 0) 3) 1) < 120, 0 ≤ (wadd (wmul (h 385 v0 0) 3) 2) ∧ (wadd (wmul (h 385 v0 0) 3) 2) < 120]) (c' := (59, [some (16, v0), some (0, v1), some (0, v2), some (0, v3)], [], ((hset (hset (hset (hset h 386 v0 (wmul (h 385 v0 0) 3) v1) 386 v0 (wadd (wmul (h 385 v0 0) 3) 1) v2) 386 v0 (wadd (wmul (h 385 v0 0) 3) 2) v3) 385 v0 0 (wadd (h 385 v0 0) 1)), hm, o))) K153_0 rfl ⟨q2, q3, q4, trivial⟩ ?_
    obtain rfl := Option.some.inj e
    exact zF_rv (by decide +kernel)
def B154_0 : List zRow := [(0, .aload_n 0, 1, (0, 0, 0)), (1, .getfield 18, 3, (7, 1, 23)), (4, .getfield 66, 3, (5, 6, 0)), (7, .istore_n 2, 1, (0, 0, 0)), (8, .aload_n 0, 1, (0, 0, 0)), (9, .getfield 18, 3, (7, 1, 23))]
theorem K154_0 : zRk 154 B154_0 = true := by decide +kernel
def B154_1 : List zRow := [(86, .aload_n 0, 1, (0, 0, 0)), (87, .getfield 18, 3, (7, 1, 23)), (90, .bipush 60, 2, (0, 0, 0))]
theorem K154_1 : zRk 154 B154_1 = true := by decide +kernel
def B154_2 : List zRow := [(98, .aload_n 0, 1, (0, 0, 0)), (99, .getfield 18, 3, (7, 1, 23)), (102, .bipush 61, 2, (0, 0, 0))]
theorem K154_2 : zRk 154 B154_2 = true := by decide +kernel
def B154_3 : List zRow := [(110, .aload_n 0, 1, (0, 0, 0)), (111, .getfield 18, 3, (7, 1, 23)), (114, .bipush 62, 2, (0, 0, 0))]
theorem K154_3 : zRk 154 B154_3 = true := by decide +kernel
def B154_4 : List zRow := [(122, .aload_n 0, 1, (0, 0, 0)), (123, .getfield 18, 3, (7, 1, 23)), (126, .iconst 1, 1, (0, 0, 0))]
theorem K154_4 : zRk 154 B154_4 = true := by decide +kernel
def B154_5 : List zRow := [(119, .ifCond .ne 12, 3, (0, 0, 0))]
theorem K154_5 : zRk 154 B154_5 = true := by decide +kernel
def B154_6 : List zRow := [(107, .ifCond .ne 24, 3, (0, 0, 0))]
theorem K154_6 : zRk 154 B154_6 = true := by decide +kernel
def B154_7 : List zRow := [(95, .ifCond .ne 36, 3, (0, 0, 0))]
theorem K154_7 : zRk 154 B154_7 = true := by decide +kernel
def B154_8 : List zRow := [(45, .iload_n 2, 1, (0, 0, 0)), (46, .bipush 16, 2, (0, 0, 0)), (48, .if_icmp .ne 38, 3, (0, 0, 0))]
theorem K154_8 : zRk 154 B154_8 = true := by decide +kernel
def B154_9 : List zRow := [(39, .iload_n 2, 1, (0, 0, 0)), (40, .bipush 15, 2, (0, 0, 0)), (42, .if_icmp .eq 9, 3, (0, 0, 0))]
theorem K154_9 : zRk 154 B154_9 = true := by decide +kernel
def B154_10 : List zRow := [(21, .iload_n 2, 1, (0, 0, 0)), (22, .bipush 14, 2, (0, 0, 0)), (24, .if_icmp .ne 15, 3, (0, 0, 0))]
theorem K154_10 : zRk 154 B154_10 = true := by decide +kernel
def B154_11 : List zRow := [(15, .iload_n 2, 1, (0, 0, 0)), (16, .bipush 13, 2, (0, 0, 0)), (18, .if_icmp .eq 9, 3, (0, 0, 0))]
theorem K154_11 : zRk 154 B154_11 = true := by decide +kernel
def B154_12 : List zRow := [(131, .aload_n 0, 1, (0, 0, 0)), (132, .getfield 18, 3, (7, 1, 23)), (135, .getfield 66, 3, (5, 6, 0)), (138, .istore_n 3, 1, (0, 0, 0)), (139, .aload_n 0, 1, (0, 0, 0)), (140, .getfield 18, 3, (7, 1, 23))]
theorem K154_12 : zRk 154 B154_12 = true := by decide +kernel
def B154_13 : List zRow := [(166, .aload_n 0, 1, (0, 0, 0)), (167, .getfield 12, 3, (7, 0, 155)), (170, .iload_n 2, 1, (0, 0, 0)), (171, .iload_n 3, 1, (0, 0, 0)), (172, .aload_n 0, 1, (0, 0, 0)), (173, .getfield 18, 3, (7, 1, 23)), (176, .getfield 66, 3, (5, 6, 0))]
theorem K154_13 : zRk 154 B154_13 = true := by decide +kernel
def B154_14 : List zRow := [(182, .aload_n 0, 1, (0, 0, 0)), (183, .getfield 18, 3, (7, 1, 23))]
theorem K154_14 : zRk 154 B154_14 = true := by decide +kernel
def B154_15 : List zRow := [(189, .iconst 1, 1, (0, 0, 0))]
theorem K154_15 : zRk 154 B154_15 = true := by decide +kernel
def B154_16 : List zRow := [(157, .aload_n 0, 1, (0, 0, 0)), (158, .getfield 18, 3, (7, 1, 23)), (161, .iconst 1, 1, (0, 0, 0))]
theorem K154_16 : zRk 154 B154_16 = true := by decide +kernel
def B154_17 : List zRow := [(146, .aload_n 0, 1, (0, 0, 0)), (147, .getfield 18, 3, (7, 1, 23)), (150, .getfield 62, 3, (5, 4, 0)), (153, .iconst 4, 1, (0, 0, 0)), (154, .if_icmp .eq 12, 3, (0, 0, 0))]
theorem K154_17 : zRk 154 B154_17 = true := by decide +kernel
def B154_18 : List zRow := [(51, .aload_n 0, 1, (0, 0, 0)), (52, .getfield 18, 3, (7, 1, 23)), (55, .aload_n 1, 1, (0, 0, 0))]
theorem K154_18 : zRk 154 B154_18 = true := by decide +kernel
def B154_19 : List zRow := [(67, .aload_n 0, 1, (0, 0, 0)), (68, .getfield 12, 3, (7, 0, 155)), (71, .iload_n 2, 1, (0, 0, 0)), (72, .iconst 0, 1, (0, 0, 0)), (73, .iload_n 3, 1, (0, 0, 0))]
theorem K154_19 : zRk 154 B154_19 = true := by decide +kernel
def B154_20 : List zRow := [(77, .aload_n 0, 1, (0, 0, 0)), (78, .getfield 18, 3, (7, 1, 23))]
theorem K154_20 : zRk 154 B154_20 = true := by decide +kernel
def B154_21 : List zRow := [(84, .iconst 1, 1, (0, 0, 0))]
theorem K154_21 : zRk 154 B154_21 = true := by decide +kernel
def B154_22 : List zRow := [(65, .iconst 0, 1, (0, 0, 0))]
theorem K154_22 : zRk 154 B154_22 = true := by decide +kernel
def B154_23 : List zRow := [(59, .istore_n 3, 1, (0, 0, 0)), (60, .iload_n 3, 1, (0, 0, 0)), (61, .iconst (-1), 1, (0, 0, 0)), (62, .if_icmp .ne 5, 3, (0, 0, 0))]
theorem K154_23 : zRk 154 B154_23 = true := by decide +kernel
def B154_24 : List zRow := [(27, .aload_n 0, 1, (0, 0, 0)), (28, .getfield 12, 3, (7, 0, 155)), (31, .iload_n 2, 1, (0, 0, 0)), (32, .iconst 0, 1, (0, 0, 0)), (33, .iconst 0, 1, (0, 0, 0))]
theorem K154_24 : zRk 154 B154_24 = true := by decide +kernel
def B154_25 : List zRow := [(37, .iconst 1, 1, (0, 0, 0))]
theorem K154_25 : zRk 154 B154_25 = true := by decide +kernel
def F154_2 (v2 : Int) (h : zHC) : Option (Int × zHC) := (F21 h).bind fun r1 => if (r1 324 0 0) = 4 then (F153 1 v2 (h 326 0 0) (r1 326 0 0) r1).bind fun r2 => (F21 r2).bind fun r3 => some (1, r3) else (F31 1 r1).bind fun r4 => zG (r4.1 = 0 ∨ r4.1 = 1) (some (r4.1, r4.2))
set_option maxRecDepth 100000 in
theorem T154_2 {spec : zRn zH2} {hm : zHM} {o : Int → Int} {d : Nat} (hd : 3 ≤ d) (v2 : Int) (h : zHC) (v : (Int × zHC)) (e : F154_2 v2 h = some v) : zFin 0 (fun _ => 0) (zRu2 spec d) 154 (some (0, v.1)) (v.2, hm, o) (131, [some (17, 0), none, some (0, v2), none], [], (h, hm, o)) := by
  unfold F154_2 at e
  obtain ⟨r1, q1, e⟩ := zB_s e
  refine zF_blk (m := []) (d := 0) (b := B154_12) (gs := []) (c' := (143, [some (17, 0), none, some (0, v2), some (0, (h 326 0 0))], [(15, 0)], (h, hm, o))) K154_12 rfl trivial ?_
  refine zF_call (k := 21) (cl := 5) (n := 1) (i := .invokevirtual 49) (args := [(15, 0)]) (rest := []) (g1 := (r1, hm, o)) (r1 := none) (by decide +kernel) rfl rfl rfl (st' := []) rfl (S21 (Nat.le_trans (by decide) hd)  h _ q1) ?_
  rcases zI_s e with ⟨q2, e⟩ | ⟨q2, e⟩
  · refine zF_blk (m := []) (d := 1) (b := B154_17) (gs := [(r1 324 0 0) = 4]) (c' := (166, [some (17, 0), none, some (0, v2), some (0, (h 326 0 0))], [], (r1, hm, o))) K154_17 rfl ⟨q2, trivial⟩ ?_
    obtain ⟨r2, q3, e⟩ := zB_s e
    refine zF_blk (m := []) (d := 0) (b := B154_13) (gs := []) (c' := (179, [some (17, 0), none, some (0, v2), some (0, (h 326 0 0))], [(0, (r1 326 0 0)), (0, (h 326 0 0)), (0, v2), (16, 1)], (r1, hm, o))) K154_13 rfl trivial ?_
    refine zF_call (k := 153) (cl := 6) (n := 4) (i := .invokevirtual 52) (args := [(16, 1), (0, v2), (0, (h 326 0 0)), (0, (r1 326 0 0))]) (rest := []) (g1 := (r2, hm, o)) (r1 := none) (by decide +kernel) rfl rfl rfl (st' := []) rfl (S153 (Nat.le_trans (by decide) hd) 1 v2 (h 326 0 0) (r1 326 0 0) r1 _ q3) ?_
    obtain ⟨r3, q4, e⟩ := zB_s e
    refine zF_blk (m := []) (d := 0) (b := B154_14) (gs := []) (c' := (186, [some (17, 0), none, some (0, v2), some (0, (h 326 0 0))], [(15, 0)], (r2, hm, o))) K154_14 rfl trivial ?_
    refine zF_call (k := 21) (cl := 5) (n := 1) (i := .invokevirtual 49) (args := [(15, 0)]) (rest := []) (g1 := (r3, hm, o)) (r1 := none) (by decide +kernel) rfl rfl rfl (st' := []) rfl (S21 (Nat.le_trans (by decide) hd)  r2 _ q4) ?_
    refine zF_blk (m := []) (d := 0) (b := B154_15) (gs := []) (c' := (190, [some (17, 0), none, some (0, v2), some (0, (h 326 0 0))], [(0, 1)], (r3, hm, o))) K154_15 rfl trivial ?_
    exact zF_rbC (by decide +kernel) (Or.inr rfl) e
  · refine zF_blk (m := []) (d := 0) (b := B154_17) (gs := [¬ ((r1 324 0 0) = 4)]) (c' := (157, [some (17, 0), none, some (0, v2), some (0, (h 326 0 0))], [], (r1, hm, o))) K154_17 rfl ⟨q2, trivial⟩ ?_
    obtain ⟨r4, q5, e⟩ := zB_s e
    refine zF_blk (m := []) (d := 0) (b := B154_16) (gs := []) (c' := (162, [some (17, 0), none, some (0, v2), some (0, (h 326 0 0))], [(0, 1), (15, 0)], (r1, hm, o))) K154_16 rfl trivial ?_
    refine zF_call (k := 31) (cl := 5) (n := 2) (i := .invokevirtual 39) (args := [(15, 0), (0, 1)]) (rest := []) (g1 := (r4.2, hm, o)) (r1 := some (0, r4.1)) (by decide +kernel) rfl rfl rfl (st' := [(0, r4.1)]) rfl (S31 (Nat.le_trans (by decide) hd) 1 r1 _ q5) ?_
    obtain ⟨q6, e⟩ := zG_s e
    exact zF_rbC (by decide +kernel) q6 e
def F154_1 (v1 : Int) (v2 : Int) (h : zHC) : Option (Int × zHC) := (F43 v1 h).bind fun r1 => if ¬ r1.1 = (-1) then (F153 1 v2 0 r1.1 r1.2).bind fun r2 => (F21 r2).bind fun r3 => some (1, r3) else some (0, r1.2)
set_option maxRecDepth 100000 in
theorem T154_1 {spec : zRn zH2} {hm : zHM} {o : Int → Int} {d : Nat} (hd : 3 ≤ d) (v1 : Int) (v2 : Int) (h : zHC) (v : (Int × zHC)) (e : F154_1 v1 v2 h = some v) : zFin 0 (fun _ => 0) (zRu2 spec d) 154 (some (0, v.1)) (v.2, hm, o) (51, [some (17, 0), some (19, v1), some (0, v2), none], [], (h, hm, o)) := by
  unfold F154_1 at e
  obtain ⟨r1, q1, e⟩ := zB_s e
  refine zF_blk (m := []) (d := 0) (b := B154_18) (gs := []) (c' := (56, [some (17, 0), some (19, v1), some (0, v2), none], [(19, v1), (15, 0)], (h, hm, o))) K154_18 rfl trivial ?_
  refine zF_call (k := 43) (cl := 5) (n := 2) (i := .invokevirtual 79) (args := [(15, 0), (19, v1)]) (rest := []) (g1 := (r1.2, hm, o)) (r1 := some (0, r1.1)) (by decide +kernel) rfl rfl rfl (st' := [(0, r1.1)]) rfl (S43 (Nat.le_trans (by decide) hd) v1 h _ q1) ?_
  rcases zI_s e with ⟨q2, e⟩ | ⟨q2, e⟩
  · refine zF_blk (m := []) (d := 1) (b := B154_23) (gs := [¬ r1.1 = (-1)]) (c' := (67, [some (17, 0), some (19, v1), some (0, v2), some (0, r1.1)], [], (r1.2, hm, o))) K154_23 rfl ⟨q2, trivial⟩ ?_
    obtain ⟨r2, q3, e⟩ := zB_s e
    refine zF_blk (m := []) (d := 0) (b := B154_19) (gs := []) (c' := (74, [some (17, 0), some (19, v1), some (0, v2), some (0, r1.1)], [(0, r1.1), (0, 0), (0, v2), (16, 1)], (r1.2, hm, o))) K154_19 rfl trivial ?_
    refine zF_call (k := 153) (cl := 6) (n := 4) (i := .invokevirtual 52) (args := [(16, 1), (0, v2), (0, 0), (0, r1.1)]) (rest := []) (g1 := (r2, hm, o)) (r1 := none) (by decide +kernel) rfl rfl rfl (st' := []) rfl (S153 (Nat.le_trans (by decide) hd) 1 v2 0 r1.1 r1.2 _ q3) ?_
    obtain ⟨r3, q4, e⟩ := zB_s e
    refine zF_blk (m := []) (d := 0) (b := B154_20) (gs := []) (c' := (81, [some (17, 0), some (19, v1), some (0, v2), some (0, r1.1)], [(15, 0)], (r2, hm, o))) K154_20 rfl trivial ?_
    refine zF_call (k := 21) (cl := 5) (n := 1) (i := .invokevirtual 49) (args := [(15, 0)]) (rest := []) (g1 := (r3, hm, o)) (r1 := none) (by decide +kernel) rfl rfl rfl (st' := []) rfl (S21 (Nat.le_trans (by decide) hd)  r2 _ q4) ?_
    refine zF_blk (m := []) (d := 0) (b := B154_21) (gs := []) (c' := (85, [some (17, 0), some (19, v1), some (0, v2), some (0, r1.1)], [(0, 1)], (r3, hm, o))) K154_21 rfl trivial ?_
    exact zF_rbC (by decide +kernel) (Or.inr rfl) e
  · refine zF_blk (m := []) (d := 0) (b := B154_23) (gs := [¬ (¬ r1.1 = (-1))]) (c' := (65, [some (17, 0), some (19, v1), some (0, v2), some (0, r1.1)], [], (r1.2, hm, o))) K154_23 rfl ⟨q2, trivial⟩ ?_
    refine zF_blk (m := []) (d := 0) (b := B154_22) (gs := []) (c' := (66, [some (17, 0), some (19, v1), some (0, v2), some (0, r1.1)], [(0, 0)], (r1.2, hm, o))) K154_22 rfl trivial ?_
    exact zF_rbC (by decide +kernel) (Or.inl rfl) e
def F154_0 (v2 : Int) (h : zHC) : Option (Int × zHC) := (F153 1 v2 0 0 h).bind fun r1 => some (1, r1)
set_option maxRecDepth 100000 in
theorem T154_0 {spec : zRn zH2} {hm : zHM} {o : Int → Int} {d : Nat} (hd : 3 ≤ d) (v2 : Int) (h : zHC) (v : (Int × zHC)) (e : F154_0 v2 h = some v) : zFin 0 (fun _ => 0) (zRu2 spec d) 154 (some (0, v.1)) (v.2, hm, o) (27, [some (17, 0), none, some (0, v2), none], [], (h, hm, o)) := by
  unfold F154_0 at e
  obtain ⟨r1, q1, e⟩ := zB_s e
  refine zF_blk (m := []) (d := 0) (b := B154_24) (gs := []) (c' := (34, [some (17, 0), none, some (0, v2), none], [(0, 0), (0, 0), (0, v2), (16, 1)], (h, hm, o))) K154_24 rfl trivial ?_
  refine zF_call (k := 153) (cl := 6) (n := 4) (i := .invokevirtual 52) (args := [(16, 1), (0, v2), (0, 0), (0, 0)]) (rest := []) (g1 := (r1, hm, o)) (r1 := none) (by decide +kernel) rfl rfl rfl (st' := []) rfl (S153 (Nat.le_trans (by decide) hd) 1 v2 0 0 h _ q1) ?_
  refine zF_blk (m := []) (d := 0) (b := B154_25) (gs := []) (c' := (38, [some (17, 0), none, some (0, v2), none], [(0, 1)], (r1, hm, o))) K154_25 rfl trivial ?_
  exact zF_rbC (by decide +kernel) (Or.inr rfl) e
/-- EchoVale$SentenceText.readPlain(LEchoVale$Valley;)Z -/
def F154 (v1 : Int) (h : zHC) : Option (Int × zHC) := (F21 h).bind fun r1 => if (h 326 0 0) = 13 then F154_0 (h 326 0 0) r1 else if ¬ (h 326 0 0) = 14 then if (h 326 0 0) = 15 then F154_1 v1 (h 326 0 0) r1 else if ¬ (h 326 0 0) = 16 then (F51 60 r1).bind fun r2 => if ¬ r2 = 0 then F154_2 (h 326 0 0) r1 else (F51 61 r1).bind fun r3 => if ¬ r3 = 0 then F154_2 (h 326 0 0) r1 else (F51 62 r1).bind fun r4 => if ¬ r4 = 0 then F154_2 (h 326 0 0) r1 else (F31 1 r1).bind fun r5 => zG (r5.1 = 0 ∨ r5.1 = 1) (some (r5.1, r5.2)) else F154_1 v1 (h 326 0 0) r1 else F154_0 (h 326 0 0) r1
set_option maxRecDepth 100000 in
theorem S154 {spec : zRn zH2} {hm : zHM} {o : Int → Int} {d : Nat} (hd : 4 ≤ d) (v1 : Int) (h : zHC) (v : (Int × zHC)) (e : F154 v1 h = some v) : zRu2 spec d 154 [(17, 0), (19, v1)] (h, hm, o) (some (0, v.1)) (v.2, hm, o) := by
  refine zF_in (D := 3) (mx := 4) (L := [some (17, 0), some (19, v1), none, none]) (by decide +kernel) rfl rfl hd (fun d hd => ?_)
  unfold F154 at e
  obtain ⟨r1, q1, e⟩ := zB_s e
  refine zF_blk (m := []) (d := 0) (b := B154_0) (gs := []) (c' := (12, [some (17, 0), some (19, v1), some (0, (h 326 0 0)), none], [(15, 0)], (h, hm, o))) K154_0 rfl trivial ?_
  refine zF_call (k := 21) (cl := 5) (n := 1) (i := .invokevirtual 49) (args := [(15, 0)]) (rest := []) (g1 := (r1, hm, o)) (r1 := none) (by decide +kernel) rfl rfl rfl (st' := []) rfl (S21 (Nat.le_trans (by decide) hd)  h _ q1) ?_
  rcases zI_s e with ⟨q2, e⟩ | ⟨q2, e⟩
  · refine zF_blk (m := []) (d := 1) (b := B154_11) (gs := [(h 326 0 0) = 13]) (c' := (27, [some (17, 0), some (19, v1), some (0, (h 326 0 0)), none], [], (r1, hm, o))) K154_11 rfl ⟨q2, trivial⟩ ?_
    refine zF_blk (m := [true, false, true, false]) (d := 0) (b := []) (gs := []) (c' := (27, [some (17, 0), none, some (0, (h 326 0 0)), none], [], (r1, hm, o))) rfl rfl trivial ?_
    exact T154_0 hd (h 326 0 0) r1 _ e
  · refine zF_blk (m := []) (d := 0) (b := B154_11) (gs := [¬ ((h 326 0 0) = 13)]) (c' := (21, [some (17, 0), some (19, v1), some (0, (h 326 0 0)), none], [], (r1, hm, o))) K154_11 rfl ⟨q2, trivial⟩ ?_
    rcases zI_s e with ⟨q3, e⟩ | ⟨q3, e⟩
    · refine zF_blk (m := []) (d := 1) (b := B154_10) (gs := [¬ (h 326 0 0) = 14]) (c' := (39, [some (17, 0), some (19, v1), some (0, (h 326 0 0)), none], [], (r1, hm, o))) K154_10 rfl ⟨q3, trivial⟩ ?_
      rcases zI_s e with ⟨q4, e⟩ | ⟨q4, e⟩
      · refine zF_blk (m := []) (d := 1) (b := B154_9) (gs := [(h 326 0 0) = 15]) (c' := (51, [some (17, 0), some (19, v1), some (0, (h 326 0 0)), none], [], (r1, hm, o))) K154_9 rfl ⟨q4, trivial⟩ ?_
        exact T154_1 hd v1 (h 326 0 0) r1 _ e
      · refine zF_blk (m := []) (d := 0) (b := B154_9) (gs := [¬ ((h 326 0 0) = 15)]) (c' := (45, [some (17, 0), some (19, v1), some (0, (h 326 0 0)), none], [], (r1, hm, o))) K154_9 rfl ⟨q4, trivial⟩ ?_
        rcases zI_s e with ⟨q5, e⟩ | ⟨q5, e⟩
        · refine zF_blk (m := []) (d := 1) (b := B154_8) (gs := [¬ (h 326 0 0) = 16]) (c' := (86, [some (17, 0), some (19, v1), some (0, (h 326 0 0)), none], [], (r1, hm, o))) K154_8 rfl ⟨q5, trivial⟩ ?_
          obtain ⟨r2, q6, e⟩ := zB_s e
          refine zF_blk (m := []) (d := 0) (b := B154_1) (gs := []) (c' := (92, [some (17, 0), some (19, v1), some (0, (h 326 0 0)), none], [(0, 60), (15, 0)], (r1, hm, o))) K154_1 rfl trivial ?_
          refine zF_call (k := 51) (cl := 5) (n := 2) (i := .invokevirtual 59) (args := [(15, 0), (0, 60)]) (rest := []) (g1 := (r1, hm, o)) (r1 := some (0, r2)) (by decide +kernel) rfl rfl rfl (st' := [(0, r2)]) rfl (S51 (Nat.le_trans (by decide) hd) 60 r1 _ q6) ?_
          rcases zI_s e with ⟨q7, e⟩ | ⟨q7, e⟩
          · refine zF_blk (m := []) (d := 1) (b := B154_7) (gs := [¬ r2 = 0]) (c' := (131, [some (17, 0), some (19, v1), some (0, (h 326 0 0)), none], [], (r1, hm, o))) K154_7 rfl ⟨q7, trivial⟩ ?_
            refine zF_blk (m := [true, false, true, false]) (d := 0) (b := []) (gs := []) (c' := (131, [some (17, 0), none, some (0, (h 326 0 0)), none], [], (r1, hm, o))) rfl rfl trivial ?_
            exact T154_2 hd (h 326 0 0) r1 _ e
          · refine zF_blk (m := []) (d := 0) (b := B154_7) (gs := [¬ (¬ r2 = 0)]) (c' := (98, [some (17, 0), some (19, v1), some (0, (h 326 0 0)), none], [], (r1, hm, o))) K154_7 rfl ⟨q7, trivial⟩ ?_
            obtain ⟨r3, q8, e⟩ := zB_s e
            refine zF_blk (m := []) (d := 0) (b := B154_2) (gs := []) (c' := (104, [some (17, 0), some (19, v1), some (0, (h 326 0 0)), none], [(0, 61), (15, 0)], (r1, hm, o))) K154_2 rfl trivial ?_
            refine zF_call (k := 51) (cl := 5) (n := 2) (i := .invokevirtual 59) (args := [(15, 0), (0, 61)]) (rest := []) (g1 := (r1, hm, o)) (r1 := some (0, r3)) (by decide +kernel) rfl rfl rfl (st' := [(0, r3)]) rfl (S51 (Nat.le_trans (by decide) hd) 61 r1 _ q8) ?_
            rcases zI_s e with ⟨q9, e⟩ | ⟨q9, e⟩
            · refine zF_blk (m := []) (d := 1) (b := B154_6) (gs := [¬ r3 = 0]) (c' := (131, [some (17, 0), some (19, v1), some (0, (h 326 0 0)), none], [], (r1, hm, o))) K154_6 rfl ⟨q9, trivial⟩ ?_
              refine zF_blk (m := [true, false, true, false]) (d := 0) (b := []) (gs := []) (c' := (131, [some (17, 0), none, some (0, (h 326 0 0)), none], [], (r1, hm, o))) rfl rfl trivial ?_
              exact T154_2 hd (h 326 0 0) r1 _ e
            · refine zF_blk (m := []) (d := 0) (b := B154_6) (gs := [¬ (¬ r3 = 0)]) (c' := (110, [some (17, 0), some (19, v1), some (0, (h 326 0 0)), none], [], (r1, hm, o))) K154_6 rfl ⟨q9, trivial⟩ ?_
              obtain ⟨r4, q10, e⟩ := zB_s e
              refine zF_blk (m := []) (d := 0) (b := B154_3) (gs := []) (c' := (116, [some (17, 0), some (19, v1), some (0, (h 326 0 0)), none], [(0, 62), (15, 0)], (r1, hm, o))) K154_3 rfl trivial ?_
              refine zF_call (k := 51) (cl := 5) (n := 2) (i := .invokevirtual 59) (args := [(15, 0), (0, 62)]) (rest := []) (g1 := (r1, hm, o)) (r1 := some (0, r4)) (by decide +kernel) rfl rfl rfl (st' := [(0, r4)]) rfl (S51 (Nat.le_trans (by decide) hd) 62 r1 _ q10) ?_
              rcases zI_s e with ⟨q11, e⟩ | ⟨q11, e⟩
              · refine zF_blk (m := []) (d := 1) (b := B154_5) (gs := [¬ r4 = 0]) (c' := (131, [some (17, 0), some (19, v1), some (0, (h 326 0 0)), none], [], (r1, hm, o))) K154_5 rfl ⟨q11, trivial⟩ ?_
                refine zF_blk (m := [true, false, true, false]) (d := 0) (b := []) (gs := []) (c' := (131, [some (17, 0), none, some (0, (h 326 0 0)), none], [], (r1, hm, o))) rfl rfl trivial ?_
                exact T154_2 hd (h 326 0 0) r1 _ e
              · refine zF_blk (m := []) (d := 0) (b := B154_5) (gs := [¬ (¬ r4 = 0)]) (c' := (122, [some (17, 0), some (19, v1), some (0, (h 326 0 0)), none], [], (r1, hm, o))) K154_5 rfl ⟨q11, trivial⟩ ?_
                obtain ⟨r5, q12, e⟩ := zB_s e
                refine zF_blk (m := []) (d := 0) (b := B154_4) (gs := []) (c' := (127, [some (17, 0), some (19, v1), some (0, (h 326 0 0)), none], [(0, 1), (15, 0)], (r1, hm, o))) K154_4 rfl trivial ?_
                refine zF_call (k := 31) (cl := 5) (n := 2) (i := .invokevirtual 39) (args := [(15, 0), (0, 1)]) (rest := []) (g1 := (r5.2, hm, o)) (r1 := some (0, r5.1)) (by decide +kernel) rfl rfl rfl (st' := [(0, r5.1)]) rfl (S31 (Nat.le_trans (by decide) hd) 1 r1 _ q12) ?_
                obtain ⟨q13, e⟩ := zG_s e
                exact zF_rbC (by decide +kernel) q13 e
        · refine zF_blk (m := []) (d := 0) (b := B154_8) (gs := [¬ (¬ (h 326 0 0) = 16)]) (c' := (51, [some (17, 0), some (19, v1), some (0, (h 326 0 0)), none], [], (r1, hm, o))) K154_8 rfl ⟨q5, trivial⟩ ?_
          exact T154_1 hd v1 (h 326 0 0) r1 _ e
    · refine zF_blk (m := []) (d := 0) (b := B154_10) (gs := [¬ (¬ (h 326 0 0) = 14)]) (c' := (27, [some (17, 0), some (19, v1), some (0, (h 326 0 0)), none], [], (r1, hm, o))) K154_10 rfl ⟨q3, trivial⟩ ?_
      refine zF_blk (m := [true, false, true, false]) (d := 0) (b := []) (gs := []) (c' := (27, [some (17, 0), none, some (0, (h 326 0 0)), none], [], (r1, hm, o))) rfl rfl trivial ?_
      exact T154_0 hd (h 326 0 0) r1 _ e
def B150b_0 : List zRow := [(0, .aload_n 0, 1, (0, 0, 0)), (1, .aload_n 1, 1, (0, 0, 0)), (2, .iload_n 2, 1, (0, 0, 0))]
theorem K150b_0 : zRk 150 B150b_0 = true := by decide +kernel
def B150b_1 : List zRow := [(11, .iconst 0, 1, (0, 0, 0)), (12, .istore_n 3, 1, (0, 0, 0))]
theorem K150b_1 : zRk 150 B150b_1 = true := by decide +kernel
def B150b_2 : List zRow := [(9, .iconst 0, 1, (0, 0, 0))]
theorem K150b_2 : zRk 150 B150b_2 = true := by decide +kernel
def B150b_3 : List zRow := [(6, .ifCond .ne 5, 3, (0, 0, 0))]
theorem K150b_3 : zRk 150 B150b_3 = true := by decide +kernel
def B150b_4 : List zRow := [(67, .iconst 1, 1, (0, 0, 0))]
theorem K150b_4 : zRk 150 B150b_4 = true := by decide +kernel
def B150b_5 : List zRow := [(20, .aload_n 0, 1, (0, 0, 0)), (21, .getfield 18, 3, (7, 1, 23)), (24, .bipush 11, 2, (0, 0, 0))]
theorem K150b_5 : zRk 150 B150b_5 = true := by decide +kernel
def B150b_6 : List zRow := [(32, .aload_n 0, 1, (0, 0, 0)), (33, .getfield 18, 3, (7, 1, 23))]
theorem K150b_6 : zRk 150 B150b_6 = true := by decide +kernel
def B150b_7 : List zRow := [(39, .aload_n 0, 1, (0, 0, 0)), (40, .aload_n 1, 1, (0, 0, 0)), (41, .iload_n 2, 1, (0, 0, 0))]
theorem K150b_7 : zRk 150 B150b_7 = true := by decide +kernel
def B150b_8 : List zRow := [(50, .aload_n 0, 1, (0, 0, 0)), (51, .getfield 12, 3, (7, 0, 155)), (54, .bipush 11, 2, (0, 0, 0)), (56, .iconst 0, 1, (0, 0, 0)), (57, .iconst 0, 1, (0, 0, 0))]
theorem K150b_8 : zRk 150 B150b_8 = true := by decide +kernel
def B150b_9 : List zRow := [(61, .iinc 3 1, 3, (0, 0, 0)), (64, .goto (-51), 3, (0, 0, 0))]
theorem K150b_9 : zRk 150 B150b_9 = true := by decide +kernel
def B150b_10 : List zRow := [(48, .iconst 0, 1, (0, 0, 0))]
theorem K150b_10 : zRk 150 B150b_10 = true := by decide +kernel
def B150b_11 : List zRow := [(45, .ifCond .ne 5, 3, (0, 0, 0))]
theorem K150b_11 : zRk 150 B150b_11 = true := by decide +kernel
def B150b_12 : List zRow := [(29, .ifCond .eq 38, 3, (0, 0, 0))]
theorem K150b_12 : zRk 150 B150b_12 = true := by decide +kernel
def B150b_13 : List zRow := [(13, .iload_n 3, 1, (0, 0, 0)), (14, .sipush 940, 3, (0, 0, 0)), (17, .if_icmp .ge 50, 3, (0, 0, 0))]
theorem K150b_13 : zRk 150 B150b_13 = true := by decide +kernel
def F150b_0 (kR : Int → Int → zHC → Option (Int × zHC)) : Nat → Int → Int → Int → zHC → Option (Int × zHC)
  | 0, _, _, _, _ => none
  | n + 1, v1, v2, v3, h => if 940 ≤ v3 then some (1, h) else (F152 11 h).bind fun r1 => if r1 = 0 then some (1, h) else (F21 h).bind fun r2 => (kR v1 v2 r2).bind fun r3 => if ¬ r3.1 = 0 then (F153 1 11 0 0 r3.2).bind fun r4 => (F150b_0 kR n) v1 v2 (wadd v3 1) r4 else some (0, r3.2)
set_option maxRecDepth 100000 in
theorem T150b_0 {spec : zRn zH2} {hm : zHM} {o : Int → Int} {d : Nat} {DR : Nat} (hd : DR + 3 ≤ d) (kR : Int → Int → zHC → Option (Int × zHC)) (hkR : ∀ (d' : Nat), DR ≤ d' → ∀ (v1 : Int) (v2 : Int) (h : zHC) (v : (Int × zHC)), kR v1 v2 h = some v → zRu2 spec d' 151 [(17, 0), (19, v1), (0, v2)] (h, hm, o) (some (0, v.1)) (v.2, hm, o)) : ∀ (n : Nat) (v1 : Int) (v2 : Int) (v3 : Int) (h : zHC) (v : (Int × zHC)), F150b_0 kR n v1 v2 v3 h = some v → zFin 0 (fun _ => 0) (zRu2 spec d) 150 (some (0, v.1)) (v.2, hm, o) (13, [some (17, 0), some (19, v1), some (0, v2), some (0, v3)], [], (h, hm, o)) := by
  intro n
  induction n with
  | zero => intro v1 v2 v3 h v e; unfold F150b_0 at e; cases e
  | succ n hk0 =>
    intro v1 v2 v3 h v e
    unfold F150b_0 at e
    rcases zI_s e with ⟨q1, e⟩ | ⟨q1, e⟩
    · refine zF_blk (m := []) (d := 1) (b := B150b_13) (gs := [940 ≤ v3]) (c' := (67, [some (17, 0), some (19, v1), some (0, v2), some (0, v3)], [], (h, hm, o))) K150b_13 rfl ⟨q1, trivial⟩ ?_
      refine zF_blk (m := []) (d := 0) (b := B150b_4) (gs := []) (c' := (68, [some (17, 0), some (19, v1), some (0, v2), some (0, v3)], [(0, 1)], (h, hm, o))) K150b_4 rfl trivial ?_
      exact zF_rbC (by decide +kernel) (Or.inr rfl) e
    · refine zF_blk (m := []) (d := 0) (b := B150b_13) (gs := [¬ (940 ≤ v3)]) (c' := (20, [some (17, 0), some (19, v1), some (0, v2), some (0, v3)], [], (h, hm, o))) K150b_13 rfl ⟨q1, trivial⟩ ?_
      obtain ⟨r1, q2, e⟩ := zB_s e
      refine zF_blk (m := []) (d := 0) (b := B150b_5) (gs := []) (c' := (26, [some (17, 0), some (19, v1), some (0, v2), some (0, v3)], [(0, 11), (15, 0)], (h, hm, o))) K150b_5 rfl trivial ?_
      refine zF_call (k := 152) (cl := 5) (n := 2) (i := .invokevirtual 46) (args := [(15, 0), (0, 11)]) (rest := []) (g1 := (h, hm, o)) (r1 := some (0, r1)) (by decide +kernel) rfl rfl rfl (st' := [(0, r1)]) rfl (S152 (by omega) 11 h _ q2) ?_
      rcases zI_s e with ⟨q3, e⟩ | ⟨q3, e⟩
      · refine zF_blk (m := []) (d := 1) (b := B150b_12) (gs := [r1 = 0]) (c' := (67, [some (17, 0), some (19, v1), some (0, v2), some (0, v3)], [], (h, hm, o))) K150b_12 rfl ⟨q3, trivial⟩ ?_
        refine zF_blk (m := []) (d := 0) (b := B150b_4) (gs := []) (c' := (68, [some (17, 0), some (19, v1), some (0, v2), some (0, v3)], [(0, 1)], (h, hm, o))) K150b_4 rfl trivial ?_
        exact zF_rbC (by decide +kernel) (Or.inr rfl) e
      · refine zF_blk (m := []) (d := 0) (b := B150b_12) (gs := [¬ (r1 = 0)]) (c' := (32, [some (17, 0), some (19, v1), some (0, v2), some (0, v3)], [], (h, hm, o))) K150b_12 rfl ⟨q3, trivial⟩ ?_
        obtain ⟨r2, q4, e⟩ := zB_s e
        refine zF_blk (m := []) (d := 0) (b := B150b_6) (gs := []) (c' := (36, [some (17, 0), some (19, v1), some (0, v2), some (0, v3)], [(15, 0)], (h, hm, o))) K150b_6 rfl trivial ?_
        refine zF_call (k := 21) (cl := 5) (n := 1) (i := .invokevirtual 49) (args := [(15, 0)]) (rest := []) (g1 := (r2, hm, o)) (r1 := none) (by decide +kernel) rfl rfl rfl (st' := []) rfl (S21 (by omega)  h _ q4) ?_
        obtain ⟨r3, q5, e⟩ := zB_s e
        refine zF_blk (m := []) (d := 0) (b := B150b_7) (gs := []) (c' := (42, [some (17, 0), some (19, v1), some (0, v2), some (0, v3)], [(0, v2), (19, v1), (17, 0)], (r2, hm, o))) K150b_7 rfl trivial ?_
        refine zF_call (k := 151) (cl := 7) (n := 3) (i := .invokevirtual 56) (args := [(17, 0), (19, v1), (0, v2)]) (rest := []) (g1 := (r3.2, hm, o)) (r1 := some (0, r3.1)) (by decide +kernel) rfl rfl rfl (st' := [(0, r3.1)]) rfl (hkR _ (by omega) v1 v2 r2 _ q5) ?_
        rcases zI_s e with ⟨q6, e⟩ | ⟨q6, e⟩
        · refine zF_blk (m := []) (d := 1) (b := B150b_11) (gs := [¬ r3.1 = 0]) (c' := (50, [some (17, 0), some (19, v1), some (0, v2), some (0, v3)], [], (r3.2, hm, o))) K150b_11 rfl ⟨q6, trivial⟩ ?_
          obtain ⟨r4, q7, e⟩ := zB_s e
          refine zF_blk (m := []) (d := 0) (b := B150b_8) (gs := []) (c' := (58, [some (17, 0), some (19, v1), some (0, v2), some (0, v3)], [(0, 0), (0, 0), (0, 11), (16, 1)], (r3.2, hm, o))) K150b_8 rfl trivial ?_
          refine zF_call (k := 153) (cl := 6) (n := 4) (i := .invokevirtual 52) (args := [(16, 1), (0, 11), (0, 0), (0, 0)]) (rest := []) (g1 := (r4, hm, o)) (r1 := none) (by decide +kernel) rfl rfl rfl (st' := []) rfl (S153 (by omega) 1 11 0 0 r3.2 _ q7) ?_
          refine zF_blk (m := []) (d := 0) (b := B150b_9) (gs := []) (c' := (13, [some (17, 0), some (19, v1), some (0, v2), some (0, (wadd v3 1))], [], (r4, hm, o))) K150b_9 rfl trivial ?_
          exact hk0 v1 v2 (wadd v3 1) r4 _ e
        · refine zF_blk (m := []) (d := 0) (b := B150b_11) (gs := [¬ (¬ r3.1 = 0)]) (c' := (48, [some (17, 0), some (19, v1), some (0, v2), some (0, v3)], [], (r3.2, hm, o))) K150b_11 rfl ⟨q6, trivial⟩ ?_
          refine zF_blk (m := []) (d := 0) (b := B150b_10) (gs := []) (c' := (49, [some (17, 0), some (19, v1), some (0, v2), some (0, v3)], [(0, 0)], (r3.2, hm, o))) K150b_10 rfl trivial ?_
          exact zF_rbC (by decide +kernel) (Or.inl rfl) e
/-- EchoVale$SentenceText.readJoined(LEchoVale$Valley;I)Z -/
def F150b (kR : Int → Int → zHC → Option (Int × zHC)) (v1 : Int) (v2 : Int) (h : zHC) : Option (Int × zHC) := (kR v1 v2 h).bind fun r1 => if ¬ r1.1 = 0 then F150b_0 kR zFu v1 v2 0 r1.2 else some (0, r1.2)
set_option maxRecDepth 100000 in
theorem S150b {spec : zRn zH2} {hm : zHM} {o : Int → Int} {d : Nat} {DR : Nat} (hd : DR + 4 ≤ d) (kR : Int → Int → zHC → Option (Int × zHC)) (hkR : ∀ (d' : Nat), DR ≤ d' → ∀ (v1 : Int) (v2 : Int) (h : zHC) (v : (Int × zHC)), kR v1 v2 h = some v → zRu2 spec d' 151 [(17, 0), (19, v1), (0, v2)] (h, hm, o) (some (0, v.1)) (v.2, hm, o)) (v1 : Int) (v2 : Int) (h : zHC) (v : (Int × zHC)) (e : F150b kR v1 v2 h = some v) : zRu2 spec d 150 [(17, 0), (19, v1), (0, v2)] (h, hm, o) (some (0, v.1)) (v.2, hm, o) := by
  refine zF_in (D := DR + 3) (mx := 4) (L := [some (17, 0), some (19, v1), some (0, v2), none]) (by decide +kernel) rfl rfl hd (fun d hd => ?_)
  unfold F150b at e
  obtain ⟨r1, q1, e⟩ := zB_s e
  refine zF_blk (m := []) (d := 0) (b := B150b_0) (gs := []) (c' := (3, [some (17, 0), some (19, v1), some (0, v2), none], [(0, v2), (19, v1), (17, 0)], (h, hm, o))) K150b_0 rfl trivial ?_
  refine zF_call (k := 151) (cl := 7) (n := 3) (i := .invokevirtual 56) (args := [(17, 0), (19, v1), (0, v2)]) (rest := []) (g1 := (r1.2, hm, o)) (r1 := some (0, r1.1)) (by decide +kernel) rfl rfl rfl (st' := [(0, r1.1)]) rfl (hkR _ (by omega) v1 v2 h _ q1) ?_
  rcases zI_s e with ⟨q2, e⟩ | ⟨q2, e⟩
  · refine zF_blk (m := []) (d := 1) (b := B150b_3) (gs := [¬ r1.1 = 0]) (c' := (11, [some (17, 0), some (19, v1), some (0, v2), none], [], (r1.2, hm, o))) K150b_3 rfl ⟨q2, trivial⟩ ?_
    refine zF_blk (m := []) (d := 0) (b := B150b_1) (gs := []) (c' := (13, [some (17, 0), some (19, v1), some (0, v2), some (0, 0)], [], (r1.2, hm, o))) K150b_1 rfl trivial ?_
    exact T150b_0 hd kR hkR zFu v1 v2 0 r1.2 _ e
  · refine zF_blk (m := []) (d := 0) (b := B150b_3) (gs := [¬ (¬ r1.1 = 0)]) (c' := (9, [some (17, 0), some (19, v1), some (0, v2), none], [], (r1.2, hm, o))) K150b_3 rfl ⟨q2, trivial⟩ ?_
    refine zF_blk (m := []) (d := 0) (b := B150b_2) (gs := []) (c' := (10, [some (17, 0), some (19, v1), some (0, v2), none], [(0, 0)], (r1.2, hm, o))) K150b_2 rfl trivial ?_
    exact zF_rbC (by decide +kernel) (Or.inl rfl) e
