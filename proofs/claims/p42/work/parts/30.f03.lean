/-! Functions of the methods, by wip/gen/lift.py. -/
noncomputable def B174_0 : List zRow := [(0, .aload_n 0, 1, (0, 0, 0)), (1, .iconst 0, 1, (0, 0, 0)), (2, .putfield 81, 3, (12, 0, 0)), (5, .aload_n 0, 1, (0, 0, 0)), (6, .aload_n 0, 1, (0, 0, 0))]
theorem K174_0 : zRk 174 B174_0 = true := zRw_ok (by decide +kernel)
noncomputable def B174_1 : List zRow := [(10, .putfield 96, 3, (12, 3, 0)), (13, .aload_n 0, 1, (0, 0, 0)), (14, .iload_n 1, 1, (0, 0, 0)), (15, .putfield 104, 3, (12, 4, 0)), (18, .aload_n 0, 1, (0, 0, 0)), (19, .iconst 0, 1, (0, 0, 0)), (20, .putfield 142, 3, (12, 10, 0)), (23, .aload_n 0, 1, (0, 0, 0)), (24, .iconst 0, 1, (0, 0, 0)), (25, .putfield 98, 3, (12, 5, 0)), (28, .aload_n 0, 1, (0, 0, 0))]
theorem K174_1 : zRk 174 B174_1 = true := zRw_ok (by decide +kernel)
/-- EchoValeModel.begin(I)V -/
def F174 (v1 : Int) (h : zHM) : Option zHM := (F175 (mset h 0 0 0)).bind fun r1 => (F176 (mset (mset (mset (mset r1.2 3 0 r1.1) 4 0 v1) 10 0 0) 5 0 0)).bind fun r2 => some r2
set_option maxRecDepth 100000 in
theorem S174 {spec : zRn zH2} {hc : zHC} {o : Int → Int} {d : Nat} (hd : 3 ≤ d) (v1 : Int) (h : zHM) (v : zHM) (e : F174 v1 h = some v) : zRu2 spec d 174 [(22, 0), (0, v1)] (hc, h, o) none (hc, v, o) := by
  refine zF_in (D := 2) (mx := 2) (L := [some (22, 0), some (0, v1)]) (by decide +kernel) rfl rfl hd (fun d hd => ?_)
  unfold F174 at e
  obtain ⟨r1, q1, e⟩ := zB_s e
  refine zF_blk (m := []) (d := 0) (b := B174_0) (gs := []) (c' := (7, [some (22, 0), some (0, v1)], [(22, 0), (22, 0)], (hc, (mset h 0 0 0), o))) K174_0 rfl trivial ?_
  refine zF_call (k := 175) (cl := 12) (n := 1) (i := .invokevirtual 168) (args := [(22, 0)]) (rest := [(22, 0)]) (g1 := (hc, r1.2, o)) (r1 := some (0, r1.1)) (zCk1_w (by decide +kernel)) rfl rfl rfl (st' := [(0, r1.1), (22, 0)]) rfl (S175 (Nat.le_trans (by decide) hd)  (mset h 0 0 0) _ q1) ?_
  obtain ⟨r2, q2, e⟩ := zB_s e
  refine zF_blk (m := []) (d := 0) (b := B174_1) (gs := []) (c' := (29, [some (22, 0), some (0, v1)], [(22, 0)], (hc, (mset (mset (mset (mset r1.2 3 0 r1.1) 4 0 v1) 10 0 0) 5 0 0), o))) K174_1 rfl trivial ?_
  refine zF_call (k := 176) (cl := 12) (n := 1) (i := .invokevirtual 162) (args := [(22, 0)]) (rest := []) (g1 := (hc, r2, o)) (r1 := none) (zCk1_w (by decide +kernel)) rfl rfl rfl (st' := []) rfl (S176 (Nat.le_trans (by decide) hd)  (mset (mset (mset (mset r1.2 3 0 r1.1) 4 0 v1) 10 0 0) 5 0 0) _ q2) ?_
  obtain rfl := Option.some.inj e
  exact zF_rv (zRe1_w (by decide +kernel))
noncomputable def B183_0 : List zRow := [(23, .ldc2_w 130, 3, (0, 0, 27)), (26, .lload 6, 2, (0, 0, 0)), (28, .lmul, 1, (0, 0, 0)), (29, .iload_n 2, 1, (0, 0, 0)), (30, .i2l, 1, (0, 0, 0)), (31, .ladd, 1, (0, 0, 0)), (32, .ldc2_w 132, 3, (0, 0, 96)), (35, .lsub, 1, (0, 0, 0)), (36, .lstore 6, 2, (0, 0, 0))]
theorem K183_0 : zRk 183 B183_0 = true := zRw_ok (by decide +kernel)
noncomputable def B183_1 : List zRow := [(0, .ldc2_w 130, 3, (0, 0, 27)), (3, .iload_n 0, 1, (0, 0, 0)), (4, .i2l, 1, (0, 0, 0)), (5, .ldc2_w 132, 3, (0, 0, 96)), (8, .lsub, 1, (0, 0, 0)), (9, .lmul, 1, (0, 0, 0)), (10, .iload_n 1, 1, (0, 0, 0)), (11, .i2l, 1, (0, 0, 0)), (12, .ladd, 1, (0, 0, 0)), (13, .ldc2_w 132, 3, (0, 0, 96)), (16, .lsub, 1, (0, 0, 0)), (17, .lstore 6, 2, (0, 0, 0)), (19, .iload_n 2, 1, (0, 0, 0)), (20, .ifCond .le 18, 3, (0, 0, 0))]
theorem K183_1 : zRk 183 B183_1 = true := zRw_ok (by decide +kernel)
noncomputable def B183_2 : List zRow := [(42, .ldc2_w 130, 3, (0, 0, 27)), (45, .lload 6, 2, (0, 0, 0)), (47, .lmul, 1, (0, 0, 0)), (48, .iload_n 3, 1, (0, 0, 0)), (49, .i2l, 1, (0, 0, 0)), (50, .ladd, 1, (0, 0, 0)), (51, .ldc2_w 132, 3, (0, 0, 96)), (54, .lsub, 1, (0, 0, 0)), (55, .lstore 6, 2, (0, 0, 0))]
theorem K183_2 : zRk 183 B183_2 = true := zRw_ok (by decide +kernel)
noncomputable def B183_3 : List zRow := [(38, .iload_n 3, 1, (0, 0, 0)), (39, .ifCond .le 18, 3, (0, 0, 0))]
theorem K183_3 : zRk 183 B183_3 = true := zRw_ok (by decide +kernel)
noncomputable def B183_4 : List zRow := [(62, .ldc2_w 130, 3, (0, 0, 27)), (65, .lload 6, 2, (0, 0, 0)), (67, .lmul, 1, (0, 0, 0)), (68, .iload 4, 2, (0, 0, 0)), (70, .i2l, 1, (0, 0, 0)), (71, .ladd, 1, (0, 0, 0)), (72, .ldc2_w 132, 3, (0, 0, 96)), (75, .lsub, 1, (0, 0, 0)), (76, .lstore 6, 2, (0, 0, 0))]
theorem K183_4 : zRk 183 B183_4 = true := zRw_ok (by decide +kernel)
noncomputable def B183_5 : List zRow := [(57, .iload 4, 2, (0, 0, 0)), (59, .ifCond .le 19, 3, (0, 0, 0))]
theorem K183_5 : zRk 183 B183_5 = true := zRw_ok (by decide +kernel)
noncomputable def B183_6 : List zRow := [(100, .lload 6, 2, (0, 0, 0))]
theorem K183_6 : zRk 183 B183_6 = true := zRw_ok (by decide +kernel)
noncomputable def B183_7 : List zRow := [(83, .ldc2_w 130, 3, (0, 0, 27)), (86, .lload 6, 2, (0, 0, 0)), (88, .lmul, 1, (0, 0, 0)), (89, .iload 5, 2, (0, 0, 0)), (91, .i2l, 1, (0, 0, 0)), (92, .ladd, 1, (0, 0, 0)), (93, .ldc2_w 132, 3, (0, 0, 96)), (96, .lsub, 1, (0, 0, 0)), (97, .goto 5, 3, (0, 0, 0))]
theorem K183_7 : zRk 183 B183_7 = true := zRw_ok (by decide +kernel)
noncomputable def B183_8 : List zRow := [(78, .iload 5, 2, (0, 0, 0)), (80, .ifCond .le 20, 3, (0, 0, 0))]
theorem K183_8 : zRk 183 B183_8 = true := zRw_ok (by decide +kernel)
def F183_2 (v5 : Int) (v6 : Int) : Option Int := if v5 ≤ 0 then some v6 else some (qsub (qadd (qmul 27 v6) v5) 96)
set_option maxRecDepth 100000 in
theorem T183_2 {spec : zRn zH2} {hc : zHC} {o : Int → Int} {d : Nat} (hd : 0 ≤ d) (h : zHM) (v5 : Int) (v6 : Int) (v : Int) (e : F183_2 v5 v6 = some v) : zFin 0 (fun _ => 0) (zRu2 spec d) 183 (some (1, v)) (hc, h, o) (78, [none, none, none, none, none, some (0, v5), some (1, v6), none], [], (hc, h, o)) := by
  unfold F183_2 at e
  rcases zI_s e with ⟨q1, e⟩ | ⟨q1, e⟩
  · refine zF_blk (m := []) (d := 1) (b := B183_8) (gs := [v5 ≤ 0]) (c' := (100, [none, none, none, none, none, some (0, v5), some (1, v6), none], [], (hc, h, o))) K183_8 rfl ⟨q1, trivial⟩ ?_
    refine zF_blk (m := []) (d := 0) (b := B183_6) (gs := []) (c' := (102, [none, none, none, none, none, some (0, v5), some (1, v6), none], [(1, v6)], (hc, h, o))) K183_6 rfl trivial ?_
    obtain rfl := Option.some.inj e
    exact zF_rl (zRe1_w (by decide +kernel))
  · refine zF_blk (m := []) (d := 0) (b := B183_8) (gs := [¬ (v5 ≤ 0)]) (c' := (83, [none, none, none, none, none, some (0, v5), some (1, v6), none], [], (hc, h, o))) K183_8 rfl ⟨q1, trivial⟩ ?_
    refine zF_blk (m := []) (d := 0) (b := B183_7) (gs := []) (c' := (102, [none, none, none, none, none, some (0, v5), some (1, v6), none], [(1, (qsub (qadd (qmul 27 v6) v5) 96))], (hc, h, o))) K183_7 rfl trivial ?_
    obtain rfl := Option.some.inj e
    exact zF_rl (zRe1_w (by decide +kernel))
def F183_1 (v4 : Int) (v5 : Int) (v6 : Int) : Option Int := if v4 ≤ 0 then F183_2 v5 v6 else F183_2 v5 (qsub (qadd (qmul 27 v6) v4) 96)
set_option maxRecDepth 100000 in
theorem T183_1 {spec : zRn zH2} {hc : zHC} {o : Int → Int} {d : Nat} (hd : 0 ≤ d) (h : zHM) (v4 : Int) (v5 : Int) (v6 : Int) (v : Int) (e : F183_1 v4 v5 v6 = some v) : zFin 0 (fun _ => 0) (zRu2 spec d) 183 (some (1, v)) (hc, h, o) (57, [none, none, none, none, some (0, v4), some (0, v5), some (1, v6), none], [], (hc, h, o)) := by
  unfold F183_1 at e
  rcases zI_s e with ⟨q1, e⟩ | ⟨q1, e⟩
  · refine zF_blk (m := []) (d := 1) (b := B183_5) (gs := [v4 ≤ 0]) (c' := (78, [none, none, none, none, some (0, v4), some (0, v5), some (1, v6), none], [], (hc, h, o))) K183_5 rfl ⟨q1, trivial⟩ ?_
    refine zF_blk (m := [false, false, false, false, false, true, true, false]) (d := 0) (b := []) (gs := []) (c' := (78, [none, none, none, none, none, some (0, v5), some (1, v6), none], [], (hc, h, o))) rfl rfl trivial ?_
    exact T183_2 hd h v5 v6 _ e
  · refine zF_blk (m := []) (d := 0) (b := B183_5) (gs := [¬ (v4 ≤ 0)]) (c' := (62, [none, none, none, none, some (0, v4), some (0, v5), some (1, v6), none], [], (hc, h, o))) K183_5 rfl ⟨q1, trivial⟩ ?_
    refine zF_blk (m := []) (d := 0) (b := B183_4) (gs := []) (c' := (78, [none, none, none, none, some (0, v4), some (0, v5), some (1, (qsub (qadd (qmul 27 v6) v4) 96)), none], [], (hc, h, o))) K183_4 rfl trivial ?_
    refine zF_blk (m := [false, false, false, false, false, true, true, false]) (d := 0) (b := []) (gs := []) (c' := (78, [none, none, none, none, none, some (0, v5), some (1, (qsub (qadd (qmul 27 v6) v4) 96)), none], [], (hc, h, o))) rfl rfl trivial ?_
    exact T183_2 hd h v5 (qsub (qadd (qmul 27 v6) v4) 96) _ e
def F183_0 (v3 : Int) (v4 : Int) (v5 : Int) (v6 : Int) : Option Int := if v3 ≤ 0 then F183_1 v4 v5 v6 else F183_1 v4 v5 (qsub (qadd (qmul 27 v6) v3) 96)
set_option maxRecDepth 100000 in
theorem T183_0 {spec : zRn zH2} {hc : zHC} {o : Int → Int} {d : Nat} (hd : 0 ≤ d) (h : zHM) (v3 : Int) (v4 : Int) (v5 : Int) (v6 : Int) (v : Int) (e : F183_0 v3 v4 v5 v6 = some v) : zFin 0 (fun _ => 0) (zRu2 spec d) 183 (some (1, v)) (hc, h, o) (38, [none, none, none, some (0, v3), some (0, v4), some (0, v5), some (1, v6), none], [], (hc, h, o)) := by
  unfold F183_0 at e
  rcases zI_s e with ⟨q1, e⟩ | ⟨q1, e⟩
  · refine zF_blk (m := []) (d := 1) (b := B183_3) (gs := [v3 ≤ 0]) (c' := (57, [none, none, none, some (0, v3), some (0, v4), some (0, v5), some (1, v6), none], [], (hc, h, o))) K183_3 rfl ⟨q1, trivial⟩ ?_
    refine zF_blk (m := [false, false, false, false, true, true, true, false]) (d := 0) (b := []) (gs := []) (c' := (57, [none, none, none, none, some (0, v4), some (0, v5), some (1, v6), none], [], (hc, h, o))) rfl rfl trivial ?_
    exact T183_1 hd h v4 v5 v6 _ e
  · refine zF_blk (m := []) (d := 0) (b := B183_3) (gs := [¬ (v3 ≤ 0)]) (c' := (42, [none, none, none, some (0, v3), some (0, v4), some (0, v5), some (1, v6), none], [], (hc, h, o))) K183_3 rfl ⟨q1, trivial⟩ ?_
    refine zF_blk (m := []) (d := 0) (b := B183_2) (gs := []) (c' := (57, [none, none, none, some (0, v3), some (0, v4), some (0, v5), some (1, (qsub (qadd (qmul 27 v6) v3) 96)), none], [], (hc, h, o))) K183_2 rfl trivial ?_
    refine zF_blk (m := [false, false, false, false, true, true, true, false]) (d := 0) (b := []) (gs := []) (c' := (57, [none, none, none, none, some (0, v4), some (0, v5), some (1, (qsub (qadd (qmul 27 v6) v3) 96)), none], [], (hc, h, o))) rfl rfl trivial ?_
    exact T183_1 hd h v4 v5 (qsub (qadd (qmul 27 v6) v3) 96) _ e
/-- EchoValeModel.spelt(IIIIII)J -/
def F183 (v0 : Int) (v1 : Int) (v2 : Int) (v3 : Int) (v4 : Int) (v5 : Int) : Option Int := if v2 ≤ 0 then F183_0 v3 v4 v5 (qsub (qadd (qmul 27 (qsub v0 96)) v1) 96) else F183_0 v3 v4 v5 (qsub (qadd (qmul 27 (qsub (qadd (qmul 27 (qsub v0 96)) v1) 96)) v2) 96)
set_option maxRecDepth 100000 in
theorem S183 {spec : zRn zH2} {hc : zHC} {o : Int → Int} {d : Nat} (hd : 1 ≤ d) (v0 : Int) (v1 : Int) (v2 : Int) (v3 : Int) (v4 : Int) (v5 : Int) (h : zHM) (v : Int) (e : F183 v0 v1 v2 v3 v4 v5 = some v) : zRu2 spec d 183 [(0, v0), (0, v1), (0, v2), (0, v3), (0, v4), (0, v5)] (hc, h, o) (some (1, v)) (hc, h, o) := by
  refine zF_in (D := 0) (mx := 8) (L := [some (0, v0), some (0, v1), some (0, v2), some (0, v3), some (0, v4), some (0, v5), none, none]) (by decide +kernel) rfl rfl hd (fun d hd => ?_)
  unfold F183 at e
  rcases zI_s e with ⟨q1, e⟩ | ⟨q1, e⟩
  · refine zF_blk (m := []) (d := 1) (b := B183_1) (gs := [v2 ≤ 0]) (c' := (38, [some (0, v0), some (0, v1), some (0, v2), some (0, v3), some (0, v4), some (0, v5), some (1, (qsub (qadd (qmul 27 (qsub v0 96)) v1) 96)), none], [], (hc, h, o))) K183_1 rfl ⟨q1, trivial⟩ ?_
    refine zF_blk (m := [false, false, false, true, true, true, true, false]) (d := 0) (b := []) (gs := []) (c' := (38, [none, none, none, some (0, v3), some (0, v4), some (0, v5), some (1, (qsub (qadd (qmul 27 (qsub v0 96)) v1) 96)), none], [], (hc, h, o))) rfl rfl trivial ?_
    exact T183_0 hd h v3 v4 v5 (qsub (qadd (qmul 27 (qsub v0 96)) v1) 96) _ e
  · refine zF_blk (m := []) (d := 0) (b := B183_1) (gs := [¬ (v2 ≤ 0)]) (c' := (23, [some (0, v0), some (0, v1), some (0, v2), some (0, v3), some (0, v4), some (0, v5), some (1, (qsub (qadd (qmul 27 (qsub v0 96)) v1) 96)), none], [], (hc, h, o))) K183_1 rfl ⟨q1, trivial⟩ ?_
    refine zF_blk (m := []) (d := 0) (b := B183_0) (gs := []) (c' := (38, [some (0, v0), some (0, v1), some (0, v2), some (0, v3), some (0, v4), some (0, v5), some (1, (qsub (qadd (qmul 27 (qsub (qadd (qmul 27 (qsub v0 96)) v1) 96)) v2) 96)), none], [], (hc, h, o))) K183_0 rfl trivial ?_
    refine zF_blk (m := [false, false, false, true, true, true, true, false]) (d := 0) (b := []) (gs := []) (c' := (38, [none, none, none, some (0, v3), some (0, v4), some (0, v5), some (1, (qsub (qadd (qmul 27 (qsub (qadd (qmul 27 (qsub v0 96)) v1) 96)) v2) 96)), none], [], (hc, h, o))) rfl rfl trivial ?_
    exact T183_0 hd h v3 v4 v5 (qsub (qadd (qmul 27 (qsub (qadd (qmul 27 (qsub v0 96)) v1) 96)) v2) 96) _ e
noncomputable def B182_0 : List zRow := [(96, .bipush 108, 2, (0, 0, 0)), (98, .bipush 97, 2, (0, 0, 0)), (100, .bipush 110, 2, (0, 0, 0)), (102, .bipush 100, 2, (0, 0, 0)), (104, .iconst 0, 1, (0, 0, 0)), (105, .iconst 0, 1, (0, 0, 0))]
theorem K182_0 : zRk 182 B182_0 = true := zRw_ok (by decide +kernel)
noncomputable def B182_1 : List zRow := [(0, .iload_n 0, 1, (0, 0, 0)), (1, .tableswitch 373 0 19 #[95, 109, 124, 140, 154, 168, 182, 196, 210, 224, 239, 251, 264, 277, 291, 306, 318, 330, 345, 359], 95, (0, 0, 0))]
theorem K182_1 : zRk 182 B182_1 = true := by decide +kernel
noncomputable def B182_2 : List zRow := [(110, .bipush 99, 2, (0, 0, 0)), (112, .bipush 108, 2, (0, 0, 0)), (114, .bipush 105, 2, (0, 0, 0)), (116, .bipush 102, 2, (0, 0, 0)), (118, .bipush 102, 2, (0, 0, 0)), (120, .iconst 0, 1, (0, 0, 0))]
theorem K182_2 : zRk 182 B182_2 = true := zRw_ok (by decide +kernel)
noncomputable def B182_3 : List zRow := [(125, .bipush 112, 2, (0, 0, 0)), (127, .bipush 101, 2, (0, 0, 0)), (129, .bipush 114, 2, (0, 0, 0)), (131, .bipush 115, 2, (0, 0, 0)), (133, .bipush 111, 2, (0, 0, 0)), (135, .bipush 110, 2, (0, 0, 0))]
theorem K182_3 : zRk 182 B182_3 = true := zRw_ok (by decide +kernel)
noncomputable def B182_4 : List zRow := [(141, .bipush 109, 2, (0, 0, 0)), (143, .bipush 111, 2, (0, 0, 0)), (145, .bipush 118, 2, (0, 0, 0)), (147, .bipush 101, 2, (0, 0, 0)), (149, .iconst 0, 1, (0, 0, 0)), (150, .iconst 0, 1, (0, 0, 0))]
theorem K182_4 : zRk 182 B182_4 = true := zRw_ok (by decide +kernel)
noncomputable def B182_5 : List zRow := [(155, .bipush 99, 2, (0, 0, 0)), (157, .bipush 97, 2, (0, 0, 0)), (159, .bipush 109, 2, (0, 0, 0)), (161, .bipush 112, 2, (0, 0, 0)), (163, .iconst 0, 1, (0, 0, 0)), (164, .iconst 0, 1, (0, 0, 0))]
theorem K182_5 : zRk 182 B182_5 = true := zRw_ok (by decide +kernel)
noncomputable def B182_6 : List zRow := [(169, .bipush 102, 2, (0, 0, 0)), (171, .bipush 101, 2, (0, 0, 0)), (173, .bipush 108, 2, (0, 0, 0)), (175, .bipush 116, 2, (0, 0, 0)), (177, .iconst 0, 1, (0, 0, 0)), (178, .iconst 0, 1, (0, 0, 0))]
theorem K182_6 : zRk 182 B182_6 = true := zRw_ok (by decide +kernel)
noncomputable def B182_7 : List zRow := [(183, .bipush 115, 2, (0, 0, 0)), (185, .bipush 110, 2, (0, 0, 0)), (187, .bipush 111, 2, (0, 0, 0)), (189, .bipush 119, 2, (0, 0, 0)), (191, .iconst 0, 1, (0, 0, 0)), (192, .iconst 0, 1, (0, 0, 0))]
theorem K182_7 : zRk 182 B182_7 = true := zRw_ok (by decide +kernel)
noncomputable def B182_8 : List zRow := [(197, .bipush 111, 2, (0, 0, 0)), (199, .bipush 119, 2, (0, 0, 0)), (201, .bipush 110, 2, (0, 0, 0)), (203, .bipush 115, 2, (0, 0, 0)), (205, .iconst 0, 1, (0, 0, 0)), (206, .iconst 0, 1, (0, 0, 0))]
theorem K182_8 : zRk 182 B182_8 = true := zRw_ok (by decide +kernel)
noncomputable def B182_9 : List zRow := [(211, .bipush 115, 2, (0, 0, 0)), (213, .bipush 97, 2, (0, 0, 0)), (215, .bipush 105, 2, (0, 0, 0)), (217, .bipush 100, 2, (0, 0, 0)), (219, .iconst 0, 1, (0, 0, 0)), (220, .iconst 0, 1, (0, 0, 0))]
theorem K182_9 : zRk 182 B182_9 = true := zRw_ok (by decide +kernel)
noncomputable def B182_10 : List zRow := [(225, .bipush 104, 2, (0, 0, 0)), (227, .bipush 101, 2, (0, 0, 0)), (229, .bipush 97, 2, (0, 0, 0)), (231, .bipush 114, 2, (0, 0, 0)), (233, .bipush 100, 2, (0, 0, 0)), (235, .iconst 0, 1, (0, 0, 0))]
theorem K182_10 : zRk 182 B182_10 = true := zRw_ok (by decide +kernel)
noncomputable def B182_11 : List zRow := [(240, .bipush 111, 2, (0, 0, 0)), (242, .bipush 114, 2, (0, 0, 0)), (244, .iconst 0, 1, (0, 0, 0)), (245, .iconst 0, 1, (0, 0, 0)), (246, .iconst 0, 1, (0, 0, 0)), (247, .iconst 0, 1, (0, 0, 0))]
theorem K182_11 : zRk 182 B182_11 = true := zRw_ok (by decide +kernel)
noncomputable def B182_12 : List zRow := [(252, .bipush 97, 2, (0, 0, 0)), (254, .bipush 110, 2, (0, 0, 0)), (256, .bipush 100, 2, (0, 0, 0)), (258, .iconst 0, 1, (0, 0, 0)), (259, .iconst 0, 1, (0, 0, 0)), (260, .iconst 0, 1, (0, 0, 0))]
theorem K182_12 : zRk 182 B182_12 = true := zRw_ok (by decide +kernel)
noncomputable def B182_13 : List zRow := [(265, .bipush 110, 2, (0, 0, 0)), (267, .bipush 111, 2, (0, 0, 0)), (269, .bipush 116, 2, (0, 0, 0)), (271, .iconst 0, 1, (0, 0, 0)), (272, .iconst 0, 1, (0, 0, 0)), (273, .iconst 0, 1, (0, 0, 0))]
theorem K182_13 : zRk 182 B182_13 = true := zRw_ok (by decide +kernel)
noncomputable def B182_14 : List zRow := [(278, .bipush 108, 2, (0, 0, 0)), (280, .bipush 111, 2, (0, 0, 0)), (282, .bipush 115, 2, (0, 0, 0)), (284, .bipush 116, 2, (0, 0, 0)), (286, .iconst 0, 1, (0, 0, 0)), (287, .iconst 0, 1, (0, 0, 0))]
theorem K182_14 : zRk 182 B182_14 = true := zRw_ok (by decide +kernel)
noncomputable def B182_15 : List zRow := [(292, .bipush 106, 2, (0, 0, 0)), (294, .bipush 111, 2, (0, 0, 0)), (296, .bipush 105, 2, (0, 0, 0)), (298, .bipush 110, 2, (0, 0, 0)), (300, .bipush 116, 2, (0, 0, 0)), (302, .iconst 0, 1, (0, 0, 0))]
theorem K182_15 : zRk 182 B182_15 = true := zRw_ok (by decide +kernel)
noncomputable def B182_16 : List zRow := [(307, .bipush 111, 2, (0, 0, 0)), (309, .bipush 102, 2, (0, 0, 0)), (311, .iconst 0, 1, (0, 0, 0)), (312, .iconst 0, 1, (0, 0, 0)), (313, .iconst 0, 1, (0, 0, 0)), (314, .iconst 0, 1, (0, 0, 0))]
theorem K182_16 : zRk 182 B182_16 = true := zRw_ok (by decide +kernel)
noncomputable def B182_17 : List zRow := [(319, .bipush 98, 2, (0, 0, 0)), (321, .bipush 121, 2, (0, 0, 0)), (323, .iconst 0, 1, (0, 0, 0)), (324, .iconst 0, 1, (0, 0, 0)), (325, .iconst 0, 1, (0, 0, 0)), (326, .iconst 0, 1, (0, 0, 0))]
theorem K182_17 : zRk 182 B182_17 = true := zRw_ok (by decide +kernel)
noncomputable def B182_18 : List zRow := [(331, .bipush 119, 2, (0, 0, 0)), (333, .bipush 111, 2, (0, 0, 0)), (335, .bipush 114, 2, (0, 0, 0)), (337, .bipush 116, 2, (0, 0, 0)), (339, .bipush 104, 2, (0, 0, 0)), (341, .iconst 0, 1, (0, 0, 0))]
theorem K182_18 : zRk 182 B182_18 = true := zRw_ok (by decide +kernel)
noncomputable def B182_19 : List zRow := [(346, .bipush 108, 2, (0, 0, 0)), (348, .bipush 111, 2, (0, 0, 0)), (350, .bipush 117, 2, (0, 0, 0)), (352, .bipush 100, 2, (0, 0, 0)), (354, .iconst 0, 1, (0, 0, 0)), (355, .iconst 0, 1, (0, 0, 0))]
theorem K182_19 : zRk 182 B182_19 = true := zRw_ok (by decide +kernel)
noncomputable def B182_20 : List zRow := [(360, .bipush 104, 2, (0, 0, 0)), (362, .bipush 111, 2, (0, 0, 0)), (364, .bipush 117, 2, (0, 0, 0)), (366, .bipush 114, 2, (0, 0, 0)), (368, .iconst 0, 1, (0, 0, 0)), (369, .iconst 0, 1, (0, 0, 0))]
theorem K182_20 : zRk 182 B182_20 = true := zRw_ok (by decide +kernel)
noncomputable def B182_21 : List zRow := [(374, .bipush 101, 2, (0, 0, 0)), (376, .bipush 99, 2, (0, 0, 0)), (378, .bipush 104, 2, (0, 0, 0)), (380, .bipush 111, 2, (0, 0, 0)), (382, .bipush 101, 2, (0, 0, 0)), (384, .bipush 115, 2, (0, 0, 0))]
theorem K182_21 : zRk 182 B182_21 = true := zRw_ok (by decide +kernel)
/-- EchoValeModel.wordOf(I)J -/
def F182 (v0 : Int) : Option Int := if v0 = 0 then (F183 108 97 110 100 0 0).bind fun r1 => some r1 else if v0 = 1 then (F183 99 108 105 102 102 0).bind fun r2 => some r2 else if v0 = 2 then (F183 112 101 114 115 111 110).bind fun r3 => some r3 else if v0 = 3 then (F183 109 111 118 101 0 0).bind fun r4 => some r4 else if v0 = 4 then (F183 99 97 109 112 0 0).bind fun r5 => some r5 else if v0 = 5 then (F183 102 101 108 116 0 0).bind fun r6 => some r6 else if v0 = 6 then (F183 115 110 111 119 0 0).bind fun r7 => some r7 else if v0 = 7 then (F183 111 119 110 115 0 0).bind fun r8 => some r8 else if v0 = 8 then (F183 115 97 105 100 0 0).bind fun r9 => some r9 else if v0 = 9 then (F183 104 101 97 114 100 0).bind fun r10 => some r10 else if v0 = 10 then (F183 111 114 0 0 0 0).bind fun r11 => some r11 else if v0 = 11 then (F183 97 110 100 0 0 0).bind fun r12 => some r12 else if v0 = 12 then (F183 110 111 116 0 0 0).bind fun r13 => some r13 else if v0 = 13 then (F183 108 111 115 116 0 0).bind fun r14 => some r14 else if v0 = 14 then (F183 106 111 105 110 116 0).bind fun r15 => some r15 else if v0 = 15 then (F183 111 102 0 0 0 0).bind fun r16 => some r16 else if v0 = 16 then (F183 98 121 0 0 0 0).bind fun r17 => some r17 else if v0 = 17 then (F183 119 111 114 116 104 0).bind fun r18 => some r18 else if v0 = 18 then (F183 108 111 117 100 0 0).bind fun r19 => some r19 else if v0 = 19 then (F183 104 111 117 114 0 0).bind fun r20 => some r20 else zG (v0 < 0 ∨ 19 < v0) ((F183 101 99 104 111 101 115).bind fun r21 => some r21)
set_option maxRecDepth 100000 in
theorem S182 {spec : zRn zH2} {hc : zHC} {o : Int → Int} {d : Nat} (hd : 2 ≤ d) (v0 : Int) (h : zHM) (v : Int) (e : F182 v0 = some v) : zRu2 spec d 182 [(0, v0)] (hc, h, o) (some (1, v)) (hc, h, o) := by
  refine zF_in (D := 1) (mx := 1) (L := [some (0, v0)]) (by decide +kernel) rfl rfl hd (fun d hd => ?_)
  unfold F182 at e
  rcases zI_s e with ⟨q1, e⟩ | ⟨q1, e⟩
  · refine zF_blk (m := []) (d := 0) (b := B182_1) (gs := [v0 = 0]) (c' := (96, [some (0, v0)], [], (hc, h, o))) K182_1 rfl ⟨q1, trivial⟩ ?_
    obtain ⟨r1, q2, e⟩ := zB_s e
    refine zF_blk (m := []) (d := 0) (b := B182_0) (gs := []) (c' := (106, [some (0, v0)], [(0, 0), (0, 0), (0, 100), (0, 110), (0, 97), (0, 108)], (hc, h, o))) K182_0 rfl trivial ?_
    refine zF_call (k := 183) (cl := 12) (n := 6) (i := .invokestatic 134) (args := [(0, 108), (0, 97), (0, 110), (0, 100), (0, 0), (0, 0)]) (rest := []) (g1 := (hc, h, o)) (r1 := some (1, r1)) (zCk1_w (by decide +kernel)) rfl rfl rfl (st' := [(1, r1)]) rfl (S183 (Nat.le_trans (by decide) hd) 108 97 110 100 0 0 h _ q2) ?_
    obtain rfl := Option.some.inj e
    exact zF_rl (zRe1_w (by decide +kernel))
  rcases zI_s e with ⟨q3, e⟩ | ⟨q3, e⟩
  · refine zF_blk (m := []) (d := 1) (b := B182_1) (gs := [v0 = 1]) (c' := (110, [some (0, v0)], [], (hc, h, o))) K182_1 rfl ⟨q3, trivial⟩ ?_
    obtain ⟨r2, q4, e⟩ := zB_s e
    refine zF_blk (m := []) (d := 0) (b := B182_2) (gs := []) (c' := (121, [some (0, v0)], [(0, 0), (0, 102), (0, 102), (0, 105), (0, 108), (0, 99)], (hc, h, o))) K182_2 rfl trivial ?_
    refine zF_call (k := 183) (cl := 12) (n := 6) (i := .invokestatic 134) (args := [(0, 99), (0, 108), (0, 105), (0, 102), (0, 102), (0, 0)]) (rest := []) (g1 := (hc, h, o)) (r1 := some (1, r2)) (zCk1_w (by decide +kernel)) rfl rfl rfl (st' := [(1, r2)]) rfl (S183 (Nat.le_trans (by decide) hd) 99 108 105 102 102 0 h _ q4) ?_
    obtain rfl := Option.some.inj e
    exact zF_rl (zRe1_w (by decide +kernel))
  rcases zI_s e with ⟨q5, e⟩ | ⟨q5, e⟩
  · refine zF_blk (m := []) (d := 2) (b := B182_1) (gs := [v0 = 2]) (c' := (125, [some (0, v0)], [], (hc, h, o))) K182_1 rfl ⟨q5, trivial⟩ ?_
    obtain ⟨r3, q6, e⟩ := zB_s e
    refine zF_blk (m := []) (d := 0) (b := B182_3) (gs := []) (c' := (137, [some (0, v0)], [(0, 110), (0, 111), (0, 115), (0, 114), (0, 101), (0, 112)], (hc, h, o))) K182_3 rfl trivial ?_
    refine zF_call (k := 183) (cl := 12) (n := 6) (i := .invokestatic 134) (args := [(0, 112), (0, 101), (0, 114), (0, 115), (0, 111), (0, 110)]) (rest := []) (g1 := (hc, h, o)) (r1 := some (1, r3)) (zCk1_w (by decide +kernel)) rfl rfl rfl (st' := [(1, r3)]) rfl (S183 (Nat.le_trans (by decide) hd) 112 101 114 115 111 110 h _ q6) ?_
    obtain rfl := Option.some.inj e
    exact zF_rl (zRe1_w (by decide +kernel))
  rcases zI_s e with ⟨q7, e⟩ | ⟨q7, e⟩
  · refine zF_blk (m := []) (d := 3) (b := B182_1) (gs := [v0 = 3]) (c' := (141, [some (0, v0)], [], (hc, h, o))) K182_1 rfl ⟨q7, trivial⟩ ?_
    obtain ⟨r4, q8, e⟩ := zB_s e
    refine zF_blk (m := []) (d := 0) (b := B182_4) (gs := []) (c' := (151, [some (0, v0)], [(0, 0), (0, 0), (0, 101), (0, 118), (0, 111), (0, 109)], (hc, h, o))) K182_4 rfl trivial ?_
    refine zF_call (k := 183) (cl := 12) (n := 6) (i := .invokestatic 134) (args := [(0, 109), (0, 111), (0, 118), (0, 101), (0, 0), (0, 0)]) (rest := []) (g1 := (hc, h, o)) (r1 := some (1, r4)) (zCk1_w (by decide +kernel)) rfl rfl rfl (st' := [(1, r4)]) rfl (S183 (Nat.le_trans (by decide) hd) 109 111 118 101 0 0 h _ q8) ?_
    obtain rfl := Option.some.inj e
    exact zF_rl (zRe1_w (by decide +kernel))
  rcases zI_s e with ⟨q9, e⟩ | ⟨q9, e⟩
  · refine zF_blk (m := []) (d := 4) (b := B182_1) (gs := [v0 = 4]) (c' := (155, [some (0, v0)], [], (hc, h, o))) K182_1 rfl ⟨q9, trivial⟩ ?_
    obtain ⟨r5, q10, e⟩ := zB_s e
    refine zF_blk (m := []) (d := 0) (b := B182_5) (gs := []) (c' := (165, [some (0, v0)], [(0, 0), (0, 0), (0, 112), (0, 109), (0, 97), (0, 99)], (hc, h, o))) K182_5 rfl trivial ?_
    refine zF_call (k := 183) (cl := 12) (n := 6) (i := .invokestatic 134) (args := [(0, 99), (0, 97), (0, 109), (0, 112), (0, 0), (0, 0)]) (rest := []) (g1 := (hc, h, o)) (r1 := some (1, r5)) (zCk1_w (by decide +kernel)) rfl rfl rfl (st' := [(1, r5)]) rfl (S183 (Nat.le_trans (by decide) hd) 99 97 109 112 0 0 h _ q10) ?_
    obtain rfl := Option.some.inj e
    exact zF_rl (zRe1_w (by decide +kernel))
  rcases zI_s e with ⟨q11, e⟩ | ⟨q11, e⟩
  · refine zF_blk (m := []) (d := 5) (b := B182_1) (gs := [v0 = 5]) (c' := (169, [some (0, v0)], [], (hc, h, o))) K182_1 rfl ⟨q11, trivial⟩ ?_
    obtain ⟨r6, q12, e⟩ := zB_s e
    refine zF_blk (m := []) (d := 0) (b := B182_6) (gs := []) (c' := (179, [some (0, v0)], [(0, 0), (0, 0), (0, 116), (0, 108), (0, 101), (0, 102)], (hc, h, o))) K182_6 rfl trivial ?_
    refine zF_call (k := 183) (cl := 12) (n := 6) (i := .invokestatic 134) (args := [(0, 102), (0, 101), (0, 108), (0, 116), (0, 0), (0, 0)]) (rest := []) (g1 := (hc, h, o)) (r1 := some (1, r6)) (zCk1_w (by decide +kernel)) rfl rfl rfl (st' := [(1, r6)]) rfl (S183 (Nat.le_trans (by decide) hd) 102 101 108 116 0 0 h _ q12) ?_
    obtain rfl := Option.some.inj e
    exact zF_rl (zRe1_w (by decide +kernel))
  rcases zI_s e with ⟨q13, e⟩ | ⟨q13, e⟩
  · refine zF_blk (m := []) (d := 6) (b := B182_1) (gs := [v0 = 6]) (c' := (183, [some (0, v0)], [], (hc, h, o))) K182_1 rfl ⟨q13, trivial⟩ ?_
    obtain ⟨r7, q14, e⟩ := zB_s e
    refine zF_blk (m := []) (d := 0) (b := B182_7) (gs := []) (c' := (193, [some (0, v0)], [(0, 0), (0, 0), (0, 119), (0, 111), (0, 110), (0, 115)], (hc, h, o))) K182_7 rfl trivial ?_
    refine zF_call (k := 183) (cl := 12) (n := 6) (i := .invokestatic 134) (args := [(0, 115), (0, 110), (0, 111), (0, 119), (0, 0), (0, 0)]) (rest := []) (g1 := (hc, h, o)) (r1 := some (1, r7)) (zCk1_w (by decide +kernel)) rfl rfl rfl (st' := [(1, r7)]) rfl (S183 (Nat.le_trans (by decide) hd) 115 110 111 119 0 0 h _ q14) ?_
    obtain rfl := Option.some.inj e
    exact zF_rl (zRe1_w (by decide +kernel))
  rcases zI_s e with ⟨q15, e⟩ | ⟨q15, e⟩
  · refine zF_blk (m := []) (d := 7) (b := B182_1) (gs := [v0 = 7]) (c' := (197, [some (0, v0)], [], (hc, h, o))) K182_1 rfl ⟨q15, trivial⟩ ?_
    obtain ⟨r8, q16, e⟩ := zB_s e
    refine zF_blk (m := []) (d := 0) (b := B182_8) (gs := []) (c' := (207, [some (0, v0)], [(0, 0), (0, 0), (0, 115), (0, 110), (0, 119), (0, 111)], (hc, h, o))) K182_8 rfl trivial ?_
    refine zF_call (k := 183) (cl := 12) (n := 6) (i := .invokestatic 134) (args := [(0, 111), (0, 119), (0, 110), (0, 115), (0, 0), (0, 0)]) (rest := []) (g1 := (hc, h, o)) (r1 := some (1, r8)) (zCk1_w (by decide +kernel)) rfl rfl rfl (st' := [(1, r8)]) rfl (S183 (Nat.le_trans (by decide) hd) 111 119 110 115 0 0 h _ q16) ?_
    obtain rfl := Option.some.inj e
    exact zF_rl (zRe1_w (by decide +kernel))
  rcases zI_s e with ⟨q17, e⟩ | ⟨q17, e⟩
  · refine zF_blk (m := []) (d := 8) (b := B182_1) (gs := [v0 = 8]) (c' := (211, [some (0, v0)], [], (hc, h, o))) K182_1 rfl ⟨q17, trivial⟩ ?_
    obtain ⟨r9, q18, e⟩ := zB_s e
    refine zF_blk (m := []) (d := 0) (b := B182_9) (gs := []) (c' := (221, [some (0, v0)], [(0, 0), (0, 0), (0, 100), (0, 105), (0, 97), (0, 115)], (hc, h, o))) K182_9 rfl trivial ?_
    refine zF_call (k := 183) (cl := 12) (n := 6) (i := .invokestatic 134) (args := [(0, 115), (0, 97), (0, 105), (0, 100), (0, 0), (0, 0)]) (rest := []) (g1 := (hc, h, o)) (r1 := some (1, r9)) (zCk1_w (by decide +kernel)) rfl rfl rfl (st' := [(1, r9)]) rfl (S183 (Nat.le_trans (by decide) hd) 115 97 105 100 0 0 h _ q18) ?_
    obtain rfl := Option.some.inj e
    exact zF_rl (zRe1_w (by decide +kernel))
  rcases zI_s e with ⟨q19, e⟩ | ⟨q19, e⟩
  · refine zF_blk (m := []) (d := 9) (b := B182_1) (gs := [v0 = 9]) (c' := (225, [some (0, v0)], [], (hc, h, o))) K182_1 rfl ⟨q19, trivial⟩ ?_
    obtain ⟨r10, q20, e⟩ := zB_s e
    refine zF_blk (m := []) (d := 0) (b := B182_10) (gs := []) (c' := (236, [some (0, v0)], [(0, 0), (0, 100), (0, 114), (0, 97), (0, 101), (0, 104)], (hc, h, o))) K182_10 rfl trivial ?_
    refine zF_call (k := 183) (cl := 12) (n := 6) (i := .invokestatic 134) (args := [(0, 104), (0, 101), (0, 97), (0, 114), (0, 100), (0, 0)]) (rest := []) (g1 := (hc, h, o)) (r1 := some (1, r10)) (zCk1_w (by decide +kernel)) rfl rfl rfl (st' := [(1, r10)]) rfl (S183 (Nat.le_trans (by decide) hd) 104 101 97 114 100 0 h _ q20) ?_
    obtain rfl := Option.some.inj e
    exact zF_rl (zRe1_w (by decide +kernel))
  rcases zI_s e with ⟨q21, e⟩ | ⟨q21, e⟩
  · refine zF_blk (m := []) (d := 10) (b := B182_1) (gs := [v0 = 10]) (c' := (240, [some (0, v0)], [], (hc, h, o))) K182_1 rfl ⟨q21, trivial⟩ ?_
    obtain ⟨r11, q22, e⟩ := zB_s e
    refine zF_blk (m := []) (d := 0) (b := B182_11) (gs := []) (c' := (248, [some (0, v0)], [(0, 0), (0, 0), (0, 0), (0, 0), (0, 114), (0, 111)], (hc, h, o))) K182_11 rfl trivial ?_
    refine zF_call (k := 183) (cl := 12) (n := 6) (i := .invokestatic 134) (args := [(0, 111), (0, 114), (0, 0), (0, 0), (0, 0), (0, 0)]) (rest := []) (g1 := (hc, h, o)) (r1 := some (1, r11)) (zCk1_w (by decide +kernel)) rfl rfl rfl (st' := [(1, r11)]) rfl (S183 (Nat.le_trans (by decide) hd) 111 114 0 0 0 0 h _ q22) ?_
    obtain rfl := Option.some.inj e
    exact zF_rl (zRe1_w (by decide +kernel))
  rcases zI_s e with ⟨q23, e⟩ | ⟨q23, e⟩
  · refine zF_blk (m := []) (d := 11) (b := B182_1) (gs := [v0 = 11]) (c' := (252, [some (0, v0)], [], (hc, h, o))) K182_1 rfl ⟨q23, trivial⟩ ?_
    obtain ⟨r12, q24, e⟩ := zB_s e
    refine zF_blk (m := []) (d := 0) (b := B182_12) (gs := []) (c' := (261, [some (0, v0)], [(0, 0), (0, 0), (0, 0), (0, 100), (0, 110), (0, 97)], (hc, h, o))) K182_12 rfl trivial ?_
    refine zF_call (k := 183) (cl := 12) (n := 6) (i := .invokestatic 134) (args := [(0, 97), (0, 110), (0, 100), (0, 0), (0, 0), (0, 0)]) (rest := []) (g1 := (hc, h, o)) (r1 := some (1, r12)) (zCk1_w (by decide +kernel)) rfl rfl rfl (st' := [(1, r12)]) rfl (S183 (Nat.le_trans (by decide) hd) 97 110 100 0 0 0 h _ q24) ?_
    obtain rfl := Option.some.inj e
    exact zF_rl (zRe1_w (by decide +kernel))
  rcases zI_s e with ⟨q25, e⟩ | ⟨q25, e⟩
  · refine zF_blk (m := []) (d := 12) (b := B182_1) (gs := [v0 = 12]) (c' := (265, [some (0, v0)], [], (hc, h, o))) K182_1 rfl ⟨q25, trivial⟩ ?_
    obtain ⟨r13, q26, e⟩ := zB_s e
    refine zF_blk (m := []) (d := 0) (b := B182_13) (gs := []) (c' := (274, [some (0, v0)], [(0, 0), (0, 0), (0, 0), (0, 116), (0, 111), (0, 110)], (hc, h, o))) K182_13 rfl trivial ?_
    refine zF_call (k := 183) (cl := 12) (n := 6) (i := .invokestatic 134) (args := [(0, 110), (0, 111), (0, 116), (0, 0), (0, 0), (0, 0)]) (rest := []) (g1 := (hc, h, o)) (r1 := some (1, r13)) (zCk1_w (by decide +kernel)) rfl rfl rfl (st' := [(1, r13)]) rfl (S183 (Nat.le_trans (by decide) hd) 110 111 116 0 0 0 h _ q26) ?_
    obtain rfl := Option.some.inj e
    exact zF_rl (zRe1_w (by decide +kernel))
  rcases zI_s e with ⟨q27, e⟩ | ⟨q27, e⟩
  · refine zF_blk (m := []) (d := 13) (b := B182_1) (gs := [v0 = 13]) (c' := (278, [some (0, v0)], [], (hc, h, o))) K182_1 rfl ⟨q27, trivial⟩ ?_
    obtain ⟨r14, q28, e⟩ := zB_s e
    refine zF_blk (m := []) (d := 0) (b := B182_14) (gs := []) (c' := (288, [some (0, v0)], [(0, 0), (0, 0), (0, 116), (0, 115), (0, 111), (0, 108)], (hc, h, o))) K182_14 rfl trivial ?_
    refine zF_call (k := 183) (cl := 12) (n := 6) (i := .invokestatic 134) (args := [(0, 108), (0, 111), (0, 115), (0, 116), (0, 0), (0, 0)]) (rest := []) (g1 := (hc, h, o)) (r1 := some (1, r14)) (zCk1_w (by decide +kernel)) rfl rfl rfl (st' := [(1, r14)]) rfl (S183 (Nat.le_trans (by decide) hd) 108 111 115 116 0 0 h _ q28) ?_
    obtain rfl := Option.some.inj e
    exact zF_rl (zRe1_w (by decide +kernel))
  rcases zI_s e with ⟨q29, e⟩ | ⟨q29, e⟩
  · refine zF_blk (m := []) (d := 14) (b := B182_1) (gs := [v0 = 14]) (c' := (292, [some (0, v0)], [], (hc, h, o))) K182_1 rfl ⟨q29, trivial⟩ ?_
    obtain ⟨r15, q30, e⟩ := zB_s e
    refine zF_blk (m := []) (d := 0) (b := B182_15) (gs := []) (c' := (303, [some (0, v0)], [(0, 0), (0, 116), (0, 110), (0, 105), (0, 111), (0, 106)], (hc, h, o))) K182_15 rfl trivial ?_
    refine zF_call (k := 183) (cl := 12) (n := 6) (i := .invokestatic 134) (args := [(0, 106), (0, 111), (0, 105), (0, 110), (0, 116), (0, 0)]) (rest := []) (g1 := (hc, h, o)) (r1 := some (1, r15)) (zCk1_w (by decide +kernel)) rfl rfl rfl (st' := [(1, r15)]) rfl (S183 (Nat.le_trans (by decide) hd) 106 111 105 110 116 0 h _ q30) ?_
    obtain rfl := Option.some.inj e
    exact zF_rl (zRe1_w (by decide +kernel))
  rcases zI_s e with ⟨q31, e⟩ | ⟨q31, e⟩
  · refine zF_blk (m := []) (d := 15) (b := B182_1) (gs := [v0 = 15]) (c' := (307, [some (0, v0)], [], (hc, h, o))) K182_1 rfl ⟨q31, trivial⟩ ?_
    obtain ⟨r16, q32, e⟩ := zB_s e
    refine zF_blk (m := []) (d := 0) (b := B182_16) (gs := []) (c' := (315, [some (0, v0)], [(0, 0), (0, 0), (0, 0), (0, 0), (0, 102), (0, 111)], (hc, h, o))) K182_16 rfl trivial ?_
    refine zF_call (k := 183) (cl := 12) (n := 6) (i := .invokestatic 134) (args := [(0, 111), (0, 102), (0, 0), (0, 0), (0, 0), (0, 0)]) (rest := []) (g1 := (hc, h, o)) (r1 := some (1, r16)) (zCk1_w (by decide +kernel)) rfl rfl rfl (st' := [(1, r16)]) rfl (S183 (Nat.le_trans (by decide) hd) 111 102 0 0 0 0 h _ q32) ?_
    obtain rfl := Option.some.inj e
    exact zF_rl (zRe1_w (by decide +kernel))
  rcases zI_s e with ⟨q33, e⟩ | ⟨q33, e⟩
  · refine zF_blk (m := []) (d := 16) (b := B182_1) (gs := [v0 = 16]) (c' := (319, [some (0, v0)], [], (hc, h, o))) K182_1 rfl ⟨q33, trivial⟩ ?_
    obtain ⟨r17, q34, e⟩ := zB_s e
    refine zF_blk (m := []) (d := 0) (b := B182_17) (gs := []) (c' := (327, [some (0, v0)], [(0, 0), (0, 0), (0, 0), (0, 0), (0, 121), (0, 98)], (hc, h, o))) K182_17 rfl trivial ?_
    refine zF_call (k := 183) (cl := 12) (n := 6) (i := .invokestatic 134) (args := [(0, 98), (0, 121), (0, 0), (0, 0), (0, 0), (0, 0)]) (rest := []) (g1 := (hc, h, o)) (r1 := some (1, r17)) (zCk1_w (by decide +kernel)) rfl rfl rfl (st' := [(1, r17)]) rfl (S183 (Nat.le_trans (by decide) hd) 98 121 0 0 0 0 h _ q34) ?_
    obtain rfl := Option.some.inj e
    exact zF_rl (zRe1_w (by decide +kernel))
  rcases zI_s e with ⟨q35, e⟩ | ⟨q35, e⟩
  · refine zF_blk (m := []) (d := 17) (b := B182_1) (gs := [v0 = 17]) (c' := (331, [some (0, v0)], [], (hc, h, o))) K182_1 rfl ⟨q35, trivial⟩ ?_
    obtain ⟨r18, q36, e⟩ := zB_s e
    refine zF_blk (m := []) (d := 0) (b := B182_18) (gs := []) (c' := (342, [some (0, v0)], [(0, 0), (0, 104), (0, 116), (0, 114), (0, 111), (0, 119)], (hc, h, o))) K182_18 rfl trivial ?_
    refine zF_call (k := 183) (cl := 12) (n := 6) (i := .invokestatic 134) (args := [(0, 119), (0, 111), (0, 114), (0, 116), (0, 104), (0, 0)]) (rest := []) (g1 := (hc, h, o)) (r1 := some (1, r18)) (zCk1_w (by decide +kernel)) rfl rfl rfl (st' := [(1, r18)]) rfl (S183 (Nat.le_trans (by decide) hd) 119 111 114 116 104 0 h _ q36) ?_
    obtain rfl := Option.some.inj e
    exact zF_rl (zRe1_w (by decide +kernel))
  rcases zI_s e with ⟨q37, e⟩ | ⟨q37, e⟩
  · refine zF_blk (m := []) (d := 18) (b := B182_1) (gs := [v0 = 18]) (c' := (346, [some (0, v0)], [], (hc, h, o))) K182_1 rfl ⟨q37, trivial⟩ ?_
    obtain ⟨r19, q38, e⟩ := zB_s e
    refine zF_blk (m := []) (d := 0) (b := B182_19) (gs := []) (c' := (356, [some (0, v0)], [(0, 0), (0, 0), (0, 100), (0, 117), (0, 111), (0, 108)], (hc, h, o))) K182_19 rfl trivial ?_
    refine zF_call (k := 183) (cl := 12) (n := 6) (i := .invokestatic 134) (args := [(0, 108), (0, 111), (0, 117), (0, 100), (0, 0), (0, 0)]) (rest := []) (g1 := (hc, h, o)) (r1 := some (1, r19)) (zCk1_w (by decide +kernel)) rfl rfl rfl (st' := [(1, r19)]) rfl (S183 (Nat.le_trans (by decide) hd) 108 111 117 100 0 0 h _ q38) ?_
    obtain rfl := Option.some.inj e
    exact zF_rl (zRe1_w (by decide +kernel))
  rcases zI_s e with ⟨q39, e⟩ | ⟨q39, e⟩
  · refine zF_blk (m := []) (d := 19) (b := B182_1) (gs := [v0 = 19]) (c' := (360, [some (0, v0)], [], (hc, h, o))) K182_1 rfl ⟨q39, trivial⟩ ?_
    obtain ⟨r20, q40, e⟩ := zB_s e
    refine zF_blk (m := []) (d := 0) (b := B182_20) (gs := []) (c' := (370, [some (0, v0)], [(0, 0), (0, 0), (0, 114), (0, 117), (0, 111), (0, 104)], (hc, h, o))) K182_20 rfl trivial ?_
    refine zF_call (k := 183) (cl := 12) (n := 6) (i := .invokestatic 134) (args := [(0, 104), (0, 111), (0, 117), (0, 114), (0, 0), (0, 0)]) (rest := []) (g1 := (hc, h, o)) (r1 := some (1, r20)) (zCk1_w (by decide +kernel)) rfl rfl rfl (st' := [(1, r20)]) rfl (S183 (Nat.le_trans (by decide) hd) 104 111 117 114 0 0 h _ q40) ?_
    obtain rfl := Option.some.inj e
    exact zF_rl (zRe1_w (by decide +kernel))
  obtain ⟨q42, e⟩ := zG_s e
  refine zF_blk (m := []) (d := 20) (b := B182_1) (gs := [v0 < 0 ∨ 19 < v0]) (c' := (374, [some (0, v0)], [], (hc, h, o))) K182_1 rfl ⟨q42, trivial⟩ ?_
  obtain ⟨r21, q41, e⟩ := zB_s e
  refine zF_blk (m := []) (d := 0) (b := B182_21) (gs := []) (c' := (386, [some (0, v0)], [(0, 115), (0, 101), (0, 111), (0, 104), (0, 99), (0, 101)], (hc, h, o))) K182_21 rfl trivial ?_
  refine zF_call (k := 183) (cl := 12) (n := 6) (i := .invokestatic 134) (args := [(0, 101), (0, 99), (0, 104), (0, 111), (0, 101), (0, 115)]) (rest := []) (g1 := (hc, h, o)) (r1 := some (1, r21)) (zCk1_w (by decide +kernel)) rfl rfl rfl (st' := [(1, r21)]) rfl (S183 (Nat.le_trans (by decide) hd) 101 99 104 111 101 115 h _ q41) ?_
  obtain rfl := Option.some.inj e
  exact zF_rl (zRe1_w (by decide +kernel))
noncomputable def B181_0 : List zRow := [(24, .iconst 0, 1, (0, 0, 0))]
theorem K181_0 : zRk 181 B181_0 = true := zRw_ok (by decide +kernel)
noncomputable def B181_1 : List zRow := [(8, .aload_n 0, 1, (0, 0, 0)), (9, .getfield 120, 3, (12, 12, 1)), (12, .iload_n 1, 1, (0, 0, 0))]
theorem K181_1 : zRk 181 B181_1 = true := zRw_ok (by decide +kernel)
noncomputable def B181_2 : List zRow := [(20, .iconst 1, 1, (0, 0, 0)), (21, .goto 4, 3, (0, 0, 0))]
theorem K181_2 : zRk 181 B181_2 = true := zRw_ok (by decide +kernel)
noncomputable def B181_3 : List zRow := [(16, .lcmp, 1, (0, 0, 0)), (17, .ifCond .ne 7, 3, (0, 0, 0))]
theorem K181_3 : zRk 181 B181_3 = true := zRw_ok (by decide +kernel)
noncomputable def B181_4 : List zRow := [(0, .aload_n 0, 1, (0, 0, 0)), (1, .getfield 107, 3, (12, 7, 0)), (4, .iconst 2, 1, (0, 0, 0)), (5, .if_icmp .ne 19, 3, (0, 0, 0))]
theorem K181_4 : zRk 181 B181_4 = true := zRw_ok (by decide +kernel)
/-- EchoValeModel.isWord(I)Z -/
def F181 (v1 : Int) (h : zHM) : Option Int := if ¬ (h 7 0) = 2 then some 0 else (F182 v1).bind fun r1 => if ¬ (qcmp (h 12 0) r1) = 0 then some 0 else some 1
set_option maxRecDepth 100000 in
theorem S181 {spec : zRn zH2} {hc : zHC} {o : Int → Int} {d : Nat} (hd : 3 ≤ d) (v1 : Int) (h : zHM) (v : Int) (e : F181 v1 h = some v) : zRu2 spec d 181 [(22, 0), (0, v1)] (hc, h, o) (some (0, v)) (hc, h, o) := by
  refine zF_in (D := 2) (mx := 2) (L := [some (22, 0), some (0, v1)]) (by decide +kernel) rfl rfl hd (fun d hd => ?_)
  unfold F181 at e
  rcases zI_s e with ⟨q1, e⟩ | ⟨q1, e⟩
  · refine zF_blk (m := []) (d := 1) (b := B181_4) (gs := [¬ (h 7 0) = 2]) (c' := (24, [some (22, 0), some (0, v1)], [], (hc, h, o))) K181_4 rfl ⟨q1, trivial⟩ ?_
    refine zF_blk (m := []) (d := 0) (b := B181_0) (gs := []) (c' := (25, [some (22, 0), some (0, v1)], [(0, 0)], (hc, h, o))) K181_0 rfl trivial ?_
    obtain rfl := Option.some.inj e
    exact zF_rb (zRe1_w (by decide +kernel)) (Or.inl rfl)
  · refine zF_blk (m := []) (d := 0) (b := B181_4) (gs := [¬ (¬ (h 7 0) = 2)]) (c' := (8, [some (22, 0), some (0, v1)], [], (hc, h, o))) K181_4 rfl ⟨q1, trivial⟩ ?_
    obtain ⟨r1, q2, e⟩ := zB_s e
    refine zF_blk (m := []) (d := 0) (b := B181_1) (gs := []) (c' := (13, [some (22, 0), some (0, v1)], [(0, v1), (1, (h 12 0))], (hc, h, o))) K181_1 rfl trivial ?_
    refine zF_call (k := 182) (cl := 12) (n := 1) (i := .invokestatic 138) (args := [(0, v1)]) (rest := [(1, (h 12 0))]) (g1 := (hc, h, o)) (r1 := some (1, r1)) (zCk1_w (by decide +kernel)) rfl rfl rfl (st' := [(1, r1), (1, (h 12 0))]) rfl (S182 (Nat.le_trans (by decide) hd) v1 h _ q2) ?_
    rcases zI_s e with ⟨q3, e⟩ | ⟨q3, e⟩
    · refine zF_blk (m := []) (d := 1) (b := B181_3) (gs := [¬ (qcmp (h 12 0) r1) = 0]) (c' := (24, [some (22, 0), some (0, v1)], [], (hc, h, o))) K181_3 rfl ⟨q3, trivial⟩ ?_
      refine zF_blk (m := []) (d := 0) (b := B181_0) (gs := []) (c' := (25, [some (22, 0), some (0, v1)], [(0, 0)], (hc, h, o))) K181_0 rfl trivial ?_
      obtain rfl := Option.some.inj e
      exact zF_rb (zRe1_w (by decide +kernel)) (Or.inl rfl)
    · refine zF_blk (m := []) (d := 0) (b := B181_3) (gs := [¬ (¬ (qcmp (h 12 0) r1) = 0)]) (c' := (20, [some (22, 0), some (0, v1)], [], (hc, h, o))) K181_3 rfl ⟨q3, trivial⟩ ?_
      refine zF_blk (m := []) (d := 0) (b := B181_2) (gs := []) (c' := (25, [some (22, 0), some (0, v1)], [(0, 1)], (hc, h, o))) K181_2 rfl trivial ?_
      obtain rfl := Option.some.inj e
      exact zF_rb (zRe1_w (by decide +kernel)) (Or.inr rfl)
noncomputable def B185_0 : List zRow := [(13, .iload_n 1, 1, (0, 0, 0))]
theorem K185_0 : zRk 185 B185_0 = true := zRw_ok (by decide +kernel)
noncomputable def B185_1 : List zRow := [(9, .iconst 1, 1, (0, 0, 0)), (10, .goto 4, 3, (0, 0, 0))]
theorem K185_1 : zRk 185 B185_1 = true := zRw_ok (by decide +kernel)
noncomputable def B185_2 : List zRow := [(0, .aload_n 0, 1, (0, 0, 0)), (1, .aload_n 0, 1, (0, 0, 0)), (2, .getfield 107, 3, (12, 7, 0)), (5, .iconst 1, 1, (0, 0, 0)), (6, .if_icmp .ne 7, 3, (0, 0, 0))]
theorem K185_2 : zRk 185 B185_2 = true := zRw_ok (by decide +kernel)
noncomputable def B185_3 : List zRow := [(14, .putfield 142, 3, (12, 10, 0)), (17, .aload_n 0, 1, (0, 0, 0)), (18, .aload_n 0, 1, (0, 0, 0)), (19, .getfield 101, 3, (12, 6, 0)), (22, .putfield 145, 3, (12, 11, 0)), (25, .iconst 0, 1, (0, 0, 0))]
theorem K185_3 : zRk 185 B185_3 = true := zRw_ok (by decide +kernel)
def F185_0 (s0 : Int) (h : zHM) : Option (Int × zHM) := some (0, (mset (mset h 10 0 s0) 11 0 (h 6 0)))
set_option maxRecDepth 100000 in
theorem T185_0 {spec : zRn zH2} {hc : zHC} {o : Int → Int} {d : Nat} (hd : 0 ≤ d) (s0 : Int) (h : zHM) (v : (Int × zHM)) (e : F185_0 s0 h = some v) : zFin 0 (fun _ => 0) (zRu2 spec d) 185 (some (0, v.1)) (hc, v.2, o) (14, [some (22, 0), none], [(0, s0), (22, 0)], (hc, h, o)) := by
  unfold F185_0 at e
  refine zF_blk (m := []) (d := 0) (b := B185_3) (gs := []) (c' := (26, [some (22, 0), none], [(0, 0)], (hc, (mset (mset h 10 0 s0) 11 0 (h 6 0)), o))) K185_3 rfl trivial ?_
  exact zF_rbM (zRe1_w (by decide +kernel)) (Or.inl rfl) e
/-- EchoValeModel.bad(I)Z -/
def F185 (v1 : Int) (h : zHM) : Option (Int × zHM) := if ¬ (h 7 0) = 1 then F185_0 v1 h else F185_0 1 h
set_option maxRecDepth 100000 in
theorem S185 {spec : zRn zH2} {hc : zHC} {o : Int → Int} {d : Nat} (hd : 1 ≤ d) (v1 : Int) (h : zHM) (v : (Int × zHM)) (e : F185 v1 h = some v) : zRu2 spec d 185 [(22, 0), (0, v1)] (hc, h, o) (some (0, v.1)) (hc, v.2, o) := by
  refine zF_in (D := 0) (mx := 2) (L := [some (22, 0), some (0, v1)]) (by decide +kernel) rfl rfl hd (fun d hd => ?_)
  unfold F185 at e
  rcases zI_s e with ⟨q1, e⟩ | ⟨q1, e⟩
  · refine zF_blk (m := []) (d := 1) (b := B185_2) (gs := [¬ (h 7 0) = 1]) (c' := (13, [some (22, 0), some (0, v1)], [(22, 0)], (hc, h, o))) K185_2 rfl ⟨q1, trivial⟩ ?_
    refine zF_blk (m := []) (d := 0) (b := B185_0) (gs := []) (c' := (14, [some (22, 0), some (0, v1)], [(0, v1), (22, 0)], (hc, h, o))) K185_0 rfl trivial ?_
    refine zF_blk (m := [true, false]) (d := 0) (b := []) (gs := []) (c' := (14, [some (22, 0), none], [(0, v1), (22, 0)], (hc, h, o))) rfl rfl trivial ?_
    exact T185_0 hd v1 h _ e
  · refine zF_blk (m := []) (d := 0) (b := B185_2) (gs := [¬ (¬ (h 7 0) = 1)]) (c' := (9, [some (22, 0), some (0, v1)], [(22, 0)], (hc, h, o))) K185_2 rfl ⟨q1, trivial⟩ ?_
    refine zF_blk (m := []) (d := 0) (b := B185_1) (gs := []) (c' := (14, [some (22, 0), some (0, v1)], [(0, 1), (22, 0)], (hc, h, o))) K185_1 rfl trivial ?_
    refine zF_blk (m := [true, false]) (d := 0) (b := []) (gs := []) (c' := (14, [some (22, 0), none], [(0, 1), (22, 0)], (hc, h, o))) rfl rfl trivial ?_
    exact T185_0 hd 1 h _ e
noncomputable def B188_0 : List zRow := [(14, .iconst 0, 1, (0, 0, 0))]
theorem K188_0 : zRk 188 B188_0 = true := zRw_ok (by decide +kernel)
noncomputable def B188_1 : List zRow := [(10, .iconst 1, 1, (0, 0, 0)), (11, .goto 4, 3, (0, 0, 0))]
theorem K188_1 : zRk 188 B188_1 = true := zRw_ok (by decide +kernel)
noncomputable def B188_2 : List zRow := [(5, .iload_n 0, 1, (0, 0, 0)), (6, .iload_n 2, 1, (0, 0, 0)), (7, .if_icmp .gt 7, 3, (0, 0, 0))]
theorem K188_2 : zRk 188 B188_2 = true := zRw_ok (by decide +kernel)
noncomputable def B188_3 : List zRow := [(0, .iload_n 0, 1, (0, 0, 0)), (1, .iload_n 1, 1, (0, 0, 0)), (2, .if_icmp .lt 12, 3, (0, 0, 0))]
theorem K188_3 : zRk 188 B188_3 = true := zRw_ok (by decide +kernel)
/-- EchoValeModel.isIn(III)Z -/
def F188 (v0 : Int) (v1 : Int) (v2 : Int) : Option Int := if v0 < v1 then some 0 else if v2 < v0 then some 0 else some 1
set_option maxRecDepth 100000 in
theorem S188 {spec : zRn zH2} {hc : zHC} {o : Int → Int} {d : Nat} (hd : 1 ≤ d) (v0 : Int) (v1 : Int) (v2 : Int) (h : zHM) (v : Int) (e : F188 v0 v1 v2 = some v) : zRu2 spec d 188 [(0, v0), (0, v1), (0, v2)] (hc, h, o) (some (0, v)) (hc, h, o) := by
  refine zF_in (D := 0) (mx := 3) (L := [some (0, v0), some (0, v1), some (0, v2)]) (by decide +kernel) rfl rfl hd (fun d hd => ?_)
  unfold F188 at e
  rcases zI_s e with ⟨q1, e⟩ | ⟨q1, e⟩
  · refine zF_blk (m := []) (d := 1) (b := B188_3) (gs := [v0 < v1]) (c' := (14, [some (0, v0), some (0, v1), some (0, v2)], [], (hc, h, o))) K188_3 rfl ⟨q1, trivial⟩ ?_
    refine zF_blk (m := []) (d := 0) (b := B188_0) (gs := []) (c' := (15, [some (0, v0), some (0, v1), some (0, v2)], [(0, 0)], (hc, h, o))) K188_0 rfl trivial ?_
    obtain rfl := Option.some.inj e
    exact zF_rb (zRe1_w (by decide +kernel)) (Or.inl rfl)
  · refine zF_blk (m := []) (d := 0) (b := B188_3) (gs := [¬ (v0 < v1)]) (c' := (5, [some (0, v0), some (0, v1), some (0, v2)], [], (hc, h, o))) K188_3 rfl ⟨q1, trivial⟩ ?_
    rcases zI_s e with ⟨q2, e⟩ | ⟨q2, e⟩
    · refine zF_blk (m := []) (d := 1) (b := B188_2) (gs := [v2 < v0]) (c' := (14, [some (0, v0), some (0, v1), some (0, v2)], [], (hc, h, o))) K188_2 rfl ⟨q2, trivial⟩ ?_
      refine zF_blk (m := []) (d := 0) (b := B188_0) (gs := []) (c' := (15, [some (0, v0), some (0, v1), some (0, v2)], [(0, 0)], (hc, h, o))) K188_0 rfl trivial ?_
      obtain rfl := Option.some.inj e
      exact zF_rb (zRe1_w (by decide +kernel)) (Or.inl rfl)
    · refine zF_blk (m := []) (d := 0) (b := B188_2) (gs := [¬ (v2 < v0)]) (c' := (10, [some (0, v0), some (0, v1), some (0, v2)], [], (hc, h, o))) K188_2 rfl ⟨q2, trivial⟩ ?_
      refine zF_blk (m := []) (d := 0) (b := B188_1) (gs := []) (c' := (15, [some (0, v0), some (0, v1), some (0, v2)], [(0, 1)], (hc, h, o))) K188_1 rfl trivial ?_
      obtain rfl := Option.some.inj e
      exact zF_rb (zRe1_w (by decide +kernel)) (Or.inr rfl)
noncomputable def B187_0 : List zRow := [(14, .aload_n 0, 1, (0, 0, 0)), (15, .getfield 124, 3, (12, 8, 0)), (18, .iload_n 1, 1, (0, 0, 0)), (19, .iload_n 2, 1, (0, 0, 0))]
theorem K187_0 : zRk 187 B187_0 = true := zRw_ok (by decide +kernel)
noncomputable def B187_1 : List zRow := [(32, .aload_n 0, 1, (0, 0, 0)), (33, .aload_n 0, 1, (0, 0, 0)), (34, .getfield 124, 3, (12, 8, 0)), (37, .putfield 155, 3, (12, 13, 0)), (40, .iconst 1, 1, (0, 0, 0))]
theorem K187_1 : zRk 187 B187_1 = true := zRw_ok (by decide +kernel)
noncomputable def B187_2 : List zRow := [(26, .aload_n 0, 1, (0, 0, 0)), (27, .iconst 2, 1, (0, 0, 0))]
theorem K187_2 : zRk 187 B187_2 = true := zRw_ok (by decide +kernel)
noncomputable def B187_3 : List zRow := [(23, .ifCond .ne 9, 3, (0, 0, 0))]
theorem K187_3 : zRk 187 B187_3 = true := zRw_ok (by decide +kernel)
noncomputable def B187_4 : List zRow := [(8, .aload_n 0, 1, (0, 0, 0)), (9, .iconst 1, 1, (0, 0, 0))]
theorem K187_4 : zRk 187 B187_4 = true := zRw_ok (by decide +kernel)
noncomputable def B187_5 : List zRow := [(0, .aload_n 0, 1, (0, 0, 0)), (1, .getfield 107, 3, (12, 7, 0)), (4, .iconst 3, 1, (0, 0, 0)), (5, .if_icmp .eq 9, 3, (0, 0, 0))]
theorem K187_5 : zRk 187 B187_5 = true := zRw_ok (by decide +kernel)
/-- EchoValeModel.isNumber(II)Z -/
def F187 (v1 : Int) (v2 : Int) (h : zHM) : Option (Int × zHM) := if (h 7 0) = 3 then (F188 (h 8 0) v1 v2).bind fun r1 => if ¬ r1 = 0 then some (1, (mset h 13 0 (h 8 0))) else (F185 2 h).bind fun r2 => zG (r2.1 = 0 ∨ r2.1 = 1) (some (r2.1, r2.2)) else (F185 1 h).bind fun r3 => zG (r3.1 = 0 ∨ r3.1 = 1) (some (r3.1, r3.2))
set_option maxRecDepth 100000 in
theorem S187 {spec : zRn zH2} {hc : zHC} {o : Int → Int} {d : Nat} (hd : 2 ≤ d) (v1 : Int) (v2 : Int) (h : zHM) (v : (Int × zHM)) (e : F187 v1 v2 h = some v) : zRu2 spec d 187 [(22, 0), (0, v1), (0, v2)] (hc, h, o) (some (0, v.1)) (hc, v.2, o) := by
  refine zF_in (D := 1) (mx := 3) (L := [some (22, 0), some (0, v1), some (0, v2)]) (by decide +kernel) rfl rfl hd (fun d hd => ?_)
  unfold F187 at e
  rcases zI_s e with ⟨q1, e⟩ | ⟨q1, e⟩
  · refine zF_blk (m := []) (d := 1) (b := B187_5) (gs := [(h 7 0) = 3]) (c' := (14, [some (22, 0), some (0, v1), some (0, v2)], [], (hc, h, o))) K187_5 rfl ⟨q1, trivial⟩ ?_
    obtain ⟨r1, q2, e⟩ := zB_s e
    refine zF_blk (m := []) (d := 0) (b := B187_0) (gs := []) (c' := (20, [some (22, 0), some (0, v1), some (0, v2)], [(0, v2), (0, v1), (0, (h 8 0))], (hc, h, o))) K187_0 rfl trivial ?_
    refine zF_call (k := 188) (cl := 12) (n := 3) (i := .invokestatic 151) (args := [(0, (h 8 0)), (0, v1), (0, v2)]) (rest := []) (g1 := (hc, h, o)) (r1 := some (0, r1)) (zCk1_w (by decide +kernel)) rfl rfl rfl (st' := [(0, r1)]) rfl (S188 (Nat.le_trans (by decide) hd) (h 8 0) v1 v2 h _ q2) ?_
    rcases zI_s e with ⟨q3, e⟩ | ⟨q3, e⟩
    · refine zF_blk (m := []) (d := 1) (b := B187_3) (gs := [¬ r1 = 0]) (c' := (32, [some (22, 0), some (0, v1), some (0, v2)], [], (hc, h, o))) K187_3 rfl ⟨q3, trivial⟩ ?_
      refine zF_blk (m := []) (d := 0) (b := B187_1) (gs := []) (c' := (41, [some (22, 0), some (0, v1), some (0, v2)], [(0, 1)], (hc, (mset h 13 0 (h 8 0)), o))) K187_1 rfl trivial ?_
      exact zF_rbM (zRe1_w (by decide +kernel)) (Or.inr rfl) e
    · refine zF_blk (m := []) (d := 0) (b := B187_3) (gs := [¬ (¬ r1 = 0)]) (c' := (26, [some (22, 0), some (0, v1), some (0, v2)], [], (hc, h, o))) K187_3 rfl ⟨q3, trivial⟩ ?_
      obtain ⟨r2, q4, e⟩ := zB_s e
      refine zF_blk (m := []) (d := 0) (b := B187_2) (gs := []) (c' := (28, [some (22, 0), some (0, v1), some (0, v2)], [(0, 2), (22, 0)], (hc, h, o))) K187_2 rfl trivial ?_
      refine zF_call (k := 185) (cl := 12) (n := 2) (i := .invokevirtual 148) (args := [(22, 0), (0, 2)]) (rest := []) (g1 := (hc, r2.2, o)) (r1 := some (0, r2.1)) (zCk1_w (by decide +kernel)) rfl rfl rfl (st' := [(0, r2.1)]) rfl (S185 (Nat.le_trans (by decide) hd) 2 h _ q4) ?_
      obtain ⟨q5, e⟩ := zG_s e
      exact zF_rbM (zRe1_w (by decide +kernel)) q5 e
  · refine zF_blk (m := []) (d := 0) (b := B187_5) (gs := [¬ ((h 7 0) = 3)]) (c' := (8, [some (22, 0), some (0, v1), some (0, v2)], [], (hc, h, o))) K187_5 rfl ⟨q1, trivial⟩ ?_
    obtain ⟨r3, q6, e⟩ := zB_s e
    refine zF_blk (m := []) (d := 0) (b := B187_4) (gs := []) (c' := (10, [some (22, 0), some (0, v1), some (0, v2)], [(0, 1), (22, 0)], (hc, h, o))) K187_4 rfl trivial ?_
    refine zF_call (k := 185) (cl := 12) (n := 2) (i := .invokevirtual 148) (args := [(22, 0), (0, 1)]) (rest := []) (g1 := (hc, r3.2, o)) (r1 := some (0, r3.1)) (zCk1_w (by decide +kernel)) rfl rfl rfl (st' := [(0, r3.1)]) rfl (S185 (Nat.le_trans (by decide) hd) 1 h _ q6) ?_
    obtain ⟨q7, e⟩ := zG_s e
    exact zF_rbM (zRe1_w (by decide +kernel)) q7 e
noncomputable def B186_0 : List zRow := [(0, .aload_n 0, 1, (0, 0, 0)), (1, .iload_n 1, 1, (0, 0, 0)), (2, .iload_n 2, 1, (0, 0, 0))]
theorem K186_0 : zRk 186 B186_0 = true := zRw_ok (by decide +kernel)
noncomputable def B186_1 : List zRow := [(11, .aload_n 0, 1, (0, 0, 0))]
theorem K186_1 : zRk 186 B186_1 = true := zRw_ok (by decide +kernel)
noncomputable def B186_2 : List zRow := [(15, .iconst 1, 1, (0, 0, 0))]
theorem K186_2 : zRk 186 B186_2 = true := zRw_ok (by decide +kernel)
noncomputable def B186_3 : List zRow := [(9, .iconst 0, 1, (0, 0, 0))]
theorem K186_3 : zRk 186 B186_3 = true := zRw_ok (by decide +kernel)
noncomputable def B186_4 : List zRow := [(6, .ifCond .ne 5, 3, (0, 0, 0))]
theorem K186_4 : zRk 186 B186_4 = true := zRw_ok (by decide +kernel)
/-- EchoValeModel.readNumber(II)Z -/
def F186 (v1 : Int) (v2 : Int) (h : zHM) : Option (Int × zHM) := (F187 v1 v2 h).bind fun r1 => if ¬ r1.1 = 0 then (F176 r1.2).bind fun r2 => some (1, r2) else some (0, r1.2)
set_option maxRecDepth 100000 in
theorem S186 {spec : zRn zH2} {hc : zHC} {o : Int → Int} {d : Nat} (hd : 3 ≤ d) (v1 : Int) (v2 : Int) (h : zHM) (v : (Int × zHM)) (e : F186 v1 v2 h = some v) : zRu2 spec d 186 [(22, 0), (0, v1), (0, v2)] (hc, h, o) (some (0, v.1)) (hc, v.2, o) := by
  refine zF_in (D := 2) (mx := 3) (L := [some (22, 0), some (0, v1), some (0, v2)]) (by decide +kernel) rfl rfl hd (fun d hd => ?_)
  unfold F186 at e
  obtain ⟨r1, q1, e⟩ := zB_s e
  refine zF_blk (m := []) (d := 0) (b := B186_0) (gs := []) (c' := (3, [some (22, 0), some (0, v1), some (0, v2)], [(0, v2), (0, v1), (22, 0)], (hc, h, o))) K186_0 rfl trivial ?_
  refine zF_call (k := 187) (cl := 12) (n := 3) (i := .invokevirtual 158) (args := [(22, 0), (0, v1), (0, v2)]) (rest := []) (g1 := (hc, r1.2, o)) (r1 := some (0, r1.1)) (zCk1_w (by decide +kernel)) rfl rfl rfl (st' := [(0, r1.1)]) rfl (S187 (Nat.le_trans (by decide) hd) v1 v2 h _ q1) ?_
  rcases zI_s e with ⟨q2, e⟩ | ⟨q2, e⟩
  · refine zF_blk (m := []) (d := 1) (b := B186_4) (gs := [¬ r1.1 = 0]) (c' := (11, [some (22, 0), some (0, v1), some (0, v2)], [], (hc, r1.2, o))) K186_4 rfl ⟨q2, trivial⟩ ?_
    obtain ⟨r2, q3, e⟩ := zB_s e
    refine zF_blk (m := []) (d := 0) (b := B186_1) (gs := []) (c' := (12, [some (22, 0), some (0, v1), some (0, v2)], [(22, 0)], (hc, r1.2, o))) K186_1 rfl trivial ?_
    refine zF_call (k := 176) (cl := 12) (n := 1) (i := .invokevirtual 162) (args := [(22, 0)]) (rest := []) (g1 := (hc, r2, o)) (r1 := none) (zCk1_w (by decide +kernel)) rfl rfl rfl (st' := []) rfl (S176 (Nat.le_trans (by decide) hd)  r1.2 _ q3) ?_
    refine zF_blk (m := []) (d := 0) (b := B186_2) (gs := []) (c' := (16, [some (22, 0), some (0, v1), some (0, v2)], [(0, 1)], (hc, r2, o))) K186_2 rfl trivial ?_
    exact zF_rbM (zRe1_w (by decide +kernel)) (Or.inr rfl) e
  · refine zF_blk (m := []) (d := 0) (b := B186_4) (gs := [¬ (¬ r1.1 = 0)]) (c' := (9, [some (22, 0), some (0, v1), some (0, v2)], [], (hc, r1.2, o))) K186_4 rfl ⟨q2, trivial⟩ ?_
    refine zF_blk (m := []) (d := 0) (b := B186_3) (gs := []) (c' := (10, [some (22, 0), some (0, v1), some (0, v2)], [(0, 0)], (hc, r1.2, o))) K186_3 rfl trivial ?_
    exact zF_rbM (zRe1_w (by decide +kernel)) (Or.inl rfl) e
noncomputable def B200_0 : List zRow := [(20, .aload_n 0, 1, (0, 0, 0))]
theorem K200_0 : zRk 200 B200_0 = true := zRw_ok (by decide +kernel)
noncomputable def B200_1 : List zRow := [(24, .aload_n 0, 1, (0, 0, 0)), (25, .iconst 0, 1, (0, 0, 0)), (26, .sipush 200, 3, (0, 0, 0))]
theorem K200_1 : zRk 200 B200_1 = true := zRw_ok (by decide +kernel)
noncomputable def B200_2 : List zRow := [(37, .iconst 0, 1, (0, 0, 0)), (38, .istore_n 2, 1, (0, 0, 0))]
theorem K200_2 : zRk 200 B200_2 = true := zRw_ok (by decide +kernel)
noncomputable def B200_3 : List zRow := [(35, .iconst 0, 1, (0, 0, 0))]
theorem K200_3 : zRk 200 B200_3 = true := zRw_ok (by decide +kernel)
noncomputable def B200_4 : List zRow := [(32, .ifCond .ne 5, 3, (0, 0, 0))]
theorem K200_4 : zRk 200 B200_4 = true := zRw_ok (by decide +kernel)
noncomputable def B200_5 : List zRow := [(14, .aload_n 0, 1, (0, 0, 0)), (15, .iconst 4, 1, (0, 0, 0))]
theorem K200_5 : zRk 200 B200_5 = true := zRw_ok (by decide +kernel)
noncomputable def B200_6 : List zRow := [(0, .aload_n 0, 1, (0, 0, 0)), (1, .getfield 16, 3, (12, 15, 5243718)), (4, .bipush 6, 2, (0, 0, 0)), (6, .iaload, 1, (0, 0, 0)), (7, .istore_n 1, 1, (0, 0, 0)), (8, .iload_n 1, 1, (0, 0, 0)), (9, .bipush 6, 2, (0, 0, 0)), (11, .if_icmp .ne 9, 3, (0, 0, 0))]
theorem K200_6 : zRk 200 B200_6 = true := zRw_ok (by decide +kernel)
noncomputable def B200_7 : List zRow := [(75, .aload_n 0, 1, (0, 0, 0)), (76, .getfield 16, 3, (12, 15, 5243718)), (79, .sipush 197, 3, (0, 0, 0)), (82, .iconst 2, 1, (0, 0, 0)), (83, .iload_n 1, 1, (0, 0, 0))]
theorem K200_7 : zRk 200 B200_7 = true := zRw_ok (by decide +kernel)
noncomputable def B200_8 : List zRow := [(84, .imul, 1, (0, 0, 0))]
theorem K200_8 : zRk 200 B200_8 = true := zRw_ok (by decide +kernel)
noncomputable def B200_9 : List zRow := [(85, .iadd, 1, (0, 0, 0)), (86, .aload_n 0, 1, (0, 0, 0)), (87, .getfield 155, 3, (12, 13, 0)), (90, .iastore, 1, (0, 0, 0)), (91, .aload_n 0, 1, (0, 0, 0))]
theorem K200_9 : zRk 200 B200_9 = true := zRw_ok (by decide +kernel)
noncomputable def B200_10 : List zRow := [(95, .aload_n 0, 1, (0, 0, 0)), (96, .iconst 0, 1, (0, 0, 0)), (97, .bipush 9, 2, (0, 0, 0))]
theorem K200_10 : zRk 200 B200_10 = true := zRw_ok (by decide +kernel)
noncomputable def B200_11 : List zRow := [(107, .aload_n 0, 1, (0, 0, 0)), (108, .getfield 16, 3, (12, 15, 5243718)), (111, .sipush 197, 3, (0, 0, 0)), (114, .iconst 2, 1, (0, 0, 0)), (115, .iload_n 1, 1, (0, 0, 0))]
theorem K200_11 : zRk 200 B200_11 = true := zRw_ok (by decide +kernel)
noncomputable def B200_12 : List zRow := [(116, .imul, 1, (0, 0, 0))]
theorem K200_12 : zRk 200 B200_12 = true := zRw_ok (by decide +kernel)
noncomputable def B200_13 : List zRow := [(117, .iadd, 1, (0, 0, 0)), (118, .iconst 1, 1, (0, 0, 0)), (119, .iadd, 1, (0, 0, 0)), (120, .aload_n 0, 1, (0, 0, 0)), (121, .getfield 155, 3, (12, 13, 0)), (124, .iastore, 1, (0, 0, 0)), (125, .aload_n 0, 1, (0, 0, 0)), (126, .getfield 16, 3, (12, 15, 5243718)), (129, .bipush 6, 2, (0, 0, 0)), (131, .dup2, 1, (0, 0, 0)), (132, .iaload, 1, (0, 0, 0)), (133, .iconst 1, 1, (0, 0, 0)), (134, .iadd, 1, (0, 0, 0)), (135, .iastore, 1, (0, 0, 0)), (136, .iconst 1, 1, (0, 0, 0))]
theorem K200_13 : zRk 200 B200_13 = true := zRw_ok (by decide +kernel)
noncomputable def B200_14 : List zRow := [(105, .iconst 0, 1, (0, 0, 0))]
theorem K200_14 : zRk 200 B200_14 = true := zRw_ok (by decide +kernel)
noncomputable def B200_15 : List zRow := [(102, .ifCond .ne 5, 3, (0, 0, 0))]
theorem K200_15 : zRk 200 B200_15 = true := zRw_ok (by decide +kernel)
noncomputable def B200_16 : List zRow := [(44, .aload_n 0, 1, (0, 0, 0)), (45, .getfield 16, 3, (12, 15, 5243718)), (48, .sipush 197, 3, (0, 0, 0)), (51, .iconst 2, 1, (0, 0, 0)), (52, .iload_n 2, 1, (0, 0, 0))]
theorem K200_16 : zRk 200 B200_16 = true := zRw_ok (by decide +kernel)
noncomputable def B200_17 : List zRow := [(53, .imul, 1, (0, 0, 0))]
theorem K200_17 : zRk 200 B200_17 = true := zRw_ok (by decide +kernel)
noncomputable def B200_18 : List zRow := [(69, .iinc 2 1, 3, (0, 0, 0)), (72, .goto (-33), 3, (0, 0, 0))]
theorem K200_18 : zRk 200 B200_18 = true := zRw_ok (by decide +kernel)
noncomputable def B200_19 : List zRow := [(63, .aload_n 0, 1, (0, 0, 0)), (64, .iconst 3, 1, (0, 0, 0))]
theorem K200_19 : zRk 200 B200_19 = true := zRw_ok (by decide +kernel)
noncomputable def B200_20 : List zRow := [(54, .iadd, 1, (0, 0, 0)), (55, .iaload, 1, (0, 0, 0)), (56, .aload_n 0, 1, (0, 0, 0)), (57, .getfield 155, 3, (12, 13, 0)), (60, .if_icmp .ne 9, 3, (0, 0, 0))]
theorem K200_20 : zRk 200 B200_20 = true := zRw_ok (by decide +kernel)
noncomputable def B200_21 : List zRow := [(39, .iload_n 2, 1, (0, 0, 0)), (40, .iload_n 1, 1, (0, 0, 0)), (41, .if_icmp .ge 34, 3, (0, 0, 0))]
theorem K200_21 : zRk 200 B200_21 = true := zRw_ok (by decide +kernel)
def F200_0 : Nat → Int → Int → zHM → Option (Int × zHM)
  | 0, _, _, _ => none
  | n + 1, v1, v2, h => if v1 ≤ v2 then zG (0 ≤ (wadd 197 (wmul 2 v1)) ∧ (wadd 197 (wmul 2 v1)) < 209) ((F176 (mset h 15 (wadd 197 (wmul 2 v1)) (h 13 0))).bind fun r1 => (F186 0 9 r1).bind fun r2 => if ¬ r2.1 = 0 then zG (0 ≤ (wadd (wadd 197 (wmul 2 v1)) 1) ∧ (wadd (wadd 197 (wmul 2 v1)) 1) < 209) (some (1, (mset (mset r2.2 15 (wadd (wadd 197 (wmul 2 v1)) 1) (r2.2 13 0)) 15 6 (wadd ((mset r2.2 15 (wadd (wadd 197 (wmul 2 v1)) 1) (r2.2 13 0)) 15 6) 1)))) else some (0, r2.2)) else zG (0 ≤ (wadd 197 (wmul 2 v2)) ∧ (wadd 197 (wmul 2 v2)) < 209) (if ¬ (h 15 (wadd 197 (wmul 2 v2))) = (h 13 0) then (F200_0 n) v1 (wadd v2 1) h else (F185 3 h).bind fun r3 => zG (r3.1 = 0 ∨ r3.1 = 1) (some (r3.1, r3.2)))
set_option maxRecDepth 100000 in
theorem T200_0 {spec : zRn zH2} {hc : zHC} {o : Int → Int} {d : Nat} (hd : 3 ≤ d) : ∀ (n : Nat) (v1 : Int) (v2 : Int) (h : zHM) (v : (Int × zHM)), F200_0 n v1 v2 h = some v → zFin 0 (fun _ => 0) (zRu2 spec d) 200 (some (0, v.1)) (hc, v.2, o) (39, [some (22, 0), some (0, v1), some (0, v2)], [], (hc, h, o)) := by
  intro n
  induction n with
  | zero => intro v1 v2 h v e; unfold F200_0 at e; cases e
  | succ n hk0 =>
    intro v1 v2 h v e
    unfold F200_0 at e
    rcases zI_s e with ⟨q1, e⟩ | ⟨q1, e⟩
    · refine zF_blk (m := []) (d := 1) (b := B200_21) (gs := [v1 ≤ v2]) (c' := (75, [some (22, 0), some (0, v1), some (0, v2)], [], (hc, h, o))) K200_21 rfl ⟨q1, trivial⟩ ?_
      obtain ⟨q2, e⟩ := zG_s e
      refine zF_blk (m := []) (d := 0) (b := B200_7) (gs := []) (c' := (84, [some (22, 0), some (0, v1), some (0, v2)], [(0, v1), (0, 2), (0, 197), (1342393079, 0)], (hc, h, o))) K200_7 rfl trivial ?_
      refine zF_blk (m := []) (d := 0) (b := B200_8) (gs := []) (c' := (85, [some (22, 0), some (0, v1), some (0, v2)], [(0, (wmul 2 v1)), (0, 197), (1342393079, 0)], (hc, h, o))) K200_8 rfl trivial ?_
      obtain ⟨r1, q3, e⟩ := zB_s e
      refine zF_blk (m := []) (d := 0) (b := B200_9) (gs := [0 ≤ (wadd 197 (wmul 2 v1)) ∧ (wadd 197 (wmul 2 v1)) < 209]) (c' := (92, [some (22, 0), some (0, v1), some (0, v2)], [(22, 0)], (hc, (mset h 15 (wadd 197 (wmul 2 v1)) (h 13 0)), o))) K200_9 rfl ⟨q2, trivial⟩ ?_
      refine zF_call (k := 176) (cl := 12) (n := 1) (i := .invokevirtual 162) (args := [(22, 0)]) (rest := []) (g1 := (hc, r1, o)) (r1 := none) (zCk1_w (by decide +kernel)) rfl rfl rfl (st' := []) rfl (S176 (Nat.le_trans (by decide) hd)  (mset h 15 (wadd 197 (wmul 2 v1)) (h 13 0)) _ q3) ?_
      obtain ⟨r2, q4, e⟩ := zB_s e
      refine zF_blk (m := []) (d := 0) (b := B200_10) (gs := []) (c' := (99, [some (22, 0), some (0, v1), some (0, v2)], [(0, 9), (0, 0), (22, 0)], (hc, r1, o))) K200_10 rfl trivial ?_
      refine zF_call (k := 186) (cl := 12) (n := 3) (i := .invokevirtual 180) (args := [(22, 0), (0, 0), (0, 9)]) (rest := []) (g1 := (hc, r2.2, o)) (r1 := some (0, r2.1)) (zCk1_w (by decide +kernel)) rfl rfl rfl (st' := [(0, r2.1)]) rfl (S186 (Nat.le_trans (by decide) hd) 0 9 r1 _ q4) ?_
      rcases zI_s e with ⟨q5, e⟩ | ⟨q5, e⟩
      · refine zF_blk (m := []) (d := 1) (b := B200_15) (gs := [¬ r2.1 = 0]) (c' := (107, [some (22, 0), some (0, v1), some (0, v2)], [], (hc, r2.2, o))) K200_15 rfl ⟨q5, trivial⟩ ?_
        obtain ⟨q6, e⟩ := zG_s e
        refine zF_blk (m := []) (d := 0) (b := B200_11) (gs := []) (c' := (116, [some (22, 0), some (0, v1), some (0, v2)], [(0, v1), (0, 2), (0, 197), (1342393079, 0)], (hc, r2.2, o))) K200_11 rfl trivial ?_
        refine zF_blk (m := []) (d := 0) (b := B200_12) (gs := []) (c' := (117, [some (22, 0), some (0, v1), some (0, v2)], [(0, (wmul 2 v1)), (0, 197), (1342393079, 0)], (hc, r2.2, o))) K200_12 rfl trivial ?_
        refine zF_blk (m := []) (d := 0) (b := B200_13) (gs := [0 ≤ (wadd (wadd 197 (wmul 2 v1)) 1) ∧ (wadd (wadd 197 (wmul 2 v1)) 1) < 209, 0 ≤ 6 ∧ 6 < 209, 0 ≤ 6 ∧ 6 < 209]) (c' := (137, [some (22, 0), some (0, v1), some (0, v2)], [(0, 1)], (hc, (mset (mset r2.2 15 (wadd (wadd 197 (wmul 2 v1)) 1) (r2.2 13 0)) 15 6 (wadd ((mset r2.2 15 (wadd (wadd 197 (wmul 2 v1)) 1) (r2.2 13 0)) 15 6) 1)), o))) K200_13 rfl ⟨q6, by decide, by decide, trivial⟩ ?_
        exact zF_rbM (zRe1_w (by decide +kernel)) (Or.inr rfl) e
      · refine zF_blk (m := []) (d := 0) (b := B200_15) (gs := [¬ (¬ r2.1 = 0)]) (c' := (105, [some (22, 0), some (0, v1), some (0, v2)], [], (hc, r2.2, o))) K200_15 rfl ⟨q5, trivial⟩ ?_
        refine zF_blk (m := []) (d := 0) (b := B200_14) (gs := []) (c' := (106, [some (22, 0), some (0, v1), some (0, v2)], [(0, 0)], (hc, r2.2, o))) K200_14 rfl trivial ?_
        exact zF_rbM (zRe1_w (by decide +kernel)) (Or.inl rfl) e
    · refine zF_blk (m := []) (d := 0) (b := B200_21) (gs := [¬ (v1 ≤ v2)]) (c' := (44, [some (22, 0), some (0, v1), some (0, v2)], [], (hc, h, o))) K200_21 rfl ⟨q1, trivial⟩ ?_
      obtain ⟨q7, e⟩ := zG_s e
      refine zF_blk (m := []) (d := 0) (b := B200_16) (gs := []) (c' := (53, [some (22, 0), some (0, v1), some (0, v2)], [(0, v2), (0, 2), (0, 197), (1342393079, 0)], (hc, h, o))) K200_16 rfl trivial ?_
      refine zF_blk (m := []) (d := 0) (b := B200_17) (gs := []) (c' := (54, [some (22, 0), some (0, v1), some (0, v2)], [(0, (wmul 2 v2)), (0, 197), (1342393079, 0)], (hc, h, o))) K200_17 rfl trivial ?_
      rcases zI_s e with ⟨q8, e⟩ | ⟨q8, e⟩
      · refine zF_blk (m := []) (d := 1) (b := B200_20) (gs := [0 ≤ (wadd 197 (wmul 2 v2)) ∧ (wadd 197 (wmul 2 v2)) < 209, ¬ (h 15 (wadd 197 (wmul 2 v2))) = (h 13 0)]) (c' := (69, [some (22, 0), some (0, v1), some (0, v2)], [], (hc, h, o))) K200_20 rfl ⟨q7, q8, trivial⟩ ?_
        refine zF_blk (m := []) (d := 0) (b := B200_18) (gs := []) (c' := (39, [some (22, 0), some (0, v1), some (0, (wadd v2 1))], [], (hc, h, o))) K200_18 rfl trivial ?_
        exact hk0 v1 (wadd v2 1) h _ e
      · refine zF_blk (m := []) (d := 0) (b := B200_20) (gs := [0 ≤ (wadd 197 (wmul 2 v2)) ∧ (wadd 197 (wmul 2 v2)) < 209, ¬ (¬ (h 15 (wadd 197 (wmul 2 v2))) = (h 13 0))]) (c' := (63, [some (22, 0), some (0, v1), some (0, v2)], [], (hc, h, o))) K200_20 rfl ⟨q7, q8, trivial⟩ ?_
        obtain ⟨r3, q9, e⟩ := zB_s e
        refine zF_blk (m := []) (d := 0) (b := B200_19) (gs := []) (c' := (65, [some (22, 0), some (0, v1), some (0, v2)], [(0, 3), (22, 0)], (hc, h, o))) K200_19 rfl trivial ?_
        refine zF_call (k := 185) (cl := 12) (n := 2) (i := .invokevirtual 148) (args := [(22, 0), (0, 3)]) (rest := []) (g1 := (hc, r3.2, o)) (r1 := some (0, r3.1)) (zCk1_w (by decide +kernel)) rfl rfl rfl (st' := [(0, r3.1)]) rfl (S185 (Nat.le_trans (by decide) hd) 3 h _ q9) ?_
        obtain ⟨q10, e⟩ := zG_s e
        exact zF_rbM (zRe1_w (by decide +kernel)) q10 e
/-- EchoValeModel.readSnow()Z -/
def F200 (h : zHM) : Option (Int × zHM) := if ¬ (h 15 6) = 6 then (F176 h).bind fun r1 => (F187 0 200 r1).bind fun r2 => if ¬ r2.1 = 0 then F200_0 zFu (h 15 6) 0 r2.2 else some (0, r2.2) else (F185 4 h).bind fun r3 => zG (r3.1 = 0 ∨ r3.1 = 1) (some (r3.1, r3.2))
set_option maxRecDepth 100000 in
theorem S200 {spec : zRn zH2} {hc : zHC} {o : Int → Int} {d : Nat} (hd : 4 ≤ d) (h : zHM) (v : (Int × zHM)) (e : F200 h = some v) : zRu2 spec d 200 [(22, 0)] (hc, h, o) (some (0, v.1)) (hc, v.2, o) := by
  refine zF_in (D := 3) (mx := 3) (L := [some (22, 0), none, none]) (by decide +kernel) rfl rfl hd (fun d hd => ?_)
  unfold F200 at e
  rcases zI_s e with ⟨q1, e⟩ | ⟨q1, e⟩
  · refine zF_blk (m := []) (d := 1) (b := B200_6) (gs := [0 ≤ 6 ∧ 6 < 209, ¬ (h 15 6) = 6]) (c' := (20, [some (22, 0), some (0, (h 15 6)), none], [], (hc, h, o))) K200_6 rfl ⟨by decide, q1, trivial⟩ ?_
    obtain ⟨r1, q2, e⟩ := zB_s e
    refine zF_blk (m := []) (d := 0) (b := B200_0) (gs := []) (c' := (21, [some (22, 0), some (0, (h 15 6)), none], [(22, 0)], (hc, h, o))) K200_0 rfl trivial ?_
    refine zF_call (k := 176) (cl := 12) (n := 1) (i := .invokevirtual 162) (args := [(22, 0)]) (rest := []) (g1 := (hc, r1, o)) (r1 := none) (zCk1_w (by decide +kernel)) rfl rfl rfl (st' := []) rfl (S176 (Nat.le_trans (by decide) hd)  h _ q2) ?_
    obtain ⟨r2, q3, e⟩ := zB_s e
    refine zF_blk (m := []) (d := 0) (b := B200_1) (gs := []) (c' := (29, [some (22, 0), some (0, (h 15 6)), none], [(0, 200), (0, 0), (22, 0)], (hc, r1, o))) K200_1 rfl trivial ?_
    refine zF_call (k := 187) (cl := 12) (n := 3) (i := .invokevirtual 158) (args := [(22, 0), (0, 0), (0, 200)]) (rest := []) (g1 := (hc, r2.2, o)) (r1 := some (0, r2.1)) (zCk1_w (by decide +kernel)) rfl rfl rfl (st' := [(0, r2.1)]) rfl (S187 (Nat.le_trans (by decide) hd) 0 200 r1 _ q3) ?_
    rcases zI_s e with ⟨q4, e⟩ | ⟨q4, e⟩
    · refine zF_blk (m := []) (d := 1) (b := B200_4) (gs := [¬ r2.1 = 0]) (c' := (37, [some (22, 0), some (0, (h 15 6)), none], [], (hc, r2.2, o))) K200_4 rfl ⟨q4, trivial⟩ ?_
      refine zF_blk (m := []) (d := 0) (b := B200_2) (gs := []) (c' := (39, [some (22, 0), some (0, (h 15 6)), some (0, 0)], [], (hc, r2.2, o))) K200_2 rfl trivial ?_
      exact T200_0 hd zFu (h 15 6) 0 r2.2 _ e
    · refine zF_blk (m := []) (d := 0) (b := B200_4) (gs := [¬ (¬ r2.1 = 0)]) (c' := (35, [some (22, 0), some (0, (h 15 6)), none], [], (hc, r2.2, o))) K200_4 rfl ⟨q4, trivial⟩ ?_
      refine zF_blk (m := []) (d := 0) (b := B200_3) (gs := []) (c' := (36, [some (22, 0), some (0, (h 15 6)), none], [(0, 0)], (hc, r2.2, o))) K200_3 rfl trivial ?_
      exact zF_rbM (zRe1_w (by decide +kernel)) (Or.inl rfl) e
  · refine zF_blk (m := []) (d := 0) (b := B200_6) (gs := [0 ≤ 6 ∧ 6 < 209, ¬ (¬ (h 15 6) = 6)]) (c' := (14, [some (22, 0), some (0, (h 15 6)), none], [], (hc, h, o))) K200_6 rfl ⟨by decide, q1, trivial⟩ ?_
    obtain ⟨r3, q5, e⟩ := zB_s e
    refine zF_blk (m := []) (d := 0) (b := B200_5) (gs := []) (c' := (16, [some (22, 0), some (0, (h 15 6)), none], [(0, 4), (22, 0)], (hc, h, o))) K200_5 rfl trivial ?_
    refine zF_call (k := 185) (cl := 12) (n := 2) (i := .invokevirtual 148) (args := [(22, 0), (0, 4)]) (rest := []) (g1 := (hc, r3.2, o)) (r1 := some (0, r3.1)) (zCk1_w (by decide +kernel)) rfl rfl rfl (st' := [(0, r3.1)]) rfl (S185 (Nat.le_trans (by decide) hd) 4 h _ q5) ?_
    obtain ⟨q6, e⟩ := zG_s e
    exact zF_rbM (zRe1_w (by decide +kernel)) q6 e
noncomputable def B193_0 : List zRow := [(0, .aload_n 0, 1, (0, 0, 0)), (1, .iconst 0, 1, (0, 0, 0)), (2, .aload_n 0, 1, (0, 0, 0)), (3, .getfield 16, 3, (12, 15, 5243718)), (6, .iconst 0, 1, (0, 0, 0)), (7, .iaload, 1, (0, 0, 0)), (8, .iconst 1, 1, (0, 0, 0)), (9, .isub, 1, (0, 0, 0))]
theorem K193_0 : zRk 193 B193_0 = true := zRw_ok (by decide +kernel)
noncomputable def B193_1 : List zRow := [(18, .aload_n 0, 1, (0, 0, 0)), (19, .getfield 155, 3, (12, 13, 0)), (22, .istore_n 1, 1, (0, 0, 0)), (23, .aload_n 0, 1, (0, 0, 0)), (24, .iconst 0, 1, (0, 0, 0)), (25, .aload_n 0, 1, (0, 0, 0)), (26, .getfield 16, 3, (12, 15, 5243718)), (29, .iconst 1, 1, (0, 0, 0)), (30, .iaload, 1, (0, 0, 0)), (31, .iconst 1, 1, (0, 0, 0)), (32, .isub, 1, (0, 0, 0))]
theorem K193_1 : zRk 193 B193_1 = true := zRw_ok (by decide +kernel)
noncomputable def B193_2 : List zRow := [(41, .aload_n 0, 1, (0, 0, 0)), (42, .bipush 10, 2, (0, 0, 0)), (44, .aload_n 0, 1, (0, 0, 0)), (45, .getfield 155, 3, (12, 13, 0))]
theorem K193_2 : zRk 193 B193_2 = true := zRw_ok (by decide +kernel)
noncomputable def B193_3 : List zRow := [(48, .imul, 1, (0, 0, 0)), (49, .iload_n 1, 1, (0, 0, 0)), (50, .iadd, 1, (0, 0, 0)), (51, .putfield 155, 3, (12, 13, 0)), (54, .iconst 1, 1, (0, 0, 0))]
theorem K193_3 : zRk 193 B193_3 = true := zRw_ok (by decide +kernel)
noncomputable def B193_4 : List zRow := [(39, .iconst 0, 1, (0, 0, 0))]
theorem K193_4 : zRk 193 B193_4 = true := zRw_ok (by decide +kernel)
noncomputable def B193_5 : List zRow := [(36, .ifCond .ne 5, 3, (0, 0, 0))]
theorem K193_5 : zRk 193 B193_5 = true := zRw_ok (by decide +kernel)
noncomputable def B193_6 : List zRow := [(16, .iconst 0, 1, (0, 0, 0))]
theorem K193_6 : zRk 193 B193_6 = true := zRw_ok (by decide +kernel)
noncomputable def B193_7 : List zRow := [(13, .ifCond .ne 5, 3, (0, 0, 0))]
theorem K193_7 : zRk 193 B193_7 = true := zRw_ok (by decide +kernel)
/-- EchoValeModel.holdCell()Z -/
def F193 (h : zHM) : Option (Int × zHM) := (F186 0 (wsub (h 15 0) 1) h).bind fun r1 => if ¬ r1.1 = 0 then (F187 0 (wsub (r1.2 15 1) 1) r1.2).bind fun r2 => if ¬ r2.1 = 0 then some (1, (mset r2.2 13 0 (wadd (wmul 10 (r2.2 13 0)) (r1.2 13 0)))) else some (0, r2.2) else some (0, r1.2)
set_option maxRecDepth 100000 in
theorem S193 {spec : zRn zH2} {hc : zHC} {o : Int → Int} {d : Nat} (hd : 4 ≤ d) (h : zHM) (v : (Int × zHM)) (e : F193 h = some v) : zRu2 spec d 193 [(22, 0)] (hc, h, o) (some (0, v.1)) (hc, v.2, o) := by
  refine zF_in (D := 3) (mx := 2) (L := [some (22, 0), none]) (by decide +kernel) rfl rfl hd (fun d hd => ?_)
  unfold F193 at e
  obtain ⟨r1, q1, e⟩ := zB_s e
  refine zF_blk (m := []) (d := 0) (b := B193_0) (gs := [0 ≤ 0 ∧ 0 < 209]) (c' := (10, [some (22, 0), none], [(0, (wsub (h 15 0) 1)), (0, 0), (22, 0)], (hc, h, o))) K193_0 rfl ⟨by decide, trivial⟩ ?_
  refine zF_call (k := 186) (cl := 12) (n := 3) (i := .invokevirtual 180) (args := [(22, 0), (0, 0), (0, (wsub (h 15 0) 1))]) (rest := []) (g1 := (hc, r1.2, o)) (r1 := some (0, r1.1)) (zCk1_w (by decide +kernel)) rfl rfl rfl (st' := [(0, r1.1)]) rfl (S186 (Nat.le_trans (by decide) hd) 0 (wsub (h 15 0) 1) h _ q1) ?_
  rcases zI_s e with ⟨q2, e⟩ | ⟨q2, e⟩
  · refine zF_blk (m := []) (d := 1) (b := B193_7) (gs := [¬ r1.1 = 0]) (c' := (18, [some (22, 0), none], [], (hc, r1.2, o))) K193_7 rfl ⟨q2, trivial⟩ ?_
    obtain ⟨r2, q3, e⟩ := zB_s e
    refine zF_blk (m := []) (d := 0) (b := B193_1) (gs := [0 ≤ 1 ∧ 1 < 209]) (c' := (33, [some (22, 0), some (0, (r1.2 13 0))], [(0, (wsub (r1.2 15 1) 1)), (0, 0), (22, 0)], (hc, r1.2, o))) K193_1 rfl ⟨by decide, trivial⟩ ?_
    refine zF_call (k := 187) (cl := 12) (n := 3) (i := .invokevirtual 158) (args := [(22, 0), (0, 0), (0, (wsub (r1.2 15 1) 1))]) (rest := []) (g1 := (hc, r2.2, o)) (r1 := some (0, r2.1)) (zCk1_w (by decide +kernel)) rfl rfl rfl (st' := [(0, r2.1)]) rfl (S187 (Nat.le_trans (by decide) hd) 0 (wsub (r1.2 15 1) 1) r1.2 _ q3) ?_
    rcases zI_s e with ⟨q4, e⟩ | ⟨q4, e⟩
    · refine zF_blk (m := []) (d := 1) (b := B193_5) (gs := [¬ r2.1 = 0]) (c' := (41, [some (22, 0), some (0, (r1.2 13 0))], [], (hc, r2.2, o))) K193_5 rfl ⟨q4, trivial⟩ ?_
      refine zF_blk (m := []) (d := 0) (b := B193_2) (gs := []) (c' := (48, [some (22, 0), some (0, (r1.2 13 0))], [(0, (r2.2 13 0)), (0, 10), (22, 0)], (hc, r2.2, o))) K193_2 rfl trivial ?_
      refine zF_blk (m := []) (d := 0) (b := B193_3) (gs := []) (c' := (55, [some (22, 0), some (0, (r1.2 13 0))], [(0, 1)], (hc, (mset r2.2 13 0 (wadd (wmul 10 (r2.2 13 0)) (r1.2 13 0))), o))) K193_3 rfl trivial ?_
      exact zF_rbM (zRe1_w (by decide +kernel)) (Or.inr rfl) e
    · refine zF_blk (m := []) (d := 0) (b := B193_5) (gs := [¬ (¬ r2.1 = 0)]) (c' := (39, [some (22, 0), some (0, (r1.2 13 0))], [], (hc, r2.2, o))) K193_5 rfl ⟨q4, trivial⟩ ?_
      refine zF_blk (m := []) (d := 0) (b := B193_4) (gs := []) (c' := (40, [some (22, 0), some (0, (r1.2 13 0))], [(0, 0)], (hc, r2.2, o))) K193_4 rfl trivial ?_
      exact zF_rbM (zRe1_w (by decide +kernel)) (Or.inl rfl) e
  · refine zF_blk (m := []) (d := 0) (b := B193_7) (gs := [¬ (¬ r1.1 = 0)]) (c' := (16, [some (22, 0), none], [], (hc, r1.2, o))) K193_7 rfl ⟨q2, trivial⟩ ?_
    refine zF_blk (m := []) (d := 0) (b := B193_6) (gs := []) (c' := (17, [some (22, 0), none], [(0, 0)], (hc, r1.2, o))) K193_6 rfl trivial ?_
    exact zF_rbM (zRe1_w (by decide +kernel)) (Or.inl rfl) e
noncomputable def B199_0 : List zRow := [(17, .aload_n 0, 1, (0, 0, 0))]
theorem K199_0 : zRk 199 B199_0 = true := zRw_ok (by decide +kernel)
noncomputable def B199_1 : List zRow := [(21, .aload_n 0, 1, (0, 0, 0))]
theorem K199_1 : zRk 199 B199_1 = true := zRw_ok (by decide +kernel)
noncomputable def B199_2 : List zRow := [(30, .aload_n 0, 1, (0, 0, 0)), (31, .getfield 16, 3, (12, 15, 5243718)), (34, .bipush 97, 2, (0, 0, 0)), (36, .aload_n 0, 1, (0, 0, 0)), (37, .getfield 155, 3, (12, 13, 0))]
theorem K199_2 : zRk 199 B199_2 = true := zRw_ok (by decide +kernel)
noncomputable def B199_3 : List zRow := [(51, .aload_n 0, 1, (0, 0, 0)), (52, .getfield 16, 3, (12, 15, 5243718)), (55, .bipush 97, 2, (0, 0, 0)), (57, .aload_n 0, 1, (0, 0, 0)), (58, .getfield 155, 3, (12, 13, 0))]
theorem K199_3 : zRk 199 B199_3 = true := zRw_ok (by decide +kernel)
noncomputable def B199_4 : List zRow := [(61, .iadd, 1, (0, 0, 0)), (62, .iconst 1, 1, (0, 0, 0)), (63, .iastore, 1, (0, 0, 0)), (64, .aload_n 0, 1, (0, 0, 0)), (65, .getfield 16, 3, (12, 15, 5243718)), (68, .iconst 5, 1, (0, 0, 0)), (69, .dup2, 1, (0, 0, 0)), (70, .iaload, 1, (0, 0, 0)), (71, .iconst 1, 1, (0, 0, 0)), (72, .iadd, 1, (0, 0, 0)), (73, .iastore, 1, (0, 0, 0)), (74, .aload_n 0, 1, (0, 0, 0))]
theorem K199_4 : zRk 199 B199_4 = true := zRw_ok (by decide +kernel)
noncomputable def B199_5 : List zRow := [(78, .iconst 1, 1, (0, 0, 0))]
theorem K199_5 : zRk 199 B199_5 = true := zRw_ok (by decide +kernel)
noncomputable def B199_6 : List zRow := [(45, .aload_n 0, 1, (0, 0, 0)), (46, .iconst 3, 1, (0, 0, 0))]
theorem K199_6 : zRk 199 B199_6 = true := zRw_ok (by decide +kernel)
noncomputable def B199_7 : List zRow := [(40, .iadd, 1, (0, 0, 0)), (41, .iaload, 1, (0, 0, 0)), (42, .ifCond .le 9, 3, (0, 0, 0))]
theorem K199_7 : zRk 199 B199_7 = true := zRw_ok (by decide +kernel)
noncomputable def B199_8 : List zRow := [(28, .iconst 0, 1, (0, 0, 0))]
theorem K199_8 : zRk 199 B199_8 = true := zRw_ok (by decide +kernel)
noncomputable def B199_9 : List zRow := [(25, .ifCond .ne 5, 3, (0, 0, 0))]
theorem K199_9 : zRk 199 B199_9 = true := zRw_ok (by decide +kernel)
noncomputable def B199_10 : List zRow := [(11, .aload_n 0, 1, (0, 0, 0)), (12, .iconst 4, 1, (0, 0, 0))]
theorem K199_10 : zRk 199 B199_10 = true := zRw_ok (by decide +kernel)
noncomputable def B199_11 : List zRow := [(0, .aload_n 0, 1, (0, 0, 0)), (1, .getfield 16, 3, (12, 15, 5243718)), (4, .iconst 5, 1, (0, 0, 0)), (5, .iaload, 1, (0, 0, 0)), (6, .bipush 8, 2, (0, 0, 0)), (8, .if_icmp .ne 9, 3, (0, 0, 0))]
theorem K199_11 : zRk 199 B199_11 = true := zRw_ok (by decide +kernel)
/-- EchoValeModel.readFelt()Z -/
def F199 (h : zHM) : Option (Int × zHM) := if ¬ (h 15 5) = 8 then (F176 h).bind fun r1 => (F193 r1).bind fun r2 => if ¬ r2.1 = 0 then zG (0 ≤ (wadd 97 (r2.2 13 0)) ∧ (wadd 97 (r2.2 13 0)) < 209) (if (r2.2 15 (wadd 97 (r2.2 13 0))) ≤ 0 then zG (0 ≤ (wadd 97 (r2.2 13 0)) ∧ (wadd 97 (r2.2 13 0)) < 209) ((F176 (mset (mset r2.2 15 (wadd 97 (r2.2 13 0)) 1) 15 5 (wadd ((mset r2.2 15 (wadd 97 (r2.2 13 0)) 1) 15 5) 1))).bind fun r3 => some (1, r3)) else (F185 3 r2.2).bind fun r4 => zG (r4.1 = 0 ∨ r4.1 = 1) (some (r4.1, r4.2))) else some (0, r2.2) else (F185 4 h).bind fun r5 => zG (r5.1 = 0 ∨ r5.1 = 1) (some (r5.1, r5.2))
set_option maxRecDepth 100000 in
theorem S199 {spec : zRn zH2} {hc : zHC} {o : Int → Int} {d : Nat} (hd : 5 ≤ d) (h : zHM) (v : (Int × zHM)) (e : F199 h = some v) : zRu2 spec d 199 [(22, 0)] (hc, h, o) (some (0, v.1)) (hc, v.2, o) := by
  refine zF_in (D := 4) (mx := 1) (L := [some (22, 0)]) (by decide +kernel) rfl rfl hd (fun d hd => ?_)
  unfold F199 at e
  rcases zI_s e with ⟨q1, e⟩ | ⟨q1, e⟩
  · refine zF_blk (m := []) (d := 1) (b := B199_11) (gs := [0 ≤ 5 ∧ 5 < 209, ¬ (h 15 5) = 8]) (c' := (17, [some (22, 0)], [], (hc, h, o))) K199_11 rfl ⟨by decide, q1, trivial⟩ ?_
    obtain ⟨r1, q2, e⟩ := zB_s e
    refine zF_blk (m := []) (d := 0) (b := B199_0) (gs := []) (c' := (18, [some (22, 0)], [(22, 0)], (hc, h, o))) K199_0 rfl trivial ?_
    refine zF_call (k := 176) (cl := 12) (n := 1) (i := .invokevirtual 162) (args := [(22, 0)]) (rest := []) (g1 := (hc, r1, o)) (r1 := none) (zCk1_w (by decide +kernel)) rfl rfl rfl (st' := []) rfl (S176 (Nat.le_trans (by decide) hd)  h _ q2) ?_
    obtain ⟨r2, q3, e⟩ := zB_s e
    refine zF_blk (m := []) (d := 0) (b := B199_1) (gs := []) (c' := (22, [some (22, 0)], [(22, 0)], (hc, r1, o))) K199_1 rfl trivial ?_
    refine zF_call (k := 193) (cl := 12) (n := 1) (i := .invokevirtual 183) (args := [(22, 0)]) (rest := []) (g1 := (hc, r2.2, o)) (r1 := some (0, r2.1)) (zCk1_w (by decide +kernel)) rfl rfl rfl (st' := [(0, r2.1)]) rfl (S193 (Nat.le_trans (by decide) hd)  r1 _ q3) ?_
    rcases zI_s e with ⟨q4, e⟩ | ⟨q4, e⟩
    · refine zF_blk (m := []) (d := 1) (b := B199_9) (gs := [¬ r2.1 = 0]) (c' := (30, [some (22, 0)], [], (hc, r2.2, o))) K199_9 rfl ⟨q4, trivial⟩ ?_
      obtain ⟨q5, e⟩ := zG_s e
      refine zF_blk (m := []) (d := 0) (b := B199_2) (gs := []) (c' := (40, [some (22, 0)], [(0, (r2.2 13 0)), (0, 97), (1342393079, 0)], (hc, r2.2, o))) K199_2 rfl trivial ?_
      rcases zI_s e with ⟨q6, e⟩ | ⟨q6, e⟩
      · refine zF_blk (m := []) (d := 1) (b := B199_7) (gs := [0 ≤ (wadd 97 (r2.2 13 0)) ∧ (wadd 97 (r2.2 13 0)) < 209, (r2.2 15 (wadd 97 (r2.2 13 0))) ≤ 0]) (c' := (51, [some (22, 0)], [], (hc, r2.2, o))) K199_7 rfl ⟨q5, q6, trivial⟩ ?_
        obtain ⟨q7, e⟩ := zG_s e
        refine zF_blk (m := []) (d := 0) (b := B199_3) (gs := []) (c' := (61, [some (22, 0)], [(0, (r2.2 13 0)), (0, 97), (1342393079, 0)], (hc, r2.2, o))) K199_3 rfl trivial ?_
        obtain ⟨r3, q8, e⟩ := zB_s e
        refine zF_blk (m := []) (d := 0) (b := B199_4) (gs := [0 ≤ (wadd 97 (r2.2 13 0)) ∧ (wadd 97 (r2.2 13 0)) < 209, 0 ≤ 5 ∧ 5 < 209, 0 ≤ 5 ∧ 5 < 209]) (c' := (75, [some (22, 0)], [(22, 0)], (hc, (mset (mset r2.2 15 (wadd 97 (r2.2 13 0)) 1) 15 5 (wadd ((mset r2.2 15 (wadd 97 (r2.2 13 0)) 1) 15 5) 1)), o))) K199_4 rfl ⟨q7, by decide, by decide, trivial⟩ ?_
        refine zF_call (k := 176) (cl := 12) (n := 1) (i := .invokevirtual 162) (args := [(22, 0)]) (rest := []) (g1 := (hc, r3, o)) (r1 := none) (zCk1_w (by decide +kernel)) rfl rfl rfl (st' := []) rfl (S176 (Nat.le_trans (by decide) hd)  (mset (mset r2.2 15 (wadd 97 (r2.2 13 0)) 1) 15 5 (wadd ((mset r2.2 15 (wadd 97 (r2.2 13 0)) 1) 15 5) 1)) _ q8) ?_
        refine zF_blk (m := []) (d := 0) (b := B199_5) (gs := []) (c' := (79, [some (22, 0)], [(0, 1)], (hc, r3, o))) K199_5 rfl trivial ?_
        exact zF_rbM (zRe1_w (by decide +kernel)) (Or.inr rfl) e
      · refine zF_blk (m := []) (d := 0) (b := B199_7) (gs := [0 ≤ (wadd 97 (r2.2 13 0)) ∧ (wadd 97 (r2.2 13 0)) < 209, ¬ ((r2.2 15 (wadd 97 (r2.2 13 0))) ≤ 0)]) (c' := (45, [some (22, 0)], [], (hc, r2.2, o))) K199_7 rfl ⟨q5, q6, trivial⟩ ?_
        obtain ⟨r4, q9, e⟩ := zB_s e
        refine zF_blk (m := []) (d := 0) (b := B199_6) (gs := []) (c' := (47, [some (22, 0)], [(0, 3), (22, 0)], (hc, r2.2, o))) K199_6 rfl trivial ?_
        refine zF_call (k := 185) (cl := 12) (n := 2) (i := .invokevirtual 148) (args := [(22, 0), (0, 3)]) (rest := []) (g1 := (hc, r4.2, o)) (r1 := some (0, r4.1)) (zCk1_w (by decide +kernel)) rfl rfl rfl (st' := [(0, r4.1)]) rfl (S185 (Nat.le_trans (by decide) hd) 3 r2.2 _ q9) ?_
        obtain ⟨q10, e⟩ := zG_s e
        exact zF_rbM (zRe1_w (by decide +kernel)) q10 e
    · refine zF_blk (m := []) (d := 0) (b := B199_9) (gs := [¬ (¬ r2.1 = 0)]) (c' := (28, [some (22, 0)], [], (hc, r2.2, o))) K199_9 rfl ⟨q4, trivial⟩ ?_
      refine zF_blk (m := []) (d := 0) (b := B199_8) (gs := []) (c' := (29, [some (22, 0)], [(0, 0)], (hc, r2.2, o))) K199_8 rfl trivial ?_
      exact zF_rbM (zRe1_w (by decide +kernel)) (Or.inl rfl) e
  · refine zF_blk (m := []) (d := 0) (b := B199_11) (gs := [0 ≤ 5 ∧ 5 < 209, ¬ (¬ (h 15 5) = 8)]) (c' := (11, [some (22, 0)], [], (hc, h, o))) K199_11 rfl ⟨by decide, q1, trivial⟩ ?_
    obtain ⟨r5, q11, e⟩ := zB_s e
    refine zF_blk (m := []) (d := 0) (b := B199_10) (gs := []) (c' := (13, [some (22, 0)], [(0, 4), (22, 0)], (hc, h, o))) K199_10 rfl trivial ?_
    refine zF_call (k := 185) (cl := 12) (n := 2) (i := .invokevirtual 148) (args := [(22, 0), (0, 4)]) (rest := []) (g1 := (hc, r5.2, o)) (r1 := some (0, r5.1)) (zCk1_w (by decide +kernel)) rfl rfl rfl (st' := [(0, r5.1)]) rfl (S185 (Nat.le_trans (by decide) hd) 4 h _ q11) ?_
    obtain ⟨q12, e⟩ := zG_s e
    exact zF_rbM (zRe1_w (by decide +kernel)) q12 e
noncomputable def B191_0 : List zRow := [(10, .iconst 0, 1, (0, 0, 0)), (11, .istore_n 1, 1, (0, 0, 0))]
theorem K191_0 : zRk 191 B191_0 = true := zRw_ok (by decide +kernel)
noncomputable def B191_1 : List zRow := [(8, .iconst 0, 1, (0, 0, 0))]
theorem K191_1 : zRk 191 B191_1 = true := zRw_ok (by decide +kernel)
noncomputable def B191_2 : List zRow := [(0, .aload_n 0, 1, (0, 0, 0)), (1, .getfield 107, 3, (12, 7, 0)), (4, .iconst 2, 1, (0, 0, 0)), (5, .if_icmp .eq 5, 3, (0, 0, 0))]
theorem K191_2 : zRk 191 B191_2 = true := zRw_ok (by decide +kernel)
noncomputable def B191_3 : List zRow := [(38, .iconst 1, 1, (0, 0, 0))]
theorem K191_3 : zRk 191 B191_3 = true := zRw_ok (by decide +kernel)
noncomputable def B191_4 : List zRow := [(18, .aload_n 0, 1, (0, 0, 0)), (19, .getfield 120, 3, (12, 12, 1)), (22, .iload_n 1, 1, (0, 0, 0))]
theorem K191_4 : zRk 191 B191_4 = true := zRw_ok (by decide +kernel)
noncomputable def B191_5 : List zRow := [(32, .iinc 1 1, 3, (0, 0, 0)), (35, .goto (-23), 3, (0, 0, 0))]
theorem K191_5 : zRk 191 B191_5 = true := zRw_ok (by decide +kernel)
noncomputable def B191_6 : List zRow := [(30, .iconst 0, 1, (0, 0, 0))]
theorem K191_6 : zRk 191 B191_6 = true := zRw_ok (by decide +kernel)
noncomputable def B191_7 : List zRow := [(26, .lcmp, 1, (0, 0, 0)), (27, .ifCond .ne 5, 3, (0, 0, 0))]
theorem K191_7 : zRk 191 B191_7 = true := zRw_ok (by decide +kernel)
noncomputable def B191_8 : List zRow := [(12, .iload_n 1, 1, (0, 0, 0)), (13, .bipush 20, 2, (0, 0, 0)), (15, .if_icmp .gt 23, 3, (0, 0, 0))]
theorem K191_8 : zRk 191 B191_8 = true := zRw_ok (by decide +kernel)
def F191_0 (h : zHM) : Nat → Int → Option Int
  | 0, _ => none
  | n + 1, v1 => if 20 < v1 then some 1 else (F182 v1).bind fun r1 => if ¬ (qcmp (h 12 0) r1) = 0 then (F191_0 h n) (wadd v1 1) else some 0
set_option maxRecDepth 100000 in
theorem T191_0 {spec : zRn zH2} {hc : zHC} {o : Int → Int} {d : Nat} (hd : 2 ≤ d) (h : zHM) : ∀ (n : Nat) (v1 : Int) (v : Int), F191_0 h n v1 = some v → zFin 0 (fun _ => 0) (zRu2 spec d) 191 (some (0, v)) (hc, h, o) (12, [some (22, 0), some (0, v1)], [], (hc, h, o)) := by
  intro n
  induction n with
  | zero => intro v1 v e; unfold F191_0 at e; cases e
  | succ n hk0 =>
    intro v1 v e
    unfold F191_0 at e
    rcases zI_s e with ⟨q1, e⟩ | ⟨q1, e⟩
    · refine zF_blk (m := []) (d := 1) (b := B191_8) (gs := [20 < v1]) (c' := (38, [some (22, 0), some (0, v1)], [], (hc, h, o))) K191_8 rfl ⟨q1, trivial⟩ ?_
      refine zF_blk (m := []) (d := 0) (b := B191_3) (gs := []) (c' := (39, [some (22, 0), some (0, v1)], [(0, 1)], (hc, h, o))) K191_3 rfl trivial ?_
      obtain rfl := Option.some.inj e
      exact zF_rb (zRe1_w (by decide +kernel)) (Or.inr rfl)
    · refine zF_blk (m := []) (d := 0) (b := B191_8) (gs := [¬ (20 < v1)]) (c' := (18, [some (22, 0), some (0, v1)], [], (hc, h, o))) K191_8 rfl ⟨q1, trivial⟩ ?_
      obtain ⟨r1, q2, e⟩ := zB_s e
      refine zF_blk (m := []) (d := 0) (b := B191_4) (gs := []) (c' := (23, [some (22, 0), some (0, v1)], [(0, v1), (1, (h 12 0))], (hc, h, o))) K191_4 rfl trivial ?_
      refine zF_call (k := 182) (cl := 12) (n := 1) (i := .invokestatic 138) (args := [(0, v1)]) (rest := [(1, (h 12 0))]) (g1 := (hc, h, o)) (r1 := some (1, r1)) (zCk1_w (by decide +kernel)) rfl rfl rfl (st' := [(1, r1), (1, (h 12 0))]) rfl (S182 (Nat.le_trans (by decide) hd) v1 h _ q2) ?_
      rcases zI_s e with ⟨q3, e⟩ | ⟨q3, e⟩
      · refine zF_blk (m := []) (d := 1) (b := B191_7) (gs := [¬ (qcmp (h 12 0) r1) = 0]) (c' := (32, [some (22, 0), some (0, v1)], [], (hc, h, o))) K191_7 rfl ⟨q3, trivial⟩ ?_
        refine zF_blk (m := []) (d := 0) (b := B191_5) (gs := []) (c' := (12, [some (22, 0), some (0, (wadd v1 1))], [], (hc, h, o))) K191_5 rfl trivial ?_
        exact hk0 (wadd v1 1) _ e
      · refine zF_blk (m := []) (d := 0) (b := B191_7) (gs := [¬ (¬ (qcmp (h 12 0) r1) = 0)]) (c' := (30, [some (22, 0), some (0, v1)], [], (hc, h, o))) K191_7 rfl ⟨q3, trivial⟩ ?_
        refine zF_blk (m := []) (d := 0) (b := B191_6) (gs := []) (c' := (31, [some (22, 0), some (0, v1)], [(0, 0)], (hc, h, o))) K191_6 rfl trivial ?_
        obtain rfl := Option.some.inj e
        exact zF_rb (zRe1_w (by decide +kernel)) (Or.inl rfl)
/-- EchoValeModel.isName()Z -/
def F191 (h : zHM) : Option Int := if (h 7 0) = 2 then F191_0 h zFu 0 else some 0
set_option maxRecDepth 100000 in
theorem S191 {spec : zRn zH2} {hc : zHC} {o : Int → Int} {d : Nat} (hd : 3 ≤ d) (h : zHM) (v : Int) (e : F191 h = some v) : zRu2 spec d 191 [(22, 0)] (hc, h, o) (some (0, v)) (hc, h, o) := by
  refine zF_in (D := 2) (mx := 2) (L := [some (22, 0), none]) (by decide +kernel) rfl rfl hd (fun d hd => ?_)
  unfold F191 at e
  rcases zI_s e with ⟨q1, e⟩ | ⟨q1, e⟩
  · refine zF_blk (m := []) (d := 1) (b := B191_2) (gs := [(h 7 0) = 2]) (c' := (10, [some (22, 0), none], [], (hc, h, o))) K191_2 rfl ⟨q1, trivial⟩ ?_
    refine zF_blk (m := []) (d := 0) (b := B191_0) (gs := []) (c' := (12, [some (22, 0), some (0, 0)], [], (hc, h, o))) K191_0 rfl trivial ?_
    exact T191_0 hd h zFu 0 _ e
  · refine zF_blk (m := []) (d := 0) (b := B191_2) (gs := [¬ ((h 7 0) = 2)]) (c' := (8, [some (22, 0), none], [], (hc, h, o))) K191_2 rfl ⟨q1, trivial⟩ ?_
    refine zF_blk (m := []) (d := 0) (b := B191_1) (gs := []) (c' := (9, [some (22, 0), none], [(0, 0)], (hc, h, o))) K191_1 rfl trivial ?_
    obtain rfl := Option.some.inj e
    exact zF_rb (zRe1_w (by decide +kernel)) (Or.inl rfl)
noncomputable def B192_0 : List zRow := [(0, .iconst 0, 1, (0, 0, 0)), (1, .istore 5, 2, (0, 0, 0))]
theorem K192_0 : zRk 192 B192_0 = true := zRw_ok (by decide +kernel)
noncomputable def B192_1 : List zRow := [(29, .iconst (-1), 1, (0, 0, 0))]
theorem K192_1 : zRk 192 B192_1 = true := zRw_ok (by decide +kernel)
noncomputable def B192_2 : List zRow := [(23, .iinc 5 1, 3, (0, 0, 0)), (26, .goto (-23), 3, (0, 0, 0))]
theorem K192_2 : zRk 192 B192_2 = true := zRw_ok (by decide +kernel)
noncomputable def B192_3 : List zRow := [(20, .iload 5, 2, (0, 0, 0))]
theorem K192_3 : zRk 192 B192_3 = true := zRw_ok (by decide +kernel)
noncomputable def B192_4 : List zRow := [(9, .aload_n 0, 1, (0, 0, 0)), (10, .iload_n 1, 1, (0, 0, 0)), (11, .iload 5, 2, (0, 0, 0)), (13, .iadd, 1, (0, 0, 0)), (14, .laload, 1, (0, 0, 0)), (15, .lload_n 3, 1, (0, 0, 0)), (16, .lcmp, 1, (0, 0, 0)), (17, .ifCond .ne 6, 3, (0, 0, 0))]
theorem K192_4 : zRk 192 B192_4 = true := zRw_ok (by decide +kernel)
noncomputable def B192_5 : List zRow := [(3, .iload 5, 2, (0, 0, 0)), (5, .iload_n 2, 1, (0, 0, 0)), (6, .if_icmp .ge 23, 3, (0, 0, 0))]
theorem K192_5 : zRk 192 B192_5 = true := zRw_ok (by decide +kernel)
def F192_0 (h : zHM) : Nat → Int → Int → Int → Int → Option Int
  | 0, _, _, _, _ => none
  | n + 1, v1, v2, v3, v5 => if v2 ≤ v5 then some (-1) else zG (0 ≤ (wadd v1 v5) ∧ (wadd v1 v5) < 12) (if ¬ (qcmp (h 20 (wadd v1 v5)) v3) = 0 then (F192_0 h n) v1 v2 v3 (wadd v5 1) else some v5)
set_option maxRecDepth 100000 in
theorem T192_0 {spec : zRn zH2} {hc : zHC} {o : Int → Int} {d : Nat} (hd : 0 ≤ d) (h : zHM) : ∀ (n : Nat) (v1 : Int) (v2 : Int) (v3 : Int) (v5 : Int) (v : Int), F192_0 h n v1 v2 v3 v5 = some v → zFin 0 (fun _ => 0) (zRu2 spec d) 192 (some (0, v)) (hc, h, o) (3, [some (1409300220, 0), some (0, v1), some (0, v2), some (1, v3), none, some (0, v5)], [], (hc, h, o)) := by
  intro n
  induction n with
  | zero => intro v1 v2 v3 v5 v e; unfold F192_0 at e; cases e
  | succ n hk0 =>
    intro v1 v2 v3 v5 v e
    unfold F192_0 at e
    rcases zI_s e with ⟨q1, e⟩ | ⟨q1, e⟩
    · refine zF_blk (m := []) (d := 1) (b := B192_5) (gs := [v2 ≤ v5]) (c' := (29, [some (1409300220, 0), some (0, v1), some (0, v2), some (1, v3), none, some (0, v5)], [], (hc, h, o))) K192_5 rfl ⟨q1, trivial⟩ ?_
      refine zF_blk (m := []) (d := 0) (b := B192_1) (gs := []) (c' := (30, [some (1409300220, 0), some (0, v1), some (0, v2), some (1, v3), none, some (0, v5)], [(0, (-1))], (hc, h, o))) K192_1 rfl trivial ?_
      obtain rfl := Option.some.inj e
      exact zF_ri (zRe1_w (by decide +kernel))
    · refine zF_blk (m := []) (d := 0) (b := B192_5) (gs := [¬ (v2 ≤ v5)]) (c' := (9, [some (1409300220, 0), some (0, v1), some (0, v2), some (1, v3), none, some (0, v5)], [], (hc, h, o))) K192_5 rfl ⟨q1, trivial⟩ ?_
      obtain ⟨q2, e⟩ := zG_s e
      rcases zI_s e with ⟨q3, e⟩ | ⟨q3, e⟩
      · refine zF_blk (m := []) (d := 1) (b := B192_4) (gs := [0 ≤ (wadd v1 v5) ∧ (wadd v1 v5) < 12, ¬ (qcmp (h 20 (wadd v1 v5)) v3) = 0]) (c' := (23, [some (1409300220, 0), some (0, v1), some (0, v2), some (1, v3), none, some (0, v5)], [], (hc, h, o))) K192_4 rfl ⟨q2, q3, trivial⟩ ?_
        refine zF_blk (m := []) (d := 0) (b := B192_2) (gs := []) (c' := (3, [some (1409300220, 0), some (0, v1), some (0, v2), some (1, v3), none, some (0, (wadd v5 1))], [], (hc, h, o))) K192_2 rfl trivial ?_
        exact hk0 v1 v2 v3 (wadd v5 1) _ e
      · refine zF_blk (m := []) (d := 0) (b := B192_4) (gs := [0 ≤ (wadd v1 v5) ∧ (wadd v1 v5) < 12, ¬ (¬ (qcmp (h 20 (wadd v1 v5)) v3) = 0)]) (c' := (20, [some (1409300220, 0), some (0, v1), some (0, v2), some (1, v3), none, some (0, v5)], [], (hc, h, o))) K192_4 rfl ⟨q2, q3, trivial⟩ ?_
        refine zF_blk (m := []) (d := 0) (b := B192_3) (gs := []) (c' := (22, [some (1409300220, 0), some (0, v1), some (0, v2), some (1, v3), none, some (0, v5)], [(0, v5)], (hc, h, o))) K192_3 rfl trivial ?_
        obtain rfl := Option.some.inj e
        exact zF_ri (zRe1_w (by decide +kernel))
/-- EchoValeModel.findIn([JIIJ)I -/
def F192 (v1 : Int) (v2 : Int) (v3 : Int) (h : zHM) : Option Int := F192_0 h zFu v1 v2 v3 0
set_option maxRecDepth 100000 in
theorem S192 {spec : zRn zH2} {hc : zHC} {o : Int → Int} {d : Nat} (hd : 1 ≤ d) (v1 : Int) (v2 : Int) (v3 : Int) (h : zHM) (v : Int) (e : F192 v1 v2 v3 h = some v) : zRu2 spec d 192 [(1409300220, 0), (0, v1), (0, v2), (1, v3)] (hc, h, o) (some (0, v)) (hc, h, o) := by
  refine zF_in (D := 0) (mx := 6) (L := [some (1409300220, 0), some (0, v1), some (0, v2), some (1, v3), none, none]) (by decide +kernel) rfl rfl hd (fun d hd => ?_)
  unfold F192 at e
  refine zF_blk (m := []) (d := 0) (b := B192_0) (gs := []) (c' := (3, [some (1409300220, 0), some (0, v1), some (0, v2), some (1, v3), none, some (0, 0)], [], (hc, h, o))) K192_0 rfl trivial ?_
  exact T192_0 hd h zFu v1 v2 v3 0 _ e
noncomputable def B197_0 : List zRow := [(0, .aload_n 0, 1, (0, 0, 0))]
theorem K197_0 : zRk 197 B197_0 = true := zRw_ok (by decide +kernel)
noncomputable def B197_1 : List zRow := [(13, .aload_n 0, 1, (0, 0, 0)), (14, .aload_n 0, 1, (0, 0, 0)), (15, .getfield 32, 3, (12, 20, 5505074)), (18, .bipush 6, 2, (0, 0, 0)), (20, .aload_n 0, 1, (0, 0, 0)), (21, .getfield 16, 3, (12, 15, 5243718)), (24, .iconst 3, 1, (0, 0, 0)), (25, .iaload, 1, (0, 0, 0)), (26, .aload_n 0, 1, (0, 0, 0)), (27, .getfield 120, 3, (12, 12, 1))]
theorem K197_1 : zRk 197 B197_1 = true := zRw_ok (by decide +kernel)
noncomputable def B197_2 : List zRow := [(44, .aload_n 0, 1, (0, 0, 0)), (45, .iconst 3, 1, (0, 0, 0))]
theorem K197_2 : zRk 197 B197_2 = true := zRw_ok (by decide +kernel)
noncomputable def B197_3 : List zRow := [(56, .iconst 0, 1, (0, 0, 0))]
theorem K197_3 : zRk 197 B197_3 = true := zRw_ok (by decide +kernel)
noncomputable def B197_4 : List zRow := [(49, .ifCond .eq 7, 3, (0, 0, 0))]
theorem K197_4 : zRk 197 B197_4 = true := zRw_ok (by decide +kernel)
noncomputable def B197_5 : List zRow := [(33, .putfield 155, 3, (12, 13, 0)), (36, .aload_n 0, 1, (0, 0, 0)), (37, .getfield 155, 3, (12, 13, 0)), (40, .iconst (-1), 1, (0, 0, 0)), (41, .if_icmp .ne 11, 3, (0, 0, 0))]
theorem K197_5 : zRk 197 B197_5 = true := zRw_ok (by decide +kernel)
noncomputable def B197_6 : List zRow := [(7, .aload_n 0, 1, (0, 0, 0)), (8, .iconst 1, 1, (0, 0, 0))]
theorem K197_6 : zRk 197 B197_6 = true := zRw_ok (by decide +kernel)
noncomputable def B197_7 : List zRow := [(4, .ifCond .ne 9, 3, (0, 0, 0))]
theorem K197_7 : zRk 197 B197_7 = true := zRw_ok (by decide +kernel)
noncomputable def B197_8 : List zRow := [(52, .iconst 1, 1, (0, 0, 0)), (53, .goto 4, 3, (0, 0, 0))]
theorem K197_8 : zRk 197 B197_8 = true := zRw_ok (by decide +kernel)
def F197_0 (h : zHM) : Option (Int × zHM) := some (1, h)
set_option maxRecDepth 100000 in
theorem T197_0 {spec : zRn zH2} {hc : zHC} {o : Int → Int} {d : Nat} (hd : 3 ≤ d) (h : zHM) (v : (Int × zHM)) (e : F197_0 h = some v) : zFin 0 (fun _ => 0) (zRu2 spec d) 197 (some (0, v.1)) (hc, v.2, o) (52, [none], [], (hc, h, o)) := by
  unfold F197_0 at e
  refine zF_blk (m := []) (d := 0) (b := B197_8) (gs := []) (c' := (57, [none], [(0, 1)], (hc, h, o))) K197_8 rfl trivial ?_
  exact zF_rbM (zRe1_w (by decide +kernel)) (Or.inr rfl) e
/-- EchoValeModel.isOne()Z -/
def F197 (h : zHM) : Option (Int × zHM) := (F191 h).bind fun r1 => if ¬ r1 = 0 then (F192 6 (h 15 3) (h 12 0) h).bind fun r2 => if ¬ r2 = (-1) then F197_0 (mset h 13 0 r2) else (F185 3 (mset h 13 0 r2)).bind fun r3 => if r3.1 = 0 then some (0, r3.2) else F197_0 r3.2 else (F185 1 h).bind fun r4 => zG (r4.1 = 0 ∨ r4.1 = 1) (some (r4.1, r4.2))
set_option maxRecDepth 100000 in
theorem S197 {spec : zRn zH2} {hc : zHC} {o : Int → Int} {d : Nat} (hd : 4 ≤ d) (h : zHM) (v : (Int × zHM)) (e : F197 h = some v) : zRu2 spec d 197 [(22, 0)] (hc, h, o) (some (0, v.1)) (hc, v.2, o) := by
  refine zF_in (D := 3) (mx := 1) (L := [some (22, 0)]) (by decide +kernel) rfl rfl hd (fun d hd => ?_)
  unfold F197 at e
  obtain ⟨r1, q1, e⟩ := zB_s e
  refine zF_blk (m := []) (d := 0) (b := B197_0) (gs := []) (c' := (1, [some (22, 0)], [(22, 0)], (hc, h, o))) K197_0 rfl trivial ?_
  refine zF_call (k := 191) (cl := 12) (n := 1) (i := .invokevirtual 172) (args := [(22, 0)]) (rest := []) (g1 := (hc, h, o)) (r1 := some (0, r1)) (zCk1_w (by decide +kernel)) rfl rfl rfl (st' := [(0, r1)]) rfl (S191 (Nat.le_trans (by decide) hd)  h _ q1) ?_
  rcases zI_s e with ⟨q2, e⟩ | ⟨q2, e⟩
  · refine zF_blk (m := []) (d := 1) (b := B197_7) (gs := [¬ r1 = 0]) (c' := (13, [some (22, 0)], [], (hc, h, o))) K197_7 rfl ⟨q2, trivial⟩ ?_
    obtain ⟨r2, q3, e⟩ := zB_s e
    refine zF_blk (m := []) (d := 0) (b := B197_1) (gs := [0 ≤ 3 ∧ 3 < 209]) (c' := (30, [some (22, 0)], [(1, (h 12 0)), (0, (h 15 3)), (0, 6), (1409300220, 0), (22, 0)], (hc, h, o))) K197_1 rfl ⟨by decide, trivial⟩ ?_
    refine zF_call (k := 192) (cl := 12) (n := 4) (i := .invokestatic 176) (args := [(1409300220, 0), (0, 6), (0, (h 15 3)), (1, (h 12 0))]) (rest := [(22, 0)]) (g1 := (hc, h, o)) (r1 := some (0, r2)) (zCk1_w (by decide +kernel)) rfl rfl rfl (st' := [(0, r2), (22, 0)]) rfl (S192 (Nat.le_trans (by decide) hd) 6 (h 15 3) (h 12 0) h _ q3) ?_
    rcases zI_s e with ⟨q4, e⟩ | ⟨q4, e⟩
    · refine zF_blk (m := []) (d := 1) (b := B197_5) (gs := [¬ r2 = (-1)]) (c' := (52, [some (22, 0)], [], (hc, (mset h 13 0 r2), o))) K197_5 rfl ⟨q4, trivial⟩ ?_
      refine zF_blk (m := [false]) (d := 0) (b := []) (gs := []) (c' := (52, [none], [], (hc, (mset h 13 0 r2), o))) rfl rfl trivial ?_
      exact T197_0 hd (mset h 13 0 r2) _ e
    · refine zF_blk (m := []) (d := 0) (b := B197_5) (gs := [¬ (¬ r2 = (-1))]) (c' := (44, [some (22, 0)], [], (hc, (mset h 13 0 r2), o))) K197_5 rfl ⟨q4, trivial⟩ ?_
      obtain ⟨r3, q5, e⟩ := zB_s e
      refine zF_blk (m := []) (d := 0) (b := B197_2) (gs := []) (c' := (46, [some (22, 0)], [(0, 3), (22, 0)], (hc, (mset h 13 0 r2), o))) K197_2 rfl trivial ?_
      refine zF_call (k := 185) (cl := 12) (n := 2) (i := .invokevirtual 148) (args := [(22, 0), (0, 3)]) (rest := []) (g1 := (hc, r3.2, o)) (r1 := some (0, r3.1)) (zCk1_w (by decide +kernel)) rfl rfl rfl (st' := [(0, r3.1)]) rfl (S185 (Nat.le_trans (by decide) hd) 3 (mset h 13 0 r2) _ q5) ?_
      rcases zI_s e with ⟨q6, e⟩ | ⟨q6, e⟩
      · refine zF_blk (m := []) (d := 1) (b := B197_4) (gs := [r3.1 = 0]) (c' := (56, [some (22, 0)], [], (hc, r3.2, o))) K197_4 rfl ⟨q6, trivial⟩ ?_
        refine zF_blk (m := []) (d := 0) (b := B197_3) (gs := []) (c' := (57, [some (22, 0)], [(0, 0)], (hc, r3.2, o))) K197_3 rfl trivial ?_
        exact zF_rbM (zRe1_w (by decide +kernel)) (Or.inl rfl) e
      · refine zF_blk (m := []) (d := 0) (b := B197_4) (gs := [¬ (r3.1 = 0)]) (c' := (52, [some (22, 0)], [], (hc, r3.2, o))) K197_4 rfl ⟨q6, trivial⟩ ?_
        refine zF_blk (m := [false]) (d := 0) (b := []) (gs := []) (c' := (52, [none], [], (hc, r3.2, o))) rfl rfl trivial ?_
        exact T197_0 hd r3.2 _ e
  · refine zF_blk (m := []) (d := 0) (b := B197_7) (gs := [¬ (¬ r1 = 0)]) (c' := (7, [some (22, 0)], [], (hc, h, o))) K197_7 rfl ⟨q2, trivial⟩ ?_
    obtain ⟨r4, q7, e⟩ := zB_s e
    refine zF_blk (m := []) (d := 0) (b := B197_6) (gs := []) (c' := (9, [some (22, 0)], [(0, 1), (22, 0)], (hc, h, o))) K197_6 rfl trivial ?_
    refine zF_call (k := 185) (cl := 12) (n := 2) (i := .invokevirtual 148) (args := [(22, 0), (0, 1)]) (rest := []) (g1 := (hc, r4.2, o)) (r1 := some (0, r4.1)) (zCk1_w (by decide +kernel)) rfl rfl rfl (st' := [(0, r4.1)]) rfl (S185 (Nat.le_trans (by decide) hd) 1 h _ q7) ?_
    obtain ⟨q8, e⟩ := zG_s e
    exact zF_rbM (zRe1_w (by decide +kernel)) q8 e
noncomputable def B195_0 : List zRow := [(0, .aload_n 0, 1, (0, 0, 0))]
theorem K195_0 : zRk 195 B195_0 = true := zRw_ok (by decide +kernel)
noncomputable def B195_1 : List zRow := [(9, .aload_n 0, 1, (0, 0, 0))]
theorem K195_1 : zRk 195 B195_1 = true := zRw_ok (by decide +kernel)
noncomputable def B195_2 : List zRow := [(13, .iconst 1, 1, (0, 0, 0))]
theorem K195_2 : zRk 195 B195_2 = true := zRw_ok (by decide +kernel)
noncomputable def B195_3 : List zRow := [(7, .iconst 0, 1, (0, 0, 0))]
theorem K195_3 : zRk 195 B195_3 = true := zRw_ok (by decide +kernel)
noncomputable def B195_4 : List zRow := [(4, .ifCond .ne 5, 3, (0, 0, 0))]
theorem K195_4 : zRk 195 B195_4 = true := zRw_ok (by decide +kernel)
/-- EchoValeModel.readCell()Z -/
def F195 (h : zHM) : Option (Int × zHM) := (F193 h).bind fun r1 => if ¬ r1.1 = 0 then (F176 r1.2).bind fun r2 => some (1, r2) else some (0, r1.2)
set_option maxRecDepth 100000 in
theorem S195 {spec : zRn zH2} {hc : zHC} {o : Int → Int} {d : Nat} (hd : 5 ≤ d) (h : zHM) (v : (Int × zHM)) (e : F195 h = some v) : zRu2 spec d 195 [(22, 0)] (hc, h, o) (some (0, v.1)) (hc, v.2, o) := by
  refine zF_in (D := 4) (mx := 1) (L := [some (22, 0)]) (by decide +kernel) rfl rfl hd (fun d hd => ?_)
  unfold F195 at e
  obtain ⟨r1, q1, e⟩ := zB_s e
  refine zF_blk (m := []) (d := 0) (b := B195_0) (gs := []) (c' := (1, [some (22, 0)], [(22, 0)], (hc, h, o))) K195_0 rfl trivial ?_
  refine zF_call (k := 193) (cl := 12) (n := 1) (i := .invokevirtual 183) (args := [(22, 0)]) (rest := []) (g1 := (hc, r1.2, o)) (r1 := some (0, r1.1)) (zCk1_w (by decide +kernel)) rfl rfl rfl (st' := [(0, r1.1)]) rfl (S193 (Nat.le_trans (by decide) hd)  h _ q1) ?_
  rcases zI_s e with ⟨q2, e⟩ | ⟨q2, e⟩
  · refine zF_blk (m := []) (d := 1) (b := B195_4) (gs := [¬ r1.1 = 0]) (c' := (9, [some (22, 0)], [], (hc, r1.2, o))) K195_4 rfl ⟨q2, trivial⟩ ?_
    obtain ⟨r2, q3, e⟩ := zB_s e
    refine zF_blk (m := []) (d := 0) (b := B195_1) (gs := []) (c' := (10, [some (22, 0)], [(22, 0)], (hc, r1.2, o))) K195_1 rfl trivial ?_
    refine zF_call (k := 176) (cl := 12) (n := 1) (i := .invokevirtual 162) (args := [(22, 0)]) (rest := []) (g1 := (hc, r2, o)) (r1 := none) (zCk1_w (by decide +kernel)) rfl rfl rfl (st' := []) rfl (S176 (Nat.le_trans (by decide) hd)  r1.2 _ q3) ?_
    refine zF_blk (m := []) (d := 0) (b := B195_2) (gs := []) (c' := (14, [some (22, 0)], [(0, 1)], (hc, r2, o))) K195_2 rfl trivial ?_
    exact zF_rbM (zRe1_w (by decide +kernel)) (Or.inr rfl) e
  · refine zF_blk (m := []) (d := 0) (b := B195_4) (gs := [¬ (¬ r1.1 = 0)]) (c' := (7, [some (22, 0)], [], (hc, r1.2, o))) K195_4 rfl ⟨q2, trivial⟩ ?_
    refine zF_blk (m := []) (d := 0) (b := B195_3) (gs := []) (c' := (8, [some (22, 0)], [(0, 0)], (hc, r1.2, o))) K195_3 rfl trivial ?_
    exact zF_rbM (zRe1_w (by decide +kernel)) (Or.inl rfl) e
noncomputable def B198_0 : List zRow := [(0, .aload_n 0, 1, (0, 0, 0))]
theorem K198_0 : zRk 198 B198_0 = true := zRw_ok (by decide +kernel)
noncomputable def B198_1 : List zRow := [(4, .aload_n 0, 1, (0, 0, 0))]
theorem K198_1 : zRk 198 B198_1 = true := zRw_ok (by decide +kernel)
noncomputable def B198_2 : List zRow := [(13, .aload_n 0, 1, (0, 0, 0)), (14, .getfield 155, 3, (12, 13, 0)), (17, .istore_n 1, 1, (0, 0, 0)), (18, .aload_n 0, 1, (0, 0, 0)), (19, .getfield 16, 3, (12, 15, 5243718)), (22, .bipush 25, 2, (0, 0, 0)), (24, .iconst 2, 1, (0, 0, 0)), (25, .iload_n 1, 1, (0, 0, 0))]
theorem K198_2 : zRk 198 B198_2 = true := zRw_ok (by decide +kernel)
noncomputable def B198_3 : List zRow := [(26, .imul, 1, (0, 0, 0))]
theorem K198_3 : zRk 198 B198_3 = true := zRw_ok (by decide +kernel)
noncomputable def B198_4 : List zRow := [(41, .aload_n 0, 1, (0, 0, 0))]
theorem K198_4 : zRk 198 B198_4 = true := zRw_ok (by decide +kernel)
noncomputable def B198_5 : List zRow := [(45, .aload_n 0, 1, (0, 0, 0))]
theorem K198_5 : zRk 198 B198_5 = true := zRw_ok (by decide +kernel)
noncomputable def B198_6 : List zRow := [(54, .aload_n 0, 1, (0, 0, 0)), (55, .getfield 16, 3, (12, 15, 5243718)), (58, .bipush 25, 2, (0, 0, 0)), (60, .iconst 2, 1, (0, 0, 0)), (61, .iload_n 1, 1, (0, 0, 0))]
theorem K198_6 : zRk 198 B198_6 = true := zRw_ok (by decide +kernel)
noncomputable def B198_7 : List zRow := [(62, .imul, 1, (0, 0, 0))]
theorem K198_7 : zRk 198 B198_7 = true := zRw_ok (by decide +kernel)
noncomputable def B198_8 : List zRow := [(63, .iadd, 1, (0, 0, 0)), (64, .iconst 1, 1, (0, 0, 0)), (65, .iadd, 1, (0, 0, 0)), (66, .aload_n 0, 1, (0, 0, 0)), (67, .getfield 155, 3, (12, 13, 0)), (70, .iastore, 1, (0, 0, 0)), (71, .iconst 1, 1, (0, 0, 0))]
theorem K198_8 : zRk 198 B198_8 = true := zRw_ok (by decide +kernel)
noncomputable def B198_9 : List zRow := [(52, .iconst 0, 1, (0, 0, 0))]
theorem K198_9 : zRk 198 B198_9 = true := zRw_ok (by decide +kernel)
noncomputable def B198_10 : List zRow := [(49, .ifCond .ne 5, 3, (0, 0, 0))]
theorem K198_10 : zRk 198 B198_10 = true := zRw_ok (by decide +kernel)
noncomputable def B198_11 : List zRow := [(35, .aload_n 0, 1, (0, 0, 0)), (36, .iconst 3, 1, (0, 0, 0))]
theorem K198_11 : zRk 198 B198_11 = true := zRw_ok (by decide +kernel)
noncomputable def B198_12 : List zRow := [(27, .iadd, 1, (0, 0, 0)), (28, .iconst 1, 1, (0, 0, 0)), (29, .iadd, 1, (0, 0, 0)), (30, .iaload, 1, (0, 0, 0)), (31, .iconst (-1), 1, (0, 0, 0)), (32, .if_icmp .eq 9, 3, (0, 0, 0))]
theorem K198_12 : zRk 198 B198_12 = true := zRw_ok (by decide +kernel)
noncomputable def B198_13 : List zRow := [(11, .iconst 0, 1, (0, 0, 0))]
theorem K198_13 : zRk 198 B198_13 = true := zRw_ok (by decide +kernel)
noncomputable def B198_14 : List zRow := [(8, .ifCond .ne 5, 3, (0, 0, 0))]
theorem K198_14 : zRk 198 B198_14 = true := zRw_ok (by decide +kernel)
/-- EchoValeModel.readCamp()Z -/
def F198 (h : zHM) : Option (Int × zHM) := (F176 h).bind fun r1 => (F197 r1).bind fun r2 => if ¬ r2.1 = 0 then zG (0 ≤ (wadd (wadd 25 (wmul 2 (r2.2 13 0))) 1) ∧ (wadd (wadd 25 (wmul 2 (r2.2 13 0))) 1) < 209) (if (r2.2 15 (wadd (wadd 25 (wmul 2 (r2.2 13 0))) 1)) = (-1) then (F176 r2.2).bind fun r3 => (F195 r3).bind fun r4 => if ¬ r4.1 = 0 then zG (0 ≤ (wadd (wadd 25 (wmul 2 (r2.2 13 0))) 1) ∧ (wadd (wadd 25 (wmul 2 (r2.2 13 0))) 1) < 209) (some (1, (mset r4.2 15 (wadd (wadd 25 (wmul 2 (r2.2 13 0))) 1) (r4.2 13 0)))) else some (0, r4.2) else (F185 3 r2.2).bind fun r5 => zG (r5.1 = 0 ∨ r5.1 = 1) (some (r5.1, r5.2))) else some (0, r2.2)
set_option maxRecDepth 100000 in
theorem S198 {spec : zRn zH2} {hc : zHC} {o : Int → Int} {d : Nat} (hd : 6 ≤ d) (h : zHM) (v : (Int × zHM)) (e : F198 h = some v) : zRu2 spec d 198 [(22, 0)] (hc, h, o) (some (0, v.1)) (hc, v.2, o) := by
  refine zF_in (D := 5) (mx := 2) (L := [some (22, 0), none]) (by decide +kernel) rfl rfl hd (fun d hd => ?_)
  unfold F198 at e
  obtain ⟨r1, q1, e⟩ := zB_s e
  refine zF_blk (m := []) (d := 0) (b := B198_0) (gs := []) (c' := (1, [some (22, 0), none], [(22, 0)], (hc, h, o))) K198_0 rfl trivial ?_
  refine zF_call (k := 176) (cl := 12) (n := 1) (i := .invokevirtual 162) (args := [(22, 0)]) (rest := []) (g1 := (hc, r1, o)) (r1 := none) (zCk1_w (by decide +kernel)) rfl rfl rfl (st' := []) rfl (S176 (Nat.le_trans (by decide) hd)  h _ q1) ?_
  obtain ⟨r2, q2, e⟩ := zB_s e
  refine zF_blk (m := []) (d := 0) (b := B198_1) (gs := []) (c' := (5, [some (22, 0), none], [(22, 0)], (hc, r1, o))) K198_1 rfl trivial ?_
  refine zF_call (k := 197) (cl := 12) (n := 1) (i := .invokevirtual 196) (args := [(22, 0)]) (rest := []) (g1 := (hc, r2.2, o)) (r1 := some (0, r2.1)) (zCk1_w (by decide +kernel)) rfl rfl rfl (st' := [(0, r2.1)]) rfl (S197 (Nat.le_trans (by decide) hd)  r1 _ q2) ?_
  rcases zI_s e with ⟨q3, e⟩ | ⟨q3, e⟩
  · refine zF_blk (m := []) (d := 1) (b := B198_14) (gs := [¬ r2.1 = 0]) (c' := (13, [some (22, 0), none], [], (hc, r2.2, o))) K198_14 rfl ⟨q3, trivial⟩ ?_
    obtain ⟨q4, e⟩ := zG_s e
    refine zF_blk (m := []) (d := 0) (b := B198_2) (gs := []) (c' := (26, [some (22, 0), some (0, (r2.2 13 0))], [(0, (r2.2 13 0)), (0, 2), (0, 25), (1342393079, 0)], (hc, r2.2, o))) K198_2 rfl trivial ?_
    refine zF_blk (m := []) (d := 0) (b := B198_3) (gs := []) (c' := (27, [some (22, 0), some (0, (r2.2 13 0))], [(0, (wmul 2 (r2.2 13 0))), (0, 25), (1342393079, 0)], (hc, r2.2, o))) K198_3 rfl trivial ?_
    rcases zI_s e with ⟨q5, e⟩ | ⟨q5, e⟩
    · refine zF_blk (m := []) (d := 1) (b := B198_12) (gs := [0 ≤ (wadd (wadd 25 (wmul 2 (r2.2 13 0))) 1) ∧ (wadd (wadd 25 (wmul 2 (r2.2 13 0))) 1) < 209, (r2.2 15 (wadd (wadd 25 (wmul 2 (r2.2 13 0))) 1)) = (-1)]) (c' := (41, [some (22, 0), some (0, (r2.2 13 0))], [], (hc, r2.2, o))) K198_12 rfl ⟨q4, q5, trivial⟩ ?_
      obtain ⟨r3, q6, e⟩ := zB_s e
      refine zF_blk (m := []) (d := 0) (b := B198_4) (gs := []) (c' := (42, [some (22, 0), some (0, (r2.2 13 0))], [(22, 0)], (hc, r2.2, o))) K198_4 rfl trivial ?_
      refine zF_call (k := 176) (cl := 12) (n := 1) (i := .invokevirtual 162) (args := [(22, 0)]) (rest := []) (g1 := (hc, r3, o)) (r1 := none) (zCk1_w (by decide +kernel)) rfl rfl rfl (st' := []) rfl (S176 (Nat.le_trans (by decide) hd)  r2.2 _ q6) ?_
      obtain ⟨r4, q7, e⟩ := zB_s e
      refine zF_blk (m := []) (d := 0) (b := B198_5) (gs := []) (c' := (46, [some (22, 0), some (0, (r2.2 13 0))], [(22, 0)], (hc, r3, o))) K198_5 rfl trivial ?_
      refine zF_call (k := 195) (cl := 12) (n := 1) (i := .invokevirtual 193) (args := [(22, 0)]) (rest := []) (g1 := (hc, r4.2, o)) (r1 := some (0, r4.1)) (zCk1_w (by decide +kernel)) rfl rfl rfl (st' := [(0, r4.1)]) rfl (S195 (Nat.le_trans (by decide) hd)  r3 _ q7) ?_
      rcases zI_s e with ⟨q8, e⟩ | ⟨q8, e⟩
      · refine zF_blk (m := []) (d := 1) (b := B198_10) (gs := [¬ r4.1 = 0]) (c' := (54, [some (22, 0), some (0, (r2.2 13 0))], [], (hc, r4.2, o))) K198_10 rfl ⟨q8, trivial⟩ ?_
        obtain ⟨q9, e⟩ := zG_s e
        refine zF_blk (m := []) (d := 0) (b := B198_6) (gs := []) (c' := (62, [some (22, 0), some (0, (r2.2 13 0))], [(0, (r2.2 13 0)), (0, 2), (0, 25), (1342393079, 0)], (hc, r4.2, o))) K198_6 rfl trivial ?_
        refine zF_blk (m := []) (d := 0) (b := B198_7) (gs := []) (c' := (63, [some (22, 0), some (0, (r2.2 13 0))], [(0, (wmul 2 (r2.2 13 0))), (0, 25), (1342393079, 0)], (hc, r4.2, o))) K198_7 rfl trivial ?_
        refine zF_blk (m := []) (d := 0) (b := B198_8) (gs := [0 ≤ (wadd (wadd 25 (wmul 2 (r2.2 13 0))) 1) ∧ (wadd (wadd 25 (wmul 2 (r2.2 13 0))) 1) < 209]) (c' := (72, [some (22, 0), some (0, (r2.2 13 0))], [(0, 1)], (hc, (mset r4.2 15 (wadd (wadd 25 (wmul 2 (r2.2 13 0))) 1) (r4.2 13 0)), o))) K198_8 rfl ⟨q9, trivial⟩ ?_
        exact zF_rbM (zRe1_w (by decide +kernel)) (Or.inr rfl) e
      · refine zF_blk (m := []) (d := 0) (b := B198_10) (gs := [¬ (¬ r4.1 = 0)]) (c' := (52, [some (22, 0), some (0, (r2.2 13 0))], [], (hc, r4.2, o))) K198_10 rfl ⟨q8, trivial⟩ ?_
        refine zF_blk (m := []) (d := 0) (b := B198_9) (gs := []) (c' := (53, [some (22, 0), some (0, (r2.2 13 0))], [(0, 0)], (hc, r4.2, o))) K198_9 rfl trivial ?_
        exact zF_rbM (zRe1_w (by decide +kernel)) (Or.inl rfl) e
    · refine zF_blk (m := []) (d := 0) (b := B198_12) (gs := [0 ≤ (wadd (wadd 25 (wmul 2 (r2.2 13 0))) 1) ∧ (wadd (wadd 25 (wmul 2 (r2.2 13 0))) 1) < 209, ¬ ((r2.2 15 (wadd (wadd 25 (wmul 2 (r2.2 13 0))) 1)) = (-1))]) (c' := (35, [some (22, 0), some (0, (r2.2 13 0))], [], (hc, r2.2, o))) K198_12 rfl ⟨q4, q5, trivial⟩ ?_
      obtain ⟨r5, q10, e⟩ := zB_s e
      refine zF_blk (m := []) (d := 0) (b := B198_11) (gs := []) (c' := (37, [some (22, 0), some (0, (r2.2 13 0))], [(0, 3), (22, 0)], (hc, r2.2, o))) K198_11 rfl trivial ?_
      refine zF_call (k := 185) (cl := 12) (n := 2) (i := .invokevirtual 148) (args := [(22, 0), (0, 3)]) (rest := []) (g1 := (hc, r5.2, o)) (r1 := some (0, r5.1)) (zCk1_w (by decide +kernel)) rfl rfl rfl (st' := [(0, r5.1)]) rfl (S185 (Nat.le_trans (by decide) hd) 3 r2.2 _ q10) ?_
      obtain ⟨q11, e⟩ := zG_s e
      exact zF_rbM (zRe1_w (by decide +kernel)) q11 e
  · refine zF_blk (m := []) (d := 0) (b := B198_14) (gs := [¬ (¬ r2.1 = 0)]) (c' := (11, [some (22, 0), none], [], (hc, r2.2, o))) K198_14 rfl ⟨q3, trivial⟩ ?_
    refine zF_blk (m := []) (d := 0) (b := B198_13) (gs := []) (c' := (12, [some (22, 0), none], [(0, 0)], (hc, r2.2, o))) K198_13 rfl trivial ?_
    exact zF_rbM (zRe1_w (by decide +kernel)) (Or.inl rfl) e
noncomputable def B196_0 : List zRow := [(19, .aload_n 0, 1, (0, 0, 0))]
theorem K196_0 : zRk 196 B196_0 = true := zRw_ok (by decide +kernel)
noncomputable def B196_1 : List zRow := [(23, .aload_n 0, 1, (0, 0, 0))]
theorem K196_1 : zRk 196 B196_1 = true := zRw_ok (by decide +kernel)
noncomputable def B196_2 : List zRow := [(32, .aload_n 0, 1, (0, 0, 0)), (33, .getfield 16, 3, (12, 15, 5243718)), (36, .bipush 37, 2, (0, 0, 0)), (38, .iconst 3, 1, (0, 0, 0)), (39, .iload_n 1, 1, (0, 0, 0))]
theorem K196_2 : zRk 196 B196_2 = true := zRw_ok (by decide +kernel)
noncomputable def B196_3 : List zRow := [(40, .imul, 1, (0, 0, 0))]
theorem K196_3 : zRk 196 B196_3 = true := zRw_ok (by decide +kernel)
noncomputable def B196_4 : List zRow := [(41, .iadd, 1, (0, 0, 0)), (42, .aload_n 0, 1, (0, 0, 0)), (43, .getfield 155, 3, (12, 13, 0)), (46, .iastore, 1, (0, 0, 0)), (47, .aload_n 0, 1, (0, 0, 0))]
theorem K196_4 : zRk 196 B196_4 = true := zRw_ok (by decide +kernel)
noncomputable def B196_5 : List zRow := [(51, .aload_n 0, 1, (0, 0, 0)), (52, .iconst 1, 1, (0, 0, 0)), (53, .sipush 200, 3, (0, 0, 0))]
theorem K196_5 : zRk 196 B196_5 = true := zRw_ok (by decide +kernel)
noncomputable def B196_6 : List zRow := [(64, .iconst 0, 1, (0, 0, 0)), (65, .istore_n 2, 1, (0, 0, 0))]
theorem K196_6 : zRk 196 B196_6 = true := zRw_ok (by decide +kernel)
noncomputable def B196_7 : List zRow := [(62, .iconst 0, 1, (0, 0, 0))]
theorem K196_7 : zRk 196 B196_7 = true := zRw_ok (by decide +kernel)
noncomputable def B196_8 : List zRow := [(59, .ifCond .ne 5, 3, (0, 0, 0))]
theorem K196_8 : zRk 196 B196_8 = true := zRw_ok (by decide +kernel)
noncomputable def B196_9 : List zRow := [(30, .iconst 0, 1, (0, 0, 0))]
theorem K196_9 : zRk 196 B196_9 = true := zRw_ok (by decide +kernel)
noncomputable def B196_10 : List zRow := [(27, .ifCond .ne 5, 3, (0, 0, 0))]
theorem K196_10 : zRk 196 B196_10 = true := zRw_ok (by decide +kernel)
noncomputable def B196_11 : List zRow := [(13, .aload_n 0, 1, (0, 0, 0)), (14, .iconst 4, 1, (0, 0, 0))]
theorem K196_11 : zRk 196 B196_11 = true := zRw_ok (by decide +kernel)
noncomputable def B196_12 : List zRow := [(0, .aload_n 0, 1, (0, 0, 0)), (1, .getfield 16, 3, (12, 15, 5243718)), (4, .iconst 4, 1, (0, 0, 0)), (5, .iaload, 1, (0, 0, 0)), (6, .istore_n 1, 1, (0, 0, 0)), (7, .iload_n 1, 1, (0, 0, 0)), (8, .bipush 20, 2, (0, 0, 0)), (10, .if_icmp .ne 9, 3, (0, 0, 0))]
theorem K196_12 : zRk 196 B196_12 = true := zRw_ok (by decide +kernel)
noncomputable def B196_13 : List zRow := [(128, .aload_n 0, 1, (0, 0, 0)), (129, .getfield 16, 3, (12, 15, 5243718)), (132, .bipush 37, 2, (0, 0, 0)), (134, .iconst 3, 1, (0, 0, 0)), (135, .iload_n 1, 1, (0, 0, 0))]
theorem K196_13 : zRk 196 B196_13 = true := zRw_ok (by decide +kernel)
noncomputable def B196_14 : List zRow := [(136, .imul, 1, (0, 0, 0))]
theorem K196_14 : zRk 196 B196_14 = true := zRw_ok (by decide +kernel)
noncomputable def B196_15 : List zRow := [(137, .iadd, 1, (0, 0, 0)), (138, .iconst 1, 1, (0, 0, 0)), (139, .iadd, 1, (0, 0, 0)), (140, .aload_n 0, 1, (0, 0, 0)), (141, .getfield 155, 3, (12, 13, 0)), (144, .iastore, 1, (0, 0, 0)), (145, .aload_n 0, 1, (0, 0, 0))]
theorem K196_15 : zRk 196 B196_15 = true := zRw_ok (by decide +kernel)
noncomputable def B196_16 : List zRow := [(149, .aload_n 0, 1, (0, 0, 0))]
theorem K196_16 : zRk 196 B196_16 = true := zRw_ok (by decide +kernel)
noncomputable def B196_17 : List zRow := [(158, .aload_n 0, 1, (0, 0, 0)), (159, .getfield 16, 3, (12, 15, 5243718)), (162, .bipush 37, 2, (0, 0, 0)), (164, .iconst 3, 1, (0, 0, 0)), (165, .iload_n 1, 1, (0, 0, 0))]
theorem K196_17 : zRk 196 B196_17 = true := zRw_ok (by decide +kernel)
noncomputable def B196_18 : List zRow := [(166, .imul, 1, (0, 0, 0))]
theorem K196_18 : zRk 196 B196_18 = true := zRw_ok (by decide +kernel)
noncomputable def B196_19 : List zRow := [(167, .iadd, 1, (0, 0, 0)), (168, .iconst 2, 1, (0, 0, 0)), (169, .iadd, 1, (0, 0, 0)), (170, .aload_n 0, 1, (0, 0, 0)), (171, .getfield 155, 3, (12, 13, 0)), (174, .iastore, 1, (0, 0, 0)), (175, .aload_n 0, 1, (0, 0, 0)), (176, .getfield 16, 3, (12, 15, 5243718)), (179, .iconst 4, 1, (0, 0, 0)), (180, .dup2, 1, (0, 0, 0)), (181, .iaload, 1, (0, 0, 0)), (182, .iconst 1, 1, (0, 0, 0)), (183, .iadd, 1, (0, 0, 0)), (184, .iastore, 1, (0, 0, 0)), (185, .iconst 1, 1, (0, 0, 0))]
theorem K196_19 : zRk 196 B196_19 = true := zRw_ok (by decide +kernel)
noncomputable def B196_20 : List zRow := [(156, .iconst 0, 1, (0, 0, 0))]
theorem K196_20 : zRk 196 B196_20 = true := zRw_ok (by decide +kernel)
noncomputable def B196_21 : List zRow := [(153, .ifCond .ne 5, 3, (0, 0, 0))]
theorem K196_21 : zRk 196 B196_21 = true := zRw_ok (by decide +kernel)
noncomputable def B196_22 : List zRow := [(71, .aload_n 0, 1, (0, 0, 0)), (72, .getfield 16, 3, (12, 15, 5243718)), (75, .bipush 37, 2, (0, 0, 0)), (77, .iconst 3, 1, (0, 0, 0)), (78, .iload_n 2, 1, (0, 0, 0))]
theorem K196_22 : zRk 196 B196_22 = true := zRw_ok (by decide +kernel)
noncomputable def B196_23 : List zRow := [(79, .imul, 1, (0, 0, 0))]
theorem K196_23 : zRk 196 B196_23 = true := zRw_ok (by decide +kernel)
noncomputable def B196_24 : List zRow := [(80, .iadd, 1, (0, 0, 0)), (81, .iaload, 1, (0, 0, 0)), (82, .aload_n 0, 1, (0, 0, 0)), (83, .getfield 16, 3, (12, 15, 5243718)), (86, .bipush 37, 2, (0, 0, 0)), (88, .iconst 3, 1, (0, 0, 0)), (89, .iload_n 1, 1, (0, 0, 0))]
theorem K196_24 : zRk 196 B196_24 = true := zRw_ok (by decide +kernel)
noncomputable def B196_25 : List zRow := [(90, .imul, 1, (0, 0, 0))]
theorem K196_25 : zRk 196 B196_25 = true := zRw_ok (by decide +kernel)
noncomputable def B196_26 : List zRow := [(96, .aload_n 0, 1, (0, 0, 0)), (97, .getfield 16, 3, (12, 15, 5243718)), (100, .bipush 37, 2, (0, 0, 0)), (102, .iconst 3, 1, (0, 0, 0)), (103, .iload_n 2, 1, (0, 0, 0))]
theorem K196_26 : zRk 196 B196_26 = true := zRw_ok (by decide +kernel)
noncomputable def B196_27 : List zRow := [(104, .imul, 1, (0, 0, 0))]
theorem K196_27 : zRk 196 B196_27 = true := zRw_ok (by decide +kernel)
noncomputable def B196_28 : List zRow := [(116, .aload_n 0, 1, (0, 0, 0)), (117, .iconst 3, 1, (0, 0, 0))]
theorem K196_28 : zRk 196 B196_28 = true := zRw_ok (by decide +kernel)
noncomputable def B196_29 : List zRow := [(105, .iadd, 1, (0, 0, 0)), (106, .iconst 1, 1, (0, 0, 0)), (107, .iadd, 1, (0, 0, 0)), (108, .iaload, 1, (0, 0, 0)), (109, .aload_n 0, 1, (0, 0, 0)), (110, .getfield 155, 3, (12, 13, 0)), (113, .if_icmp .ne 9, 3, (0, 0, 0))]
theorem K196_29 : zRk 196 B196_29 = true := zRw_ok (by decide +kernel)
noncomputable def B196_30 : List zRow := [(91, .iadd, 1, (0, 0, 0)), (92, .iaload, 1, (0, 0, 0)), (93, .if_icmp .ne 29, 3, (0, 0, 0))]
theorem K196_30 : zRk 196 B196_30 = true := zRw_ok (by decide +kernel)
noncomputable def B196_31 : List zRow := [(66, .iload_n 2, 1, (0, 0, 0)), (67, .iload_n 1, 1, (0, 0, 0)), (68, .if_icmp .ge 60, 3, (0, 0, 0))]
theorem K196_31 : zRk 196 B196_31 = true := zRw_ok (by decide +kernel)
noncomputable def B196_32 : List zRow := [(122, .iinc 2 1, 3, (0, 0, 0)), (125, .goto (-59), 3, (0, 0, 0))]
theorem K196_32 : zRk 196 B196_32 = true := zRw_ok (by decide +kernel)
def F196_1 (k0 : Int → Int → zHM → Option (Int × zHM)) (v1 : Int) (v2 : Int) (h : zHM) : Option (Int × zHM) := k0 v1 (wadd v2 1) h
set_option maxRecDepth 100000 in
theorem T196_1 {spec : zRn zH2} {hc : zHC} {o : Int → Int} {d : Nat} (hd : 5 ≤ d) (k0 : Int → Int → zHM → Option (Int × zHM)) (hk0 : ∀ (v1 : Int) (v2 : Int) (h : zHM) (v : (Int × zHM)), k0 v1 v2 h = some v → zFin 0 (fun _ => 0) (zRu2 spec d) 196 (some (0, v.1)) (hc, v.2, o) (66, [some (22, 0), some (0, v1), some (0, v2)], [], (hc, h, o))) (v1 : Int) (v2 : Int) (h : zHM) (v : (Int × zHM)) (e : F196_1 k0 v1 v2 h = some v) : zFin 0 (fun _ => 0) (zRu2 spec d) 196 (some (0, v.1)) (hc, v.2, o) (122, [some (22, 0), some (0, v1), some (0, v2)], [], (hc, h, o)) := by
  unfold F196_1 at e
  refine zF_blk (m := []) (d := 0) (b := B196_32) (gs := []) (c' := (66, [some (22, 0), some (0, v1), some (0, (wadd v2 1))], [], (hc, h, o))) K196_32 rfl trivial ?_
  exact hk0 v1 (wadd v2 1) h _ e
def F196_0 : Nat → Int → Int → zHM → Option (Int × zHM)
  | 0, _, _, _ => none
  | n + 1, v1, v2, h => if v1 ≤ v2 then zG (0 ≤ (wadd (wadd 37 (wmul 3 v1)) 1) ∧ (wadd (wadd 37 (wmul 3 v1)) 1) < 209) ((F176 (mset h 15 (wadd (wadd 37 (wmul 3 v1)) 1) (h 13 0))).bind fun r1 => (F195 r1).bind fun r2 => if ¬ r2.1 = 0 then zG (0 ≤ (wadd (wadd 37 (wmul 3 v1)) 2) ∧ (wadd (wadd 37 (wmul 3 v1)) 2) < 209) (some (1, (mset (mset r2.2 15 (wadd (wadd 37 (wmul 3 v1)) 2) (r2.2 13 0)) 15 4 (wadd ((mset r2.2 15 (wadd (wadd 37 (wmul 3 v1)) 2) (r2.2 13 0)) 15 4) 1)))) else some (0, r2.2)) else zG (0 ≤ (wadd 37 (wmul 3 v2)) ∧ (wadd 37 (wmul 3 v2)) < 209) (zG (0 ≤ (wadd 37 (wmul 3 v1)) ∧ (wadd 37 (wmul 3 v1)) < 209) (if ¬ (h 15 (wadd 37 (wmul 3 v2))) = (h 15 (wadd 37 (wmul 3 v1))) then F196_1 (F196_0 n) v1 v2 h else zG (0 ≤ (wadd (wadd 37 (wmul 3 v2)) 1) ∧ (wadd (wadd 37 (wmul 3 v2)) 1) < 209) (if ¬ (h 15 (wadd (wadd 37 (wmul 3 v2)) 1)) = (h 13 0) then F196_1 (F196_0 n) v1 v2 h else (F185 3 h).bind fun r3 => zG (r3.1 = 0 ∨ r3.1 = 1) (some (r3.1, r3.2)))))
set_option maxRecDepth 100000 in
theorem T196_0 {spec : zRn zH2} {hc : zHC} {o : Int → Int} {d : Nat} (hd : 5 ≤ d) : ∀ (n : Nat) (v1 : Int) (v2 : Int) (h : zHM) (v : (Int × zHM)), F196_0 n v1 v2 h = some v → zFin 0 (fun _ => 0) (zRu2 spec d) 196 (some (0, v.1)) (hc, v.2, o) (66, [some (22, 0), some (0, v1), some (0, v2)], [], (hc, h, o)) := by
  intro n
  induction n with
  | zero => intro v1 v2 h v e; unfold F196_0 at e; cases e
  | succ n hk0 =>
    intro v1 v2 h v e
    unfold F196_0 at e
    rcases zI_s e with ⟨q1, e⟩ | ⟨q1, e⟩
    · refine zF_blk (m := []) (d := 1) (b := B196_31) (gs := [v1 ≤ v2]) (c' := (128, [some (22, 0), some (0, v1), some (0, v2)], [], (hc, h, o))) K196_31 rfl ⟨q1, trivial⟩ ?_
      obtain ⟨q2, e⟩ := zG_s e
      refine zF_blk (m := []) (d := 0) (b := B196_13) (gs := []) (c' := (136, [some (22, 0), some (0, v1), some (0, v2)], [(0, v1), (0, 3), (0, 37), (1342393079, 0)], (hc, h, o))) K196_13 rfl trivial ?_
      refine zF_blk (m := []) (d := 0) (b := B196_14) (gs := []) (c' := (137, [some (22, 0), some (0, v1), some (0, v2)], [(0, (wmul 3 v1)), (0, 37), (1342393079, 0)], (hc, h, o))) K196_14 rfl trivial ?_
      obtain ⟨r1, q3, e⟩ := zB_s e
      refine zF_blk (m := []) (d := 0) (b := B196_15) (gs := [0 ≤ (wadd (wadd 37 (wmul 3 v1)) 1) ∧ (wadd (wadd 37 (wmul 3 v1)) 1) < 209]) (c' := (146, [some (22, 0), some (0, v1), some (0, v2)], [(22, 0)], (hc, (mset h 15 (wadd (wadd 37 (wmul 3 v1)) 1) (h 13 0)), o))) K196_15 rfl ⟨q2, trivial⟩ ?_
      refine zF_call (k := 176) (cl := 12) (n := 1) (i := .invokevirtual 162) (args := [(22, 0)]) (rest := []) (g1 := (hc, r1, o)) (r1 := none) (zCk1_w (by decide +kernel)) rfl rfl rfl (st' := []) rfl (S176 (Nat.le_trans (by decide) hd)  (mset h 15 (wadd (wadd 37 (wmul 3 v1)) 1) (h 13 0)) _ q3) ?_
      obtain ⟨r2, q4, e⟩ := zB_s e
      refine zF_blk (m := []) (d := 0) (b := B196_16) (gs := []) (c' := (150, [some (22, 0), some (0, v1), some (0, v2)], [(22, 0)], (hc, r1, o))) K196_16 rfl trivial ?_
      refine zF_call (k := 195) (cl := 12) (n := 1) (i := .invokevirtual 193) (args := [(22, 0)]) (rest := []) (g1 := (hc, r2.2, o)) (r1 := some (0, r2.1)) (zCk1_w (by decide +kernel)) rfl rfl rfl (st' := [(0, r2.1)]) rfl (S195 (Nat.le_trans (by decide) hd)  r1 _ q4) ?_
      rcases zI_s e with ⟨q5, e⟩ | ⟨q5, e⟩
      · refine zF_blk (m := []) (d := 1) (b := B196_21) (gs := [¬ r2.1 = 0]) (c' := (158, [some (22, 0), some (0, v1), some (0, v2)], [], (hc, r2.2, o))) K196_21 rfl ⟨q5, trivial⟩ ?_
        obtain ⟨q6, e⟩ := zG_s e
        refine zF_blk (m := []) (d := 0) (b := B196_17) (gs := []) (c' := (166, [some (22, 0), some (0, v1), some (0, v2)], [(0, v1), (0, 3), (0, 37), (1342393079, 0)], (hc, r2.2, o))) K196_17 rfl trivial ?_
        refine zF_blk (m := []) (d := 0) (b := B196_18) (gs := []) (c' := (167, [some (22, 0), some (0, v1), some (0, v2)], [(0, (wmul 3 v1)), (0, 37), (1342393079, 0)], (hc, r2.2, o))) K196_18 rfl trivial ?_
        refine zF_blk (m := []) (d := 0) (b := B196_19) (gs := [0 ≤ (wadd (wadd 37 (wmul 3 v1)) 2) ∧ (wadd (wadd 37 (wmul 3 v1)) 2) < 209, 0 ≤ 4 ∧ 4 < 209, 0 ≤ 4 ∧ 4 < 209]) (c' := (186, [some (22, 0), some (0, v1), some (0, v2)], [(0, 1)], (hc, (mset (mset r2.2 15 (wadd (wadd 37 (wmul 3 v1)) 2) (r2.2 13 0)) 15 4 (wadd ((mset r2.2 15 (wadd (wadd 37 (wmul 3 v1)) 2) (r2.2 13 0)) 15 4) 1)), o))) K196_19 rfl ⟨q6, by decide, by decide, trivial⟩ ?_
        exact zF_rbM (zRe1_w (by decide +kernel)) (Or.inr rfl) e
      · refine zF_blk (m := []) (d := 0) (b := B196_21) (gs := [¬ (¬ r2.1 = 0)]) (c' := (156, [some (22, 0), some (0, v1), some (0, v2)], [], (hc, r2.2, o))) K196_21 rfl ⟨q5, trivial⟩ ?_
        refine zF_blk (m := []) (d := 0) (b := B196_20) (gs := []) (c' := (157, [some (22, 0), some (0, v1), some (0, v2)], [(0, 0)], (hc, r2.2, o))) K196_20 rfl trivial ?_
        exact zF_rbM (zRe1_w (by decide +kernel)) (Or.inl rfl) e
    · refine zF_blk (m := []) (d := 0) (b := B196_31) (gs := [¬ (v1 ≤ v2)]) (c' := (71, [some (22, 0), some (0, v1), some (0, v2)], [], (hc, h, o))) K196_31 rfl ⟨q1, trivial⟩ ?_
      obtain ⟨q7, e⟩ := zG_s e
      obtain ⟨q8, e⟩ := zG_s e
      refine zF_blk (m := []) (d := 0) (b := B196_22) (gs := []) (c' := (79, [some (22, 0), some (0, v1), some (0, v2)], [(0, v2), (0, 3), (0, 37), (1342393079, 0)], (hc, h, o))) K196_22 rfl trivial ?_
      refine zF_blk (m := []) (d := 0) (b := B196_23) (gs := []) (c' := (80, [some (22, 0), some (0, v1), some (0, v2)], [(0, (wmul 3 v2)), (0, 37), (1342393079, 0)], (hc, h, o))) K196_23 rfl trivial ?_
      refine zF_blk (m := []) (d := 0) (b := B196_24) (gs := [0 ≤ (wadd 37 (wmul 3 v2)) ∧ (wadd 37 (wmul 3 v2)) < 209]) (c' := (90, [some (22, 0), some (0, v1), some (0, v2)], [(0, v1), (0, 3), (0, 37), (1342393079, 0), (0, (h 15 (wadd 37 (wmul 3 v2))))], (hc, h, o))) K196_24 rfl ⟨q7, trivial⟩ ?_
      refine zF_blk (m := []) (d := 0) (b := B196_25) (gs := []) (c' := (91, [some (22, 0), some (0, v1), some (0, v2)], [(0, (wmul 3 v1)), (0, 37), (1342393079, 0), (0, (h 15 (wadd 37 (wmul 3 v2))))], (hc, h, o))) K196_25 rfl trivial ?_
      rcases zI_s e with ⟨q9, e⟩ | ⟨q9, e⟩
      · refine zF_blk (m := []) (d := 1) (b := B196_30) (gs := [0 ≤ (wadd 37 (wmul 3 v1)) ∧ (wadd 37 (wmul 3 v1)) < 209, ¬ (h 15 (wadd 37 (wmul 3 v2))) = (h 15 (wadd 37 (wmul 3 v1)))]) (c' := (122, [some (22, 0), some (0, v1), some (0, v2)], [], (hc, h, o))) K196_30 rfl ⟨q8, q9, trivial⟩ ?_
        exact T196_1 hd (F196_0 n) hk0 v1 v2 h _ e
      · refine zF_blk (m := []) (d := 0) (b := B196_30) (gs := [0 ≤ (wadd 37 (wmul 3 v1)) ∧ (wadd 37 (wmul 3 v1)) < 209, ¬ (¬ (h 15 (wadd 37 (wmul 3 v2))) = (h 15 (wadd 37 (wmul 3 v1))))]) (c' := (96, [some (22, 0), some (0, v1), some (0, v2)], [], (hc, h, o))) K196_30 rfl ⟨q8, q9, trivial⟩ ?_
        obtain ⟨q10, e⟩ := zG_s e
        refine zF_blk (m := []) (d := 0) (b := B196_26) (gs := []) (c' := (104, [some (22, 0), some (0, v1), some (0, v2)], [(0, v2), (0, 3), (0, 37), (1342393079, 0)], (hc, h, o))) K196_26 rfl trivial ?_
        refine zF_blk (m := []) (d := 0) (b := B196_27) (gs := []) (c' := (105, [some (22, 0), some (0, v1), some (0, v2)], [(0, (wmul 3 v2)), (0, 37), (1342393079, 0)], (hc, h, o))) K196_27 rfl trivial ?_
        rcases zI_s e with ⟨q11, e⟩ | ⟨q11, e⟩
        · refine zF_blk (m := []) (d := 1) (b := B196_29) (gs := [0 ≤ (wadd (wadd 37 (wmul 3 v2)) 1) ∧ (wadd (wadd 37 (wmul 3 v2)) 1) < 209, ¬ (h 15 (wadd (wadd 37 (wmul 3 v2)) 1)) = (h 13 0)]) (c' := (122, [some (22, 0), some (0, v1), some (0, v2)], [], (hc, h, o))) K196_29 rfl ⟨q10, q11, trivial⟩ ?_
          exact T196_1 hd (F196_0 n) hk0 v1 v2 h _ e
        · refine zF_blk (m := []) (d := 0) (b := B196_29) (gs := [0 ≤ (wadd (wadd 37 (wmul 3 v2)) 1) ∧ (wadd (wadd 37 (wmul 3 v2)) 1) < 209, ¬ (¬ (h 15 (wadd (wadd 37 (wmul 3 v2)) 1)) = (h 13 0))]) (c' := (116, [some (22, 0), some (0, v1), some (0, v2)], [], (hc, h, o))) K196_29 rfl ⟨q10, q11, trivial⟩ ?_
          obtain ⟨r3, q12, e⟩ := zB_s e
          refine zF_blk (m := []) (d := 0) (b := B196_28) (gs := []) (c' := (118, [some (22, 0), some (0, v1), some (0, v2)], [(0, 3), (22, 0)], (hc, h, o))) K196_28 rfl trivial ?_
          refine zF_call (k := 185) (cl := 12) (n := 2) (i := .invokevirtual 148) (args := [(22, 0), (0, 3)]) (rest := []) (g1 := (hc, r3.2, o)) (r1 := some (0, r3.1)) (zCk1_w (by decide +kernel)) rfl rfl rfl (st' := [(0, r3.1)]) rfl (S185 (Nat.le_trans (by decide) hd) 3 h _ q12) ?_
          obtain ⟨q13, e⟩ := zG_s e
          exact zF_rbM (zRe1_w (by decide +kernel)) q13 e
/-- EchoValeModel.readMove()Z -/
def F196 (h : zHM) : Option (Int × zHM) := if ¬ (h 15 4) = 20 then (F176 h).bind fun r1 => (F197 r1).bind fun r2 => if ¬ r2.1 = 0 then zG (0 ≤ (wadd 37 (wmul 3 (h 15 4))) ∧ (wadd 37 (wmul 3 (h 15 4))) < 209) ((F176 (mset r2.2 15 (wadd 37 (wmul 3 (h 15 4))) (r2.2 13 0))).bind fun r3 => (F187 1 200 r3).bind fun r4 => if ¬ r4.1 = 0 then F196_0 zFu (h 15 4) 0 r4.2 else some (0, r4.2)) else some (0, r2.2) else (F185 4 h).bind fun r5 => zG (r5.1 = 0 ∨ r5.1 = 1) (some (r5.1, r5.2))
set_option maxRecDepth 100000 in
theorem S196 {spec : zRn zH2} {hc : zHC} {o : Int → Int} {d : Nat} (hd : 6 ≤ d) (h : zHM) (v : (Int × zHM)) (e : F196 h = some v) : zRu2 spec d 196 [(22, 0)] (hc, h, o) (some (0, v.1)) (hc, v.2, o) := by
  refine zF_in (D := 5) (mx := 3) (L := [some (22, 0), none, none]) (by decide +kernel) rfl rfl hd (fun d hd => ?_)
  unfold F196 at e
  rcases zI_s e with ⟨q1, e⟩ | ⟨q1, e⟩
  · refine zF_blk (m := []) (d := 1) (b := B196_12) (gs := [0 ≤ 4 ∧ 4 < 209, ¬ (h 15 4) = 20]) (c' := (19, [some (22, 0), some (0, (h 15 4)), none], [], (hc, h, o))) K196_12 rfl ⟨by decide, q1, trivial⟩ ?_
    obtain ⟨r1, q2, e⟩ := zB_s e
    refine zF_blk (m := []) (d := 0) (b := B196_0) (gs := []) (c' := (20, [some (22, 0), some (0, (h 15 4)), none], [(22, 0)], (hc, h, o))) K196_0 rfl trivial ?_
    refine zF_call (k := 176) (cl := 12) (n := 1) (i := .invokevirtual 162) (args := [(22, 0)]) (rest := []) (g1 := (hc, r1, o)) (r1 := none) (zCk1_w (by decide +kernel)) rfl rfl rfl (st' := []) rfl (S176 (Nat.le_trans (by decide) hd)  h _ q2) ?_
    obtain ⟨r2, q3, e⟩ := zB_s e
    refine zF_blk (m := []) (d := 0) (b := B196_1) (gs := []) (c' := (24, [some (22, 0), some (0, (h 15 4)), none], [(22, 0)], (hc, r1, o))) K196_1 rfl trivial ?_
    refine zF_call (k := 197) (cl := 12) (n := 1) (i := .invokevirtual 196) (args := [(22, 0)]) (rest := []) (g1 := (hc, r2.2, o)) (r1 := some (0, r2.1)) (zCk1_w (by decide +kernel)) rfl rfl rfl (st' := [(0, r2.1)]) rfl (S197 (Nat.le_trans (by decide) hd)  r1 _ q3) ?_
    rcases zI_s e with ⟨q4, e⟩ | ⟨q4, e⟩
    · refine zF_blk (m := []) (d := 1) (b := B196_10) (gs := [¬ r2.1 = 0]) (c' := (32, [some (22, 0), some (0, (h 15 4)), none], [], (hc, r2.2, o))) K196_10 rfl ⟨q4, trivial⟩ ?_
      obtain ⟨q5, e⟩ := zG_s e
      refine zF_blk (m := []) (d := 0) (b := B196_2) (gs := []) (c' := (40, [some (22, 0), some (0, (h 15 4)), none], [(0, (h 15 4)), (0, 3), (0, 37), (1342393079, 0)], (hc, r2.2, o))) K196_2 rfl trivial ?_
      refine zF_blk (m := []) (d := 0) (b := B196_3) (gs := []) (c' := (41, [some (22, 0), some (0, (h 15 4)), none], [(0, (wmul 3 (h 15 4))), (0, 37), (1342393079, 0)], (hc, r2.2, o))) K196_3 rfl trivial ?_
      obtain ⟨r3, q6, e⟩ := zB_s e
      refine zF_blk (m := []) (d := 0) (b := B196_4) (gs := [0 ≤ (wadd 37 (wmul 3 (h 15 4))) ∧ (wadd 37 (wmul 3 (h 15 4))) < 209]) (c' := (48, [some (22, 0), some (0, (h 15 4)), none], [(22, 0)], (hc, (mset r2.2 15 (wadd 37 (wmul 3 (h 15 4))) (r2.2 13 0)), o))) K196_4 rfl ⟨q5, trivial⟩ ?_
      refine zF_call (k := 176) (cl := 12) (n := 1) (i := .invokevirtual 162) (args := [(22, 0)]) (rest := []) (g1 := (hc, r3, o)) (r1 := none) (zCk1_w (by decide +kernel)) rfl rfl rfl (st' := []) rfl (S176 (Nat.le_trans (by decide) hd)  (mset r2.2 15 (wadd 37 (wmul 3 (h 15 4))) (r2.2 13 0)) _ q6) ?_
      obtain ⟨r4, q7, e⟩ := zB_s e
      refine zF_blk (m := []) (d := 0) (b := B196_5) (gs := []) (c' := (56, [some (22, 0), some (0, (h 15 4)), none], [(0, 200), (0, 1), (22, 0)], (hc, r3, o))) K196_5 rfl trivial ?_
      refine zF_call (k := 187) (cl := 12) (n := 3) (i := .invokevirtual 158) (args := [(22, 0), (0, 1), (0, 200)]) (rest := []) (g1 := (hc, r4.2, o)) (r1 := some (0, r4.1)) (zCk1_w (by decide +kernel)) rfl rfl rfl (st' := [(0, r4.1)]) rfl (S187 (Nat.le_trans (by decide) hd) 1 200 r3 _ q7) ?_
      rcases zI_s e with ⟨q8, e⟩ | ⟨q8, e⟩
      · refine zF_blk (m := []) (d := 1) (b := B196_8) (gs := [¬ r4.1 = 0]) (c' := (64, [some (22, 0), some (0, (h 15 4)), none], [], (hc, r4.2, o))) K196_8 rfl ⟨q8, trivial⟩ ?_
        refine zF_blk (m := []) (d := 0) (b := B196_6) (gs := []) (c' := (66, [some (22, 0), some (0, (h 15 4)), some (0, 0)], [], (hc, r4.2, o))) K196_6 rfl trivial ?_
        exact T196_0 hd zFu (h 15 4) 0 r4.2 _ e
      · refine zF_blk (m := []) (d := 0) (b := B196_8) (gs := [¬ (¬ r4.1 = 0)]) (c' := (62, [some (22, 0), some (0, (h 15 4)), none], [], (hc, r4.2, o))) K196_8 rfl ⟨q8, trivial⟩ ?_
        refine zF_blk (m := []) (d := 0) (b := B196_7) (gs := []) (c' := (63, [some (22, 0), some (0, (h 15 4)), none], [(0, 0)], (hc, r4.2, o))) K196_7 rfl trivial ?_
        exact zF_rbM (zRe1_w (by decide +kernel)) (Or.inl rfl) e
    · refine zF_blk (m := []) (d := 0) (b := B196_10) (gs := [¬ (¬ r2.1 = 0)]) (c' := (30, [some (22, 0), some (0, (h 15 4)), none], [], (hc, r2.2, o))) K196_10 rfl ⟨q4, trivial⟩ ?_
      refine zF_blk (m := []) (d := 0) (b := B196_9) (gs := []) (c' := (31, [some (22, 0), some (0, (h 15 4)), none], [(0, 0)], (hc, r2.2, o))) K196_9 rfl trivial ?_
      exact zF_rbM (zRe1_w (by decide +kernel)) (Or.inl rfl) e
  · refine zF_blk (m := []) (d := 0) (b := B196_12) (gs := [0 ≤ 4 ∧ 4 < 209, ¬ (¬ (h 15 4) = 20)]) (c' := (13, [some (22, 0), some (0, (h 15 4)), none], [], (hc, h, o))) K196_12 rfl ⟨by decide, q1, trivial⟩ ?_
    obtain ⟨r5, q9, e⟩ := zB_s e
    refine zF_blk (m := []) (d := 0) (b := B196_11) (gs := []) (c' := (15, [some (22, 0), some (0, (h 15 4)), none], [(0, 4), (22, 0)], (hc, h, o))) K196_11 rfl trivial ?_
    refine zF_call (k := 185) (cl := 12) (n := 2) (i := .invokevirtual 148) (args := [(22, 0), (0, 4)]) (rest := []) (g1 := (hc, r5.2, o)) (r1 := some (0, r5.1)) (zCk1_w (by decide +kernel)) rfl rfl rfl (st' := [(0, r5.1)]) rfl (S185 (Nat.le_trans (by decide) hd) 4 h _ q9) ?_
    obtain ⟨q10, e⟩ := zG_s e
    exact zF_rbM (zRe1_w (by decide +kernel)) q10 e
noncomputable def B190_0 : List zRow := [(0, .aload_n 0, 1, (0, 0, 0))]
theorem K190_0 : zRk 190 B190_0 = true := zRw_ok (by decide +kernel)
noncomputable def B190_1 : List zRow := [(13, .aload_n 0, 1, (0, 0, 0)), (14, .getfield 32, 3, (12, 20, 5505074)), (17, .iconst 0, 1, (0, 0, 0)), (18, .aload_n 0, 1, (0, 0, 0)), (19, .getfield 16, 3, (12, 15, 5243718)), (22, .iconst 2, 1, (0, 0, 0)), (23, .iaload, 1, (0, 0, 0)), (24, .aload_n 0, 1, (0, 0, 0)), (25, .getfield 120, 3, (12, 12, 1))]
theorem K190_1 : zRk 190 B190_1 = true := zRw_ok (by decide +kernel)
noncomputable def B190_2 : List zRow := [(35, .aload_n 0, 1, (0, 0, 0)), (36, .getfield 32, 3, (12, 20, 5505074)), (39, .bipush 6, 2, (0, 0, 0)), (41, .aload_n 0, 1, (0, 0, 0)), (42, .getfield 16, 3, (12, 15, 5243718)), (45, .iconst 3, 1, (0, 0, 0)), (46, .iaload, 1, (0, 0, 0)), (47, .aload_n 0, 1, (0, 0, 0)), (48, .getfield 120, 3, (12, 12, 1))]
theorem K190_2 : zRk 190 B190_2 = true := zRw_ok (by decide +kernel)
noncomputable def B190_3 : List zRow := [(64, .aload_n 0, 1, (0, 0, 0)), (65, .getfield 32, 3, (12, 20, 5505074)), (68, .iload_n 1, 1, (0, 0, 0)), (69, .aload_n 0, 1, (0, 0, 0)), (70, .getfield 120, 3, (12, 12, 1)), (73, .lastore, 1, (0, 0, 0)), (74, .aload_n 0, 1, (0, 0, 0))]
theorem K190_3 : zRk 190 B190_3 = true := zRw_ok (by decide +kernel)
noncomputable def B190_4 : List zRow := [(78, .iconst 1, 1, (0, 0, 0))]
theorem K190_4 : zRk 190 B190_4 = true := zRw_ok (by decide +kernel)
noncomputable def B190_5 : List zRow := [(54, .iconst (-1), 1, (0, 0, 0)), (55, .if_icmp .eq 9, 3, (0, 0, 0))]
theorem K190_5 : zRk 190 B190_5 = true := zRw_ok (by decide +kernel)
noncomputable def B190_6 : List zRow := [(31, .iconst (-1), 1, (0, 0, 0)), (32, .if_icmp .ne 26, 3, (0, 0, 0))]
theorem K190_6 : zRk 190 B190_6 = true := zRw_ok (by decide +kernel)
noncomputable def B190_7 : List zRow := [(7, .aload_n 0, 1, (0, 0, 0)), (8, .iconst 1, 1, (0, 0, 0))]
theorem K190_7 : zRk 190 B190_7 = true := zRw_ok (by decide +kernel)
noncomputable def B190_8 : List zRow := [(4, .ifCond .ne 9, 3, (0, 0, 0))]
theorem K190_8 : zRk 190 B190_8 = true := zRw_ok (by decide +kernel)
noncomputable def B190_9 : List zRow := [(58, .aload_n 0, 1, (0, 0, 0)), (59, .iconst 3, 1, (0, 0, 0))]
theorem K190_9 : zRk 190 B190_9 = true := zRw_ok (by decide +kernel)
def F190_0 (h : zHM) : Option (Int × zHM) := (F185 3 h).bind fun r1 => zG (r1.1 = 0 ∨ r1.1 = 1) (some (r1.1, r1.2))
set_option maxRecDepth 100000 in
theorem T190_0 {spec : zRn zH2} {hc : zHC} {o : Int → Int} {d : Nat} (hd : 3 ≤ d) (h : zHM) (v : (Int × zHM)) (e : F190_0 h = some v) : zFin 0 (fun _ => 0) (zRu2 spec d) 190 (some (0, v.1)) (hc, v.2, o) (58, [some (22, 0), none], [], (hc, h, o)) := by
  unfold F190_0 at e
  obtain ⟨r1, q1, e⟩ := zB_s e
  refine zF_blk (m := []) (d := 0) (b := B190_9) (gs := []) (c' := (60, [some (22, 0), none], [(0, 3), (22, 0)], (hc, h, o))) K190_9 rfl trivial ?_
  refine zF_call (k := 185) (cl := 12) (n := 2) (i := .invokevirtual 148) (args := [(22, 0), (0, 3)]) (rest := []) (g1 := (hc, r1.2, o)) (r1 := some (0, r1.1)) (zCk1_w (by decide +kernel)) rfl rfl rfl (st' := [(0, r1.1)]) rfl (S185 (Nat.le_trans (by decide) hd) 3 h _ q1) ?_
  obtain ⟨q2, e⟩ := zG_s e
  exact zF_rbM (zRe1_w (by decide +kernel)) q2 e
/-- EchoValeModel.readNew(I)Z -/
def F190 (v1 : Int) (h : zHM) : Option (Int × zHM) := (F191 h).bind fun r1 => if ¬ r1 = 0 then (F192 0 (h 15 2) (h 12 0) h).bind fun r2 => if ¬ r2 = (-1) then F190_0 h else (F192 6 (h 15 3) (h 12 0) h).bind fun r3 => if r3 = (-1) then zG (0 ≤ v1 ∧ v1 < 12) ((F176 (mset h 20 v1 (h 12 0))).bind fun r4 => some (1, r4)) else F190_0 h else (F185 1 h).bind fun r5 => zG (r5.1 = 0 ∨ r5.1 = 1) (some (r5.1, r5.2))
set_option maxRecDepth 100000 in
theorem S190 {spec : zRn zH2} {hc : zHC} {o : Int → Int} {d : Nat} (hd : 4 ≤ d) (v1 : Int) (h : zHM) (v : (Int × zHM)) (e : F190 v1 h = some v) : zRu2 spec d 190 [(22, 0), (0, v1)] (hc, h, o) (some (0, v.1)) (hc, v.2, o) := by
  refine zF_in (D := 3) (mx := 2) (L := [some (22, 0), some (0, v1)]) (by decide +kernel) rfl rfl hd (fun d hd => ?_)
  unfold F190 at e
  obtain ⟨r1, q1, e⟩ := zB_s e
  refine zF_blk (m := []) (d := 0) (b := B190_0) (gs := []) (c' := (1, [some (22, 0), some (0, v1)], [(22, 0)], (hc, h, o))) K190_0 rfl trivial ?_
  refine zF_call (k := 191) (cl := 12) (n := 1) (i := .invokevirtual 172) (args := [(22, 0)]) (rest := []) (g1 := (hc, h, o)) (r1 := some (0, r1)) (zCk1_w (by decide +kernel)) rfl rfl rfl (st' := [(0, r1)]) rfl (S191 (Nat.le_trans (by decide) hd)  h _ q1) ?_
  rcases zI_s e with ⟨q2, e⟩ | ⟨q2, e⟩
  · refine zF_blk (m := []) (d := 1) (b := B190_8) (gs := [¬ r1 = 0]) (c' := (13, [some (22, 0), some (0, v1)], [], (hc, h, o))) K190_8 rfl ⟨q2, trivial⟩ ?_
    obtain ⟨r2, q3, e⟩ := zB_s e
    refine zF_blk (m := []) (d := 0) (b := B190_1) (gs := [0 ≤ 2 ∧ 2 < 209]) (c' := (28, [some (22, 0), some (0, v1)], [(1, (h 12 0)), (0, (h 15 2)), (0, 0), (1409300220, 0)], (hc, h, o))) K190_1 rfl ⟨by decide, trivial⟩ ?_
    refine zF_call (k := 192) (cl := 12) (n := 4) (i := .invokestatic 176) (args := [(1409300220, 0), (0, 0), (0, (h 15 2)), (1, (h 12 0))]) (rest := []) (g1 := (hc, h, o)) (r1 := some (0, r2)) (zCk1_w (by decide +kernel)) rfl rfl rfl (st' := [(0, r2)]) rfl (S192 (Nat.le_trans (by decide) hd) 0 (h 15 2) (h 12 0) h _ q3) ?_
    rcases zI_s e with ⟨q4, e⟩ | ⟨q4, e⟩
    · refine zF_blk (m := []) (d := 1) (b := B190_6) (gs := [¬ r2 = (-1)]) (c' := (58, [some (22, 0), some (0, v1)], [], (hc, h, o))) K190_6 rfl ⟨q4, trivial⟩ ?_
      refine zF_blk (m := [true, false]) (d := 0) (b := []) (gs := []) (c' := (58, [some (22, 0), none], [], (hc, h, o))) rfl rfl trivial ?_
      exact T190_0 hd h _ e
    · refine zF_blk (m := []) (d := 0) (b := B190_6) (gs := [¬ (¬ r2 = (-1))]) (c' := (35, [some (22, 0), some (0, v1)], [], (hc, h, o))) K190_6 rfl ⟨q4, trivial⟩ ?_
      obtain ⟨r3, q5, e⟩ := zB_s e
      refine zF_blk (m := []) (d := 0) (b := B190_2) (gs := [0 ≤ 3 ∧ 3 < 209]) (c' := (51, [some (22, 0), some (0, v1)], [(1, (h 12 0)), (0, (h 15 3)), (0, 6), (1409300220, 0)], (hc, h, o))) K190_2 rfl ⟨by decide, trivial⟩ ?_
      refine zF_call (k := 192) (cl := 12) (n := 4) (i := .invokestatic 176) (args := [(1409300220, 0), (0, 6), (0, (h 15 3)), (1, (h 12 0))]) (rest := []) (g1 := (hc, h, o)) (r1 := some (0, r3)) (zCk1_w (by decide +kernel)) rfl rfl rfl (st' := [(0, r3)]) rfl (S192 (Nat.le_trans (by decide) hd) 6 (h 15 3) (h 12 0) h _ q5) ?_
      rcases zI_s e with ⟨q6, e⟩ | ⟨q6, e⟩
      · refine zF_blk (m := []) (d := 1) (b := B190_5) (gs := [r3 = (-1)]) (c' := (64, [some (22, 0), some (0, v1)], [], (hc, h, o))) K190_5 rfl ⟨q6, trivial⟩ ?_
        obtain ⟨q7, e⟩ := zG_s e
        obtain ⟨r4, q8, e⟩ := zB_s e
        refine zF_blk (m := []) (d := 0) (b := B190_3) (gs := [0 ≤ v1 ∧ v1 < 12]) (c' := (75, [some (22, 0), some (0, v1)], [(22, 0)], (hc, (mset h 20 v1 (h 12 0)), o))) K190_3 rfl ⟨q7, trivial⟩ ?_
        refine zF_call (k := 176) (cl := 12) (n := 1) (i := .invokevirtual 162) (args := [(22, 0)]) (rest := []) (g1 := (hc, r4, o)) (r1 := none) (zCk1_w (by decide +kernel)) rfl rfl rfl (st' := []) rfl (S176 (Nat.le_trans (by decide) hd)  (mset h 20 v1 (h 12 0)) _ q8) ?_
        refine zF_blk (m := []) (d := 0) (b := B190_4) (gs := []) (c' := (79, [some (22, 0), some (0, v1)], [(0, 1)], (hc, r4, o))) K190_4 rfl trivial ?_
        exact zF_rbM (zRe1_w (by decide +kernel)) (Or.inr rfl) e
      · refine zF_blk (m := []) (d := 0) (b := B190_5) (gs := [¬ (r3 = (-1))]) (c' := (58, [some (22, 0), some (0, v1)], [], (hc, h, o))) K190_5 rfl ⟨q6, trivial⟩ ?_
        refine zF_blk (m := [true, false]) (d := 0) (b := []) (gs := []) (c' := (58, [some (22, 0), none], [], (hc, h, o))) rfl rfl trivial ?_
        exact T190_0 hd h _ e
  · refine zF_blk (m := []) (d := 0) (b := B190_8) (gs := [¬ (¬ r1 = 0)]) (c' := (7, [some (22, 0), some (0, v1)], [], (hc, h, o))) K190_8 rfl ⟨q2, trivial⟩ ?_
    obtain ⟨r5, q9, e⟩ := zB_s e
    refine zF_blk (m := []) (d := 0) (b := B190_7) (gs := []) (c' := (9, [some (22, 0), some (0, v1)], [(0, 1), (22, 0)], (hc, h, o))) K190_7 rfl trivial ?_
    refine zF_call (k := 185) (cl := 12) (n := 2) (i := .invokevirtual 148) (args := [(22, 0), (0, 1)]) (rest := []) (g1 := (hc, r5.2, o)) (r1 := some (0, r5.1)) (zCk1_w (by decide +kernel)) rfl rfl rfl (st' := [(0, r5.1)]) rfl (S185 (Nat.le_trans (by decide) hd) 1 h _ q9) ?_
    obtain ⟨q10, e⟩ := zG_s e
    exact zF_rbM (zRe1_w (by decide +kernel)) q10 e
noncomputable def B194_0 : List zRow := [(19, .aload_n 0, 1, (0, 0, 0))]
theorem K194_0 : zRk 194 B194_0 = true := zRw_ok (by decide +kernel)
noncomputable def B194_1 : List zRow := [(23, .aload_n 0, 1, (0, 0, 0)), (24, .bipush 6, 2, (0, 0, 0)), (26, .iload_n 1, 1, (0, 0, 0))]
theorem K194_1 : zRk 194 B194_1 = true := zRw_ok (by decide +kernel)
noncomputable def B194_2 : List zRow := [(27, .iadd, 1, (0, 0, 0))]
theorem K194_2 : zRk 194 B194_2 = true := zRw_ok (by decide +kernel)
noncomputable def B194_3 : List zRow := [(41, .iconst 0, 1, (0, 0, 0))]
theorem K194_3 : zRk 194 B194_3 = true := zRw_ok (by decide +kernel)
noncomputable def B194_4 : List zRow := [(34, .aload_n 0, 1, (0, 0, 0))]
theorem K194_4 : zRk 194 B194_4 = true := zRw_ok (by decide +kernel)
noncomputable def B194_5 : List zRow := [(43, .aload_n 0, 1, (0, 0, 0)), (44, .getfield 16, 3, (12, 15, 5243718)), (47, .bipush 25, 2, (0, 0, 0)), (49, .iconst 2, 1, (0, 0, 0)), (50, .iload_n 1, 1, (0, 0, 0))]
theorem K194_5 : zRk 194 B194_5 = true := zRw_ok (by decide +kernel)
noncomputable def B194_6 : List zRow := [(51, .imul, 1, (0, 0, 0))]
theorem K194_6 : zRk 194 B194_6 = true := zRw_ok (by decide +kernel)
noncomputable def B194_7 : List zRow := [(52, .iadd, 1, (0, 0, 0)), (53, .aload_n 0, 1, (0, 0, 0)), (54, .getfield 155, 3, (12, 13, 0)), (57, .iastore, 1, (0, 0, 0)), (58, .aload_n 0, 1, (0, 0, 0)), (59, .getfield 16, 3, (12, 15, 5243718)), (62, .bipush 25, 2, (0, 0, 0)), (64, .iconst 2, 1, (0, 0, 0)), (65, .iload_n 1, 1, (0, 0, 0))]
theorem K194_7 : zRk 194 B194_7 = true := zRw_ok (by decide +kernel)
noncomputable def B194_8 : List zRow := [(66, .imul, 1, (0, 0, 0))]
theorem K194_8 : zRk 194 B194_8 = true := zRw_ok (by decide +kernel)
noncomputable def B194_9 : List zRow := [(67, .iadd, 1, (0, 0, 0)), (68, .iconst 1, 1, (0, 0, 0)), (69, .iadd, 1, (0, 0, 0)), (70, .iconst (-1), 1, (0, 0, 0)), (71, .iastore, 1, (0, 0, 0)), (72, .aload_n 0, 1, (0, 0, 0)), (73, .getfield 16, 3, (12, 15, 5243718)), (76, .iconst 3, 1, (0, 0, 0)), (77, .dup2, 1, (0, 0, 0)), (78, .iaload, 1, (0, 0, 0)), (79, .iconst 1, 1, (0, 0, 0)), (80, .iadd, 1, (0, 0, 0)), (81, .iastore, 1, (0, 0, 0)), (82, .iconst 1, 1, (0, 0, 0))]
theorem K194_9 : zRk 194 B194_9 = true := zRw_ok (by decide +kernel)
noncomputable def B194_10 : List zRow := [(38, .ifCond .ne 5, 3, (0, 0, 0))]
theorem K194_10 : zRk 194 B194_10 = true := zRw_ok (by decide +kernel)
noncomputable def B194_11 : List zRow := [(31, .ifCond .eq 10, 3, (0, 0, 0))]
theorem K194_11 : zRk 194 B194_11 = true := zRw_ok (by decide +kernel)
noncomputable def B194_12 : List zRow := [(13, .aload_n 0, 1, (0, 0, 0)), (14, .iconst 4, 1, (0, 0, 0))]
theorem K194_12 : zRk 194 B194_12 = true := zRw_ok (by decide +kernel)
noncomputable def B194_13 : List zRow := [(0, .aload_n 0, 1, (0, 0, 0)), (1, .getfield 16, 3, (12, 15, 5243718)), (4, .iconst 3, 1, (0, 0, 0)), (5, .iaload, 1, (0, 0, 0)), (6, .istore_n 1, 1, (0, 0, 0)), (7, .iload_n 1, 1, (0, 0, 0)), (8, .bipush 6, 2, (0, 0, 0)), (10, .if_icmp .ne 9, 3, (0, 0, 0))]
theorem K194_13 : zRk 194 B194_13 = true := zRw_ok (by decide +kernel)
/-- EchoValeModel.readPerson()Z -/
def F194 (h : zHM) : Option (Int × zHM) := if ¬ (h 15 3) = 6 then (F176 h).bind fun r1 => (F190 (wadd 6 (h 15 3)) r1).bind fun r2 => if r2.1 = 0 then some (0, r2.2) else (F195 r2.2).bind fun r3 => if ¬ r3.1 = 0 then zG (0 ≤ (wadd 25 (wmul 2 (h 15 3))) ∧ (wadd 25 (wmul 2 (h 15 3))) < 209) (zG (0 ≤ (wadd (wadd 25 (wmul 2 (h 15 3))) 1) ∧ (wadd (wadd 25 (wmul 2 (h 15 3))) 1) < 209) (some (1, (mset (mset (mset r3.2 15 (wadd 25 (wmul 2 (h 15 3))) (r3.2 13 0)) 15 (wadd (wadd 25 (wmul 2 (h 15 3))) 1) (-1)) 15 3 (wadd ((mset (mset r3.2 15 (wadd 25 (wmul 2 (h 15 3))) (r3.2 13 0)) 15 (wadd (wadd 25 (wmul 2 (h 15 3))) 1) (-1)) 15 3) 1))))) else some (0, r3.2) else (F185 4 h).bind fun r4 => zG (r4.1 = 0 ∨ r4.1 = 1) (some (r4.1, r4.2))
set_option maxRecDepth 100000 in
theorem S194 {spec : zRn zH2} {hc : zHC} {o : Int → Int} {d : Nat} (hd : 6 ≤ d) (h : zHM) (v : (Int × zHM)) (e : F194 h = some v) : zRu2 spec d 194 [(22, 0)] (hc, h, o) (some (0, v.1)) (hc, v.2, o) := by
  refine zF_in (D := 5) (mx := 2) (L := [some (22, 0), none]) (by decide +kernel) rfl rfl hd (fun d hd => ?_)
  unfold F194 at e
  rcases zI_s e with ⟨q1, e⟩ | ⟨q1, e⟩
  · refine zF_blk (m := []) (d := 1) (b := B194_13) (gs := [0 ≤ 3 ∧ 3 < 209, ¬ (h 15 3) = 6]) (c' := (19, [some (22, 0), some (0, (h 15 3))], [], (hc, h, o))) K194_13 rfl ⟨by decide, q1, trivial⟩ ?_
    obtain ⟨r1, q2, e⟩ := zB_s e
    refine zF_blk (m := []) (d := 0) (b := B194_0) (gs := []) (c' := (20, [some (22, 0), some (0, (h 15 3))], [(22, 0)], (hc, h, o))) K194_0 rfl trivial ?_
    refine zF_call (k := 176) (cl := 12) (n := 1) (i := .invokevirtual 162) (args := [(22, 0)]) (rest := []) (g1 := (hc, r1, o)) (r1 := none) (zCk1_w (by decide +kernel)) rfl rfl rfl (st' := []) rfl (S176 (Nat.le_trans (by decide) hd)  h _ q2) ?_
    refine zF_blk (m := []) (d := 0) (b := B194_1) (gs := []) (c' := (27, [some (22, 0), some (0, (h 15 3))], [(0, (h 15 3)), (0, 6), (22, 0)], (hc, r1, o))) K194_1 rfl trivial ?_
    obtain ⟨r2, q3, e⟩ := zB_s e
    refine zF_blk (m := []) (d := 0) (b := B194_2) (gs := []) (c' := (28, [some (22, 0), some (0, (h 15 3))], [(0, (wadd 6 (h 15 3))), (22, 0)], (hc, r1, o))) K194_2 rfl trivial ?_
    refine zF_call (k := 190) (cl := 12) (n := 2) (i := .invokevirtual 190) (args := [(22, 0), (0, (wadd 6 (h 15 3)))]) (rest := []) (g1 := (hc, r2.2, o)) (r1 := some (0, r2.1)) (zCk1_w (by decide +kernel)) rfl rfl rfl (st' := [(0, r2.1)]) rfl (S190 (Nat.le_trans (by decide) hd) (wadd 6 (h 15 3)) r1 _ q3) ?_
    rcases zI_s e with ⟨q4, e⟩ | ⟨q4, e⟩
    · refine zF_blk (m := []) (d := 1) (b := B194_11) (gs := [r2.1 = 0]) (c' := (41, [some (22, 0), some (0, (h 15 3))], [], (hc, r2.2, o))) K194_11 rfl ⟨q4, trivial⟩ ?_
      refine zF_blk (m := []) (d := 0) (b := B194_3) (gs := []) (c' := (42, [some (22, 0), some (0, (h 15 3))], [(0, 0)], (hc, r2.2, o))) K194_3 rfl trivial ?_
      exact zF_rbM (zRe1_w (by decide +kernel)) (Or.inl rfl) e
    · refine zF_blk (m := []) (d := 0) (b := B194_11) (gs := [¬ (r2.1 = 0)]) (c' := (34, [some (22, 0), some (0, (h 15 3))], [], (hc, r2.2, o))) K194_11 rfl ⟨q4, trivial⟩ ?_
      obtain ⟨r3, q5, e⟩ := zB_s e
      refine zF_blk (m := []) (d := 0) (b := B194_4) (gs := []) (c' := (35, [some (22, 0), some (0, (h 15 3))], [(22, 0)], (hc, r2.2, o))) K194_4 rfl trivial ?_
      refine zF_call (k := 195) (cl := 12) (n := 1) (i := .invokevirtual 193) (args := [(22, 0)]) (rest := []) (g1 := (hc, r3.2, o)) (r1 := some (0, r3.1)) (zCk1_w (by decide +kernel)) rfl rfl rfl (st' := [(0, r3.1)]) rfl (S195 (Nat.le_trans (by decide) hd)  r2.2 _ q5) ?_
      rcases zI_s e with ⟨q6, e⟩ | ⟨q6, e⟩
      · refine zF_blk (m := []) (d := 1) (b := B194_10) (gs := [¬ r3.1 = 0]) (c' := (43, [some (22, 0), some (0, (h 15 3))], [], (hc, r3.2, o))) K194_10 rfl ⟨q6, trivial⟩ ?_
        obtain ⟨q7, e⟩ := zG_s e
        obtain ⟨q8, e⟩ := zG_s e
        refine zF_blk (m := []) (d := 0) (b := B194_5) (gs := []) (c' := (51, [some (22, 0), some (0, (h 15 3))], [(0, (h 15 3)), (0, 2), (0, 25), (1342393079, 0)], (hc, r3.2, o))) K194_5 rfl trivial ?_
        refine zF_blk (m := []) (d := 0) (b := B194_6) (gs := []) (c' := (52, [some (22, 0), some (0, (h 15 3))], [(0, (wmul 2 (h 15 3))), (0, 25), (1342393079, 0)], (hc, r3.2, o))) K194_6 rfl trivial ?_
        refine zF_blk (m := []) (d := 0) (b := B194_7) (gs := [0 ≤ (wadd 25 (wmul 2 (h 15 3))) ∧ (wadd 25 (wmul 2 (h 15 3))) < 209]) (c' := (66, [some (22, 0), some (0, (h 15 3))], [(0, (h 15 3)), (0, 2), (0, 25), (1342393079, 0)], (hc, (mset r3.2 15 (wadd 25 (wmul 2 (h 15 3))) (r3.2 13 0)), o))) K194_7 rfl ⟨q7, trivial⟩ ?_
        refine zF_blk (m := []) (d := 0) (b := B194_8) (gs := []) (c' := (67, [some (22, 0), some (0, (h 15 3))], [(0, (wmul 2 (h 15 3))), (0, 25), (1342393079, 0)], (hc, (mset r3.2 15 (wadd 25 (wmul 2 (h 15 3))) (r3.2 13 0)), o))) K194_8 rfl trivial ?_
        refine zF_blk (m := []) (d := 0) (b := B194_9) (gs := [0 ≤ (wadd (wadd 25 (wmul 2 (h 15 3))) 1) ∧ (wadd (wadd 25 (wmul 2 (h 15 3))) 1) < 209, 0 ≤ 3 ∧ 3 < 209, 0 ≤ 3 ∧ 3 < 209]) (c' := (83, [some (22, 0), some (0, (h 15 3))], [(0, 1)], (hc, (mset (mset (mset r3.2 15 (wadd 25 (wmul 2 (h 15 3))) (r3.2 13 0)) 15 (wadd (wadd 25 (wmul 2 (h 15 3))) 1) (-1)) 15 3 (wadd ((mset (mset r3.2 15 (wadd 25 (wmul 2 (h 15 3))) (r3.2 13 0)) 15 (wadd (wadd 25 (wmul 2 (h 15 3))) 1) (-1)) 15 3) 1)), o))) K194_9 rfl ⟨q8, by decide, by decide, trivial⟩ ?_
        exact zF_rbM (zRe1_w (by decide +kernel)) (Or.inr rfl) e
      · refine zF_blk (m := []) (d := 0) (b := B194_10) (gs := [¬ (¬ r3.1 = 0)]) (c' := (41, [some (22, 0), some (0, (h 15 3))], [], (hc, r3.2, o))) K194_10 rfl ⟨q6, trivial⟩ ?_
        refine zF_blk (m := []) (d := 0) (b := B194_3) (gs := []) (c' := (42, [some (22, 0), some (0, (h 15 3))], [(0, 0)], (hc, r3.2, o))) K194_3 rfl trivial ?_
        exact zF_rbM (zRe1_w (by decide +kernel)) (Or.inl rfl) e
  · refine zF_blk (m := []) (d := 0) (b := B194_13) (gs := [0 ≤ 3 ∧ 3 < 209, ¬ (¬ (h 15 3) = 6)]) (c' := (13, [some (22, 0), some (0, (h 15 3))], [], (hc, h, o))) K194_13 rfl ⟨by decide, q1, trivial⟩ ?_
    obtain ⟨r4, q9, e⟩ := zB_s e
    refine zF_blk (m := []) (d := 0) (b := B194_12) (gs := []) (c' := (15, [some (22, 0), some (0, (h 15 3))], [(0, 4), (22, 0)], (hc, h, o))) K194_12 rfl trivial ?_
    refine zF_call (k := 185) (cl := 12) (n := 2) (i := .invokevirtual 148) (args := [(22, 0), (0, 4)]) (rest := []) (g1 := (hc, r4.2, o)) (r1 := some (0, r4.1)) (zCk1_w (by decide +kernel)) rfl rfl rfl (st' := [(0, r4.1)]) rfl (S185 (Nat.le_trans (by decide) hd) 4 h _ q9) ?_
    obtain ⟨q10, e⟩ := zG_s e
    exact zF_rbM (zRe1_w (by decide +kernel)) q10 e
noncomputable def B189_0 : List zRow := [(19, .aload_n 0, 1, (0, 0, 0))]
theorem K189_0 : zRk 189 B189_0 = true := zRw_ok (by decide +kernel)
noncomputable def B189_1 : List zRow := [(23, .aload_n 0, 1, (0, 0, 0)), (24, .iload_n 1, 1, (0, 0, 0))]
theorem K189_1 : zRk 189 B189_1 = true := zRw_ok (by decide +kernel)
noncomputable def B189_2 : List zRow := [(38, .iconst 0, 1, (0, 0, 0))]
theorem K189_2 : zRk 189 B189_2 = true := zRw_ok (by decide +kernel)
noncomputable def B189_3 : List zRow := [(31, .aload_n 0, 1, (0, 0, 0))]
theorem K189_3 : zRk 189 B189_3 = true := zRw_ok (by decide +kernel)
noncomputable def B189_4 : List zRow := [(40, .iconst 0, 1, (0, 0, 0)), (41, .istore_n 2, 1, (0, 0, 0))]
theorem K189_4 : zRk 189 B189_4 = true := zRw_ok (by decide +kernel)
noncomputable def B189_5 : List zRow := [(35, .ifCond .ne 5, 3, (0, 0, 0))]
theorem K189_5 : zRk 189 B189_5 = true := zRw_ok (by decide +kernel)
noncomputable def B189_6 : List zRow := [(28, .ifCond .eq 10, 3, (0, 0, 0))]
theorem K189_6 : zRk 189 B189_6 = true := zRw_ok (by decide +kernel)
noncomputable def B189_7 : List zRow := [(13, .aload_n 0, 1, (0, 0, 0)), (14, .iconst 4, 1, (0, 0, 0))]
theorem K189_7 : zRk 189 B189_7 = true := zRw_ok (by decide +kernel)
noncomputable def B189_8 : List zRow := [(0, .aload_n 0, 1, (0, 0, 0)), (1, .getfield 16, 3, (12, 15, 5243718)), (4, .iconst 2, 1, (0, 0, 0)), (5, .iaload, 1, (0, 0, 0)), (6, .istore_n 1, 1, (0, 0, 0)), (7, .iload_n 1, 1, (0, 0, 0)), (8, .bipush 6, 2, (0, 0, 0)), (10, .if_icmp .ne 9, 3, (0, 0, 0))]
theorem K189_8 : zRk 189 B189_8 = true := zRw_ok (by decide +kernel)
noncomputable def B189_9 : List zRow := [(77, .aload_n 0, 1, (0, 0, 0)), (78, .getfield 16, 3, (12, 15, 5243718)), (81, .bipush 7, 2, (0, 0, 0)), (83, .iconst 3, 1, (0, 0, 0)), (84, .iload_n 1, 1, (0, 0, 0))]
theorem K189_9 : zRk 189 B189_9 = true := zRw_ok (by decide +kernel)
noncomputable def B189_10 : List zRow := [(85, .imul, 1, (0, 0, 0))]
theorem K189_10 : zRk 189 B189_10 = true := zRw_ok (by decide +kernel)
noncomputable def B189_11 : List zRow := [(86, .iadd, 1, (0, 0, 0)), (87, .aload_n 0, 1, (0, 0, 0)), (88, .getfield 155, 3, (12, 13, 0)), (91, .iastore, 1, (0, 0, 0)), (92, .aload_n 0, 1, (0, 0, 0))]
theorem K189_11 : zRk 189 B189_11 = true := zRw_ok (by decide +kernel)
noncomputable def B189_12 : List zRow := [(96, .aload_n 0, 1, (0, 0, 0)), (97, .iconst 1, 1, (0, 0, 0)), (98, .bipush 40, 2, (0, 0, 0))]
theorem K189_12 : zRk 189 B189_12 = true := zRw_ok (by decide +kernel)
noncomputable def B189_13 : List zRow := [(108, .aload_n 0, 1, (0, 0, 0)), (109, .getfield 16, 3, (12, 15, 5243718)), (112, .bipush 7, 2, (0, 0, 0)), (114, .iconst 3, 1, (0, 0, 0)), (115, .iload_n 1, 1, (0, 0, 0))]
theorem K189_13 : zRk 189 B189_13 = true := zRw_ok (by decide +kernel)
noncomputable def B189_14 : List zRow := [(116, .imul, 1, (0, 0, 0))]
theorem K189_14 : zRk 189 B189_14 = true := zRw_ok (by decide +kernel)
noncomputable def B189_15 : List zRow := [(117, .iadd, 1, (0, 0, 0)), (118, .iconst 1, 1, (0, 0, 0)), (119, .iadd, 1, (0, 0, 0)), (120, .aload_n 0, 1, (0, 0, 0)), (121, .getfield 155, 3, (12, 13, 0)), (124, .iastore, 1, (0, 0, 0)), (125, .aload_n 0, 1, (0, 0, 0)), (126, .iconst 1, 1, (0, 0, 0)), (127, .bipush 9, 2, (0, 0, 0))]
theorem K189_15 : zRk 189 B189_15 = true := zRw_ok (by decide +kernel)
noncomputable def B189_16 : List zRow := [(137, .aload_n 0, 1, (0, 0, 0)), (138, .getfield 16, 3, (12, 15, 5243718)), (141, .bipush 7, 2, (0, 0, 0)), (143, .iconst 3, 1, (0, 0, 0)), (144, .iload_n 1, 1, (0, 0, 0))]
theorem K189_16 : zRk 189 B189_16 = true := zRw_ok (by decide +kernel)
noncomputable def B189_17 : List zRow := [(145, .imul, 1, (0, 0, 0))]
theorem K189_17 : zRk 189 B189_17 = true := zRw_ok (by decide +kernel)
noncomputable def B189_18 : List zRow := [(146, .iadd, 1, (0, 0, 0)), (147, .iconst 2, 1, (0, 0, 0)), (148, .iadd, 1, (0, 0, 0)), (149, .aload_n 0, 1, (0, 0, 0)), (150, .getfield 155, 3, (12, 13, 0)), (153, .iastore, 1, (0, 0, 0)), (154, .aload_n 0, 1, (0, 0, 0)), (155, .getfield 16, 3, (12, 15, 5243718)), (158, .iconst 2, 1, (0, 0, 0)), (159, .dup2, 1, (0, 0, 0)), (160, .iaload, 1, (0, 0, 0)), (161, .iconst 1, 1, (0, 0, 0)), (162, .iadd, 1, (0, 0, 0)), (163, .iastore, 1, (0, 0, 0)), (164, .iconst 1, 1, (0, 0, 0))]
theorem K189_18 : zRk 189 B189_18 = true := zRw_ok (by decide +kernel)
noncomputable def B189_19 : List zRow := [(135, .iconst 0, 1, (0, 0, 0))]
theorem K189_19 : zRk 189 B189_19 = true := zRw_ok (by decide +kernel)
noncomputable def B189_20 : List zRow := [(132, .ifCond .ne 5, 3, (0, 0, 0))]
theorem K189_20 : zRk 189 B189_20 = true := zRw_ok (by decide +kernel)
noncomputable def B189_21 : List zRow := [(106, .iconst 0, 1, (0, 0, 0))]
theorem K189_21 : zRk 189 B189_21 = true := zRw_ok (by decide +kernel)
noncomputable def B189_22 : List zRow := [(103, .ifCond .ne 5, 3, (0, 0, 0))]
theorem K189_22 : zRk 189 B189_22 = true := zRw_ok (by decide +kernel)
noncomputable def B189_23 : List zRow := [(47, .aload_n 0, 1, (0, 0, 0)), (48, .getfield 16, 3, (12, 15, 5243718)), (51, .bipush 7, 2, (0, 0, 0)), (53, .iconst 3, 1, (0, 0, 0)), (54, .iload_n 2, 1, (0, 0, 0))]
theorem K189_23 : zRk 189 B189_23 = true := zRw_ok (by decide +kernel)
noncomputable def B189_24 : List zRow := [(55, .imul, 1, (0, 0, 0))]
theorem K189_24 : zRk 189 B189_24 = true := zRw_ok (by decide +kernel)
noncomputable def B189_25 : List zRow := [(71, .iinc 2 1, 3, (0, 0, 0)), (74, .goto (-32), 3, (0, 0, 0))]
theorem K189_25 : zRk 189 B189_25 = true := zRw_ok (by decide +kernel)
noncomputable def B189_26 : List zRow := [(65, .aload_n 0, 1, (0, 0, 0)), (66, .iconst 3, 1, (0, 0, 0))]
theorem K189_26 : zRk 189 B189_26 = true := zRw_ok (by decide +kernel)
noncomputable def B189_27 : List zRow := [(56, .iadd, 1, (0, 0, 0)), (57, .iaload, 1, (0, 0, 0)), (58, .aload_n 0, 1, (0, 0, 0)), (59, .getfield 155, 3, (12, 13, 0)), (62, .if_icmp .ne 9, 3, (0, 0, 0))]
theorem K189_27 : zRk 189 B189_27 = true := zRw_ok (by decide +kernel)
noncomputable def B189_28 : List zRow := [(42, .iload_n 2, 1, (0, 0, 0)), (43, .iload_n 1, 1, (0, 0, 0)), (44, .if_icmp .ge 33, 3, (0, 0, 0))]
theorem K189_28 : zRk 189 B189_28 = true := zRw_ok (by decide +kernel)
def F189_0 : Nat → Int → Int → zHM → Option (Int × zHM)
  | 0, _, _, _ => none
  | n + 1, v1, v2, h => if v1 ≤ v2 then zG (0 ≤ (wadd 7 (wmul 3 v1)) ∧ (wadd 7 (wmul 3 v1)) < 209) ((F176 (mset h 15 (wadd 7 (wmul 3 v1)) (h 13 0))).bind fun r1 => (F186 1 40 r1).bind fun r2 => if ¬ r2.1 = 0 then zG (0 ≤ (wadd (wadd 7 (wmul 3 v1)) 1) ∧ (wadd (wadd 7 (wmul 3 v1)) 1) < 209) ((F186 1 9 (mset r2.2 15 (wadd (wadd 7 (wmul 3 v1)) 1) (r2.2 13 0))).bind fun r3 => if ¬ r3.1 = 0 then zG (0 ≤ (wadd (wadd 7 (wmul 3 v1)) 2) ∧ (wadd (wadd 7 (wmul 3 v1)) 2) < 209) (some (1, (mset (mset r3.2 15 (wadd (wadd 7 (wmul 3 v1)) 2) (r3.2 13 0)) 15 2 (wadd ((mset r3.2 15 (wadd (wadd 7 (wmul 3 v1)) 2) (r3.2 13 0)) 15 2) 1)))) else some (0, r3.2)) else some (0, r2.2)) else zG (0 ≤ (wadd 7 (wmul 3 v2)) ∧ (wadd 7 (wmul 3 v2)) < 209) (if ¬ (h 15 (wadd 7 (wmul 3 v2))) = (h 13 0) then (F189_0 n) v1 (wadd v2 1) h else (F185 3 h).bind fun r4 => zG (r4.1 = 0 ∨ r4.1 = 1) (some (r4.1, r4.2)))
set_option maxRecDepth 100000 in
theorem T189_0 {spec : zRn zH2} {hc : zHC} {o : Int → Int} {d : Nat} (hd : 4 ≤ d) : ∀ (n : Nat) (v1 : Int) (v2 : Int) (h : zHM) (v : (Int × zHM)), F189_0 n v1 v2 h = some v → zFin 0 (fun _ => 0) (zRu2 spec d) 189 (some (0, v.1)) (hc, v.2, o) (42, [some (22, 0), some (0, v1), some (0, v2)], [], (hc, h, o)) := by
  intro n
  induction n with
  | zero => intro v1 v2 h v e; unfold F189_0 at e; cases e
  | succ n hk0 =>
    intro v1 v2 h v e
    unfold F189_0 at e
    rcases zI_s e with ⟨q1, e⟩ | ⟨q1, e⟩
    · refine zF_blk (m := []) (d := 1) (b := B189_28) (gs := [v1 ≤ v2]) (c' := (77, [some (22, 0), some (0, v1), some (0, v2)], [], (hc, h, o))) K189_28 rfl ⟨q1, trivial⟩ ?_
      obtain ⟨q2, e⟩ := zG_s e
      refine zF_blk (m := []) (d := 0) (b := B189_9) (gs := []) (c' := (85, [some (22, 0), some (0, v1), some (0, v2)], [(0, v1), (0, 3), (0, 7), (1342393079, 0)], (hc, h, o))) K189_9 rfl trivial ?_
      refine zF_blk (m := []) (d := 0) (b := B189_10) (gs := []) (c' := (86, [some (22, 0), some (0, v1), some (0, v2)], [(0, (wmul 3 v1)), (0, 7), (1342393079, 0)], (hc, h, o))) K189_10 rfl trivial ?_
      obtain ⟨r1, q3, e⟩ := zB_s e
      refine zF_blk (m := []) (d := 0) (b := B189_11) (gs := [0 ≤ (wadd 7 (wmul 3 v1)) ∧ (wadd 7 (wmul 3 v1)) < 209]) (c' := (93, [some (22, 0), some (0, v1), some (0, v2)], [(22, 0)], (hc, (mset h 15 (wadd 7 (wmul 3 v1)) (h 13 0)), o))) K189_11 rfl ⟨q2, trivial⟩ ?_
      refine zF_call (k := 176) (cl := 12) (n := 1) (i := .invokevirtual 162) (args := [(22, 0)]) (rest := []) (g1 := (hc, r1, o)) (r1 := none) (zCk1_w (by decide +kernel)) rfl rfl rfl (st' := []) rfl (S176 (Nat.le_trans (by decide) hd)  (mset h 15 (wadd 7 (wmul 3 v1)) (h 13 0)) _ q3) ?_
      obtain ⟨r2, q4, e⟩ := zB_s e
      refine zF_blk (m := []) (d := 0) (b := B189_12) (gs := []) (c' := (100, [some (22, 0), some (0, v1), some (0, v2)], [(0, 40), (0, 1), (22, 0)], (hc, r1, o))) K189_12 rfl trivial ?_
      refine zF_call (k := 186) (cl := 12) (n := 3) (i := .invokevirtual 180) (args := [(22, 0), (0, 1), (0, 40)]) (rest := []) (g1 := (hc, r2.2, o)) (r1 := some (0, r2.1)) (zCk1_w (by decide +kernel)) rfl rfl rfl (st' := [(0, r2.1)]) rfl (S186 (Nat.le_trans (by decide) hd) 1 40 r1 _ q4) ?_
      rcases zI_s e with ⟨q5, e⟩ | ⟨q5, e⟩
      · refine zF_blk (m := []) (d := 1) (b := B189_22) (gs := [¬ r2.1 = 0]) (c' := (108, [some (22, 0), some (0, v1), some (0, v2)], [], (hc, r2.2, o))) K189_22 rfl ⟨q5, trivial⟩ ?_
        obtain ⟨q6, e⟩ := zG_s e
        refine zF_blk (m := []) (d := 0) (b := B189_13) (gs := []) (c' := (116, [some (22, 0), some (0, v1), some (0, v2)], [(0, v1), (0, 3), (0, 7), (1342393079, 0)], (hc, r2.2, o))) K189_13 rfl trivial ?_
        refine zF_blk (m := []) (d := 0) (b := B189_14) (gs := []) (c' := (117, [some (22, 0), some (0, v1), some (0, v2)], [(0, (wmul 3 v1)), (0, 7), (1342393079, 0)], (hc, r2.2, o))) K189_14 rfl trivial ?_
        obtain ⟨r3, q7, e⟩ := zB_s e
        refine zF_blk (m := []) (d := 0) (b := B189_15) (gs := [0 ≤ (wadd (wadd 7 (wmul 3 v1)) 1) ∧ (wadd (wadd 7 (wmul 3 v1)) 1) < 209]) (c' := (129, [some (22, 0), some (0, v1), some (0, v2)], [(0, 9), (0, 1), (22, 0)], (hc, (mset r2.2 15 (wadd (wadd 7 (wmul 3 v1)) 1) (r2.2 13 0)), o))) K189_15 rfl ⟨q6, trivial⟩ ?_
        refine zF_call (k := 186) (cl := 12) (n := 3) (i := .invokevirtual 180) (args := [(22, 0), (0, 1), (0, 9)]) (rest := []) (g1 := (hc, r3.2, o)) (r1 := some (0, r3.1)) (zCk1_w (by decide +kernel)) rfl rfl rfl (st' := [(0, r3.1)]) rfl (S186 (Nat.le_trans (by decide) hd) 1 9 (mset r2.2 15 (wadd (wadd 7 (wmul 3 v1)) 1) (r2.2 13 0)) _ q7) ?_
        rcases zI_s e with ⟨q8, e⟩ | ⟨q8, e⟩
        · refine zF_blk (m := []) (d := 1) (b := B189_20) (gs := [¬ r3.1 = 0]) (c' := (137, [some (22, 0), some (0, v1), some (0, v2)], [], (hc, r3.2, o))) K189_20 rfl ⟨q8, trivial⟩ ?_
          obtain ⟨q9, e⟩ := zG_s e
          refine zF_blk (m := []) (d := 0) (b := B189_16) (gs := []) (c' := (145, [some (22, 0), some (0, v1), some (0, v2)], [(0, v1), (0, 3), (0, 7), (1342393079, 0)], (hc, r3.2, o))) K189_16 rfl trivial ?_
          refine zF_blk (m := []) (d := 0) (b := B189_17) (gs := []) (c' := (146, [some (22, 0), some (0, v1), some (0, v2)], [(0, (wmul 3 v1)), (0, 7), (1342393079, 0)], (hc, r3.2, o))) K189_17 rfl trivial ?_
          refine zF_blk (m := []) (d := 0) (b := B189_18) (gs := [0 ≤ (wadd (wadd 7 (wmul 3 v1)) 2) ∧ (wadd (wadd 7 (wmul 3 v1)) 2) < 209, 0 ≤ 2 ∧ 2 < 209, 0 ≤ 2 ∧ 2 < 209]) (c' := (165, [some (22, 0), some (0, v1), some (0, v2)], [(0, 1)], (hc, (mset (mset r3.2 15 (wadd (wadd 7 (wmul 3 v1)) 2) (r3.2 13 0)) 15 2 (wadd ((mset r3.2 15 (wadd (wadd 7 (wmul 3 v1)) 2) (r3.2 13 0)) 15 2) 1)), o))) K189_18 rfl ⟨q9, by decide, by decide, trivial⟩ ?_
          exact zF_rbM (zRe1_w (by decide +kernel)) (Or.inr rfl) e
        · refine zF_blk (m := []) (d := 0) (b := B189_20) (gs := [¬ (¬ r3.1 = 0)]) (c' := (135, [some (22, 0), some (0, v1), some (0, v2)], [], (hc, r3.2, o))) K189_20 rfl ⟨q8, trivial⟩ ?_
          refine zF_blk (m := []) (d := 0) (b := B189_19) (gs := []) (c' := (136, [some (22, 0), some (0, v1), some (0, v2)], [(0, 0)], (hc, r3.2, o))) K189_19 rfl trivial ?_
          exact zF_rbM (zRe1_w (by decide +kernel)) (Or.inl rfl) e
      · refine zF_blk (m := []) (d := 0) (b := B189_22) (gs := [¬ (¬ r2.1 = 0)]) (c' := (106, [some (22, 0), some (0, v1), some (0, v2)], [], (hc, r2.2, o))) K189_22 rfl ⟨q5, trivial⟩ ?_
        refine zF_blk (m := []) (d := 0) (b := B189_21) (gs := []) (c' := (107, [some (22, 0), some (0, v1), some (0, v2)], [(0, 0)], (hc, r2.2, o))) K189_21 rfl trivial ?_
        exact zF_rbM (zRe1_w (by decide +kernel)) (Or.inl rfl) e
    · refine zF_blk (m := []) (d := 0) (b := B189_28) (gs := [¬ (v1 ≤ v2)]) (c' := (47, [some (22, 0), some (0, v1), some (0, v2)], [], (hc, h, o))) K189_28 rfl ⟨q1, trivial⟩ ?_
      obtain ⟨q10, e⟩ := zG_s e
      refine zF_blk (m := []) (d := 0) (b := B189_23) (gs := []) (c' := (55, [some (22, 0), some (0, v1), some (0, v2)], [(0, v2), (0, 3), (0, 7), (1342393079, 0)], (hc, h, o))) K189_23 rfl trivial ?_
      refine zF_blk (m := []) (d := 0) (b := B189_24) (gs := []) (c' := (56, [some (22, 0), some (0, v1), some (0, v2)], [(0, (wmul 3 v2)), (0, 7), (1342393079, 0)], (hc, h, o))) K189_24 rfl trivial ?_
      rcases zI_s e with ⟨q11, e⟩ | ⟨q11, e⟩
      · refine zF_blk (m := []) (d := 1) (b := B189_27) (gs := [0 ≤ (wadd 7 (wmul 3 v2)) ∧ (wadd 7 (wmul 3 v2)) < 209, ¬ (h 15 (wadd 7 (wmul 3 v2))) = (h 13 0)]) (c' := (71, [some (22, 0), some (0, v1), some (0, v2)], [], (hc, h, o))) K189_27 rfl ⟨q10, q11, trivial⟩ ?_
        refine zF_blk (m := []) (d := 0) (b := B189_25) (gs := []) (c' := (42, [some (22, 0), some (0, v1), some (0, (wadd v2 1))], [], (hc, h, o))) K189_25 rfl trivial ?_
        exact hk0 v1 (wadd v2 1) h _ e
      · refine zF_blk (m := []) (d := 0) (b := B189_27) (gs := [0 ≤ (wadd 7 (wmul 3 v2)) ∧ (wadd 7 (wmul 3 v2)) < 209, ¬ (¬ (h 15 (wadd 7 (wmul 3 v2))) = (h 13 0))]) (c' := (65, [some (22, 0), some (0, v1), some (0, v2)], [], (hc, h, o))) K189_27 rfl ⟨q10, q11, trivial⟩ ?_
        obtain ⟨r4, q12, e⟩ := zB_s e
        refine zF_blk (m := []) (d := 0) (b := B189_26) (gs := []) (c' := (67, [some (22, 0), some (0, v1), some (0, v2)], [(0, 3), (22, 0)], (hc, h, o))) K189_26 rfl trivial ?_
        refine zF_call (k := 185) (cl := 12) (n := 2) (i := .invokevirtual 148) (args := [(22, 0), (0, 3)]) (rest := []) (g1 := (hc, r4.2, o)) (r1 := some (0, r4.1)) (zCk1_w (by decide +kernel)) rfl rfl rfl (st' := [(0, r4.1)]) rfl (S185 (Nat.le_trans (by decide) hd) 3 h _ q12) ?_
        obtain ⟨q13, e⟩ := zG_s e
        exact zF_rbM (zRe1_w (by decide +kernel)) q13 e
/-- EchoValeModel.readCliff()Z -/
def F189 (h : zHM) : Option (Int × zHM) := if ¬ (h 15 2) = 6 then (F176 h).bind fun r1 => (F190 (h 15 2) r1).bind fun r2 => if r2.1 = 0 then some (0, r2.2) else (F193 r2.2).bind fun r3 => if ¬ r3.1 = 0 then F189_0 zFu (h 15 2) 0 r3.2 else some (0, r3.2) else (F185 4 h).bind fun r4 => zG (r4.1 = 0 ∨ r4.1 = 1) (some (r4.1, r4.2))
set_option maxRecDepth 100000 in
theorem S189 {spec : zRn zH2} {hc : zHC} {o : Int → Int} {d : Nat} (hd : 5 ≤ d) (h : zHM) (v : (Int × zHM)) (e : F189 h = some v) : zRu2 spec d 189 [(22, 0)] (hc, h, o) (some (0, v.1)) (hc, v.2, o) := by
  refine zF_in (D := 4) (mx := 3) (L := [some (22, 0), none, none]) (by decide +kernel) rfl rfl hd (fun d hd => ?_)
  unfold F189 at e
  rcases zI_s e with ⟨q1, e⟩ | ⟨q1, e⟩
  · refine zF_blk (m := []) (d := 1) (b := B189_8) (gs := [0 ≤ 2 ∧ 2 < 209, ¬ (h 15 2) = 6]) (c' := (19, [some (22, 0), some (0, (h 15 2)), none], [], (hc, h, o))) K189_8 rfl ⟨by decide, q1, trivial⟩ ?_
    obtain ⟨r1, q2, e⟩ := zB_s e
    refine zF_blk (m := []) (d := 0) (b := B189_0) (gs := []) (c' := (20, [some (22, 0), some (0, (h 15 2)), none], [(22, 0)], (hc, h, o))) K189_0 rfl trivial ?_
    refine zF_call (k := 176) (cl := 12) (n := 1) (i := .invokevirtual 162) (args := [(22, 0)]) (rest := []) (g1 := (hc, r1, o)) (r1 := none) (zCk1_w (by decide +kernel)) rfl rfl rfl (st' := []) rfl (S176 (Nat.le_trans (by decide) hd)  h _ q2) ?_
    obtain ⟨r2, q3, e⟩ := zB_s e
    refine zF_blk (m := []) (d := 0) (b := B189_1) (gs := []) (c' := (25, [some (22, 0), some (0, (h 15 2)), none], [(0, (h 15 2)), (22, 0)], (hc, r1, o))) K189_1 rfl trivial ?_
    refine zF_call (k := 190) (cl := 12) (n := 2) (i := .invokevirtual 190) (args := [(22, 0), (0, (h 15 2))]) (rest := []) (g1 := (hc, r2.2, o)) (r1 := some (0, r2.1)) (zCk1_w (by decide +kernel)) rfl rfl rfl (st' := [(0, r2.1)]) rfl (S190 (Nat.le_trans (by decide) hd) (h 15 2) r1 _ q3) ?_
    rcases zI_s e with ⟨q4, e⟩ | ⟨q4, e⟩
    · refine zF_blk (m := []) (d := 1) (b := B189_6) (gs := [r2.1 = 0]) (c' := (38, [some (22, 0), some (0, (h 15 2)), none], [], (hc, r2.2, o))) K189_6 rfl ⟨q4, trivial⟩ ?_
      refine zF_blk (m := []) (d := 0) (b := B189_2) (gs := []) (c' := (39, [some (22, 0), some (0, (h 15 2)), none], [(0, 0)], (hc, r2.2, o))) K189_2 rfl trivial ?_
      exact zF_rbM (zRe1_w (by decide +kernel)) (Or.inl rfl) e
    · refine zF_blk (m := []) (d := 0) (b := B189_6) (gs := [¬ (r2.1 = 0)]) (c' := (31, [some (22, 0), some (0, (h 15 2)), none], [], (hc, r2.2, o))) K189_6 rfl ⟨q4, trivial⟩ ?_
      obtain ⟨r3, q5, e⟩ := zB_s e
      refine zF_blk (m := []) (d := 0) (b := B189_3) (gs := []) (c' := (32, [some (22, 0), some (0, (h 15 2)), none], [(22, 0)], (hc, r2.2, o))) K189_3 rfl trivial ?_
      refine zF_call (k := 193) (cl := 12) (n := 1) (i := .invokevirtual 183) (args := [(22, 0)]) (rest := []) (g1 := (hc, r3.2, o)) (r1 := some (0, r3.1)) (zCk1_w (by decide +kernel)) rfl rfl rfl (st' := [(0, r3.1)]) rfl (S193 (Nat.le_trans (by decide) hd)  r2.2 _ q5) ?_
      rcases zI_s e with ⟨q6, e⟩ | ⟨q6, e⟩
      · refine zF_blk (m := []) (d := 1) (b := B189_5) (gs := [¬ r3.1 = 0]) (c' := (40, [some (22, 0), some (0, (h 15 2)), none], [], (hc, r3.2, o))) K189_5 rfl ⟨q6, trivial⟩ ?_
        refine zF_blk (m := []) (d := 0) (b := B189_4) (gs := []) (c' := (42, [some (22, 0), some (0, (h 15 2)), some (0, 0)], [], (hc, r3.2, o))) K189_4 rfl trivial ?_
        exact T189_0 hd zFu (h 15 2) 0 r3.2 _ e
      · refine zF_blk (m := []) (d := 0) (b := B189_5) (gs := [¬ (¬ r3.1 = 0)]) (c' := (38, [some (22, 0), some (0, (h 15 2)), none], [], (hc, r3.2, o))) K189_5 rfl ⟨q6, trivial⟩ ?_
        refine zF_blk (m := []) (d := 0) (b := B189_2) (gs := []) (c' := (39, [some (22, 0), some (0, (h 15 2)), none], [(0, 0)], (hc, r3.2, o))) K189_2 rfl trivial ?_
        exact zF_rbM (zRe1_w (by decide +kernel)) (Or.inl rfl) e
  · refine zF_blk (m := []) (d := 0) (b := B189_8) (gs := [0 ≤ 2 ∧ 2 < 209, ¬ (¬ (h 15 2) = 6)]) (c' := (13, [some (22, 0), some (0, (h 15 2)), none], [], (hc, h, o))) K189_8 rfl ⟨by decide, q1, trivial⟩ ?_
    obtain ⟨r4, q7, e⟩ := zB_s e
    refine zF_blk (m := []) (d := 0) (b := B189_7) (gs := []) (c' := (15, [some (22, 0), some (0, (h 15 2)), none], [(0, 4), (22, 0)], (hc, h, o))) K189_7 rfl trivial ?_
    refine zF_call (k := 185) (cl := 12) (n := 2) (i := .invokevirtual 148) (args := [(22, 0), (0, 4)]) (rest := []) (g1 := (hc, r4.2, o)) (r1 := some (0, r4.1)) (zCk1_w (by decide +kernel)) rfl rfl rfl (st' := [(0, r4.1)]) rfl (S185 (Nat.le_trans (by decide) hd) 4 h _ q7) ?_
    obtain ⟨q8, e⟩ := zG_s e
    exact zF_rbM (zRe1_w (by decide +kernel)) q8 e
