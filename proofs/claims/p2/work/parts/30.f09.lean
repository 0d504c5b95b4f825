/-! Functions of the methods, by wip/gen/lift.py. -/
def B174_0 : List zRow := [(0, .aload_n 0, 1, (0, 0, 0)), (1, .iconst 0, 1, (0, 0, 0)), (2, .putfield 81, 3, (12, 0, 0)), (5, .aload_n 0, 1, (0, 0, 0)), (6, .aload_n 0, 1, (0, 0, 0))]
theorem K174_0 : zRk 174 B174_0 = true := by decide +kernel
def B174_1 : List zRow := [(10, .putfield 96, 3, (12, 3, 0)), (13, .aload_n 0, 1, (0, 0, 0)), (14, .iload_n 1, 1, (0, 0, 0)), (15, .putfield 104, 3, (12, 4, 0)), (18, .aload_n 0, 1, (0, 0, 0)), (19, .iconst 0, 1, (0, 0, 0)), (20, .putfield 142, 3, (12, 10, 0)), (23, .aload_n 0, 1, (0, 0, 0)), (24, .iconst 0, 1, (0, 0, 0)), (25, .putfield 98, 3, (12, 5, 0)), (28, .aload_n 0, 1, (0, 0, 0))]
theorem K174_1 : zRk 174 B174_1 = true := by decide +kernel
/-- EchoValeModel.begin(I)V -/
def F174 (v1 : Int) (h : zHM) : Option zHM := (F175 (mset h 0 0 0)).bind fun r1 => (F176 (mset (mset (mset (mset r1.2 3 0 r1.1) 4 0 v1) 10 0 0) 5 0 0)).bind fun r2 => some r2
set_option maxRecDepth 100000 in
theorem S174 {spec : zRn zH2} {hc : zHC} {o : Int → Int} {d : Nat} (hd : 3 ≤ d) (v1 : Int) (h : zHM) (v : zHM) (e : F174 v1 h = some v) : zRu2 spec d 174 [(22, 0), (0, v1)] (hc, h, o) none (hc, v, o) := by
  refine zF_in (D := 2) (mx := 2) (L := [some (22, 0), some (0, v1)]) (by decide +kernel) rfl rfl hd (fun d hd => ?_)
  unfold F174 at e
  obtain ⟨r1, q1, e⟩ := zB_s e
  refine zF_blk (m := []) (d := 0) (b := B174_0) (gs := []) (c' := (7, [some (22, 0), some (0, v1)], [(22, 0), (22, 0)], (hc, (mset h 0 0 0), o))) K174_0 rfl trivial ?_
  refine zF_call (k := 175) (cl := 12) (n := 1) (i := .invokevirtual 168) (args := [(22, 0)]) (rest := [(22, 0)]) (g1 := (hc, r1.2, o)) (r1 := some (0, r1.1)) (by decide +kernel) rfl rfl rfl (st' := [(0, r1.1), (22, 0)]) rfl (S175 (Nat.le_trans (by decide) hd)  (mset h 0 0 0) _ q1) ?_
  obtain ⟨r2, q2, e⟩ := zB_s e
  refine zF_blk (m := []) (d := 0) (b := B174_1) (gs := []) (c' := (29, [some (22, 0), some (0, v1)], [(22, 0)], (hc, (mset (mset (mset (mset r1.2 3 0 r1.1) 4 0 v1) 10 0 0) 5 0 0), o))) K174_1 rfl trivial ?_
  refine zF_call (k := 176) (cl := 12) (n := 1) (i := .invokevirtual 162) (args := [(22, 0)]) (rest := []) (g1 := (hc, r2, o)) (r1 := none) (by decide +kernel) rfl rfl rfl (st' := []) rfl (S176 (Nat.le_trans (by decide) hd)  (mset (mset (mset (mset r1.2 3 0 r1.1) 4 0 v1) 10 0 0) 5 0 0) _ q2) ?_
  obtain rfl := Option.some.inj e
  exact zF_rv (by decide +kernel)
def B183_0 : List zRow := [(23, .ldc2_w 130, 3, (0, 0, 27)), (26, .lload 6, 2, (0, 0, 0)), (28, .lmul, 1, (0, 0, 0)), (29, .iload_n 2, 1, (0, 0, 0)), (30, .i2l, 1, (0, 0, 0)), (31, .ladd, 1, (0, 0, 0)), (32, .ldc2_w 132, 3, (0, 0, 96)), (35, .lsub, 1, (0, 0, 0)), (36, .lstore 6, 2, (0, 0, 0))]
theorem K183_0 : zRk 183 B183_0 = true := by decide +kernel
def B183_1 : List zRow := [(0, .ldc2_w 130, 3, (0, 0, 27)), (3, .iload_n 0, 1, (0, 0, 0)), (4, .i2l, 1, (0, 0, 0)), (5, .ldc2_w 132, 3, (0, 0, 96)), (8, .lsub, 1, (0, 0, 0)), (9, .lmul, 1, (0, 0, 0)), (10, .iload_n 1, 1, (0, 0, 0)), (11, .i2l, 1, (0, 0, 0)), (12, .ladd, 1, (0, 0, 0)), (13, .ldc2_w 132, 3, (0, 0, 96)), (16, .lsub, 1, (0, 0, 0)), (17, .lstore 6, 2, (0, 0, 0)), (19, .iload_n 2, 1, (0, 0, 0)), (20, .ifCond .le 18, 3, (0, 0, 0))]
theorem K183_1 : zRk 183 B183_1 = true := by decide +kernel
def B183_2 : List zRow := [(42, .ldc2_w 130, 3, (0, 0, 27)), (45, .lload 6, 2, (0, 0, 0)), (47, .lmul, 1, (0, 0, 0)), (48, .iload_n 3, 1, (0, 0, 0)), (49, .i2l, 1, (0, 0, 0)), (50, .ladd, 1, (0, 0, 0)), (51, .ldc2_w 132, 3, (0, 0, 96)), (54, .lsub, 1, (0, 0, 0)), (55, .lstore 6, 2, (0, 0, 0))]
theorem K183_2 : zRk 183 B183_2 = true := by decide +kernel
def B183_3 : List zRow := [(38, .iload_n 3, 1, (0, 0, 0)), (39, .ifCond .le 18, 3, (0, 0, 0))]
theorem K183_3 : zRk 183 B183_3 = true := by decide +kernel
def B183_4 : List zRow := [(62, .ldc2_w 130, 3, (0, 0, 27)), (65, .lload 6, 2, (0, 0, 0)), (67, .lmul, 1, (0, 0, 0)), (68, .iload 4, 2, (0, 0, 0)), (70, .i2l, 1, (0, 0, 0)), (71, .ladd, 1, (0, 0, 0)), (72, .ldc2_w 132, 3, (0, 0, 96)), (75, .lsub, 1, (0, 0, 0)), (76, .lstore 6, 2, (0, 0, 0))]
theorem K183_4 : zRk 183 B183_4 = true := by decide +kernel
def B183_5 : List zRow := [(57, .iload 4, 2, (0, 0, 0)), (59, .ifCond .le 19, 3, (0, 0, 0))]
theorem K183_5 : zRk 183 B183_5 = true := by decide +kernel
def B183_6 : List zRow := [(100, .lload 6, 2, (0, 0, 0))]
theorem K183_6 : zRk 183 B183_6 = true := by decide +kernel
def B183_7 : List zRow := [(83, .ldc2_w 130, 3, (0, 0, 27)), (86, .lload 6, 2, (0, 0, 0)), (88, .lmul, 1, (0, 0, 0)), (89, .iload 5, 2, (0, 0, 0)), (91, .i2l, 1, (0, 0, 0)), (92, .ladd, 1, (0, 0, 0)), (93, .ldc2_w 132, 3, (0, 0, 96)), (96, .lsub, 1, (0, 0, 0)), (97, .goto 5, 3, (0, 0, 0))]
theorem K183_7 : zRk 183 B183_7 = true := by decide +kernel
def B183_8 : List zRow := [(78, .iload 5, 2, (0, 0, 0)), (80, .ifCond .le 20, 3, (0, 0, 0))]
theorem K183_8 : zRk 183 B183_8 = true := by decide +kernel
def F183_2 (v5 : Int) (v6 : Int) : Option Int := if v5 ≤ 0 then some v6 else some (qsub (qadd (qmul 27 v6) v5) 96)
set_option maxRecDepth 100000 in
theorem T183_2 {spec : zRn zH2} {hc : zHC} {o : Int → Int} {d : Nat} (hd : 0 ≤ d) (h : zHM) (v5 : Int) (v6 : Int) (v : Int) (e : F183_2 v5 v6 = some v) : zFin 0 (fun _ => 0) (zRu2 spec d) 183 (some (1, v)) (hc, h, o) (78, [none, none, none, none, none, some (0, v5), some (1, v6), none], [], (hc, h, o)) := by
  unfold F183_2 at e
  rcases zI_s e with ⟨q1, e⟩ | ⟨q1, e⟩
  · refine zF_blk (m := []) (d := 1) (b := B183_8) (gs := [v5 ≤ 0]) (c' := (100, [none, none, none, none, none, some (0, v5), some (1, v6), none], [], (hc, h, o))) K183_8 rfl ⟨q1, trivial⟩ ?_
    refine zF_blk (m := []) (d := 0) (b := B183_6) (gs := []) (c' := (102, [none, none, none, none, none, some (0, v5), some (1, v6), none], [(1, v6)], (hc, h, o))) K183_6 rfl trivial ?_
    obtain rfl := Option.some.inj e
    exact zF_rl (by decide +kernel)
  · refine zF_blk (m := []) (d := 0) (b := B183_8) (gs := [¬ (v5 ≤ 0)]) (c' := (83, [none, none, none, none, none, some (0, v5), some (1, v6), none], [], (hc, h, o))) K183_8 rfl ⟨q1, trivial⟩ ?_
    refine zF_blk (m := []) (d := 0) (b := B183_7) (gs := []) (c' := (102, [none, none, none, none, none, some (0, v5), some (1, v6), none], [(1, (qsub (qadd (qmul 27 v6) v5) 96))], (hc, h, o))) K183_7 rfl trivial ?_
    obtain rfl := Option.some.inj e
    exact zF_rl (by decide +kernel)
def F183_1 (v4 : Int) (v5 : Int) (v6 : Int) : Option Int := if v4 ≤ 0 then F183_2 v5 v6 else F183_2 v5 (qsub (qadd (qmul 27 v6) v4) 96)
set_option maxRecDepth 100000 in
theorem T183_1 {spec : zRn zH2} {hc : zHC} {o : Int → Int} {d : Nat} (hd : 0 ≤ d) (h : zHM) (v4 : Int) (v5 : Int) (v6 : Int) (v : Int) (e : F183_1 v4 v5 v6 = some v) : zFin 0 (fun _ => 0) (zRu2 spec d) 183 (some (1, v)) (hc, h, o) (57, [none, none, none, none, some (0, v4), some (0, v5), some (1, v6), none], [], (hc, h, o)) := by
  unfold F183_1 at e
  rcases zI_s e with ⟨q1, e⟩ | ⟨q1, e⟩
  · refine zF_blk (m := []) (d := 1) (b := B183_5) (gs := [v4 ≤ 0]) (c' := (78, [none, none, none, none, some (0, v4), some (0, v5), some (1, v6), none], [], (hc, h, o))) K183_5 rfl ⟨q1, trivial⟩ ?_
    refine zF_blk (m := [false, false, false, false, false, true, true, false]) (d := 0) (b := []) (gs := []) (c' := (78, [none, none, none, none, none, some (0, v5), some (1, v6), none], [], (hc, h, o))) rfl rfl trivial ?_
    exact T183_2 hd h v5 v6 _ e
  · refine zF_blk (m := []) (d := 0) (b := B183_5) (gs := [¬ (v4 ≤ 0)]) (c' := (62, [none, none, none, none, some (0, v4), some (0, v5), some (1, v6), none], [], (hc, h, o))) K183_5 rfl ⟨q1, trivial⟩ ?_
    refine zF_blk (m := []) (d := 0) (b := B183_4) (gs := []) (c' := (78, [none, none, none, none, some (0, v4), some (0, v5), some (1, (qsub (qadd (qmul 27 v6) v4) 96)), none], [], (hc, h, o))) K183_4 rfl trivial ?_
    refine zF_blk (m := [false, false, false, false, false, true, true, false]) (d := 0) (b := []) (gs := []) (c' := (78, [none, none, none, none, none, some (0, v5), some (1, (qsub (qadd (qmul 27 v6) v4) 96)), none], [], (hc, h, o))) rfl rfl trivial ?_
    exact T183_2 hd h v5 (qsub (qadd (qmul 27 v6) v4) 96) _ e
def F183_0 (v3 : Int) (v4 : Int) (v5 : Int) (v6 : Int) : Option Int := if v3 ≤ 0 then F183_1 v4 v5 v6 else F183_1 v4 v5 (qsub (qadd (qmul 27 v6) v3) 96)
set_option maxRecDepth 100000 in
theorem T183_0 {spec : zRn zH2} {hc : zHC} {o : Int → Int} {d : Nat} (hd : 0 ≤ d) (h : zHM) (v3 : Int) (v4 : Int) (v5 : Int) (v6 : Int) (v : Int) (e : F183_0 v3 v4 v5 v6 = some v) : zFin 0 (fun _ => 0) (zRu2 spec d) 183 (some (1, v)) (hc, h, o) (38, [none, none, none, some (0, v3), some (0, v4), some (0, v5), some (1, v6), none], [], (hc, h, o)) := by
  unfold F183_0 at e
  rcases zI_s e with ⟨q1, e⟩ | ⟨q1, e⟩
  · refine zF_blk (m := []) (d := 1) (b := B183_3) (gs := [v3 ≤ 0]) (c' := (57, [none, none, none, some (0, v3), some (0, v4), some (0, v5), some (1, v6), none], [], (hc, h, o))) K183_3 rfl ⟨q1, trivial⟩ ?_
    refine zF_blk (m := [false, false, false, false, true, true, true, false]) (d := 0) (b := []) (gs := []) (c' := (57, [none, none, none, none, some (0, v4), some (0, v5), some (1, v6), none], [], (hc, h, o))) rfl rfl trivial ?_
    exact T183_1 hd h v4 v5 v6 _ e
  · refine zF_blk (m := []) (d := 0) (b := B183_3) (gs := [¬ (v3 ≤ 0)]) (c' := (42, [none, none, none, some (0, v3), some (0, v4), some (0, v5), some (1, v6), none], [], (hc, h, o))) K183_3 rfl ⟨q1, trivial⟩ ?_
    refine zF_blk (m := []) (d := 0) (b := B183_2) (gs := []) (c' := (57, [none, none, none, some (0, v3), some (0, v4), some (0, v5), some (1, (qsub (qadd (qmul 27 v6) v3) 96)), none], [], (hc, h, o))) K183_2 rfl trivial ?_
    refine zF_blk (m := [false, false, false, false, true, true, true, false]) (d := 0) (b := []) (gs := []) (c' := (57, [none, none, none, none, some (0, v4), some (0, v5), some (1, (qsub (qadd (qmul 27 v6) v3) 96)), none], [], (hc, h, o))) rfl rfl trivial ?_
    exact T183_1 hd h v4 v5 (qsub (qadd (qmul 27 v6) v3) 96) _ e
/-- EchoValeModel.spelt(IIIIII)J -/
def F183 (v0 : Int) (v1 : Int) (v2 : Int) (v3 : Int) (v4 : Int) (v5 : Int) : Option Int := if v2 ≤ 0 then F183_0 v3 v4 v5 (qsub (qadd (qmul 27 (qsub v0 96)) v1) 96) else F183_0 v3 v4 v5 (qsub (qadd (qmul 27 (qsub (qadd (qmul 27 (qsub v0 96)) v1) 96)) v2) 96)
set_option maxRecDepth 100000 in
theorem S183 {spec : zRn zH2} {hc : zHC} {o : Int → Int} {d : Nat} (hd : 1 ≤ d) (v0 : Int) (v1 : Int) (v2 : Int) (v3 : Int) (v4 : Int) (v5 : Int) (h : zHM) (v : Int) (e : F183 v0 v1 v2 v3 v4 v5 = some v) : zRu2 spec d 183 [(0, v0), (0, v1), (0, v2), (0, v3), (0, v4), (0, v5)] (hc, h, o) (some (1, v)) (hc, h, o) := by
  refine zF_in (D := 0) (mx := 8) (L := [some (0, v0), some (0, v1), some (0, v2), some (0, v3), some (0, v4), some (0, v5), none, none]) (by decide +kernel) rfl rfl hd (fun d hd => ?_)
  unfold F183 at e
  rcases zI_s e with ⟨q1, e⟩ | ⟨q1, e⟩
  · refine zF_blk (m := []) (d := 1) (b := B183_1) (gs := [v2 ≤ 0]) (c' := (38, [some (0, v0), some (0, v1), some (0, v2), some (0, v3), some (0, v4), some (0, v5), some (1, (qsub (qadd (qmul 27 (qsub v0 96)) v1) 96)), none], [], (hc, h, o))) K183_1 rfl ⟨q1, trivial⟩ ?_
    refine zF_blk (m := [false, false, false, true, true, true, true, false]) (d := 0) (b := []) (gs := []) (c' := (38, [none, none, none, some (0, v3), some (0, v4), some (0, v5), some (1, (qsub (qadd (qmul 27 (qsub v0 96)) v1) 96)), none], [], (hc, h, o))) rfl rfl trivial ?_
    exact T183_0 hd h v3 v4 v5 (qsub (qadd (qmul 27 (qsub v0 96)) v1) 96) _ e
  · refine zF_blk (m := []) (d := 0) (b := B183_1) (gs := [¬ (v2 ≤ 0)]) (c' := (23, [some (0, v0), some (0, v1), some (0, v2), some (0, v3), some (0, v4), some (0, v5), some (1, (qsub (qadd (qmul 27 (qsub v0 96)) v1) 96)), none], [], (hc, h, o))) K183_1 rfl ⟨q1, trivial⟩ ?_
    refine zF_blk (m := []) (d := 0) (b := B183_0) (gs := []) (c' := (38, [some (0, v0), some (0, v1), some (0, v2), some (0, v3), some (0, v4), some (0, v5), some (1, (qsub (qadd (qmul 27 (qsub (qadd (qmul 27 (qsub v0 96)) v1) 96)) v2) 96)), none], [], (hc, h, o))) K183_0 rfl trivial ?_
    refine zF_blk (m := [false, false, false, true, true, true, true, false]) (d := 0) (b := []) (gs := []) (c' := (38, [none, none, none, some (0, v3), some (0, v4), some (0, v5), some (1, (qsub (qadd (qmul 27 (qsub (qadd (qmul 27 (qsub v0 96)) v1) 96)) v2) 96)), none], [], (hc, h, o))) rfl rfl trivial ?_
    exact T183_0 hd h v3 v4 v5 (qsub (qadd (qmul 27 (qsub (qadd (qmul 27 (qsub v0 96)) v1) 96)) v2) 96) _ e
def B182_0 : List zRow := [(96, .bipush 108, 2, (0, 0, 0)), (98, .bipush 97, 2, (0, 0, 0)), (100, .bipush 110, 2, (0, 0, 0)), (102, .bipush 100, 2, (0, 0, 0)), (104, .iconst 0, 1, (0, 0, 0)), (105, .iconst 0, 1, (0, 0, 0))]
theorem K182_0 : zRk 182 B182_0 = true := by decide +kernel
def B182_1 : List zRow := [(0, .iload_n 0, 1, (0, 0, 0)), (1, .tableswitch 373 0 19 #[95, 109, 124, 140, 154, 168, 182, 196, 210, 224, 239, 251, 264, 277, 291, 306, 318, 330, 345, 359], 95, (0, 0, 0))]
theorem K182_1 : zRk 182 B182_1 = true := by decide +kernel
def B182_2 : List zRow := [(110, .bipush 99, 2, (0, 0, 0)), (112, .bipush 108, 2, (0, 0, 0)), (114, .bipush 105, 2, (0, 0, 0)), (116, .bipush 102, 2, (0, 0, 0)), (118, .bipush 102, 2, (0, 0, 0)), (120, .iconst 0, 1, (0, 0, 0))]
theorem K182_2 : zRk 182 B182_2 = true := by decide +kernel
def B182_3 : List zRow := [(125, .bipush 112, 2, (0, 0, 0)), (127, .bipush 101, 2, (0, 0, 0)), (129, .bipush 114, 2, (0, 0, 0)), (131, .bipush 115, 2, (0, 0, 0)), (133, .bipush 111, 2, (0, 0, 0)), (135, .bipush 110, 2, (0, 0, 0))]
theorem K182_3 : zRk 182 B182_3 = true := by decide +kernel
def B182_4 : List zRow := [(141, .bipush 109, 2, (0, 0, 0)), (143, .bipush 111, 2, (0, 0, 0)), (145, .bipush 118, 2, (0, 0, 0)), (147, .bipush 101, 2, (0, 0, 0)), (149, .iconst 0, 1, (0, 0, 0)), (150, .iconst 0, 1, (0, 0, 0))]
theorem K182_4 : zRk 182 B182_4 = true := by decide +kernel
def B182_5 : List zRow := [(155, .bipush 99, 2, (0, 0, 0)), (157, .bipush 97, 2, (0, 0, 0)), (159, .bipush 109, 2, (0, 0, 0)), (161, .bipush 112, 2, (0, 0, 0)), (163, .iconst 0, 1, (0, 0, 0)), (164, .iconst 0, 1, (0, 0, 0))]
theorem K182_5 : zRk 182 B182_5 = true := by decide +kernel
def B182_6 : List zRow := [(169, .bipush 102, 2, (0, 0, 0)), (171, .bipush 101, 2, (0, 0, 0)), (173, .bipush 108, 2, (0, 0, 0)), (175, .bipush 116, 2, (0, 0, 0)), (177, .iconst 0, 1, (0, 0, 0)), (178, .iconst 0, 1, (0, 0, 0))]
theorem K182_6 : zRk 182 B182_6 = true := by decide +kernel
def B182_7 : List zRow := [(183, .bipush 115, 2, (0, 0, 0)), (185, .bipush 110, 2, (0, 0, 0)), (187, .bipush 111, 2, (0, 0, 0)), (189, .bipush 119, 2, (0, 0, 0)), (191, .iconst 0, 1, (0, 0, 0)), (192, .iconst 0, 1, (0, 0, 0))]
theorem K182_7 : zRk 182 B182_7 = true := by decide +kernel
def B182_8 : List zRow := [(197, .bipush 111, 2, (0, 0, 0)), (199, .bipush 119, 2, (0, 0, 0)), (201, .bipush 110, 2, (0, 0, 0)), (203, .bipush 115, 2, (0, 0, 0)), (205, .iconst 0, 1, (0, 0, 0)), (206, .iconst 0, 1, (0, 0, 0))]
theorem K182_8 : zRk 182 B182_8 = true := by decide +kernel
def B182_9 : List zRow := [(211, .bipush 115, 2, (0, 0, 0)), (213, .bipush 97, 2, (0, 0, 0)), (215, .bipush 105, 2, (0, 0, 0)), (217, .bipush 100, 2, (0, 0, 0)), (219, .iconst 0, 1, (0, 0, 0)), (220, .iconst 0, 1, (0, 0, 0))]
theorem K182_9 : zRk 182 B182_9 = true := by decide +kernel
def B182_10 : List zRow := [(225, .bipush 104, 2, (0, 0, 0)), (227, .bipush 101, 2, (0, 0, 0)), (229, .bipush 97, 2, (0, 0, 0)), (231, .bipush 114, 2, (0, 0, 0)), (233, .bipush 100, 2, (0, 0, 0)), (235, .iconst 0, 1, (0, 0, 0))]
theorem K182_10 : zRk 182 B182_10 = true := by decide +kernel
def B182_11 : List zRow := [(240, .bipush 111, 2, (0, 0, 0)), (242, .bipush 114, 2, (0, 0, 0)), (244, .iconst 0, 1, (0, 0, 0)), (245, .iconst 0, 1, (0, 0, 0)), (246, .iconst 0, 1, (0, 0, 0)), (247, .iconst 0, 1, (0, 0, 0))]
theorem K182_11 : zRk 182 B182_11 = true := by decide +kernel
def B182_12 : List zRow := [(252, .bipush 97, 2, (0, 0, 0)), (254, .bipush 110, 2, (0, 0, 0)), (256, .bipush 100, 2, (0, 0, 0)), (258, .iconst 0, 1, (0, 0, 0)), (259, .iconst 0, 1, (0, 0, 0)), (260, .iconst 0, 1, (0, 0, 0))]
theorem K182_12 : zRk 182 B182_12 = true := by decide +kernel
def B182_13 : List zRow := [(265, .bipush 110, 2, (0, 0, 0)), (267, .bipush 111, 2, (0, 0, 0)), (269, .bipush 116, 2, (0, 0, 0)), (271, .iconst 0, 1, (0, 0, 0)), (272, .iconst 0, 1, (0, 0, 0)), (273, .iconst 0, 1, (0, 0, 0))]
theorem K182_13 : zRk 182 B182_13 = true := by decide +kernel
def B182_14 : List zRow := [(278, .bipush 108, 2, (0, 0, 0)), (280, .bipush 111, 2, (0, 0, 0)), (282, .bipush 115, 2, (0, 0, 0)), (284, .bipush 116, 2, (0, 0, 0)), (286, .iconst 0, 1, (0, 0, 0)), (287, .iconst 0, 1, (0, 0, 0))]
theorem K182_14 : zRk 182 B182_14 = true := by decide +kernel
def B182_15 : List zRow := [(292, .bipush 106, 2, (0, 0, 0)), (294, .bipush 111, 2, (0, 0, 0)), (296, .bipush 105, 2, (0, 0, 0)), (298, .bipush 110, 2, (0, 0, 0)), (300, .bipush 116, 2, (0, 0, 0)), (302, .iconst 0, 1, (0, 0, 0))]
theorem K182_15 : zRk 182 B182_15 = true := by decide +kernel
def B182_16 : List zRow := [(307, .bipush 111, 2, (0, 0, 0)), (309, .bipush 102, 2, (0, 0, 0)), (311, .iconst 0, 1, (0, 0, 0)), (312, .iconst 0, 1, (0, 0, 0)), (313, .iconst 0, 1, (0, 0, 0)), (314, .iconst 0, 1, (0, 0, 0))]
theorem K182_16 : zRk 182 B182_16 = true := by decide +kernel
def B182_17 : List zRow := [(319, .bipush 98, 2, (0, 0, 0)), (321, .bipush 121, 2, (0, 0, 0)), (323, .iconst 0, 1, (0, 0, 0)), (324, .iconst 0, 1, (0, 0, 0)), (325, .iconst 0, 1, (0, 0, 0)), (326, .iconst 0, 1, (0, 0, 0))]
theorem K182_17 : zRk 182 B182_17 = true := by decide +kernel
def B182_18 : List zRow := [(331, .bipush 119, 2, (0, 0, 0)), (333, .bipush 111, 2, (0, 0, 0)), (335, .bipush 114, 2, (0, 0, 0)), (337, .bipush 116, 2, (0, 0, 0)), (339, .bipush 104, 2, (0, 0, 0)), (341, .iconst 0, 1, (0, 0, 0))]
theorem K182_18 : zRk 182 B182_18 = true := by decide +kernel
def B182_19 : List zRow := [(346, .bipush 108, 2, (0, 0, 0)), (348, .bipush 111, 2, (0, 0, 0)), (350, .bipush 117, 2, (0, 0, 0)), (352, .bipush 100, 2, (0, 0, 0)), (354, .iconst 0, 1, (0, 0, 0)), (355, .iconst 0, 1, (0, 0, 0))]
theorem K182_19 : zRk 182 B182_19 = true := by decide +kernel
def B182_20 : List zRow := [(360, .bipush 104, 2, (0, 0, 0)), (362, .bipush 111, 2, (0, 0, 0)), (364, .bipush 117, 2, (0, 0, 0)), (366, .bipush 114, 2, (0, 0, 0)), (368, .iconst 0, 1, (0, 0, 0)), (369, .iconst 0, 1, (0, 0, 0))]
theorem K182_20 : zRk 182 B182_20 = true := by decide +kernel
def B182_21 : List zRow := [(374, .bipush 101, 2, (0, 0, 0)), (376, .bipush 99, 2, (0, 0, 0)), (378, .bipush 104, 2, (0, 0, 0)), (380, .bipush 111, 2, (0, 0, 0)), (382, .bipush 101, 2, (0, 0, 0)), (384, .bipush 115, 2, (0, 0, 0))]
theorem K182_21 : zRk 182 B182_21 = true := by decide +kernel
/-- EchoValeModel.wordOf(I)J -/
def F182 (v0 : Int) : Option Int := if v0 = 0 then (F183 108 97 110 100 0 0).bind fun r1 => some r1 else if v0 = 1 then (F183 99 108 105 102 102 0).bind fun r2 => some r2 else if v0 = 2 then (F183 112 101 114 115 111 110).bind fun r3 => some r3 else if v0 = 3 then (F183 109 111 118 101 0 0).bind fun r4 => some r4 else if v0 = 4 then (F183 99 97 109 112 0 0).bind fun r5 => some r5 else if v0 = 5 then (F183 102 101 108 116 0 0).bind fun r6 => some r6 else if v0 = 6 then (F183 115 110 111 119 0 0).bind fun r7 => some r7 else if v0 = 7 then (F183 111 119 110 115 0 0).bind fun r8 => some r8 else if v0 = 8 then (F183 115 97 105 100 0 0).bind fun r9 => some r9 else if v0 = 9 then (F183 104 101 97 114 100 0).bind fun r10 => some r10 else if v0 = 10 then (F183 111 114 0 0 0 0).bind fun r11 => some r11 else if v0 = 11 then (F183 97 110 100 0 0 0).bind fun r12 => some r12 else if v0 = 12 then (F183 110 111 116 0 0 0).bind fun r13 => some r13 else if v0 = 13 then (F183 108 111 115 116 0 0).bind fun r14 => some r14 else if v0 = 14 then (F183 106 111 105 110 116 0).bind fun r15 => some r15 else if v0 = 15 then (F183 111 102 0 0 0 0).bind fun r16 => some r16 else if v0 = 16 then (F183 98 121 0 0 0 0).bind fun r17 => some r17 else if v0 = 17 then (F183 119 111 114 116 104 0).bind fun r18 => some r18 else if v0 = 18 then (F183 108 111 117 100 0 0).bind fun r19 => some r19 else if v0 = 19 then (F183 104 111 117 114 0 0).bind fun r20 => some r20 else zG (v0 < 0 ∨ 19 < v0) ((F183 101 99 104 111 101 115).bind fun r21 => some r21)
set_option maxRecDepth 100000 in
theorem S182 {spec : zRn zH2} {hc : zHC} {o : Int → Int} {d : Nat} (hd : 2 ≤ d) (v0 : Int) (h : zHM) (v : Int) (e : F182 v0 = some v) : zRu2 spec d 182 [(0, v0)] (hc, h, o) (some (1, v)) (hc, h, o) := by
  refine zF_in (D := 1) (mx := 1) (L := [some (0, v0)]) (by decide +kernel) rfl rfl hd (fun d hd => ?_)
  unfold F182 at e
  rcases zI_s e with ⟨q1, e⟩ | ⟨q1, e⟩
  · refine zF_blk (m := []) (d := 0) (b := B182_1) (gs := [v0 = 0]) (c' := (96, [some (0, v0)], [], (hc, h, o))) K182_1 rfl ⟨q1, trivial⟩ ?_
    obtain ⟨r1, q2, e⟩ := zB_s e
    refine zF_blk (m := []) (d := 0) (b := B182_0) (gs := []) (c' := (106, [some (0, v0)], [(0, 0), (0, 0), (0, 100), (0, 110), (0, 97), (0, 108)], (hc, h, o))) K182_0 rfl trivial ?_
    refine zF_call (k := 183) (cl := 12) (n := 6) (i := .invokestatic 134) (args := [(0, 108), (0, 97), (0, 110), (0, 100), (0, 0), (0, 0)]) (rest := []) (g1 := (hc, h, o)) (r1 := some (1, r1)) (by decide +kernel) rfl rfl rfl (st' := [(1, r1)]) rfl (S183 (Nat.le_trans (by decide) hd) 108 97 110 100 0 0 h _ q2) ?_
    obtain rfl := Option.some.inj e
    exact zF_rl (by decide +kernel)
  rcases zI_s e with ⟨q3, e⟩ | ⟨q3, e⟩
  · refine zF_blk (m := []) (d := 1) (b := B182_1) (gs := [v0 = 1]) (c' := (110, [some (0, v0)], [], (hc, h, o))) K182_1 rfl ⟨q3, trivial⟩ ?_
    obtain ⟨r2, q4, e⟩ := zB_s e
    refine zF_blk (m := []) (d := 0) (b := B182_2) (gs := []) (c' := (121, [some (0, v0)], [(0, 0), (0, 102), (0, 102), (0, 105), (0, 108), (0, 99)], (hc, h, o))) K182_2 rfl trivial ?_
    refine zF_call (k := 183) (cl := 12) (n := 6) (i := .invokestatic 134) (args := [(0, 99), (0, 108), (0, 105), (0, 102), (0, 102), (0, 0)]) (rest := []) (g1 := (hc, h, o)) (r1 := some (1, r2)) (by decide +kernel) rfl rfl rfl (st' := [(1, r2)]) rfl (S183 (Nat.le_trans (by decide) hd) 99 108 105 102 102 0 h _ q4) ?_
    obtain rfl := Option.some.inj e
    exact zF_rl (by decide +kernel)
  rcases zI_s e with ⟨q5, e⟩ | ⟨q5, e⟩
  · refine zF_blk (m := []) (d := 2) (b := B182_1) (gs := [v0 = 2]) (c' := (125, [some (0, v0)], [], (hc, h, o))) K182_1 rfl ⟨q5, trivial⟩ ?_
    obtain ⟨r3, q6, e⟩ := zB_s e
    refine zF_blk (m := []) (d := 0) (b := B182_3) (gs := []) (c' := (137, [some (0, v0)], [(0, 110), (0, 111), (0, 115), (0, 114), (0, 101), (0, 112)], (hc, h, o))) K182_3 rfl trivial ?_
    refine zF_call (k := 183) (cl := 12) (n := 6) (i := .invokestatic 134) (args := [(0, 112), (0, 101), (0, 114), (0, 115), (0, 111), (0, 110)]) (rest := []) (g1 := (hc, h, o)) (r1 := some (1, r3)) (by decide +kernel) rfl rfl rfl (st' := [(1, r3)]) rfl (S183 (Nat.le_trans (by decide) hd) 112 101 114 115 111 110 h _ q6) ?_
    obtain rfl := Option.some.inj e
    exact zF_rl (by decide +kernel)
  rcases zI_s e with ⟨q7, e⟩ | ⟨q7, e⟩
  · refine zF_blk (m := []) (d := 3) (b := B182_1) (gs := [v0 = 3]) (c' := (141, [some (0, v0)], [], (hc, h, o))) K182_1 rfl ⟨q7, trivial⟩ ?_
    obtain ⟨r4, q8, e⟩ := zB_s e
    refine zF_blk (m := []) (d := 0) (b := B182_4) (gs := []) (c' := (151, [some (0, v0)], [(0, 0), (0, 0), (0, 101), (0, 118), (0, 111), (0, 109)], (hc, h, o))) K182_4 rfl trivial ?_
    refine zF_call (k := 183) (cl := 12) (n := 6) (i := .invokestatic 134) (args := [(0, 109), (0, 111), (0, 118), (0, 101), (0, 0), (0, 0)]) (rest := []) (g1 := (hc, h, o)) (r1 := some (1, r4)) (by decide +kernel) rfl rfl rfl (st' := [(1, r4)]) rfl (S183 (Nat.le_trans (by decide) hd) 109 111 118 101 0 0 h _ q8) ?_
    obtain rfl := Option.some.inj e
    exact zF_rl (by decide +kernel)
  rcases zI_s e with ⟨q9, e⟩ | ⟨q9, e⟩
  · refine zF_blk (m := []) (d := 4) (b := B182_1) (gs := [v0 = 4]) (c' := (155, [some (0, v0)], [], (hc, h, o))) K182_1 rfl ⟨q9, trivial⟩ ?_
    obtain ⟨r5, q10, e⟩ := zB_s e
    refine zF_blk (m := []) (d := 0) (b := B182_5) (gs := []) (c' := (165, [some (0, v0)], [(0, 0), (0, 0), (0, 112), (0, 109), (0, 97), (0, 99)], (hc, h, o))) K182_5 rfl trivial ?_
    refine zF_call (k := 183) (cl := 12) (n := 6) (i := .invokestatic 134) (args := [(0, 99), (0, 97), (0, 109), (0, 112), (0, 0), (0, 0)]) (rest := []) (g1 := (hc, h, o)) (r1 := some (1, r5)) (by decide +kernel) rfl rfl rfl (st' := [(1, r5)]) rfl (S183 (Nat.le_trans (by decide) hd) 99 97 109 112 0 0 h _ q10) ?_
    obtain rfl := Option.some.inj e
    exact zF_rl (by decide +kernel)
  rcases zI_s e with ⟨q11, e⟩ | ⟨q11, e⟩
  · refine zF_blk (m := []) (d := 5) (b := B182_1) (gs := [v0 = 5]) (c' := (169, [some (0, v0)], [], (hc, h, o))) K182_1 rfl ⟨q11, trivial⟩ ?_
    obtain ⟨r6, q12, e⟩ := zB_s e
    refine zF_blk (m := []) (d := 0) (b := B182_6) (gs := []) (c' := (179, [some (0, v0)], [(0, 0), (0, 0), (0, 116), (0, 108), (0, 101), (0, 102)], (hc, h, o))) K182_6 rfl trivial ?_
    refine zF_call (k := 183) (cl := 12) (n := 6) (i := .invokestatic 134) (args := [(0, 102), (0, 101), (0, 108), (0, 116), (0, 0), (0, 0)]) (rest := []) (g1 := (hc, h, o)) (r1 := some (1, r6)) (by decide +kernel) rfl rfl rfl (st' := [(1, r6)]) rfl (S183 (Nat.le_trans (by decide) hd) 102 101 108 116 0 0 h _ q12) ?_
    obtain rfl := Option.some.inj e
    exact zF_rl (by decide +kernel)
  rcases zI_s e with ⟨q13, e⟩ | ⟨q13, e⟩
  · refine zF_blk (m := []) (d := 6) (b := B182_1) (gs := [v0 = 6]) (c' := (183, [some (0, v0)], [], (hc, h, o))) K182_1 rfl ⟨q13, trivial⟩ ?_
    obtain ⟨r7, q14, e⟩ := zB_s e
    refine zF_blk (m := []) (d := 0) (b := B182_7) (gs := []) (c' := (193, [some (0, v0)], [(0, 0), (0, 0), (0, 119), (0, 111), (0, 110), (0, 115)], (hc, h, o))) K182_7 rfl trivial ?_
    refine zF_call (k := 183) (cl := 12) (n := 6) (i := .invokestatic 134) (args := [(0, 115), (0, 110), (0, 111), (0, 119), (0, 0), (0, 0)]) (rest := []) (g1 := (hc, h, o)) (r1 := some (1, r7)) (by decide +kernel) rfl rfl rfl (st' := [(1, r7)]) rfl (S183 (Nat.le_trans (by decide) hd) 115 110 111 119 0 0 h _ q14) ?_
    obtain rfl := Option.some.inj e
    exact zF_rl (by decide +kernel)
  rcases zI_s e with ⟨q15, e⟩ | ⟨q15, e⟩
  · refine zF_blk (m := []) (d := 7) (b := B182_1) (gs := [v0 = 7]) (c' := (197, [some (0, v0)], [], (hc, h, o))) K182_1 rfl ⟨q15, trivial⟩ ?_
    obtain ⟨r8, q16, e⟩ := zB_s e
    refine zF_blk (m := []) (d := 0) (b := B182_8) (gs := []) (c' := (207, [some (0, v0)], [(0, 0), (0, 0), (0, 115), (0, 110), (0, 119), (0, 111)], (hc, h, o))) K182_8 rfl trivial ?_
    refine zF_call (k := 183) (cl := 12) (n := 6) (i := .invokestatic 134) (args := [(0, 111), (0, 119), (0, 110), (0, 115), (0, 0), (0, 0)]) (rest := []) (g1 := (hc, h, o)) (r1 := some (1, r8)) (by decide +kernel) rfl rfl rfl (st' := [(1, r8)]) rfl (S183 (Nat.le_trans (by decide) hd) 111 119 110 115 0 0 h _ q16) ?_
    obtain rfl := Option.some.inj e
    exact zF_rl (by decide +kernel)
  rcases zI_s e with ⟨q17, e⟩ | ⟨q17, e⟩
  · refine zF_blk (m := []) (d := 8) (b := B182_1) (gs := [v0 = 8]) (c' := (211, [some (0, v0)], [], (hc, h, o))) K182_1 rfl ⟨q17, trivial⟩ ?_
    obtain ⟨r9, q18, e⟩ := zB_s e
    refine zF_blk (m := []) (d := 0) (b := B182_9) (gs := []) (c' := (221, [some (0, v0)], [(0, 0), (0, 0), (0, 100), (0, 105), (0, 97), (0, 115)], (hc, h, o))) K182_9 rfl trivial ?_
    refine zF_call (k := 183) (cl := 12) (n := 6) (i := .invokestatic 134) (args := [(0, 115), (0, 97), (0, 105), (0, 100), (0, 0), (0, 0)]) (rest := []) (g1 := (hc, h, o)) (r1 := some (1, r9)) (by decide +kernel) rfl rfl rfl (st' := [(1, r9)]) rfl (S183 (Nat.le_trans (by decide) hd) 115 97 105 100 0 0 h _ q18) ?_
    obtain rfl := Option.some.inj e
    exact zF_rl (by decide +kernel)
  rcases zI_s e with ⟨q19, e⟩ | ⟨q19, e⟩
  · refine zF_blk (m := []) (d := 9) (b := B182_1) (gs := [v0 = 9]) (c' := (225, [some (0, v0)], [], (hc, h, o))) K182_1 rfl ⟨q19, trivial⟩ ?_
    obtain ⟨r10, q20, e⟩ := zB_s e
    refine zF_blk (m := []) (d := 0) (b := B182_10) (gs := []) (c' := (236, [some (0, v0)], [(0, 0), (0, 100), (0, 114), (0, 97), (0, 101), (0, 104)], (hc, h, o))) K182_10 rfl trivial ?_
    refine zF_call (k := 183) (cl := 12) (n := 6) (i := .invokestatic 134) (args := [(0, 104), (0, 101), (0, 97), (0, 114), (0, 100), (0, 0)]) (rest := []) (g1 := (hc, h, o)) (r1 := some (1, r10)) (by decide +kernel) rfl rfl rfl (st' := [(1, r10)]) rfl (S183 (Nat.le_trans (by decide) hd) 104 101 97 114 100 0 h _ q20) ?_
    obtain rfl := Option.some.inj e
    exact zF_rl (by decide +kernel)
  rcases zI_s e with ⟨q21, e⟩ | ⟨q21, e⟩
  · refine zF_blk (m := []) (d := 10) (b := B182_1) (gs := [v0 = 10]) (c' := (240, [some (0, v0)], [], (hc, h, o))) K182_1 rfl ⟨q21, trivial⟩ ?_
    obtain ⟨r11, q22, e⟩ := zB_s e
    refine zF_blk (m := []) (d := 0) (b := B182_11) (gs := []) (c' := (248, [some (0, v0)], [(0, 0), (0, 0), (0, 0), (0, 0), (0, 114), (0, 111)], (hc, h, o))) K182_11 rfl trivial ?_
    refine zF_call (k := 183) (cl := 12) (n := 6) (i := .invokestatic 134) (args := [(0, 111), (0, 114), (0, 0), (0, 0), (0, 0), (0, 0)]) (rest := []) (g1 := (hc, h, o)) (r1 := some (1, r11)) (by decide +kernel) rfl rfl rfl (st' := [(1, r11)]) rfl (S183 (Nat.le_trans (by decide) hd) 111 114 0 0 0 0 h _ q22) ?_
    obtain rfl := Option.some.inj e
    exact zF_rl (by decide +kernel)
  rcases zI_s e with ⟨q23, e⟩ | ⟨q23, e⟩
  · refine zF_blk (m := []) (d := 11) (b := B182_1) (gs := [v0 = 11]) (c' := (252, [some (0, v0)], [], (hc, h, o))) K182_1 rfl ⟨q23, trivial⟩ ?_
    obtain ⟨r12, q24, e⟩ := zB_s e
    refine zF_blk (m := []) (d := 0) (b := B182_12) (gs := []) (c' := (261, [some (0, v0)], [(0, 0), (0, 0), (0, 0), (0, 100), (0, 110), (0, 97)], (hc, h, o))) K182_12 rfl trivial ?_
    refine zF_call (k := 183) (cl := 12) (n := 6) (i := .invokestatic 134) (args := [(0, 97), (0, 110), (0, 100), (0, 0), (0, 0), (0, 0)]) (rest := []) (g1 := (hc, h, o)) (r1 := some (1, r12)) (by decide +kernel) rfl rfl rfl (st' := [(1, r12)]) rfl (S183 (Nat.le_trans (by decide) hd) 97 110 100 0 0 0 h _ q24) ?_
    obtain rfl := Option.some.inj e
    exact zF_rl (by decide +kernel)
  rcases zI_s e with ⟨q25, e⟩ | ⟨q25, e⟩
  · refine zF_blk (m := []) (d := 12) (b := B182_1) (gs := [v0 = 12]) (c' := (265, [some (0, v0)], [], (hc, h, o))) K182_1 rfl ⟨q25, trivial⟩ ?_
    obtain ⟨r13, q26, e⟩ := zB_s e
    refine zF_blk (m := []) (d := 0) (b := B182_13) (gs := []) (c' := (274, [some (0, v0)], [(0, 0), (0, 0), (0, 0), (0, 116), (0, 111), (0, 110)], (hc, h, o))) K182_13 rfl trivial ?_
    refine zF_call (k := 183) (cl := 12) (n := 6) (i := .invokestatic 134) (args := [(0, 110), (0, 111), (0, 116), (0, 0), (0, 0), (0, 0)]) (rest := []) (g1 := (hc, h, o)) (r1 := some (1, r13)) (by decide +kernel) rfl rfl rfl (st' := [(1, r13)]) rfl (S183 (Nat.le_trans (by decide) hd) 110 111 116 0 0 0 h _ q26) ?_
    obtain rfl := Option.some.inj e
    exact zF_rl (by decide +kernel)
  rcases zI_s e with ⟨q27, e⟩ | ⟨q27, e⟩
  · refine zF_blk (m := []) (d := 13) (b := B182_1) (gs := [v0 = 13]) (c' := (278, [some (0, v0)], [], (hc, h, o))) K182_1 rfl ⟨q27, trivial⟩ ?_
    obtain ⟨r14, q28, e⟩ := zB_s e
    refine zF_blk (m := []) (d := 0) (b := B182_14) (gs := []) (c' := (288, [some (0, v0)], [(0, 0), (0, 0), (0, 116), (0, 115), (0, 111), (0, 108)], (hc, h, o))) K182_14 rfl trivial ?_
    refine zF_call (k := 183) (cl := 12) (n := 6) (i := .invokestatic 134) (args := [(0, 108), (0, 111), (0, 115), (0, 116), (0, 0), (0, 0)]) (rest := []) (g1 := (hc, h, o)) (r1 := some (1, r14)) (by decide +kernel) rfl rfl rfl (st' := [(1, r14)]) rfl (S183 (Nat.le_trans (by decide) hd) 108 111 115 116 0 0 h _ q28) ?_
    obtain rfl := Option.some.inj e
    exact zF_rl (by decide +kernel)
  rcases zI_s e with ⟨q29, e⟩ | ⟨q29, e⟩
  · refine zF_blk (m := []) (d := 14) (b := B182_1) (gs := [v0 = 14]) (c' := (292, [some (0, v0)], [], (hc, h, o))) K182_1 rfl ⟨q29, trivial⟩ ?_
    obtain ⟨r15, q30, e⟩ := zB_s e
    refine zF_blk (m := []) (d := 0) (b := B182_15) (gs := []) (c' := (303, [some (0, v0)], [(0, 0), (0, 116), (0, 110), (0, 105), (0, 111), (0, 106)], (hc, h, o))) K182_15 rfl trivial ?_
    refine zF_call (k := 183) (cl := 12) (n := 6) (i := .invokestatic 134) (args := [(0, 106), (0, 111), (0, 105), (0, 110), (0, 116), (0, 0)]) (rest := []) (g1 := (hc, h, o)) (r1 := some (1, r15)) (by decide +kernel) rfl rfl rfl (st' := [(1, r15)]) rfl (S183 (Nat.le_trans (by decide) hd) 106 111 105 110 116 0 h _ q30) ?_
    obtain rfl := Option.some.inj e
    exact zF_rl (by decide +kernel)
  rcases zI_s e with ⟨q31, e⟩ | ⟨q31, e⟩
  · refine zF_blk (m := []) (d := 15) (b := B182_1) (gs := [v0 = 15]) (c' := (307, [some (0, v0)], [], (hc, h, o))) K182_1 rfl ⟨q31, trivial⟩ ?_
    obtain ⟨r16, q32, e⟩ := zB_s e
    refine zF_blk (m := []) (d := 0) (b := B182_16) (gs := []) (c' := (315, [some (0, v0)], [(0, 0), (0, 0), (0, 0), (0, 0), (0, 102), (0, 111)], (hc, h, o))) K182_16 rfl trivial ?_
    refine zF_call (k := 183) (cl := 12) (n := 6) (i := .invokestatic 134) (args := [(0, 111), (0, 102), (0, 0), (0, 0), (0, 0), (0, 0)]) (rest := []) (g1 := (hc, h, o)) (r1 := some (1, r16)) (by decide +kernel) rfl rfl rfl (st' := [(1, r16)]) rfl (S183 (Nat.le_trans (by decide) hd) 111 102 0 0 0 0 h _ q32) ?_
    obtain rfl := Option.some.inj e
    exact zF_rl (by decide +kernel)
  rcases zI_s e with ⟨q33, e⟩ | ⟨q33, e⟩
  · refine zF_blk (m := []) (d := 16) (b := B182_1) (gs := [v0 = 16]) (c' := (319, [some (0, v0)], [], (hc, h, o))) K182_1 rfl ⟨q33, trivial⟩ ?_
    obtain ⟨r17, q34, e⟩ := zB_s e
    refine zF_blk (m := []) (d := 0) (b := B182_17) (gs := []) (c' := (327, [some (0, v0)], [(0, 0), (0, 0), (0, 0), (0, 0), (0, 121), (0, 98)], (hc, h, o))) K182_17 rfl trivial ?_
    refine zF_call (k := 183) (cl := 12) (n := 6) (i := .invokestatic 134) (args := [(0, 98), (0, 121), (0, 0), (0, 0), (0, 0), (0, 0)]) (rest := []) (g1 := (hc, h, o)) (r1 := some (1, r17)) (by decide +kernel) rfl rfl rfl (st' := [(1, r17)]) rfl (S183 (Nat.le_trans (by decide) hd) 98 121 0 0 0 0 h _ q34) ?_
    obtain rfl := Option.some.inj e
    exact zF_rl (by decide +kernel)
  rcases zI_s e with ⟨q35, e⟩ | ⟨q35, e⟩
  · refine zF_blk (m := []) (d := 17) (b := B182_1) (gs := [v0 = 17]) (c' := (331, [some (0, v0)], [], (hc, h, o))) K182_1 rfl ⟨q35, trivial⟩ ?_
    obtain ⟨r18, q36, e⟩ := zB_s e
    refine zF_blk (m := []) (d := 0) (b := B182_18) (gs := []) (c' := (342, [some (0, v0)], [(0, 0), (0, 104), (0, 116), (0, 114), (0, 111), (0, 119)], (hc, h, o))) K182_18 rfl trivial ?_
    refine zF_call (k := 183) (cl := 12) (n := 6) (i := .invokestatic 134) (args := [(0, 119), (0, 111), (0, 114), (0, 116), (0, 104), (0, 0)]) (rest := []) (g1 := (hc, h, o)) (r1 := some (1, r18)) (by decide +kernel) rfl rfl rfl (st' := [(1, r18)]) rfl (S183 (Nat.le_trans (by decide) hd) 119 111 114 116 104 0 h _ q36) ?_
    obtain rfl := Option.some.inj e
    exact zF_rl (by decide +kernel)
  rcases zI_s e with ⟨q37, e⟩ | ⟨q37, e⟩
  · refine zF_blk (m := []) (d := 18) (b := B182_1) (gs := [v0 = 18]) (c' := (346, [some (0, v0)], [], (hc, h, o))) K182_1 rfl ⟨q37, trivial⟩ ?_
    obtain ⟨r19, q38, e⟩ := zB_s e
    refine zF_blk (m := []) (d := 0) (b := B182_19) (gs := []) (c' := (356, [some (0, v0)], [(0, 0), (0, 0), (0, 100), (0, 117), (0, 111), (0, 108)], (hc, h, o))) K182_19 rfl trivial ?_
    refine zF_call (k := 183) (cl := 12) (n := 6) (i := .invokestatic 134) (args := [(0, 108), (0, 111), (0, 117), (0, 100), (0, 0), (0, 0)]) (rest := []) (g1 := (hc, h, o)) (r1 := some (1, r19)) (by decide +kernel) rfl rfl rfl (st' := [(1, r19)]) rfl (S183 (Nat.le_trans (by decide) hd) 108 111 117 100 0 0 h _ q38) ?_
    obtain rfl := Option.some.inj e
    exact zF_rl (by decide +kernel)
  rcases zI_s e with ⟨q39, e⟩ | ⟨q39, e⟩
  · refine zF_blk (m := []) (d := 19) (b := B182_1) (gs := [v0 = 19]) (c' := (360, [some (0, v0)], [], (hc, h, o))) K182_1 rfl ⟨q39, trivial⟩ ?_
    obtain ⟨r20, q40, e⟩ := zB_s e
    refine zF_blk (m := []) (d := 0) (b := B182_20) (gs := []) (c' := (370, [some (0, v0)], [(0, 0), (0, 0), (0, 114), (0, 117), (0, 111), (0, 104)], (hc, h, o))) K182_20 rfl trivial ?_
    refine zF_call (k := 183) (cl := 12) (n := 6) (i := .invokestatic 134) (args := [(0, 104), (0, 111), (0, 117), (0, 114), (0, 0), (0, 0)]) (rest := []) (g1 := (hc, h, o)) (r1 := some (1, r20)) (by decide +kernel) rfl rfl rfl (st' := [(1, r20)]) rfl (S183 (Nat.le_trans (by decide) hd) 104 111 117 114 0 0 h _ q40) ?_
    obtain rfl := Option.some.inj e
    exact zF_rl (by decide +kernel)
  obtain ⟨q42, e⟩ := zG_s e
  refine zF_blk (m := []) (d := 20) (b := B182_1) (gs := [v0 < 0 ∨ 19 < v0]) (c' := (374, [some (0, v0)], [], (hc, h, o))) K182_1 rfl ⟨q42, trivial⟩ ?_
  obtain ⟨r21, q41, e⟩ := zB_s e
  refine zF_blk (m := []) (d := 0) (b := B182_21) (gs := []) (c' := (386, [some (0, v0)], [(0, 115), (0, 101), (0, 111), (0, 104), (0, 99), (0, 101)], (hc, h, o))) K182_21 rfl trivial ?_
  refine zF_call (k := 183) (cl := 12) (n := 6) (i := .invokestatic 134) (args := [(0, 101), (0, 99), (0, 104), (0, 111), (0, 101), (0, 115)]) (rest := []) (g1 := (hc, h, o)) (r1 := some (1, r21)) (by decide +kernel) rfl rfl rfl (st' := [(1, r21)]) rfl (S183 (Nat.le_trans (by decide) hd) 101 99 104 111 101 115 h _ q41) ?_
  obtain rfl := Option.some.inj e
  exact zF_rl (by decide +kernel)
