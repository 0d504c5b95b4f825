/-! Functions of the methods, by wip/gen/lift.py. -/
noncomputable def B61_0 : List zRow := [(19, .iconst 0, 1, (0, 0, 0))]
theorem K61_0 : zRk 61 B61_0 = true := zRw_ok (by decide +kernel)
noncomputable def B61_1 : List zRow := [(15, .iconst 1, 1, (0, 0, 0)), (16, .goto 4, 3, (0, 0, 0))]
theorem K61_1 : zRk 61 B61_1 = true := zRw_ok (by decide +kernel)
noncomputable def B61_2 : List zRow := [(4, .iload_n 1, 1, (0, 0, 0)), (5, .aload_n 0, 1, (0, 0, 0)), (6, .getfield 19, 3, (11, 1, 39)), (9, .getfield 311, 3, (9, 3, 0)), (12, .if_icmp .ge 7, 3, (0, 0, 0))]
theorem K61_2 : zRk 61 B61_2 = true := zRw_ok (by decide +kernel)
noncomputable def B61_3 : List zRow := [(0, .iload_n 1, 1, (0, 0, 0)), (1, .ifCond .lt 18, 3, (0, 0, 0))]
theorem K61_3 : zRk 61 B61_3 = true := zRw_ok (by decide +kernel)
/-- EchoVale.isPerson(I)Z -/
def F61 (v1 : Int) (h : zHC) : Option Int := if v1 < 0 then some 0 else if (h 579 0 0) ≤ v1 then some 0 else some 1
set_option maxRecDepth 100000 in
theorem S61 {spec : zRn zH2} {hm : zHM} {o : Int → Int} {d : Nat} (hd : 1 ≤ d) (v1 : Int) (h : zHC) (v : Int) (e : F61 v1 h = some v) : zRu2 spec d 61 [(21, 0), (0, v1)] (h, hm, o) (some (0, v)) (h, hm, o) := by
  refine zF_in (D := 0) (mx := 2) (L := [some (21, 0), some (0, v1)]) (by decide +kernel) rfl rfl hd (fun d hd => ?_)
  unfold F61 at e
  rcases zI_s e with ⟨q1, e⟩ | ⟨q1, e⟩
  · refine zF_blk (m := []) (d := 1) (b := B61_3) (gs := [v1 < 0]) (c' := (19, [some (21, 0), some (0, v1)], [], (h, hm, o))) K61_3 rfl ⟨q1, trivial⟩ ?_
    refine zF_blk (m := []) (d := 0) (b := B61_0) (gs := []) (c' := (20, [some (21, 0), some (0, v1)], [(0, 0)], (h, hm, o))) K61_0 rfl trivial ?_
    obtain rfl := Option.some.inj e
    exact zF_rb (zRe1_w (by decide +kernel)) (Or.inl rfl)
  · refine zF_blk (m := []) (d := 0) (b := B61_3) (gs := [¬ (v1 < 0)]) (c' := (4, [some (21, 0), some (0, v1)], [], (h, hm, o))) K61_3 rfl ⟨q1, trivial⟩ ?_
    rcases zI_s e with ⟨q2, e⟩ | ⟨q2, e⟩
    · refine zF_blk (m := []) (d := 1) (b := B61_2) (gs := [(h 579 0 0) ≤ v1]) (c' := (19, [some (21, 0), some (0, v1)], [], (h, hm, o))) K61_2 rfl ⟨q2, trivial⟩ ?_
      refine zF_blk (m := []) (d := 0) (b := B61_0) (gs := []) (c' := (20, [some (21, 0), some (0, v1)], [(0, 0)], (h, hm, o))) K61_0 rfl trivial ?_
      obtain rfl := Option.some.inj e
      exact zF_rb (zRe1_w (by decide +kernel)) (Or.inl rfl)
    · refine zF_blk (m := []) (d := 0) (b := B61_2) (gs := [¬ ((h 579 0 0) ≤ v1)]) (c' := (15, [some (21, 0), some (0, v1)], [], (h, hm, o))) K61_2 rfl ⟨q2, trivial⟩ ?_
      refine zF_blk (m := []) (d := 0) (b := B61_1) (gs := []) (c' := (20, [some (21, 0), some (0, v1)], [(0, 1)], (h, hm, o))) K61_1 rfl trivial ?_
      obtain rfl := Option.some.inj e
      exact zF_rb (zRe1_w (by decide +kernel)) (Or.inr rfl)
noncomputable def B63_0 : List zRow := [(0, .aload_n 0, 1, (0, 0, 0)), (1, .getfield 21, 3, (1, 6, 5243842)), (4, .iload_n 1, 1, (0, 0, 0)), (5, .bipush 8, 2, (0, 0, 0)), (7, .imul, 1, (0, 0, 0)), (8, .iload_n 2, 1, (0, 0, 0)), (9, .iadd, 1, (0, 0, 0)), (10, .iaload, 1, (0, 0, 0))]
theorem K63_0 : zRk 63 B63_0 = true := zRw_ok (by decide +kernel)
/-- EchoVale$Course.fact(II)I -/
def F63 (v0 : Int) (v1 : Int) (v2 : Int) (h : zHC) : Option Int := zG (0 ≤ (wadd (wmul v1 8) v2) ∧ (wadd (wmul v1 8) v2) < 240) (some (h 70 v0 (wadd (wmul v1 8) v2)))
set_option maxRecDepth 100000 in
theorem S63 {spec : zRn zH2} {hm : zHM} {o : Int → Int} {d : Nat} (hd : 1 ≤ d) (v0 : Int) (v1 : Int) (v2 : Int) (h : zHC) (v : Int) (e : F63 v0 v1 v2 h = some v) : zRu2 spec d 63 [(11, v0), (0, v1), (0, v2)] (h, hm, o) (some (0, v)) (h, hm, o) := by
  refine zF_in (D := 0) (mx := 3) (L := [some (11, v0), some (0, v1), some (0, v2)]) (by decide +kernel) rfl rfl hd (fun d hd => ?_)
  unfold F63 at e
  obtain ⟨q1, e⟩ := zG_s e
  refine zF_blk (m := []) (d := 0) (b := B63_0) (gs := [0 ≤ (wadd (wmul v1 8) v2) ∧ (wadd (wmul v1 8) v2) < 240]) (c' := (11, [some (11, v0), some (0, v1), some (0, v2)], [(0, (h 70 v0 (wadd (wmul v1 8) v2)))], (h, hm, o))) K63_0 rfl ⟨q1, trivial⟩ ?_
  obtain rfl := Option.some.inj e
  exact zF_ri (zRe1_w (by decide +kernel))
noncomputable def B64_0 : List zRow := [(0, .iload_n 0, 1, (0, 0, 0)), (1, .iload_n 0, 1, (0, 0, 0)), (2, .iconst 1, 1, (0, 0, 0)), (3, .iushr, 1, (0, 0, 0)), (4, .ldc_w 265, 3, (0, 0, 1431655765)), (7, .iand, 1, (0, 0, 0)), (8, .isub, 1, (0, 0, 0)), (9, .istore_n 0, 1, (0, 0, 0)), (10, .iload_n 0, 1, (0, 0, 0)), (11, .ldc_w 266, 3, (0, 0, 858993459)), (14, .iand, 1, (0, 0, 0)), (15, .iload_n 0, 1, (0, 0, 0)), (16, .iconst 2, 1, (0, 0, 0)), (17, .iushr, 1, (0, 0, 0)), (18, .ldc_w 266, 3, (0, 0, 858993459)), (21, .iand, 1, (0, 0, 0)), (22, .iadd, 1, (0, 0, 0)), (23, .istore_n 0, 1, (0, 0, 0)), (24, .iload_n 0, 1, (0, 0, 0)), (25, .iload_n 0, 1, (0, 0, 0)), (26, .iconst 4, 1, (0, 0, 0)), (27, .iushr, 1, (0, 0, 0)), (28, .iadd, 1, (0, 0, 0)), (29, .ldc_w 267, 3, (0, 0, 252645135)), (32, .iand, 1, (0, 0, 0)), (33, .istore_n 0, 1, (0, 0, 0)), (34, .iload_n 0, 1, (0, 0, 0)), (35, .iload_n 0, 1, (0, 0, 0)), (36, .bipush 8, 2, (0, 0, 0)), (38, .iushr, 1, (0, 0, 0)), (39, .iadd, 1, (0, 0, 0)), (40, .istore_n 0, 1, (0, 0, 0)), (41, .iload_n 0, 1, (0, 0, 0)), (42, .iload_n 0, 1, (0, 0, 0)), (43, .bipush 16, 2, (0, 0, 0)), (45, .iushr, 1, (0, 0, 0)), (46, .iadd, 1, (0, 0, 0)), (47, .istore_n 0, 1, (0, 0, 0)), (48, .iload_n 0, 1, (0, 0, 0)), (49, .bipush 63, 2, (0, 0, 0)), (51, .iand, 1, (0, 0, 0))]
theorem K64_0 : zRk 64 B64_0 = true := zRw_ok (by decide +kernel)
/-- java/lang/Integer.bitCount(I)I -/
def F64 (v0 : Int) : Option Int := some (wand (wadd (wadd (wand (wadd (wadd (wand (wsub v0 (wand (wushr v0 1) 1431655765)) 858993459) (wand (wushr (wsub v0 (wand (wushr v0 1) 1431655765)) 2) 858993459)) (wushr (wadd (wand (wsub v0 (wand (wushr v0 1) 1431655765)) 858993459) (wand (wushr (wsub v0 (wand (wushr v0 1) 1431655765)) 2) 858993459)) 4)) 252645135) (wushr (wand (wadd (wadd (wand (wsub v0 (wand (wushr v0 1) 1431655765)) 858993459) (wand (wushr (wsub v0 (wand (wushr v0 1) 1431655765)) 2) 858993459)) (wushr (wadd (wand (wsub v0 (wand (wushr v0 1) 1431655765)) 858993459) (wand (wushr (wsub v0 (wand (wushr v0 1) 1431655765)) 2) 858993459)) 4)) 252645135) 8)) (wushr (wadd (wand (wadd (wadd (wand (wsub v0 (wand (wushr v0 1) 1431655765)) 858993459) (wand (wushr (wsub v0 (wand (wushr v0 1) 1431655765)) 2) 858993459)) (wushr (wadd (wand (wsub v0 (wand (wushr v0 1) 1431655765)) 858993459) (wand (wushr (wsub v0 (wand (wushr v0 1) 1431655765)) 2) 858993459)) 4)) 252645135) (wushr (wand (wadd (wadd (wand (wsub v0 (wand (wushr v0 1) 1431655765)) 858993459) (wand (wushr (wsub v0 (wand (wushr v0 1) 1431655765)) 2) 858993459)) (wushr (wadd (wand (wsub v0 (wand (wushr v0 1) 1431655765)) 858993459) (wand (wushr (wsub v0 (wand (wushr v0 1) 1431655765)) 2) 858993459)) 4)) 252645135) 8)) 16)) 63)
set_option maxRecDepth 100000 in
theorem S64 {spec : zRn zH2} {hm : zHM} {o : Int → Int} {d : Nat} (hd : 1 ≤ d) (v0 : Int) (h : zHC) (v : Int) (e : F64 v0 = some v) : zRu2 spec d 64 [(0, v0)] (h, hm, o) (some (0, v)) (h, hm, o) := by
  refine zF_in (D := 0) (mx := 1) (L := [some (0, v0)]) (by decide +kernel) rfl rfl hd (fun d hd => ?_)
  unfold F64 at e
  refine zF_blk (m := []) (d := 0) (b := B64_0) (gs := []) (c' := (52, [some (0, (wadd (wadd (wand (wadd (wadd (wand (wsub v0 (wand (wushr v0 1) 1431655765)) 858993459) (wand (wushr (wsub v0 (wand (wushr v0 1) 1431655765)) 2) 858993459)) (wushr (wadd (wand (wsub v0 (wand (wushr v0 1) 1431655765)) 858993459) (wand (wushr (wsub v0 (wand (wushr v0 1) 1431655765)) 2) 858993459)) 4)) 252645135) (wushr (wand (wadd (wadd (wand (wsub v0 (wand (wushr v0 1) 1431655765)) 858993459) (wand (wushr (wsub v0 (wand (wushr v0 1) 1431655765)) 2) 858993459)) (wushr (wadd (wand (wsub v0 (wand (wushr v0 1) 1431655765)) 858993459) (wand (wushr (wsub v0 (wand (wushr v0 1) 1431655765)) 2) 858993459)) 4)) 252645135) 8)) (wushr (wadd (wand (wadd (wadd (wand (wsub v0 (wand (wushr v0 1) 1431655765)) 858993459) (wand (wushr (wsub v0 (wand (wushr v0 1) 1431655765)) 2) 858993459)) (wushr (wadd (wand (wsub v0 (wand (wushr v0 1) 1431655765)) 858993459) (wand (wushr (wsub v0 (wand (wushr v0 1) 1431655765)) 2) 858993459)) 4)) 252645135) (wushr (wand (wadd (wadd (wand (wsub v0 (wand (wushr v0 1) 1431655765)) 858993459) (wand (wushr (wsub v0 (wand (wushr v0 1) 1431655765)) 2) 858993459)) (wushr (wadd (wand (wsub v0 (wand (wushr v0 1) 1431655765)) 858993459) (wand (wushr (wsub v0 (wand (wushr v0 1) 1431655765)) 2) 858993459)) 4)) 252645135) 8)) 16)))], [(0, (wand (wadd (wadd (wand (wadd (wadd (wand (wsub v0 (wand (wushr v0 1) 1431655765)) 858993459) (wand (wushr (wsub v0 (wand (wushr v0 1) 1431655765)) 2) 858993459)) (wushr (wadd (wand (wsub v0 (wand (wushr v0 1) 1431655765)) 858993459) (wand (wushr (wsub v0 (wand (wushr v0 1) 1431655765)) 2) 858993459)) 4)) 252645135) (wushr (wand (wadd (wadd (wand (wsub v0 (wand (wushr v0 1) 1431655765)) 858993459) (wand (wushr (wsub v0 (wand (wushr v0 1) 1431655765)) 2) 858993459)) (wushr (wadd (wand (wsub v0 (wand (wushr v0 1) 1431655765)) 858993459) (wand (wushr (wsub v0 (wand (wushr v0 1) 1431655765)) 2) 858993459)) 4)) 252645135) 8)) (wushr (wadd (wand (wadd (wadd (wand (wsub v0 (wand (wushr v0 1) 1431655765)) 858993459) (wand (wushr (wsub v0 (wand (wushr v0 1) 1431655765)) 2) 858993459)) (wushr (wadd (wand (wsub v0 (wand (wushr v0 1) 1431655765)) 858993459) (wand (wushr (wsub v0 (wand (wushr v0 1) 1431655765)) 2) 858993459)) 4)) 252645135) (wushr (wand (wadd (wadd (wand (wsub v0 (wand (wushr v0 1) 1431655765)) 858993459) (wand (wushr (wsub v0 (wand (wushr v0 1) 1431655765)) 2) 858993459)) (wushr (wadd (wand (wsub v0 (wand (wushr v0 1) 1431655765)) 858993459) (wand (wushr (wsub v0 (wand (wushr v0 1) 1431655765)) 2) 858993459)) 4)) 252645135) 8)) 16)) 63))], (h, hm, o))) K64_0 rfl trivial ?_
  obtain rfl := Option.some.inj e
  exact zF_ri (zRe1_w (by decide +kernel))
noncomputable def B65_0 : List zRow := [(13, .iconst 0, 1, (0, 0, 0))]
theorem K65_0 : zRk 65 B65_0 = true := zRw_ok (by decide +kernel)
noncomputable def B65_1 : List zRow := [(9, .iconst 1, 1, (0, 0, 0)), (10, .goto 4, 3, (0, 0, 0))]
theorem K65_1 : zRk 65 B65_1 = true := zRw_ok (by decide +kernel)
noncomputable def B65_2 : List zRow := [(0, .iload_n 0, 1, (0, 0, 0)), (1, .iload_n 1, 1, (0, 0, 0)), (2, .ishr, 1, (0, 0, 0)), (3, .iconst 1, 1, (0, 0, 0)), (4, .iand, 1, (0, 0, 0)), (5, .iconst 1, 1, (0, 0, 0)), (6, .if_icmp .ne 7, 3, (0, 0, 0))]
theorem K65_2 : zRk 65 B65_2 = true := zRw_ok (by decide +kernel)
/-- EchoVale.hasBit(II)Z -/
def F65 (v0 : Int) (v1 : Int) : Option Int := if ¬ (wand (wshr v0 v1) 1) = 1 then some 0 else some 1
set_option maxRecDepth 100000 in
theorem S65 {spec : zRn zH2} {hm : zHM} {o : Int → Int} {d : Nat} (hd : 1 ≤ d) (v0 : Int) (v1 : Int) (h : zHC) (v : Int) (e : F65 v0 v1 = some v) : zRu2 spec d 65 [(0, v0), (0, v1)] (h, hm, o) (some (0, v)) (h, hm, o) := by
  refine zF_in (D := 0) (mx := 2) (L := [some (0, v0), some (0, v1)]) (by decide +kernel) rfl rfl hd (fun d hd => ?_)
  unfold F65 at e
  rcases zI_s e with ⟨q1, e⟩ | ⟨q1, e⟩
  · refine zF_blk (m := []) (d := 1) (b := B65_2) (gs := [¬ (wand (wshr v0 v1) 1) = 1]) (c' := (13, [some (0, v0), some (0, v1)], [], (h, hm, o))) K65_2 rfl ⟨q1, trivial⟩ ?_
    refine zF_blk (m := []) (d := 0) (b := B65_0) (gs := []) (c' := (14, [some (0, v0), some (0, v1)], [(0, 0)], (h, hm, o))) K65_0 rfl trivial ?_
    obtain rfl := Option.some.inj e
    exact zF_rb (zRe1_w (by decide +kernel)) (Or.inl rfl)
  · refine zF_blk (m := []) (d := 0) (b := B65_2) (gs := [¬ (¬ (wand (wshr v0 v1) 1) = 1)]) (c' := (9, [some (0, v0), some (0, v1)], [], (h, hm, o))) K65_2 rfl ⟨q1, trivial⟩ ?_
    refine zF_blk (m := []) (d := 0) (b := B65_1) (gs := []) (c' := (14, [some (0, v0), some (0, v1)], [(0, 1)], (h, hm, o))) K65_1 rfl trivial ?_
    obtain rfl := Option.some.inj e
    exact zF_rb (zRe1_w (by decide +kernel)) (Or.inr rfl)
noncomputable def B62_0 : List zRow := [(0, .aload_n 0, 1, (0, 0, 0)), (1, .iload_n 2, 1, (0, 0, 0)), (2, .iconst 5, 1, (0, 0, 0))]
theorem K62_0 : zRk 62 B62_0 = true := zRw_ok (by decide +kernel)
noncomputable def B62_1 : List zRow := [(6, .istore_n 3, 1, (0, 0, 0)), (7, .iload_n 3, 1, (0, 0, 0))]
theorem K62_1 : zRk 62 B62_1 = true := zRw_ok (by decide +kernel)
noncomputable def B62_2 : List zRow := [(26, .iconst 0, 1, (0, 0, 0))]
theorem K62_2 : zRk 62 B62_2 = true := zRw_ok (by decide +kernel)
noncomputable def B62_3 : List zRow := [(18, .iload_n 3, 1, (0, 0, 0)), (19, .iload_n 1, 1, (0, 0, 0))]
theorem K62_3 : zRk 62 B62_3 = true := zRw_ok (by decide +kernel)
noncomputable def B62_4 : List zRow := [(28, .iload_n 3, 1, (0, 0, 0)), (29, .iconst 1, 1, (0, 0, 0)), (30, .iload_n 1, 1, (0, 0, 0)), (31, .ishl, 1, (0, 0, 0)), (32, .iconst 1, 1, (0, 0, 0)), (33, .isub, 1, (0, 0, 0)), (34, .iand, 1, (0, 0, 0))]
theorem K62_4 : zRk 62 B62_4 = true := zRw_ok (by decide +kernel)
noncomputable def B62_5 : List zRow := [(38, .istore 5, 2, (0, 0, 0)), (40, .aload_n 0, 1, (0, 0, 0)), (41, .iload_n 2, 1, (0, 0, 0)), (42, .iconst 0, 1, (0, 0, 0))]
theorem K62_5 : zRk 62 B62_5 = true := zRw_ok (by decide +kernel)
noncomputable def B62_6 : List zRow := [(67, .iconst 0, 1, (0, 0, 0))]
theorem K62_6 : zRk 62 B62_6 = true := zRw_ok (by decide +kernel)
noncomputable def B62_7 : List zRow := [(63, .iconst 1, 1, (0, 0, 0)), (64, .goto 4, 3, (0, 0, 0))]
theorem K62_7 : zRk 62 B62_7 = true := zRw_ok (by decide +kernel)
noncomputable def B62_8 : List zRow := [(46, .istore 6, 2, (0, 0, 0)), (48, .iload 6, 2, (0, 0, 0)), (50, .iload 4, 2, (0, 0, 0)), (52, .idiv, 1, (0, 0, 0)), (53, .iload 5, 2, (0, 0, 0)), (55, .iload 6, 2, (0, 0, 0)), (57, .iload 4, 2, (0, 0, 0)), (59, .irem, 1, (0, 0, 0)), (60, .if_icmp .ge 7, 3, (0, 0, 0))]
theorem K62_8 : zRk 62 B62_8 = true := zRw_ok (by decide +kernel)
noncomputable def B62_9 : List zRow := [(23, .ifCond .ne 5, 3, (0, 0, 0))]
theorem K62_9 : zRk 62 B62_9 = true := zRw_ok (by decide +kernel)
noncomputable def B62_10 : List zRow := [(11, .istore 4, 2, (0, 0, 0)), (13, .iload 4, 2, (0, 0, 0)), (15, .ifCond .eq 11, 3, (0, 0, 0))]
theorem K62_10 : zRk 62 B62_10 = true := zRw_ok (by decide +kernel)
noncomputable def B62_11 : List zRow := [(68, .iadd, 1, (0, 0, 0))]
theorem K62_11 : zRk 62 B62_11 = true := zRw_ok (by decide +kernel)
def F62_0 (h : zHC) (s0 : Int) (s1 : Int) : Option Int := some (wadd s1 s0)
set_option maxRecDepth 100000 in
theorem T62_0 {spec : zRn zH2} {hm : zHM} {o : Int → Int} {d : Nat} (hd : 1 ≤ d) (h : zHC) (s0 : Int) (s1 : Int) (v : Int) (e : F62_0 h s0 s1 = some v) : zFin 0 (fun _ => 0) (zRu2 spec d) 62 (some (0, v)) (h, hm, o) (68, [none, none, none, none, none, none, none], [(0, s0), (0, s1)], (h, hm, o)) := by
  unfold F62_0 at e
  refine zF_blk (m := []) (d := 0) (b := B62_11) (gs := []) (c' := (69, [none, none, none, none, none, none, none], [(0, (wadd s1 s0))], (h, hm, o))) K62_11 rfl trivial ?_
  obtain rfl := Option.some.inj e
  exact zF_ri (zRe1_w (by decide +kernel))
/-- EchoVale$Course.shareOf(II)I -/
def F62 (v0 : Int) (v1 : Int) (v2 : Int) (h : zHC) : Option Int := (F63 v0 v2 5 h).bind fun r1 => (F64 r1).bind fun r2 => if r2 = 0 then some 0 else (F65 r1 v1).bind fun r3 => if ¬ r3 = 0 then (F64 (wand r1 (wsub (wshl 1 v1) 1))).bind fun r4 => (F63 v0 v2 0 h).bind fun r5 => zG (¬ r2 = 0) (zG (¬ r2 = 0) (if (wrem r5 r2) ≤ r4 then F62_0 h 0 (wdiv r5 r2) else F62_0 h 1 (wdiv r5 r2))) else some 0
set_option maxRecDepth 100000 in
theorem S62 {spec : zRn zH2} {hm : zHM} {o : Int → Int} {d : Nat} (hd : 2 ≤ d) (v0 : Int) (v1 : Int) (v2 : Int) (h : zHC) (v : Int) (e : F62 v0 v1 v2 h = some v) : zRu2 spec d 62 [(11, v0), (0, v1), (0, v2)] (h, hm, o) (some (0, v)) (h, hm, o) := by
  refine zF_in (D := 1) (mx := 7) (L := [some (11, v0), some (0, v1), some (0, v2), none, none, none, none]) (by decide +kernel) rfl rfl hd (fun d hd => ?_)
  unfold F62 at e
  obtain ⟨r1, q1, e⟩ := zB_s e
  refine zF_blk (m := []) (d := 0) (b := B62_0) (gs := []) (c' := (3, [some (11, v0), some (0, v1), some (0, v2), none, none, none, none], [(0, 5), (0, v2), (11, v0)], (h, hm, o))) K62_0 rfl trivial ?_
  refine zF_call (k := 63) (cl := 1) (n := 3) (i := .invokevirtual 138) (args := [(11, v0), (0, v2), (0, 5)]) (rest := []) (g1 := (h, hm, o)) (r1 := some (0, r1)) (zCk1_w (by decide +kernel)) rfl rfl rfl (st' := [(0, r1)]) rfl (S63 (Nat.le_trans (by decide) hd) v0 v2 5 h _ q1) ?_
  obtain ⟨r2, q2, e⟩ := zB_s e
  refine zF_blk (m := []) (d := 0) (b := B62_1) (gs := []) (c' := (8, [some (11, v0), some (0, v1), some (0, v2), some (0, r1), none, none, none], [(0, r1)], (h, hm, o))) K62_1 rfl trivial ?_
  refine zF_call (k := 64) (cl := 13) (n := 1) (i := .invokestatic 141) (args := [(0, r1)]) (rest := []) (g1 := (h, hm, o)) (r1 := some (0, r2)) (zCk1_w (by decide +kernel)) rfl rfl rfl (st' := [(0, r2)]) rfl (S64 (Nat.le_trans (by decide) hd) r1 h _ q2) ?_
  rcases zI_s e with ⟨q3, e⟩ | ⟨q3, e⟩
  · refine zF_blk (m := []) (d := 1) (b := B62_10) (gs := [r2 = 0]) (c' := (26, [some (11, v0), some (0, v1), some (0, v2), some (0, r1), some (0, r2), none, none], [], (h, hm, o))) K62_10 rfl ⟨q3, trivial⟩ ?_
    refine zF_blk (m := []) (d := 0) (b := B62_2) (gs := []) (c' := (27, [some (11, v0), some (0, v1), some (0, v2), some (0, r1), some (0, r2), none, none], [(0, 0)], (h, hm, o))) K62_2 rfl trivial ?_
    obtain rfl := Option.some.inj e
    exact zF_ri (zRe1_w (by decide +kernel))
  · refine zF_blk (m := []) (d := 0) (b := B62_10) (gs := [¬ (r2 = 0)]) (c' := (18, [some (11, v0), some (0, v1), some (0, v2), some (0, r1), some (0, r2), none, none], [], (h, hm, o))) K62_10 rfl ⟨q3, trivial⟩ ?_
    obtain ⟨r3, q4, e⟩ := zB_s e
    refine zF_blk (m := []) (d := 0) (b := B62_3) (gs := []) (c' := (20, [some (11, v0), some (0, v1), some (0, v2), some (0, r1), some (0, r2), none, none], [(0, v1), (0, r1)], (h, hm, o))) K62_3 rfl trivial ?_
    refine zF_call (k := 65) (cl := 11) (n := 2) (i := .invokestatic 146) (args := [(0, r1), (0, v1)]) (rest := []) (g1 := (h, hm, o)) (r1 := some (0, r3)) (zCk1_w (by decide +kernel)) rfl rfl rfl (st' := [(0, r3)]) rfl (S65 (Nat.le_trans (by decide) hd) r1 v1 h _ q4) ?_
    rcases zI_s e with ⟨q5, e⟩ | ⟨q5, e⟩
    · refine zF_blk (m := []) (d := 1) (b := B62_9) (gs := [¬ r3 = 0]) (c' := (28, [some (11, v0), some (0, v1), some (0, v2), some (0, r1), some (0, r2), none, none], [], (h, hm, o))) K62_9 rfl ⟨q5, trivial⟩ ?_
      obtain ⟨r4, q6, e⟩ := zB_s e
      refine zF_blk (m := []) (d := 0) (b := B62_4) (gs := []) (c' := (35, [some (11, v0), some (0, v1), some (0, v2), some (0, r1), some (0, r2), none, none], [(0, (wand r1 (wsub (wshl 1 v1) 1)))], (h, hm, o))) K62_4 rfl trivial ?_
      refine zF_call (k := 64) (cl := 13) (n := 1) (i := .invokestatic 141) (args := [(0, (wand r1 (wsub (wshl 1 v1) 1)))]) (rest := []) (g1 := (h, hm, o)) (r1 := some (0, r4)) (zCk1_w (by decide +kernel)) rfl rfl rfl (st' := [(0, r4)]) rfl (S64 (Nat.le_trans (by decide) hd) (wand r1 (wsub (wshl 1 v1) 1)) h _ q6) ?_
      obtain ⟨r5, q7, e⟩ := zB_s e
      refine zF_blk (m := []) (d := 0) (b := B62_5) (gs := []) (c' := (43, [some (11, v0), some (0, v1), some (0, v2), some (0, r1), some (0, r2), some (0, r4), none], [(0, 0), (0, v2), (11, v0)], (h, hm, o))) K62_5 rfl trivial ?_
      refine zF_call (k := 63) (cl := 1) (n := 3) (i := .invokevirtual 138) (args := [(11, v0), (0, v2), (0, 0)]) (rest := []) (g1 := (h, hm, o)) (r1 := some (0, r5)) (zCk1_w (by decide +kernel)) rfl rfl rfl (st' := [(0, r5)]) rfl (S63 (Nat.le_trans (by decide) hd) v0 v2 0 h _ q7) ?_
      obtain ⟨q8, e⟩ := zG_s e
      obtain ⟨q8, e⟩ := zG_s e
      rcases zI_s e with ⟨q9, e⟩ | ⟨q9, e⟩
      · refine zF_blk (m := []) (d := 1) (b := B62_8) (gs := [¬ r2 = 0, ¬ r2 = 0, (wrem r5 r2) ≤ r4]) (c' := (67, [some (11, v0), some (0, v1), some (0, v2), some (0, r1), some (0, r2), some (0, r4), some (0, r5)], [(0, (wdiv r5 r2))], (h, hm, o))) K62_8 rfl ⟨q8, q8, q9, trivial⟩ ?_
        refine zF_blk (m := []) (d := 0) (b := B62_6) (gs := []) (c' := (68, [some (11, v0), some (0, v1), some (0, v2), some (0, r1), some (0, r2), some (0, r4), some (0, r5)], [(0, 0), (0, (wdiv r5 r2))], (h, hm, o))) K62_6 rfl trivial ?_
        refine zF_blk (m := [false, false, false, false, false, false, false]) (d := 0) (b := []) (gs := []) (c' := (68, [none, none, none, none, none, none, none], [(0, 0), (0, (wdiv r5 r2))], (h, hm, o))) rfl rfl trivial ?_
        exact T62_0 hd h 0 (wdiv r5 r2) _ e
      · refine zF_blk (m := []) (d := 0) (b := B62_8) (gs := [¬ r2 = 0, ¬ r2 = 0, ¬ ((wrem r5 r2) ≤ r4)]) (c' := (63, [some (11, v0), some (0, v1), some (0, v2), some (0, r1), some (0, r2), some (0, r4), some (0, r5)], [(0, (wdiv r5 r2))], (h, hm, o))) K62_8 rfl ⟨q8, q8, q9, trivial⟩ ?_
        refine zF_blk (m := []) (d := 0) (b := B62_7) (gs := []) (c' := (68, [some (11, v0), some (0, v1), some (0, v2), some (0, r1), some (0, r2), some (0, r4), some (0, r5)], [(0, 1), (0, (wdiv r5 r2))], (h, hm, o))) K62_7 rfl trivial ?_
        refine zF_blk (m := [false, false, false, false, false, false, false]) (d := 0) (b := []) (gs := []) (c' := (68, [none, none, none, none, none, none, none], [(0, 1), (0, (wdiv r5 r2))], (h, hm, o))) rfl rfl trivial ?_
        exact T62_0 hd h 1 (wdiv r5 r2) _ e
    · refine zF_blk (m := []) (d := 0) (b := B62_9) (gs := [¬ (¬ r3 = 0)]) (c' := (26, [some (11, v0), some (0, v1), some (0, v2), some (0, r1), some (0, r2), none, none], [], (h, hm, o))) K62_9 rfl ⟨q5, trivial⟩ ?_
      refine zF_blk (m := []) (d := 0) (b := B62_2) (gs := []) (c' := (27, [some (11, v0), some (0, v1), some (0, v2), some (0, r1), some (0, r2), none, none], [(0, 0)], (h, hm, o))) K62_2 rfl trivial ?_
      obtain rfl := Option.some.inj e
      exact zF_ri (zRe1_w (by decide +kernel))
noncomputable def B60_0 : List zRow := [(0, .aload_n 0, 1, (0, 0, 0)), (1, .iload_n 1, 1, (0, 0, 0))]
theorem K60_0 : zRk 60 B60_0 = true := zRw_ok (by decide +kernel)
noncomputable def B60_1 : List zRow := [(28, .iconst (-1), 1, (0, 0, 0))]
theorem K60_1 : zRk 60 B60_1 = true := zRw_ok (by decide +kernel)
noncomputable def B60_2 : List zRow := [(8, .aload_n 0, 1, (0, 0, 0)), (9, .iload_n 2, 1, (0, 0, 0))]
theorem K60_2 : zRk 60 B60_2 = true := zRw_ok (by decide +kernel)
noncomputable def B60_3 : List zRow := [(16, .aload_n 0, 1, (0, 0, 0)), (17, .getfield 56, 3, (11, 6, 7)), (20, .iload_n 1, 1, (0, 0, 0)), (21, .iload_n 2, 1, (0, 0, 0))]
theorem K60_3 : zRk 60 B60_3 = true := zRw_ok (by decide +kernel)
noncomputable def B60_4 : List zRow := [(25, .goto 4, 3, (0, 0, 0))]
theorem K60_4 : zRk 60 B60_4 = true := zRw_ok (by decide +kernel)
noncomputable def B60_5 : List zRow := [(13, .ifCond .eq 15, 3, (0, 0, 0))]
theorem K60_5 : zRk 60 B60_5 = true := zRw_ok (by decide +kernel)
noncomputable def B60_6 : List zRow := [(5, .ifCond .eq 23, 3, (0, 0, 0))]
theorem K60_6 : zRk 60 B60_6 = true := zRw_ok (by decide +kernel)
/-- EchoVale.share(II)I -/
def F60 (v1 : Int) (v2 : Int) (h : zHC) : Option Int := (F61 v1 h).bind fun r1 => if r1 = 0 then some (-1) else (F58 v2 h).bind fun r2 => if r2 = 0 then some (-1) else (F62 0 v1 v2 h).bind fun r3 => some r3
set_option maxRecDepth 100000 in
theorem S60 {spec : zRn zH2} {hm : zHM} {o : Int → Int} {d : Nat} (hd : 3 ≤ d) (v1 : Int) (v2 : Int) (h : zHC) (v : Int) (e : F60 v1 v2 h = some v) : zRu2 spec d 60 [(21, 0), (0, v1), (0, v2)] (h, hm, o) (some (0, v)) (h, hm, o) := by
  refine zF_in (D := 2) (mx := 3) (L := [some (21, 0), some (0, v1), some (0, v2)]) (by decide +kernel) rfl rfl hd (fun d hd => ?_)
  unfold F60 at e
  obtain ⟨r1, q1, e⟩ := zB_s e
  refine zF_blk (m := []) (d := 0) (b := B60_0) (gs := []) (c' := (2, [some (21, 0), some (0, v1), some (0, v2)], [(0, v1), (21, 0)], (h, hm, o))) K60_0 rfl trivial ?_
  refine zF_call (k := 61) (cl := 11) (n := 2) (i := .invokevirtual 172) (args := [(21, 0), (0, v1)]) (rest := []) (g1 := (h, hm, o)) (r1 := some (0, r1)) (zCk1_w (by decide +kernel)) rfl rfl rfl (st' := [(0, r1)]) rfl (S61 (Nat.le_trans (by decide) hd) v1 h _ q1) ?_
  rcases zI_s e with ⟨q2, e⟩ | ⟨q2, e⟩
  · refine zF_blk (m := []) (d := 1) (b := B60_6) (gs := [r1 = 0]) (c' := (28, [some (21, 0), some (0, v1), some (0, v2)], [], (h, hm, o))) K60_6 rfl ⟨q2, trivial⟩ ?_
    refine zF_blk (m := []) (d := 0) (b := B60_1) (gs := []) (c' := (29, [some (21, 0), some (0, v1), some (0, v2)], [(0, (-1))], (h, hm, o))) K60_1 rfl trivial ?_
    obtain rfl := Option.some.inj e
    exact zF_ri (zRe1_w (by decide +kernel))
  · refine zF_blk (m := []) (d := 0) (b := B60_6) (gs := [¬ (r1 = 0)]) (c' := (8, [some (21, 0), some (0, v1), some (0, v2)], [], (h, hm, o))) K60_6 rfl ⟨q2, trivial⟩ ?_
    obtain ⟨r2, q3, e⟩ := zB_s e
    refine zF_blk (m := []) (d := 0) (b := B60_2) (gs := []) (c' := (10, [some (21, 0), some (0, v1), some (0, v2)], [(0, v2), (21, 0)], (h, hm, o))) K60_2 rfl trivial ?_
    refine zF_call (k := 58) (cl := 11) (n := 2) (i := .invokevirtual 191) (args := [(21, 0), (0, v2)]) (rest := []) (g1 := (h, hm, o)) (r1 := some (0, r2)) (zCk1_w (by decide +kernel)) rfl rfl rfl (st' := [(0, r2)]) rfl (S58 (Nat.le_trans (by decide) hd) v2 h _ q3) ?_
    rcases zI_s e with ⟨q4, e⟩ | ⟨q4, e⟩
    · refine zF_blk (m := []) (d := 1) (b := B60_5) (gs := [r2 = 0]) (c' := (28, [some (21, 0), some (0, v1), some (0, v2)], [], (h, hm, o))) K60_5 rfl ⟨q4, trivial⟩ ?_
      refine zF_blk (m := []) (d := 0) (b := B60_1) (gs := []) (c' := (29, [some (21, 0), some (0, v1), some (0, v2)], [(0, (-1))], (h, hm, o))) K60_1 rfl trivial ?_
      obtain rfl := Option.some.inj e
      exact zF_ri (zRe1_w (by decide +kernel))
    · refine zF_blk (m := []) (d := 0) (b := B60_5) (gs := [¬ (r2 = 0)]) (c' := (16, [some (21, 0), some (0, v1), some (0, v2)], [], (h, hm, o))) K60_5 rfl ⟨q4, trivial⟩ ?_
      obtain ⟨r3, q5, e⟩ := zB_s e
      refine zF_blk (m := []) (d := 0) (b := B60_3) (gs := []) (c' := (22, [some (21, 0), some (0, v1), some (0, v2)], [(0, v2), (0, v1), (11, 0)], (h, hm, o))) K60_3 rfl trivial ?_
      refine zF_call (k := 62) (cl := 1) (n := 3) (i := .invokevirtual 205) (args := [(11, 0), (0, v1), (0, v2)]) (rest := []) (g1 := (h, hm, o)) (r1 := some (0, r3)) (zCk1_w (by decide +kernel)) rfl rfl rfl (st' := [(0, r3)]) rfl (S62 (Nat.le_trans (by decide) hd) 0 v1 v2 h _ q5) ?_
      refine zF_blk (m := []) (d := 0) (b := B60_4) (gs := []) (c' := (29, [some (21, 0), some (0, v1), some (0, v2)], [(0, r3)], (h, hm, o))) K60_4 rfl trivial ?_
      obtain rfl := Option.some.inj e
      exact zF_ri (zRe1_w (by decide +kernel))
noncomputable def B220_0 : List zRow := [(0, .aload_n 0, 1, (0, 0, 0)), (1, .iconst 0, 1, (0, 0, 0)), (2, .putfield 81, 3, (12, 0, 0)), (5, .aload_n 0, 1, (0, 0, 0)), (6, .iload_n 1, 1, (0, 0, 0))]
theorem K220_0 : zRk 220 B220_0 = true := zRw_ok (by decide +kernel)
noncomputable def B220_1 : List zRow := [(30, .iconst (-1), 1, (0, 0, 0))]
theorem K220_1 : zRk 220 B220_1 = true := zRw_ok (by decide +kernel)
noncomputable def B220_2 : List zRow := [(13, .aload_n 0, 1, (0, 0, 0)), (14, .iload_n 2, 1, (0, 0, 0))]
theorem K220_2 : zRk 220 B220_2 = true := zRw_ok (by decide +kernel)
noncomputable def B220_3 : List zRow := [(21, .aload_n 0, 1, (0, 0, 0)), (22, .iload_n 1, 1, (0, 0, 0)), (23, .iload_n 2, 1, (0, 0, 0))]
theorem K220_3 : zRk 220 B220_3 = true := zRw_ok (by decide +kernel)
noncomputable def B220_4 : List zRow := [(27, .goto 4, 3, (0, 0, 0))]
theorem K220_4 : zRk 220 B220_4 = true := zRw_ok (by decide +kernel)
noncomputable def B220_5 : List zRow := [(18, .ifCond .eq 12, 3, (0, 0, 0))]
theorem K220_5 : zRk 220 B220_5 = true := zRw_ok (by decide +kernel)
noncomputable def B220_6 : List zRow := [(10, .ifCond .eq 20, 3, (0, 0, 0))]
theorem K220_6 : zRk 220 B220_6 = true := zRw_ok (by decide +kernel)
/-- EchoValeModel.share(II)I -/
def F220 (v1 : Int) (v2 : Int) (h : zHM) : Option (Int × zHM) := (F210 v1 (mset h 0 0 0)).bind fun r1 => if r1 = 0 then some ((-1), (mset h 0 0 0)) else (F217 v2 (mset h 0 0 0)).bind fun r2 => if r2 = 0 then some ((-1), (mset h 0 0 0)) else (F212 v1 v2 (mset h 0 0 0)).bind fun r3 => some (r3, (mset h 0 0 0))
set_option maxRecDepth 100000 in
theorem S220 {spec : zRn zH2} {hc : zHC} {o : Int → Int} {d : Nat} (hd : 3 ≤ d) (v1 : Int) (v2 : Int) (h : zHM) (v : (Int × zHM)) (e : F220 v1 v2 h = some v) : zRu2 spec d 220 [(22, 0), (0, v1), (0, v2)] (hc, h, o) (some (0, v.1)) (hc, v.2, o) := by
  refine zF_in (D := 2) (mx := 3) (L := [some (22, 0), some (0, v1), some (0, v2)]) (by decide +kernel) rfl rfl hd (fun d hd => ?_)
  unfold F220 at e
  obtain ⟨r1, q1, e⟩ := zB_s e
  refine zF_blk (m := []) (d := 0) (b := B220_0) (gs := []) (c' := (7, [some (22, 0), some (0, v1), some (0, v2)], [(0, v1), (22, 0)], (hc, (mset h 0 0 0), o))) K220_0 rfl trivial ?_
  refine zF_call (k := 210) (cl := 12) (n := 2) (i := .invokevirtual 260) (args := [(22, 0), (0, v1)]) (rest := []) (g1 := (hc, (mset h 0 0 0), o)) (r1 := some (0, r1)) (zCk1_w (by decide +kernel)) rfl rfl rfl (st' := [(0, r1)]) rfl (S210 (Nat.le_trans (by decide) hd) v1 (mset h 0 0 0) _ q1) ?_
  rcases zI_s e with ⟨q2, e⟩ | ⟨q2, e⟩
  · refine zF_blk (m := []) (d := 1) (b := B220_6) (gs := [r1 = 0]) (c' := (30, [some (22, 0), some (0, v1), some (0, v2)], [], (hc, (mset h 0 0 0), o))) K220_6 rfl ⟨q2, trivial⟩ ?_
    refine zF_blk (m := []) (d := 0) (b := B220_1) (gs := []) (c' := (31, [some (22, 0), some (0, v1), some (0, v2)], [(0, (-1))], (hc, (mset h 0 0 0), o))) K220_1 rfl trivial ?_
    exact zF_riM (zRe1_w (by decide +kernel)) e
  · refine zF_blk (m := []) (d := 0) (b := B220_6) (gs := [¬ (r1 = 0)]) (c' := (13, [some (22, 0), some (0, v1), some (0, v2)], [], (hc, (mset h 0 0 0), o))) K220_6 rfl ⟨q2, trivial⟩ ?_
    obtain ⟨r2, q3, e⟩ := zB_s e
    refine zF_blk (m := []) (d := 0) (b := B220_2) (gs := []) (c' := (15, [some (22, 0), some (0, v1), some (0, v2)], [(0, v2), (22, 0)], (hc, (mset h 0 0 0), o))) K220_2 rfl trivial ?_
    refine zF_call (k := 217) (cl := 12) (n := 2) (i := .invokevirtual 266) (args := [(22, 0), (0, v2)]) (rest := []) (g1 := (hc, (mset h 0 0 0), o)) (r1 := some (0, r2)) (zCk1_w (by decide +kernel)) rfl rfl rfl (st' := [(0, r2)]) rfl (S217 (Nat.le_trans (by decide) hd) v2 (mset h 0 0 0) _ q3) ?_
    rcases zI_s e with ⟨q4, e⟩ | ⟨q4, e⟩
    · refine zF_blk (m := []) (d := 1) (b := B220_5) (gs := [r2 = 0]) (c' := (30, [some (22, 0), some (0, v1), some (0, v2)], [], (hc, (mset h 0 0 0), o))) K220_5 rfl ⟨q4, trivial⟩ ?_
      refine zF_blk (m := []) (d := 0) (b := B220_1) (gs := []) (c' := (31, [some (22, 0), some (0, v1), some (0, v2)], [(0, (-1))], (hc, (mset h 0 0 0), o))) K220_1 rfl trivial ?_
      exact zF_riM (zRe1_w (by decide +kernel)) e
    · refine zF_blk (m := []) (d := 0) (b := B220_5) (gs := [¬ (r2 = 0)]) (c' := (21, [some (22, 0), some (0, v1), some (0, v2)], [], (hc, (mset h 0 0 0), o))) K220_5 rfl ⟨q4, trivial⟩ ?_
      obtain ⟨r3, q5, e⟩ := zB_s e
      refine zF_blk (m := []) (d := 0) (b := B220_3) (gs := []) (c' := (24, [some (22, 0), some (0, v1), some (0, v2)], [(0, v2), (0, v1), (22, 0)], (hc, (mset h 0 0 0), o))) K220_3 rfl trivial ?_
      refine zF_call (k := 212) (cl := 12) (n := 3) (i := .invokevirtual 257) (args := [(22, 0), (0, v1), (0, v2)]) (rest := []) (g1 := (hc, (mset h 0 0 0), o)) (r1 := some (0, r3)) (zCk1_w (by decide +kernel)) rfl rfl rfl (st' := [(0, r3)]) rfl (S212 (Nat.le_trans (by decide) hd) v1 v2 (mset h 0 0 0) _ q5) ?_
      refine zF_blk (m := []) (d := 0) (b := B220_4) (gs := []) (c' := (31, [some (22, 0), some (0, v1), some (0, v2)], [(0, r3)], (hc, (mset h 0 0 0), o))) K220_4 rfl trivial ?_
      exact zF_riM (zRe1_w (by decide +kernel)) e
noncomputable def B67_0 : List zRow := [(0, .aload_n 0, 1, (0, 0, 0)), (1, .getfield 24, 3, (1, 7, 5246482)), (4, .iload_n 1, 1, (0, 0, 0)), (5, .iconst 5, 1, (0, 0, 0)), (6, .imul, 1, (0, 0, 0)), (7, .iload_n 2, 1, (0, 0, 0)), (8, .iadd, 1, (0, 0, 0)), (9, .iaload, 1, (0, 0, 0))]
theorem K67_0 : zRk 67 B67_0 = true := zRw_ok (by decide +kernel)
/-- EchoVale$Course.logged(II)I -/
def F67 (v0 : Int) (v1 : Int) (v2 : Int) (h : zHC) : Option Int := zG (0 ≤ (wadd (wmul v1 5) v2) ∧ (wadd (wmul v1 5) v2) < 900) (some (h 71 v0 (wadd (wmul v1 5) v2)))
set_option maxRecDepth 100000 in
theorem S67 {spec : zRn zH2} {hm : zHM} {o : Int → Int} {d : Nat} (hd : 1 ≤ d) (v0 : Int) (v1 : Int) (v2 : Int) (h : zHC) (v : Int) (e : F67 v0 v1 v2 h = some v) : zRu2 spec d 67 [(11, v0), (0, v1), (0, v2)] (h, hm, o) (some (0, v)) (h, hm, o) := by
  refine zF_in (D := 0) (mx := 3) (L := [some (11, v0), some (0, v1), some (0, v2)]) (by decide +kernel) rfl rfl hd (fun d hd => ?_)
  unfold F67 at e
  obtain ⟨q1, e⟩ := zG_s e
  refine zF_blk (m := []) (d := 0) (b := B67_0) (gs := [0 ≤ (wadd (wmul v1 5) v2) ∧ (wadd (wmul v1 5) v2) < 900]) (c' := (10, [some (11, v0), some (0, v1), some (0, v2)], [(0, (h 71 v0 (wadd (wmul v1 5) v2)))], (h, hm, o))) K67_0 rfl ⟨q1, trivial⟩ ?_
  obtain rfl := Option.some.inj e
  exact zF_ri (zRe1_w (by decide +kernel))
noncomputable def B66_0 : List zRow := [(24, .iconst (-1), 1, (0, 0, 0))]
theorem K66_0 : zRk 66 B66_0 = true := zRw_ok (by decide +kernel)
noncomputable def B66_1 : List zRow := [(26, .aload_n 0, 1, (0, 0, 0)), (27, .getfield 56, 3, (11, 6, 7)), (30, .iload_n 1, 1, (0, 0, 0)), (31, .iload_n 2, 1, (0, 0, 0))]
theorem K66_1 : zRk 66 B66_1 = true := zRw_ok (by decide +kernel)
noncomputable def B66_2 : List zRow := [(19, .iload_n 2, 1, (0, 0, 0)), (20, .iconst 5, 1, (0, 0, 0)), (21, .if_icmp .lt 5, 3, (0, 0, 0))]
theorem K66_2 : zRk 66 B66_2 = true := zRw_ok (by decide +kernel)
noncomputable def B66_3 : List zRow := [(15, .iload_n 2, 1, (0, 0, 0)), (16, .ifCond .lt 8, 3, (0, 0, 0))]
theorem K66_3 : zRk 66 B66_3 = true := zRw_ok (by decide +kernel)
noncomputable def B66_4 : List zRow := [(4, .iload_n 1, 1, (0, 0, 0)), (5, .aload_n 0, 1, (0, 0, 0)), (6, .getfield 56, 3, (11, 6, 7)), (9, .getfield 208, 3, (1, 2, 0)), (12, .if_icmp .ge 12, 3, (0, 0, 0))]
theorem K66_4 : zRk 66 B66_4 = true := zRw_ok (by decide +kernel)
noncomputable def B66_5 : List zRow := [(0, .iload_n 1, 1, (0, 0, 0)), (1, .ifCond .lt 23, 3, (0, 0, 0))]
theorem K66_5 : zRk 66 B66_5 = true := zRw_ok (by decide +kernel)
/-- EchoVale.sounded(II)I -/
def F66 (v1 : Int) (v2 : Int) (h : zHC) : Option Int := if v1 < 0 then some (-1) else if (h 66 0 0) ≤ v1 then some (-1) else if v2 < 0 then some (-1) else if v2 < 5 then (F67 0 v1 v2 h).bind fun r1 => some r1 else some (-1)
set_option maxRecDepth 100000 in
theorem S66 {spec : zRn zH2} {hm : zHM} {o : Int → Int} {d : Nat} (hd : 2 ≤ d) (v1 : Int) (v2 : Int) (h : zHC) (v : Int) (e : F66 v1 v2 h = some v) : zRu2 spec d 66 [(21, 0), (0, v1), (0, v2)] (h, hm, o) (some (0, v)) (h, hm, o) := by
  refine zF_in (D := 1) (mx := 3) (L := [some (21, 0), some (0, v1), some (0, v2)]) (by decide +kernel) rfl rfl hd (fun d hd => ?_)
  unfold F66 at e
  rcases zI_s e with ⟨q1, e⟩ | ⟨q1, e⟩
  · refine zF_blk (m := []) (d := 1) (b := B66_5) (gs := [v1 < 0]) (c' := (24, [some (21, 0), some (0, v1), some (0, v2)], [], (h, hm, o))) K66_5 rfl ⟨q1, trivial⟩ ?_
    refine zF_blk (m := []) (d := 0) (b := B66_0) (gs := []) (c' := (25, [some (21, 0), some (0, v1), some (0, v2)], [(0, (-1))], (h, hm, o))) K66_0 rfl trivial ?_
    obtain rfl := Option.some.inj e
    exact zF_ri (zRe1_w (by decide +kernel))
  · refine zF_blk (m := []) (d := 0) (b := B66_5) (gs := [¬ (v1 < 0)]) (c' := (4, [some (21, 0), some (0, v1), some (0, v2)], [], (h, hm, o))) K66_5 rfl ⟨q1, trivial⟩ ?_
    rcases zI_s e with ⟨q2, e⟩ | ⟨q2, e⟩
    · refine zF_blk (m := []) (d := 1) (b := B66_4) (gs := [(h 66 0 0) ≤ v1]) (c' := (24, [some (21, 0), some (0, v1), some (0, v2)], [], (h, hm, o))) K66_4 rfl ⟨q2, trivial⟩ ?_
      refine zF_blk (m := []) (d := 0) (b := B66_0) (gs := []) (c' := (25, [some (21, 0), some (0, v1), some (0, v2)], [(0, (-1))], (h, hm, o))) K66_0 rfl trivial ?_
      obtain rfl := Option.some.inj e
      exact zF_ri (zRe1_w (by decide +kernel))
    · refine zF_blk (m := []) (d := 0) (b := B66_4) (gs := [¬ ((h 66 0 0) ≤ v1)]) (c' := (15, [some (21, 0), some (0, v1), some (0, v2)], [], (h, hm, o))) K66_4 rfl ⟨q2, trivial⟩ ?_
      rcases zI_s e with ⟨q3, e⟩ | ⟨q3, e⟩
      · refine zF_blk (m := []) (d := 1) (b := B66_3) (gs := [v2 < 0]) (c' := (24, [some (21, 0), some (0, v1), some (0, v2)], [], (h, hm, o))) K66_3 rfl ⟨q3, trivial⟩ ?_
        refine zF_blk (m := []) (d := 0) (b := B66_0) (gs := []) (c' := (25, [some (21, 0), some (0, v1), some (0, v2)], [(0, (-1))], (h, hm, o))) K66_0 rfl trivial ?_
        obtain rfl := Option.some.inj e
        exact zF_ri (zRe1_w (by decide +kernel))
      · refine zF_blk (m := []) (d := 0) (b := B66_3) (gs := [¬ (v2 < 0)]) (c' := (19, [some (21, 0), some (0, v1), some (0, v2)], [], (h, hm, o))) K66_3 rfl ⟨q3, trivial⟩ ?_
        rcases zI_s e with ⟨q4, e⟩ | ⟨q4, e⟩
        · refine zF_blk (m := []) (d := 1) (b := B66_2) (gs := [v2 < 5]) (c' := (26, [some (21, 0), some (0, v1), some (0, v2)], [], (h, hm, o))) K66_2 rfl ⟨q4, trivial⟩ ?_
          obtain ⟨r1, q5, e⟩ := zB_s e
          refine zF_blk (m := []) (d := 0) (b := B66_1) (gs := []) (c' := (32, [some (21, 0), some (0, v1), some (0, v2)], [(0, v2), (0, v1), (11, 0)], (h, hm, o))) K66_1 rfl trivial ?_
          refine zF_call (k := 67) (cl := 1) (n := 3) (i := .invokevirtual 211) (args := [(11, 0), (0, v1), (0, v2)]) (rest := []) (g1 := (h, hm, o)) (r1 := some (0, r1)) (zCk1_w (by decide +kernel)) rfl rfl rfl (st' := [(0, r1)]) rfl (S67 (Nat.le_trans (by decide) hd) 0 v1 v2 h _ q5) ?_
          obtain rfl := Option.some.inj e
          exact zF_ri (zRe1_w (by decide +kernel))
        · refine zF_blk (m := []) (d := 0) (b := B66_2) (gs := [¬ (v2 < 5)]) (c' := (24, [some (21, 0), some (0, v1), some (0, v2)], [], (h, hm, o))) K66_2 rfl ⟨q4, trivial⟩ ?_
          refine zF_blk (m := []) (d := 0) (b := B66_0) (gs := []) (c' := (25, [some (21, 0), some (0, v1), some (0, v2)], [(0, (-1))], (h, hm, o))) K66_0 rfl trivial ?_
          obtain rfl := Option.some.inj e
          exact zF_ri (zRe1_w (by decide +kernel))
noncomputable def B221_0 : List zRow := [(47, .iconst (-1), 1, (0, 0, 0))]
theorem K221_0 : zRk 221 B221_0 = true := zRw_ok (by decide +kernel)
noncomputable def B221_1 : List zRow := [(21, .iload_n 2, 1, (0, 0, 0)), (22, .iconst 0, 1, (0, 0, 0)), (23, .iconst 4, 1, (0, 0, 0))]
theorem K221_1 : zRk 221 B221_1 = true := zRw_ok (by decide +kernel)
noncomputable def B221_2 : List zRow := [(30, .aload_n 0, 1, (0, 0, 0)), (31, .getfield 13, 3, (12, 14, 5251442)), (34, .sipush 998, 3, (0, 0, 0)), (37, .iconst 5, 1, (0, 0, 0)), (38, .iload_n 1, 1, (0, 0, 0))]
theorem K221_2 : zRk 221 B221_2 = true := zRw_ok (by decide +kernel)
noncomputable def B221_3 : List zRow := [(39, .imul, 1, (0, 0, 0))]
theorem K221_3 : zRk 221 B221_3 = true := zRw_ok (by decide +kernel)
noncomputable def B221_4 : List zRow := [(40, .iadd, 1, (0, 0, 0)), (41, .iload_n 2, 1, (0, 0, 0)), (42, .iadd, 1, (0, 0, 0)), (43, .iaload, 1, (0, 0, 0)), (44, .goto 4, 3, (0, 0, 0))]
theorem K221_4 : zRk 221 B221_4 = true := zRw_ok (by decide +kernel)
noncomputable def B221_5 : List zRow := [(27, .ifCond .eq 20, 3, (0, 0, 0))]
theorem K221_5 : zRk 221 B221_5 = true := zRw_ok (by decide +kernel)
noncomputable def B221_6 : List zRow := [(9, .iload_n 1, 1, (0, 0, 0)), (10, .aload_n 0, 1, (0, 0, 0)), (11, .getfield 13, 3, (12, 14, 5251442)), (14, .sipush 997, 3, (0, 0, 0)), (17, .iaload, 1, (0, 0, 0)), (18, .if_icmp .ge 29, 3, (0, 0, 0))]
theorem K221_6 : zRk 221 B221_6 = true := zRw_ok (by decide +kernel)
noncomputable def B221_7 : List zRow := [(0, .aload_n 0, 1, (0, 0, 0)), (1, .iconst 0, 1, (0, 0, 0)), (2, .putfield 81, 3, (12, 0, 0)), (5, .iload_n 1, 1, (0, 0, 0)), (6, .ifCond .lt 41, 3, (0, 0, 0))]
theorem K221_7 : zRk 221 B221_7 = true := zRw_ok (by decide +kernel)
/-- EchoValeModel.sounded(II)I -/
def F221 (v1 : Int) (v2 : Int) (h : zHM) : Option (Int × zHM) := if v1 < 0 then some ((-1), (mset h 0 0 0)) else if (h 14 997) ≤ v1 then some ((-1), (mset h 0 0 0)) else (F188 v2 0 4).bind fun r1 => if r1 = 0 then some ((-1), (mset h 0 0 0)) else zG (0 ≤ (wadd (wadd 998 (wmul 5 v1)) v2) ∧ (wadd (wadd 998 (wmul 5 v1)) v2) < 2140) (some ((h 14 (wadd (wadd 998 (wmul 5 v1)) v2)), (mset h 0 0 0)))
set_option maxRecDepth 100000 in
theorem S221 {spec : zRn zH2} {hc : zHC} {o : Int → Int} {d : Nat} (hd : 2 ≤ d) (v1 : Int) (v2 : Int) (h : zHM) (v : (Int × zHM)) (e : F221 v1 v2 h = some v) : zRu2 spec d 221 [(22, 0), (0, v1), (0, v2)] (hc, h, o) (some (0, v.1)) (hc, v.2, o) := by
  refine zF_in (D := 1) (mx := 3) (L := [some (22, 0), some (0, v1), some (0, v2)]) (by decide +kernel) rfl rfl hd (fun d hd => ?_)
  unfold F221 at e
  rcases zI_s e with ⟨q1, e⟩ | ⟨q1, e⟩
  · refine zF_blk (m := []) (d := 1) (b := B221_7) (gs := [v1 < 0]) (c' := (47, [some (22, 0), some (0, v1), some (0, v2)], [], (hc, (mset h 0 0 0), o))) K221_7 rfl ⟨q1, trivial⟩ ?_
    refine zF_blk (m := []) (d := 0) (b := B221_0) (gs := []) (c' := (48, [some (22, 0), some (0, v1), some (0, v2)], [(0, (-1))], (hc, (mset h 0 0 0), o))) K221_0 rfl trivial ?_
    exact zF_riM (zRe1_w (by decide +kernel)) e
  · refine zF_blk (m := []) (d := 0) (b := B221_7) (gs := [¬ (v1 < 0)]) (c' := (9, [some (22, 0), some (0, v1), some (0, v2)], [], (hc, (mset h 0 0 0), o))) K221_7 rfl ⟨q1, trivial⟩ ?_
    rcases zI_s e with ⟨q2, e⟩ | ⟨q2, e⟩
    · refine zF_blk (m := []) (d := 1) (b := B221_6) (gs := [0 ≤ 997 ∧ 997 < 2140, (h 14 997) ≤ v1]) (c' := (47, [some (22, 0), some (0, v1), some (0, v2)], [], (hc, (mset h 0 0 0), o))) K221_6 rfl ⟨by decide, q2, trivial⟩ ?_
      refine zF_blk (m := []) (d := 0) (b := B221_0) (gs := []) (c' := (48, [some (22, 0), some (0, v1), some (0, v2)], [(0, (-1))], (hc, (mset h 0 0 0), o))) K221_0 rfl trivial ?_
      exact zF_riM (zRe1_w (by decide +kernel)) e
    · refine zF_blk (m := []) (d := 0) (b := B221_6) (gs := [0 ≤ 997 ∧ 997 < 2140, ¬ ((h 14 997) ≤ v1)]) (c' := (21, [some (22, 0), some (0, v1), some (0, v2)], [], (hc, (mset h 0 0 0), o))) K221_6 rfl ⟨by decide, q2, trivial⟩ ?_
      obtain ⟨r1, q3, e⟩ := zB_s e
      refine zF_blk (m := []) (d := 0) (b := B221_1) (gs := []) (c' := (24, [some (22, 0), some (0, v1), some (0, v2)], [(0, 4), (0, 0), (0, v2)], (hc, (mset h 0 0 0), o))) K221_1 rfl trivial ?_
      refine zF_call (k := 188) (cl := 12) (n := 3) (i := .invokestatic 151) (args := [(0, v2), (0, 0), (0, 4)]) (rest := []) (g1 := (hc, (mset h 0 0 0), o)) (r1 := some (0, r1)) (zCk1_w (by decide +kernel)) rfl rfl rfl (st' := [(0, r1)]) rfl (S188 (Nat.le_trans (by decide) hd) v2 0 4 (mset h 0 0 0) _ q3) ?_
      rcases zI_s e with ⟨q4, e⟩ | ⟨q4, e⟩
      · refine zF_blk (m := []) (d := 1) (b := B221_5) (gs := [r1 = 0]) (c' := (47, [some (22, 0), some (0, v1), some (0, v2)], [], (hc, (mset h 0 0 0), o))) K221_5 rfl ⟨q4, trivial⟩ ?_
        refine zF_blk (m := []) (d := 0) (b := B221_0) (gs := []) (c' := (48, [some (22, 0), some (0, v1), some (0, v2)], [(0, (-1))], (hc, (mset h 0 0 0), o))) K221_0 rfl trivial ?_
        exact zF_riM (zRe1_w (by decide +kernel)) e
      · refine zF_blk (m := []) (d := 0) (b := B221_5) (gs := [¬ (r1 = 0)]) (c' := (30, [some (22, 0), some (0, v1), some (0, v2)], [], (hc, (mset h 0 0 0), o))) K221_5 rfl ⟨q4, trivial⟩ ?_
        obtain ⟨q5, e⟩ := zG_s e
        refine zF_blk (m := []) (d := 0) (b := B221_2) (gs := []) (c' := (39, [some (22, 0), some (0, v1), some (0, v2)], [(0, v1), (0, 5), (0, 998), (1344370422, 0)], (hc, (mset h 0 0 0), o))) K221_2 rfl trivial ?_
        refine zF_blk (m := []) (d := 0) (b := B221_3) (gs := []) (c' := (40, [some (22, 0), some (0, v1), some (0, v2)], [(0, (wmul 5 v1)), (0, 998), (1344370422, 0)], (hc, (mset h 0 0 0), o))) K221_3 rfl trivial ?_
        refine zF_blk (m := []) (d := 0) (b := B221_4) (gs := [0 ≤ (wadd (wadd 998 (wmul 5 v1)) v2) ∧ (wadd (wadd 998 (wmul 5 v1)) v2) < 2140]) (c' := (48, [some (22, 0), some (0, v1), some (0, v2)], [(0, (h 14 (wadd (wadd 998 (wmul 5 v1)) v2)))], (hc, (mset h 0 0 0), o))) K221_4 rfl ⟨q5, trivial⟩ ?_
        exact zF_riM (zRe1_w (by decide +kernel)) e
noncomputable def B69_0 : List zRow := [(30, .iconst 0, 1, (0, 0, 0))]
theorem K69_0 : zRk 69 B69_0 = true := zRw_ok (by decide +kernel)
noncomputable def B69_1 : List zRow := [(26, .iconst 1, 1, (0, 0, 0)), (27, .goto 4, 3, (0, 0, 0))]
theorem K69_1 : zRk 69 B69_1 = true := zRw_ok (by decide +kernel)
noncomputable def B69_2 : List zRow := [(15, .iload_n 1, 1, (0, 0, 0)), (16, .bipush 10, 2, (0, 0, 0)), (18, .irem, 1, (0, 0, 0)), (19, .aload_n 0, 1, (0, 0, 0)), (20, .getfield 52, 3, (9, 0, 0)), (23, .if_icmp .ge 7, 3, (0, 0, 0))]
theorem K69_2 : zRk 69 B69_2 = true := zRw_ok (by decide +kernel)
noncomputable def B69_3 : List zRow := [(4, .iload_n 1, 1, (0, 0, 0)), (5, .bipush 10, 2, (0, 0, 0)), (7, .idiv, 1, (0, 0, 0)), (8, .aload_n 0, 1, (0, 0, 0)), (9, .getfield 56, 3, (9, 1, 0)), (12, .if_icmp .ge 18, 3, (0, 0, 0))]
theorem K69_3 : zRk 69 B69_3 = true := zRw_ok (by decide +kernel)
noncomputable def B69_4 : List zRow := [(0, .iload_n 1, 1, (0, 0, 0)), (1, .ifCond .lt 29, 3, (0, 0, 0))]
theorem K69_4 : zRk 69 B69_4 = true := zRw_ok (by decide +kernel)
/-- EchoVale$Valley.isCell(I)Z -/
def F69 (v0 : Int) (v1 : Int) (h : zHC) : Option Int := if v1 < 0 then some 0 else if (h 577 v0 0) ≤ (wdiv v1 10) then some 0 else if (h 576 v0 0) ≤ (wrem v1 10) then some 0 else some 1
set_option maxRecDepth 100000 in
theorem S69 {spec : zRn zH2} {hm : zHM} {o : Int → Int} {d : Nat} (hd : 1 ≤ d) (v0 : Int) (v1 : Int) (h : zHC) (v : Int) (e : F69 v0 v1 h = some v) : zRu2 spec d 69 [(19, v0), (0, v1)] (h, hm, o) (some (0, v)) (h, hm, o) := by
  refine zF_in (D := 0) (mx := 2) (L := [some (19, v0), some (0, v1)]) (by decide +kernel) rfl rfl hd (fun d hd => ?_)
  unfold F69 at e
  rcases zI_s e with ⟨q1, e⟩ | ⟨q1, e⟩
  · refine zF_blk (m := []) (d := 1) (b := B69_4) (gs := [v1 < 0]) (c' := (30, [some (19, v0), some (0, v1)], [], (h, hm, o))) K69_4 rfl ⟨q1, trivial⟩ ?_
    refine zF_blk (m := []) (d := 0) (b := B69_0) (gs := []) (c' := (31, [some (19, v0), some (0, v1)], [(0, 0)], (h, hm, o))) K69_0 rfl trivial ?_
    obtain rfl := Option.some.inj e
    exact zF_rb (zRe1_w (by decide +kernel)) (Or.inl rfl)
  · refine zF_blk (m := []) (d := 0) (b := B69_4) (gs := [¬ (v1 < 0)]) (c' := (4, [some (19, v0), some (0, v1)], [], (h, hm, o))) K69_4 rfl ⟨q1, trivial⟩ ?_
    rcases zI_s e with ⟨q2, e⟩ | ⟨q2, e⟩
    · refine zF_blk (m := []) (d := 1) (b := B69_3) (gs := [¬ 10 = 0, (h 577 v0 0) ≤ (wdiv v1 10)]) (c' := (30, [some (19, v0), some (0, v1)], [], (h, hm, o))) K69_3 rfl ⟨by decide, q2, trivial⟩ ?_
      refine zF_blk (m := []) (d := 0) (b := B69_0) (gs := []) (c' := (31, [some (19, v0), some (0, v1)], [(0, 0)], (h, hm, o))) K69_0 rfl trivial ?_
      obtain rfl := Option.some.inj e
      exact zF_rb (zRe1_w (by decide +kernel)) (Or.inl rfl)
    · refine zF_blk (m := []) (d := 0) (b := B69_3) (gs := [¬ 10 = 0, ¬ ((h 577 v0 0) ≤ (wdiv v1 10))]) (c' := (15, [some (19, v0), some (0, v1)], [], (h, hm, o))) K69_3 rfl ⟨by decide, q2, trivial⟩ ?_
      rcases zI_s e with ⟨q3, e⟩ | ⟨q3, e⟩
      · refine zF_blk (m := []) (d := 1) (b := B69_2) (gs := [¬ 10 = 0, (h 576 v0 0) ≤ (wrem v1 10)]) (c' := (30, [some (19, v0), some (0, v1)], [], (h, hm, o))) K69_2 rfl ⟨by decide, q3, trivial⟩ ?_
        refine zF_blk (m := []) (d := 0) (b := B69_0) (gs := []) (c' := (31, [some (19, v0), some (0, v1)], [(0, 0)], (h, hm, o))) K69_0 rfl trivial ?_
        obtain rfl := Option.some.inj e
        exact zF_rb (zRe1_w (by decide +kernel)) (Or.inl rfl)
      · refine zF_blk (m := []) (d := 0) (b := B69_2) (gs := [¬ 10 = 0, ¬ ((h 576 v0 0) ≤ (wrem v1 10))]) (c' := (26, [some (19, v0), some (0, v1)], [], (h, hm, o))) K69_2 rfl ⟨by decide, q3, trivial⟩ ?_
        refine zF_blk (m := []) (d := 0) (b := B69_1) (gs := []) (c' := (31, [some (19, v0), some (0, v1)], [(0, 1)], (h, hm, o))) K69_1 rfl trivial ?_
        obtain rfl := Option.some.inj e
        exact zF_rb (zRe1_w (by decide +kernel)) (Or.inr rfl)
noncomputable def B72_0 : List zRow := [(0, .aload_n 0, 1, (0, 0, 0)), (1, .aload_n 1, 1, (0, 0, 0)), (2, .getfield 30, 3, (1, 0, 0)), (5, .putfield 30, 3, (1, 0, 0)), (8, .aload_n 0, 1, (0, 0, 0)), (9, .iconst 0, 1, (0, 0, 0)), (10, .putfield 34, 3, (1, 1, 0)), (13, .aload_n 0, 1, (0, 0, 0)), (14, .iconst 0, 1, (0, 0, 0)), (15, .putfield 37, 3, (1, 2, 0)), (18, .aload_n 1, 1, (0, 0, 0)), (19, .getfield 9, 3, (1, 3, 5242906)), (22, .iconst 0, 1, (0, 0, 0)), (23, .aload_n 0, 1, (0, 0, 0)), (24, .getfield 9, 3, (1, 3, 5242906)), (27, .iconst 0, 1, (0, 0, 0)), (28, .bipush 6, 2, (0, 0, 0)), (30, .invokestatic 45, 3, (5001, 0, 0))]
theorem K72_0 : zRk 72 B72_0 = true := zRw_ok (by decide +kernel)
/-- EchoVale$Course.copyPlaces(LEchoVale$Course;)V -/
def F72 (v0 : Int) (v1 : Int) (h : zHC) : Option zHC := some (hcpy (hset (hset (hset h 64 v0 0 (h 64 v1 0)) 65 v0 0 0) 66 v0 0 0) 67 v0 67 v1 0 0 6)
set_option maxRecDepth 100000 in
theorem S72 {spec : zRn zH2} {hm : zHM} {o : Int → Int} {d : Nat} (hd : 1 ≤ d) (v0 : Int) (v1 : Int) (h : zHC) (v : zHC) (e : F72 v0 v1 h = some v) : zRu2 spec d 72 [(11, v0), (11, v1)] (h, hm, o) none (v, hm, o) := by
  refine zF_in (D := 0) (mx := 2) (L := [some (11, v0), some (11, v1)]) (by decide +kernel) rfl rfl hd (fun d hd => ?_)
  unfold F72 at e
  refine zF_blk (m := []) (d := 0) (b := B72_0) (gs := [0 ≤ 0, 0 ≤ 0, 0 ≤ 6, 0 + 6 ≤ 6, 0 + 6 ≤ 6]) (c' := (33, [some (11, v0), some (11, v1)], [], ((hcpy (hset (hset (hset h 64 v0 0 (h 64 v1 0)) 65 v0 0 0) 66 v0 0 0) 67 v0 67 v1 0 0 6), hm, o))) K72_0 rfl ⟨by decide, by decide, by decide, by decide, by decide, trivial⟩ ?_
  obtain rfl := Option.some.inj e
  exact zF_rv (zRe1_w (by decide +kernel))
noncomputable def B71_0 : List zRow := [(0, .aload_n 0, 1, (0, 0, 0)), (1, .aload_n 1, 1, (0, 0, 0))]
theorem K71_0 : zRk 71 B71_0 = true := zRw_ok (by decide +kernel)
noncomputable def B71_1 : List zRow := [(5, .aload_n 0, 1, (0, 0, 0)), (6, .aload_n 1, 1, (0, 0, 0)), (7, .getfield 34, 3, (1, 1, 0)), (10, .putfield 34, 3, (1, 1, 0)), (13, .aload_n 0, 1, (0, 0, 0)), (14, .aload_n 1, 1, (0, 0, 0)), (15, .getfield 37, 3, (1, 2, 0)), (18, .putfield 37, 3, (1, 2, 0)), (21, .aload_n 1, 1, (0, 0, 0)), (22, .getfield 15, 3, (1, 4, 5243602)), (25, .iconst 0, 1, (0, 0, 0)), (26, .aload_n 0, 1, (0, 0, 0)), (27, .getfield 15, 3, (1, 4, 5243602)), (30, .iconst 0, 1, (0, 0, 0)), (31, .aload_n 0, 1, (0, 0, 0)), (32, .getfield 34, 3, (1, 1, 0)), (35, .bipush 6, 2, (0, 0, 0)), (37, .imul, 1, (0, 0, 0)), (38, .invokestatic 45, 3, (5001, 0, 0)), (41, .aload_n 1, 1, (0, 0, 0)), (42, .getfield 18, 3, (1, 5, 5243602)), (45, .iconst 0, 1, (0, 0, 0)), (46, .aload_n 0, 1, (0, 0, 0)), (47, .getfield 18, 3, (1, 5, 5243602)), (50, .iconst 0, 1, (0, 0, 0)), (51, .aload_n 0, 1, (0, 0, 0)), (52, .getfield 34, 3, (1, 1, 0)), (55, .bipush 6, 2, (0, 0, 0)), (57, .imul, 1, (0, 0, 0)), (58, .invokestatic 45, 3, (5001, 0, 0)), (61, .aload_n 1, 1, (0, 0, 0)), (62, .getfield 21, 3, (1, 6, 5243842)), (65, .iconst 0, 1, (0, 0, 0)), (66, .aload_n 0, 1, (0, 0, 0)), (67, .getfield 21, 3, (1, 6, 5243842)), (70, .iconst 0, 1, (0, 0, 0)), (71, .aload_n 0, 1, (0, 0, 0)), (72, .getfield 34, 3, (1, 1, 0)), (75, .bipush 8, 2, (0, 0, 0)), (77, .imul, 1, (0, 0, 0)), (78, .invokestatic 45, 3, (5001, 0, 0)), (81, .aload_n 1, 1, (0, 0, 0)), (82, .getfield 27, 3, (1, 8, 5243002)), (85, .iconst 0, 1, (0, 0, 0)), (86, .aload_n 0, 1, (0, 0, 0)), (87, .getfield 27, 3, (1, 8, 5243002)), (90, .iconst 0, 1, (0, 0, 0)), (91, .aload_n 0, 1, (0, 0, 0)), (92, .getfield 34, 3, (1, 1, 0)), (95, .invokestatic 45, 3, (5001, 0, 0)), (98, .aload_n 1, 1, (0, 0, 0)), (99, .getfield 24, 3, (1, 7, 5246482)), (102, .iconst 0, 1, (0, 0, 0)), (103, .aload_n 0, 1, (0, 0, 0)), (104, .getfield 24, 3, (1, 7, 5246482)), (107, .iconst 0, 1, (0, 0, 0)), (108, .aload_n 0, 1, (0, 0, 0)), (109, .getfield 37, 3, (1, 2, 0)), (112, .iconst 5, 1, (0, 0, 0)), (113, .imul, 1, (0, 0, 0)), (114, .invokestatic 45, 3, (5001, 0, 0))]
theorem K71_1 : zRk 71 B71_1 = true := zRw_ok (by decide +kernel)
/-- EchoVale$Course.copyFrom(LEchoVale$Course;)V -/
def F71 (v0 : Int) (v1 : Int) (h : zHC) : Option zHC := (F72 v0 v1 h).bind fun r1 => zG (0 ≤ (wmul ((hset r1 65 v0 0 (r1 65 v1 0)) 65 v0 0) 6)) (zG (0 + (wmul ((hset r1 65 v0 0 (r1 65 v1 0)) 65 v0 0) 6) ≤ 180) (zG (0 + (wmul ((hset r1 65 v0 0 (r1 65 v1 0)) 65 v0 0) 6) ≤ 180) (zG (0 ≤ (wmul ((hset r1 65 v0 0 (r1 65 v1 0)) 65 v0 0) 6)) (zG (0 + (wmul ((hset r1 65 v0 0 (r1 65 v1 0)) 65 v0 0) 6) ≤ 180) (zG (0 + (wmul ((hset r1 65 v0 0 (r1 65 v1 0)) 65 v0 0) 6) ≤ 180) (zG (0 ≤ (wmul ((hset r1 65 v0 0 (r1 65 v1 0)) 65 v0 0) 8)) (zG (0 + (wmul ((hset r1 65 v0 0 (r1 65 v1 0)) 65 v0 0) 8) ≤ 240) (zG (0 + (wmul ((hset r1 65 v0 0 (r1 65 v1 0)) 65 v0 0) 8) ≤ 240) (zG (0 ≤ ((hset r1 65 v0 0 (r1 65 v1 0)) 65 v0 0)) (zG (0 + ((hset r1 65 v0 0 (r1 65 v1 0)) 65 v0 0) ≤ 30) (zG (0 + ((hset r1 65 v0 0 (r1 65 v1 0)) 65 v0 0) ≤ 30) (zG (0 ≤ (wmul ((hset (hset r1 65 v0 0 (r1 65 v1 0)) 66 v0 0 (r1 66 v1 0)) 66 v0 0) 5)) (zG (0 + (wmul ((hset (hset r1 65 v0 0 (r1 65 v1 0)) 66 v0 0 (r1 66 v1 0)) 66 v0 0) 5) ≤ 900) (zG (0 + (wmul ((hset (hset r1 65 v0 0 (r1 65 v1 0)) 66 v0 0 (r1 66 v1 0)) 66 v0 0) 5) ≤ 900) (some (hcpy (hcpy (hcpy (hcpy (hcpy (hset (hset r1 65 v0 0 (r1 65 v1 0)) 66 v0 0 (r1 66 v1 0)) 68 v0 68 v1 0 0 (wmul ((hset r1 65 v0 0 (r1 65 v1 0)) 65 v0 0) 6)) 69 v0 69 v1 0 0 (wmul ((hset r1 65 v0 0 (r1 65 v1 0)) 65 v0 0) 6)) 70 v0 70 v1 0 0 (wmul ((hset r1 65 v0 0 (r1 65 v1 0)) 65 v0 0) 8)) 72 v0 72 v1 0 0 ((hset r1 65 v0 0 (r1 65 v1 0)) 65 v0 0)) 71 v0 71 v1 0 0 (wmul ((hset (hset r1 65 v0 0 (r1 65 v1 0)) 66 v0 0 (r1 66 v1 0)) 66 v0 0) 5)))))))))))))))))
set_option maxRecDepth 100000 in
theorem S71 {spec : zRn zH2} {hm : zHM} {o : Int → Int} {d : Nat} (hd : 2 ≤ d) (v0 : Int) (v1 : Int) (h : zHC) (v : zHC) (e : F71 v0 v1 h = some v) : zRu2 spec d 71 [(11, v0), (11, v1)] (h, hm, o) none (v, hm, o) := by
  refine zF_in (D := 1) (mx := 2) (L := [some (11, v0), some (11, v1)]) (by decide +kernel) rfl rfl hd (fun d hd => ?_)
  unfold F71 at e
  obtain ⟨r1, q1, e⟩ := zB_s e
  refine zF_blk (m := []) (d := 0) (b := B71_0) (gs := []) (c' := (2, [some (11, v0), some (11, v1)], [(11, v1), (11, v0)], (h, hm, o))) K71_0 rfl trivial ?_
  refine zF_call (k := 72) (cl := 1) (n := 2) (i := .invokevirtual 51) (args := [(11, v0), (11, v1)]) (rest := []) (g1 := (r1, hm, o)) (r1 := none) (zCk1_w (by decide +kernel)) rfl rfl rfl (st' := []) rfl (S72 (Nat.le_trans (by decide) hd) v0 v1 h _ q1) ?_
  obtain ⟨q2, e⟩ := zG_s e
  obtain ⟨q3, e⟩ := zG_s e
  obtain ⟨q3, e⟩ := zG_s e
  obtain ⟨q2, e⟩ := zG_s e
  obtain ⟨q3, e⟩ := zG_s e
  obtain ⟨q3, e⟩ := zG_s e
  obtain ⟨q4, e⟩ := zG_s e
  obtain ⟨q5, e⟩ := zG_s e
  obtain ⟨q5, e⟩ := zG_s e
  obtain ⟨q6, e⟩ := zG_s e
  obtain ⟨q7, e⟩ := zG_s e
  obtain ⟨q7, e⟩ := zG_s e
  obtain ⟨q8, e⟩ := zG_s e
  obtain ⟨q9, e⟩ := zG_s e
  obtain ⟨q9, e⟩ := zG_s e
  refine zF_blk (m := []) (d := 0) (b := B71_1) (gs := [0 ≤ 0, 0 ≤ 0, 0 ≤ (wmul ((hset r1 65 v0 0 (r1 65 v1 0)) 65 v0 0) 6), 0 + (wmul ((hset r1 65 v0 0 (r1 65 v1 0)) 65 v0 0) 6) ≤ 180, 0 + (wmul ((hset r1 65 v0 0 (r1 65 v1 0)) 65 v0 0) 6) ≤ 180, 0 ≤ 0, 0 ≤ 0, 0 ≤ (wmul ((hset r1 65 v0 0 (r1 65 v1 0)) 65 v0 0) 6), 0 + (wmul ((hset r1 65 v0 0 (r1 65 v1 0)) 65 v0 0) 6) ≤ 180, 0 + (wmul ((hset r1 65 v0 0 (r1 65 v1 0)) 65 v0 0) 6) ≤ 180, 0 ≤ 0, 0 ≤ 0, 0 ≤ (wmul ((hset r1 65 v0 0 (r1 65 v1 0)) 65 v0 0) 8), 0 + (wmul ((hset r1 65 v0 0 (r1 65 v1 0)) 65 v0 0) 8) ≤ 240, 0 + (wmul ((hset r1 65 v0 0 (r1 65 v1 0)) 65 v0 0) 8) ≤ 240, 0 ≤ 0, 0 ≤ 0, 0 ≤ ((hset r1 65 v0 0 (r1 65 v1 0)) 65 v0 0), 0 + ((hset r1 65 v0 0 (r1 65 v1 0)) 65 v0 0) ≤ 30, 0 + ((hset r1 65 v0 0 (r1 65 v1 0)) 65 v0 0) ≤ 30, 0 ≤ 0, 0 ≤ 0, 0 ≤ (wmul ((hset (hset r1 65 v0 0 (r1 65 v1 0)) 66 v0 0 (r1 66 v1 0)) 66 v0 0) 5), 0 + (wmul ((hset (hset r1 65 v0 0 (r1 65 v1 0)) 66 v0 0 (r1 66 v1 0)) 66 v0 0) 5) ≤ 900, 0 + (wmul ((hset (hset r1 65 v0 0 (r1 65 v1 0)) 66 v0 0 (r1 66 v1 0)) 66 v0 0) 5) ≤ 900]) (c' := (117, [some (11, v0), some (11, v1)], [], ((hcpy (hcpy (hcpy (hcpy (hcpy (hset (hset r1 65 v0 0 (r1 65 v1 0)) 66 v0 0 (r1 66 v1 0)) 68 v0 68 v1 0 0 (wmul ((hset r1 65 v0 0 (r1 65 v1 0)) 65 v0 0) 6)) 69 v0 69 v1 0 0 (wmul ((hset r1 65 v0 0 (r1 65 v1 0)) 65 v0 0) 6)) 70 v0 70 v1 0 0 (wmul ((hset r1 65 v0 0 (r1 65 v1 0)) 65 v0 0) 8)) 72 v0 72 v1 0 0 ((hset r1 65 v0 0 (r1 65 v1 0)) 65 v0 0)) 71 v0 71 v1 0 0 (wmul ((hset (hset r1 65 v0 0 (r1 65 v1 0)) 66 v0 0 (r1 66 v1 0)) 66 v0 0) 5)), hm, o))) K71_1 rfl ⟨by decide, by decide, q2, q3, q3, by decide, by decide, q2, q3, q3, by decide, by decide, q4, q5, q5, by decide, by decide, q6, q7, q7, by decide, by decide, q8, q9, q9, trivial⟩ ?_
  obtain rfl := Option.some.inj e
  exact zF_rv (zRe1_w (by decide +kernel))
noncomputable def B70_0 : List zRow := [(9, .aload_n 0, 1, (0, 0, 0)), (10, .aload_n 0, 1, (0, 0, 0)), (11, .getfield 22, 3, (8, 1, 0)), (14, .iconst 1, 1, (0, 0, 0)), (15, .iadd, 1, (0, 0, 0)), (16, .bipush 8, 2, (0, 0, 0)), (18, .irem, 1, (0, 0, 0)), (19, .putfield 22, 3, (8, 1, 0)), (22, .aload_n 0, 1, (0, 0, 0)), (23, .dup, 1, (0, 0, 0)), (24, .getfield 18, 3, (8, 0, 0)), (27, .iconst 1, 1, (0, 0, 0)), (28, .isub, 1, (0, 0, 0)), (29, .putfield 18, 3, (8, 0, 0))]
theorem K70_0 : zRk 70 B70_0 = true := zRw_ok (by decide +kernel)
noncomputable def B70_1 : List zRow := [(0, .aload_n 0, 1, (0, 0, 0)), (1, .getfield 18, 3, (8, 0, 0)), (4, .bipush 8, 2, (0, 0, 0)), (6, .if_icmp .ne 26, 3, (0, 0, 0))]
theorem K70_1 : zRk 70 B70_1 = true := zRw_ok (by decide +kernel)
noncomputable def B70_2 : List zRow := [(32, .aload_n 0, 1, (0, 0, 0)), (33, .getfield 11, 3, (8, 2, 6029346)), (36, .aload_n 0, 1, (0, 0, 0)), (37, .getfield 22, 3, (8, 1, 0)), (40, .aload_n 0, 1, (0, 0, 0)), (41, .getfield 18, 3, (8, 0, 0)), (44, .iadd, 1, (0, 0, 0)), (45, .bipush 8, 2, (0, 0, 0)), (47, .irem, 1, (0, 0, 0)), (48, .aaload, 1, (23, 0, 0)), (49, .aload_n 1, 1, (0, 0, 0))]
theorem K70_2 : zRk 70 B70_2 = true := zRw_ok (by decide +kernel)
noncomputable def B70_3 : List zRow := [(53, .aload_n 0, 1, (0, 0, 0)), (54, .dup, 1, (0, 0, 0)), (55, .getfield 18, 3, (8, 0, 0)), (58, .iconst 1, 1, (0, 0, 0)), (59, .iadd, 1, (0, 0, 0)), (60, .putfield 18, 3, (8, 0, 0))]
theorem K70_3 : zRk 70 B70_3 = true := zRw_ok (by decide +kernel)
def F70_0 (v1 : Int) (h : zHC) : Option zHC := zG (0 ≤ (wrem (wadd (h 513 0 0) (h 512 0 0)) 8) ∧ (wrem (wadd (h 513 0 0) (h 512 0 0)) 8) < 8) ((F71 (2 + (wrem (wadd (h 513 0 0) (h 512 0 0)) 8)) v1 h).bind fun r1 => some (hset r1 512 0 0 (wadd (r1 512 0 0) 1)))
set_option maxRecDepth 100000 in
theorem T70_0 {spec : zRn zH2} {hm : zHM} {o : Int → Int} {d : Nat} (hd : 2 ≤ d) (v1 : Int) (h : zHC) (v : zHC) (e : F70_0 v1 h = some v) : zFin 0 (fun _ => 0) (zRu2 spec d) 70 none (v, hm, o) (32, [some (18, 0), some (11, v1)], [], (h, hm, o)) := by
  unfold F70_0 at e
  obtain ⟨q1, e⟩ := zG_s e
  obtain ⟨r1, q2, e⟩ := zB_s e
  refine zF_blk (m := []) (d := 0) (b := B70_2) (gs := [¬ 8 = 0, 0 ≤ (wrem (wadd (h 513 0 0) (h 512 0 0)) 8) ∧ (wrem (wadd (h 513 0 0) (h 512 0 0)) 8) < 8]) (c' := (50, [some (18, 0), some (11, v1)], [(11, v1), (11, (2 + (wrem (wadd (h 513 0 0) (h 512 0 0)) 8)))], (h, hm, o))) K70_2 rfl ⟨by decide, q1, trivial⟩ ?_
  refine zF_call (k := 71) (cl := 1) (n := 2) (i := .invokevirtual 25) (args := [(11, (2 + (wrem (wadd (h 513 0 0) (h 512 0 0)) 8))), (11, v1)]) (rest := []) (g1 := (r1, hm, o)) (r1 := none) (zCk1_w (by decide +kernel)) rfl rfl rfl (st' := []) rfl (S71 (Nat.le_trans (by decide) hd) (2 + (wrem (wadd (h 513 0 0) (h 512 0 0)) 8)) v1 h _ q2) ?_
  refine zF_blk (m := []) (d := 0) (b := B70_3) (gs := []) (c' := (63, [some (18, 0), some (11, v1)], [], ((hset r1 512 0 0 (wadd (r1 512 0 0) 1)), hm, o))) K70_3 rfl trivial ?_
  obtain rfl := Option.some.inj e
  exact zF_rv (zRe1_w (by decide +kernel))
/-- EchoVale$Undo.keep(LEchoVale$Course;)V -/
def F70 (v1 : Int) (h : zHC) : Option zHC := if ¬ (h 512 0 0) = 8 then F70_0 v1 h else F70_0 v1 (hset (hset h 513 0 0 (wrem (wadd (h 513 0 0) 1) 8)) 512 0 0 (wsub (h 512 0 0) 1))
set_option maxRecDepth 100000 in
theorem S70 {spec : zRn zH2} {hm : zHM} {o : Int → Int} {d : Nat} (hd : 3 ≤ d) (v1 : Int) (h : zHC) (v : zHC) (e : F70 v1 h = some v) : zRu2 spec d 70 [(18, 0), (11, v1)] (h, hm, o) none (v, hm, o) := by
  refine zF_in (D := 2) (mx := 2) (L := [some (18, 0), some (11, v1)]) (by decide +kernel) rfl rfl hd (fun d hd => ?_)
  unfold F70 at e
  rcases zI_s e with ⟨q1, e⟩ | ⟨q1, e⟩
  · refine zF_blk (m := []) (d := 1) (b := B70_1) (gs := [¬ (h 512 0 0) = 8]) (c' := (32, [some (18, 0), some (11, v1)], [], (h, hm, o))) K70_1 rfl ⟨q1, trivial⟩ ?_
    exact T70_0 hd v1 h _ e
  · refine zF_blk (m := []) (d := 0) (b := B70_1) (gs := [¬ (¬ (h 512 0 0) = 8)]) (c' := (9, [some (18, 0), some (11, v1)], [], (h, hm, o))) K70_1 rfl ⟨q1, trivial⟩ ?_
    refine zF_blk (m := []) (d := 0) (b := B70_0) (gs := [¬ 8 = 0]) (c' := (32, [some (18, 0), some (11, v1)], [], ((hset (hset h 513 0 0 (wrem (wadd (h 513 0 0) 1) 8)) 512 0 0 (wsub (h 512 0 0) 1)), hm, o))) K70_0 rfl ⟨by decide, trivial⟩ ?_
    exact T70_0 hd v1 (hset (hset h 513 0 0 (wrem (wadd (h 513 0 0) 1) 8)) 512 0 0 (wsub (h 512 0 0) 1)) _ e
noncomputable def B68_0 : List zRow := [(0, .aload_n 0, 1, (0, 0, 0)), (1, .iload_n 1, 1, (0, 0, 0))]
theorem K68_0 : zRk 68 B68_0 = true := zRw_ok (by decide +kernel)
noncomputable def B68_1 : List zRow := [(19, .iconst 0, 1, (0, 0, 0))]
theorem K68_1 : zRk 68 B68_1 = true := zRw_ok (by decide +kernel)
noncomputable def B68_2 : List zRow := [(8, .aload_n 0, 1, (0, 0, 0)), (9, .getfield 19, 3, (11, 1, 39)), (12, .iload_n 2, 1, (0, 0, 0))]
theorem K68_2 : zRk 68 B68_2 = true := zRw_ok (by decide +kernel)
noncomputable def B68_3 : List zRow := [(21, .aload_n 0, 1, (0, 0, 0)), (22, .getfield 66, 3, (11, 8, 35)), (25, .aload_n 0, 1, (0, 0, 0)), (26, .getfield 56, 3, (11, 6, 7))]
theorem K68_3 : zRk 68 B68_3 = true := zRw_ok (by decide +kernel)
noncomputable def B68_4 : List zRow := [(32, .aload_n 0, 1, (0, 0, 0)), (33, .getfield 56, 3, (11, 6, 7)), (36, .getfield 177, 3, (1, 3, 5242906)), (39, .iload_n 1, 1, (0, 0, 0)), (40, .iload_n 2, 1, (0, 0, 0)), (41, .iastore, 1, (0, 0, 0)), (42, .iconst 1, 1, (0, 0, 0))]
theorem K68_4 : zRk 68 B68_4 = true := zRw_ok (by decide +kernel)
noncomputable def B68_5 : List zRow := [(16, .ifCond .ne 5, 3, (0, 0, 0))]
theorem K68_5 : zRk 68 B68_5 = true := zRw_ok (by decide +kernel)
noncomputable def B68_6 : List zRow := [(5, .ifCond .eq 14, 3, (0, 0, 0))]
theorem K68_6 : zRk 68 B68_6 = true := zRw_ok (by decide +kernel)
/-- EchoVale.goes(II)Z -/
def F68 (v1 : Int) (v2 : Int) (h : zHC) : Option (Int × zHC) := (F61 v1 h).bind fun r1 => if r1 = 0 then some (0, h) else (F69 0 v2 h).bind fun r2 => if ¬ r2 = 0 then (F70 0 h).bind fun r3 => zG (0 ≤ v1 ∧ v1 < 6) (some (1, (hset r3 67 0 v1 v2))) else some (0, h)
set_option maxRecDepth 100000 in
theorem S68 {spec : zRn zH2} {hm : zHM} {o : Int → Int} {d : Nat} (hd : 4 ≤ d) (v1 : Int) (v2 : Int) (h : zHC) (v : (Int × zHC)) (e : F68 v1 v2 h = some v) : zRu2 spec d 68 [(21, 0), (0, v1), (0, v2)] (h, hm, o) (some (0, v.1)) (v.2, hm, o) := by
  refine zF_in (D := 3) (mx := 3) (L := [some (21, 0), some (0, v1), some (0, v2)]) (by decide +kernel) rfl rfl hd (fun d hd => ?_)
  unfold F68 at e
  obtain ⟨r1, q1, e⟩ := zB_s e
  refine zF_blk (m := []) (d := 0) (b := B68_0) (gs := []) (c' := (2, [some (21, 0), some (0, v1), some (0, v2)], [(0, v1), (21, 0)], (h, hm, o))) K68_0 rfl trivial ?_
  refine zF_call (k := 61) (cl := 11) (n := 2) (i := .invokevirtual 172) (args := [(21, 0), (0, v1)]) (rest := []) (g1 := (h, hm, o)) (r1 := some (0, r1)) (zCk1_w (by decide +kernel)) rfl rfl rfl (st' := [(0, r1)]) rfl (S61 (Nat.le_trans (by decide) hd) v1 h _ q1) ?_
  rcases zI_s e with ⟨q2, e⟩ | ⟨q2, e⟩
  · refine zF_blk (m := []) (d := 1) (b := B68_6) (gs := [r1 = 0]) (c' := (19, [some (21, 0), some (0, v1), some (0, v2)], [], (h, hm, o))) K68_6 rfl ⟨q2, trivial⟩ ?_
    refine zF_blk (m := []) (d := 0) (b := B68_1) (gs := []) (c' := (20, [some (21, 0), some (0, v1), some (0, v2)], [(0, 0)], (h, hm, o))) K68_1 rfl trivial ?_
    exact zF_rbC (zRe1_w (by decide +kernel)) (Or.inl rfl) e
  · refine zF_blk (m := []) (d := 0) (b := B68_6) (gs := [¬ (r1 = 0)]) (c' := (8, [some (21, 0), some (0, v1), some (0, v2)], [], (h, hm, o))) K68_6 rfl ⟨q2, trivial⟩ ?_
    obtain ⟨r2, q3, e⟩ := zB_s e
    refine zF_blk (m := []) (d := 0) (b := B68_2) (gs := []) (c' := (13, [some (21, 0), some (0, v1), some (0, v2)], [(0, v2), (19, 0)], (h, hm, o))) K68_2 rfl trivial ?_
    refine zF_call (k := 69) (cl := 9) (n := 2) (i := .invokevirtual 214) (args := [(19, 0), (0, v2)]) (rest := []) (g1 := (h, hm, o)) (r1 := some (0, r2)) (zCk1_w (by decide +kernel)) rfl rfl rfl (st' := [(0, r2)]) rfl (S69 (Nat.le_trans (by decide) hd) 0 v2 h _ q3) ?_
    rcases zI_s e with ⟨q4, e⟩ | ⟨q4, e⟩
    · refine zF_blk (m := []) (d := 1) (b := B68_5) (gs := [¬ r2 = 0]) (c' := (21, [some (21, 0), some (0, v1), some (0, v2)], [], (h, hm, o))) K68_5 rfl ⟨q4, trivial⟩ ?_
      obtain ⟨r3, q5, e⟩ := zB_s e
      refine zF_blk (m := []) (d := 0) (b := B68_3) (gs := []) (c' := (29, [some (21, 0), some (0, v1), some (0, v2)], [(11, 0), (18, 0)], (h, hm, o))) K68_3 rfl trivial ?_
      refine zF_call (k := 70) (cl := 8) (n := 2) (i := .invokevirtual 217) (args := [(18, 0), (11, 0)]) (rest := []) (g1 := (r3, hm, o)) (r1 := none) (zCk1_w (by decide +kernel)) rfl rfl rfl (st' := []) rfl (S70 (Nat.le_trans (by decide) hd) 0 h _ q5) ?_
      obtain ⟨q6, e⟩ := zG_s e
      refine zF_blk (m := []) (d := 0) (b := B68_4) (gs := [0 ≤ v1 ∧ v1 < 6]) (c' := (43, [some (21, 0), some (0, v1), some (0, v2)], [(0, 1)], ((hset r3 67 0 v1 v2), hm, o))) K68_4 rfl ⟨q6, trivial⟩ ?_
      exact zF_rbC (zRe1_w (by decide +kernel)) (Or.inr rfl) e
    · refine zF_blk (m := []) (d := 0) (b := B68_5) (gs := [¬ (¬ r2 = 0)]) (c' := (19, [some (21, 0), some (0, v1), some (0, v2)], [], (h, hm, o))) K68_5 rfl ⟨q4, trivial⟩ ?_
      refine zF_blk (m := []) (d := 0) (b := B68_1) (gs := []) (c' := (20, [some (21, 0), some (0, v1), some (0, v2)], [(0, 0)], (h, hm, o))) K68_1 rfl trivial ?_
      exact zF_rbC (zRe1_w (by decide +kernel)) (Or.inl rfl) e
noncomputable def B224_0 : List zRow := [(34, .iconst 0, 1, (0, 0, 0))]
theorem K224_0 : zRk 224 B224_0 = true := zRw_ok (by decide +kernel)
noncomputable def B224_1 : List zRow := [(30, .iconst 1, 1, (0, 0, 0)), (31, .goto 4, 3, (0, 0, 0))]
theorem K224_1 : zRk 224 B224_1 = true := zRw_ok (by decide +kernel)
noncomputable def B224_2 : List zRow := [(17, .iload_n 1, 1, (0, 0, 0)), (18, .bipush 10, 2, (0, 0, 0)), (20, .idiv, 1, (0, 0, 0)), (21, .aload_n 0, 1, (0, 0, 0)), (22, .getfield 13, 3, (12, 14, 5251442)), (25, .iconst 1, 1, (0, 0, 0)), (26, .iaload, 1, (0, 0, 0)), (27, .if_icmp .ge 7, 3, (0, 0, 0))]
theorem K224_2 : zRk 224 B224_2 = true := zRw_ok (by decide +kernel)
noncomputable def B224_3 : List zRow := [(4, .iload_n 1, 1, (0, 0, 0)), (5, .bipush 10, 2, (0, 0, 0)), (7, .irem, 1, (0, 0, 0)), (8, .aload_n 0, 1, (0, 0, 0)), (9, .getfield 13, 3, (12, 14, 5251442)), (12, .iconst 0, 1, (0, 0, 0)), (13, .iaload, 1, (0, 0, 0)), (14, .if_icmp .ge 20, 3, (0, 0, 0))]
theorem K224_3 : zRk 224 B224_3 = true := zRw_ok (by decide +kernel)
noncomputable def B224_4 : List zRow := [(0, .iload_n 1, 1, (0, 0, 0)), (1, .ifCond .lt 33, 3, (0, 0, 0))]
theorem K224_4 : zRk 224 B224_4 = true := zRw_ok (by decide +kernel)
/-- EchoValeModel.isAt(I)Z -/
def F224 (v1 : Int) (h : zHM) : Option Int := if v1 < 0 then some 0 else if (h 14 0) ≤ (wrem v1 10) then some 0 else if (h 14 1) ≤ (wdiv v1 10) then some 0 else some 1
set_option maxRecDepth 100000 in
theorem S224 {spec : zRn zH2} {hc : zHC} {o : Int → Int} {d : Nat} (hd : 1 ≤ d) (v1 : Int) (h : zHM) (v : Int) (e : F224 v1 h = some v) : zRu2 spec d 224 [(22, 0), (0, v1)] (hc, h, o) (some (0, v)) (hc, h, o) := by
  refine zF_in (D := 0) (mx := 2) (L := [some (22, 0), some (0, v1)]) (by decide +kernel) rfl rfl hd (fun d hd => ?_)
  unfold F224 at e
  rcases zI_s e with ⟨q1, e⟩ | ⟨q1, e⟩
  · refine zF_blk (m := []) (d := 1) (b := B224_4) (gs := [v1 < 0]) (c' := (34, [some (22, 0), some (0, v1)], [], (hc, h, o))) K224_4 rfl ⟨q1, trivial⟩ ?_
    refine zF_blk (m := []) (d := 0) (b := B224_0) (gs := []) (c' := (35, [some (22, 0), some (0, v1)], [(0, 0)], (hc, h, o))) K224_0 rfl trivial ?_
    obtain rfl := Option.some.inj e
    exact zF_rb (zRe1_w (by decide +kernel)) (Or.inl rfl)
  · refine zF_blk (m := []) (d := 0) (b := B224_4) (gs := [¬ (v1 < 0)]) (c' := (4, [some (22, 0), some (0, v1)], [], (hc, h, o))) K224_4 rfl ⟨q1, trivial⟩ ?_
    rcases zI_s e with ⟨q2, e⟩ | ⟨q2, e⟩
    · refine zF_blk (m := []) (d := 1) (b := B224_3) (gs := [¬ 10 = 0, 0 ≤ 0 ∧ 0 < 2140, (h 14 0) ≤ (wrem v1 10)]) (c' := (34, [some (22, 0), some (0, v1)], [], (hc, h, o))) K224_3 rfl ⟨by decide, by decide, q2, trivial⟩ ?_
      refine zF_blk (m := []) (d := 0) (b := B224_0) (gs := []) (c' := (35, [some (22, 0), some (0, v1)], [(0, 0)], (hc, h, o))) K224_0 rfl trivial ?_
      obtain rfl := Option.some.inj e
      exact zF_rb (zRe1_w (by decide +kernel)) (Or.inl rfl)
    · refine zF_blk (m := []) (d := 0) (b := B224_3) (gs := [¬ 10 = 0, 0 ≤ 0 ∧ 0 < 2140, ¬ ((h 14 0) ≤ (wrem v1 10))]) (c' := (17, [some (22, 0), some (0, v1)], [], (hc, h, o))) K224_3 rfl ⟨by decide, by decide, q2, trivial⟩ ?_
      rcases zI_s e with ⟨q3, e⟩ | ⟨q3, e⟩
      · refine zF_blk (m := []) (d := 1) (b := B224_2) (gs := [¬ 10 = 0, 0 ≤ 1 ∧ 1 < 2140, (h 14 1) ≤ (wdiv v1 10)]) (c' := (34, [some (22, 0), some (0, v1)], [], (hc, h, o))) K224_2 rfl ⟨by decide, by decide, q3, trivial⟩ ?_
        refine zF_blk (m := []) (d := 0) (b := B224_0) (gs := []) (c' := (35, [some (22, 0), some (0, v1)], [(0, 0)], (hc, h, o))) K224_0 rfl trivial ?_
        obtain rfl := Option.some.inj e
        exact zF_rb (zRe1_w (by decide +kernel)) (Or.inl rfl)
      · refine zF_blk (m := []) (d := 0) (b := B224_2) (gs := [¬ 10 = 0, 0 ≤ 1 ∧ 1 < 2140, ¬ ((h 14 1) ≤ (wdiv v1 10))]) (c' := (30, [some (22, 0), some (0, v1)], [], (hc, h, o))) K224_2 rfl ⟨by decide, by decide, q3, trivial⟩ ?_
        refine zF_blk (m := []) (d := 0) (b := B224_1) (gs := []) (c' := (35, [some (22, 0), some (0, v1)], [(0, 1)], (hc, h, o))) K224_1 rfl trivial ?_
        obtain rfl := Option.some.inj e
        exact zF_rb (zRe1_w (by decide +kernel)) (Or.inr rfl)
noncomputable def B225_0 : List zRow := [(9, .sipush 1689, 3, (0, 0, 0)), (12, .istore_n 1, 1, (0, 0, 0))]
theorem K225_0 : zRk 225 B225_0 = true := zRw_ok (by decide +kernel)
noncomputable def B225_1 : List zRow := [(0, .aload_n 0, 1, (0, 0, 0)), (1, .getfield 232, 3, (12, 23, 0)), (4, .bipush 8, 2, (0, 0, 0)), (6, .if_icmp .ne 46, 3, (0, 0, 0))]
theorem K225_1 : zRk 225 B225_1 = true := zRw_ok (by decide +kernel)
noncomputable def B225_2 : List zRow := [(42, .aload_n 0, 1, (0, 0, 0)), (43, .dup, 1, (0, 0, 0)), (44, .getfield 232, 3, (12, 23, 0)), (47, .iconst 1, 1, (0, 0, 0)), (48, .isub, 1, (0, 0, 0)), (49, .putfield 232, 3, (12, 23, 0))]
theorem K225_2 : zRk 225 B225_2 = true := zRw_ok (by decide +kernel)
noncomputable def B225_3 : List zRow := [(20, .aload_n 0, 1, (0, 0, 0)), (21, .getfield 22, 3, (12, 17, 5296930)), (24, .iload_n 1, 1, (0, 0, 0)), (25, .sipush 1689, 3, (0, 0, 0)), (28, .isub, 1, (0, 0, 0)), (29, .aload_n 0, 1, (0, 0, 0)), (30, .getfield 22, 3, (12, 17, 5296930)), (33, .iload_n 1, 1, (0, 0, 0)), (34, .iaload, 1, (0, 0, 0)), (35, .iastore, 1, (0, 0, 0)), (36, .iinc 1 1, 3, (0, 0, 0)), (39, .goto (-26), 3, (0, 0, 0))]
theorem K225_3 : zRk 225 B225_3 = true := zRw_ok (by decide +kernel)
noncomputable def B225_4 : List zRow := [(13, .iload_n 1, 1, (0, 0, 0)), (14, .sipush 13512, 3, (0, 0, 0)), (17, .if_icmp .ge 25, 3, (0, 0, 0))]
theorem K225_4 : zRk 225 B225_4 = true := zRw_ok (by decide +kernel)
noncomputable def B225_5 : List zRow := [(52, .iconst 0, 1, (0, 0, 0)), (53, .istore_n 1, 1, (0, 0, 0))]
theorem K225_5 : zRk 225 B225_5 = true := zRw_ok (by decide +kernel)
noncomputable def B225_6 : List zRow := [(92, .aload_n 0, 1, (0, 0, 0)), (93, .dup, 1, (0, 0, 0)), (94, .getfield 232, 3, (12, 23, 0)), (97, .iconst 1, 1, (0, 0, 0)), (98, .iadd, 1, (0, 0, 0)), (99, .putfield 232, 3, (12, 23, 0))]
theorem K225_6 : zRk 225 B225_6 = true := zRw_ok (by decide +kernel)
noncomputable def B225_7 : List zRow := [(61, .aload_n 0, 1, (0, 0, 0)), (62, .getfield 22, 3, (12, 17, 5296930)), (65, .sipush 1689, 3, (0, 0, 0)), (68, .aload_n 0, 1, (0, 0, 0)), (69, .getfield 232, 3, (12, 23, 0))]
theorem K225_7 : zRk 225 B225_7 = true := zRw_ok (by decide +kernel)
noncomputable def B225_8 : List zRow := [(72, .imul, 1, (0, 0, 0)), (73, .iload_n 1, 1, (0, 0, 0)), (74, .iadd, 1, (0, 0, 0)), (75, .aload_n 0, 1, (0, 0, 0)), (76, .getfield 13, 3, (12, 14, 5251442)), (79, .sipush 209, 3, (0, 0, 0)), (82, .iload_n 1, 1, (0, 0, 0))]
theorem K225_8 : zRk 225 B225_8 = true := zRw_ok (by decide +kernel)
noncomputable def B225_9 : List zRow := [(83, .iadd, 1, (0, 0, 0)), (84, .iaload, 1, (0, 0, 0)), (85, .iastore, 1, (0, 0, 0)), (86, .iinc 1 1, 3, (0, 0, 0)), (89, .goto (-35), 3, (0, 0, 0))]
theorem K225_9 : zRk 225 B225_9 = true := zRw_ok (by decide +kernel)
noncomputable def B225_10 : List zRow := [(54, .iload_n 1, 1, (0, 0, 0)), (55, .sipush 1689, 3, (0, 0, 0)), (58, .if_icmp .ge 34, 3, (0, 0, 0))]
theorem K225_10 : zRk 225 B225_10 = true := zRw_ok (by decide +kernel)
def F225_2 : Nat → Int → zHM → Option zHM
  | 0, _, _ => none
  | n + 1, v1, h => if 1689 ≤ v1 then some (mset h 23 0 (wadd (h 23 0) 1)) else zG (0 ≤ (wadd 209 v1) ∧ (wadd 209 v1) < 2140) (zG (0 ≤ (wadd (wmul 1689 (h 23 0)) v1) ∧ (wadd (wmul 1689 (h 23 0)) v1) < 13512) ((F225_2 n) (wadd v1 1) (mset h 17 (wadd (wmul 1689 (h 23 0)) v1) (h 14 (wadd 209 v1)))))
set_option maxRecDepth 100000 in
theorem T225_2 {spec : zRn zH2} {hc : zHC} {o : Int → Int} {d : Nat} (hd : 0 ≤ d) : ∀ (n : Nat) (v1 : Int) (h : zHM) (v : zHM), F225_2 n v1 h = some v → zFin 0 (fun _ => 0) (zRu2 spec d) 225 none (hc, v, o) (54, [some (22, 0), some (0, v1)], [], (hc, h, o)) := by
  intro n
  induction n with
  | zero => intro v1 h v e; unfold F225_2 at e; cases e
  | succ n hk0 =>
    intro v1 h v e
    unfold F225_2 at e
    rcases zI_s e with ⟨q1, e⟩ | ⟨q1, e⟩
    · refine zF_blk (m := []) (d := 1) (b := B225_10) (gs := [1689 ≤ v1]) (c' := (92, [some (22, 0), some (0, v1)], [], (hc, h, o))) K225_10 rfl ⟨q1, trivial⟩ ?_
      refine zF_blk (m := []) (d := 0) (b := B225_6) (gs := []) (c' := (102, [some (22, 0), some (0, v1)], [], (hc, (mset h 23 0 (wadd (h 23 0) 1)), o))) K225_6 rfl trivial ?_
      obtain rfl := Option.some.inj e
      exact zF_rv (zRe1_w (by decide +kernel))
    · refine zF_blk (m := []) (d := 0) (b := B225_10) (gs := [¬ (1689 ≤ v1)]) (c' := (61, [some (22, 0), some (0, v1)], [], (hc, h, o))) K225_10 rfl ⟨q1, trivial⟩ ?_
      obtain ⟨q2, e⟩ := zG_s e
      obtain ⟨q3, e⟩ := zG_s e
      refine zF_blk (m := []) (d := 0) (b := B225_7) (gs := []) (c' := (72, [some (22, 0), some (0, v1)], [(0, (h 23 0)), (0, 1689), (1356015353, 0)], (hc, h, o))) K225_7 rfl trivial ?_
      refine zF_blk (m := []) (d := 0) (b := B225_8) (gs := []) (c' := (83, [some (22, 0), some (0, v1)], [(0, v1), (0, 209), (1344370422, 0), (0, (wadd (wmul 1689 (h 23 0)) v1)), (1356015353, 0)], (hc, h, o))) K225_8 rfl trivial ?_
      refine zF_blk (m := []) (d := 0) (b := B225_9) (gs := [0 ≤ (wadd 209 v1) ∧ (wadd 209 v1) < 2140, 0 ≤ (wadd (wmul 1689 (h 23 0)) v1) ∧ (wadd (wmul 1689 (h 23 0)) v1) < 13512]) (c' := (54, [some (22, 0), some (0, (wadd v1 1))], [], (hc, (mset h 17 (wadd (wmul 1689 (h 23 0)) v1) (h 14 (wadd 209 v1))), o))) K225_9 rfl ⟨q2, q3, trivial⟩ ?_
      exact hk0 (wadd v1 1) (mset h 17 (wadd (wmul 1689 (h 23 0)) v1) (h 14 (wadd 209 v1))) _ e
def F225_0 (h : zHM) : Option zHM := F225_2 zFu 0 h
set_option maxRecDepth 100000 in
theorem T225_0 {spec : zRn zH2} {hc : zHC} {o : Int → Int} {d : Nat} (hd : 0 ≤ d) (h : zHM) (v : zHM) (e : F225_0 h = some v) : zFin 0 (fun _ => 0) (zRu2 spec d) 225 none (hc, v, o) (52, [some (22, 0), none], [], (hc, h, o)) := by
  unfold F225_0 at e
  refine zF_blk (m := []) (d := 0) (b := B225_5) (gs := []) (c' := (54, [some (22, 0), some (0, 0)], [], (hc, h, o))) K225_5 rfl trivial ?_
  exact T225_2 hd zFu 0 h _ e
def F225_1 : Nat → Int → zHM → Option zHM
  | 0, _, _ => none
  | n + 1, v1, h => if 13512 ≤ v1 then F225_0 (mset h 23 0 (wsub (h 23 0) 1)) else zG (0 ≤ v1 ∧ v1 < 13512) (zG (0 ≤ (wsub v1 1689) ∧ (wsub v1 1689) < 13512) ((F225_1 n) (wadd v1 1) (mset h 17 (wsub v1 1689) (h 17 v1))))
set_option maxRecDepth 100000 in
theorem T225_1 {spec : zRn zH2} {hc : zHC} {o : Int → Int} {d : Nat} (hd : 0 ≤ d) : ∀ (n : Nat) (v1 : Int) (h : zHM) (v : zHM), F225_1 n v1 h = some v → zFin 0 (fun _ => 0) (zRu2 spec d) 225 none (hc, v, o) (13, [some (22, 0), some (0, v1)], [], (hc, h, o)) := by
  intro n
  induction n with
  | zero => intro v1 h v e; unfold F225_1 at e; cases e
  | succ n hk0 =>
    intro v1 h v e
    unfold F225_1 at e
    rcases zI_s e with ⟨q1, e⟩ | ⟨q1, e⟩
    · refine zF_blk (m := []) (d := 1) (b := B225_4) (gs := [13512 ≤ v1]) (c' := (42, [some (22, 0), some (0, v1)], [], (hc, h, o))) K225_4 rfl ⟨q1, trivial⟩ ?_
      refine zF_blk (m := []) (d := 0) (b := B225_2) (gs := []) (c' := (52, [some (22, 0), some (0, v1)], [], (hc, (mset h 23 0 (wsub (h 23 0) 1)), o))) K225_2 rfl trivial ?_
      refine zF_blk (m := [true, false]) (d := 0) (b := []) (gs := []) (c' := (52, [some (22, 0), none], [], (hc, (mset h 23 0 (wsub (h 23 0) 1)), o))) rfl rfl trivial ?_
      exact T225_0 hd (mset h 23 0 (wsub (h 23 0) 1)) _ e
    · refine zF_blk (m := []) (d := 0) (b := B225_4) (gs := [¬ (13512 ≤ v1)]) (c' := (20, [some (22, 0), some (0, v1)], [], (hc, h, o))) K225_4 rfl ⟨q1, trivial⟩ ?_
      obtain ⟨q2, e⟩ := zG_s e
      obtain ⟨q3, e⟩ := zG_s e
      refine zF_blk (m := []) (d := 0) (b := B225_3) (gs := [0 ≤ v1 ∧ v1 < 13512, 0 ≤ (wsub v1 1689) ∧ (wsub v1 1689) < 13512]) (c' := (13, [some (22, 0), some (0, (wadd v1 1))], [], (hc, (mset h 17 (wsub v1 1689) (h 17 v1)), o))) K225_3 rfl ⟨q2, q3, trivial⟩ ?_
      exact hk0 (wadd v1 1) (mset h 17 (wsub v1 1689) (h 17 v1)) _ e
/-- EchoValeModel.snap()V -/
def F225 (h : zHM) : Option zHM := if ¬ (h 23 0) = 8 then F225_0 h else F225_1 zFu 1689 h
set_option maxRecDepth 100000 in
theorem S225 {spec : zRn zH2} {hc : zHC} {o : Int → Int} {d : Nat} (hd : 1 ≤ d) (h : zHM) (v : zHM) (e : F225 h = some v) : zRu2 spec d 225 [(22, 0)] (hc, h, o) none (hc, v, o) := by
  refine zF_in (D := 0) (mx := 2) (L := [some (22, 0), none]) (by decide +kernel) rfl rfl hd (fun d hd => ?_)
  unfold F225 at e
  rcases zI_s e with ⟨q1, e⟩ | ⟨q1, e⟩
  · refine zF_blk (m := []) (d := 1) (b := B225_1) (gs := [¬ (h 23 0) = 8]) (c' := (52, [some (22, 0), none], [], (hc, h, o))) K225_1 rfl ⟨q1, trivial⟩ ?_
    exact T225_0 hd h _ e
  · refine zF_blk (m := []) (d := 0) (b := B225_1) (gs := [¬ (¬ (h 23 0) = 8)]) (c' := (9, [some (22, 0), none], [], (hc, h, o))) K225_1 rfl ⟨q1, trivial⟩ ?_
    refine zF_blk (m := []) (d := 0) (b := B225_0) (gs := []) (c' := (13, [some (22, 0), some (0, 1689)], [], (hc, h, o))) K225_0 rfl trivial ?_
    exact T225_1 hd zFu 1689 h _ e
noncomputable def B223_0 : List zRow := [(0, .aload_n 0, 1, (0, 0, 0)), (1, .iconst 0, 1, (0, 0, 0)), (2, .putfield 81, 3, (12, 0, 0)), (5, .aload_n 0, 1, (0, 0, 0)), (6, .iload_n 1, 1, (0, 0, 0))]
theorem K223_0 : zRk 223 B223_0 = true := zRw_ok (by decide +kernel)
noncomputable def B223_1 : List zRow := [(21, .iconst 0, 1, (0, 0, 0))]
theorem K223_1 : zRk 223 B223_1 = true := zRw_ok (by decide +kernel)
noncomputable def B223_2 : List zRow := [(13, .aload_n 0, 1, (0, 0, 0)), (14, .iload_n 2, 1, (0, 0, 0))]
theorem K223_2 : zRk 223 B223_2 = true := zRw_ok (by decide +kernel)
noncomputable def B223_3 : List zRow := [(23, .aload_n 0, 1, (0, 0, 0))]
theorem K223_3 : zRk 223 B223_3 = true := zRw_ok (by decide +kernel)
noncomputable def B223_4 : List zRow := [(27, .aload_n 0, 1, (0, 0, 0)), (28, .getfield 13, 3, (12, 14, 5251442)), (31, .sipush 210, 3, (0, 0, 0)), (34, .iload_n 1, 1, (0, 0, 0))]
theorem K223_4 : zRk 223 B223_4 = true := zRw_ok (by decide +kernel)
noncomputable def B223_5 : List zRow := [(35, .iadd, 1, (0, 0, 0)), (36, .iload_n 2, 1, (0, 0, 0)), (37, .iastore, 1, (0, 0, 0)), (38, .iconst 1, 1, (0, 0, 0))]
theorem K223_5 : zRk 223 B223_5 = true := zRw_ok (by decide +kernel)
noncomputable def B223_6 : List zRow := [(18, .ifCond .ne 5, 3, (0, 0, 0))]
theorem K223_6 : zRk 223 B223_6 = true := zRw_ok (by decide +kernel)
noncomputable def B223_7 : List zRow := [(10, .ifCond .eq 11, 3, (0, 0, 0))]
theorem K223_7 : zRk 223 B223_7 = true := zRw_ok (by decide +kernel)
/-- EchoValeModel.goes(II)Z -/
def F223 (v1 : Int) (v2 : Int) (h : zHM) : Option (Int × zHM) := (F210 v1 (mset h 0 0 0)).bind fun r1 => if r1 = 0 then some (0, (mset h 0 0 0)) else (F224 v2 (mset h 0 0 0)).bind fun r2 => if ¬ r2 = 0 then (F225 (mset h 0 0 0)).bind fun r3 => zG (0 ≤ (wadd 210 v1) ∧ (wadd 210 v1) < 2140) (some (1, (mset r3 14 (wadd 210 v1) v2))) else some (0, (mset h 0 0 0))
set_option maxRecDepth 100000 in
theorem S223 {spec : zRn zH2} {hc : zHC} {o : Int → Int} {d : Nat} (hd : 2 ≤ d) (v1 : Int) (v2 : Int) (h : zHM) (v : (Int × zHM)) (e : F223 v1 v2 h = some v) : zRu2 spec d 223 [(22, 0), (0, v1), (0, v2)] (hc, h, o) (some (0, v.1)) (hc, v.2, o) := by
  refine zF_in (D := 1) (mx := 3) (L := [some (22, 0), some (0, v1), some (0, v2)]) (by decide +kernel) rfl rfl hd (fun d hd => ?_)
  unfold F223 at e
  obtain ⟨r1, q1, e⟩ := zB_s e
  refine zF_blk (m := []) (d := 0) (b := B223_0) (gs := []) (c' := (7, [some (22, 0), some (0, v1), some (0, v2)], [(0, v1), (22, 0)], (hc, (mset h 0 0 0), o))) K223_0 rfl trivial ?_
  refine zF_call (k := 210) (cl := 12) (n := 2) (i := .invokevirtual 260) (args := [(22, 0), (0, v1)]) (rest := []) (g1 := (hc, (mset h 0 0 0), o)) (r1 := some (0, r1)) (zCk1_w (by decide +kernel)) rfl rfl rfl (st' := [(0, r1)]) rfl (S210 (Nat.le_trans (by decide) hd) v1 (mset h 0 0 0) _ q1) ?_
  rcases zI_s e with ⟨q2, e⟩ | ⟨q2, e⟩
  · refine zF_blk (m := []) (d := 1) (b := B223_7) (gs := [r1 = 0]) (c' := (21, [some (22, 0), some (0, v1), some (0, v2)], [], (hc, (mset h 0 0 0), o))) K223_7 rfl ⟨q2, trivial⟩ ?_
    refine zF_blk (m := []) (d := 0) (b := B223_1) (gs := []) (c' := (22, [some (22, 0), some (0, v1), some (0, v2)], [(0, 0)], (hc, (mset h 0 0 0), o))) K223_1 rfl trivial ?_
    exact zF_rbM (zRe1_w (by decide +kernel)) (Or.inl rfl) e
  · refine zF_blk (m := []) (d := 0) (b := B223_7) (gs := [¬ (r1 = 0)]) (c' := (13, [some (22, 0), some (0, v1), some (0, v2)], [], (hc, (mset h 0 0 0), o))) K223_7 rfl ⟨q2, trivial⟩ ?_
    obtain ⟨r2, q3, e⟩ := zB_s e
    refine zF_blk (m := []) (d := 0) (b := B223_2) (gs := []) (c' := (15, [some (22, 0), some (0, v1), some (0, v2)], [(0, v2), (22, 0)], (hc, (mset h 0 0 0), o))) K223_2 rfl trivial ?_
    refine zF_call (k := 224) (cl := 12) (n := 2) (i := .invokevirtual 305) (args := [(22, 0), (0, v2)]) (rest := []) (g1 := (hc, (mset h 0 0 0), o)) (r1 := some (0, r2)) (zCk1_w (by decide +kernel)) rfl rfl rfl (st' := [(0, r2)]) rfl (S224 (Nat.le_trans (by decide) hd) v2 (mset h 0 0 0) _ q3) ?_
    rcases zI_s e with ⟨q4, e⟩ | ⟨q4, e⟩
    · refine zF_blk (m := []) (d := 1) (b := B223_6) (gs := [¬ r2 = 0]) (c' := (23, [some (22, 0), some (0, v1), some (0, v2)], [], (hc, (mset h 0 0 0), o))) K223_6 rfl ⟨q4, trivial⟩ ?_
      obtain ⟨r3, q5, e⟩ := zB_s e
      refine zF_blk (m := []) (d := 0) (b := B223_3) (gs := []) (c' := (24, [some (22, 0), some (0, v1), some (0, v2)], [(22, 0)], (hc, (mset h 0 0 0), o))) K223_3 rfl trivial ?_
      refine zF_call (k := 225) (cl := 12) (n := 1) (i := .invokevirtual 308) (args := [(22, 0)]) (rest := []) (g1 := (hc, r3, o)) (r1 := none) (zCk1_w (by decide +kernel)) rfl rfl rfl (st' := []) rfl (S225 (Nat.le_trans (by decide) hd)  (mset h 0 0 0) _ q5) ?_
      obtain ⟨q6, e⟩ := zG_s e
      refine zF_blk (m := []) (d := 0) (b := B223_4) (gs := []) (c' := (35, [some (22, 0), some (0, v1), some (0, v2)], [(0, v1), (0, 210), (1344370422, 0)], (hc, r3, o))) K223_4 rfl trivial ?_
      refine zF_blk (m := []) (d := 0) (b := B223_5) (gs := [0 ≤ (wadd 210 v1) ∧ (wadd 210 v1) < 2140]) (c' := (39, [some (22, 0), some (0, v1), some (0, v2)], [(0, 1)], (hc, (mset r3 14 (wadd 210 v1) v2), o))) K223_5 rfl ⟨q6, trivial⟩ ?_
      exact zF_rbM (zRe1_w (by decide +kernel)) (Or.inr rfl) e
    · refine zF_blk (m := []) (d := 0) (b := B223_6) (gs := [¬ (¬ r2 = 0)]) (c' := (21, [some (22, 0), some (0, v1), some (0, v2)], [], (hc, (mset h 0 0 0), o))) K223_6 rfl ⟨q4, trivial⟩ ?_
      refine zF_blk (m := []) (d := 0) (b := B223_1) (gs := []) (c' := (22, [some (22, 0), some (0, v1), some (0, v2)], [(0, 0)], (hc, (mset h 0 0 0), o))) K223_1 rfl trivial ?_
      exact zF_rbM (zRe1_w (by decide +kernel)) (Or.inl rfl) e
noncomputable def B74_0 : List zRow := [(15, .iconst 0, 1, (0, 0, 0))]
theorem K74_0 : zRk 74 B74_0 = true := zRw_ok (by decide +kernel)
noncomputable def B74_1 : List zRow := [(11, .iconst 1, 1, (0, 0, 0)), (12, .goto 4, 3, (0, 0, 0))]
theorem K74_1 : zRk 74 B74_1 = true := zRw_ok (by decide +kernel)
noncomputable def B74_2 : List zRow := [(5, .iload_n 0, 1, (0, 0, 0)), (6, .bipush 9, 2, (0, 0, 0)), (8, .if_icmp .gt 7, 3, (0, 0, 0))]
theorem K74_2 : zRk 74 B74_2 = true := zRw_ok (by decide +kernel)
noncomputable def B74_3 : List zRow := [(0, .iload_n 0, 1, (0, 0, 0)), (1, .iconst 1, 1, (0, 0, 0)), (2, .if_icmp .lt 13, 3, (0, 0, 0))]
theorem K74_3 : zRk 74 B74_3 = true := zRw_ok (by decide +kernel)
/-- EchoVale.isLoud(I)Z -/
def F74 (v0 : Int) : Option Int := if v0 < 1 then some 0 else if 9 < v0 then some 0 else some 1
set_option maxRecDepth 100000 in
theorem S74 {spec : zRn zH2} {hm : zHM} {o : Int → Int} {d : Nat} (hd : 1 ≤ d) (v0 : Int) (h : zHC) (v : Int) (e : F74 v0 = some v) : zRu2 spec d 74 [(0, v0)] (h, hm, o) (some (0, v)) (h, hm, o) := by
  refine zF_in (D := 0) (mx := 1) (L := [some (0, v0)]) (by decide +kernel) rfl rfl hd (fun d hd => ?_)
  unfold F74 at e
  rcases zI_s e with ⟨q1, e⟩ | ⟨q1, e⟩
  · refine zF_blk (m := []) (d := 1) (b := B74_3) (gs := [v0 < 1]) (c' := (15, [some (0, v0)], [], (h, hm, o))) K74_3 rfl ⟨q1, trivial⟩ ?_
    refine zF_blk (m := []) (d := 0) (b := B74_0) (gs := []) (c' := (16, [some (0, v0)], [(0, 0)], (h, hm, o))) K74_0 rfl trivial ?_
    obtain rfl := Option.some.inj e
    exact zF_rb (zRe1_w (by decide +kernel)) (Or.inl rfl)
  · refine zF_blk (m := []) (d := 0) (b := B74_3) (gs := [¬ (v0 < 1)]) (c' := (5, [some (0, v0)], [], (h, hm, o))) K74_3 rfl ⟨q1, trivial⟩ ?_
    rcases zI_s e with ⟨q2, e⟩ | ⟨q2, e⟩
    · refine zF_blk (m := []) (d := 1) (b := B74_2) (gs := [9 < v0]) (c' := (15, [some (0, v0)], [], (h, hm, o))) K74_2 rfl ⟨q2, trivial⟩ ?_
      refine zF_blk (m := []) (d := 0) (b := B74_0) (gs := []) (c' := (16, [some (0, v0)], [(0, 0)], (h, hm, o))) K74_0 rfl trivial ?_
      obtain rfl := Option.some.inj e
      exact zF_rb (zRe1_w (by decide +kernel)) (Or.inl rfl)
    · refine zF_blk (m := []) (d := 0) (b := B74_2) (gs := [¬ (9 < v0)]) (c' := (11, [some (0, v0)], [], (h, hm, o))) K74_2 rfl ⟨q2, trivial⟩ ?_
      refine zF_blk (m := []) (d := 0) (b := B74_1) (gs := []) (c' := (16, [some (0, v0)], [(0, 1)], (h, hm, o))) K74_1 rfl trivial ?_
      obtain rfl := Option.some.inj e
      exact zF_rb (zRe1_w (by decide +kernel)) (Or.inr rfl)
noncomputable def B75_0 : List zRow := [(13, .iconst 0, 1, (0, 0, 0))]
theorem K75_0 : zRk 75 B75_0 = true := zRw_ok (by decide +kernel)
noncomputable def B75_1 : List zRow := [(9, .iconst 1, 1, (0, 0, 0)), (10, .goto 4, 3, (0, 0, 0))]
theorem K75_1 : zRk 75 B75_1 = true := zRw_ok (by decide +kernel)
noncomputable def B75_2 : List zRow := [(0, .aload_n 0, 1, (0, 0, 0)), (1, .getfield 34, 3, (1, 1, 0)), (4, .bipush 30, 2, (0, 0, 0)), (6, .if_icmp .lt 7, 3, (0, 0, 0))]
theorem K75_2 : zRk 75 B75_2 = true := zRw_ok (by decide +kernel)
/-- EchoVale$Course.isFull()Z -/
def F75 (v0 : Int) (h : zHC) : Option Int := if (h 65 v0 0) < 30 then some 0 else some 1
set_option maxRecDepth 100000 in
theorem S75 {spec : zRn zH2} {hm : zHM} {o : Int → Int} {d : Nat} (hd : 1 ≤ d) (v0 : Int) (h : zHC) (v : Int) (e : F75 v0 h = some v) : zRu2 spec d 75 [(11, v0)] (h, hm, o) (some (0, v)) (h, hm, o) := by
  refine zF_in (D := 0) (mx := 1) (L := [some (11, v0)]) (by decide +kernel) rfl rfl hd (fun d hd => ?_)
  unfold F75 at e
  rcases zI_s e with ⟨q1, e⟩ | ⟨q1, e⟩
  · refine zF_blk (m := []) (d := 1) (b := B75_2) (gs := [(h 65 v0 0) < 30]) (c' := (13, [some (11, v0)], [], (h, hm, o))) K75_2 rfl ⟨q1, trivial⟩ ?_
    refine zF_blk (m := []) (d := 0) (b := B75_0) (gs := []) (c' := (14, [some (11, v0)], [(0, 0)], (h, hm, o))) K75_0 rfl trivial ?_
    obtain rfl := Option.some.inj e
    exact zF_rb (zRe1_w (by decide +kernel)) (Or.inl rfl)
  · refine zF_blk (m := []) (d := 0) (b := B75_2) (gs := [¬ ((h 65 v0 0) < 30)]) (c' := (9, [some (11, v0)], [], (h, hm, o))) K75_2 rfl ⟨q1, trivial⟩ ?_
    refine zF_blk (m := []) (d := 0) (b := B75_1) (gs := []) (c' := (14, [some (11, v0)], [(0, 1)], (h, hm, o))) K75_1 rfl trivial ?_
    obtain rfl := Option.some.inj e
    exact zF_rb (zRe1_w (by decide +kernel)) (Or.inr rfl)
noncomputable def B77_0 : List zRow := [(0, .aload_n 0, 1, (0, 0, 0)), (1, .iload_n 1, 1, (0, 0, 0))]
theorem K77_0 : zRk 77 B77_0 = true := zRw_ok (by decide +kernel)
noncomputable def B77_1 : List zRow := [(18, .iload_n 2, 1, (0, 0, 0))]
theorem K77_1 : zRk 77 B77_1 = true := zRw_ok (by decide +kernel)
noncomputable def B77_2 : List zRow := [(8, .iconst 0, 1, (0, 0, 0)), (9, .iload_n 2, 1, (0, 0, 0)), (10, .iconst 2, 1, (0, 0, 0)), (11, .isub, 1, (0, 0, 0)), (12, .invokestatic 97, 3, (5004, 0, 0)), (15, .goto 4, 3, (0, 0, 0))]
theorem K77_2 : zRk 77 B77_2 = true := zRw_ok (by decide +kernel)
noncomputable def B77_3 : List zRow := [(5, .ifCond .eq 13, 3, (0, 0, 0))]
theorem K77_3 : zRk 77 B77_3 = true := zRw_ok (by decide +kernel)
/-- EchoVale$Valley.lessFelt(II)I -/
def F77 (v0 : Int) (v1 : Int) (v2 : Int) (h : zHC) : Option Int := (F47 v0 v1 h).bind fun r1 => if r1 = 0 then some v2 else some (if 0 < (wsub v2 2) then (wsub v2 2) else 0)
set_option maxRecDepth 100000 in
theorem S77 {spec : zRn zH2} {hm : zHM} {o : Int → Int} {d : Nat} (hd : 2 ≤ d) (v0 : Int) (v1 : Int) (v2 : Int) (h : zHC) (v : Int) (e : F77 v0 v1 v2 h = some v) : zRu2 spec d 77 [(19, v0), (0, v1), (0, v2)] (h, hm, o) (some (0, v)) (h, hm, o) := by
  refine zF_in (D := 1) (mx := 3) (L := [some (19, v0), some (0, v1), some (0, v2)]) (by decide +kernel) rfl rfl hd (fun d hd => ?_)
  unfold F77 at e
  obtain ⟨r1, q1, e⟩ := zB_s e
  refine zF_blk (m := []) (d := 0) (b := B77_0) (gs := []) (c' := (2, [some (19, v0), some (0, v1), some (0, v2)], [(0, v1), (19, v0)], (h, hm, o))) K77_0 rfl trivial ?_
  refine zF_call (k := 47) (cl := 9) (n := 2) (i := .invokevirtual 93) (args := [(19, v0), (0, v1)]) (rest := []) (g1 := (h, hm, o)) (r1 := some (0, r1)) (zCk1_w (by decide +kernel)) rfl rfl rfl (st' := [(0, r1)]) rfl (S47 (Nat.le_trans (by decide) hd) v0 v1 h _ q1) ?_
  rcases zI_s e with ⟨q2, e⟩ | ⟨q2, e⟩
  · refine zF_blk (m := []) (d := 1) (b := B77_3) (gs := [r1 = 0]) (c' := (18, [some (19, v0), some (0, v1), some (0, v2)], [], (h, hm, o))) K77_3 rfl ⟨q2, trivial⟩ ?_
    refine zF_blk (m := []) (d := 0) (b := B77_1) (gs := []) (c' := (19, [some (19, v0), some (0, v1), some (0, v2)], [(0, v2)], (h, hm, o))) K77_1 rfl trivial ?_
    obtain rfl := Option.some.inj e
    exact zF_ri (zRe1_w (by decide +kernel))
  · refine zF_blk (m := []) (d := 0) (b := B77_3) (gs := [¬ (r1 = 0)]) (c' := (8, [some (19, v0), some (0, v1), some (0, v2)], [], (h, hm, o))) K77_3 rfl ⟨q2, trivial⟩ ?_
    refine zF_blk (m := []) (d := 0) (b := B77_2) (gs := []) (c' := (19, [some (19, v0), some (0, v1), some (0, v2)], [(0, (if 0 < (wsub v2 2) then (wsub v2 2) else 0))], (h, hm, o))) K77_2 rfl trivial ?_
    obtain rfl := Option.some.inj e
    exact zF_ri (zRe1_w (by decide +kernel))
noncomputable def B81_0 : List zRow := [(59, .iload_n 2, 1, (0, 0, 0)), (60, .iload_n 0, 1, (0, 0, 0)), (61, .if_icmp .le 12, 3, (0, 0, 0))]
theorem K81_0 : zRk 81 B81_0 = true := zRw_ok (by decide +kernel)
noncomputable def B81_1 : List zRow := [(46, .iload_n 1, 1, (0, 0, 0)), (47, .ifCond .ge 12, 3, (0, 0, 0))]
theorem K81_1 : zRk 81 B81_1 = true := zRw_ok (by decide +kernel)
noncomputable def B81_2 : List zRow := [(0, .iload_n 1, 1, (0, 0, 0)), (1, .iload_n 2, 1, (0, 0, 0)), (2, .if_icmp .le 44, 3, (0, 0, 0))]
theorem K81_2 : zRk 81 B81_2 = true := zRw_ok (by decide +kernel)
/-- java/util/Arrays.rangeCheck(III)V -/
def F81 (v0 : Int) (v1 : Int) (v2 : Int) (h : zHC) : Option zHC := if v1 ≤ v2 then if 0 ≤ v1 then if v2 ≤ v0 then some h else none else none else none
set_option maxRecDepth 100000 in
theorem S81 {spec : zRn zH2} {hm : zHM} {o : Int → Int} {d : Nat} (hd : 1 ≤ d) (v0 : Int) (v1 : Int) (v2 : Int) (h : zHC) (v : zHC) (e : F81 v0 v1 v2 h = some v) : zRu2 spec d 81 [(0, v0), (0, v1), (0, v2)] (h, hm, o) none (v, hm, o) := by
  refine zF_in (D := 0) (mx := 3) (L := [some (0, v0), some (0, v1), some (0, v2)]) (by decide +kernel) rfl rfl hd (fun d hd => ?_)
  unfold F81 at e
  rcases zI_s e with ⟨q1, e⟩ | ⟨q1, e⟩
  · refine zF_blk (m := []) (d := 1) (b := B81_2) (gs := [v1 ≤ v2]) (c' := (46, [some (0, v0), some (0, v1), some (0, v2)], [], (h, hm, o))) K81_2 rfl ⟨q1, trivial⟩ ?_
    rcases zI_s e with ⟨q2, e⟩ | ⟨q2, e⟩
    · refine zF_blk (m := []) (d := 1) (b := B81_1) (gs := [0 ≤ v1]) (c' := (59, [some (0, v0), some (0, v1), some (0, v2)], [], (h, hm, o))) K81_1 rfl ⟨q2, trivial⟩ ?_
      rcases zI_s e with ⟨q3, e⟩ | ⟨q3, e⟩
      · refine zF_blk (m := []) (d := 1) (b := B81_0) (gs := [v2 ≤ v0]) (c' := (73, [some (0, v0), some (0, v1), some (0, v2)], [], (h, hm, o))) K81_0 rfl ⟨q3, trivial⟩ ?_
        obtain rfl := Option.some.inj e
        exact zF_rv (zRe1_w (by decide +kernel))
      · refine zF_blk (m := []) (d := 0) (b := B81_0) (gs := [¬ (v2 ≤ v0)]) (c' := (64, [some (0, v0), some (0, v1), some (0, v2)], [], (h, hm, o))) K81_0 rfl ⟨q3, trivial⟩ ?_
        cases e
    · refine zF_blk (m := []) (d := 0) (b := B81_1) (gs := [¬ (0 ≤ v1)]) (c' := (50, [some (0, v0), some (0, v1), some (0, v2)], [], (h, hm, o))) K81_1 rfl ⟨q2, trivial⟩ ?_
      cases e
  · refine zF_blk (m := []) (d := 0) (b := B81_2) (gs := [¬ (v1 ≤ v2)]) (c' := (5, [some (0, v0), some (0, v1), some (0, v2)], [], (h, hm, o))) K81_2 rfl ⟨q1, trivial⟩ ?_
    cases e
noncomputable def B80_0 : List zRow := [(0, .aload_n 0, 1, (0, 0, 0)), (1, .arraylength, 1, (0, 0, 0)), (2, .iload_n 1, 1, (0, 0, 0)), (3, .iload_n 2, 1, (0, 0, 0))]
theorem K80_0 : zRk 80 B80_0 = true := zRw_ok (by decide +kernel)
noncomputable def B80_1 : List zRow := [(7, .iload_n 1, 1, (0, 0, 0)), (8, .istore 4, 2, (0, 0, 0))]
theorem K80_1 : zRk 80 B80_1 = true := zRw_ok (by decide +kernel)
noncomputable def B80_2 : List zRow := [(16, .aload_n 0, 1, (0, 0, 0)), (17, .iload 4, 2, (0, 0, 0)), (19, .iload_n 3, 1, (0, 0, 0)), (20, .iastore, 1, (0, 0, 0)), (21, .iinc 4 1, 3, (0, 0, 0)), (24, .goto (-14), 3, (0, 0, 0))]
theorem K80_2 : zRk 80 B80_2 = true := zRw_ok (by decide +kernel)
noncomputable def B80_3 : List zRow := [(10, .iload 4, 2, (0, 0, 0)), (12, .iload_n 2, 1, (0, 0, 0)), (13, .if_icmp .ge 14, 3, (0, 0, 0))]
theorem K80_3 : zRk 80 B80_3 = true := zRw_ok (by decide +kernel)
def F80_0 : Nat → Int → Int → Int → Int → zHC → Option zHC
  | 0, _, _, _, _, _ => none
  | n + 1, v0, v2, v3, v4, h => if v2 ≤ v4 then some h else zG (0 ≤ v4 ∧ v4 < 180) ((F80_0 n) v0 v2 v3 (wadd v4 1) (hset h 68 v0 v4 v3))
set_option maxRecDepth 100000 in
theorem T80_0 {spec : zRn zH2} {hm : zHM} {o : Int → Int} {d : Nat} (hd : 1 ≤ d) : ∀ (n : Nat) (v0 : Int) (v2 : Int) (v3 : Int) (v4 : Int) (h : zHC) (v : zHC), F80_0 n v0 v2 v3 v4 h = some v → zFin 0 (fun _ => 0) (zRu2 spec d) 80 none (v, hm, o) (10, [some (1342362668, v0), none, some (0, v2), some (0, v3), some (0, v4)], [], (h, hm, o)) := by
  intro n
  induction n with
  | zero => intro v0 v2 v3 v4 h v e; unfold F80_0 at e; cases e
  | succ n hk0 =>
    intro v0 v2 v3 v4 h v e
    unfold F80_0 at e
    rcases zI_s e with ⟨q1, e⟩ | ⟨q1, e⟩
    · refine zF_blk (m := []) (d := 1) (b := B80_3) (gs := [v2 ≤ v4]) (c' := (27, [some (1342362668, v0), none, some (0, v2), some (0, v3), some (0, v4)], [], (h, hm, o))) K80_3 rfl ⟨q1, trivial⟩ ?_
      obtain rfl := Option.some.inj e
      exact zF_rv (zRe1_w (by decide +kernel))
    · refine zF_blk (m := []) (d := 0) (b := B80_3) (gs := [¬ (v2 ≤ v4)]) (c' := (16, [some (1342362668, v0), none, some (0, v2), some (0, v3), some (0, v4)], [], (h, hm, o))) K80_3 rfl ⟨q1, trivial⟩ ?_
      obtain ⟨q2, e⟩ := zG_s e
      refine zF_blk (m := []) (d := 0) (b := B80_2) (gs := [0 ≤ v4 ∧ v4 < 180]) (c' := (10, [some (1342362668, v0), none, some (0, v2), some (0, v3), some (0, (wadd v4 1))], [], ((hset h 68 v0 v4 v3), hm, o))) K80_2 rfl ⟨q2, trivial⟩ ?_
      exact hk0 v0 v2 v3 (wadd v4 1) (hset h 68 v0 v4 v3) _ e
/-- java/util/Arrays.fill([IIII)V -/
def F80 (v0 : Int) (v1 : Int) (v2 : Int) (v3 : Int) (h : zHC) : Option zHC := (F81 180 v1 v2 h).bind fun r1 => F80_0 zFu v0 v2 v3 v1 r1
set_option maxRecDepth 100000 in
theorem S80 {spec : zRn zH2} {hm : zHM} {o : Int → Int} {d : Nat} (hd : 2 ≤ d) (v0 : Int) (v1 : Int) (v2 : Int) (v3 : Int) (h : zHC) (v : zHC) (e : F80 v0 v1 v2 v3 h = some v) : zRu2 spec d 80 [(1342362668, v0), (0, v1), (0, v2), (0, v3)] (h, hm, o) none (v, hm, o) := by
  refine zF_in (D := 1) (mx := 5) (L := [some (1342362668, v0), some (0, v1), some (0, v2), some (0, v3), none]) (by decide +kernel) rfl rfl hd (fun d hd => ?_)
  unfold F80 at e
  obtain ⟨r1, q1, e⟩ := zB_s e
  refine zF_blk (m := []) (d := 0) (b := B80_0) (gs := []) (c' := (4, [some (1342362668, v0), some (0, v1), some (0, v2), some (0, v3), none], [(0, v2), (0, v1), (0, 180)], (h, hm, o))) K80_0 rfl trivial ?_
  refine zF_call (k := 81) (cl := 15) (n := 3) (i := .invokestatic 13) (args := [(0, 180), (0, v1), (0, v2)]) (rest := []) (g1 := (r1, hm, o)) (r1 := none) (zCk1_w (by decide +kernel)) rfl rfl rfl (st' := []) rfl (S81 (Nat.le_trans (by decide) hd) 180 v1 v2 h _ q1) ?_
  refine zF_blk (m := []) (d := 0) (b := B80_1) (gs := []) (c' := (10, [some (1342362668, v0), some (0, v1), some (0, v2), some (0, v3), some (0, v1)], [], (r1, hm, o))) K80_1 rfl trivial ?_
  refine zF_blk (m := [true, false, true, true, true]) (d := 0) (b := []) (gs := []) (c' := (10, [some (1342362668, v0), none, some (0, v2), some (0, v3), some (0, v1)], [], (r1, hm, o))) rfl rfl trivial ?_
  exact T80_0 hd zFu v0 v2 v3 v1 r1 _ e
noncomputable def B86_0 : List zRow := [(0, .ldc 87, 2, (0, 0, 1000000)), (2, .istore_n 2, 1, (0, 0, 0)), (3, .iload_n 1, 1, (0, 0, 0)), (4, .bipush 6, 2, (0, 0, 0)), (6, .imul, 1, (0, 0, 0)), (7, .istore_n 3, 1, (0, 0, 0))]
theorem K86_0 : zRk 86 B86_0 = true := zRw_ok (by decide +kernel)
noncomputable def B86_1 : List zRow := [(54, .aload_n 0, 1, (0, 0, 0)), (55, .getfield 27, 3, (1, 8, 5243002)), (58, .iload_n 1, 1, (0, 0, 0)), (59, .iload_n 2, 1, (0, 0, 0)), (60, .iastore, 1, (0, 0, 0))]
theorem K86_1 : zRk 86 B86_1 = true := zRw_ok (by decide +kernel)
noncomputable def B86_2 : List zRow := [(41, .aload_n 0, 1, (0, 0, 0)), (42, .getfield 15, 3, (1, 4, 5243602)), (45, .iload_n 3, 1, (0, 0, 0)), (46, .iaload, 1, (0, 0, 0)), (47, .istore_n 2, 1, (0, 0, 0))]
theorem K86_2 : zRk 86 B86_2 = true := zRw_ok (by decide +kernel)
noncomputable def B86_3 : List zRow := [(31, .aload_n 0, 1, (0, 0, 0)), (32, .getfield 15, 3, (1, 4, 5243602)), (35, .iload_n 3, 1, (0, 0, 0)), (36, .iaload, 1, (0, 0, 0)), (37, .iload_n 2, 1, (0, 0, 0)), (38, .if_icmp .ge 10, 3, (0, 0, 0))]
theorem K86_3 : zRk 86 B86_3 = true := zRw_ok (by decide +kernel)
noncomputable def B86_4 : List zRow := [(18, .aload_n 0, 1, (0, 0, 0)), (19, .getfield 15, 3, (1, 4, 5243602)), (22, .iload_n 3, 1, (0, 0, 0)), (23, .iaload, 1, (0, 0, 0)), (24, .aload_n 0, 1, (0, 0, 0)), (25, .getfield 30, 3, (1, 0, 0)), (28, .if_icmp .le 20, 3, (0, 0, 0))]
theorem K86_4 : zRk 86 B86_4 = true := zRw_ok (by decide +kernel)
noncomputable def B86_5 : List zRow := [(8, .iload_n 3, 1, (0, 0, 0)), (9, .iload_n 1, 1, (0, 0, 0)), (10, .iconst 1, 1, (0, 0, 0)), (11, .iadd, 1, (0, 0, 0)), (12, .bipush 6, 2, (0, 0, 0)), (14, .imul, 1, (0, 0, 0)), (15, .if_icmp .ge 39, 3, (0, 0, 0))]
theorem K86_5 : zRk 86 B86_5 = true := zRw_ok (by decide +kernel)
noncomputable def B86_6 : List zRow := [(48, .iinc 3 1, 3, (0, 0, 0)), (51, .goto (-43), 3, (0, 0, 0))]
theorem K86_6 : zRk 86 B86_6 = true := zRw_ok (by decide +kernel)
def F86_1 (k0 : Int → Int → Int → Int → zHC → Option zHC) (v0 : Int) (v1 : Int) (v2 : Int) (v3 : Int) (h : zHC) : Option zHC := k0 v0 v1 v2 (wadd v3 1) h
set_option maxRecDepth 100000 in
theorem T86_1 {spec : zRn zH2} {hm : zHM} {o : Int → Int} {d : Nat} (hd : 0 ≤ d) (k0 : Int → Int → Int → Int → zHC → Option zHC) (hk0 : ∀ (v0 : Int) (v1 : Int) (v2 : Int) (v3 : Int) (h : zHC) (v : zHC), k0 v0 v1 v2 v3 h = some v → zFin 0 (fun _ => 0) (zRu2 spec d) 86 none (v, hm, o) (8, [some (11, v0), some (0, v1), some (0, v2), some (0, v3)], [], (h, hm, o))) (v0 : Int) (v1 : Int) (v2 : Int) (v3 : Int) (h : zHC) (v : zHC) (e : F86_1 k0 v0 v1 v2 v3 h = some v) : zFin 0 (fun _ => 0) (zRu2 spec d) 86 none (v, hm, o) (48, [some (11, v0), some (0, v1), some (0, v2), some (0, v3)], [], (h, hm, o)) := by
  unfold F86_1 at e
  refine zF_blk (m := []) (d := 0) (b := B86_6) (gs := []) (c' := (8, [some (11, v0), some (0, v1), some (0, v2), some (0, (wadd v3 1))], [], (h, hm, o))) K86_6 rfl trivial ?_
  exact hk0 v0 v1 v2 (wadd v3 1) h _ e
def F86_0 : Nat → Int → Int → Int → Int → zHC → Option zHC
  | 0, _, _, _, _, _ => none
  | n + 1, v0, v1, v2, v3, h => if (wmul (wadd v1 1) 6) ≤ v3 then zG (0 ≤ v1 ∧ v1 < 30) (some (hset h 72 v0 v1 v2)) else zG (0 ≤ v3 ∧ v3 < 180) (if (h 68 v0 v3) ≤ (h 64 v0 0) then F86_1 (F86_0 n) v0 v1 v2 v3 h else zG (0 ≤ v3 ∧ v3 < 180) (if v2 ≤ (h 68 v0 v3) then F86_1 (F86_0 n) v0 v1 v2 v3 h else zG (0 ≤ v3 ∧ v3 < 180) (F86_1 (F86_0 n) v0 v1 (h 68 v0 v3) v3 h)))
set_option maxRecDepth 100000 in
theorem T86_0 {spec : zRn zH2} {hm : zHM} {o : Int → Int} {d : Nat} (hd : 0 ≤ d) : ∀ (n : Nat) (v0 : Int) (v1 : Int) (v2 : Int) (v3 : Int) (h : zHC) (v : zHC), F86_0 n v0 v1 v2 v3 h = some v → zFin 0 (fun _ => 0) (zRu2 spec d) 86 none (v, hm, o) (8, [some (11, v0), some (0, v1), some (0, v2), some (0, v3)], [], (h, hm, o)) := by
  intro n
  induction n with
  | zero => intro v0 v1 v2 v3 h v e; unfold F86_0 at e; cases e
  | succ n hk0 =>
    intro v0 v1 v2 v3 h v e
    unfold F86_0 at e
    rcases zI_s e with ⟨q1, e⟩ | ⟨q1, e⟩
    · refine zF_blk (m := []) (d := 1) (b := B86_5) (gs := [(wmul (wadd v1 1) 6) ≤ v3]) (c' := (54, [some (11, v0), some (0, v1), some (0, v2), some (0, v3)], [], (h, hm, o))) K86_5 rfl ⟨q1, trivial⟩ ?_
      obtain ⟨q2, e⟩ := zG_s e
      refine zF_blk (m := []) (d := 0) (b := B86_1) (gs := [0 ≤ v1 ∧ v1 < 30]) (c' := (61, [some (11, v0), some (0, v1), some (0, v2), some (0, v3)], [], ((hset h 72 v0 v1 v2), hm, o))) K86_1 rfl ⟨q2, trivial⟩ ?_
      obtain rfl := Option.some.inj e
      exact zF_rv (zRe1_w (by decide +kernel))
    · refine zF_blk (m := []) (d := 0) (b := B86_5) (gs := [¬ ((wmul (wadd v1 1) 6) ≤ v3)]) (c' := (18, [some (11, v0), some (0, v1), some (0, v2), some (0, v3)], [], (h, hm, o))) K86_5 rfl ⟨q1, trivial⟩ ?_
      obtain ⟨q3, e⟩ := zG_s e
      rcases zI_s e with ⟨q4, e⟩ | ⟨q4, e⟩
      · refine zF_blk (m := []) (d := 1) (b := B86_4) (gs := [0 ≤ v3 ∧ v3 < 180, (h 68 v0 v3) ≤ (h 64 v0 0)]) (c' := (48, [some (11, v0), some (0, v1), some (0, v2), some (0, v3)], [], (h, hm, o))) K86_4 rfl ⟨q3, q4, trivial⟩ ?_
        exact T86_1 hd (F86_0 n) hk0 v0 v1 v2 v3 h _ e
      · refine zF_blk (m := []) (d := 0) (b := B86_4) (gs := [0 ≤ v3 ∧ v3 < 180, ¬ ((h 68 v0 v3) ≤ (h 64 v0 0))]) (c' := (31, [some (11, v0), some (0, v1), some (0, v2), some (0, v3)], [], (h, hm, o))) K86_4 rfl ⟨q3, q4, trivial⟩ ?_
        obtain ⟨q5, e⟩ := zG_s e
        rcases zI_s e with ⟨q6, e⟩ | ⟨q6, e⟩
        · refine zF_blk (m := []) (d := 1) (b := B86_3) (gs := [0 ≤ v3 ∧ v3 < 180, v2 ≤ (h 68 v0 v3)]) (c' := (48, [some (11, v0), some (0, v1), some (0, v2), some (0, v3)], [], (h, hm, o))) K86_3 rfl ⟨q5, q6, trivial⟩ ?_
          exact T86_1 hd (F86_0 n) hk0 v0 v1 v2 v3 h _ e
        · refine zF_blk (m := []) (d := 0) (b := B86_3) (gs := [0 ≤ v3 ∧ v3 < 180, ¬ (v2 ≤ (h 68 v0 v3))]) (c' := (41, [some (11, v0), some (0, v1), some (0, v2), some (0, v3)], [], (h, hm, o))) K86_3 rfl ⟨q5, q6, trivial⟩ ?_
          obtain ⟨q7, e⟩ := zG_s e
          refine zF_blk (m := []) (d := 0) (b := B86_2) (gs := [0 ≤ v3 ∧ v3 < 180]) (c' := (48, [some (11, v0), some (0, v1), some (0, (h 68 v0 v3)), some (0, v3)], [], (h, hm, o))) K86_2 rfl ⟨q7, trivial⟩ ?_
          exact T86_1 hd (F86_0 n) hk0 v0 v1 (h 68 v0 v3) v3 h _ e
/-- EchoVale$Course.findSoonest(I)V -/
def F86 (v0 : Int) (v1 : Int) (h : zHC) : Option zHC := F86_0 zFu v0 v1 1000000 (wmul v1 6) h
set_option maxRecDepth 100000 in
theorem S86 {spec : zRn zH2} {hm : zHM} {o : Int → Int} {d : Nat} (hd : 1 ≤ d) (v0 : Int) (v1 : Int) (h : zHC) (v : zHC) (e : F86 v0 v1 h = some v) : zRu2 spec d 86 [(11, v0), (0, v1)] (h, hm, o) none (v, hm, o) := by
  refine zF_in (D := 0) (mx := 4) (L := [some (11, v0), some (0, v1), none, none]) (by decide +kernel) rfl rfl hd (fun d hd => ?_)
  unfold F86 at e
  refine zF_blk (m := []) (d := 0) (b := B86_0) (gs := []) (c' := (8, [some (11, v0), some (0, v1), some (0, 1000000), some (0, (wmul v1 6))], [], (h, hm, o))) K86_0 rfl trivial ?_
  exact T86_0 hd zFu v0 v1 1000000 (wmul v1 6) h _ e
noncomputable def B83_0 : List zRow := [(0, .iload_n 0, 1, (0, 0, 0)), (1, .bipush 10, 2, (0, 0, 0)), (3, .idiv, 1, (0, 0, 0)), (4, .iload_n 1, 1, (0, 0, 0)), (5, .bipush 10, 2, (0, 0, 0)), (7, .idiv, 1, (0, 0, 0)), (8, .isub, 1, (0, 0, 0)), (9, .invokestatic 80, 3, (5002, 0, 0)), (12, .iload_n 0, 1, (0, 0, 0)), (13, .bipush 10, 2, (0, 0, 0)), (15, .irem, 1, (0, 0, 0)), (16, .iload_n 1, 1, (0, 0, 0)), (17, .bipush 10, 2, (0, 0, 0)), (19, .irem, 1, (0, 0, 0)), (20, .isub, 1, (0, 0, 0)), (21, .invokestatic 80, 3, (5002, 0, 0)), (24, .iadd, 1, (0, 0, 0))]
theorem K83_0 : zRk 83 B83_0 = true := zRw_ok (by decide +kernel)
/-- EchoVale$Valley.distance(II)I -/
def F83 (v0 : Int) (v1 : Int) : Option Int := some (wadd (if (wsub (wdiv v0 10) (wdiv v1 10)) < 0 then wneg (wsub (wdiv v0 10) (wdiv v1 10)) else (wsub (wdiv v0 10) (wdiv v1 10))) (if (wsub (wrem v0 10) (wrem v1 10)) < 0 then wneg (wsub (wrem v0 10) (wrem v1 10)) else (wsub (wrem v0 10) (wrem v1 10))))
set_option maxRecDepth 100000 in
theorem S83 {spec : zRn zH2} {hm : zHM} {o : Int → Int} {d : Nat} (hd : 1 ≤ d) (v0 : Int) (v1 : Int) (h : zHC) (v : Int) (e : F83 v0 v1 = some v) : zRu2 spec d 83 [(0, v0), (0, v1)] (h, hm, o) (some (0, v)) (h, hm, o) := by
  refine zF_in (D := 0) (mx := 2) (L := [some (0, v0), some (0, v1)]) (by decide +kernel) rfl rfl hd (fun d hd => ?_)
  unfold F83 at e
  refine zF_blk (m := []) (d := 0) (b := B83_0) (gs := [¬ 10 = 0, ¬ 10 = 0, ¬ 10 = 0, ¬ 10 = 0]) (c' := (25, [some (0, v0), some (0, v1)], [(0, (wadd (if (wsub (wdiv v0 10) (wdiv v1 10)) < 0 then wneg (wsub (wdiv v0 10) (wdiv v1 10)) else (wsub (wdiv v0 10) (wdiv v1 10))) (if (wsub (wrem v0 10) (wrem v1 10)) < 0 then wneg (wsub (wrem v0 10) (wrem v1 10)) else (wsub (wrem v0 10) (wrem v1 10)))))], (h, hm, o))) K83_0 rfl ⟨by decide, by decide, by decide, by decide, trivial⟩ ?_
  obtain rfl := Option.some.inj e
  exact zF_ri (zRe1_w (by decide +kernel))
noncomputable def B82_0 : List zRow := [(0, .aload_n 0, 1, (0, 0, 0)), (1, .getfield 15, 3, (9, 8, 5242906)), (4, .iload_n 1, 1, (0, 0, 0)), (5, .iaload, 1, (0, 0, 0)), (6, .iload_n 2, 1, (0, 0, 0))]
theorem K82_0 : zRk 82 B82_0 = true := zRw_ok (by decide +kernel)
noncomputable def B82_1 : List zRow := [(32, .iconst 0, 1, (0, 0, 0))]
theorem K82_1 : zRk 82 B82_1 = true := zRw_ok (by decide +kernel)
noncomputable def B82_2 : List zRow := [(23, .iload_n 3, 1, (0, 0, 0)), (24, .iload 4, 2, (0, 0, 0)), (26, .iconst 2, 1, (0, 0, 0)), (27, .idiv, 1, (0, 0, 0)), (28, .isub, 1, (0, 0, 0)), (29, .goto 4, 3, (0, 0, 0))]
theorem K82_2 : zRk 82 B82_2 = true := zRw_ok (by decide +kernel)
noncomputable def B82_3 : List zRow := [(17, .iload 4, 2, (0, 0, 0)), (19, .iload_n 3, 1, (0, 0, 0)), (20, .if_icmp .gt 12, 3, (0, 0, 0))]
theorem K82_3 : zRk 82 B82_3 = true := zRw_ok (by decide +kernel)
noncomputable def B82_4 : List zRow := [(10, .istore 4, 2, (0, 0, 0)), (12, .iload_n 3, 1, (0, 0, 0)), (13, .iconst 1, 1, (0, 0, 0)), (14, .if_icmp .lt 18, 3, (0, 0, 0))]
theorem K82_4 : zRk 82 B82_4 = true := zRw_ok (by decide +kernel)
/-- EchoVale$Valley.directly(III)I -/
def F82 (v0 : Int) (v1 : Int) (v2 : Int) (v3 : Int) (h : zHC) : Option Int := zG (0 ≤ v1 ∧ v1 < 6) ((F83 (h 584 v0 v1) v2).bind fun r1 => if v3 < 1 then some 0 else if v3 < r1 then some 0 else some (wsub v3 (wdiv r1 2)))
set_option maxRecDepth 100000 in
theorem S82 {spec : zRn zH2} {hm : zHM} {o : Int → Int} {d : Nat} (hd : 2 ≤ d) (v0 : Int) (v1 : Int) (v2 : Int) (v3 : Int) (h : zHC) (v : Int) (e : F82 v0 v1 v2 v3 h = some v) : zRu2 spec d 82 [(19, v0), (0, v1), (0, v2), (0, v3)] (h, hm, o) (some (0, v)) (h, hm, o) := by
  refine zF_in (D := 1) (mx := 5) (L := [some (19, v0), some (0, v1), some (0, v2), some (0, v3), none]) (by decide +kernel) rfl rfl hd (fun d hd => ?_)
  unfold F82 at e
  obtain ⟨q1, e⟩ := zG_s e
  obtain ⟨r1, q2, e⟩ := zB_s e
  refine zF_blk (m := []) (d := 0) (b := B82_0) (gs := [0 ≤ v1 ∧ v1 < 6]) (c' := (7, [some (19, v0), some (0, v1), some (0, v2), some (0, v3), none], [(0, v2), (0, (h 584 v0 v1))], (h, hm, o))) K82_0 rfl ⟨q1, trivial⟩ ?_
  refine zF_call (k := 83) (cl := 9) (n := 2) (i := .invokestatic 101) (args := [(0, (h 584 v0 v1)), (0, v2)]) (rest := []) (g1 := (h, hm, o)) (r1 := some (0, r1)) (zCk1_w (by decide +kernel)) rfl rfl rfl (st' := [(0, r1)]) rfl (S83 (Nat.le_trans (by decide) hd) (h 584 v0 v1) v2 h _ q2) ?_
  rcases zI_s e with ⟨q3, e⟩ | ⟨q3, e⟩
  · refine zF_blk (m := []) (d := 1) (b := B82_4) (gs := [v3 < 1]) (c' := (32, [some (19, v0), some (0, v1), some (0, v2), some (0, v3), some (0, r1)], [], (h, hm, o))) K82_4 rfl ⟨q3, trivial⟩ ?_
    refine zF_blk (m := []) (d := 0) (b := B82_1) (gs := []) (c' := (33, [some (19, v0), some (0, v1), some (0, v2), some (0, v3), some (0, r1)], [(0, 0)], (h, hm, o))) K82_1 rfl trivial ?_
    obtain rfl := Option.some.inj e
    exact zF_ri (zRe1_w (by decide +kernel))
  · refine zF_blk (m := []) (d := 0) (b := B82_4) (gs := [¬ (v3 < 1)]) (c' := (17, [some (19, v0), some (0, v1), some (0, v2), some (0, v3), some (0, r1)], [], (h, hm, o))) K82_4 rfl ⟨q3, trivial⟩ ?_
    rcases zI_s e with ⟨q4, e⟩ | ⟨q4, e⟩
    · refine zF_blk (m := []) (d := 1) (b := B82_3) (gs := [v3 < r1]) (c' := (32, [some (19, v0), some (0, v1), some (0, v2), some (0, v3), some (0, r1)], [], (h, hm, o))) K82_3 rfl ⟨q4, trivial⟩ ?_
      refine zF_blk (m := []) (d := 0) (b := B82_1) (gs := []) (c' := (33, [some (19, v0), some (0, v1), some (0, v2), some (0, v3), some (0, r1)], [(0, 0)], (h, hm, o))) K82_1 rfl trivial ?_
      obtain rfl := Option.some.inj e
      exact zF_ri (zRe1_w (by decide +kernel))
    · refine zF_blk (m := []) (d := 0) (b := B82_3) (gs := [¬ (v3 < r1)]) (c' := (23, [some (19, v0), some (0, v1), some (0, v2), some (0, v3), some (0, r1)], [], (h, hm, o))) K82_3 rfl ⟨q4, trivial⟩ ?_
      refine zF_blk (m := []) (d := 0) (b := B82_2) (gs := [¬ 2 = 0]) (c' := (33, [some (19, v0), some (0, v1), some (0, v2), some (0, v3), some (0, r1)], [(0, (wsub v3 (wdiv r1 2)))], (h, hm, o))) K82_2 rfl ⟨by decide, trivial⟩ ?_
      obtain rfl := Option.some.inj e
      exact zF_ri (zRe1_w (by decide +kernel))
noncomputable def B85_0 : List zRow := [(46, .iconst 1, 1, (0, 0, 0)), (47, .goto 4, 3, (0, 0, 0))]
theorem K85_0 : zRk 85 B85_0 = true := zRw_ok (by decide +kernel)
noncomputable def B85_1 : List zRow := [(32, .aload_n 0, 1, (0, 0, 0)), (33, .getfield 15, 3, (1, 4, 5243602)), (36, .iload 5, 2, (0, 0, 0)), (38, .iaload, 1, (0, 0, 0)), (39, .aload_n 0, 1, (0, 0, 0)), (40, .getfield 30, 3, (1, 0, 0)), (43, .if_icmp .gt 7, 3, (0, 0, 0))]
theorem K85_1 : zRk 85 B85_1 = true := zRw_ok (by decide +kernel)
noncomputable def B85_2 : List zRow := [(0, .iload_n 2, 1, (0, 0, 0)), (1, .bipush 6, 2, (0, 0, 0)), (3, .imul, 1, (0, 0, 0)), (4, .iload_n 3, 1, (0, 0, 0)), (5, .iadd, 1, (0, 0, 0)), (6, .istore 5, 2, (0, 0, 0)), (8, .aload_n 0, 1, (0, 0, 0)), (9, .getfield 30, 3, (1, 0, 0)), (12, .aload_n 1, 1, (0, 0, 0)), (13, .getfield 84, 3, (9, 9, 5242906)), (16, .iload_n 3, 1, (0, 0, 0)), (17, .iaload, 1, (0, 0, 0)), (18, .iadd, 1, (0, 0, 0)), (19, .istore 6, 2, (0, 0, 0)), (21, .aload_n 0, 1, (0, 0, 0)), (22, .getfield 15, 3, (1, 4, 5243602)), (25, .iload 5, 2, (0, 0, 0)), (27, .iaload, 1, (0, 0, 0)), (28, .iconst (-1), 1, (0, 0, 0)), (29, .if_icmp .eq 21, 3, (0, 0, 0))]
theorem K85_2 : zRk 85 B85_2 = true := zRw_ok (by decide +kernel)
noncomputable def B85_3 : List zRow := [(100, .iload 4, 2, (0, 0, 0)), (102, .aload_n 0, 1, (0, 0, 0)), (103, .getfield 18, 3, (1, 5, 5243602)), (106, .iload 5, 2, (0, 0, 0)), (108, .iaload, 1, (0, 0, 0)), (109, .if_icmp .le 21, 3, (0, 0, 0))]
theorem K85_3 : zRk 85 B85_3 = true := zRw_ok (by decide +kernel)
noncomputable def B85_4 : List zRow := [(88, .iload 6, 2, (0, 0, 0)), (90, .aload_n 0, 1, (0, 0, 0)), (91, .getfield 15, 3, (1, 4, 5243602)), (94, .iload 5, 2, (0, 0, 0)), (96, .iaload, 1, (0, 0, 0)), (97, .if_icmp .ne 33, 3, (0, 0, 0))]
theorem K85_4 : zRk 85 B85_4 = true := zRw_ok (by decide +kernel)
noncomputable def B85_5 : List zRow := [(76, .iload 6, 2, (0, 0, 0)), (78, .aload_n 0, 1, (0, 0, 0)), (79, .getfield 15, 3, (1, 4, 5243602)), (82, .iload 5, 2, (0, 0, 0)), (84, .iaload, 1, (0, 0, 0)), (85, .if_icmp .lt 27, 3, (0, 0, 0))]
theorem K85_5 : zRk 85 B85_5 = true := zRw_ok (by decide +kernel)
noncomputable def B85_6 : List zRow := [(65, .aload_n 0, 1, (0, 0, 0)), (66, .getfield 15, 3, (1, 4, 5243602)), (69, .iload 5, 2, (0, 0, 0)), (71, .iaload, 1, (0, 0, 0)), (72, .iconst (-1), 1, (0, 0, 0)), (73, .if_icmp .eq 39, 3, (0, 0, 0))]
theorem K85_6 : zRk 85 B85_6 = true := zRw_ok (by decide +kernel)
noncomputable def B85_7 : List zRow := [(59, .iload 7, 2, (0, 0, 0)), (61, .ifCond .eq 4, 3, (0, 0, 0))]
theorem K85_7 : zRk 85 B85_7 = true := zRw_ok (by decide +kernel)
noncomputable def B85_8 : List zRow := [(51, .istore 7, 2, (0, 0, 0)), (53, .iload 4, 2, (0, 0, 0)), (55, .iconst 1, 1, (0, 0, 0)), (56, .if_icmp .lt 8, 3, (0, 0, 0))]
theorem K85_8 : zRk 85 B85_8 = true := zRw_ok (by decide +kernel)
noncomputable def B85_9 : List zRow := [(112, .aload_n 0, 1, (0, 0, 0)), (113, .getfield 15, 3, (1, 4, 5243602)), (116, .iload 5, 2, (0, 0, 0)), (118, .iload 6, 2, (0, 0, 0)), (120, .iastore, 1, (0, 0, 0)), (121, .aload_n 0, 1, (0, 0, 0)), (122, .getfield 18, 3, (1, 5, 5243602)), (125, .iload 5, 2, (0, 0, 0)), (127, .iload 4, 2, (0, 0, 0)), (129, .iastore, 1, (0, 0, 0))]
theorem K85_9 : zRk 85 B85_9 = true := zRw_ok (by decide +kernel)
noncomputable def B85_10 : List zRow := [(50, .iconst 0, 1, (0, 0, 0))]
theorem K85_10 : zRk 85 B85_10 = true := zRw_ok (by decide +kernel)
def F85_2 (v0 : Int) (v4 : Int) (v5 : Int) (v6 : Int) (h : zHC) : Option zHC := zG (0 ≤ v5 ∧ v5 < 180) (zG (0 ≤ v5 ∧ v5 < 180) (some (hset (hset h 68 v0 v5 v6) 69 v0 v5 v4)))
set_option maxRecDepth 100000 in
theorem T85_2 {spec : zRn zH2} {hm : zHM} {o : Int → Int} {d : Nat} (hd : 0 ≤ d) (v0 : Int) (v4 : Int) (v5 : Int) (v6 : Int) (h : zHC) (v : zHC) (e : F85_2 v0 v4 v5 v6 h = some v) : zFin 0 (fun _ => 0) (zRu2 spec d) 85 none (v, hm, o) (112, [some (11, v0), none, none, none, some (0, v4), some (0, v5), some (0, v6), none], [], (h, hm, o)) := by
  unfold F85_2 at e
  obtain ⟨q1, e⟩ := zG_s e
  obtain ⟨q1, e⟩ := zG_s e
  refine zF_blk (m := []) (d := 0) (b := B85_9) (gs := [0 ≤ v5 ∧ v5 < 180, 0 ≤ v5 ∧ v5 < 180]) (c' := (130, [some (11, v0), none, none, none, some (0, v4), some (0, v5), some (0, v6), none], [], ((hset (hset h 68 v0 v5 v6) 69 v0 v5 v4), hm, o))) K85_9 rfl ⟨q1, q1, trivial⟩ ?_
  obtain rfl := Option.some.inj e
  exact zF_rv (zRe1_w (by decide +kernel))
def F85_1 (v0 : Int) (v4 : Int) (v5 : Int) (v6 : Int) (s0 : Int) (h : zHC) : Option zHC := if v4 < 1 then some h else if s0 = 0 then zG (0 ≤ v5 ∧ v5 < 180) (if (h 68 v0 v5) = (-1) then F85_2 v0 v4 v5 v6 h else zG (0 ≤ v5 ∧ v5 < 180) (if v6 < (h 68 v0 v5) then F85_2 v0 v4 v5 v6 h else zG (0 ≤ v5 ∧ v5 < 180) (if ¬ v6 = (h 68 v0 v5) then some h else zG (0 ≤ v5 ∧ v5 < 180) (if v4 ≤ (h 69 v0 v5) then some h else F85_2 v0 v4 v5 v6 h)))) else some h
set_option maxRecDepth 100000 in
theorem T85_1 {spec : zRn zH2} {hm : zHM} {o : Int → Int} {d : Nat} (hd : 0 ≤ d) (v0 : Int) (v4 : Int) (v5 : Int) (v6 : Int) (s0 : Int) (h : zHC) (v : zHC) (e : F85_1 v0 v4 v5 v6 s0 h = some v) : zFin 0 (fun _ => 0) (zRu2 spec d) 85 none (v, hm, o) (51, [some (11, v0), none, none, none, some (0, v4), some (0, v5), some (0, v6), none], [(0, s0)], (h, hm, o)) := by
  unfold F85_1 at e
  rcases zI_s e with ⟨q1, e⟩ | ⟨q1, e⟩
  · refine zF_blk (m := []) (d := 1) (b := B85_8) (gs := [v4 < 1]) (c' := (64, [some (11, v0), none, none, none, some (0, v4), some (0, v5), some (0, v6), some (0, s0)], [], (h, hm, o))) K85_8 rfl ⟨q1, trivial⟩ ?_
    obtain rfl := Option.some.inj e
    exact zF_rv (zRe1_w (by decide +kernel))
  · refine zF_blk (m := []) (d := 0) (b := B85_8) (gs := [¬ (v4 < 1)]) (c' := (59, [some (11, v0), none, none, none, some (0, v4), some (0, v5), some (0, v6), some (0, s0)], [], (h, hm, o))) K85_8 rfl ⟨q1, trivial⟩ ?_
    rcases zI_s e with ⟨q2, e⟩ | ⟨q2, e⟩
    · refine zF_blk (m := []) (d := 1) (b := B85_7) (gs := [s0 = 0]) (c' := (65, [some (11, v0), none, none, none, some (0, v4), some (0, v5), some (0, v6), some (0, s0)], [], (h, hm, o))) K85_7 rfl ⟨q2, trivial⟩ ?_
      obtain ⟨q3, e⟩ := zG_s e
      rcases zI_s e with ⟨q4, e⟩ | ⟨q4, e⟩
      · refine zF_blk (m := []) (d := 1) (b := B85_6) (gs := [0 ≤ v5 ∧ v5 < 180, (h 68 v0 v5) = (-1)]) (c' := (112, [some (11, v0), none, none, none, some (0, v4), some (0, v5), some (0, v6), some (0, s0)], [], (h, hm, o))) K85_6 rfl ⟨q3, q4, trivial⟩ ?_
        refine zF_blk (m := [true, false, false, false, true, true, true, false]) (d := 0) (b := []) (gs := []) (c' := (112, [some (11, v0), none, none, none, some (0, v4), some (0, v5), some (0, v6), none], [], (h, hm, o))) rfl rfl trivial ?_
        exact T85_2 hd v0 v4 v5 v6 h _ e
      · refine zF_blk (m := []) (d := 0) (b := B85_6) (gs := [0 ≤ v5 ∧ v5 < 180, ¬ ((h 68 v0 v5) = (-1))]) (c' := (76, [some (11, v0), none, none, none, some (0, v4), some (0, v5), some (0, v6), some (0, s0)], [], (h, hm, o))) K85_6 rfl ⟨q3, q4, trivial⟩ ?_
        obtain ⟨q5, e⟩ := zG_s e
        rcases zI_s e with ⟨q6, e⟩ | ⟨q6, e⟩
        · refine zF_blk (m := []) (d := 1) (b := B85_5) (gs := [0 ≤ v5 ∧ v5 < 180, v6 < (h 68 v0 v5)]) (c' := (112, [some (11, v0), none, none, none, some (0, v4), some (0, v5), some (0, v6), some (0, s0)], [], (h, hm, o))) K85_5 rfl ⟨q5, q6, trivial⟩ ?_
          refine zF_blk (m := [true, false, false, false, true, true, true, false]) (d := 0) (b := []) (gs := []) (c' := (112, [some (11, v0), none, none, none, some (0, v4), some (0, v5), some (0, v6), none], [], (h, hm, o))) rfl rfl trivial ?_
          exact T85_2 hd v0 v4 v5 v6 h _ e
        · refine zF_blk (m := []) (d := 0) (b := B85_5) (gs := [0 ≤ v5 ∧ v5 < 180, ¬ (v6 < (h 68 v0 v5))]) (c' := (88, [some (11, v0), none, none, none, some (0, v4), some (0, v5), some (0, v6), some (0, s0)], [], (h, hm, o))) K85_5 rfl ⟨q5, q6, trivial⟩ ?_
          obtain ⟨q7, e⟩ := zG_s e
          rcases zI_s e with ⟨q8, e⟩ | ⟨q8, e⟩
          · refine zF_blk (m := []) (d := 1) (b := B85_4) (gs := [0 ≤ v5 ∧ v5 < 180, ¬ v6 = (h 68 v0 v5)]) (c' := (130, [some (11, v0), none, none, none, some (0, v4), some (0, v5), some (0, v6), some (0, s0)], [], (h, hm, o))) K85_4 rfl ⟨q7, q8, trivial⟩ ?_
            obtain rfl := Option.some.inj e
            exact zF_rv (zRe1_w (by decide +kernel))
          · refine zF_blk (m := []) (d := 0) (b := B85_4) (gs := [0 ≤ v5 ∧ v5 < 180, ¬ (¬ v6 = (h 68 v0 v5))]) (c' := (100, [some (11, v0), none, none, none, some (0, v4), some (0, v5), some (0, v6), some (0, s0)], [], (h, hm, o))) K85_4 rfl ⟨q7, q8, trivial⟩ ?_
            obtain ⟨q9, e⟩ := zG_s e
            rcases zI_s e with ⟨q10, e⟩ | ⟨q10, e⟩
            · refine zF_blk (m := []) (d := 1) (b := B85_3) (gs := [0 ≤ v5 ∧ v5 < 180, v4 ≤ (h 69 v0 v5)]) (c' := (130, [some (11, v0), none, none, none, some (0, v4), some (0, v5), some (0, v6), some (0, s0)], [], (h, hm, o))) K85_3 rfl ⟨q9, q10, trivial⟩ ?_
              obtain rfl := Option.some.inj e
              exact zF_rv (zRe1_w (by decide +kernel))
            · refine zF_blk (m := []) (d := 0) (b := B85_3) (gs := [0 ≤ v5 ∧ v5 < 180, ¬ (v4 ≤ (h 69 v0 v5))]) (c' := (112, [some (11, v0), none, none, none, some (0, v4), some (0, v5), some (0, v6), some (0, s0)], [], (h, hm, o))) K85_3 rfl ⟨q9, q10, trivial⟩ ?_
              refine zF_blk (m := [true, false, false, false, true, true, true, false]) (d := 0) (b := []) (gs := []) (c' := (112, [some (11, v0), none, none, none, some (0, v4), some (0, v5), some (0, v6), none], [], (h, hm, o))) rfl rfl trivial ?_
              exact T85_2 hd v0 v4 v5 v6 h _ e
    · refine zF_blk (m := []) (d := 0) (b := B85_7) (gs := [¬ (s0 = 0)]) (c' := (64, [some (11, v0), none, none, none, some (0, v4), some (0, v5), some (0, v6), some (0, s0)], [], (h, hm, o))) K85_7 rfl ⟨q2, trivial⟩ ?_
      obtain rfl := Option.some.inj e
      exact zF_rv (zRe1_w (by decide +kernel))
def F85_0 (v0 : Int) (v4 : Int) (v5 : Int) (v6 : Int) (h : zHC) : Option zHC := F85_1 v0 v4 v5 v6 0 h
set_option maxRecDepth 100000 in
theorem T85_0 {spec : zRn zH2} {hm : zHM} {o : Int → Int} {d : Nat} (hd : 0 ≤ d) (v0 : Int) (v4 : Int) (v5 : Int) (v6 : Int) (h : zHC) (v : zHC) (e : F85_0 v0 v4 v5 v6 h = some v) : zFin 0 (fun _ => 0) (zRu2 spec d) 85 none (v, hm, o) (50, [some (11, v0), none, none, none, some (0, v4), some (0, v5), some (0, v6), none], [], (h, hm, o)) := by
  unfold F85_0 at e
  refine zF_blk (m := []) (d := 0) (b := B85_10) (gs := []) (c' := (51, [some (11, v0), none, none, none, some (0, v4), some (0, v5), some (0, v6), none], [(0, 0)], (h, hm, o))) K85_10 rfl trivial ?_
  exact T85_1 hd v0 v4 v5 v6 0 h _ e
/-- EchoVale$Course.offer(LEchoVale$Valley;III)V -/
def F85 (v0 : Int) (v1 : Int) (v2 : Int) (v3 : Int) (v4 : Int) (h : zHC) : Option zHC := zG (0 ≤ v3 ∧ v3 < 6) (zG (0 ≤ (wadd (wmul v2 6) v3) ∧ (wadd (wmul v2 6) v3) < 180) (if (h 68 v0 (wadd (wmul v2 6) v3)) = (-1) then F85_0 v0 v4 (wadd (wmul v2 6) v3) (wadd (h 64 v0 0) (h 585 v1 v3)) h else zG (0 ≤ (wadd (wmul v2 6) v3) ∧ (wadd (wmul v2 6) v3) < 180) (if (h 64 v0 0) < (h 68 v0 (wadd (wmul v2 6) v3)) then F85_0 v0 v4 (wadd (wmul v2 6) v3) (wadd (h 64 v0 0) (h 585 v1 v3)) h else F85_1 v0 v4 (wadd (wmul v2 6) v3) (wadd (h 64 v0 0) (h 585 v1 v3)) 1 h)))
set_option maxRecDepth 100000 in
theorem S85 {spec : zRn zH2} {hm : zHM} {o : Int → Int} {d : Nat} (hd : 1 ≤ d) (v0 : Int) (v1 : Int) (v2 : Int) (v3 : Int) (v4 : Int) (h : zHC) (v : zHC) (e : F85 v0 v1 v2 v3 v4 h = some v) : zRu2 spec d 85 [(11, v0), (19, v1), (0, v2), (0, v3), (0, v4)] (h, hm, o) none (v, hm, o) := by
  refine zF_in (D := 0) (mx := 8) (L := [some (11, v0), some (19, v1), some (0, v2), some (0, v3), some (0, v4), none, none, none]) (by decide +kernel) rfl rfl hd (fun d hd => ?_)
  unfold F85 at e
  obtain ⟨q1, e⟩ := zG_s e
  obtain ⟨q2, e⟩ := zG_s e
  rcases zI_s e with ⟨q3, e⟩ | ⟨q3, e⟩
  · refine zF_blk (m := []) (d := 1) (b := B85_2) (gs := [0 ≤ v3 ∧ v3 < 6, 0 ≤ (wadd (wmul v2 6) v3) ∧ (wadd (wmul v2 6) v3) < 180, (h 68 v0 (wadd (wmul v2 6) v3)) = (-1)]) (c' := (50, [some (11, v0), some (19, v1), some (0, v2), some (0, v3), some (0, v4), some (0, (wadd (wmul v2 6) v3)), some (0, (wadd (h 64 v0 0) (h 585 v1 v3))), none], [], (h, hm, o))) K85_2 rfl ⟨q1, q2, q3, trivial⟩ ?_
    refine zF_blk (m := [true, false, false, false, true, true, true, false]) (d := 0) (b := []) (gs := []) (c' := (50, [some (11, v0), none, none, none, some (0, v4), some (0, (wadd (wmul v2 6) v3)), some (0, (wadd (h 64 v0 0) (h 585 v1 v3))), none], [], (h, hm, o))) rfl rfl trivial ?_
    exact T85_0 hd v0 v4 (wadd (wmul v2 6) v3) (wadd (h 64 v0 0) (h 585 v1 v3)) h _ e
  · refine zF_blk (m := []) (d := 0) (b := B85_2) (gs := [0 ≤ v3 ∧ v3 < 6, 0 ≤ (wadd (wmul v2 6) v3) ∧ (wadd (wmul v2 6) v3) < 180, ¬ ((h 68 v0 (wadd (wmul v2 6) v3)) = (-1))]) (c' := (32, [some (11, v0), some (19, v1), some (0, v2), some (0, v3), some (0, v4), some (0, (wadd (wmul v2 6) v3)), some (0, (wadd (h 64 v0 0) (h 585 v1 v3))), none], [], (h, hm, o))) K85_2 rfl ⟨q1, q2, q3, trivial⟩ ?_
    obtain ⟨q4, e⟩ := zG_s e
    rcases zI_s e with ⟨q5, e⟩ | ⟨q5, e⟩
    · refine zF_blk (m := []) (d := 1) (b := B85_1) (gs := [0 ≤ (wadd (wmul v2 6) v3) ∧ (wadd (wmul v2 6) v3) < 180, (h 64 v0 0) < (h 68 v0 (wadd (wmul v2 6) v3))]) (c' := (50, [some (11, v0), some (19, v1), some (0, v2), some (0, v3), some (0, v4), some (0, (wadd (wmul v2 6) v3)), some (0, (wadd (h 64 v0 0) (h 585 v1 v3))), none], [], (h, hm, o))) K85_1 rfl ⟨q4, q5, trivial⟩ ?_
      refine zF_blk (m := [true, false, false, false, true, true, true, false]) (d := 0) (b := []) (gs := []) (c' := (50, [some (11, v0), none, none, none, some (0, v4), some (0, (wadd (wmul v2 6) v3)), some (0, (wadd (h 64 v0 0) (h 585 v1 v3))), none], [], (h, hm, o))) rfl rfl trivial ?_
      exact T85_0 hd v0 v4 (wadd (wmul v2 6) v3) (wadd (h 64 v0 0) (h 585 v1 v3)) h _ e
    · refine zF_blk (m := []) (d := 0) (b := B85_1) (gs := [0 ≤ (wadd (wmul v2 6) v3) ∧ (wadd (wmul v2 6) v3) < 180, ¬ ((h 64 v0 0) < (h 68 v0 (wadd (wmul v2 6) v3)))]) (c' := (46, [some (11, v0), some (19, v1), some (0, v2), some (0, v3), some (0, v4), some (0, (wadd (wmul v2 6) v3)), some (0, (wadd (h 64 v0 0) (h 585 v1 v3))), none], [], (h, hm, o))) K85_1 rfl ⟨q4, q5, trivial⟩ ?_
      refine zF_blk (m := []) (d := 0) (b := B85_0) (gs := []) (c' := (51, [some (11, v0), some (19, v1), some (0, v2), some (0, v3), some (0, v4), some (0, (wadd (wmul v2 6) v3)), some (0, (wadd (h 64 v0 0) (h 585 v1 v3))), none], [(0, 1)], (h, hm, o))) K85_0 rfl trivial ?_
      refine zF_blk (m := [true, false, false, false, true, true, true, false]) (d := 0) (b := []) (gs := []) (c' := (51, [some (11, v0), none, none, none, some (0, v4), some (0, (wadd (wmul v2 6) v3)), some (0, (wadd (h 64 v0 0) (h 585 v1 v3))), none], [(0, 1)], (h, hm, o))) rfl rfl trivial ?_
      exact T85_1 hd v0 v4 (wadd (wmul v2 6) v3) (wadd (h 64 v0 0) (h 585 v1 v3)) 1 h _ e
noncomputable def B79_0 : List zRow := [(15, .iload 6, 2, (0, 0, 0)), (17, .bipush 8, 2, (0, 0, 0)), (19, .imul, 1, (0, 0, 0)), (20, .istore 7, 2, (0, 0, 0)), (22, .aload_n 0, 1, (0, 0, 0)), (23, .getfield 21, 3, (1, 6, 5243842)), (26, .iload 7, 2, (0, 0, 0)), (28, .iconst 0, 1, (0, 0, 0)), (29, .iadd, 1, (0, 0, 0)), (30, .iload 4, 2, (0, 0, 0)), (32, .iastore, 1, (0, 0, 0)), (33, .aload_n 0, 1, (0, 0, 0)), (34, .getfield 21, 3, (1, 6, 5243842)), (37, .iload 7, 2, (0, 0, 0)), (39, .iconst 1, 1, (0, 0, 0)), (40, .iadd, 1, (0, 0, 0)), (41, .iload_n 2, 1, (0, 0, 0)), (42, .iastore, 1, (0, 0, 0)), (43, .aload_n 0, 1, (0, 0, 0)), (44, .getfield 21, 3, (1, 6, 5243842)), (47, .iload 7, 2, (0, 0, 0)), (49, .iconst 2, 1, (0, 0, 0)), (50, .iadd, 1, (0, 0, 0)), (51, .aload_n 0, 1, (0, 0, 0)), (52, .getfield 30, 3, (1, 0, 0)), (55, .iastore, 1, (0, 0, 0)), (56, .aload_n 0, 1, (0, 0, 0)), (57, .getfield 21, 3, (1, 6, 5243842)), (60, .iload 7, 2, (0, 0, 0)), (62, .iconst 3, 1, (0, 0, 0)), (63, .iadd, 1, (0, 0, 0)), (64, .iload_n 3, 1, (0, 0, 0)), (65, .iastore, 1, (0, 0, 0)), (66, .aload_n 0, 1, (0, 0, 0)), (67, .getfield 21, 3, (1, 6, 5243842)), (70, .iload 7, 2, (0, 0, 0)), (72, .iconst 4, 1, (0, 0, 0)), (73, .iadd, 1, (0, 0, 0)), (74, .iload 5, 2, (0, 0, 0)), (76, .iastore, 1, (0, 0, 0)), (77, .aload_n 0, 1, (0, 0, 0)), (78, .getfield 21, 3, (1, 6, 5243842)), (81, .iload 7, 2, (0, 0, 0)), (83, .iconst 5, 1, (0, 0, 0)), (84, .iadd, 1, (0, 0, 0)), (85, .iconst 1, 1, (0, 0, 0)), (86, .iload_n 2, 1, (0, 0, 0)), (87, .ishl, 1, (0, 0, 0)), (88, .iastore, 1, (0, 0, 0)), (89, .aload_n 0, 1, (0, 0, 0)), (90, .getfield 21, 3, (1, 6, 5243842)), (93, .iload 7, 2, (0, 0, 0)), (95, .bipush 6, 2, (0, 0, 0)), (97, .iadd, 1, (0, 0, 0)), (98, .iconst 0, 1, (0, 0, 0)), (99, .iastore, 1, (0, 0, 0)), (100, .aload_n 0, 1, (0, 0, 0)), (101, .getfield 21, 3, (1, 6, 5243842)), (104, .iload 7, 2, (0, 0, 0)), (106, .bipush 7, 2, (0, 0, 0)), (108, .iadd, 1, (0, 0, 0)), (109, .iconst 0, 1, (0, 0, 0)), (110, .iastore, 1, (0, 0, 0)), (111, .aload_n 0, 1, (0, 0, 0)), (112, .getfield 15, 3, (1, 4, 5243602)), (115, .iload 6, 2, (0, 0, 0)), (117, .bipush 6, 2, (0, 0, 0)), (119, .imul, 1, (0, 0, 0)), (120, .iload 6, 2, (0, 0, 0)), (122, .iconst 1, 1, (0, 0, 0)), (123, .iadd, 1, (0, 0, 0)), (124, .bipush 6, 2, (0, 0, 0)), (126, .imul, 1, (0, 0, 0)), (127, .iconst (-1), 1, (0, 0, 0))]
theorem K79_0 : zRk 79 B79_0 = true := zRw_ok (by decide +kernel)
noncomputable def B79_1 : List zRow := [(131, .aload_n 0, 1, (0, 0, 0)), (132, .iload 6, 2, (0, 0, 0)), (134, .iconst 1, 1, (0, 0, 0)), (135, .iadd, 1, (0, 0, 0)), (136, .putfield 34, 3, (1, 1, 0)), (139, .iconst 0, 1, (0, 0, 0)), (140, .istore 8, 2, (0, 0, 0))]
theorem K79_1 : zRk 79 B79_1 = true := zRw_ok (by decide +kernel)
noncomputable def B79_2 : List zRow := [(13, .iconst (-1), 1, (0, 0, 0))]
theorem K79_2 : zRk 79 B79_2 = true := zRw_ok (by decide +kernel)
noncomputable def B79_3 : List zRow := [(0, .aload_n 0, 1, (0, 0, 0)), (1, .getfield 34, 3, (1, 1, 0)), (4, .istore 6, 2, (0, 0, 0)), (6, .iload 6, 2, (0, 0, 0)), (8, .bipush 30, 2, (0, 0, 0)), (10, .if_icmp .lt 5, 3, (0, 0, 0))]
theorem K79_3 : zRk 79 B79_3 = true := zRw_ok (by decide +kernel)
noncomputable def B79_4 : List zRow := [(175, .aload_n 0, 1, (0, 0, 0)), (176, .iload 6, 2, (0, 0, 0))]
theorem K79_4 : zRk 79 B79_4 = true := zRw_ok (by decide +kernel)
noncomputable def B79_5 : List zRow := [(181, .iload 6, 2, (0, 0, 0))]
theorem K79_5 : zRk 79 B79_5 = true := zRw_ok (by decide +kernel)
noncomputable def B79_6 : List zRow := [(151, .aload_n 0, 1, (0, 0, 0)), (152, .aload_n 1, 1, (0, 0, 0)), (153, .iload 6, 2, (0, 0, 0)), (155, .iload 8, 2, (0, 0, 0)), (157, .aload_n 1, 1, (0, 0, 0)), (158, .iload 8, 2, (0, 0, 0)), (160, .iload_n 3, 1, (0, 0, 0)), (161, .iload 5, 2, (0, 0, 0))]
theorem K79_6 : zRk 79 B79_6 = true := zRw_ok (by decide +kernel)
noncomputable def B79_7 : List zRow := [(169, .iinc 8 1, 3, (0, 0, 0)), (172, .goto (-30), 3, (0, 0, 0))]
theorem K79_7 : zRk 79 B79_7 = true := zRw_ok (by decide +kernel)
noncomputable def B79_8 : List zRow := [(142, .iload 8, 2, (0, 0, 0)), (144, .aload_n 1, 1, (0, 0, 0)), (145, .getfield 69, 3, (9, 2, 0)), (148, .if_icmp .ge 27, 3, (0, 0, 0))]
theorem K79_8 : zRk 79 B79_8 = true := zRw_ok (by decide +kernel)
def F79_0 : Nat → Int → Int → Int → Int → Int → Int → zHC → Option (Int × zHC)
  | 0, _, _, _, _, _, _, _ => none
  | n + 1, v0, v1, v3, v5, v6, v8, h => if (h 578 v1 0) ≤ v8 then (F86 v0 v6 h).bind fun r1 => some (v6, r1) else (F82 v1 v8 v3 v5 h).bind fun r2 => (F85 v0 v1 v6 v8 r2 h).bind fun r3 => (F79_0 n) v0 v1 v3 v5 v6 (wadd v8 1) r3
set_option maxRecDepth 100000 in
theorem T79_0 {spec : zRn zH2} {hm : zHM} {o : Int → Int} {d : Nat} (hd : 2 ≤ d) : ∀ (n : Nat) (v0 : Int) (v1 : Int) (v3 : Int) (v5 : Int) (v6 : Int) (v8 : Int) (h : zHC) (v : (Int × zHC)), F79_0 n v0 v1 v3 v5 v6 v8 h = some v → zFin 0 (fun _ => 0) (zRu2 spec d) 79 (some (0, v.1)) (v.2, hm, o) (142, [some (11, v0), some (19, v1), none, some (0, v3), none, some (0, v5), some (0, v6), none, some (0, v8)], [], (h, hm, o)) := by
  intro n
  induction n with
  | zero => intro v0 v1 v3 v5 v6 v8 h v e; unfold F79_0 at e; cases e
  | succ n hk0 =>
    intro v0 v1 v3 v5 v6 v8 h v e
    unfold F79_0 at e
    rcases zI_s e with ⟨q1, e⟩ | ⟨q1, e⟩
    · refine zF_blk (m := []) (d := 1) (b := B79_8) (gs := [(h 578 v1 0) ≤ v8]) (c' := (175, [some (11, v0), some (19, v1), none, some (0, v3), none, some (0, v5), some (0, v6), none, some (0, v8)], [], (h, hm, o))) K79_8 rfl ⟨q1, trivial⟩ ?_
      obtain ⟨r1, q2, e⟩ := zB_s e
      refine zF_blk (m := []) (d := 0) (b := B79_4) (gs := []) (c' := (178, [some (11, v0), some (19, v1), none, some (0, v3), none, some (0, v5), some (0, v6), none, some (0, v8)], [(0, v6), (11, v0)], (h, hm, o))) K79_4 rfl trivial ?_
      refine zF_call (k := 86) (cl := 1) (n := 2) (i := .invokevirtual 80) (args := [(11, v0), (0, v6)]) (rest := []) (g1 := (r1, hm, o)) (r1 := none) (zCk1_w (by decide +kernel)) rfl rfl rfl (st' := []) rfl (S86 (Nat.le_trans (by decide) hd) v0 v6 h _ q2) ?_
      refine zF_blk (m := []) (d := 0) (b := B79_5) (gs := []) (c' := (183, [some (11, v0), some (19, v1), none, some (0, v3), none, some (0, v5), some (0, v6), none, some (0, v8)], [(0, v6)], (r1, hm, o))) K79_5 rfl trivial ?_
      exact zF_riC (zRe1_w (by decide +kernel)) e
    · refine zF_blk (m := []) (d := 0) (b := B79_8) (gs := [¬ ((h 578 v1 0) ≤ v8)]) (c' := (151, [some (11, v0), some (19, v1), none, some (0, v3), none, some (0, v5), some (0, v6), none, some (0, v8)], [], (h, hm, o))) K79_8 rfl ⟨q1, trivial⟩ ?_
      obtain ⟨r2, q3, e⟩ := zB_s e
      refine zF_blk (m := []) (d := 0) (b := B79_6) (gs := []) (c' := (163, [some (11, v0), some (19, v1), none, some (0, v3), none, some (0, v5), some (0, v6), none, some (0, v8)], [(0, v5), (0, v3), (0, v8), (19, v1), (0, v8), (0, v6), (19, v1), (11, v0)], (h, hm, o))) K79_6 rfl trivial ?_
      refine zF_call (k := 82) (cl := 9) (n := 4) (i := .invokevirtual 72) (args := [(19, v1), (0, v8), (0, v3), (0, v5)]) (rest := [(0, v8), (0, v6), (19, v1), (11, v0)]) (g1 := (h, hm, o)) (r1 := some (0, r2)) (zCk1_w (by decide +kernel)) rfl rfl rfl (st' := [(0, r2), (0, v8), (0, v6), (19, v1), (11, v0)]) rfl (S82 (Nat.le_trans (by decide) hd) v1 v8 v3 v5 h _ q3) ?_
      obtain ⟨r3, q4, e⟩ := zB_s e
      refine zF_call (k := 85) (cl := 1) (n := 5) (i := .invokevirtual 76) (args := [(11, v0), (19, v1), (0, v6), (0, v8), (0, r2)]) (rest := []) (g1 := (r3, hm, o)) (r1 := none) (zCk1_w (by decide +kernel)) rfl rfl rfl (st' := []) rfl (S85 (Nat.le_trans (by decide) hd) v0 v1 v6 v8 r2 h _ q4) ?_
      refine zF_blk (m := []) (d := 0) (b := B79_7) (gs := []) (c' := (142, [some (11, v0), some (19, v1), none, some (0, v3), none, some (0, v5), some (0, v6), none, some (0, (wadd v8 1))], [], (r3, hm, o))) K79_7 rfl trivial ?_
      exact hk0 v0 v1 v3 v5 v6 (wadd v8 1) r3 _ e
/-- EchoVale$Course.utter(LEchoVale$Valley;IIII)I -/
def F79 (v0 : Int) (v1 : Int) (v2 : Int) (v3 : Int) (v4 : Int) (v5 : Int) (h : zHC) : Option (Int × zHC) := if (h 65 v0 0) < 30 then zG (0 ≤ (wadd (wmul (h 65 v0 0) 8) 0) ∧ (wadd (wmul (h 65 v0 0) 8) 0) < 240) (zG (0 ≤ (wadd (wmul (h 65 v0 0) 8) 1) ∧ (wadd (wmul (h 65 v0 0) 8) 1) < 240) (zG (0 ≤ (wadd (wmul (h 65 v0 0) 8) 2) ∧ (wadd (wmul (h 65 v0 0) 8) 2) < 240) (zG (0 ≤ (wadd (wmul (h 65 v0 0) 8) 3) ∧ (wadd (wmul (h 65 v0 0) 8) 3) < 240) (zG (0 ≤ (wadd (wmul (h 65 v0 0) 8) 4) ∧ (wadd (wmul (h 65 v0 0) 8) 4) < 240) (zG (0 ≤ (wadd (wmul (h 65 v0 0) 8) 5) ∧ (wadd (wmul (h 65 v0 0) 8) 5) < 240) (zG (0 ≤ (wadd (wmul (h 65 v0 0) 8) 6) ∧ (wadd (wmul (h 65 v0 0) 8) 6) < 240) (zG (0 ≤ (wadd (wmul (h 65 v0 0) 8) 7) ∧ (wadd (wmul (h 65 v0 0) 8) 7) < 240) ((F80 v0 (wmul (h 65 v0 0) 6) (wmul (wadd (h 65 v0 0) 1) 6) (-1) (hset (hset (hset (hset (hset (hset (hset (hset h 70 v0 (wadd (wmul (h 65 v0 0) 8) 0) v4) 70 v0 (wadd (wmul (h 65 v0 0) 8) 1) v2) 70 v0 (wadd (wmul (h 65 v0 0) 8) 2) (h 64 v0 0)) 70 v0 (wadd (wmul (h 65 v0 0) 8) 3) v3) 70 v0 (wadd (wmul (h 65 v0 0) 8) 4) v5) 70 v0 (wadd (wmul (h 65 v0 0) 8) 5) (wshl 1 v2)) 70 v0 (wadd (wmul (h 65 v0 0) 8) 6) 0) 70 v0 (wadd (wmul (h 65 v0 0) 8) 7) 0)).bind fun r1 => F79_0 zFu v0 v1 v3 v5 (h 65 v0 0) 0 (hset r1 65 v0 0 (wadd (h 65 v0 0) 1)))))))))) else some ((-1), h)
set_option maxRecDepth 100000 in
theorem S79 {spec : zRn zH2} {hm : zHM} {o : Int → Int} {d : Nat} (hd : 3 ≤ d) (v0 : Int) (v1 : Int) (v2 : Int) (v3 : Int) (v4 : Int) (v5 : Int) (h : zHC) (v : (Int × zHC)) (e : F79 v0 v1 v2 v3 v4 v5 h = some v) : zRu2 spec d 79 [(11, v0), (19, v1), (0, v2), (0, v3), (0, v4), (0, v5)] (h, hm, o) (some (0, v.1)) (v.2, hm, o) := by
  refine zF_in (D := 2) (mx := 9) (L := [some (11, v0), some (19, v1), some (0, v2), some (0, v3), some (0, v4), some (0, v5), none, none, none]) (by decide +kernel) rfl rfl hd (fun d hd => ?_)
  unfold F79 at e
  rcases zI_s e with ⟨q1, e⟩ | ⟨q1, e⟩
  · refine zF_blk (m := []) (d := 1) (b := B79_3) (gs := [(h 65 v0 0) < 30]) (c' := (15, [some (11, v0), some (19, v1), some (0, v2), some (0, v3), some (0, v4), some (0, v5), some (0, (h 65 v0 0)), none, none], [], (h, hm, o))) K79_3 rfl ⟨q1, trivial⟩ ?_
    obtain ⟨q2, e⟩ := zG_s e
    obtain ⟨q3, e⟩ := zG_s e
    obtain ⟨q4, e⟩ := zG_s e
    obtain ⟨q5, e⟩ := zG_s e
    obtain ⟨q6, e⟩ := zG_s e
    obtain ⟨q7, e⟩ := zG_s e
    obtain ⟨q8, e⟩ := zG_s e
    obtain ⟨q9, e⟩ := zG_s e
    obtain ⟨r1, q10, e⟩ := zB_s e
    refine zF_blk (m := []) (d := 0) (b := B79_0) (gs := [0 ≤ (wadd (wmul (h 65 v0 0) 8) 0) ∧ (wadd (wmul (h 65 v0 0) 8) 0) < 240, 0 ≤ (wadd (wmul (h 65 v0 0) 8) 1) ∧ (wadd (wmul (h 65 v0 0) 8) 1) < 240, 0 ≤ (wadd (wmul (h 65 v0 0) 8) 2) ∧ (wadd (wmul (h 65 v0 0) 8) 2) < 240, 0 ≤ (wadd (wmul (h 65 v0 0) 8) 3) ∧ (wadd (wmul (h 65 v0 0) 8) 3) < 240, 0 ≤ (wadd (wmul (h 65 v0 0) 8) 4) ∧ (wadd (wmul (h 65 v0 0) 8) 4) < 240, 0 ≤ (wadd (wmul (h 65 v0 0) 8) 5) ∧ (wadd (wmul (h 65 v0 0) 8) 5) < 240, 0 ≤ (wadd (wmul (h 65 v0 0) 8) 6) ∧ (wadd (wmul (h 65 v0 0) 8) 6) < 240, 0 ≤ (wadd (wmul (h 65 v0 0) 8) 7) ∧ (wadd (wmul (h 65 v0 0) 8) 7) < 240]) (c' := (128, [some (11, v0), some (19, v1), some (0, v2), some (0, v3), some (0, v4), some (0, v5), some (0, (h 65 v0 0)), some (0, (wmul (h 65 v0 0) 8)), none], [(0, (-1)), (0, (wmul (wadd (h 65 v0 0) 1) 6)), (0, (wmul (h 65 v0 0) 6)), (1342362668, v0)], ((hset (hset (hset (hset (hset (hset (hset (hset h 70 v0 (wadd (wmul (h 65 v0 0) 8) 0) v4) 70 v0 (wadd (wmul (h 65 v0 0) 8) 1) v2) 70 v0 (wadd (wmul (h 65 v0 0) 8) 2) (h 64 v0 0)) 70 v0 (wadd (wmul (h 65 v0 0) 8) 3) v3) 70 v0 (wadd (wmul (h 65 v0 0) 8) 4) v5) 70 v0 (wadd (wmul (h 65 v0 0) 8) 5) (wshl 1 v2)) 70 v0 (wadd (wmul (h 65 v0 0) 8) 6) 0) 70 v0 (wadd (wmul (h 65 v0 0) 8) 7) 0), hm, o))) K79_0 rfl ⟨q2, q3, q4, q5, q6, q7, q8, q9, trivial⟩ ?_
    refine zF_call (k := 80) (cl := 15) (n := 4) (i := .invokestatic 63) (args := [(1342362668, v0), (0, (wmul (h 65 v0 0) 6)), (0, (wmul (wadd (h 65 v0 0) 1) 6)), (0, (-1))]) (rest := []) (g1 := (r1, hm, o)) (r1 := none) (zCk1_w (by decide +kernel)) rfl rfl rfl (st' := []) rfl (S80 (Nat.le_trans (by decide) hd) v0 (wmul (h 65 v0 0) 6) (wmul (wadd (h 65 v0 0) 1) 6) (-1) (hset (hset (hset (hset (hset (hset (hset (hset h 70 v0 (wadd (wmul (h 65 v0 0) 8) 0) v4) 70 v0 (wadd (wmul (h 65 v0 0) 8) 1) v2) 70 v0 (wadd (wmul (h 65 v0 0) 8) 2) (h 64 v0 0)) 70 v0 (wadd (wmul (h 65 v0 0) 8) 3) v3) 70 v0 (wadd (wmul (h 65 v0 0) 8) 4) v5) 70 v0 (wadd (wmul (h 65 v0 0) 8) 5) (wshl 1 v2)) 70 v0 (wadd (wmul (h 65 v0 0) 8) 6) 0) 70 v0 (wadd (wmul (h 65 v0 0) 8) 7) 0) _ q10) ?_
    refine zF_blk (m := []) (d := 0) (b := B79_1) (gs := []) (c' := (142, [some (11, v0), some (19, v1), some (0, v2), some (0, v3), some (0, v4), some (0, v5), some (0, (h 65 v0 0)), some (0, (wmul (h 65 v0 0) 8)), some (0, 0)], [], ((hset r1 65 v0 0 (wadd (h 65 v0 0) 1)), hm, o))) K79_1 rfl trivial ?_
    refine zF_blk (m := [true, true, false, true, false, true, true, false, true]) (d := 0) (b := []) (gs := []) (c' := (142, [some (11, v0), some (19, v1), none, some (0, v3), none, some (0, v5), some (0, (h 65 v0 0)), none, some (0, 0)], [], ((hset r1 65 v0 0 (wadd (h 65 v0 0) 1)), hm, o))) rfl rfl trivial ?_
    exact T79_0 hd zFu v0 v1 v3 v5 (h 65 v0 0) 0 (hset r1 65 v0 0 (wadd (h 65 v0 0) 1)) _ e
  · refine zF_blk (m := []) (d := 0) (b := B79_3) (gs := [¬ ((h 65 v0 0) < 30)]) (c' := (13, [some (11, v0), some (19, v1), some (0, v2), some (0, v3), some (0, v4), some (0, v5), some (0, (h 65 v0 0)), none, none], [], (h, hm, o))) K79_3 rfl ⟨q1, trivial⟩ ?_
    refine zF_blk (m := []) (d := 0) (b := B79_2) (gs := []) (c' := (14, [some (11, v0), some (19, v1), some (0, v2), some (0, v3), some (0, v4), some (0, v5), some (0, (h 65 v0 0)), none, none], [(0, (-1))], (h, hm, o))) K79_2 rfl trivial ?_
    exact zF_riC (zRe1_w (by decide +kernel)) e
noncomputable def B76_0 : List zRow := [(0, .aload_n 0, 1, (0, 0, 0)), (1, .getfield 9, 3, (1, 3, 5242906)), (4, .iload_n 2, 1, (0, 0, 0)), (5, .iaload, 1, (0, 0, 0)), (6, .istore 5, 2, (0, 0, 0)), (8, .aload_n 0, 1, (0, 0, 0)), (9, .aload_n 1, 1, (0, 0, 0)), (10, .iload_n 2, 1, (0, 0, 0)), (11, .iload 5, 2, (0, 0, 0)), (13, .iload_n 3, 1, (0, 0, 0)), (14, .aload_n 1, 1, (0, 0, 0)), (15, .iload 5, 2, (0, 0, 0)), (17, .iload 4, 2, (0, 0, 0))]
theorem K76_0 : zRk 76 B76_0 = true := zRw_ok (by decide +kernel)
/-- EchoVale$Course.speak(LEchoVale$Valley;III)I -/
def F76 (v0 : Int) (v1 : Int) (v2 : Int) (v3 : Int) (v4 : Int) (h : zHC) : Option (Int × zHC) := zG (0 ≤ v2 ∧ v2 < 6) ((F77 v1 (h 67 v0 v2) v4 h).bind fun r1 => (F79 v0 v1 v2 (h 67 v0 v2) v3 r1 h).bind fun r2 => some (r2.1, r2.2))
set_option maxRecDepth 100000 in
theorem S76 {spec : zRn zH2} {hm : zHM} {o : Int → Int} {d : Nat} (hd : 4 ≤ d) (v0 : Int) (v1 : Int) (v2 : Int) (v3 : Int) (v4 : Int) (h : zHC) (v : (Int × zHC)) (e : F76 v0 v1 v2 v3 v4 h = some v) : zRu2 spec d 76 [(11, v0), (19, v1), (0, v2), (0, v3), (0, v4)] (h, hm, o) (some (0, v.1)) (v.2, hm, o) := by
  refine zF_in (D := 3) (mx := 6) (L := [some (11, v0), some (19, v1), some (0, v2), some (0, v3), some (0, v4), none]) (by decide +kernel) rfl rfl hd (fun d hd => ?_)
  unfold F76 at e
  obtain ⟨q1, e⟩ := zG_s e
  obtain ⟨r1, q2, e⟩ := zB_s e
  refine zF_blk (m := []) (d := 0) (b := B76_0) (gs := [0 ≤ v2 ∧ v2 < 6]) (c' := (19, [some (11, v0), some (19, v1), some (0, v2), some (0, v3), some (0, v4), some (0, (h 67 v0 v2))], [(0, v4), (0, (h 67 v0 v2)), (19, v1), (0, v3), (0, (h 67 v0 v2)), (0, v2), (19, v1), (11, v0)], (h, hm, o))) K76_0 rfl ⟨q1, trivial⟩ ?_
  refine zF_call (k := 77) (cl := 9) (n := 3) (i := .invokevirtual 55) (args := [(19, v1), (0, (h 67 v0 v2)), (0, v4)]) (rest := [(0, v3), (0, (h 67 v0 v2)), (0, v2), (19, v1), (11, v0)]) (g1 := (h, hm, o)) (r1 := some (0, r1)) (zCk1_w (by decide +kernel)) rfl rfl rfl (st' := [(0, r1), (0, v3), (0, (h 67 v0 v2)), (0, v2), (19, v1), (11, v0)]) rfl (S77 (Nat.le_trans (by decide) hd) v1 (h 67 v0 v2) v4 h _ q2) ?_
  obtain ⟨r2, q3, e⟩ := zB_s e
  refine zF_call (k := 79) (cl := 1) (n := 6) (i := .invokevirtual 59) (args := [(11, v0), (19, v1), (0, v2), (0, (h 67 v0 v2)), (0, v3), (0, r1)]) (rest := []) (g1 := (r2.2, hm, o)) (r1 := some (0, r2.1)) (zCk1_w (by decide +kernel)) rfl rfl rfl (st' := [(0, r2.1)]) rfl (S79 (Nat.le_trans (by decide) hd) v0 v1 v2 (h 67 v0 v2) v3 r1 h _ q3) ?_
  exact zF_riC (zRe1_w (by decide +kernel)) e
noncomputable def B73_0 : List zRow := [(0, .aload_n 0, 1, (0, 0, 0)), (1, .iload_n 1, 1, (0, 0, 0))]
theorem K73_0 : zRk 73 B73_0 = true := zRw_ok (by decide +kernel)
noncomputable def B73_1 : List zRow := [(36, .iconst (-1), 1, (0, 0, 0))]
theorem K73_1 : zRk 73 B73_1 = true := zRw_ok (by decide +kernel)
noncomputable def B73_2 : List zRow := [(8, .iload_n 3, 1, (0, 0, 0))]
theorem K73_2 : zRk 73 B73_2 = true := zRw_ok (by decide +kernel)
noncomputable def B73_3 : List zRow := [(26, .aload_n 0, 1, (0, 0, 0)), (27, .getfield 56, 3, (11, 6, 7))]
theorem K73_3 : zRk 73 B73_3 = true := zRw_ok (by decide +kernel)
noncomputable def B73_4 : List zRow := [(38, .aload_n 0, 1, (0, 0, 0)), (39, .getfield 66, 3, (11, 8, 35)), (42, .aload_n 0, 1, (0, 0, 0)), (43, .getfield 56, 3, (11, 6, 7))]
theorem K73_4 : zRk 73 B73_4 = true := zRw_ok (by decide +kernel)
noncomputable def B73_5 : List zRow := [(49, .aload_n 0, 1, (0, 0, 0)), (50, .getfield 56, 3, (11, 6, 7)), (53, .aload_n 0, 1, (0, 0, 0)), (54, .getfield 19, 3, (11, 1, 39)), (57, .iload_n 1, 1, (0, 0, 0)), (58, .iload_n 2, 1, (0, 0, 0)), (59, .iload_n 3, 1, (0, 0, 0))]
theorem K73_5 : zRk 73 B73_5 = true := zRw_ok (by decide +kernel)
noncomputable def B73_6 : List zRow := [(33, .ifCond .eq 5, 3, (0, 0, 0))]
theorem K73_6 : zRk 73 B73_6 = true := zRw_ok (by decide +kernel)
noncomputable def B73_7 : List zRow := [(20, .iload_n 2, 1, (0, 0, 0)), (21, .bipush 99, 2, (0, 0, 0)), (23, .if_icmp .gt 13, 3, (0, 0, 0))]
theorem K73_7 : zRk 73 B73_7 = true := zRw_ok (by decide +kernel)
noncomputable def B73_8 : List zRow := [(15, .iload_n 2, 1, (0, 0, 0)), (16, .iconst 1, 1, (0, 0, 0)), (17, .if_icmp .lt 19, 3, (0, 0, 0))]
theorem K73_8 : zRk 73 B73_8 = true := zRw_ok (by decide +kernel)
noncomputable def B73_9 : List zRow := [(12, .ifCond .eq 24, 3, (0, 0, 0))]
theorem K73_9 : zRk 73 B73_9 = true := zRw_ok (by decide +kernel)
noncomputable def B73_10 : List zRow := [(5, .ifCond .eq 31, 3, (0, 0, 0))]
theorem K73_10 : zRk 73 B73_10 = true := zRw_ok (by decide +kernel)
/-- EchoVale.says(III)I -/
def F73 (v1 : Int) (v2 : Int) (v3 : Int) (h : zHC) : Option (Int × zHC) := (F61 v1 h).bind fun r1 => if r1 = 0 then some ((-1), h) else (F74 v3).bind fun r2 => if r2 = 0 then some ((-1), h) else if v2 < 1 then some ((-1), h) else if 99 < v2 then some ((-1), h) else (F75 0 h).bind fun r3 => if r3 = 0 then (F70 0 h).bind fun r4 => (F76 0 0 v1 v2 v3 r4).bind fun r5 => some (r5.1, r5.2) else some ((-1), h)
set_option maxRecDepth 100000 in
theorem S73 {spec : zRn zH2} {hm : zHM} {o : Int → Int} {d : Nat} (hd : 5 ≤ d) (v1 : Int) (v2 : Int) (v3 : Int) (h : zHC) (v : (Int × zHC)) (e : F73 v1 v2 v3 h = some v) : zRu2 spec d 73 [(21, 0), (0, v1), (0, v2), (0, v3)] (h, hm, o) (some (0, v.1)) (v.2, hm, o) := by
  refine zF_in (D := 4) (mx := 4) (L := [some (21, 0), some (0, v1), some (0, v2), some (0, v3)]) (by decide +kernel) rfl rfl hd (fun d hd => ?_)
  unfold F73 at e
  obtain ⟨r1, q1, e⟩ := zB_s e
  refine zF_blk (m := []) (d := 0) (b := B73_0) (gs := []) (c' := (2, [some (21, 0), some (0, v1), some (0, v2), some (0, v3)], [(0, v1), (21, 0)], (h, hm, o))) K73_0 rfl trivial ?_
  refine zF_call (k := 61) (cl := 11) (n := 2) (i := .invokevirtual 172) (args := [(21, 0), (0, v1)]) (rest := []) (g1 := (h, hm, o)) (r1 := some (0, r1)) (zCk1_w (by decide +kernel)) rfl rfl rfl (st' := [(0, r1)]) rfl (S61 (Nat.le_trans (by decide) hd) v1 h _ q1) ?_
  rcases zI_s e with ⟨q2, e⟩ | ⟨q2, e⟩
  · refine zF_blk (m := []) (d := 1) (b := B73_10) (gs := [r1 = 0]) (c' := (36, [some (21, 0), some (0, v1), some (0, v2), some (0, v3)], [], (h, hm, o))) K73_10 rfl ⟨q2, trivial⟩ ?_
    refine zF_blk (m := []) (d := 0) (b := B73_1) (gs := []) (c' := (37, [some (21, 0), some (0, v1), some (0, v2), some (0, v3)], [(0, (-1))], (h, hm, o))) K73_1 rfl trivial ?_
    exact zF_riC (zRe1_w (by decide +kernel)) e
  · refine zF_blk (m := []) (d := 0) (b := B73_10) (gs := [¬ (r1 = 0)]) (c' := (8, [some (21, 0), some (0, v1), some (0, v2), some (0, v3)], [], (h, hm, o))) K73_10 rfl ⟨q2, trivial⟩ ?_
    obtain ⟨r2, q3, e⟩ := zB_s e
    refine zF_blk (m := []) (d := 0) (b := B73_2) (gs := []) (c' := (9, [some (21, 0), some (0, v1), some (0, v2), some (0, v3)], [(0, v3)], (h, hm, o))) K73_2 rfl trivial ?_
    refine zF_call (k := 74) (cl := 11) (n := 1) (i := .invokestatic 221) (args := [(0, v3)]) (rest := []) (g1 := (h, hm, o)) (r1 := some (0, r2)) (zCk1_w (by decide +kernel)) rfl rfl rfl (st' := [(0, r2)]) rfl (S74 (Nat.le_trans (by decide) hd) v3 h _ q3) ?_
    rcases zI_s e with ⟨q4, e⟩ | ⟨q4, e⟩
    · refine zF_blk (m := []) (d := 1) (b := B73_9) (gs := [r2 = 0]) (c' := (36, [some (21, 0), some (0, v1), some (0, v2), some (0, v3)], [], (h, hm, o))) K73_9 rfl ⟨q4, trivial⟩ ?_
      refine zF_blk (m := []) (d := 0) (b := B73_1) (gs := []) (c' := (37, [some (21, 0), some (0, v1), some (0, v2), some (0, v3)], [(0, (-1))], (h, hm, o))) K73_1 rfl trivial ?_
      exact zF_riC (zRe1_w (by decide +kernel)) e
    · refine zF_blk (m := []) (d := 0) (b := B73_9) (gs := [¬ (r2 = 0)]) (c' := (15, [some (21, 0), some (0, v1), some (0, v2), some (0, v3)], [], (h, hm, o))) K73_9 rfl ⟨q4, trivial⟩ ?_
      rcases zI_s e with ⟨q5, e⟩ | ⟨q5, e⟩
      · refine zF_blk (m := []) (d := 1) (b := B73_8) (gs := [v2 < 1]) (c' := (36, [some (21, 0), some (0, v1), some (0, v2), some (0, v3)], [], (h, hm, o))) K73_8 rfl ⟨q5, trivial⟩ ?_
        refine zF_blk (m := []) (d := 0) (b := B73_1) (gs := []) (c' := (37, [some (21, 0), some (0, v1), some (0, v2), some (0, v3)], [(0, (-1))], (h, hm, o))) K73_1 rfl trivial ?_
        exact zF_riC (zRe1_w (by decide +kernel)) e
      · refine zF_blk (m := []) (d := 0) (b := B73_8) (gs := [¬ (v2 < 1)]) (c' := (20, [some (21, 0), some (0, v1), some (0, v2), some (0, v3)], [], (h, hm, o))) K73_8 rfl ⟨q5, trivial⟩ ?_
        rcases zI_s e with ⟨q6, e⟩ | ⟨q6, e⟩
        · refine zF_blk (m := []) (d := 1) (b := B73_7) (gs := [99 < v2]) (c' := (36, [some (21, 0), some (0, v1), some (0, v2), some (0, v3)], [], (h, hm, o))) K73_7 rfl ⟨q6, trivial⟩ ?_
          refine zF_blk (m := []) (d := 0) (b := B73_1) (gs := []) (c' := (37, [some (21, 0), some (0, v1), some (0, v2), some (0, v3)], [(0, (-1))], (h, hm, o))) K73_1 rfl trivial ?_
          exact zF_riC (zRe1_w (by decide +kernel)) e
        · refine zF_blk (m := []) (d := 0) (b := B73_7) (gs := [¬ (99 < v2)]) (c' := (26, [some (21, 0), some (0, v1), some (0, v2), some (0, v3)], [], (h, hm, o))) K73_7 rfl ⟨q6, trivial⟩ ?_
          obtain ⟨r3, q7, e⟩ := zB_s e
          refine zF_blk (m := []) (d := 0) (b := B73_3) (gs := []) (c' := (30, [some (21, 0), some (0, v1), some (0, v2), some (0, v3)], [(11, 0)], (h, hm, o))) K73_3 rfl trivial ?_
          refine zF_call (k := 75) (cl := 1) (n := 1) (i := .invokevirtual 224) (args := [(11, 0)]) (rest := []) (g1 := (h, hm, o)) (r1 := some (0, r3)) (zCk1_w (by decide +kernel)) rfl rfl rfl (st' := [(0, r3)]) rfl (S75 (Nat.le_trans (by decide) hd) 0 h _ q7) ?_
          rcases zI_s e with ⟨q8, e⟩ | ⟨q8, e⟩
          · refine zF_blk (m := []) (d := 1) (b := B73_6) (gs := [r3 = 0]) (c' := (38, [some (21, 0), some (0, v1), some (0, v2), some (0, v3)], [], (h, hm, o))) K73_6 rfl ⟨q8, trivial⟩ ?_
            obtain ⟨r4, q9, e⟩ := zB_s e
            refine zF_blk (m := []) (d := 0) (b := B73_4) (gs := []) (c' := (46, [some (21, 0), some (0, v1), some (0, v2), some (0, v3)], [(11, 0), (18, 0)], (h, hm, o))) K73_4 rfl trivial ?_
            refine zF_call (k := 70) (cl := 8) (n := 2) (i := .invokevirtual 217) (args := [(18, 0), (11, 0)]) (rest := []) (g1 := (r4, hm, o)) (r1 := none) (zCk1_w (by decide +kernel)) rfl rfl rfl (st' := []) rfl (S70 (Nat.le_trans (by decide) hd) 0 h _ q9) ?_
            obtain ⟨r5, q10, e⟩ := zB_s e
            refine zF_blk (m := []) (d := 0) (b := B73_5) (gs := []) (c' := (60, [some (21, 0), some (0, v1), some (0, v2), some (0, v3)], [(0, v3), (0, v2), (0, v1), (19, 0), (11, 0)], (r4, hm, o))) K73_5 rfl trivial ?_
            refine zF_call (k := 76) (cl := 1) (n := 5) (i := .invokevirtual 227) (args := [(11, 0), (19, 0), (0, v1), (0, v2), (0, v3)]) (rest := []) (g1 := (r5.2, hm, o)) (r1 := some (0, r5.1)) (zCk1_w (by decide +kernel)) rfl rfl rfl (st' := [(0, r5.1)]) rfl (S76 (Nat.le_trans (by decide) hd) 0 0 v1 v2 v3 r4 _ q10) ?_
            exact zF_riC (zRe1_w (by decide +kernel)) e
          · refine zF_blk (m := []) (d := 0) (b := B73_6) (gs := [¬ (r3 = 0)]) (c' := (36, [some (21, 0), some (0, v1), some (0, v2), some (0, v3)], [], (h, hm, o))) K73_6 rfl ⟨q8, trivial⟩ ?_
            refine zF_blk (m := []) (d := 0) (b := B73_1) (gs := []) (c' := (37, [some (21, 0), some (0, v1), some (0, v2), some (0, v3)], [(0, (-1))], (h, hm, o))) K73_1 rfl trivial ?_
            exact zF_riC (zRe1_w (by decide +kernel)) e
noncomputable def B228_0 : List zRow := [(0, .iload_n 2, 1, (0, 0, 0)), (1, .aload_n 0, 1, (0, 0, 0)), (2, .getfield 13, 3, (12, 14, 5251442)), (5, .bipush 97, 2, (0, 0, 0)), (7, .iload_n 1, 1, (0, 0, 0))]
theorem K228_0 : zRk 228 B228_0 = true := zRw_ok (by decide +kernel)
noncomputable def B228_1 : List zRow := [(17, .iconst 0, 1, (0, 0, 0))]
theorem K228_1 : zRk 228 B228_1 = true := zRw_ok (by decide +kernel)
noncomputable def B228_2 : List zRow := [(13, .iconst 2, 1, (0, 0, 0)), (14, .goto 4, 3, (0, 0, 0))]
theorem K228_2 : zRk 228 B228_2 = true := zRw_ok (by decide +kernel)
noncomputable def B228_3 : List zRow := [(8, .iadd, 1, (0, 0, 0)), (9, .iaload, 1, (0, 0, 0)), (10, .ifCond .le 7, 3, (0, 0, 0))]
theorem K228_3 : zRk 228 B228_3 = true := zRw_ok (by decide +kernel)
noncomputable def B228_4 : List zRow := [(28, .iload_n 3, 1, (0, 0, 0))]
theorem K228_4 : zRk 228 B228_4 = true := zRw_ok (by decide +kernel)
noncomputable def B228_5 : List zRow := [(24, .iconst 0, 1, (0, 0, 0)), (25, .goto 4, 3, (0, 0, 0))]
theorem K228_5 : zRk 228 B228_5 = true := zRw_ok (by decide +kernel)
noncomputable def B228_6 : List zRow := [(18, .isub, 1, (0, 0, 0)), (19, .istore_n 3, 1, (0, 0, 0)), (20, .iload_n 3, 1, (0, 0, 0)), (21, .ifCond .ge 7, 3, (0, 0, 0))]
theorem K228_6 : zRk 228 B228_6 = true := zRw_ok (by decide +kernel)
def F228_0 (h : zHM) (s0 : Int) (s1 : Int) : Option Int := if 0 ≤ (wsub s1 s0) then some (wsub s1 s0) else some 0
set_option maxRecDepth 100000 in
theorem T228_0 {spec : zRn zH2} {hc : zHC} {o : Int → Int} {d : Nat} (hd : 0 ≤ d) (h : zHM) (s0 : Int) (s1 : Int) (v : Int) (e : F228_0 h s0 s1 = some v) : zFin 0 (fun _ => 0) (zRu2 spec d) 228 (some (0, v)) (hc, h, o) (18, [none, none, none, none], [(0, s0), (0, s1)], (hc, h, o)) := by
  unfold F228_0 at e
  rcases zI_s e with ⟨q1, e⟩ | ⟨q1, e⟩
  · refine zF_blk (m := []) (d := 1) (b := B228_6) (gs := [0 ≤ (wsub s1 s0)]) (c' := (28, [none, none, none, some (0, (wsub s1 s0))], [], (hc, h, o))) K228_6 rfl ⟨q1, trivial⟩ ?_
    refine zF_blk (m := []) (d := 0) (b := B228_4) (gs := []) (c' := (29, [none, none, none, some (0, (wsub s1 s0))], [(0, (wsub s1 s0))], (hc, h, o))) K228_4 rfl trivial ?_
    obtain rfl := Option.some.inj e
    exact zF_ri (zRe1_w (by decide +kernel))
  · refine zF_blk (m := []) (d := 0) (b := B228_6) (gs := [¬ (0 ≤ (wsub s1 s0))]) (c' := (24, [none, none, none, some (0, (wsub s1 s0))], [], (hc, h, o))) K228_6 rfl ⟨q1, trivial⟩ ?_
    refine zF_blk (m := []) (d := 0) (b := B228_5) (gs := []) (c' := (29, [none, none, none, some (0, (wsub s1 s0))], [(0, 0)], (hc, h, o))) K228_5 rfl trivial ?_
    obtain rfl := Option.some.inj e
    exact zF_ri (zRe1_w (by decide +kernel))
/-- EchoValeModel.loudAt(II)I -/
def F228 (v1 : Int) (v2 : Int) (h : zHM) : Option Int := zG (0 ≤ (wadd 97 v1) ∧ (wadd 97 v1) < 2140) (if (h 14 (wadd 97 v1)) ≤ 0 then F228_0 h 0 v2 else F228_0 h 2 v2)
set_option maxRecDepth 100000 in
theorem S228 {spec : zRn zH2} {hc : zHC} {o : Int → Int} {d : Nat} (hd : 1 ≤ d) (v1 : Int) (v2 : Int) (h : zHM) (v : Int) (e : F228 v1 v2 h = some v) : zRu2 spec d 228 [(22, 0), (0, v1), (0, v2)] (hc, h, o) (some (0, v)) (hc, h, o) := by
  refine zF_in (D := 0) (mx := 4) (L := [some (22, 0), some (0, v1), some (0, v2), none]) (by decide +kernel) rfl rfl hd (fun d hd => ?_)
  unfold F228 at e
  obtain ⟨q1, e⟩ := zG_s e
  refine zF_blk (m := []) (d := 0) (b := B228_0) (gs := []) (c' := (8, [some (22, 0), some (0, v1), some (0, v2), none], [(0, v1), (0, 97), (1344370422, 0), (0, v2)], (hc, h, o))) K228_0 rfl trivial ?_
  rcases zI_s e with ⟨q2, e⟩ | ⟨q2, e⟩
  · refine zF_blk (m := []) (d := 1) (b := B228_3) (gs := [0 ≤ (wadd 97 v1) ∧ (wadd 97 v1) < 2140, (h 14 (wadd 97 v1)) ≤ 0]) (c' := (17, [some (22, 0), some (0, v1), some (0, v2), none], [(0, v2)], (hc, h, o))) K228_3 rfl ⟨q1, q2, trivial⟩ ?_
    refine zF_blk (m := []) (d := 0) (b := B228_1) (gs := []) (c' := (18, [some (22, 0), some (0, v1), some (0, v2), none], [(0, 0), (0, v2)], (hc, h, o))) K228_1 rfl trivial ?_
    refine zF_blk (m := [false, false, false, false]) (d := 0) (b := []) (gs := []) (c' := (18, [none, none, none, none], [(0, 0), (0, v2)], (hc, h, o))) rfl rfl trivial ?_
    exact T228_0 hd h 0 v2 _ e
  · refine zF_blk (m := []) (d := 0) (b := B228_3) (gs := [0 ≤ (wadd 97 v1) ∧ (wadd 97 v1) < 2140, ¬ ((h 14 (wadd 97 v1)) ≤ 0)]) (c' := (13, [some (22, 0), some (0, v1), some (0, v2), none], [(0, v2)], (hc, h, o))) K228_3 rfl ⟨q1, q2, trivial⟩ ?_
    refine zF_blk (m := []) (d := 0) (b := B228_2) (gs := []) (c' := (18, [some (22, 0), some (0, v1), some (0, v2), none], [(0, 2), (0, v2)], (hc, h, o))) K228_2 rfl trivial ?_
    refine zF_blk (m := [false, false, false, false]) (d := 0) (b := []) (gs := []) (c' := (18, [none, none, none, none], [(0, 2), (0, v2)], (hc, h, o))) rfl rfl trivial ?_
    exact T228_0 hd h 2 v2 _ e
