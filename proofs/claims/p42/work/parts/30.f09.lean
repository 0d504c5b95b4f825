/-! Functions of the methods, by wip/gen/lift.py. -/
noncomputable def B114_0 : List zRow := [(0, .aload_n 0, 1, (0, 0, 0)), (1, .iload_n 1, 1, (0, 0, 0))]
theorem K114_0 : zRk 114 B114_0 = true := zRw_ok (by decide +kernel)
noncomputable def B114_1 : List zRow := [(15, .iconst (-1), 1, (0, 0, 0))]
theorem K114_1 : zRk 114 B114_1 = true := zRw_ok (by decide +kernel)
noncomputable def B114_2 : List zRow := [(8, .iload_n 2, 1, (0, 0, 0))]
theorem K114_2 : zRk 114 B114_2 = true := zRw_ok (by decide +kernel)
noncomputable def B114_3 : List zRow := [(17, .aload_n 0, 1, (0, 0, 0)), (18, .getfield 60, 3, (11, 7, 135)), (21, .aload_n 0, 1, (0, 0, 0)), (22, .getfield 56, 3, (11, 6, 7))]
theorem K114_3 : zRk 114 B114_3 = true := zRw_ok (by decide +kernel)
noncomputable def B114_4 : List zRow := [(28, .aload_n 0, 1, (0, 0, 0)), (29, .getfield 60, 3, (11, 7, 135)), (32, .aload_n 0, 1, (0, 0, 0)), (33, .getfield 19, 3, (11, 1, 39)), (36, .iload_n 2, 1, (0, 0, 0))]
theorem K114_4 : zRk 114 B114_4 = true := zRw_ok (by decide +kernel)
noncomputable def B114_5 : List zRow := [(40, .pop, 1, (0, 0, 0)), (41, .aload_n 0, 1, (0, 0, 0)), (42, .getfield 60, 3, (11, 7, 135)), (45, .iload_n 1, 1, (0, 0, 0)), (46, .iconst 5, 1, (0, 0, 0))]
theorem K114_5 : zRk 114 B114_5 = true := zRw_ok (by decide +kernel)
noncomputable def B114_6 : List zRow := [(12, .ifCond .ne 5, 3, (0, 0, 0))]
theorem K114_6 : zRk 114 B114_6 = true := zRw_ok (by decide +kernel)
noncomputable def B114_7 : List zRow := [(5, .ifCond .eq 10, 3, (0, 0, 0))]
theorem K114_7 : zRk 114 B114_7 = true := zRw_ok (by decide +kernel)
/-- EchoVale.heirs(II)I -/
def F114 (v1 : Int) (v2 : Int) (h : zHC) : Option (Int × zHC) := (F58 v1 h).bind fun r1 => if r1 = 0 then some ((-1), h) else (F99 v2).bind fun r2 => if ¬ r2 = 0 then (F71 1 0 h).bind fun r3 => (F88 1 0 v2 r3).bind fun r4 => (F63 1 v1 5 r4.2).bind fun r5 => some (r5, r4.2) else some ((-1), h)
set_option maxRecDepth 100000 in
theorem S114 {spec : zRn zH2} {hm : zHM} {o : Int → Int} {d : Nat} (hd : 7 ≤ d) (v1 : Int) (v2 : Int) (h : zHC) (v : (Int × zHC)) (e : F114 v1 v2 h = some v) : zRu2 spec d 114 [(21, 0), (0, v1), (0, v2)] (h, hm, o) (some (0, v.1)) (v.2, hm, o) := by
  refine zF_in (D := 6) (mx := 3) (L := [some (21, 0), some (0, v1), some (0, v2)]) (by decide +kernel) rfl rfl hd (fun d hd => ?_)
  unfold F114 at e
  obtain ⟨r1, q1, e⟩ := zB_s e
  refine zF_blk (m := []) (d := 0) (b := B114_0) (gs := []) (c' := (2, [some (21, 0), some (0, v1), some (0, v2)], [(0, v1), (21, 0)], (h, hm, o))) K114_0 rfl trivial ?_
  refine zF_call (k := 58) (cl := 11) (n := 2) (i := .invokevirtual 191) (args := [(21, 0), (0, v1)]) (rest := []) (g1 := (h, hm, o)) (r1 := some (0, r1)) (zCk1_w (by decide +kernel)) rfl rfl rfl (st' := [(0, r1)]) rfl (S58 (Nat.le_trans (by decide) hd) v1 h _ q1) ?_
  rcases zI_s e with ⟨q2, e⟩ | ⟨q2, e⟩
  · refine zF_blk (m := []) (d := 1) (b := B114_7) (gs := [r1 = 0]) (c' := (15, [some (21, 0), some (0, v1), some (0, v2)], [], (h, hm, o))) K114_7 rfl ⟨q2, trivial⟩ ?_
    refine zF_blk (m := []) (d := 0) (b := B114_1) (gs := []) (c' := (16, [some (21, 0), some (0, v1), some (0, v2)], [(0, (-1))], (h, hm, o))) K114_1 rfl trivial ?_
    exact zF_riC (zRe1_w (by decide +kernel)) e
  · refine zF_blk (m := []) (d := 0) (b := B114_7) (gs := [¬ (r1 = 0)]) (c' := (8, [some (21, 0), some (0, v1), some (0, v2)], [], (h, hm, o))) K114_7 rfl ⟨q2, trivial⟩ ?_
    obtain ⟨r2, q3, e⟩ := zB_s e
    refine zF_blk (m := []) (d := 0) (b := B114_2) (gs := []) (c' := (9, [some (21, 0), some (0, v1), some (0, v2)], [(0, v2)], (h, hm, o))) K114_2 rfl trivial ?_
    refine zF_call (k := 99) (cl := 11) (n := 1) (i := .invokestatic 242) (args := [(0, v2)]) (rest := []) (g1 := (h, hm, o)) (r1 := some (0, r2)) (zCk1_w (by decide +kernel)) rfl rfl rfl (st' := [(0, r2)]) rfl (S99 (Nat.le_trans (by decide) hd) v2 h _ q3) ?_
    rcases zI_s e with ⟨q4, e⟩ | ⟨q4, e⟩
    · refine zF_blk (m := []) (d := 1) (b := B114_6) (gs := [¬ r2 = 0]) (c' := (17, [some (21, 0), some (0, v1), some (0, v2)], [], (h, hm, o))) K114_6 rfl ⟨q4, trivial⟩ ?_
      obtain ⟨r3, q5, e⟩ := zB_s e
      refine zF_blk (m := []) (d := 0) (b := B114_3) (gs := []) (c' := (25, [some (21, 0), some (0, v1), some (0, v2)], [(11, 0), (11, 1)], (h, hm, o))) K114_3 rfl trivial ?_
      refine zF_call (k := 71) (cl := 1) (n := 2) (i := .invokevirtual 266) (args := [(11, 1), (11, 0)]) (rest := []) (g1 := (r3, hm, o)) (r1 := none) (zCk1_w (by decide +kernel)) rfl rfl rfl (st' := []) rfl (S71 (Nat.le_trans (by decide) hd) 1 0 h _ q5) ?_
      obtain ⟨r4, q6, e⟩ := zB_s e
      refine zF_blk (m := []) (d := 0) (b := B114_4) (gs := []) (c' := (37, [some (21, 0), some (0, v1), some (0, v2)], [(0, v2), (19, 0), (11, 1)], (r3, hm, o))) K114_4 rfl trivial ?_
      refine zF_call (k := 88) (cl := 1) (n := 3) (i := .invokevirtual 231) (args := [(11, 1), (19, 0), (0, v2)]) (rest := []) (g1 := (r4.2, hm, o)) (r1 := some (0, r4.1)) (zCk1_w (by decide +kernel)) rfl rfl rfl (st' := [(0, r4.1)]) rfl (S88 (Nat.le_trans (by decide) hd) 1 0 v2 r3 _ q6) ?_
      obtain ⟨r5, q7, e⟩ := zB_s e
      refine zF_blk (m := []) (d := 0) (b := B114_5) (gs := []) (c' := (47, [some (21, 0), some (0, v1), some (0, v2)], [(0, 5), (0, v1), (11, 1)], (r4.2, hm, o))) K114_5 rfl trivial ?_
      refine zF_call (k := 63) (cl := 1) (n := 3) (i := .invokevirtual 196) (args := [(11, 1), (0, v1), (0, 5)]) (rest := []) (g1 := (r4.2, hm, o)) (r1 := some (0, r5)) (zCk1_w (by decide +kernel)) rfl rfl rfl (st' := [(0, r5)]) rfl (S63 (Nat.le_trans (by decide) hd) 1 v1 5 r4.2 _ q7) ?_
      exact zF_riC (zRe1_w (by decide +kernel)) e
    · refine zF_blk (m := []) (d := 0) (b := B114_6) (gs := [¬ (¬ r2 = 0)]) (c' := (15, [some (21, 0), some (0, v1), some (0, v2)], [], (h, hm, o))) K114_6 rfl ⟨q4, trivial⟩ ?_
      refine zF_blk (m := []) (d := 0) (b := B114_1) (gs := []) (c' := (16, [some (21, 0), some (0, v1), some (0, v2)], [(0, (-1))], (h, hm, o))) K114_1 rfl trivial ?_
      exact zF_riC (zRe1_w (by decide +kernel)) e
noncomputable def B255_0 : List zRow := [(0, .aload_n 0, 1, (0, 0, 0)), (1, .iconst 0, 1, (0, 0, 0)), (2, .putfield 81, 3, (12, 0, 0)), (5, .aload_n 0, 1, (0, 0, 0)), (6, .iload_n 1, 1, (0, 0, 0))]
theorem K255_0 : zRk 255 B255_0 = true := zRw_ok (by decide +kernel)
noncomputable def B255_1 : List zRow := [(20, .iconst (-1), 1, (0, 0, 0))]
theorem K255_1 : zRk 255 B255_1 = true := zRw_ok (by decide +kernel)
noncomputable def B255_2 : List zRow := [(13, .iload_n 2, 1, (0, 0, 0))]
theorem K255_2 : zRk 255 B255_2 = true := zRw_ok (by decide +kernel)
noncomputable def B255_3 : List zRow := [(22, .aload_n 0, 1, (0, 0, 0))]
theorem K255_3 : zRk 255 B255_3 = true := zRw_ok (by decide +kernel)
noncomputable def B255_4 : List zRow := [(26, .aload_n 0, 1, (0, 0, 0)), (27, .iload_n 2, 1, (0, 0, 0))]
theorem K255_4 : zRk 255 B255_4 = true := zRw_ok (by decide +kernel)
noncomputable def B255_5 : List zRow := [(31, .pop, 1, (0, 0, 0)), (32, .aload_n 0, 1, (0, 0, 0)), (33, .iload_n 1, 1, (0, 0, 0)), (34, .iconst 5, 1, (0, 0, 0))]
theorem K255_5 : zRk 255 B255_5 = true := zRw_ok (by decide +kernel)
noncomputable def B255_6 : List zRow := [(38, .istore_n 3, 1, (0, 0, 0)), (39, .aload_n 0, 1, (0, 0, 0))]
theorem K255_6 : zRk 255 B255_6 = true := zRw_ok (by decide +kernel)
noncomputable def B255_7 : List zRow := [(43, .iload_n 3, 1, (0, 0, 0))]
theorem K255_7 : zRk 255 B255_7 = true := zRw_ok (by decide +kernel)
noncomputable def B255_8 : List zRow := [(17, .ifCond .ne 5, 3, (0, 0, 0))]
theorem K255_8 : zRk 255 B255_8 = true := zRw_ok (by decide +kernel)
noncomputable def B255_9 : List zRow := [(10, .ifCond .eq 10, 3, (0, 0, 0))]
theorem K255_9 : zRk 255 B255_9 = true := zRw_ok (by decide +kernel)
/-- EchoValeModel.heirs(II)I -/
def F255 (v1 : Int) (v2 : Int) (h : zHM) : Option (Int × zHM) := (F217 v1 (mset h 0 0 0)).bind fun r1 => if r1 = 0 then some ((-1), (mset h 0 0 0)) else (F242 v2).bind fun r2 => if ¬ r2 = 0 then (F244 (mset h 0 0 0)).bind fun r3 => (F235 v2 r3).bind fun r4 => (F213 v1 5 r4.2).bind fun r5 => (F245 r4.2).bind fun r6 => some (r5, r6) else some ((-1), (mset h 0 0 0))
set_option maxRecDepth 100000 in
theorem S255 {spec : zRn zH2} {hc : zHC} {o : Int → Int} {d : Nat} (hd : 7 ≤ d) (v1 : Int) (v2 : Int) (h : zHM) (v : (Int × zHM)) (e : F255 v1 v2 h = some v) : zRu2 spec d 255 [(22, 0), (0, v1), (0, v2)] (hc, h, o) (some (0, v.1)) (hc, v.2, o) := by
  refine zF_in (D := 6) (mx := 4) (L := [some (22, 0), some (0, v1), some (0, v2), none]) (by decide +kernel) rfl rfl hd (fun d hd => ?_)
  unfold F255 at e
  obtain ⟨r1, q1, e⟩ := zB_s e
  refine zF_blk (m := []) (d := 0) (b := B255_0) (gs := []) (c' := (7, [some (22, 0), some (0, v1), some (0, v2), none], [(0, v1), (22, 0)], (hc, (mset h 0 0 0), o))) K255_0 rfl trivial ?_
  refine zF_call (k := 217) (cl := 12) (n := 2) (i := .invokevirtual 266) (args := [(22, 0), (0, v1)]) (rest := []) (g1 := (hc, (mset h 0 0 0), o)) (r1 := some (0, r1)) (zCk1_w (by decide +kernel)) rfl rfl rfl (st' := [(0, r1)]) rfl (S217 (Nat.le_trans (by decide) hd) v1 (mset h 0 0 0) _ q1) ?_
  rcases zI_s e with ⟨q2, e⟩ | ⟨q2, e⟩
  · refine zF_blk (m := []) (d := 1) (b := B255_9) (gs := [r1 = 0]) (c' := (20, [some (22, 0), some (0, v1), some (0, v2), none], [], (hc, (mset h 0 0 0), o))) K255_9 rfl ⟨q2, trivial⟩ ?_
    refine zF_blk (m := []) (d := 0) (b := B255_1) (gs := []) (c' := (21, [some (22, 0), some (0, v1), some (0, v2), none], [(0, (-1))], (hc, (mset h 0 0 0), o))) K255_1 rfl trivial ?_
    exact zF_riM (zRe1_w (by decide +kernel)) e
  · refine zF_blk (m := []) (d := 0) (b := B255_9) (gs := [¬ (r1 = 0)]) (c' := (13, [some (22, 0), some (0, v1), some (0, v2), none], [], (hc, (mset h 0 0 0), o))) K255_9 rfl ⟨q2, trivial⟩ ?_
    obtain ⟨r2, q3, e⟩ := zB_s e
    refine zF_blk (m := []) (d := 0) (b := B255_2) (gs := []) (c' := (14, [some (22, 0), some (0, v1), some (0, v2), none], [(0, v2)], (hc, (mset h 0 0 0), o))) K255_2 rfl trivial ?_
    refine zF_call (k := 242) (cl := 12) (n := 1) (i := .invokestatic 323) (args := [(0, v2)]) (rest := []) (g1 := (hc, (mset h 0 0 0), o)) (r1 := some (0, r2)) (zCk1_w (by decide +kernel)) rfl rfl rfl (st' := [(0, r2)]) rfl (S242 (Nat.le_trans (by decide) hd) v2 (mset h 0 0 0) _ q3) ?_
    rcases zI_s e with ⟨q4, e⟩ | ⟨q4, e⟩
    · refine zF_blk (m := []) (d := 1) (b := B255_8) (gs := [¬ r2 = 0]) (c' := (22, [some (22, 0), some (0, v1), some (0, v2), none], [], (hc, (mset h 0 0 0), o))) K255_8 rfl ⟨q4, trivial⟩ ?_
      obtain ⟨r3, q5, e⟩ := zB_s e
      refine zF_blk (m := []) (d := 0) (b := B255_3) (gs := []) (c' := (23, [some (22, 0), some (0, v1), some (0, v2), none], [(22, 0)], (hc, (mset h 0 0 0), o))) K255_3 rfl trivial ?_
      refine zF_call (k := 244) (cl := 12) (n := 1) (i := .invokevirtual 317) (args := [(22, 0)]) (rest := []) (g1 := (hc, r3, o)) (r1 := none) (zCk1_w (by decide +kernel)) rfl rfl rfl (st' := []) rfl (S244 (Nat.le_trans (by decide) hd)  (mset h 0 0 0) _ q5) ?_
      obtain ⟨r4, q6, e⟩ := zB_s e
      refine zF_blk (m := []) (d := 0) (b := B255_4) (gs := []) (c' := (28, [some (22, 0), some (0, v1), some (0, v2), none], [(0, v2), (22, 0)], (hc, r3, o))) K255_4 rfl trivial ?_
      refine zF_call (k := 235) (cl := 12) (n := 2) (i := .invokevirtual 314) (args := [(22, 0), (0, v2)]) (rest := []) (g1 := (hc, r4.2, o)) (r1 := some (0, r4.1)) (zCk1_w (by decide +kernel)) rfl rfl rfl (st' := [(0, r4.1)]) rfl (S235 (Nat.le_trans (by decide) hd) v2 r3 _ q6) ?_
      obtain ⟨r5, q7, e⟩ := zB_s e
      refine zF_blk (m := []) (d := 0) (b := B255_5) (gs := []) (c' := (35, [some (22, 0), some (0, v1), some (0, v2), none], [(0, 5), (0, v1), (22, 0)], (hc, r4.2, o))) K255_5 rfl trivial ?_
      refine zF_call (k := 213) (cl := 12) (n := 3) (i := .invokevirtual 247) (args := [(22, 0), (0, v1), (0, 5)]) (rest := []) (g1 := (hc, r4.2, o)) (r1 := some (0, r5)) (zCk1_w (by decide +kernel)) rfl rfl rfl (st' := [(0, r5)]) rfl (S213 (Nat.le_trans (by decide) hd) v1 5 r4.2 _ q7) ?_
      obtain ⟨r6, q8, e⟩ := zB_s e
      refine zF_blk (m := []) (d := 0) (b := B255_6) (gs := []) (c' := (40, [some (22, 0), some (0, v1), some (0, v2), some (0, r5)], [(22, 0)], (hc, r4.2, o))) K255_6 rfl trivial ?_
      refine zF_call (k := 245) (cl := 12) (n := 1) (i := .invokevirtual 320) (args := [(22, 0)]) (rest := []) (g1 := (hc, r6, o)) (r1 := none) (zCk1_w (by decide +kernel)) rfl rfl rfl (st' := []) rfl (S245 (Nat.le_trans (by decide) hd)  r4.2 _ q8) ?_
      refine zF_blk (m := []) (d := 0) (b := B255_7) (gs := []) (c' := (44, [some (22, 0), some (0, v1), some (0, v2), some (0, r5)], [(0, r5)], (hc, r6, o))) K255_7 rfl trivial ?_
      exact zF_riM (zRe1_w (by decide +kernel)) e
    · refine zF_blk (m := []) (d := 0) (b := B255_8) (gs := [¬ (¬ r2 = 0)]) (c' := (20, [some (22, 0), some (0, v1), some (0, v2), none], [], (hc, (mset h 0 0 0), o))) K255_8 rfl ⟨q4, trivial⟩ ?_
      refine zF_blk (m := []) (d := 0) (b := B255_1) (gs := []) (c' := (21, [some (22, 0), some (0, v1), some (0, v2), none], [(0, (-1))], (hc, (mset h 0 0 0), o))) K255_1 rfl trivial ?_
      exact zF_riM (zRe1_w (by decide +kernel)) e
noncomputable def B115_0 : List zRow := [(0, .aload_n 0, 1, (0, 0, 0)), (1, .iload_n 1, 1, (0, 0, 0))]
theorem K115_0 : zRk 115 B115_0 = true := zRw_ok (by decide +kernel)
noncomputable def B115_1 : List zRow := [(27, .iconst (-1), 1, (0, 0, 0))]
theorem K115_1 : zRk 115 B115_1 = true := zRw_ok (by decide +kernel)
noncomputable def B115_2 : List zRow := [(8, .aload_n 0, 1, (0, 0, 0)), (9, .iload_n 2, 1, (0, 0, 0))]
theorem K115_2 : zRk 115 B115_2 = true := zRw_ok (by decide +kernel)
noncomputable def B115_3 : List zRow := [(29, .aload_n 0, 1, (0, 0, 0)), (30, .getfield 60, 3, (11, 7, 135)), (33, .aload_n 0, 1, (0, 0, 0)), (34, .getfield 56, 3, (11, 6, 7))]
theorem K115_3 : zRk 115 B115_3 = true := zRw_ok (by decide +kernel)
noncomputable def B115_4 : List zRow := [(40, .aload_n 0, 1, (0, 0, 0)), (41, .getfield 60, 3, (11, 7, 135)), (44, .aload_n 0, 1, (0, 0, 0)), (45, .getfield 19, 3, (11, 1, 39)), (48, .iload_n 3, 1, (0, 0, 0))]
theorem K115_4 : zRk 115 B115_4 = true := zRw_ok (by decide +kernel)
noncomputable def B115_5 : List zRow := [(52, .pop, 1, (0, 0, 0)), (53, .aload_n 0, 1, (0, 0, 0)), (54, .getfield 56, 3, (11, 6, 7)), (57, .getfield 208, 3, (1, 2, 0)), (60, .istore 4, 2, (0, 0, 0))]
theorem K115_5 : zRk 115 B115_5 = true := zRw_ok (by decide +kernel)
noncomputable def B115_6 : List zRow := [(21, .iload_n 3, 1, (0, 0, 0)), (22, .bipush 100, 2, (0, 0, 0)), (24, .if_icmp .le 5, 3, (0, 0, 0))]
theorem K115_6 : zRk 115 B115_6 = true := zRw_ok (by decide +kernel)
noncomputable def B115_7 : List zRow := [(16, .iload_n 3, 1, (0, 0, 0)), (17, .iconst 1, 1, (0, 0, 0)), (18, .if_icmp .lt 9, 3, (0, 0, 0))]
theorem K115_7 : zRk 115 B115_7 = true := zRw_ok (by decide +kernel)
noncomputable def B115_8 : List zRow := [(13, .ifCond .eq 14, 3, (0, 0, 0))]
theorem K115_8 : zRk 115 B115_8 = true := zRw_ok (by decide +kernel)
noncomputable def B115_9 : List zRow := [(5, .ifCond .eq 22, 3, (0, 0, 0))]
theorem K115_9 : zRk 115 B115_9 = true := zRw_ok (by decide +kernel)
noncomputable def B115_10 : List zRow := [(122, .iconst (-1), 1, (0, 0, 0))]
theorem K115_10 : zRk 115 B115_10 = true := zRw_ok (by decide +kernel)
noncomputable def B115_11 : List zRow := [(74, .aload_n 0, 1, (0, 0, 0)), (75, .getfield 60, 3, (11, 7, 135)), (78, .iload 4, 2, (0, 0, 0)), (80, .iconst 0, 1, (0, 0, 0))]
theorem K115_11 : zRk 115 B115_11 = true := zRw_ok (by decide +kernel)
noncomputable def B115_12 : List zRow := [(88, .aload_n 0, 1, (0, 0, 0)), (89, .getfield 60, 3, (11, 7, 135)), (92, .iload 4, 2, (0, 0, 0)), (94, .iconst 4, 1, (0, 0, 0))]
theorem K115_12 : zRk 115 B115_12 = true := zRw_ok (by decide +kernel)
noncomputable def B115_13 : List zRow := [(98, .iload_n 1, 1, (0, 0, 0))]
theorem K115_13 : zRk 115 B115_13 = true := zRw_ok (by decide +kernel)
noncomputable def B115_14 : List zRow := [(105, .aload_n 0, 1, (0, 0, 0)), (106, .getfield 60, 3, (11, 7, 135)), (109, .iload 4, 2, (0, 0, 0)), (111, .iconst 2, 1, (0, 0, 0))]
theorem K115_14 : zRk 115 B115_14 = true := zRw_ok (by decide +kernel)
noncomputable def B115_15 : List zRow := [(102, .ifCond .eq 14, 3, (0, 0, 0))]
theorem K115_15 : zRk 115 B115_15 = true := zRw_ok (by decide +kernel)
noncomputable def B115_16 : List zRow := [(84, .iload_n 2, 1, (0, 0, 0)), (85, .if_icmp .ne 31, 3, (0, 0, 0))]
theorem K115_16 : zRk 115 B115_16 = true := zRw_ok (by decide +kernel)
noncomputable def B115_17 : List zRow := [(62, .iload 4, 2, (0, 0, 0)), (64, .aload_n 0, 1, (0, 0, 0)), (65, .getfield 60, 3, (11, 7, 135)), (68, .getfield 208, 3, (1, 2, 0)), (71, .if_icmp .ge 51, 3, (0, 0, 0))]
theorem K115_17 : zRk 115 B115_17 = true := zRw_ok (by decide +kernel)
noncomputable def B115_18 : List zRow := [(116, .iinc 4 1, 3, (0, 0, 0)), (119, .goto (-57), 3, (0, 0, 0))]
theorem K115_18 : zRk 115 B115_18 = true := zRw_ok (by decide +kernel)
def F115_1 (k0 : Int → Int → Int → zHC → Option (Int × zHC)) (v1 : Int) (v2 : Int) (v4 : Int) (h : zHC) : Option (Int × zHC) := k0 v1 v2 (wadd v4 1) h
set_option maxRecDepth 100000 in
theorem T115_1 {spec : zRn zH2} {hm : zHM} {o : Int → Int} {d : Nat} (hd : 6 ≤ d) (k0 : Int → Int → Int → zHC → Option (Int × zHC)) (hk0 : ∀ (v1 : Int) (v2 : Int) (v4 : Int) (h : zHC) (v : (Int × zHC)), k0 v1 v2 v4 h = some v → zFin 0 (fun _ => 0) (zRu2 spec d) 115 (some (0, v.1)) (v.2, hm, o) (62, [some (21, 0), some (0, v1), some (0, v2), none, some (0, v4)], [], (h, hm, o))) (v1 : Int) (v2 : Int) (v4 : Int) (h : zHC) (v : (Int × zHC)) (e : F115_1 k0 v1 v2 v4 h = some v) : zFin 0 (fun _ => 0) (zRu2 spec d) 115 (some (0, v.1)) (v.2, hm, o) (116, [some (21, 0), some (0, v1), some (0, v2), none, some (0, v4)], [], (h, hm, o)) := by
  unfold F115_1 at e
  refine zF_blk (m := []) (d := 0) (b := B115_18) (gs := []) (c' := (62, [some (21, 0), some (0, v1), some (0, v2), none, some (0, (wadd v4 1))], [], (h, hm, o))) K115_18 rfl trivial ?_
  exact hk0 v1 v2 (wadd v4 1) h _ e
def F115_0 : Nat → Int → Int → Int → zHC → Option (Int × zHC)
  | 0, _, _, _, _ => none
  | n + 1, v1, v2, v4, h => if (h 66 1 0) ≤ v4 then some ((-1), h) else (F67 1 v4 0 h).bind fun r1 => if ¬ r1 = v2 then F115_1 (F115_0 n) v1 v2 v4 h else (F67 1 v4 4 h).bind fun r2 => (F65 r2 v1).bind fun r3 => if r3 = 0 then F115_1 (F115_0 n) v1 v2 v4 h else (F67 1 v4 2 h).bind fun r4 => some (r4, h)
set_option maxRecDepth 100000 in
theorem T115_0 {spec : zRn zH2} {hm : zHM} {o : Int → Int} {d : Nat} (hd : 6 ≤ d) : ∀ (n : Nat) (v1 : Int) (v2 : Int) (v4 : Int) (h : zHC) (v : (Int × zHC)), F115_0 n v1 v2 v4 h = some v → zFin 0 (fun _ => 0) (zRu2 spec d) 115 (some (0, v.1)) (v.2, hm, o) (62, [some (21, 0), some (0, v1), some (0, v2), none, some (0, v4)], [], (h, hm, o)) := by
  intro n
  induction n with
  | zero => intro v1 v2 v4 h v e; unfold F115_0 at e; cases e
  | succ n hk0 =>
    intro v1 v2 v4 h v e
    unfold F115_0 at e
    rcases zI_s e with ⟨q1, e⟩ | ⟨q1, e⟩
    · refine zF_blk (m := []) (d := 1) (b := B115_17) (gs := [(h 66 1 0) ≤ v4]) (c' := (122, [some (21, 0), some (0, v1), some (0, v2), none, some (0, v4)], [], (h, hm, o))) K115_17 rfl ⟨q1, trivial⟩ ?_
      refine zF_blk (m := []) (d := 0) (b := B115_10) (gs := []) (c' := (123, [some (21, 0), some (0, v1), some (0, v2), none, some (0, v4)], [(0, (-1))], (h, hm, o))) K115_10 rfl trivial ?_
      exact zF_riC (zRe1_w (by decide +kernel)) e
    · refine zF_blk (m := []) (d := 0) (b := B115_17) (gs := [¬ ((h 66 1 0) ≤ v4)]) (c' := (74, [some (21, 0), some (0, v1), some (0, v2), none, some (0, v4)], [], (h, hm, o))) K115_17 rfl ⟨q1, trivial⟩ ?_
      obtain ⟨r1, q2, e⟩ := zB_s e
      refine zF_blk (m := []) (d := 0) (b := B115_11) (gs := []) (c' := (81, [some (21, 0), some (0, v1), some (0, v2), none, some (0, v4)], [(0, 0), (0, v4), (11, 1)], (h, hm, o))) K115_11 rfl trivial ?_
      refine zF_call (k := 67) (cl := 1) (n := 3) (i := .invokevirtual 211) (args := [(11, 1), (0, v4), (0, 0)]) (rest := []) (g1 := (h, hm, o)) (r1 := some (0, r1)) (zCk1_w (by decide +kernel)) rfl rfl rfl (st' := [(0, r1)]) rfl (S67 (Nat.le_trans (by decide) hd) 1 v4 0 h _ q2) ?_
      rcases zI_s e with ⟨q3, e⟩ | ⟨q3, e⟩
      · refine zF_blk (m := []) (d := 1) (b := B115_16) (gs := [¬ r1 = v2]) (c' := (116, [some (21, 0), some (0, v1), some (0, v2), none, some (0, v4)], [], (h, hm, o))) K115_16 rfl ⟨q3, trivial⟩ ?_
        exact T115_1 hd (F115_0 n) hk0 v1 v2 v4 h _ e
      · refine zF_blk (m := []) (d := 0) (b := B115_16) (gs := [¬ (¬ r1 = v2)]) (c' := (88, [some (21, 0), some (0, v1), some (0, v2), none, some (0, v4)], [], (h, hm, o))) K115_16 rfl ⟨q3, trivial⟩ ?_
        obtain ⟨r2, q4, e⟩ := zB_s e
        refine zF_blk (m := []) (d := 0) (b := B115_12) (gs := []) (c' := (95, [some (21, 0), some (0, v1), some (0, v2), none, some (0, v4)], [(0, 4), (0, v4), (11, 1)], (h, hm, o))) K115_12 rfl trivial ?_
        refine zF_call (k := 67) (cl := 1) (n := 3) (i := .invokevirtual 211) (args := [(11, 1), (0, v4), (0, 4)]) (rest := []) (g1 := (h, hm, o)) (r1 := some (0, r2)) (zCk1_w (by decide +kernel)) rfl rfl rfl (st' := [(0, r2)]) rfl (S67 (Nat.le_trans (by decide) hd) 1 v4 4 h _ q4) ?_
        obtain ⟨r3, q5, e⟩ := zB_s e
        refine zF_blk (m := []) (d := 0) (b := B115_13) (gs := []) (c' := (99, [some (21, 0), some (0, v1), some (0, v2), none, some (0, v4)], [(0, v1), (0, r2)], (h, hm, o))) K115_13 rfl trivial ?_
        refine zF_call (k := 65) (cl := 11) (n := 2) (i := .invokestatic 272) (args := [(0, r2), (0, v1)]) (rest := []) (g1 := (h, hm, o)) (r1 := some (0, r3)) (zCk1_w (by decide +kernel)) rfl rfl rfl (st' := [(0, r3)]) rfl (S65 (Nat.le_trans (by decide) hd) r2 v1 h _ q5) ?_
        rcases zI_s e with ⟨q6, e⟩ | ⟨q6, e⟩
        · refine zF_blk (m := []) (d := 1) (b := B115_15) (gs := [r3 = 0]) (c' := (116, [some (21, 0), some (0, v1), some (0, v2), none, some (0, v4)], [], (h, hm, o))) K115_15 rfl ⟨q6, trivial⟩ ?_
          exact T115_1 hd (F115_0 n) hk0 v1 v2 v4 h _ e
        · refine zF_blk (m := []) (d := 0) (b := B115_15) (gs := [¬ (r3 = 0)]) (c' := (105, [some (21, 0), some (0, v1), some (0, v2), none, some (0, v4)], [], (h, hm, o))) K115_15 rfl ⟨q6, trivial⟩ ?_
          obtain ⟨r4, q7, e⟩ := zB_s e
          refine zF_blk (m := []) (d := 0) (b := B115_14) (gs := []) (c' := (112, [some (21, 0), some (0, v1), some (0, v2), none, some (0, v4)], [(0, 2), (0, v4), (11, 1)], (h, hm, o))) K115_14 rfl trivial ?_
          refine zF_call (k := 67) (cl := 1) (n := 3) (i := .invokevirtual 211) (args := [(11, 1), (0, v4), (0, 2)]) (rest := []) (g1 := (h, hm, o)) (r1 := some (0, r4)) (zCk1_w (by decide +kernel)) rfl rfl rfl (st' := [(0, r4)]) rfl (S67 (Nat.le_trans (by decide) hd) 1 v4 2 h _ q7) ?_
          exact zF_riC (zRe1_w (by decide +kernel)) e
/-- EchoVale.when(III)I -/
def F115 (v1 : Int) (v2 : Int) (v3 : Int) (h : zHC) : Option (Int × zHC) := (F61 v1 h).bind fun r1 => if r1 = 0 then some ((-1), h) else (F58 v2 h).bind fun r2 => if r2 = 0 then some ((-1), h) else if v3 < 1 then some ((-1), h) else if v3 ≤ 100 then (F71 1 0 h).bind fun r3 => (F88 1 0 v3 r3).bind fun r4 => F115_0 zFu v1 v2 (r4.2 66 0 0) r4.2 else some ((-1), h)
set_option maxRecDepth 100000 in
theorem S115 {spec : zRn zH2} {hm : zHM} {o : Int → Int} {d : Nat} (hd : 7 ≤ d) (v1 : Int) (v2 : Int) (v3 : Int) (h : zHC) (v : (Int × zHC)) (e : F115 v1 v2 v3 h = some v) : zRu2 spec d 115 [(21, 0), (0, v1), (0, v2), (0, v3)] (h, hm, o) (some (0, v.1)) (v.2, hm, o) := by
  refine zF_in (D := 6) (mx := 5) (L := [some (21, 0), some (0, v1), some (0, v2), some (0, v3), none]) (by decide +kernel) rfl rfl hd (fun d hd => ?_)
  unfold F115 at e
  obtain ⟨r1, q1, e⟩ := zB_s e
  refine zF_blk (m := []) (d := 0) (b := B115_0) (gs := []) (c' := (2, [some (21, 0), some (0, v1), some (0, v2), some (0, v3), none], [(0, v1), (21, 0)], (h, hm, o))) K115_0 rfl trivial ?_
  refine zF_call (k := 61) (cl := 11) (n := 2) (i := .invokevirtual 172) (args := [(21, 0), (0, v1)]) (rest := []) (g1 := (h, hm, o)) (r1 := some (0, r1)) (zCk1_w (by decide +kernel)) rfl rfl rfl (st' := [(0, r1)]) rfl (S61 (Nat.le_trans (by decide) hd) v1 h _ q1) ?_
  rcases zI_s e with ⟨q2, e⟩ | ⟨q2, e⟩
  · refine zF_blk (m := []) (d := 1) (b := B115_9) (gs := [r1 = 0]) (c' := (27, [some (21, 0), some (0, v1), some (0, v2), some (0, v3), none], [], (h, hm, o))) K115_9 rfl ⟨q2, trivial⟩ ?_
    refine zF_blk (m := []) (d := 0) (b := B115_1) (gs := []) (c' := (28, [some (21, 0), some (0, v1), some (0, v2), some (0, v3), none], [(0, (-1))], (h, hm, o))) K115_1 rfl trivial ?_
    exact zF_riC (zRe1_w (by decide +kernel)) e
  · refine zF_blk (m := []) (d := 0) (b := B115_9) (gs := [¬ (r1 = 0)]) (c' := (8, [some (21, 0), some (0, v1), some (0, v2), some (0, v3), none], [], (h, hm, o))) K115_9 rfl ⟨q2, trivial⟩ ?_
    obtain ⟨r2, q3, e⟩ := zB_s e
    refine zF_blk (m := []) (d := 0) (b := B115_2) (gs := []) (c' := (10, [some (21, 0), some (0, v1), some (0, v2), some (0, v3), none], [(0, v2), (21, 0)], (h, hm, o))) K115_2 rfl trivial ?_
    refine zF_call (k := 58) (cl := 11) (n := 2) (i := .invokevirtual 191) (args := [(21, 0), (0, v2)]) (rest := []) (g1 := (h, hm, o)) (r1 := some (0, r2)) (zCk1_w (by decide +kernel)) rfl rfl rfl (st' := [(0, r2)]) rfl (S58 (Nat.le_trans (by decide) hd) v2 h _ q3) ?_
    rcases zI_s e with ⟨q4, e⟩ | ⟨q4, e⟩
    · refine zF_blk (m := []) (d := 1) (b := B115_8) (gs := [r2 = 0]) (c' := (27, [some (21, 0), some (0, v1), some (0, v2), some (0, v3), none], [], (h, hm, o))) K115_8 rfl ⟨q4, trivial⟩ ?_
      refine zF_blk (m := []) (d := 0) (b := B115_1) (gs := []) (c' := (28, [some (21, 0), some (0, v1), some (0, v2), some (0, v3), none], [(0, (-1))], (h, hm, o))) K115_1 rfl trivial ?_
      exact zF_riC (zRe1_w (by decide +kernel)) e
    · refine zF_blk (m := []) (d := 0) (b := B115_8) (gs := [¬ (r2 = 0)]) (c' := (16, [some (21, 0), some (0, v1), some (0, v2), some (0, v3), none], [], (h, hm, o))) K115_8 rfl ⟨q4, trivial⟩ ?_
      rcases zI_s e with ⟨q5, e⟩ | ⟨q5, e⟩
      · refine zF_blk (m := []) (d := 1) (b := B115_7) (gs := [v3 < 1]) (c' := (27, [some (21, 0), some (0, v1), some (0, v2), some (0, v3), none], [], (h, hm, o))) K115_7 rfl ⟨q5, trivial⟩ ?_
        refine zF_blk (m := []) (d := 0) (b := B115_1) (gs := []) (c' := (28, [some (21, 0), some (0, v1), some (0, v2), some (0, v3), none], [(0, (-1))], (h, hm, o))) K115_1 rfl trivial ?_
        exact zF_riC (zRe1_w (by decide +kernel)) e
      · refine zF_blk (m := []) (d := 0) (b := B115_7) (gs := [¬ (v3 < 1)]) (c' := (21, [some (21, 0), some (0, v1), some (0, v2), some (0, v3), none], [], (h, hm, o))) K115_7 rfl ⟨q5, trivial⟩ ?_
        rcases zI_s e with ⟨q6, e⟩ | ⟨q6, e⟩
        · refine zF_blk (m := []) (d := 1) (b := B115_6) (gs := [v3 ≤ 100]) (c' := (29, [some (21, 0), some (0, v1), some (0, v2), some (0, v3), none], [], (h, hm, o))) K115_6 rfl ⟨q6, trivial⟩ ?_
          obtain ⟨r3, q7, e⟩ := zB_s e
          refine zF_blk (m := []) (d := 0) (b := B115_3) (gs := []) (c' := (37, [some (21, 0), some (0, v1), some (0, v2), some (0, v3), none], [(11, 0), (11, 1)], (h, hm, o))) K115_3 rfl trivial ?_
          refine zF_call (k := 71) (cl := 1) (n := 2) (i := .invokevirtual 266) (args := [(11, 1), (11, 0)]) (rest := []) (g1 := (r3, hm, o)) (r1 := none) (zCk1_w (by decide +kernel)) rfl rfl rfl (st' := []) rfl (S71 (Nat.le_trans (by decide) hd) 1 0 h _ q7) ?_
          obtain ⟨r4, q8, e⟩ := zB_s e
          refine zF_blk (m := []) (d := 0) (b := B115_4) (gs := []) (c' := (49, [some (21, 0), some (0, v1), some (0, v2), some (0, v3), none], [(0, v3), (19, 0), (11, 1)], (r3, hm, o))) K115_4 rfl trivial ?_
          refine zF_call (k := 88) (cl := 1) (n := 3) (i := .invokevirtual 231) (args := [(11, 1), (19, 0), (0, v3)]) (rest := []) (g1 := (r4.2, hm, o)) (r1 := some (0, r4.1)) (zCk1_w (by decide +kernel)) rfl rfl rfl (st' := [(0, r4.1)]) rfl (S88 (Nat.le_trans (by decide) hd) 1 0 v3 r3 _ q8) ?_
          refine zF_blk (m := []) (d := 0) (b := B115_5) (gs := []) (c' := (62, [some (21, 0), some (0, v1), some (0, v2), some (0, v3), some (0, (r4.2 66 0 0))], [], (r4.2, hm, o))) K115_5 rfl trivial ?_
          refine zF_blk (m := [true, true, true, false, true]) (d := 0) (b := []) (gs := []) (c' := (62, [some (21, 0), some (0, v1), some (0, v2), none, some (0, (r4.2 66 0 0))], [], (r4.2, hm, o))) rfl rfl trivial ?_
          exact T115_0 hd zFu v1 v2 (r4.2 66 0 0) r4.2 _ e
        · refine zF_blk (m := []) (d := 0) (b := B115_6) (gs := [¬ (v3 ≤ 100)]) (c' := (27, [some (21, 0), some (0, v1), some (0, v2), some (0, v3), none], [], (h, hm, o))) K115_6 rfl ⟨q6, trivial⟩ ?_
          refine zF_blk (m := []) (d := 0) (b := B115_1) (gs := []) (c' := (28, [some (21, 0), some (0, v1), some (0, v2), some (0, v3), none], [(0, (-1))], (h, hm, o))) K115_1 rfl trivial ?_
          exact zF_riC (zRe1_w (by decide +kernel)) e
noncomputable def B256_0 : List zRow := [(0, .aload_n 0, 1, (0, 0, 0)), (1, .iconst 0, 1, (0, 0, 0)), (2, .putfield 81, 3, (12, 0, 0)), (5, .aload_n 0, 1, (0, 0, 0)), (6, .iload_n 1, 1, (0, 0, 0))]
theorem K256_0 : zRk 256 B256_0 = true := zRw_ok (by decide +kernel)
noncomputable def B256_1 : List zRow := [(31, .iconst (-1), 1, (0, 0, 0))]
theorem K256_1 : zRk 256 B256_1 = true := zRw_ok (by decide +kernel)
noncomputable def B256_2 : List zRow := [(13, .aload_n 0, 1, (0, 0, 0)), (14, .iload_n 2, 1, (0, 0, 0))]
theorem K256_2 : zRk 256 B256_2 = true := zRw_ok (by decide +kernel)
noncomputable def B256_3 : List zRow := [(21, .iload_n 3, 1, (0, 0, 0)), (22, .iconst 1, 1, (0, 0, 0)), (23, .bipush 100, 2, (0, 0, 0))]
theorem K256_3 : zRk 256 B256_3 = true := zRw_ok (by decide +kernel)
noncomputable def B256_4 : List zRow := [(33, .aload_n 0, 1, (0, 0, 0))]
theorem K256_4 : zRk 256 B256_4 = true := zRw_ok (by decide +kernel)
noncomputable def B256_5 : List zRow := [(37, .aload_n 0, 1, (0, 0, 0)), (38, .getfield 13, 3, (12, 14, 5251442)), (41, .sipush 997, 3, (0, 0, 0)), (44, .iaload, 1, (0, 0, 0)), (45, .istore 4, 2, (0, 0, 0)), (47, .aload_n 0, 1, (0, 0, 0)), (48, .iload_n 3, 1, (0, 0, 0))]
theorem K256_5 : zRk 256 B256_5 = true := zRw_ok (by decide +kernel)
noncomputable def B256_6 : List zRow := [(52, .pop, 1, (0, 0, 0)), (53, .iconst (-1), 1, (0, 0, 0)), (54, .istore 5, 2, (0, 0, 0)), (56, .iload 4, 2, (0, 0, 0)), (58, .istore 6, 2, (0, 0, 0))]
theorem K256_6 : zRk 256 B256_6 = true := zRw_ok (by decide +kernel)
noncomputable def B256_7 : List zRow := [(28, .ifCond .ne 5, 3, (0, 0, 0))]
theorem K256_7 : zRk 256 B256_7 = true := zRw_ok (by decide +kernel)
noncomputable def B256_8 : List zRow := [(18, .ifCond .eq 13, 3, (0, 0, 0))]
theorem K256_8 : zRk 256 B256_8 = true := zRw_ok (by decide +kernel)
noncomputable def B256_9 : List zRow := [(10, .ifCond .eq 21, 3, (0, 0, 0))]
theorem K256_9 : zRk 256 B256_9 = true := zRw_ok (by decide +kernel)
noncomputable def B256_10 : List zRow := [(79, .aload_n 0, 1, (0, 0, 0)), (80, .getfield 13, 3, (12, 14, 5251442)), (83, .sipush 998, 3, (0, 0, 0)), (86, .iconst 5, 1, (0, 0, 0)), (87, .iload 6, 2, (0, 0, 0))]
theorem K256_10 : zRk 256 B256_10 = true := zRw_ok (by decide +kernel)
noncomputable def B256_11 : List zRow := [(89, .imul, 1, (0, 0, 0))]
theorem K256_11 : zRk 256 B256_11 = true := zRw_ok (by decide +kernel)
noncomputable def B256_12 : List zRow := [(96, .aload_n 0, 1, (0, 0, 0)), (97, .getfield 13, 3, (12, 14, 5251442)), (100, .sipush 998, 3, (0, 0, 0)), (103, .iconst 5, 1, (0, 0, 0)), (104, .iload 6, 2, (0, 0, 0))]
theorem K256_12 : zRk 256 B256_12 = true := zRw_ok (by decide +kernel)
noncomputable def B256_13 : List zRow := [(106, .imul, 1, (0, 0, 0))]
theorem K256_13 : zRk 256 B256_13 = true := zRw_ok (by decide +kernel)
noncomputable def B256_14 : List zRow := [(107, .iadd, 1, (0, 0, 0)), (108, .iconst 4, 1, (0, 0, 0)), (109, .iadd, 1, (0, 0, 0)), (110, .iaload, 1, (0, 0, 0)), (111, .iload_n 1, 1, (0, 0, 0))]
theorem K256_14 : zRk 256 B256_14 = true := zRw_ok (by decide +kernel)
noncomputable def B256_15 : List zRow := [(118, .aload_n 0, 1, (0, 0, 0)), (119, .getfield 13, 3, (12, 14, 5251442)), (122, .sipush 998, 3, (0, 0, 0)), (125, .iconst 5, 1, (0, 0, 0)), (126, .iload 6, 2, (0, 0, 0))]
theorem K256_15 : zRk 256 B256_15 = true := zRw_ok (by decide +kernel)
noncomputable def B256_16 : List zRow := [(128, .imul, 1, (0, 0, 0))]
theorem K256_16 : zRk 256 B256_16 = true := zRw_ok (by decide +kernel)
noncomputable def B256_17 : List zRow := [(129, .iadd, 1, (0, 0, 0)), (130, .iconst 2, 1, (0, 0, 0)), (131, .iadd, 1, (0, 0, 0)), (132, .iaload, 1, (0, 0, 0)), (133, .istore 5, 2, (0, 0, 0))]
theorem K256_17 : zRk 256 B256_17 = true := zRw_ok (by decide +kernel)
noncomputable def B256_18 : List zRow := [(115, .ifCond .eq 20, 3, (0, 0, 0))]
theorem K256_18 : zRk 256 B256_18 = true := zRw_ok (by decide +kernel)
noncomputable def B256_19 : List zRow := [(90, .iadd, 1, (0, 0, 0)), (91, .iaload, 1, (0, 0, 0)), (92, .iload_n 2, 1, (0, 0, 0)), (93, .if_icmp .ne 42, 3, (0, 0, 0))]
theorem K256_19 : zRk 256 B256_19 = true := zRw_ok (by decide +kernel)
noncomputable def B256_20 : List zRow := [(73, .iload 5, 2, (0, 0, 0)), (75, .iconst (-1), 1, (0, 0, 0)), (76, .if_icmp .ne 65, 3, (0, 0, 0))]
theorem K256_20 : zRk 256 B256_20 = true := zRw_ok (by decide +kernel)
noncomputable def B256_21 : List zRow := [(60, .iload 6, 2, (0, 0, 0)), (62, .aload_n 0, 1, (0, 0, 0)), (63, .getfield 13, 3, (12, 14, 5251442)), (66, .sipush 997, 3, (0, 0, 0)), (69, .iaload, 1, (0, 0, 0)), (70, .if_icmp .ge 71, 3, (0, 0, 0))]
theorem K256_21 : zRk 256 B256_21 = true := zRw_ok (by decide +kernel)
noncomputable def B256_22 : List zRow := [(135, .iinc 6 1, 3, (0, 0, 0)), (138, .goto (-78), 3, (0, 0, 0))]
theorem K256_22 : zRk 256 B256_22 = true := zRw_ok (by decide +kernel)
noncomputable def B256_23 : List zRow := [(141, .aload_n 0, 1, (0, 0, 0))]
theorem K256_23 : zRk 256 B256_23 = true := zRw_ok (by decide +kernel)
noncomputable def B256_24 : List zRow := [(145, .iload 5, 2, (0, 0, 0))]
theorem K256_24 : zRk 256 B256_24 = true := zRw_ok (by decide +kernel)
def F256_1 (v5 : Int) (h : zHM) : Option (Int × zHM) := (F245 h).bind fun r1 => some (v5, r1)
set_option maxRecDepth 100000 in
theorem T256_1 {spec : zRn zH2} {hc : zHC} {o : Int → Int} {d : Nat} (hd : 6 ≤ d) (v5 : Int) (h : zHM) (v : (Int × zHM)) (e : F256_1 v5 h = some v) : zFin 0 (fun _ => 0) (zRu2 spec d) 256 (some (0, v.1)) (hc, v.2, o) (141, [some (22, 0), none, none, none, none, some (0, v5), none], [], (hc, h, o)) := by
  unfold F256_1 at e
  obtain ⟨r1, q1, e⟩ := zB_s e
  refine zF_blk (m := []) (d := 0) (b := B256_23) (gs := []) (c' := (142, [some (22, 0), none, none, none, none, some (0, v5), none], [(22, 0)], (hc, h, o))) K256_23 rfl trivial ?_
  refine zF_call (k := 245) (cl := 12) (n := 1) (i := .invokevirtual 320) (args := [(22, 0)]) (rest := []) (g1 := (hc, r1, o)) (r1 := none) (zCk1_w (by decide +kernel)) rfl rfl rfl (st' := []) rfl (S245 (Nat.le_trans (by decide) hd)  h _ q1) ?_
  refine zF_blk (m := []) (d := 0) (b := B256_24) (gs := []) (c' := (147, [some (22, 0), none, none, none, none, some (0, v5), none], [(0, v5)], (hc, r1, o))) K256_24 rfl trivial ?_
  exact zF_riM (zRe1_w (by decide +kernel)) e
def F256_2 (k0 : Int → Int → Int → Int → zHM → Option (Int × zHM)) (v1 : Int) (v2 : Int) (v5 : Int) (v6 : Int) (h : zHM) : Option (Int × zHM) := k0 v1 v2 v5 (wadd v6 1) h
set_option maxRecDepth 100000 in
theorem T256_2 {spec : zRn zH2} {hc : zHC} {o : Int → Int} {d : Nat} (hd : 6 ≤ d) (k0 : Int → Int → Int → Int → zHM → Option (Int × zHM)) (hk0 : ∀ (v1 : Int) (v2 : Int) (v5 : Int) (v6 : Int) (h : zHM) (v : (Int × zHM)), k0 v1 v2 v5 v6 h = some v → zFin 0 (fun _ => 0) (zRu2 spec d) 256 (some (0, v.1)) (hc, v.2, o) (60, [some (22, 0), some (0, v1), some (0, v2), none, none, some (0, v5), some (0, v6)], [], (hc, h, o))) (v1 : Int) (v2 : Int) (v5 : Int) (v6 : Int) (h : zHM) (v : (Int × zHM)) (e : F256_2 k0 v1 v2 v5 v6 h = some v) : zFin 0 (fun _ => 0) (zRu2 spec d) 256 (some (0, v.1)) (hc, v.2, o) (135, [some (22, 0), some (0, v1), some (0, v2), none, none, some (0, v5), some (0, v6)], [], (hc, h, o)) := by
  unfold F256_2 at e
  refine zF_blk (m := []) (d := 0) (b := B256_22) (gs := []) (c' := (60, [some (22, 0), some (0, v1), some (0, v2), none, none, some (0, v5), some (0, (wadd v6 1))], [], (hc, h, o))) K256_22 rfl trivial ?_
  exact hk0 v1 v2 v5 (wadd v6 1) h _ e
def F256_0 : Nat → Int → Int → Int → Int → zHM → Option (Int × zHM)
  | 0, _, _, _, _, _ => none
  | n + 1, v1, v2, v5, v6, h => if (h 14 997) ≤ v6 then F256_1 v5 h else if ¬ v5 = (-1) then F256_1 v5 h else zG (0 ≤ (wadd 998 (wmul 5 v6)) ∧ (wadd 998 (wmul 5 v6)) < 2140) (if ¬ (h 14 (wadd 998 (wmul 5 v6))) = v2 then F256_2 (F256_0 n) v1 v2 v5 v6 h else zG (0 ≤ (wadd (wadd 998 (wmul 5 v6)) 4) ∧ (wadd (wadd 998 (wmul 5 v6)) 4) < 2140) ((F214 (h 14 (wadd (wadd 998 (wmul 5 v6)) 4)) v1).bind fun r1 => if r1 = 0 then F256_2 (F256_0 n) v1 v2 v5 v6 h else zG (0 ≤ (wadd (wadd 998 (wmul 5 v6)) 2) ∧ (wadd (wadd 998 (wmul 5 v6)) 2) < 2140) (F256_2 (F256_0 n) v1 v2 (h 14 (wadd (wadd 998 (wmul 5 v6)) 2)) v6 h)))
set_option maxRecDepth 100000 in
theorem T256_0 {spec : zRn zH2} {hc : zHC} {o : Int → Int} {d : Nat} (hd : 6 ≤ d) : ∀ (n : Nat) (v1 : Int) (v2 : Int) (v5 : Int) (v6 : Int) (h : zHM) (v : (Int × zHM)), F256_0 n v1 v2 v5 v6 h = some v → zFin 0 (fun _ => 0) (zRu2 spec d) 256 (some (0, v.1)) (hc, v.2, o) (60, [some (22, 0), some (0, v1), some (0, v2), none, none, some (0, v5), some (0, v6)], [], (hc, h, o)) := by
  intro n
  induction n with
  | zero => intro v1 v2 v5 v6 h v e; unfold F256_0 at e; cases e
  | succ n hk0 =>
    intro v1 v2 v5 v6 h v e
    unfold F256_0 at e
    rcases zI_s e with ⟨q1, e⟩ | ⟨q1, e⟩
    · refine zF_blk (m := []) (d := 1) (b := B256_21) (gs := [0 ≤ 997 ∧ 997 < 2140, (h 14 997) ≤ v6]) (c' := (141, [some (22, 0), some (0, v1), some (0, v2), none, none, some (0, v5), some (0, v6)], [], (hc, h, o))) K256_21 rfl ⟨by decide, q1, trivial⟩ ?_
      refine zF_blk (m := [true, false, false, false, false, true, false]) (d := 0) (b := []) (gs := []) (c' := (141, [some (22, 0), none, none, none, none, some (0, v5), none], [], (hc, h, o))) rfl rfl trivial ?_
      exact T256_1 hd v5 h _ e
    · refine zF_blk (m := []) (d := 0) (b := B256_21) (gs := [0 ≤ 997 ∧ 997 < 2140, ¬ ((h 14 997) ≤ v6)]) (c' := (73, [some (22, 0), some (0, v1), some (0, v2), none, none, some (0, v5), some (0, v6)], [], (hc, h, o))) K256_21 rfl ⟨by decide, q1, trivial⟩ ?_
      rcases zI_s e with ⟨q2, e⟩ | ⟨q2, e⟩
      · refine zF_blk (m := []) (d := 1) (b := B256_20) (gs := [¬ v5 = (-1)]) (c' := (141, [some (22, 0), some (0, v1), some (0, v2), none, none, some (0, v5), some (0, v6)], [], (hc, h, o))) K256_20 rfl ⟨q2, trivial⟩ ?_
        refine zF_blk (m := [true, false, false, false, false, true, false]) (d := 0) (b := []) (gs := []) (c' := (141, [some (22, 0), none, none, none, none, some (0, v5), none], [], (hc, h, o))) rfl rfl trivial ?_
        exact T256_1 hd v5 h _ e
      · refine zF_blk (m := []) (d := 0) (b := B256_20) (gs := [¬ (¬ v5 = (-1))]) (c' := (79, [some (22, 0), some (0, v1), some (0, v2), none, none, some (0, v5), some (0, v6)], [], (hc, h, o))) K256_20 rfl ⟨q2, trivial⟩ ?_
        obtain ⟨q3, e⟩ := zG_s e
        refine zF_blk (m := []) (d := 0) (b := B256_10) (gs := []) (c' := (89, [some (22, 0), some (0, v1), some (0, v2), none, none, some (0, v5), some (0, v6)], [(0, v6), (0, 5), (0, 998), (1344370422, 0)], (hc, h, o))) K256_10 rfl trivial ?_
        refine zF_blk (m := []) (d := 0) (b := B256_11) (gs := []) (c' := (90, [some (22, 0), some (0, v1), some (0, v2), none, none, some (0, v5), some (0, v6)], [(0, (wmul 5 v6)), (0, 998), (1344370422, 0)], (hc, h, o))) K256_11 rfl trivial ?_
        rcases zI_s e with ⟨q4, e⟩ | ⟨q4, e⟩
        · refine zF_blk (m := []) (d := 1) (b := B256_19) (gs := [0 ≤ (wadd 998 (wmul 5 v6)) ∧ (wadd 998 (wmul 5 v6)) < 2140, ¬ (h 14 (wadd 998 (wmul 5 v6))) = v2]) (c' := (135, [some (22, 0), some (0, v1), some (0, v2), none, none, some (0, v5), some (0, v6)], [], (hc, h, o))) K256_19 rfl ⟨q3, q4, trivial⟩ ?_
          exact T256_2 hd (F256_0 n) hk0 v1 v2 v5 v6 h _ e
        · refine zF_blk (m := []) (d := 0) (b := B256_19) (gs := [0 ≤ (wadd 998 (wmul 5 v6)) ∧ (wadd 998 (wmul 5 v6)) < 2140, ¬ (¬ (h 14 (wadd 998 (wmul 5 v6))) = v2)]) (c' := (96, [some (22, 0), some (0, v1), some (0, v2), none, none, some (0, v5), some (0, v6)], [], (hc, h, o))) K256_19 rfl ⟨q3, q4, trivial⟩ ?_
          obtain ⟨q5, e⟩ := zG_s e
          refine zF_blk (m := []) (d := 0) (b := B256_12) (gs := []) (c' := (106, [some (22, 0), some (0, v1), some (0, v2), none, none, some (0, v5), some (0, v6)], [(0, v6), (0, 5), (0, 998), (1344370422, 0)], (hc, h, o))) K256_12 rfl trivial ?_
          refine zF_blk (m := []) (d := 0) (b := B256_13) (gs := []) (c' := (107, [some (22, 0), some (0, v1), some (0, v2), none, none, some (0, v5), some (0, v6)], [(0, (wmul 5 v6)), (0, 998), (1344370422, 0)], (hc, h, o))) K256_13 rfl trivial ?_
          obtain ⟨r1, q6, e⟩ := zB_s e
          refine zF_blk (m := []) (d := 0) (b := B256_14) (gs := [0 ≤ (wadd (wadd 998 (wmul 5 v6)) 4) ∧ (wadd (wadd 998 (wmul 5 v6)) 4) < 2140]) (c' := (112, [some (22, 0), some (0, v1), some (0, v2), none, none, some (0, v5), some (0, v6)], [(0, v1), (0, (h 14 (wadd (wadd 998 (wmul 5 v6)) 4)))], (hc, h, o))) K256_14 rfl ⟨q5, trivial⟩ ?_
          refine zF_call (k := 214) (cl := 12) (n := 2) (i := .invokestatic 251) (args := [(0, (h 14 (wadd (wadd 998 (wmul 5 v6)) 4))), (0, v1)]) (rest := []) (g1 := (hc, h, o)) (r1 := some (0, r1)) (zCk1_w (by decide +kernel)) rfl rfl rfl (st' := [(0, r1)]) rfl (S214 (Nat.le_trans (by decide) hd) (h 14 (wadd (wadd 998 (wmul 5 v6)) 4)) v1 h _ q6) ?_
          rcases zI_s e with ⟨q7, e⟩ | ⟨q7, e⟩
          · refine zF_blk (m := []) (d := 1) (b := B256_18) (gs := [r1 = 0]) (c' := (135, [some (22, 0), some (0, v1), some (0, v2), none, none, some (0, v5), some (0, v6)], [], (hc, h, o))) K256_18 rfl ⟨q7, trivial⟩ ?_
            exact T256_2 hd (F256_0 n) hk0 v1 v2 v5 v6 h _ e
          · refine zF_blk (m := []) (d := 0) (b := B256_18) (gs := [¬ (r1 = 0)]) (c' := (118, [some (22, 0), some (0, v1), some (0, v2), none, none, some (0, v5), some (0, v6)], [], (hc, h, o))) K256_18 rfl ⟨q7, trivial⟩ ?_
            obtain ⟨q8, e⟩ := zG_s e
            refine zF_blk (m := []) (d := 0) (b := B256_15) (gs := []) (c' := (128, [some (22, 0), some (0, v1), some (0, v2), none, none, some (0, v5), some (0, v6)], [(0, v6), (0, 5), (0, 998), (1344370422, 0)], (hc, h, o))) K256_15 rfl trivial ?_
            refine zF_blk (m := []) (d := 0) (b := B256_16) (gs := []) (c' := (129, [some (22, 0), some (0, v1), some (0, v2), none, none, some (0, v5), some (0, v6)], [(0, (wmul 5 v6)), (0, 998), (1344370422, 0)], (hc, h, o))) K256_16 rfl trivial ?_
            refine zF_blk (m := []) (d := 0) (b := B256_17) (gs := [0 ≤ (wadd (wadd 998 (wmul 5 v6)) 2) ∧ (wadd (wadd 998 (wmul 5 v6)) 2) < 2140]) (c' := (135, [some (22, 0), some (0, v1), some (0, v2), none, none, some (0, (h 14 (wadd (wadd 998 (wmul 5 v6)) 2))), some (0, v6)], [], (hc, h, o))) K256_17 rfl ⟨q8, trivial⟩ ?_
            exact T256_2 hd (F256_0 n) hk0 v1 v2 (h 14 (wadd (wadd 998 (wmul 5 v6)) 2)) v6 h _ e
/-- EchoValeModel.when(III)I -/
def F256 (v1 : Int) (v2 : Int) (v3 : Int) (h : zHM) : Option (Int × zHM) := (F210 v1 (mset h 0 0 0)).bind fun r1 => if r1 = 0 then some ((-1), (mset h 0 0 0)) else (F217 v2 (mset h 0 0 0)).bind fun r2 => if r2 = 0 then some ((-1), (mset h 0 0 0)) else (F188 v3 1 100).bind fun r3 => if ¬ r3 = 0 then (F244 (mset h 0 0 0)).bind fun r4 => (F235 v3 r4).bind fun r5 => F256_0 zFu v1 v2 (-1) (r4 14 997) r5.2 else some ((-1), (mset h 0 0 0))
set_option maxRecDepth 100000 in
theorem S256 {spec : zRn zH2} {hc : zHC} {o : Int → Int} {d : Nat} (hd : 7 ≤ d) (v1 : Int) (v2 : Int) (v3 : Int) (h : zHM) (v : (Int × zHM)) (e : F256 v1 v2 v3 h = some v) : zRu2 spec d 256 [(22, 0), (0, v1), (0, v2), (0, v3)] (hc, h, o) (some (0, v.1)) (hc, v.2, o) := by
  refine zF_in (D := 6) (mx := 7) (L := [some (22, 0), some (0, v1), some (0, v2), some (0, v3), none, none, none]) (by decide +kernel) rfl rfl hd (fun d hd => ?_)
  unfold F256 at e
  obtain ⟨r1, q1, e⟩ := zB_s e
  refine zF_blk (m := []) (d := 0) (b := B256_0) (gs := []) (c' := (7, [some (22, 0), some (0, v1), some (0, v2), some (0, v3), none, none, none], [(0, v1), (22, 0)], (hc, (mset h 0 0 0), o))) K256_0 rfl trivial ?_
  refine zF_call (k := 210) (cl := 12) (n := 2) (i := .invokevirtual 260) (args := [(22, 0), (0, v1)]) (rest := []) (g1 := (hc, (mset h 0 0 0), o)) (r1 := some (0, r1)) (zCk1_w (by decide +kernel)) rfl rfl rfl (st' := [(0, r1)]) rfl (S210 (Nat.le_trans (by decide) hd) v1 (mset h 0 0 0) _ q1) ?_
  rcases zI_s e with ⟨q2, e⟩ | ⟨q2, e⟩
  · refine zF_blk (m := []) (d := 1) (b := B256_9) (gs := [r1 = 0]) (c' := (31, [some (22, 0), some (0, v1), some (0, v2), some (0, v3), none, none, none], [], (hc, (mset h 0 0 0), o))) K256_9 rfl ⟨q2, trivial⟩ ?_
    refine zF_blk (m := []) (d := 0) (b := B256_1) (gs := []) (c' := (32, [some (22, 0), some (0, v1), some (0, v2), some (0, v3), none, none, none], [(0, (-1))], (hc, (mset h 0 0 0), o))) K256_1 rfl trivial ?_
    exact zF_riM (zRe1_w (by decide +kernel)) e
  · refine zF_blk (m := []) (d := 0) (b := B256_9) (gs := [¬ (r1 = 0)]) (c' := (13, [some (22, 0), some (0, v1), some (0, v2), some (0, v3), none, none, none], [], (hc, (mset h 0 0 0), o))) K256_9 rfl ⟨q2, trivial⟩ ?_
    obtain ⟨r2, q3, e⟩ := zB_s e
    refine zF_blk (m := []) (d := 0) (b := B256_2) (gs := []) (c' := (15, [some (22, 0), some (0, v1), some (0, v2), some (0, v3), none, none, none], [(0, v2), (22, 0)], (hc, (mset h 0 0 0), o))) K256_2 rfl trivial ?_
    refine zF_call (k := 217) (cl := 12) (n := 2) (i := .invokevirtual 266) (args := [(22, 0), (0, v2)]) (rest := []) (g1 := (hc, (mset h 0 0 0), o)) (r1 := some (0, r2)) (zCk1_w (by decide +kernel)) rfl rfl rfl (st' := [(0, r2)]) rfl (S217 (Nat.le_trans (by decide) hd) v2 (mset h 0 0 0) _ q3) ?_
    rcases zI_s e with ⟨q4, e⟩ | ⟨q4, e⟩
    · refine zF_blk (m := []) (d := 1) (b := B256_8) (gs := [r2 = 0]) (c' := (31, [some (22, 0), some (0, v1), some (0, v2), some (0, v3), none, none, none], [], (hc, (mset h 0 0 0), o))) K256_8 rfl ⟨q4, trivial⟩ ?_
      refine zF_blk (m := []) (d := 0) (b := B256_1) (gs := []) (c' := (32, [some (22, 0), some (0, v1), some (0, v2), some (0, v3), none, none, none], [(0, (-1))], (hc, (mset h 0 0 0), o))) K256_1 rfl trivial ?_
      exact zF_riM (zRe1_w (by decide +kernel)) e
    · refine zF_blk (m := []) (d := 0) (b := B256_8) (gs := [¬ (r2 = 0)]) (c' := (21, [some (22, 0), some (0, v1), some (0, v2), some (0, v3), none, none, none], [], (hc, (mset h 0 0 0), o))) K256_8 rfl ⟨q4, trivial⟩ ?_
      obtain ⟨r3, q5, e⟩ := zB_s e
      refine zF_blk (m := []) (d := 0) (b := B256_3) (gs := []) (c' := (25, [some (22, 0), some (0, v1), some (0, v2), some (0, v3), none, none, none], [(0, 100), (0, 1), (0, v3)], (hc, (mset h 0 0 0), o))) K256_3 rfl trivial ?_
      refine zF_call (k := 188) (cl := 12) (n := 3) (i := .invokestatic 151) (args := [(0, v3), (0, 1), (0, 100)]) (rest := []) (g1 := (hc, (mset h 0 0 0), o)) (r1 := some (0, r3)) (zCk1_w (by decide +kernel)) rfl rfl rfl (st' := [(0, r3)]) rfl (S188 (Nat.le_trans (by decide) hd) v3 1 100 (mset h 0 0 0) _ q5) ?_
      rcases zI_s e with ⟨q6, e⟩ | ⟨q6, e⟩
      · refine zF_blk (m := []) (d := 1) (b := B256_7) (gs := [¬ r3 = 0]) (c' := (33, [some (22, 0), some (0, v1), some (0, v2), some (0, v3), none, none, none], [], (hc, (mset h 0 0 0), o))) K256_7 rfl ⟨q6, trivial⟩ ?_
        obtain ⟨r4, q7, e⟩ := zB_s e
        refine zF_blk (m := []) (d := 0) (b := B256_4) (gs := []) (c' := (34, [some (22, 0), some (0, v1), some (0, v2), some (0, v3), none, none, none], [(22, 0)], (hc, (mset h 0 0 0), o))) K256_4 rfl trivial ?_
        refine zF_call (k := 244) (cl := 12) (n := 1) (i := .invokevirtual 317) (args := [(22, 0)]) (rest := []) (g1 := (hc, r4, o)) (r1 := none) (zCk1_w (by decide +kernel)) rfl rfl rfl (st' := []) rfl (S244 (Nat.le_trans (by decide) hd)  (mset h 0 0 0) _ q7) ?_
        obtain ⟨r5, q8, e⟩ := zB_s e
        refine zF_blk (m := []) (d := 0) (b := B256_5) (gs := [0 ≤ 997 ∧ 997 < 2140]) (c' := (49, [some (22, 0), some (0, v1), some (0, v2), some (0, v3), some (0, (r4 14 997)), none, none], [(0, v3), (22, 0)], (hc, r4, o))) K256_5 rfl ⟨by decide, trivial⟩ ?_
        refine zF_call (k := 235) (cl := 12) (n := 2) (i := .invokevirtual 314) (args := [(22, 0), (0, v3)]) (rest := []) (g1 := (hc, r5.2, o)) (r1 := some (0, r5.1)) (zCk1_w (by decide +kernel)) rfl rfl rfl (st' := [(0, r5.1)]) rfl (S235 (Nat.le_trans (by decide) hd) v3 r4 _ q8) ?_
        refine zF_blk (m := []) (d := 0) (b := B256_6) (gs := []) (c' := (60, [some (22, 0), some (0, v1), some (0, v2), some (0, v3), some (0, (r4 14 997)), some (0, (-1)), some (0, (r4 14 997))], [], (hc, r5.2, o))) K256_6 rfl trivial ?_
        refine zF_blk (m := [true, true, true, false, false, true, true]) (d := 0) (b := []) (gs := []) (c' := (60, [some (22, 0), some (0, v1), some (0, v2), none, none, some (0, (-1)), some (0, (r4 14 997))], [], (hc, r5.2, o))) rfl rfl trivial ?_
        exact T256_0 hd zFu v1 v2 (-1) (r4 14 997) r5.2 _ e
      · refine zF_blk (m := []) (d := 0) (b := B256_7) (gs := [¬ (¬ r3 = 0)]) (c' := (31, [some (22, 0), some (0, v1), some (0, v2), some (0, v3), none, none, none], [], (hc, (mset h 0 0 0), o))) K256_7 rfl ⟨q6, trivial⟩ ?_
        refine zF_blk (m := []) (d := 0) (b := B256_1) (gs := []) (c' := (32, [some (22, 0), some (0, v1), some (0, v2), some (0, v3), none, none, none], [(0, (-1))], (hc, (mset h 0 0 0), o))) K256_1 rfl trivial ?_
        exact zF_riM (zRe1_w (by decide +kernel)) e
noncomputable def B116_0 : List zRow := [(0, .aload_n 0, 1, (0, 0, 0)), (1, .iload_n 1, 1, (0, 0, 0))]
theorem K116_0 : zRk 116 B116_0 = true := zRw_ok (by decide +kernel)
noncomputable def B116_1 : List zRow := [(23, .iconst (-1), 1, (0, 0, 0))]
theorem K116_1 : zRk 116 B116_1 = true := zRw_ok (by decide +kernel)
noncomputable def B116_2 : List zRow := [(8, .aload_n 0, 1, (0, 0, 0)), (9, .iload_n 2, 1, (0, 0, 0))]
theorem K116_2 : zRk 116 B116_2 = true := zRw_ok (by decide +kernel)
noncomputable def B116_3 : List zRow := [(16, .iload_n 3, 1, (0, 0, 0))]
theorem K116_3 : zRk 116 B116_3 = true := zRw_ok (by decide +kernel)
noncomputable def B116_4 : List zRow := [(25, .aload_n 0, 1, (0, 0, 0)), (26, .getfield 60, 3, (11, 7, 135)), (29, .aload_n 0, 1, (0, 0, 0)), (30, .getfield 56, 3, (11, 6, 7))]
theorem K116_4 : zRk 116 B116_4 = true := zRw_ok (by decide +kernel)
noncomputable def B116_5 : List zRow := [(36, .iconst 0, 1, (0, 0, 0)), (37, .istore 4, 2, (0, 0, 0)), (39, .iconst 0, 1, (0, 0, 0)), (40, .istore 5, 2, (0, 0, 0))]
theorem K116_5 : zRk 116 B116_5 = true := zRw_ok (by decide +kernel)
noncomputable def B116_6 : List zRow := [(20, .ifCond .ne 5, 3, (0, 0, 0))]
theorem K116_6 : zRk 116 B116_6 = true := zRw_ok (by decide +kernel)
noncomputable def B116_7 : List zRow := [(13, .ifCond .eq 10, 3, (0, 0, 0))]
theorem K116_7 : zRk 116 B116_7 = true := zRw_ok (by decide +kernel)
noncomputable def B116_8 : List zRow := [(5, .ifCond .eq 18, 3, (0, 0, 0))]
theorem K116_8 : zRk 116 B116_8 = true := zRw_ok (by decide +kernel)
noncomputable def B116_9 : List zRow := [(103, .iload 4, 2, (0, 0, 0))]
theorem K116_9 : zRk 116 B116_9 = true := zRw_ok (by decide +kernel)
noncomputable def B116_10 : List zRow := [(61, .aload_n 0, 1, (0, 0, 0)), (62, .getfield 60, 3, (11, 7, 135)), (65, .aload_n 0, 1, (0, 0, 0)), (66, .getfield 19, 3, (11, 1, 39)), (69, .iconst 0, 1, (0, 0, 0))]
theorem K116_10 : zRk 116 B116_10 = true := zRw_ok (by decide +kernel)
noncomputable def B116_11 : List zRow := [(94, .iinc 4 1, 3, (0, 0, 0))]
theorem K116_11 : zRk 116 B116_11 = true := zRw_ok (by decide +kernel)
noncomputable def B116_12 : List zRow := [(73, .aload_n 0, 1, (0, 0, 0)), (74, .getfield 60, 3, (11, 7, 135)), (77, .getfield 177, 3, (1, 3, 5242906)), (80, .iload_n 1, 1, (0, 0, 0)), (81, .iaload, 1, (0, 0, 0)), (82, .aload_n 0, 1, (0, 0, 0)), (83, .getfield 60, 3, (11, 7, 135)), (86, .getfield 177, 3, (1, 3, 5242906)), (89, .iload_n 2, 1, (0, 0, 0)), (90, .iaload, 1, (0, 0, 0)), (91, .if_icmp .ne 6, 3, (0, 0, 0))]
theorem K116_12 : zRk 116 B116_12 = true := zRw_ok (by decide +kernel)
noncomputable def B116_13 : List zRow := [(48, .aload_n 0, 1, (0, 0, 0)), (49, .getfield 60, 3, (11, 7, 135)), (52, .getfield 159, 3, (1, 0, 0)), (55, .sipush 400, 3, (0, 0, 0)), (58, .if_icmp .ge 45, 3, (0, 0, 0))]
theorem K116_13 : zRk 116 B116_13 = true := zRw_ok (by decide +kernel)
noncomputable def B116_14 : List zRow := [(42, .iload 5, 2, (0, 0, 0)), (44, .iload_n 3, 1, (0, 0, 0)), (45, .if_icmp .ge 58, 3, (0, 0, 0))]
theorem K116_14 : zRk 116 B116_14 = true := zRw_ok (by decide +kernel)
noncomputable def B116_15 : List zRow := [(97, .iinc 5 1, 3, (0, 0, 0)), (100, .goto (-58), 3, (0, 0, 0))]
theorem K116_15 : zRk 116 B116_15 = true := zRw_ok (by decide +kernel)
def F116_1 (k0 : Int → Int → Int → Int → Int → zHC → Option (Int × zHC)) (v1 : Int) (v2 : Int) (v3 : Int) (v4 : Int) (v5 : Int) (h : zHC) : Option (Int × zHC) := k0 v1 v2 v3 v4 (wadd v5 1) h
set_option maxRecDepth 100000 in
theorem T116_1 {spec : zRn zH2} {hm : zHM} {o : Int → Int} {d : Nat} (hd : 5 ≤ d) (k0 : Int → Int → Int → Int → Int → zHC → Option (Int × zHC)) (hk0 : ∀ (v1 : Int) (v2 : Int) (v3 : Int) (v4 : Int) (v5 : Int) (h : zHC) (v : (Int × zHC)), k0 v1 v2 v3 v4 v5 h = some v → zFin 0 (fun _ => 0) (zRu2 spec d) 116 (some (0, v.1)) (v.2, hm, o) (42, [some (21, 0), some (0, v1), some (0, v2), some (0, v3), some (0, v4), some (0, v5)], [], (h, hm, o))) (v1 : Int) (v2 : Int) (v3 : Int) (v4 : Int) (v5 : Int) (h : zHC) (v : (Int × zHC)) (e : F116_1 k0 v1 v2 v3 v4 v5 h = some v) : zFin 0 (fun _ => 0) (zRu2 spec d) 116 (some (0, v.1)) (v.2, hm, o) (97, [some (21, 0), some (0, v1), some (0, v2), some (0, v3), some (0, v4), some (0, v5)], [], (h, hm, o)) := by
  unfold F116_1 at e
  refine zF_blk (m := []) (d := 0) (b := B116_15) (gs := []) (c' := (42, [some (21, 0), some (0, v1), some (0, v2), some (0, v3), some (0, v4), some (0, (wadd v5 1))], [], (h, hm, o))) K116_15 rfl trivial ?_
  exact hk0 v1 v2 v3 v4 (wadd v5 1) h _ e
def F116_0 : Nat → Int → Int → Int → Int → Int → zHC → Option (Int × zHC)
  | 0, _, _, _, _, _, _ => none
  | n + 1, v1, v2, v3, v4, v5, h => if v3 ≤ v5 then some (v4, h) else if 400 ≤ (h 64 1 0) then some (v4, h) else (F89 1 0 0 h).bind fun r1 => zG (0 ≤ v1 ∧ v1 < 6) (zG (0 ≤ v2 ∧ v2 < 6) (if ¬ (r1 67 1 v1) = (r1 67 1 v2) then F116_1 (F116_0 n) v1 v2 v3 v4 v5 r1 else F116_1 (F116_0 n) v1 v2 v3 (wadd v4 1) v5 r1))
set_option maxRecDepth 100000 in
theorem T116_0 {spec : zRn zH2} {hm : zHM} {o : Int → Int} {d : Nat} (hd : 5 ≤ d) : ∀ (n : Nat) (v1 : Int) (v2 : Int) (v3 : Int) (v4 : Int) (v5 : Int) (h : zHC) (v : (Int × zHC)), F116_0 n v1 v2 v3 v4 v5 h = some v → zFin 0 (fun _ => 0) (zRu2 spec d) 116 (some (0, v.1)) (v.2, hm, o) (42, [some (21, 0), some (0, v1), some (0, v2), some (0, v3), some (0, v4), some (0, v5)], [], (h, hm, o)) := by
  intro n
  induction n with
  | zero => intro v1 v2 v3 v4 v5 h v e; unfold F116_0 at e; cases e
  | succ n hk0 =>
    intro v1 v2 v3 v4 v5 h v e
    unfold F116_0 at e
    rcases zI_s e with ⟨q1, e⟩ | ⟨q1, e⟩
    · refine zF_blk (m := []) (d := 1) (b := B116_14) (gs := [v3 ≤ v5]) (c' := (103, [some (21, 0), some (0, v1), some (0, v2), some (0, v3), some (0, v4), some (0, v5)], [], (h, hm, o))) K116_14 rfl ⟨q1, trivial⟩ ?_
      refine zF_blk (m := []) (d := 0) (b := B116_9) (gs := []) (c' := (105, [some (21, 0), some (0, v1), some (0, v2), some (0, v3), some (0, v4), some (0, v5)], [(0, v4)], (h, hm, o))) K116_9 rfl trivial ?_
      exact zF_riC (zRe1_w (by decide +kernel)) e
    · refine zF_blk (m := []) (d := 0) (b := B116_14) (gs := [¬ (v3 ≤ v5)]) (c' := (48, [some (21, 0), some (0, v1), some (0, v2), some (0, v3), some (0, v4), some (0, v5)], [], (h, hm, o))) K116_14 rfl ⟨q1, trivial⟩ ?_
      rcases zI_s e with ⟨q2, e⟩ | ⟨q2, e⟩
      · refine zF_blk (m := []) (d := 1) (b := B116_13) (gs := [400 ≤ (h 64 1 0)]) (c' := (103, [some (21, 0), some (0, v1), some (0, v2), some (0, v3), some (0, v4), some (0, v5)], [], (h, hm, o))) K116_13 rfl ⟨q2, trivial⟩ ?_
        refine zF_blk (m := []) (d := 0) (b := B116_9) (gs := []) (c' := (105, [some (21, 0), some (0, v1), some (0, v2), some (0, v3), some (0, v4), some (0, v5)], [(0, v4)], (h, hm, o))) K116_9 rfl trivial ?_
        exact zF_riC (zRe1_w (by decide +kernel)) e
      · refine zF_blk (m := []) (d := 0) (b := B116_13) (gs := [¬ (400 ≤ (h 64 1 0))]) (c' := (61, [some (21, 0), some (0, v1), some (0, v2), some (0, v3), some (0, v4), some (0, v5)], [], (h, hm, o))) K116_13 rfl ⟨q2, trivial⟩ ?_
        obtain ⟨r1, q3, e⟩ := zB_s e
        refine zF_blk (m := []) (d := 0) (b := B116_10) (gs := []) (c' := (70, [some (21, 0), some (0, v1), some (0, v2), some (0, v3), some (0, v4), some (0, v5)], [(0, 0), (19, 0), (11, 1)], (h, hm, o))) K116_10 rfl trivial ?_
        refine zF_call (k := 89) (cl := 1) (n := 3) (i := .invokevirtual 268) (args := [(11, 1), (19, 0), (0, 0)]) (rest := []) (g1 := (r1, hm, o)) (r1 := none) (zCk1_w (by decide +kernel)) rfl rfl rfl (st' := []) rfl (S89 (Nat.le_trans (by decide) hd) 1 0 0 h _ q3) ?_
        obtain ⟨q4, e⟩ := zG_s e
        obtain ⟨q5, e⟩ := zG_s e
        rcases zI_s e with ⟨q6, e⟩ | ⟨q6, e⟩
        · refine zF_blk (m := []) (d := 1) (b := B116_12) (gs := [0 ≤ v1 ∧ v1 < 6, 0 ≤ v2 ∧ v2 < 6, ¬ (r1 67 1 v1) = (r1 67 1 v2)]) (c' := (97, [some (21, 0), some (0, v1), some (0, v2), some (0, v3), some (0, v4), some (0, v5)], [], (r1, hm, o))) K116_12 rfl ⟨q4, q5, q6, trivial⟩ ?_
          exact T116_1 hd (F116_0 n) hk0 v1 v2 v3 v4 v5 r1 _ e
        · refine zF_blk (m := []) (d := 0) (b := B116_12) (gs := [0 ≤ v1 ∧ v1 < 6, 0 ≤ v2 ∧ v2 < 6, ¬ (¬ (r1 67 1 v1) = (r1 67 1 v2))]) (c' := (94, [some (21, 0), some (0, v1), some (0, v2), some (0, v3), some (0, v4), some (0, v5)], [], (r1, hm, o))) K116_12 rfl ⟨q4, q5, q6, trivial⟩ ?_
          refine zF_blk (m := []) (d := 0) (b := B116_11) (gs := []) (c' := (97, [some (21, 0), some (0, v1), some (0, v2), some (0, v3), some (0, (wadd v4 1)), some (0, v5)], [], (r1, hm, o))) K116_11 rfl trivial ?_
          exact T116_1 hd (F116_0 n) hk0 v1 v2 v3 (wadd v4 1) v5 r1 _ e
/-- EchoVale.meets(III)I -/
def F116 (v1 : Int) (v2 : Int) (v3 : Int) (h : zHC) : Option (Int × zHC) := (F61 v1 h).bind fun r1 => if r1 = 0 then some ((-1), h) else (F61 v2 h).bind fun r2 => if r2 = 0 then some ((-1), h) else (F99 v3).bind fun r3 => if ¬ r3 = 0 then (F72 1 0 h).bind fun r4 => F116_0 zFu v1 v2 v3 0 0 r4 else some ((-1), h)
set_option maxRecDepth 100000 in
theorem S116 {spec : zRn zH2} {hm : zHM} {o : Int → Int} {d : Nat} (hd : 6 ≤ d) (v1 : Int) (v2 : Int) (v3 : Int) (h : zHC) (v : (Int × zHC)) (e : F116 v1 v2 v3 h = some v) : zRu2 spec d 116 [(21, 0), (0, v1), (0, v2), (0, v3)] (h, hm, o) (some (0, v.1)) (v.2, hm, o) := by
  refine zF_in (D := 5) (mx := 6) (L := [some (21, 0), some (0, v1), some (0, v2), some (0, v3), none, none]) (by decide +kernel) rfl rfl hd (fun d hd => ?_)
  unfold F116 at e
  obtain ⟨r1, q1, e⟩ := zB_s e
  refine zF_blk (m := []) (d := 0) (b := B116_0) (gs := []) (c' := (2, [some (21, 0), some (0, v1), some (0, v2), some (0, v3), none, none], [(0, v1), (21, 0)], (h, hm, o))) K116_0 rfl trivial ?_
  refine zF_call (k := 61) (cl := 11) (n := 2) (i := .invokevirtual 172) (args := [(21, 0), (0, v1)]) (rest := []) (g1 := (h, hm, o)) (r1 := some (0, r1)) (zCk1_w (by decide +kernel)) rfl rfl rfl (st' := [(0, r1)]) rfl (S61 (Nat.le_trans (by decide) hd) v1 h _ q1) ?_
  rcases zI_s e with ⟨q2, e⟩ | ⟨q2, e⟩
  · refine zF_blk (m := []) (d := 1) (b := B116_8) (gs := [r1 = 0]) (c' := (23, [some (21, 0), some (0, v1), some (0, v2), some (0, v3), none, none], [], (h, hm, o))) K116_8 rfl ⟨q2, trivial⟩ ?_
    refine zF_blk (m := []) (d := 0) (b := B116_1) (gs := []) (c' := (24, [some (21, 0), some (0, v1), some (0, v2), some (0, v3), none, none], [(0, (-1))], (h, hm, o))) K116_1 rfl trivial ?_
    exact zF_riC (zRe1_w (by decide +kernel)) e
  · refine zF_blk (m := []) (d := 0) (b := B116_8) (gs := [¬ (r1 = 0)]) (c' := (8, [some (21, 0), some (0, v1), some (0, v2), some (0, v3), none, none], [], (h, hm, o))) K116_8 rfl ⟨q2, trivial⟩ ?_
    obtain ⟨r2, q3, e⟩ := zB_s e
    refine zF_blk (m := []) (d := 0) (b := B116_2) (gs := []) (c' := (10, [some (21, 0), some (0, v1), some (0, v2), some (0, v3), none, none], [(0, v2), (21, 0)], (h, hm, o))) K116_2 rfl trivial ?_
    refine zF_call (k := 61) (cl := 11) (n := 2) (i := .invokevirtual 172) (args := [(21, 0), (0, v2)]) (rest := []) (g1 := (h, hm, o)) (r1 := some (0, r2)) (zCk1_w (by decide +kernel)) rfl rfl rfl (st' := [(0, r2)]) rfl (S61 (Nat.le_trans (by decide) hd) v2 h _ q3) ?_
    rcases zI_s e with ⟨q4, e⟩ | ⟨q4, e⟩
    · refine zF_blk (m := []) (d := 1) (b := B116_7) (gs := [r2 = 0]) (c' := (23, [some (21, 0), some (0, v1), some (0, v2), some (0, v3), none, none], [], (h, hm, o))) K116_7 rfl ⟨q4, trivial⟩ ?_
      refine zF_blk (m := []) (d := 0) (b := B116_1) (gs := []) (c' := (24, [some (21, 0), some (0, v1), some (0, v2), some (0, v3), none, none], [(0, (-1))], (h, hm, o))) K116_1 rfl trivial ?_
      exact zF_riC (zRe1_w (by decide +kernel)) e
    · refine zF_blk (m := []) (d := 0) (b := B116_7) (gs := [¬ (r2 = 0)]) (c' := (16, [some (21, 0), some (0, v1), some (0, v2), some (0, v3), none, none], [], (h, hm, o))) K116_7 rfl ⟨q4, trivial⟩ ?_
      obtain ⟨r3, q5, e⟩ := zB_s e
      refine zF_blk (m := []) (d := 0) (b := B116_3) (gs := []) (c' := (17, [some (21, 0), some (0, v1), some (0, v2), some (0, v3), none, none], [(0, v3)], (h, hm, o))) K116_3 rfl trivial ?_
      refine zF_call (k := 99) (cl := 11) (n := 1) (i := .invokestatic 242) (args := [(0, v3)]) (rest := []) (g1 := (h, hm, o)) (r1 := some (0, r3)) (zCk1_w (by decide +kernel)) rfl rfl rfl (st' := [(0, r3)]) rfl (S99 (Nat.le_trans (by decide) hd) v3 h _ q5) ?_
      rcases zI_s e with ⟨q6, e⟩ | ⟨q6, e⟩
      · refine zF_blk (m := []) (d := 1) (b := B116_6) (gs := [¬ r3 = 0]) (c' := (25, [some (21, 0), some (0, v1), some (0, v2), some (0, v3), none, none], [], (h, hm, o))) K116_6 rfl ⟨q6, trivial⟩ ?_
        obtain ⟨r4, q7, e⟩ := zB_s e
        refine zF_blk (m := []) (d := 0) (b := B116_4) (gs := []) (c' := (33, [some (21, 0), some (0, v1), some (0, v2), some (0, v3), none, none], [(11, 0), (11, 1)], (h, hm, o))) K116_4 rfl trivial ?_
        refine zF_call (k := 72) (cl := 1) (n := 2) (i := .invokevirtual 276) (args := [(11, 1), (11, 0)]) (rest := []) (g1 := (r4, hm, o)) (r1 := none) (zCk1_w (by decide +kernel)) rfl rfl rfl (st' := []) rfl (S72 (Nat.le_trans (by decide) hd) 1 0 h _ q7) ?_
        refine zF_blk (m := []) (d := 0) (b := B116_5) (gs := []) (c' := (42, [some (21, 0), some (0, v1), some (0, v2), some (0, v3), some (0, 0), some (0, 0)], [], (r4, hm, o))) K116_5 rfl trivial ?_
        exact T116_0 hd zFu v1 v2 v3 0 0 r4 _ e
      · refine zF_blk (m := []) (d := 0) (b := B116_6) (gs := [¬ (¬ r3 = 0)]) (c' := (23, [some (21, 0), some (0, v1), some (0, v2), some (0, v3), none, none], [], (h, hm, o))) K116_6 rfl ⟨q6, trivial⟩ ?_
        refine zF_blk (m := []) (d := 0) (b := B116_1) (gs := []) (c' := (24, [some (21, 0), some (0, v1), some (0, v2), some (0, v3), none, none], [(0, (-1))], (h, hm, o))) K116_1 rfl trivial ?_
        exact zF_riC (zRe1_w (by decide +kernel)) e
noncomputable def B257_0 : List zRow := [(0, .aload_n 0, 1, (0, 0, 0)), (1, .iconst 0, 1, (0, 0, 0)), (2, .putfield 81, 3, (12, 0, 0)), (5, .aload_n 0, 1, (0, 0, 0)), (6, .iload_n 1, 1, (0, 0, 0))]
theorem K257_0 : zRk 257 B257_0 = true := zRw_ok (by decide +kernel)
noncomputable def B257_1 : List zRow := [(28, .iconst (-1), 1, (0, 0, 0))]
theorem K257_1 : zRk 257 B257_1 = true := zRw_ok (by decide +kernel)
noncomputable def B257_2 : List zRow := [(13, .aload_n 0, 1, (0, 0, 0)), (14, .iload_n 2, 1, (0, 0, 0))]
theorem K257_2 : zRk 257 B257_2 = true := zRw_ok (by decide +kernel)
noncomputable def B257_3 : List zRow := [(21, .iload_n 3, 1, (0, 0, 0))]
theorem K257_3 : zRk 257 B257_3 = true := zRw_ok (by decide +kernel)
noncomputable def B257_4 : List zRow := [(30, .aload_n 0, 1, (0, 0, 0))]
theorem K257_4 : zRk 257 B257_4 = true := zRw_ok (by decide +kernel)
noncomputable def B257_5 : List zRow := [(34, .iconst 0, 1, (0, 0, 0)), (35, .istore 4, 2, (0, 0, 0)), (37, .iconst 0, 1, (0, 0, 0)), (38, .istore 5, 2, (0, 0, 0))]
theorem K257_5 : zRk 257 B257_5 = true := zRw_ok (by decide +kernel)
noncomputable def B257_6 : List zRow := [(25, .ifCond .ne 5, 3, (0, 0, 0))]
theorem K257_6 : zRk 257 B257_6 = true := zRw_ok (by decide +kernel)
noncomputable def B257_7 : List zRow := [(18, .ifCond .eq 10, 3, (0, 0, 0))]
theorem K257_7 : zRk 257 B257_7 = true := zRw_ok (by decide +kernel)
noncomputable def B257_8 : List zRow := [(10, .ifCond .eq 18, 3, (0, 0, 0))]
theorem K257_8 : zRk 257 B257_8 = true := zRw_ok (by decide +kernel)
noncomputable def B257_9 : List zRow := [(60, .aload_n 0, 1, (0, 0, 0)), (61, .getfield 13, 3, (12, 14, 5251442)), (64, .sipush 209, 3, (0, 0, 0)), (67, .dup2, 1, (0, 0, 0)), (68, .iaload, 1, (0, 0, 0)), (69, .iconst 1, 1, (0, 0, 0)), (70, .iadd, 1, (0, 0, 0)), (71, .iastore, 1, (0, 0, 0)), (72, .aload_n 0, 1, (0, 0, 0)), (73, .aload_n 0, 1, (0, 0, 0)), (74, .getfield 13, 3, (12, 14, 5251442)), (77, .sipush 209, 3, (0, 0, 0)), (80, .iaload, 1, (0, 0, 0))]
theorem K257_9 : zRk 257 B257_9 = true := zRw_ok (by decide +kernel)
noncomputable def B257_10 : List zRow := [(84, .aload_n 0, 1, (0, 0, 0)), (85, .getfield 13, 3, (12, 14, 5251442)), (88, .sipush 210, 3, (0, 0, 0)), (91, .iload_n 1, 1, (0, 0, 0))]
theorem K257_10 : zRk 257 B257_10 = true := zRw_ok (by decide +kernel)
noncomputable def B257_11 : List zRow := [(92, .iadd, 1, (0, 0, 0)), (93, .iaload, 1, (0, 0, 0)), (94, .aload_n 0, 1, (0, 0, 0)), (95, .getfield 13, 3, (12, 14, 5251442)), (98, .sipush 210, 3, (0, 0, 0)), (101, .iload_n 2, 1, (0, 0, 0))]
theorem K257_11 : zRk 257 B257_11 = true := zRw_ok (by decide +kernel)
noncomputable def B257_12 : List zRow := [(107, .iinc 4 1, 3, (0, 0, 0))]
theorem K257_12 : zRk 257 B257_12 = true := zRw_ok (by decide +kernel)
noncomputable def B257_13 : List zRow := [(102, .iadd, 1, (0, 0, 0)), (103, .iaload, 1, (0, 0, 0)), (104, .if_icmp .ne 6, 3, (0, 0, 0))]
theorem K257_13 : zRk 257 B257_13 = true := zRw_ok (by decide +kernel)
noncomputable def B257_14 : List zRow := [(46, .aload_n 0, 1, (0, 0, 0)), (47, .getfield 13, 3, (12, 14, 5251442)), (50, .sipush 209, 3, (0, 0, 0)), (53, .iaload, 1, (0, 0, 0)), (54, .sipush 400, 3, (0, 0, 0)), (57, .if_icmp .ge 59, 3, (0, 0, 0))]
theorem K257_14 : zRk 257 B257_14 = true := zRw_ok (by decide +kernel)
noncomputable def B257_15 : List zRow := [(40, .iload 5, 2, (0, 0, 0)), (42, .iload_n 3, 1, (0, 0, 0)), (43, .if_icmp .ge 73, 3, (0, 0, 0))]
theorem K257_15 : zRk 257 B257_15 = true := zRw_ok (by decide +kernel)
noncomputable def B257_16 : List zRow := [(110, .iinc 5 1, 3, (0, 0, 0)), (113, .goto (-73), 3, (0, 0, 0))]
theorem K257_16 : zRk 257 B257_16 = true := zRw_ok (by decide +kernel)
noncomputable def B257_17 : List zRow := [(116, .aload_n 0, 1, (0, 0, 0))]
theorem K257_17 : zRk 257 B257_17 = true := zRw_ok (by decide +kernel)
noncomputable def B257_18 : List zRow := [(120, .iload 4, 2, (0, 0, 0))]
theorem K257_18 : zRk 257 B257_18 = true := zRw_ok (by decide +kernel)
def F257_1 (v4 : Int) (h : zHM) : Option (Int × zHM) := (F245 h).bind fun r1 => some (v4, r1)
set_option maxRecDepth 100000 in
theorem T257_1 {spec : zRn zH2} {hc : zHC} {o : Int → Int} {d : Nat} (hd : 2 ≤ d) (v4 : Int) (h : zHM) (v : (Int × zHM)) (e : F257_1 v4 h = some v) : zFin 0 (fun _ => 0) (zRu2 spec d) 257 (some (0, v.1)) (hc, v.2, o) (116, [some (22, 0), none, none, none, some (0, v4), none], [], (hc, h, o)) := by
  unfold F257_1 at e
  obtain ⟨r1, q1, e⟩ := zB_s e
  refine zF_blk (m := []) (d := 0) (b := B257_17) (gs := []) (c' := (117, [some (22, 0), none, none, none, some (0, v4), none], [(22, 0)], (hc, h, o))) K257_17 rfl trivial ?_
  refine zF_call (k := 245) (cl := 12) (n := 1) (i := .invokevirtual 320) (args := [(22, 0)]) (rest := []) (g1 := (hc, r1, o)) (r1 := none) (zCk1_w (by decide +kernel)) rfl rfl rfl (st' := []) rfl (S245 (Nat.le_trans (by decide) hd)  h _ q1) ?_
  refine zF_blk (m := []) (d := 0) (b := B257_18) (gs := []) (c' := (122, [some (22, 0), none, none, none, some (0, v4), none], [(0, v4)], (hc, r1, o))) K257_18 rfl trivial ?_
  exact zF_riM (zRe1_w (by decide +kernel)) e
def F257_2 (k0 : Int → Int → Int → Int → Int → zHM → Option (Int × zHM)) (v1 : Int) (v2 : Int) (v3 : Int) (v4 : Int) (v5 : Int) (h : zHM) : Option (Int × zHM) := k0 v1 v2 v3 v4 (wadd v5 1) h
set_option maxRecDepth 100000 in
theorem T257_2 {spec : zRn zH2} {hc : zHC} {o : Int → Int} {d : Nat} (hd : 2 ≤ d) (k0 : Int → Int → Int → Int → Int → zHM → Option (Int × zHM)) (hk0 : ∀ (v1 : Int) (v2 : Int) (v3 : Int) (v4 : Int) (v5 : Int) (h : zHM) (v : (Int × zHM)), k0 v1 v2 v3 v4 v5 h = some v → zFin 0 (fun _ => 0) (zRu2 spec d) 257 (some (0, v.1)) (hc, v.2, o) (40, [some (22, 0), some (0, v1), some (0, v2), some (0, v3), some (0, v4), some (0, v5)], [], (hc, h, o))) (v1 : Int) (v2 : Int) (v3 : Int) (v4 : Int) (v5 : Int) (h : zHM) (v : (Int × zHM)) (e : F257_2 k0 v1 v2 v3 v4 v5 h = some v) : zFin 0 (fun _ => 0) (zRu2 spec d) 257 (some (0, v.1)) (hc, v.2, o) (110, [some (22, 0), some (0, v1), some (0, v2), some (0, v3), some (0, v4), some (0, v5)], [], (hc, h, o)) := by
  unfold F257_2 at e
  refine zF_blk (m := []) (d := 0) (b := B257_16) (gs := []) (c' := (40, [some (22, 0), some (0, v1), some (0, v2), some (0, v3), some (0, v4), some (0, (wadd v5 1))], [], (hc, h, o))) K257_16 rfl trivial ?_
  exact hk0 v1 v2 v3 v4 (wadd v5 1) h _ e
def F257_0 : Nat → Int → Int → Int → Int → Int → zHM → Option (Int × zHM)
  | 0, _, _, _, _, _, _ => none
  | n + 1, v1, v2, v3, v4, v5, h => if v3 ≤ v5 then F257_1 v4 h else if 400 ≤ (h 14 209) then F257_1 v4 h else (F237 (wadd (h 14 209) 1) (mset h 14 209 (wadd (h 14 209) 1))).bind fun r1 => zG (0 ≤ (wadd 210 v1) ∧ (wadd 210 v1) < 2140) (zG (0 ≤ (wadd 210 v2) ∧ (wadd 210 v2) < 2140) (if ¬ (r1 14 (wadd 210 v1)) = (r1 14 (wadd 210 v2)) then F257_2 (F257_0 n) v1 v2 v3 v4 v5 r1 else F257_2 (F257_0 n) v1 v2 v3 (wadd v4 1) v5 r1))
set_option maxRecDepth 100000 in
theorem T257_0 {spec : zRn zH2} {hc : zHC} {o : Int → Int} {d : Nat} (hd : 2 ≤ d) : ∀ (n : Nat) (v1 : Int) (v2 : Int) (v3 : Int) (v4 : Int) (v5 : Int) (h : zHM) (v : (Int × zHM)), F257_0 n v1 v2 v3 v4 v5 h = some v → zFin 0 (fun _ => 0) (zRu2 spec d) 257 (some (0, v.1)) (hc, v.2, o) (40, [some (22, 0), some (0, v1), some (0, v2), some (0, v3), some (0, v4), some (0, v5)], [], (hc, h, o)) := by
  intro n
  induction n with
  | zero => intro v1 v2 v3 v4 v5 h v e; unfold F257_0 at e; cases e
  | succ n hk0 =>
    intro v1 v2 v3 v4 v5 h v e
    unfold F257_0 at e
    rcases zI_s e with ⟨q1, e⟩ | ⟨q1, e⟩
    · refine zF_blk (m := []) (d := 1) (b := B257_15) (gs := [v3 ≤ v5]) (c' := (116, [some (22, 0), some (0, v1), some (0, v2), some (0, v3), some (0, v4), some (0, v5)], [], (hc, h, o))) K257_15 rfl ⟨q1, trivial⟩ ?_
      refine zF_blk (m := [true, false, false, false, true, false]) (d := 0) (b := []) (gs := []) (c' := (116, [some (22, 0), none, none, none, some (0, v4), none], [], (hc, h, o))) rfl rfl trivial ?_
      exact T257_1 hd v4 h _ e
    · refine zF_blk (m := []) (d := 0) (b := B257_15) (gs := [¬ (v3 ≤ v5)]) (c' := (46, [some (22, 0), some (0, v1), some (0, v2), some (0, v3), some (0, v4), some (0, v5)], [], (hc, h, o))) K257_15 rfl ⟨q1, trivial⟩ ?_
      rcases zI_s e with ⟨q2, e⟩ | ⟨q2, e⟩
      · refine zF_blk (m := []) (d := 1) (b := B257_14) (gs := [0 ≤ 209 ∧ 209 < 2140, 400 ≤ (h 14 209)]) (c' := (116, [some (22, 0), some (0, v1), some (0, v2), some (0, v3), some (0, v4), some (0, v5)], [], (hc, h, o))) K257_14 rfl ⟨by decide, q2, trivial⟩ ?_
        refine zF_blk (m := [true, false, false, false, true, false]) (d := 0) (b := []) (gs := []) (c' := (116, [some (22, 0), none, none, none, some (0, v4), none], [], (hc, h, o))) rfl rfl trivial ?_
        exact T257_1 hd v4 h _ e
      · refine zF_blk (m := []) (d := 0) (b := B257_14) (gs := [0 ≤ 209 ∧ 209 < 2140, ¬ (400 ≤ (h 14 209))]) (c' := (60, [some (22, 0), some (0, v1), some (0, v2), some (0, v3), some (0, v4), some (0, v5)], [], (hc, h, o))) K257_14 rfl ⟨by decide, q2, trivial⟩ ?_
        obtain ⟨r1, q3, e⟩ := zB_s e
        refine zF_blk (m := []) (d := 0) (b := B257_9) (gs := [0 ≤ 209 ∧ 209 < 2140, 0 ≤ 209 ∧ 209 < 2140, 0 ≤ 209 ∧ 209 < 2140]) (c' := (81, [some (22, 0), some (0, v1), some (0, v2), some (0, v3), some (0, v4), some (0, v5)], [(0, (wadd (h 14 209) 1)), (22, 0)], (hc, (mset h 14 209 (wadd (h 14 209) 1)), o))) K257_9 rfl ⟨by decide, by decide, by decide, trivial⟩ ?_
        refine zF_call (k := 237) (cl := 12) (n := 2) (i := .invokevirtual 292) (args := [(22, 0), (0, (wadd (h 14 209) 1))]) (rest := []) (g1 := (hc, r1, o)) (r1 := none) (zCk1_w (by decide +kernel)) rfl rfl rfl (st' := []) rfl (S237 (Nat.le_trans (by decide) hd) (wadd (h 14 209) 1) (mset h 14 209 (wadd (h 14 209) 1)) _ q3) ?_
        obtain ⟨q4, e⟩ := zG_s e
        obtain ⟨q5, e⟩ := zG_s e
        refine zF_blk (m := []) (d := 0) (b := B257_10) (gs := []) (c' := (92, [some (22, 0), some (0, v1), some (0, v2), some (0, v3), some (0, v4), some (0, v5)], [(0, v1), (0, 210), (1344370422, 0)], (hc, r1, o))) K257_10 rfl trivial ?_
        refine zF_blk (m := []) (d := 0) (b := B257_11) (gs := [0 ≤ (wadd 210 v1) ∧ (wadd 210 v1) < 2140]) (c' := (102, [some (22, 0), some (0, v1), some (0, v2), some (0, v3), some (0, v4), some (0, v5)], [(0, v2), (0, 210), (1344370422, 0), (0, (r1 14 (wadd 210 v1)))], (hc, r1, o))) K257_11 rfl ⟨q4, trivial⟩ ?_
        rcases zI_s e with ⟨q6, e⟩ | ⟨q6, e⟩
        · refine zF_blk (m := []) (d := 1) (b := B257_13) (gs := [0 ≤ (wadd 210 v2) ∧ (wadd 210 v2) < 2140, ¬ (r1 14 (wadd 210 v1)) = (r1 14 (wadd 210 v2))]) (c' := (110, [some (22, 0), some (0, v1), some (0, v2), some (0, v3), some (0, v4), some (0, v5)], [], (hc, r1, o))) K257_13 rfl ⟨q5, q6, trivial⟩ ?_
          exact T257_2 hd (F257_0 n) hk0 v1 v2 v3 v4 v5 r1 _ e
        · refine zF_blk (m := []) (d := 0) (b := B257_13) (gs := [0 ≤ (wadd 210 v2) ∧ (wadd 210 v2) < 2140, ¬ (¬ (r1 14 (wadd 210 v1)) = (r1 14 (wadd 210 v2)))]) (c' := (107, [some (22, 0), some (0, v1), some (0, v2), some (0, v3), some (0, v4), some (0, v5)], [], (hc, r1, o))) K257_13 rfl ⟨q5, q6, trivial⟩ ?_
          refine zF_blk (m := []) (d := 0) (b := B257_12) (gs := []) (c' := (110, [some (22, 0), some (0, v1), some (0, v2), some (0, v3), some (0, (wadd v4 1)), some (0, v5)], [], (hc, r1, o))) K257_12 rfl trivial ?_
          exact T257_2 hd (F257_0 n) hk0 v1 v2 v3 (wadd v4 1) v5 r1 _ e
/-- EchoValeModel.meets(III)I -/
def F257 (v1 : Int) (v2 : Int) (v3 : Int) (h : zHM) : Option (Int × zHM) := (F210 v1 (mset h 0 0 0)).bind fun r1 => if r1 = 0 then some ((-1), (mset h 0 0 0)) else (F210 v2 (mset h 0 0 0)).bind fun r2 => if r2 = 0 then some ((-1), (mset h 0 0 0)) else (F242 v3).bind fun r3 => if ¬ r3 = 0 then (F244 (mset h 0 0 0)).bind fun r4 => F257_0 zFu v1 v2 v3 0 0 r4 else some ((-1), (mset h 0 0 0))
set_option maxRecDepth 100000 in
theorem S257 {spec : zRn zH2} {hc : zHC} {o : Int → Int} {d : Nat} (hd : 3 ≤ d) (v1 : Int) (v2 : Int) (v3 : Int) (h : zHM) (v : (Int × zHM)) (e : F257 v1 v2 v3 h = some v) : zRu2 spec d 257 [(22, 0), (0, v1), (0, v2), (0, v3)] (hc, h, o) (some (0, v.1)) (hc, v.2, o) := by
  refine zF_in (D := 2) (mx := 6) (L := [some (22, 0), some (0, v1), some (0, v2), some (0, v3), none, none]) (by decide +kernel) rfl rfl hd (fun d hd => ?_)
  unfold F257 at e
  obtain ⟨r1, q1, e⟩ := zB_s e
  refine zF_blk (m := []) (d := 0) (b := B257_0) (gs := []) (c' := (7, [some (22, 0), some (0, v1), some (0, v2), some (0, v3), none, none], [(0, v1), (22, 0)], (hc, (mset h 0 0 0), o))) K257_0 rfl trivial ?_
  refine zF_call (k := 210) (cl := 12) (n := 2) (i := .invokevirtual 260) (args := [(22, 0), (0, v1)]) (rest := []) (g1 := (hc, (mset h 0 0 0), o)) (r1 := some (0, r1)) (zCk1_w (by decide +kernel)) rfl rfl rfl (st' := [(0, r1)]) rfl (S210 (Nat.le_trans (by decide) hd) v1 (mset h 0 0 0) _ q1) ?_
  rcases zI_s e with ⟨q2, e⟩ | ⟨q2, e⟩
  · refine zF_blk (m := []) (d := 1) (b := B257_8) (gs := [r1 = 0]) (c' := (28, [some (22, 0), some (0, v1), some (0, v2), some (0, v3), none, none], [], (hc, (mset h 0 0 0), o))) K257_8 rfl ⟨q2, trivial⟩ ?_
    refine zF_blk (m := []) (d := 0) (b := B257_1) (gs := []) (c' := (29, [some (22, 0), some (0, v1), some (0, v2), some (0, v3), none, none], [(0, (-1))], (hc, (mset h 0 0 0), o))) K257_1 rfl trivial ?_
    exact zF_riM (zRe1_w (by decide +kernel)) e
  · refine zF_blk (m := []) (d := 0) (b := B257_8) (gs := [¬ (r1 = 0)]) (c' := (13, [some (22, 0), some (0, v1), some (0, v2), some (0, v3), none, none], [], (hc, (mset h 0 0 0), o))) K257_8 rfl ⟨q2, trivial⟩ ?_
    obtain ⟨r2, q3, e⟩ := zB_s e
    refine zF_blk (m := []) (d := 0) (b := B257_2) (gs := []) (c' := (15, [some (22, 0), some (0, v1), some (0, v2), some (0, v3), none, none], [(0, v2), (22, 0)], (hc, (mset h 0 0 0), o))) K257_2 rfl trivial ?_
    refine zF_call (k := 210) (cl := 12) (n := 2) (i := .invokevirtual 260) (args := [(22, 0), (0, v2)]) (rest := []) (g1 := (hc, (mset h 0 0 0), o)) (r1 := some (0, r2)) (zCk1_w (by decide +kernel)) rfl rfl rfl (st' := [(0, r2)]) rfl (S210 (Nat.le_trans (by decide) hd) v2 (mset h 0 0 0) _ q3) ?_
    rcases zI_s e with ⟨q4, e⟩ | ⟨q4, e⟩
    · refine zF_blk (m := []) (d := 1) (b := B257_7) (gs := [r2 = 0]) (c' := (28, [some (22, 0), some (0, v1), some (0, v2), some (0, v3), none, none], [], (hc, (mset h 0 0 0), o))) K257_7 rfl ⟨q4, trivial⟩ ?_
      refine zF_blk (m := []) (d := 0) (b := B257_1) (gs := []) (c' := (29, [some (22, 0), some (0, v1), some (0, v2), some (0, v3), none, none], [(0, (-1))], (hc, (mset h 0 0 0), o))) K257_1 rfl trivial ?_
      exact zF_riM (zRe1_w (by decide +kernel)) e
    · refine zF_blk (m := []) (d := 0) (b := B257_7) (gs := [¬ (r2 = 0)]) (c' := (21, [some (22, 0), some (0, v1), some (0, v2), some (0, v3), none, none], [], (hc, (mset h 0 0 0), o))) K257_7 rfl ⟨q4, trivial⟩ ?_
      obtain ⟨r3, q5, e⟩ := zB_s e
      refine zF_blk (m := []) (d := 0) (b := B257_3) (gs := []) (c' := (22, [some (22, 0), some (0, v1), some (0, v2), some (0, v3), none, none], [(0, v3)], (hc, (mset h 0 0 0), o))) K257_3 rfl trivial ?_
      refine zF_call (k := 242) (cl := 12) (n := 1) (i := .invokestatic 323) (args := [(0, v3)]) (rest := []) (g1 := (hc, (mset h 0 0 0), o)) (r1 := some (0, r3)) (zCk1_w (by decide +kernel)) rfl rfl rfl (st' := [(0, r3)]) rfl (S242 (Nat.le_trans (by decide) hd) v3 (mset h 0 0 0) _ q5) ?_
      rcases zI_s e with ⟨q6, e⟩ | ⟨q6, e⟩
      · refine zF_blk (m := []) (d := 1) (b := B257_6) (gs := [¬ r3 = 0]) (c' := (30, [some (22, 0), some (0, v1), some (0, v2), some (0, v3), none, none], [], (hc, (mset h 0 0 0), o))) K257_6 rfl ⟨q6, trivial⟩ ?_
        obtain ⟨r4, q7, e⟩ := zB_s e
        refine zF_blk (m := []) (d := 0) (b := B257_4) (gs := []) (c' := (31, [some (22, 0), some (0, v1), some (0, v2), some (0, v3), none, none], [(22, 0)], (hc, (mset h 0 0 0), o))) K257_4 rfl trivial ?_
        refine zF_call (k := 244) (cl := 12) (n := 1) (i := .invokevirtual 317) (args := [(22, 0)]) (rest := []) (g1 := (hc, r4, o)) (r1 := none) (zCk1_w (by decide +kernel)) rfl rfl rfl (st' := []) rfl (S244 (Nat.le_trans (by decide) hd)  (mset h 0 0 0) _ q7) ?_
        refine zF_blk (m := []) (d := 0) (b := B257_5) (gs := []) (c' := (40, [some (22, 0), some (0, v1), some (0, v2), some (0, v3), some (0, 0), some (0, 0)], [], (hc, r4, o))) K257_5 rfl trivial ?_
        exact T257_0 hd zFu v1 v2 v3 0 0 r4 _ e
      · refine zF_blk (m := []) (d := 0) (b := B257_6) (gs := [¬ (¬ r3 = 0)]) (c' := (28, [some (22, 0), some (0, v1), some (0, v2), some (0, v3), none, none], [], (hc, (mset h 0 0 0), o))) K257_6 rfl ⟨q6, trivial⟩ ?_
        refine zF_blk (m := []) (d := 0) (b := B257_1) (gs := []) (c' := (29, [some (22, 0), some (0, v1), some (0, v2), some (0, v3), none, none], [(0, (-1))], (hc, (mset h 0 0 0), o))) K257_1 rfl trivial ?_
        exact zF_riM (zRe1_w (by decide +kernel)) e
noncomputable def B117_0 : List zRow := [(0, .aload_n 0, 1, (0, 0, 0)), (1, .getfield 19, 3, (11, 1, 39)), (4, .iload_n 1, 1, (0, 0, 0))]
theorem K117_0 : zRk 117 B117_0 = true := zRw_ok (by decide +kernel)
noncomputable def B117_1 : List zRow := [(13, .aload_n 0, 1, (0, 0, 0)), (14, .getfield 19, 3, (11, 1, 39)), (17, .iload_n 1, 1, (0, 0, 0)), (18, .iconst 0, 1, (0, 0, 0)), (19, .iload_n 2, 1, (0, 0, 0)), (20, .invokestatic 166, 3, (5004, 0, 0))]
theorem K117_1 : zRk 117 B117_1 = true := zRw_ok (by decide +kernel)
noncomputable def B117_2 : List zRow := [(26, .istore_n 3, 1, (0, 0, 0)), (27, .iconst (-1), 1, (0, 0, 0)), (28, .istore 4, 2, (0, 0, 0)), (30, .iconst 0, 1, (0, 0, 0)), (31, .istore 5, 2, (0, 0, 0)), (33, .iconst 0, 1, (0, 0, 0)), (34, .istore 6, 2, (0, 0, 0))]
theorem K117_2 : zRk 117 B117_2 = true := zRw_ok (by decide +kernel)
noncomputable def B117_3 : List zRow := [(11, .iconst (-1), 1, (0, 0, 0))]
theorem K117_3 : zRk 117 B117_3 = true := zRw_ok (by decide +kernel)
noncomputable def B117_4 : List zRow := [(8, .ifCond .ne 5, 3, (0, 0, 0))]
theorem K117_4 : zRk 117 B117_4 = true := zRw_ok (by decide +kernel)
noncomputable def B117_5 : List zRow := [(95, .iload 4, 2, (0, 0, 0))]
theorem K117_5 : zRk 117 B117_5 = true := zRw_ok (by decide +kernel)
noncomputable def B117_6 : List zRow := [(48, .aload_n 0, 1, (0, 0, 0)), (49, .getfield 19, 3, (11, 1, 39)), (52, .iload 6, 2, (0, 0, 0)), (54, .iload_n 1, 1, (0, 0, 0)), (55, .iload_n 3, 1, (0, 0, 0))]
theorem K117_6 : zRk 117 B117_6 = true := zRw_ok (by decide +kernel)
noncomputable def B117_7 : List zRow := [(81, .iload 7, 2, (0, 0, 0)), (83, .istore 5, 2, (0, 0, 0)), (85, .iload 6, 2, (0, 0, 0)), (87, .istore 4, 2, (0, 0, 0))]
theorem K117_7 : zRk 117 B117_7 = true := zRw_ok (by decide +kernel)
noncomputable def B117_8 : List zRow := [(59, .aload_n 0, 1, (0, 0, 0)), (60, .getfield 19, 3, (11, 1, 39)), (63, .getfield 156, 3, (9, 10, 5242906)), (66, .iload 6, 2, (0, 0, 0)), (68, .iaload, 1, (0, 0, 0)), (69, .invokestatic 288, 3, (5003, 0, 0)), (72, .istore 7, 2, (0, 0, 0)), (74, .iload 7, 2, (0, 0, 0)), (76, .iload 5, 2, (0, 0, 0)), (78, .if_icmp .le 11, 3, (0, 0, 0))]
theorem K117_8 : zRk 117 B117_8 = true := zRw_ok (by decide +kernel)
noncomputable def B117_9 : List zRow := [(36, .iload 6, 2, (0, 0, 0)), (38, .aload_n 0, 1, (0, 0, 0)), (39, .getfield 19, 3, (11, 1, 39)), (42, .getfield 282, 3, (9, 2, 0)), (45, .if_icmp .ge 50, 3, (0, 0, 0))]
theorem K117_9 : zRk 117 B117_9 = true := zRw_ok (by decide +kernel)
noncomputable def B117_10 : List zRow := [(89, .iinc 6 1, 3, (0, 0, 0)), (92, .goto (-56), 3, (0, 0, 0))]
theorem K117_10 : zRk 117 B117_10 = true := zRw_ok (by decide +kernel)
def F117_1 (k0 : Int → Int → Int → Int → Int → Option Int) (h : zHC) (v1 : Int) (v3 : Int) (v4 : Int) (v5 : Int) (v6 : Int) : Option Int := k0 v1 v3 v4 v5 (wadd v6 1)
set_option maxRecDepth 100000 in
theorem T117_1 {spec : zRn zH2} {hm : zHM} {o : Int → Int} {d : Nat} (hd : 2 ≤ d) (h : zHC) (k0 : Int → Int → Int → Int → Int → Option Int) (hk0 : ∀ (v1 : Int) (v3 : Int) (v4 : Int) (v5 : Int) (v6 : Int) (v : Int), k0 v1 v3 v4 v5 v6 = some v → zFin 0 (fun _ => 0) (zRu2 spec d) 117 (some (0, v)) (h, hm, o) (36, [some (21, 0), some (0, v1), none, some (0, v3), some (0, v4), some (0, v5), some (0, v6), none], [], (h, hm, o))) (v1 : Int) (v3 : Int) (v4 : Int) (v5 : Int) (v6 : Int) (v : Int) (e : F117_1 k0 h v1 v3 v4 v5 v6 = some v) : zFin 0 (fun _ => 0) (zRu2 spec d) 117 (some (0, v)) (h, hm, o) (89, [some (21, 0), some (0, v1), none, some (0, v3), some (0, v4), some (0, v5), some (0, v6), none], [], (h, hm, o)) := by
  unfold F117_1 at e
  refine zF_blk (m := []) (d := 0) (b := B117_10) (gs := []) (c' := (36, [some (21, 0), some (0, v1), none, some (0, v3), some (0, v4), some (0, v5), some (0, (wadd v6 1)), none], [], (h, hm, o))) K117_10 rfl trivial ?_
  exact hk0 v1 v3 v4 v5 (wadd v6 1) _ e
def F117_0 (h : zHC) : Nat → Int → Int → Int → Int → Int → Option Int
  | 0, _, _, _, _, _ => none
  | n + 1, v1, v3, v4, v5, v6 => if (h 578 0 0) ≤ v6 then some v4 else (F82 0 v6 v1 v3 h).bind fun r1 => zG (0 ≤ v6 ∧ v6 < 6) (if (if (h 586 0 v6) < r1 then (h 586 0 v6) else r1) ≤ v5 then F117_1 (F117_0 h n) h v1 v3 v4 v5 v6 else F117_1 (F117_0 h n) h v1 v3 v6 (if (h 586 0 v6) < r1 then (h 586 0 v6) else r1) v6)
set_option maxRecDepth 100000 in
theorem T117_0 {spec : zRn zH2} {hm : zHM} {o : Int → Int} {d : Nat} (hd : 2 ≤ d) (h : zHC) : ∀ (n : Nat) (v1 : Int) (v3 : Int) (v4 : Int) (v5 : Int) (v6 : Int) (v : Int), F117_0 h n v1 v3 v4 v5 v6 = some v → zFin 0 (fun _ => 0) (zRu2 spec d) 117 (some (0, v)) (h, hm, o) (36, [some (21, 0), some (0, v1), none, some (0, v3), some (0, v4), some (0, v5), some (0, v6), none], [], (h, hm, o)) := by
  intro n
  induction n with
  | zero => intro v1 v3 v4 v5 v6 v e; unfold F117_0 at e; cases e
  | succ n hk0 =>
    intro v1 v3 v4 v5 v6 v e
    unfold F117_0 at e
    rcases zI_s e with ⟨q1, e⟩ | ⟨q1, e⟩
    · refine zF_blk (m := []) (d := 1) (b := B117_9) (gs := [(h 578 0 0) ≤ v6]) (c' := (95, [some (21, 0), some (0, v1), none, some (0, v3), some (0, v4), some (0, v5), some (0, v6), none], [], (h, hm, o))) K117_9 rfl ⟨q1, trivial⟩ ?_
      refine zF_blk (m := []) (d := 0) (b := B117_5) (gs := []) (c' := (97, [some (21, 0), some (0, v1), none, some (0, v3), some (0, v4), some (0, v5), some (0, v6), none], [(0, v4)], (h, hm, o))) K117_5 rfl trivial ?_
      obtain rfl := Option.some.inj e
      exact zF_ri (zRe1_w (by decide +kernel))
    · refine zF_blk (m := []) (d := 0) (b := B117_9) (gs := [¬ ((h 578 0 0) ≤ v6)]) (c' := (48, [some (21, 0), some (0, v1), none, some (0, v3), some (0, v4), some (0, v5), some (0, v6), none], [], (h, hm, o))) K117_9 rfl ⟨q1, trivial⟩ ?_
      obtain ⟨r1, q2, e⟩ := zB_s e
      refine zF_blk (m := []) (d := 0) (b := B117_6) (gs := []) (c' := (56, [some (21, 0), some (0, v1), none, some (0, v3), some (0, v4), some (0, v5), some (0, v6), none], [(0, v3), (0, v1), (0, v6), (19, 0)], (h, hm, o))) K117_6 rfl trivial ?_
      refine zF_call (k := 82) (cl := 9) (n := 4) (i := .invokevirtual 285) (args := [(19, 0), (0, v6), (0, v1), (0, v3)]) (rest := []) (g1 := (h, hm, o)) (r1 := some (0, r1)) (zCk1_w (by decide +kernel)) rfl rfl rfl (st' := [(0, r1)]) rfl (S82 (Nat.le_trans (by decide) hd) 0 v6 v1 v3 h _ q2) ?_
      obtain ⟨q3, e⟩ := zG_s e
      rcases zI_s e with ⟨q4, e⟩ | ⟨q4, e⟩
      · refine zF_blk (m := []) (d := 1) (b := B117_8) (gs := [0 ≤ v6 ∧ v6 < 6, (if (h 586 0 v6) < r1 then (h 586 0 v6) else r1) ≤ v5]) (c' := (89, [some (21, 0), some (0, v1), none, some (0, v3), some (0, v4), some (0, v5), some (0, v6), some (0, (if (h 586 0 v6) < r1 then (h 586 0 v6) else r1))], [], (h, hm, o))) K117_8 rfl ⟨q3, q4, trivial⟩ ?_
        refine zF_blk (m := [true, true, false, true, true, true, true, false]) (d := 0) (b := []) (gs := []) (c' := (89, [some (21, 0), some (0, v1), none, some (0, v3), some (0, v4), some (0, v5), some (0, v6), none], [], (h, hm, o))) rfl rfl trivial ?_
        exact T117_1 hd h (F117_0 h n) hk0 v1 v3 v4 v5 v6 _ e
      · refine zF_blk (m := []) (d := 0) (b := B117_8) (gs := [0 ≤ v6 ∧ v6 < 6, ¬ ((if (h 586 0 v6) < r1 then (h 586 0 v6) else r1) ≤ v5)]) (c' := (81, [some (21, 0), some (0, v1), none, some (0, v3), some (0, v4), some (0, v5), some (0, v6), some (0, (if (h 586 0 v6) < r1 then (h 586 0 v6) else r1))], [], (h, hm, o))) K117_8 rfl ⟨q3, q4, trivial⟩ ?_
        refine zF_blk (m := []) (d := 0) (b := B117_7) (gs := []) (c' := (89, [some (21, 0), some (0, v1), none, some (0, v3), some (0, v6), some (0, (if (h 586 0 v6) < r1 then (h 586 0 v6) else r1)), some (0, v6), some (0, (if (h 586 0 v6) < r1 then (h 586 0 v6) else r1))], [], (h, hm, o))) K117_7 rfl trivial ?_
        refine zF_blk (m := [true, true, false, true, true, true, true, false]) (d := 0) (b := []) (gs := []) (c' := (89, [some (21, 0), some (0, v1), none, some (0, v3), some (0, v6), some (0, (if (h 586 0 v6) < r1 then (h 586 0 v6) else r1)), some (0, v6), none], [], (h, hm, o))) rfl rfl trivial ?_
        exact T117_1 hd h (F117_0 h n) hk0 v1 v3 v6 (if (h 586 0 v6) < r1 then (h 586 0 v6) else r1) v6 _ e
/-- EchoVale.nearest(II)I -/
def F117 (v1 : Int) (v2 : Int) (h : zHC) : Option Int := (F69 0 v1 h).bind fun r1 => if ¬ r1 = 0 then (F77 0 v1 (if 0 < v2 then v2 else 0) h).bind fun r2 => F117_0 h zFu v1 r2 (-1) 0 0 else some (-1)
set_option maxRecDepth 100000 in
theorem S117 {spec : zRn zH2} {hm : zHM} {o : Int → Int} {d : Nat} (hd : 3 ≤ d) (v1 : Int) (v2 : Int) (h : zHC) (v : Int) (e : F117 v1 v2 h = some v) : zRu2 spec d 117 [(21, 0), (0, v1), (0, v2)] (h, hm, o) (some (0, v)) (h, hm, o) := by
  refine zF_in (D := 2) (mx := 8) (L := [some (21, 0), some (0, v1), some (0, v2), none, none, none, none, none]) (by decide +kernel) rfl rfl hd (fun d hd => ?_)
  unfold F117 at e
  obtain ⟨r1, q1, e⟩ := zB_s e
  refine zF_blk (m := []) (d := 0) (b := B117_0) (gs := []) (c' := (5, [some (21, 0), some (0, v1), some (0, v2), none, none, none, none, none], [(0, v1), (19, 0)], (h, hm, o))) K117_0 rfl trivial ?_
  refine zF_call (k := 69) (cl := 9) (n := 2) (i := .invokevirtual 214) (args := [(19, 0), (0, v1)]) (rest := []) (g1 := (h, hm, o)) (r1 := some (0, r1)) (zCk1_w (by decide +kernel)) rfl rfl rfl (st' := [(0, r1)]) rfl (S69 (Nat.le_trans (by decide) hd) 0 v1 h _ q1) ?_
  rcases zI_s e with ⟨q2, e⟩ | ⟨q2, e⟩
  · refine zF_blk (m := []) (d := 1) (b := B117_4) (gs := [¬ r1 = 0]) (c' := (13, [some (21, 0), some (0, v1), some (0, v2), none, none, none, none, none], [], (h, hm, o))) K117_4 rfl ⟨q2, trivial⟩ ?_
    obtain ⟨r2, q3, e⟩ := zB_s e
    refine zF_blk (m := []) (d := 0) (b := B117_1) (gs := []) (c' := (23, [some (21, 0), some (0, v1), some (0, v2), none, none, none, none, none], [(0, (if 0 < v2 then v2 else 0)), (0, v1), (19, 0)], (h, hm, o))) K117_1 rfl trivial ?_
    refine zF_call (k := 77) (cl := 9) (n := 3) (i := .invokevirtual 279) (args := [(19, 0), (0, v1), (0, (if 0 < v2 then v2 else 0))]) (rest := []) (g1 := (h, hm, o)) (r1 := some (0, r2)) (zCk1_w (by decide +kernel)) rfl rfl rfl (st' := [(0, r2)]) rfl (S77 (Nat.le_trans (by decide) hd) 0 v1 (if 0 < v2 then v2 else 0) h _ q3) ?_
    refine zF_blk (m := []) (d := 0) (b := B117_2) (gs := []) (c' := (36, [some (21, 0), some (0, v1), some (0, v2), some (0, r2), some (0, (-1)), some (0, 0), some (0, 0), none], [], (h, hm, o))) K117_2 rfl trivial ?_
    refine zF_blk (m := [true, true, false, true, true, true, true, false]) (d := 0) (b := []) (gs := []) (c' := (36, [some (21, 0), some (0, v1), none, some (0, r2), some (0, (-1)), some (0, 0), some (0, 0), none], [], (h, hm, o))) rfl rfl trivial ?_
    exact T117_0 hd h zFu v1 r2 (-1) 0 0 _ e
  · refine zF_blk (m := []) (d := 0) (b := B117_4) (gs := [¬ (¬ r1 = 0)]) (c' := (11, [some (21, 0), some (0, v1), some (0, v2), none, none, none, none, none], [], (h, hm, o))) K117_4 rfl ⟨q2, trivial⟩ ?_
    refine zF_blk (m := []) (d := 0) (b := B117_3) (gs := []) (c' := (12, [some (21, 0), some (0, v1), some (0, v2), none, none, none, none, none], [(0, (-1))], (h, hm, o))) K117_3 rfl trivial ?_
    obtain rfl := Option.some.inj e
    exact zF_ri (zRe1_w (by decide +kernel))
noncomputable def B259_0 : List zRow := [(33, .iconst 0, 1, (0, 0, 0))]
theorem K259_0 : zRk 259 B259_0 = true := zRw_ok (by decide +kernel)
noncomputable def B259_1 : List zRow := [(4, .iload_n 2, 1, (0, 0, 0)), (5, .aload_n 0, 1, (0, 0, 0)), (6, .iload_n 1, 1, (0, 0, 0))]
theorem K259_1 : zRk 259 B259_1 = true := zRw_ok (by decide +kernel)
noncomputable def B259_2 : List zRow := [(17, .iload_n 3, 1, (0, 0, 0)), (18, .iload_n 2, 1, (0, 0, 0)), (19, .aload_n 0, 1, (0, 0, 0)), (20, .iload_n 1, 1, (0, 0, 0))]
theorem K259_2 : zRk 259 B259_2 = true := zRw_ok (by decide +kernel)
noncomputable def B259_3 : List zRow := [(27, .iconst 2, 1, (0, 0, 0)), (28, .idiv, 1, (0, 0, 0)), (29, .isub, 1, (0, 0, 0)), (30, .goto 4, 3, (0, 0, 0))]
theorem K259_3 : zRk 259 B259_3 = true := zRw_ok (by decide +kernel)
noncomputable def B259_4 : List zRow := [(13, .iload_n 3, 1, (0, 0, 0)), (14, .if_icmp .gt 19, 3, (0, 0, 0))]
theorem K259_4 : zRk 259 B259_4 = true := zRw_ok (by decide +kernel)
noncomputable def B259_5 : List zRow := [(0, .iload_n 3, 1, (0, 0, 0)), (1, .ifCond .le 32, 3, (0, 0, 0))]
theorem K259_5 : zRk 259 B259_5 = true := zRw_ok (by decide +kernel)
/-- EchoValeModel.wouldCome(III)I -/
def F259 (v1 : Int) (v2 : Int) (v3 : Int) (h : zHM) : Option Int := if v3 ≤ 0 then some 0 else (F229 v1 h).bind fun r1 => (F230 v2 r1).bind fun r2 => if v3 < r2 then some 0 else (F229 v1 h).bind fun r3 => (F230 v2 r3).bind fun r4 => some (wsub v3 (wdiv r4 2))
set_option maxRecDepth 100000 in
theorem S259 {spec : zRn zH2} {hc : zHC} {o : Int → Int} {d : Nat} (hd : 3 ≤ d) (v1 : Int) (v2 : Int) (v3 : Int) (h : zHM) (v : Int) (e : F259 v1 v2 v3 h = some v) : zRu2 spec d 259 [(22, 0), (0, v1), (0, v2), (0, v3)] (hc, h, o) (some (0, v)) (hc, h, o) := by
  refine zF_in (D := 2) (mx := 4) (L := [some (22, 0), some (0, v1), some (0, v2), some (0, v3)]) (by decide +kernel) rfl rfl hd (fun d hd => ?_)
  unfold F259 at e
  rcases zI_s e with ⟨q1, e⟩ | ⟨q1, e⟩
  · refine zF_blk (m := []) (d := 1) (b := B259_5) (gs := [v3 ≤ 0]) (c' := (33, [some (22, 0), some (0, v1), some (0, v2), some (0, v3)], [], (hc, h, o))) K259_5 rfl ⟨q1, trivial⟩ ?_
    refine zF_blk (m := []) (d := 0) (b := B259_0) (gs := []) (c' := (34, [some (22, 0), some (0, v1), some (0, v2), some (0, v3)], [(0, 0)], (hc, h, o))) K259_0 rfl trivial ?_
    obtain rfl := Option.some.inj e
    exact zF_ri (zRe1_w (by decide +kernel))
  · refine zF_blk (m := []) (d := 0) (b := B259_5) (gs := [¬ (v3 ≤ 0)]) (c' := (4, [some (22, 0), some (0, v1), some (0, v2), some (0, v3)], [], (hc, h, o))) K259_5 rfl ⟨q1, trivial⟩ ?_
    obtain ⟨r1, q2, e⟩ := zB_s e
    refine zF_blk (m := []) (d := 0) (b := B259_1) (gs := []) (c' := (7, [some (22, 0), some (0, v1), some (0, v2), some (0, v3)], [(0, v1), (22, 0), (0, v2)], (hc, h, o))) K259_1 rfl trivial ?_
    refine zF_call (k := 229) (cl := 12) (n := 2) (i := .invokevirtual 276) (args := [(22, 0), (0, v1)]) (rest := [(0, v2)]) (g1 := (hc, h, o)) (r1 := some (0, r1)) (zCk1_w (by decide +kernel)) rfl rfl rfl (st' := [(0, r1), (0, v2)]) rfl (S229 (Nat.le_trans (by decide) hd) v1 h _ q2) ?_
    obtain ⟨r2, q3, e⟩ := zB_s e
    refine zF_call (k := 230) (cl := 12) (n := 2) (i := .invokestatic 279) (args := [(0, v2), (0, r1)]) (rest := []) (g1 := (hc, h, o)) (r1 := some (0, r2)) (zCk1_w (by decide +kernel)) rfl rfl rfl (st' := [(0, r2)]) rfl (S230 (Nat.le_trans (by decide) hd) v2 r1 h _ q3) ?_
    rcases zI_s e with ⟨q4, e⟩ | ⟨q4, e⟩
    · refine zF_blk (m := []) (d := 1) (b := B259_4) (gs := [v3 < r2]) (c' := (33, [some (22, 0), some (0, v1), some (0, v2), some (0, v3)], [], (hc, h, o))) K259_4 rfl ⟨q4, trivial⟩ ?_
      refine zF_blk (m := []) (d := 0) (b := B259_0) (gs := []) (c' := (34, [some (22, 0), some (0, v1), some (0, v2), some (0, v3)], [(0, 0)], (hc, h, o))) K259_0 rfl trivial ?_
      obtain rfl := Option.some.inj e
      exact zF_ri (zRe1_w (by decide +kernel))
    · refine zF_blk (m := []) (d := 0) (b := B259_4) (gs := [¬ (v3 < r2)]) (c' := (17, [some (22, 0), some (0, v1), some (0, v2), some (0, v3)], [], (hc, h, o))) K259_4 rfl ⟨q4, trivial⟩ ?_
      obtain ⟨r3, q5, e⟩ := zB_s e
      refine zF_blk (m := []) (d := 0) (b := B259_2) (gs := []) (c' := (21, [some (22, 0), some (0, v1), some (0, v2), some (0, v3)], [(0, v1), (22, 0), (0, v2), (0, v3)], (hc, h, o))) K259_2 rfl trivial ?_
      refine zF_call (k := 229) (cl := 12) (n := 2) (i := .invokevirtual 276) (args := [(22, 0), (0, v1)]) (rest := [(0, v2), (0, v3)]) (g1 := (hc, h, o)) (r1 := some (0, r3)) (zCk1_w (by decide +kernel)) rfl rfl rfl (st' := [(0, r3), (0, v2), (0, v3)]) rfl (S229 (Nat.le_trans (by decide) hd) v1 h _ q5) ?_
      obtain ⟨r4, q6, e⟩ := zB_s e
      refine zF_call (k := 230) (cl := 12) (n := 2) (i := .invokestatic 279) (args := [(0, v2), (0, r3)]) (rest := [(0, v3)]) (g1 := (hc, h, o)) (r1 := some (0, r4)) (zCk1_w (by decide +kernel)) rfl rfl rfl (st' := [(0, r4), (0, v3)]) rfl (S230 (Nat.le_trans (by decide) hd) v2 r3 h _ q6) ?_
      refine zF_blk (m := []) (d := 0) (b := B259_3) (gs := [¬ 2 = 0]) (c' := (34, [some (22, 0), some (0, v1), some (0, v2), some (0, v3)], [(0, (wsub v3 (wdiv r4 2)))], (hc, h, o))) K259_3 rfl ⟨by decide, trivial⟩ ?_
      obtain rfl := Option.some.inj e
      exact zF_ri (zRe1_w (by decide +kernel))
noncomputable def B258_0 : List zRow := [(0, .aload_n 0, 1, (0, 0, 0)), (1, .iconst 0, 1, (0, 0, 0)), (2, .putfield 81, 3, (12, 0, 0)), (5, .aload_n 0, 1, (0, 0, 0)), (6, .iload_n 1, 1, (0, 0, 0))]
theorem K258_0 : zRk 258 B258_0 = true := zRw_ok (by decide +kernel)
noncomputable def B258_1 : List zRow := [(23, .iconst (-1), 1, (0, 0, 0))]
theorem K258_1 : zRk 258 B258_1 = true := zRw_ok (by decide +kernel)
noncomputable def B258_2 : List zRow := [(13, .iload_n 2, 1, (0, 0, 0)), (14, .iconst 1, 1, (0, 0, 0)), (15, .bipush 9, 2, (0, 0, 0))]
theorem K258_2 : zRk 258 B258_2 = true := zRw_ok (by decide +kernel)
noncomputable def B258_3 : List zRow := [(25, .iconst (-1), 1, (0, 0, 0)), (26, .istore_n 3, 1, (0, 0, 0)), (27, .iconst 0, 1, (0, 0, 0)), (28, .istore 4, 2, (0, 0, 0)), (30, .iconst 0, 1, (0, 0, 0)), (31, .istore 5, 2, (0, 0, 0))]
theorem K258_3 : zRk 258 B258_3 = true := zRw_ok (by decide +kernel)
noncomputable def B258_4 : List zRow := [(20, .ifCond .ne 5, 3, (0, 0, 0))]
theorem K258_4 : zRk 258 B258_4 = true := zRw_ok (by decide +kernel)
noncomputable def B258_5 : List zRow := [(10, .ifCond .eq 13, 3, (0, 0, 0))]
theorem K258_5 : zRk 258 B258_5 = true := zRw_ok (by decide +kernel)
noncomputable def B258_6 : List zRow := [(91, .iload_n 3, 1, (0, 0, 0))]
theorem K258_6 : zRk 258 B258_6 = true := zRw_ok (by decide +kernel)
noncomputable def B258_7 : List zRow := [(44, .aload_n 0, 1, (0, 0, 0)), (45, .iload 5, 2, (0, 0, 0)), (47, .iload_n 1, 1, (0, 0, 0)), (48, .aload_n 0, 1, (0, 0, 0)), (49, .iload_n 1, 1, (0, 0, 0)), (50, .iload_n 2, 1, (0, 0, 0))]
theorem K258_7 : zRk 258 B258_7 = true := zRw_ok (by decide +kernel)
noncomputable def B258_8 : List zRow := [(57, .aload_n 0, 1, (0, 0, 0)), (58, .iload 5, 2, (0, 0, 0))]
theorem K258_8 : zRk 258 B258_8 = true := zRw_ok (by decide +kernel)
noncomputable def B258_9 : List zRow := [(78, .iload 5, 2, (0, 0, 0)), (80, .istore_n 3, 1, (0, 0, 0)), (81, .iload 6, 2, (0, 0, 0)), (83, .istore 4, 2, (0, 0, 0))]
theorem K258_9 : zRk 258 B258_9 = true := zRw_ok (by decide +kernel)
noncomputable def B258_10 : List zRow := [(75, .goto 10, 3, (0, 0, 0))]
theorem K258_10 : zRk 258 B258_10 = true := zRw_ok (by decide +kernel)
noncomputable def B258_11 : List zRow := [(66, .istore 6, 2, (0, 0, 0)), (68, .iload 6, 2, (0, 0, 0)), (70, .iload 4, 2, (0, 0, 0)), (72, .if_icmp .gt 6, 3, (0, 0, 0))]
theorem K258_11 : zRk 258 B258_11 = true := zRw_ok (by decide +kernel)
noncomputable def B258_12 : List zRow := [(33, .iload 5, 2, (0, 0, 0)), (35, .aload_n 0, 1, (0, 0, 0)), (36, .getfield 13, 3, (12, 14, 5251442)), (39, .iconst 2, 1, (0, 0, 0)), (40, .iaload, 1, (0, 0, 0)), (41, .if_icmp .ge 50, 3, (0, 0, 0))]
theorem K258_12 : zRk 258 B258_12 = true := zRw_ok (by decide +kernel)
noncomputable def B258_13 : List zRow := [(85, .iinc 5 1, 3, (0, 0, 0)), (88, .goto (-55), 3, (0, 0, 0))]
theorem K258_13 : zRk 258 B258_13 = true := zRw_ok (by decide +kernel)
def F258_1 (k0 : Int → Int → Int → Int → Int → zHM → Option (Int × zHM)) (v1 : Int) (v2 : Int) (v3 : Int) (v4 : Int) (v5 : Int) (h : zHM) : Option (Int × zHM) := k0 v1 v2 v3 v4 (wadd v5 1) h
set_option maxRecDepth 100000 in
theorem T258_1 {spec : zRn zH2} {hc : zHC} {o : Int → Int} {d : Nat} (hd : 3 ≤ d) (k0 : Int → Int → Int → Int → Int → zHM → Option (Int × zHM)) (hk0 : ∀ (v1 : Int) (v2 : Int) (v3 : Int) (v4 : Int) (v5 : Int) (h : zHM) (v : (Int × zHM)), k0 v1 v2 v3 v4 v5 h = some v → zFin 0 (fun _ => 0) (zRu2 spec d) 258 (some (0, v.1)) (hc, v.2, o) (33, [some (22, 0), some (0, v1), some (0, v2), some (0, v3), some (0, v4), some (0, v5), none], [], (hc, h, o))) (v1 : Int) (v2 : Int) (v3 : Int) (v4 : Int) (v5 : Int) (h : zHM) (v : (Int × zHM)) (e : F258_1 k0 v1 v2 v3 v4 v5 h = some v) : zFin 0 (fun _ => 0) (zRu2 spec d) 258 (some (0, v.1)) (hc, v.2, o) (85, [some (22, 0), some (0, v1), some (0, v2), some (0, v3), some (0, v4), some (0, v5), none], [], (hc, h, o)) := by
  unfold F258_1 at e
  refine zF_blk (m := []) (d := 0) (b := B258_13) (gs := []) (c' := (33, [some (22, 0), some (0, v1), some (0, v2), some (0, v3), some (0, v4), some (0, (wadd v5 1)), none], [], (hc, h, o))) K258_13 rfl trivial ?_
  exact hk0 v1 v2 v3 v4 (wadd v5 1) h _ e
def F258_0 : Nat → Int → Int → Int → Int → Int → zHM → Option (Int × zHM)
  | 0, _, _, _, _, _, _ => none
  | n + 1, v1, v2, v3, v4, v5, h => if (h 14 2) ≤ v5 then some (v3, h) else (F228 v1 v2 h).bind fun r1 => (F259 v5 v1 r1 h).bind fun r2 => (F207 v5 h).bind fun r3 => (F238 r2 r3).bind fun r4 => if v4 < r4 then F258_1 (F258_0 n) v1 v2 v5 r4 v5 h else F258_1 (F258_0 n) v1 v2 v3 v4 v5 h
set_option maxRecDepth 100000 in
theorem T258_0 {spec : zRn zH2} {hc : zHC} {o : Int → Int} {d : Nat} (hd : 3 ≤ d) : ∀ (n : Nat) (v1 : Int) (v2 : Int) (v3 : Int) (v4 : Int) (v5 : Int) (h : zHM) (v : (Int × zHM)), F258_0 n v1 v2 v3 v4 v5 h = some v → zFin 0 (fun _ => 0) (zRu2 spec d) 258 (some (0, v.1)) (hc, v.2, o) (33, [some (22, 0), some (0, v1), some (0, v2), some (0, v3), some (0, v4), some (0, v5), none], [], (hc, h, o)) := by
  intro n
  induction n with
  | zero => intro v1 v2 v3 v4 v5 h v e; unfold F258_0 at e; cases e
  | succ n hk0 =>
    intro v1 v2 v3 v4 v5 h v e
    unfold F258_0 at e
    rcases zI_s e with ⟨q1, e⟩ | ⟨q1, e⟩
    · refine zF_blk (m := []) (d := 1) (b := B258_12) (gs := [0 ≤ 2 ∧ 2 < 2140, (h 14 2) ≤ v5]) (c' := (91, [some (22, 0), some (0, v1), some (0, v2), some (0, v3), some (0, v4), some (0, v5), none], [], (hc, h, o))) K258_12 rfl ⟨by decide, q1, trivial⟩ ?_
      refine zF_blk (m := []) (d := 0) (b := B258_6) (gs := []) (c' := (92, [some (22, 0), some (0, v1), some (0, v2), some (0, v3), some (0, v4), some (0, v5), none], [(0, v3)], (hc, h, o))) K258_6 rfl trivial ?_
      exact zF_riM (zRe1_w (by decide +kernel)) e
    · refine zF_blk (m := []) (d := 0) (b := B258_12) (gs := [0 ≤ 2 ∧ 2 < 2140, ¬ ((h 14 2) ≤ v5)]) (c' := (44, [some (22, 0), some (0, v1), some (0, v2), some (0, v3), some (0, v4), some (0, v5), none], [], (hc, h, o))) K258_12 rfl ⟨by decide, q1, trivial⟩ ?_
      obtain ⟨r1, q2, e⟩ := zB_s e
      refine zF_blk (m := []) (d := 0) (b := B258_7) (gs := []) (c' := (51, [some (22, 0), some (0, v1), some (0, v2), some (0, v3), some (0, v4), some (0, v5), none], [(0, v2), (0, v1), (22, 0), (0, v1), (0, v5), (22, 0)], (hc, h, o))) K258_7 rfl trivial ?_
      refine zF_call (k := 228) (cl := 12) (n := 3) (i := .invokevirtual 273) (args := [(22, 0), (0, v1), (0, v2)]) (rest := [(0, v1), (0, v5), (22, 0)]) (g1 := (hc, h, o)) (r1 := some (0, r1)) (zCk1_w (by decide +kernel)) rfl rfl rfl (st' := [(0, r1), (0, v1), (0, v5), (22, 0)]) rfl (S228 (Nat.le_trans (by decide) hd) v1 v2 h _ q2) ?_
      obtain ⟨r2, q3, e⟩ := zB_s e
      refine zF_call (k := 259) (cl := 12) (n := 4) (i := .invokevirtual 339) (args := [(22, 0), (0, v5), (0, v1), (0, r1)]) (rest := []) (g1 := (hc, h, o)) (r1 := some (0, r2)) (zCk1_w (by decide +kernel)) rfl rfl rfl (st' := [(0, r2)]) rfl (S259 (Nat.le_trans (by decide) hd) v5 v1 r1 h _ q3) ?_
      obtain ⟨r3, q4, e⟩ := zB_s e
      refine zF_blk (m := []) (d := 0) (b := B258_8) (gs := []) (c' := (60, [some (22, 0), some (0, v1), some (0, v2), some (0, v3), some (0, v4), some (0, v5), none], [(0, v5), (22, 0), (0, r2)], (hc, h, o))) K258_8 rfl trivial ?_
      refine zF_call (k := 207) (cl := 12) (n := 2) (i := .invokevirtual 241) (args := [(22, 0), (0, v5)]) (rest := [(0, r2)]) (g1 := (hc, h, o)) (r1 := some (0, r3)) (zCk1_w (by decide +kernel)) rfl rfl rfl (st' := [(0, r3), (0, r2)]) rfl (S207 (Nat.le_trans (by decide) hd) v5 h _ q4) ?_
      obtain ⟨r4, q5, e⟩ := zB_s e
      refine zF_call (k := 238) (cl := 12) (n := 2) (i := .invokestatic 295) (args := [(0, r2), (0, r3)]) (rest := []) (g1 := (hc, h, o)) (r1 := some (0, r4)) (zCk1_w (by decide +kernel)) rfl rfl rfl (st' := [(0, r4)]) rfl (S238 (Nat.le_trans (by decide) hd) r2 r3 h _ q5) ?_
      rcases zI_s e with ⟨q6, e⟩ | ⟨q6, e⟩
      · refine zF_blk (m := []) (d := 1) (b := B258_11) (gs := [v4 < r4]) (c' := (78, [some (22, 0), some (0, v1), some (0, v2), some (0, v3), some (0, v4), some (0, v5), some (0, r4)], [], (hc, h, o))) K258_11 rfl ⟨q6, trivial⟩ ?_
        refine zF_blk (m := []) (d := 0) (b := B258_9) (gs := []) (c' := (85, [some (22, 0), some (0, v1), some (0, v2), some (0, v5), some (0, r4), some (0, v5), some (0, r4)], [], (hc, h, o))) K258_9 rfl trivial ?_
        refine zF_blk (m := [true, true, true, true, true, true, false]) (d := 0) (b := []) (gs := []) (c' := (85, [some (22, 0), some (0, v1), some (0, v2), some (0, v5), some (0, r4), some (0, v5), none], [], (hc, h, o))) rfl rfl trivial ?_
        exact T258_1 hd (F258_0 n) hk0 v1 v2 v5 r4 v5 h _ e
      · refine zF_blk (m := []) (d := 0) (b := B258_11) (gs := [¬ (v4 < r4)]) (c' := (75, [some (22, 0), some (0, v1), some (0, v2), some (0, v3), some (0, v4), some (0, v5), some (0, r4)], [], (hc, h, o))) K258_11 rfl ⟨q6, trivial⟩ ?_
        refine zF_blk (m := []) (d := 0) (b := B258_10) (gs := []) (c' := (85, [some (22, 0), some (0, v1), some (0, v2), some (0, v3), some (0, v4), some (0, v5), some (0, r4)], [], (hc, h, o))) K258_10 rfl trivial ?_
        refine zF_blk (m := [true, true, true, true, true, true, false]) (d := 0) (b := []) (gs := []) (c' := (85, [some (22, 0), some (0, v1), some (0, v2), some (0, v3), some (0, v4), some (0, v5), none], [], (hc, h, o))) rfl rfl trivial ?_
        exact T258_1 hd (F258_0 n) hk0 v1 v2 v3 v4 v5 h _ e
/-- EchoValeModel.nearest(II)I -/
def F258 (v1 : Int) (v2 : Int) (h : zHM) : Option (Int × zHM) := (F224 v1 (mset h 0 0 0)).bind fun r1 => if r1 = 0 then some ((-1), (mset h 0 0 0)) else (F188 v2 1 9).bind fun r2 => if ¬ r2 = 0 then F258_0 zFu v1 v2 (-1) 0 0 (mset h 0 0 0) else some ((-1), (mset h 0 0 0))
set_option maxRecDepth 100000 in
theorem S258 {spec : zRn zH2} {hc : zHC} {o : Int → Int} {d : Nat} (hd : 4 ≤ d) (v1 : Int) (v2 : Int) (h : zHM) (v : (Int × zHM)) (e : F258 v1 v2 h = some v) : zRu2 spec d 258 [(22, 0), (0, v1), (0, v2)] (hc, h, o) (some (0, v.1)) (hc, v.2, o) := by
  refine zF_in (D := 3) (mx := 7) (L := [some (22, 0), some (0, v1), some (0, v2), none, none, none, none]) (by decide +kernel) rfl rfl hd (fun d hd => ?_)
  unfold F258 at e
  obtain ⟨r1, q1, e⟩ := zB_s e
  refine zF_blk (m := []) (d := 0) (b := B258_0) (gs := []) (c' := (7, [some (22, 0), some (0, v1), some (0, v2), none, none, none, none], [(0, v1), (22, 0)], (hc, (mset h 0 0 0), o))) K258_0 rfl trivial ?_
  refine zF_call (k := 224) (cl := 12) (n := 2) (i := .invokevirtual 305) (args := [(22, 0), (0, v1)]) (rest := []) (g1 := (hc, (mset h 0 0 0), o)) (r1 := some (0, r1)) (zCk1_w (by decide +kernel)) rfl rfl rfl (st' := [(0, r1)]) rfl (S224 (Nat.le_trans (by decide) hd) v1 (mset h 0 0 0) _ q1) ?_
  rcases zI_s e with ⟨q2, e⟩ | ⟨q2, e⟩
  · refine zF_blk (m := []) (d := 1) (b := B258_5) (gs := [r1 = 0]) (c' := (23, [some (22, 0), some (0, v1), some (0, v2), none, none, none, none], [], (hc, (mset h 0 0 0), o))) K258_5 rfl ⟨q2, trivial⟩ ?_
    refine zF_blk (m := []) (d := 0) (b := B258_1) (gs := []) (c' := (24, [some (22, 0), some (0, v1), some (0, v2), none, none, none, none], [(0, (-1))], (hc, (mset h 0 0 0), o))) K258_1 rfl trivial ?_
    exact zF_riM (zRe1_w (by decide +kernel)) e
  · refine zF_blk (m := []) (d := 0) (b := B258_5) (gs := [¬ (r1 = 0)]) (c' := (13, [some (22, 0), some (0, v1), some (0, v2), none, none, none, none], [], (hc, (mset h 0 0 0), o))) K258_5 rfl ⟨q2, trivial⟩ ?_
    obtain ⟨r2, q3, e⟩ := zB_s e
    refine zF_blk (m := []) (d := 0) (b := B258_2) (gs := []) (c' := (17, [some (22, 0), some (0, v1), some (0, v2), none, none, none, none], [(0, 9), (0, 1), (0, v2)], (hc, (mset h 0 0 0), o))) K258_2 rfl trivial ?_
    refine zF_call (k := 188) (cl := 12) (n := 3) (i := .invokestatic 151) (args := [(0, v2), (0, 1), (0, 9)]) (rest := []) (g1 := (hc, (mset h 0 0 0), o)) (r1 := some (0, r2)) (zCk1_w (by decide +kernel)) rfl rfl rfl (st' := [(0, r2)]) rfl (S188 (Nat.le_trans (by decide) hd) v2 1 9 (mset h 0 0 0) _ q3) ?_
    rcases zI_s e with ⟨q4, e⟩ | ⟨q4, e⟩
    · refine zF_blk (m := []) (d := 1) (b := B258_4) (gs := [¬ r2 = 0]) (c' := (25, [some (22, 0), some (0, v1), some (0, v2), none, none, none, none], [], (hc, (mset h 0 0 0), o))) K258_4 rfl ⟨q4, trivial⟩ ?_
      refine zF_blk (m := []) (d := 0) (b := B258_3) (gs := []) (c' := (33, [some (22, 0), some (0, v1), some (0, v2), some (0, (-1)), some (0, 0), some (0, 0), none], [], (hc, (mset h 0 0 0), o))) K258_3 rfl trivial ?_
      exact T258_0 hd zFu v1 v2 (-1) 0 0 (mset h 0 0 0) _ e
    · refine zF_blk (m := []) (d := 0) (b := B258_4) (gs := [¬ (¬ r2 = 0)]) (c' := (23, [some (22, 0), some (0, v1), some (0, v2), none, none, none, none], [], (hc, (mset h 0 0 0), o))) K258_4 rfl ⟨q4, trivial⟩ ?_
      refine zF_blk (m := []) (d := 0) (b := B258_1) (gs := []) (c' := (24, [some (22, 0), some (0, v1), some (0, v2), none, none, none, none], [(0, (-1))], (hc, (mset h 0 0 0), o))) K258_1 rfl trivial ?_
      exact zF_riM (zRe1_w (by decide +kernel)) e
noncomputable def B119_0 : List zRow := [(28, .iconst 0, 1, (0, 0, 0))]
theorem K119_0 : zRk 119 B119_0 = true := zRw_ok (by decide +kernel)
noncomputable def B119_1 : List zRow := [(30, .iconst 0, 1, (0, 0, 0)), (31, .istore 4, 2, (0, 0, 0))]
theorem K119_1 : zRk 119 B119_1 = true := zRw_ok (by decide +kernel)
noncomputable def B119_2 : List zRow := [(18, .iload_n 3, 1, (0, 0, 0)), (19, .iconst 3, 1, (0, 0, 0)), (20, .imul, 1, (0, 0, 0)), (21, .aload_n 1, 1, (0, 0, 0)), (22, .getfield 24, 3, (5, 1, 0)), (25, .if_icmp .eq 5, 3, (0, 0, 0))]
theorem K119_2 : zRk 119 B119_2 = true := zRw_ok (by decide +kernel)
noncomputable def B119_3 : List zRow := [(12, .iload_n 3, 1, (0, 0, 0)), (13, .bipush 6, 2, (0, 0, 0)), (15, .if_icmp .gt 13, 3, (0, 0, 0))]
theorem K119_3 : zRk 119 B119_3 = true := zRw_ok (by decide +kernel)
noncomputable def B119_4 : List zRow := [(0, .aload_n 1, 1, (0, 0, 0)), (1, .getfield 24, 3, (5, 1, 0)), (4, .iconst 3, 1, (0, 0, 0)), (5, .idiv, 1, (0, 0, 0)), (6, .istore_n 3, 1, (0, 0, 0)), (7, .iload_n 3, 1, (0, 0, 0)), (8, .iconst 1, 1, (0, 0, 0)), (9, .if_icmp .lt 19, 3, (0, 0, 0))]
theorem K119_4 : zRk 119 B119_4 = true := zRw_ok (by decide +kernel)
noncomputable def B119_5 : List zRow := [(126, .aload_n 0, 1, (0, 0, 0)), (127, .iload_n 3, 1, (0, 0, 0)), (128, .putfield 42, 3, (4, 2, 0)), (131, .iconst 1, 1, (0, 0, 0))]
theorem K119_5 : zRk 119 B119_5 = true := zRw_ok (by decide +kernel)
noncomputable def B119_6 : List zRow := [(118, .iconst 0, 1, (0, 0, 0))]
theorem K119_6 : zRk 119 B119_6 = true := zRw_ok (by decide +kernel)
noncomputable def B119_7 : List zRow := [(105, .aload_n 0, 1, (0, 0, 0)), (106, .getfield 21, 3, (4, 5, 5242906)), (109, .iload 4, 2, (0, 0, 0)), (111, .iaload, 1, (0, 0, 0))]
theorem K119_7 : zRk 119 B119_7 = true := zRw_ok (by decide +kernel)
noncomputable def B119_8 : List zRow := [(120, .iinc 4 1, 3, (0, 0, 0)), (123, .goto (-90), 3, (0, 0, 0))]
theorem K119_8 : zRk 119 B119_8 = true := zRw_ok (by decide +kernel)
noncomputable def B119_9 : List zRow := [(115, .ifCond .ne 5, 3, (0, 0, 0))]
theorem K119_9 : zRk 119 B119_9 = true := zRw_ok (by decide +kernel)
noncomputable def B119_10 : List zRow := [(39, .aload_n 0, 1, (0, 0, 0)), (40, .getfield 15, 3, (4, 3, 5242906)), (43, .iload 4, 2, (0, 0, 0)), (45, .aload_n 1, 1, (0, 0, 0)), (46, .getfield 30, 3, (5, 0, 5246642)), (49, .iload 4, 2, (0, 0, 0)), (51, .iconst 3, 1, (0, 0, 0)), (52, .imul, 1, (0, 0, 0)), (53, .iaload, 1, (0, 0, 0)), (54, .iastore, 1, (0, 0, 0)), (55, .aload_n 0, 1, (0, 0, 0)), (56, .getfield 18, 3, (4, 4, 5242906)), (59, .iload 4, 2, (0, 0, 0)), (61, .aload_n 1, 1, (0, 0, 0)), (62, .getfield 30, 3, (5, 0, 5246642)), (65, .iload 4, 2, (0, 0, 0)), (67, .iconst 3, 1, (0, 0, 0)), (68, .imul, 1, (0, 0, 0)), (69, .iconst 1, 1, (0, 0, 0)), (70, .iadd, 1, (0, 0, 0)), (71, .iaload, 1, (0, 0, 0)), (72, .iastore, 1, (0, 0, 0)), (73, .aload_n 0, 1, (0, 0, 0)), (74, .getfield 21, 3, (4, 5, 5242906)), (77, .iload 4, 2, (0, 0, 0)), (79, .aload_n 1, 1, (0, 0, 0)), (80, .getfield 30, 3, (5, 0, 5246642)), (83, .iload 4, 2, (0, 0, 0)), (85, .iconst 3, 1, (0, 0, 0)), (86, .imul, 1, (0, 0, 0)), (87, .iconst 2, 1, (0, 0, 0)), (88, .iadd, 1, (0, 0, 0)), (89, .iaload, 1, (0, 0, 0)), (90, .iastore, 1, (0, 0, 0)), (91, .aload_n 0, 1, (0, 0, 0)), (92, .getfield 15, 3, (4, 3, 5242906)), (95, .iload 4, 2, (0, 0, 0)), (97, .iaload, 1, (0, 0, 0)), (98, .aload_n 2, 1, (0, 0, 0)), (99, .getfield 33, 3, (9, 2, 0)), (102, .if_icmp .ge 16, 3, (0, 0, 0))]
theorem K119_10 : zRk 119 B119_10 = true := zRw_ok (by decide +kernel)
noncomputable def B119_11 : List zRow := [(33, .iload 4, 2, (0, 0, 0)), (35, .iload_n 3, 1, (0, 0, 0)), (36, .if_icmp .ge 90, 3, (0, 0, 0))]
theorem K119_11 : zRk 119 B119_11 = true := zRw_ok (by decide +kernel)
def F119_0 : Nat → Int → Int → Int → zHC → Option (Int × zHC)
  | 0, _, _, _, _ => none
  | n + 1, v2, v3, v4, h => if v3 ≤ v4 then some (1, (hset h 258 0 0 v3)) else zG (0 ≤ (wmul v4 3) ∧ (wmul v4 3) < 940) (zG (0 ≤ v4 ∧ v4 < 6) (zG (0 ≤ (wadd (wmul v4 3) 1) ∧ (wadd (wmul v4 3) 1) < 940) (zG (0 ≤ v4 ∧ v4 < 6) (zG (0 ≤ (wadd (wmul v4 3) 2) ∧ (wadd (wmul v4 3) 2) < 940) (zG (0 ≤ v4 ∧ v4 < 6) (zG (0 ≤ v4 ∧ v4 < 6) (if (h 578 v2 0) ≤ ((hset h 259 0 v4 (h 320 0 (wmul v4 3))) 259 0 v4) then some (0, (hset (hset (hset h 259 0 v4 (h 320 0 (wmul v4 3))) 260 0 v4 (h 320 0 (wadd (wmul v4 3) 1))) 261 0 v4 (h 320 0 (wadd (wmul v4 3) 2)))) else zG (0 ≤ v4 ∧ v4 < 6) ((F74 ((hset (hset (hset h 259 0 v4 (h 320 0 (wmul v4 3))) 260 0 v4 (h 320 0 (wadd (wmul v4 3) 1))) 261 0 v4 (h 320 0 (wadd (wmul v4 3) 2))) 261 0 v4)).bind fun r1 => if ¬ r1 = 0 then (F119_0 n) v2 v3 (wadd v4 1) (hset (hset (hset h 259 0 v4 (h 320 0 (wmul v4 3))) 260 0 v4 (h 320 0 (wadd (wmul v4 3) 1))) 261 0 v4 (h 320 0 (wadd (wmul v4 3) 2))) else some (0, (hset (hset (hset h 259 0 v4 (h 320 0 (wmul v4 3))) 260 0 v4 (h 320 0 (wadd (wmul v4 3) 1))) 261 0 v4 (h 320 0 (wadd (wmul v4 3) 2))))))))))))
set_option maxRecDepth 100000 in
theorem T119_0 {spec : zRn zH2} {hm : zHM} {o : Int → Int} {d : Nat} (hd : 1 ≤ d) : ∀ (n : Nat) (v2 : Int) (v3 : Int) (v4 : Int) (h : zHC) (v : (Int × zHC)), F119_0 n v2 v3 v4 h = some v → zFin 0 (fun _ => 0) (zRu2 spec d) 119 (some (0, v.1)) (v.2, hm, o) (33, [some (14, 0), some (15, 0), some (19, v2), some (0, v3), some (0, v4)], [], (h, hm, o)) := by
  intro n
  induction n with
  | zero => intro v2 v3 v4 h v e; unfold F119_0 at e; cases e
  | succ n hk0 =>
    intro v2 v3 v4 h v e
    unfold F119_0 at e
    rcases zI_s e with ⟨q1, e⟩ | ⟨q1, e⟩
    · refine zF_blk (m := []) (d := 1) (b := B119_11) (gs := [v3 ≤ v4]) (c' := (126, [some (14, 0), some (15, 0), some (19, v2), some (0, v3), some (0, v4)], [], (h, hm, o))) K119_11 rfl ⟨q1, trivial⟩ ?_
      refine zF_blk (m := []) (d := 0) (b := B119_5) (gs := []) (c' := (132, [some (14, 0), some (15, 0), some (19, v2), some (0, v3), some (0, v4)], [(0, 1)], ((hset h 258 0 0 v3), hm, o))) K119_5 rfl trivial ?_
      exact zF_rbC (zRe1_w (by decide +kernel)) (Or.inr rfl) e
    · refine zF_blk (m := []) (d := 0) (b := B119_11) (gs := [¬ (v3 ≤ v4)]) (c' := (39, [some (14, 0), some (15, 0), some (19, v2), some (0, v3), some (0, v4)], [], (h, hm, o))) K119_11 rfl ⟨q1, trivial⟩ ?_
      obtain ⟨q2, e⟩ := zG_s e
      obtain ⟨q3, e⟩ := zG_s e
      obtain ⟨q4, e⟩ := zG_s e
      obtain ⟨q3, e⟩ := zG_s e
      obtain ⟨q5, e⟩ := zG_s e
      obtain ⟨q3, e⟩ := zG_s e
      obtain ⟨q3, e⟩ := zG_s e
      rcases zI_s e with ⟨q6, e⟩ | ⟨q6, e⟩
      · refine zF_blk (m := []) (d := 1) (b := B119_10) (gs := [0 ≤ (wmul v4 3) ∧ (wmul v4 3) < 940, 0 ≤ v4 ∧ v4 < 6, 0 ≤ (wadd (wmul v4 3) 1) ∧ (wadd (wmul v4 3) 1) < 940, 0 ≤ v4 ∧ v4 < 6, 0 ≤ (wadd (wmul v4 3) 2) ∧ (wadd (wmul v4 3) 2) < 940, 0 ≤ v4 ∧ v4 < 6, 0 ≤ v4 ∧ v4 < 6, (h 578 v2 0) ≤ ((hset h 259 0 v4 (h 320 0 (wmul v4 3))) 259 0 v4)]) (c' := (118, [some (14, 0), some (15, 0), some (19, v2), some (0, v3), some (0, v4)], [], ((hset (hset (hset h 259 0 v4 (h 320 0 (wmul v4 3))) 260 0 v4 (h 320 0 (wadd (wmul v4 3) 1))) 261 0 v4 (h 320 0 (wadd (wmul v4 3) 2))), hm, o))) K119_10 rfl ⟨q2, q3, q4, q3, q5, q3, q3, q6, trivial⟩ ?_
        refine zF_blk (m := []) (d := 0) (b := B119_6) (gs := []) (c' := (119, [some (14, 0), some (15, 0), some (19, v2), some (0, v3), some (0, v4)], [(0, 0)], ((hset (hset (hset h 259 0 v4 (h 320 0 (wmul v4 3))) 260 0 v4 (h 320 0 (wadd (wmul v4 3) 1))) 261 0 v4 (h 320 0 (wadd (wmul v4 3) 2))), hm, o))) K119_6 rfl trivial ?_
        exact zF_rbC (zRe1_w (by decide +kernel)) (Or.inl rfl) e
      · refine zF_blk (m := []) (d := 0) (b := B119_10) (gs := [0 ≤ (wmul v4 3) ∧ (wmul v4 3) < 940, 0 ≤ v4 ∧ v4 < 6, 0 ≤ (wadd (wmul v4 3) 1) ∧ (wadd (wmul v4 3) 1) < 940, 0 ≤ v4 ∧ v4 < 6, 0 ≤ (wadd (wmul v4 3) 2) ∧ (wadd (wmul v4 3) 2) < 940, 0 ≤ v4 ∧ v4 < 6, 0 ≤ v4 ∧ v4 < 6, ¬ ((h 578 v2 0) ≤ ((hset h 259 0 v4 (h 320 0 (wmul v4 3))) 259 0 v4))]) (c' := (105, [some (14, 0), some (15, 0), some (19, v2), some (0, v3), some (0, v4)], [], ((hset (hset (hset h 259 0 v4 (h 320 0 (wmul v4 3))) 260 0 v4 (h 320 0 (wadd (wmul v4 3) 1))) 261 0 v4 (h 320 0 (wadd (wmul v4 3) 2))), hm, o))) K119_10 rfl ⟨q2, q3, q4, q3, q5, q3, q3, q6, trivial⟩ ?_
        obtain ⟨q7, e⟩ := zG_s e
        obtain ⟨r1, q8, e⟩ := zB_s e
        refine zF_blk (m := []) (d := 0) (b := B119_7) (gs := [0 ≤ v4 ∧ v4 < 6]) (c' := (112, [some (14, 0), some (15, 0), some (19, v2), some (0, v3), some (0, v4)], [(0, ((hset (hset (hset h 259 0 v4 (h 320 0 (wmul v4 3))) 260 0 v4 (h 320 0 (wadd (wmul v4 3) 1))) 261 0 v4 (h 320 0 (wadd (wmul v4 3) 2))) 261 0 v4))], ((hset (hset (hset h 259 0 v4 (h 320 0 (wmul v4 3))) 260 0 v4 (h 320 0 (wadd (wmul v4 3) 1))) 261 0 v4 (h 320 0 (wadd (wmul v4 3) 2))), hm, o))) K119_7 rfl ⟨q7, trivial⟩ ?_
        refine zF_call (k := 74) (cl := 11) (n := 1) (i := .invokestatic 38) (args := [(0, ((hset (hset (hset h 259 0 v4 (h 320 0 (wmul v4 3))) 260 0 v4 (h 320 0 (wadd (wmul v4 3) 1))) 261 0 v4 (h 320 0 (wadd (wmul v4 3) 2))) 261 0 v4))]) (rest := []) (g1 := ((hset (hset (hset h 259 0 v4 (h 320 0 (wmul v4 3))) 260 0 v4 (h 320 0 (wadd (wmul v4 3) 1))) 261 0 v4 (h 320 0 (wadd (wmul v4 3) 2))), hm, o)) (r1 := some (0, r1)) (zCk1_w (by decide +kernel)) rfl rfl rfl (st' := [(0, r1)]) rfl (S74 (Nat.le_trans (by decide) hd) ((hset (hset (hset h 259 0 v4 (h 320 0 (wmul v4 3))) 260 0 v4 (h 320 0 (wadd (wmul v4 3) 1))) 261 0 v4 (h 320 0 (wadd (wmul v4 3) 2))) 261 0 v4) (hset (hset (hset h 259 0 v4 (h 320 0 (wmul v4 3))) 260 0 v4 (h 320 0 (wadd (wmul v4 3) 1))) 261 0 v4 (h 320 0 (wadd (wmul v4 3) 2))) _ q8) ?_
        rcases zI_s e with ⟨q9, e⟩ | ⟨q9, e⟩
        · refine zF_blk (m := []) (d := 1) (b := B119_9) (gs := [¬ r1 = 0]) (c' := (120, [some (14, 0), some (15, 0), some (19, v2), some (0, v3), some (0, v4)], [], ((hset (hset (hset h 259 0 v4 (h 320 0 (wmul v4 3))) 260 0 v4 (h 320 0 (wadd (wmul v4 3) 1))) 261 0 v4 (h 320 0 (wadd (wmul v4 3) 2))), hm, o))) K119_9 rfl ⟨q9, trivial⟩ ?_
          refine zF_blk (m := []) (d := 0) (b := B119_8) (gs := []) (c' := (33, [some (14, 0), some (15, 0), some (19, v2), some (0, v3), some (0, (wadd v4 1))], [], ((hset (hset (hset h 259 0 v4 (h 320 0 (wmul v4 3))) 260 0 v4 (h 320 0 (wadd (wmul v4 3) 1))) 261 0 v4 (h 320 0 (wadd (wmul v4 3) 2))), hm, o))) K119_8 rfl trivial ?_
          exact hk0 v2 v3 (wadd v4 1) (hset (hset (hset h 259 0 v4 (h 320 0 (wmul v4 3))) 260 0 v4 (h 320 0 (wadd (wmul v4 3) 1))) 261 0 v4 (h 320 0 (wadd (wmul v4 3) 2))) _ e
        · refine zF_blk (m := []) (d := 0) (b := B119_9) (gs := [¬ (¬ r1 = 0)]) (c' := (118, [some (14, 0), some (15, 0), some (19, v2), some (0, v3), some (0, v4)], [], ((hset (hset (hset h 259 0 v4 (h 320 0 (wmul v4 3))) 260 0 v4 (h 320 0 (wadd (wmul v4 3) 1))) 261 0 v4 (h 320 0 (wadd (wmul v4 3) 2))), hm, o))) K119_9 rfl ⟨q9, trivial⟩ ?_
          refine zF_blk (m := []) (d := 0) (b := B119_6) (gs := []) (c' := (119, [some (14, 0), some (15, 0), some (19, v2), some (0, v3), some (0, v4)], [(0, 0)], ((hset (hset (hset h 259 0 v4 (h 320 0 (wmul v4 3))) 260 0 v4 (h 320 0 (wadd (wmul v4 3) 1))) 261 0 v4 (h 320 0 (wadd (wmul v4 3) 2))), hm, o))) K119_6 rfl trivial ?_
          exact zF_rbC (zRe1_w (by decide +kernel)) (Or.inl rfl) e
/-- EchoVale$Pieces.take(LEchoVale$Reader;LEchoVale$Valley;)Z -/
def F119 (v2 : Int) (h : zHC) : Option (Int × zHC) := if (wdiv (h 321 0 0) 3) < 1 then some (0, h) else if 6 < (wdiv (h 321 0 0) 3) then some (0, h) else if (wmul (wdiv (h 321 0 0) 3) 3) = (h 321 0 0) then F119_0 zFu v2 (wdiv (h 321 0 0) 3) 0 h else some (0, h)
set_option maxRecDepth 100000 in
theorem S119 {spec : zRn zH2} {hm : zHM} {o : Int → Int} {d : Nat} (hd : 2 ≤ d) (v2 : Int) (h : zHC) (v : (Int × zHC)) (e : F119 v2 h = some v) : zRu2 spec d 119 [(14, 0), (15, 0), (19, v2)] (h, hm, o) (some (0, v.1)) (v.2, hm, o) := by
  refine zF_in (D := 1) (mx := 5) (L := [some (14, 0), some (15, 0), some (19, v2), none, none]) (by decide +kernel) rfl rfl hd (fun d hd => ?_)
  unfold F119 at e
  rcases zI_s e with ⟨q1, e⟩ | ⟨q1, e⟩
  · refine zF_blk (m := []) (d := 1) (b := B119_4) (gs := [¬ 3 = 0, (wdiv (h 321 0 0) 3) < 1]) (c' := (28, [some (14, 0), some (15, 0), some (19, v2), some (0, (wdiv (h 321 0 0) 3)), none], [], (h, hm, o))) K119_4 rfl ⟨by decide, q1, trivial⟩ ?_
    refine zF_blk (m := []) (d := 0) (b := B119_0) (gs := []) (c' := (29, [some (14, 0), some (15, 0), some (19, v2), some (0, (wdiv (h 321 0 0) 3)), none], [(0, 0)], (h, hm, o))) K119_0 rfl trivial ?_
    exact zF_rbC (zRe1_w (by decide +kernel)) (Or.inl rfl) e
  · refine zF_blk (m := []) (d := 0) (b := B119_4) (gs := [¬ 3 = 0, ¬ ((wdiv (h 321 0 0) 3) < 1)]) (c' := (12, [some (14, 0), some (15, 0), some (19, v2), some (0, (wdiv (h 321 0 0) 3)), none], [], (h, hm, o))) K119_4 rfl ⟨by decide, q1, trivial⟩ ?_
    rcases zI_s e with ⟨q2, e⟩ | ⟨q2, e⟩
    · refine zF_blk (m := []) (d := 1) (b := B119_3) (gs := [6 < (wdiv (h 321 0 0) 3)]) (c' := (28, [some (14, 0), some (15, 0), some (19, v2), some (0, (wdiv (h 321 0 0) 3)), none], [], (h, hm, o))) K119_3 rfl ⟨q2, trivial⟩ ?_
      refine zF_blk (m := []) (d := 0) (b := B119_0) (gs := []) (c' := (29, [some (14, 0), some (15, 0), some (19, v2), some (0, (wdiv (h 321 0 0) 3)), none], [(0, 0)], (h, hm, o))) K119_0 rfl trivial ?_
      exact zF_rbC (zRe1_w (by decide +kernel)) (Or.inl rfl) e
    · refine zF_blk (m := []) (d := 0) (b := B119_3) (gs := [¬ (6 < (wdiv (h 321 0 0) 3))]) (c' := (18, [some (14, 0), some (15, 0), some (19, v2), some (0, (wdiv (h 321 0 0) 3)), none], [], (h, hm, o))) K119_3 rfl ⟨q2, trivial⟩ ?_
      rcases zI_s e with ⟨q3, e⟩ | ⟨q3, e⟩
      · refine zF_blk (m := []) (d := 1) (b := B119_2) (gs := [(wmul (wdiv (h 321 0 0) 3) 3) = (h 321 0 0)]) (c' := (30, [some (14, 0), some (15, 0), some (19, v2), some (0, (wdiv (h 321 0 0) 3)), none], [], (h, hm, o))) K119_2 rfl ⟨q3, trivial⟩ ?_
        refine zF_blk (m := []) (d := 0) (b := B119_1) (gs := []) (c' := (33, [some (14, 0), some (15, 0), some (19, v2), some (0, (wdiv (h 321 0 0) 3)), some (0, 0)], [], (h, hm, o))) K119_1 rfl trivial ?_
        exact T119_0 hd zFu v2 (wdiv (h 321 0 0) 3) 0 h _ e
      · refine zF_blk (m := []) (d := 0) (b := B119_2) (gs := [¬ ((wmul (wdiv (h 321 0 0) 3) 3) = (h 321 0 0))]) (c' := (28, [some (14, 0), some (15, 0), some (19, v2), some (0, (wdiv (h 321 0 0) 3)), none], [], (h, hm, o))) K119_2 rfl ⟨q3, trivial⟩ ?_
        refine zF_blk (m := []) (d := 0) (b := B119_0) (gs := []) (c' := (29, [some (14, 0), some (15, 0), some (19, v2), some (0, (wdiv (h 321 0 0) 3)), none], [(0, 0)], (h, hm, o))) K119_0 rfl trivial ?_
        exact zF_rbC (zRe1_w (by decide +kernel)) (Or.inl rfl) e
noncomputable def B122_0 : List zRow := [(0, .iconst 0, 1, (0, 0, 0)), (1, .istore_n 3, 1, (0, 0, 0))]
theorem K122_0 : zRk 122 B122_0 = true := zRw_ok (by decide +kernel)
noncomputable def B122_1 : List zRow := [(80, .iconst 0, 1, (0, 0, 0))]
theorem K122_1 : zRk 122 B122_1 = true := zRw_ok (by decide +kernel)
noncomputable def B122_2 : List zRow := [(12, .iconst 0, 1, (0, 0, 0)), (13, .istore 4, 2, (0, 0, 0)), (15, .iconst 0, 1, (0, 0, 0)), (16, .istore 5, 2, (0, 0, 0))]
theorem K122_2 : zRk 122 B122_2 = true := zRw_ok (by decide +kernel)
noncomputable def B122_3 : List zRow := [(2, .iload_n 3, 1, (0, 0, 0)), (3, .iconst 1, 1, (0, 0, 0)), (4, .aload_n 0, 1, (0, 0, 0)), (5, .getfield 33, 3, (9, 2, 0)), (8, .ishl, 1, (0, 0, 0)), (9, .if_icmp .ge 71, 3, (0, 0, 0))]
theorem K122_3 : zRk 122 B122_3 = true := zRw_ok (by decide +kernel)
noncomputable def B122_4 : List zRow := [(64, .iload_n 3, 1, (0, 0, 0)), (65, .iload_n 1, 1, (0, 0, 0))]
theorem K122_4 : zRk 122 B122_4 = true := zRw_ok (by decide +kernel)
noncomputable def B122_5 : List zRow := [(72, .iconst 1, 1, (0, 0, 0))]
theorem K122_5 : zRk 122 B122_5 = true := zRw_ok (by decide +kernel)
noncomputable def B122_6 : List zRow := [(69, .ifCond .eq 5, 3, (0, 0, 0))]
theorem K122_6 : zRk 122 B122_6 = true := zRw_ok (by decide +kernel)
noncomputable def B122_7 : List zRow := [(58, .iload 4, 2, (0, 0, 0)), (60, .iload_n 2, 1, (0, 0, 0)), (61, .if_icmp .ne 13, 3, (0, 0, 0))]
theorem K122_7 : zRk 122 B122_7 = true := zRw_ok (by decide +kernel)
noncomputable def B122_8 : List zRow := [(27, .iload 4, 2, (0, 0, 0)), (29, .iload_n 3, 1, (0, 0, 0)), (30, .iload 5, 2, (0, 0, 0))]
theorem K122_8 : zRk 122 B122_8 = true := zRw_ok (by decide +kernel)
noncomputable def B122_9 : List zRow := [(48, .iconst 0, 1, (0, 0, 0))]
theorem K122_9 : zRk 122 B122_9 = true := zRw_ok (by decide +kernel)
noncomputable def B122_10 : List zRow := [(38, .aload_n 0, 1, (0, 0, 0)), (39, .getfield 71, 3, (9, 9, 5242906)), (42, .iload 5, 2, (0, 0, 0)), (44, .iaload, 1, (0, 0, 0)), (45, .goto 4, 3, (0, 0, 0))]
theorem K122_10 : zRk 122 B122_10 = true := zRw_ok (by decide +kernel)
noncomputable def B122_11 : List zRow := [(35, .ifCond .eq 13, 3, (0, 0, 0))]
theorem K122_11 : zRk 122 B122_11 = true := zRw_ok (by decide +kernel)
noncomputable def B122_12 : List zRow := [(18, .iload 5, 2, (0, 0, 0)), (20, .aload_n 0, 1, (0, 0, 0)), (21, .getfield 33, 3, (9, 2, 0)), (24, .if_icmp .ge 34, 3, (0, 0, 0))]
theorem K122_12 : zRk 122 B122_12 = true := zRw_ok (by decide +kernel)
noncomputable def B122_13 : List zRow := [(49, .iadd, 1, (0, 0, 0)), (50, .istore 4, 2, (0, 0, 0)), (52, .iinc 5 1, 3, (0, 0, 0)), (55, .goto (-37), 3, (0, 0, 0))]
theorem K122_13 : zRk 122 B122_13 = true := zRw_ok (by decide +kernel)
noncomputable def B122_14 : List zRow := [(74, .iinc 3 1, 3, (0, 0, 0)), (77, .goto (-75), 3, (0, 0, 0))]
theorem K122_14 : zRk 122 B122_14 = true := zRw_ok (by decide +kernel)
def F122_2 (k0 : Int → Int → Int → Int → Option Int) (h : zHC) (v0 : Int) (v1 : Int) (v2 : Int) (v3 : Int) : Option Int := k0 v0 v1 v2 (wadd v3 1)
set_option maxRecDepth 100000 in
theorem T122_2 {spec : zRn zH2} {hm : zHM} {o : Int → Int} {d : Nat} (hd : 1 ≤ d) (h : zHC) (k0 : Int → Int → Int → Int → Option Int) (hk0 : ∀ (v0 : Int) (v1 : Int) (v2 : Int) (v3 : Int) (v : Int), k0 v0 v1 v2 v3 = some v → zFin 0 (fun _ => 0) (zRu2 spec d) 122 (some (0, v)) (h, hm, o) (2, [some (19, v0), some (0, v1), some (0, v2), some (0, v3), none, none], [], (h, hm, o))) (v0 : Int) (v1 : Int) (v2 : Int) (v3 : Int) (v : Int) (e : F122_2 k0 h v0 v1 v2 v3 = some v) : zFin 0 (fun _ => 0) (zRu2 spec d) 122 (some (0, v)) (h, hm, o) (74, [some (19, v0), some (0, v1), some (0, v2), some (0, v3), none, none], [], (h, hm, o)) := by
  unfold F122_2 at e
  refine zF_blk (m := []) (d := 0) (b := B122_14) (gs := []) (c' := (2, [some (19, v0), some (0, v1), some (0, v2), some (0, (wadd v3 1)), none, none], [], (h, hm, o))) K122_14 rfl trivial ?_
  exact hk0 v0 v1 v2 (wadd v3 1) _ e
def F122_3 (k0 : Int → Int → Int → Int → Option Int) (k1 : Int → Int → Int → Int → Int → Int → Option Int) (h : zHC) (v0 : Int) (v1 : Int) (v2 : Int) (v3 : Int) (v5 : Int) (s0 : Int) (s1 : Int) : Option Int := k1 v0 v1 v2 v3 (wadd s1 s0) (wadd v5 1)
set_option maxRecDepth 100000 in
theorem T122_3 {spec : zRn zH2} {hm : zHM} {o : Int → Int} {d : Nat} (hd : 1 ≤ d) (h : zHC) (k0 : Int → Int → Int → Int → Option Int) (hk0 : ∀ (v0 : Int) (v1 : Int) (v2 : Int) (v3 : Int) (v : Int), k0 v0 v1 v2 v3 = some v → zFin 0 (fun _ => 0) (zRu2 spec d) 122 (some (0, v)) (h, hm, o) (2, [some (19, v0), some (0, v1), some (0, v2), some (0, v3), none, none], [], (h, hm, o))) (k1 : Int → Int → Int → Int → Int → Int → Option Int) (hk1 : ∀ (v0 : Int) (v1 : Int) (v2 : Int) (v3 : Int) (v4 : Int) (v5 : Int) (v : Int), k1 v0 v1 v2 v3 v4 v5 = some v → zFin 0 (fun _ => 0) (zRu2 spec d) 122 (some (0, v)) (h, hm, o) (18, [some (19, v0), some (0, v1), some (0, v2), some (0, v3), some (0, v4), some (0, v5)], [], (h, hm, o))) (v0 : Int) (v1 : Int) (v2 : Int) (v3 : Int) (v5 : Int) (s0 : Int) (s1 : Int) (v : Int) (e : F122_3 k0 k1 h v0 v1 v2 v3 v5 s0 s1 = some v) : zFin 0 (fun _ => 0) (zRu2 spec d) 122 (some (0, v)) (h, hm, o) (49, [some (19, v0), some (0, v1), some (0, v2), some (0, v3), none, some (0, v5)], [(0, s0), (0, s1)], (h, hm, o)) := by
  unfold F122_3 at e
  refine zF_blk (m := []) (d := 0) (b := B122_13) (gs := []) (c' := (18, [some (19, v0), some (0, v1), some (0, v2), some (0, v3), some (0, (wadd s1 s0)), some (0, (wadd v5 1))], [], (h, hm, o))) K122_13 rfl trivial ?_
  exact hk1 v0 v1 v2 v3 (wadd s1 s0) (wadd v5 1) _ e
def F122_1 (k0 : Int → Int → Int → Int → Option Int) (h : zHC) : Nat → Int → Int → Int → Int → Int → Int → Option Int
  | 0, _, _, _, _, _, _ => none
  | n + 1, v0, v1, v2, v3, v4, v5 => if (h 578 v0 0) ≤ v5 then if ¬ v4 = v2 then F122_2 k0 h v0 v1 v2 v3 else (F65 v3 v1).bind fun r1 => if r1 = 0 then F122_2 k0 h v0 v1 v2 v3 else some 1 else (F65 v3 v5).bind fun r2 => if r2 = 0 then F122_3 k0 (F122_1 k0 h n) h v0 v1 v2 v3 v5 0 v4 else zG (0 ≤ v5 ∧ v5 < 6) (F122_3 k0 (F122_1 k0 h n) h v0 v1 v2 v3 v5 (h 585 v0 v5) v4)
set_option maxRecDepth 100000 in
theorem T122_1 {spec : zRn zH2} {hm : zHM} {o : Int → Int} {d : Nat} (hd : 1 ≤ d) (h : zHC) (k0 : Int → Int → Int → Int → Option Int) (hk0 : ∀ (v0 : Int) (v1 : Int) (v2 : Int) (v3 : Int) (v : Int), k0 v0 v1 v2 v3 = some v → zFin 0 (fun _ => 0) (zRu2 spec d) 122 (some (0, v)) (h, hm, o) (2, [some (19, v0), some (0, v1), some (0, v2), some (0, v3), none, none], [], (h, hm, o))) : ∀ (n : Nat) (v0 : Int) (v1 : Int) (v2 : Int) (v3 : Int) (v4 : Int) (v5 : Int) (v : Int), F122_1 k0 h n v0 v1 v2 v3 v4 v5 = some v → zFin 0 (fun _ => 0) (zRu2 spec d) 122 (some (0, v)) (h, hm, o) (18, [some (19, v0), some (0, v1), some (0, v2), some (0, v3), some (0, v4), some (0, v5)], [], (h, hm, o)) := by
  intro n
  induction n with
  | zero => intro v0 v1 v2 v3 v4 v5 v e; unfold F122_1 at e; cases e
  | succ n hk1 =>
    intro v0 v1 v2 v3 v4 v5 v e
    unfold F122_1 at e
    rcases zI_s e with ⟨q1, e⟩ | ⟨q1, e⟩
    · refine zF_blk (m := []) (d := 1) (b := B122_12) (gs := [(h 578 v0 0) ≤ v5]) (c' := (58, [some (19, v0), some (0, v1), some (0, v2), some (0, v3), some (0, v4), some (0, v5)], [], (h, hm, o))) K122_12 rfl ⟨q1, trivial⟩ ?_
      rcases zI_s e with ⟨q2, e⟩ | ⟨q2, e⟩
      · refine zF_blk (m := []) (d := 1) (b := B122_7) (gs := [¬ v4 = v2]) (c' := (74, [some (19, v0), some (0, v1), some (0, v2), some (0, v3), some (0, v4), some (0, v5)], [], (h, hm, o))) K122_7 rfl ⟨q2, trivial⟩ ?_
        refine zF_blk (m := [true, true, true, true, false, false]) (d := 0) (b := []) (gs := []) (c' := (74, [some (19, v0), some (0, v1), some (0, v2), some (0, v3), none, none], [], (h, hm, o))) rfl rfl trivial ?_
        exact T122_2 hd h k0 hk0 v0 v1 v2 v3 _ e
      · refine zF_blk (m := []) (d := 0) (b := B122_7) (gs := [¬ (¬ v4 = v2)]) (c' := (64, [some (19, v0), some (0, v1), some (0, v2), some (0, v3), some (0, v4), some (0, v5)], [], (h, hm, o))) K122_7 rfl ⟨q2, trivial⟩ ?_
        obtain ⟨r1, q3, e⟩ := zB_s e
        refine zF_blk (m := []) (d := 0) (b := B122_4) (gs := []) (c' := (66, [some (19, v0), some (0, v1), some (0, v2), some (0, v3), some (0, v4), some (0, v5)], [(0, v1), (0, v3)], (h, hm, o))) K122_4 rfl trivial ?_
        refine zF_call (k := 65) (cl := 11) (n := 2) (i := .invokestatic 67) (args := [(0, v3), (0, v1)]) (rest := []) (g1 := (h, hm, o)) (r1 := some (0, r1)) (zCk1_w (by decide +kernel)) rfl rfl rfl (st' := [(0, r1)]) rfl (S65 (Nat.le_trans (by decide) hd) v3 v1 h _ q3) ?_
        rcases zI_s e with ⟨q4, e⟩ | ⟨q4, e⟩
        · refine zF_blk (m := []) (d := 1) (b := B122_6) (gs := [r1 = 0]) (c' := (74, [some (19, v0), some (0, v1), some (0, v2), some (0, v3), some (0, v4), some (0, v5)], [], (h, hm, o))) K122_6 rfl ⟨q4, trivial⟩ ?_
          refine zF_blk (m := [true, true, true, true, false, false]) (d := 0) (b := []) (gs := []) (c' := (74, [some (19, v0), some (0, v1), some (0, v2), some (0, v3), none, none], [], (h, hm, o))) rfl rfl trivial ?_
          exact T122_2 hd h k0 hk0 v0 v1 v2 v3 _ e
        · refine zF_blk (m := []) (d := 0) (b := B122_6) (gs := [¬ (r1 = 0)]) (c' := (72, [some (19, v0), some (0, v1), some (0, v2), some (0, v3), some (0, v4), some (0, v5)], [], (h, hm, o))) K122_6 rfl ⟨q4, trivial⟩ ?_
          refine zF_blk (m := []) (d := 0) (b := B122_5) (gs := []) (c' := (73, [some (19, v0), some (0, v1), some (0, v2), some (0, v3), some (0, v4), some (0, v5)], [(0, 1)], (h, hm, o))) K122_5 rfl trivial ?_
          obtain rfl := Option.some.inj e
          exact zF_rb (zRe1_w (by decide +kernel)) (Or.inr rfl)
    · refine zF_blk (m := []) (d := 0) (b := B122_12) (gs := [¬ ((h 578 v0 0) ≤ v5)]) (c' := (27, [some (19, v0), some (0, v1), some (0, v2), some (0, v3), some (0, v4), some (0, v5)], [], (h, hm, o))) K122_12 rfl ⟨q1, trivial⟩ ?_
      obtain ⟨r2, q5, e⟩ := zB_s e
      refine zF_blk (m := []) (d := 0) (b := B122_8) (gs := []) (c' := (32, [some (19, v0), some (0, v1), some (0, v2), some (0, v3), some (0, v4), some (0, v5)], [(0, v5), (0, v3), (0, v4)], (h, hm, o))) K122_8 rfl trivial ?_
      refine zF_call (k := 65) (cl := 11) (n := 2) (i := .invokestatic 67) (args := [(0, v3), (0, v5)]) (rest := [(0, v4)]) (g1 := (h, hm, o)) (r1 := some (0, r2)) (zCk1_w (by decide +kernel)) rfl rfl rfl (st' := [(0, r2), (0, v4)]) rfl (S65 (Nat.le_trans (by decide) hd) v3 v5 h _ q5) ?_
      rcases zI_s e with ⟨q6, e⟩ | ⟨q6, e⟩
      · refine zF_blk (m := []) (d := 1) (b := B122_11) (gs := [r2 = 0]) (c' := (48, [some (19, v0), some (0, v1), some (0, v2), some (0, v3), some (0, v4), some (0, v5)], [(0, v4)], (h, hm, o))) K122_11 rfl ⟨q6, trivial⟩ ?_
        refine zF_blk (m := []) (d := 0) (b := B122_9) (gs := []) (c' := (49, [some (19, v0), some (0, v1), some (0, v2), some (0, v3), some (0, v4), some (0, v5)], [(0, 0), (0, v4)], (h, hm, o))) K122_9 rfl trivial ?_
        refine zF_blk (m := [true, true, true, true, false, true]) (d := 0) (b := []) (gs := []) (c' := (49, [some (19, v0), some (0, v1), some (0, v2), some (0, v3), none, some (0, v5)], [(0, 0), (0, v4)], (h, hm, o))) rfl rfl trivial ?_
        exact T122_3 hd h k0 hk0 (F122_1 k0 h n) hk1 v0 v1 v2 v3 v5 0 v4 _ e
      · refine zF_blk (m := []) (d := 0) (b := B122_11) (gs := [¬ (r2 = 0)]) (c' := (38, [some (19, v0), some (0, v1), some (0, v2), some (0, v3), some (0, v4), some (0, v5)], [(0, v4)], (h, hm, o))) K122_11 rfl ⟨q6, trivial⟩ ?_
        obtain ⟨q7, e⟩ := zG_s e
        refine zF_blk (m := []) (d := 0) (b := B122_10) (gs := [0 ≤ v5 ∧ v5 < 6]) (c' := (49, [some (19, v0), some (0, v1), some (0, v2), some (0, v3), some (0, v4), some (0, v5)], [(0, (h 585 v0 v5)), (0, v4)], (h, hm, o))) K122_10 rfl ⟨q7, trivial⟩ ?_
        refine zF_blk (m := [true, true, true, true, false, true]) (d := 0) (b := []) (gs := []) (c' := (49, [some (19, v0), some (0, v1), some (0, v2), some (0, v3), none, some (0, v5)], [(0, (h 585 v0 v5)), (0, v4)], (h, hm, o))) rfl rfl trivial ?_
        exact T122_3 hd h k0 hk0 (F122_1 k0 h n) hk1 v0 v1 v2 v3 v5 (h 585 v0 v5) v4 _ e
def F122_0 (h : zHC) : Nat → Int → Int → Int → Int → Option Int
  | 0, _, _, _, _ => none
  | n + 1, v0, v1, v2, v3 => if (wshl 1 (h 578 v0 0)) ≤ v3 then some 0 else F122_1 (F122_0 h n) h zFu v0 v1 v2 v3 0 0
set_option maxRecDepth 100000 in
theorem T122_0 {spec : zRn zH2} {hm : zHM} {o : Int → Int} {d : Nat} (hd : 1 ≤ d) (h : zHC) : ∀ (n : Nat) (v0 : Int) (v1 : Int) (v2 : Int) (v3 : Int) (v : Int), F122_0 h n v0 v1 v2 v3 = some v → zFin 0 (fun _ => 0) (zRu2 spec d) 122 (some (0, v)) (h, hm, o) (2, [some (19, v0), some (0, v1), some (0, v2), some (0, v3), none, none], [], (h, hm, o)) := by
  intro n
  induction n with
  | zero => intro v0 v1 v2 v3 v e; unfold F122_0 at e; cases e
  | succ n hk0 =>
    intro v0 v1 v2 v3 v e
    unfold F122_0 at e
    rcases zI_s e with ⟨q1, e⟩ | ⟨q1, e⟩
    · refine zF_blk (m := []) (d := 1) (b := B122_3) (gs := [(wshl 1 (h 578 v0 0)) ≤ v3]) (c' := (80, [some (19, v0), some (0, v1), some (0, v2), some (0, v3), none, none], [], (h, hm, o))) K122_3 rfl ⟨q1, trivial⟩ ?_
      refine zF_blk (m := []) (d := 0) (b := B122_1) (gs := []) (c' := (81, [some (19, v0), some (0, v1), some (0, v2), some (0, v3), none, none], [(0, 0)], (h, hm, o))) K122_1 rfl trivial ?_
      obtain rfl := Option.some.inj e
      exact zF_rb (zRe1_w (by decide +kernel)) (Or.inl rfl)
    · refine zF_blk (m := []) (d := 0) (b := B122_3) (gs := [¬ ((wshl 1 (h 578 v0 0)) ≤ v3)]) (c' := (12, [some (19, v0), some (0, v1), some (0, v2), some (0, v3), none, none], [], (h, hm, o))) K122_3 rfl ⟨q1, trivial⟩ ?_
      refine zF_blk (m := []) (d := 0) (b := B122_2) (gs := []) (c' := (18, [some (19, v0), some (0, v1), some (0, v2), some (0, v3), some (0, 0), some (0, 0)], [], (h, hm, o))) K122_2 rfl trivial ?_
      exact T122_1 hd h (F122_0 h n) hk0 zFu v0 v1 v2 v3 0 0 _ e
/-- EchoVale$Pieces.canTake(LEchoVale$Valley;II)Z -/
def F122 (v0 : Int) (v1 : Int) (v2 : Int) (h : zHC) : Option Int := F122_0 h zFu v0 v1 v2 0
set_option maxRecDepth 100000 in
theorem S122 {spec : zRn zH2} {hm : zHM} {o : Int → Int} {d : Nat} (hd : 2 ≤ d) (v0 : Int) (v1 : Int) (v2 : Int) (h : zHC) (v : Int) (e : F122 v0 v1 v2 h = some v) : zRu2 spec d 122 [(19, v0), (0, v1), (0, v2)] (h, hm, o) (some (0, v)) (h, hm, o) := by
  refine zF_in (D := 1) (mx := 6) (L := [some (19, v0), some (0, v1), some (0, v2), none, none, none]) (by decide +kernel) rfl rfl hd (fun d hd => ?_)
  unfold F122 at e
  refine zF_blk (m := []) (d := 0) (b := B122_0) (gs := []) (c' := (2, [some (19, v0), some (0, v1), some (0, v2), some (0, 0), none, none], [], (h, hm, o))) K122_0 rfl trivial ?_
  exact T122_0 hd h zFu v0 v1 v2 0 _ e
noncomputable def B121_0 : List zRow := [(0, .iconst 0, 1, (0, 0, 0)), (1, .istore_n 3, 1, (0, 0, 0))]
theorem K121_0 : zRk 121 B121_0 = true := zRw_ok (by decide +kernel)
noncomputable def B121_1 : List zRow := [(39, .iconst 1, 1, (0, 0, 0))]
theorem K121_1 : zRk 121 B121_1 = true := zRw_ok (by decide +kernel)
noncomputable def B121_2 : List zRow := [(10, .aload_n 1, 1, (0, 0, 0)), (11, .aload_n 0, 1, (0, 0, 0)), (12, .getfield 15, 3, (4, 3, 5242906)), (15, .iload_n 3, 1, (0, 0, 0)), (16, .iaload, 1, (0, 0, 0)), (17, .aload_n 0, 1, (0, 0, 0)), (18, .getfield 18, 3, (4, 4, 5242906)), (21, .iload_n 3, 1, (0, 0, 0)), (22, .iaload, 1, (0, 0, 0)), (23, .iload_n 2, 1, (0, 0, 0)), (24, .isub, 1, (0, 0, 0))]
theorem K121_2 : zRk 121 B121_2 = true := zRw_ok (by decide +kernel)
noncomputable def B121_3 : List zRow := [(33, .iinc 3 1, 3, (0, 0, 0)), (36, .goto (-34), 3, (0, 0, 0))]
theorem K121_3 : zRk 121 B121_3 = true := zRw_ok (by decide +kernel)
noncomputable def B121_4 : List zRow := [(31, .iconst 0, 1, (0, 0, 0))]
theorem K121_4 : zRk 121 B121_4 = true := zRw_ok (by decide +kernel)
noncomputable def B121_5 : List zRow := [(28, .ifCond .ne 5, 3, (0, 0, 0))]
theorem K121_5 : zRk 121 B121_5 = true := zRw_ok (by decide +kernel)
noncomputable def B121_6 : List zRow := [(2, .iload_n 3, 1, (0, 0, 0)), (3, .aload_n 0, 1, (0, 0, 0)), (4, .getfield 42, 3, (4, 2, 0)), (7, .if_icmp .ge 32, 3, (0, 0, 0))]
theorem K121_6 : zRk 121 B121_6 = true := zRw_ok (by decide +kernel)
def F121_0 (h : zHC) : Nat → Int → Int → Int → Option Int
  | 0, _, _, _ => none
  | n + 1, v1, v2, v3 => if (h 258 0 0) ≤ v3 then some 1 else zG (0 ≤ v3 ∧ v3 < 6) (zG (0 ≤ v3 ∧ v3 < 6) ((F122 v1 (h 259 0 v3) (wsub (h 260 0 v3) v2) h).bind fun r1 => if ¬ r1 = 0 then (F121_0 h n) v1 v2 (wadd v3 1) else some 0))
set_option maxRecDepth 100000 in
theorem T121_0 {spec : zRn zH2} {hm : zHM} {o : Int → Int} {d : Nat} (hd : 2 ≤ d) (h : zHC) : ∀ (n : Nat) (v1 : Int) (v2 : Int) (v3 : Int) (v : Int), F121_0 h n v1 v2 v3 = some v → zFin 0 (fun _ => 0) (zRu2 spec d) 121 (some (0, v)) (h, hm, o) (2, [some (14, 0), some (19, v1), some (0, v2), some (0, v3)], [], (h, hm, o)) := by
  intro n
  induction n with
  | zero => intro v1 v2 v3 v e; unfold F121_0 at e; cases e
  | succ n hk0 =>
    intro v1 v2 v3 v e
    unfold F121_0 at e
    rcases zI_s e with ⟨q1, e⟩ | ⟨q1, e⟩
    · refine zF_blk (m := []) (d := 1) (b := B121_6) (gs := [(h 258 0 0) ≤ v3]) (c' := (39, [some (14, 0), some (19, v1), some (0, v2), some (0, v3)], [], (h, hm, o))) K121_6 rfl ⟨q1, trivial⟩ ?_
      refine zF_blk (m := []) (d := 0) (b := B121_1) (gs := []) (c' := (40, [some (14, 0), some (19, v1), some (0, v2), some (0, v3)], [(0, 1)], (h, hm, o))) K121_1 rfl trivial ?_
      obtain rfl := Option.some.inj e
      exact zF_rb (zRe1_w (by decide +kernel)) (Or.inr rfl)
    · refine zF_blk (m := []) (d := 0) (b := B121_6) (gs := [¬ ((h 258 0 0) ≤ v3)]) (c' := (10, [some (14, 0), some (19, v1), some (0, v2), some (0, v3)], [], (h, hm, o))) K121_6 rfl ⟨q1, trivial⟩ ?_
      obtain ⟨q2, e⟩ := zG_s e
      obtain ⟨q2, e⟩ := zG_s e
      obtain ⟨r1, q3, e⟩ := zB_s e
      refine zF_blk (m := []) (d := 0) (b := B121_2) (gs := [0 ≤ v3 ∧ v3 < 6, 0 ≤ v3 ∧ v3 < 6]) (c' := (25, [some (14, 0), some (19, v1), some (0, v2), some (0, v3)], [(0, (wsub (h 260 0 v3) v2)), (0, (h 259 0 v3)), (19, v1)], (h, hm, o))) K121_2 rfl ⟨q2, q2, trivial⟩ ?_
      refine zF_call (k := 122) (cl := 4) (n := 3) (i := .invokestatic 63) (args := [(19, v1), (0, (h 259 0 v3)), (0, (wsub (h 260 0 v3) v2))]) (rest := []) (g1 := (h, hm, o)) (r1 := some (0, r1)) (zCk1_w (by decide +kernel)) rfl rfl rfl (st' := [(0, r1)]) rfl (S122 (Nat.le_trans (by decide) hd) v1 (h 259 0 v3) (wsub (h 260 0 v3) v2) h _ q3) ?_
      rcases zI_s e with ⟨q4, e⟩ | ⟨q4, e⟩
      · refine zF_blk (m := []) (d := 1) (b := B121_5) (gs := [¬ r1 = 0]) (c' := (33, [some (14, 0), some (19, v1), some (0, v2), some (0, v3)], [], (h, hm, o))) K121_5 rfl ⟨q4, trivial⟩ ?_
        refine zF_blk (m := []) (d := 0) (b := B121_3) (gs := []) (c' := (2, [some (14, 0), some (19, v1), some (0, v2), some (0, (wadd v3 1))], [], (h, hm, o))) K121_3 rfl trivial ?_
        exact hk0 v1 v2 (wadd v3 1) _ e
      · refine zF_blk (m := []) (d := 0) (b := B121_5) (gs := [¬ (¬ r1 = 0)]) (c' := (31, [some (14, 0), some (19, v1), some (0, v2), some (0, v3)], [], (h, hm, o))) K121_5 rfl ⟨q4, trivial⟩ ?_
        refine zF_blk (m := []) (d := 0) (b := B121_4) (gs := []) (c' := (32, [some (14, 0), some (19, v1), some (0, v2), some (0, v3)], [(0, 0)], (h, hm, o))) K121_4 rfl trivial ?_
        obtain rfl := Option.some.inj e
        exact zF_rb (zRe1_w (by decide +kernel)) (Or.inl rfl)
/-- EchoVale$Pieces.canBegin(LEchoVale$Valley;I)Z -/
def F121 (v1 : Int) (v2 : Int) (h : zHC) : Option Int := F121_0 h zFu v1 v2 0
set_option maxRecDepth 100000 in
theorem S121 {spec : zRn zH2} {hm : zHM} {o : Int → Int} {d : Nat} (hd : 3 ≤ d) (v1 : Int) (v2 : Int) (h : zHC) (v : Int) (e : F121 v1 v2 h = some v) : zRu2 spec d 121 [(14, 0), (19, v1), (0, v2)] (h, hm, o) (some (0, v)) (h, hm, o) := by
  refine zF_in (D := 2) (mx := 4) (L := [some (14, 0), some (19, v1), some (0, v2), none]) (by decide +kernel) rfl rfl hd (fun d hd => ?_)
  unfold F121 at e
  refine zF_blk (m := []) (d := 0) (b := B121_0) (gs := []) (c' := (2, [some (14, 0), some (19, v1), some (0, v2), some (0, 0)], [], (h, hm, o))) K121_0 rfl trivial ?_
  exact T121_0 hd h zFu v1 v2 0 _ e
noncomputable def B125_0 : List zRow := [(15, .iconst 0, 1, (0, 0, 0))]
theorem K125_0 : zRk 125 B125_0 = true := zRw_ok (by decide +kernel)
noncomputable def B125_1 : List zRow := [(11, .iconst 1, 1, (0, 0, 0)), (12, .goto 4, 3, (0, 0, 0))]
theorem K125_1 : zRk 125 B125_1 = true := zRw_ok (by decide +kernel)
noncomputable def B125_2 : List zRow := [(0, .aload_n 0, 1, (0, 0, 0)), (1, .getfield 27, 3, (1, 8, 5243002)), (4, .iload_n 1, 1, (0, 0, 0)), (5, .iaload, 1, (0, 0, 0)), (6, .ldc 87, 2, (0, 0, 1000000)), (8, .if_icmp .eq 7, 3, (0, 0, 0))]
theorem K125_2 : zRk 125 B125_2 = true := zRw_ok (by decide +kernel)
/-- EchoVale$Course.isPending(I)Z -/
def F125 (v0 : Int) (v1 : Int) (h : zHC) : Option Int := zG (0 ≤ v1 ∧ v1 < 30) (if (h 72 v0 v1) = 1000000 then some 0 else some 1)
set_option maxRecDepth 100000 in
theorem S125 {spec : zRn zH2} {hm : zHM} {o : Int → Int} {d : Nat} (hd : 1 ≤ d) (v0 : Int) (v1 : Int) (h : zHC) (v : Int) (e : F125 v0 v1 h = some v) : zRu2 spec d 125 [(11, v0), (0, v1)] (h, hm, o) (some (0, v)) (h, hm, o) := by
  refine zF_in (D := 0) (mx := 2) (L := [some (11, v0), some (0, v1)]) (by decide +kernel) rfl rfl hd (fun d hd => ?_)
  unfold F125 at e
  obtain ⟨q1, e⟩ := zG_s e
  rcases zI_s e with ⟨q2, e⟩ | ⟨q2, e⟩
  · refine zF_blk (m := []) (d := 1) (b := B125_2) (gs := [0 ≤ v1 ∧ v1 < 30, (h 72 v0 v1) = 1000000]) (c' := (15, [some (11, v0), some (0, v1)], [], (h, hm, o))) K125_2 rfl ⟨q1, q2, trivial⟩ ?_
    refine zF_blk (m := []) (d := 0) (b := B125_0) (gs := []) (c' := (16, [some (11, v0), some (0, v1)], [(0, 0)], (h, hm, o))) K125_0 rfl trivial ?_
    obtain rfl := Option.some.inj e
    exact zF_rb (zRe1_w (by decide +kernel)) (Or.inl rfl)
  · refine zF_blk (m := []) (d := 0) (b := B125_2) (gs := [0 ≤ v1 ∧ v1 < 30, ¬ ((h 72 v0 v1) = 1000000)]) (c' := (11, [some (11, v0), some (0, v1)], [], (h, hm, o))) K125_2 rfl ⟨q1, q2, trivial⟩ ?_
    refine zF_blk (m := []) (d := 0) (b := B125_1) (gs := []) (c' := (16, [some (11, v0), some (0, v1)], [(0, 1)], (h, hm, o))) K125_1 rfl trivial ?_
    obtain rfl := Option.some.inj e
    exact zF_rb (zRe1_w (by decide +kernel)) (Or.inr rfl)
noncomputable def B124_0 : List zRow := [(0, .aload_n 0, 1, (0, 0, 0)), (1, .iload_n 2, 1, (0, 0, 0))]
theorem K124_0 : zRk 124 B124_0 = true := zRw_ok (by decide +kernel)
noncomputable def B124_1 : List zRow := [(10, .aload_n 0, 1, (0, 0, 0)), (11, .aload_n 0, 1, (0, 0, 0)), (12, .getfield 27, 3, (1, 8, 5243002)), (15, .iload_n 2, 1, (0, 0, 0)), (16, .iaload, 1, (0, 0, 0)), (17, .putfield 30, 3, (1, 0, 0)), (20, .aload_n 0, 1, (0, 0, 0)), (21, .aload_n 1, 1, (0, 0, 0)), (22, .iload_n 2, 1, (0, 0, 0)), (23, .iconst 0, 1, (0, 0, 0))]
theorem K124_1 : zRk 124 B124_1 = true := zRw_ok (by decide +kernel)
noncomputable def B124_2 : List zRow := [(27, .iconst 1, 1, (0, 0, 0))]
theorem K124_2 : zRk 124 B124_2 = true := zRw_ok (by decide +kernel)
noncomputable def B124_3 : List zRow := [(8, .iconst 0, 1, (0, 0, 0))]
theorem K124_3 : zRk 124 B124_3 = true := zRw_ok (by decide +kernel)
noncomputable def B124_4 : List zRow := [(5, .ifCond .ne 5, 3, (0, 0, 0))]
theorem K124_4 : zRk 124 B124_4 = true := zRw_ok (by decide +kernel)
/-- EchoVale$Course.leap(LEchoVale$Valley;I)Z -/
def F124 (v0 : Int) (v1 : Int) (v2 : Int) (h : zHC) : Option (Int × zHC) := (F125 v0 v2 h).bind fun r1 => if ¬ r1 = 0 then zG (0 ≤ v2 ∧ v2 < 30) ((F90 v0 v1 v2 0 (hset h 64 v0 0 (h 72 v0 v2))).bind fun r2 => some (1, r2)) else some (0, h)
set_option maxRecDepth 100000 in
theorem S124 {spec : zRn zH2} {hm : zHM} {o : Int → Int} {d : Nat} (hd : 5 ≤ d) (v0 : Int) (v1 : Int) (v2 : Int) (h : zHC) (v : (Int × zHC)) (e : F124 v0 v1 v2 h = some v) : zRu2 spec d 124 [(11, v0), (19, v1), (0, v2)] (h, hm, o) (some (0, v.1)) (v.2, hm, o) := by
  refine zF_in (D := 4) (mx := 3) (L := [some (11, v0), some (19, v1), some (0, v2)]) (by decide +kernel) rfl rfl hd (fun d hd => ?_)
  unfold F124 at e
  obtain ⟨r1, q1, e⟩ := zB_s e
  refine zF_blk (m := []) (d := 0) (b := B124_0) (gs := []) (c' := (2, [some (11, v0), some (19, v1), some (0, v2)], [(0, v2), (11, v0)], (h, hm, o))) K124_0 rfl trivial ?_
  refine zF_call (k := 125) (cl := 1) (n := 2) (i := .invokevirtual 108) (args := [(11, v0), (0, v2)]) (rest := []) (g1 := (h, hm, o)) (r1 := some (0, r1)) (zCk1_w (by decide +kernel)) rfl rfl rfl (st' := [(0, r1)]) rfl (S125 (Nat.le_trans (by decide) hd) v0 v2 h _ q1) ?_
  rcases zI_s e with ⟨q2, e⟩ | ⟨q2, e⟩
  · refine zF_blk (m := []) (d := 1) (b := B124_4) (gs := [¬ r1 = 0]) (c' := (10, [some (11, v0), some (19, v1), some (0, v2)], [], (h, hm, o))) K124_4 rfl ⟨q2, trivial⟩ ?_
    obtain ⟨q3, e⟩ := zG_s e
    obtain ⟨r2, q4, e⟩ := zB_s e
    refine zF_blk (m := []) (d := 0) (b := B124_1) (gs := [0 ≤ v2 ∧ v2 < 30]) (c' := (24, [some (11, v0), some (19, v1), some (0, v2)], [(0, 0), (0, v2), (19, v1), (11, v0)], ((hset h 64 v0 0 (h 72 v0 v2)), hm, o))) K124_1 rfl ⟨q3, trivial⟩ ?_
    refine zF_call (k := 90) (cl := 1) (n := 4) (i := .invokevirtual 104) (args := [(11, v0), (19, v1), (0, v2), (0, 0)]) (rest := []) (g1 := (r2, hm, o)) (r1 := none) (zCk1_w (by decide +kernel)) rfl rfl rfl (st' := []) rfl (S90 (Nat.le_trans (by decide) hd) v0 v1 v2 0 (hset h 64 v0 0 (h 72 v0 v2)) _ q4) ?_
    refine zF_blk (m := []) (d := 0) (b := B124_2) (gs := []) (c' := (28, [some (11, v0), some (19, v1), some (0, v2)], [(0, 1)], (r2, hm, o))) K124_2 rfl trivial ?_
    exact zF_rbC (zRe1_w (by decide +kernel)) (Or.inr rfl) e
  · refine zF_blk (m := []) (d := 0) (b := B124_4) (gs := [¬ (¬ r1 = 0)]) (c' := (8, [some (11, v0), some (19, v1), some (0, v2)], [], (h, hm, o))) K124_4 rfl ⟨q2, trivial⟩ ?_
    refine zF_blk (m := []) (d := 0) (b := B124_3) (gs := []) (c' := (9, [some (11, v0), some (19, v1), some (0, v2)], [(0, 0)], (h, hm, o))) K124_3 rfl trivial ?_
    exact zF_rbC (zRe1_w (by decide +kernel)) (Or.inl rfl) e
noncomputable def B126_0 : List zRow := [(0, .iconst 0, 1, (0, 0, 0)), (1, .istore_n 3, 1, (0, 0, 0))]
theorem K126_0 : zRk 126 B126_0 = true := zRw_ok (by decide +kernel)
noncomputable def B126_1 : List zRow := [(63, .iconst 0, 1, (0, 0, 0))]
theorem K126_1 : zRk 126 B126_1 = true := zRw_ok (by decide +kernel)
noncomputable def B126_2 : List zRow := [(10, .aload_n 1, 1, (0, 0, 0)), (11, .iload_n 3, 1, (0, 0, 0)), (12, .iconst 1, 1, (0, 0, 0))]
theorem K126_2 : zRk 126 B126_2 = true := zRw_ok (by decide +kernel)
noncomputable def B126_3 : List zRow := [(25, .aload_n 1, 1, (0, 0, 0)), (26, .iload_n 3, 1, (0, 0, 0)), (27, .iconst 2, 1, (0, 0, 0))]
theorem K126_3 : zRk 126 B126_3 = true := zRw_ok (by decide +kernel)
noncomputable def B126_4 : List zRow := [(40, .aload_n 1, 1, (0, 0, 0)), (41, .iload_n 3, 1, (0, 0, 0)), (42, .iconst 3, 1, (0, 0, 0))]
theorem K126_4 : zRk 126 B126_4 = true := zRw_ok (by decide +kernel)
noncomputable def B126_5 : List zRow := [(55, .iconst 1, 1, (0, 0, 0))]
theorem K126_5 : zRk 126 B126_5 = true := zRw_ok (by decide +kernel)
noncomputable def B126_6 : List zRow := [(46, .aload_n 0, 1, (0, 0, 0)), (47, .getfield 21, 3, (4, 5, 5242906)), (50, .iload_n 2, 1, (0, 0, 0)), (51, .iaload, 1, (0, 0, 0)), (52, .if_icmp .ne 5, 3, (0, 0, 0))]
theorem K126_6 : zRk 126 B126_6 = true := zRw_ok (by decide +kernel)
noncomputable def B126_7 : List zRow := [(31, .aload_n 0, 1, (0, 0, 0)), (32, .getfield 18, 3, (4, 4, 5242906)), (35, .iload_n 2, 1, (0, 0, 0)), (36, .iaload, 1, (0, 0, 0)), (37, .if_icmp .ne 20, 3, (0, 0, 0))]
theorem K126_7 : zRk 126 B126_7 = true := zRw_ok (by decide +kernel)
noncomputable def B126_8 : List zRow := [(16, .aload_n 0, 1, (0, 0, 0)), (17, .getfield 15, 3, (4, 3, 5242906)), (20, .iload_n 2, 1, (0, 0, 0)), (21, .iaload, 1, (0, 0, 0)), (22, .if_icmp .ne 35, 3, (0, 0, 0))]
theorem K126_8 : zRk 126 B126_8 = true := zRw_ok (by decide +kernel)
noncomputable def B126_9 : List zRow := [(2, .iload_n 3, 1, (0, 0, 0)), (3, .aload_n 1, 1, (0, 0, 0)), (4, .getfield 81, 3, (1, 2, 0)), (7, .if_icmp .ge 56, 3, (0, 0, 0))]
theorem K126_9 : zRk 126 B126_9 = true := zRw_ok (by decide +kernel)
noncomputable def B126_10 : List zRow := [(57, .iinc 3 1, 3, (0, 0, 0)), (60, .goto (-58), 3, (0, 0, 0))]
theorem K126_10 : zRk 126 B126_10 = true := zRw_ok (by decide +kernel)
def F126_1 (k0 : Int → Int → Int → Option Int) (h : zHC) (v1 : Int) (v2 : Int) (v3 : Int) : Option Int := k0 v1 v2 (wadd v3 1)
set_option maxRecDepth 100000 in
theorem T126_1 {spec : zRn zH2} {hm : zHM} {o : Int → Int} {d : Nat} (hd : 1 ≤ d) (h : zHC) (k0 : Int → Int → Int → Option Int) (hk0 : ∀ (v1 : Int) (v2 : Int) (v3 : Int) (v : Int), k0 v1 v2 v3 = some v → zFin 0 (fun _ => 0) (zRu2 spec d) 126 (some (0, v)) (h, hm, o) (2, [some (14, 0), some (11, v1), some (0, v2), some (0, v3)], [], (h, hm, o))) (v1 : Int) (v2 : Int) (v3 : Int) (v : Int) (e : F126_1 k0 h v1 v2 v3 = some v) : zFin 0 (fun _ => 0) (zRu2 spec d) 126 (some (0, v)) (h, hm, o) (57, [some (14, 0), some (11, v1), some (0, v2), some (0, v3)], [], (h, hm, o)) := by
  unfold F126_1 at e
  refine zF_blk (m := []) (d := 0) (b := B126_10) (gs := []) (c' := (2, [some (14, 0), some (11, v1), some (0, v2), some (0, (wadd v3 1))], [], (h, hm, o))) K126_10 rfl trivial ?_
  exact hk0 v1 v2 (wadd v3 1) _ e
def F126_0 (h : zHC) : Nat → Int → Int → Int → Option Int
  | 0, _, _, _ => none
  | n + 1, v1, v2, v3 => if (h 66 v1 0) ≤ v3 then some 0 else (F67 v1 v3 1 h).bind fun r1 => zG (0 ≤ v2 ∧ v2 < 6) (if ¬ r1 = (h 259 0 v2) then F126_1 (F126_0 h n) h v1 v2 v3 else (F67 v1 v3 2 h).bind fun r2 => zG (0 ≤ v2 ∧ v2 < 6) (if ¬ r2 = (h 260 0 v2) then F126_1 (F126_0 h n) h v1 v2 v3 else (F67 v1 v3 3 h).bind fun r3 => zG (0 ≤ v2 ∧ v2 < 6) (if ¬ r3 = (h 261 0 v2) then F126_1 (F126_0 h n) h v1 v2 v3 else some 1)))
set_option maxRecDepth 100000 in
theorem T126_0 {spec : zRn zH2} {hm : zHM} {o : Int → Int} {d : Nat} (hd : 1 ≤ d) (h : zHC) : ∀ (n : Nat) (v1 : Int) (v2 : Int) (v3 : Int) (v : Int), F126_0 h n v1 v2 v3 = some v → zFin 0 (fun _ => 0) (zRu2 spec d) 126 (some (0, v)) (h, hm, o) (2, [some (14, 0), some (11, v1), some (0, v2), some (0, v3)], [], (h, hm, o)) := by
  intro n
  induction n with
  | zero => intro v1 v2 v3 v e; unfold F126_0 at e; cases e
  | succ n hk0 =>
    intro v1 v2 v3 v e
    unfold F126_0 at e
    rcases zI_s e with ⟨q1, e⟩ | ⟨q1, e⟩
    · refine zF_blk (m := []) (d := 1) (b := B126_9) (gs := [(h 66 v1 0) ≤ v3]) (c' := (63, [some (14, 0), some (11, v1), some (0, v2), some (0, v3)], [], (h, hm, o))) K126_9 rfl ⟨q1, trivial⟩ ?_
      refine zF_blk (m := []) (d := 0) (b := B126_1) (gs := []) (c' := (64, [some (14, 0), some (11, v1), some (0, v2), some (0, v3)], [(0, 0)], (h, hm, o))) K126_1 rfl trivial ?_
      obtain rfl := Option.some.inj e
      exact zF_rb (zRe1_w (by decide +kernel)) (Or.inl rfl)
    · refine zF_blk (m := []) (d := 0) (b := B126_9) (gs := [¬ ((h 66 v1 0) ≤ v3)]) (c' := (10, [some (14, 0), some (11, v1), some (0, v2), some (0, v3)], [], (h, hm, o))) K126_9 rfl ⟨q1, trivial⟩ ?_
      obtain ⟨r1, q2, e⟩ := zB_s e
      refine zF_blk (m := []) (d := 0) (b := B126_2) (gs := []) (c' := (13, [some (14, 0), some (11, v1), some (0, v2), some (0, v3)], [(0, 1), (0, v3), (11, v1)], (h, hm, o))) K126_2 rfl trivial ?_
      refine zF_call (k := 67) (cl := 1) (n := 3) (i := .invokevirtual 95) (args := [(11, v1), (0, v3), (0, 1)]) (rest := []) (g1 := (h, hm, o)) (r1 := some (0, r1)) (zCk1_w (by decide +kernel)) rfl rfl rfl (st' := [(0, r1)]) rfl (S67 (Nat.le_trans (by decide) hd) v1 v3 1 h _ q2) ?_
      obtain ⟨q3, e⟩ := zG_s e
      rcases zI_s e with ⟨q4, e⟩ | ⟨q4, e⟩
      · refine zF_blk (m := []) (d := 1) (b := B126_8) (gs := [0 ≤ v2 ∧ v2 < 6, ¬ r1 = (h 259 0 v2)]) (c' := (57, [some (14, 0), some (11, v1), some (0, v2), some (0, v3)], [], (h, hm, o))) K126_8 rfl ⟨q3, q4, trivial⟩ ?_
        exact T126_1 hd h (F126_0 h n) hk0 v1 v2 v3 _ e
      · refine zF_blk (m := []) (d := 0) (b := B126_8) (gs := [0 ≤ v2 ∧ v2 < 6, ¬ (¬ r1 = (h 259 0 v2))]) (c' := (25, [some (14, 0), some (11, v1), some (0, v2), some (0, v3)], [], (h, hm, o))) K126_8 rfl ⟨q3, q4, trivial⟩ ?_
        obtain ⟨r2, q5, e⟩ := zB_s e
        refine zF_blk (m := []) (d := 0) (b := B126_3) (gs := []) (c' := (28, [some (14, 0), some (11, v1), some (0, v2), some (0, v3)], [(0, 2), (0, v3), (11, v1)], (h, hm, o))) K126_3 rfl trivial ?_
        refine zF_call (k := 67) (cl := 1) (n := 3) (i := .invokevirtual 95) (args := [(11, v1), (0, v3), (0, 2)]) (rest := []) (g1 := (h, hm, o)) (r1 := some (0, r2)) (zCk1_w (by decide +kernel)) rfl rfl rfl (st' := [(0, r2)]) rfl (S67 (Nat.le_trans (by decide) hd) v1 v3 2 h _ q5) ?_
        obtain ⟨q6, e⟩ := zG_s e
        rcases zI_s e with ⟨q7, e⟩ | ⟨q7, e⟩
        · refine zF_blk (m := []) (d := 1) (b := B126_7) (gs := [0 ≤ v2 ∧ v2 < 6, ¬ r2 = (h 260 0 v2)]) (c' := (57, [some (14, 0), some (11, v1), some (0, v2), some (0, v3)], [], (h, hm, o))) K126_7 rfl ⟨q6, q7, trivial⟩ ?_
          exact T126_1 hd h (F126_0 h n) hk0 v1 v2 v3 _ e
        · refine zF_blk (m := []) (d := 0) (b := B126_7) (gs := [0 ≤ v2 ∧ v2 < 6, ¬ (¬ r2 = (h 260 0 v2))]) (c' := (40, [some (14, 0), some (11, v1), some (0, v2), some (0, v3)], [], (h, hm, o))) K126_7 rfl ⟨q6, q7, trivial⟩ ?_
          obtain ⟨r3, q8, e⟩ := zB_s e
          refine zF_blk (m := []) (d := 0) (b := B126_4) (gs := []) (c' := (43, [some (14, 0), some (11, v1), some (0, v2), some (0, v3)], [(0, 3), (0, v3), (11, v1)], (h, hm, o))) K126_4 rfl trivial ?_
          refine zF_call (k := 67) (cl := 1) (n := 3) (i := .invokevirtual 95) (args := [(11, v1), (0, v3), (0, 3)]) (rest := []) (g1 := (h, hm, o)) (r1 := some (0, r3)) (zCk1_w (by decide +kernel)) rfl rfl rfl (st' := [(0, r3)]) rfl (S67 (Nat.le_trans (by decide) hd) v1 v3 3 h _ q8) ?_
          obtain ⟨q9, e⟩ := zG_s e
          rcases zI_s e with ⟨q10, e⟩ | ⟨q10, e⟩
          · refine zF_blk (m := []) (d := 1) (b := B126_6) (gs := [0 ≤ v2 ∧ v2 < 6, ¬ r3 = (h 261 0 v2)]) (c' := (57, [some (14, 0), some (11, v1), some (0, v2), some (0, v3)], [], (h, hm, o))) K126_6 rfl ⟨q9, q10, trivial⟩ ?_
            exact T126_1 hd h (F126_0 h n) hk0 v1 v2 v3 _ e
          · refine zF_blk (m := []) (d := 0) (b := B126_6) (gs := [0 ≤ v2 ∧ v2 < 6, ¬ (¬ r3 = (h 261 0 v2))]) (c' := (55, [some (14, 0), some (11, v1), some (0, v2), some (0, v3)], [], (h, hm, o))) K126_6 rfl ⟨q9, q10, trivial⟩ ?_
            refine zF_blk (m := []) (d := 0) (b := B126_5) (gs := []) (c' := (56, [some (14, 0), some (11, v1), some (0, v2), some (0, v3)], [(0, 1)], (h, hm, o))) K126_5 rfl trivial ?_
            obtain rfl := Option.some.inj e
            exact zF_rb (zRe1_w (by decide +kernel)) (Or.inr rfl)
/-- EchoVale$Pieces.isLogged(LEchoVale$Course;I)Z -/
def F126 (v1 : Int) (v2 : Int) (h : zHC) : Option Int := F126_0 h zFu v1 v2 0
set_option maxRecDepth 100000 in
theorem S126 {spec : zRn zH2} {hm : zHM} {o : Int → Int} {d : Nat} (hd : 2 ≤ d) (v1 : Int) (v2 : Int) (h : zHC) (v : Int) (e : F126 v1 v2 h = some v) : zRu2 spec d 126 [(14, 0), (11, v1), (0, v2)] (h, hm, o) (some (0, v)) (h, hm, o) := by
  refine zF_in (D := 1) (mx := 4) (L := [some (14, 0), some (11, v1), some (0, v2), none]) (by decide +kernel) rfl rfl hd (fun d hd => ?_)
  unfold F126 at e
  refine zF_blk (m := []) (d := 0) (b := B126_0) (gs := []) (c' := (2, [some (14, 0), some (11, v1), some (0, v2), some (0, 0)], [], (h, hm, o))) K126_0 rfl trivial ?_
  exact T126_0 hd h zFu v1 v2 0 _ e
