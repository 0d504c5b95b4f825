/-! Functions of the methods, by wip/gen/lift.py. -/
def B129_0 : List zRow := [(0, .aload_n 0, 1, (0, 0, 0)), (1, .getfield 35, 3, (11, 3, 3)), (4, .aload_n 0, 1, (0, 0, 0)), (5, .getfield 19, 3, (11, 1, 39)), (8, .aload_n 0, 1, (0, 0, 0)), (9, .getfield 56, 3, (11, 6, 7))]
theorem K129_0 : zRk 129 B129_0 = true := by decide +kernel
def B129_1 : List zRow := [(38, .bipush (-2), 2, (0, 0, 0)), (40, .aload_n 0, 1, (0, 0, 0)), (41, .getfield 12, 3, (11, 0, 23)), (44, .getfield 116, 3, (5, 3, 0))]
theorem K129_1 : zRk 129 B129_1 = true := by decide +kernel
def B129_2 : List zRow := [(47, .isub, 1, (0, 0, 0))]
theorem K129_2 : zRk 129 B129_2 = true := by decide +kernel
def B129_3 : List zRow := [(28, .aload_n 0, 1, (0, 0, 0)), (29, .getfield 35, 3, (11, 3, 3)), (32, .getfield 308, 3, (0, 0, 0)), (35, .goto 13, 3, (0, 0, 0))]
theorem K129_3 : zRk 129 B129_3 = true := by decide +kernel
def B129_4 : List zRow := [(15, .istore_n 1, 1, (0, 0, 0)), (16, .aload_n 0, 1, (0, 0, 0)), (17, .getfield 12, 3, (11, 0, 23)), (20, .iconst 0, 1, (0, 0, 0)), (21, .putfield 105, 3, (5, 1, 0)), (24, .iload_n 1, 1, (0, 0, 0)), (25, .ifCond .eq 13, 3, (0, 0, 0))]
theorem K129_4 : zRk 129 B129_4 = true := by decide +kernel
/-- EchoVale.claims()I -/
def F129 (h : zHC) : Option (Int × zHC) := (F130 0 0 h).bind fun r1 => if r1.1 = 0 then some ((wsub (-2) (r1.2 323 0 0)), (hset r1.2 321 0 0 0)) else some ((r1.2 0 0 0), (hset r1.2 321 0 0 0))
set_option maxRecDepth 100000 in
theorem S129 {spec : zRn zH2} {hm : zHM} {o : Int → Int} {d : Nat} (hd : 7 ≤ d) (h : zHC) (v : (Int × zHC)) (e : F129 h = some v) : zRu2 spec d 129 [(21, 0)] (h, hm, o) (some (0, v.1)) (v.2, hm, o) := by
  refine zF_in (D := 6) (mx := 2) (L := [some (21, 0), none]) (by decide +kernel) rfl rfl hd (fun d hd => ?_)
  unfold F129 at e
  obtain ⟨r1, q1, e⟩ := zB_s e
  refine zF_blk (m := []) (d := 0) (b := B129_0) (gs := []) (c' := (12, [some (21, 0), none], [(11, 0), (19, 0), (10, 0)], (h, hm, o))) K129_0 rfl trivial ?_
  refine zF_call (k := 130) (cl := 0) (n := 3) (i := .invokevirtual 305) (args := [(10, 0), (19, 0), (11, 0)]) (rest := []) (g1 := (r1.2, hm, o)) (r1 := some (0, r1.1)) (by decide +kernel) rfl rfl rfl (st' := [(0, r1.1)]) rfl (S130 (Nat.le_trans (by decide) hd) 0 0 h _ q1) ?_
  rcases zI_s e with ⟨q2, e⟩ | ⟨q2, e⟩
  · refine zF_blk (m := []) (d := 1) (b := B129_4) (gs := [r1.1 = 0]) (c' := (38, [some (21, 0), some (0, r1.1)], [], ((hset r1.2 321 0 0 0), hm, o))) K129_4 rfl ⟨q2, trivial⟩ ?_
    refine zF_blk (m := []) (d := 0) (b := B129_1) (gs := []) (c' := (47, [some (21, 0), some (0, r1.1)], [(0, (r1.2 323 0 0)), (0, (-2))], ((hset r1.2 321 0 0 0), hm, o))) K129_1 rfl trivial ?_
    refine zF_blk (m := []) (d := 0) (b := B129_2) (gs := []) (c' := (48, [some (21, 0), some (0, r1.1)], [(0, (wsub (-2) (r1.2 323 0 0)))], ((hset r1.2 321 0 0 0), hm, o))) K129_2 rfl trivial ?_
    exact zF_riC (by decide +kernel) e
  · refine zF_blk (m := []) (d := 0) (b := B129_4) (gs := [¬ (r1.1 = 0)]) (c' := (28, [some (21, 0), some (0, r1.1)], [], ((hset r1.2 321 0 0 0), hm, o))) K129_4 rfl ⟨q2, trivial⟩ ?_
    refine zF_blk (m := []) (d := 0) (b := B129_3) (gs := []) (c' := (48, [some (21, 0), some (0, r1.1)], [(0, (r1.2 0 0 0))], ((hset r1.2 321 0 0 0), hm, o))) K129_3 rfl trivial ?_
    exact zF_riC (by decide +kernel) e
def B192b_0 : List zRow := [(0, .iconst 0, 1, (0, 0, 0)), (1, .istore 5, 2, (0, 0, 0))]
theorem K192b_0 : zRk 192 B192b_0 = true := by decide +kernel
def B192b_1 : List zRow := [(29, .iconst (-1), 1, (0, 0, 0))]
theorem K192b_1 : zRk 192 B192b_1 = true := by decide +kernel
def B192b_2 : List zRow := [(23, .iinc 5 1, 3, (0, 0, 0)), (26, .goto (-23), 3, (0, 0, 0))]
theorem K192b_2 : zRk 192 B192b_2 = true := by decide +kernel
def B192b_3 : List zRow := [(20, .iload 5, 2, (0, 0, 0))]
theorem K192b_3 : zRk 192 B192b_3 = true := by decide +kernel
def B192b_4 : List zRow := [(9, .aload_n 0, 1, (0, 0, 0)), (10, .iload_n 1, 1, (0, 0, 0)), (11, .iload 5, 2, (0, 0, 0)), (13, .iadd, 1, (0, 0, 0)), (14, .laload, 1, (0, 0, 0)), (15, .lload_n 3, 1, (0, 0, 0)), (16, .lcmp, 1, (0, 0, 0)), (17, .ifCond .ne 6, 3, (0, 0, 0))]
theorem K192b_4 : zRk 192 B192b_4 = true := by decide +kernel
def B192b_5 : List zRow := [(3, .iload 5, 2, (0, 0, 0)), (5, .iload_n 2, 1, (0, 0, 0)), (6, .if_icmp .ge 23, 3, (0, 0, 0))]
theorem K192b_5 : zRk 192 B192b_5 = true := by decide +kernel
def F192b_0 (h : zHM) : Nat → Int → Int → Int → Int → Option Int
  | 0, _, _, _, _ => none
  | n + 1, v1, v2, v3, v5 => if v2 ≤ v5 then some (-1) else zG (0 ≤ (wadd v1 v5) ∧ (wadd v1 v5) < 12) (if ¬ (qcmp (h 19 (wadd v1 v5)) v3) = 0 then (F192b_0 h n) v1 v2 v3 (wadd v5 1) else some v5)
set_option maxRecDepth 100000 in
theorem T192b_0 {spec : zRn zH2} {hc : zHC} {o : Int → Int} {d : Nat} (hd : 0 ≤ d) (h : zHM) : ∀ (n : Nat) (v1 : Int) (v2 : Int) (v3 : Int) (v5 : Int) (v : Int), F192b_0 h n v1 v2 v3 v5 = some v → zFin 0 (fun _ => 0) (zRu2 spec d) 192 (some (0, v)) (hc, h, o) (3, [some (1409300219, 0), some (0, v1), some (0, v2), some (1, v3), none, some (0, v5)], [], (hc, h, o)) := by
  intro n
  induction n with
  | zero => intro v1 v2 v3 v5 v e; unfold F192b_0 at e; cases e
  | succ n hk0 =>
    intro v1 v2 v3 v5 v e
    unfold F192b_0 at e
    rcases zI_s e with ⟨q1, e⟩ | ⟨q1, e⟩
    · refine zF_blk (m := []) (d := 1) (b := B192b_5) (gs := [v2 ≤ v5]) (c' := (29, [some (1409300219, 0), some (0, v1), some (0, v2), some (1, v3), none, some (0, v5)], [], (hc, h, o))) K192b_5 rfl ⟨q1, trivial⟩ ?_
      refine zF_blk (m := []) (d := 0) (b := B192b_1) (gs := []) (c' := (30, [some (1409300219, 0), some (0, v1), some (0, v2), some (1, v3), none, some (0, v5)], [(0, (-1))], (hc, h, o))) K192b_1 rfl trivial ?_
      obtain rfl := Option.some.inj e
      exact zF_ri (by decide +kernel)
    · refine zF_blk (m := []) (d := 0) (b := B192b_5) (gs := [¬ (v2 ≤ v5)]) (c' := (9, [some (1409300219, 0), some (0, v1), some (0, v2), some (1, v3), none, some (0, v5)], [], (hc, h, o))) K192b_5 rfl ⟨q1, trivial⟩ ?_
      obtain ⟨q2, e⟩ := zG_s e
      rcases zI_s e with ⟨q3, e⟩ | ⟨q3, e⟩
      · refine zF_blk (m := []) (d := 1) (b := B192b_4) (gs := [0 ≤ (wadd v1 v5) ∧ (wadd v1 v5) < 12, ¬ (qcmp (h 19 (wadd v1 v5)) v3) = 0]) (c' := (23, [some (1409300219, 0), some (0, v1), some (0, v2), some (1, v3), none, some (0, v5)], [], (hc, h, o))) K192b_4 rfl ⟨q2, q3, trivial⟩ ?_
        refine zF_blk (m := []) (d := 0) (b := B192b_2) (gs := []) (c' := (3, [some (1409300219, 0), some (0, v1), some (0, v2), some (1, v3), none, some (0, (wadd v5 1))], [], (hc, h, o))) K192b_2 rfl trivial ?_
        exact hk0 v1 v2 v3 (wadd v5 1) _ e
      · refine zF_blk (m := []) (d := 0) (b := B192b_4) (gs := [0 ≤ (wadd v1 v5) ∧ (wadd v1 v5) < 12, ¬ (¬ (qcmp (h 19 (wadd v1 v5)) v3) = 0)]) (c' := (20, [some (1409300219, 0), some (0, v1), some (0, v2), some (1, v3), none, some (0, v5)], [], (hc, h, o))) K192b_4 rfl ⟨q2, q3, trivial⟩ ?_
        refine zF_blk (m := []) (d := 0) (b := B192b_3) (gs := []) (c' := (22, [some (1409300219, 0), some (0, v1), some (0, v2), some (1, v3), none, some (0, v5)], [(0, v5)], (hc, h, o))) K192b_3 rfl trivial ?_
        obtain rfl := Option.some.inj e
        exact zF_ri (by decide +kernel)
/-- EchoValeModel.findIn([JIIJ)I -/
def F192b (v1 : Int) (v2 : Int) (v3 : Int) (h : zHM) : Option Int := F192b_0 h zFu v1 v2 v3 0
set_option maxRecDepth 100000 in
theorem S192b {spec : zRn zH2} {hc : zHC} {o : Int → Int} {d : Nat} (hd : 1 ≤ d) (v1 : Int) (v2 : Int) (v3 : Int) (h : zHM) (v : Int) (e : F192b v1 v2 v3 h = some v) : zRu2 spec d 192 [(1409300219, 0), (0, v1), (0, v2), (1, v3)] (hc, h, o) (some (0, v)) (hc, h, o) := by
  refine zF_in (D := 0) (mx := 6) (L := [some (1409300219, 0), some (0, v1), some (0, v2), some (1, v3), none, none]) (by decide +kernel) rfl rfl hd (fun d hd => ?_)
  unfold F192b at e
  refine zF_blk (m := []) (d := 0) (b := B192b_0) (gs := []) (c' := (3, [some (1409300219, 0), some (0, v1), some (0, v2), some (1, v3), none, some (0, 0)], [], (hc, h, o))) K192b_0 rfl trivial ?_
  exact T192b_0 hd h zFu v1 v2 v3 0 _ e
def B269_0 : List zRow := [(0, .aload_n 0, 1, (0, 0, 0)), (1, .bipush 7, 2, (0, 0, 0))]
theorem K269_0 : zRk 269 B269_0 = true := by decide +kernel
def B269_1 : List zRow := [(14, .aload_n 0, 1, (0, 0, 0)), (15, .bipush 8, 2, (0, 0, 0))]
theorem K269_1 : zRk 269 B269_1 = true := by decide +kernel
def B269_2 : List zRow := [(28, .aload_n 0, 1, (0, 0, 0)), (29, .bipush 9, 2, (0, 0, 0))]
theorem K269_2 : zRk 269 B269_2 = true := by decide +kernel
def B269_3 : List zRow := [(42, .iconst (-1), 1, (0, 0, 0))]
theorem K269_3 : zRk 269 B269_3 = true := by decide +kernel
def B269_4 : List zRow := [(37, .bipush 9, 2, (0, 0, 0)), (39, .goto 4, 3, (0, 0, 0))]
theorem K269_4 : zRk 269 B269_4 = true := by decide +kernel
def B269_5 : List zRow := [(34, .ifCond .eq 8, 3, (0, 0, 0))]
theorem K269_5 : zRk 269 B269_5 = true := by decide +kernel
def B269_6 : List zRow := [(23, .bipush 8, 2, (0, 0, 0)), (25, .goto 18, 3, (0, 0, 0))]
theorem K269_6 : zRk 269 B269_6 = true := by decide +kernel
def B269_7 : List zRow := [(20, .ifCond .eq 8, 3, (0, 0, 0))]
theorem K269_7 : zRk 269 B269_7 = true := by decide +kernel
def B269_8 : List zRow := [(9, .bipush 7, 2, (0, 0, 0)), (11, .goto 32, 3, (0, 0, 0))]
theorem K269_8 : zRk 269 B269_8 = true := by decide +kernel
def B269_9 : List zRow := [(6, .ifCond .eq 8, 3, (0, 0, 0))]
theorem K269_9 : zRk 269 B269_9 = true := by decide +kernel
def B269_10 : List zRow := [(70, .aload_n 0, 1, (0, 0, 0))]
theorem K269_10 : zRk 269 B269_10 = true := by decide +kernel
def B269_11 : List zRow := [(74, .aload_n 0, 1, (0, 0, 0))]
theorem K269_11 : zRk 269 B269_11 = true := by decide +kernel
def B269_12 : List zRow := [(87, .aload_n 0, 1, (0, 0, 0)), (88, .getfield 28, 3, (12, 19, 5505074)), (91, .bipush 6, 2, (0, 0, 0)), (93, .aload_n 0, 1, (0, 0, 0)), (94, .getfield 13, 3, (12, 14, 5251442)), (97, .iconst 3, 1, (0, 0, 0)), (98, .iaload, 1, (0, 0, 0)), (99, .aload_n 0, 1, (0, 0, 0)), (100, .getfield 120, 3, (12, 12, 1))]
theorem K269_12 : zRk 269 B269_12 = true := by decide +kernel
def B269_13 : List zRow := [(118, .aload_n 0, 1, (0, 0, 0))]
theorem K269_13 : zRk 269 B269_13 = true := by decide +kernel
def B269_14 : List zRow := [(122, .aload_n 0, 1, (0, 0, 0)), (123, .iconst 0, 1, (0, 0, 0)), (124, .bipush 29, 2, (0, 0, 0))]
theorem K269_14 : zRk 269 B269_14 = true := by decide +kernel
def B269_15 : List zRow := [(134, .aload_n 0, 1, (0, 0, 0)), (135, .getfield 155, 3, (12, 13, 0)), (138, .istore_n 3, 1, (0, 0, 0)), (139, .aload_n 0, 1, (0, 0, 0))]
theorem K269_15 : zRk 269 B269_15 = true := by decide +kernel
def B269_16 : List zRow := [(148, .aload_n 0, 1, (0, 0, 0)), (149, .iload_n 3, 1, (0, 0, 0))]
theorem K269_16 : zRk 269 B269_16 = true := by decide +kernel
def B269_17 : List zRow := [(197, .aload_n 0, 1, (0, 0, 0)), (198, .iload_n 3, 1, (0, 0, 0)), (199, .bipush 7, 2, (0, 0, 0))]
theorem K269_17 : zRk 269 B269_17 = true := by decide +kernel
def B269_18 : List zRow := [(204, .iload_n 2, 1, (0, 0, 0))]
theorem K269_18 : zRk 269 B269_18 = true := by decide +kernel
def B269_19 : List zRow := [(208, .ifCond .eq 7, 3, (0, 0, 0))]
theorem K269_19 : zRk 269 B269_19 = true := by decide +kernel
def B269_20 : List zRow := [(184, .aload_n 0, 1, (0, 0, 0)), (185, .iload_n 3, 1, (0, 0, 0)), (186, .iconst 1, 1, (0, 0, 0))]
theorem K269_20 : zRk 269 B269_20 = true := by decide +kernel
def B269_21 : List zRow := [(194, .goto 17, 3, (0, 0, 0))]
theorem K269_21 : zRk 269 B269_21 = true := by decide +kernel
def B269_22 : List zRow := [(190, .iload_n 2, 1, (0, 0, 0)), (191, .if_icmp .ne 24, 3, (0, 0, 0))]
theorem K269_22 : zRk 269 B269_22 = true := by decide +kernel
def B269_23 : List zRow := [(178, .iload_n 1, 1, (0, 0, 0)), (179, .bipush 8, 2, (0, 0, 0)), (181, .if_icmp .ne 16, 3, (0, 0, 0))]
theorem K269_23 : zRk 269 B269_23 = true := by decide +kernel
def B269_24 : List zRow := [(162, .aload_n 0, 1, (0, 0, 0)), (163, .iload_n 3, 1, (0, 0, 0)), (164, .iconst 5, 1, (0, 0, 0))]
theorem K269_24 : zRk 269 B269_24 = true := by decide +kernel
def B269_25 : List zRow := [(168, .iload_n 2, 1, (0, 0, 0))]
theorem K269_25 : zRk 269 B269_25 = true := by decide +kernel
def B269_26 : List zRow := [(175, .goto 36, 3, (0, 0, 0))]
theorem K269_26 : zRk 269 B269_26 = true := by decide +kernel
def B269_27 : List zRow := [(172, .ifCond .eq 43, 3, (0, 0, 0))]
theorem K269_27 : zRk 269 B269_27 = true := by decide +kernel
def B269_28 : List zRow := [(156, .iload_n 1, 1, (0, 0, 0)), (157, .bipush 7, 2, (0, 0, 0)), (159, .if_icmp .ne 19, 3, (0, 0, 0))]
theorem K269_28 : zRk 269 B269_28 = true := by decide +kernel
def B269_29 : List zRow := [(153, .ifCond .eq 62, 3, (0, 0, 0))]
theorem K269_29 : zRk 269 B269_29 = true := by decide +kernel
def B269_30 : List zRow := [(146, .iconst 0, 1, (0, 0, 0))]
theorem K269_30 : zRk 269 B269_30 = true := by decide +kernel
def B269_31 : List zRow := [(143, .ifCond .ne 5, 3, (0, 0, 0))]
theorem K269_31 : zRk 269 B269_31 = true := by decide +kernel
def B269_32 : List zRow := [(132, .iconst 0, 1, (0, 0, 0))]
theorem K269_32 : zRk 269 B269_32 = true := by decide +kernel
def B269_33 : List zRow := [(129, .ifCond .ne 5, 3, (0, 0, 0))]
theorem K269_33 : zRk 269 B269_33 = true := by decide +kernel
def B269_34 : List zRow := [(112, .aload_n 0, 1, (0, 0, 0)), (113, .iconst 3, 1, (0, 0, 0))]
theorem K269_34 : zRk 269 B269_34 = true := by decide +kernel
def B269_35 : List zRow := [(106, .istore_n 2, 1, (0, 0, 0)), (107, .iload_n 2, 1, (0, 0, 0)), (108, .iconst (-1), 1, (0, 0, 0)), (109, .if_icmp .ne 9, 3, (0, 0, 0))]
theorem K269_35 : zRk 269 B269_35 = true := by decide +kernel
def B269_36 : List zRow := [(81, .aload_n 0, 1, (0, 0, 0)), (82, .iconst 1, 1, (0, 0, 0))]
theorem K269_36 : zRk 269 B269_36 = true := by decide +kernel
def B269_37 : List zRow := [(78, .ifCond .ne 9, 3, (0, 0, 0))]
theorem K269_37 : zRk 269 B269_37 = true := by decide +kernel
def B269_38 : List zRow := [(64, .aload_n 0, 1, (0, 0, 0)), (65, .iconst 4, 1, (0, 0, 0))]
theorem K269_38 : zRk 269 B269_38 = true := by decide +kernel
def B269_39 : List zRow := [(55, .aload_n 0, 1, (0, 0, 0)), (56, .getfield 360, 3, (12, 36, 0)), (59, .bipush 30, 2, (0, 0, 0)), (61, .if_icmp .ne 9, 3, (0, 0, 0))]
theorem K269_39 : zRk 269 B269_39 = true := by decide +kernel
def B269_40 : List zRow := [(49, .aload_n 0, 1, (0, 0, 0)), (50, .iconst 1, 1, (0, 0, 0))]
theorem K269_40 : zRk 269 B269_40 = true := by decide +kernel
def B269_41 : List zRow := [(43, .istore_n 1, 1, (0, 0, 0)), (44, .iload_n 1, 1, (0, 0, 0)), (45, .iconst (-1), 1, (0, 0, 0)), (46, .if_icmp .ne 9, 3, (0, 0, 0))]
theorem K269_41 : zRk 269 B269_41 = true := by decide +kernel
def B269_42 : List zRow := [(211, .iconst 1, 1, (0, 0, 0)), (212, .goto 4, 3, (0, 0, 0))]
theorem K269_42 : zRk 269 B269_42 = true := by decide +kernel
def B269_43 : List zRow := [(231, .aload_n 0, 1, (0, 0, 0)), (232, .aload_n 0, 1, (0, 0, 0)), (233, .getfield 360, 3, (12, 36, 0)), (236, .putfield 363, 3, (12, 37, 0))]
theorem K269_43 : zRk 269 B269_43 = true := by decide +kernel
def B269_44 : List zRow := [(223, .aload_n 0, 1, (0, 0, 0)), (224, .getfield 363, 3, (12, 37, 0)), (227, .iconst (-1), 1, (0, 0, 0)), (228, .if_icmp .ne 11, 3, (0, 0, 0))]
theorem K269_44 : zRk 269 B269_44 = true := by decide +kernel
def B269_45 : List zRow := [(216, .istore 4, 2, (0, 0, 0)), (218, .iload 4, 2, (0, 0, 0)), (220, .ifCond .ne 19, 3, (0, 0, 0))]
theorem K269_45 : zRk 269 B269_45 = true := by decide +kernel
def B269_46 : List zRow := [(239, .aload_n 0, 1, (0, 0, 0)), (240, .dup, 1, (0, 0, 0)), (241, .getfield 360, 3, (12, 36, 0)), (244, .iconst 1, 1, (0, 0, 0)), (245, .iadd, 1, (0, 0, 0)), (246, .putfield 360, 3, (12, 36, 0)), (249, .iconst 1, 1, (0, 0, 0))]
theorem K269_46 : zRk 269 B269_46 = true := by decide +kernel
def B269_47 : List zRow := [(215, .iconst 0, 1, (0, 0, 0))]
theorem K269_47 : zRk 269 B269_47 = true := by decide +kernel
def F269_4 (h : zHM) : Option (Int × zHM) := some (1, (mset h 36 0 (wadd (h 36 0) 1)))
set_option maxRecDepth 100000 in
theorem T269_4 {spec : zRn zH2} {hc : zHC} {o : Int → Int} {d : Nat} (hd : 3 ≤ d) (h : zHM) (v : (Int × zHM)) (e : F269_4 h = some v) : zFin 0 (fun _ => 0) (zRu2 spec d) 269 (some (0, v.1)) (hc, v.2, o) (239, [some (22, 0), none, none, none, none], [], (hc, h, o)) := by
  unfold F269_4 at e
  refine zF_blk (m := []) (d := 0) (b := B269_46) (gs := []) (c' := (250, [some (22, 0), none, none, none, none], [(0, 1)], (hc, (mset h 36 0 (wadd (h 36 0) 1)), o))) K269_46 rfl trivial ?_
  exact zF_rbM (by decide +kernel) (Or.inr rfl) e
def F269_3 (s0 : Int) (h : zHM) : Option (Int × zHM) := if ¬ s0 = 0 then F269_4 h else if ¬ (h 37 0) = (-1) then F269_4 h else F269_4 (mset h 37 0 (h 36 0))
set_option maxRecDepth 100000 in
theorem T269_3 {spec : zRn zH2} {hc : zHC} {o : Int → Int} {d : Nat} (hd : 3 ≤ d) (s0 : Int) (h : zHM) (v : (Int × zHM)) (e : F269_3 s0 h = some v) : zFin 0 (fun _ => 0) (zRu2 spec d) 269 (some (0, v.1)) (hc, v.2, o) (216, [some (22, 0), none, none, none, none], [(0, s0)], (hc, h, o)) := by
  unfold F269_3 at e
  rcases zI_s e with ⟨q1, e⟩ | ⟨q1, e⟩
  · refine zF_blk (m := []) (d := 1) (b := B269_45) (gs := [¬ s0 = 0]) (c' := (239, [some (22, 0), none, none, none, some (0, s0)], [], (hc, h, o))) K269_45 rfl ⟨q1, trivial⟩ ?_
    refine zF_blk (m := [true, false, false, false, false]) (d := 0) (b := []) (gs := []) (c' := (239, [some (22, 0), none, none, none, none], [], (hc, h, o))) rfl rfl trivial ?_
    exact T269_4 hd h _ e
  · refine zF_blk (m := []) (d := 0) (b := B269_45) (gs := [¬ (¬ s0 = 0)]) (c' := (223, [some (22, 0), none, none, none, some (0, s0)], [], (hc, h, o))) K269_45 rfl ⟨q1, trivial⟩ ?_
    rcases zI_s e with ⟨q2, e⟩ | ⟨q2, e⟩
    · refine zF_blk (m := []) (d := 1) (b := B269_44) (gs := [¬ (h 37 0) = (-1)]) (c' := (239, [some (22, 0), none, none, none, some (0, s0)], [], (hc, h, o))) K269_44 rfl ⟨q2, trivial⟩ ?_
      refine zF_blk (m := [true, false, false, false, false]) (d := 0) (b := []) (gs := []) (c' := (239, [some (22, 0), none, none, none, none], [], (hc, h, o))) rfl rfl trivial ?_
      exact T269_4 hd h _ e
    · refine zF_blk (m := []) (d := 0) (b := B269_44) (gs := [¬ (¬ (h 37 0) = (-1))]) (c' := (231, [some (22, 0), none, none, none, some (0, s0)], [], (hc, h, o))) K269_44 rfl ⟨q2, trivial⟩ ?_
      refine zF_blk (m := []) (d := 0) (b := B269_43) (gs := []) (c' := (239, [some (22, 0), none, none, none, some (0, s0)], [], (hc, (mset h 37 0 (h 36 0)), o))) K269_43 rfl trivial ?_
      refine zF_blk (m := [true, false, false, false, false]) (d := 0) (b := []) (gs := []) (c' := (239, [some (22, 0), none, none, none, none], [], (hc, (mset h 37 0 (h 36 0)), o))) rfl rfl trivial ?_
      exact T269_4 hd (mset h 37 0 (h 36 0)) _ e
def F269_1 (h : zHM) : Option (Int × zHM) := F269_3 0 h
set_option maxRecDepth 100000 in
theorem T269_1 {spec : zRn zH2} {hc : zHC} {o : Int → Int} {d : Nat} (hd : 3 ≤ d) (h : zHM) (v : (Int × zHM)) (e : F269_1 h = some v) : zFin 0 (fun _ => 0) (zRu2 spec d) 269 (some (0, v.1)) (hc, v.2, o) (215, [some (22, 0), none, none, none, none], [], (hc, h, o)) := by
  unfold F269_1 at e
  refine zF_blk (m := []) (d := 0) (b := B269_47) (gs := []) (c' := (216, [some (22, 0), none, none, none, none], [(0, 0)], (hc, h, o))) K269_47 rfl trivial ?_
  exact T269_3 hd 0 h _ e
def F269_2 (h : zHM) : Option (Int × zHM) := F269_3 1 h
set_option maxRecDepth 100000 in
theorem T269_2 {spec : zRn zH2} {hc : zHC} {o : Int → Int} {d : Nat} (hd : 3 ≤ d) (h : zHM) (v : (Int × zHM)) (e : F269_2 h = some v) : zFin 0 (fun _ => 0) (zRu2 spec d) 269 (some (0, v.1)) (hc, v.2, o) (211, [some (22, 0), none, none, none, none], [], (hc, h, o)) := by
  unfold F269_2 at e
  refine zF_blk (m := []) (d := 0) (b := B269_42) (gs := []) (c' := (216, [some (22, 0), none, none, none, none], [(0, 1)], (hc, h, o))) K269_42 rfl trivial ?_
  exact T269_3 hd 1 h _ e
def F269_0 (s0 : Int) (h : zHM) : Option (Int × zHM) := if ¬ s0 = (-1) then if ¬ (h 36 0) = 30 then (F176 h).bind fun r1 => (F191 r1).bind fun r2 => if ¬ r2 = 0 then (F192b 6 (r1 14 3) (r1 12 0) r1).bind fun r3 => if ¬ r3 = (-1) then (F176 r1).bind fun r4 => (F186 0 29 r4).bind fun r5 => if ¬ r5.1 = 0 then (F201 r5.2).bind fun r6 => if ¬ r6.1 = 0 then (F217 (r5.2 13 0) r6.2).bind fun r7 => if r7 = 0 then F269_1 r6.2 else if ¬ s0 = 7 then if ¬ s0 = 8 then (F213 (r5.2 13 0) 7 r6.2).bind fun r8 => (F214 r8 r3).bind fun r9 => if r9 = 0 then F269_1 r6.2 else F269_2 r6.2 else (F213 (r5.2 13 0) 1 r6.2).bind fun r10 => if ¬ r10 = r3 then F269_1 r6.2 else F269_2 r6.2 else (F213 (r5.2 13 0) 5 r6.2).bind fun r11 => (F214 r11 r3).bind fun r12 => if r12 = 0 then F269_1 r6.2 else F269_2 r6.2 else some (0, r6.2) else some (0, r5.2) else (F185 3 r1).bind fun r13 => zG (r13.1 = 0 ∨ r13.1 = 1) (some (r13.1, r13.2)) else (F185 1 r1).bind fun r14 => zG (r14.1 = 0 ∨ r14.1 = 1) (some (r14.1, r14.2)) else (F185 4 h).bind fun r15 => zG (r15.1 = 0 ∨ r15.1 = 1) (some (r15.1, r15.2)) else (F185 1 h).bind fun r16 => zG (r16.1 = 0 ∨ r16.1 = 1) (some (r16.1, r16.2))
set_option maxRecDepth 100000 in
theorem T269_0 {spec : zRn zH2} {hc : zHC} {o : Int → Int} {d : Nat} (hd : 3 ≤ d) (s0 : Int) (h : zHM) (v : (Int × zHM)) (e : F269_0 s0 h = some v) : zFin 0 (fun _ => 0) (zRu2 spec d) 269 (some (0, v.1)) (hc, v.2, o) (43, [some (22, 0), none, none, none, none], [(0, s0)], (hc, h, o)) := by
  unfold F269_0 at e
  rcases zI_s e with ⟨q1, e⟩ | ⟨q1, e⟩
  · refine zF_blk (m := []) (d := 1) (b := B269_41) (gs := [¬ s0 = (-1)]) (c' := (55, [some (22, 0), some (0, s0), none, none, none], [], (hc, h, o))) K269_41 rfl ⟨q1, trivial⟩ ?_
    rcases zI_s e with ⟨q2, e⟩ | ⟨q2, e⟩
    · refine zF_blk (m := []) (d := 1) (b := B269_39) (gs := [¬ (h 36 0) = 30]) (c' := (70, [some (22, 0), some (0, s0), none, none, none], [], (hc, h, o))) K269_39 rfl ⟨q2, trivial⟩ ?_
      obtain ⟨r1, q3, e⟩ := zB_s e
      refine zF_blk (m := []) (d := 0) (b := B269_10) (gs := []) (c' := (71, [some (22, 0), some (0, s0), none, none, none], [(22, 0)], (hc, h, o))) K269_10 rfl trivial ?_
      refine zF_call (k := 176) (cl := 12) (n := 1) (i := .invokevirtual 162) (args := [(22, 0)]) (rest := []) (g1 := (hc, r1, o)) (r1 := none) (by decide +kernel) rfl rfl rfl (st' := []) rfl (S176 (Nat.le_trans (by decide) hd)  h _ q3) ?_
      obtain ⟨r2, q4, e⟩ := zB_s e
      refine zF_blk (m := []) (d := 0) (b := B269_11) (gs := []) (c' := (75, [some (22, 0), some (0, s0), none, none, none], [(22, 0)], (hc, r1, o))) K269_11 rfl trivial ?_
      refine zF_call (k := 191) (cl := 12) (n := 1) (i := .invokevirtual 172) (args := [(22, 0)]) (rest := []) (g1 := (hc, r1, o)) (r1 := some (0, r2)) (by decide +kernel) rfl rfl rfl (st' := [(0, r2)]) rfl (S191 (Nat.le_trans (by decide) hd)  r1 _ q4) ?_
      rcases zI_s e with ⟨q5, e⟩ | ⟨q5, e⟩
      · refine zF_blk (m := []) (d := 1) (b := B269_37) (gs := [¬ r2 = 0]) (c' := (87, [some (22, 0), some (0, s0), none, none, none], [], (hc, r1, o))) K269_37 rfl ⟨q5, trivial⟩ ?_
        obtain ⟨r3, q6, e⟩ := zB_s e
        refine zF_blk (m := []) (d := 0) (b := B269_12) (gs := [0 ≤ 3 ∧ 3 < 2140]) (c' := (103, [some (22, 0), some (0, s0), none, none, none], [(1, (r1 12 0)), (0, (r1 14 3)), (0, 6), (1409300219, 0)], (hc, r1, o))) K269_12 rfl ⟨by decide, trivial⟩ ?_
        refine zF_call (k := 192) (cl := 12) (n := 4) (i := .invokestatic 176) (args := [(1409300219, 0), (0, 6), (0, (r1 14 3)), (1, (r1 12 0))]) (rest := []) (g1 := (hc, r1, o)) (r1 := some (0, r3)) (by decide +kernel) rfl rfl rfl (st' := [(0, r3)]) rfl (S192b (Nat.le_trans (by decide) hd) 6 (r1 14 3) (r1 12 0) r1 _ q6) ?_
        rcases zI_s e with ⟨q7, e⟩ | ⟨q7, e⟩
        · refine zF_blk (m := []) (d := 1) (b := B269_35) (gs := [¬ r3 = (-1)]) (c' := (118, [some (22, 0), some (0, s0), some (0, r3), none, none], [], (hc, r1, o))) K269_35 rfl ⟨q7, trivial⟩ ?_
          obtain ⟨r4, q8, e⟩ := zB_s e
          refine zF_blk (m := []) (d := 0) (b := B269_13) (gs := []) (c' := (119, [some (22, 0), some (0, s0), some (0, r3), none, none], [(22, 0)], (hc, r1, o))) K269_13 rfl trivial ?_
          refine zF_call (k := 176) (cl := 12) (n := 1) (i := .invokevirtual 162) (args := [(22, 0)]) (rest := []) (g1 := (hc, r4, o)) (r1 := none) (by decide +kernel) rfl rfl rfl (st' := []) rfl (S176 (Nat.le_trans (by decide) hd)  r1 _ q8) ?_
          obtain ⟨r5, q9, e⟩ := zB_s e
          refine zF_blk (m := []) (d := 0) (b := B269_14) (gs := []) (c' := (126, [some (22, 0), some (0, s0), some (0, r3), none, none], [(0, 29), (0, 0), (22, 0)], (hc, r4, o))) K269_14 rfl trivial ?_
          refine zF_call (k := 186) (cl := 12) (n := 3) (i := .invokevirtual 180) (args := [(22, 0), (0, 0), (0, 29)]) (rest := []) (g1 := (hc, r5.2, o)) (r1 := some (0, r5.1)) (by decide +kernel) rfl rfl rfl (st' := [(0, r5.1)]) rfl (S186 (Nat.le_trans (by decide) hd) 0 29 r4 _ q9) ?_
          rcases zI_s e with ⟨q10, e⟩ | ⟨q10, e⟩
          · refine zF_blk (m := []) (d := 1) (b := B269_33) (gs := [¬ r5.1 = 0]) (c' := (134, [some (22, 0), some (0, s0), some (0, r3), none, none], [], (hc, r5.2, o))) K269_33 rfl ⟨q10, trivial⟩ ?_
            obtain ⟨r6, q11, e⟩ := zB_s e
            refine zF_blk (m := []) (d := 0) (b := B269_15) (gs := []) (c' := (140, [some (22, 0), some (0, s0), some (0, r3), some (0, (r5.2 13 0)), none], [(22, 0)], (hc, r5.2, o))) K269_15 rfl trivial ?_
            refine zF_call (k := 201) (cl := 12) (n := 1) (i := .invokevirtual 223) (args := [(22, 0)]) (rest := []) (g1 := (hc, r6.2, o)) (r1 := some (0, r6.1)) (by decide +kernel) rfl rfl rfl (st' := [(0, r6.1)]) rfl (S201 (Nat.le_trans (by decide) hd)  r5.2 _ q11) ?_
            rcases zI_s e with ⟨q12, e⟩ | ⟨q12, e⟩
            · refine zF_blk (m := []) (d := 1) (b := B269_31) (gs := [¬ r6.1 = 0]) (c' := (148, [some (22, 0), some (0, s0), some (0, r3), some (0, (r5.2 13 0)), none], [], (hc, r6.2, o))) K269_31 rfl ⟨q12, trivial⟩ ?_
              obtain ⟨r7, q13, e⟩ := zB_s e
              refine zF_blk (m := []) (d := 0) (b := B269_16) (gs := []) (c' := (150, [some (22, 0), some (0, s0), some (0, r3), some (0, (r5.2 13 0)), none], [(0, (r5.2 13 0)), (22, 0)], (hc, r6.2, o))) K269_16 rfl trivial ?_
              refine zF_call (k := 217) (cl := 12) (n := 2) (i := .invokevirtual 266) (args := [(22, 0), (0, (r5.2 13 0))]) (rest := []) (g1 := (hc, r6.2, o)) (r1 := some (0, r7)) (by decide +kernel) rfl rfl rfl (st' := [(0, r7)]) rfl (S217 (Nat.le_trans (by decide) hd) (r5.2 13 0) r6.2 _ q13) ?_
              rcases zI_s e with ⟨q14, e⟩ | ⟨q14, e⟩
              · refine zF_blk (m := []) (d := 1) (b := B269_29) (gs := [r7 = 0]) (c' := (215, [some (22, 0), some (0, s0), some (0, r3), some (0, (r5.2 13 0)), none], [], (hc, r6.2, o))) K269_29 rfl ⟨q14, trivial⟩ ?_
                refine zF_blk (m := [true, false, false, false, false]) (d := 0) (b := []) (gs := []) (c' := (215, [some (22, 0), none, none, none, none], [], (hc, r6.2, o))) rfl rfl trivial ?_
                exact T269_1 hd r6.2 _ e
              · refine zF_blk (m := []) (d := 0) (b := B269_29) (gs := [¬ (r7 = 0)]) (c' := (156, [some (22, 0), some (0, s0), some (0, r3), some (0, (r5.2 13 0)), none], [], (hc, r6.2, o))) K269_29 rfl ⟨q14, trivial⟩ ?_
                rcases zI_s e with ⟨q15, e⟩ | ⟨q15, e⟩
                · refine zF_blk (m := []) (d := 1) (b := B269_28) (gs := [¬ s0 = 7]) (c' := (178, [some (22, 0), some (0, s0), some (0, r3), some (0, (r5.2 13 0)), none], [], (hc, r6.2, o))) K269_28 rfl ⟨q15, trivial⟩ ?_
                  rcases zI_s e with ⟨q16, e⟩ | ⟨q16, e⟩
                  · refine zF_blk (m := []) (d := 1) (b := B269_23) (gs := [¬ s0 = 8]) (c' := (197, [some (22, 0), some (0, s0), some (0, r3), some (0, (r5.2 13 0)), none], [], (hc, r6.2, o))) K269_23 rfl ⟨q16, trivial⟩ ?_
                    obtain ⟨r8, q17, e⟩ := zB_s e
                    refine zF_blk (m := []) (d := 0) (b := B269_17) (gs := []) (c' := (201, [some (22, 0), some (0, s0), some (0, r3), some (0, (r5.2 13 0)), none], [(0, 7), (0, (r5.2 13 0)), (22, 0)], (hc, r6.2, o))) K269_17 rfl trivial ?_
                    refine zF_call (k := 213) (cl := 12) (n := 3) (i := .invokevirtual 247) (args := [(22, 0), (0, (r5.2 13 0)), (0, 7)]) (rest := []) (g1 := (hc, r6.2, o)) (r1 := some (0, r8)) (by decide +kernel) rfl rfl rfl (st' := [(0, r8)]) rfl (S213 (Nat.le_trans (by decide) hd) (r5.2 13 0) 7 r6.2 _ q17) ?_
                    obtain ⟨r9, q18, e⟩ := zB_s e
                    refine zF_blk (m := []) (d := 0) (b := B269_18) (gs := []) (c' := (205, [some (22, 0), some (0, s0), some (0, r3), some (0, (r5.2 13 0)), none], [(0, r3), (0, r8)], (hc, r6.2, o))) K269_18 rfl trivial ?_
                    refine zF_call (k := 214) (cl := 12) (n := 2) (i := .invokestatic 251) (args := [(0, r8), (0, r3)]) (rest := []) (g1 := (hc, r6.2, o)) (r1 := some (0, r9)) (by decide +kernel) rfl rfl rfl (st' := [(0, r9)]) rfl (S214 (Nat.le_trans (by decide) hd) r8 r3 r6.2 _ q18) ?_
                    rcases zI_s e with ⟨q19, e⟩ | ⟨q19, e⟩
                    · refine zF_blk (m := []) (d := 1) (b := B269_19) (gs := [r9 = 0]) (c' := (215, [some (22, 0), some (0, s0), some (0, r3), some (0, (r5.2 13 0)), none], [], (hc, r6.2, o))) K269_19 rfl ⟨q19, trivial⟩ ?_
                      refine zF_blk (m := [true, false, false, false, false]) (d := 0) (b := []) (gs := []) (c' := (215, [some (22, 0), none, none, none, none], [], (hc, r6.2, o))) rfl rfl trivial ?_
                      exact T269_1 hd r6.2 _ e
                    · refine zF_blk (m := []) (d := 0) (b := B269_19) (gs := [¬ (r9 = 0)]) (c' := (211, [some (22, 0), some (0, s0), some (0, r3), some (0, (r5.2 13 0)), none], [], (hc, r6.2, o))) K269_19 rfl ⟨q19, trivial⟩ ?_
                      refine zF_blk (m := [true, false, false, false, false]) (d := 0) (b := []) (gs := []) (c' := (211, [some (22, 0), none, none, none, none], [], (hc, r6.2, o))) rfl rfl trivial ?_
                      exact T269_2 hd r6.2 _ e
                  · refine zF_blk (m := []) (d := 0) (b := B269_23) (gs := [¬ (¬ s0 = 8)]) (c' := (184, [some (22, 0), some (0, s0), some (0, r3), some (0, (r5.2 13 0)), none], [], (hc, r6.2, o))) K269_23 rfl ⟨q16, trivial⟩ ?_
                    obtain ⟨r10, q20, e⟩ := zB_s e
                    refine zF_blk (m := []) (d := 0) (b := B269_20) (gs := []) (c' := (187, [some (22, 0), some (0, s0), some (0, r3), some (0, (r5.2 13 0)), none], [(0, 1), (0, (r5.2 13 0)), (22, 0)], (hc, r6.2, o))) K269_20 rfl trivial ?_
                    refine zF_call (k := 213) (cl := 12) (n := 3) (i := .invokevirtual 247) (args := [(22, 0), (0, (r5.2 13 0)), (0, 1)]) (rest := []) (g1 := (hc, r6.2, o)) (r1 := some (0, r10)) (by decide +kernel) rfl rfl rfl (st' := [(0, r10)]) rfl (S213 (Nat.le_trans (by decide) hd) (r5.2 13 0) 1 r6.2 _ q20) ?_
                    rcases zI_s e with ⟨q21, e⟩ | ⟨q21, e⟩
                    · refine zF_blk (m := []) (d := 1) (b := B269_22) (gs := [¬ r10 = r3]) (c' := (215, [some (22, 0), some (0, s0), some (0, r3), some (0, (r5.2 13 0)), none], [], (hc, r6.2, o))) K269_22 rfl ⟨q21, trivial⟩ ?_
                      refine zF_blk (m := [true, false, false, false, false]) (d := 0) (b := []) (gs := []) (c' := (215, [some (22, 0), none, none, none, none], [], (hc, r6.2, o))) rfl rfl trivial ?_
                      exact T269_1 hd r6.2 _ e
                    · refine zF_blk (m := []) (d := 0) (b := B269_22) (gs := [¬ (¬ r10 = r3)]) (c' := (194, [some (22, 0), some (0, s0), some (0, r3), some (0, (r5.2 13 0)), none], [], (hc, r6.2, o))) K269_22 rfl ⟨q21, trivial⟩ ?_
                      refine zF_blk (m := []) (d := 0) (b := B269_21) (gs := []) (c' := (211, [some (22, 0), some (0, s0), some (0, r3), some (0, (r5.2 13 0)), none], [], (hc, r6.2, o))) K269_21 rfl trivial ?_
                      refine zF_blk (m := [true, false, false, false, false]) (d := 0) (b := []) (gs := []) (c' := (211, [some (22, 0), none, none, none, none], [], (hc, r6.2, o))) rfl rfl trivial ?_
                      exact T269_2 hd r6.2 _ e
                · refine zF_blk (m := []) (d := 0) (b := B269_28) (gs := [¬ (¬ s0 = 7)]) (c' := (162, [some (22, 0), some (0, s0), some (0, r3), some (0, (r5.2 13 0)), none], [], (hc, r6.2, o))) K269_28 rfl ⟨q15, trivial⟩ ?_
                  obtain ⟨r11, q22, e⟩ := zB_s e
                  refine zF_blk (m := []) (d := 0) (b := B269_24) (gs := []) (c' := (165, [some (22, 0), some (0, s0), some (0, r3), some (0, (r5.2 13 0)), none], [(0, 5), (0, (r5.2 13 0)), (22, 0)], (hc, r6.2, o))) K269_24 rfl trivial ?_
                  refine zF_call (k := 213) (cl := 12) (n := 3) (i := .invokevirtual 247) (args := [(22, 0), (0, (r5.2 13 0)), (0, 5)]) (rest := []) (g1 := (hc, r6.2, o)) (r1 := some (0, r11)) (by decide +kernel) rfl rfl rfl (st' := [(0, r11)]) rfl (S213 (Nat.le_trans (by decide) hd) (r5.2 13 0) 5 r6.2 _ q22) ?_
                  obtain ⟨r12, q23, e⟩ := zB_s e
                  refine zF_blk (m := []) (d := 0) (b := B269_25) (gs := []) (c' := (169, [some (22, 0), some (0, s0), some (0, r3), some (0, (r5.2 13 0)), none], [(0, r3), (0, r11)], (hc, r6.2, o))) K269_25 rfl trivial ?_
                  refine zF_call (k := 214) (cl := 12) (n := 2) (i := .invokestatic 251) (args := [(0, r11), (0, r3)]) (rest := []) (g1 := (hc, r6.2, o)) (r1 := some (0, r12)) (by decide +kernel) rfl rfl rfl (st' := [(0, r12)]) rfl (S214 (Nat.le_trans (by decide) hd) r11 r3 r6.2 _ q23) ?_
                  rcases zI_s e with ⟨q24, e⟩ | ⟨q24, e⟩
                  · refine zF_blk (m := []) (d := 1) (b := B269_27) (gs := [r12 = 0]) (c' := (215, [some (22, 0), some (0, s0), some (0, r3), some (0, (r5.2 13 0)), none], [], (hc, r6.2, o))) K269_27 rfl ⟨q24, trivial⟩ ?_
                    refine zF_blk (m := [true, false, false, false, false]) (d := 0) (b := []) (gs := []) (c' := (215, [some (22, 0), none, none, none, none], [], (hc, r6.2, o))) rfl rfl trivial ?_
                    exact T269_1 hd r6.2 _ e
                  · refine zF_blk (m := []) (d := 0) (b := B269_27) (gs := [¬ (r12 = 0)]) (c' := (175, [some (22, 0), some (0, s0), some (0, r3), some (0, (r5.2 13 0)), none], [], (hc, r6.2, o))) K269_27 rfl ⟨q24, trivial⟩ ?_
                    refine zF_blk (m := []) (d := 0) (b := B269_26) (gs := []) (c' := (211, [some (22, 0), some (0, s0), some (0, r3), some (0, (r5.2 13 0)), none], [], (hc, r6.2, o))) K269_26 rfl trivial ?_
                    refine zF_blk (m := [true, false, false, false, false]) (d := 0) (b := []) (gs := []) (c' := (211, [some (22, 0), none, none, none, none], [], (hc, r6.2, o))) rfl rfl trivial ?_
                    exact T269_2 hd r6.2 _ e
            · refine zF_blk (m := []) (d := 0) (b := B269_31) (gs := [¬ (¬ r6.1 = 0)]) (c' := (146, [some (22, 0), some (0, s0), some (0, r3), some (0, (r5.2 13 0)), none], [], (hc, r6.2, o))) K269_31 rfl ⟨q12, trivial⟩ ?_
              refine zF_blk (m := []) (d := 0) (b := B269_30) (gs := []) (c' := (147, [some (22, 0), some (0, s0), some (0, r3), some (0, (r5.2 13 0)), none], [(0, 0)], (hc, r6.2, o))) K269_30 rfl trivial ?_
              exact zF_rbM (by decide +kernel) (Or.inl rfl) e
          · refine zF_blk (m := []) (d := 0) (b := B269_33) (gs := [¬ (¬ r5.1 = 0)]) (c' := (132, [some (22, 0), some (0, s0), some (0, r3), none, none], [], (hc, r5.2, o))) K269_33 rfl ⟨q10, trivial⟩ ?_
            refine zF_blk (m := []) (d := 0) (b := B269_32) (gs := []) (c' := (133, [some (22, 0), some (0, s0), some (0, r3), none, none], [(0, 0)], (hc, r5.2, o))) K269_32 rfl trivial ?_
            exact zF_rbM (by decide +kernel) (Or.inl rfl) e
        · refine zF_blk (m := []) (d := 0) (b := B269_35) (gs := [¬ (¬ r3 = (-1))]) (c' := (112, [some (22, 0), some (0, s0), some (0, r3), none, none], [], (hc, r1, o))) K269_35 rfl ⟨q7, trivial⟩ ?_
          obtain ⟨r13, q25, e⟩ := zB_s e
          refine zF_blk (m := []) (d := 0) (b := B269_34) (gs := []) (c' := (114, [some (22, 0), some (0, s0), some (0, r3), none, none], [(0, 3), (22, 0)], (hc, r1, o))) K269_34 rfl trivial ?_
          refine zF_call (k := 185) (cl := 12) (n := 2) (i := .invokevirtual 148) (args := [(22, 0), (0, 3)]) (rest := []) (g1 := (hc, r13.2, o)) (r1 := some (0, r13.1)) (by decide +kernel) rfl rfl rfl (st' := [(0, r13.1)]) rfl (S185 (Nat.le_trans (by decide) hd) 3 r1 _ q25) ?_
          obtain ⟨q26, e⟩ := zG_s e
          exact zF_rbM (by decide +kernel) q26 e
      · refine zF_blk (m := []) (d := 0) (b := B269_37) (gs := [¬ (¬ r2 = 0)]) (c' := (81, [some (22, 0), some (0, s0), none, none, none], [], (hc, r1, o))) K269_37 rfl ⟨q5, trivial⟩ ?_
        obtain ⟨r14, q27, e⟩ := zB_s e
        refine zF_blk (m := []) (d := 0) (b := B269_36) (gs := []) (c' := (83, [some (22, 0), some (0, s0), none, none, none], [(0, 1), (22, 0)], (hc, r1, o))) K269_36 rfl trivial ?_
        refine zF_call (k := 185) (cl := 12) (n := 2) (i := .invokevirtual 148) (args := [(22, 0), (0, 1)]) (rest := []) (g1 := (hc, r14.2, o)) (r1 := some (0, r14.1)) (by decide +kernel) rfl rfl rfl (st' := [(0, r14.1)]) rfl (S185 (Nat.le_trans (by decide) hd) 1 r1 _ q27) ?_
        obtain ⟨q28, e⟩ := zG_s e
        exact zF_rbM (by decide +kernel) q28 e
    · refine zF_blk (m := []) (d := 0) (b := B269_39) (gs := [¬ (¬ (h 36 0) = 30)]) (c' := (64, [some (22, 0), some (0, s0), none, none, none], [], (hc, h, o))) K269_39 rfl ⟨q2, trivial⟩ ?_
      obtain ⟨r15, q29, e⟩ := zB_s e
      refine zF_blk (m := []) (d := 0) (b := B269_38) (gs := []) (c' := (66, [some (22, 0), some (0, s0), none, none, none], [(0, 4), (22, 0)], (hc, h, o))) K269_38 rfl trivial ?_
      refine zF_call (k := 185) (cl := 12) (n := 2) (i := .invokevirtual 148) (args := [(22, 0), (0, 4)]) (rest := []) (g1 := (hc, r15.2, o)) (r1 := some (0, r15.1)) (by decide +kernel) rfl rfl rfl (st' := [(0, r15.1)]) rfl (S185 (Nat.le_trans (by decide) hd) 4 h _ q29) ?_
      obtain ⟨q30, e⟩ := zG_s e
      exact zF_rbM (by decide +kernel) q30 e
  · refine zF_blk (m := []) (d := 0) (b := B269_41) (gs := [¬ (¬ s0 = (-1))]) (c' := (49, [some (22, 0), some (0, s0), none, none, none], [], (hc, h, o))) K269_41 rfl ⟨q1, trivial⟩ ?_
    obtain ⟨r16, q31, e⟩ := zB_s e
    refine zF_blk (m := []) (d := 0) (b := B269_40) (gs := []) (c' := (51, [some (22, 0), some (0, s0), none, none, none], [(0, 1), (22, 0)], (hc, h, o))) K269_40 rfl trivial ?_
    refine zF_call (k := 185) (cl := 12) (n := 2) (i := .invokevirtual 148) (args := [(22, 0), (0, 1)]) (rest := []) (g1 := (hc, r16.2, o)) (r1 := some (0, r16.1)) (by decide +kernel) rfl rfl rfl (st' := [(0, r16.1)]) rfl (S185 (Nat.le_trans (by decide) hd) 1 h _ q31) ?_
    obtain ⟨q32, e⟩ := zG_s e
    exact zF_rbM (by decide +kernel) q32 e
/-- EchoValeModel.readClaim()Z -/
def F269 (h : zHM) : Option (Int × zHM) := (F181 7 h).bind fun r1 => if r1 = 0 then (F181 8 h).bind fun r2 => if r2 = 0 then (F181 9 h).bind fun r3 => if r3 = 0 then F269_0 (-1) h else F269_0 9 h else F269_0 8 h else F269_0 7 h
set_option maxRecDepth 100000 in
theorem S269 {spec : zRn zH2} {hc : zHC} {o : Int → Int} {d : Nat} (hd : 4 ≤ d) (h : zHM) (v : (Int × zHM)) (e : F269 h = some v) : zRu2 spec d 269 [(22, 0)] (hc, h, o) (some (0, v.1)) (hc, v.2, o) := by
  refine zF_in (D := 3) (mx := 5) (L := [some (22, 0), none, none, none, none]) (by decide +kernel) rfl rfl hd (fun d hd => ?_)
  unfold F269 at e
  obtain ⟨r1, q1, e⟩ := zB_s e
  refine zF_blk (m := []) (d := 0) (b := B269_0) (gs := []) (c' := (3, [some (22, 0), none, none, none, none], [(0, 7), (22, 0)], (hc, h, o))) K269_0 rfl trivial ?_
  refine zF_call (k := 181) (cl := 12) (n := 2) (i := .invokevirtual 199) (args := [(22, 0), (0, 7)]) (rest := []) (g1 := (hc, h, o)) (r1 := some (0, r1)) (by decide +kernel) rfl rfl rfl (st' := [(0, r1)]) rfl (S181 (Nat.le_trans (by decide) hd) 7 h _ q1) ?_
  rcases zI_s e with ⟨q2, e⟩ | ⟨q2, e⟩
  · refine zF_blk (m := []) (d := 1) (b := B269_9) (gs := [r1 = 0]) (c' := (14, [some (22, 0), none, none, none, none], [], (hc, h, o))) K269_9 rfl ⟨q2, trivial⟩ ?_
    obtain ⟨r2, q3, e⟩ := zB_s e
    refine zF_blk (m := []) (d := 0) (b := B269_1) (gs := []) (c' := (17, [some (22, 0), none, none, none, none], [(0, 8), (22, 0)], (hc, h, o))) K269_1 rfl trivial ?_
    refine zF_call (k := 181) (cl := 12) (n := 2) (i := .invokevirtual 199) (args := [(22, 0), (0, 8)]) (rest := []) (g1 := (hc, h, o)) (r1 := some (0, r2)) (by decide +kernel) rfl rfl rfl (st' := [(0, r2)]) rfl (S181 (Nat.le_trans (by decide) hd) 8 h _ q3) ?_
    rcases zI_s e with ⟨q4, e⟩ | ⟨q4, e⟩
    · refine zF_blk (m := []) (d := 1) (b := B269_7) (gs := [r2 = 0]) (c' := (28, [some (22, 0), none, none, none, none], [], (hc, h, o))) K269_7 rfl ⟨q4, trivial⟩ ?_
      obtain ⟨r3, q5, e⟩ := zB_s e
      refine zF_blk (m := []) (d := 0) (b := B269_2) (gs := []) (c' := (31, [some (22, 0), none, none, none, none], [(0, 9), (22, 0)], (hc, h, o))) K269_2 rfl trivial ?_
      refine zF_call (k := 181) (cl := 12) (n := 2) (i := .invokevirtual 199) (args := [(22, 0), (0, 9)]) (rest := []) (g1 := (hc, h, o)) (r1 := some (0, r3)) (by decide +kernel) rfl rfl rfl (st' := [(0, r3)]) rfl (S181 (Nat.le_trans (by decide) hd) 9 h _ q5) ?_
      rcases zI_s e with ⟨q6, e⟩ | ⟨q6, e⟩
      · refine zF_blk (m := []) (d := 1) (b := B269_5) (gs := [r3 = 0]) (c' := (42, [some (22, 0), none, none, none, none], [], (hc, h, o))) K269_5 rfl ⟨q6, trivial⟩ ?_
        refine zF_blk (m := []) (d := 0) (b := B269_3) (gs := []) (c' := (43, [some (22, 0), none, none, none, none], [(0, (-1))], (hc, h, o))) K269_3 rfl trivial ?_
        exact T269_0 hd (-1) h _ e
      · refine zF_blk (m := []) (d := 0) (b := B269_5) (gs := [¬ (r3 = 0)]) (c' := (37, [some (22, 0), none, none, none, none], [], (hc, h, o))) K269_5 rfl ⟨q6, trivial⟩ ?_
        refine zF_blk (m := []) (d := 0) (b := B269_4) (gs := []) (c' := (43, [some (22, 0), none, none, none, none], [(0, 9)], (hc, h, o))) K269_4 rfl trivial ?_
        exact T269_0 hd 9 h _ e
    · refine zF_blk (m := []) (d := 0) (b := B269_7) (gs := [¬ (r2 = 0)]) (c' := (23, [some (22, 0), none, none, none, none], [], (hc, h, o))) K269_7 rfl ⟨q4, trivial⟩ ?_
      refine zF_blk (m := []) (d := 0) (b := B269_6) (gs := []) (c' := (43, [some (22, 0), none, none, none, none], [(0, 8)], (hc, h, o))) K269_6 rfl trivial ?_
      exact T269_0 hd 8 h _ e
  · refine zF_blk (m := []) (d := 0) (b := B269_9) (gs := [¬ (r1 = 0)]) (c' := (9, [some (22, 0), none, none, none, none], [], (hc, h, o))) K269_9 rfl ⟨q2, trivial⟩ ?_
    refine zF_blk (m := []) (d := 0) (b := B269_8) (gs := []) (c' := (43, [some (22, 0), none, none, none, none], [(0, 7)], (hc, h, o))) K269_8 rfl trivial ?_
    exact T269_0 hd 7 h _ e
