/-! Functions of the methods, by wip/gen/lift.py. -/
noncomputable def B149b_0 : List zRow := [(0, .aload_n 0, 1, (0, 0, 0)), (1, .aload_n 1, 1, (0, 0, 0)), (2, .iload_n 2, 1, (0, 0, 0))]
theorem K149b_0 : zRk 149 B149b_0 = true := zRw_ok (by decide +kernel)
noncomputable def B149b_1 : List zRow := [(11, .iconst 0, 1, (0, 0, 0)), (12, .istore_n 3, 1, (0, 0, 0))]
theorem K149b_1 : zRk 149 B149b_1 = true := zRw_ok (by decide +kernel)
noncomputable def B149b_2 : List zRow := [(9, .iconst 0, 1, (0, 0, 0))]
theorem K149b_2 : zRk 149 B149b_2 = true := zRw_ok (by decide +kernel)
noncomputable def B149b_3 : List zRow := [(6, .ifCond .ne 5, 3, (0, 0, 0))]
theorem K149b_3 : zRk 149 B149b_3 = true := zRw_ok (by decide +kernel)
noncomputable def B149b_4 : List zRow := [(67, .iconst 1, 1, (0, 0, 0))]
theorem K149b_4 : zRk 149 B149b_4 = true := zRw_ok (by decide +kernel)
noncomputable def B149b_5 : List zRow := [(20, .aload_n 0, 1, (0, 0, 0)), (21, .getfield 18, 3, (7, 1, 23)), (24, .bipush 10, 2, (0, 0, 0))]
theorem K149b_5 : zRk 149 B149b_5 = true := zRw_ok (by decide +kernel)
noncomputable def B149b_6 : List zRow := [(32, .aload_n 0, 1, (0, 0, 0)), (33, .getfield 18, 3, (7, 1, 23))]
theorem K149b_6 : zRk 149 B149b_6 = true := zRw_ok (by decide +kernel)
noncomputable def B149b_7 : List zRow := [(39, .aload_n 0, 1, (0, 0, 0)), (40, .aload_n 1, 1, (0, 0, 0)), (41, .iload_n 2, 1, (0, 0, 0))]
theorem K149b_7 : zRk 149 B149b_7 = true := zRw_ok (by decide +kernel)
noncomputable def B149b_8 : List zRow := [(50, .aload_n 0, 1, (0, 0, 0)), (51, .getfield 12, 3, (7, 0, 155)), (54, .bipush 10, 2, (0, 0, 0)), (56, .iconst 0, 1, (0, 0, 0)), (57, .iconst 0, 1, (0, 0, 0))]
theorem K149b_8 : zRk 149 B149b_8 = true := zRw_ok (by decide +kernel)
noncomputable def B149b_9 : List zRow := [(61, .iinc 3 1, 3, (0, 0, 0)), (64, .goto (-51), 3, (0, 0, 0))]
theorem K149b_9 : zRk 149 B149b_9 = true := zRw_ok (by decide +kernel)
noncomputable def B149b_10 : List zRow := [(48, .iconst 0, 1, (0, 0, 0))]
theorem K149b_10 : zRk 149 B149b_10 = true := zRw_ok (by decide +kernel)
noncomputable def B149b_11 : List zRow := [(45, .ifCond .ne 5, 3, (0, 0, 0))]
theorem K149b_11 : zRk 149 B149b_11 = true := zRw_ok (by decide +kernel)
noncomputable def B149b_12 : List zRow := [(29, .ifCond .eq 38, 3, (0, 0, 0))]
theorem K149b_12 : zRk 149 B149b_12 = true := zRw_ok (by decide +kernel)
noncomputable def B149b_13 : List zRow := [(13, .iload_n 3, 1, (0, 0, 0)), (14, .sipush 940, 3, (0, 0, 0)), (17, .if_icmp .ge 50, 3, (0, 0, 0))]
theorem K149b_13 : zRk 149 B149b_13 = true := zRw_ok (by decide +kernel)
def F149b_0 (kR : Int → Int → zHC → Option (Int × zHC)) : Nat → Int → Int → Int → zHC → Option (Int × zHC)
  | 0, _, _, _, _ => none
  | n + 1, v1, v2, v3, h => if 940 ≤ v3 then some (1, h) else (F152 10 h).bind fun r1 => if r1 = 0 then some (1, h) else (F21 h).bind fun r2 => (F150b kR v1 v2 r2).bind fun r3 => if ¬ r3.1 = 0 then (F153 1 10 0 0 r3.2).bind fun r4 => (F149b_0 kR n) v1 v2 (wadd v3 1) r4 else some (0, r3.2)
set_option maxRecDepth 100000 in
theorem T149b_0 {spec : zRn zH2} {hm : zHM} {o : Int → Int} {d : Nat} {DR : Nat} (hd : DR + 4 ≤ d) (kR : Int → Int → zHC → Option (Int × zHC)) (hkR : ∀ (d' : Nat), DR ≤ d' → ∀ (v1 : Int) (v2 : Int) (h : zHC) (v : (Int × zHC)), kR v1 v2 h = some v → zRu2 spec d' 151 [(17, 0), (19, v1), (0, v2)] (h, hm, o) (some (0, v.1)) (v.2, hm, o)) : ∀ (n : Nat) (v1 : Int) (v2 : Int) (v3 : Int) (h : zHC) (v : (Int × zHC)), F149b_0 kR n v1 v2 v3 h = some v → zFin 0 (fun _ => 0) (zRu2 spec d) 149 (some (0, v.1)) (v.2, hm, o) (13, [some (17, 0), some (19, v1), some (0, v2), some (0, v3)], [], (h, hm, o)) := by
  intro n
  induction n with
  | zero => intro v1 v2 v3 h v e; unfold F149b_0 at e; cases e
  | succ n hk0 =>
    intro v1 v2 v3 h v e
    unfold F149b_0 at e
    rcases zI_s e with ⟨q1, e⟩ | ⟨q1, e⟩
    · refine zF_blk (m := []) (d := 1) (b := B149b_13) (gs := [940 ≤ v3]) (c' := (67, [some (17, 0), some (19, v1), some (0, v2), some (0, v3)], [], (h, hm, o))) K149b_13 rfl ⟨q1, trivial⟩ ?_
      refine zF_blk (m := []) (d := 0) (b := B149b_4) (gs := []) (c' := (68, [some (17, 0), some (19, v1), some (0, v2), some (0, v3)], [(0, 1)], (h, hm, o))) K149b_4 rfl trivial ?_
      exact zF_rbC (zRe1_w (by decide +kernel)) (Or.inr rfl) e
    · refine zF_blk (m := []) (d := 0) (b := B149b_13) (gs := [¬ (940 ≤ v3)]) (c' := (20, [some (17, 0), some (19, v1), some (0, v2), some (0, v3)], [], (h, hm, o))) K149b_13 rfl ⟨q1, trivial⟩ ?_
      obtain ⟨r1, q2, e⟩ := zB_s e
      refine zF_blk (m := []) (d := 0) (b := B149b_5) (gs := []) (c' := (26, [some (17, 0), some (19, v1), some (0, v2), some (0, v3)], [(0, 10), (15, 0)], (h, hm, o))) K149b_5 rfl trivial ?_
      refine zF_call (k := 152) (cl := 5) (n := 2) (i := .invokevirtual 46) (args := [(15, 0), (0, 10)]) (rest := []) (g1 := (h, hm, o)) (r1 := some (0, r1)) (zCk1_w (by decide +kernel)) rfl rfl rfl (st' := [(0, r1)]) rfl (S152 (by omega) 10 h _ q2) ?_
      rcases zI_s e with ⟨q3, e⟩ | ⟨q3, e⟩
      · refine zF_blk (m := []) (d := 1) (b := B149b_12) (gs := [r1 = 0]) (c' := (67, [some (17, 0), some (19, v1), some (0, v2), some (0, v3)], [], (h, hm, o))) K149b_12 rfl ⟨q3, trivial⟩ ?_
        refine zF_blk (m := []) (d := 0) (b := B149b_4) (gs := []) (c' := (68, [some (17, 0), some (19, v1), some (0, v2), some (0, v3)], [(0, 1)], (h, hm, o))) K149b_4 rfl trivial ?_
        exact zF_rbC (zRe1_w (by decide +kernel)) (Or.inr rfl) e
      · refine zF_blk (m := []) (d := 0) (b := B149b_12) (gs := [¬ (r1 = 0)]) (c' := (32, [some (17, 0), some (19, v1), some (0, v2), some (0, v3)], [], (h, hm, o))) K149b_12 rfl ⟨q3, trivial⟩ ?_
        obtain ⟨r2, q4, e⟩ := zB_s e
        refine zF_blk (m := []) (d := 0) (b := B149b_6) (gs := []) (c' := (36, [some (17, 0), some (19, v1), some (0, v2), some (0, v3)], [(15, 0)], (h, hm, o))) K149b_6 rfl trivial ?_
        refine zF_call (k := 21) (cl := 5) (n := 1) (i := .invokevirtual 49) (args := [(15, 0)]) (rest := []) (g1 := (r2, hm, o)) (r1 := none) (zCk1_w (by decide +kernel)) rfl rfl rfl (st' := []) rfl (S21 (by omega)  h _ q4) ?_
        obtain ⟨r3, q5, e⟩ := zB_s e
        refine zF_blk (m := []) (d := 0) (b := B149b_7) (gs := []) (c' := (42, [some (17, 0), some (19, v1), some (0, v2), some (0, v3)], [(0, v2), (19, v1), (17, 0)], (r2, hm, o))) K149b_7 rfl trivial ?_
        refine zF_call (k := 150) (cl := 7) (n := 3) (i := .invokevirtual 43) (args := [(17, 0), (19, v1), (0, v2)]) (rest := []) (g1 := (r3.2, hm, o)) (r1 := some (0, r3.1)) (zCk1_w (by decide +kernel)) rfl rfl rfl (st' := [(0, r3.1)]) rfl (S150b (by omega) kR hkR v1 v2 r2 _ q5) ?_
        rcases zI_s e with ⟨q6, e⟩ | ⟨q6, e⟩
        · refine zF_blk (m := []) (d := 1) (b := B149b_11) (gs := [¬ r3.1 = 0]) (c' := (50, [some (17, 0), some (19, v1), some (0, v2), some (0, v3)], [], (r3.2, hm, o))) K149b_11 rfl ⟨q6, trivial⟩ ?_
          obtain ⟨r4, q7, e⟩ := zB_s e
          refine zF_blk (m := []) (d := 0) (b := B149b_8) (gs := []) (c' := (58, [some (17, 0), some (19, v1), some (0, v2), some (0, v3)], [(0, 0), (0, 0), (0, 10), (16, 1)], (r3.2, hm, o))) K149b_8 rfl trivial ?_
          refine zF_call (k := 153) (cl := 6) (n := 4) (i := .invokevirtual 52) (args := [(16, 1), (0, 10), (0, 0), (0, 0)]) (rest := []) (g1 := (r4, hm, o)) (r1 := none) (zCk1_w (by decide +kernel)) rfl rfl rfl (st' := []) rfl (S153 (by omega) 1 10 0 0 r3.2 _ q7) ?_
          refine zF_blk (m := []) (d := 0) (b := B149b_9) (gs := []) (c' := (13, [some (17, 0), some (19, v1), some (0, v2), some (0, (wadd v3 1))], [], (r4, hm, o))) K149b_9 rfl trivial ?_
          exact hk0 v1 v2 (wadd v3 1) r4 _ e
        · refine zF_blk (m := []) (d := 0) (b := B149b_11) (gs := [¬ (¬ r3.1 = 0)]) (c' := (48, [some (17, 0), some (19, v1), some (0, v2), some (0, v3)], [], (r3.2, hm, o))) K149b_11 rfl ⟨q6, trivial⟩ ?_
          refine zF_blk (m := []) (d := 0) (b := B149b_10) (gs := []) (c' := (49, [some (17, 0), some (19, v1), some (0, v2), some (0, v3)], [(0, 0)], (r3.2, hm, o))) K149b_10 rfl trivial ?_
          exact zF_rbC (zRe1_w (by decide +kernel)) (Or.inl rfl) e
/-- EchoVale$SentenceText.readCondition(LEchoVale$Valley;I)Z -/
def F149b (kR : Int → Int → zHC → Option (Int × zHC)) (v1 : Int) (v2 : Int) (h : zHC) : Option (Int × zHC) := (F150b kR v1 v2 h).bind fun r1 => if ¬ r1.1 = 0 then F149b_0 kR zFu v1 v2 0 r1.2 else some (0, r1.2)
set_option maxRecDepth 100000 in
theorem S149b {spec : zRn zH2} {hm : zHM} {o : Int → Int} {d : Nat} {DR : Nat} (hd : DR + 5 ≤ d) (kR : Int → Int → zHC → Option (Int × zHC)) (hkR : ∀ (d' : Nat), DR ≤ d' → ∀ (v1 : Int) (v2 : Int) (h : zHC) (v : (Int × zHC)), kR v1 v2 h = some v → zRu2 spec d' 151 [(17, 0), (19, v1), (0, v2)] (h, hm, o) (some (0, v.1)) (v.2, hm, o)) (v1 : Int) (v2 : Int) (h : zHC) (v : (Int × zHC)) (e : F149b kR v1 v2 h = some v) : zRu2 spec d 149 [(17, 0), (19, v1), (0, v2)] (h, hm, o) (some (0, v.1)) (v.2, hm, o) := by
  refine zF_in (D := DR + 4) (mx := 4) (L := [some (17, 0), some (19, v1), some (0, v2), none]) (by decide +kernel) rfl rfl hd (fun d hd => ?_)
  unfold F149b at e
  obtain ⟨r1, q1, e⟩ := zB_s e
  refine zF_blk (m := []) (d := 0) (b := B149b_0) (gs := []) (c' := (3, [some (17, 0), some (19, v1), some (0, v2), none], [(0, v2), (19, v1), (17, 0)], (h, hm, o))) K149b_0 rfl trivial ?_
  refine zF_call (k := 150) (cl := 7) (n := 3) (i := .invokevirtual 43) (args := [(17, 0), (19, v1), (0, v2)]) (rest := []) (g1 := (r1.2, hm, o)) (r1 := some (0, r1.1)) (zCk1_w (by decide +kernel)) rfl rfl rfl (st' := [(0, r1.1)]) rfl (S150b (by omega) kR hkR v1 v2 h _ q1) ?_
  rcases zI_s e with ⟨q2, e⟩ | ⟨q2, e⟩
  · refine zF_blk (m := []) (d := 1) (b := B149b_3) (gs := [¬ r1.1 = 0]) (c' := (11, [some (17, 0), some (19, v1), some (0, v2), none], [], (r1.2, hm, o))) K149b_3 rfl ⟨q2, trivial⟩ ?_
    refine zF_blk (m := []) (d := 0) (b := B149b_1) (gs := []) (c' := (13, [some (17, 0), some (19, v1), some (0, v2), some (0, 0)], [], (r1.2, hm, o))) K149b_1 rfl trivial ?_
    exact T149b_0 hd kR hkR zFu v1 v2 0 r1.2 _ e
  · refine zF_blk (m := []) (d := 0) (b := B149b_3) (gs := [¬ (¬ r1.1 = 0)]) (c' := (9, [some (17, 0), some (19, v1), some (0, v2), none], [], (r1.2, hm, o))) K149b_3 rfl ⟨q2, trivial⟩ ?_
    refine zF_blk (m := []) (d := 0) (b := B149b_2) (gs := []) (c' := (10, [some (17, 0), some (19, v1), some (0, v2), none], [(0, 0)], (r1.2, hm, o))) K149b_2 rfl trivial ?_
    exact zF_rbC (zRe1_w (by decide +kernel)) (Or.inl rfl) e
noncomputable def B151_0 : List zRow := [(0, .aload_n 0, 1, (0, 0, 0)), (1, .getfield 18, 3, (7, 1, 23)), (4, .bipush 40, 2, (0, 0, 0))]
theorem K151_0 : zRk 151 B151_0 = true := zRw_ok (by decide +kernel)
noncomputable def B151_1 : List zRow := [(23, .aload_n 0, 1, (0, 0, 0)), (24, .getfield 18, 3, (7, 1, 23)), (27, .getfield 66, 3, (5, 6, 0)), (30, .bipush 12, 2, (0, 0, 0)), (32, .if_icmp .ge 12, 3, (0, 0, 0))]
theorem K151_1 : zRk 151 B151_1 = true := zRw_ok (by decide +kernel)
noncomputable def B151_2 : List zRow := [(12, .aload_n 0, 1, (0, 0, 0)), (13, .getfield 18, 3, (7, 1, 23)), (16, .getfield 62, 3, (5, 4, 0)), (19, .iconst 3, 1, (0, 0, 0)), (20, .if_icmp .ne 15, 3, (0, 0, 0))]
theorem K151_2 : zRk 151 B151_2 = true := zRw_ok (by decide +kernel)
noncomputable def B151_3 : List zRow := [(9, .ifCond .ne 35, 3, (0, 0, 0))]
theorem K151_3 : zRk 151 B151_3 = true := zRw_ok (by decide +kernel)
noncomputable def B151_4 : List zRow := [(35, .aload_n 0, 1, (0, 0, 0)), (36, .getfield 18, 3, (7, 1, 23)), (39, .iconst 1, 1, (0, 0, 0))]
theorem K151_4 : zRk 151 B151_4 = true := zRw_ok (by decide +kernel)
noncomputable def B151_5 : List zRow := [(71, .aload_n 0, 1, (0, 0, 0)), (72, .getfield 12, 3, (7, 0, 155)), (75, .dup, 1, (0, 0, 0)), (76, .getfield 69, 3, (6, 0, 0)), (79, .iconst 1, 1, (0, 0, 0)), (80, .iadd, 1, (0, 0, 0)), (81, .putfield 69, 3, (6, 0, 0)), (84, .aload_n 0, 1, (0, 0, 0)), (85, .getfield 18, 3, (7, 1, 23)), (88, .bipush 40, 2, (0, 0, 0))]
theorem K151_5 : zRk 151 B151_5 = true := zRw_ok (by decide +kernel)
noncomputable def B151_6 : List zRow := [(132, .aload_n 0, 1, (0, 0, 0)), (133, .getfield 18, 3, (7, 1, 23)), (136, .bipush 12, 2, (0, 0, 0))]
theorem K151_6 : zRk 151 B151_6 = true := zRw_ok (by decide +kernel)
noncomputable def B151_7 : List zRow := [(177, .aload_n 0, 1, (0, 0, 0)), (178, .aload_n 1, 1, (0, 0, 0))]
theorem K151_7 : zRk 151 B151_7 = true := zRw_ok (by decide +kernel)
noncomputable def B151_8 : List zRow := [(144, .aload_n 0, 1, (0, 0, 0)), (145, .getfield 18, 3, (7, 1, 23))]
theorem K151_8 : zRk 151 B151_8 = true := zRw_ok (by decide +kernel)
noncomputable def B151_9 : List zRow := [(151, .aload_n 0, 1, (0, 0, 0)), (152, .aload_n 1, 1, (0, 0, 0)), (153, .iload_n 2, 1, (0, 0, 0)), (154, .iconst 1, 1, (0, 0, 0)), (155, .iadd, 1, (0, 0, 0))]
theorem K151_9 : zRk 151 B151_9 = true := zRw_ok (by decide +kernel)
noncomputable def B151_10 : List zRow := [(164, .aload_n 0, 1, (0, 0, 0)), (165, .getfield 12, 3, (7, 0, 155)), (168, .bipush 12, 2, (0, 0, 0)), (170, .iconst 0, 1, (0, 0, 0)), (171, .iconst 0, 1, (0, 0, 0))]
theorem K151_10 : zRk 151 B151_10 = true := zRw_ok (by decide +kernel)
noncomputable def B151_11 : List zRow := [(175, .iconst 1, 1, (0, 0, 0))]
theorem K151_11 : zRk 151 B151_11 = true := zRw_ok (by decide +kernel)
noncomputable def B151_12 : List zRow := [(162, .iconst 0, 1, (0, 0, 0))]
theorem K151_12 : zRk 151 B151_12 = true := zRw_ok (by decide +kernel)
noncomputable def B151_13 : List zRow := [(159, .ifCond .ne 5, 3, (0, 0, 0))]
theorem K151_13 : zRk 151 B151_13 = true := zRw_ok (by decide +kernel)
noncomputable def B151_14 : List zRow := [(141, .ifCond .eq 36, 3, (0, 0, 0))]
theorem K151_14 : zRk 151 B151_14 = true := zRw_ok (by decide +kernel)
noncomputable def B151_15 : List zRow := [(96, .aload_n 0, 1, (0, 0, 0)), (97, .getfield 18, 3, (7, 1, 23))]
theorem K151_15 : zRk 151 B151_15 = true := zRw_ok (by decide +kernel)
noncomputable def B151_16 : List zRow := [(103, .aload_n 0, 1, (0, 0, 0)), (104, .aload_n 1, 1, (0, 0, 0)), (105, .iload_n 2, 1, (0, 0, 0)), (106, .iconst 1, 1, (0, 0, 0)), (107, .iadd, 1, (0, 0, 0))]
theorem K151_16 : zRk 151 B151_16 = true := zRw_ok (by decide +kernel)
noncomputable def B151_17 : List zRow := [(130, .iconst 0, 1, (0, 0, 0))]
theorem K151_17 : zRk 151 B151_17 = true := zRw_ok (by decide +kernel)
noncomputable def B151_18 : List zRow := [(114, .aload_n 0, 1, (0, 0, 0)), (115, .getfield 18, 3, (7, 1, 23)), (118, .bipush 41, 2, (0, 0, 0))]
theorem K151_18 : zRk 151 B151_18 = true := zRw_ok (by decide +kernel)
noncomputable def B151_19 : List zRow := [(126, .iconst 1, 1, (0, 0, 0)), (127, .goto 4, 3, (0, 0, 0))]
theorem K151_19 : zRk 151 B151_19 = true := zRw_ok (by decide +kernel)
noncomputable def B151_20 : List zRow := [(123, .ifCond .eq 7, 3, (0, 0, 0))]
theorem K151_20 : zRk 151 B151_20 = true := zRw_ok (by decide +kernel)
noncomputable def B151_21 : List zRow := [(111, .ifCond .eq 19, 3, (0, 0, 0))]
theorem K151_21 : zRk 151 B151_21 = true := zRw_ok (by decide +kernel)
noncomputable def B151_22 : List zRow := [(93, .ifCond .eq 39, 3, (0, 0, 0))]
theorem K151_22 : zRk 151 B151_22 = true := zRw_ok (by decide +kernel)
noncomputable def B151_23 : List zRow := [(56, .iload_n 2, 1, (0, 0, 0)), (57, .bipush 8, 2, (0, 0, 0)), (59, .if_icmp .le 12, 3, (0, 0, 0))]
theorem K151_23 : zRk 151 B151_23 = true := zRw_ok (by decide +kernel)
noncomputable def B151_24 : List zRow := [(44, .aload_n 0, 1, (0, 0, 0)), (45, .getfield 12, 3, (7, 0, 155)), (48, .getfield 69, 3, (6, 0, 0)), (51, .bipush 20, 2, (0, 0, 0)), (53, .if_icmp .ge 9, 3, (0, 0, 0))]
theorem K151_24 : zRk 151 B151_24 = true := zRw_ok (by decide +kernel)
noncomputable def B151_25 : List zRow := [(62, .aload_n 0, 1, (0, 0, 0)), (63, .getfield 18, 3, (7, 1, 23)), (66, .iconst 4, 1, (0, 0, 0))]
theorem K151_25 : zRk 151 B151_25 = true := zRw_ok (by decide +kernel)
def F151_1 (kR : Int → Int → zHC → Option (Int × zHC)) (h : zHC) : Option (Int × zHC) := (F31 1 h).bind fun r1 => zG (r1.1 = 0 ∨ r1.1 = 1) (some (r1.1, r1.2))
set_option maxRecDepth 100000 in
theorem T151_1 {spec : zRn zH2} {hm : zHM} {o : Int → Int} {d : Nat} {DR : Nat} (hd : DR + 5 ≤ d) (kR : Int → Int → zHC → Option (Int × zHC)) (hkR : ∀ (d' : Nat), DR ≤ d' → ∀ (v1 : Int) (v2 : Int) (h : zHC) (v : (Int × zHC)), kR v1 v2 h = some v → zRu2 spec d' 151 [(17, 0), (19, v1), (0, v2)] (h, hm, o) (some (0, v.1)) (v.2, hm, o)) (h : zHC) (v : (Int × zHC)) (e : F151_1 kR h = some v) : zFin 0 (fun _ => 0) (zRu2 spec d) 151 (some (0, v.1)) (v.2, hm, o) (35, [some (17, 0), none, none], [], (h, hm, o)) := by
  unfold F151_1 at e
  obtain ⟨r1, q1, e⟩ := zB_s e
  refine zF_blk (m := []) (d := 0) (b := B151_4) (gs := []) (c' := (40, [some (17, 0), none, none], [(0, 1), (15, 0)], (h, hm, o))) K151_4 rfl trivial ?_
  refine zF_call (k := 31) (cl := 5) (n := 2) (i := .invokevirtual 39) (args := [(15, 0), (0, 1)]) (rest := []) (g1 := (r1.2, hm, o)) (r1 := some (0, r1.1)) (zCk1_w (by decide +kernel)) rfl rfl rfl (st' := [(0, r1.1)]) rfl (S31 (by omega) 1 h _ q1) ?_
  obtain ⟨q2, e⟩ := zG_s e
  exact zF_rbC (zRe1_w (by decide +kernel)) q2 e
def F151_2 (kR : Int → Int → zHC → Option (Int × zHC)) (h : zHC) : Option (Int × zHC) := (F31 4 h).bind fun r1 => zG (r1.1 = 0 ∨ r1.1 = 1) (some (r1.1, r1.2))
set_option maxRecDepth 100000 in
theorem T151_2 {spec : zRn zH2} {hm : zHM} {o : Int → Int} {d : Nat} {DR : Nat} (hd : DR + 5 ≤ d) (kR : Int → Int → zHC → Option (Int × zHC)) (hkR : ∀ (d' : Nat), DR ≤ d' → ∀ (v1 : Int) (v2 : Int) (h : zHC) (v : (Int × zHC)), kR v1 v2 h = some v → zRu2 spec d' 151 [(17, 0), (19, v1), (0, v2)] (h, hm, o) (some (0, v.1)) (v.2, hm, o)) (h : zHC) (v : (Int × zHC)) (e : F151_2 kR h = some v) : zFin 0 (fun _ => 0) (zRu2 spec d) 151 (some (0, v.1)) (v.2, hm, o) (62, [some (17, 0), none, none], [], (h, hm, o)) := by
  unfold F151_2 at e
  obtain ⟨r1, q1, e⟩ := zB_s e
  refine zF_blk (m := []) (d := 0) (b := B151_25) (gs := []) (c' := (67, [some (17, 0), none, none], [(0, 4), (15, 0)], (h, hm, o))) K151_25 rfl trivial ?_
  refine zF_call (k := 31) (cl := 5) (n := 2) (i := .invokevirtual 39) (args := [(15, 0), (0, 4)]) (rest := []) (g1 := (r1.2, hm, o)) (r1 := some (0, r1.1)) (zCk1_w (by decide +kernel)) rfl rfl rfl (st' := [(0, r1.1)]) rfl (S31 (by omega) 4 h _ q1) ?_
  obtain ⟨q2, e⟩ := zG_s e
  exact zF_rbC (zRe1_w (by decide +kernel)) q2 e
def F151_0 (kR : Int → Int → zHC → Option (Int × zHC)) (v1 : Int) (v2 : Int) (h : zHC) : Option (Int × zHC) := if 20 ≤ (h 384 1 0) then F151_2 kR h else if v2 ≤ 8 then (F51 40 (hset h 384 1 0 (wadd (h 384 1 0) 1))).bind fun r1 => if r1 = 0 then (F152 12 (hset h 384 1 0 (wadd (h 384 1 0) 1))).bind fun r2 => if r2 = 0 then (F154 v1 (hset h 384 1 0 (wadd (h 384 1 0) 1))).bind fun r3 => zG (r3.1 = 0 ∨ r3.1 = 1) (some (r3.1, r3.2)) else (F21 (hset h 384 1 0 (wadd (h 384 1 0) 1))).bind fun r4 => (kR v1 (wadd v2 1) r4).bind fun r5 => if ¬ r5.1 = 0 then (F153 1 12 0 0 r5.2).bind fun r6 => some (1, r6) else some (0, r5.2) else (F21 (hset h 384 1 0 (wadd (h 384 1 0) 1))).bind fun r7 => (F149b kR v1 (wadd v2 1) r7).bind fun r8 => if r8.1 = 0 then some (0, r8.2) else (F50 41 r8.2).bind fun r9 => if r9.1 = 0 then some (0, r9.2) else some (1, r9.2) else F151_2 kR h
set_option maxRecDepth 100000 in
theorem T151_0 {spec : zRn zH2} {hm : zHM} {o : Int → Int} {d : Nat} {DR : Nat} (hd : DR + 5 ≤ d) (kR : Int → Int → zHC → Option (Int × zHC)) (hkR : ∀ (d' : Nat), DR ≤ d' → ∀ (v1 : Int) (v2 : Int) (h : zHC) (v : (Int × zHC)), kR v1 v2 h = some v → zRu2 spec d' 151 [(17, 0), (19, v1), (0, v2)] (h, hm, o) (some (0, v.1)) (v.2, hm, o)) (v1 : Int) (v2 : Int) (h : zHC) (v : (Int × zHC)) (e : F151_0 kR v1 v2 h = some v) : zFin 0 (fun _ => 0) (zRu2 spec d) 151 (some (0, v.1)) (v.2, hm, o) (44, [some (17, 0), some (19, v1), some (0, v2)], [], (h, hm, o)) := by
  unfold F151_0 at e
  rcases zI_s e with ⟨q1, e⟩ | ⟨q1, e⟩
  · refine zF_blk (m := []) (d := 1) (b := B151_24) (gs := [20 ≤ (h 384 1 0)]) (c' := (62, [some (17, 0), some (19, v1), some (0, v2)], [], (h, hm, o))) K151_24 rfl ⟨q1, trivial⟩ ?_
    refine zF_blk (m := [true, false, false]) (d := 0) (b := []) (gs := []) (c' := (62, [some (17, 0), none, none], [], (h, hm, o))) rfl rfl trivial ?_
    exact T151_2 hd kR hkR h _ e
  · refine zF_blk (m := []) (d := 0) (b := B151_24) (gs := [¬ (20 ≤ (h 384 1 0))]) (c' := (56, [some (17, 0), some (19, v1), some (0, v2)], [], (h, hm, o))) K151_24 rfl ⟨q1, trivial⟩ ?_
    rcases zI_s e with ⟨q2, e⟩ | ⟨q2, e⟩
    · refine zF_blk (m := []) (d := 1) (b := B151_23) (gs := [v2 ≤ 8]) (c' := (71, [some (17, 0), some (19, v1), some (0, v2)], [], (h, hm, o))) K151_23 rfl ⟨q2, trivial⟩ ?_
      obtain ⟨r1, q3, e⟩ := zB_s e
      refine zF_blk (m := []) (d := 0) (b := B151_5) (gs := []) (c' := (90, [some (17, 0), some (19, v1), some (0, v2)], [(0, 40), (15, 0)], ((hset h 384 1 0 (wadd (h 384 1 0) 1)), hm, o))) K151_5 rfl trivial ?_
      refine zF_call (k := 51) (cl := 5) (n := 2) (i := .invokevirtual 59) (args := [(15, 0), (0, 40)]) (rest := []) (g1 := ((hset h 384 1 0 (wadd (h 384 1 0) 1)), hm, o)) (r1 := some (0, r1)) (zCk1_w (by decide +kernel)) rfl rfl rfl (st' := [(0, r1)]) rfl (S51 (by omega) 40 (hset h 384 1 0 (wadd (h 384 1 0) 1)) _ q3) ?_
      rcases zI_s e with ⟨q4, e⟩ | ⟨q4, e⟩
      · refine zF_blk (m := []) (d := 1) (b := B151_22) (gs := [r1 = 0]) (c' := (132, [some (17, 0), some (19, v1), some (0, v2)], [], ((hset h 384 1 0 (wadd (h 384 1 0) 1)), hm, o))) K151_22 rfl ⟨q4, trivial⟩ ?_
        obtain ⟨r2, q5, e⟩ := zB_s e
        refine zF_blk (m := []) (d := 0) (b := B151_6) (gs := []) (c' := (138, [some (17, 0), some (19, v1), some (0, v2)], [(0, 12), (15, 0)], ((hset h 384 1 0 (wadd (h 384 1 0) 1)), hm, o))) K151_6 rfl trivial ?_
        refine zF_call (k := 152) (cl := 5) (n := 2) (i := .invokevirtual 46) (args := [(15, 0), (0, 12)]) (rest := []) (g1 := ((hset h 384 1 0 (wadd (h 384 1 0) 1)), hm, o)) (r1 := some (0, r2)) (zCk1_w (by decide +kernel)) rfl rfl rfl (st' := [(0, r2)]) rfl (S152 (by omega) 12 (hset h 384 1 0 (wadd (h 384 1 0) 1)) _ q5) ?_
        rcases zI_s e with ⟨q6, e⟩ | ⟨q6, e⟩
        · refine zF_blk (m := []) (d := 1) (b := B151_14) (gs := [r2 = 0]) (c' := (177, [some (17, 0), some (19, v1), some (0, v2)], [], ((hset h 384 1 0 (wadd (h 384 1 0) 1)), hm, o))) K151_14 rfl ⟨q6, trivial⟩ ?_
          obtain ⟨r3, q7, e⟩ := zB_s e
          refine zF_blk (m := []) (d := 0) (b := B151_7) (gs := []) (c' := (179, [some (17, 0), some (19, v1), some (0, v2)], [(19, v1), (17, 0)], ((hset h 384 1 0 (wadd (h 384 1 0) 1)), hm, o))) K151_7 rfl trivial ?_
          refine zF_call (k := 154) (cl := 7) (n := 2) (i := .invokevirtual 75) (args := [(17, 0), (19, v1)]) (rest := []) (g1 := (r3.2, hm, o)) (r1 := some (0, r3.1)) (zCk1_w (by decide +kernel)) rfl rfl rfl (st' := [(0, r3.1)]) rfl (S154 (by omega) v1 (hset h 384 1 0 (wadd (h 384 1 0) 1)) _ q7) ?_
          obtain ⟨q8, e⟩ := zG_s e
          exact zF_rbC (zRe1_w (by decide +kernel)) q8 e
        · refine zF_blk (m := []) (d := 0) (b := B151_14) (gs := [¬ (r2 = 0)]) (c' := (144, [some (17, 0), some (19, v1), some (0, v2)], [], ((hset h 384 1 0 (wadd (h 384 1 0) 1)), hm, o))) K151_14 rfl ⟨q6, trivial⟩ ?_
          obtain ⟨r4, q9, e⟩ := zB_s e
          refine zF_blk (m := []) (d := 0) (b := B151_8) (gs := []) (c' := (148, [some (17, 0), some (19, v1), some (0, v2)], [(15, 0)], ((hset h 384 1 0 (wadd (h 384 1 0) 1)), hm, o))) K151_8 rfl trivial ?_
          refine zF_call (k := 21) (cl := 5) (n := 1) (i := .invokevirtual 49) (args := [(15, 0)]) (rest := []) (g1 := (r4, hm, o)) (r1 := none) (zCk1_w (by decide +kernel)) rfl rfl rfl (st' := []) rfl (S21 (by omega)  (hset h 384 1 0 (wadd (h 384 1 0) 1)) _ q9) ?_
          obtain ⟨r5, q10, e⟩ := zB_s e
          refine zF_blk (m := []) (d := 0) (b := B151_9) (gs := []) (c' := (156, [some (17, 0), some (19, v1), some (0, v2)], [(0, (wadd v2 1)), (19, v1), (17, 0)], (r4, hm, o))) K151_9 rfl trivial ?_
          refine zF_call (k := 151) (cl := 7) (n := 3) (i := .invokevirtual 56) (args := [(17, 0), (19, v1), (0, (wadd v2 1))]) (rest := []) (g1 := (r5.2, hm, o)) (r1 := some (0, r5.1)) (zCk1_w (by decide +kernel)) rfl rfl rfl (st' := [(0, r5.1)]) rfl (hkR _ (by omega) v1 (wadd v2 1) r4 _ q10) ?_
          rcases zI_s e with ⟨q11, e⟩ | ⟨q11, e⟩
          · refine zF_blk (m := []) (d := 1) (b := B151_13) (gs := [¬ r5.1 = 0]) (c' := (164, [some (17, 0), some (19, v1), some (0, v2)], [], (r5.2, hm, o))) K151_13 rfl ⟨q11, trivial⟩ ?_
            obtain ⟨r6, q12, e⟩ := zB_s e
            refine zF_blk (m := []) (d := 0) (b := B151_10) (gs := []) (c' := (172, [some (17, 0), some (19, v1), some (0, v2)], [(0, 0), (0, 0), (0, 12), (16, 1)], (r5.2, hm, o))) K151_10 rfl trivial ?_
            refine zF_call (k := 153) (cl := 6) (n := 4) (i := .invokevirtual 52) (args := [(16, 1), (0, 12), (0, 0), (0, 0)]) (rest := []) (g1 := (r6, hm, o)) (r1 := none) (zCk1_w (by decide +kernel)) rfl rfl rfl (st' := []) rfl (S153 (by omega) 1 12 0 0 r5.2 _ q12) ?_
            refine zF_blk (m := []) (d := 0) (b := B151_11) (gs := []) (c' := (176, [some (17, 0), some (19, v1), some (0, v2)], [(0, 1)], (r6, hm, o))) K151_11 rfl trivial ?_
            exact zF_rbC (zRe1_w (by decide +kernel)) (Or.inr rfl) e
          · refine zF_blk (m := []) (d := 0) (b := B151_13) (gs := [¬ (¬ r5.1 = 0)]) (c' := (162, [some (17, 0), some (19, v1), some (0, v2)], [], (r5.2, hm, o))) K151_13 rfl ⟨q11, trivial⟩ ?_
            refine zF_blk (m := []) (d := 0) (b := B151_12) (gs := []) (c' := (163, [some (17, 0), some (19, v1), some (0, v2)], [(0, 0)], (r5.2, hm, o))) K151_12 rfl trivial ?_
            exact zF_rbC (zRe1_w (by decide +kernel)) (Or.inl rfl) e
      · refine zF_blk (m := []) (d := 0) (b := B151_22) (gs := [¬ (r1 = 0)]) (c' := (96, [some (17, 0), some (19, v1), some (0, v2)], [], ((hset h 384 1 0 (wadd (h 384 1 0) 1)), hm, o))) K151_22 rfl ⟨q4, trivial⟩ ?_
        obtain ⟨r7, q13, e⟩ := zB_s e
        refine zF_blk (m := []) (d := 0) (b := B151_15) (gs := []) (c' := (100, [some (17, 0), some (19, v1), some (0, v2)], [(15, 0)], ((hset h 384 1 0 (wadd (h 384 1 0) 1)), hm, o))) K151_15 rfl trivial ?_
        refine zF_call (k := 21) (cl := 5) (n := 1) (i := .invokevirtual 49) (args := [(15, 0)]) (rest := []) (g1 := (r7, hm, o)) (r1 := none) (zCk1_w (by decide +kernel)) rfl rfl rfl (st' := []) rfl (S21 (by omega)  (hset h 384 1 0 (wadd (h 384 1 0) 1)) _ q13) ?_
        obtain ⟨r8, q14, e⟩ := zB_s e
        refine zF_blk (m := []) (d := 0) (b := B151_16) (gs := []) (c' := (108, [some (17, 0), some (19, v1), some (0, v2)], [(0, (wadd v2 1)), (19, v1), (17, 0)], (r7, hm, o))) K151_16 rfl trivial ?_
        refine zF_call (k := 149) (cl := 7) (n := 3) (i := .invokevirtual 31) (args := [(17, 0), (19, v1), (0, (wadd v2 1))]) (rest := []) (g1 := (r8.2, hm, o)) (r1 := some (0, r8.1)) (zCk1_w (by decide +kernel)) rfl rfl rfl (st' := [(0, r8.1)]) rfl (S149b (by omega) kR hkR v1 (wadd v2 1) r7 _ q14) ?_
        rcases zI_s e with ⟨q15, e⟩ | ⟨q15, e⟩
        · refine zF_blk (m := []) (d := 1) (b := B151_21) (gs := [r8.1 = 0]) (c' := (130, [some (17, 0), some (19, v1), some (0, v2)], [], (r8.2, hm, o))) K151_21 rfl ⟨q15, trivial⟩ ?_
          refine zF_blk (m := []) (d := 0) (b := B151_17) (gs := []) (c' := (131, [some (17, 0), some (19, v1), some (0, v2)], [(0, 0)], (r8.2, hm, o))) K151_17 rfl trivial ?_
          exact zF_rbC (zRe1_w (by decide +kernel)) (Or.inl rfl) e
        · refine zF_blk (m := []) (d := 0) (b := B151_21) (gs := [¬ (r8.1 = 0)]) (c' := (114, [some (17, 0), some (19, v1), some (0, v2)], [], (r8.2, hm, o))) K151_21 rfl ⟨q15, trivial⟩ ?_
          obtain ⟨r9, q16, e⟩ := zB_s e
          refine zF_blk (m := []) (d := 0) (b := B151_18) (gs := []) (c' := (120, [some (17, 0), some (19, v1), some (0, v2)], [(0, 41), (15, 0)], (r8.2, hm, o))) K151_18 rfl trivial ?_
          refine zF_call (k := 50) (cl := 5) (n := 2) (i := .invokevirtual 72) (args := [(15, 0), (0, 41)]) (rest := []) (g1 := (r9.2, hm, o)) (r1 := some (0, r9.1)) (zCk1_w (by decide +kernel)) rfl rfl rfl (st' := [(0, r9.1)]) rfl (S50 (by omega) 41 r8.2 _ q16) ?_
          rcases zI_s e with ⟨q17, e⟩ | ⟨q17, e⟩
          · refine zF_blk (m := []) (d := 1) (b := B151_20) (gs := [r9.1 = 0]) (c' := (130, [some (17, 0), some (19, v1), some (0, v2)], [], (r9.2, hm, o))) K151_20 rfl ⟨q17, trivial⟩ ?_
            refine zF_blk (m := []) (d := 0) (b := B151_17) (gs := []) (c' := (131, [some (17, 0), some (19, v1), some (0, v2)], [(0, 0)], (r9.2, hm, o))) K151_17 rfl trivial ?_
            exact zF_rbC (zRe1_w (by decide +kernel)) (Or.inl rfl) e
          · refine zF_blk (m := []) (d := 0) (b := B151_20) (gs := [¬ (r9.1 = 0)]) (c' := (126, [some (17, 0), some (19, v1), some (0, v2)], [], (r9.2, hm, o))) K151_20 rfl ⟨q17, trivial⟩ ?_
            refine zF_blk (m := []) (d := 0) (b := B151_19) (gs := []) (c' := (131, [some (17, 0), some (19, v1), some (0, v2)], [(0, 1)], (r9.2, hm, o))) K151_19 rfl trivial ?_
            exact zF_rbC (zRe1_w (by decide +kernel)) (Or.inr rfl) e
    · refine zF_blk (m := []) (d := 0) (b := B151_23) (gs := [¬ (v2 ≤ 8)]) (c' := (62, [some (17, 0), some (19, v1), some (0, v2)], [], (h, hm, o))) K151_23 rfl ⟨q2, trivial⟩ ?_
      refine zF_blk (m := [true, false, false]) (d := 0) (b := []) (gs := []) (c' := (62, [some (17, 0), none, none], [], (h, hm, o))) rfl rfl trivial ?_
      exact T151_2 hd kR hkR h _ e
/-- EchoVale$SentenceText.readOne(LEchoVale$Valley;I)Z -/
def F151 (kR : Int → Int → zHC → Option (Int × zHC)) (v1 : Int) (v2 : Int) (h : zHC) : Option (Int × zHC) := (F51 40 h).bind fun r1 => if ¬ r1 = 0 then F151_0 kR v1 v2 h else if ¬ (h 324 0 0) = 3 then F151_1 kR h else if 12 ≤ (h 326 0 0) then F151_0 kR v1 v2 h else F151_1 kR h
set_option maxRecDepth 100000 in
theorem S151 {spec : zRn zH2} {hm : zHM} {o : Int → Int} {d : Nat} {DR : Nat} (hd : DR + 6 ≤ d) (kR : Int → Int → zHC → Option (Int × zHC)) (hkR : ∀ (d' : Nat), DR ≤ d' → ∀ (v1 : Int) (v2 : Int) (h : zHC) (v : (Int × zHC)), kR v1 v2 h = some v → zRu2 spec d' 151 [(17, 0), (19, v1), (0, v2)] (h, hm, o) (some (0, v.1)) (v.2, hm, o)) (v1 : Int) (v2 : Int) (h : zHC) (v : (Int × zHC)) (e : F151 kR v1 v2 h = some v) : zRu2 spec d 151 [(17, 0), (19, v1), (0, v2)] (h, hm, o) (some (0, v.1)) (v.2, hm, o) := by
  refine zF_in (D := DR + 5) (mx := 3) (L := [some (17, 0), some (19, v1), some (0, v2)]) (by decide +kernel) rfl rfl hd (fun d hd => ?_)
  unfold F151 at e
  obtain ⟨r1, q1, e⟩ := zB_s e
  refine zF_blk (m := []) (d := 0) (b := B151_0) (gs := []) (c' := (6, [some (17, 0), some (19, v1), some (0, v2)], [(0, 40), (15, 0)], (h, hm, o))) K151_0 rfl trivial ?_
  refine zF_call (k := 51) (cl := 5) (n := 2) (i := .invokevirtual 59) (args := [(15, 0), (0, 40)]) (rest := []) (g1 := (h, hm, o)) (r1 := some (0, r1)) (zCk1_w (by decide +kernel)) rfl rfl rfl (st' := [(0, r1)]) rfl (S51 (by omega) 40 h _ q1) ?_
  rcases zI_s e with ⟨q2, e⟩ | ⟨q2, e⟩
  · refine zF_blk (m := []) (d := 1) (b := B151_3) (gs := [¬ r1 = 0]) (c' := (44, [some (17, 0), some (19, v1), some (0, v2)], [], (h, hm, o))) K151_3 rfl ⟨q2, trivial⟩ ?_
    exact T151_0 hd kR hkR v1 v2 h _ e
  · refine zF_blk (m := []) (d := 0) (b := B151_3) (gs := [¬ (¬ r1 = 0)]) (c' := (12, [some (17, 0), some (19, v1), some (0, v2)], [], (h, hm, o))) K151_3 rfl ⟨q2, trivial⟩ ?_
    rcases zI_s e with ⟨q3, e⟩ | ⟨q3, e⟩
    · refine zF_blk (m := []) (d := 1) (b := B151_2) (gs := [¬ (h 324 0 0) = 3]) (c' := (35, [some (17, 0), some (19, v1), some (0, v2)], [], (h, hm, o))) K151_2 rfl ⟨q3, trivial⟩ ?_
      refine zF_blk (m := [true, false, false]) (d := 0) (b := []) (gs := []) (c' := (35, [some (17, 0), none, none], [], (h, hm, o))) rfl rfl trivial ?_
      exact T151_1 hd kR hkR h _ e
    · refine zF_blk (m := []) (d := 0) (b := B151_2) (gs := [¬ (¬ (h 324 0 0) = 3)]) (c' := (23, [some (17, 0), some (19, v1), some (0, v2)], [], (h, hm, o))) K151_2 rfl ⟨q3, trivial⟩ ?_
      rcases zI_s e with ⟨q4, e⟩ | ⟨q4, e⟩
      · refine zF_blk (m := []) (d := 1) (b := B151_1) (gs := [12 ≤ (h 326 0 0)]) (c' := (44, [some (17, 0), some (19, v1), some (0, v2)], [], (h, hm, o))) K151_1 rfl ⟨q4, trivial⟩ ?_
        exact T151_0 hd kR hkR v1 v2 h _ e
      · refine zF_blk (m := []) (d := 0) (b := B151_1) (gs := [¬ (12 ≤ (h 326 0 0))]) (c' := (35, [some (17, 0), some (19, v1), some (0, v2)], [], (h, hm, o))) K151_1 rfl ⟨q4, trivial⟩ ?_
        refine zF_blk (m := [true, false, false]) (d := 0) (b := []) (gs := []) (c' := (35, [some (17, 0), none, none], [], (h, hm, o))) rfl rfl trivial ?_
        exact T151_1 hd kR hkR h _ e
def F151r : Nat → Int → Int → zHC → Option (Int × zHC)
  | 0, _, _, _ => none
  | n + 1, v1, v2, h => F151 (F151r n) v1 v2 h
theorem S151r {spec : zRn zH2} {hm : zHM} {o : Int → Int} : ∀ (n : Nat) {d : Nat} (hd : 6 * n ≤ d) (v1 : Int) (v2 : Int) (h : zHC) (v : (Int × zHC)) (e : F151r n v1 v2 h = some v), zRu2 spec d 151 [(17, 0), (19, v1), (0, v2)] (h, hm, o) (some (0, v.1)) (v.2, hm, o) := by
  intro n
  induction n with
  | zero => intro d hd v1 v2 h v e; unfold F151r at e; cases e
  | succ n ih =>
    intro d hd v1 v2 h v e
    unfold F151r at e
    exact S151 (DR := 6 * n) (by omega) (F151r n) (fun d hd v1 v2 h v e => ih hd v1 v2 h v e) v1 v2 h v e
noncomputable def B150_0 : List zRow := [(0, .aload_n 0, 1, (0, 0, 0)), (1, .aload_n 1, 1, (0, 0, 0)), (2, .iload_n 2, 1, (0, 0, 0))]
theorem K150_0 : zRk 150 B150_0 = true := zRw_ok (by decide +kernel)
noncomputable def B150_1 : List zRow := [(11, .iconst 0, 1, (0, 0, 0)), (12, .istore_n 3, 1, (0, 0, 0))]
theorem K150_1 : zRk 150 B150_1 = true := zRw_ok (by decide +kernel)
noncomputable def B150_2 : List zRow := [(9, .iconst 0, 1, (0, 0, 0))]
theorem K150_2 : zRk 150 B150_2 = true := zRw_ok (by decide +kernel)
noncomputable def B150_3 : List zRow := [(6, .ifCond .ne 5, 3, (0, 0, 0))]
theorem K150_3 : zRk 150 B150_3 = true := zRw_ok (by decide +kernel)
noncomputable def B150_4 : List zRow := [(67, .iconst 1, 1, (0, 0, 0))]
theorem K150_4 : zRk 150 B150_4 = true := zRw_ok (by decide +kernel)
noncomputable def B150_5 : List zRow := [(20, .aload_n 0, 1, (0, 0, 0)), (21, .getfield 18, 3, (7, 1, 23)), (24, .bipush 11, 2, (0, 0, 0))]
theorem K150_5 : zRk 150 B150_5 = true := zRw_ok (by decide +kernel)
noncomputable def B150_6 : List zRow := [(32, .aload_n 0, 1, (0, 0, 0)), (33, .getfield 18, 3, (7, 1, 23))]
theorem K150_6 : zRk 150 B150_6 = true := zRw_ok (by decide +kernel)
noncomputable def B150_7 : List zRow := [(39, .aload_n 0, 1, (0, 0, 0)), (40, .aload_n 1, 1, (0, 0, 0)), (41, .iload_n 2, 1, (0, 0, 0))]
theorem K150_7 : zRk 150 B150_7 = true := zRw_ok (by decide +kernel)
noncomputable def B150_8 : List zRow := [(50, .aload_n 0, 1, (0, 0, 0)), (51, .getfield 12, 3, (7, 0, 155)), (54, .bipush 11, 2, (0, 0, 0)), (56, .iconst 0, 1, (0, 0, 0)), (57, .iconst 0, 1, (0, 0, 0))]
theorem K150_8 : zRk 150 B150_8 = true := zRw_ok (by decide +kernel)
noncomputable def B150_9 : List zRow := [(61, .iinc 3 1, 3, (0, 0, 0)), (64, .goto (-51), 3, (0, 0, 0))]
theorem K150_9 : zRk 150 B150_9 = true := zRw_ok (by decide +kernel)
noncomputable def B150_10 : List zRow := [(48, .iconst 0, 1, (0, 0, 0))]
theorem K150_10 : zRk 150 B150_10 = true := zRw_ok (by decide +kernel)
noncomputable def B150_11 : List zRow := [(45, .ifCond .ne 5, 3, (0, 0, 0))]
theorem K150_11 : zRk 150 B150_11 = true := zRw_ok (by decide +kernel)
noncomputable def B150_12 : List zRow := [(29, .ifCond .eq 38, 3, (0, 0, 0))]
theorem K150_12 : zRk 150 B150_12 = true := zRw_ok (by decide +kernel)
noncomputable def B150_13 : List zRow := [(13, .iload_n 3, 1, (0, 0, 0)), (14, .sipush 940, 3, (0, 0, 0)), (17, .if_icmp .ge 50, 3, (0, 0, 0))]
theorem K150_13 : zRk 150 B150_13 = true := zRw_ok (by decide +kernel)
def F150_0 : Nat → Int → Int → Int → zHC → Option (Int × zHC)
  | 0, _, _, _, _ => none
  | n + 1, v1, v2, v3, h => if 940 ≤ v3 then some (1, h) else (F152 11 h).bind fun r1 => if r1 = 0 then some (1, h) else (F21 h).bind fun r2 => (F151r 64 v1 v2 r2).bind fun r3 => if ¬ r3.1 = 0 then (F153 1 11 0 0 r3.2).bind fun r4 => (F150_0 n) v1 v2 (wadd v3 1) r4 else some (0, r3.2)
set_option maxRecDepth 100000 in
theorem T150_0 {spec : zRn zH2} {hm : zHM} {o : Int → Int} {d : Nat} (hd : 384 ≤ d) : ∀ (n : Nat) (v1 : Int) (v2 : Int) (v3 : Int) (h : zHC) (v : (Int × zHC)), F150_0 n v1 v2 v3 h = some v → zFin 0 (fun _ => 0) (zRu2 spec d) 150 (some (0, v.1)) (v.2, hm, o) (13, [some (17, 0), some (19, v1), some (0, v2), some (0, v3)], [], (h, hm, o)) := by
  intro n
  induction n with
  | zero => intro v1 v2 v3 h v e; unfold F150_0 at e; cases e
  | succ n hk0 =>
    intro v1 v2 v3 h v e
    unfold F150_0 at e
    rcases zI_s e with ⟨q1, e⟩ | ⟨q1, e⟩
    · refine zF_blk (m := []) (d := 1) (b := B150_13) (gs := [940 ≤ v3]) (c' := (67, [some (17, 0), some (19, v1), some (0, v2), some (0, v3)], [], (h, hm, o))) K150_13 rfl ⟨q1, trivial⟩ ?_
      refine zF_blk (m := []) (d := 0) (b := B150_4) (gs := []) (c' := (68, [some (17, 0), some (19, v1), some (0, v2), some (0, v3)], [(0, 1)], (h, hm, o))) K150_4 rfl trivial ?_
      exact zF_rbC (zRe1_w (by decide +kernel)) (Or.inr rfl) e
    · refine zF_blk (m := []) (d := 0) (b := B150_13) (gs := [¬ (940 ≤ v3)]) (c' := (20, [some (17, 0), some (19, v1), some (0, v2), some (0, v3)], [], (h, hm, o))) K150_13 rfl ⟨q1, trivial⟩ ?_
      obtain ⟨r1, q2, e⟩ := zB_s e
      refine zF_blk (m := []) (d := 0) (b := B150_5) (gs := []) (c' := (26, [some (17, 0), some (19, v1), some (0, v2), some (0, v3)], [(0, 11), (15, 0)], (h, hm, o))) K150_5 rfl trivial ?_
      refine zF_call (k := 152) (cl := 5) (n := 2) (i := .invokevirtual 46) (args := [(15, 0), (0, 11)]) (rest := []) (g1 := (h, hm, o)) (r1 := some (0, r1)) (zCk1_w (by decide +kernel)) rfl rfl rfl (st' := [(0, r1)]) rfl (S152 (Nat.le_trans (by decide) hd) 11 h _ q2) ?_
      rcases zI_s e with ⟨q3, e⟩ | ⟨q3, e⟩
      · refine zF_blk (m := []) (d := 1) (b := B150_12) (gs := [r1 = 0]) (c' := (67, [some (17, 0), some (19, v1), some (0, v2), some (0, v3)], [], (h, hm, o))) K150_12 rfl ⟨q3, trivial⟩ ?_
        refine zF_blk (m := []) (d := 0) (b := B150_4) (gs := []) (c' := (68, [some (17, 0), some (19, v1), some (0, v2), some (0, v3)], [(0, 1)], (h, hm, o))) K150_4 rfl trivial ?_
        exact zF_rbC (zRe1_w (by decide +kernel)) (Or.inr rfl) e
      · refine zF_blk (m := []) (d := 0) (b := B150_12) (gs := [¬ (r1 = 0)]) (c' := (32, [some (17, 0), some (19, v1), some (0, v2), some (0, v3)], [], (h, hm, o))) K150_12 rfl ⟨q3, trivial⟩ ?_
        obtain ⟨r2, q4, e⟩ := zB_s e
        refine zF_blk (m := []) (d := 0) (b := B150_6) (gs := []) (c' := (36, [some (17, 0), some (19, v1), some (0, v2), some (0, v3)], [(15, 0)], (h, hm, o))) K150_6 rfl trivial ?_
        refine zF_call (k := 21) (cl := 5) (n := 1) (i := .invokevirtual 49) (args := [(15, 0)]) (rest := []) (g1 := (r2, hm, o)) (r1 := none) (zCk1_w (by decide +kernel)) rfl rfl rfl (st' := []) rfl (S21 (Nat.le_trans (by decide) hd)  h _ q4) ?_
        obtain ⟨r3, q5, e⟩ := zB_s e
        refine zF_blk (m := []) (d := 0) (b := B150_7) (gs := []) (c' := (42, [some (17, 0), some (19, v1), some (0, v2), some (0, v3)], [(0, v2), (19, v1), (17, 0)], (r2, hm, o))) K150_7 rfl trivial ?_
        refine zF_call (k := 151) (cl := 7) (n := 3) (i := .invokevirtual 56) (args := [(17, 0), (19, v1), (0, v2)]) (rest := []) (g1 := (r3.2, hm, o)) (r1 := some (0, r3.1)) (zCk1_w (by decide +kernel)) rfl rfl rfl (st' := [(0, r3.1)]) rfl (S151r 64 (Nat.le_trans (by decide) hd) v1 v2 r2 _ q5) ?_
        rcases zI_s e with ⟨q6, e⟩ | ⟨q6, e⟩
        · refine zF_blk (m := []) (d := 1) (b := B150_11) (gs := [¬ r3.1 = 0]) (c' := (50, [some (17, 0), some (19, v1), some (0, v2), some (0, v3)], [], (r3.2, hm, o))) K150_11 rfl ⟨q6, trivial⟩ ?_
          obtain ⟨r4, q7, e⟩ := zB_s e
          refine zF_blk (m := []) (d := 0) (b := B150_8) (gs := []) (c' := (58, [some (17, 0), some (19, v1), some (0, v2), some (0, v3)], [(0, 0), (0, 0), (0, 11), (16, 1)], (r3.2, hm, o))) K150_8 rfl trivial ?_
          refine zF_call (k := 153) (cl := 6) (n := 4) (i := .invokevirtual 52) (args := [(16, 1), (0, 11), (0, 0), (0, 0)]) (rest := []) (g1 := (r4, hm, o)) (r1 := none) (zCk1_w (by decide +kernel)) rfl rfl rfl (st' := []) rfl (S153 (Nat.le_trans (by decide) hd) 1 11 0 0 r3.2 _ q7) ?_
          refine zF_blk (m := []) (d := 0) (b := B150_9) (gs := []) (c' := (13, [some (17, 0), some (19, v1), some (0, v2), some (0, (wadd v3 1))], [], (r4, hm, o))) K150_9 rfl trivial ?_
          exact hk0 v1 v2 (wadd v3 1) r4 _ e
        · refine zF_blk (m := []) (d := 0) (b := B150_11) (gs := [¬ (¬ r3.1 = 0)]) (c' := (48, [some (17, 0), some (19, v1), some (0, v2), some (0, v3)], [], (r3.2, hm, o))) K150_11 rfl ⟨q6, trivial⟩ ?_
          refine zF_blk (m := []) (d := 0) (b := B150_10) (gs := []) (c' := (49, [some (17, 0), some (19, v1), some (0, v2), some (0, v3)], [(0, 0)], (r3.2, hm, o))) K150_10 rfl trivial ?_
          exact zF_rbC (zRe1_w (by decide +kernel)) (Or.inl rfl) e
/-- EchoVale$SentenceText.readJoined(LEchoVale$Valley;I)Z -/
def F150 (v1 : Int) (v2 : Int) (h : zHC) : Option (Int × zHC) := (F151r 64 v1 v2 h).bind fun r1 => if ¬ r1.1 = 0 then F150_0 zFu v1 v2 0 r1.2 else some (0, r1.2)
set_option maxRecDepth 100000 in
theorem S150 {spec : zRn zH2} {hm : zHM} {o : Int → Int} {d : Nat} (hd : 385 ≤ d) (v1 : Int) (v2 : Int) (h : zHC) (v : (Int × zHC)) (e : F150 v1 v2 h = some v) : zRu2 spec d 150 [(17, 0), (19, v1), (0, v2)] (h, hm, o) (some (0, v.1)) (v.2, hm, o) := by
  refine zF_in (D := 384) (mx := 4) (L := [some (17, 0), some (19, v1), some (0, v2), none]) (by decide +kernel) rfl rfl hd (fun d hd => ?_)
  unfold F150 at e
  obtain ⟨r1, q1, e⟩ := zB_s e
  refine zF_blk (m := []) (d := 0) (b := B150_0) (gs := []) (c' := (3, [some (17, 0), some (19, v1), some (0, v2), none], [(0, v2), (19, v1), (17, 0)], (h, hm, o))) K150_0 rfl trivial ?_
  refine zF_call (k := 151) (cl := 7) (n := 3) (i := .invokevirtual 56) (args := [(17, 0), (19, v1), (0, v2)]) (rest := []) (g1 := (r1.2, hm, o)) (r1 := some (0, r1.1)) (zCk1_w (by decide +kernel)) rfl rfl rfl (st' := [(0, r1.1)]) rfl (S151r 64 (Nat.le_trans (by decide) hd) v1 v2 h _ q1) ?_
  rcases zI_s e with ⟨q2, e⟩ | ⟨q2, e⟩
  · refine zF_blk (m := []) (d := 1) (b := B150_3) (gs := [¬ r1.1 = 0]) (c' := (11, [some (17, 0), some (19, v1), some (0, v2), none], [], (r1.2, hm, o))) K150_3 rfl ⟨q2, trivial⟩ ?_
    refine zF_blk (m := []) (d := 0) (b := B150_1) (gs := []) (c' := (13, [some (17, 0), some (19, v1), some (0, v2), some (0, 0)], [], (r1.2, hm, o))) K150_1 rfl trivial ?_
    exact T150_0 hd zFu v1 v2 0 r1.2 _ e
  · refine zF_blk (m := []) (d := 0) (b := B150_3) (gs := [¬ (¬ r1.1 = 0)]) (c' := (9, [some (17, 0), some (19, v1), some (0, v2), none], [], (r1.2, hm, o))) K150_3 rfl ⟨q2, trivial⟩ ?_
    refine zF_blk (m := []) (d := 0) (b := B150_2) (gs := []) (c' := (10, [some (17, 0), some (19, v1), some (0, v2), none], [(0, 0)], (r1.2, hm, o))) K150_2 rfl trivial ?_
    exact zF_rbC (zRe1_w (by decide +kernel)) (Or.inl rfl) e
noncomputable def B149_0 : List zRow := [(0, .aload_n 0, 1, (0, 0, 0)), (1, .aload_n 1, 1, (0, 0, 0)), (2, .iload_n 2, 1, (0, 0, 0))]
theorem K149_0 : zRk 149 B149_0 = true := zRw_ok (by decide +kernel)
noncomputable def B149_1 : List zRow := [(11, .iconst 0, 1, (0, 0, 0)), (12, .istore_n 3, 1, (0, 0, 0))]
theorem K149_1 : zRk 149 B149_1 = true := zRw_ok (by decide +kernel)
noncomputable def B149_2 : List zRow := [(9, .iconst 0, 1, (0, 0, 0))]
theorem K149_2 : zRk 149 B149_2 = true := zRw_ok (by decide +kernel)
noncomputable def B149_3 : List zRow := [(6, .ifCond .ne 5, 3, (0, 0, 0))]
theorem K149_3 : zRk 149 B149_3 = true := zRw_ok (by decide +kernel)
noncomputable def B149_4 : List zRow := [(67, .iconst 1, 1, (0, 0, 0))]
theorem K149_4 : zRk 149 B149_4 = true := zRw_ok (by decide +kernel)
noncomputable def B149_5 : List zRow := [(20, .aload_n 0, 1, (0, 0, 0)), (21, .getfield 18, 3, (7, 1, 23)), (24, .bipush 10, 2, (0, 0, 0))]
theorem K149_5 : zRk 149 B149_5 = true := zRw_ok (by decide +kernel)
noncomputable def B149_6 : List zRow := [(32, .aload_n 0, 1, (0, 0, 0)), (33, .getfield 18, 3, (7, 1, 23))]
theorem K149_6 : zRk 149 B149_6 = true := zRw_ok (by decide +kernel)
noncomputable def B149_7 : List zRow := [(39, .aload_n 0, 1, (0, 0, 0)), (40, .aload_n 1, 1, (0, 0, 0)), (41, .iload_n 2, 1, (0, 0, 0))]
theorem K149_7 : zRk 149 B149_7 = true := zRw_ok (by decide +kernel)
noncomputable def B149_8 : List zRow := [(50, .aload_n 0, 1, (0, 0, 0)), (51, .getfield 12, 3, (7, 0, 155)), (54, .bipush 10, 2, (0, 0, 0)), (56, .iconst 0, 1, (0, 0, 0)), (57, .iconst 0, 1, (0, 0, 0))]
theorem K149_8 : zRk 149 B149_8 = true := zRw_ok (by decide +kernel)
noncomputable def B149_9 : List zRow := [(61, .iinc 3 1, 3, (0, 0, 0)), (64, .goto (-51), 3, (0, 0, 0))]
theorem K149_9 : zRk 149 B149_9 = true := zRw_ok (by decide +kernel)
noncomputable def B149_10 : List zRow := [(48, .iconst 0, 1, (0, 0, 0))]
theorem K149_10 : zRk 149 B149_10 = true := zRw_ok (by decide +kernel)
noncomputable def B149_11 : List zRow := [(45, .ifCond .ne 5, 3, (0, 0, 0))]
theorem K149_11 : zRk 149 B149_11 = true := zRw_ok (by decide +kernel)
noncomputable def B149_12 : List zRow := [(29, .ifCond .eq 38, 3, (0, 0, 0))]
theorem K149_12 : zRk 149 B149_12 = true := zRw_ok (by decide +kernel)
noncomputable def B149_13 : List zRow := [(13, .iload_n 3, 1, (0, 0, 0)), (14, .sipush 940, 3, (0, 0, 0)), (17, .if_icmp .ge 50, 3, (0, 0, 0))]
theorem K149_13 : zRk 149 B149_13 = true := zRw_ok (by decide +kernel)
def F149_0 : Nat → Int → Int → Int → zHC → Option (Int × zHC)
  | 0, _, _, _, _ => none
  | n + 1, v1, v2, v3, h => if 940 ≤ v3 then some (1, h) else (F152 10 h).bind fun r1 => if r1 = 0 then some (1, h) else (F21 h).bind fun r2 => (F150 v1 v2 r2).bind fun r3 => if ¬ r3.1 = 0 then (F153 1 10 0 0 r3.2).bind fun r4 => (F149_0 n) v1 v2 (wadd v3 1) r4 else some (0, r3.2)
set_option maxRecDepth 100000 in
theorem T149_0 {spec : zRn zH2} {hm : zHM} {o : Int → Int} {d : Nat} (hd : 385 ≤ d) : ∀ (n : Nat) (v1 : Int) (v2 : Int) (v3 : Int) (h : zHC) (v : (Int × zHC)), F149_0 n v1 v2 v3 h = some v → zFin 0 (fun _ => 0) (zRu2 spec d) 149 (some (0, v.1)) (v.2, hm, o) (13, [some (17, 0), some (19, v1), some (0, v2), some (0, v3)], [], (h, hm, o)) := by
  intro n
  induction n with
  | zero => intro v1 v2 v3 h v e; unfold F149_0 at e; cases e
  | succ n hk0 =>
    intro v1 v2 v3 h v e
    unfold F149_0 at e
    rcases zI_s e with ⟨q1, e⟩ | ⟨q1, e⟩
    · refine zF_blk (m := []) (d := 1) (b := B149_13) (gs := [940 ≤ v3]) (c' := (67, [some (17, 0), some (19, v1), some (0, v2), some (0, v3)], [], (h, hm, o))) K149_13 rfl ⟨q1, trivial⟩ ?_
      refine zF_blk (m := []) (d := 0) (b := B149_4) (gs := []) (c' := (68, [some (17, 0), some (19, v1), some (0, v2), some (0, v3)], [(0, 1)], (h, hm, o))) K149_4 rfl trivial ?_
      exact zF_rbC (zRe1_w (by decide +kernel)) (Or.inr rfl) e
    · refine zF_blk (m := []) (d := 0) (b := B149_13) (gs := [¬ (940 ≤ v3)]) (c' := (20, [some (17, 0), some (19, v1), some (0, v2), some (0, v3)], [], (h, hm, o))) K149_13 rfl ⟨q1, trivial⟩ ?_
      obtain ⟨r1, q2, e⟩ := zB_s e
      refine zF_blk (m := []) (d := 0) (b := B149_5) (gs := []) (c' := (26, [some (17, 0), some (19, v1), some (0, v2), some (0, v3)], [(0, 10), (15, 0)], (h, hm, o))) K149_5 rfl trivial ?_
      refine zF_call (k := 152) (cl := 5) (n := 2) (i := .invokevirtual 46) (args := [(15, 0), (0, 10)]) (rest := []) (g1 := (h, hm, o)) (r1 := some (0, r1)) (zCk1_w (by decide +kernel)) rfl rfl rfl (st' := [(0, r1)]) rfl (S152 (Nat.le_trans (by decide) hd) 10 h _ q2) ?_
      rcases zI_s e with ⟨q3, e⟩ | ⟨q3, e⟩
      · refine zF_blk (m := []) (d := 1) (b := B149_12) (gs := [r1 = 0]) (c' := (67, [some (17, 0), some (19, v1), some (0, v2), some (0, v3)], [], (h, hm, o))) K149_12 rfl ⟨q3, trivial⟩ ?_
        refine zF_blk (m := []) (d := 0) (b := B149_4) (gs := []) (c' := (68, [some (17, 0), some (19, v1), some (0, v2), some (0, v3)], [(0, 1)], (h, hm, o))) K149_4 rfl trivial ?_
        exact zF_rbC (zRe1_w (by decide +kernel)) (Or.inr rfl) e
      · refine zF_blk (m := []) (d := 0) (b := B149_12) (gs := [¬ (r1 = 0)]) (c' := (32, [some (17, 0), some (19, v1), some (0, v2), some (0, v3)], [], (h, hm, o))) K149_12 rfl ⟨q3, trivial⟩ ?_
        obtain ⟨r2, q4, e⟩ := zB_s e
        refine zF_blk (m := []) (d := 0) (b := B149_6) (gs := []) (c' := (36, [some (17, 0), some (19, v1), some (0, v2), some (0, v3)], [(15, 0)], (h, hm, o))) K149_6 rfl trivial ?_
        refine zF_call (k := 21) (cl := 5) (n := 1) (i := .invokevirtual 49) (args := [(15, 0)]) (rest := []) (g1 := (r2, hm, o)) (r1 := none) (zCk1_w (by decide +kernel)) rfl rfl rfl (st' := []) rfl (S21 (Nat.le_trans (by decide) hd)  h _ q4) ?_
        obtain ⟨r3, q5, e⟩ := zB_s e
        refine zF_blk (m := []) (d := 0) (b := B149_7) (gs := []) (c' := (42, [some (17, 0), some (19, v1), some (0, v2), some (0, v3)], [(0, v2), (19, v1), (17, 0)], (r2, hm, o))) K149_7 rfl trivial ?_
        refine zF_call (k := 150) (cl := 7) (n := 3) (i := .invokevirtual 43) (args := [(17, 0), (19, v1), (0, v2)]) (rest := []) (g1 := (r3.2, hm, o)) (r1 := some (0, r3.1)) (zCk1_w (by decide +kernel)) rfl rfl rfl (st' := [(0, r3.1)]) rfl (S150 (Nat.le_trans (by decide) hd) v1 v2 r2 _ q5) ?_
        rcases zI_s e with ⟨q6, e⟩ | ⟨q6, e⟩
        · refine zF_blk (m := []) (d := 1) (b := B149_11) (gs := [¬ r3.1 = 0]) (c' := (50, [some (17, 0), some (19, v1), some (0, v2), some (0, v3)], [], (r3.2, hm, o))) K149_11 rfl ⟨q6, trivial⟩ ?_
          obtain ⟨r4, q7, e⟩ := zB_s e
          refine zF_blk (m := []) (d := 0) (b := B149_8) (gs := []) (c' := (58, [some (17, 0), some (19, v1), some (0, v2), some (0, v3)], [(0, 0), (0, 0), (0, 10), (16, 1)], (r3.2, hm, o))) K149_8 rfl trivial ?_
          refine zF_call (k := 153) (cl := 6) (n := 4) (i := .invokevirtual 52) (args := [(16, 1), (0, 10), (0, 0), (0, 0)]) (rest := []) (g1 := (r4, hm, o)) (r1 := none) (zCk1_w (by decide +kernel)) rfl rfl rfl (st' := []) rfl (S153 (Nat.le_trans (by decide) hd) 1 10 0 0 r3.2 _ q7) ?_
          refine zF_blk (m := []) (d := 0) (b := B149_9) (gs := []) (c' := (13, [some (17, 0), some (19, v1), some (0, v2), some (0, (wadd v3 1))], [], (r4, hm, o))) K149_9 rfl trivial ?_
          exact hk0 v1 v2 (wadd v3 1) r4 _ e
        · refine zF_blk (m := []) (d := 0) (b := B149_11) (gs := [¬ (¬ r3.1 = 0)]) (c' := (48, [some (17, 0), some (19, v1), some (0, v2), some (0, v3)], [], (r3.2, hm, o))) K149_11 rfl ⟨q6, trivial⟩ ?_
          refine zF_blk (m := []) (d := 0) (b := B149_10) (gs := []) (c' := (49, [some (17, 0), some (19, v1), some (0, v2), some (0, v3)], [(0, 0)], (r3.2, hm, o))) K149_10 rfl trivial ?_
          exact zF_rbC (zRe1_w (by decide +kernel)) (Or.inl rfl) e
/-- EchoVale$SentenceText.readCondition(LEchoVale$Valley;I)Z -/
def F149 (v1 : Int) (v2 : Int) (h : zHC) : Option (Int × zHC) := (F150 v1 v2 h).bind fun r1 => if ¬ r1.1 = 0 then F149_0 zFu v1 v2 0 r1.2 else some (0, r1.2)
set_option maxRecDepth 100000 in
theorem S149 {spec : zRn zH2} {hm : zHM} {o : Int → Int} {d : Nat} (hd : 386 ≤ d) (v1 : Int) (v2 : Int) (h : zHC) (v : (Int × zHC)) (e : F149 v1 v2 h = some v) : zRu2 spec d 149 [(17, 0), (19, v1), (0, v2)] (h, hm, o) (some (0, v.1)) (v.2, hm, o) := by
  refine zF_in (D := 385) (mx := 4) (L := [some (17, 0), some (19, v1), some (0, v2), none]) (by decide +kernel) rfl rfl hd (fun d hd => ?_)
  unfold F149 at e
  obtain ⟨r1, q1, e⟩ := zB_s e
  refine zF_blk (m := []) (d := 0) (b := B149_0) (gs := []) (c' := (3, [some (17, 0), some (19, v1), some (0, v2), none], [(0, v2), (19, v1), (17, 0)], (h, hm, o))) K149_0 rfl trivial ?_
  refine zF_call (k := 150) (cl := 7) (n := 3) (i := .invokevirtual 43) (args := [(17, 0), (19, v1), (0, v2)]) (rest := []) (g1 := (r1.2, hm, o)) (r1 := some (0, r1.1)) (zCk1_w (by decide +kernel)) rfl rfl rfl (st' := [(0, r1.1)]) rfl (S150 (Nat.le_trans (by decide) hd) v1 v2 h _ q1) ?_
  rcases zI_s e with ⟨q2, e⟩ | ⟨q2, e⟩
  · refine zF_blk (m := []) (d := 1) (b := B149_3) (gs := [¬ r1.1 = 0]) (c' := (11, [some (17, 0), some (19, v1), some (0, v2), none], [], (r1.2, hm, o))) K149_3 rfl ⟨q2, trivial⟩ ?_
    refine zF_blk (m := []) (d := 0) (b := B149_1) (gs := []) (c' := (13, [some (17, 0), some (19, v1), some (0, v2), some (0, 0)], [], (r1.2, hm, o))) K149_1 rfl trivial ?_
    exact T149_0 hd zFu v1 v2 0 r1.2 _ e
  · refine zF_blk (m := []) (d := 0) (b := B149_3) (gs := [¬ (¬ r1.1 = 0)]) (c' := (9, [some (17, 0), some (19, v1), some (0, v2), none], [], (r1.2, hm, o))) K149_3 rfl ⟨q2, trivial⟩ ?_
    refine zF_blk (m := []) (d := 0) (b := B149_2) (gs := []) (c' := (10, [some (17, 0), some (19, v1), some (0, v2), none], [(0, 0)], (r1.2, hm, o))) K149_2 rfl trivial ?_
    exact zF_rbC (zRe1_w (by decide +kernel)) (Or.inl rfl) e
noncomputable def B148_0 : List zRow := [(0, .aload_n 0, 1, (0, 0, 0)), (1, .getfield 12, 3, (7, 0, 155))]
theorem K148_0 : zRk 148 B148_0 = true := zRw_ok (by decide +kernel)
noncomputable def B148_1 : List zRow := [(7, .aload_n 0, 1, (0, 0, 0)), (8, .getfield 18, 3, (7, 1, 23)), (11, .sipush 200, 3, (0, 0, 0))]
theorem K148_1 : zRk 148 B148_1 = true := zRw_ok (by decide +kernel)
noncomputable def B148_2 : List zRow := [(17, .aload_n 0, 1, (0, 0, 0)), (18, .aload_n 1, 1, (0, 0, 0)), (19, .iconst 1, 1, (0, 0, 0))]
theorem K148_2 : zRk 148 B148_2 = true := zRw_ok (by decide +kernel)
noncomputable def B148_3 : List zRow := [(51, .iconst 0, 1, (0, 0, 0))]
theorem K148_3 : zRk 148 B148_3 = true := zRw_ok (by decide +kernel)
noncomputable def B148_4 : List zRow := [(26, .aload_n 0, 1, (0, 0, 0)), (27, .getfield 18, 3, (7, 1, 23))]
theorem K148_4 : zRk 148 B148_4 = true := zRw_ok (by decide +kernel)
noncomputable def B148_5 : List zRow := [(36, .aload_n 0, 1, (0, 0, 0)), (37, .getfield 18, 3, (7, 1, 23)), (40, .iconst 1, 1, (0, 0, 0))]
theorem K148_5 : zRk 148 B148_5 = true := zRw_ok (by decide +kernel)
noncomputable def B148_6 : List zRow := [(44, .ifCond .eq 7, 3, (0, 0, 0))]
theorem K148_6 : zRk 148 B148_6 = true := zRw_ok (by decide +kernel)
noncomputable def B148_7 : List zRow := [(33, .ifCond .ne 14, 3, (0, 0, 0))]
theorem K148_7 : zRk 148 B148_7 = true := zRw_ok (by decide +kernel)
noncomputable def B148_8 : List zRow := [(23, .ifCond .eq 28, 3, (0, 0, 0))]
theorem K148_8 : zRk 148 B148_8 = true := zRw_ok (by decide +kernel)
noncomputable def B148_9 : List zRow := [(47, .iconst 1, 1, (0, 0, 0)), (48, .goto 4, 3, (0, 0, 0))]
theorem K148_9 : zRk 148 B148_9 = true := zRw_ok (by decide +kernel)
def F148_0 (h : zHC) : Option (Int × zHC) := some (1, h)
set_option maxRecDepth 100000 in
theorem T148_0 {spec : zRn zH2} {hm : zHM} {o : Int → Int} {d : Nat} (hd : 386 ≤ d) (h : zHC) (v : (Int × zHC)) (e : F148_0 h = some v) : zFin 0 (fun _ => 0) (zRu2 spec d) 148 (some (0, v.1)) (v.2, hm, o) (47, [none, none], [], (h, hm, o)) := by
  unfold F148_0 at e
  refine zF_blk (m := []) (d := 0) (b := B148_9) (gs := []) (c' := (52, [none, none], [(0, 1)], (h, hm, o))) K148_9 rfl trivial ?_
  exact zF_rbC (zRe1_w (by decide +kernel)) (Or.inr rfl) e
/-- EchoVale$SentenceText.readText(LEchoVale$Valley;)Z -/
def F148 (v1 : Int) (h : zHC) : Option (Int × zHC) := (F54 1 h).bind fun r1 => (F20 200 r1).bind fun r2 => (F149 v1 1 r2).bind fun r3 => if r3.1 = 0 then some (0, r3.2) else (F29 r3.2).bind fun r4 => if ¬ r4 = 0 then F148_0 r3.2 else (F31 1 r3.2).bind fun r5 => if r5.1 = 0 then some (0, r5.2) else F148_0 r5.2
set_option maxRecDepth 100000 in
theorem S148 {spec : zRn zH2} {hm : zHM} {o : Int → Int} {d : Nat} (hd : 387 ≤ d) (v1 : Int) (h : zHC) (v : (Int × zHC)) (e : F148 v1 h = some v) : zRu2 spec d 148 [(17, 0), (19, v1)] (h, hm, o) (some (0, v.1)) (v.2, hm, o) := by
  refine zF_in (D := 386) (mx := 2) (L := [some (17, 0), some (19, v1)]) (by decide +kernel) rfl rfl hd (fun d hd => ?_)
  unfold F148 at e
  obtain ⟨r1, q1, e⟩ := zB_s e
  refine zF_blk (m := []) (d := 0) (b := B148_0) (gs := []) (c' := (4, [some (17, 0), some (19, v1)], [(16, 1)], (h, hm, o))) K148_0 rfl trivial ?_
  refine zF_call (k := 54) (cl := 6) (n := 1) (i := .invokevirtual 22) (args := [(16, 1)]) (rest := []) (g1 := (r1, hm, o)) (r1 := none) (zCk1_w (by decide +kernel)) rfl rfl rfl (st' := []) rfl (S54 (Nat.le_trans (by decide) hd) 1 h _ q1) ?_
  obtain ⟨r2, q2, e⟩ := zB_s e
  refine zF_blk (m := []) (d := 0) (b := B148_1) (gs := []) (c' := (14, [some (17, 0), some (19, v1)], [(0, 200), (15, 0)], (r1, hm, o))) K148_1 rfl trivial ?_
  refine zF_call (k := 20) (cl := 5) (n := 2) (i := .invokevirtual 25) (args := [(15, 0), (0, 200)]) (rest := []) (g1 := (r2, hm, o)) (r1 := none) (zCk1_w (by decide +kernel)) rfl rfl rfl (st' := []) rfl (S20 (Nat.le_trans (by decide) hd) 200 r1 _ q2) ?_
  obtain ⟨r3, q3, e⟩ := zB_s e
  refine zF_blk (m := []) (d := 0) (b := B148_2) (gs := []) (c' := (20, [some (17, 0), some (19, v1)], [(0, 1), (19, v1), (17, 0)], (r2, hm, o))) K148_2 rfl trivial ?_
  refine zF_call (k := 149) (cl := 7) (n := 3) (i := .invokevirtual 31) (args := [(17, 0), (19, v1), (0, 1)]) (rest := []) (g1 := (r3.2, hm, o)) (r1 := some (0, r3.1)) (zCk1_w (by decide +kernel)) rfl rfl rfl (st' := [(0, r3.1)]) rfl (S149 (Nat.le_trans (by decide) hd) v1 1 r2 _ q3) ?_
  rcases zI_s e with ⟨q4, e⟩ | ⟨q4, e⟩
  · refine zF_blk (m := []) (d := 1) (b := B148_8) (gs := [r3.1 = 0]) (c' := (51, [some (17, 0), some (19, v1)], [], (r3.2, hm, o))) K148_8 rfl ⟨q4, trivial⟩ ?_
    refine zF_blk (m := []) (d := 0) (b := B148_3) (gs := []) (c' := (52, [some (17, 0), some (19, v1)], [(0, 0)], (r3.2, hm, o))) K148_3 rfl trivial ?_
    exact zF_rbC (zRe1_w (by decide +kernel)) (Or.inl rfl) e
  · refine zF_blk (m := []) (d := 0) (b := B148_8) (gs := [¬ (r3.1 = 0)]) (c' := (26, [some (17, 0), some (19, v1)], [], (r3.2, hm, o))) K148_8 rfl ⟨q4, trivial⟩ ?_
    obtain ⟨r4, q5, e⟩ := zB_s e
    refine zF_blk (m := []) (d := 0) (b := B148_4) (gs := []) (c' := (30, [some (17, 0), some (19, v1)], [(15, 0)], (r3.2, hm, o))) K148_4 rfl trivial ?_
    refine zF_call (k := 29) (cl := 5) (n := 1) (i := .invokevirtual 35) (args := [(15, 0)]) (rest := []) (g1 := (r3.2, hm, o)) (r1 := some (0, r4)) (zCk1_w (by decide +kernel)) rfl rfl rfl (st' := [(0, r4)]) rfl (S29 (Nat.le_trans (by decide) hd)  r3.2 _ q5) ?_
    rcases zI_s e with ⟨q6, e⟩ | ⟨q6, e⟩
    · refine zF_blk (m := []) (d := 1) (b := B148_7) (gs := [¬ r4 = 0]) (c' := (47, [some (17, 0), some (19, v1)], [], (r3.2, hm, o))) K148_7 rfl ⟨q6, trivial⟩ ?_
      refine zF_blk (m := [false, false]) (d := 0) (b := []) (gs := []) (c' := (47, [none, none], [], (r3.2, hm, o))) rfl rfl trivial ?_
      exact T148_0 hd r3.2 _ e
    · refine zF_blk (m := []) (d := 0) (b := B148_7) (gs := [¬ (¬ r4 = 0)]) (c' := (36, [some (17, 0), some (19, v1)], [], (r3.2, hm, o))) K148_7 rfl ⟨q6, trivial⟩ ?_
      obtain ⟨r5, q7, e⟩ := zB_s e
      refine zF_blk (m := []) (d := 0) (b := B148_5) (gs := []) (c' := (41, [some (17, 0), some (19, v1)], [(0, 1), (15, 0)], (r3.2, hm, o))) K148_5 rfl trivial ?_
      refine zF_call (k := 31) (cl := 5) (n := 2) (i := .invokevirtual 39) (args := [(15, 0), (0, 1)]) (rest := []) (g1 := (r5.2, hm, o)) (r1 := some (0, r5.1)) (zCk1_w (by decide +kernel)) rfl rfl rfl (st' := [(0, r5.1)]) rfl (S31 (Nat.le_trans (by decide) hd) 1 r3.2 _ q7) ?_
      rcases zI_s e with ⟨q8, e⟩ | ⟨q8, e⟩
      · refine zF_blk (m := []) (d := 1) (b := B148_6) (gs := [r5.1 = 0]) (c' := (51, [some (17, 0), some (19, v1)], [], (r5.2, hm, o))) K148_6 rfl ⟨q8, trivial⟩ ?_
        refine zF_blk (m := []) (d := 0) (b := B148_3) (gs := []) (c' := (52, [some (17, 0), some (19, v1)], [(0, 0)], (r5.2, hm, o))) K148_3 rfl trivial ?_
        exact zF_rbC (zRe1_w (by decide +kernel)) (Or.inl rfl) e
      · refine zF_blk (m := []) (d := 0) (b := B148_6) (gs := [¬ (r5.1 = 0)]) (c' := (47, [some (17, 0), some (19, v1)], [], (r5.2, hm, o))) K148_6 rfl ⟨q8, trivial⟩ ?_
        refine zF_blk (m := [false, false]) (d := 0) (b := []) (gs := []) (c' := (47, [none, none], [], (r5.2, hm, o))) rfl rfl trivial ?_
        exact T148_0 hd r5.2 _ e
noncomputable def B155_0 : List zRow := [(0, .aload_n 0, 1, (0, 0, 0)), (1, .aload_n 1, 1, (0, 0, 0)), (2, .getfield 19, 3, (6, 0, 0)), (5, .putfield 19, 3, (6, 0, 0)), (8, .aload_n 0, 1, (0, 0, 0)), (9, .aload_n 1, 1, (0, 0, 0)), (10, .getfield 23, 3, (6, 1, 0)), (13, .putfield 23, 3, (6, 1, 0)), (16, .aload_n 1, 1, (0, 0, 0)), (17, .getfield 9, 3, (6, 2, 5243362)), (20, .iconst 0, 1, (0, 0, 0)), (21, .aload_n 0, 1, (0, 0, 0)), (22, .getfield 9, 3, (6, 2, 5243362)), (25, .iconst 0, 1, (0, 0, 0)), (26, .aload_n 0, 1, (0, 0, 0)), (27, .getfield 23, 3, (6, 1, 0)), (30, .iconst 3, 1, (0, 0, 0)), (31, .imul, 1, (0, 0, 0)), (32, .invokestatic 26, 3, (5001, 0, 0))]
theorem K155_0 : zRk 155 B155_0 = true := zRw_ok (by decide +kernel)
/-- EchoVale$Sentence.copyFrom(LEchoVale$Sentence;)V -/
def F155 (v0 : Int) (v1 : Int) (h : zHC) : Option zHC := zG (0 ≤ (wmul ((hset (hset h 384 v0 0 (h 384 v1 0)) 385 v0 0 (h 385 v1 0)) 385 v0 0) 3)) (zG (0 + (wmul ((hset (hset h 384 v0 0 (h 384 v1 0)) 385 v0 0 (h 385 v1 0)) 385 v0 0) 3) ≤ 120) (zG (0 + (wmul ((hset (hset h 384 v0 0 (h 384 v1 0)) 385 v0 0 (h 385 v1 0)) 385 v0 0) 3) ≤ 120) (some (hcpy (hset (hset h 384 v0 0 (h 384 v1 0)) 385 v0 0 (h 385 v1 0)) 386 v0 386 v1 0 0 (wmul ((hset (hset h 384 v0 0 (h 384 v1 0)) 385 v0 0 (h 385 v1 0)) 385 v0 0) 3)))))
set_option maxRecDepth 100000 in
theorem S155 {spec : zRn zH2} {hm : zHM} {o : Int → Int} {d : Nat} (hd : 1 ≤ d) (v0 : Int) (v1 : Int) (h : zHC) (v : zHC) (e : F155 v0 v1 h = some v) : zRu2 spec d 155 [(16, v0), (16, v1)] (h, hm, o) none (v, hm, o) := by
  refine zF_in (D := 0) (mx := 2) (L := [some (16, v0), some (16, v1)]) (by decide +kernel) rfl rfl hd (fun d hd => ?_)
  unfold F155 at e
  obtain ⟨q1, e⟩ := zG_s e
  obtain ⟨q2, e⟩ := zG_s e
  obtain ⟨q2, e⟩ := zG_s e
  refine zF_blk (m := []) (d := 0) (b := B155_0) (gs := [0 ≤ 0, 0 ≤ 0, 0 ≤ (wmul ((hset (hset h 384 v0 0 (h 384 v1 0)) 385 v0 0 (h 385 v1 0)) 385 v0 0) 3), 0 + (wmul ((hset (hset h 384 v0 0 (h 384 v1 0)) 385 v0 0 (h 385 v1 0)) 385 v0 0) 3) ≤ 120, 0 + (wmul ((hset (hset h 384 v0 0 (h 384 v1 0)) 385 v0 0 (h 385 v1 0)) 385 v0 0) 3) ≤ 120]) (c' := (35, [some (16, v0), some (16, v1)], [], ((hcpy (hset (hset h 384 v0 0 (h 384 v1 0)) 385 v0 0 (h 385 v1 0)) 386 v0 386 v1 0 0 (wmul ((hset (hset h 384 v0 0 (h 384 v1 0)) 385 v0 0 (h 385 v1 0)) 385 v0 0) 3)), hm, o))) K155_0 rfl ⟨by decide, by decide, q1, q2, q2, trivial⟩ ?_
  obtain rfl := Option.some.inj e
  exact zF_rv (zRe1_w (by decide +kernel))
noncomputable def B147_0 : List zRow := [(0, .aload_n 0, 1, (0, 0, 0)), (1, .getfield 49, 3, (11, 5, 31)), (4, .aload_n 0, 1, (0, 0, 0)), (5, .getfield 19, 3, (11, 1, 39))]
theorem K147_0 : zRk 147 B147_0 = true := zRw_ok (by decide +kernel)
noncomputable def B147_1 : List zRow := [(34, .aload_n 0, 1, (0, 0, 0)), (35, .getfield 42, 3, (11, 4, 27)), (38, .aload_n 0, 1, (0, 0, 0)), (39, .getfield 49, 3, (11, 5, 31)), (42, .getfield 347, 3, (7, 0, 155))]
theorem K147_1 : zRk 147 B147_1 = true := zRw_ok (by decide +kernel)
noncomputable def B147_2 : List zRow := [(48, .aload_n 0, 1, (0, 0, 0)), (49, .getfield 42, 3, (11, 4, 27)), (52, .getfield 351, 3, (6, 0, 0))]
theorem K147_2 : zRk 147 B147_2 = true := zRw_ok (by decide +kernel)
noncomputable def B147_3 : List zRow := [(24, .iconst (-1), 1, (0, 0, 0)), (25, .aload_n 0, 1, (0, 0, 0)), (26, .getfield 12, 3, (11, 0, 23)), (29, .getfield 116, 3, (5, 3, 0))]
theorem K147_3 : zRk 147 B147_3 = true := zRw_ok (by decide +kernel)
noncomputable def B147_4 : List zRow := [(32, .isub, 1, (0, 0, 0))]
theorem K147_4 : zRk 147 B147_4 = true := zRw_ok (by decide +kernel)
noncomputable def B147_5 : List zRow := [(11, .istore_n 1, 1, (0, 0, 0)), (12, .aload_n 0, 1, (0, 0, 0)), (13, .getfield 12, 3, (11, 0, 23)), (16, .iconst 0, 1, (0, 0, 0)), (17, .putfield 105, 3, (5, 1, 0)), (20, .iload_n 1, 1, (0, 0, 0)), (21, .ifCond .ne 13, 3, (0, 0, 0))]
theorem K147_5 : zRk 147 B147_5 = true := zRw_ok (by decide +kernel)
/-- EchoVale.sentence()I -/
def F147 (h : zHC) : Option (Int × zHC) := (F148 0 h).bind fun r1 => if ¬ r1.1 = 0 then (F155 0 1 (hset r1.2 321 0 0 0)).bind fun r2 => some ((r2 384 0 0), r2) else some ((wsub (-1) (r1.2 323 0 0)), (hset r1.2 321 0 0 0))
set_option maxRecDepth 100000 in
theorem S147 {spec : zRn zH2} {hm : zHM} {o : Int → Int} {d : Nat} (hd : 388 ≤ d) (h : zHC) (v : (Int × zHC)) (e : F147 h = some v) : zRu2 spec d 147 [(21, 0)] (h, hm, o) (some (0, v.1)) (v.2, hm, o) := by
  refine zF_in (D := 387) (mx := 2) (L := [some (21, 0), none]) (by decide +kernel) rfl rfl hd (fun d hd => ?_)
  unfold F147 at e
  obtain ⟨r1, q1, e⟩ := zB_s e
  refine zF_blk (m := []) (d := 0) (b := B147_0) (gs := []) (c' := (8, [some (21, 0), none], [(19, 0), (17, 0)], (h, hm, o))) K147_0 rfl trivial ?_
  refine zF_call (k := 148) (cl := 7) (n := 2) (i := .invokevirtual 344) (args := [(17, 0), (19, 0)]) (rest := []) (g1 := (r1.2, hm, o)) (r1 := some (0, r1.1)) (zCk1_w (by decide +kernel)) rfl rfl rfl (st' := [(0, r1.1)]) rfl (S148 (Nat.le_trans (by decide) hd) 0 h _ q1) ?_
  rcases zI_s e with ⟨q2, e⟩ | ⟨q2, e⟩
  · refine zF_blk (m := []) (d := 1) (b := B147_5) (gs := [¬ r1.1 = 0]) (c' := (34, [some (21, 0), some (0, r1.1)], [], ((hset r1.2 321 0 0 0), hm, o))) K147_5 rfl ⟨q2, trivial⟩ ?_
    obtain ⟨r2, q3, e⟩ := zB_s e
    refine zF_blk (m := []) (d := 0) (b := B147_1) (gs := []) (c' := (45, [some (21, 0), some (0, r1.1)], [(16, 1), (16, 0)], ((hset r1.2 321 0 0 0), hm, o))) K147_1 rfl trivial ?_
    refine zF_call (k := 155) (cl := 6) (n := 2) (i := .invokevirtual 348) (args := [(16, 0), (16, 1)]) (rest := []) (g1 := (r2, hm, o)) (r1 := none) (zCk1_w (by decide +kernel)) rfl rfl rfl (st' := []) rfl (S155 (Nat.le_trans (by decide) hd) 0 1 (hset r1.2 321 0 0 0) _ q3) ?_
    refine zF_blk (m := []) (d := 0) (b := B147_2) (gs := []) (c' := (55, [some (21, 0), some (0, r1.1)], [(0, (r2 384 0 0))], (r2, hm, o))) K147_2 rfl trivial ?_
    exact zF_riC (zRe1_w (by decide +kernel)) e
  · refine zF_blk (m := []) (d := 0) (b := B147_5) (gs := [¬ (¬ r1.1 = 0)]) (c' := (24, [some (21, 0), some (0, r1.1)], [], ((hset r1.2 321 0 0 0), hm, o))) K147_5 rfl ⟨q2, trivial⟩ ?_
    refine zF_blk (m := []) (d := 0) (b := B147_3) (gs := []) (c' := (32, [some (21, 0), some (0, r1.1)], [(0, (r1.2 323 0 0)), (0, (-1))], ((hset r1.2 321 0 0 0), hm, o))) K147_3 rfl trivial ?_
    refine zF_blk (m := []) (d := 0) (b := B147_4) (gs := []) (c' := (33, [some (21, 0), some (0, r1.1)], [(0, (wsub (-1) (r1.2 323 0 0)))], ((hset r1.2 321 0 0 0), hm, o))) K147_4 rfl trivial ?_
    exact zF_riC (zRe1_w (by decide +kernel)) e
noncomputable def B286_0 : List zRow := [(0, .iconst 4, 1, (0, 0, 0)), (1, .aload_n 0, 1, (0, 0, 0)), (2, .getfield 394, 3, (12, 46, 0))]
theorem K286_0 : zRk 286 B286_0 = true := zRw_ok (by decide +kernel)
noncomputable def B286_1 : List zRow := [(5, .imul, 1, (0, 0, 0)), (6, .istore 5, 2, (0, 0, 0)), (8, .aload_n 0, 1, (0, 0, 0)), (9, .getfield 78, 3, (12, 45, 5243842)), (12, .iload 5, 2, (0, 0, 0)), (14, .iload_n 1, 1, (0, 0, 0)), (15, .iastore, 1, (0, 0, 0)), (16, .aload_n 0, 1, (0, 0, 0)), (17, .getfield 78, 3, (12, 45, 5243842)), (20, .iload 5, 2, (0, 0, 0)), (22, .iconst 1, 1, (0, 0, 0)), (23, .iadd, 1, (0, 0, 0)), (24, .iload_n 2, 1, (0, 0, 0)), (25, .iastore, 1, (0, 0, 0)), (26, .aload_n 0, 1, (0, 0, 0)), (27, .getfield 78, 3, (12, 45, 5243842)), (30, .iload 5, 2, (0, 0, 0)), (32, .iconst 2, 1, (0, 0, 0)), (33, .iadd, 1, (0, 0, 0)), (34, .iload_n 3, 1, (0, 0, 0)), (35, .iastore, 1, (0, 0, 0)), (36, .aload_n 0, 1, (0, 0, 0)), (37, .getfield 78, 3, (12, 45, 5243842)), (40, .iload 5, 2, (0, 0, 0)), (42, .iconst 3, 1, (0, 0, 0)), (43, .iadd, 1, (0, 0, 0)), (44, .iload 4, 2, (0, 0, 0)), (46, .iastore, 1, (0, 0, 0)), (47, .aload_n 0, 1, (0, 0, 0)), (48, .dup, 1, (0, 0, 0)), (49, .getfield 394, 3, (12, 46, 0)), (52, .iconst 1, 1, (0, 0, 0)), (53, .iadd, 1, (0, 0, 0)), (54, .putfield 394, 3, (12, 46, 0)), (57, .aload_n 0, 1, (0, 0, 0)), (58, .getfield 394, 3, (12, 46, 0)), (61, .iconst 1, 1, (0, 0, 0)), (62, .isub, 1, (0, 0, 0))]
theorem K286_1 : zRk 286 B286_1 = true := zRw_ok (by decide +kernel)
/-- EchoValeModel.saysOne(IIII)I -/
def F286 (v1 : Int) (v2 : Int) (v3 : Int) (v4 : Int) (h : zHM) : Option (Int × zHM) := zG (0 ≤ (wmul 4 (h 46 0)) ∧ (wmul 4 (h 46 0)) < 240) (zG (0 ≤ (wadd (wmul 4 (h 46 0)) 1) ∧ (wadd (wmul 4 (h 46 0)) 1) < 240) (zG (0 ≤ (wadd (wmul 4 (h 46 0)) 2) ∧ (wadd (wmul 4 (h 46 0)) 2) < 240) (zG (0 ≤ (wadd (wmul 4 (h 46 0)) 3) ∧ (wadd (wmul 4 (h 46 0)) 3) < 240) (some ((wsub (wadd (h 46 0) 1) 1), (mset (mset (mset (mset (mset h 45 (wmul 4 (h 46 0)) v1) 45 (wadd (wmul 4 (h 46 0)) 1) v2) 45 (wadd (wmul 4 (h 46 0)) 2) v3) 45 (wadd (wmul 4 (h 46 0)) 3) v4) 46 0 (wadd (h 46 0) 1)))))))
set_option maxRecDepth 100000 in
theorem S286 {spec : zRn zH2} {hc : zHC} {o : Int → Int} {d : Nat} (hd : 1 ≤ d) (v1 : Int) (v2 : Int) (v3 : Int) (v4 : Int) (h : zHM) (v : (Int × zHM)) (e : F286 v1 v2 v3 v4 h = some v) : zRu2 spec d 286 [(22, 0), (0, v1), (0, v2), (0, v3), (0, v4)] (hc, h, o) (some (0, v.1)) (hc, v.2, o) := by
  refine zF_in (D := 0) (mx := 6) (L := [some (22, 0), some (0, v1), some (0, v2), some (0, v3), some (0, v4), none]) (by decide +kernel) rfl rfl hd (fun d hd => ?_)
  unfold F286 at e
  obtain ⟨q1, e⟩ := zG_s e
  obtain ⟨q2, e⟩ := zG_s e
  obtain ⟨q3, e⟩ := zG_s e
  obtain ⟨q4, e⟩ := zG_s e
  refine zF_blk (m := []) (d := 0) (b := B286_0) (gs := []) (c' := (5, [some (22, 0), some (0, v1), some (0, v2), some (0, v3), some (0, v4), none], [(0, (h 46 0)), (0, 4)], (hc, h, o))) K286_0 rfl trivial ?_
  refine zF_blk (m := []) (d := 0) (b := B286_1) (gs := [0 ≤ (wmul 4 (h 46 0)) ∧ (wmul 4 (h 46 0)) < 240, 0 ≤ (wadd (wmul 4 (h 46 0)) 1) ∧ (wadd (wmul 4 (h 46 0)) 1) < 240, 0 ≤ (wadd (wmul 4 (h 46 0)) 2) ∧ (wadd (wmul 4 (h 46 0)) 2) < 240, 0 ≤ (wadd (wmul 4 (h 46 0)) 3) ∧ (wadd (wmul 4 (h 46 0)) 3) < 240]) (c' := (63, [some (22, 0), some (0, v1), some (0, v2), some (0, v3), some (0, v4), some (0, (wmul 4 (h 46 0)))], [(0, (wsub (wadd (h 46 0) 1) 1))], (hc, (mset (mset (mset (mset (mset h 45 (wmul 4 (h 46 0)) v1) 45 (wadd (wmul 4 (h 46 0)) 1) v2) 45 (wadd (wmul 4 (h 46 0)) 2) v3) 45 (wadd (wmul 4 (h 46 0)) 3) v4) 46 0 (wadd (h 46 0) 1)), o))) K286_1 rfl ⟨q1, q2, q3, q4, trivial⟩ ?_
  exact zF_riM (zRe1_w (by decide +kernel)) e
noncomputable def B288_0 : List zRow := [(0, .aload_n 0, 1, (0, 0, 0)), (1, .bipush 60, 2, (0, 0, 0))]
theorem K288_0 : zRk 288 B288_0 = true := zRw_ok (by decide +kernel)
noncomputable def B288_1 : List zRow := [(9, .aload_n 0, 1, (0, 0, 0)), (10, .bipush 61, 2, (0, 0, 0))]
theorem K288_1 : zRk 288 B288_1 = true := zRw_ok (by decide +kernel)
noncomputable def B288_2 : List zRow := [(18, .aload_n 0, 1, (0, 0, 0)), (19, .bipush 62, 2, (0, 0, 0))]
theorem K288_2 : zRk 288 B288_2 = true := zRw_ok (by decide +kernel)
noncomputable def B288_3 : List zRow := [(27, .aload_n 0, 1, (0, 0, 0)), (28, .iconst 1, 1, (0, 0, 0))]
theorem K288_3 : zRk 288 B288_3 = true := zRw_ok (by decide +kernel)
noncomputable def B288_4 : List zRow := [(24, .ifCond .ne 9, 3, (0, 0, 0))]
theorem K288_4 : zRk 288 B288_4 = true := zRw_ok (by decide +kernel)
noncomputable def B288_5 : List zRow := [(15, .ifCond .ne 18, 3, (0, 0, 0))]
theorem K288_5 : zRk 288 B288_5 = true := zRw_ok (by decide +kernel)
noncomputable def B288_6 : List zRow := [(6, .ifCond .ne 27, 3, (0, 0, 0))]
theorem K288_6 : zRk 288 B288_6 = true := zRw_ok (by decide +kernel)
noncomputable def B288_7 : List zRow := [(33, .aload_n 0, 1, (0, 0, 0)), (34, .getfield 117, 3, (12, 9, 0)), (37, .istore_n 2, 1, (0, 0, 0)), (38, .aload_n 0, 1, (0, 0, 0))]
theorem K288_7 : zRk 288 B288_7 = true := zRw_ok (by decide +kernel)
noncomputable def B288_8 : List zRow := [(42, .aload_n 0, 1, (0, 0, 0)), (43, .iconst 0, 1, (0, 0, 0)), (44, .sipush 999, 3, (0, 0, 0))]
theorem K288_8 : zRk 288 B288_8 = true := zRw_ok (by decide +kernel)
noncomputable def B288_9 : List zRow := [(55, .aload_n 0, 1, (0, 0, 0)), (56, .aload_n 0, 1, (0, 0, 0)), (57, .bipush 50, 2, (0, 0, 0)), (59, .iload_n 1, 1, (0, 0, 0))]
theorem K288_9 : zRk 288 B288_9 = true := zRw_ok (by decide +kernel)
noncomputable def B288_10 : List zRow := [(60, .iadd, 1, (0, 0, 0)), (61, .iconst 0, 1, (0, 0, 0)), (62, .aload_n 0, 1, (0, 0, 0)), (63, .getfield 155, 3, (12, 13, 0)), (66, .iload_n 2, 1, (0, 0, 0))]
theorem K288_10 : zRk 288 B288_10 = true := zRw_ok (by decide +kernel)
noncomputable def B288_11 : List zRow := [(70, .putfield 400, 3, (12, 49, 0)), (73, .iconst 1, 1, (0, 0, 0))]
theorem K288_11 : zRk 288 B288_11 = true := zRw_ok (by decide +kernel)
noncomputable def B288_12 : List zRow := [(53, .iconst 0, 1, (0, 0, 0))]
theorem K288_12 : zRk 288 B288_12 = true := zRw_ok (by decide +kernel)
noncomputable def B288_13 : List zRow := [(50, .ifCond .ne 5, 3, (0, 0, 0))]
theorem K288_13 : zRk 288 B288_13 = true := zRw_ok (by decide +kernel)
def F288_0 (v1 : Int) (h : zHM) : Option (Int × zHM) := (F176 h).bind fun r1 => (F186 0 999 r1).bind fun r2 => if ¬ r2.1 = 0 then (F286 (wadd 50 v1) 0 (r2.2 13 0) (h 9 0) r2.2).bind fun r3 => some (1, (mset r3.2 49 0 r3.1)) else some (0, r2.2)
set_option maxRecDepth 100000 in
theorem T288_0 {spec : zRn zH2} {hc : zHC} {o : Int → Int} {d : Nat} (hd : 3 ≤ d) (v1 : Int) (h : zHM) (v : (Int × zHM)) (e : F288_0 v1 h = some v) : zFin 0 (fun _ => 0) (zRu2 spec d) 288 (some (0, v.1)) (hc, v.2, o) (33, [some (22, 0), some (0, v1), none], [], (hc, h, o)) := by
  unfold F288_0 at e
  obtain ⟨r1, q1, e⟩ := zB_s e
  refine zF_blk (m := []) (d := 0) (b := B288_7) (gs := []) (c' := (39, [some (22, 0), some (0, v1), some (0, (h 9 0))], [(22, 0)], (hc, h, o))) K288_7 rfl trivial ?_
  refine zF_call (k := 176) (cl := 12) (n := 1) (i := .invokevirtual 162) (args := [(22, 0)]) (rest := []) (g1 := (hc, r1, o)) (r1 := none) (zCk1_w (by decide +kernel)) rfl rfl rfl (st' := []) rfl (S176 (Nat.le_trans (by decide) hd)  h _ q1) ?_
  obtain ⟨r2, q2, e⟩ := zB_s e
  refine zF_blk (m := []) (d := 0) (b := B288_8) (gs := []) (c' := (47, [some (22, 0), some (0, v1), some (0, (h 9 0))], [(0, 999), (0, 0), (22, 0)], (hc, r1, o))) K288_8 rfl trivial ?_
  refine zF_call (k := 186) (cl := 12) (n := 3) (i := .invokevirtual 180) (args := [(22, 0), (0, 0), (0, 999)]) (rest := []) (g1 := (hc, r2.2, o)) (r1 := some (0, r2.1)) (zCk1_w (by decide +kernel)) rfl rfl rfl (st' := [(0, r2.1)]) rfl (S186 (Nat.le_trans (by decide) hd) 0 999 r1 _ q2) ?_
  rcases zI_s e with ⟨q3, e⟩ | ⟨q3, e⟩
  · refine zF_blk (m := []) (d := 1) (b := B288_13) (gs := [¬ r2.1 = 0]) (c' := (55, [some (22, 0), some (0, v1), some (0, (h 9 0))], [], (hc, r2.2, o))) K288_13 rfl ⟨q3, trivial⟩ ?_
    refine zF_blk (m := []) (d := 0) (b := B288_9) (gs := []) (c' := (60, [some (22, 0), some (0, v1), some (0, (h 9 0))], [(0, v1), (0, 50), (22, 0), (22, 0)], (hc, r2.2, o))) K288_9 rfl trivial ?_
    obtain ⟨r3, q4, e⟩ := zB_s e
    refine zF_blk (m := []) (d := 0) (b := B288_10) (gs := []) (c' := (67, [some (22, 0), some (0, v1), some (0, (h 9 0))], [(0, (h 9 0)), (0, (r2.2 13 0)), (0, 0), (0, (wadd 50 v1)), (22, 0), (22, 0)], (hc, r2.2, o))) K288_10 rfl trivial ?_
    refine zF_call (k := 286) (cl := 12) (n := 5) (i := .invokevirtual 403) (args := [(22, 0), (0, (wadd 50 v1)), (0, 0), (0, (r2.2 13 0)), (0, (h 9 0))]) (rest := [(22, 0)]) (g1 := (hc, r3.2, o)) (r1 := some (0, r3.1)) (zCk1_w (by decide +kernel)) rfl rfl rfl (st' := [(0, r3.1), (22, 0)]) rfl (S286 (Nat.le_trans (by decide) hd) (wadd 50 v1) 0 (r2.2 13 0) (h 9 0) r2.2 _ q4) ?_
    refine zF_blk (m := []) (d := 0) (b := B288_11) (gs := []) (c' := (74, [some (22, 0), some (0, v1), some (0, (h 9 0))], [(0, 1)], (hc, (mset r3.2 49 0 r3.1), o))) K288_11 rfl trivial ?_
    exact zF_rbM (zRe1_w (by decide +kernel)) (Or.inr rfl) e
  · refine zF_blk (m := []) (d := 0) (b := B288_13) (gs := [¬ (¬ r2.1 = 0)]) (c' := (53, [some (22, 0), some (0, v1), some (0, (h 9 0))], [], (hc, r2.2, o))) K288_13 rfl ⟨q3, trivial⟩ ?_
    refine zF_blk (m := []) (d := 0) (b := B288_12) (gs := []) (c' := (54, [some (22, 0), some (0, v1), some (0, (h 9 0))], [(0, 0)], (hc, r2.2, o))) K288_12 rfl trivial ?_
    exact zF_rbM (zRe1_w (by decide +kernel)) (Or.inl rfl) e
/-- EchoValeModel.readCompare(I)Z -/
def F288 (v1 : Int) (h : zHM) : Option (Int × zHM) := (F202 60 h).bind fun r1 => if ¬ r1 = 0 then F288_0 v1 h else (F202 61 h).bind fun r2 => if ¬ r2 = 0 then F288_0 v1 h else (F202 62 h).bind fun r3 => if ¬ r3 = 0 then F288_0 v1 h else (F185 1 h).bind fun r4 => zG (r4.1 = 0 ∨ r4.1 = 1) (some (r4.1, r4.2))
set_option maxRecDepth 100000 in
theorem S288 {spec : zRn zH2} {hc : zHC} {o : Int → Int} {d : Nat} (hd : 4 ≤ d) (v1 : Int) (h : zHM) (v : (Int × zHM)) (e : F288 v1 h = some v) : zRu2 spec d 288 [(22, 0), (0, v1)] (hc, h, o) (some (0, v.1)) (hc, v.2, o) := by
  refine zF_in (D := 3) (mx := 3) (L := [some (22, 0), some (0, v1), none]) (by decide +kernel) rfl rfl hd (fun d hd => ?_)
  unfold F288 at e
  obtain ⟨r1, q1, e⟩ := zB_s e
  refine zF_blk (m := []) (d := 0) (b := B288_0) (gs := []) (c' := (3, [some (22, 0), some (0, v1), none], [(0, 60), (22, 0)], (hc, h, o))) K288_0 rfl trivial ?_
  refine zF_call (k := 202) (cl := 12) (n := 2) (i := .invokevirtual 165) (args := [(22, 0), (0, 60)]) (rest := []) (g1 := (hc, h, o)) (r1 := some (0, r1)) (zCk1_w (by decide +kernel)) rfl rfl rfl (st' := [(0, r1)]) rfl (S202 (Nat.le_trans (by decide) hd) 60 h _ q1) ?_
  rcases zI_s e with ⟨q2, e⟩ | ⟨q2, e⟩
  · refine zF_blk (m := []) (d := 1) (b := B288_6) (gs := [¬ r1 = 0]) (c' := (33, [some (22, 0), some (0, v1), none], [], (hc, h, o))) K288_6 rfl ⟨q2, trivial⟩ ?_
    exact T288_0 hd v1 h _ e
  · refine zF_blk (m := []) (d := 0) (b := B288_6) (gs := [¬ (¬ r1 = 0)]) (c' := (9, [some (22, 0), some (0, v1), none], [], (hc, h, o))) K288_6 rfl ⟨q2, trivial⟩ ?_
    obtain ⟨r2, q3, e⟩ := zB_s e
    refine zF_blk (m := []) (d := 0) (b := B288_1) (gs := []) (c' := (12, [some (22, 0), some (0, v1), none], [(0, 61), (22, 0)], (hc, h, o))) K288_1 rfl trivial ?_
    refine zF_call (k := 202) (cl := 12) (n := 2) (i := .invokevirtual 165) (args := [(22, 0), (0, 61)]) (rest := []) (g1 := (hc, h, o)) (r1 := some (0, r2)) (zCk1_w (by decide +kernel)) rfl rfl rfl (st' := [(0, r2)]) rfl (S202 (Nat.le_trans (by decide) hd) 61 h _ q3) ?_
    rcases zI_s e with ⟨q4, e⟩ | ⟨q4, e⟩
    · refine zF_blk (m := []) (d := 1) (b := B288_5) (gs := [¬ r2 = 0]) (c' := (33, [some (22, 0), some (0, v1), none], [], (hc, h, o))) K288_5 rfl ⟨q4, trivial⟩ ?_
      exact T288_0 hd v1 h _ e
    · refine zF_blk (m := []) (d := 0) (b := B288_5) (gs := [¬ (¬ r2 = 0)]) (c' := (18, [some (22, 0), some (0, v1), none], [], (hc, h, o))) K288_5 rfl ⟨q4, trivial⟩ ?_
      obtain ⟨r3, q5, e⟩ := zB_s e
      refine zF_blk (m := []) (d := 0) (b := B288_2) (gs := []) (c' := (21, [some (22, 0), some (0, v1), none], [(0, 62), (22, 0)], (hc, h, o))) K288_2 rfl trivial ?_
      refine zF_call (k := 202) (cl := 12) (n := 2) (i := .invokevirtual 165) (args := [(22, 0), (0, 62)]) (rest := []) (g1 := (hc, h, o)) (r1 := some (0, r3)) (zCk1_w (by decide +kernel)) rfl rfl rfl (st' := [(0, r3)]) rfl (S202 (Nat.le_trans (by decide) hd) 62 h _ q5) ?_
      rcases zI_s e with ⟨q6, e⟩ | ⟨q6, e⟩
      · refine zF_blk (m := []) (d := 1) (b := B288_4) (gs := [¬ r3 = 0]) (c' := (33, [some (22, 0), some (0, v1), none], [], (hc, h, o))) K288_4 rfl ⟨q6, trivial⟩ ?_
        exact T288_0 hd v1 h _ e
      · refine zF_blk (m := []) (d := 0) (b := B288_4) (gs := [¬ (¬ r3 = 0)]) (c' := (27, [some (22, 0), some (0, v1), none], [], (hc, h, o))) K288_4 rfl ⟨q6, trivial⟩ ?_
        obtain ⟨r4, q7, e⟩ := zB_s e
        refine zF_blk (m := []) (d := 0) (b := B288_3) (gs := []) (c' := (29, [some (22, 0), some (0, v1), none], [(0, 1), (22, 0)], (hc, h, o))) K288_3 rfl trivial ?_
        refine zF_call (k := 185) (cl := 12) (n := 2) (i := .invokevirtual 148) (args := [(22, 0), (0, 1)]) (rest := []) (g1 := (hc, r4.2, o)) (r1 := some (0, r4.1)) (zCk1_w (by decide +kernel)) rfl rfl rfl (st' := [(0, r4.1)]) rfl (S185 (Nat.le_trans (by decide) hd) 1 h _ q7) ?_
        obtain ⟨q8, e⟩ := zG_s e
        exact zF_rbM (zRe1_w (by decide +kernel)) q8 e
noncomputable def B287_0 : List zRow := [(0, .aload_n 0, 1, (0, 0, 0))]
theorem K287_0 : zRk 287 B287_0 = true := zRw_ok (by decide +kernel)
noncomputable def B287_1 : List zRow := [(13, .aload_n 0, 1, (0, 0, 0)), (14, .getfield 28, 3, (12, 19, 5505074)), (17, .bipush 6, 2, (0, 0, 0)), (19, .aload_n 0, 1, (0, 0, 0)), (20, .getfield 13, 3, (12, 14, 5251442)), (23, .iconst 3, 1, (0, 0, 0)), (24, .iaload, 1, (0, 0, 0)), (25, .aload_n 0, 1, (0, 0, 0)), (26, .getfield 120, 3, (12, 12, 1))]
theorem K287_1 : zRk 287 B287_1 = true := zRw_ok (by decide +kernel)
noncomputable def B287_2 : List zRow := [(44, .aload_n 0, 1, (0, 0, 0)), (45, .aload_n 0, 1, (0, 0, 0)), (46, .bipush 50, 2, (0, 0, 0)), (48, .iload_n 1, 1, (0, 0, 0))]
theorem K287_2 : zRk 287 B287_2 = true := zRw_ok (by decide +kernel)
noncomputable def B287_3 : List zRow := [(49, .iadd, 1, (0, 0, 0)), (50, .iload_n 2, 1, (0, 0, 0)), (51, .iconst 0, 1, (0, 0, 0)), (52, .iconst 0, 1, (0, 0, 0))]
theorem K287_3 : zRk 287 B287_3 = true := zRw_ok (by decide +kernel)
noncomputable def B287_4 : List zRow := [(56, .putfield 400, 3, (12, 49, 0)), (59, .aload_n 0, 1, (0, 0, 0))]
theorem K287_4 : zRk 287 B287_4 = true := zRw_ok (by decide +kernel)
noncomputable def B287_5 : List zRow := [(63, .iconst 1, 1, (0, 0, 0))]
theorem K287_5 : zRk 287 B287_5 = true := zRw_ok (by decide +kernel)
noncomputable def B287_6 : List zRow := [(38, .aload_n 0, 1, (0, 0, 0)), (39, .iconst 3, 1, (0, 0, 0))]
theorem K287_6 : zRk 287 B287_6 = true := zRw_ok (by decide +kernel)
noncomputable def B287_7 : List zRow := [(32, .istore_n 2, 1, (0, 0, 0)), (33, .iload_n 2, 1, (0, 0, 0)), (34, .iconst (-1), 1, (0, 0, 0)), (35, .if_icmp .ne 9, 3, (0, 0, 0))]
theorem K287_7 : zRk 287 B287_7 = true := zRw_ok (by decide +kernel)
noncomputable def B287_8 : List zRow := [(7, .aload_n 0, 1, (0, 0, 0)), (8, .iconst 1, 1, (0, 0, 0))]
theorem K287_8 : zRk 287 B287_8 = true := zRw_ok (by decide +kernel)
noncomputable def B287_9 : List zRow := [(4, .ifCond .ne 9, 3, (0, 0, 0))]
theorem K287_9 : zRk 287 B287_9 = true := zRw_ok (by decide +kernel)
/-- EchoValeModel.readOf(I)Z -/
def F287 (v1 : Int) (h : zHM) : Option (Int × zHM) := (F191 h).bind fun r1 => if ¬ r1 = 0 then (F192b 6 (h 14 3) (h 12 0) h).bind fun r2 => if ¬ r2 = (-1) then (F286 (wadd 50 v1) r2 0 0 h).bind fun r3 => (F176 (mset r3.2 49 0 r3.1)).bind fun r4 => some (1, r4) else (F185 3 h).bind fun r5 => zG (r5.1 = 0 ∨ r5.1 = 1) (some (r5.1, r5.2)) else (F185 1 h).bind fun r6 => zG (r6.1 = 0 ∨ r6.1 = 1) (some (r6.1, r6.2))
set_option maxRecDepth 100000 in
theorem S287 {spec : zRn zH2} {hc : zHC} {o : Int → Int} {d : Nat} (hd : 4 ≤ d) (v1 : Int) (h : zHM) (v : (Int × zHM)) (e : F287 v1 h = some v) : zRu2 spec d 287 [(22, 0), (0, v1)] (hc, h, o) (some (0, v.1)) (hc, v.2, o) := by
  refine zF_in (D := 3) (mx := 3) (L := [some (22, 0), some (0, v1), none]) (by decide +kernel) rfl rfl hd (fun d hd => ?_)
  unfold F287 at e
  obtain ⟨r1, q1, e⟩ := zB_s e
  refine zF_blk (m := []) (d := 0) (b := B287_0) (gs := []) (c' := (1, [some (22, 0), some (0, v1), none], [(22, 0)], (hc, h, o))) K287_0 rfl trivial ?_
  refine zF_call (k := 191) (cl := 12) (n := 1) (i := .invokevirtual 172) (args := [(22, 0)]) (rest := []) (g1 := (hc, h, o)) (r1 := some (0, r1)) (zCk1_w (by decide +kernel)) rfl rfl rfl (st' := [(0, r1)]) rfl (S191 (Nat.le_trans (by decide) hd)  h _ q1) ?_
  rcases zI_s e with ⟨q2, e⟩ | ⟨q2, e⟩
  · refine zF_blk (m := []) (d := 1) (b := B287_9) (gs := [¬ r1 = 0]) (c' := (13, [some (22, 0), some (0, v1), none], [], (hc, h, o))) K287_9 rfl ⟨q2, trivial⟩ ?_
    obtain ⟨r2, q3, e⟩ := zB_s e
    refine zF_blk (m := []) (d := 0) (b := B287_1) (gs := [0 ≤ 3 ∧ 3 < 2140]) (c' := (29, [some (22, 0), some (0, v1), none], [(1, (h 12 0)), (0, (h 14 3)), (0, 6), (1409300219, 0)], (hc, h, o))) K287_1 rfl ⟨by decide, trivial⟩ ?_
    refine zF_call (k := 192) (cl := 12) (n := 4) (i := .invokestatic 176) (args := [(1409300219, 0), (0, 6), (0, (h 14 3)), (1, (h 12 0))]) (rest := []) (g1 := (hc, h, o)) (r1 := some (0, r2)) (zCk1_w (by decide +kernel)) rfl rfl rfl (st' := [(0, r2)]) rfl (S192b (Nat.le_trans (by decide) hd) 6 (h 14 3) (h 12 0) h _ q3) ?_
    rcases zI_s e with ⟨q4, e⟩ | ⟨q4, e⟩
    · refine zF_blk (m := []) (d := 1) (b := B287_7) (gs := [¬ r2 = (-1)]) (c' := (44, [some (22, 0), some (0, v1), some (0, r2)], [], (hc, h, o))) K287_7 rfl ⟨q4, trivial⟩ ?_
      refine zF_blk (m := []) (d := 0) (b := B287_2) (gs := []) (c' := (49, [some (22, 0), some (0, v1), some (0, r2)], [(0, v1), (0, 50), (22, 0), (22, 0)], (hc, h, o))) K287_2 rfl trivial ?_
      obtain ⟨r3, q5, e⟩ := zB_s e
      refine zF_blk (m := []) (d := 0) (b := B287_3) (gs := []) (c' := (53, [some (22, 0), some (0, v1), some (0, r2)], [(0, 0), (0, 0), (0, r2), (0, (wadd 50 v1)), (22, 0), (22, 0)], (hc, h, o))) K287_3 rfl trivial ?_
      refine zF_call (k := 286) (cl := 12) (n := 5) (i := .invokevirtual 403) (args := [(22, 0), (0, (wadd 50 v1)), (0, r2), (0, 0), (0, 0)]) (rest := [(22, 0)]) (g1 := (hc, r3.2, o)) (r1 := some (0, r3.1)) (zCk1_w (by decide +kernel)) rfl rfl rfl (st' := [(0, r3.1), (22, 0)]) rfl (S286 (Nat.le_trans (by decide) hd) (wadd 50 v1) r2 0 0 h _ q5) ?_
      obtain ⟨r4, q6, e⟩ := zB_s e
      refine zF_blk (m := []) (d := 0) (b := B287_4) (gs := []) (c' := (60, [some (22, 0), some (0, v1), some (0, r2)], [(22, 0)], (hc, (mset r3.2 49 0 r3.1), o))) K287_4 rfl trivial ?_
      refine zF_call (k := 176) (cl := 12) (n := 1) (i := .invokevirtual 162) (args := [(22, 0)]) (rest := []) (g1 := (hc, r4, o)) (r1 := none) (zCk1_w (by decide +kernel)) rfl rfl rfl (st' := []) rfl (S176 (Nat.le_trans (by decide) hd)  (mset r3.2 49 0 r3.1) _ q6) ?_
      refine zF_blk (m := []) (d := 0) (b := B287_5) (gs := []) (c' := (64, [some (22, 0), some (0, v1), some (0, r2)], [(0, 1)], (hc, r4, o))) K287_5 rfl trivial ?_
      exact zF_rbM (zRe1_w (by decide +kernel)) (Or.inr rfl) e
    · refine zF_blk (m := []) (d := 0) (b := B287_7) (gs := [¬ (¬ r2 = (-1))]) (c' := (38, [some (22, 0), some (0, v1), some (0, r2)], [], (hc, h, o))) K287_7 rfl ⟨q4, trivial⟩ ?_
      obtain ⟨r5, q7, e⟩ := zB_s e
      refine zF_blk (m := []) (d := 0) (b := B287_6) (gs := []) (c' := (40, [some (22, 0), some (0, v1), some (0, r2)], [(0, 3), (22, 0)], (hc, h, o))) K287_6 rfl trivial ?_
      refine zF_call (k := 185) (cl := 12) (n := 2) (i := .invokevirtual 148) (args := [(22, 0), (0, 3)]) (rest := []) (g1 := (hc, r5.2, o)) (r1 := some (0, r5.1)) (zCk1_w (by decide +kernel)) rfl rfl rfl (st' := [(0, r5.1)]) rfl (S185 (Nat.le_trans (by decide) hd) 3 h _ q7) ?_
      obtain ⟨q8, e⟩ := zG_s e
      exact zF_rbM (zRe1_w (by decide +kernel)) q8 e
  · refine zF_blk (m := []) (d := 0) (b := B287_9) (gs := [¬ (¬ r1 = 0)]) (c' := (7, [some (22, 0), some (0, v1), none], [], (hc, h, o))) K287_9 rfl ⟨q2, trivial⟩ ?_
    obtain ⟨r6, q9, e⟩ := zB_s e
    refine zF_blk (m := []) (d := 0) (b := B287_8) (gs := []) (c' := (9, [some (22, 0), some (0, v1), none], [(0, 1), (22, 0)], (hc, h, o))) K287_8 rfl trivial ?_
    refine zF_call (k := 185) (cl := 12) (n := 2) (i := .invokevirtual 148) (args := [(22, 0), (0, 1)]) (rest := []) (g1 := (hc, r6.2, o)) (r1 := some (0, r6.1)) (zCk1_w (by decide +kernel)) rfl rfl rfl (st' := [(0, r6.1)]) rfl (S185 (Nat.le_trans (by decide) hd) 1 h _ q9) ?_
    obtain ⟨q10, e⟩ := zG_s e
    exact zF_rbM (zRe1_w (by decide +kernel)) q10 e
noncomputable def B285_0 : List zRow := [(0, .aload_n 0, 1, (0, 0, 0))]
theorem K285_0 : zRk 285 B285_0 = true := zRw_ok (by decide +kernel)
noncomputable def B285_1 : List zRow := [(9, .aload_n 0, 1, (0, 0, 0)), (10, .aload_n 0, 1, (0, 0, 0)), (11, .iconst 1, 1, (0, 0, 0)), (12, .aload_n 0, 1, (0, 0, 0)), (13, .getfield 400, 3, (12, 49, 0)), (16, .iconst 0, 1, (0, 0, 0)), (17, .iconst 0, 1, (0, 0, 0))]
theorem K285_1 : zRk 285 B285_1 = true := zRw_ok (by decide +kernel)
noncomputable def B285_2 : List zRow := [(21, .putfield 400, 3, (12, 49, 0)), (24, .iconst 1, 1, (0, 0, 0))]
theorem K285_2 : zRk 285 B285_2 = true := zRw_ok (by decide +kernel)
noncomputable def B285_3 : List zRow := [(7, .iconst 0, 1, (0, 0, 0))]
theorem K285_3 : zRk 285 B285_3 = true := zRw_ok (by decide +kernel)
noncomputable def B285_4 : List zRow := [(4, .ifCond .ne 5, 3, (0, 0, 0))]
theorem K285_4 : zRk 285 B285_4 = true := zRw_ok (by decide +kernel)
/-- EchoValeModel.readNot()Z -/
def F285 (kR : zHM → Option (Int × zHM)) (h : zHM) : Option (Int × zHM) := (kR h).bind fun r1 => if ¬ r1.1 = 0 then (F286 1 (r1.2 49 0) 0 0 r1.2).bind fun r2 => some (1, (mset r2.2 49 0 r2.1)) else some (0, r1.2)
set_option maxRecDepth 100000 in
theorem S285 {spec : zRn zH2} {hc : zHC} {o : Int → Int} {d : Nat} {DR : Nat} (hd : DR + 2 ≤ d) (kR : zHM → Option (Int × zHM)) (hkR : ∀ (d' : Nat), DR ≤ d' → ∀ (h : zHM) (v : (Int × zHM)), kR h = some v → zRu2 spec d' 283 [(22, 0)] (hc, h, o) (some (0, v.1)) (hc, v.2, o)) (h : zHM) (v : (Int × zHM)) (e : F285 kR h = some v) : zRu2 spec d 285 [(22, 0)] (hc, h, o) (some (0, v.1)) (hc, v.2, o) := by
  refine zF_in (D := DR + 1) (mx := 1) (L := [some (22, 0)]) (by decide +kernel) rfl rfl hd (fun d hd => ?_)
  unfold F285 at e
  obtain ⟨r1, q1, e⟩ := zB_s e
  refine zF_blk (m := []) (d := 0) (b := B285_0) (gs := []) (c' := (1, [some (22, 0)], [(22, 0)], (hc, h, o))) K285_0 rfl trivial ?_
  refine zF_call (k := 283) (cl := 12) (n := 1) (i := .invokevirtual 407) (args := [(22, 0)]) (rest := []) (g1 := (hc, r1.2, o)) (r1 := some (0, r1.1)) (zCk1_w (by decide +kernel)) rfl rfl rfl (st' := [(0, r1.1)]) rfl (hkR _ (by omega)  h _ q1) ?_
  rcases zI_s e with ⟨q2, e⟩ | ⟨q2, e⟩
  · refine zF_blk (m := []) (d := 1) (b := B285_4) (gs := [¬ r1.1 = 0]) (c' := (9, [some (22, 0)], [], (hc, r1.2, o))) K285_4 rfl ⟨q2, trivial⟩ ?_
    obtain ⟨r2, q3, e⟩ := zB_s e
    refine zF_blk (m := []) (d := 0) (b := B285_1) (gs := []) (c' := (18, [some (22, 0)], [(0, 0), (0, 0), (0, (r1.2 49 0)), (0, 1), (22, 0), (22, 0)], (hc, r1.2, o))) K285_1 rfl trivial ?_
    refine zF_call (k := 286) (cl := 12) (n := 5) (i := .invokevirtual 403) (args := [(22, 0), (0, 1), (0, (r1.2 49 0)), (0, 0), (0, 0)]) (rest := [(22, 0)]) (g1 := (hc, r2.2, o)) (r1 := some (0, r2.1)) (zCk1_w (by decide +kernel)) rfl rfl rfl (st' := [(0, r2.1), (22, 0)]) rfl (S286 (by omega) 1 (r1.2 49 0) 0 0 r1.2 _ q3) ?_
    refine zF_blk (m := []) (d := 0) (b := B285_2) (gs := []) (c' := (25, [some (22, 0)], [(0, 1)], (hc, (mset r2.2 49 0 r2.1), o))) K285_2 rfl trivial ?_
    exact zF_rbM (zRe1_w (by decide +kernel)) (Or.inr rfl) e
  · refine zF_blk (m := []) (d := 0) (b := B285_4) (gs := [¬ (¬ r1.1 = 0)]) (c' := (7, [some (22, 0)], [], (hc, r1.2, o))) K285_4 rfl ⟨q2, trivial⟩ ?_
    refine zF_blk (m := []) (d := 0) (b := B285_3) (gs := []) (c' := (8, [some (22, 0)], [(0, 0)], (hc, r1.2, o))) K285_3 rfl trivial ?_
    exact zF_rbM (zRe1_w (by decide +kernel)) (Or.inl rfl) e
noncomputable def B282b_0 : List zRow := [(0, .aload_n 0, 1, (0, 0, 0))]
theorem K282b_0 : zRk 282 B282b_0 = true := zRw_ok (by decide +kernel)
noncomputable def B282b_1 : List zRow := [(9, .aload_n 0, 1, (0, 0, 0)), (10, .getfield 400, 3, (12, 49, 0)), (13, .istore_n 1, 1, (0, 0, 0))]
theorem K282b_1 : zRk 282 B282b_1 = true := zRw_ok (by decide +kernel)
noncomputable def B282b_2 : List zRow := [(7, .iconst 0, 1, (0, 0, 0))]
theorem K282b_2 : zRk 282 B282b_2 = true := zRw_ok (by decide +kernel)
noncomputable def B282b_3 : List zRow := [(4, .ifCond .ne 5, 3, (0, 0, 0))]
theorem K282b_3 : zRk 282 B282b_3 = true := zRw_ok (by decide +kernel)
noncomputable def B282b_4 : List zRow := [(14, .aload_n 0, 1, (0, 0, 0)), (15, .bipush 11, 2, (0, 0, 0))]
theorem K282b_4 : zRk 282 B282b_4 = true := zRw_ok (by decide +kernel)
noncomputable def B282b_5 : List zRow := [(51, .aload_n 0, 1, (0, 0, 0)), (52, .iload_n 1, 1, (0, 0, 0)), (53, .putfield 400, 3, (12, 49, 0)), (56, .iconst 1, 1, (0, 0, 0))]
theorem K282b_5 : zRk 282 B282b_5 = true := zRw_ok (by decide +kernel)
noncomputable def B282b_6 : List zRow := [(23, .aload_n 0, 1, (0, 0, 0))]
theorem K282b_6 : zRk 282 B282b_6 = true := zRw_ok (by decide +kernel)
noncomputable def B282b_7 : List zRow := [(27, .aload_n 0, 1, (0, 0, 0))]
theorem K282b_7 : zRk 282 B282b_7 = true := zRw_ok (by decide +kernel)
noncomputable def B282b_8 : List zRow := [(36, .aload_n 0, 1, (0, 0, 0)), (37, .iconst 2, 1, (0, 0, 0)), (38, .iload_n 1, 1, (0, 0, 0)), (39, .aload_n 0, 1, (0, 0, 0)), (40, .getfield 400, 3, (12, 49, 0)), (43, .iconst 0, 1, (0, 0, 0))]
theorem K282b_8 : zRk 282 B282b_8 = true := zRw_ok (by decide +kernel)
noncomputable def B282b_9 : List zRow := [(47, .istore_n 1, 1, (0, 0, 0)), (48, .goto (-34), 3, (0, 0, 0))]
theorem K282b_9 : zRk 282 B282b_9 = true := zRw_ok (by decide +kernel)
noncomputable def B282b_10 : List zRow := [(34, .iconst 0, 1, (0, 0, 0))]
theorem K282b_10 : zRk 282 B282b_10 = true := zRw_ok (by decide +kernel)
noncomputable def B282b_11 : List zRow := [(31, .ifCond .ne 5, 3, (0, 0, 0))]
theorem K282b_11 : zRk 282 B282b_11 = true := zRw_ok (by decide +kernel)
noncomputable def B282b_12 : List zRow := [(20, .ifCond .eq 31, 3, (0, 0, 0))]
theorem K282b_12 : zRk 282 B282b_12 = true := zRw_ok (by decide +kernel)
def F282b_0 (kR : zHM → Option (Int × zHM)) : Nat → Int → zHM → Option (Int × zHM)
  | 0, _, _ => none
  | n + 1, v1, h => (F181 11 h).bind fun r1 => if r1 = 0 then some (1, (mset h 49 0 v1)) else (F176 h).bind fun r2 => (kR r2).bind fun r3 => if ¬ r3.1 = 0 then (F286 2 v1 (r3.2 49 0) 0 r3.2).bind fun r4 => (F282b_0 kR n) r4.1 r4.2 else some (0, r3.2)
set_option maxRecDepth 100000 in
theorem T282b_0 {spec : zRn zH2} {hc : zHC} {o : Int → Int} {d : Nat} {DR : Nat} (hd : DR + 3 ≤ d) (kR : zHM → Option (Int × zHM)) (hkR : ∀ (d' : Nat), DR ≤ d' → ∀ (h : zHM) (v : (Int × zHM)), kR h = some v → zRu2 spec d' 283 [(22, 0)] (hc, h, o) (some (0, v.1)) (hc, v.2, o)) : ∀ (n : Nat) (v1 : Int) (h : zHM) (v : (Int × zHM)), F282b_0 kR n v1 h = some v → zFin 0 (fun _ => 0) (zRu2 spec d) 282 (some (0, v.1)) (hc, v.2, o) (14, [some (22, 0), some (0, v1)], [], (hc, h, o)) := by
  intro n
  induction n with
  | zero => intro v1 h v e; unfold F282b_0 at e; cases e
  | succ n hk0 =>
    intro v1 h v e
    unfold F282b_0 at e
    obtain ⟨r1, q1, e⟩ := zB_s e
    refine zF_blk (m := []) (d := 0) (b := B282b_4) (gs := []) (c' := (17, [some (22, 0), some (0, v1)], [(0, 11), (22, 0)], (hc, h, o))) K282b_4 rfl trivial ?_
    refine zF_call (k := 181) (cl := 12) (n := 2) (i := .invokevirtual 199) (args := [(22, 0), (0, 11)]) (rest := []) (g1 := (hc, h, o)) (r1 := some (0, r1)) (zCk1_w (by decide +kernel)) rfl rfl rfl (st' := [(0, r1)]) rfl (S181 (by omega) 11 h _ q1) ?_
    rcases zI_s e with ⟨q2, e⟩ | ⟨q2, e⟩
    · refine zF_blk (m := []) (d := 1) (b := B282b_12) (gs := [r1 = 0]) (c' := (51, [some (22, 0), some (0, v1)], [], (hc, h, o))) K282b_12 rfl ⟨q2, trivial⟩ ?_
      refine zF_blk (m := []) (d := 0) (b := B282b_5) (gs := []) (c' := (57, [some (22, 0), some (0, v1)], [(0, 1)], (hc, (mset h 49 0 v1), o))) K282b_5 rfl trivial ?_
      exact zF_rbM (zRe1_w (by decide +kernel)) (Or.inr rfl) e
    · refine zF_blk (m := []) (d := 0) (b := B282b_12) (gs := [¬ (r1 = 0)]) (c' := (23, [some (22, 0), some (0, v1)], [], (hc, h, o))) K282b_12 rfl ⟨q2, trivial⟩ ?_
      obtain ⟨r2, q3, e⟩ := zB_s e
      refine zF_blk (m := []) (d := 0) (b := B282b_6) (gs := []) (c' := (24, [some (22, 0), some (0, v1)], [(22, 0)], (hc, h, o))) K282b_6 rfl trivial ?_
      refine zF_call (k := 176) (cl := 12) (n := 1) (i := .invokevirtual 162) (args := [(22, 0)]) (rest := []) (g1 := (hc, r2, o)) (r1 := none) (zCk1_w (by decide +kernel)) rfl rfl rfl (st' := []) rfl (S176 (by omega)  h _ q3) ?_
      obtain ⟨r3, q4, e⟩ := zB_s e
      refine zF_blk (m := []) (d := 0) (b := B282b_7) (gs := []) (c' := (28, [some (22, 0), some (0, v1)], [(22, 0)], (hc, r2, o))) K282b_7 rfl trivial ?_
      refine zF_call (k := 283) (cl := 12) (n := 1) (i := .invokevirtual 407) (args := [(22, 0)]) (rest := []) (g1 := (hc, r3.2, o)) (r1 := some (0, r3.1)) (zCk1_w (by decide +kernel)) rfl rfl rfl (st' := [(0, r3.1)]) rfl (hkR _ (by omega)  r2 _ q4) ?_
      rcases zI_s e with ⟨q5, e⟩ | ⟨q5, e⟩
      · refine zF_blk (m := []) (d := 1) (b := B282b_11) (gs := [¬ r3.1 = 0]) (c' := (36, [some (22, 0), some (0, v1)], [], (hc, r3.2, o))) K282b_11 rfl ⟨q5, trivial⟩ ?_
        obtain ⟨r4, q6, e⟩ := zB_s e
        refine zF_blk (m := []) (d := 0) (b := B282b_8) (gs := []) (c' := (44, [some (22, 0), some (0, v1)], [(0, 0), (0, (r3.2 49 0)), (0, v1), (0, 2), (22, 0)], (hc, r3.2, o))) K282b_8 rfl trivial ?_
        refine zF_call (k := 286) (cl := 12) (n := 5) (i := .invokevirtual 403) (args := [(22, 0), (0, 2), (0, v1), (0, (r3.2 49 0)), (0, 0)]) (rest := []) (g1 := (hc, r4.2, o)) (r1 := some (0, r4.1)) (zCk1_w (by decide +kernel)) rfl rfl rfl (st' := [(0, r4.1)]) rfl (S286 (by omega) 2 v1 (r3.2 49 0) 0 r3.2 _ q6) ?_
        refine zF_blk (m := []) (d := 0) (b := B282b_9) (gs := []) (c' := (14, [some (22, 0), some (0, r4.1)], [], (hc, r4.2, o))) K282b_9 rfl trivial ?_
        exact hk0 r4.1 r4.2 _ e
      · refine zF_blk (m := []) (d := 0) (b := B282b_11) (gs := [¬ (¬ r3.1 = 0)]) (c' := (34, [some (22, 0), some (0, v1)], [], (hc, r3.2, o))) K282b_11 rfl ⟨q5, trivial⟩ ?_
        refine zF_blk (m := []) (d := 0) (b := B282b_10) (gs := []) (c' := (35, [some (22, 0), some (0, v1)], [(0, 0)], (hc, r3.2, o))) K282b_10 rfl trivial ?_
        exact zF_rbM (zRe1_w (by decide +kernel)) (Or.inl rfl) e
/-- EchoValeModel.readAnd()Z -/
def F282b (kR : zHM → Option (Int × zHM)) (h : zHM) : Option (Int × zHM) := (kR h).bind fun r1 => if ¬ r1.1 = 0 then F282b_0 kR zFu (r1.2 49 0) r1.2 else some (0, r1.2)
set_option maxRecDepth 100000 in
theorem S282b {spec : zRn zH2} {hc : zHC} {o : Int → Int} {d : Nat} {DR : Nat} (hd : DR + 4 ≤ d) (kR : zHM → Option (Int × zHM)) (hkR : ∀ (d' : Nat), DR ≤ d' → ∀ (h : zHM) (v : (Int × zHM)), kR h = some v → zRu2 spec d' 283 [(22, 0)] (hc, h, o) (some (0, v.1)) (hc, v.2, o)) (h : zHM) (v : (Int × zHM)) (e : F282b kR h = some v) : zRu2 spec d 282 [(22, 0)] (hc, h, o) (some (0, v.1)) (hc, v.2, o) := by
  refine zF_in (D := DR + 3) (mx := 2) (L := [some (22, 0), none]) (by decide +kernel) rfl rfl hd (fun d hd => ?_)
  unfold F282b at e
  obtain ⟨r1, q1, e⟩ := zB_s e
  refine zF_blk (m := []) (d := 0) (b := B282b_0) (gs := []) (c' := (1, [some (22, 0), none], [(22, 0)], (hc, h, o))) K282b_0 rfl trivial ?_
  refine zF_call (k := 283) (cl := 12) (n := 1) (i := .invokevirtual 407) (args := [(22, 0)]) (rest := []) (g1 := (hc, r1.2, o)) (r1 := some (0, r1.1)) (zCk1_w (by decide +kernel)) rfl rfl rfl (st' := [(0, r1.1)]) rfl (hkR _ (by omega)  h _ q1) ?_
  rcases zI_s e with ⟨q2, e⟩ | ⟨q2, e⟩
  · refine zF_blk (m := []) (d := 1) (b := B282b_3) (gs := [¬ r1.1 = 0]) (c' := (9, [some (22, 0), none], [], (hc, r1.2, o))) K282b_3 rfl ⟨q2, trivial⟩ ?_
    refine zF_blk (m := []) (d := 0) (b := B282b_1) (gs := []) (c' := (14, [some (22, 0), some (0, (r1.2 49 0))], [], (hc, r1.2, o))) K282b_1 rfl trivial ?_
    exact T282b_0 hd kR hkR zFu (r1.2 49 0) r1.2 _ e
  · refine zF_blk (m := []) (d := 0) (b := B282b_3) (gs := [¬ (¬ r1.1 = 0)]) (c' := (7, [some (22, 0), none], [], (hc, r1.2, o))) K282b_3 rfl ⟨q2, trivial⟩ ?_
    refine zF_blk (m := []) (d := 0) (b := B282b_2) (gs := []) (c' := (8, [some (22, 0), none], [(0, 0)], (hc, r1.2, o))) K282b_2 rfl trivial ?_
    exact zF_rbM (zRe1_w (by decide +kernel)) (Or.inl rfl) e
noncomputable def B281b_0 : List zRow := [(0, .aload_n 0, 1, (0, 0, 0))]
theorem K281b_0 : zRk 281 B281b_0 = true := zRw_ok (by decide +kernel)
noncomputable def B281b_1 : List zRow := [(9, .aload_n 0, 1, (0, 0, 0)), (10, .getfield 400, 3, (12, 49, 0)), (13, .istore_n 1, 1, (0, 0, 0))]
theorem K281b_1 : zRk 281 B281b_1 = true := zRw_ok (by decide +kernel)
noncomputable def B281b_2 : List zRow := [(7, .iconst 0, 1, (0, 0, 0))]
theorem K281b_2 : zRk 281 B281b_2 = true := zRw_ok (by decide +kernel)
noncomputable def B281b_3 : List zRow := [(4, .ifCond .ne 5, 3, (0, 0, 0))]
theorem K281b_3 : zRk 281 B281b_3 = true := zRw_ok (by decide +kernel)
noncomputable def B281b_4 : List zRow := [(14, .aload_n 0, 1, (0, 0, 0)), (15, .bipush 10, 2, (0, 0, 0))]
theorem K281b_4 : zRk 281 B281b_4 = true := zRw_ok (by decide +kernel)
noncomputable def B281b_5 : List zRow := [(51, .aload_n 0, 1, (0, 0, 0)), (52, .iload_n 1, 1, (0, 0, 0)), (53, .putfield 400, 3, (12, 49, 0)), (56, .iconst 1, 1, (0, 0, 0))]
theorem K281b_5 : zRk 281 B281b_5 = true := zRw_ok (by decide +kernel)
noncomputable def B281b_6 : List zRow := [(23, .aload_n 0, 1, (0, 0, 0))]
theorem K281b_6 : zRk 281 B281b_6 = true := zRw_ok (by decide +kernel)
noncomputable def B281b_7 : List zRow := [(27, .aload_n 0, 1, (0, 0, 0))]
theorem K281b_7 : zRk 281 B281b_7 = true := zRw_ok (by decide +kernel)
noncomputable def B281b_8 : List zRow := [(36, .aload_n 0, 1, (0, 0, 0)), (37, .iconst 3, 1, (0, 0, 0)), (38, .iload_n 1, 1, (0, 0, 0)), (39, .aload_n 0, 1, (0, 0, 0)), (40, .getfield 400, 3, (12, 49, 0)), (43, .iconst 0, 1, (0, 0, 0))]
theorem K281b_8 : zRk 281 B281b_8 = true := zRw_ok (by decide +kernel)
noncomputable def B281b_9 : List zRow := [(47, .istore_n 1, 1, (0, 0, 0)), (48, .goto (-34), 3, (0, 0, 0))]
theorem K281b_9 : zRk 281 B281b_9 = true := zRw_ok (by decide +kernel)
noncomputable def B281b_10 : List zRow := [(34, .iconst 0, 1, (0, 0, 0))]
theorem K281b_10 : zRk 281 B281b_10 = true := zRw_ok (by decide +kernel)
noncomputable def B281b_11 : List zRow := [(31, .ifCond .ne 5, 3, (0, 0, 0))]
theorem K281b_11 : zRk 281 B281b_11 = true := zRw_ok (by decide +kernel)
noncomputable def B281b_12 : List zRow := [(20, .ifCond .eq 31, 3, (0, 0, 0))]
theorem K281b_12 : zRk 281 B281b_12 = true := zRw_ok (by decide +kernel)
def F281b_0 (kR : zHM → Option (Int × zHM)) : Nat → Int → zHM → Option (Int × zHM)
  | 0, _, _ => none
  | n + 1, v1, h => (F181 10 h).bind fun r1 => if r1 = 0 then some (1, (mset h 49 0 v1)) else (F176 h).bind fun r2 => (F282b kR r2).bind fun r3 => if ¬ r3.1 = 0 then (F286 3 v1 (r3.2 49 0) 0 r3.2).bind fun r4 => (F281b_0 kR n) r4.1 r4.2 else some (0, r3.2)
set_option maxRecDepth 100000 in
theorem T281b_0 {spec : zRn zH2} {hc : zHC} {o : Int → Int} {d : Nat} {DR : Nat} (hd : DR + 4 ≤ d) (kR : zHM → Option (Int × zHM)) (hkR : ∀ (d' : Nat), DR ≤ d' → ∀ (h : zHM) (v : (Int × zHM)), kR h = some v → zRu2 spec d' 283 [(22, 0)] (hc, h, o) (some (0, v.1)) (hc, v.2, o)) : ∀ (n : Nat) (v1 : Int) (h : zHM) (v : (Int × zHM)), F281b_0 kR n v1 h = some v → zFin 0 (fun _ => 0) (zRu2 spec d) 281 (some (0, v.1)) (hc, v.2, o) (14, [some (22, 0), some (0, v1)], [], (hc, h, o)) := by
  intro n
  induction n with
  | zero => intro v1 h v e; unfold F281b_0 at e; cases e
  | succ n hk0 =>
    intro v1 h v e
    unfold F281b_0 at e
    obtain ⟨r1, q1, e⟩ := zB_s e
    refine zF_blk (m := []) (d := 0) (b := B281b_4) (gs := []) (c' := (17, [some (22, 0), some (0, v1)], [(0, 10), (22, 0)], (hc, h, o))) K281b_4 rfl trivial ?_
    refine zF_call (k := 181) (cl := 12) (n := 2) (i := .invokevirtual 199) (args := [(22, 0), (0, 10)]) (rest := []) (g1 := (hc, h, o)) (r1 := some (0, r1)) (zCk1_w (by decide +kernel)) rfl rfl rfl (st' := [(0, r1)]) rfl (S181 (by omega) 10 h _ q1) ?_
    rcases zI_s e with ⟨q2, e⟩ | ⟨q2, e⟩
    · refine zF_blk (m := []) (d := 1) (b := B281b_12) (gs := [r1 = 0]) (c' := (51, [some (22, 0), some (0, v1)], [], (hc, h, o))) K281b_12 rfl ⟨q2, trivial⟩ ?_
      refine zF_blk (m := []) (d := 0) (b := B281b_5) (gs := []) (c' := (57, [some (22, 0), some (0, v1)], [(0, 1)], (hc, (mset h 49 0 v1), o))) K281b_5 rfl trivial ?_
      exact zF_rbM (zRe1_w (by decide +kernel)) (Or.inr rfl) e
    · refine zF_blk (m := []) (d := 0) (b := B281b_12) (gs := [¬ (r1 = 0)]) (c' := (23, [some (22, 0), some (0, v1)], [], (hc, h, o))) K281b_12 rfl ⟨q2, trivial⟩ ?_
      obtain ⟨r2, q3, e⟩ := zB_s e
      refine zF_blk (m := []) (d := 0) (b := B281b_6) (gs := []) (c' := (24, [some (22, 0), some (0, v1)], [(22, 0)], (hc, h, o))) K281b_6 rfl trivial ?_
      refine zF_call (k := 176) (cl := 12) (n := 1) (i := .invokevirtual 162) (args := [(22, 0)]) (rest := []) (g1 := (hc, r2, o)) (r1 := none) (zCk1_w (by decide +kernel)) rfl rfl rfl (st' := []) rfl (S176 (by omega)  h _ q3) ?_
      obtain ⟨r3, q4, e⟩ := zB_s e
      refine zF_blk (m := []) (d := 0) (b := B281b_7) (gs := []) (c' := (28, [some (22, 0), some (0, v1)], [(22, 0)], (hc, r2, o))) K281b_7 rfl trivial ?_
      refine zF_call (k := 282) (cl := 12) (n := 1) (i := .invokevirtual 397) (args := [(22, 0)]) (rest := []) (g1 := (hc, r3.2, o)) (r1 := some (0, r3.1)) (zCk1_w (by decide +kernel)) rfl rfl rfl (st' := [(0, r3.1)]) rfl (S282b (by omega) kR hkR  r2 _ q4) ?_
      rcases zI_s e with ⟨q5, e⟩ | ⟨q5, e⟩
      · refine zF_blk (m := []) (d := 1) (b := B281b_11) (gs := [¬ r3.1 = 0]) (c' := (36, [some (22, 0), some (0, v1)], [], (hc, r3.2, o))) K281b_11 rfl ⟨q5, trivial⟩ ?_
        obtain ⟨r4, q6, e⟩ := zB_s e
        refine zF_blk (m := []) (d := 0) (b := B281b_8) (gs := []) (c' := (44, [some (22, 0), some (0, v1)], [(0, 0), (0, (r3.2 49 0)), (0, v1), (0, 3), (22, 0)], (hc, r3.2, o))) K281b_8 rfl trivial ?_
        refine zF_call (k := 286) (cl := 12) (n := 5) (i := .invokevirtual 403) (args := [(22, 0), (0, 3), (0, v1), (0, (r3.2 49 0)), (0, 0)]) (rest := []) (g1 := (hc, r4.2, o)) (r1 := some (0, r4.1)) (zCk1_w (by decide +kernel)) rfl rfl rfl (st' := [(0, r4.1)]) rfl (S286 (by omega) 3 v1 (r3.2 49 0) 0 r3.2 _ q6) ?_
        refine zF_blk (m := []) (d := 0) (b := B281b_9) (gs := []) (c' := (14, [some (22, 0), some (0, r4.1)], [], (hc, r4.2, o))) K281b_9 rfl trivial ?_
        exact hk0 r4.1 r4.2 _ e
      · refine zF_blk (m := []) (d := 0) (b := B281b_11) (gs := [¬ (¬ r3.1 = 0)]) (c' := (34, [some (22, 0), some (0, v1)], [], (hc, r3.2, o))) K281b_11 rfl ⟨q5, trivial⟩ ?_
        refine zF_blk (m := []) (d := 0) (b := B281b_10) (gs := []) (c' := (35, [some (22, 0), some (0, v1)], [(0, 0)], (hc, r3.2, o))) K281b_10 rfl trivial ?_
        exact zF_rbM (zRe1_w (by decide +kernel)) (Or.inl rfl) e
/-- EchoValeModel.readOr()Z -/
def F281b (kR : zHM → Option (Int × zHM)) (h : zHM) : Option (Int × zHM) := (F282b kR h).bind fun r1 => if ¬ r1.1 = 0 then F281b_0 kR zFu (r1.2 49 0) r1.2 else some (0, r1.2)
set_option maxRecDepth 100000 in
theorem S281b {spec : zRn zH2} {hc : zHC} {o : Int → Int} {d : Nat} {DR : Nat} (hd : DR + 5 ≤ d) (kR : zHM → Option (Int × zHM)) (hkR : ∀ (d' : Nat), DR ≤ d' → ∀ (h : zHM) (v : (Int × zHM)), kR h = some v → zRu2 spec d' 283 [(22, 0)] (hc, h, o) (some (0, v.1)) (hc, v.2, o)) (h : zHM) (v : (Int × zHM)) (e : F281b kR h = some v) : zRu2 spec d 281 [(22, 0)] (hc, h, o) (some (0, v.1)) (hc, v.2, o) := by
  refine zF_in (D := DR + 4) (mx := 2) (L := [some (22, 0), none]) (by decide +kernel) rfl rfl hd (fun d hd => ?_)
  unfold F281b at e
  obtain ⟨r1, q1, e⟩ := zB_s e
  refine zF_blk (m := []) (d := 0) (b := B281b_0) (gs := []) (c' := (1, [some (22, 0), none], [(22, 0)], (hc, h, o))) K281b_0 rfl trivial ?_
  refine zF_call (k := 282) (cl := 12) (n := 1) (i := .invokevirtual 397) (args := [(22, 0)]) (rest := []) (g1 := (hc, r1.2, o)) (r1 := some (0, r1.1)) (zCk1_w (by decide +kernel)) rfl rfl rfl (st' := [(0, r1.1)]) rfl (S282b (by omega) kR hkR  h _ q1) ?_
  rcases zI_s e with ⟨q2, e⟩ | ⟨q2, e⟩
  · refine zF_blk (m := []) (d := 1) (b := B281b_3) (gs := [¬ r1.1 = 0]) (c' := (9, [some (22, 0), none], [], (hc, r1.2, o))) K281b_3 rfl ⟨q2, trivial⟩ ?_
    refine zF_blk (m := []) (d := 0) (b := B281b_1) (gs := []) (c' := (14, [some (22, 0), some (0, (r1.2 49 0))], [], (hc, r1.2, o))) K281b_1 rfl trivial ?_
    exact T281b_0 hd kR hkR zFu (r1.2 49 0) r1.2 _ e
  · refine zF_blk (m := []) (d := 0) (b := B281b_3) (gs := [¬ (¬ r1.1 = 0)]) (c' := (7, [some (22, 0), none], [], (hc, r1.2, o))) K281b_3 rfl ⟨q2, trivial⟩ ?_
    refine zF_blk (m := []) (d := 0) (b := B281b_2) (gs := []) (c' := (8, [some (22, 0), none], [(0, 0)], (hc, r1.2, o))) K281b_2 rfl trivial ?_
    exact zF_rbM (zRe1_w (by decide +kernel)) (Or.inl rfl) e
noncomputable def B284_0 : List zRow := [(0, .aload_n 0, 1, (0, 0, 0))]
theorem K284_0 : zRk 284 B284_0 = true := zRw_ok (by decide +kernel)
noncomputable def B284_1 : List zRow := [(9, .aload_n 0, 1, (0, 0, 0)), (10, .bipush 41, 2, (0, 0, 0))]
theorem K284_1 : zRk 284 B284_1 = true := zRw_ok (by decide +kernel)
noncomputable def B284_2 : List zRow := [(24, .aload_n 0, 1, (0, 0, 0))]
theorem K284_2 : zRk 284 B284_2 = true := zRw_ok (by decide +kernel)
noncomputable def B284_3 : List zRow := [(28, .iconst 1, 1, (0, 0, 0))]
theorem K284_3 : zRk 284 B284_3 = true := zRw_ok (by decide +kernel)
noncomputable def B284_4 : List zRow := [(18, .aload_n 0, 1, (0, 0, 0)), (19, .iconst 1, 1, (0, 0, 0))]
theorem K284_4 : zRk 284 B284_4 = true := zRw_ok (by decide +kernel)
noncomputable def B284_5 : List zRow := [(15, .ifCond .ne 9, 3, (0, 0, 0))]
theorem K284_5 : zRk 284 B284_5 = true := zRw_ok (by decide +kernel)
noncomputable def B284_6 : List zRow := [(7, .iconst 0, 1, (0, 0, 0))]
theorem K284_6 : zRk 284 B284_6 = true := zRw_ok (by decide +kernel)
noncomputable def B284_7 : List zRow := [(4, .ifCond .ne 5, 3, (0, 0, 0))]
theorem K284_7 : zRk 284 B284_7 = true := zRw_ok (by decide +kernel)
/-- EchoValeModel.readBracket()Z -/
def F284 (kR : zHM → Option (Int × zHM)) (h : zHM) : Option (Int × zHM) := (F281b kR h).bind fun r1 => if ¬ r1.1 = 0 then (F202 41 r1.2).bind fun r2 => if ¬ r2 = 0 then (F176 r1.2).bind fun r3 => some (1, r3) else (F185 1 r1.2).bind fun r4 => zG (r4.1 = 0 ∨ r4.1 = 1) (some (r4.1, r4.2)) else some (0, r1.2)
set_option maxRecDepth 100000 in
theorem S284 {spec : zRn zH2} {hc : zHC} {o : Int → Int} {d : Nat} {DR : Nat} (hd : DR + 6 ≤ d) (kR : zHM → Option (Int × zHM)) (hkR : ∀ (d' : Nat), DR ≤ d' → ∀ (h : zHM) (v : (Int × zHM)), kR h = some v → zRu2 spec d' 283 [(22, 0)] (hc, h, o) (some (0, v.1)) (hc, v.2, o)) (h : zHM) (v : (Int × zHM)) (e : F284 kR h = some v) : zRu2 spec d 284 [(22, 0)] (hc, h, o) (some (0, v.1)) (hc, v.2, o) := by
  refine zF_in (D := DR + 5) (mx := 1) (L := [some (22, 0)]) (by decide +kernel) rfl rfl hd (fun d hd => ?_)
  unfold F284 at e
  obtain ⟨r1, q1, e⟩ := zB_s e
  refine zF_blk (m := []) (d := 0) (b := B284_0) (gs := []) (c' := (1, [some (22, 0)], [(22, 0)], (hc, h, o))) K284_0 rfl trivial ?_
  refine zF_call (k := 281) (cl := 12) (n := 1) (i := .invokevirtual 428) (args := [(22, 0)]) (rest := []) (g1 := (hc, r1.2, o)) (r1 := some (0, r1.1)) (zCk1_w (by decide +kernel)) rfl rfl rfl (st' := [(0, r1.1)]) rfl (S281b (by omega) kR hkR  h _ q1) ?_
  rcases zI_s e with ⟨q2, e⟩ | ⟨q2, e⟩
  · refine zF_blk (m := []) (d := 1) (b := B284_7) (gs := [¬ r1.1 = 0]) (c' := (9, [some (22, 0)], [], (hc, r1.2, o))) K284_7 rfl ⟨q2, trivial⟩ ?_
    obtain ⟨r2, q3, e⟩ := zB_s e
    refine zF_blk (m := []) (d := 0) (b := B284_1) (gs := []) (c' := (12, [some (22, 0)], [(0, 41), (22, 0)], (hc, r1.2, o))) K284_1 rfl trivial ?_
    refine zF_call (k := 202) (cl := 12) (n := 2) (i := .invokevirtual 165) (args := [(22, 0), (0, 41)]) (rest := []) (g1 := (hc, r1.2, o)) (r1 := some (0, r2)) (zCk1_w (by decide +kernel)) rfl rfl rfl (st' := [(0, r2)]) rfl (S202 (by omega) 41 r1.2 _ q3) ?_
    rcases zI_s e with ⟨q4, e⟩ | ⟨q4, e⟩
    · refine zF_blk (m := []) (d := 1) (b := B284_5) (gs := [¬ r2 = 0]) (c' := (24, [some (22, 0)], [], (hc, r1.2, o))) K284_5 rfl ⟨q4, trivial⟩ ?_
      obtain ⟨r3, q5, e⟩ := zB_s e
      refine zF_blk (m := []) (d := 0) (b := B284_2) (gs := []) (c' := (25, [some (22, 0)], [(22, 0)], (hc, r1.2, o))) K284_2 rfl trivial ?_
      refine zF_call (k := 176) (cl := 12) (n := 1) (i := .invokevirtual 162) (args := [(22, 0)]) (rest := []) (g1 := (hc, r3, o)) (r1 := none) (zCk1_w (by decide +kernel)) rfl rfl rfl (st' := []) rfl (S176 (by omega)  r1.2 _ q5) ?_
      refine zF_blk (m := []) (d := 0) (b := B284_3) (gs := []) (c' := (29, [some (22, 0)], [(0, 1)], (hc, r3, o))) K284_3 rfl trivial ?_
      exact zF_rbM (zRe1_w (by decide +kernel)) (Or.inr rfl) e
    · refine zF_blk (m := []) (d := 0) (b := B284_5) (gs := [¬ (¬ r2 = 0)]) (c' := (18, [some (22, 0)], [], (hc, r1.2, o))) K284_5 rfl ⟨q4, trivial⟩ ?_
      obtain ⟨r4, q6, e⟩ := zB_s e
      refine zF_blk (m := []) (d := 0) (b := B284_4) (gs := []) (c' := (20, [some (22, 0)], [(0, 1), (22, 0)], (hc, r1.2, o))) K284_4 rfl trivial ?_
      refine zF_call (k := 185) (cl := 12) (n := 2) (i := .invokevirtual 148) (args := [(22, 0), (0, 1)]) (rest := []) (g1 := (hc, r4.2, o)) (r1 := some (0, r4.1)) (zCk1_w (by decide +kernel)) rfl rfl rfl (st' := [(0, r4.1)]) rfl (S185 (by omega) 1 r1.2 _ q6) ?_
      obtain ⟨q7, e⟩ := zG_s e
      exact zF_rbM (zRe1_w (by decide +kernel)) q7 e
  · refine zF_blk (m := []) (d := 0) (b := B284_7) (gs := [¬ (¬ r1.1 = 0)]) (c' := (7, [some (22, 0)], [], (hc, r1.2, o))) K284_7 rfl ⟨q2, trivial⟩ ?_
    refine zF_blk (m := []) (d := 0) (b := B284_6) (gs := []) (c' := (8, [some (22, 0)], [(0, 0)], (hc, r1.2, o))) K284_6 rfl trivial ?_
    exact zF_rbM (zRe1_w (by decide +kernel)) (Or.inl rfl) e
noncomputable def B283_0 : List zRow := [(0, .aload_n 0, 1, (0, 0, 0)), (1, .bipush 40, 2, (0, 0, 0))]
theorem K283_0 : zRk 283 B283_0 = true := zRw_ok (by decide +kernel)
noncomputable def B283_1 : List zRow := [(6, .istore_n 1, 1, (0, 0, 0)), (7, .bipush 12, 2, (0, 0, 0)), (9, .istore_n 2, 1, (0, 0, 0))]
theorem K283_1 : zRk 283 B283_1 = true := zRw_ok (by decide +kernel)
noncomputable def B283_2 : List zRow := [(16, .aload_n 0, 1, (0, 0, 0)), (17, .iload_n 2, 1, (0, 0, 0))]
theorem K283_2 : zRk 283 B283_2 = true := zRw_ok (by decide +kernel)
noncomputable def B283_3 : List zRow := [(24, .iinc 2 1, 3, (0, 0, 0)), (27, .goto (-17), 3, (0, 0, 0))]
theorem K283_3 : zRk 283 B283_3 = true := zRw_ok (by decide +kernel)
noncomputable def B283_4 : List zRow := [(21, .ifCond .ne 9, 3, (0, 0, 0))]
theorem K283_4 : zRk 283 B283_4 = true := zRw_ok (by decide +kernel)
noncomputable def B283_5 : List zRow := [(10, .iload_n 2, 1, (0, 0, 0)), (11, .bipush 20, 2, (0, 0, 0)), (13, .if_icmp .gt 17, 3, (0, 0, 0))]
theorem K283_5 : zRk 283 B283_5 = true := zRw_ok (by decide +kernel)
noncomputable def B283_6 : List zRow := [(40, .aload_n 0, 1, (0, 0, 0)), (41, .iconst 1, 1, (0, 0, 0))]
theorem K283_6 : zRk 283 B283_6 = true := zRw_ok (by decide +kernel)
noncomputable def B283_7 : List zRow := [(34, .iload_n 2, 1, (0, 0, 0)), (35, .bipush 20, 2, (0, 0, 0)), (37, .if_icmp .le 9, 3, (0, 0, 0))]
theorem K283_7 : zRk 283 B283_7 = true := zRw_ok (by decide +kernel)
noncomputable def B283_8 : List zRow := [(30, .iload_n 1, 1, (0, 0, 0)), (31, .ifCond .ne 15, 3, (0, 0, 0))]
theorem K283_8 : zRk 283 B283_8 = true := zRw_ok (by decide +kernel)
noncomputable def B283_9 : List zRow := [(70, .aload_n 0, 1, (0, 0, 0)), (71, .dup, 1, (0, 0, 0)), (72, .getfield 410, 3, (12, 47, 0)), (75, .iconst 1, 1, (0, 0, 0)), (76, .iadd, 1, (0, 0, 0)), (77, .putfield 410, 3, (12, 47, 0)), (80, .aload_n 0, 1, (0, 0, 0)), (81, .dup, 1, (0, 0, 0)), (82, .getfield 413, 3, (12, 48, 0)), (85, .iconst 1, 1, (0, 0, 0)), (86, .iadd, 1, (0, 0, 0)), (87, .putfield 413, 3, (12, 48, 0)), (90, .aload_n 0, 1, (0, 0, 0))]
theorem K283_9 : zRk 283 B283_9 = true := zRw_ok (by decide +kernel)
noncomputable def B283_10 : List zRow := [(160, .aload_n 0, 1, (0, 0, 0)), (161, .iload_n 2, 1, (0, 0, 0))]
theorem K283_10 : zRk 283 B283_10 = true := zRw_ok (by decide +kernel)
noncomputable def B283_11 : List zRow := [(152, .aload_n 0, 1, (0, 0, 0)), (153, .iload_n 2, 1, (0, 0, 0))]
theorem K283_11 : zRk 283 B283_11 = true := zRw_ok (by decide +kernel)
noncomputable def B283_12 : List zRow := [(157, .goto 8, 3, (0, 0, 0))]
theorem K283_12 : zRk 283 B283_12 = true := zRw_ok (by decide +kernel)
noncomputable def B283_13 : List zRow := [(146, .iload_n 2, 1, (0, 0, 0)), (147, .bipush 17, 2, (0, 0, 0)), (149, .if_icmp .ge 11, 3, (0, 0, 0))]
theorem K283_13 : zRk 283 B283_13 = true := zRw_ok (by decide +kernel)
noncomputable def B283_14 : List zRow := [(128, .aload_n 0, 1, (0, 0, 0)), (129, .aload_n 0, 1, (0, 0, 0)), (130, .bipush 50, 2, (0, 0, 0)), (132, .iload_n 2, 1, (0, 0, 0))]
theorem K283_14 : zRk 283 B283_14 = true := zRw_ok (by decide +kernel)
noncomputable def B283_15 : List zRow := [(133, .iadd, 1, (0, 0, 0)), (134, .iconst 0, 1, (0, 0, 0)), (135, .iconst 0, 1, (0, 0, 0)), (136, .iconst 0, 1, (0, 0, 0))]
theorem K283_15 : zRk 283 B283_15 = true := zRw_ok (by decide +kernel)
noncomputable def B283_16 : List zRow := [(140, .putfield 400, 3, (12, 49, 0)), (143, .goto 23, 3, (0, 0, 0))]
theorem K283_16 : zRk 283 B283_16 = true := zRw_ok (by decide +kernel)
noncomputable def B283_17 : List zRow := [(122, .iload_n 2, 1, (0, 0, 0)), (123, .bipush 15, 2, (0, 0, 0)), (125, .if_icmp .ge 21, 3, (0, 0, 0))]
theorem K283_17 : zRk 283 B283_17 = true := zRw_ok (by decide +kernel)
noncomputable def B283_18 : List zRow := [(114, .aload_n 0, 1, (0, 0, 0))]
theorem K283_18 : zRk 283 B283_18 = true := zRw_ok (by decide +kernel)
noncomputable def B283_19 : List zRow := [(118, .istore_n 3, 1, (0, 0, 0)), (119, .goto 47, 3, (0, 0, 0))]
theorem K283_19 : zRk 283 B283_19 = true := zRw_ok (by decide +kernel)
noncomputable def B283_20 : List zRow := [(108, .iload_n 2, 1, (0, 0, 0)), (109, .bipush 12, 2, (0, 0, 0)), (111, .if_icmp .ne 11, 3, (0, 0, 0))]
theorem K283_20 : zRk 283 B283_20 = true := zRw_ok (by decide +kernel)
noncomputable def B283_21 : List zRow := [(100, .aload_n 0, 1, (0, 0, 0))]
theorem K283_21 : zRk 283 B283_21 = true := zRw_ok (by decide +kernel)
noncomputable def B283_22 : List zRow := [(104, .istore_n 3, 1, (0, 0, 0)), (105, .goto 61, 3, (0, 0, 0))]
theorem K283_22 : zRk 283 B283_22 = true := zRw_ok (by decide +kernel)
noncomputable def B283_23 : List zRow := [(94, .iconst 1, 1, (0, 0, 0)), (95, .istore_n 3, 1, (0, 0, 0)), (96, .iload_n 1, 1, (0, 0, 0)), (97, .ifCond .eq 11, 3, (0, 0, 0))]
theorem K283_23 : zRk 283 B283_23 = true := zRw_ok (by decide +kernel)
noncomputable def B283_24 : List zRow := [(55, .aload_n 0, 1, (0, 0, 0)), (56, .getfield 413, 3, (12, 48, 0)), (59, .bipush 8, 2, (0, 0, 0)), (61, .if_icmp .ne 9, 3, (0, 0, 0))]
theorem K283_24 : zRk 283 B283_24 = true := zRw_ok (by decide +kernel)
noncomputable def B283_25 : List zRow := [(46, .aload_n 0, 1, (0, 0, 0)), (47, .getfield 410, 3, (12, 47, 0)), (50, .bipush 20, 2, (0, 0, 0)), (52, .if_icmp .eq 12, 3, (0, 0, 0))]
theorem K283_25 : zRk 283 B283_25 = true := zRw_ok (by decide +kernel)
noncomputable def B283_26 : List zRow := [(166, .aload_n 0, 1, (0, 0, 0)), (167, .dup, 1, (0, 0, 0)), (168, .getfield 413, 3, (12, 48, 0)), (171, .iconst 1, 1, (0, 0, 0)), (172, .isub, 1, (0, 0, 0)), (173, .putfield 413, 3, (12, 48, 0)), (176, .iload_n 3, 1, (0, 0, 0))]
theorem K283_26 : zRk 283 B283_26 = true := zRw_ok (by decide +kernel)
noncomputable def B283_27 : List zRow := [(165, .istore_n 3, 1, (0, 0, 0))]
theorem K283_27 : zRk 283 B283_27 = true := zRw_ok (by decide +kernel)
noncomputable def B283_28 : List zRow := [(64, .aload_n 0, 1, (0, 0, 0)), (65, .iconst 4, 1, (0, 0, 0))]
theorem K283_28 : zRk 283 B283_28 = true := zRw_ok (by decide +kernel)
def F283_3 (kR : zHM → Option (Int × zHM)) (h : zHM) : Option (Int × zHM) := (F185 4 h).bind fun r1 => zG (r1.1 = 0 ∨ r1.1 = 1) (some (r1.1, r1.2))
set_option maxRecDepth 100000 in
theorem T283_3 {spec : zRn zH2} {hc : zHC} {o : Int → Int} {d : Nat} {DR : Nat} (hd : DR + 6 ≤ d) (kR : zHM → Option (Int × zHM)) (hkR : ∀ (d' : Nat), DR ≤ d' → ∀ (h : zHM) (v : (Int × zHM)), kR h = some v → zRu2 spec d' 283 [(22, 0)] (hc, h, o) (some (0, v.1)) (hc, v.2, o)) (h : zHM) (v : (Int × zHM)) (e : F283_3 kR h = some v) : zFin 0 (fun _ => 0) (zRu2 spec d) 283 (some (0, v.1)) (hc, v.2, o) (64, [some (22, 0), none, none, none], [], (hc, h, o)) := by
  unfold F283_3 at e
  obtain ⟨r1, q1, e⟩ := zB_s e
  refine zF_blk (m := []) (d := 0) (b := B283_28) (gs := []) (c' := (66, [some (22, 0), none, none, none], [(0, 4), (22, 0)], (hc, h, o))) K283_28 rfl trivial ?_
  refine zF_call (k := 185) (cl := 12) (n := 2) (i := .invokevirtual 148) (args := [(22, 0), (0, 4)]) (rest := []) (g1 := (hc, r1.2, o)) (r1 := some (0, r1.1)) (zCk1_w (by decide +kernel)) rfl rfl rfl (st' := [(0, r1.1)]) rfl (S185 (by omega) 4 h _ q1) ?_
  obtain ⟨q2, e⟩ := zG_s e
  exact zF_rbM (zRe1_w (by decide +kernel)) q2 e
def F283_5 (kR : zHM → Option (Int × zHM)) (v3 : Int) (h : zHM) : Option (Int × zHM) := zG (v3 = 0 ∨ v3 = 1) (some (v3, (mset h 48 0 (wsub (h 48 0) 1))))
set_option maxRecDepth 100000 in
theorem T283_5 {spec : zRn zH2} {hc : zHC} {o : Int → Int} {d : Nat} {DR : Nat} (hd : DR + 6 ≤ d) (kR : zHM → Option (Int × zHM)) (hkR : ∀ (d' : Nat), DR ≤ d' → ∀ (h : zHM) (v : (Int × zHM)), kR h = some v → zRu2 spec d' 283 [(22, 0)] (hc, h, o) (some (0, v.1)) (hc, v.2, o)) (v3 : Int) (h : zHM) (v : (Int × zHM)) (e : F283_5 kR v3 h = some v) : zFin 0 (fun _ => 0) (zRu2 spec d) 283 (some (0, v.1)) (hc, v.2, o) (166, [some (22, 0), none, none, some (0, v3)], [], (hc, h, o)) := by
  unfold F283_5 at e
  obtain ⟨q1, e⟩ := zG_s e
  refine zF_blk (m := []) (d := 0) (b := B283_26) (gs := []) (c' := (177, [some (22, 0), none, none, some (0, v3)], [(0, v3)], (hc, (mset h 48 0 (wsub (h 48 0) 1)), o))) K283_26 rfl trivial ?_
  exact zF_rbM (zRe1_w (by decide +kernel)) q1 e
def F283_4 (kR : zHM → Option (Int × zHM)) (s0 : Int) (h : zHM) : Option (Int × zHM) := F283_5 kR s0 h
set_option maxRecDepth 100000 in
theorem T283_4 {spec : zRn zH2} {hc : zHC} {o : Int → Int} {d : Nat} {DR : Nat} (hd : DR + 6 ≤ d) (kR : zHM → Option (Int × zHM)) (hkR : ∀ (d' : Nat), DR ≤ d' → ∀ (h : zHM) (v : (Int × zHM)), kR h = some v → zRu2 spec d' 283 [(22, 0)] (hc, h, o) (some (0, v.1)) (hc, v.2, o)) (s0 : Int) (h : zHM) (v : (Int × zHM)) (e : F283_4 kR s0 h = some v) : zFin 0 (fun _ => 0) (zRu2 spec d) 283 (some (0, v.1)) (hc, v.2, o) (165, [some (22, 0), none, none, none], [(0, s0)], (hc, h, o)) := by
  unfold F283_4 at e
  refine zF_blk (m := []) (d := 0) (b := B283_27) (gs := []) (c' := (166, [some (22, 0), none, none, some (0, s0)], [], (hc, h, o))) K283_27 rfl trivial ?_
  exact T283_5 hd kR hkR s0 h _ e
def F283_2 (kR : zHM → Option (Int × zHM)) (v1 : Int) (v2 : Int) (h : zHM) : Option (Int × zHM) := if (h 47 0) = 20 then F283_3 kR h else if ¬ (h 48 0) = 8 then (F176 (mset (mset h 47 0 (wadd (h 47 0) 1)) 48 0 (wadd (h 48 0) 1))).bind fun r1 => if v1 = 0 then if ¬ v2 = 12 then if 15 ≤ v2 then if 17 ≤ v2 then (F288 v2 r1).bind fun r2 => F283_4 kR r2.1 r2.2 else (F287 v2 r1).bind fun r3 => F283_4 kR r3.1 r3.2 else (F286 (wadd 50 v2) 0 0 0 r1).bind fun r4 => F283_5 kR 1 (mset r4.2 49 0 r4.1) else (F285 kR r1).bind fun r5 => F283_5 kR r5.1 r5.2 else (F284 kR r1).bind fun r6 => F283_5 kR r6.1 r6.2 else F283_3 kR h
set_option maxRecDepth 100000 in
theorem T283_2 {spec : zRn zH2} {hc : zHC} {o : Int → Int} {d : Nat} {DR : Nat} (hd : DR + 6 ≤ d) (kR : zHM → Option (Int × zHM)) (hkR : ∀ (d' : Nat), DR ≤ d' → ∀ (h : zHM) (v : (Int × zHM)), kR h = some v → zRu2 spec d' 283 [(22, 0)] (hc, h, o) (some (0, v.1)) (hc, v.2, o)) (v1 : Int) (v2 : Int) (h : zHM) (v : (Int × zHM)) (e : F283_2 kR v1 v2 h = some v) : zFin 0 (fun _ => 0) (zRu2 spec d) 283 (some (0, v.1)) (hc, v.2, o) (46, [some (22, 0), some (0, v1), some (0, v2), none], [], (hc, h, o)) := by
  unfold F283_2 at e
  rcases zI_s e with ⟨q1, e⟩ | ⟨q1, e⟩
  · refine zF_blk (m := []) (d := 1) (b := B283_25) (gs := [(h 47 0) = 20]) (c' := (64, [some (22, 0), some (0, v1), some (0, v2), none], [], (hc, h, o))) K283_25 rfl ⟨q1, trivial⟩ ?_
    refine zF_blk (m := [true, false, false, false]) (d := 0) (b := []) (gs := []) (c' := (64, [some (22, 0), none, none, none], [], (hc, h, o))) rfl rfl trivial ?_
    exact T283_3 hd kR hkR h _ e
  · refine zF_blk (m := []) (d := 0) (b := B283_25) (gs := [¬ ((h 47 0) = 20)]) (c' := (55, [some (22, 0), some (0, v1), some (0, v2), none], [], (hc, h, o))) K283_25 rfl ⟨q1, trivial⟩ ?_
    rcases zI_s e with ⟨q2, e⟩ | ⟨q2, e⟩
    · refine zF_blk (m := []) (d := 1) (b := B283_24) (gs := [¬ (h 48 0) = 8]) (c' := (70, [some (22, 0), some (0, v1), some (0, v2), none], [], (hc, h, o))) K283_24 rfl ⟨q2, trivial⟩ ?_
      obtain ⟨r1, q3, e⟩ := zB_s e
      refine zF_blk (m := []) (d := 0) (b := B283_9) (gs := []) (c' := (91, [some (22, 0), some (0, v1), some (0, v2), none], [(22, 0)], (hc, (mset (mset h 47 0 (wadd (h 47 0) 1)) 48 0 (wadd (h 48 0) 1)), o))) K283_9 rfl trivial ?_
      refine zF_call (k := 176) (cl := 12) (n := 1) (i := .invokevirtual 162) (args := [(22, 0)]) (rest := []) (g1 := (hc, r1, o)) (r1 := none) (zCk1_w (by decide +kernel)) rfl rfl rfl (st' := []) rfl (S176 (by omega)  (mset (mset h 47 0 (wadd (h 47 0) 1)) 48 0 (wadd (h 48 0) 1)) _ q3) ?_
      rcases zI_s e with ⟨q4, e⟩ | ⟨q4, e⟩
      · refine zF_blk (m := []) (d := 1) (b := B283_23) (gs := [v1 = 0]) (c' := (108, [some (22, 0), some (0, v1), some (0, v2), some (0, 1)], [], (hc, r1, o))) K283_23 rfl ⟨q4, trivial⟩ ?_
        rcases zI_s e with ⟨q5, e⟩ | ⟨q5, e⟩
        · refine zF_blk (m := []) (d := 1) (b := B283_20) (gs := [¬ v2 = 12]) (c' := (122, [some (22, 0), some (0, v1), some (0, v2), some (0, 1)], [], (hc, r1, o))) K283_20 rfl ⟨q5, trivial⟩ ?_
          rcases zI_s e with ⟨q6, e⟩ | ⟨q6, e⟩
          · refine zF_blk (m := []) (d := 1) (b := B283_17) (gs := [15 ≤ v2]) (c' := (146, [some (22, 0), some (0, v1), some (0, v2), some (0, 1)], [], (hc, r1, o))) K283_17 rfl ⟨q6, trivial⟩ ?_
            rcases zI_s e with ⟨q7, e⟩ | ⟨q7, e⟩
            · refine zF_blk (m := []) (d := 1) (b := B283_13) (gs := [17 ≤ v2]) (c' := (160, [some (22, 0), some (0, v1), some (0, v2), some (0, 1)], [], (hc, r1, o))) K283_13 rfl ⟨q7, trivial⟩ ?_
              obtain ⟨r2, q8, e⟩ := zB_s e
              refine zF_blk (m := []) (d := 0) (b := B283_10) (gs := []) (c' := (162, [some (22, 0), some (0, v1), some (0, v2), some (0, 1)], [(0, v2), (22, 0)], (hc, r1, o))) K283_10 rfl trivial ?_
              refine zF_call (k := 288) (cl := 12) (n := 2) (i := .invokevirtual 425) (args := [(22, 0), (0, v2)]) (rest := []) (g1 := (hc, r2.2, o)) (r1 := some (0, r2.1)) (zCk1_w (by decide +kernel)) rfl rfl rfl (st' := [(0, r2.1)]) rfl (S288 (by omega) v2 r1 _ q8) ?_
              refine zF_blk (m := [true, false, false, false]) (d := 0) (b := []) (gs := []) (c' := (165, [some (22, 0), none, none, none], [(0, r2.1)], (hc, r2.2, o))) rfl rfl trivial ?_
              exact T283_4 hd kR hkR r2.1 r2.2 _ e
            · refine zF_blk (m := []) (d := 0) (b := B283_13) (gs := [¬ (17 ≤ v2)]) (c' := (152, [some (22, 0), some (0, v1), some (0, v2), some (0, 1)], [], (hc, r1, o))) K283_13 rfl ⟨q7, trivial⟩ ?_
              obtain ⟨r3, q9, e⟩ := zB_s e
              refine zF_blk (m := []) (d := 0) (b := B283_11) (gs := []) (c' := (154, [some (22, 0), some (0, v1), some (0, v2), some (0, 1)], [(0, v2), (22, 0)], (hc, r1, o))) K283_11 rfl trivial ?_
              refine zF_call (k := 287) (cl := 12) (n := 2) (i := .invokevirtual 422) (args := [(22, 0), (0, v2)]) (rest := []) (g1 := (hc, r3.2, o)) (r1 := some (0, r3.1)) (zCk1_w (by decide +kernel)) rfl rfl rfl (st' := [(0, r3.1)]) rfl (S287 (by omega) v2 r1 _ q9) ?_
              refine zF_blk (m := []) (d := 0) (b := B283_12) (gs := []) (c' := (165, [some (22, 0), some (0, v1), some (0, v2), some (0, 1)], [(0, r3.1)], (hc, r3.2, o))) K283_12 rfl trivial ?_
              refine zF_blk (m := [true, false, false, false]) (d := 0) (b := []) (gs := []) (c' := (165, [some (22, 0), none, none, none], [(0, r3.1)], (hc, r3.2, o))) rfl rfl trivial ?_
              exact T283_4 hd kR hkR r3.1 r3.2 _ e
          · refine zF_blk (m := []) (d := 0) (b := B283_17) (gs := [¬ (15 ≤ v2)]) (c' := (128, [some (22, 0), some (0, v1), some (0, v2), some (0, 1)], [], (hc, r1, o))) K283_17 rfl ⟨q6, trivial⟩ ?_
            refine zF_blk (m := []) (d := 0) (b := B283_14) (gs := []) (c' := (133, [some (22, 0), some (0, v1), some (0, v2), some (0, 1)], [(0, v2), (0, 50), (22, 0), (22, 0)], (hc, r1, o))) K283_14 rfl trivial ?_
            obtain ⟨r4, q10, e⟩ := zB_s e
            refine zF_blk (m := []) (d := 0) (b := B283_15) (gs := []) (c' := (137, [some (22, 0), some (0, v1), some (0, v2), some (0, 1)], [(0, 0), (0, 0), (0, 0), (0, (wadd 50 v2)), (22, 0), (22, 0)], (hc, r1, o))) K283_15 rfl trivial ?_
            refine zF_call (k := 286) (cl := 12) (n := 5) (i := .invokevirtual 403) (args := [(22, 0), (0, (wadd 50 v2)), (0, 0), (0, 0), (0, 0)]) (rest := [(22, 0)]) (g1 := (hc, r4.2, o)) (r1 := some (0, r4.1)) (zCk1_w (by decide +kernel)) rfl rfl rfl (st' := [(0, r4.1), (22, 0)]) rfl (S286 (by omega) (wadd 50 v2) 0 0 0 r1 _ q10) ?_
            refine zF_blk (m := []) (d := 0) (b := B283_16) (gs := []) (c' := (166, [some (22, 0), some (0, v1), some (0, v2), some (0, 1)], [], (hc, (mset r4.2 49 0 r4.1), o))) K283_16 rfl trivial ?_
            refine zF_blk (m := [true, false, false, true]) (d := 0) (b := []) (gs := []) (c' := (166, [some (22, 0), none, none, some (0, 1)], [], (hc, (mset r4.2 49 0 r4.1), o))) rfl rfl trivial ?_
            exact T283_5 hd kR hkR 1 (mset r4.2 49 0 r4.1) _ e
        · refine zF_blk (m := []) (d := 0) (b := B283_20) (gs := [¬ (¬ v2 = 12)]) (c' := (114, [some (22, 0), some (0, v1), some (0, v2), some (0, 1)], [], (hc, r1, o))) K283_20 rfl ⟨q5, trivial⟩ ?_
          obtain ⟨r5, q11, e⟩ := zB_s e
          refine zF_blk (m := []) (d := 0) (b := B283_18) (gs := []) (c' := (115, [some (22, 0), some (0, v1), some (0, v2), some (0, 1)], [(22, 0)], (hc, r1, o))) K283_18 rfl trivial ?_
          refine zF_call (k := 285) (cl := 12) (n := 1) (i := .invokevirtual 419) (args := [(22, 0)]) (rest := []) (g1 := (hc, r5.2, o)) (r1 := some (0, r5.1)) (zCk1_w (by decide +kernel)) rfl rfl rfl (st' := [(0, r5.1)]) rfl (S285 (by omega) kR hkR  r1 _ q11) ?_
          refine zF_blk (m := []) (d := 0) (b := B283_19) (gs := []) (c' := (166, [some (22, 0), some (0, v1), some (0, v2), some (0, r5.1)], [], (hc, r5.2, o))) K283_19 rfl trivial ?_
          refine zF_blk (m := [true, false, false, true]) (d := 0) (b := []) (gs := []) (c' := (166, [some (22, 0), none, none, some (0, r5.1)], [], (hc, r5.2, o))) rfl rfl trivial ?_
          exact T283_5 hd kR hkR r5.1 r5.2 _ e
      · refine zF_blk (m := []) (d := 0) (b := B283_23) (gs := [¬ (v1 = 0)]) (c' := (100, [some (22, 0), some (0, v1), some (0, v2), some (0, 1)], [], (hc, r1, o))) K283_23 rfl ⟨q4, trivial⟩ ?_
        obtain ⟨r6, q12, e⟩ := zB_s e
        refine zF_blk (m := []) (d := 0) (b := B283_21) (gs := []) (c' := (101, [some (22, 0), some (0, v1), some (0, v2), some (0, 1)], [(22, 0)], (hc, r1, o))) K283_21 rfl trivial ?_
        refine zF_call (k := 284) (cl := 12) (n := 1) (i := .invokevirtual 416) (args := [(22, 0)]) (rest := []) (g1 := (hc, r6.2, o)) (r1 := some (0, r6.1)) (zCk1_w (by decide +kernel)) rfl rfl rfl (st' := [(0, r6.1)]) rfl (S284 (by omega) kR hkR  r1 _ q12) ?_
        refine zF_blk (m := []) (d := 0) (b := B283_22) (gs := []) (c' := (166, [some (22, 0), some (0, v1), some (0, v2), some (0, r6.1)], [], (hc, r6.2, o))) K283_22 rfl trivial ?_
        refine zF_blk (m := [true, false, false, true]) (d := 0) (b := []) (gs := []) (c' := (166, [some (22, 0), none, none, some (0, r6.1)], [], (hc, r6.2, o))) rfl rfl trivial ?_
        exact T283_5 hd kR hkR r6.1 r6.2 _ e
    · refine zF_blk (m := []) (d := 0) (b := B283_24) (gs := [¬ (¬ (h 48 0) = 8)]) (c' := (64, [some (22, 0), some (0, v1), some (0, v2), none], [], (hc, h, o))) K283_24 rfl ⟨q2, trivial⟩ ?_
      refine zF_blk (m := [true, false, false, false]) (d := 0) (b := []) (gs := []) (c' := (64, [some (22, 0), none, none, none], [], (hc, h, o))) rfl rfl trivial ?_
      exact T283_3 hd kR hkR h _ e
def F283_1 (kR : zHM → Option (Int × zHM)) (v1 : Int) (v2 : Int) (h : zHM) : Option (Int × zHM) := if ¬ v1 = 0 then F283_2 kR v1 v2 h else if v2 ≤ 20 then F283_2 kR v1 v2 h else (F185 1 h).bind fun r1 => zG (r1.1 = 0 ∨ r1.1 = 1) (some (r1.1, r1.2))
set_option maxRecDepth 100000 in
theorem T283_1 {spec : zRn zH2} {hc : zHC} {o : Int → Int} {d : Nat} {DR : Nat} (hd : DR + 6 ≤ d) (kR : zHM → Option (Int × zHM)) (hkR : ∀ (d' : Nat), DR ≤ d' → ∀ (h : zHM) (v : (Int × zHM)), kR h = some v → zRu2 spec d' 283 [(22, 0)] (hc, h, o) (some (0, v.1)) (hc, v.2, o)) (v1 : Int) (v2 : Int) (h : zHM) (v : (Int × zHM)) (e : F283_1 kR v1 v2 h = some v) : zFin 0 (fun _ => 0) (zRu2 spec d) 283 (some (0, v.1)) (hc, v.2, o) (30, [some (22, 0), some (0, v1), some (0, v2), none], [], (hc, h, o)) := by
  unfold F283_1 at e
  rcases zI_s e with ⟨q1, e⟩ | ⟨q1, e⟩
  · refine zF_blk (m := []) (d := 1) (b := B283_8) (gs := [¬ v1 = 0]) (c' := (46, [some (22, 0), some (0, v1), some (0, v2), none], [], (hc, h, o))) K283_8 rfl ⟨q1, trivial⟩ ?_
    exact T283_2 hd kR hkR v1 v2 h _ e
  · refine zF_blk (m := []) (d := 0) (b := B283_8) (gs := [¬ (¬ v1 = 0)]) (c' := (34, [some (22, 0), some (0, v1), some (0, v2), none], [], (hc, h, o))) K283_8 rfl ⟨q1, trivial⟩ ?_
    rcases zI_s e with ⟨q2, e⟩ | ⟨q2, e⟩
    · refine zF_blk (m := []) (d := 1) (b := B283_7) (gs := [v2 ≤ 20]) (c' := (46, [some (22, 0), some (0, v1), some (0, v2), none], [], (hc, h, o))) K283_7 rfl ⟨q2, trivial⟩ ?_
      exact T283_2 hd kR hkR v1 v2 h _ e
    · refine zF_blk (m := []) (d := 0) (b := B283_7) (gs := [¬ (v2 ≤ 20)]) (c' := (40, [some (22, 0), some (0, v1), some (0, v2), none], [], (hc, h, o))) K283_7 rfl ⟨q2, trivial⟩ ?_
      obtain ⟨r1, q3, e⟩ := zB_s e
      refine zF_blk (m := []) (d := 0) (b := B283_6) (gs := []) (c' := (42, [some (22, 0), some (0, v1), some (0, v2), none], [(0, 1), (22, 0)], (hc, h, o))) K283_6 rfl trivial ?_
      refine zF_call (k := 185) (cl := 12) (n := 2) (i := .invokevirtual 148) (args := [(22, 0), (0, 1)]) (rest := []) (g1 := (hc, r1.2, o)) (r1 := some (0, r1.1)) (zCk1_w (by decide +kernel)) rfl rfl rfl (st' := [(0, r1.1)]) rfl (S185 (by omega) 1 h _ q3) ?_
      obtain ⟨q4, e⟩ := zG_s e
      exact zF_rbM (zRe1_w (by decide +kernel)) q4 e
def F283_0 (kR : zHM → Option (Int × zHM)) : Nat → Int → Int → zHM → Option (Int × zHM)
  | 0, _, _, _ => none
  | n + 1, v1, v2, h => if 20 < v2 then F283_1 kR v1 v2 h else (F181 v2 h).bind fun r1 => if ¬ r1 = 0 then F283_1 kR v1 v2 h else (F283_0 kR n) v1 (wadd v2 1) h
set_option maxRecDepth 100000 in
theorem T283_0 {spec : zRn zH2} {hc : zHC} {o : Int → Int} {d : Nat} {DR : Nat} (hd : DR + 6 ≤ d) (kR : zHM → Option (Int × zHM)) (hkR : ∀ (d' : Nat), DR ≤ d' → ∀ (h : zHM) (v : (Int × zHM)), kR h = some v → zRu2 spec d' 283 [(22, 0)] (hc, h, o) (some (0, v.1)) (hc, v.2, o)) : ∀ (n : Nat) (v1 : Int) (v2 : Int) (h : zHM) (v : (Int × zHM)), F283_0 kR n v1 v2 h = some v → zFin 0 (fun _ => 0) (zRu2 spec d) 283 (some (0, v.1)) (hc, v.2, o) (10, [some (22, 0), some (0, v1), some (0, v2), none], [], (hc, h, o)) := by
  intro n
  induction n with
  | zero => intro v1 v2 h v e; unfold F283_0 at e; cases e
  | succ n hk0 =>
    intro v1 v2 h v e
    unfold F283_0 at e
    rcases zI_s e with ⟨q1, e⟩ | ⟨q1, e⟩
    · refine zF_blk (m := []) (d := 1) (b := B283_5) (gs := [20 < v2]) (c' := (30, [some (22, 0), some (0, v1), some (0, v2), none], [], (hc, h, o))) K283_5 rfl ⟨q1, trivial⟩ ?_
      exact T283_1 hd kR hkR v1 v2 h _ e
    · refine zF_blk (m := []) (d := 0) (b := B283_5) (gs := [¬ (20 < v2)]) (c' := (16, [some (22, 0), some (0, v1), some (0, v2), none], [], (hc, h, o))) K283_5 rfl ⟨q1, trivial⟩ ?_
      obtain ⟨r1, q2, e⟩ := zB_s e
      refine zF_blk (m := []) (d := 0) (b := B283_2) (gs := []) (c' := (18, [some (22, 0), some (0, v1), some (0, v2), none], [(0, v2), (22, 0)], (hc, h, o))) K283_2 rfl trivial ?_
      refine zF_call (k := 181) (cl := 12) (n := 2) (i := .invokevirtual 199) (args := [(22, 0), (0, v2)]) (rest := []) (g1 := (hc, h, o)) (r1 := some (0, r1)) (zCk1_w (by decide +kernel)) rfl rfl rfl (st' := [(0, r1)]) rfl (S181 (by omega) v2 h _ q2) ?_
      rcases zI_s e with ⟨q3, e⟩ | ⟨q3, e⟩
      · refine zF_blk (m := []) (d := 1) (b := B283_4) (gs := [¬ r1 = 0]) (c' := (30, [some (22, 0), some (0, v1), some (0, v2), none], [], (hc, h, o))) K283_4 rfl ⟨q3, trivial⟩ ?_
        exact T283_1 hd kR hkR v1 v2 h _ e
      · refine zF_blk (m := []) (d := 0) (b := B283_4) (gs := [¬ (¬ r1 = 0)]) (c' := (24, [some (22, 0), some (0, v1), some (0, v2), none], [], (hc, h, o))) K283_4 rfl ⟨q3, trivial⟩ ?_
        refine zF_blk (m := []) (d := 0) (b := B283_3) (gs := []) (c' := (10, [some (22, 0), some (0, v1), some (0, (wadd v2 1)), none], [], (hc, h, o))) K283_3 rfl trivial ?_
        exact hk0 v1 (wadd v2 1) h _ e
/-- EchoValeModel.readOne()Z -/
def F283 (kR : zHM → Option (Int × zHM)) (h : zHM) : Option (Int × zHM) := (F202 40 h).bind fun r1 => F283_0 kR zFu r1 12 h
set_option maxRecDepth 100000 in
theorem S283 {spec : zRn zH2} {hc : zHC} {o : Int → Int} {d : Nat} {DR : Nat} (hd : DR + 7 ≤ d) (kR : zHM → Option (Int × zHM)) (hkR : ∀ (d' : Nat), DR ≤ d' → ∀ (h : zHM) (v : (Int × zHM)), kR h = some v → zRu2 spec d' 283 [(22, 0)] (hc, h, o) (some (0, v.1)) (hc, v.2, o)) (h : zHM) (v : (Int × zHM)) (e : F283 kR h = some v) : zRu2 spec d 283 [(22, 0)] (hc, h, o) (some (0, v.1)) (hc, v.2, o) := by
  refine zF_in (D := DR + 6) (mx := 4) (L := [some (22, 0), none, none, none]) (by decide +kernel) rfl rfl hd (fun d hd => ?_)
  unfold F283 at e
  obtain ⟨r1, q1, e⟩ := zB_s e
  refine zF_blk (m := []) (d := 0) (b := B283_0) (gs := []) (c' := (3, [some (22, 0), none, none, none], [(0, 40), (22, 0)], (hc, h, o))) K283_0 rfl trivial ?_
  refine zF_call (k := 202) (cl := 12) (n := 2) (i := .invokevirtual 165) (args := [(22, 0), (0, 40)]) (rest := []) (g1 := (hc, h, o)) (r1 := some (0, r1)) (zCk1_w (by decide +kernel)) rfl rfl rfl (st' := [(0, r1)]) rfl (S202 (by omega) 40 h _ q1) ?_
  refine zF_blk (m := []) (d := 0) (b := B283_1) (gs := []) (c' := (10, [some (22, 0), some (0, r1), some (0, 12), none], [], (hc, h, o))) K283_1 rfl trivial ?_
  exact T283_0 hd kR hkR zFu r1 12 h _ e
def F283r : Nat → zHM → Option (Int × zHM)
  | 0, _ => none
  | n + 1, h => F283 (F283r n) h
theorem S283r {spec : zRn zH2} {hc : zHC} {o : Int → Int} : ∀ (n : Nat) {d : Nat} (hd : 7 * n ≤ d) (h : zHM) (v : (Int × zHM)) (e : F283r n h = some v), zRu2 spec d 283 [(22, 0)] (hc, h, o) (some (0, v.1)) (hc, v.2, o) := by
  intro n
  induction n with
  | zero => intro d hd h v e; unfold F283r at e; cases e
  | succ n ih =>
    intro d hd h v e
    unfold F283r at e
    exact S283 (DR := 7 * n) (by omega) (F283r n) (fun d hd h v e => ih hd h v e) h v e
noncomputable def B282_0 : List zRow := [(0, .aload_n 0, 1, (0, 0, 0))]
theorem K282_0 : zRk 282 B282_0 = true := zRw_ok (by decide +kernel)
noncomputable def B282_1 : List zRow := [(9, .aload_n 0, 1, (0, 0, 0)), (10, .getfield 400, 3, (12, 49, 0)), (13, .istore_n 1, 1, (0, 0, 0))]
theorem K282_1 : zRk 282 B282_1 = true := zRw_ok (by decide +kernel)
noncomputable def B282_2 : List zRow := [(7, .iconst 0, 1, (0, 0, 0))]
theorem K282_2 : zRk 282 B282_2 = true := zRw_ok (by decide +kernel)
noncomputable def B282_3 : List zRow := [(4, .ifCond .ne 5, 3, (0, 0, 0))]
theorem K282_3 : zRk 282 B282_3 = true := zRw_ok (by decide +kernel)
noncomputable def B282_4 : List zRow := [(14, .aload_n 0, 1, (0, 0, 0)), (15, .bipush 11, 2, (0, 0, 0))]
theorem K282_4 : zRk 282 B282_4 = true := zRw_ok (by decide +kernel)
noncomputable def B282_5 : List zRow := [(51, .aload_n 0, 1, (0, 0, 0)), (52, .iload_n 1, 1, (0, 0, 0)), (53, .putfield 400, 3, (12, 49, 0)), (56, .iconst 1, 1, (0, 0, 0))]
theorem K282_5 : zRk 282 B282_5 = true := zRw_ok (by decide +kernel)
noncomputable def B282_6 : List zRow := [(23, .aload_n 0, 1, (0, 0, 0))]
theorem K282_6 : zRk 282 B282_6 = true := zRw_ok (by decide +kernel)
noncomputable def B282_7 : List zRow := [(27, .aload_n 0, 1, (0, 0, 0))]
theorem K282_7 : zRk 282 B282_7 = true := zRw_ok (by decide +kernel)
noncomputable def B282_8 : List zRow := [(36, .aload_n 0, 1, (0, 0, 0)), (37, .iconst 2, 1, (0, 0, 0)), (38, .iload_n 1, 1, (0, 0, 0)), (39, .aload_n 0, 1, (0, 0, 0)), (40, .getfield 400, 3, (12, 49, 0)), (43, .iconst 0, 1, (0, 0, 0))]
theorem K282_8 : zRk 282 B282_8 = true := zRw_ok (by decide +kernel)
noncomputable def B282_9 : List zRow := [(47, .istore_n 1, 1, (0, 0, 0)), (48, .goto (-34), 3, (0, 0, 0))]
theorem K282_9 : zRk 282 B282_9 = true := zRw_ok (by decide +kernel)
noncomputable def B282_10 : List zRow := [(34, .iconst 0, 1, (0, 0, 0))]
theorem K282_10 : zRk 282 B282_10 = true := zRw_ok (by decide +kernel)
noncomputable def B282_11 : List zRow := [(31, .ifCond .ne 5, 3, (0, 0, 0))]
theorem K282_11 : zRk 282 B282_11 = true := zRw_ok (by decide +kernel)
noncomputable def B282_12 : List zRow := [(20, .ifCond .eq 31, 3, (0, 0, 0))]
theorem K282_12 : zRk 282 B282_12 = true := zRw_ok (by decide +kernel)
def F282_0 : Nat → Int → zHM → Option (Int × zHM)
  | 0, _, _ => none
  | n + 1, v1, h => (F181 11 h).bind fun r1 => if r1 = 0 then some (1, (mset h 49 0 v1)) else (F176 h).bind fun r2 => (F283r 64 r2).bind fun r3 => if ¬ r3.1 = 0 then (F286 2 v1 (r3.2 49 0) 0 r3.2).bind fun r4 => (F282_0 n) r4.1 r4.2 else some (0, r3.2)
set_option maxRecDepth 100000 in
theorem T282_0 {spec : zRn zH2} {hc : zHC} {o : Int → Int} {d : Nat} (hd : 448 ≤ d) : ∀ (n : Nat) (v1 : Int) (h : zHM) (v : (Int × zHM)), F282_0 n v1 h = some v → zFin 0 (fun _ => 0) (zRu2 spec d) 282 (some (0, v.1)) (hc, v.2, o) (14, [some (22, 0), some (0, v1)], [], (hc, h, o)) := by
  intro n
  induction n with
  | zero => intro v1 h v e; unfold F282_0 at e; cases e
  | succ n hk0 =>
    intro v1 h v e
    unfold F282_0 at e
    obtain ⟨r1, q1, e⟩ := zB_s e
    refine zF_blk (m := []) (d := 0) (b := B282_4) (gs := []) (c' := (17, [some (22, 0), some (0, v1)], [(0, 11), (22, 0)], (hc, h, o))) K282_4 rfl trivial ?_
    refine zF_call (k := 181) (cl := 12) (n := 2) (i := .invokevirtual 199) (args := [(22, 0), (0, 11)]) (rest := []) (g1 := (hc, h, o)) (r1 := some (0, r1)) (zCk1_w (by decide +kernel)) rfl rfl rfl (st' := [(0, r1)]) rfl (S181 (Nat.le_trans (by decide) hd) 11 h _ q1) ?_
    rcases zI_s e with ⟨q2, e⟩ | ⟨q2, e⟩
    · refine zF_blk (m := []) (d := 1) (b := B282_12) (gs := [r1 = 0]) (c' := (51, [some (22, 0), some (0, v1)], [], (hc, h, o))) K282_12 rfl ⟨q2, trivial⟩ ?_
      refine zF_blk (m := []) (d := 0) (b := B282_5) (gs := []) (c' := (57, [some (22, 0), some (0, v1)], [(0, 1)], (hc, (mset h 49 0 v1), o))) K282_5 rfl trivial ?_
      exact zF_rbM (zRe1_w (by decide +kernel)) (Or.inr rfl) e
    · refine zF_blk (m := []) (d := 0) (b := B282_12) (gs := [¬ (r1 = 0)]) (c' := (23, [some (22, 0), some (0, v1)], [], (hc, h, o))) K282_12 rfl ⟨q2, trivial⟩ ?_
      obtain ⟨r2, q3, e⟩ := zB_s e
      refine zF_blk (m := []) (d := 0) (b := B282_6) (gs := []) (c' := (24, [some (22, 0), some (0, v1)], [(22, 0)], (hc, h, o))) K282_6 rfl trivial ?_
      refine zF_call (k := 176) (cl := 12) (n := 1) (i := .invokevirtual 162) (args := [(22, 0)]) (rest := []) (g1 := (hc, r2, o)) (r1 := none) (zCk1_w (by decide +kernel)) rfl rfl rfl (st' := []) rfl (S176 (Nat.le_trans (by decide) hd)  h _ q3) ?_
      obtain ⟨r3, q4, e⟩ := zB_s e
      refine zF_blk (m := []) (d := 0) (b := B282_7) (gs := []) (c' := (28, [some (22, 0), some (0, v1)], [(22, 0)], (hc, r2, o))) K282_7 rfl trivial ?_
      refine zF_call (k := 283) (cl := 12) (n := 1) (i := .invokevirtual 407) (args := [(22, 0)]) (rest := []) (g1 := (hc, r3.2, o)) (r1 := some (0, r3.1)) (zCk1_w (by decide +kernel)) rfl rfl rfl (st' := [(0, r3.1)]) rfl (S283r 64 (Nat.le_trans (by decide) hd)  r2 _ q4) ?_
      rcases zI_s e with ⟨q5, e⟩ | ⟨q5, e⟩
      · refine zF_blk (m := []) (d := 1) (b := B282_11) (gs := [¬ r3.1 = 0]) (c' := (36, [some (22, 0), some (0, v1)], [], (hc, r3.2, o))) K282_11 rfl ⟨q5, trivial⟩ ?_
        obtain ⟨r4, q6, e⟩ := zB_s e
        refine zF_blk (m := []) (d := 0) (b := B282_8) (gs := []) (c' := (44, [some (22, 0), some (0, v1)], [(0, 0), (0, (r3.2 49 0)), (0, v1), (0, 2), (22, 0)], (hc, r3.2, o))) K282_8 rfl trivial ?_
        refine zF_call (k := 286) (cl := 12) (n := 5) (i := .invokevirtual 403) (args := [(22, 0), (0, 2), (0, v1), (0, (r3.2 49 0)), (0, 0)]) (rest := []) (g1 := (hc, r4.2, o)) (r1 := some (0, r4.1)) (zCk1_w (by decide +kernel)) rfl rfl rfl (st' := [(0, r4.1)]) rfl (S286 (Nat.le_trans (by decide) hd) 2 v1 (r3.2 49 0) 0 r3.2 _ q6) ?_
        refine zF_blk (m := []) (d := 0) (b := B282_9) (gs := []) (c' := (14, [some (22, 0), some (0, r4.1)], [], (hc, r4.2, o))) K282_9 rfl trivial ?_
        exact hk0 r4.1 r4.2 _ e
      · refine zF_blk (m := []) (d := 0) (b := B282_11) (gs := [¬ (¬ r3.1 = 0)]) (c' := (34, [some (22, 0), some (0, v1)], [], (hc, r3.2, o))) K282_11 rfl ⟨q5, trivial⟩ ?_
        refine zF_blk (m := []) (d := 0) (b := B282_10) (gs := []) (c' := (35, [some (22, 0), some (0, v1)], [(0, 0)], (hc, r3.2, o))) K282_10 rfl trivial ?_
        exact zF_rbM (zRe1_w (by decide +kernel)) (Or.inl rfl) e
/-- EchoValeModel.readAnd()Z -/
def F282 (h : zHM) : Option (Int × zHM) := (F283r 64 h).bind fun r1 => if ¬ r1.1 = 0 then F282_0 zFu (r1.2 49 0) r1.2 else some (0, r1.2)
set_option maxRecDepth 100000 in
theorem S282 {spec : zRn zH2} {hc : zHC} {o : Int → Int} {d : Nat} (hd : 449 ≤ d) (h : zHM) (v : (Int × zHM)) (e : F282 h = some v) : zRu2 spec d 282 [(22, 0)] (hc, h, o) (some (0, v.1)) (hc, v.2, o) := by
  refine zF_in (D := 448) (mx := 2) (L := [some (22, 0), none]) (by decide +kernel) rfl rfl hd (fun d hd => ?_)
  unfold F282 at e
  obtain ⟨r1, q1, e⟩ := zB_s e
  refine zF_blk (m := []) (d := 0) (b := B282_0) (gs := []) (c' := (1, [some (22, 0), none], [(22, 0)], (hc, h, o))) K282_0 rfl trivial ?_
  refine zF_call (k := 283) (cl := 12) (n := 1) (i := .invokevirtual 407) (args := [(22, 0)]) (rest := []) (g1 := (hc, r1.2, o)) (r1 := some (0, r1.1)) (zCk1_w (by decide +kernel)) rfl rfl rfl (st' := [(0, r1.1)]) rfl (S283r 64 (Nat.le_trans (by decide) hd)  h _ q1) ?_
  rcases zI_s e with ⟨q2, e⟩ | ⟨q2, e⟩
  · refine zF_blk (m := []) (d := 1) (b := B282_3) (gs := [¬ r1.1 = 0]) (c' := (9, [some (22, 0), none], [], (hc, r1.2, o))) K282_3 rfl ⟨q2, trivial⟩ ?_
    refine zF_blk (m := []) (d := 0) (b := B282_1) (gs := []) (c' := (14, [some (22, 0), some (0, (r1.2 49 0))], [], (hc, r1.2, o))) K282_1 rfl trivial ?_
    exact T282_0 hd zFu (r1.2 49 0) r1.2 _ e
  · refine zF_blk (m := []) (d := 0) (b := B282_3) (gs := [¬ (¬ r1.1 = 0)]) (c' := (7, [some (22, 0), none], [], (hc, r1.2, o))) K282_3 rfl ⟨q2, trivial⟩ ?_
    refine zF_blk (m := []) (d := 0) (b := B282_2) (gs := []) (c' := (8, [some (22, 0), none], [(0, 0)], (hc, r1.2, o))) K282_2 rfl trivial ?_
    exact zF_rbM (zRe1_w (by decide +kernel)) (Or.inl rfl) e
noncomputable def B281_0 : List zRow := [(0, .aload_n 0, 1, (0, 0, 0))]
theorem K281_0 : zRk 281 B281_0 = true := zRw_ok (by decide +kernel)
noncomputable def B281_1 : List zRow := [(9, .aload_n 0, 1, (0, 0, 0)), (10, .getfield 400, 3, (12, 49, 0)), (13, .istore_n 1, 1, (0, 0, 0))]
theorem K281_1 : zRk 281 B281_1 = true := zRw_ok (by decide +kernel)
noncomputable def B281_2 : List zRow := [(7, .iconst 0, 1, (0, 0, 0))]
theorem K281_2 : zRk 281 B281_2 = true := zRw_ok (by decide +kernel)
noncomputable def B281_3 : List zRow := [(4, .ifCond .ne 5, 3, (0, 0, 0))]
theorem K281_3 : zRk 281 B281_3 = true := zRw_ok (by decide +kernel)
noncomputable def B281_4 : List zRow := [(14, .aload_n 0, 1, (0, 0, 0)), (15, .bipush 10, 2, (0, 0, 0))]
theorem K281_4 : zRk 281 B281_4 = true := zRw_ok (by decide +kernel)
noncomputable def B281_5 : List zRow := [(51, .aload_n 0, 1, (0, 0, 0)), (52, .iload_n 1, 1, (0, 0, 0)), (53, .putfield 400, 3, (12, 49, 0)), (56, .iconst 1, 1, (0, 0, 0))]
theorem K281_5 : zRk 281 B281_5 = true := zRw_ok (by decide +kernel)
noncomputable def B281_6 : List zRow := [(23, .aload_n 0, 1, (0, 0, 0))]
theorem K281_6 : zRk 281 B281_6 = true := zRw_ok (by decide +kernel)
noncomputable def B281_7 : List zRow := [(27, .aload_n 0, 1, (0, 0, 0))]
theorem K281_7 : zRk 281 B281_7 = true := zRw_ok (by decide +kernel)
noncomputable def B281_8 : List zRow := [(36, .aload_n 0, 1, (0, 0, 0)), (37, .iconst 3, 1, (0, 0, 0)), (38, .iload_n 1, 1, (0, 0, 0)), (39, .aload_n 0, 1, (0, 0, 0)), (40, .getfield 400, 3, (12, 49, 0)), (43, .iconst 0, 1, (0, 0, 0))]
theorem K281_8 : zRk 281 B281_8 = true := zRw_ok (by decide +kernel)
noncomputable def B281_9 : List zRow := [(47, .istore_n 1, 1, (0, 0, 0)), (48, .goto (-34), 3, (0, 0, 0))]
theorem K281_9 : zRk 281 B281_9 = true := zRw_ok (by decide +kernel)
noncomputable def B281_10 : List zRow := [(34, .iconst 0, 1, (0, 0, 0))]
theorem K281_10 : zRk 281 B281_10 = true := zRw_ok (by decide +kernel)
noncomputable def B281_11 : List zRow := [(31, .ifCond .ne 5, 3, (0, 0, 0))]
theorem K281_11 : zRk 281 B281_11 = true := zRw_ok (by decide +kernel)
noncomputable def B281_12 : List zRow := [(20, .ifCond .eq 31, 3, (0, 0, 0))]
theorem K281_12 : zRk 281 B281_12 = true := zRw_ok (by decide +kernel)
def F281_0 : Nat → Int → zHM → Option (Int × zHM)
  | 0, _, _ => none
  | n + 1, v1, h => (F181 10 h).bind fun r1 => if r1 = 0 then some (1, (mset h 49 0 v1)) else (F176 h).bind fun r2 => (F282 r2).bind fun r3 => if ¬ r3.1 = 0 then (F286 3 v1 (r3.2 49 0) 0 r3.2).bind fun r4 => (F281_0 n) r4.1 r4.2 else some (0, r3.2)
set_option maxRecDepth 100000 in
theorem T281_0 {spec : zRn zH2} {hc : zHC} {o : Int → Int} {d : Nat} (hd : 449 ≤ d) : ∀ (n : Nat) (v1 : Int) (h : zHM) (v : (Int × zHM)), F281_0 n v1 h = some v → zFin 0 (fun _ => 0) (zRu2 spec d) 281 (some (0, v.1)) (hc, v.2, o) (14, [some (22, 0), some (0, v1)], [], (hc, h, o)) := by
  intro n
  induction n with
  | zero => intro v1 h v e; unfold F281_0 at e; cases e
  | succ n hk0 =>
    intro v1 h v e
    unfold F281_0 at e
    obtain ⟨r1, q1, e⟩ := zB_s e
    refine zF_blk (m := []) (d := 0) (b := B281_4) (gs := []) (c' := (17, [some (22, 0), some (0, v1)], [(0, 10), (22, 0)], (hc, h, o))) K281_4 rfl trivial ?_
    refine zF_call (k := 181) (cl := 12) (n := 2) (i := .invokevirtual 199) (args := [(22, 0), (0, 10)]) (rest := []) (g1 := (hc, h, o)) (r1 := some (0, r1)) (zCk1_w (by decide +kernel)) rfl rfl rfl (st' := [(0, r1)]) rfl (S181 (Nat.le_trans (by decide) hd) 10 h _ q1) ?_
    rcases zI_s e with ⟨q2, e⟩ | ⟨q2, e⟩
    · refine zF_blk (m := []) (d := 1) (b := B281_12) (gs := [r1 = 0]) (c' := (51, [some (22, 0), some (0, v1)], [], (hc, h, o))) K281_12 rfl ⟨q2, trivial⟩ ?_
      refine zF_blk (m := []) (d := 0) (b := B281_5) (gs := []) (c' := (57, [some (22, 0), some (0, v1)], [(0, 1)], (hc, (mset h 49 0 v1), o))) K281_5 rfl trivial ?_
      exact zF_rbM (zRe1_w (by decide +kernel)) (Or.inr rfl) e
    · refine zF_blk (m := []) (d := 0) (b := B281_12) (gs := [¬ (r1 = 0)]) (c' := (23, [some (22, 0), some (0, v1)], [], (hc, h, o))) K281_12 rfl ⟨q2, trivial⟩ ?_
      obtain ⟨r2, q3, e⟩ := zB_s e
      refine zF_blk (m := []) (d := 0) (b := B281_6) (gs := []) (c' := (24, [some (22, 0), some (0, v1)], [(22, 0)], (hc, h, o))) K281_6 rfl trivial ?_
      refine zF_call (k := 176) (cl := 12) (n := 1) (i := .invokevirtual 162) (args := [(22, 0)]) (rest := []) (g1 := (hc, r2, o)) (r1 := none) (zCk1_w (by decide +kernel)) rfl rfl rfl (st' := []) rfl (S176 (Nat.le_trans (by decide) hd)  h _ q3) ?_
      obtain ⟨r3, q4, e⟩ := zB_s e
      refine zF_blk (m := []) (d := 0) (b := B281_7) (gs := []) (c' := (28, [some (22, 0), some (0, v1)], [(22, 0)], (hc, r2, o))) K281_7 rfl trivial ?_
      refine zF_call (k := 282) (cl := 12) (n := 1) (i := .invokevirtual 397) (args := [(22, 0)]) (rest := []) (g1 := (hc, r3.2, o)) (r1 := some (0, r3.1)) (zCk1_w (by decide +kernel)) rfl rfl rfl (st' := [(0, r3.1)]) rfl (S282 (Nat.le_trans (by decide) hd)  r2 _ q4) ?_
      rcases zI_s e with ⟨q5, e⟩ | ⟨q5, e⟩
      · refine zF_blk (m := []) (d := 1) (b := B281_11) (gs := [¬ r3.1 = 0]) (c' := (36, [some (22, 0), some (0, v1)], [], (hc, r3.2, o))) K281_11 rfl ⟨q5, trivial⟩ ?_
        obtain ⟨r4, q6, e⟩ := zB_s e
        refine zF_blk (m := []) (d := 0) (b := B281_8) (gs := []) (c' := (44, [some (22, 0), some (0, v1)], [(0, 0), (0, (r3.2 49 0)), (0, v1), (0, 3), (22, 0)], (hc, r3.2, o))) K281_8 rfl trivial ?_
        refine zF_call (k := 286) (cl := 12) (n := 5) (i := .invokevirtual 403) (args := [(22, 0), (0, 3), (0, v1), (0, (r3.2 49 0)), (0, 0)]) (rest := []) (g1 := (hc, r4.2, o)) (r1 := some (0, r4.1)) (zCk1_w (by decide +kernel)) rfl rfl rfl (st' := [(0, r4.1)]) rfl (S286 (Nat.le_trans (by decide) hd) 3 v1 (r3.2 49 0) 0 r3.2 _ q6) ?_
        refine zF_blk (m := []) (d := 0) (b := B281_9) (gs := []) (c' := (14, [some (22, 0), some (0, r4.1)], [], (hc, r4.2, o))) K281_9 rfl trivial ?_
        exact hk0 r4.1 r4.2 _ e
      · refine zF_blk (m := []) (d := 0) (b := B281_11) (gs := [¬ (¬ r3.1 = 0)]) (c' := (34, [some (22, 0), some (0, v1)], [], (hc, r3.2, o))) K281_11 rfl ⟨q5, trivial⟩ ?_
        refine zF_blk (m := []) (d := 0) (b := B281_10) (gs := []) (c' := (35, [some (22, 0), some (0, v1)], [(0, 0)], (hc, r3.2, o))) K281_10 rfl trivial ?_
        exact zF_rbM (zRe1_w (by decide +kernel)) (Or.inl rfl) e
/-- EchoValeModel.readOr()Z -/
def F281 (h : zHM) : Option (Int × zHM) := (F282 h).bind fun r1 => if ¬ r1.1 = 0 then F281_0 zFu (r1.2 49 0) r1.2 else some (0, r1.2)
set_option maxRecDepth 100000 in
theorem S281 {spec : zRn zH2} {hc : zHC} {o : Int → Int} {d : Nat} (hd : 450 ≤ d) (h : zHM) (v : (Int × zHM)) (e : F281 h = some v) : zRu2 spec d 281 [(22, 0)] (hc, h, o) (some (0, v.1)) (hc, v.2, o) := by
  refine zF_in (D := 449) (mx := 2) (L := [some (22, 0), none]) (by decide +kernel) rfl rfl hd (fun d hd => ?_)
  unfold F281 at e
  obtain ⟨r1, q1, e⟩ := zB_s e
  refine zF_blk (m := []) (d := 0) (b := B281_0) (gs := []) (c' := (1, [some (22, 0), none], [(22, 0)], (hc, h, o))) K281_0 rfl trivial ?_
  refine zF_call (k := 282) (cl := 12) (n := 1) (i := .invokevirtual 397) (args := [(22, 0)]) (rest := []) (g1 := (hc, r1.2, o)) (r1 := some (0, r1.1)) (zCk1_w (by decide +kernel)) rfl rfl rfl (st' := [(0, r1.1)]) rfl (S282 (Nat.le_trans (by decide) hd)  h _ q1) ?_
  rcases zI_s e with ⟨q2, e⟩ | ⟨q2, e⟩
  · refine zF_blk (m := []) (d := 1) (b := B281_3) (gs := [¬ r1.1 = 0]) (c' := (9, [some (22, 0), none], [], (hc, r1.2, o))) K281_3 rfl ⟨q2, trivial⟩ ?_
    refine zF_blk (m := []) (d := 0) (b := B281_1) (gs := []) (c' := (14, [some (22, 0), some (0, (r1.2 49 0))], [], (hc, r1.2, o))) K281_1 rfl trivial ?_
    exact T281_0 hd zFu (r1.2 49 0) r1.2 _ e
  · refine zF_blk (m := []) (d := 0) (b := B281_3) (gs := [¬ (¬ r1.1 = 0)]) (c' := (7, [some (22, 0), none], [], (hc, r1.2, o))) K281_3 rfl ⟨q2, trivial⟩ ?_
    refine zF_blk (m := []) (d := 0) (b := B281_2) (gs := []) (c' := (8, [some (22, 0), none], [(0, 0)], (hc, r1.2, o))) K281_2 rfl trivial ?_
    exact zF_rbM (zRe1_w (by decide +kernel)) (Or.inl rfl) e
noncomputable def B280_0 : List zRow := [(0, .aload_n 0, 1, (0, 0, 0)), (1, .sipush 200, 3, (0, 0, 0))]
theorem K280_0 : zRk 280 B280_0 = true := zRw_ok (by decide +kernel)
noncomputable def B280_1 : List zRow := [(7, .aload_n 0, 1, (0, 0, 0)), (8, .iconst 0, 1, (0, 0, 0)), (9, .putfield 394, 3, (12, 46, 0)), (12, .aload_n 0, 1, (0, 0, 0)), (13, .iconst 0, 1, (0, 0, 0)), (14, .putfield 410, 3, (12, 47, 0)), (17, .aload_n 0, 1, (0, 0, 0)), (18, .iconst 0, 1, (0, 0, 0)), (19, .putfield 413, 3, (12, 48, 0)), (22, .aload_n 0, 1, (0, 0, 0))]
theorem K280_1 : zRk 280 B280_1 = true := zRw_ok (by decide +kernel)
noncomputable def B280_2 : List zRow := [(56, .aload_n 0, 1, (0, 0, 0)), (57, .getfield 13, 3, (12, 14, 5251442)), (60, .sipush 1898, 3, (0, 0, 0)), (63, .iconst 1, 1, (0, 0, 0)), (64, .iastore, 1, (0, 0, 0)), (65, .aload_n 0, 1, (0, 0, 0)), (66, .getfield 13, 3, (12, 14, 5251442)), (69, .sipush 1899, 3, (0, 0, 0)), (72, .aload_n 0, 1, (0, 0, 0)), (73, .getfield 400, 3, (12, 49, 0)), (76, .iastore, 1, (0, 0, 0)), (77, .iconst 0, 1, (0, 0, 0)), (78, .istore_n 1, 1, (0, 0, 0))]
theorem K280_2 : zRk 280 B280_2 = true := zRw_ok (by decide +kernel)
noncomputable def B280_3 : List zRow := [(43, .aload_n 0, 1, (0, 0, 0)), (44, .iconst 1, 1, (0, 0, 0))]
theorem K280_3 : zRk 280 B280_3 = true := zRw_ok (by decide +kernel)
noncomputable def B280_4 : List zRow := [(48, .pop, 1, (0, 0, 0)), (49, .iconst (-1), 1, (0, 0, 0)), (50, .aload_n 0, 1, (0, 0, 0)), (51, .getfield 145, 3, (12, 11, 0))]
theorem K280_4 : zRk 280 B280_4 = true := zRw_ok (by decide +kernel)
noncomputable def B280_5 : List zRow := [(54, .isub, 1, (0, 0, 0))]
theorem K280_5 : zRk 280 B280_5 = true := zRw_ok (by decide +kernel)
noncomputable def B280_6 : List zRow := [(36, .aload_n 0, 1, (0, 0, 0)), (37, .getfield 107, 3, (12, 7, 0)), (40, .ifCond .eq 16, 3, (0, 0, 0))]
theorem K280_6 : zRk 280 B280_6 = true := zRw_ok (by decide +kernel)
noncomputable def B280_7 : List zRow := [(29, .iconst (-1), 1, (0, 0, 0)), (30, .aload_n 0, 1, (0, 0, 0)), (31, .getfield 145, 3, (12, 11, 0))]
theorem K280_7 : zRk 280 B280_7 = true := zRw_ok (by decide +kernel)
noncomputable def B280_8 : List zRow := [(34, .isub, 1, (0, 0, 0))]
theorem K280_8 : zRk 280 B280_8 = true := zRw_ok (by decide +kernel)
noncomputable def B280_9 : List zRow := [(26, .ifCond .ne 10, 3, (0, 0, 0))]
theorem K280_9 : zRk 280 B280_9 = true := zRw_ok (by decide +kernel)
noncomputable def B280_10 : List zRow := [(108, .aload_n 0, 1, (0, 0, 0)), (109, .getfield 410, 3, (12, 47, 0))]
theorem K280_10 : zRk 280 B280_10 = true := zRw_ok (by decide +kernel)
noncomputable def B280_11 : List zRow := [(86, .aload_n 0, 1, (0, 0, 0)), (87, .getfield 13, 3, (12, 14, 5251442)), (90, .sipush 1900, 3, (0, 0, 0)), (93, .iload_n 1, 1, (0, 0, 0))]
theorem K280_11 : zRk 280 B280_11 = true := zRw_ok (by decide +kernel)
noncomputable def B280_12 : List zRow := [(94, .iadd, 1, (0, 0, 0)), (95, .aload_n 0, 1, (0, 0, 0)), (96, .getfield 78, 3, (12, 45, 5243842)), (99, .iload_n 1, 1, (0, 0, 0)), (100, .iaload, 1, (0, 0, 0)), (101, .iastore, 1, (0, 0, 0)), (102, .iinc 1 1, 3, (0, 0, 0)), (105, .goto (-26), 3, (0, 0, 0))]
theorem K280_12 : zRk 280 B280_12 = true := zRw_ok (by decide +kernel)
noncomputable def B280_13 : List zRow := [(79, .iload_n 1, 1, (0, 0, 0)), (80, .sipush 240, 3, (0, 0, 0)), (83, .if_icmp .ge 25, 3, (0, 0, 0))]
theorem K280_13 : zRk 280 B280_13 = true := zRw_ok (by decide +kernel)
def F280_0 : Nat → Int → zHM → Option (Int × zHM)
  | 0, _, _ => none
  | n + 1, v1, h => if 240 ≤ v1 then some ((h 47 0), h) else zG (0 ≤ v1 ∧ v1 < 240) (zG (0 ≤ (wadd 1900 v1) ∧ (wadd 1900 v1) < 2140) ((F280_0 n) (wadd v1 1) (mset h 14 (wadd 1900 v1) (h 45 v1))))
set_option maxRecDepth 100000 in
theorem T280_0 {spec : zRn zH2} {hc : zHC} {o : Int → Int} {d : Nat} (hd : 450 ≤ d) : ∀ (n : Nat) (v1 : Int) (h : zHM) (v : (Int × zHM)), F280_0 n v1 h = some v → zFin 0 (fun _ => 0) (zRu2 spec d) 280 (some (0, v.1)) (hc, v.2, o) (79, [some (22, 0), some (0, v1)], [], (hc, h, o)) := by
  intro n
  induction n with
  | zero => intro v1 h v e; unfold F280_0 at e; cases e
  | succ n hk0 =>
    intro v1 h v e
    unfold F280_0 at e
    rcases zI_s e with ⟨q1, e⟩ | ⟨q1, e⟩
    · refine zF_blk (m := []) (d := 1) (b := B280_13) (gs := [240 ≤ v1]) (c' := (108, [some (22, 0), some (0, v1)], [], (hc, h, o))) K280_13 rfl ⟨q1, trivial⟩ ?_
      refine zF_blk (m := []) (d := 0) (b := B280_10) (gs := []) (c' := (112, [some (22, 0), some (0, v1)], [(0, (h 47 0))], (hc, h, o))) K280_10 rfl trivial ?_
      exact zF_riM (zRe1_w (by decide +kernel)) e
    · refine zF_blk (m := []) (d := 0) (b := B280_13) (gs := [¬ (240 ≤ v1)]) (c' := (86, [some (22, 0), some (0, v1)], [], (hc, h, o))) K280_13 rfl ⟨q1, trivial⟩ ?_
      obtain ⟨q2, e⟩ := zG_s e
      obtain ⟨q3, e⟩ := zG_s e
      refine zF_blk (m := []) (d := 0) (b := B280_11) (gs := []) (c' := (94, [some (22, 0), some (0, v1)], [(0, v1), (0, 1900), (1344370422, 0)], (hc, h, o))) K280_11 rfl trivial ?_
      refine zF_blk (m := []) (d := 0) (b := B280_12) (gs := [0 ≤ v1 ∧ v1 < 240, 0 ≤ (wadd 1900 v1) ∧ (wadd 1900 v1) < 2140]) (c' := (79, [some (22, 0), some (0, (wadd v1 1))], [], (hc, (mset h 14 (wadd 1900 v1) (h 45 v1)), o))) K280_12 rfl ⟨q2, q3, trivial⟩ ?_
      exact hk0 (wadd v1 1) (mset h 14 (wadd 1900 v1) (h 45 v1)) _ e
/-- EchoValeModel.sentence()I -/
def F280 (h : zHM) : Option (Int × zHM) := (F174 200 h).bind fun r1 => (F281 (mset (mset (mset r1 46 0 0) 47 0 0) 48 0 0)).bind fun r2 => if ¬ r2.1 = 0 then if (r2.2 7 0) = 0 then F280_0 zFu 0 (mset (mset r2.2 14 1898 1) 14 1899 (r2.2 49 0)) else (F185 1 r2.2).bind fun r3 => some ((wsub (-1) (r3.2 11 0)), r3.2) else some ((wsub (-1) (r2.2 11 0)), r2.2)
set_option maxRecDepth 100000 in
theorem S280 {spec : zRn zH2} {hc : zHC} {o : Int → Int} {d : Nat} (hd : 451 ≤ d) (h : zHM) (v : (Int × zHM)) (e : F280 h = some v) : zRu2 spec d 280 [(22, 0)] (hc, h, o) (some (0, v.1)) (hc, v.2, o) := by
  refine zF_in (D := 450) (mx := 2) (L := [some (22, 0), none]) (by decide +kernel) rfl rfl hd (fun d hd => ?_)
  unfold F280 at e
  obtain ⟨r1, q1, e⟩ := zB_s e
  refine zF_blk (m := []) (d := 0) (b := B280_0) (gs := []) (c' := (4, [some (22, 0), none], [(0, 200), (22, 0)], (hc, h, o))) K280_0 rfl trivial ?_
  refine zF_call (k := 174) (cl := 12) (n := 2) (i := .invokevirtual 226) (args := [(22, 0), (0, 200)]) (rest := []) (g1 := (hc, r1, o)) (r1 := none) (zCk1_w (by decide +kernel)) rfl rfl rfl (st' := []) rfl (S174 (Nat.le_trans (by decide) hd) 200 h _ q1) ?_
  obtain ⟨r2, q2, e⟩ := zB_s e
  refine zF_blk (m := []) (d := 0) (b := B280_1) (gs := []) (c' := (23, [some (22, 0), none], [(22, 0)], (hc, (mset (mset (mset r1 46 0 0) 47 0 0) 48 0 0), o))) K280_1 rfl trivial ?_
  refine zF_call (k := 281) (cl := 12) (n := 1) (i := .invokevirtual 428) (args := [(22, 0)]) (rest := []) (g1 := (hc, r2.2, o)) (r1 := some (0, r2.1)) (zCk1_w (by decide +kernel)) rfl rfl rfl (st' := [(0, r2.1)]) rfl (S281 (Nat.le_trans (by decide) hd)  (mset (mset (mset r1 46 0 0) 47 0 0) 48 0 0) _ q2) ?_
  rcases zI_s e with ⟨q3, e⟩ | ⟨q3, e⟩
  · refine zF_blk (m := []) (d := 1) (b := B280_9) (gs := [¬ r2.1 = 0]) (c' := (36, [some (22, 0), none], [], (hc, r2.2, o))) K280_9 rfl ⟨q3, trivial⟩ ?_
    rcases zI_s e with ⟨q4, e⟩ | ⟨q4, e⟩
    · refine zF_blk (m := []) (d := 1) (b := B280_6) (gs := [(r2.2 7 0) = 0]) (c' := (56, [some (22, 0), none], [], (hc, r2.2, o))) K280_6 rfl ⟨q4, trivial⟩ ?_
      refine zF_blk (m := []) (d := 0) (b := B280_2) (gs := [0 ≤ 1898 ∧ 1898 < 2140, 0 ≤ 1899 ∧ 1899 < 2140]) (c' := (79, [some (22, 0), some (0, 0)], [], (hc, (mset (mset r2.2 14 1898 1) 14 1899 (r2.2 49 0)), o))) K280_2 rfl ⟨by decide, by decide, trivial⟩ ?_
      exact T280_0 hd zFu 0 (mset (mset r2.2 14 1898 1) 14 1899 (r2.2 49 0)) _ e
    · refine zF_blk (m := []) (d := 0) (b := B280_6) (gs := [¬ ((r2.2 7 0) = 0)]) (c' := (43, [some (22, 0), none], [], (hc, r2.2, o))) K280_6 rfl ⟨q4, trivial⟩ ?_
      obtain ⟨r3, q5, e⟩ := zB_s e
      refine zF_blk (m := []) (d := 0) (b := B280_3) (gs := []) (c' := (45, [some (22, 0), none], [(0, 1), (22, 0)], (hc, r2.2, o))) K280_3 rfl trivial ?_
      refine zF_call (k := 185) (cl := 12) (n := 2) (i := .invokevirtual 148) (args := [(22, 0), (0, 1)]) (rest := []) (g1 := (hc, r3.2, o)) (r1 := some (0, r3.1)) (zCk1_w (by decide +kernel)) rfl rfl rfl (st' := [(0, r3.1)]) rfl (S185 (Nat.le_trans (by decide) hd) 1 r2.2 _ q5) ?_
      refine zF_blk (m := []) (d := 0) (b := B280_4) (gs := []) (c' := (54, [some (22, 0), none], [(0, (r3.2 11 0)), (0, (-1))], (hc, r3.2, o))) K280_4 rfl trivial ?_
      refine zF_blk (m := []) (d := 0) (b := B280_5) (gs := []) (c' := (55, [some (22, 0), none], [(0, (wsub (-1) (r3.2 11 0)))], (hc, r3.2, o))) K280_5 rfl trivial ?_
      exact zF_riM (zRe1_w (by decide +kernel)) e
  · refine zF_blk (m := []) (d := 0) (b := B280_9) (gs := [¬ (¬ r2.1 = 0)]) (c' := (29, [some (22, 0), none], [], (hc, r2.2, o))) K280_9 rfl ⟨q3, trivial⟩ ?_
    refine zF_blk (m := []) (d := 0) (b := B280_7) (gs := []) (c' := (34, [some (22, 0), none], [(0, (r2.2 11 0)), (0, (-1))], (hc, r2.2, o))) K280_7 rfl trivial ?_
    refine zF_blk (m := []) (d := 0) (b := B280_8) (gs := []) (c' := (35, [some (22, 0), none], [(0, (wsub (-1) (r2.2 11 0)))], (hc, r2.2, o))) K280_8 rfl trivial ?_
    exact zF_riM (zRe1_w (by decide +kernel)) e
