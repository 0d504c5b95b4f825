/-! Functions of the methods, by wip/gen/lift.py. -/
def B149b_0 : List zRow := [(0, .aload_n 0, 1, (0, 0, 0)), (1, .aload_n 1, 1, (0, 0, 0)), (2, .iload_n 2, 1, (0, 0, 0))]
theorem K149b_0 : zRk 149 B149b_0 = true := by decide +kernel
def B149b_1 : List zRow := [(11, .iconst 0, 1, (0, 0, 0)), (12, .istore_n 3, 1, (0, 0, 0))]
theorem K149b_1 : zRk 149 B149b_1 = true := by decide +kernel
def B149b_2 : List zRow := [(9, .iconst 0, 1, (0, 0, 0))]
theorem K149b_2 : zRk 149 B149b_2 = true := by decide +kernel
def B149b_3 : List zRow := [(6, .ifCond .ne 5, 3, (0, 0, 0))]
theorem K149b_3 : zRk 149 B149b_3 = true := by decide +kernel
def B149b_4 : List zRow := [(67, .iconst 1, 1, (0, 0, 0))]
theorem K149b_4 : zRk 149 B149b_4 = true := by decide +kernel
def B149b_5 : List zRow := [(20, .aload_n 0, 1, (0, 0, 0)), (21, .getfield 18, 3, (7, 1, 23)), (24, .bipush 10, 2, (0, 0, 0))]
theorem K149b_5 : zRk 149 B149b_5 = true := by decide +kernel
def B149b_6 : List zRow := [(32, .aload_n 0, 1, (0, 0, 0)), (33, .getfield 18, 3, (7, 1, 23))]
theorem K149b_6 : zRk 149 B149b_6 = true := by decide +kernel
def B149b_7 : List zRow := [(39, .aload_n 0, 1, (0, 0, 0)), (40, .aload_n 1, 1, (0, 0, 0)), (41, .iload_n 2, 1, (0, 0, 0))]
theorem K149b_7 : zRk 149 B149b_7 = true := by decide +kernel
def B149b_8 : List zRow := [(50, .aload_n 0, 1, (0, 0, 0)), (51, .getfield 12, 3, (7, 0, 155)), (54, .bipush 10, 2, (0, 0, 0)), (56, .iconst 0, 1, (0, 0, 0)), (57, .iconst 0, 1, (0, 0, 0))]
theorem K149b_8 : zRk 149 B149b_8 = true := by decide +kernel
def B149b_9 : List zRow := [(61, .iinc 3 1, 3, (0, 0, 0)), (64, .goto (-51), 3, (0, 0, 0))]
theorem K149b_9 : zRk 149 B149b_9 = true := by decide +kernel
def B149b_10 : List zRow := [(48, .iconst 0, 1, (0, 0, 0))]
theorem K149b_10 : zRk 149 B149b_10 = true := by decide +kernel
def B149b_11 : List zRow := [(45, .ifCond .ne 5, 3, (0, 0, 0))]
theorem K149b_11 : zRk 149 B149b_11 = true := by decide +kernel
def B149b_12 : List zRow := [(29, .ifCond .eq 38, 3, (0, 0, 0))]
theorem K149b_12 : zRk 149 B149b_12 = true := by decide +kernel
def B149b_13 : List zRow := [(13, .iload_n 3, 1, (0, 0, 0)), (14, .sipush 940, 3, (0, 0, 0)), (17, .if_icmp .ge 50, 3, (0, 0, 0))]
theorem K149b_13 : zRk 149 B149b_13 = true := by decide +kernel
def F149b_0 (kR : Int → Int → zHC → Option (Int × zHC)) : Nat → Int → Int → Int → zHC → Option (Int × zHC)
  | 0, _, _, _, _ => none
  | n + 1, v1, v2, v3, h => if 940 ≤ v3 then some (1, h) else (F152 10 h).bind fun r1 => if r1 = 0 then some (1, h) else (F21 h).bind fun r2 => (F150b kR v1 v2 r2).bind fun r3 => if ¬ r3.1 = 0 then (F153 1 10 0 0 r3.2).bind fun r4 => (F149b_0 kR n) v1 v2 (wadd v3 1) r4 else some (0, r3.2)
set_option maxRecDepth 100000 in
theorem T149b_0 {spec : zRn zH2} {hm : zHM} {o : Int → Int} {d : Nat} {DR : Nat} (hd : DR + 4 ≤ d) (kR : Int → Int → zHC → Option (Int × zHC)) (hkR : ∀ (d' : Nat), DR ≤ d' → ∀ (v1 : Int) (v2 : Int) (h : zHC) (v : (Int × zHC)), kR v1 v2 h = some v → zRu2 spec d' 151 [(17, 0), (19, v1), (0, v2)] (h, hm, o) (some (0, v.1)) (v.2, hm, o)) : ∀ (n : Nat) (v1 : Int) (v2 : Int) (v3 : Int) (h : zHC) (v : (Int × zHC)), F149b_0 kR n v1 v2 v3 h = some v → zFin 0 (fun _ => 0) (zRu2 spec d) 149 (some (0, v.1)) (v.2, hm, o) (13, [some (17, 0), some (19, v1), some (0, v2), some (0, v3)], [], (h, hm, o)) := by
  intro n
  induction n with
  | zero => intro v1 v2 v3 h v e; unfold F149b_0 at e; cases e
  | succ n hk0 =>
    intro v1 v2 v3 h v e
    unfold F149b_0 at e
    rcases zI_s e with ⟨q1, e⟩ | ⟨q1, e⟩
    · refine zF_blk (m := []) (d := 1) (b := B149b_13) (gs := [940 ≤ v3]) (c' := (67, [some (17, 0), some (19, v1), some (0, v2), some (0, v3)], [], (h, hm, o))) K149b_13 rfl ⟨q1, trivial⟩ ?_
      refine zF_blk (m := []) (d := 0) (b := B149b_4) (gs := []) (c' := (68, [some (17, 0), some (19, v1), some (0, v2), some (0, v3)], [(0, 1)], (h, hm, o))) K149b_4 rfl trivial ?_
      exact zF_rbC (by decide +kernel) (Or.inr rfl) e
    · refine zF_blk (m := []) (d := 0) (b := B149b_13) (gs := [¬ (940 ≤ v3)]) (c' := (20, [some (17, 0), some (19, v1), some (0, v2), some (0, v3)], [], (h, hm, o))) K149b_13 rfl ⟨q1, trivial⟩ ?_
      obtain ⟨r1, q2, e⟩ := zB_s e
      refine zF_blk (m := []) (d := 0) (b := B149b_5) (gs := []) (c' := (26, [some (17, 0), some (19, v1), some (0, v2), some (0, v3)], [(0, 10), (15, 0)], (h, hm, o))) K149b_5 rfl trivial ?_
      refine zF_call (k := 152) (cl := 5) (n := 2) (i := .invokevirtual 46) (args := [(15, 0), (0, 10)]) (rest := []) (g1 := (h, hm, o)) (r1 := some (0, r1)) (by decide +kernel) rfl rfl rfl (st' := [(0, r1)]) rfl (S152 (by omega) 10 h _ q2) ?_
      rcases zI_s e with ⟨q3, e⟩ | ⟨q3, e⟩
      · refine zF_blk (m := []) (d := 1) (b := B149b_12) (gs := [r1 = 0]) (c' := (67, [some (17, 0), some (19, v1), some (0, v2), some (0, v3)], [], (h, hm, o))) K149b_12 rfl ⟨q3, trivial⟩ ?_
        refine zF_blk (m := []) (d := 0) (b := B149b_4) (gs := []) (c' := (68, [some (17, 0), some (19, v1), some (0, v2), some (0, v3)], [(0, 1)], (h, hm, o))) K149b_4 rfl trivial ?_
        exact zF_rbC (by decide +kernel) (Or.inr rfl) e
      · refine zF_blk (m := []) (d := 0) (b := B149b_12) (gs := [¬ (r1 = 0)]) (c' := (32, [some (17, 0), some (19, v1), some (0, v2), some (0, v3)], [], (h, hm, o))) K149b_12 rfl ⟨q3, trivial⟩ ?_
        obtain ⟨r2, q4, e⟩ := zB_s e
        refine zF_blk (m := []) (d := 0) (b := B149b_6) (gs := []) (c' := (36, [some (17, 0), some (19, v1), some (0, v2), some (0, v3)], [(15, 0)], (h, hm, o))) K149b_6 rfl trivial ?_
        refine zF_call (k := 21) (cl := 5) (n := 1) (i := .invokevirtual 49) (args := [(15, 0)]) (rest := []) (g1 := (r2, hm, o)) (r1 := none) (by decide +kernel) rfl rfl rfl (st' := []) rfl (S21 (by omega)  h _ q4) ?_
        obtain ⟨r3, q5, e⟩ := zB_s e
        refine zF_blk (m := []) (d := 0) (b := B149b_7) (gs := []) (c' := (42, [some (17, 0), some (19, v1), some (0, v2), some (0, v3)], [(0, v2), (19, v1), (17, 0)], (r2, hm, o))) K149b_7 rfl trivial ?_
        refine zF_call (k := 150) (cl := 7) (n := 3) (i := .invokevirtual 43) (args := [(17, 0), (19, v1), (0, v2)]) (rest := []) (g1 := (r3.2, hm, o)) (r1 := some (0, r3.1)) (by decide +kernel) rfl rfl rfl (st' := [(0, r3.1)]) rfl (S150b (by omega) kR hkR v1 v2 r2 _ q5) ?_
        rcases zI_s e with ⟨q6, e⟩ | ⟨q6, e⟩
        · refine zF_blk (m := []) (d := 1) (b := B149b_11) (gs := [¬ r3.1 = 0]) (c' := (50, [some (17, 0), some (19, v1), some (0, v2), some (0, v3)], [], (r3.2, hm, o))) K149b_11 rfl ⟨q6, trivial⟩ ?_
          obtain ⟨r4, q7, e⟩ := zB_s e
          refine zF_blk (m := []) (d := 0) (b := B149b_8) (gs := []) (c' := (58, [some (17, 0), some (19, v1), some (0, v2), some (0, v3)], [(0, 0), (0, 0), (0, 10), (16, 1)], (r3.2, hm, o))) K149b_8 rfl trivial ?_
          refine zF_call (k := 153) (cl := 6) (n := 4) (i := .invokevirtual 52) (args := [(16, 1), (0, 10), (0, 0), (0, 0)]) (rest := []) (g1 := (r4, hm, o)) (r1 := none) (by decide +kernel) rfl rfl rfl (st' := []) rfl (S153 (by omega) 1 10 0 0 r3.2 _ q7) ?_
          refine zF_blk (m := []) (d := 0) (b := B149b_9) (gs := []) (c' := (13, [some (17, 0), some (19, v1), some (0, v2), some (0, (wadd v3 1))], [], (r4, hm, o))) K149b_9 rfl trivial ?_
          exact hk0 v1 v2 (wadd v3 1) r4 _ e
        · refine zF_blk (m := []) (d := 0) (b := B149b_11) (gs := [¬ (¬ r3.1 = 0)]) (c' := (48, [some (17, 0), some (19, v1), some (0, v2), some (0, v3)], [], (r3.2, hm, o))) K149b_11 rfl ⟨q6, trivial⟩ ?_
          refine zF_blk (m := []) (d := 0) (b := B149b_10) (gs := []) (c' := (49, [some (17, 0), some (19, v1), some (0, v2), some (0, v3)], [(0, 0)], (r3.2, hm, o))) K149b_10 rfl trivial ?_
          exact zF_rbC (by decide +kernel) (Or.inl rfl) e
/-- EchoVale$SentenceText.readCondition(LEchoVale$Valley;I)Z -/
def F149b (kR : Int → Int → zHC → Option (Int × zHC)) (v1 : Int) (v2 : Int) (h : zHC) : Option (Int × zHC) := (F150b kR v1 v2 h).bind fun r1 => if ¬ r1.1 = 0 then F149b_0 kR zFu v1 v2 0 r1.2 else some (0, r1.2)
set_option maxRecDepth 100000 in
theorem S149b {spec : zRn zH2} {hm : zHM} {o : Int → Int} {d : Nat} {DR : Nat} (hd : DR + 5 ≤ d) (kR : Int → Int → zHC → Option (Int × zHC)) (hkR : ∀ (d' : Nat), DR ≤ d' → ∀ (v1 : Int) (v2 : Int) (h : zHC) (v : (Int × zHC)), kR v1 v2 h = some v → zRu2 spec d' 151 [(17, 0), (19, v1), (0, v2)] (h, hm, o) (some (0, v.1)) (v.2, hm, o)) (v1 : Int) (v2 : Int) (h : zHC) (v : (Int × zHC)) (e : F149b kR v1 v2 h = some v) : zRu2 spec d 149 [(17, 0), (19, v1), (0, v2)] (h, hm, o) (some (0, v.1)) (v.2, hm, o) := by
  refine zF_in (D := DR + 4) (mx := 4) (L := [some (17, 0), some (19, v1), some (0, v2), none]) (by decide +kernel) rfl rfl hd (fun d hd => ?_)
  unfold F149b at e
  obtain ⟨r1, q1, e⟩ := zB_s e
  refine zF_blk (m := []) (d := 0) (b := B149b_0) (gs := []) (c' := (3, [some (17, 0), some (19, v1), some (0, v2), none], [(0, v2), (19, v1), (17, 0)], (h, hm, o))) K149b_0 rfl trivial ?_
  refine zF_call (k := 150) (cl := 7) (n := 3) (i := .invokevirtual 43) (args := [(17, 0), (19, v1), (0, v2)]) (rest := []) (g1 := (r1.2, hm, o)) (r1 := some (0, r1.1)) (by decide +kernel) rfl rfl rfl (st' := [(0, r1.1)]) rfl (S150b (by omega) kR hkR v1 v2 h _ q1) ?_
  rcases zI_s e with ⟨q2, e⟩ | ⟨q2, e⟩
  · refine zF_blk (m := []) (d := 1) (b := B149b_3) (gs := [¬ r1.1 = 0]) (c' := (11, [some (17, 0), some (19, v1), some (0, v2), none], [], (r1.2, hm, o))) K149b_3 rfl ⟨q2, trivial⟩ ?_
    refine zF_blk (m := []) (d := 0) (b := B149b_1) (gs := []) (c' := (13, [some (17, 0), some (19, v1), some (0, v2), some (0, 0)], [], (r1.2, hm, o))) K149b_1 rfl trivial ?_
    exact T149b_0 hd kR hkR zFu v1 v2 0 r1.2 _ e
  · refine zF_blk (m := []) (d := 0) (b := B149b_3) (gs := [¬ (¬ r1.1 = 0)]) (c' := (9, [some (17, 0), some (19, v1), some (0, v2), none], [], (r1.2, hm, o))) K149b_3 rfl ⟨q2, trivial⟩ ?_
    refine zF_blk (m := []) (d := 0) (b := B149b_2) (gs := []) (c' := (10, [some (17, 0), some (19, v1), some (0, v2), none], [(0, 0)], (r1.2, hm, o))) K149b_2 rfl trivial ?_
    exact zF_rbC (by decide +kernel) (Or.inl rfl) e
def B151_0 : List zRow := [(0, .aload_n 0, 1, (0, 0, 0)), (1, .getfield 18, 3, (7, 1, 23)), (4, .bipush 40, 2, (0, 0, 0))]
theorem K151_0 : zRk 151 B151_0 = true := by decide +kernel
def B151_1 : List zRow := [(23, .aload_n 0, 1, (0, 0, 0)), (24, .getfield 18, 3, (7, 1, 23)), (27, .getfield 66, 3, (5, 6, 0)), (30, .bipush 12, 2, (0, 0, 0)), (32, .if_icmp .ge 12, 3, (0, 0, 0))]
theorem K151_1 : zRk 151 B151_1 = true := by decide +kernel
def B151_2 : List zRow := [(12, .aload_n 0, 1, (0, 0, 0)), (13, .getfield 18, 3, (7, 1, 23)), (16, .getfield 62, 3, (5, 4, 0)), (19, .iconst 3, 1, (0, 0, 0)), (20, .if_icmp .ne 15, 3, (0, 0, 0))]
theorem K151_2 : zRk 151 B151_2 = true := by decide +kernel
def B151_3 : List zRow := [(9, .ifCond .ne 35, 3, (0, 0, 0))]
theorem K151_3 : zRk 151 B151_3 = true := by decide +kernel
def B151_4 : List zRow := [(35, .aload_n 0, 1, (0, 0, 0)), (36, .getfield 18, 3, (7, 1, 23)), (39, .iconst 1, 1, (0, 0, 0))]
theorem K151_4 : zRk 151 B151_4 = true := by decide +kernel
def B151_5 : List zRow := [(71, .aload_n 0, 1, (0, 0, 0)), (72, .getfield 12, 3, (7, 0, 155)), (75, .dup, 1, (0, 0, 0)), (76, .getfield 69, 3, (6, 0, 0)), (79, .iconst 1, 1, (0, 0, 0)), (80, .iadd, 1, (0, 0, 0)), (81, .putfield 69, 3, (6, 0, 0)), (84, .aload_n 0, 1, (0, 0, 0)), (85, .getfield 18, 3, (7, 1, 23)), (88, .bipush 40, 2, (0, 0, 0))]
theorem K151_5 : zRk 151 B151_5 = true := by decide +kernel
def B151_6 : List zRow := [(132, .aload_n 0, 1, (0, 0, 0)), (133, .getfield 18, 3, (7, 1, 23)), (136, .bipush 12, 2, (0, 0, 0))]
theorem K151_6 : zRk 151 B151_6 = true := by decide +kernel
def B151_7 : List zRow := [(177, .aload_n 0, 1, (0, 0, 0)), (178, .aload_n 1, 1, (0, 0, 0))]
theorem K151_7 : zRk 151 B151_7 = true := by decide +kernel
def B151_8 : List zRow := [(144, .aload_n 0, 1, (0, 0, 0)), (145, .getfield 18, 3, (7, 1, 23))]
theorem K151_8 : zRk 151 B151_8 = true := by decide +kernel
def B151_9 : List zRow := [(151, .aload_n 0, 1, (0, 0, 0)), (152, .aload_n 1, 1, (0, 0, 0)), (153, .iload_n 2, 1, (0, 0, 0)), (154, .iconst 1, 1, (0, 0, 0)), (155, .iadd, 1, (0, 0, 0))]
theorem K151_9 : zRk 151 B151_9 = true := by decide +kernel
def B151_10 : List zRow := [(164, .aload_n 0, 1, (0, 0, 0)), (165, .getfield 12, 3, (7, 0, 155)), (168, .bipush 12, 2, (0, 0, 0)), (170, .iconst 0, 1, (0, 0, 0)), (171, .iconst 0, 1, (0, 0, 0))]
theorem K151_10 : zRk 151 B151_10 = true := by decide +kernel
def B151_11 : List zRow := [(175, .iconst 1, 1, (0, 0, 0))]
theorem K151_11 : zRk 151 B151_11 = true := by decide +kernel
def B151_12 : List zRow := [(162, .iconst 0, 1, (0, 0, 0))]
theorem K151_12 : zRk 151 B151_12 = true := by decide +kernel
def B151_13 : List zRow := [(159, .ifCond .ne 5, 3, (0, 0, 0))]
theorem K151_13 : zRk 151 B151_13 = true := by decide +kernel
def B151_14 : List zRow := [(141, .ifCond .eq 36, 3, (0, 0, 0))]
theorem K151_14 : zRk 151 B151_14 = true := by decide +kernel
def B151_15 : List zRow := [(96, .aload_n 0, 1, (0, 0, 0)), (97, .getfield 18, 3, (7, 1, 23))]
theorem K151_15 : zRk 151 B151_15 = true := by decide +kernel
def B151_16 : List zRow := [(103, .aload_n 0, 1, (0, 0, 0)), (104, .aload_n 1, 1, (0, 0, 0)), (105, .iload_n 2, 1, (0, 0, 0)), (106, .iconst 1, 1, (0, 0, 0)), (107, .iadd, 1, (0, 0, 0))]
theorem K151_16 : zRk 151 B151_16 = true := by decide +kernel
def B151_17 : List zRow := [(130, .iconst 0, 1, (0, 0, 0))]
theorem K151_17 : zRk 151 B151_17 = true := by decide +kernel
def B151_18 : List zRow := [(114, .aload_n 0, 1, (0, 0, 0)), (115, .getfield 18, 3, (7, 1, 23)), (118, .bipush 41, 2, (0, 0, 0))]
theorem K151_18 : zRk 151 B151_18 = true := by decide +kernel
def B151_19 : List zRow := [(126, .iconst 1, 1, (0, 0, 0)), (127, .goto 4, 3, (0, 0, 0))]
theorem K151_19 : zRk 151 B151_19 = true := by decide +kernel
def B151_20 : List zRow := [(123, .ifCond .eq 7, 3, (0, 0, 0))]
theorem K151_20 : zRk 151 B151_20 = true := by decide +kernel
def B151_21 : List zRow := [(111, .ifCond .eq 19, 3, (0, 0, 0))]
theorem K151_21 : zRk 151 B151_21 = true := by decide +kernel
def B151_22 : List zRow := [(93, .ifCond .eq 39, 3, (0, 0, 0))]
theorem K151_22 : zRk 151 B151_22 = true := by decide +kernel
def B151_23 : List zRow := [(56, .iload_n 2, 1, (0, 0, 0)), (57, .bipush 8, 2, (0, 0, 0)), (59, .if_icmp .le 12, 3, (0, 0, 0))]
theorem K151_23 : zRk 151 B151_23 = true := by decide +kernel
def B151_24 : List zRow := [(44, .aload_n 0, 1, (0, 0, 0)), (45, .getfield 12, 3, (7, 0, 155)), (48, .getfield 69, 3, (6, 0, 0)), (51, .bipush 20, 2, (0, 0, 0)), (53, .if_icmp .ge 9, 3, (0, 0, 0))]
theorem K151_24 : zRk 151 B151_24 = true := by decide +kernel
def B151_25 : List zRow := [(62, .aload_n 0, 1, (0, 0, 0)), (63, .getfield 18, 3, (7, 1, 23)), (66, .iconst 4, 1, (0, 0, 0))]
theorem K151_25 : zRk 151 B151_25 = true := by decide +kernel
def F151_1 (kR : Int → Int → zHC → Option (Int × zHC)) (h : zHC) : Option (Int × zHC) := (F31 1 h).bind fun r1 => zG (r1.1 = 0 ∨ r1.1 = 1) (some (r1.1, r1.2))
set_option maxRecDepth 100000 in
theorem T151_1 {spec : zRn zH2} {hm : zHM} {o : Int → Int} {d : Nat} {DR : Nat} (hd : DR + 5 ≤ d) (kR : Int → Int → zHC → Option (Int × zHC)) (hkR : ∀ (d' : Nat), DR ≤ d' → ∀ (v1 : Int) (v2 : Int) (h : zHC) (v : (Int × zHC)), kR v1 v2 h = some v → zRu2 spec d' 151 [(17, 0), (19, v1), (0, v2)] (h, hm, o) (some (0, v.1)) (v.2, hm, o)) (h : zHC) (v : (Int × zHC)) (e : F151_1 kR h = some v) : zFin 0 (fun _ => 0) (zRu2 spec d) 151 (some (0, v.1)) (v.2, hm, o) (35, [some (17, 0), none, none], [], (h, hm, o)) := by
  unfold F151_1 at e
  obtain ⟨r1, q1, e⟩ := zB_s e
  refine zF_blk (m := []) (d := 0) (b := B151_4) (gs := []) (c' := (40, [some (17, 0), none, none], [(0, 1), (15, 0)], (h, hm, o))) K151_4 rfl trivial ?_
  refine zF_call (k := 31) (cl := 5) (n := 2) (i := .invokevirtual 39) (args := [(15, 0), (0, 1)]) (rest := []) (g1 := (r1.2, hm, o)) (r1 := some (0, r1.1)) (by decide +kernel) rfl rfl rfl (st' := [(0, r1.1)]) rfl (S31 (by omega) 1 h _ q1) ?_
  obtain ⟨q2, e⟩ := zG_s e
  exact zF_rbC (by decide +kernel) q2 e
def F151_2 (kR : Int → Int → zHC → Option (Int × zHC)) (h : zHC) : Option (Int × zHC) := (F31 4 h).bind fun r1 => zG (r1.1 = 0 ∨ r1.1 = 1) (some (r1.1, r1.2))
set_option maxRecDepth 100000 in
theorem T151_2 {spec : zRn zH2} {hm : zHM} {o : Int → Int} {d : Nat} {DR : Nat} (hd : DR + 5 ≤ d) (kR : Int → Int → zHC → Option (Int × zHC)) (hkR : ∀ (d' : Nat), DR ≤ d' → ∀ (v1 : Int) (v2 : Int) (h : zHC) (v : (Int × zHC)), kR v1 v2 h = some v → zRu2 spec d' 151 [(17, 0), (19, v1), (0, v2)] (h, hm, o) (some (0, v.1)) (v.2, hm, o)) (h : zHC) (v : (Int × zHC)) (e : F151_2 kR h = some v) : zFin 0 (fun _ => 0) (zRu2 spec d) 151 (some (0, v.1)) (v.2, hm, o) (62, [some (17, 0), none, none], [], (h, hm, o)) := by
  unfold F151_2 at e
  obtain ⟨r1, q1, e⟩ := zB_s e
  refine zF_blk (m := []) (d := 0) (b := B151_25) (gs := []) (c' := (67, [some (17, 0), none, none], [(0, 4), (15, 0)], (h, hm, o))) K151_25 rfl trivial ?_
  refine zF_call (k := 31) (cl := 5) (n := 2) (i := .invokevirtual 39) (args := [(15, 0), (0, 4)]) (rest := []) (g1 := (r1.2, hm, o)) (r1 := some (0, r1.1)) (by decide +kernel) rfl rfl rfl (st' := [(0, r1.1)]) rfl (S31 (by omega) 4 h _ q1) ?_
  obtain ⟨q2, e⟩ := zG_s e
  exact zF_rbC (by decide +kernel) q2 e
def F151_0 (kR : Int → Int → zHC → Option (Int × zHC)) (v1 : Int) (v2 : Int) (h : zHC) : Option (Int × zHC) := if 20 ≤ (h 384 1 0) then F151_2 kR h else if v2 ≤ 8 then (F51 40 (hset h 384 1 0 (wadd (h 384 1 0) 1))).bind fun r1 => if r1 = 0 then (F152 12 (hset h 384 1 0 (wadd (h 384 1 0) 1))).bind fun r2 => if r2 = 0 then (F154 v1 (hset h 384 1 0 (wadd (h 384 1 0) 1))).bind fun r3 => zG (r3.1 = 0 ∨ r3.1 = 1) (some (r3.1, r3.2)) else (F21 (hset h 384 1 0 (wadd (h 384 1 0) 1))).bind fun r4 => (kR v1 (wadd v2 1) r4).bind fun r5 => if ¬ r5.1 = 0 then (F153 1 12 0 0 r5.2).bind fun r6 => some (1, r6) else some (0, r5.2) else (F21 (hset h 384 1 0 (wadd (h 384 1 0) 1))).bind fun r7 => (F149b kR v1 (wadd v2 1) r7).bind fun r8 => if r8.1 = 0 then some (0, r8.2) else (F50 41 r8.2).bind fun r9 => if r9.1 = 0 then some (0, r9.2) else some (1, r9.2) else F151_2 kR h
set_option maxRecDepth 100000 in
theorem T151_0 {spec : zRn zH2} {hm : zHM} {o : Int → Int} {d : Nat} {DR : Nat} (hd : DR + 5 ≤ d) (kR : Int → Int → zHC → Option (Int × zHC)) (hkR : ∀ (d' : Nat), DR ≤ d' → ∀ (v1 : Int) (v2 : Int) (h : zHC) (v : (Int × zHC)), kR v1 v2 h = some v → zRu2 spec d' 151 [(17, 0), (19, v1), (0, v2)] (h, hm, o) (some (0, v.1)) (v.2, hm, o)) (v1 : Int) (v2 : Int) (h : zHC) (v : (Int × zHC)) (e : F151_0 kR v1 v2 h = some v) : zFin 0 (fun _ => 0) (zRu2 spec d) 151 (some (0, v.1)) (v.2, hm, o) (44, [some (17, 0), some (19, v1), some (0, v2)], [], (h, hm, o)) := by
  unfold F151_0 at e
  rcases zI_s e with ⟨q1, e⟩ | ⟨q1, e⟩
  · refine zF_blk (m := []) (d := 1) (b := B151_24) (gs := [20 ≤ (h 384 1 0)]) (c' := (62, [some (17, 0), some (19, v1), some (0, v2)], [], (h, hm, o))) K151_24 rfl ⟨q1, trivial⟩ ?_
    refine zF_blk (m := [true, false, false]) (d := 0) (b := []) (gs := []) (c' := (62, [some (17, 0), none, none], [], (h, hm, o))) rfl rfl trivial ?_
    exact T151_2 hd kR hkR h _ e
  · refine zF_blk (m := []) (d := 0) (b := B151_24) (gs := [¬ (20 ≤ (h 384 1 0))]) (c' := (56, [some (17, 0), some (19, v1), some (0, v2)], [], (h, hm, o))) K151_24 rfl ⟨q1, trivial⟩ ?_
    rcases zI_s e with ⟨q2, e⟩ | ⟨q2, e⟩
    · refine zF_blk (m := []) (d := 1) (b := B151_23) (gs := [v2 ≤ 8]) (c' := (71, [some (17, 0), some (19, v1), some (0, v2)], [], (h, hm, o))) K151_23 rfl ⟨q2, trivial⟩ ?_
      obtain ⟨r1, q3, e⟩ := zB_s e
      refine zF_blk (m := []) (d := 0) (b := B151_5) (gs := []) (c' := (90, [some (17, 0), some (19, v1), some (0, v2)], [(0, 40), (15, 0)], ((hset h 384 1 0 (wadd (h 384 1 0) 1)), hm, o))) K151_5 rfl trivial ?_
      refine zF_call (k := 51) (cl := 5) (n := 2) (i := .invokevirtual 59) (args := [(15, 0), (0, 40)]) (rest := []) (g1 := ((hset h 384 1 0 (wadd (h 384 1 0) 1)), hm, o)) (r1 := some (0, r1)) (by decide +kernel) rfl rfl rfl (st' := [(0, r1)]) rfl (S51 (by omega) 40 (hset h 384 1 0 (wadd (h 384 1 0) 1)) _ q3) ?_
      rcases zI_s e with ⟨q4, e⟩ | ⟨q4, e⟩
      · refine zF_blk (m := []) (d := 1) (b := B151_22) (gs := [r1 = 0]) (c' := (132, [some (17, 0), some (19, v1), some (0, v2)], [], ((hset h 384 1 0 (wadd (h 384 1 0) 1)), hm, o))) K151_22 rfl ⟨q4, trivial⟩ ?_
        obtain ⟨r2, q5, e⟩ := zB_s e
        refine zF_blk (m := []) (d := 0) (b := B151_6) (gs := []) (c' := (138, [some (17, 0), some (19, v1), some (0, v2)], [(0, 12), (15, 0)], ((hset h 384 1 0 (wadd (h 384 1 0) 1)), hm, o))) K151_6 rfl trivial ?_
        refine zF_call (k := 152) (cl := 5) (n := 2) (i := .invokevirtual 46) (args := [(15, 0), (0, 12)]) (rest := []) (g1 := ((hset h 384 1 0 (wadd (h 384 1 0) 1)), hm, o)) (r1 := some (0, r2)) (by decide +kernel) rfl rfl rfl (st' := [(0, r2)]) rfl (S152 (by omega) 12 (hset h 384 1 0 (wadd (h 384 1 0) 1)) _ q5) ?_
        rcases zI_s e with ⟨q6, e⟩ | ⟨q6, e⟩
        · refine zF_blk (m := []) (d := 1) (b := B151_14) (gs := [r2 = 0]) (c' := (177, [some (17, 0), some (19, v1), some (0, v2)], [], ((hset h 384 1 0 (wadd (h 384 1 0) 1)), hm, o))) K151_14 rfl ⟨q6, trivial⟩ ?_
          obtain ⟨r3, q7, e⟩ := zB_s e
          refine zF_blk (m := []) (d := 0) (b := B151_7) (gs := []) (c' := (179, [some (17, 0), some (19, v1), some (0, v2)], [(19, v1), (17, 0)], ((hset h 384 1 0 (wadd (h 384 1 0) 1)), hm, o))) K151_7 rfl trivial ?_
          refine zF_call (k := 154) (cl := 7) (n := 2) (i := .invokevirtual 75) (args := [(17, 0), (19, v1)]) (rest := []) (g1 := (r3.2, hm, o)) (r1 := some (0, r3.1)) (by decide +kernel) rfl rfl rfl (st' := [(0, r3.1)]) rfl (S154 (by omega) v1 (hset h 384 1 0 (wadd (h 384 1 0) 1)) _ q7) ?_
          obtain ⟨q8, e⟩ := zG_s e
          exact zF_rbC (by decide +kernel) q8 e
        · refine zF_blk (m := []) (d := 0) (b := B151_14) (gs := [¬ (r2 = 0)]) (c' := (144, [some (17, 0), some (19, v1), some (0, v2)], [], ((hset h 384 1 0 (wadd (h 384 1 0) 1)), hm, o))) K151_14 rfl ⟨q6, trivial⟩ ?_
          obtain ⟨r4, q9, e⟩ := zB_s e
          refine zF_blk (m := []) (d := 0) (b := B151_8) (gs := []) (c' := (148, [some (17, 0), some (19, v1), some (0, v2)], [(15, 0)], ((hset h 384 1 0 (wadd (h 384 1 0) 1)), hm, o))) K151_8 rfl trivial ?_
          refine zF_call (k := 21) (cl := 5) (n := 1) (i := .invokevirtual 49) (args := [(15, 0)]) (rest := []) (g1 := (r4, hm, o)) (r1 := none) (by decide +kernel) rfl rfl rfl (st' := []) rfl (S21 (by omega)  (hset h 384 1 0 (wadd (h 384 1 0) 1)) _ q9) ?_
          obtain ⟨r5, q10, e⟩ := zB_s e
          refine zF_blk (m := []) (d := 0) (b := B151_9) (gs := []) (c' := (156, [some (17, 0), some (19, v1), some (0, v2)], [(0, (wadd v2 1)), (19, v1), (17, 0)], (r4, hm, o))) K151_9 rfl trivial ?_
          refine zF_call (k := 151) (cl := 7) (n := 3) (i := .invokevirtual 56) (args := [(17, 0), (19, v1), (0, (wadd v2 1))]) (rest := []) (g1 := (r5.2, hm, o)) (r1 := some (0, r5.1)) (by decide +kernel) rfl rfl rfl (st' := [(0, r5.1)]) rfl (hkR _ (by omega) v1 (wadd v2 1) r4 _ q10) ?_
          rcases zI_s e with ⟨q11, e⟩ | ⟨q11, e⟩
          · refine zF_blk (m := []) (d := 1) (b := B151_13) (gs := [¬ r5.1 = 0]) (c' := (164, [some (17, 0), some (19, v1), some (0, v2)], [], (r5.2, hm, o))) K151_13 rfl ⟨q11, trivial⟩ ?_
            obtain ⟨r6, q12, e⟩ := zB_s e
            refine zF_blk (m := []) (d := 0) (b := B151_10) (gs := []) (c' := (172, [some (17, 0), some (19, v1), some (0, v2)], [(0, 0), (0, 0), (0, 12), (16, 1)], (r5.2, hm, o))) K151_10 rfl trivial ?_
            refine zF_call (k := 153) (cl := 6) (n := 4) (i := .invokevirtual 52) (args := [(16, 1), (0, 12), (0, 0), (0, 0)]) (rest := []) (g1 := (r6, hm, o)) (r1 := none) (by decide +kernel) rfl rfl rfl (st' := []) rfl (S153 (by omega) 1 12 0 0 r5.2 _ q12) ?_
            refine zF_blk (m := []) (d := 0) (b := B151_11) (gs := []) (c' := (176, [some (17, 0), some (19, v1), some (0, v2)], [(0, 1)], (r6, hm, o))) K151_11 rfl trivial ?_
            exact zF_rbC (by decide +kernel) (Or.inr rfl) e
          · refine zF_blk (m := []) (d := 0) (b := B151_13) (gs := [¬ (¬ r5.1 = 0)]) (c' := (162, [some (17, 0), some (19, v1), some (0, v2)], [], (r5.2, hm, o))) K151_13 rfl ⟨q11, trivial⟩ ?_
            refine zF_blk (m := []) (d := 0) (b := B151_12) (gs := []) (c' := (163, [some (17, 0), some (19, v1), some (0, v2)], [(0, 0)], (r5.2, hm, o))) K151_12 rfl trivial ?_
            exact zF_rbC (by decide +kernel) (Or.inl rfl) e
      · refine zF_blk (m := []) (d := 0) (b := B151_22) (gs := [¬ (r1 = 0)]) (c' := (96, [some (17, 0), some (19, v1), some (0, v2)], [], ((hset h 384 1 0 (wadd (h 384 1 0) 1)), hm, o))) K151_22 rfl ⟨q4, trivial⟩ ?_
        obtain ⟨r7, q13, e⟩ := zB_s e
        refine zF_blk (m := []) (d := 0) (b := B151_15) (gs := []) (c' := (100, [some (17, 0), some (19, v1), some (0, v2)], [(15, 0)], ((hset h 384 1 0 (wadd (h 384 1 0) 1)), hm, o))) K151_15 rfl trivial ?_
        refine zF_call (k := 21) (cl := 5) (n := 1) (i := .invokevirtual 49) (args := [(15, 0)]) (rest := []) (g1 := (r7, hm, o)) (r1 := none) (by decide +kernel) rfl rfl rfl (st' := []) rfl (S21 (by omega)  (hset h 384 1 0 (wadd (h 384 1 0) 1)) _ q13) ?_
        obtain ⟨r8, q14, e⟩ := zB_s e
        refine zF_blk (m := []) (d := 0) (b := B151_16) (gs := []) (c' := (108, [some (17, 0), some (19, v1), some (0, v2)], [(0, (wadd v2 1)), (19, v1), (17, 0)], (r7, hm, o))) K151_16 rfl trivial ?_
        refine zF_call (k := 149) (cl := 7) (n := 3) (i := .invokevirtual 31) (args := [(17, 0), (19, v1), (0, (wadd v2 1))]) (rest := []) (g1 := (r8.2, hm, o)) (r1 := some (0, r8.1)) (by decide +kernel) rfl rfl rfl (st' := [(0, r8.1)]) rfl (S149b (by omega) kR hkR v1 (wadd v2 1) r7 _ q14) ?_
        rcases zI_s e with ⟨q15, e⟩ | ⟨q15, e⟩
        · refine zF_blk (m := []) (d := 1) (b := B151_21) (gs := [r8.1 = 0]) (c' := (130, [some (17, 0), some (19, v1), some (0, v2)], [], (r8.2, hm, o))) K151_21 rfl ⟨q15, trivial⟩ ?_
          refine zF_blk (m := []) (d := 0) (b := B151_17) (gs := []) (c' := (131, [some (17, 0), some (19, v1), some (0, v2)], [(0, 0)], (r8.2, hm, o))) K151_17 rfl trivial ?_
          exact zF_rbC (by decide +kernel) (Or.inl rfl) e
        · refine zF_blk (m := []) (d := 0) (b := B151_21) (gs := [¬ (r8.1 = 0)]) (c' := (114, [some (17, 0), some (19, v1), some (0, v2)], [], (r8.2, hm, o))) K151_21 rfl ⟨q15, trivial⟩ ?_
          obtain ⟨r9, q16, e⟩ := zB_s e
          refine zF_blk (m := []) (d := 0) (b := B151_18) (gs := []) (c' := (120, [some (17, 0), some (19, v1), some (0, v2)], [(0, 41), (15, 0)], (r8.2, hm, o))) K151_18 rfl trivial ?_
          refine zF_call (k := 50) (cl := 5) (n := 2) (i := .invokevirtual 72) (args := [(15, 0), (0, 41)]) (rest := []) (g1 := (r9.2, hm, o)) (r1 := some (0, r9.1)) (by decide +kernel) rfl rfl rfl (st' := [(0, r9.1)]) rfl (S50 (by omega) 41 r8.2 _ q16) ?_
          rcases zI_s e with ⟨q17, e⟩ | ⟨q17, e⟩
          · refine zF_blk (m := []) (d := 1) (b := B151_20) (gs := [r9.1 = 0]) (c' := (130, [some (17, 0), some (19, v1), some (0, v2)], [], (r9.2, hm, o))) K151_20 rfl ⟨q17, trivial⟩ ?_
            refine zF_blk (m := []) (d := 0) (b := B151_17) (gs := []) (c' := (131, [some (17, 0), some (19, v1), some (0, v2)], [(0, 0)], (r9.2, hm, o))) K151_17 rfl trivial ?_
            exact zF_rbC (by decide +kernel) (Or.inl rfl) e
          · refine zF_blk (m := []) (d := 0) (b := B151_20) (gs := [¬ (r9.1 = 0)]) (c' := (126, [some (17, 0), some (19, v1), some (0, v2)], [], (r9.2, hm, o))) K151_20 rfl ⟨q17, trivial⟩ ?_
            refine zF_blk (m := []) (d := 0) (b := B151_19) (gs := []) (c' := (131, [some (17, 0), some (19, v1), some (0, v2)], [(0, 1)], (r9.2, hm, o))) K151_19 rfl trivial ?_
            exact zF_rbC (by decide +kernel) (Or.inr rfl) e
    · refine zF_blk (m := []) (d := 0) (b := B151_23) (gs := [¬ (v2 ≤ 8)]) (c' := (62, [some (17, 0), some (19, v1), some (0, v2)], [], (h, hm, o))) K151_23 rfl ⟨q2, trivial⟩ ?_
      refine zF_blk (m := [true, false, false]) (d := 0) (b := []) (gs := []) (c' := (62, [some (17, 0), none, none], [], (h, hm, o))) rfl rfl trivial ?_
      exact T151_2 hd kR hkR h _ e
/-- EchoVale$SentenceText.readOne(LEchoVale$Valley;I)Z -/
def F151 (kR : Int → Int → zHC → Option (Int × zHC)) (v1 : Int) (v2 : Int) (h : zHC) : Option (Int × zHC) := (F51 40 h).bind fun r1 => if ¬ r1 = 0 then F151_0 kR v1 v2 h else if ¬ (h 324 0 0) = 3 then F151_1 kR h else if 12 ≤ (h 326 0 0) then F151_0 kR v1 v2 h else F151_1 kR h
set_option maxRecDepth 100000 in
theorem S151 {spec : zRn zH2} {hm : zHM} {o : Int → Int} {d : Nat} {DR : Nat} (hd : DR + 6 ≤ d) (kR : Int → Int → zHC → Option (Int × zHC)) (hkR : ∀ (d' : Nat), DR ≤ d' → ∀ (v1 : Int) (v2 : Int) (h : zHC) (v : (Int × zHC)), kR v1 v2 h = some v → zRu2 spec d' 151 [(17, 0), (19, v1), (0, v2)] (h, hm, o) (some (0, v.1)) (v.2, hm, o)) (v1 : Int) (v2 : Int) (h : zHC) (v : (Int × zHC)) (e : F151 kR v1 v2 h = some v) : zRu2 spec d 151 [(17, 0), (19, v1), (0, v2)] (h, hm, o) (some (0, v.1)) (v.2, hm, o) := by
  refine zF_in (D := DR + 5) (mx := 3) (L := [some (17, 0), some (19, v1), some (0, v2)]) (by decide +kernel) rfl rfl hd (fun d hd => ?_)
  unfold F151 at e
  obtain ⟨r1, q1, e⟩ := zB_s e
  refine zF_blk (m := []) (d := 0) (b := B151_0) (gs := []) (c' := (6, [some (17, 0), some (19, v1), some (0, v2)], [(0, 40), (15, 0)], (h, hm, o))) K151_0 rfl trivial ?_
  refine zF_call (k := 51) (cl := 5) (n := 2) (i := .invokevirtual 59) (args := [(15, 0), (0, 40)]) (rest := []) (g1 := (h, hm, o)) (r1 := some (0, r1)) (by decide +kernel) rfl rfl rfl (st' := [(0, r1)]) rfl (S51 (by omega) 40 h _ q1) ?_
  rcases zI_s e with ⟨q2, e⟩ | ⟨q2, e⟩
  · refine zF_blk (m := []) (d := 1) (b := B151_3) (gs := [¬ r1 = 0]) (c' := (44, [some (17, 0), some (19, v1), some (0, v2)], [], (h, hm, o))) K151_3 rfl ⟨q2, trivial⟩ ?_
    exact T151_0 hd kR hkR v1 v2 h _ e
  · refine zF_blk (m := []) (d := 0) (b := B151_3) (gs := [¬ (¬ r1 = 0)]) (c' := (12, [some (17, 0), some (19, v1), some (0, v2)], [], (h, hm, o))) K151_3 rfl ⟨q2, trivial⟩ ?_
    rcases zI_s e with ⟨q3, e⟩ | ⟨q3, e⟩
    · refine zF_blk (m := []) (d := 1) (b := B151_2) (gs := [¬ (h 324 0 0) = 3]) (c' := (35, [some (17, 0), some (19, v1), some (0, v2)], [], (h, hm, o))) K151_2 rfl ⟨q3, trivial⟩ ?_
      refine zF_blk (m := [true, false, false]) (d := 0) (b := []) (gs := []) (c' := (35, [some (17, 0), none, none], [], (h, hm, o))) rfl rfl trivial ?_
      exact T151_1 hd kR hkR h _ e
    · refine zF_blk (m := []) (d := 0) (b := B151_2) (gs := [¬ (¬ (h 324 0 0) = 3)]) (c' := (23, [some (17, 0), some (19, v1), some (0, v2)], [], (h, hm, o))) K151_2 rfl ⟨q3, trivial⟩ ?_
      rcases zI_s e with ⟨q4, e⟩ | ⟨q4, e⟩
      · refine zF_blk (m := []) (d := 1) (b := B151_1) (gs := [12 ≤ (h 326 0 0)]) (c' := (44, [some (17, 0), some (19, v1), some (0, v2)], [], (h, hm, o))) K151_1 rfl ⟨q4, trivial⟩ ?_
        exact T151_0 hd kR hkR v1 v2 h _ e
      · refine zF_blk (m := []) (d := 0) (b := B151_1) (gs := [¬ (12 ≤ (h 326 0 0))]) (c' := (35, [some (17, 0), some (19, v1), some (0, v2)], [], (h, hm, o))) K151_1 rfl ⟨q4, trivial⟩ ?_
        refine zF_blk (m := [true, false, false]) (d := 0) (b := []) (gs := []) (c' := (35, [some (17, 0), none, none], [], (h, hm, o))) rfl rfl trivial ?_
        exact T151_1 hd kR hkR h _ e
