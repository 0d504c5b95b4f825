/-! Functions of the methods, by wip/gen/lift.py. -/
noncomputable def B184_0 : List zRow := [(13, .aload_n 0, 1, (0, 0, 0)), (14, .iconst 1, 1, (0, 0, 0)), (15, .putfield 186, 3, (12, 24, 0)), (18, .aload_n 0, 1, (0, 0, 0))]
theorem K184_0 : zRk 184 B184_0 = true := zRw_ok (by decide +kernel)
noncomputable def B184_1 : List zRow := [(22, .aload_n 0, 1, (0, 0, 0)), (23, .iconst 2, 1, (0, 0, 0)), (24, .bipush 10, 2, (0, 0, 0))]
theorem K184_1 : zRk 184 B184_1 = true := zRw_ok (by decide +kernel)
noncomputable def B184_2 : List zRow := [(34, .aload_n 0, 1, (0, 0, 0)), (35, .getfield 16, 3, (12, 15, 5243718)), (38, .iconst 0, 1, (0, 0, 0)), (39, .aload_n 0, 1, (0, 0, 0)), (40, .getfield 155, 3, (12, 13, 0)), (43, .iastore, 1, (0, 0, 0)), (44, .aload_n 0, 1, (0, 0, 0)), (45, .iconst 2, 1, (0, 0, 0)), (46, .bipush 10, 2, (0, 0, 0))]
theorem K184_2 : zRk 184 B184_2 = true := zRw_ok (by decide +kernel)
noncomputable def B184_3 : List zRow := [(56, .aload_n 0, 1, (0, 0, 0)), (57, .getfield 16, 3, (12, 15, 5243718)), (60, .iconst 1, 1, (0, 0, 0)), (61, .aload_n 0, 1, (0, 0, 0)), (62, .getfield 155, 3, (12, 13, 0)), (65, .iastore, 1, (0, 0, 0)), (66, .iconst 1, 1, (0, 0, 0))]
theorem K184_3 : zRk 184 B184_3 = true := zRw_ok (by decide +kernel)
noncomputable def B184_4 : List zRow := [(54, .iconst 0, 1, (0, 0, 0))]
theorem K184_4 : zRk 184 B184_4 = true := zRw_ok (by decide +kernel)
noncomputable def B184_5 : List zRow := [(51, .ifCond .ne 5, 3, (0, 0, 0))]
theorem K184_5 : zRk 184 B184_5 = true := zRw_ok (by decide +kernel)
noncomputable def B184_6 : List zRow := [(32, .iconst 0, 1, (0, 0, 0))]
theorem K184_6 : zRk 184 B184_6 = true := zRw_ok (by decide +kernel)
noncomputable def B184_7 : List zRow := [(29, .ifCond .ne 5, 3, (0, 0, 0))]
theorem K184_7 : zRk 184 B184_7 = true := zRw_ok (by decide +kernel)
noncomputable def B184_8 : List zRow := [(7, .aload_n 0, 1, (0, 0, 0)), (8, .iconst 3, 1, (0, 0, 0))]
theorem K184_8 : zRk 184 B184_8 = true := zRw_ok (by decide +kernel)
noncomputable def B184_9 : List zRow := [(0, .aload_n 0, 1, (0, 0, 0)), (1, .getfield 186, 3, (12, 24, 0)), (4, .ifCond .eq 9, 3, (0, 0, 0))]
theorem K184_9 : zRk 184 B184_9 = true := zRw_ok (by decide +kernel)
/-- EchoValeModel.readLand()Z -/
def F184 (h : zHM) : Option (Int × zHM) := if (h 24 0) = 0 then (F176 (mset h 24 0 1)).bind fun r1 => (F186 2 10 r1).bind fun r2 => if ¬ r2.1 = 0 then (F186 2 10 (mset r2.2 15 0 (r2.2 13 0))).bind fun r3 => if ¬ r3.1 = 0 then some (1, (mset r3.2 15 1 (r3.2 13 0))) else some (0, r3.2) else some (0, r2.2) else (F185 3 h).bind fun r4 => zG (r4.1 = 0 ∨ r4.1 = 1) (some (r4.1, r4.2))
set_option maxRecDepth 100000 in
theorem S184 {spec : zRn zH2} {hc : zHC} {o : Int → Int} {d : Nat} (hd : 4 ≤ d) (h : zHM) (v : (Int × zHM)) (e : F184 h = some v) : zRu2 spec d 184 [(22, 0)] (hc, h, o) (some (0, v.1)) (hc, v.2, o) := by
  refine zF_in (D := 3) (mx := 1) (L := [some (22, 0)]) (by decide +kernel) rfl rfl hd (fun d hd => ?_)
  unfold F184 at e
  rcases zI_s e with ⟨q1, e⟩ | ⟨q1, e⟩
  · refine zF_blk (m := []) (d := 1) (b := B184_9) (gs := [(h 24 0) = 0]) (c' := (13, [some (22, 0)], [], (hc, h, o))) K184_9 rfl ⟨q1, trivial⟩ ?_
    obtain ⟨r1, q2, e⟩ := zB_s e
    refine zF_blk (m := []) (d := 0) (b := B184_0) (gs := [1 = 0 ∨ 1 = 1]) (c' := (19, [some (22, 0)], [(22, 0)], (hc, (mset h 24 0 1), o))) K184_0 rfl ⟨by decide, trivial⟩ ?_
    refine zF_call (k := 176) (cl := 12) (n := 1) (i := .invokevirtual 162) (args := [(22, 0)]) (rest := []) (g1 := (hc, r1, o)) (r1 := none) (zCk1_w (by decide +kernel)) rfl rfl rfl (st' := []) rfl (S176 (Nat.le_trans (by decide) hd)  (mset h 24 0 1) _ q2) ?_
    obtain ⟨r2, q3, e⟩ := zB_s e
    refine zF_blk (m := []) (d := 0) (b := B184_1) (gs := []) (c' := (26, [some (22, 0)], [(0, 10), (0, 2), (22, 0)], (hc, r1, o))) K184_1 rfl trivial ?_
    refine zF_call (k := 186) (cl := 12) (n := 3) (i := .invokevirtual 180) (args := [(22, 0), (0, 2), (0, 10)]) (rest := []) (g1 := (hc, r2.2, o)) (r1 := some (0, r2.1)) (zCk1_w (by decide +kernel)) rfl rfl rfl (st' := [(0, r2.1)]) rfl (S186 (Nat.le_trans (by decide) hd) 2 10 r1 _ q3) ?_
    rcases zI_s e with ⟨q4, e⟩ | ⟨q4, e⟩
    · refine zF_blk (m := []) (d := 1) (b := B184_7) (gs := [¬ r2.1 = 0]) (c' := (34, [some (22, 0)], [], (hc, r2.2, o))) K184_7 rfl ⟨q4, trivial⟩ ?_
      obtain ⟨r3, q5, e⟩ := zB_s e
      refine zF_blk (m := []) (d := 0) (b := B184_2) (gs := [0 ≤ 0 ∧ 0 < 209]) (c' := (48, [some (22, 0)], [(0, 10), (0, 2), (22, 0)], (hc, (mset r2.2 15 0 (r2.2 13 0)), o))) K184_2 rfl ⟨by decide, trivial⟩ ?_
      refine zF_call (k := 186) (cl := 12) (n := 3) (i := .invokevirtual 180) (args := [(22, 0), (0, 2), (0, 10)]) (rest := []) (g1 := (hc, r3.2, o)) (r1 := some (0, r3.1)) (zCk1_w (by decide +kernel)) rfl rfl rfl (st' := [(0, r3.1)]) rfl (S186 (Nat.le_trans (by decide) hd) 2 10 (mset r2.2 15 0 (r2.2 13 0)) _ q5) ?_
      rcases zI_s e with ⟨q6, e⟩ | ⟨q6, e⟩
      · refine zF_blk (m := []) (d := 1) (b := B184_5) (gs := [¬ r3.1 = 0]) (c' := (56, [some (22, 0)], [], (hc, r3.2, o))) K184_5 rfl ⟨q6, trivial⟩ ?_
        refine zF_blk (m := []) (d := 0) (b := B184_3) (gs := [0 ≤ 1 ∧ 1 < 209]) (c' := (67, [some (22, 0)], [(0, 1)], (hc, (mset r3.2 15 1 (r3.2 13 0)), o))) K184_3 rfl ⟨by decide, trivial⟩ ?_
        exact zF_rbM (zRe1_w (by decide +kernel)) (Or.inr rfl) e
      · refine zF_blk (m := []) (d := 0) (b := B184_5) (gs := [¬ (¬ r3.1 = 0)]) (c' := (54, [some (22, 0)], [], (hc, r3.2, o))) K184_5 rfl ⟨q6, trivial⟩ ?_
        refine zF_blk (m := []) (d := 0) (b := B184_4) (gs := []) (c' := (55, [some (22, 0)], [(0, 0)], (hc, r3.2, o))) K184_4 rfl trivial ?_
        exact zF_rbM (zRe1_w (by decide +kernel)) (Or.inl rfl) e
    · refine zF_blk (m := []) (d := 0) (b := B184_7) (gs := [¬ (¬ r2.1 = 0)]) (c' := (32, [some (22, 0)], [], (hc, r2.2, o))) K184_7 rfl ⟨q4, trivial⟩ ?_
      refine zF_blk (m := []) (d := 0) (b := B184_6) (gs := []) (c' := (33, [some (22, 0)], [(0, 0)], (hc, r2.2, o))) K184_6 rfl trivial ?_
      exact zF_rbM (zRe1_w (by decide +kernel)) (Or.inl rfl) e
  · refine zF_blk (m := []) (d := 0) (b := B184_9) (gs := [¬ ((h 24 0) = 0)]) (c' := (7, [some (22, 0)], [], (hc, h, o))) K184_9 rfl ⟨q1, trivial⟩ ?_
    obtain ⟨r4, q7, e⟩ := zB_s e
    refine zF_blk (m := []) (d := 0) (b := B184_8) (gs := []) (c' := (9, [some (22, 0)], [(0, 3), (22, 0)], (hc, h, o))) K184_8 rfl trivial ?_
    refine zF_call (k := 185) (cl := 12) (n := 2) (i := .invokevirtual 148) (args := [(22, 0), (0, 3)]) (rest := []) (g1 := (hc, r4.2, o)) (r1 := some (0, r4.1)) (zCk1_w (by decide +kernel)) rfl rfl rfl (st' := [(0, r4.1)]) rfl (S185 (Nat.le_trans (by decide) hd) 3 h _ q7) ?_
    obtain ⟨q8, e⟩ := zG_s e
    exact zF_rbM (zRe1_w (by decide +kernel)) q8 e
noncomputable def B202_0 : List zRow := [(20, .iconst 0, 1, (0, 0, 0))]
theorem K202_0 : zRk 202 B202_0 = true := zRw_ok (by decide +kernel)
noncomputable def B202_1 : List zRow := [(16, .iconst 1, 1, (0, 0, 0)), (17, .goto 4, 3, (0, 0, 0))]
theorem K202_1 : zRk 202 B202_1 = true := zRw_ok (by decide +kernel)
noncomputable def B202_2 : List zRow := [(8, .aload_n 0, 1, (0, 0, 0)), (9, .getfield 117, 3, (12, 9, 0)), (12, .iload_n 1, 1, (0, 0, 0)), (13, .if_icmp .ne 7, 3, (0, 0, 0))]
theorem K202_2 : zRk 202 B202_2 = true := zRw_ok (by decide +kernel)
noncomputable def B202_3 : List zRow := [(0, .aload_n 0, 1, (0, 0, 0)), (1, .getfield 107, 3, (12, 7, 0)), (4, .iconst 4, 1, (0, 0, 0)), (5, .if_icmp .ne 15, 3, (0, 0, 0))]
theorem K202_3 : zRk 202 B202_3 = true := zRw_ok (by decide +kernel)
/-- EchoValeModel.isSign(I)Z -/
def F202 (v1 : Int) (h : zHM) : Option Int := if ¬ (h 7 0) = 4 then some 0 else if ¬ (h 9 0) = v1 then some 0 else some 1
set_option maxRecDepth 100000 in
theorem S202 {spec : zRn zH2} {hc : zHC} {o : Int → Int} {d : Nat} (hd : 1 ≤ d) (v1 : Int) (h : zHM) (v : Int) (e : F202 v1 h = some v) : zRu2 spec d 202 [(22, 0), (0, v1)] (hc, h, o) (some (0, v)) (hc, h, o) := by
  refine zF_in (D := 0) (mx := 2) (L := [some (22, 0), some (0, v1)]) (by decide +kernel) rfl rfl hd (fun d hd => ?_)
  unfold F202 at e
  rcases zI_s e with ⟨q1, e⟩ | ⟨q1, e⟩
  · refine zF_blk (m := []) (d := 1) (b := B202_3) (gs := [¬ (h 7 0) = 4]) (c' := (20, [some (22, 0), some (0, v1)], [], (hc, h, o))) K202_3 rfl ⟨q1, trivial⟩ ?_
    refine zF_blk (m := []) (d := 0) (b := B202_0) (gs := []) (c' := (21, [some (22, 0), some (0, v1)], [(0, 0)], (hc, h, o))) K202_0 rfl trivial ?_
    obtain rfl := Option.some.inj e
    exact zF_rb (zRe1_w (by decide +kernel)) (Or.inl rfl)
  · refine zF_blk (m := []) (d := 0) (b := B202_3) (gs := [¬ (¬ (h 7 0) = 4)]) (c' := (8, [some (22, 0), some (0, v1)], [], (hc, h, o))) K202_3 rfl ⟨q1, trivial⟩ ?_
    rcases zI_s e with ⟨q2, e⟩ | ⟨q2, e⟩
    · refine zF_blk (m := []) (d := 1) (b := B202_2) (gs := [¬ (h 9 0) = v1]) (c' := (20, [some (22, 0), some (0, v1)], [], (hc, h, o))) K202_2 rfl ⟨q2, trivial⟩ ?_
      refine zF_blk (m := []) (d := 0) (b := B202_0) (gs := []) (c' := (21, [some (22, 0), some (0, v1)], [(0, 0)], (hc, h, o))) K202_0 rfl trivial ?_
      obtain rfl := Option.some.inj e
      exact zF_rb (zRe1_w (by decide +kernel)) (Or.inl rfl)
    · refine zF_blk (m := []) (d := 0) (b := B202_2) (gs := [¬ (¬ (h 9 0) = v1)]) (c' := (16, [some (22, 0), some (0, v1)], [], (hc, h, o))) K202_2 rfl ⟨q2, trivial⟩ ?_
      refine zF_blk (m := []) (d := 0) (b := B202_1) (gs := []) (c' := (21, [some (22, 0), some (0, v1)], [(0, 1)], (hc, h, o))) K202_1 rfl trivial ?_
      obtain rfl := Option.some.inj e
      exact zF_rb (zRe1_w (by decide +kernel)) (Or.inr rfl)
noncomputable def B201_0 : List zRow := [(0, .aload_n 0, 1, (0, 0, 0)), (1, .bipush 59, 2, (0, 0, 0))]
theorem K201_0 : zRk 201 B201_0 = true := zRw_ok (by decide +kernel)
noncomputable def B201_1 : List zRow := [(15, .aload_n 0, 1, (0, 0, 0))]
theorem K201_1 : zRk 201 B201_1 = true := zRw_ok (by decide +kernel)
noncomputable def B201_2 : List zRow := [(19, .iconst 1, 1, (0, 0, 0))]
theorem K201_2 : zRk 201 B201_2 = true := zRw_ok (by decide +kernel)
noncomputable def B201_3 : List zRow := [(9, .aload_n 0, 1, (0, 0, 0)), (10, .iconst 1, 1, (0, 0, 0))]
theorem K201_3 : zRk 201 B201_3 = true := zRw_ok (by decide +kernel)
noncomputable def B201_4 : List zRow := [(6, .ifCond .ne 9, 3, (0, 0, 0))]
theorem K201_4 : zRk 201 B201_4 = true := zRw_ok (by decide +kernel)
/-- EchoValeModel.readEnd()Z -/
def F201 (h : zHM) : Option (Int × zHM) := (F202 59 h).bind fun r1 => if ¬ r1 = 0 then (F176 h).bind fun r2 => some (1, r2) else (F185 1 h).bind fun r3 => zG (r3.1 = 0 ∨ r3.1 = 1) (some (r3.1, r3.2))
set_option maxRecDepth 100000 in
theorem S201 {spec : zRn zH2} {hc : zHC} {o : Int → Int} {d : Nat} (hd : 3 ≤ d) (h : zHM) (v : (Int × zHM)) (e : F201 h = some v) : zRu2 spec d 201 [(22, 0)] (hc, h, o) (some (0, v.1)) (hc, v.2, o) := by
  refine zF_in (D := 2) (mx := 1) (L := [some (22, 0)]) (by decide +kernel) rfl rfl hd (fun d hd => ?_)
  unfold F201 at e
  obtain ⟨r1, q1, e⟩ := zB_s e
  refine zF_blk (m := []) (d := 0) (b := B201_0) (gs := []) (c' := (3, [some (22, 0)], [(0, 59), (22, 0)], (hc, h, o))) K201_0 rfl trivial ?_
  refine zF_call (k := 202) (cl := 12) (n := 2) (i := .invokevirtual 165) (args := [(22, 0), (0, 59)]) (rest := []) (g1 := (hc, h, o)) (r1 := some (0, r1)) (zCk1_w (by decide +kernel)) rfl rfl rfl (st' := [(0, r1)]) rfl (S202 (Nat.le_trans (by decide) hd) 59 h _ q1) ?_
  rcases zI_s e with ⟨q2, e⟩ | ⟨q2, e⟩
  · refine zF_blk (m := []) (d := 1) (b := B201_4) (gs := [¬ r1 = 0]) (c' := (15, [some (22, 0)], [], (hc, h, o))) K201_4 rfl ⟨q2, trivial⟩ ?_
    obtain ⟨r2, q3, e⟩ := zB_s e
    refine zF_blk (m := []) (d := 0) (b := B201_1) (gs := []) (c' := (16, [some (22, 0)], [(22, 0)], (hc, h, o))) K201_1 rfl trivial ?_
    refine zF_call (k := 176) (cl := 12) (n := 1) (i := .invokevirtual 162) (args := [(22, 0)]) (rest := []) (g1 := (hc, r2, o)) (r1 := none) (zCk1_w (by decide +kernel)) rfl rfl rfl (st' := []) rfl (S176 (Nat.le_trans (by decide) hd)  h _ q3) ?_
    refine zF_blk (m := []) (d := 0) (b := B201_2) (gs := []) (c' := (20, [some (22, 0)], [(0, 1)], (hc, r2, o))) K201_2 rfl trivial ?_
    exact zF_rbM (zRe1_w (by decide +kernel)) (Or.inr rfl) e
  · refine zF_blk (m := []) (d := 0) (b := B201_4) (gs := [¬ (¬ r1 = 0)]) (c' := (9, [some (22, 0)], [], (hc, h, o))) K201_4 rfl ⟨q2, trivial⟩ ?_
    obtain ⟨r3, q4, e⟩ := zB_s e
    refine zF_blk (m := []) (d := 0) (b := B201_3) (gs := []) (c' := (11, [some (22, 0)], [(0, 1), (22, 0)], (hc, h, o))) K201_3 rfl trivial ?_
    refine zF_call (k := 185) (cl := 12) (n := 2) (i := .invokevirtual 148) (args := [(22, 0), (0, 1)]) (rest := []) (g1 := (hc, r3.2, o)) (r1 := some (0, r3.1)) (zCk1_w (by decide +kernel)) rfl rfl rfl (st' := [(0, r3.1)]) rfl (S185 (Nat.le_trans (by decide) hd) 1 h _ q4) ?_
    obtain ⟨q5, e⟩ := zG_s e
    exact zF_rbM (zRe1_w (by decide +kernel)) q5 e
noncomputable def B180_0 : List zRow := [(0, .aload_n 0, 1, (0, 0, 0)), (1, .iconst 0, 1, (0, 0, 0))]
theorem K180_0 : zRk 180 B180_0 = true := zRw_ok (by decide +kernel)
noncomputable def B180_1 : List zRow := [(16, .aload_n 0, 1, (0, 0, 0)), (17, .iconst 1, 1, (0, 0, 0))]
theorem K180_1 : zRk 180 B180_1 = true := zRw_ok (by decide +kernel)
noncomputable def B180_2 : List zRow := [(32, .aload_n 0, 1, (0, 0, 0)), (33, .iconst 2, 1, (0, 0, 0))]
theorem K180_2 : zRk 180 B180_2 = true := zRw_ok (by decide +kernel)
noncomputable def B180_3 : List zRow := [(48, .aload_n 0, 1, (0, 0, 0)), (49, .iconst 3, 1, (0, 0, 0))]
theorem K180_3 : zRk 180 B180_3 = true := zRw_ok (by decide +kernel)
noncomputable def B180_4 : List zRow := [(64, .aload_n 0, 1, (0, 0, 0)), (65, .iconst 4, 1, (0, 0, 0))]
theorem K180_4 : zRk 180 B180_4 = true := zRw_ok (by decide +kernel)
noncomputable def B180_5 : List zRow := [(80, .aload_n 0, 1, (0, 0, 0)), (81, .iconst 5, 1, (0, 0, 0))]
theorem K180_5 : zRk 180 B180_5 = true := zRw_ok (by decide +kernel)
noncomputable def B180_6 : List zRow := [(96, .aload_n 0, 1, (0, 0, 0)), (97, .bipush 6, 2, (0, 0, 0))]
theorem K180_6 : zRk 180 B180_6 = true := zRw_ok (by decide +kernel)
noncomputable def B180_7 : List zRow := [(112, .aload_n 0, 1, (0, 0, 0)), (113, .iconst 1, 1, (0, 0, 0))]
theorem K180_7 : zRk 180 B180_7 = true := zRw_ok (by decide +kernel)
noncomputable def B180_8 : List zRow := [(105, .aload_n 0, 1, (0, 0, 0))]
theorem K180_8 : zRk 180 B180_8 = true := zRw_ok (by decide +kernel)
noncomputable def B180_9 : List zRow := [(109, .goto 8, 3, (0, 0, 0))]
theorem K180_9 : zRk 180 B180_9 = true := zRw_ok (by decide +kernel)
noncomputable def B180_10 : List zRow := [(102, .ifCond .eq 10, 3, (0, 0, 0))]
theorem K180_10 : zRk 180 B180_10 = true := zRw_ok (by decide +kernel)
noncomputable def B180_11 : List zRow := [(88, .aload_n 0, 1, (0, 0, 0))]
theorem K180_11 : zRk 180 B180_11 = true := zRw_ok (by decide +kernel)
noncomputable def B180_12 : List zRow := [(92, .istore_n 1, 1, (0, 0, 0)), (93, .goto 25, 3, (0, 0, 0))]
theorem K180_12 : zRk 180 B180_12 = true := zRw_ok (by decide +kernel)
noncomputable def B180_13 : List zRow := [(85, .ifCond .eq 11, 3, (0, 0, 0))]
theorem K180_13 : zRk 180 B180_13 = true := zRw_ok (by decide +kernel)
noncomputable def B180_14 : List zRow := [(72, .aload_n 0, 1, (0, 0, 0))]
theorem K180_14 : zRk 180 B180_14 = true := zRw_ok (by decide +kernel)
noncomputable def B180_15 : List zRow := [(76, .istore_n 1, 1, (0, 0, 0)), (77, .goto 41, 3, (0, 0, 0))]
theorem K180_15 : zRk 180 B180_15 = true := zRw_ok (by decide +kernel)
noncomputable def B180_16 : List zRow := [(69, .ifCond .eq 11, 3, (0, 0, 0))]
theorem K180_16 : zRk 180 B180_16 = true := zRw_ok (by decide +kernel)
noncomputable def B180_17 : List zRow := [(56, .aload_n 0, 1, (0, 0, 0))]
theorem K180_17 : zRk 180 B180_17 = true := zRw_ok (by decide +kernel)
noncomputable def B180_18 : List zRow := [(60, .istore_n 1, 1, (0, 0, 0)), (61, .goto 57, 3, (0, 0, 0))]
theorem K180_18 : zRk 180 B180_18 = true := zRw_ok (by decide +kernel)
noncomputable def B180_19 : List zRow := [(53, .ifCond .eq 11, 3, (0, 0, 0))]
theorem K180_19 : zRk 180 B180_19 = true := zRw_ok (by decide +kernel)
noncomputable def B180_20 : List zRow := [(40, .aload_n 0, 1, (0, 0, 0))]
theorem K180_20 : zRk 180 B180_20 = true := zRw_ok (by decide +kernel)
noncomputable def B180_21 : List zRow := [(44, .istore_n 1, 1, (0, 0, 0)), (45, .goto 73, 3, (0, 0, 0))]
theorem K180_21 : zRk 180 B180_21 = true := zRw_ok (by decide +kernel)
noncomputable def B180_22 : List zRow := [(37, .ifCond .eq 11, 3, (0, 0, 0))]
theorem K180_22 : zRk 180 B180_22 = true := zRw_ok (by decide +kernel)
noncomputable def B180_23 : List zRow := [(24, .aload_n 0, 1, (0, 0, 0))]
theorem K180_23 : zRk 180 B180_23 = true := zRw_ok (by decide +kernel)
noncomputable def B180_24 : List zRow := [(28, .istore_n 1, 1, (0, 0, 0)), (29, .goto 89, 3, (0, 0, 0))]
theorem K180_24 : zRk 180 B180_24 = true := zRw_ok (by decide +kernel)
noncomputable def B180_25 : List zRow := [(21, .ifCond .eq 11, 3, (0, 0, 0))]
theorem K180_25 : zRk 180 B180_25 = true := zRw_ok (by decide +kernel)
noncomputable def B180_26 : List zRow := [(8, .aload_n 0, 1, (0, 0, 0))]
theorem K180_26 : zRk 180 B180_26 = true := zRw_ok (by decide +kernel)
noncomputable def B180_27 : List zRow := [(12, .istore_n 1, 1, (0, 0, 0)), (13, .goto 105, 3, (0, 0, 0))]
theorem K180_27 : zRk 180 B180_27 = true := zRw_ok (by decide +kernel)
noncomputable def B180_28 : List zRow := [(5, .ifCond .eq 11, 3, (0, 0, 0))]
theorem K180_28 : zRk 180 B180_28 = true := zRw_ok (by decide +kernel)
noncomputable def B180_29 : List zRow := [(133, .iconst 0, 1, (0, 0, 0))]
theorem K180_29 : zRk 180 B180_29 = true := zRw_ok (by decide +kernel)
noncomputable def B180_30 : List zRow := [(122, .aload_n 0, 1, (0, 0, 0))]
theorem K180_30 : zRk 180 B180_30 = true := zRw_ok (by decide +kernel)
noncomputable def B180_31 : List zRow := [(129, .iconst 1, 1, (0, 0, 0)), (130, .goto 4, 3, (0, 0, 0))]
theorem K180_31 : zRk 180 B180_31 = true := zRw_ok (by decide +kernel)
noncomputable def B180_32 : List zRow := [(126, .ifCond .eq 7, 3, (0, 0, 0))]
theorem K180_32 : zRk 180 B180_32 = true := zRw_ok (by decide +kernel)
noncomputable def B180_33 : List zRow := [(118, .iload_n 1, 1, (0, 0, 0)), (119, .ifCond .eq 14, 3, (0, 0, 0))]
theorem K180_33 : zRk 180 B180_33 = true := zRw_ok (by decide +kernel)
noncomputable def B180_34 : List zRow := [(117, .istore_n 1, 1, (0, 0, 0))]
theorem K180_34 : zRk 180 B180_34 = true := zRw_ok (by decide +kernel)
def F180_1 (v1 : Int) (h : zHM) : Option (Int × zHM) := if v1 = 0 then some (0, h) else (F201 h).bind fun r1 => if r1.1 = 0 then some (0, r1.2) else some (1, r1.2)
set_option maxRecDepth 100000 in
theorem T180_1 {spec : zRn zH2} {hc : zHC} {o : Int → Int} {d : Nat} (hd : 6 ≤ d) (v1 : Int) (h : zHM) (v : (Int × zHM)) (e : F180_1 v1 h = some v) : zFin 0 (fun _ => 0) (zRu2 spec d) 180 (some (0, v.1)) (hc, v.2, o) (118, [some (22, 0), some (0, v1)], [], (hc, h, o)) := by
  unfold F180_1 at e
  rcases zI_s e with ⟨q1, e⟩ | ⟨q1, e⟩
  · refine zF_blk (m := []) (d := 1) (b := B180_33) (gs := [v1 = 0]) (c' := (133, [some (22, 0), some (0, v1)], [], (hc, h, o))) K180_33 rfl ⟨q1, trivial⟩ ?_
    refine zF_blk (m := []) (d := 0) (b := B180_29) (gs := []) (c' := (134, [some (22, 0), some (0, v1)], [(0, 0)], (hc, h, o))) K180_29 rfl trivial ?_
    exact zF_rbM (zRe1_w (by decide +kernel)) (Or.inl rfl) e
  · refine zF_blk (m := []) (d := 0) (b := B180_33) (gs := [¬ (v1 = 0)]) (c' := (122, [some (22, 0), some (0, v1)], [], (hc, h, o))) K180_33 rfl ⟨q1, trivial⟩ ?_
    obtain ⟨r1, q2, e⟩ := zB_s e
    refine zF_blk (m := []) (d := 0) (b := B180_30) (gs := []) (c' := (123, [some (22, 0), some (0, v1)], [(22, 0)], (hc, h, o))) K180_30 rfl trivial ?_
    refine zF_call (k := 201) (cl := 12) (n := 1) (i := .invokevirtual 223) (args := [(22, 0)]) (rest := []) (g1 := (hc, r1.2, o)) (r1 := some (0, r1.1)) (zCk1_w (by decide +kernel)) rfl rfl rfl (st' := [(0, r1.1)]) rfl (S201 (Nat.le_trans (by decide) hd)  h _ q2) ?_
    rcases zI_s e with ⟨q3, e⟩ | ⟨q3, e⟩
    · refine zF_blk (m := []) (d := 1) (b := B180_32) (gs := [r1.1 = 0]) (c' := (133, [some (22, 0), some (0, v1)], [], (hc, r1.2, o))) K180_32 rfl ⟨q3, trivial⟩ ?_
      refine zF_blk (m := []) (d := 0) (b := B180_29) (gs := []) (c' := (134, [some (22, 0), some (0, v1)], [(0, 0)], (hc, r1.2, o))) K180_29 rfl trivial ?_
      exact zF_rbM (zRe1_w (by decide +kernel)) (Or.inl rfl) e
    · refine zF_blk (m := []) (d := 0) (b := B180_32) (gs := [¬ (r1.1 = 0)]) (c' := (129, [some (22, 0), some (0, v1)], [], (hc, r1.2, o))) K180_32 rfl ⟨q3, trivial⟩ ?_
      refine zF_blk (m := []) (d := 0) (b := B180_31) (gs := []) (c' := (134, [some (22, 0), some (0, v1)], [(0, 1)], (hc, r1.2, o))) K180_31 rfl trivial ?_
      exact zF_rbM (zRe1_w (by decide +kernel)) (Or.inr rfl) e
def F180_0 (s0 : Int) (h : zHM) : Option (Int × zHM) := F180_1 s0 h
set_option maxRecDepth 100000 in
theorem T180_0 {spec : zRn zH2} {hc : zHC} {o : Int → Int} {d : Nat} (hd : 6 ≤ d) (s0 : Int) (h : zHM) (v : (Int × zHM)) (e : F180_0 s0 h = some v) : zFin 0 (fun _ => 0) (zRu2 spec d) 180 (some (0, v.1)) (hc, v.2, o) (117, [some (22, 0), none], [(0, s0)], (hc, h, o)) := by
  unfold F180_0 at e
  refine zF_blk (m := []) (d := 0) (b := B180_34) (gs := []) (c' := (118, [some (22, 0), some (0, s0)], [], (hc, h, o))) K180_34 rfl trivial ?_
  exact T180_1 hd s0 h _ e
/-- EchoValeModel.readLine()Z -/
def F180 (h : zHM) : Option (Int × zHM) := (F181 0 h).bind fun r1 => if r1 = 0 then (F181 1 h).bind fun r2 => if r2 = 0 then (F181 2 h).bind fun r3 => if r3 = 0 then (F181 3 h).bind fun r4 => if r4 = 0 then (F181 4 h).bind fun r5 => if r5 = 0 then (F181 5 h).bind fun r6 => if r6 = 0 then (F181 6 h).bind fun r7 => if r7 = 0 then (F185 1 h).bind fun r8 => F180_0 r8.1 r8.2 else (F200 h).bind fun r9 => F180_0 r9.1 r9.2 else (F199 h).bind fun r10 => F180_1 r10.1 r10.2 else (F198 h).bind fun r11 => F180_1 r11.1 r11.2 else (F196 h).bind fun r12 => F180_1 r12.1 r12.2 else (F194 h).bind fun r13 => F180_1 r13.1 r13.2 else (F189 h).bind fun r14 => F180_1 r14.1 r14.2 else (F184 h).bind fun r15 => F180_1 r15.1 r15.2
set_option maxRecDepth 100000 in
theorem S180 {spec : zRn zH2} {hc : zHC} {o : Int → Int} {d : Nat} (hd : 7 ≤ d) (h : zHM) (v : (Int × zHM)) (e : F180 h = some v) : zRu2 spec d 180 [(22, 0)] (hc, h, o) (some (0, v.1)) (hc, v.2, o) := by
  refine zF_in (D := 6) (mx := 2) (L := [some (22, 0), none]) (by decide +kernel) rfl rfl hd (fun d hd => ?_)
  unfold F180 at e
  obtain ⟨r1, q1, e⟩ := zB_s e
  refine zF_blk (m := []) (d := 0) (b := B180_0) (gs := []) (c' := (2, [some (22, 0), none], [(0, 0), (22, 0)], (hc, h, o))) K180_0 rfl trivial ?_
  refine zF_call (k := 181) (cl := 12) (n := 2) (i := .invokevirtual 199) (args := [(22, 0), (0, 0)]) (rest := []) (g1 := (hc, h, o)) (r1 := some (0, r1)) (zCk1_w (by decide +kernel)) rfl rfl rfl (st' := [(0, r1)]) rfl (S181 (Nat.le_trans (by decide) hd) 0 h _ q1) ?_
  rcases zI_s e with ⟨q2, e⟩ | ⟨q2, e⟩
  · refine zF_blk (m := []) (d := 1) (b := B180_28) (gs := [r1 = 0]) (c' := (16, [some (22, 0), none], [], (hc, h, o))) K180_28 rfl ⟨q2, trivial⟩ ?_
    obtain ⟨r2, q3, e⟩ := zB_s e
    refine zF_blk (m := []) (d := 0) (b := B180_1) (gs := []) (c' := (18, [some (22, 0), none], [(0, 1), (22, 0)], (hc, h, o))) K180_1 rfl trivial ?_
    refine zF_call (k := 181) (cl := 12) (n := 2) (i := .invokevirtual 199) (args := [(22, 0), (0, 1)]) (rest := []) (g1 := (hc, h, o)) (r1 := some (0, r2)) (zCk1_w (by decide +kernel)) rfl rfl rfl (st' := [(0, r2)]) rfl (S181 (Nat.le_trans (by decide) hd) 1 h _ q3) ?_
    rcases zI_s e with ⟨q4, e⟩ | ⟨q4, e⟩
    · refine zF_blk (m := []) (d := 1) (b := B180_25) (gs := [r2 = 0]) (c' := (32, [some (22, 0), none], [], (hc, h, o))) K180_25 rfl ⟨q4, trivial⟩ ?_
      obtain ⟨r3, q5, e⟩ := zB_s e
      refine zF_blk (m := []) (d := 0) (b := B180_2) (gs := []) (c' := (34, [some (22, 0), none], [(0, 2), (22, 0)], (hc, h, o))) K180_2 rfl trivial ?_
      refine zF_call (k := 181) (cl := 12) (n := 2) (i := .invokevirtual 199) (args := [(22, 0), (0, 2)]) (rest := []) (g1 := (hc, h, o)) (r1 := some (0, r3)) (zCk1_w (by decide +kernel)) rfl rfl rfl (st' := [(0, r3)]) rfl (S181 (Nat.le_trans (by decide) hd) 2 h _ q5) ?_
      rcases zI_s e with ⟨q6, e⟩ | ⟨q6, e⟩
      · refine zF_blk (m := []) (d := 1) (b := B180_22) (gs := [r3 = 0]) (c' := (48, [some (22, 0), none], [], (hc, h, o))) K180_22 rfl ⟨q6, trivial⟩ ?_
        obtain ⟨r4, q7, e⟩ := zB_s e
        refine zF_blk (m := []) (d := 0) (b := B180_3) (gs := []) (c' := (50, [some (22, 0), none], [(0, 3), (22, 0)], (hc, h, o))) K180_3 rfl trivial ?_
        refine zF_call (k := 181) (cl := 12) (n := 2) (i := .invokevirtual 199) (args := [(22, 0), (0, 3)]) (rest := []) (g1 := (hc, h, o)) (r1 := some (0, r4)) (zCk1_w (by decide +kernel)) rfl rfl rfl (st' := [(0, r4)]) rfl (S181 (Nat.le_trans (by decide) hd) 3 h _ q7) ?_
        rcases zI_s e with ⟨q8, e⟩ | ⟨q8, e⟩
        · refine zF_blk (m := []) (d := 1) (b := B180_19) (gs := [r4 = 0]) (c' := (64, [some (22, 0), none], [], (hc, h, o))) K180_19 rfl ⟨q8, trivial⟩ ?_
          obtain ⟨r5, q9, e⟩ := zB_s e
          refine zF_blk (m := []) (d := 0) (b := B180_4) (gs := []) (c' := (66, [some (22, 0), none], [(0, 4), (22, 0)], (hc, h, o))) K180_4 rfl trivial ?_
          refine zF_call (k := 181) (cl := 12) (n := 2) (i := .invokevirtual 199) (args := [(22, 0), (0, 4)]) (rest := []) (g1 := (hc, h, o)) (r1 := some (0, r5)) (zCk1_w (by decide +kernel)) rfl rfl rfl (st' := [(0, r5)]) rfl (S181 (Nat.le_trans (by decide) hd) 4 h _ q9) ?_
          rcases zI_s e with ⟨q10, e⟩ | ⟨q10, e⟩
          · refine zF_blk (m := []) (d := 1) (b := B180_16) (gs := [r5 = 0]) (c' := (80, [some (22, 0), none], [], (hc, h, o))) K180_16 rfl ⟨q10, trivial⟩ ?_
            obtain ⟨r6, q11, e⟩ := zB_s e
            refine zF_blk (m := []) (d := 0) (b := B180_5) (gs := []) (c' := (82, [some (22, 0), none], [(0, 5), (22, 0)], (hc, h, o))) K180_5 rfl trivial ?_
            refine zF_call (k := 181) (cl := 12) (n := 2) (i := .invokevirtual 199) (args := [(22, 0), (0, 5)]) (rest := []) (g1 := (hc, h, o)) (r1 := some (0, r6)) (zCk1_w (by decide +kernel)) rfl rfl rfl (st' := [(0, r6)]) rfl (S181 (Nat.le_trans (by decide) hd) 5 h _ q11) ?_
            rcases zI_s e with ⟨q12, e⟩ | ⟨q12, e⟩
            · refine zF_blk (m := []) (d := 1) (b := B180_13) (gs := [r6 = 0]) (c' := (96, [some (22, 0), none], [], (hc, h, o))) K180_13 rfl ⟨q12, trivial⟩ ?_
              obtain ⟨r7, q13, e⟩ := zB_s e
              refine zF_blk (m := []) (d := 0) (b := B180_6) (gs := []) (c' := (99, [some (22, 0), none], [(0, 6), (22, 0)], (hc, h, o))) K180_6 rfl trivial ?_
              refine zF_call (k := 181) (cl := 12) (n := 2) (i := .invokevirtual 199) (args := [(22, 0), (0, 6)]) (rest := []) (g1 := (hc, h, o)) (r1 := some (0, r7)) (zCk1_w (by decide +kernel)) rfl rfl rfl (st' := [(0, r7)]) rfl (S181 (Nat.le_trans (by decide) hd) 6 h _ q13) ?_
              rcases zI_s e with ⟨q14, e⟩ | ⟨q14, e⟩
              · refine zF_blk (m := []) (d := 1) (b := B180_10) (gs := [r7 = 0]) (c' := (112, [some (22, 0), none], [], (hc, h, o))) K180_10 rfl ⟨q14, trivial⟩ ?_
                obtain ⟨r8, q15, e⟩ := zB_s e
                refine zF_blk (m := []) (d := 0) (b := B180_7) (gs := []) (c' := (114, [some (22, 0), none], [(0, 1), (22, 0)], (hc, h, o))) K180_7 rfl trivial ?_
                refine zF_call (k := 185) (cl := 12) (n := 2) (i := .invokevirtual 148) (args := [(22, 0), (0, 1)]) (rest := []) (g1 := (hc, r8.2, o)) (r1 := some (0, r8.1)) (zCk1_w (by decide +kernel)) rfl rfl rfl (st' := [(0, r8.1)]) rfl (S185 (Nat.le_trans (by decide) hd) 1 h _ q15) ?_
                exact T180_0 hd r8.1 r8.2 _ e
              · refine zF_blk (m := []) (d := 0) (b := B180_10) (gs := [¬ (r7 = 0)]) (c' := (105, [some (22, 0), none], [], (hc, h, o))) K180_10 rfl ⟨q14, trivial⟩ ?_
                obtain ⟨r9, q16, e⟩ := zB_s e
                refine zF_blk (m := []) (d := 0) (b := B180_8) (gs := []) (c' := (106, [some (22, 0), none], [(22, 0)], (hc, h, o))) K180_8 rfl trivial ?_
                refine zF_call (k := 200) (cl := 12) (n := 1) (i := .invokevirtual 220) (args := [(22, 0)]) (rest := []) (g1 := (hc, r9.2, o)) (r1 := some (0, r9.1)) (zCk1_w (by decide +kernel)) rfl rfl rfl (st' := [(0, r9.1)]) rfl (S200 (Nat.le_trans (by decide) hd)  h _ q16) ?_
                refine zF_blk (m := []) (d := 0) (b := B180_9) (gs := []) (c' := (117, [some (22, 0), none], [(0, r9.1)], (hc, r9.2, o))) K180_9 rfl trivial ?_
                exact T180_0 hd r9.1 r9.2 _ e
            · refine zF_blk (m := []) (d := 0) (b := B180_13) (gs := [¬ (r6 = 0)]) (c' := (88, [some (22, 0), none], [], (hc, h, o))) K180_13 rfl ⟨q12, trivial⟩ ?_
              obtain ⟨r10, q17, e⟩ := zB_s e
              refine zF_blk (m := []) (d := 0) (b := B180_11) (gs := []) (c' := (89, [some (22, 0), none], [(22, 0)], (hc, h, o))) K180_11 rfl trivial ?_
              refine zF_call (k := 199) (cl := 12) (n := 1) (i := .invokevirtual 217) (args := [(22, 0)]) (rest := []) (g1 := (hc, r10.2, o)) (r1 := some (0, r10.1)) (zCk1_w (by decide +kernel)) rfl rfl rfl (st' := [(0, r10.1)]) rfl (S199 (Nat.le_trans (by decide) hd)  h _ q17) ?_
              refine zF_blk (m := []) (d := 0) (b := B180_12) (gs := []) (c' := (118, [some (22, 0), some (0, r10.1)], [], (hc, r10.2, o))) K180_12 rfl trivial ?_
              exact T180_1 hd r10.1 r10.2 _ e
          · refine zF_blk (m := []) (d := 0) (b := B180_16) (gs := [¬ (r5 = 0)]) (c' := (72, [some (22, 0), none], [], (hc, h, o))) K180_16 rfl ⟨q10, trivial⟩ ?_
            obtain ⟨r11, q18, e⟩ := zB_s e
            refine zF_blk (m := []) (d := 0) (b := B180_14) (gs := []) (c' := (73, [some (22, 0), none], [(22, 0)], (hc, h, o))) K180_14 rfl trivial ?_
            refine zF_call (k := 198) (cl := 12) (n := 1) (i := .invokevirtual 214) (args := [(22, 0)]) (rest := []) (g1 := (hc, r11.2, o)) (r1 := some (0, r11.1)) (zCk1_w (by decide +kernel)) rfl rfl rfl (st' := [(0, r11.1)]) rfl (S198 (Nat.le_trans (by decide) hd)  h _ q18) ?_
            refine zF_blk (m := []) (d := 0) (b := B180_15) (gs := []) (c' := (118, [some (22, 0), some (0, r11.1)], [], (hc, r11.2, o))) K180_15 rfl trivial ?_
            exact T180_1 hd r11.1 r11.2 _ e
        · refine zF_blk (m := []) (d := 0) (b := B180_19) (gs := [¬ (r4 = 0)]) (c' := (56, [some (22, 0), none], [], (hc, h, o))) K180_19 rfl ⟨q8, trivial⟩ ?_
          obtain ⟨r12, q19, e⟩ := zB_s e
          refine zF_blk (m := []) (d := 0) (b := B180_17) (gs := []) (c' := (57, [some (22, 0), none], [(22, 0)], (hc, h, o))) K180_17 rfl trivial ?_
          refine zF_call (k := 196) (cl := 12) (n := 1) (i := .invokevirtual 211) (args := [(22, 0)]) (rest := []) (g1 := (hc, r12.2, o)) (r1 := some (0, r12.1)) (zCk1_w (by decide +kernel)) rfl rfl rfl (st' := [(0, r12.1)]) rfl (S196 (Nat.le_trans (by decide) hd)  h _ q19) ?_
          refine zF_blk (m := []) (d := 0) (b := B180_18) (gs := []) (c' := (118, [some (22, 0), some (0, r12.1)], [], (hc, r12.2, o))) K180_18 rfl trivial ?_
          exact T180_1 hd r12.1 r12.2 _ e
      · refine zF_blk (m := []) (d := 0) (b := B180_22) (gs := [¬ (r3 = 0)]) (c' := (40, [some (22, 0), none], [], (hc, h, o))) K180_22 rfl ⟨q6, trivial⟩ ?_
        obtain ⟨r13, q20, e⟩ := zB_s e
        refine zF_blk (m := []) (d := 0) (b := B180_20) (gs := []) (c' := (41, [some (22, 0), none], [(22, 0)], (hc, h, o))) K180_20 rfl trivial ?_
        refine zF_call (k := 194) (cl := 12) (n := 1) (i := .invokevirtual 208) (args := [(22, 0)]) (rest := []) (g1 := (hc, r13.2, o)) (r1 := some (0, r13.1)) (zCk1_w (by decide +kernel)) rfl rfl rfl (st' := [(0, r13.1)]) rfl (S194 (Nat.le_trans (by decide) hd)  h _ q20) ?_
        refine zF_blk (m := []) (d := 0) (b := B180_21) (gs := []) (c' := (118, [some (22, 0), some (0, r13.1)], [], (hc, r13.2, o))) K180_21 rfl trivial ?_
        exact T180_1 hd r13.1 r13.2 _ e
    · refine zF_blk (m := []) (d := 0) (b := B180_25) (gs := [¬ (r2 = 0)]) (c' := (24, [some (22, 0), none], [], (hc, h, o))) K180_25 rfl ⟨q4, trivial⟩ ?_
      obtain ⟨r14, q21, e⟩ := zB_s e
      refine zF_blk (m := []) (d := 0) (b := B180_23) (gs := []) (c' := (25, [some (22, 0), none], [(22, 0)], (hc, h, o))) K180_23 rfl trivial ?_
      refine zF_call (k := 189) (cl := 12) (n := 1) (i := .invokevirtual 205) (args := [(22, 0)]) (rest := []) (g1 := (hc, r14.2, o)) (r1 := some (0, r14.1)) (zCk1_w (by decide +kernel)) rfl rfl rfl (st' := [(0, r14.1)]) rfl (S189 (Nat.le_trans (by decide) hd)  h _ q21) ?_
      refine zF_blk (m := []) (d := 0) (b := B180_24) (gs := []) (c' := (118, [some (22, 0), some (0, r14.1)], [], (hc, r14.2, o))) K180_24 rfl trivial ?_
      exact T180_1 hd r14.1 r14.2 _ e
  · refine zF_blk (m := []) (d := 0) (b := B180_28) (gs := [¬ (r1 = 0)]) (c' := (8, [some (22, 0), none], [], (hc, h, o))) K180_28 rfl ⟨q2, trivial⟩ ?_
    obtain ⟨r15, q22, e⟩ := zB_s e
    refine zF_blk (m := []) (d := 0) (b := B180_26) (gs := []) (c' := (9, [some (22, 0), none], [(22, 0)], (hc, h, o))) K180_26 rfl trivial ?_
    refine zF_call (k := 184) (cl := 12) (n := 1) (i := .invokevirtual 202) (args := [(22, 0)]) (rest := []) (g1 := (hc, r15.2, o)) (r1 := some (0, r15.1)) (zCk1_w (by decide +kernel)) rfl rfl rfl (st' := [(0, r15.1)]) rfl (S184 (Nat.le_trans (by decide) hd)  h _ q22) ?_
    refine zF_blk (m := []) (d := 0) (b := B180_27) (gs := []) (c' := (118, [some (22, 0), some (0, r15.1)], [], (hc, r15.2, o))) K180_27 rfl trivial ?_
    exact T180_1 hd r15.1 r15.2 _ e
noncomputable def B173_0 : List zRow := [(0, .aload_n 0, 1, (0, 0, 0)), (1, .sipush 900, 3, (0, 0, 0))]
theorem K173_0 : zRk 173 B173_0 = true := zRw_ok (by decide +kernel)
noncomputable def B173_1 : List zRow := [(7, .iconst 0, 1, (0, 0, 0)), (8, .istore_n 1, 1, (0, 0, 0))]
theorem K173_1 : zRk 173 B173_1 = true := zRw_ok (by decide +kernel)
noncomputable def B173_2 : List zRow := [(29, .aload_n 0, 1, (0, 0, 0)), (30, .iconst 0, 1, (0, 0, 0)), (31, .putfield 186, 3, (12, 24, 0)), (34, .iconst 0, 1, (0, 0, 0)), (35, .istore_n 1, 1, (0, 0, 0))]
theorem K173_2 : zRk 173 B173_2 = true := zRw_ok (by decide +kernel)
noncomputable def B173_3 : List zRow := [(16, .aload_n 0, 1, (0, 0, 0)), (17, .getfield 16, 3, (12, 15, 5243718)), (20, .iload_n 1, 1, (0, 0, 0)), (21, .iconst 0, 1, (0, 0, 0)), (22, .iastore, 1, (0, 0, 0)), (23, .iinc 1 1, 3, (0, 0, 0)), (26, .goto (-17), 3, (0, 0, 0))]
theorem K173_3 : zRk 173 B173_3 = true := zRw_ok (by decide +kernel)
noncomputable def B173_4 : List zRow := [(9, .iload_n 1, 1, (0, 0, 0)), (10, .sipush 209, 3, (0, 0, 0)), (13, .if_icmp .ge 16, 3, (0, 0, 0))]
theorem K173_4 : zRk 173 B173_4 = true := zRw_ok (by decide +kernel)
noncomputable def B173_5 : List zRow := [(63, .iconst 0, 1, (0, 0, 0)), (64, .istore_n 2, 1, (0, 0, 0))]
theorem K173_5 : zRk 173 B173_5 = true := zRw_ok (by decide +kernel)
noncomputable def B173_6 : List zRow := [(43, .aload_n 0, 1, (0, 0, 0))]
theorem K173_6 : zRk 173 B173_6 = true := zRw_ok (by decide +kernel)
noncomputable def B173_7 : List zRow := [(57, .iinc 1 1, 3, (0, 0, 0)), (60, .goto (-24), 3, (0, 0, 0))]
theorem K173_7 : zRk 173 B173_7 = true := zRw_ok (by decide +kernel)
noncomputable def B173_8 : List zRow := [(50, .iconst (-1), 1, (0, 0, 0)), (51, .aload_n 0, 1, (0, 0, 0)), (52, .getfield 145, 3, (12, 11, 0))]
theorem K173_8 : zRk 173 B173_8 = true := zRw_ok (by decide +kernel)
noncomputable def B173_9 : List zRow := [(55, .isub, 1, (0, 0, 0))]
theorem K173_9 : zRk 173 B173_9 = true := zRw_ok (by decide +kernel)
noncomputable def B173_10 : List zRow := [(47, .ifCond .ne 10, 3, (0, 0, 0))]
theorem K173_10 : zRk 173 B173_10 = true := zRw_ok (by decide +kernel)
noncomputable def B173_11 : List zRow := [(36, .aload_n 0, 1, (0, 0, 0)), (37, .getfield 107, 3, (12, 7, 0)), (40, .ifCond .eq 23, 3, (0, 0, 0))]
theorem K173_11 : zRk 173 B173_11 = true := zRw_ok (by decide +kernel)
noncomputable def B173_12 : List zRow := [(101, .iconst 0, 1, (0, 0, 0)), (102, .istore_n 2, 1, (0, 0, 0))]
theorem K173_12 : zRk 173 B173_12 = true := zRw_ok (by decide +kernel)
noncomputable def B173_13 : List zRow := [(93, .iconst 0, 1, (0, 0, 0))]
theorem K173_13 : zRk 173 B173_13 = true := zRw_ok (by decide +kernel)
noncomputable def B173_14 : List zRow := [(84, .aload_n 0, 1, (0, 0, 0)), (85, .getfield 16, 3, (12, 15, 5243718)), (88, .iload_n 2, 1, (0, 0, 0)), (89, .iaload, 1, (0, 0, 0)), (90, .goto 4, 3, (0, 0, 0))]
theorem K173_14 : zRk 173 B173_14 = true := zRw_ok (by decide +kernel)
noncomputable def B173_15 : List zRow := [(72, .aload_n 0, 1, (0, 0, 0)), (73, .getfield 13, 3, (12, 14, 5251442)), (76, .iload_n 2, 1, (0, 0, 0)), (77, .iload_n 2, 1, (0, 0, 0)), (78, .sipush 209, 3, (0, 0, 0)), (81, .if_icmp .ge 12, 3, (0, 0, 0))]
theorem K173_15 : zRk 173 B173_15 = true := zRw_ok (by decide +kernel)
noncomputable def B173_16 : List zRow := [(65, .iload_n 2, 1, (0, 0, 0)), (66, .sipush 2140, 3, (0, 0, 0)), (69, .if_icmp .ge 32, 3, (0, 0, 0))]
theorem K173_16 : zRk 173 B173_16 = true := zRw_ok (by decide +kernel)
noncomputable def B173_17 : List zRow := [(94, .iastore, 1, (0, 0, 0)), (95, .iinc 2 1, 3, (0, 0, 0)), (98, .goto (-33), 3, (0, 0, 0))]
theorem K173_17 : zRk 173 B173_17 = true := zRw_ok (by decide +kernel)
noncomputable def B173_18 : List zRow := [(136, .iconst 0, 1, (0, 0, 0)), (137, .istore_n 2, 1, (0, 0, 0))]
theorem K173_18 : zRk 173 B173_18 = true := zRw_ok (by decide +kernel)
noncomputable def B173_19 : List zRow := [(109, .aload_n 0, 1, (0, 0, 0)), (110, .getfield 13, 3, (12, 14, 5251442)), (113, .sipush 210, 3, (0, 0, 0)), (116, .iload_n 2, 1, (0, 0, 0))]
theorem K173_19 : zRk 173 B173_19 = true := zRw_ok (by decide +kernel)
noncomputable def B173_20 : List zRow := [(117, .iadd, 1, (0, 0, 0)), (118, .aload_n 0, 1, (0, 0, 0)), (119, .getfield 13, 3, (12, 14, 5251442)), (122, .bipush 25, 2, (0, 0, 0)), (124, .iconst 2, 1, (0, 0, 0)), (125, .iload_n 2, 1, (0, 0, 0))]
theorem K173_20 : zRk 173 B173_20 = true := zRw_ok (by decide +kernel)
noncomputable def B173_21 : List zRow := [(126, .imul, 1, (0, 0, 0))]
theorem K173_21 : zRk 173 B173_21 = true := zRw_ok (by decide +kernel)
noncomputable def B173_22 : List zRow := [(127, .iadd, 1, (0, 0, 0)), (128, .iaload, 1, (0, 0, 0)), (129, .iastore, 1, (0, 0, 0)), (130, .iinc 2 1, 3, (0, 0, 0)), (133, .goto (-30), 3, (0, 0, 0))]
theorem K173_22 : zRk 173 B173_22 = true := zRw_ok (by decide +kernel)
noncomputable def B173_23 : List zRow := [(103, .iload_n 2, 1, (0, 0, 0)), (104, .bipush 6, 2, (0, 0, 0)), (106, .if_icmp .ge 30, 3, (0, 0, 0))]
theorem K173_23 : zRk 173 B173_23 = true := zRw_ok (by decide +kernel)
noncomputable def B173_24 : List zRow := [(162, .aload_n 0, 1, (0, 0, 0)), (163, .iconst 0, 1, (0, 0, 0)), (164, .putfield 232, 3, (12, 23, 0)), (167, .iload_n 1, 1, (0, 0, 0))]
theorem K173_24 : zRk 173 B173_24 = true := zRw_ok (by decide +kernel)
noncomputable def B173_25 : List zRow := [(144, .aload_n 0, 1, (0, 0, 0)), (145, .getfield 28, 3, (12, 19, 5505074)), (148, .iload_n 2, 1, (0, 0, 0)), (149, .aload_n 0, 1, (0, 0, 0)), (150, .getfield 32, 3, (12, 20, 5505074)), (153, .iload_n 2, 1, (0, 0, 0)), (154, .laload, 1, (0, 0, 0)), (155, .lastore, 1, (0, 0, 0)), (156, .iinc 2 1, 3, (0, 0, 0)), (159, .goto (-21), 3, (0, 0, 0))]
theorem K173_25 : zRk 173 B173_25 = true := zRw_ok (by decide +kernel)
noncomputable def B173_26 : List zRow := [(138, .iload_n 2, 1, (0, 0, 0)), (139, .bipush 12, 2, (0, 0, 0)), (141, .if_icmp .ge 21, 3, (0, 0, 0))]
theorem K173_26 : zRk 173 B173_26 = true := zRw_ok (by decide +kernel)
def F173_5 : Nat → Int → Int → zHM → Option (Int × zHM)
  | 0, _, _, _ => none
  | n + 1, v1, v2, h => if 12 ≤ v2 then some (v1, (mset h 23 0 0)) else zG (0 ≤ v2 ∧ v2 < 12) (zG (0 ≤ v2 ∧ v2 < 12) ((F173_5 n) v1 (wadd v2 1) (mset h 19 v2 (h 20 v2))))
set_option maxRecDepth 100000 in
theorem T173_5 {spec : zRn zH2} {hc : zHC} {o : Int → Int} {d : Nat} (hd : 7 ≤ d) : ∀ (n : Nat) (v1 : Int) (v2 : Int) (h : zHM) (v : (Int × zHM)), F173_5 n v1 v2 h = some v → zFin 0 (fun _ => 0) (zRu2 spec d) 173 (some (0, v.1)) (hc, v.2, o) (138, [some (22, 0), some (0, v1), some (0, v2)], [], (hc, h, o)) := by
  intro n
  induction n with
  | zero => intro v1 v2 h v e; unfold F173_5 at e; cases e
  | succ n hk0 =>
    intro v1 v2 h v e
    unfold F173_5 at e
    rcases zI_s e with ⟨q1, e⟩ | ⟨q1, e⟩
    · refine zF_blk (m := []) (d := 1) (b := B173_26) (gs := [12 ≤ v2]) (c' := (162, [some (22, 0), some (0, v1), some (0, v2)], [], (hc, h, o))) K173_26 rfl ⟨q1, trivial⟩ ?_
      refine zF_blk (m := []) (d := 0) (b := B173_24) (gs := []) (c' := (168, [some (22, 0), some (0, v1), some (0, v2)], [(0, v1)], (hc, (mset h 23 0 0), o))) K173_24 rfl trivial ?_
      exact zF_riM (zRe1_w (by decide +kernel)) e
    · refine zF_blk (m := []) (d := 0) (b := B173_26) (gs := [¬ (12 ≤ v2)]) (c' := (144, [some (22, 0), some (0, v1), some (0, v2)], [], (hc, h, o))) K173_26 rfl ⟨q1, trivial⟩ ?_
      obtain ⟨q2, e⟩ := zG_s e
      obtain ⟨q2, e⟩ := zG_s e
      refine zF_blk (m := []) (d := 0) (b := B173_25) (gs := [0 ≤ v2 ∧ v2 < 12, 0 ≤ v2 ∧ v2 < 12]) (c' := (138, [some (22, 0), some (0, v1), some (0, (wadd v2 1))], [], (hc, (mset h 19 v2 (h 20 v2)), o))) K173_25 rfl ⟨q2, q2, trivial⟩ ?_
      exact hk0 v1 (wadd v2 1) (mset h 19 v2 (h 20 v2)) _ e
def F173_3 : Nat → Int → Int → zHM → Option (Int × zHM)
  | 0, _, _, _ => none
  | n + 1, v1, v2, h => if 6 ≤ v2 then F173_5 zFu v1 0 h else zG (0 ≤ (wadd 25 (wmul 2 v2)) ∧ (wadd 25 (wmul 2 v2)) < 2140) (zG (0 ≤ (wadd 210 v2) ∧ (wadd 210 v2) < 2140) ((F173_3 n) v1 (wadd v2 1) (mset h 14 (wadd 210 v2) (h 14 (wadd 25 (wmul 2 v2))))))
set_option maxRecDepth 100000 in
theorem T173_3 {spec : zRn zH2} {hc : zHC} {o : Int → Int} {d : Nat} (hd : 7 ≤ d) : ∀ (n : Nat) (v1 : Int) (v2 : Int) (h : zHM) (v : (Int × zHM)), F173_3 n v1 v2 h = some v → zFin 0 (fun _ => 0) (zRu2 spec d) 173 (some (0, v.1)) (hc, v.2, o) (103, [some (22, 0), some (0, v1), some (0, v2)], [], (hc, h, o)) := by
  intro n
  induction n with
  | zero => intro v1 v2 h v e; unfold F173_3 at e; cases e
  | succ n hk0 =>
    intro v1 v2 h v e
    unfold F173_3 at e
    rcases zI_s e with ⟨q1, e⟩ | ⟨q1, e⟩
    · refine zF_blk (m := []) (d := 1) (b := B173_23) (gs := [6 ≤ v2]) (c' := (136, [some (22, 0), some (0, v1), some (0, v2)], [], (hc, h, o))) K173_23 rfl ⟨q1, trivial⟩ ?_
      refine zF_blk (m := []) (d := 0) (b := B173_18) (gs := []) (c' := (138, [some (22, 0), some (0, v1), some (0, 0)], [], (hc, h, o))) K173_18 rfl trivial ?_
      exact T173_5 hd zFu v1 0 h _ e
    · refine zF_blk (m := []) (d := 0) (b := B173_23) (gs := [¬ (6 ≤ v2)]) (c' := (109, [some (22, 0), some (0, v1), some (0, v2)], [], (hc, h, o))) K173_23 rfl ⟨q1, trivial⟩ ?_
      obtain ⟨q2, e⟩ := zG_s e
      obtain ⟨q3, e⟩ := zG_s e
      refine zF_blk (m := []) (d := 0) (b := B173_19) (gs := []) (c' := (117, [some (22, 0), some (0, v1), some (0, v2)], [(0, v2), (0, 210), (1344370422, 0)], (hc, h, o))) K173_19 rfl trivial ?_
      refine zF_blk (m := []) (d := 0) (b := B173_20) (gs := []) (c' := (126, [some (22, 0), some (0, v1), some (0, v2)], [(0, v2), (0, 2), (0, 25), (1344370422, 0), (0, (wadd 210 v2)), (1344370422, 0)], (hc, h, o))) K173_20 rfl trivial ?_
      refine zF_blk (m := []) (d := 0) (b := B173_21) (gs := []) (c' := (127, [some (22, 0), some (0, v1), some (0, v2)], [(0, (wmul 2 v2)), (0, 25), (1344370422, 0), (0, (wadd 210 v2)), (1344370422, 0)], (hc, h, o))) K173_21 rfl trivial ?_
      refine zF_blk (m := []) (d := 0) (b := B173_22) (gs := [0 ≤ (wadd 25 (wmul 2 v2)) ∧ (wadd 25 (wmul 2 v2)) < 2140, 0 ≤ (wadd 210 v2) ∧ (wadd 210 v2) < 2140]) (c' := (103, [some (22, 0), some (0, v1), some (0, (wadd v2 1))], [], (hc, (mset h 14 (wadd 210 v2) (h 14 (wadd 25 (wmul 2 v2)))), o))) K173_22 rfl ⟨q2, q3, trivial⟩ ?_
      exact hk0 v1 (wadd v2 1) (mset h 14 (wadd 210 v2) (h 14 (wadd 25 (wmul 2 v2)))) _ e
def F173_4 (k0 : Int → Int → zHM → Option (Int × zHM)) (v1 : Int) (v2 : Int) (s0 : Int) (s1 : Int) (h : zHM) : Option (Int × zHM) := zG (0 ≤ s1 ∧ s1 < 2140) (k0 v1 (wadd v2 1) (mset h 14 s1 s0))
set_option maxRecDepth 100000 in
theorem T173_4 {spec : zRn zH2} {hc : zHC} {o : Int → Int} {d : Nat} (hd : 7 ≤ d) (k0 : Int → Int → zHM → Option (Int × zHM)) (hk0 : ∀ (v1 : Int) (v2 : Int) (h : zHM) (v : (Int × zHM)), k0 v1 v2 h = some v → zFin 0 (fun _ => 0) (zRu2 spec d) 173 (some (0, v.1)) (hc, v.2, o) (65, [some (22, 0), some (0, v1), some (0, v2)], [], (hc, h, o))) (v1 : Int) (v2 : Int) (s0 : Int) (s1 : Int) (h : zHM) (v : (Int × zHM)) (e : F173_4 k0 v1 v2 s0 s1 h = some v) : zFin 0 (fun _ => 0) (zRu2 spec d) 173 (some (0, v.1)) (hc, v.2, o) (94, [some (22, 0), some (0, v1), some (0, v2)], [(0, s0), (0, s1), (1344370422, 0)], (hc, h, o)) := by
  unfold F173_4 at e
  obtain ⟨q1, e⟩ := zG_s e
  refine zF_blk (m := []) (d := 0) (b := B173_17) (gs := [0 ≤ s1 ∧ s1 < 2140]) (c' := (65, [some (22, 0), some (0, v1), some (0, (wadd v2 1))], [], (hc, (mset h 14 s1 s0), o))) K173_17 rfl ⟨q1, trivial⟩ ?_
  exact hk0 v1 (wadd v2 1) (mset h 14 s1 s0) _ e
def F173_2 : Nat → Int → Int → zHM → Option (Int × zHM)
  | 0, _, _, _ => none
  | n + 1, v1, v2, h => if 2140 ≤ v2 then F173_3 zFu v1 0 h else if 209 ≤ v2 then F173_4 (F173_2 n) v1 v2 0 v2 h else zG (0 ≤ v2 ∧ v2 < 209) (F173_4 (F173_2 n) v1 v2 (h 15 v2) v2 h)
set_option maxRecDepth 100000 in
theorem T173_2 {spec : zRn zH2} {hc : zHC} {o : Int → Int} {d : Nat} (hd : 7 ≤ d) : ∀ (n : Nat) (v1 : Int) (v2 : Int) (h : zHM) (v : (Int × zHM)), F173_2 n v1 v2 h = some v → zFin 0 (fun _ => 0) (zRu2 spec d) 173 (some (0, v.1)) (hc, v.2, o) (65, [some (22, 0), some (0, v1), some (0, v2)], [], (hc, h, o)) := by
  intro n
  induction n with
  | zero => intro v1 v2 h v e; unfold F173_2 at e; cases e
  | succ n hk0 =>
    intro v1 v2 h v e
    unfold F173_2 at e
    rcases zI_s e with ⟨q1, e⟩ | ⟨q1, e⟩
    · refine zF_blk (m := []) (d := 1) (b := B173_16) (gs := [2140 ≤ v2]) (c' := (101, [some (22, 0), some (0, v1), some (0, v2)], [], (hc, h, o))) K173_16 rfl ⟨q1, trivial⟩ ?_
      refine zF_blk (m := []) (d := 0) (b := B173_12) (gs := []) (c' := (103, [some (22, 0), some (0, v1), some (0, 0)], [], (hc, h, o))) K173_12 rfl trivial ?_
      exact T173_3 hd zFu v1 0 h _ e
    · refine zF_blk (m := []) (d := 0) (b := B173_16) (gs := [¬ (2140 ≤ v2)]) (c' := (72, [some (22, 0), some (0, v1), some (0, v2)], [], (hc, h, o))) K173_16 rfl ⟨q1, trivial⟩ ?_
      rcases zI_s e with ⟨q2, e⟩ | ⟨q2, e⟩
      · refine zF_blk (m := []) (d := 1) (b := B173_15) (gs := [209 ≤ v2]) (c' := (93, [some (22, 0), some (0, v1), some (0, v2)], [(0, v2), (1344370422, 0)], (hc, h, o))) K173_15 rfl ⟨q2, trivial⟩ ?_
        refine zF_blk (m := []) (d := 0) (b := B173_13) (gs := []) (c' := (94, [some (22, 0), some (0, v1), some (0, v2)], [(0, 0), (0, v2), (1344370422, 0)], (hc, h, o))) K173_13 rfl trivial ?_
        exact T173_4 hd (F173_2 n) hk0 v1 v2 0 v2 h _ e
      · refine zF_blk (m := []) (d := 0) (b := B173_15) (gs := [¬ (209 ≤ v2)]) (c' := (84, [some (22, 0), some (0, v1), some (0, v2)], [(0, v2), (1344370422, 0)], (hc, h, o))) K173_15 rfl ⟨q2, trivial⟩ ?_
        obtain ⟨q3, e⟩ := zG_s e
        refine zF_blk (m := []) (d := 0) (b := B173_14) (gs := [0 ≤ v2 ∧ v2 < 209]) (c' := (94, [some (22, 0), some (0, v1), some (0, v2)], [(0, (h 15 v2)), (0, v2), (1344370422, 0)], (hc, h, o))) K173_14 rfl ⟨q3, trivial⟩ ?_
        exact T173_4 hd (F173_2 n) hk0 v1 v2 (h 15 v2) v2 h _ e
def F173_1 : Nat → Int → zHM → Option (Int × zHM)
  | 0, _, _ => none
  | n + 1, v1, h => if (h 7 0) = 0 then F173_2 zFu v1 0 h else (F180 h).bind fun r1 => if ¬ r1.1 = 0 then (F173_1 n) (wadd v1 1) r1.2 else some ((wsub (-1) (r1.2 11 0)), r1.2)
set_option maxRecDepth 100000 in
theorem T173_1 {spec : zRn zH2} {hc : zHC} {o : Int → Int} {d : Nat} (hd : 7 ≤ d) : ∀ (n : Nat) (v1 : Int) (h : zHM) (v : (Int × zHM)), F173_1 n v1 h = some v → zFin 0 (fun _ => 0) (zRu2 spec d) 173 (some (0, v.1)) (hc, v.2, o) (36, [some (22, 0), some (0, v1), none], [], (hc, h, o)) := by
  intro n
  induction n with
  | zero => intro v1 h v e; unfold F173_1 at e; cases e
  | succ n hk0 =>
    intro v1 h v e
    unfold F173_1 at e
    rcases zI_s e with ⟨q1, e⟩ | ⟨q1, e⟩
    · refine zF_blk (m := []) (d := 1) (b := B173_11) (gs := [(h 7 0) = 0]) (c' := (63, [some (22, 0), some (0, v1), none], [], (hc, h, o))) K173_11 rfl ⟨q1, trivial⟩ ?_
      refine zF_blk (m := []) (d := 0) (b := B173_5) (gs := []) (c' := (65, [some (22, 0), some (0, v1), some (0, 0)], [], (hc, h, o))) K173_5 rfl trivial ?_
      exact T173_2 hd zFu v1 0 h _ e
    · refine zF_blk (m := []) (d := 0) (b := B173_11) (gs := [¬ ((h 7 0) = 0)]) (c' := (43, [some (22, 0), some (0, v1), none], [], (hc, h, o))) K173_11 rfl ⟨q1, trivial⟩ ?_
      obtain ⟨r1, q2, e⟩ := zB_s e
      refine zF_blk (m := []) (d := 0) (b := B173_6) (gs := []) (c' := (44, [some (22, 0), some (0, v1), none], [(22, 0)], (hc, h, o))) K173_6 rfl trivial ?_
      refine zF_call (k := 180) (cl := 12) (n := 1) (i := .invokevirtual 229) (args := [(22, 0)]) (rest := []) (g1 := (hc, r1.2, o)) (r1 := some (0, r1.1)) (zCk1_w (by decide +kernel)) rfl rfl rfl (st' := [(0, r1.1)]) rfl (S180 (Nat.le_trans (by decide) hd)  h _ q2) ?_
      rcases zI_s e with ⟨q3, e⟩ | ⟨q3, e⟩
      · refine zF_blk (m := []) (d := 1) (b := B173_10) (gs := [¬ r1.1 = 0]) (c' := (57, [some (22, 0), some (0, v1), none], [], (hc, r1.2, o))) K173_10 rfl ⟨q3, trivial⟩ ?_
        refine zF_blk (m := []) (d := 0) (b := B173_7) (gs := []) (c' := (36, [some (22, 0), some (0, (wadd v1 1)), none], [], (hc, r1.2, o))) K173_7 rfl trivial ?_
        exact hk0 (wadd v1 1) r1.2 _ e
      · refine zF_blk (m := []) (d := 0) (b := B173_10) (gs := [¬ (¬ r1.1 = 0)]) (c' := (50, [some (22, 0), some (0, v1), none], [], (hc, r1.2, o))) K173_10 rfl ⟨q3, trivial⟩ ?_
        refine zF_blk (m := []) (d := 0) (b := B173_8) (gs := []) (c' := (55, [some (22, 0), some (0, v1), none], [(0, (r1.2 11 0)), (0, (-1))], (hc, r1.2, o))) K173_8 rfl trivial ?_
        refine zF_blk (m := []) (d := 0) (b := B173_9) (gs := []) (c' := (56, [some (22, 0), some (0, v1), none], [(0, (wsub (-1) (r1.2 11 0)))], (hc, r1.2, o))) K173_9 rfl trivial ?_
        exact zF_riM (zRe1_w (by decide +kernel)) e
def F173_0 : Nat → Int → zHM → Option (Int × zHM)
  | 0, _, _ => none
  | n + 1, v1, h => if 209 ≤ v1 then F173_1 zFu 0 (mset h 24 0 0) else zG (0 ≤ v1 ∧ v1 < 209) ((F173_0 n) (wadd v1 1) (mset h 15 v1 0))
set_option maxRecDepth 100000 in
theorem T173_0 {spec : zRn zH2} {hc : zHC} {o : Int → Int} {d : Nat} (hd : 7 ≤ d) : ∀ (n : Nat) (v1 : Int) (h : zHM) (v : (Int × zHM)), F173_0 n v1 h = some v → zFin 0 (fun _ => 0) (zRu2 spec d) 173 (some (0, v.1)) (hc, v.2, o) (9, [some (22, 0), some (0, v1), none], [], (hc, h, o)) := by
  intro n
  induction n with
  | zero => intro v1 h v e; unfold F173_0 at e; cases e
  | succ n hk0 =>
    intro v1 h v e
    unfold F173_0 at e
    rcases zI_s e with ⟨q1, e⟩ | ⟨q1, e⟩
    · refine zF_blk (m := []) (d := 1) (b := B173_4) (gs := [209 ≤ v1]) (c' := (29, [some (22, 0), some (0, v1), none], [], (hc, h, o))) K173_4 rfl ⟨q1, trivial⟩ ?_
      refine zF_blk (m := []) (d := 0) (b := B173_2) (gs := [0 = 0 ∨ 0 = 1]) (c' := (36, [some (22, 0), some (0, 0), none], [], (hc, (mset h 24 0 0), o))) K173_2 rfl ⟨by decide, trivial⟩ ?_
      exact T173_1 hd zFu 0 (mset h 24 0 0) _ e
    · refine zF_blk (m := []) (d := 0) (b := B173_4) (gs := [¬ (209 ≤ v1)]) (c' := (16, [some (22, 0), some (0, v1), none], [], (hc, h, o))) K173_4 rfl ⟨q1, trivial⟩ ?_
      obtain ⟨q2, e⟩ := zG_s e
      refine zF_blk (m := []) (d := 0) (b := B173_3) (gs := [0 ≤ v1 ∧ v1 < 209]) (c' := (9, [some (22, 0), some (0, (wadd v1 1)), none], [], (hc, (mset h 15 v1 0), o))) K173_3 rfl ⟨q2, trivial⟩ ?_
      exact hk0 (wadd v1 1) (mset h 15 v1 0) _ e
/-- EchoValeModel.valley()I -/
def F173 (h : zHM) : Option (Int × zHM) := (F174 900 h).bind fun r1 => F173_0 zFu 0 r1
set_option maxRecDepth 100000 in
theorem S173 {spec : zRn zH2} {hc : zHC} {o : Int → Int} {d : Nat} (hd : 8 ≤ d) (h : zHM) (v : (Int × zHM)) (e : F173 h = some v) : zRu2 spec d 173 [(22, 0)] (hc, h, o) (some (0, v.1)) (hc, v.2, o) := by
  refine zF_in (D := 7) (mx := 3) (L := [some (22, 0), none, none]) (by decide +kernel) rfl rfl hd (fun d hd => ?_)
  unfold F173 at e
  obtain ⟨r1, q1, e⟩ := zB_s e
  refine zF_blk (m := []) (d := 0) (b := B173_0) (gs := []) (c' := (4, [some (22, 0), none, none], [(0, 900), (22, 0)], (hc, h, o))) K173_0 rfl trivial ?_
  refine zF_call (k := 174) (cl := 12) (n := 2) (i := .invokevirtual 226) (args := [(22, 0), (0, 900)]) (rest := []) (g1 := (hc, r1, o)) (r1 := none) (zCk1_w (by decide +kernel)) rfl rfl rfl (st' := []) rfl (S174 (Nat.le_trans (by decide) hd) 900 h _ q1) ?_
  refine zF_blk (m := []) (d := 0) (b := B173_1) (gs := []) (c' := (9, [some (22, 0), some (0, 0), none], [], (hc, r1, o))) K173_1 rfl trivial ?_
  exact T173_0 hd zFu 0 r1 _ e
noncomputable def B56_0 : List zRow := [(0, .aload_n 0, 1, (0, 0, 0)), (1, .getfield 12, 3, (11, 0, 23)), (4, .getfield 136, 3, (5, 2, 0))]
theorem K56_0 : zRk 56 B56_0 = true := zRw_ok (by decide +kernel)
/-- EchoVale.fault()I -/
def F56 (h : zHC) : Option Int := some (h 322 0 0)
set_option maxRecDepth 100000 in
theorem S56 {spec : zRn zH2} {hm : zHM} {o : Int → Int} {d : Nat} (hd : 1 ≤ d) (h : zHC) (v : Int) (e : F56 h = some v) : zRu2 spec d 56 [(21, 0)] (h, hm, o) (some (0, v)) (h, hm, o) := by
  refine zF_in (D := 0) (mx := 1) (L := [some (21, 0)]) (by decide +kernel) rfl rfl hd (fun d hd => ?_)
  unfold F56 at e
  refine zF_blk (m := []) (d := 0) (b := B56_0) (gs := []) (c' := (7, [some (21, 0)], [(0, (h 322 0 0))], (h, hm, o))) K56_0 rfl trivial ?_
  obtain rfl := Option.some.inj e
  exact zF_ri (zRe1_w (by decide +kernel))
noncomputable def B203_0 : List zRow := [(0, .aload_n 0, 1, (0, 0, 0)), (1, .iconst 0, 1, (0, 0, 0)), (2, .putfield 81, 3, (12, 0, 0)), (5, .aload_n 0, 1, (0, 0, 0)), (6, .getfield 142, 3, (12, 10, 0))]
theorem K203_0 : zRk 203 B203_0 = true := zRw_ok (by decide +kernel)
/-- EchoValeModel.fault()I -/
def F203 (h : zHM) : Option (Int × zHM) := some ((h 10 0), (mset h 0 0 0))
set_option maxRecDepth 100000 in
theorem S203 {spec : zRn zH2} {hc : zHC} {o : Int → Int} {d : Nat} (hd : 1 ≤ d) (h : zHM) (v : (Int × zHM)) (e : F203 h = some v) : zRu2 spec d 203 [(22, 0)] (hc, h, o) (some (0, v.1)) (hc, v.2, o) := by
  refine zF_in (D := 0) (mx := 1) (L := [some (22, 0)]) (by decide +kernel) rfl rfl hd (fun d hd => ?_)
  unfold F203 at e
  refine zF_blk (m := []) (d := 0) (b := B203_0) (gs := []) (c' := (9, [some (22, 0)], [(0, (h 10 0))], (hc, (mset h 0 0 0), o))) K203_0 rfl trivial ?_
  exact zF_riM (zRe1_w (by decide +kernel)) e
noncomputable def B205_0 : List zRow := [(18, .iconst 0, 1, (0, 0, 0))]
theorem K205_0 : zRk 205 B205_0 = true := zRw_ok (by decide +kernel)
noncomputable def B205_1 : List zRow := [(14, .iconst 1, 1, (0, 0, 0)), (15, .goto 4, 3, (0, 0, 0))]
theorem K205_1 : zRk 205 B205_1 = true := zRw_ok (by decide +kernel)
noncomputable def B205_2 : List zRow := [(4, .iload_n 1, 1, (0, 0, 0)), (5, .aload_n 0, 1, (0, 0, 0)), (6, .getfield 13, 3, (12, 14, 5251442)), (9, .iconst 2, 1, (0, 0, 0)), (10, .iaload, 1, (0, 0, 0)), (11, .if_icmp .ge 7, 3, (0, 0, 0))]
theorem K205_2 : zRk 205 B205_2 = true := zRw_ok (by decide +kernel)
noncomputable def B205_3 : List zRow := [(0, .iload_n 1, 1, (0, 0, 0)), (1, .ifCond .lt 17, 3, (0, 0, 0))]
theorem K205_3 : zRk 205 B205_3 = true := zRw_ok (by decide +kernel)
/-- EchoValeModel.isCliff(I)Z -/
def F205 (v1 : Int) (h : zHM) : Option Int := if v1 < 0 then some 0 else if (h 14 2) ≤ v1 then some 0 else some 1
set_option maxRecDepth 100000 in
theorem S205 {spec : zRn zH2} {hc : zHC} {o : Int → Int} {d : Nat} (hd : 1 ≤ d) (v1 : Int) (h : zHM) (v : Int) (e : F205 v1 h = some v) : zRu2 spec d 205 [(22, 0), (0, v1)] (hc, h, o) (some (0, v)) (hc, h, o) := by
  refine zF_in (D := 0) (mx := 2) (L := [some (22, 0), some (0, v1)]) (by decide +kernel) rfl rfl hd (fun d hd => ?_)
  unfold F205 at e
  rcases zI_s e with ⟨q1, e⟩ | ⟨q1, e⟩
  · refine zF_blk (m := []) (d := 1) (b := B205_3) (gs := [v1 < 0]) (c' := (18, [some (22, 0), some (0, v1)], [], (hc, h, o))) K205_3 rfl ⟨q1, trivial⟩ ?_
    refine zF_blk (m := []) (d := 0) (b := B205_0) (gs := []) (c' := (19, [some (22, 0), some (0, v1)], [(0, 0)], (hc, h, o))) K205_0 rfl trivial ?_
    obtain rfl := Option.some.inj e
    exact zF_rb (zRe1_w (by decide +kernel)) (Or.inl rfl)
  · refine zF_blk (m := []) (d := 0) (b := B205_3) (gs := [¬ (v1 < 0)]) (c' := (4, [some (22, 0), some (0, v1)], [], (hc, h, o))) K205_3 rfl ⟨q1, trivial⟩ ?_
    rcases zI_s e with ⟨q2, e⟩ | ⟨q2, e⟩
    · refine zF_blk (m := []) (d := 1) (b := B205_2) (gs := [0 ≤ 2 ∧ 2 < 2140, (h 14 2) ≤ v1]) (c' := (18, [some (22, 0), some (0, v1)], [], (hc, h, o))) K205_2 rfl ⟨by decide, q2, trivial⟩ ?_
      refine zF_blk (m := []) (d := 0) (b := B205_0) (gs := []) (c' := (19, [some (22, 0), some (0, v1)], [(0, 0)], (hc, h, o))) K205_0 rfl trivial ?_
      obtain rfl := Option.some.inj e
      exact zF_rb (zRe1_w (by decide +kernel)) (Or.inl rfl)
    · refine zF_blk (m := []) (d := 0) (b := B205_2) (gs := [0 ≤ 2 ∧ 2 < 2140, ¬ ((h 14 2) ≤ v1)]) (c' := (14, [some (22, 0), some (0, v1)], [], (hc, h, o))) K205_2 rfl ⟨by decide, q2, trivial⟩ ?_
      refine zF_blk (m := []) (d := 0) (b := B205_1) (gs := []) (c' := (19, [some (22, 0), some (0, v1)], [(0, 1)], (hc, h, o))) K205_1 rfl trivial ?_
      obtain rfl := Option.some.inj e
      exact zF_rb (zRe1_w (by decide +kernel)) (Or.inr rfl)
noncomputable def B207_0 : List zRow := [(0, .aload_n 0, 1, (0, 0, 0)), (1, .getfield 13, 3, (12, 14, 5251442)), (4, .bipush 7, 2, (0, 0, 0)), (6, .iconst 3, 1, (0, 0, 0)), (7, .iload_n 1, 1, (0, 0, 0))]
theorem K207_0 : zRk 207 B207_0 = true := zRw_ok (by decide +kernel)
noncomputable def B207_1 : List zRow := [(8, .imul, 1, (0, 0, 0))]
theorem K207_1 : zRk 207 B207_1 = true := zRw_ok (by decide +kernel)
noncomputable def B207_2 : List zRow := [(9, .iadd, 1, (0, 0, 0)), (10, .iconst 2, 1, (0, 0, 0)), (11, .iadd, 1, (0, 0, 0)), (12, .iaload, 1, (0, 0, 0))]
theorem K207_2 : zRk 207 B207_2 = true := zRw_ok (by decide +kernel)
/-- EchoValeModel.strength(I)I -/
def F207 (v1 : Int) (h : zHM) : Option Int := zG (0 ≤ (wadd (wadd 7 (wmul 3 v1)) 2) ∧ (wadd (wadd 7 (wmul 3 v1)) 2) < 2140) (some (h 14 (wadd (wadd 7 (wmul 3 v1)) 2)))
set_option maxRecDepth 100000 in
theorem S207 {spec : zRn zH2} {hc : zHC} {o : Int → Int} {d : Nat} (hd : 1 ≤ d) (v1 : Int) (h : zHM) (v : Int) (e : F207 v1 h = some v) : zRu2 spec d 207 [(22, 0), (0, v1)] (hc, h, o) (some (0, v)) (hc, h, o) := by
  refine zF_in (D := 0) (mx := 2) (L := [some (22, 0), some (0, v1)]) (by decide +kernel) rfl rfl hd (fun d hd => ?_)
  unfold F207 at e
  obtain ⟨q1, e⟩ := zG_s e
  refine zF_blk (m := []) (d := 0) (b := B207_0) (gs := []) (c' := (8, [some (22, 0), some (0, v1)], [(0, v1), (0, 3), (0, 7), (1344370422, 0)], (hc, h, o))) K207_0 rfl trivial ?_
  refine zF_blk (m := []) (d := 0) (b := B207_1) (gs := []) (c' := (9, [some (22, 0), some (0, v1)], [(0, (wmul 3 v1)), (0, 7), (1344370422, 0)], (hc, h, o))) K207_1 rfl trivial ?_
  refine zF_blk (m := []) (d := 0) (b := B207_2) (gs := [0 ≤ (wadd (wadd 7 (wmul 3 v1)) 2) ∧ (wadd (wadd 7 (wmul 3 v1)) 2) < 2140]) (c' := (13, [some (22, 0), some (0, v1)], [(0, (h 14 (wadd (wadd 7 (wmul 3 v1)) 2)))], (hc, h, o))) K207_2 rfl ⟨q1, trivial⟩ ?_
  obtain rfl := Option.some.inj e
  exact zF_ri (zRe1_w (by decide +kernel))
noncomputable def B208_0 : List zRow := [(0, .iconst 0, 1, (0, 0, 0)), (1, .istore_n 2, 1, (0, 0, 0)), (2, .iconst (-1), 1, (0, 0, 0)), (3, .istore_n 3, 1, (0, 0, 0)), (4, .iconst 0, 1, (0, 0, 0)), (5, .istore 4, 2, (0, 0, 0))]
theorem K208_0 : zRk 208 B208_0 = true := zRw_ok (by decide +kernel)
noncomputable def B208_1 : List zRow := [(74, .iload_n 2, 1, (0, 0, 0))]
theorem K208_1 : zRk 208 B208_1 = true := zRw_ok (by decide +kernel)
noncomputable def B208_2 : List zRow := [(19, .aload_n 0, 1, (0, 0, 0)), (20, .getfield 13, 3, (12, 14, 5251442)), (23, .sipush 197, 3, (0, 0, 0)), (26, .iconst 2, 1, (0, 0, 0)), (27, .iload 4, 2, (0, 0, 0))]
theorem K208_2 : zRk 208 B208_2 = true := zRw_ok (by decide +kernel)
noncomputable def B208_3 : List zRow := [(29, .imul, 1, (0, 0, 0))]
theorem K208_3 : zRk 208 B208_3 = true := zRw_ok (by decide +kernel)
noncomputable def B208_4 : List zRow := [(49, .iload 5, 2, (0, 0, 0)), (51, .istore_n 3, 1, (0, 0, 0)), (52, .aload_n 0, 1, (0, 0, 0)), (53, .getfield 13, 3, (12, 14, 5251442)), (56, .sipush 197, 3, (0, 0, 0)), (59, .iconst 2, 1, (0, 0, 0)), (60, .iload 4, 2, (0, 0, 0))]
theorem K208_4 : zRk 208 B208_4 = true := zRw_ok (by decide +kernel)
noncomputable def B208_5 : List zRow := [(62, .imul, 1, (0, 0, 0))]
theorem K208_5 : zRk 208 B208_5 = true := zRw_ok (by decide +kernel)
noncomputable def B208_6 : List zRow := [(63, .iadd, 1, (0, 0, 0)), (64, .iconst 1, 1, (0, 0, 0)), (65, .iadd, 1, (0, 0, 0)), (66, .iaload, 1, (0, 0, 0)), (67, .istore_n 2, 1, (0, 0, 0))]
theorem K208_6 : zRk 208 B208_6 = true := zRw_ok (by decide +kernel)
noncomputable def B208_7 : List zRow := [(46, .goto 22, 3, (0, 0, 0))]
theorem K208_7 : zRk 208 B208_7 = true := zRw_ok (by decide +kernel)
noncomputable def B208_8 : List zRow := [(40, .iload 5, 2, (0, 0, 0)), (42, .iload_n 3, 1, (0, 0, 0)), (43, .if_icmp .ge 6, 3, (0, 0, 0))]
theorem K208_8 : zRk 208 B208_8 = true := zRw_ok (by decide +kernel)
noncomputable def B208_9 : List zRow := [(30, .iadd, 1, (0, 0, 0)), (31, .iaload, 1, (0, 0, 0)), (32, .istore 5, 2, (0, 0, 0)), (34, .iload 5, 2, (0, 0, 0)), (36, .iload_n 1, 1, (0, 0, 0)), (37, .if_icmp .gt 31, 3, (0, 0, 0))]
theorem K208_9 : zRk 208 B208_9 = true := zRw_ok (by decide +kernel)
noncomputable def B208_10 : List zRow := [(7, .iload 4, 2, (0, 0, 0)), (9, .aload_n 0, 1, (0, 0, 0)), (10, .getfield 13, 3, (12, 14, 5251442)), (13, .bipush 6, 2, (0, 0, 0)), (15, .iaload, 1, (0, 0, 0)), (16, .if_icmp .ge 58, 3, (0, 0, 0))]
theorem K208_10 : zRk 208 B208_10 = true := zRw_ok (by decide +kernel)
noncomputable def B208_11 : List zRow := [(68, .iinc 4 1, 3, (0, 0, 0)), (71, .goto (-64), 3, (0, 0, 0))]
theorem K208_11 : zRk 208 B208_11 = true := zRw_ok (by decide +kernel)
def F208_1 (k0 : Int → Int → Int → Int → Option Int) (h : zHM) (v1 : Int) (v2 : Int) (v3 : Int) (v4 : Int) : Option Int := k0 v1 v2 v3 (wadd v4 1)
set_option maxRecDepth 100000 in
theorem T208_1 {spec : zRn zH2} {hc : zHC} {o : Int → Int} {d : Nat} (hd : 0 ≤ d) (h : zHM) (k0 : Int → Int → Int → Int → Option Int) (hk0 : ∀ (v1 : Int) (v2 : Int) (v3 : Int) (v4 : Int) (v : Int), k0 v1 v2 v3 v4 = some v → zFin 0 (fun _ => 0) (zRu2 spec d) 208 (some (0, v)) (hc, h, o) (7, [some (22, 0), some (0, v1), some (0, v2), some (0, v3), some (0, v4), none], [], (hc, h, o))) (v1 : Int) (v2 : Int) (v3 : Int) (v4 : Int) (v : Int) (e : F208_1 k0 h v1 v2 v3 v4 = some v) : zFin 0 (fun _ => 0) (zRu2 spec d) 208 (some (0, v)) (hc, h, o) (68, [some (22, 0), some (0, v1), some (0, v2), some (0, v3), some (0, v4), none], [], (hc, h, o)) := by
  unfold F208_1 at e
  refine zF_blk (m := []) (d := 0) (b := B208_11) (gs := []) (c' := (7, [some (22, 0), some (0, v1), some (0, v2), some (0, v3), some (0, (wadd v4 1)), none], [], (hc, h, o))) K208_11 rfl trivial ?_
  exact hk0 v1 v2 v3 (wadd v4 1) _ e
def F208_0 (h : zHM) : Nat → Int → Int → Int → Int → Option Int
  | 0, _, _, _, _ => none
  | n + 1, v1, v2, v3, v4 => if (h 14 6) ≤ v4 then some v2 else zG (0 ≤ (wadd 197 (wmul 2 v4)) ∧ (wadd 197 (wmul 2 v4)) < 2140) (if v1 < (h 14 (wadd 197 (wmul 2 v4))) then F208_1 (F208_0 h n) h v1 v2 v3 v4 else if v3 ≤ (h 14 (wadd 197 (wmul 2 v4))) then zG (0 ≤ (wadd (wadd 197 (wmul 2 v4)) 1) ∧ (wadd (wadd 197 (wmul 2 v4)) 1) < 2140) (F208_1 (F208_0 h n) h v1 (h 14 (wadd (wadd 197 (wmul 2 v4)) 1)) (h 14 (wadd 197 (wmul 2 v4))) v4) else F208_1 (F208_0 h n) h v1 v2 v3 v4)
set_option maxRecDepth 100000 in
theorem T208_0 {spec : zRn zH2} {hc : zHC} {o : Int → Int} {d : Nat} (hd : 0 ≤ d) (h : zHM) : ∀ (n : Nat) (v1 : Int) (v2 : Int) (v3 : Int) (v4 : Int) (v : Int), F208_0 h n v1 v2 v3 v4 = some v → zFin 0 (fun _ => 0) (zRu2 spec d) 208 (some (0, v)) (hc, h, o) (7, [some (22, 0), some (0, v1), some (0, v2), some (0, v3), some (0, v4), none], [], (hc, h, o)) := by
  intro n
  induction n with
  | zero => intro v1 v2 v3 v4 v e; unfold F208_0 at e; cases e
  | succ n hk0 =>
    intro v1 v2 v3 v4 v e
    unfold F208_0 at e
    rcases zI_s e with ⟨q1, e⟩ | ⟨q1, e⟩
    · refine zF_blk (m := []) (d := 1) (b := B208_10) (gs := [0 ≤ 6 ∧ 6 < 2140, (h 14 6) ≤ v4]) (c' := (74, [some (22, 0), some (0, v1), some (0, v2), some (0, v3), some (0, v4), none], [], (hc, h, o))) K208_10 rfl ⟨by decide, q1, trivial⟩ ?_
      refine zF_blk (m := []) (d := 0) (b := B208_1) (gs := []) (c' := (75, [some (22, 0), some (0, v1), some (0, v2), some (0, v3), some (0, v4), none], [(0, v2)], (hc, h, o))) K208_1 rfl trivial ?_
      obtain rfl := Option.some.inj e
      exact zF_ri (zRe1_w (by decide +kernel))
    · refine zF_blk (m := []) (d := 0) (b := B208_10) (gs := [0 ≤ 6 ∧ 6 < 2140, ¬ ((h 14 6) ≤ v4)]) (c' := (19, [some (22, 0), some (0, v1), some (0, v2), some (0, v3), some (0, v4), none], [], (hc, h, o))) K208_10 rfl ⟨by decide, q1, trivial⟩ ?_
      obtain ⟨q2, e⟩ := zG_s e
      refine zF_blk (m := []) (d := 0) (b := B208_2) (gs := []) (c' := (29, [some (22, 0), some (0, v1), some (0, v2), some (0, v3), some (0, v4), none], [(0, v4), (0, 2), (0, 197), (1344370422, 0)], (hc, h, o))) K208_2 rfl trivial ?_
      refine zF_blk (m := []) (d := 0) (b := B208_3) (gs := []) (c' := (30, [some (22, 0), some (0, v1), some (0, v2), some (0, v3), some (0, v4), none], [(0, (wmul 2 v4)), (0, 197), (1344370422, 0)], (hc, h, o))) K208_3 rfl trivial ?_
      rcases zI_s e with ⟨q3, e⟩ | ⟨q3, e⟩
      · refine zF_blk (m := []) (d := 1) (b := B208_9) (gs := [0 ≤ (wadd 197 (wmul 2 v4)) ∧ (wadd 197 (wmul 2 v4)) < 2140, v1 < (h 14 (wadd 197 (wmul 2 v4)))]) (c' := (68, [some (22, 0), some (0, v1), some (0, v2), some (0, v3), some (0, v4), some (0, (h 14 (wadd 197 (wmul 2 v4))))], [], (hc, h, o))) K208_9 rfl ⟨q2, q3, trivial⟩ ?_
        refine zF_blk (m := [true, true, true, true, true, false]) (d := 0) (b := []) (gs := []) (c' := (68, [some (22, 0), some (0, v1), some (0, v2), some (0, v3), some (0, v4), none], [], (hc, h, o))) rfl rfl trivial ?_
        exact T208_1 hd h (F208_0 h n) hk0 v1 v2 v3 v4 _ e
      · refine zF_blk (m := []) (d := 0) (b := B208_9) (gs := [0 ≤ (wadd 197 (wmul 2 v4)) ∧ (wadd 197 (wmul 2 v4)) < 2140, ¬ (v1 < (h 14 (wadd 197 (wmul 2 v4))))]) (c' := (40, [some (22, 0), some (0, v1), some (0, v2), some (0, v3), some (0, v4), some (0, (h 14 (wadd 197 (wmul 2 v4))))], [], (hc, h, o))) K208_9 rfl ⟨q2, q3, trivial⟩ ?_
        rcases zI_s e with ⟨q4, e⟩ | ⟨q4, e⟩
        · refine zF_blk (m := []) (d := 1) (b := B208_8) (gs := [v3 ≤ (h 14 (wadd 197 (wmul 2 v4)))]) (c' := (49, [some (22, 0), some (0, v1), some (0, v2), some (0, v3), some (0, v4), some (0, (h 14 (wadd 197 (wmul 2 v4))))], [], (hc, h, o))) K208_8 rfl ⟨q4, trivial⟩ ?_
          obtain ⟨q5, e⟩ := zG_s e
          refine zF_blk (m := []) (d := 0) (b := B208_4) (gs := []) (c' := (62, [some (22, 0), some (0, v1), some (0, v2), some (0, (h 14 (wadd 197 (wmul 2 v4)))), some (0, v4), some (0, (h 14 (wadd 197 (wmul 2 v4))))], [(0, v4), (0, 2), (0, 197), (1344370422, 0)], (hc, h, o))) K208_4 rfl trivial ?_
          refine zF_blk (m := []) (d := 0) (b := B208_5) (gs := []) (c' := (63, [some (22, 0), some (0, v1), some (0, v2), some (0, (h 14 (wadd 197 (wmul 2 v4)))), some (0, v4), some (0, (h 14 (wadd 197 (wmul 2 v4))))], [(0, (wmul 2 v4)), (0, 197), (1344370422, 0)], (hc, h, o))) K208_5 rfl trivial ?_
          refine zF_blk (m := []) (d := 0) (b := B208_6) (gs := [0 ≤ (wadd (wadd 197 (wmul 2 v4)) 1) ∧ (wadd (wadd 197 (wmul 2 v4)) 1) < 2140]) (c' := (68, [some (22, 0), some (0, v1), some (0, (h 14 (wadd (wadd 197 (wmul 2 v4)) 1))), some (0, (h 14 (wadd 197 (wmul 2 v4)))), some (0, v4), some (0, (h 14 (wadd 197 (wmul 2 v4))))], [], (hc, h, o))) K208_6 rfl ⟨q5, trivial⟩ ?_
          refine zF_blk (m := [true, true, true, true, true, false]) (d := 0) (b := []) (gs := []) (c' := (68, [some (22, 0), some (0, v1), some (0, (h 14 (wadd (wadd 197 (wmul 2 v4)) 1))), some (0, (h 14 (wadd 197 (wmul 2 v4)))), some (0, v4), none], [], (hc, h, o))) rfl rfl trivial ?_
          exact T208_1 hd h (F208_0 h n) hk0 v1 (h 14 (wadd (wadd 197 (wmul 2 v4)) 1)) (h 14 (wadd 197 (wmul 2 v4))) v4 _ e
        · refine zF_blk (m := []) (d := 0) (b := B208_8) (gs := [¬ (v3 ≤ (h 14 (wadd 197 (wmul 2 v4))))]) (c' := (46, [some (22, 0), some (0, v1), some (0, v2), some (0, v3), some (0, v4), some (0, (h 14 (wadd 197 (wmul 2 v4))))], [], (hc, h, o))) K208_8 rfl ⟨q4, trivial⟩ ?_
          refine zF_blk (m := []) (d := 0) (b := B208_7) (gs := []) (c' := (68, [some (22, 0), some (0, v1), some (0, v2), some (0, v3), some (0, v4), some (0, (h 14 (wadd 197 (wmul 2 v4))))], [], (hc, h, o))) K208_7 rfl trivial ?_
          refine zF_blk (m := [true, true, true, true, true, false]) (d := 0) (b := []) (gs := []) (c' := (68, [some (22, 0), some (0, v1), some (0, v2), some (0, v3), some (0, v4), none], [], (hc, h, o))) rfl rfl trivial ?_
          exact T208_1 hd h (F208_0 h n) hk0 v1 v2 v3 v4 _ e
/-- EchoValeModel.snowAt(I)I -/
def F208 (v1 : Int) (h : zHM) : Option Int := F208_0 h zFu v1 0 (-1) 0
set_option maxRecDepth 100000 in
theorem S208 {spec : zRn zH2} {hc : zHC} {o : Int → Int} {d : Nat} (hd : 1 ≤ d) (v1 : Int) (h : zHM) (v : Int) (e : F208 v1 h = some v) : zRu2 spec d 208 [(22, 0), (0, v1)] (hc, h, o) (some (0, v)) (hc, h, o) := by
  refine zF_in (D := 0) (mx := 6) (L := [some (22, 0), some (0, v1), none, none, none, none]) (by decide +kernel) rfl rfl hd (fun d hd => ?_)
  unfold F208 at e
  refine zF_blk (m := []) (d := 0) (b := B208_0) (gs := []) (c' := (7, [some (22, 0), some (0, v1), some (0, 0), some (0, (-1)), some (0, 0), none], [], (hc, h, o))) K208_0 rfl trivial ?_
  exact T208_0 hd h zFu v1 0 (-1) 0 _ e
noncomputable def B206_0 : List zRow := [(0, .aload_n 0, 1, (0, 0, 0)), (1, .iconst 1, 1, (0, 0, 0)), (2, .putfield 81, 3, (12, 0, 0)), (5, .iconst 0, 1, (0, 0, 0))]
theorem K206_0 : zRk 206 B206_0 = true := zRw_ok (by decide +kernel)
/-- EchoValeModel.refuse()I -/
def F206 (h : zHM) : Option (Int × zHM) := some (0, (mset h 0 0 1))
set_option maxRecDepth 100000 in
theorem S206 {spec : zRn zH2} {hc : zHC} {o : Int → Int} {d : Nat} (hd : 1 ≤ d) (h : zHM) (v : (Int × zHM)) (e : F206 h = some v) : zRu2 spec d 206 [(22, 0)] (hc, h, o) (some (0, v.1)) (hc, v.2, o) := by
  refine zF_in (D := 0) (mx := 1) (L := [some (22, 0)]) (by decide +kernel) rfl rfl hd (fun d hd => ?_)
  unfold F206 at e
  refine zF_blk (m := []) (d := 0) (b := B206_0) (gs := []) (c' := (6, [some (22, 0)], [(0, 0)], (hc, (mset h 0 0 1), o))) K206_0 rfl trivial ?_
  exact zF_riM (zRe1_w (by decide +kernel)) e
noncomputable def B204_0 : List zRow := [(0, .aload_n 0, 1, (0, 0, 0)), (1, .iload_n 1, 1, (0, 0, 0))]
theorem K204_0 : zRk 204 B204_0 = true := zRw_ok (by decide +kernel)
noncomputable def B204_1 : List zRow := [(8, .iload_n 2, 1, (0, 0, 0)), (9, .iconst 0, 1, (0, 0, 0)), (10, .iconst 3, 1, (0, 0, 0))]
theorem K204_1 : zRk 204 B204_1 = true := zRw_ok (by decide +kernel)
noncomputable def B204_2 : List zRow := [(22, .aload_n 0, 1, (0, 0, 0)), (23, .iconst 0, 1, (0, 0, 0)), (24, .putfield 81, 3, (12, 0, 0)), (27, .aload_n 0, 1, (0, 0, 0)), (28, .iload_n 1, 1, (0, 0, 0))]
theorem K204_2 : zRk 204 B204_2 = true := zRw_ok (by decide +kernel)
noncomputable def B204_3 : List zRow := [(32, .aload_n 0, 1, (0, 0, 0)), (33, .aload_n 0, 1, (0, 0, 0)), (34, .getfield 13, 3, (12, 14, 5251442)), (37, .sipush 209, 3, (0, 0, 0)), (40, .iaload, 1, (0, 0, 0))]
theorem K204_3 : zRk 204 B204_3 = true := zRw_ok (by decide +kernel)
noncomputable def B204_4 : List zRow := [(75, .iload_n 3, 1, (0, 0, 0))]
theorem K204_4 : zRk 204 B204_4 = true := zRw_ok (by decide +kernel)
noncomputable def B204_5 : List zRow := [(71, .iconst 0, 1, (0, 0, 0)), (72, .goto 4, 3, (0, 0, 0))]
theorem K204_5 : zRk 204 B204_5 = true := zRw_ok (by decide +kernel)
noncomputable def B204_6 : List zRow := [(67, .iload_n 3, 1, (0, 0, 0)), (68, .ifCond .ge 7, 3, (0, 0, 0))]
theorem K204_6 : zRk 204 B204_6 = true := zRw_ok (by decide +kernel)
noncomputable def B204_7 : List zRow := [(51, .aload_n 0, 1, (0, 0, 0)), (52, .getfield 13, 3, (12, 14, 5251442)), (55, .bipush 7, 2, (0, 0, 0)), (57, .iconst 3, 1, (0, 0, 0)), (58, .iload_n 1, 1, (0, 0, 0))]
theorem K204_7 : zRk 204 B204_7 = true := zRw_ok (by decide +kernel)
noncomputable def B204_8 : List zRow := [(59, .imul, 1, (0, 0, 0))]
theorem K204_8 : zRk 204 B204_8 = true := zRw_ok (by decide +kernel)
noncomputable def B204_9 : List zRow := [(60, .iadd, 1, (0, 0, 0)), (61, .iload_n 2, 1, (0, 0, 0)), (62, .iadd, 1, (0, 0, 0)), (63, .iaload, 1, (0, 0, 0)), (64, .goto 12, 3, (0, 0, 0))]
theorem K204_9 : zRk 204 B204_9 = true := zRw_ok (by decide +kernel)
noncomputable def B204_10 : List zRow := [(44, .isub, 1, (0, 0, 0)), (45, .istore_n 3, 1, (0, 0, 0)), (46, .iload_n 2, 1, (0, 0, 0)), (47, .iconst 3, 1, (0, 0, 0)), (48, .if_icmp .ge 19, 3, (0, 0, 0))]
theorem K204_10 : zRk 204 B204_10 = true := zRw_ok (by decide +kernel)
noncomputable def B204_11 : List zRow := [(14, .ifCond .ne 8, 3, (0, 0, 0))]
theorem K204_11 : zRk 204 B204_11 = true := zRw_ok (by decide +kernel)
noncomputable def B204_12 : List zRow := [(5, .ifCond .eq 12, 3, (0, 0, 0))]
theorem K204_12 : zRk 204 B204_12 = true := zRw_ok (by decide +kernel)
noncomputable def B204_13 : List zRow := [(17, .aload_n 0, 1, (0, 0, 0))]
theorem K204_13 : zRk 204 B204_13 = true := zRw_ok (by decide +kernel)
def F204_0 (h : zHM) : Option (Int × zHM) := (F206 h).bind fun r1 => some (r1.1, r1.2)
set_option maxRecDepth 100000 in
theorem T204_0 {spec : zRn zH2} {hc : zHC} {o : Int → Int} {d : Nat} (hd : 1 ≤ d) (h : zHM) (v : (Int × zHM)) (e : F204_0 h = some v) : zFin 0 (fun _ => 0) (zRu2 spec d) 204 (some (0, v.1)) (hc, v.2, o) (17, [some (22, 0), none, none, none], [], (hc, h, o)) := by
  unfold F204_0 at e
  obtain ⟨r1, q1, e⟩ := zB_s e
  refine zF_blk (m := []) (d := 0) (b := B204_13) (gs := []) (c' := (18, [some (22, 0), none, none, none], [(22, 0)], (hc, h, o))) K204_13 rfl trivial ?_
  refine zF_call (k := 206) (cl := 12) (n := 1) (i := .invokevirtual 238) (args := [(22, 0)]) (rest := []) (g1 := (hc, r1.2, o)) (r1 := some (0, r1.1)) (zCk1_w (by decide +kernel)) rfl rfl rfl (st' := [(0, r1.1)]) rfl (S206 (Nat.le_trans (by decide) hd)  h _ q1) ?_
  exact zF_riM (zRe1_w (by decide +kernel)) e
/-- EchoValeModel.cliff(II)I -/
def F204 (v1 : Int) (v2 : Int) (h : zHM) : Option (Int × zHM) := (F205 v1 h).bind fun r1 => if r1 = 0 then F204_0 h else (F188 v2 0 3).bind fun r2 => if ¬ r2 = 0 then (F207 v1 (mset h 0 0 0)).bind fun r3 => (F208 (h 14 209) (mset h 0 0 0)).bind fun r4 => if 3 ≤ v2 then if 0 ≤ (wsub r3 r4) then some ((wsub r3 r4), (mset h 0 0 0)) else some (0, (mset h 0 0 0)) else zG (0 ≤ (wadd (wadd 7 (wmul 3 v1)) v2) ∧ (wadd (wadd 7 (wmul 3 v1)) v2) < 2140) (some ((h 14 (wadd (wadd 7 (wmul 3 v1)) v2)), (mset h 0 0 0))) else F204_0 h
set_option maxRecDepth 100000 in
theorem S204 {spec : zRn zH2} {hc : zHC} {o : Int → Int} {d : Nat} (hd : 2 ≤ d) (v1 : Int) (v2 : Int) (h : zHM) (v : (Int × zHM)) (e : F204 v1 v2 h = some v) : zRu2 spec d 204 [(22, 0), (0, v1), (0, v2)] (hc, h, o) (some (0, v.1)) (hc, v.2, o) := by
  refine zF_in (D := 1) (mx := 4) (L := [some (22, 0), some (0, v1), some (0, v2), none]) (by decide +kernel) rfl rfl hd (fun d hd => ?_)
  unfold F204 at e
  obtain ⟨r1, q1, e⟩ := zB_s e
  refine zF_blk (m := []) (d := 0) (b := B204_0) (gs := []) (c' := (2, [some (22, 0), some (0, v1), some (0, v2), none], [(0, v1), (22, 0)], (hc, h, o))) K204_0 rfl trivial ?_
  refine zF_call (k := 205) (cl := 12) (n := 2) (i := .invokevirtual 235) (args := [(22, 0), (0, v1)]) (rest := []) (g1 := (hc, h, o)) (r1 := some (0, r1)) (zCk1_w (by decide +kernel)) rfl rfl rfl (st' := [(0, r1)]) rfl (S205 (Nat.le_trans (by decide) hd) v1 h _ q1) ?_
  rcases zI_s e with ⟨q2, e⟩ | ⟨q2, e⟩
  · refine zF_blk (m := []) (d := 1) (b := B204_12) (gs := [r1 = 0]) (c' := (17, [some (22, 0), some (0, v1), some (0, v2), none], [], (hc, h, o))) K204_12 rfl ⟨q2, trivial⟩ ?_
    refine zF_blk (m := [true, false, false, false]) (d := 0) (b := []) (gs := []) (c' := (17, [some (22, 0), none, none, none], [], (hc, h, o))) rfl rfl trivial ?_
    exact T204_0 hd h _ e
  · refine zF_blk (m := []) (d := 0) (b := B204_12) (gs := [¬ (r1 = 0)]) (c' := (8, [some (22, 0), some (0, v1), some (0, v2), none], [], (hc, h, o))) K204_12 rfl ⟨q2, trivial⟩ ?_
    obtain ⟨r2, q3, e⟩ := zB_s e
    refine zF_blk (m := []) (d := 0) (b := B204_1) (gs := []) (c' := (11, [some (22, 0), some (0, v1), some (0, v2), none], [(0, 3), (0, 0), (0, v2)], (hc, h, o))) K204_1 rfl trivial ?_
    refine zF_call (k := 188) (cl := 12) (n := 3) (i := .invokestatic 151) (args := [(0, v2), (0, 0), (0, 3)]) (rest := []) (g1 := (hc, h, o)) (r1 := some (0, r2)) (zCk1_w (by decide +kernel)) rfl rfl rfl (st' := [(0, r2)]) rfl (S188 (Nat.le_trans (by decide) hd) v2 0 3 h _ q3) ?_
    rcases zI_s e with ⟨q4, e⟩ | ⟨q4, e⟩
    · refine zF_blk (m := []) (d := 1) (b := B204_11) (gs := [¬ r2 = 0]) (c' := (22, [some (22, 0), some (0, v1), some (0, v2), none], [], (hc, h, o))) K204_11 rfl ⟨q4, trivial⟩ ?_
      obtain ⟨r3, q5, e⟩ := zB_s e
      refine zF_blk (m := []) (d := 0) (b := B204_2) (gs := []) (c' := (29, [some (22, 0), some (0, v1), some (0, v2), none], [(0, v1), (22, 0)], (hc, (mset h 0 0 0), o))) K204_2 rfl trivial ?_
      refine zF_call (k := 207) (cl := 12) (n := 2) (i := .invokevirtual 241) (args := [(22, 0), (0, v1)]) (rest := []) (g1 := (hc, (mset h 0 0 0), o)) (r1 := some (0, r3)) (zCk1_w (by decide +kernel)) rfl rfl rfl (st' := [(0, r3)]) rfl (S207 (Nat.le_trans (by decide) hd) v1 (mset h 0 0 0) _ q5) ?_
      obtain ⟨r4, q6, e⟩ := zB_s e
      refine zF_blk (m := []) (d := 0) (b := B204_3) (gs := [0 ≤ 209 ∧ 209 < 2140]) (c' := (41, [some (22, 0), some (0, v1), some (0, v2), none], [(0, (h 14 209)), (22, 0), (0, r3)], (hc, (mset h 0 0 0), o))) K204_3 rfl ⟨by decide, trivial⟩ ?_
      refine zF_call (k := 208) (cl := 12) (n := 2) (i := .invokevirtual 244) (args := [(22, 0), (0, (h 14 209))]) (rest := [(0, r3)]) (g1 := (hc, (mset h 0 0 0), o)) (r1 := some (0, r4)) (zCk1_w (by decide +kernel)) rfl rfl rfl (st' := [(0, r4), (0, r3)]) rfl (S208 (Nat.le_trans (by decide) hd) (h 14 209) (mset h 0 0 0) _ q6) ?_
      rcases zI_s e with ⟨q7, e⟩ | ⟨q7, e⟩
      · refine zF_blk (m := []) (d := 1) (b := B204_10) (gs := [3 ≤ v2]) (c' := (67, [some (22, 0), some (0, v1), some (0, v2), some (0, (wsub r3 r4))], [], (hc, (mset h 0 0 0), o))) K204_10 rfl ⟨q7, trivial⟩ ?_
        rcases zI_s e with ⟨q8, e⟩ | ⟨q8, e⟩
        · refine zF_blk (m := []) (d := 1) (b := B204_6) (gs := [0 ≤ (wsub r3 r4)]) (c' := (75, [some (22, 0), some (0, v1), some (0, v2), some (0, (wsub r3 r4))], [], (hc, (mset h 0 0 0), o))) K204_6 rfl ⟨q8, trivial⟩ ?_
          refine zF_blk (m := []) (d := 0) (b := B204_4) (gs := []) (c' := (76, [some (22, 0), some (0, v1), some (0, v2), some (0, (wsub r3 r4))], [(0, (wsub r3 r4))], (hc, (mset h 0 0 0), o))) K204_4 rfl trivial ?_
          exact zF_riM (zRe1_w (by decide +kernel)) e
        · refine zF_blk (m := []) (d := 0) (b := B204_6) (gs := [¬ (0 ≤ (wsub r3 r4))]) (c' := (71, [some (22, 0), some (0, v1), some (0, v2), some (0, (wsub r3 r4))], [], (hc, (mset h 0 0 0), o))) K204_6 rfl ⟨q8, trivial⟩ ?_
          refine zF_blk (m := []) (d := 0) (b := B204_5) (gs := []) (c' := (76, [some (22, 0), some (0, v1), some (0, v2), some (0, (wsub r3 r4))], [(0, 0)], (hc, (mset h 0 0 0), o))) K204_5 rfl trivial ?_
          exact zF_riM (zRe1_w (by decide +kernel)) e
      · refine zF_blk (m := []) (d := 0) (b := B204_10) (gs := [¬ (3 ≤ v2)]) (c' := (51, [some (22, 0), some (0, v1), some (0, v2), some (0, (wsub r3 r4))], [], (hc, (mset h 0 0 0), o))) K204_10 rfl ⟨q7, trivial⟩ ?_
        obtain ⟨q9, e⟩ := zG_s e
        refine zF_blk (m := []) (d := 0) (b := B204_7) (gs := []) (c' := (59, [some (22, 0), some (0, v1), some (0, v2), some (0, (wsub r3 r4))], [(0, v1), (0, 3), (0, 7), (1344370422, 0)], (hc, (mset h 0 0 0), o))) K204_7 rfl trivial ?_
        refine zF_blk (m := []) (d := 0) (b := B204_8) (gs := []) (c' := (60, [some (22, 0), some (0, v1), some (0, v2), some (0, (wsub r3 r4))], [(0, (wmul 3 v1)), (0, 7), (1344370422, 0)], (hc, (mset h 0 0 0), o))) K204_8 rfl trivial ?_
        refine zF_blk (m := []) (d := 0) (b := B204_9) (gs := [0 ≤ (wadd (wadd 7 (wmul 3 v1)) v2) ∧ (wadd (wadd 7 (wmul 3 v1)) v2) < 2140]) (c' := (76, [some (22, 0), some (0, v1), some (0, v2), some (0, (wsub r3 r4))], [(0, (h 14 (wadd (wadd 7 (wmul 3 v1)) v2)))], (hc, (mset h 0 0 0), o))) K204_9 rfl ⟨q9, trivial⟩ ?_
        exact zF_riM (zRe1_w (by decide +kernel)) e
    · refine zF_blk (m := []) (d := 0) (b := B204_11) (gs := [¬ (¬ r2 = 0)]) (c' := (17, [some (22, 0), some (0, v1), some (0, v2), none], [], (hc, h, o))) K204_11 rfl ⟨q4, trivial⟩ ?_
      refine zF_blk (m := [true, false, false, false]) (d := 0) (b := []) (gs := []) (c' := (17, [some (22, 0), none, none, none], [], (hc, h, o))) rfl rfl trivial ?_
      exact T204_0 hd h _ e
noncomputable def B210_0 : List zRow := [(18, .iconst 0, 1, (0, 0, 0))]
theorem K210_0 : zRk 210 B210_0 = true := zRw_ok (by decide +kernel)
noncomputable def B210_1 : List zRow := [(14, .iconst 1, 1, (0, 0, 0)), (15, .goto 4, 3, (0, 0, 0))]
theorem K210_1 : zRk 210 B210_1 = true := zRw_ok (by decide +kernel)
noncomputable def B210_2 : List zRow := [(4, .iload_n 1, 1, (0, 0, 0)), (5, .aload_n 0, 1, (0, 0, 0)), (6, .getfield 13, 3, (12, 14, 5251442)), (9, .iconst 3, 1, (0, 0, 0)), (10, .iaload, 1, (0, 0, 0)), (11, .if_icmp .ge 7, 3, (0, 0, 0))]
theorem K210_2 : zRk 210 B210_2 = true := zRw_ok (by decide +kernel)
noncomputable def B210_3 : List zRow := [(0, .iload_n 1, 1, (0, 0, 0)), (1, .ifCond .lt 17, 3, (0, 0, 0))]
theorem K210_3 : zRk 210 B210_3 = true := zRw_ok (by decide +kernel)
/-- EchoValeModel.isPerson(I)Z -/
def F210 (v1 : Int) (h : zHM) : Option Int := if v1 < 0 then some 0 else if (h 14 3) ≤ v1 then some 0 else some 1
set_option maxRecDepth 100000 in
theorem S210 {spec : zRn zH2} {hc : zHC} {o : Int → Int} {d : Nat} (hd : 1 ≤ d) (v1 : Int) (h : zHM) (v : Int) (e : F210 v1 h = some v) : zRu2 spec d 210 [(22, 0), (0, v1)] (hc, h, o) (some (0, v)) (hc, h, o) := by
  refine zF_in (D := 0) (mx := 2) (L := [some (22, 0), some (0, v1)]) (by decide +kernel) rfl rfl hd (fun d hd => ?_)
  unfold F210 at e
  rcases zI_s e with ⟨q1, e⟩ | ⟨q1, e⟩
  · refine zF_blk (m := []) (d := 1) (b := B210_3) (gs := [v1 < 0]) (c' := (18, [some (22, 0), some (0, v1)], [], (hc, h, o))) K210_3 rfl ⟨q1, trivial⟩ ?_
    refine zF_blk (m := []) (d := 0) (b := B210_0) (gs := []) (c' := (19, [some (22, 0), some (0, v1)], [(0, 0)], (hc, h, o))) K210_0 rfl trivial ?_
    obtain rfl := Option.some.inj e
    exact zF_rb (zRe1_w (by decide +kernel)) (Or.inl rfl)
  · refine zF_blk (m := []) (d := 0) (b := B210_3) (gs := [¬ (v1 < 0)]) (c' := (4, [some (22, 0), some (0, v1)], [], (hc, h, o))) K210_3 rfl ⟨q1, trivial⟩ ?_
    rcases zI_s e with ⟨q2, e⟩ | ⟨q2, e⟩
    · refine zF_blk (m := []) (d := 1) (b := B210_2) (gs := [0 ≤ 3 ∧ 3 < 2140, (h 14 3) ≤ v1]) (c' := (18, [some (22, 0), some (0, v1)], [], (hc, h, o))) K210_2 rfl ⟨by decide, q2, trivial⟩ ?_
      refine zF_blk (m := []) (d := 0) (b := B210_0) (gs := []) (c' := (19, [some (22, 0), some (0, v1)], [(0, 0)], (hc, h, o))) K210_0 rfl trivial ?_
      obtain rfl := Option.some.inj e
      exact zF_rb (zRe1_w (by decide +kernel)) (Or.inl rfl)
    · refine zF_blk (m := []) (d := 0) (b := B210_2) (gs := [0 ≤ 3 ∧ 3 < 2140, ¬ ((h 14 3) ≤ v1)]) (c' := (14, [some (22, 0), some (0, v1)], [], (hc, h, o))) K210_2 rfl ⟨by decide, q2, trivial⟩ ?_
      refine zF_blk (m := []) (d := 0) (b := B210_1) (gs := []) (c' := (19, [some (22, 0), some (0, v1)], [(0, 1)], (hc, h, o))) K210_1 rfl trivial ?_
      obtain rfl := Option.some.inj e
      exact zF_rb (zRe1_w (by decide +kernel)) (Or.inr rfl)
noncomputable def B213_0 : List zRow := [(0, .aload_n 0, 1, (0, 0, 0)), (1, .getfield 13, 3, (12, 14, 5251442)), (4, .sipush 217, 3, (0, 0, 0)), (7, .bipush 8, 2, (0, 0, 0)), (9, .iload_n 1, 1, (0, 0, 0))]
theorem K213_0 : zRk 213 B213_0 = true := zRw_ok (by decide +kernel)
noncomputable def B213_1 : List zRow := [(10, .imul, 1, (0, 0, 0))]
theorem K213_1 : zRk 213 B213_1 = true := zRw_ok (by decide +kernel)
noncomputable def B213_2 : List zRow := [(11, .iadd, 1, (0, 0, 0)), (12, .iload_n 2, 1, (0, 0, 0)), (13, .iadd, 1, (0, 0, 0)), (14, .iaload, 1, (0, 0, 0))]
theorem K213_2 : zRk 213 B213_2 = true := zRw_ok (by decide +kernel)
/-- EchoValeModel.of(II)I -/
def F213 (v1 : Int) (v2 : Int) (h : zHM) : Option Int := zG (0 ≤ (wadd (wadd 217 (wmul 8 v1)) v2) ∧ (wadd (wadd 217 (wmul 8 v1)) v2) < 2140) (some (h 14 (wadd (wadd 217 (wmul 8 v1)) v2)))
set_option maxRecDepth 100000 in
theorem S213 {spec : zRn zH2} {hc : zHC} {o : Int → Int} {d : Nat} (hd : 1 ≤ d) (v1 : Int) (v2 : Int) (h : zHM) (v : Int) (e : F213 v1 v2 h = some v) : zRu2 spec d 213 [(22, 0), (0, v1), (0, v2)] (hc, h, o) (some (0, v)) (hc, h, o) := by
  refine zF_in (D := 0) (mx := 3) (L := [some (22, 0), some (0, v1), some (0, v2)]) (by decide +kernel) rfl rfl hd (fun d hd => ?_)
  unfold F213 at e
  obtain ⟨q1, e⟩ := zG_s e
  refine zF_blk (m := []) (d := 0) (b := B213_0) (gs := []) (c' := (10, [some (22, 0), some (0, v1), some (0, v2)], [(0, v1), (0, 8), (0, 217), (1344370422, 0)], (hc, h, o))) K213_0 rfl trivial ?_
  refine zF_blk (m := []) (d := 0) (b := B213_1) (gs := []) (c' := (11, [some (22, 0), some (0, v1), some (0, v2)], [(0, (wmul 8 v1)), (0, 217), (1344370422, 0)], (hc, h, o))) K213_1 rfl trivial ?_
  refine zF_blk (m := []) (d := 0) (b := B213_2) (gs := [0 ≤ (wadd (wadd 217 (wmul 8 v1)) v2) ∧ (wadd (wadd 217 (wmul 8 v1)) v2) < 2140]) (c' := (15, [some (22, 0), some (0, v1), some (0, v2)], [(0, (h 14 (wadd (wadd 217 (wmul 8 v1)) v2)))], (hc, h, o))) K213_2 rfl ⟨q1, trivial⟩ ?_
  obtain rfl := Option.some.inj e
  exact zF_ri (zRe1_w (by decide +kernel))
noncomputable def B214_0 : List zRow := [(13, .iconst 0, 1, (0, 0, 0))]
theorem K214_0 : zRk 214 B214_0 = true := zRw_ok (by decide +kernel)
noncomputable def B214_1 : List zRow := [(9, .iconst 1, 1, (0, 0, 0)), (10, .goto 4, 3, (0, 0, 0))]
theorem K214_1 : zRk 214 B214_1 = true := zRw_ok (by decide +kernel)
noncomputable def B214_2 : List zRow := [(0, .iload_n 0, 1, (0, 0, 0)), (1, .iload_n 1, 1, (0, 0, 0)), (2, .ishr, 1, (0, 0, 0)), (3, .iconst 1, 1, (0, 0, 0)), (4, .iand, 1, (0, 0, 0)), (5, .iconst 1, 1, (0, 0, 0)), (6, .if_icmp .ne 7, 3, (0, 0, 0))]
theorem K214_2 : zRk 214 B214_2 = true := zRw_ok (by decide +kernel)
/-- EchoValeModel.has(II)Z -/
def F214 (v0 : Int) (v1 : Int) : Option Int := if ¬ (wand (wshr v0 v1) 1) = 1 then some 0 else some 1
set_option maxRecDepth 100000 in
theorem S214 {spec : zRn zH2} {hc : zHC} {o : Int → Int} {d : Nat} (hd : 1 ≤ d) (v0 : Int) (v1 : Int) (h : zHM) (v : Int) (e : F214 v0 v1 = some v) : zRu2 spec d 214 [(0, v0), (0, v1)] (hc, h, o) (some (0, v)) (hc, h, o) := by
  refine zF_in (D := 0) (mx := 2) (L := [some (0, v0), some (0, v1)]) (by decide +kernel) rfl rfl hd (fun d hd => ?_)
  unfold F214 at e
  rcases zI_s e with ⟨q1, e⟩ | ⟨q1, e⟩
  · refine zF_blk (m := []) (d := 1) (b := B214_2) (gs := [¬ (wand (wshr v0 v1) 1) = 1]) (c' := (13, [some (0, v0), some (0, v1)], [], (hc, h, o))) K214_2 rfl ⟨q1, trivial⟩ ?_
    refine zF_blk (m := []) (d := 0) (b := B214_0) (gs := []) (c' := (14, [some (0, v0), some (0, v1)], [(0, 0)], (hc, h, o))) K214_0 rfl trivial ?_
    obtain rfl := Option.some.inj e
    exact zF_rb (zRe1_w (by decide +kernel)) (Or.inl rfl)
  · refine zF_blk (m := []) (d := 0) (b := B214_2) (gs := [¬ (¬ (wand (wshr v0 v1) 1) = 1)]) (c' := (9, [some (0, v0), some (0, v1)], [], (hc, h, o))) K214_2 rfl ⟨q1, trivial⟩ ?_
    refine zF_blk (m := []) (d := 0) (b := B214_1) (gs := []) (c' := (14, [some (0, v0), some (0, v1)], [(0, 1)], (hc, h, o))) K214_1 rfl trivial ?_
    obtain rfl := Option.some.inj e
    exact zF_rb (zRe1_w (by decide +kernel)) (Or.inr rfl)
noncomputable def B215_0 : List zRow := [(0, .iconst 0, 1, (0, 0, 0)), (1, .istore_n 1, 1, (0, 0, 0)), (2, .iload_n 0, 1, (0, 0, 0)), (3, .istore_n 2, 1, (0, 0, 0))]
theorem K215_0 : zRk 215 B215_0 = true := zRw_ok (by decide +kernel)
noncomputable def B215_1 : List zRow := [(20, .iload_n 1, 1, (0, 0, 0))]
theorem K215_1 : zRk 215 B215_1 = true := zRw_ok (by decide +kernel)
noncomputable def B215_2 : List zRow := [(8, .iinc 1 1, 3, (0, 0, 0)), (11, .iload_n 2, 1, (0, 0, 0)), (12, .iload_n 2, 1, (0, 0, 0)), (13, .iconst 1, 1, (0, 0, 0)), (14, .isub, 1, (0, 0, 0)), (15, .iand, 1, (0, 0, 0)), (16, .istore_n 2, 1, (0, 0, 0)), (17, .goto (-13), 3, (0, 0, 0))]
theorem K215_2 : zRk 215 B215_2 = true := zRw_ok (by decide +kernel)
noncomputable def B215_3 : List zRow := [(4, .iload_n 2, 1, (0, 0, 0)), (5, .ifCond .eq 15, 3, (0, 0, 0))]
theorem K215_3 : zRk 215 B215_3 = true := zRw_ok (by decide +kernel)
def F215_0 : Nat → Int → Int → Option Int
  | 0, _, _ => none
  | n + 1, v1, v2 => if v2 = 0 then some v1 else (F215_0 n) (wadd v1 1) (wand v2 (wsub v2 1))
set_option maxRecDepth 100000 in
theorem T215_0 {spec : zRn zH2} {hc : zHC} {o : Int → Int} {d : Nat} (hd : 0 ≤ d) (h : zHM) : ∀ (n : Nat) (v1 : Int) (v2 : Int) (v : Int), F215_0 n v1 v2 = some v → zFin 0 (fun _ => 0) (zRu2 spec d) 215 (some (0, v)) (hc, h, o) (4, [none, some (0, v1), some (0, v2)], [], (hc, h, o)) := by
  intro n
  induction n with
  | zero => intro v1 v2 v e; unfold F215_0 at e; cases e
  | succ n hk0 =>
    intro v1 v2 v e
    unfold F215_0 at e
    rcases zI_s e with ⟨q1, e⟩ | ⟨q1, e⟩
    · refine zF_blk (m := []) (d := 1) (b := B215_3) (gs := [v2 = 0]) (c' := (20, [none, some (0, v1), some (0, v2)], [], (hc, h, o))) K215_3 rfl ⟨q1, trivial⟩ ?_
      refine zF_blk (m := []) (d := 0) (b := B215_1) (gs := []) (c' := (21, [none, some (0, v1), some (0, v2)], [(0, v1)], (hc, h, o))) K215_1 rfl trivial ?_
      obtain rfl := Option.some.inj e
      exact zF_ri (zRe1_w (by decide +kernel))
    · refine zF_blk (m := []) (d := 0) (b := B215_3) (gs := [¬ (v2 = 0)]) (c' := (8, [none, some (0, v1), some (0, v2)], [], (hc, h, o))) K215_3 rfl ⟨q1, trivial⟩ ?_
      refine zF_blk (m := []) (d := 0) (b := B215_2) (gs := []) (c' := (4, [none, some (0, (wadd v1 1)), some (0, (wand v2 (wsub v2 1)))], [], (hc, h, o))) K215_2 rfl trivial ?_
      exact hk0 (wadd v1 1) (wand v2 (wsub v2 1)) _ e
/-- EchoValeModel.bits(I)I -/
def F215 (v0 : Int) : Option Int := F215_0 zFu 0 v0
set_option maxRecDepth 100000 in
theorem S215 {spec : zRn zH2} {hc : zHC} {o : Int → Int} {d : Nat} (hd : 1 ≤ d) (v0 : Int) (h : zHM) (v : Int) (e : F215 v0 = some v) : zRu2 spec d 215 [(0, v0)] (hc, h, o) (some (0, v)) (hc, h, o) := by
  refine zF_in (D := 0) (mx := 3) (L := [some (0, v0), none, none]) (by decide +kernel) rfl rfl hd (fun d hd => ?_)
  unfold F215 at e
  refine zF_blk (m := []) (d := 0) (b := B215_0) (gs := []) (c' := (4, [some (0, v0), some (0, 0), some (0, v0)], [], (hc, h, o))) K215_0 rfl trivial ?_
  refine zF_blk (m := [false, true, true]) (d := 0) (b := []) (gs := []) (c' := (4, [none, some (0, 0), some (0, v0)], [], (hc, h, o))) rfl rfl trivial ?_
  exact T215_0 hd h zFu 0 v0 _ e
noncomputable def B212_0 : List zRow := [(0, .aload_n 0, 1, (0, 0, 0)), (1, .iload_n 2, 1, (0, 0, 0)), (2, .iconst 5, 1, (0, 0, 0))]
theorem K212_0 : zRk 212 B212_0 = true := zRw_ok (by decide +kernel)
noncomputable def B212_1 : List zRow := [(6, .istore_n 3, 1, (0, 0, 0)), (7, .iload_n 3, 1, (0, 0, 0)), (8, .iload_n 1, 1, (0, 0, 0))]
theorem K212_1 : zRk 212 B212_1 = true := zRw_ok (by decide +kernel)
noncomputable def B212_2 : List zRow := [(17, .iload_n 3, 1, (0, 0, 0))]
theorem K212_2 : zRk 212 B212_2 = true := zRw_ok (by decide +kernel)
noncomputable def B212_3 : List zRow := [(21, .istore 4, 2, (0, 0, 0)), (23, .iload_n 3, 1, (0, 0, 0)), (24, .iconst 1, 1, (0, 0, 0)), (25, .iload_n 1, 1, (0, 0, 0)), (26, .ishl, 1, (0, 0, 0)), (27, .iconst 1, 1, (0, 0, 0)), (28, .isub, 1, (0, 0, 0)), (29, .iand, 1, (0, 0, 0))]
theorem K212_3 : zRk 212 B212_3 = true := zRw_ok (by decide +kernel)
noncomputable def B212_4 : List zRow := [(33, .istore 5, 2, (0, 0, 0)), (35, .aload_n 0, 1, (0, 0, 0)), (36, .iload_n 2, 1, (0, 0, 0)), (37, .iconst 0, 1, (0, 0, 0))]
theorem K212_4 : zRk 212 B212_4 = true := zRw_ok (by decide +kernel)
noncomputable def B212_5 : List zRow := [(41, .iload 4, 2, (0, 0, 0)), (43, .idiv, 1, (0, 0, 0)), (44, .iload 5, 2, (0, 0, 0)), (46, .aload_n 0, 1, (0, 0, 0)), (47, .iload_n 2, 1, (0, 0, 0)), (48, .iconst 0, 1, (0, 0, 0))]
theorem K212_5 : zRk 212 B212_5 = true := zRw_ok (by decide +kernel)
noncomputable def B212_6 : List zRow := [(62, .iconst 0, 1, (0, 0, 0))]
theorem K212_6 : zRk 212 B212_6 = true := zRw_ok (by decide +kernel)
noncomputable def B212_7 : List zRow := [(58, .iconst 1, 1, (0, 0, 0)), (59, .goto 4, 3, (0, 0, 0))]
theorem K212_7 : zRk 212 B212_7 = true := zRw_ok (by decide +kernel)
noncomputable def B212_8 : List zRow := [(52, .iload 4, 2, (0, 0, 0)), (54, .irem, 1, (0, 0, 0)), (55, .if_icmp .ge 7, 3, (0, 0, 0))]
theorem K212_8 : zRk 212 B212_8 = true := zRw_ok (by decide +kernel)
noncomputable def B212_9 : List zRow := [(15, .iconst 0, 1, (0, 0, 0))]
theorem K212_9 : zRk 212 B212_9 = true := zRw_ok (by decide +kernel)
noncomputable def B212_10 : List zRow := [(12, .ifCond .ne 5, 3, (0, 0, 0))]
theorem K212_10 : zRk 212 B212_10 = true := zRw_ok (by decide +kernel)
noncomputable def B212_11 : List zRow := [(63, .iadd, 1, (0, 0, 0))]
theorem K212_11 : zRk 212 B212_11 = true := zRw_ok (by decide +kernel)
def F212_0 (h : zHM) (s0 : Int) (s1 : Int) : Option Int := some (wadd s1 s0)
set_option maxRecDepth 100000 in
theorem T212_0 {spec : zRn zH2} {hc : zHC} {o : Int → Int} {d : Nat} (hd : 1 ≤ d) (h : zHM) (s0 : Int) (s1 : Int) (v : Int) (e : F212_0 h s0 s1 = some v) : zFin 0 (fun _ => 0) (zRu2 spec d) 212 (some (0, v)) (hc, h, o) (63, [none, none, none, none, none, none], [(0, s0), (0, s1)], (hc, h, o)) := by
  unfold F212_0 at e
  refine zF_blk (m := []) (d := 0) (b := B212_11) (gs := []) (c' := (64, [none, none, none, none, none, none], [(0, (wadd s1 s0))], (hc, h, o))) K212_11 rfl trivial ?_
  obtain rfl := Option.some.inj e
  exact zF_ri (zRe1_w (by decide +kernel))
/-- EchoValeModel.shareOf(II)I -/
def F212 (v1 : Int) (v2 : Int) (h : zHM) : Option Int := (F213 v2 5 h).bind fun r1 => (F214 r1 v1).bind fun r2 => if ¬ r2 = 0 then (F215 r1).bind fun r3 => (F215 (wand r1 (wsub (wshl 1 v1) 1))).bind fun r4 => (F213 v2 0 h).bind fun r5 => zG (¬ r3 = 0) ((F213 v2 0 h).bind fun r6 => zG (¬ r3 = 0) (if (wrem r6 r3) ≤ r4 then F212_0 h 0 (wdiv r5 r3) else F212_0 h 1 (wdiv r5 r3))) else some 0
set_option maxRecDepth 100000 in
theorem S212 {spec : zRn zH2} {hc : zHC} {o : Int → Int} {d : Nat} (hd : 2 ≤ d) (v1 : Int) (v2 : Int) (h : zHM) (v : Int) (e : F212 v1 v2 h = some v) : zRu2 spec d 212 [(22, 0), (0, v1), (0, v2)] (hc, h, o) (some (0, v)) (hc, h, o) := by
  refine zF_in (D := 1) (mx := 6) (L := [some (22, 0), some (0, v1), some (0, v2), none, none, none]) (by decide +kernel) rfl rfl hd (fun d hd => ?_)
  unfold F212 at e
  obtain ⟨r1, q1, e⟩ := zB_s e
  refine zF_blk (m := []) (d := 0) (b := B212_0) (gs := []) (c' := (3, [some (22, 0), some (0, v1), some (0, v2), none, none, none], [(0, 5), (0, v2), (22, 0)], (hc, h, o))) K212_0 rfl trivial ?_
  refine zF_call (k := 213) (cl := 12) (n := 3) (i := .invokevirtual 247) (args := [(22, 0), (0, v2), (0, 5)]) (rest := []) (g1 := (hc, h, o)) (r1 := some (0, r1)) (zCk1_w (by decide +kernel)) rfl rfl rfl (st' := [(0, r1)]) rfl (S213 (Nat.le_trans (by decide) hd) v2 5 h _ q1) ?_
  obtain ⟨r2, q2, e⟩ := zB_s e
  refine zF_blk (m := []) (d := 0) (b := B212_1) (gs := []) (c' := (9, [some (22, 0), some (0, v1), some (0, v2), some (0, r1), none, none], [(0, v1), (0, r1)], (hc, h, o))) K212_1 rfl trivial ?_
  refine zF_call (k := 214) (cl := 12) (n := 2) (i := .invokestatic 251) (args := [(0, r1), (0, v1)]) (rest := []) (g1 := (hc, h, o)) (r1 := some (0, r2)) (zCk1_w (by decide +kernel)) rfl rfl rfl (st' := [(0, r2)]) rfl (S214 (Nat.le_trans (by decide) hd) r1 v1 h _ q2) ?_
  rcases zI_s e with ⟨q3, e⟩ | ⟨q3, e⟩
  · refine zF_blk (m := []) (d := 1) (b := B212_10) (gs := [¬ r2 = 0]) (c' := (17, [some (22, 0), some (0, v1), some (0, v2), some (0, r1), none, none], [], (hc, h, o))) K212_10 rfl ⟨q3, trivial⟩ ?_
    obtain ⟨r3, q4, e⟩ := zB_s e
    refine zF_blk (m := []) (d := 0) (b := B212_2) (gs := []) (c' := (18, [some (22, 0), some (0, v1), some (0, v2), some (0, r1), none, none], [(0, r1)], (hc, h, o))) K212_2 rfl trivial ?_
    refine zF_call (k := 215) (cl := 12) (n := 1) (i := .invokestatic 254) (args := [(0, r1)]) (rest := []) (g1 := (hc, h, o)) (r1 := some (0, r3)) (zCk1_w (by decide +kernel)) rfl rfl rfl (st' := [(0, r3)]) rfl (S215 (Nat.le_trans (by decide) hd) r1 h _ q4) ?_
    obtain ⟨r4, q5, e⟩ := zB_s e
    refine zF_blk (m := []) (d := 0) (b := B212_3) (gs := []) (c' := (30, [some (22, 0), some (0, v1), some (0, v2), some (0, r1), some (0, r3), none], [(0, (wand r1 (wsub (wshl 1 v1) 1)))], (hc, h, o))) K212_3 rfl trivial ?_
    refine zF_call (k := 215) (cl := 12) (n := 1) (i := .invokestatic 254) (args := [(0, (wand r1 (wsub (wshl 1 v1) 1)))]) (rest := []) (g1 := (hc, h, o)) (r1 := some (0, r4)) (zCk1_w (by decide +kernel)) rfl rfl rfl (st' := [(0, r4)]) rfl (S215 (Nat.le_trans (by decide) hd) (wand r1 (wsub (wshl 1 v1) 1)) h _ q5) ?_
    obtain ⟨r5, q6, e⟩ := zB_s e
    refine zF_blk (m := []) (d := 0) (b := B212_4) (gs := []) (c' := (38, [some (22, 0), some (0, v1), some (0, v2), some (0, r1), some (0, r3), some (0, r4)], [(0, 0), (0, v2), (22, 0)], (hc, h, o))) K212_4 rfl trivial ?_
    refine zF_call (k := 213) (cl := 12) (n := 3) (i := .invokevirtual 247) (args := [(22, 0), (0, v2), (0, 0)]) (rest := []) (g1 := (hc, h, o)) (r1 := some (0, r5)) (zCk1_w (by decide +kernel)) rfl rfl rfl (st' := [(0, r5)]) rfl (S213 (Nat.le_trans (by decide) hd) v2 0 h _ q6) ?_
    obtain ⟨q7, e⟩ := zG_s e
    obtain ⟨r6, q8, e⟩ := zB_s e
    refine zF_blk (m := []) (d := 0) (b := B212_5) (gs := [¬ r3 = 0]) (c' := (49, [some (22, 0), some (0, v1), some (0, v2), some (0, r1), some (0, r3), some (0, r4)], [(0, 0), (0, v2), (22, 0), (0, r4), (0, (wdiv r5 r3))], (hc, h, o))) K212_5 rfl ⟨q7, trivial⟩ ?_
    refine zF_call (k := 213) (cl := 12) (n := 3) (i := .invokevirtual 247) (args := [(22, 0), (0, v2), (0, 0)]) (rest := [(0, r4), (0, (wdiv r5 r3))]) (g1 := (hc, h, o)) (r1 := some (0, r6)) (zCk1_w (by decide +kernel)) rfl rfl rfl (st' := [(0, r6), (0, r4), (0, (wdiv r5 r3))]) rfl (S213 (Nat.le_trans (by decide) hd) v2 0 h _ q8) ?_
    obtain ⟨q9, e⟩ := zG_s e
    rcases zI_s e with ⟨q10, e⟩ | ⟨q10, e⟩
    · refine zF_blk (m := []) (d := 1) (b := B212_8) (gs := [¬ r3 = 0, (wrem r6 r3) ≤ r4]) (c' := (62, [some (22, 0), some (0, v1), some (0, v2), some (0, r1), some (0, r3), some (0, r4)], [(0, (wdiv r5 r3))], (hc, h, o))) K212_8 rfl ⟨q9, q10, trivial⟩ ?_
      refine zF_blk (m := []) (d := 0) (b := B212_6) (gs := []) (c' := (63, [some (22, 0), some (0, v1), some (0, v2), some (0, r1), some (0, r3), some (0, r4)], [(0, 0), (0, (wdiv r5 r3))], (hc, h, o))) K212_6 rfl trivial ?_
      refine zF_blk (m := [false, false, false, false, false, false]) (d := 0) (b := []) (gs := []) (c' := (63, [none, none, none, none, none, none], [(0, 0), (0, (wdiv r5 r3))], (hc, h, o))) rfl rfl trivial ?_
      exact T212_0 hd h 0 (wdiv r5 r3) _ e
    · refine zF_blk (m := []) (d := 0) (b := B212_8) (gs := [¬ r3 = 0, ¬ ((wrem r6 r3) ≤ r4)]) (c' := (58, [some (22, 0), some (0, v1), some (0, v2), some (0, r1), some (0, r3), some (0, r4)], [(0, (wdiv r5 r3))], (hc, h, o))) K212_8 rfl ⟨q9, q10, trivial⟩ ?_
      refine zF_blk (m := []) (d := 0) (b := B212_7) (gs := []) (c' := (63, [some (22, 0), some (0, v1), some (0, v2), some (0, r1), some (0, r3), some (0, r4)], [(0, 1), (0, (wdiv r5 r3))], (hc, h, o))) K212_7 rfl trivial ?_
      refine zF_blk (m := [false, false, false, false, false, false]) (d := 0) (b := []) (gs := []) (c' := (63, [none, none, none, none, none, none], [(0, 1), (0, (wdiv r5 r3))], (hc, h, o))) rfl rfl trivial ?_
      exact T212_0 hd h 1 (wdiv r5 r3) _ e
  · refine zF_blk (m := []) (d := 0) (b := B212_10) (gs := [¬ (¬ r2 = 0)]) (c' := (15, [some (22, 0), some (0, v1), some (0, v2), some (0, r1), none, none], [], (hc, h, o))) K212_10 rfl ⟨q3, trivial⟩ ?_
    refine zF_blk (m := []) (d := 0) (b := B212_9) (gs := []) (c' := (16, [some (22, 0), some (0, v1), some (0, v2), some (0, r1), none, none], [(0, 0)], (hc, h, o))) K212_9 rfl trivial ?_
    obtain rfl := Option.some.inj e
    exact zF_ri (zRe1_w (by decide +kernel))
noncomputable def B211_0 : List zRow := [(0, .iconst 0, 1, (0, 0, 0)), (1, .istore_n 2, 1, (0, 0, 0)), (2, .iconst 0, 1, (0, 0, 0)), (3, .istore_n 3, 1, (0, 0, 0))]
theorem K211_0 : zRk 211 B211_0 = true := zRw_ok (by decide +kernel)
noncomputable def B211_1 : List zRow := [(31, .iload_n 2, 1, (0, 0, 0))]
theorem K211_1 : zRk 211 B211_1 = true := zRw_ok (by decide +kernel)
noncomputable def B211_2 : List zRow := [(16, .iload_n 2, 1, (0, 0, 0)), (17, .aload_n 0, 1, (0, 0, 0)), (18, .iload_n 1, 1, (0, 0, 0)), (19, .iload_n 3, 1, (0, 0, 0))]
theorem K211_2 : zRk 211 B211_2 = true := zRw_ok (by decide +kernel)
noncomputable def B211_3 : List zRow := [(23, .iadd, 1, (0, 0, 0)), (24, .istore_n 2, 1, (0, 0, 0)), (25, .iinc 3 1, 3, (0, 0, 0)), (28, .goto (-24), 3, (0, 0, 0))]
theorem K211_3 : zRk 211 B211_3 = true := zRw_ok (by decide +kernel)
noncomputable def B211_4 : List zRow := [(4, .iload_n 3, 1, (0, 0, 0)), (5, .aload_n 0, 1, (0, 0, 0)), (6, .getfield 13, 3, (12, 14, 5251442)), (9, .sipush 216, 3, (0, 0, 0)), (12, .iaload, 1, (0, 0, 0)), (13, .if_icmp .ge 18, 3, (0, 0, 0))]
theorem K211_4 : zRk 211 B211_4 = true := zRw_ok (by decide +kernel)
def F211_0 (h : zHM) : Nat → Int → Int → Int → Option Int
  | 0, _, _, _ => none
  | n + 1, v1, v2, v3 => if (h 14 216) ≤ v3 then some v2 else (F212 v1 v3 h).bind fun r1 => (F211_0 h n) v1 (wadd v2 r1) (wadd v3 1)
set_option maxRecDepth 100000 in
theorem T211_0 {spec : zRn zH2} {hc : zHC} {o : Int → Int} {d : Nat} (hd : 2 ≤ d) (h : zHM) : ∀ (n : Nat) (v1 : Int) (v2 : Int) (v3 : Int) (v : Int), F211_0 h n v1 v2 v3 = some v → zFin 0 (fun _ => 0) (zRu2 spec d) 211 (some (0, v)) (hc, h, o) (4, [some (22, 0), some (0, v1), some (0, v2), some (0, v3)], [], (hc, h, o)) := by
  intro n
  induction n with
  | zero => intro v1 v2 v3 v e; unfold F211_0 at e; cases e
  | succ n hk0 =>
    intro v1 v2 v3 v e
    unfold F211_0 at e
    rcases zI_s e with ⟨q1, e⟩ | ⟨q1, e⟩
    · refine zF_blk (m := []) (d := 1) (b := B211_4) (gs := [0 ≤ 216 ∧ 216 < 2140, (h 14 216) ≤ v3]) (c' := (31, [some (22, 0), some (0, v1), some (0, v2), some (0, v3)], [], (hc, h, o))) K211_4 rfl ⟨by decide, q1, trivial⟩ ?_
      refine zF_blk (m := []) (d := 0) (b := B211_1) (gs := []) (c' := (32, [some (22, 0), some (0, v1), some (0, v2), some (0, v3)], [(0, v2)], (hc, h, o))) K211_1 rfl trivial ?_
      obtain rfl := Option.some.inj e
      exact zF_ri (zRe1_w (by decide +kernel))
    · refine zF_blk (m := []) (d := 0) (b := B211_4) (gs := [0 ≤ 216 ∧ 216 < 2140, ¬ ((h 14 216) ≤ v3)]) (c' := (16, [some (22, 0), some (0, v1), some (0, v2), some (0, v3)], [], (hc, h, o))) K211_4 rfl ⟨by decide, q1, trivial⟩ ?_
      obtain ⟨r1, q2, e⟩ := zB_s e
      refine zF_blk (m := []) (d := 0) (b := B211_2) (gs := []) (c' := (20, [some (22, 0), some (0, v1), some (0, v2), some (0, v3)], [(0, v3), (0, v1), (22, 0), (0, v2)], (hc, h, o))) K211_2 rfl trivial ?_
      refine zF_call (k := 212) (cl := 12) (n := 3) (i := .invokevirtual 257) (args := [(22, 0), (0, v1), (0, v3)]) (rest := [(0, v2)]) (g1 := (hc, h, o)) (r1 := some (0, r1)) (zCk1_w (by decide +kernel)) rfl rfl rfl (st' := [(0, r1), (0, v2)]) rfl (S212 (Nat.le_trans (by decide) hd) v1 v3 h _ q2) ?_
      refine zF_blk (m := []) (d := 0) (b := B211_3) (gs := []) (c' := (4, [some (22, 0), some (0, v1), some (0, (wadd v2 r1)), some (0, (wadd v3 1))], [], (hc, h, o))) K211_3 rfl trivial ?_
      exact hk0 v1 (wadd v2 r1) (wadd v3 1) _ e
/-- EchoValeModel.hasAll(I)I -/
def F211 (v1 : Int) (h : zHM) : Option Int := F211_0 h zFu v1 0 0
set_option maxRecDepth 100000 in
theorem S211 {spec : zRn zH2} {hc : zHC} {o : Int → Int} {d : Nat} (hd : 3 ≤ d) (v1 : Int) (h : zHM) (v : Int) (e : F211 v1 h = some v) : zRu2 spec d 211 [(22, 0), (0, v1)] (hc, h, o) (some (0, v)) (hc, h, o) := by
  refine zF_in (D := 2) (mx := 4) (L := [some (22, 0), some (0, v1), none, none]) (by decide +kernel) rfl rfl hd (fun d hd => ?_)
  unfold F211 at e
  refine zF_blk (m := []) (d := 0) (b := B211_0) (gs := []) (c' := (4, [some (22, 0), some (0, v1), some (0, 0), some (0, 0)], [], (hc, h, o))) K211_0 rfl trivial ?_
  exact T211_0 hd h zFu v1 0 0 _ e
noncomputable def B209_0 : List zRow := [(0, .aload_n 0, 1, (0, 0, 0)), (1, .iload_n 1, 1, (0, 0, 0))]
theorem K209_0 : zRk 209 B209_0 = true := zRw_ok (by decide +kernel)
noncomputable def B209_1 : List zRow := [(8, .iload_n 2, 1, (0, 0, 0)), (9, .iconst 0, 1, (0, 0, 0)), (10, .iconst 5, 1, (0, 0, 0))]
theorem K209_1 : zRk 209 B209_1 = true := zRw_ok (by decide +kernel)
noncomputable def B209_2 : List zRow := [(72, .iconst 0, 1, (0, 0, 0)), (73, .istore_n 3, 1, (0, 0, 0)), (74, .iconst 0, 1, (0, 0, 0)), (75, .istore 4, 2, (0, 0, 0))]
theorem K209_2 : zRk 209 B209_2 = true := zRw_ok (by decide +kernel)
noncomputable def B209_3 : List zRow := [(58, .aload_n 0, 1, (0, 0, 0)), (59, .getfield 13, 3, (12, 14, 5251442)), (62, .bipush 25, 2, (0, 0, 0)), (64, .iconst 2, 1, (0, 0, 0)), (65, .iload_n 1, 1, (0, 0, 0))]
theorem K209_3 : zRk 209 B209_3 = true := zRw_ok (by decide +kernel)
noncomputable def B209_4 : List zRow := [(66, .imul, 1, (0, 0, 0))]
theorem K209_4 : zRk 209 B209_4 = true := zRw_ok (by decide +kernel)
noncomputable def B209_5 : List zRow := [(67, .iadd, 1, (0, 0, 0)), (68, .iconst 1, 1, (0, 0, 0)), (69, .iadd, 1, (0, 0, 0)), (70, .iaload, 1, (0, 0, 0))]
theorem K209_5 : zRk 209 B209_5 = true := zRw_ok (by decide +kernel)
noncomputable def B209_6 : List zRow := [(53, .iload_n 2, 1, (0, 0, 0)), (54, .iconst 5, 1, (0, 0, 0)), (55, .if_icmp .ne 17, 3, (0, 0, 0))]
theorem K209_6 : zRk 209 B209_6 = true := zRw_ok (by decide +kernel)
noncomputable def B209_7 : List zRow := [(47, .aload_n 0, 1, (0, 0, 0)), (48, .iload_n 1, 1, (0, 0, 0))]
theorem K209_7 : zRk 209 B209_7 = true := zRw_ok (by decide +kernel)
noncomputable def B209_8 : List zRow := [(42, .iload_n 2, 1, (0, 0, 0)), (43, .iconst 1, 1, (0, 0, 0)), (44, .if_icmp .ne 9, 3, (0, 0, 0))]
theorem K209_8 : zRk 209 B209_8 = true := zRw_ok (by decide +kernel)
noncomputable def B209_9 : List zRow := [(31, .aload_n 0, 1, (0, 0, 0)), (32, .getfield 13, 3, (12, 14, 5251442)), (35, .sipush 210, 3, (0, 0, 0)), (38, .iload_n 1, 1, (0, 0, 0))]
theorem K209_9 : zRk 209 B209_9 = true := zRw_ok (by decide +kernel)
noncomputable def B209_10 : List zRow := [(39, .iadd, 1, (0, 0, 0)), (40, .iaload, 1, (0, 0, 0))]
theorem K209_10 : zRk 209 B209_10 = true := zRw_ok (by decide +kernel)
noncomputable def B209_11 : List zRow := [(22, .aload_n 0, 1, (0, 0, 0)), (23, .iconst 0, 1, (0, 0, 0)), (24, .putfield 81, 3, (12, 0, 0)), (27, .iload_n 2, 1, (0, 0, 0)), (28, .ifCond .ne 14, 3, (0, 0, 0))]
theorem K209_11 : zRk 209 B209_11 = true := zRw_ok (by decide +kernel)
noncomputable def B209_12 : List zRow := [(14, .ifCond .ne 8, 3, (0, 0, 0))]
theorem K209_12 : zRk 209 B209_12 = true := zRw_ok (by decide +kernel)
noncomputable def B209_13 : List zRow := [(5, .ifCond .eq 12, 3, (0, 0, 0))]
theorem K209_13 : zRk 209 B209_13 = true := zRw_ok (by decide +kernel)
noncomputable def B209_14 : List zRow := [(155, .iload_n 3, 1, (0, 0, 0))]
theorem K209_14 : zRk 209 B209_14 = true := zRw_ok (by decide +kernel)
noncomputable def B209_15 : List zRow := [(131, .aload_n 0, 1, (0, 0, 0)), (132, .iload 4, 2, (0, 0, 0)), (134, .bipush 7, 2, (0, 0, 0))]
theorem K209_15 : zRk 209 B209_15 = true := zRw_ok (by decide +kernel)
noncomputable def B209_16 : List zRow := [(139, .iload_n 1, 1, (0, 0, 0))]
theorem K209_16 : zRk 209 B209_16 = true := zRw_ok (by decide +kernel)
noncomputable def B209_17 : List zRow := [(143, .ifCond .eq 6, 3, (0, 0, 0))]
theorem K209_17 : zRk 209 B209_17 = true := zRw_ok (by decide +kernel)
noncomputable def B209_18 : List zRow := [(117, .aload_n 0, 1, (0, 0, 0)), (118, .iload 4, 2, (0, 0, 0)), (120, .iconst 1, 1, (0, 0, 0))]
theorem K209_18 : zRk 209 B209_18 = true := zRw_ok (by decide +kernel)
noncomputable def B209_19 : List zRow := [(128, .goto 18, 3, (0, 0, 0))]
theorem K209_19 : zRk 209 B209_19 = true := zRw_ok (by decide +kernel)
noncomputable def B209_20 : List zRow := [(124, .iload_n 1, 1, (0, 0, 0)), (125, .if_icmp .ne 24, 3, (0, 0, 0))]
theorem K209_20 : zRk 209 B209_20 = true := zRw_ok (by decide +kernel)
noncomputable def B209_21 : List zRow := [(112, .iload_n 2, 1, (0, 0, 0)), (113, .iconst 3, 1, (0, 0, 0)), (114, .if_icmp .ne 17, 3, (0, 0, 0))]
theorem K209_21 : zRk 209 B209_21 = true := zRw_ok (by decide +kernel)
noncomputable def B209_22 : List zRow := [(95, .aload_n 0, 1, (0, 0, 0)), (96, .iload 4, 2, (0, 0, 0)), (98, .iconst 5, 1, (0, 0, 0))]
theorem K209_22 : zRk 209 B209_22 = true := zRw_ok (by decide +kernel)
noncomputable def B209_23 : List zRow := [(102, .iload_n 1, 1, (0, 0, 0))]
theorem K209_23 : zRk 209 B209_23 = true := zRw_ok (by decide +kernel)
noncomputable def B209_24 : List zRow := [(109, .goto 37, 3, (0, 0, 0))]
theorem K209_24 : zRk 209 B209_24 = true := zRw_ok (by decide +kernel)
noncomputable def B209_25 : List zRow := [(106, .ifCond .eq 43, 3, (0, 0, 0))]
theorem K209_25 : zRk 209 B209_25 = true := zRw_ok (by decide +kernel)
noncomputable def B209_26 : List zRow := [(90, .iload_n 2, 1, (0, 0, 0)), (91, .iconst 2, 1, (0, 0, 0)), (92, .if_icmp .ne 20, 3, (0, 0, 0))]
theorem K209_26 : zRk 209 B209_26 = true := zRw_ok (by decide +kernel)
noncomputable def B209_27 : List zRow := [(77, .iload 4, 2, (0, 0, 0)), (79, .aload_n 0, 1, (0, 0, 0)), (80, .getfield 13, 3, (12, 14, 5251442)), (83, .sipush 216, 3, (0, 0, 0)), (86, .iaload, 1, (0, 0, 0)), (87, .if_icmp .ge 68, 3, (0, 0, 0))]
theorem K209_27 : zRk 209 B209_27 = true := zRw_ok (by decide +kernel)
noncomputable def B209_28 : List zRow := [(146, .iinc 3 1, 3, (0, 0, 0))]
theorem K209_28 : zRk 209 B209_28 = true := zRw_ok (by decide +kernel)
noncomputable def B209_29 : List zRow := [(149, .iinc 4 1, 3, (0, 0, 0)), (152, .goto (-75), 3, (0, 0, 0))]
theorem K209_29 : zRk 209 B209_29 = true := zRw_ok (by decide +kernel)
noncomputable def B209_30 : List zRow := [(17, .aload_n 0, 1, (0, 0, 0))]
theorem K209_30 : zRk 209 B209_30 = true := zRw_ok (by decide +kernel)
def F209_2 (k0 : Int → Int → Int → Int → zHM → Option (Int × zHM)) (v1 : Int) (v2 : Int) (v3 : Int) (v4 : Int) (h : zHM) : Option (Int × zHM) := k0 v1 v2 v3 (wadd v4 1) h
set_option maxRecDepth 100000 in
theorem T209_2 {spec : zRn zH2} {hc : zHC} {o : Int → Int} {d : Nat} (hd : 3 ≤ d) (k0 : Int → Int → Int → Int → zHM → Option (Int × zHM)) (hk0 : ∀ (v1 : Int) (v2 : Int) (v3 : Int) (v4 : Int) (h : zHM) (v : (Int × zHM)), k0 v1 v2 v3 v4 h = some v → zFin 0 (fun _ => 0) (zRu2 spec d) 209 (some (0, v.1)) (hc, v.2, o) (77, [some (22, 0), some (0, v1), some (0, v2), some (0, v3), some (0, v4)], [], (hc, h, o))) (v1 : Int) (v2 : Int) (v3 : Int) (v4 : Int) (h : zHM) (v : (Int × zHM)) (e : F209_2 k0 v1 v2 v3 v4 h = some v) : zFin 0 (fun _ => 0) (zRu2 spec d) 209 (some (0, v.1)) (hc, v.2, o) (149, [some (22, 0), some (0, v1), some (0, v2), some (0, v3), some (0, v4)], [], (hc, h, o)) := by
  unfold F209_2 at e
  refine zF_blk (m := []) (d := 0) (b := B209_29) (gs := []) (c' := (77, [some (22, 0), some (0, v1), some (0, v2), some (0, v3), some (0, (wadd v4 1))], [], (hc, h, o))) K209_29 rfl trivial ?_
  exact hk0 v1 v2 v3 (wadd v4 1) h _ e
def F209_3 (k0 : Int → Int → Int → Int → zHM → Option (Int × zHM)) (v1 : Int) (v2 : Int) (v3 : Int) (v4 : Int) (h : zHM) : Option (Int × zHM) := F209_2 k0 v1 v2 (wadd v3 1) v4 h
set_option maxRecDepth 100000 in
theorem T209_3 {spec : zRn zH2} {hc : zHC} {o : Int → Int} {d : Nat} (hd : 3 ≤ d) (k0 : Int → Int → Int → Int → zHM → Option (Int × zHM)) (hk0 : ∀ (v1 : Int) (v2 : Int) (v3 : Int) (v4 : Int) (h : zHM) (v : (Int × zHM)), k0 v1 v2 v3 v4 h = some v → zFin 0 (fun _ => 0) (zRu2 spec d) 209 (some (0, v.1)) (hc, v.2, o) (77, [some (22, 0), some (0, v1), some (0, v2), some (0, v3), some (0, v4)], [], (hc, h, o))) (v1 : Int) (v2 : Int) (v3 : Int) (v4 : Int) (h : zHM) (v : (Int × zHM)) (e : F209_3 k0 v1 v2 v3 v4 h = some v) : zFin 0 (fun _ => 0) (zRu2 spec d) 209 (some (0, v.1)) (hc, v.2, o) (146, [some (22, 0), some (0, v1), some (0, v2), some (0, v3), some (0, v4)], [], (hc, h, o)) := by
  unfold F209_3 at e
  refine zF_blk (m := []) (d := 0) (b := B209_28) (gs := []) (c' := (149, [some (22, 0), some (0, v1), some (0, v2), some (0, (wadd v3 1)), some (0, v4)], [], (hc, h, o))) K209_28 rfl trivial ?_
  exact T209_2 hd k0 hk0 v1 v2 (wadd v3 1) v4 h _ e
def F209_1 : Nat → Int → Int → Int → Int → zHM → Option (Int × zHM)
  | 0, _, _, _, _, _ => none
  | n + 1, v1, v2, v3, v4, h => if (h 14 216) ≤ v4 then some (v3, h) else if ¬ v2 = 2 then if ¬ v2 = 3 then (F213 v4 7 h).bind fun r1 => (F214 r1 v1).bind fun r2 => if r2 = 0 then F209_2 (F209_1 n) v1 v2 v3 v4 h else F209_3 (F209_1 n) v1 v2 v3 v4 h else (F213 v4 1 h).bind fun r3 => if ¬ r3 = v1 then F209_2 (F209_1 n) v1 v2 v3 v4 h else F209_3 (F209_1 n) v1 v2 v3 v4 h else (F213 v4 5 h).bind fun r4 => (F214 r4 v1).bind fun r5 => if r5 = 0 then F209_2 (F209_1 n) v1 v2 v3 v4 h else F209_3 (F209_1 n) v1 v2 v3 v4 h
set_option maxRecDepth 100000 in
theorem T209_1 {spec : zRn zH2} {hc : zHC} {o : Int → Int} {d : Nat} (hd : 3 ≤ d) : ∀ (n : Nat) (v1 : Int) (v2 : Int) (v3 : Int) (v4 : Int) (h : zHM) (v : (Int × zHM)), F209_1 n v1 v2 v3 v4 h = some v → zFin 0 (fun _ => 0) (zRu2 spec d) 209 (some (0, v.1)) (hc, v.2, o) (77, [some (22, 0), some (0, v1), some (0, v2), some (0, v3), some (0, v4)], [], (hc, h, o)) := by
  intro n
  induction n with
  | zero => intro v1 v2 v3 v4 h v e; unfold F209_1 at e; cases e
  | succ n hk0 =>
    intro v1 v2 v3 v4 h v e
    unfold F209_1 at e
    rcases zI_s e with ⟨q1, e⟩ | ⟨q1, e⟩
    · refine zF_blk (m := []) (d := 1) (b := B209_27) (gs := [0 ≤ 216 ∧ 216 < 2140, (h 14 216) ≤ v4]) (c' := (155, [some (22, 0), some (0, v1), some (0, v2), some (0, v3), some (0, v4)], [], (hc, h, o))) K209_27 rfl ⟨by decide, q1, trivial⟩ ?_
      refine zF_blk (m := []) (d := 0) (b := B209_14) (gs := []) (c' := (156, [some (22, 0), some (0, v1), some (0, v2), some (0, v3), some (0, v4)], [(0, v3)], (hc, h, o))) K209_14 rfl trivial ?_
      exact zF_riM (zRe1_w (by decide +kernel)) e
    · refine zF_blk (m := []) (d := 0) (b := B209_27) (gs := [0 ≤ 216 ∧ 216 < 2140, ¬ ((h 14 216) ≤ v4)]) (c' := (90, [some (22, 0), some (0, v1), some (0, v2), some (0, v3), some (0, v4)], [], (hc, h, o))) K209_27 rfl ⟨by decide, q1, trivial⟩ ?_
      rcases zI_s e with ⟨q2, e⟩ | ⟨q2, e⟩
      · refine zF_blk (m := []) (d := 1) (b := B209_26) (gs := [¬ v2 = 2]) (c' := (112, [some (22, 0), some (0, v1), some (0, v2), some (0, v3), some (0, v4)], [], (hc, h, o))) K209_26 rfl ⟨q2, trivial⟩ ?_
        rcases zI_s e with ⟨q3, e⟩ | ⟨q3, e⟩
        · refine zF_blk (m := []) (d := 1) (b := B209_21) (gs := [¬ v2 = 3]) (c' := (131, [some (22, 0), some (0, v1), some (0, v2), some (0, v3), some (0, v4)], [], (hc, h, o))) K209_21 rfl ⟨q3, trivial⟩ ?_
          obtain ⟨r1, q4, e⟩ := zB_s e
          refine zF_blk (m := []) (d := 0) (b := B209_15) (gs := []) (c' := (136, [some (22, 0), some (0, v1), some (0, v2), some (0, v3), some (0, v4)], [(0, 7), (0, v4), (22, 0)], (hc, h, o))) K209_15 rfl trivial ?_
          refine zF_call (k := 213) (cl := 12) (n := 3) (i := .invokevirtual 247) (args := [(22, 0), (0, v4), (0, 7)]) (rest := []) (g1 := (hc, h, o)) (r1 := some (0, r1)) (zCk1_w (by decide +kernel)) rfl rfl rfl (st' := [(0, r1)]) rfl (S213 (Nat.le_trans (by decide) hd) v4 7 h _ q4) ?_
          obtain ⟨r2, q5, e⟩ := zB_s e
          refine zF_blk (m := []) (d := 0) (b := B209_16) (gs := []) (c' := (140, [some (22, 0), some (0, v1), some (0, v2), some (0, v3), some (0, v4)], [(0, v1), (0, r1)], (hc, h, o))) K209_16 rfl trivial ?_
          refine zF_call (k := 214) (cl := 12) (n := 2) (i := .invokestatic 251) (args := [(0, r1), (0, v1)]) (rest := []) (g1 := (hc, h, o)) (r1 := some (0, r2)) (zCk1_w (by decide +kernel)) rfl rfl rfl (st' := [(0, r2)]) rfl (S214 (Nat.le_trans (by decide) hd) r1 v1 h _ q5) ?_
          rcases zI_s e with ⟨q6, e⟩ | ⟨q6, e⟩
          · refine zF_blk (m := []) (d := 1) (b := B209_17) (gs := [r2 = 0]) (c' := (149, [some (22, 0), some (0, v1), some (0, v2), some (0, v3), some (0, v4)], [], (hc, h, o))) K209_17 rfl ⟨q6, trivial⟩ ?_
            exact T209_2 hd (F209_1 n) hk0 v1 v2 v3 v4 h _ e
          · refine zF_blk (m := []) (d := 0) (b := B209_17) (gs := [¬ (r2 = 0)]) (c' := (146, [some (22, 0), some (0, v1), some (0, v2), some (0, v3), some (0, v4)], [], (hc, h, o))) K209_17 rfl ⟨q6, trivial⟩ ?_
            exact T209_3 hd (F209_1 n) hk0 v1 v2 v3 v4 h _ e
        · refine zF_blk (m := []) (d := 0) (b := B209_21) (gs := [¬ (¬ v2 = 3)]) (c' := (117, [some (22, 0), some (0, v1), some (0, v2), some (0, v3), some (0, v4)], [], (hc, h, o))) K209_21 rfl ⟨q3, trivial⟩ ?_
          obtain ⟨r3, q7, e⟩ := zB_s e
          refine zF_blk (m := []) (d := 0) (b := B209_18) (gs := []) (c' := (121, [some (22, 0), some (0, v1), some (0, v2), some (0, v3), some (0, v4)], [(0, 1), (0, v4), (22, 0)], (hc, h, o))) K209_18 rfl trivial ?_
          refine zF_call (k := 213) (cl := 12) (n := 3) (i := .invokevirtual 247) (args := [(22, 0), (0, v4), (0, 1)]) (rest := []) (g1 := (hc, h, o)) (r1 := some (0, r3)) (zCk1_w (by decide +kernel)) rfl rfl rfl (st' := [(0, r3)]) rfl (S213 (Nat.le_trans (by decide) hd) v4 1 h _ q7) ?_
          rcases zI_s e with ⟨q8, e⟩ | ⟨q8, e⟩
          · refine zF_blk (m := []) (d := 1) (b := B209_20) (gs := [¬ r3 = v1]) (c' := (149, [some (22, 0), some (0, v1), some (0, v2), some (0, v3), some (0, v4)], [], (hc, h, o))) K209_20 rfl ⟨q8, trivial⟩ ?_
            exact T209_2 hd (F209_1 n) hk0 v1 v2 v3 v4 h _ e
          · refine zF_blk (m := []) (d := 0) (b := B209_20) (gs := [¬ (¬ r3 = v1)]) (c' := (128, [some (22, 0), some (0, v1), some (0, v2), some (0, v3), some (0, v4)], [], (hc, h, o))) K209_20 rfl ⟨q8, trivial⟩ ?_
            refine zF_blk (m := []) (d := 0) (b := B209_19) (gs := []) (c' := (146, [some (22, 0), some (0, v1), some (0, v2), some (0, v3), some (0, v4)], [], (hc, h, o))) K209_19 rfl trivial ?_
            exact T209_3 hd (F209_1 n) hk0 v1 v2 v3 v4 h _ e
      · refine zF_blk (m := []) (d := 0) (b := B209_26) (gs := [¬ (¬ v2 = 2)]) (c' := (95, [some (22, 0), some (0, v1), some (0, v2), some (0, v3), some (0, v4)], [], (hc, h, o))) K209_26 rfl ⟨q2, trivial⟩ ?_
        obtain ⟨r4, q9, e⟩ := zB_s e
        refine zF_blk (m := []) (d := 0) (b := B209_22) (gs := []) (c' := (99, [some (22, 0), some (0, v1), some (0, v2), some (0, v3), some (0, v4)], [(0, 5), (0, v4), (22, 0)], (hc, h, o))) K209_22 rfl trivial ?_
        refine zF_call (k := 213) (cl := 12) (n := 3) (i := .invokevirtual 247) (args := [(22, 0), (0, v4), (0, 5)]) (rest := []) (g1 := (hc, h, o)) (r1 := some (0, r4)) (zCk1_w (by decide +kernel)) rfl rfl rfl (st' := [(0, r4)]) rfl (S213 (Nat.le_trans (by decide) hd) v4 5 h _ q9) ?_
        obtain ⟨r5, q10, e⟩ := zB_s e
        refine zF_blk (m := []) (d := 0) (b := B209_23) (gs := []) (c' := (103, [some (22, 0), some (0, v1), some (0, v2), some (0, v3), some (0, v4)], [(0, v1), (0, r4)], (hc, h, o))) K209_23 rfl trivial ?_
        refine zF_call (k := 214) (cl := 12) (n := 2) (i := .invokestatic 251) (args := [(0, r4), (0, v1)]) (rest := []) (g1 := (hc, h, o)) (r1 := some (0, r5)) (zCk1_w (by decide +kernel)) rfl rfl rfl (st' := [(0, r5)]) rfl (S214 (Nat.le_trans (by decide) hd) r4 v1 h _ q10) ?_
        rcases zI_s e with ⟨q11, e⟩ | ⟨q11, e⟩
        · refine zF_blk (m := []) (d := 1) (b := B209_25) (gs := [r5 = 0]) (c' := (149, [some (22, 0), some (0, v1), some (0, v2), some (0, v3), some (0, v4)], [], (hc, h, o))) K209_25 rfl ⟨q11, trivial⟩ ?_
          exact T209_2 hd (F209_1 n) hk0 v1 v2 v3 v4 h _ e
        · refine zF_blk (m := []) (d := 0) (b := B209_25) (gs := [¬ (r5 = 0)]) (c' := (109, [some (22, 0), some (0, v1), some (0, v2), some (0, v3), some (0, v4)], [], (hc, h, o))) K209_25 rfl ⟨q11, trivial⟩ ?_
          refine zF_blk (m := []) (d := 0) (b := B209_24) (gs := []) (c' := (146, [some (22, 0), some (0, v1), some (0, v2), some (0, v3), some (0, v4)], [], (hc, h, o))) K209_24 rfl trivial ?_
          exact T209_3 hd (F209_1 n) hk0 v1 v2 v3 v4 h _ e
def F209_0 (h : zHM) : Option (Int × zHM) := (F206 h).bind fun r1 => some (r1.1, r1.2)
set_option maxRecDepth 100000 in
theorem T209_0 {spec : zRn zH2} {hc : zHC} {o : Int → Int} {d : Nat} (hd : 3 ≤ d) (h : zHM) (v : (Int × zHM)) (e : F209_0 h = some v) : zFin 0 (fun _ => 0) (zRu2 spec d) 209 (some (0, v.1)) (hc, v.2, o) (17, [some (22, 0), none, none, none, none], [], (hc, h, o)) := by
  unfold F209_0 at e
  obtain ⟨r1, q1, e⟩ := zB_s e
  refine zF_blk (m := []) (d := 0) (b := B209_30) (gs := []) (c' := (18, [some (22, 0), none, none, none, none], [(22, 0)], (hc, h, o))) K209_30 rfl trivial ?_
  refine zF_call (k := 206) (cl := 12) (n := 1) (i := .invokevirtual 238) (args := [(22, 0)]) (rest := []) (g1 := (hc, r1.2, o)) (r1 := some (0, r1.1)) (zCk1_w (by decide +kernel)) rfl rfl rfl (st' := [(0, r1.1)]) rfl (S206 (Nat.le_trans (by decide) hd)  h _ q1) ?_
  exact zF_riM (zRe1_w (by decide +kernel)) e
/-- EchoValeModel.person(II)I -/
def F209 (v1 : Int) (v2 : Int) (h : zHM) : Option (Int × zHM) := (F210 v1 h).bind fun r1 => if r1 = 0 then F209_0 h else (F188 v2 0 5).bind fun r2 => if ¬ r2 = 0 then if ¬ v2 = 0 then if ¬ v2 = 1 then if ¬ v2 = 5 then F209_1 zFu v1 v2 0 0 (mset h 0 0 0) else zG (0 ≤ (wadd (wadd 25 (wmul 2 v1)) 1) ∧ (wadd (wadd 25 (wmul 2 v1)) 1) < 2140) (some ((h 14 (wadd (wadd 25 (wmul 2 v1)) 1)), (mset h 0 0 0))) else (F211 v1 (mset h 0 0 0)).bind fun r3 => some (r3, (mset h 0 0 0)) else zG (0 ≤ (wadd 210 v1) ∧ (wadd 210 v1) < 2140) (some ((h 14 (wadd 210 v1)), (mset h 0 0 0))) else F209_0 h
set_option maxRecDepth 100000 in
theorem S209 {spec : zRn zH2} {hc : zHC} {o : Int → Int} {d : Nat} (hd : 4 ≤ d) (v1 : Int) (v2 : Int) (h : zHM) (v : (Int × zHM)) (e : F209 v1 v2 h = some v) : zRu2 spec d 209 [(22, 0), (0, v1), (0, v2)] (hc, h, o) (some (0, v.1)) (hc, v.2, o) := by
  refine zF_in (D := 3) (mx := 5) (L := [some (22, 0), some (0, v1), some (0, v2), none, none]) (by decide +kernel) rfl rfl hd (fun d hd => ?_)
  unfold F209 at e
  obtain ⟨r1, q1, e⟩ := zB_s e
  refine zF_blk (m := []) (d := 0) (b := B209_0) (gs := []) (c' := (2, [some (22, 0), some (0, v1), some (0, v2), none, none], [(0, v1), (22, 0)], (hc, h, o))) K209_0 rfl trivial ?_
  refine zF_call (k := 210) (cl := 12) (n := 2) (i := .invokevirtual 260) (args := [(22, 0), (0, v1)]) (rest := []) (g1 := (hc, h, o)) (r1 := some (0, r1)) (zCk1_w (by decide +kernel)) rfl rfl rfl (st' := [(0, r1)]) rfl (S210 (Nat.le_trans (by decide) hd) v1 h _ q1) ?_
  rcases zI_s e with ⟨q2, e⟩ | ⟨q2, e⟩
  · refine zF_blk (m := []) (d := 1) (b := B209_13) (gs := [r1 = 0]) (c' := (17, [some (22, 0), some (0, v1), some (0, v2), none, none], [], (hc, h, o))) K209_13 rfl ⟨q2, trivial⟩ ?_
    refine zF_blk (m := [true, false, false, false, false]) (d := 0) (b := []) (gs := []) (c' := (17, [some (22, 0), none, none, none, none], [], (hc, h, o))) rfl rfl trivial ?_
    exact T209_0 hd h _ e
  · refine zF_blk (m := []) (d := 0) (b := B209_13) (gs := [¬ (r1 = 0)]) (c' := (8, [some (22, 0), some (0, v1), some (0, v2), none, none], [], (hc, h, o))) K209_13 rfl ⟨q2, trivial⟩ ?_
    obtain ⟨r2, q3, e⟩ := zB_s e
    refine zF_blk (m := []) (d := 0) (b := B209_1) (gs := []) (c' := (11, [some (22, 0), some (0, v1), some (0, v2), none, none], [(0, 5), (0, 0), (0, v2)], (hc, h, o))) K209_1 rfl trivial ?_
    refine zF_call (k := 188) (cl := 12) (n := 3) (i := .invokestatic 151) (args := [(0, v2), (0, 0), (0, 5)]) (rest := []) (g1 := (hc, h, o)) (r1 := some (0, r2)) (zCk1_w (by decide +kernel)) rfl rfl rfl (st' := [(0, r2)]) rfl (S188 (Nat.le_trans (by decide) hd) v2 0 5 h _ q3) ?_
    rcases zI_s e with ⟨q4, e⟩ | ⟨q4, e⟩
    · refine zF_blk (m := []) (d := 1) (b := B209_12) (gs := [¬ r2 = 0]) (c' := (22, [some (22, 0), some (0, v1), some (0, v2), none, none], [], (hc, h, o))) K209_12 rfl ⟨q4, trivial⟩ ?_
      rcases zI_s e with ⟨q5, e⟩ | ⟨q5, e⟩
      · refine zF_blk (m := []) (d := 1) (b := B209_11) (gs := [¬ v2 = 0]) (c' := (42, [some (22, 0), some (0, v1), some (0, v2), none, none], [], (hc, (mset h 0 0 0), o))) K209_11 rfl ⟨q5, trivial⟩ ?_
        rcases zI_s e with ⟨q6, e⟩ | ⟨q6, e⟩
        · refine zF_blk (m := []) (d := 1) (b := B209_8) (gs := [¬ v2 = 1]) (c' := (53, [some (22, 0), some (0, v1), some (0, v2), none, none], [], (hc, (mset h 0 0 0), o))) K209_8 rfl ⟨q6, trivial⟩ ?_
          rcases zI_s e with ⟨q7, e⟩ | ⟨q7, e⟩
          · refine zF_blk (m := []) (d := 1) (b := B209_6) (gs := [¬ v2 = 5]) (c' := (72, [some (22, 0), some (0, v1), some (0, v2), none, none], [], (hc, (mset h 0 0 0), o))) K209_6 rfl ⟨q7, trivial⟩ ?_
            refine zF_blk (m := []) (d := 0) (b := B209_2) (gs := []) (c' := (77, [some (22, 0), some (0, v1), some (0, v2), some (0, 0), some (0, 0)], [], (hc, (mset h 0 0 0), o))) K209_2 rfl trivial ?_
            exact T209_1 hd zFu v1 v2 0 0 (mset h 0 0 0) _ e
          · refine zF_blk (m := []) (d := 0) (b := B209_6) (gs := [¬ (¬ v2 = 5)]) (c' := (58, [some (22, 0), some (0, v1), some (0, v2), none, none], [], (hc, (mset h 0 0 0), o))) K209_6 rfl ⟨q7, trivial⟩ ?_
            obtain ⟨q8, e⟩ := zG_s e
            refine zF_blk (m := []) (d := 0) (b := B209_3) (gs := []) (c' := (66, [some (22, 0), some (0, v1), some (0, v2), none, none], [(0, v1), (0, 2), (0, 25), (1344370422, 0)], (hc, (mset h 0 0 0), o))) K209_3 rfl trivial ?_
            refine zF_blk (m := []) (d := 0) (b := B209_4) (gs := []) (c' := (67, [some (22, 0), some (0, v1), some (0, v2), none, none], [(0, (wmul 2 v1)), (0, 25), (1344370422, 0)], (hc, (mset h 0 0 0), o))) K209_4 rfl trivial ?_
            refine zF_blk (m := []) (d := 0) (b := B209_5) (gs := [0 ≤ (wadd (wadd 25 (wmul 2 v1)) 1) ∧ (wadd (wadd 25 (wmul 2 v1)) 1) < 2140]) (c' := (71, [some (22, 0), some (0, v1), some (0, v2), none, none], [(0, (h 14 (wadd (wadd 25 (wmul 2 v1)) 1)))], (hc, (mset h 0 0 0), o))) K209_5 rfl ⟨q8, trivial⟩ ?_
            exact zF_riM (zRe1_w (by decide +kernel)) e
        · refine zF_blk (m := []) (d := 0) (b := B209_8) (gs := [¬ (¬ v2 = 1)]) (c' := (47, [some (22, 0), some (0, v1), some (0, v2), none, none], [], (hc, (mset h 0 0 0), o))) K209_8 rfl ⟨q6, trivial⟩ ?_
          obtain ⟨r3, q9, e⟩ := zB_s e
          refine zF_blk (m := []) (d := 0) (b := B209_7) (gs := []) (c' := (49, [some (22, 0), some (0, v1), some (0, v2), none, none], [(0, v1), (22, 0)], (hc, (mset h 0 0 0), o))) K209_7 rfl trivial ?_
          refine zF_call (k := 211) (cl := 12) (n := 2) (i := .invokevirtual 263) (args := [(22, 0), (0, v1)]) (rest := []) (g1 := (hc, (mset h 0 0 0), o)) (r1 := some (0, r3)) (zCk1_w (by decide +kernel)) rfl rfl rfl (st' := [(0, r3)]) rfl (S211 (Nat.le_trans (by decide) hd) v1 (mset h 0 0 0) _ q9) ?_
          exact zF_riM (zRe1_w (by decide +kernel)) e
      · refine zF_blk (m := []) (d := 0) (b := B209_11) (gs := [¬ (¬ v2 = 0)]) (c' := (31, [some (22, 0), some (0, v1), some (0, v2), none, none], [], (hc, (mset h 0 0 0), o))) K209_11 rfl ⟨q5, trivial⟩ ?_
        obtain ⟨q10, e⟩ := zG_s e
        refine zF_blk (m := []) (d := 0) (b := B209_9) (gs := []) (c' := (39, [some (22, 0), some (0, v1), some (0, v2), none, none], [(0, v1), (0, 210), (1344370422, 0)], (hc, (mset h 0 0 0), o))) K209_9 rfl trivial ?_
        refine zF_blk (m := []) (d := 0) (b := B209_10) (gs := [0 ≤ (wadd 210 v1) ∧ (wadd 210 v1) < 2140]) (c' := (41, [some (22, 0), some (0, v1), some (0, v2), none, none], [(0, (h 14 (wadd 210 v1)))], (hc, (mset h 0 0 0), o))) K209_10 rfl ⟨q10, trivial⟩ ?_
        exact zF_riM (zRe1_w (by decide +kernel)) e
    · refine zF_blk (m := []) (d := 0) (b := B209_12) (gs := [¬ (¬ r2 = 0)]) (c' := (17, [some (22, 0), some (0, v1), some (0, v2), none, none], [], (hc, h, o))) K209_12 rfl ⟨q4, trivial⟩ ?_
      refine zF_blk (m := [true, false, false, false, false]) (d := 0) (b := []) (gs := []) (c' := (17, [some (22, 0), none, none, none, none], [], (hc, h, o))) rfl rfl trivial ?_
      exact T209_0 hd h _ e
noncomputable def B217_0 : List zRow := [(20, .iconst 0, 1, (0, 0, 0))]
theorem K217_0 : zRk 217 B217_0 = true := zRw_ok (by decide +kernel)
noncomputable def B217_1 : List zRow := [(16, .iconst 1, 1, (0, 0, 0)), (17, .goto 4, 3, (0, 0, 0))]
theorem K217_1 : zRk 217 B217_1 = true := zRw_ok (by decide +kernel)
noncomputable def B217_2 : List zRow := [(4, .iload_n 1, 1, (0, 0, 0)), (5, .aload_n 0, 1, (0, 0, 0)), (6, .getfield 13, 3, (12, 14, 5251442)), (9, .sipush 216, 3, (0, 0, 0)), (12, .iaload, 1, (0, 0, 0)), (13, .if_icmp .ge 7, 3, (0, 0, 0))]
theorem K217_2 : zRk 217 B217_2 = true := zRw_ok (by decide +kernel)
noncomputable def B217_3 : List zRow := [(0, .iload_n 1, 1, (0, 0, 0)), (1, .ifCond .lt 19, 3, (0, 0, 0))]
theorem K217_3 : zRk 217 B217_3 = true := zRw_ok (by decide +kernel)
/-- EchoValeModel.isSaying(I)Z -/
def F217 (v1 : Int) (h : zHM) : Option Int := if v1 < 0 then some 0 else if (h 14 216) ≤ v1 then some 0 else some 1
set_option maxRecDepth 100000 in
theorem S217 {spec : zRn zH2} {hc : zHC} {o : Int → Int} {d : Nat} (hd : 1 ≤ d) (v1 : Int) (h : zHM) (v : Int) (e : F217 v1 h = some v) : zRu2 spec d 217 [(22, 0), (0, v1)] (hc, h, o) (some (0, v)) (hc, h, o) := by
  refine zF_in (D := 0) (mx := 2) (L := [some (22, 0), some (0, v1)]) (by decide +kernel) rfl rfl hd (fun d hd => ?_)
  unfold F217 at e
  rcases zI_s e with ⟨q1, e⟩ | ⟨q1, e⟩
  · refine zF_blk (m := []) (d := 1) (b := B217_3) (gs := [v1 < 0]) (c' := (20, [some (22, 0), some (0, v1)], [], (hc, h, o))) K217_3 rfl ⟨q1, trivial⟩ ?_
    refine zF_blk (m := []) (d := 0) (b := B217_0) (gs := []) (c' := (21, [some (22, 0), some (0, v1)], [(0, 0)], (hc, h, o))) K217_0 rfl trivial ?_
    obtain rfl := Option.some.inj e
    exact zF_rb (zRe1_w (by decide +kernel)) (Or.inl rfl)
  · refine zF_blk (m := []) (d := 0) (b := B217_3) (gs := [¬ (v1 < 0)]) (c' := (4, [some (22, 0), some (0, v1)], [], (hc, h, o))) K217_3 rfl ⟨q1, trivial⟩ ?_
    rcases zI_s e with ⟨q2, e⟩ | ⟨q2, e⟩
    · refine zF_blk (m := []) (d := 1) (b := B217_2) (gs := [0 ≤ 216 ∧ 216 < 2140, (h 14 216) ≤ v1]) (c' := (20, [some (22, 0), some (0, v1)], [], (hc, h, o))) K217_2 rfl ⟨by decide, q2, trivial⟩ ?_
      refine zF_blk (m := []) (d := 0) (b := B217_0) (gs := []) (c' := (21, [some (22, 0), some (0, v1)], [(0, 0)], (hc, h, o))) K217_0 rfl trivial ?_
      obtain rfl := Option.some.inj e
      exact zF_rb (zRe1_w (by decide +kernel)) (Or.inl rfl)
    · refine zF_blk (m := []) (d := 0) (b := B217_2) (gs := [0 ≤ 216 ∧ 216 < 2140, ¬ ((h 14 216) ≤ v1)]) (c' := (16, [some (22, 0), some (0, v1)], [], (hc, h, o))) K217_2 rfl ⟨by decide, q2, trivial⟩ ?_
      refine zF_blk (m := []) (d := 0) (b := B217_1) (gs := []) (c' := (21, [some (22, 0), some (0, v1)], [(0, 1)], (hc, h, o))) K217_1 rfl trivial ?_
      obtain rfl := Option.some.inj e
      exact zF_rb (zRe1_w (by decide +kernel)) (Or.inr rfl)
noncomputable def B216_0 : List zRow := [(0, .aload_n 0, 1, (0, 0, 0)), (1, .iload_n 1, 1, (0, 0, 0))]
theorem K216_0 : zRk 216 B216_0 = true := zRw_ok (by decide +kernel)
noncomputable def B216_1 : List zRow := [(8, .iload_n 2, 1, (0, 0, 0)), (9, .iconst 0, 1, (0, 0, 0)), (10, .bipush 7, 2, (0, 0, 0))]
theorem K216_1 : zRk 216 B216_1 = true := zRw_ok (by decide +kernel)
noncomputable def B216_2 : List zRow := [(23, .aload_n 0, 1, (0, 0, 0)), (24, .iconst 0, 1, (0, 0, 0)), (25, .putfield 81, 3, (12, 0, 0)), (28, .aload_n 0, 1, (0, 0, 0)), (29, .iload_n 1, 1, (0, 0, 0)), (30, .iload_n 2, 1, (0, 0, 0))]
theorem K216_2 : zRk 216 B216_2 = true := zRw_ok (by decide +kernel)
noncomputable def B216_3 : List zRow := [(15, .ifCond .ne 8, 3, (0, 0, 0))]
theorem K216_3 : zRk 216 B216_3 = true := zRw_ok (by decide +kernel)
noncomputable def B216_4 : List zRow := [(5, .ifCond .eq 13, 3, (0, 0, 0))]
theorem K216_4 : zRk 216 B216_4 = true := zRw_ok (by decide +kernel)
noncomputable def B216_5 : List zRow := [(18, .aload_n 0, 1, (0, 0, 0))]
theorem K216_5 : zRk 216 B216_5 = true := zRw_ok (by decide +kernel)
def F216_0 (h : zHM) : Option (Int × zHM) := (F206 h).bind fun r1 => some (r1.1, r1.2)
set_option maxRecDepth 100000 in
theorem T216_0 {spec : zRn zH2} {hc : zHC} {o : Int → Int} {d : Nat} (hd : 1 ≤ d) (h : zHM) (v : (Int × zHM)) (e : F216_0 h = some v) : zFin 0 (fun _ => 0) (zRu2 spec d) 216 (some (0, v.1)) (hc, v.2, o) (18, [some (22, 0), none, none], [], (hc, h, o)) := by
  unfold F216_0 at e
  obtain ⟨r1, q1, e⟩ := zB_s e
  refine zF_blk (m := []) (d := 0) (b := B216_5) (gs := []) (c' := (19, [some (22, 0), none, none], [(22, 0)], (hc, h, o))) K216_5 rfl trivial ?_
  refine zF_call (k := 206) (cl := 12) (n := 1) (i := .invokevirtual 238) (args := [(22, 0)]) (rest := []) (g1 := (hc, r1.2, o)) (r1 := some (0, r1.1)) (zCk1_w (by decide +kernel)) rfl rfl rfl (st' := [(0, r1.1)]) rfl (S206 (Nat.le_trans (by decide) hd)  h _ q1) ?_
  exact zF_riM (zRe1_w (by decide +kernel)) e
/-- EchoValeModel.saying(II)I -/
def F216 (v1 : Int) (v2 : Int) (h : zHM) : Option (Int × zHM) := (F217 v1 h).bind fun r1 => if r1 = 0 then F216_0 h else (F188 v2 0 7).bind fun r2 => if ¬ r2 = 0 then (F213 v1 v2 (mset h 0 0 0)).bind fun r3 => some (r3, (mset h 0 0 0)) else F216_0 h
set_option maxRecDepth 100000 in
theorem S216 {spec : zRn zH2} {hc : zHC} {o : Int → Int} {d : Nat} (hd : 2 ≤ d) (v1 : Int) (v2 : Int) (h : zHM) (v : (Int × zHM)) (e : F216 v1 v2 h = some v) : zRu2 spec d 216 [(22, 0), (0, v1), (0, v2)] (hc, h, o) (some (0, v.1)) (hc, v.2, o) := by
  refine zF_in (D := 1) (mx := 3) (L := [some (22, 0), some (0, v1), some (0, v2)]) (by decide +kernel) rfl rfl hd (fun d hd => ?_)
  unfold F216 at e
  obtain ⟨r1, q1, e⟩ := zB_s e
  refine zF_blk (m := []) (d := 0) (b := B216_0) (gs := []) (c' := (2, [some (22, 0), some (0, v1), some (0, v2)], [(0, v1), (22, 0)], (hc, h, o))) K216_0 rfl trivial ?_
  refine zF_call (k := 217) (cl := 12) (n := 2) (i := .invokevirtual 266) (args := [(22, 0), (0, v1)]) (rest := []) (g1 := (hc, h, o)) (r1 := some (0, r1)) (zCk1_w (by decide +kernel)) rfl rfl rfl (st' := [(0, r1)]) rfl (S217 (Nat.le_trans (by decide) hd) v1 h _ q1) ?_
  rcases zI_s e with ⟨q2, e⟩ | ⟨q2, e⟩
  · refine zF_blk (m := []) (d := 1) (b := B216_4) (gs := [r1 = 0]) (c' := (18, [some (22, 0), some (0, v1), some (0, v2)], [], (hc, h, o))) K216_4 rfl ⟨q2, trivial⟩ ?_
    refine zF_blk (m := [true, false, false]) (d := 0) (b := []) (gs := []) (c' := (18, [some (22, 0), none, none], [], (hc, h, o))) rfl rfl trivial ?_
    exact T216_0 hd h _ e
  · refine zF_blk (m := []) (d := 0) (b := B216_4) (gs := [¬ (r1 = 0)]) (c' := (8, [some (22, 0), some (0, v1), some (0, v2)], [], (hc, h, o))) K216_4 rfl ⟨q2, trivial⟩ ?_
    obtain ⟨r2, q3, e⟩ := zB_s e
    refine zF_blk (m := []) (d := 0) (b := B216_1) (gs := []) (c' := (12, [some (22, 0), some (0, v1), some (0, v2)], [(0, 7), (0, 0), (0, v2)], (hc, h, o))) K216_1 rfl trivial ?_
    refine zF_call (k := 188) (cl := 12) (n := 3) (i := .invokestatic 151) (args := [(0, v2), (0, 0), (0, 7)]) (rest := []) (g1 := (hc, h, o)) (r1 := some (0, r2)) (zCk1_w (by decide +kernel)) rfl rfl rfl (st' := [(0, r2)]) rfl (S188 (Nat.le_trans (by decide) hd) v2 0 7 h _ q3) ?_
    rcases zI_s e with ⟨q4, e⟩ | ⟨q4, e⟩
    · refine zF_blk (m := []) (d := 1) (b := B216_3) (gs := [¬ r2 = 0]) (c' := (23, [some (22, 0), some (0, v1), some (0, v2)], [], (hc, h, o))) K216_3 rfl ⟨q4, trivial⟩ ?_
      obtain ⟨r3, q5, e⟩ := zB_s e
      refine zF_blk (m := []) (d := 0) (b := B216_2) (gs := []) (c' := (31, [some (22, 0), some (0, v1), some (0, v2)], [(0, v2), (0, v1), (22, 0)], (hc, (mset h 0 0 0), o))) K216_2 rfl trivial ?_
      refine zF_call (k := 213) (cl := 12) (n := 3) (i := .invokevirtual 247) (args := [(22, 0), (0, v1), (0, v2)]) (rest := []) (g1 := (hc, (mset h 0 0 0), o)) (r1 := some (0, r3)) (zCk1_w (by decide +kernel)) rfl rfl rfl (st' := [(0, r3)]) rfl (S213 (Nat.le_trans (by decide) hd) v1 v2 (mset h 0 0 0) _ q5) ?_
      exact zF_riM (zRe1_w (by decide +kernel)) e
    · refine zF_blk (m := []) (d := 0) (b := B216_3) (gs := [¬ (¬ r2 = 0)]) (c' := (18, [some (22, 0), some (0, v1), some (0, v2)], [], (hc, h, o))) K216_3 rfl ⟨q4, trivial⟩ ?_
      refine zF_blk (m := [true, false, false]) (d := 0) (b := []) (gs := []) (c' := (18, [some (22, 0), none, none], [], (hc, h, o))) rfl rfl trivial ?_
      exact T216_0 hd h _ e
noncomputable def B58_0 : List zRow := [(19, .iconst 0, 1, (0, 0, 0))]
theorem K58_0 : zRk 58 B58_0 = true := zRw_ok (by decide +kernel)
noncomputable def B58_1 : List zRow := [(15, .iconst 1, 1, (0, 0, 0)), (16, .goto 4, 3, (0, 0, 0))]
theorem K58_1 : zRk 58 B58_1 = true := zRw_ok (by decide +kernel)
noncomputable def B58_2 : List zRow := [(4, .iload_n 1, 1, (0, 0, 0)), (5, .aload_n 0, 1, (0, 0, 0)), (6, .getfield 56, 3, (11, 6, 7)), (9, .getfield 354, 3, (1, 1, 0)), (12, .if_icmp .ge 7, 3, (0, 0, 0))]
theorem K58_2 : zRk 58 B58_2 = true := zRw_ok (by decide +kernel)
noncomputable def B58_3 : List zRow := [(0, .iload_n 1, 1, (0, 0, 0)), (1, .ifCond .lt 18, 3, (0, 0, 0))]
theorem K58_3 : zRk 58 B58_3 = true := zRw_ok (by decide +kernel)
/-- EchoVale.isSaying(I)Z -/
def F58 (v1 : Int) (h : zHC) : Option Int := if v1 < 0 then some 0 else if (h 65 0 0) ≤ v1 then some 0 else some 1
set_option maxRecDepth 100000 in
theorem S58 {spec : zRn zH2} {hm : zHM} {o : Int → Int} {d : Nat} (hd : 1 ≤ d) (v1 : Int) (h : zHC) (v : Int) (e : F58 v1 h = some v) : zRu2 spec d 58 [(21, 0), (0, v1)] (h, hm, o) (some (0, v)) (h, hm, o) := by
  refine zF_in (D := 0) (mx := 2) (L := [some (21, 0), some (0, v1)]) (by decide +kernel) rfl rfl hd (fun d hd => ?_)
  unfold F58 at e
  rcases zI_s e with ⟨q1, e⟩ | ⟨q1, e⟩
  · refine zF_blk (m := []) (d := 1) (b := B58_3) (gs := [v1 < 0]) (c' := (19, [some (21, 0), some (0, v1)], [], (h, hm, o))) K58_3 rfl ⟨q1, trivial⟩ ?_
    refine zF_blk (m := []) (d := 0) (b := B58_0) (gs := []) (c' := (20, [some (21, 0), some (0, v1)], [(0, 0)], (h, hm, o))) K58_0 rfl trivial ?_
    obtain rfl := Option.some.inj e
    exact zF_rb (zRe1_w (by decide +kernel)) (Or.inl rfl)
  · refine zF_blk (m := []) (d := 0) (b := B58_3) (gs := [¬ (v1 < 0)]) (c' := (4, [some (21, 0), some (0, v1)], [], (h, hm, o))) K58_3 rfl ⟨q1, trivial⟩ ?_
    rcases zI_s e with ⟨q2, e⟩ | ⟨q2, e⟩
    · refine zF_blk (m := []) (d := 1) (b := B58_2) (gs := [(h 65 0 0) ≤ v1]) (c' := (19, [some (21, 0), some (0, v1)], [], (h, hm, o))) K58_2 rfl ⟨q2, trivial⟩ ?_
      refine zF_blk (m := []) (d := 0) (b := B58_0) (gs := []) (c' := (20, [some (21, 0), some (0, v1)], [(0, 0)], (h, hm, o))) K58_0 rfl trivial ?_
      obtain rfl := Option.some.inj e
      exact zF_rb (zRe1_w (by decide +kernel)) (Or.inl rfl)
    · refine zF_blk (m := []) (d := 0) (b := B58_2) (gs := [¬ ((h 65 0 0) ≤ v1)]) (c' := (15, [some (21, 0), some (0, v1)], [], (h, hm, o))) K58_2 rfl ⟨q2, trivial⟩ ?_
      refine zF_blk (m := []) (d := 0) (b := B58_1) (gs := []) (c' := (20, [some (21, 0), some (0, v1)], [(0, 1)], (h, hm, o))) K58_1 rfl trivial ?_
      obtain rfl := Option.some.inj e
      exact zF_rb (zRe1_w (by decide +kernel)) (Or.inr rfl)
noncomputable def B59_0 : List zRow := [(19, .iconst 0, 1, (0, 0, 0))]
theorem K59_0 : zRk 59 B59_0 = true := zRw_ok (by decide +kernel)
noncomputable def B59_1 : List zRow := [(15, .iconst 1, 1, (0, 0, 0)), (16, .goto 4, 3, (0, 0, 0))]
theorem K59_1 : zRk 59 B59_1 = true := zRw_ok (by decide +kernel)
noncomputable def B59_2 : List zRow := [(4, .iload_n 1, 1, (0, 0, 0)), (5, .aload_n 0, 1, (0, 0, 0)), (6, .getfield 19, 3, (11, 1, 39)), (9, .getfield 282, 3, (9, 2, 0)), (12, .if_icmp .ge 7, 3, (0, 0, 0))]
theorem K59_2 : zRk 59 B59_2 = true := zRw_ok (by decide +kernel)
noncomputable def B59_3 : List zRow := [(0, .iload_n 1, 1, (0, 0, 0)), (1, .ifCond .lt 18, 3, (0, 0, 0))]
theorem K59_3 : zRk 59 B59_3 = true := zRw_ok (by decide +kernel)
/-- EchoVale.isCliff(I)Z -/
def F59 (v1 : Int) (h : zHC) : Option Int := if v1 < 0 then some 0 else if (h 578 0 0) ≤ v1 then some 0 else some 1
set_option maxRecDepth 100000 in
theorem S59 {spec : zRn zH2} {hm : zHM} {o : Int → Int} {d : Nat} (hd : 1 ≤ d) (v1 : Int) (h : zHC) (v : Int) (e : F59 v1 h = some v) : zRu2 spec d 59 [(21, 0), (0, v1)] (h, hm, o) (some (0, v)) (h, hm, o) := by
  refine zF_in (D := 0) (mx := 2) (L := [some (21, 0), some (0, v1)]) (by decide +kernel) rfl rfl hd (fun d hd => ?_)
  unfold F59 at e
  rcases zI_s e with ⟨q1, e⟩ | ⟨q1, e⟩
  · refine zF_blk (m := []) (d := 1) (b := B59_3) (gs := [v1 < 0]) (c' := (19, [some (21, 0), some (0, v1)], [], (h, hm, o))) K59_3 rfl ⟨q1, trivial⟩ ?_
    refine zF_blk (m := []) (d := 0) (b := B59_0) (gs := []) (c' := (20, [some (21, 0), some (0, v1)], [(0, 0)], (h, hm, o))) K59_0 rfl trivial ?_
    obtain rfl := Option.some.inj e
    exact zF_rb (zRe1_w (by decide +kernel)) (Or.inl rfl)
  · refine zF_blk (m := []) (d := 0) (b := B59_3) (gs := [¬ (v1 < 0)]) (c' := (4, [some (21, 0), some (0, v1)], [], (h, hm, o))) K59_3 rfl ⟨q1, trivial⟩ ?_
    rcases zI_s e with ⟨q2, e⟩ | ⟨q2, e⟩
    · refine zF_blk (m := []) (d := 1) (b := B59_2) (gs := [(h 578 0 0) ≤ v1]) (c' := (19, [some (21, 0), some (0, v1)], [], (h, hm, o))) K59_2 rfl ⟨q2, trivial⟩ ?_
      refine zF_blk (m := []) (d := 0) (b := B59_0) (gs := []) (c' := (20, [some (21, 0), some (0, v1)], [(0, 0)], (h, hm, o))) K59_0 rfl trivial ?_
      obtain rfl := Option.some.inj e
      exact zF_rb (zRe1_w (by decide +kernel)) (Or.inl rfl)
    · refine zF_blk (m := []) (d := 0) (b := B59_2) (gs := [¬ ((h 578 0 0) ≤ v1)]) (c' := (15, [some (21, 0), some (0, v1)], [], (h, hm, o))) K59_2 rfl ⟨q2, trivial⟩ ?_
      refine zF_blk (m := []) (d := 0) (b := B59_1) (gs := []) (c' := (20, [some (21, 0), some (0, v1)], [(0, 1)], (h, hm, o))) K59_1 rfl trivial ?_
      obtain rfl := Option.some.inj e
      exact zF_rb (zRe1_w (by decide +kernel)) (Or.inr rfl)
noncomputable def B57_0 : List zRow := [(0, .aload_n 0, 1, (0, 0, 0)), (1, .iload_n 1, 1, (0, 0, 0))]
theorem K57_0 : zRk 57 B57_0 = true := zRw_ok (by decide +kernel)
noncomputable def B57_1 : List zRow := [(16, .iconst (-1), 1, (0, 0, 0))]
theorem K57_1 : zRk 57 B57_1 = true := zRw_ok (by decide +kernel)
noncomputable def B57_2 : List zRow := [(8, .aload_n 0, 1, (0, 0, 0)), (9, .iload_n 2, 1, (0, 0, 0))]
theorem K57_2 : zRk 57 B57_2 = true := zRw_ok (by decide +kernel)
noncomputable def B57_3 : List zRow := [(44, .aload_n 0, 1, (0, 0, 0)), (45, .getfield 56, 3, (11, 6, 7)), (48, .getfield 199, 3, (1, 4, 5243602)), (51, .iload_n 1, 1, (0, 0, 0)), (52, .bipush 6, 2, (0, 0, 0)), (54, .imul, 1, (0, 0, 0)), (55, .iload_n 2, 1, (0, 0, 0)), (56, .iadd, 1, (0, 0, 0)), (57, .iaload, 1, (0, 0, 0))]
theorem K57_3 : zRk 57 B57_3 = true := zRw_ok (by decide +kernel)
noncomputable def B57_4 : List zRow := [(18, .iload_n 3, 1, (0, 0, 0)), (19, .lookupswitch 77 #[(0, 25), (1, 40)], 25, (0, 0, 0))]
theorem K57_4 : zRk 57 B57_4 = true := by decide +kernel
noncomputable def B57_5 : List zRow := [(81, .aload_n 0, 1, (0, 0, 0)), (82, .getfield 56, 3, (11, 6, 7)), (85, .getfield 202, 3, (1, 5, 5243602)), (88, .iload_n 1, 1, (0, 0, 0)), (89, .bipush 6, 2, (0, 0, 0)), (91, .imul, 1, (0, 0, 0)), (92, .iload_n 2, 1, (0, 0, 0)), (93, .iadd, 1, (0, 0, 0)), (94, .iaload, 1, (0, 0, 0))]
theorem K57_5 : zRk 57 B57_5 = true := zRw_ok (by decide +kernel)
noncomputable def B57_6 : List zRow := [(77, .iconst (-1), 1, (0, 0, 0)), (78, .goto 17, 3, (0, 0, 0))]
theorem K57_6 : zRk 57 B57_6 = true := zRw_ok (by decide +kernel)
noncomputable def B57_7 : List zRow := [(59, .aload_n 0, 1, (0, 0, 0)), (60, .getfield 56, 3, (11, 6, 7)), (63, .getfield 199, 3, (1, 4, 5243602)), (66, .iload_n 1, 1, (0, 0, 0)), (67, .bipush 6, 2, (0, 0, 0)), (69, .imul, 1, (0, 0, 0)), (70, .iload_n 2, 1, (0, 0, 0)), (71, .iadd, 1, (0, 0, 0)), (72, .iaload, 1, (0, 0, 0)), (73, .iconst (-1), 1, (0, 0, 0)), (74, .if_icmp .ne 7, 3, (0, 0, 0))]
theorem K57_7 : zRk 57 B57_7 = true := zRw_ok (by decide +kernel)
noncomputable def B57_8 : List zRow := [(96, .iconst (-1), 1, (0, 0, 0))]
theorem K57_8 : zRk 57 B57_8 = true := zRw_ok (by decide +kernel)
noncomputable def B57_9 : List zRow := [(13, .ifCond .ne 5, 3, (0, 0, 0))]
theorem K57_9 : zRk 57 B57_9 = true := zRw_ok (by decide +kernel)
noncomputable def B57_10 : List zRow := [(5, .ifCond .eq 11, 3, (0, 0, 0))]
theorem K57_10 : zRk 57 B57_10 = true := zRw_ok (by decide +kernel)
/-- EchoVale.comes(III)I -/
def F57 (v1 : Int) (v2 : Int) (v3 : Int) (h : zHC) : Option Int := (F58 v1 h).bind fun r1 => if r1 = 0 then some (-1) else (F59 v2 h).bind fun r2 => if ¬ r2 = 0 then if v3 = 0 then zG (0 ≤ (wadd (wmul v1 6) v2) ∧ (wadd (wmul v1 6) v2) < 180) (some (h 68 0 (wadd (wmul v1 6) v2))) else if v3 = 1 then zG (0 ≤ (wadd (wmul v1 6) v2) ∧ (wadd (wmul v1 6) v2) < 180) (if ¬ (h 68 0 (wadd (wmul v1 6) v2)) = (-1) then zG (0 ≤ (wadd (wmul v1 6) v2) ∧ (wadd (wmul v1 6) v2) < 180) (some (h 69 0 (wadd (wmul v1 6) v2))) else some (-1)) else some (-1) else some (-1)
set_option maxRecDepth 100000 in
theorem S57 {spec : zRn zH2} {hm : zHM} {o : Int → Int} {d : Nat} (hd : 2 ≤ d) (v1 : Int) (v2 : Int) (v3 : Int) (h : zHC) (v : Int) (e : F57 v1 v2 v3 h = some v) : zRu2 spec d 57 [(21, 0), (0, v1), (0, v2), (0, v3)] (h, hm, o) (some (0, v)) (h, hm, o) := by
  refine zF_in (D := 1) (mx := 4) (L := [some (21, 0), some (0, v1), some (0, v2), some (0, v3)]) (by decide +kernel) rfl rfl hd (fun d hd => ?_)
  unfold F57 at e
  obtain ⟨r1, q1, e⟩ := zB_s e
  refine zF_blk (m := []) (d := 0) (b := B57_0) (gs := []) (c' := (2, [some (21, 0), some (0, v1), some (0, v2), some (0, v3)], [(0, v1), (21, 0)], (h, hm, o))) K57_0 rfl trivial ?_
  refine zF_call (k := 58) (cl := 11) (n := 2) (i := .invokevirtual 191) (args := [(21, 0), (0, v1)]) (rest := []) (g1 := (h, hm, o)) (r1 := some (0, r1)) (zCk1_w (by decide +kernel)) rfl rfl rfl (st' := [(0, r1)]) rfl (S58 (Nat.le_trans (by decide) hd) v1 h _ q1) ?_
  rcases zI_s e with ⟨q2, e⟩ | ⟨q2, e⟩
  · refine zF_blk (m := []) (d := 1) (b := B57_10) (gs := [r1 = 0]) (c' := (16, [some (21, 0), some (0, v1), some (0, v2), some (0, v3)], [], (h, hm, o))) K57_10 rfl ⟨q2, trivial⟩ ?_
    refine zF_blk (m := []) (d := 0) (b := B57_1) (gs := []) (c' := (17, [some (21, 0), some (0, v1), some (0, v2), some (0, v3)], [(0, (-1))], (h, hm, o))) K57_1 rfl trivial ?_
    obtain rfl := Option.some.inj e
    exact zF_ri (zRe1_w (by decide +kernel))
  · refine zF_blk (m := []) (d := 0) (b := B57_10) (gs := [¬ (r1 = 0)]) (c' := (8, [some (21, 0), some (0, v1), some (0, v2), some (0, v3)], [], (h, hm, o))) K57_10 rfl ⟨q2, trivial⟩ ?_
    obtain ⟨r2, q3, e⟩ := zB_s e
    refine zF_blk (m := []) (d := 0) (b := B57_2) (gs := []) (c' := (10, [some (21, 0), some (0, v1), some (0, v2), some (0, v3)], [(0, v2), (21, 0)], (h, hm, o))) K57_2 rfl trivial ?_
    refine zF_call (k := 59) (cl := 11) (n := 2) (i := .invokevirtual 139) (args := [(21, 0), (0, v2)]) (rest := []) (g1 := (h, hm, o)) (r1 := some (0, r2)) (zCk1_w (by decide +kernel)) rfl rfl rfl (st' := [(0, r2)]) rfl (S59 (Nat.le_trans (by decide) hd) v2 h _ q3) ?_
    rcases zI_s e with ⟨q4, e⟩ | ⟨q4, e⟩
    · refine zF_blk (m := []) (d := 1) (b := B57_9) (gs := [¬ r2 = 0]) (c' := (18, [some (21, 0), some (0, v1), some (0, v2), some (0, v3)], [], (h, hm, o))) K57_9 rfl ⟨q4, trivial⟩ ?_
      rcases zI_s e with ⟨q5, e⟩ | ⟨q5, e⟩
      · refine zF_blk (m := []) (d := 0) (b := B57_4) (gs := [v3 = 0]) (c' := (44, [some (21, 0), some (0, v1), some (0, v2), some (0, v3)], [], (h, hm, o))) K57_4 rfl ⟨q5, trivial⟩ ?_
        obtain ⟨q6, e⟩ := zG_s e
        refine zF_blk (m := []) (d := 0) (b := B57_3) (gs := [0 ≤ (wadd (wmul v1 6) v2) ∧ (wadd (wmul v1 6) v2) < 180]) (c' := (58, [some (21, 0), some (0, v1), some (0, v2), some (0, v3)], [(0, (h 68 0 (wadd (wmul v1 6) v2)))], (h, hm, o))) K57_3 rfl ⟨q6, trivial⟩ ?_
        obtain rfl := Option.some.inj e
        exact zF_ri (zRe1_w (by decide +kernel))
      rcases zI_s e with ⟨q7, e⟩ | ⟨q7, e⟩
      · refine zF_blk (m := []) (d := 1) (b := B57_4) (gs := [v3 = 1]) (c' := (59, [some (21, 0), some (0, v1), some (0, v2), some (0, v3)], [], (h, hm, o))) K57_4 rfl ⟨q7, trivial⟩ ?_
        obtain ⟨q8, e⟩ := zG_s e
        rcases zI_s e with ⟨q9, e⟩ | ⟨q9, e⟩
        · refine zF_blk (m := []) (d := 1) (b := B57_7) (gs := [0 ≤ (wadd (wmul v1 6) v2) ∧ (wadd (wmul v1 6) v2) < 180, ¬ (h 68 0 (wadd (wmul v1 6) v2)) = (-1)]) (c' := (81, [some (21, 0), some (0, v1), some (0, v2), some (0, v3)], [], (h, hm, o))) K57_7 rfl ⟨q8, q9, trivial⟩ ?_
          obtain ⟨q10, e⟩ := zG_s e
          refine zF_blk (m := []) (d := 0) (b := B57_5) (gs := [0 ≤ (wadd (wmul v1 6) v2) ∧ (wadd (wmul v1 6) v2) < 180]) (c' := (95, [some (21, 0), some (0, v1), some (0, v2), some (0, v3)], [(0, (h 69 0 (wadd (wmul v1 6) v2)))], (h, hm, o))) K57_5 rfl ⟨q10, trivial⟩ ?_
          obtain rfl := Option.some.inj e
          exact zF_ri (zRe1_w (by decide +kernel))
        · refine zF_blk (m := []) (d := 0) (b := B57_7) (gs := [0 ≤ (wadd (wmul v1 6) v2) ∧ (wadd (wmul v1 6) v2) < 180, ¬ (¬ (h 68 0 (wadd (wmul v1 6) v2)) = (-1))]) (c' := (77, [some (21, 0), some (0, v1), some (0, v2), some (0, v3)], [], (h, hm, o))) K57_7 rfl ⟨q8, q9, trivial⟩ ?_
          refine zF_blk (m := []) (d := 0) (b := B57_6) (gs := []) (c' := (95, [some (21, 0), some (0, v1), some (0, v2), some (0, v3)], [(0, (-1))], (h, hm, o))) K57_6 rfl trivial ?_
          obtain rfl := Option.some.inj e
          exact zF_ri (zRe1_w (by decide +kernel))
      refine zF_blk (m := []) (d := 2) (b := B57_4) (gs := [¬ v3 = 0, ¬ v3 = 1]) (c' := (96, [some (21, 0), some (0, v1), some (0, v2), some (0, v3)], [], (h, hm, o))) K57_4 rfl ⟨q5, q7, trivial⟩ ?_
      refine zF_blk (m := []) (d := 0) (b := B57_8) (gs := []) (c' := (97, [some (21, 0), some (0, v1), some (0, v2), some (0, v3)], [(0, (-1))], (h, hm, o))) K57_8 rfl trivial ?_
      obtain rfl := Option.some.inj e
      exact zF_ri (zRe1_w (by decide +kernel))
    · refine zF_blk (m := []) (d := 0) (b := B57_9) (gs := [¬ (¬ r2 = 0)]) (c' := (16, [some (21, 0), some (0, v1), some (0, v2), some (0, v3)], [], (h, hm, o))) K57_9 rfl ⟨q4, trivial⟩ ?_
      refine zF_blk (m := []) (d := 0) (b := B57_1) (gs := []) (c' := (17, [some (21, 0), some (0, v1), some (0, v2), some (0, v3)], [(0, (-1))], (h, hm, o))) K57_1 rfl trivial ?_
      obtain rfl := Option.some.inj e
      exact zF_ri (zRe1_w (by decide +kernel))
noncomputable def B219_0 : List zRow := [(0, .aload_n 0, 1, (0, 0, 0)), (1, .getfield 13, 3, (12, 14, 5251442)), (4, .sipush 457, 3, (0, 0, 0)), (7, .bipush 18, 2, (0, 0, 0)), (9, .iload_n 1, 1, (0, 0, 0))]
theorem K219_0 : zRk 219 B219_0 = true := zRw_ok (by decide +kernel)
noncomputable def B219_1 : List zRow := [(10, .imul, 1, (0, 0, 0))]
theorem K219_1 : zRk 219 B219_1 = true := zRw_ok (by decide +kernel)
noncomputable def B219_2 : List zRow := [(11, .iadd, 1, (0, 0, 0)), (12, .iconst 3, 1, (0, 0, 0)), (13, .iload_n 2, 1, (0, 0, 0))]
theorem K219_2 : zRk 219 B219_2 = true := zRw_ok (by decide +kernel)
noncomputable def B219_3 : List zRow := [(14, .imul, 1, (0, 0, 0)), (15, .iadd, 1, (0, 0, 0)), (16, .iload_n 3, 1, (0, 0, 0)), (17, .iadd, 1, (0, 0, 0)), (18, .iaload, 1, (0, 0, 0))]
theorem K219_3 : zRk 219 B219_3 = true := zRw_ok (by decide +kernel)
/-- EchoValeModel.comesAt(III)I -/
def F219 (v1 : Int) (v2 : Int) (v3 : Int) (h : zHM) : Option Int := zG (0 ≤ (wadd (wadd (wadd 457 (wmul 18 v1)) (wmul 3 v2)) v3) ∧ (wadd (wadd (wadd 457 (wmul 18 v1)) (wmul 3 v2)) v3) < 2140) (some (h 14 (wadd (wadd (wadd 457 (wmul 18 v1)) (wmul 3 v2)) v3)))
set_option maxRecDepth 100000 in
theorem S219 {spec : zRn zH2} {hc : zHC} {o : Int → Int} {d : Nat} (hd : 1 ≤ d) (v1 : Int) (v2 : Int) (v3 : Int) (h : zHM) (v : Int) (e : F219 v1 v2 v3 h = some v) : zRu2 spec d 219 [(22, 0), (0, v1), (0, v2), (0, v3)] (hc, h, o) (some (0, v)) (hc, h, o) := by
  refine zF_in (D := 0) (mx := 4) (L := [some (22, 0), some (0, v1), some (0, v2), some (0, v3)]) (by decide +kernel) rfl rfl hd (fun d hd => ?_)
  unfold F219 at e
  obtain ⟨q1, e⟩ := zG_s e
  refine zF_blk (m := []) (d := 0) (b := B219_0) (gs := []) (c' := (10, [some (22, 0), some (0, v1), some (0, v2), some (0, v3)], [(0, v1), (0, 18), (0, 457), (1344370422, 0)], (hc, h, o))) K219_0 rfl trivial ?_
  refine zF_blk (m := []) (d := 0) (b := B219_1) (gs := []) (c' := (11, [some (22, 0), some (0, v1), some (0, v2), some (0, v3)], [(0, (wmul 18 v1)), (0, 457), (1344370422, 0)], (hc, h, o))) K219_1 rfl trivial ?_
  refine zF_blk (m := []) (d := 0) (b := B219_2) (gs := []) (c' := (14, [some (22, 0), some (0, v1), some (0, v2), some (0, v3)], [(0, v2), (0, 3), (0, (wadd 457 (wmul 18 v1))), (1344370422, 0)], (hc, h, o))) K219_2 rfl trivial ?_
  refine zF_blk (m := []) (d := 0) (b := B219_3) (gs := [0 ≤ (wadd (wadd (wadd 457 (wmul 18 v1)) (wmul 3 v2)) v3) ∧ (wadd (wadd (wadd 457 (wmul 18 v1)) (wmul 3 v2)) v3) < 2140]) (c' := (19, [some (22, 0), some (0, v1), some (0, v2), some (0, v3)], [(0, (h 14 (wadd (wadd (wadd 457 (wmul 18 v1)) (wmul 3 v2)) v3)))], (hc, h, o))) K219_3 rfl ⟨q1, trivial⟩ ?_
  obtain rfl := Option.some.inj e
  exact zF_ri (zRe1_w (by decide +kernel))
noncomputable def B218_0 : List zRow := [(0, .aload_n 0, 1, (0, 0, 0)), (1, .iconst 0, 1, (0, 0, 0)), (2, .putfield 81, 3, (12, 0, 0)), (5, .aload_n 0, 1, (0, 0, 0)), (6, .iload_n 1, 1, (0, 0, 0))]
theorem K218_0 : zRk 218 B218_0 = true := zRw_ok (by decide +kernel)
noncomputable def B218_1 : List zRow := [(50, .iconst (-1), 1, (0, 0, 0))]
theorem K218_1 : zRk 218 B218_1 = true := zRw_ok (by decide +kernel)
noncomputable def B218_2 : List zRow := [(13, .aload_n 0, 1, (0, 0, 0)), (14, .iload_n 2, 1, (0, 0, 0))]
theorem K218_2 : zRk 218 B218_2 = true := zRw_ok (by decide +kernel)
noncomputable def B218_3 : List zRow := [(21, .iload_n 3, 1, (0, 0, 0)), (22, .iconst 0, 1, (0, 0, 0)), (23, .iconst 1, 1, (0, 0, 0))]
theorem K218_3 : zRk 218 B218_3 = true := zRw_ok (by decide +kernel)
noncomputable def B218_4 : List zRow := [(30, .aload_n 0, 1, (0, 0, 0)), (31, .iload_n 1, 1, (0, 0, 0)), (32, .iload_n 2, 1, (0, 0, 0)), (33, .iconst 0, 1, (0, 0, 0))]
theorem K218_4 : zRk 218 B218_4 = true := zRw_ok (by decide +kernel)
noncomputable def B218_5 : List zRow := [(40, .aload_n 0, 1, (0, 0, 0)), (41, .iload_n 1, 1, (0, 0, 0)), (42, .iload_n 2, 1, (0, 0, 0)), (43, .iload_n 3, 1, (0, 0, 0))]
theorem K218_5 : zRk 218 B218_5 = true := zRw_ok (by decide +kernel)
noncomputable def B218_6 : List zRow := [(47, .goto 4, 3, (0, 0, 0))]
theorem K218_6 : zRk 218 B218_6 = true := zRw_ok (by decide +kernel)
noncomputable def B218_7 : List zRow := [(37, .ifCond .le 13, 3, (0, 0, 0))]
theorem K218_7 : zRk 218 B218_7 = true := zRw_ok (by decide +kernel)
noncomputable def B218_8 : List zRow := [(27, .ifCond .eq 23, 3, (0, 0, 0))]
theorem K218_8 : zRk 218 B218_8 = true := zRw_ok (by decide +kernel)
noncomputable def B218_9 : List zRow := [(18, .ifCond .eq 32, 3, (0, 0, 0))]
theorem K218_9 : zRk 218 B218_9 = true := zRw_ok (by decide +kernel)
noncomputable def B218_10 : List zRow := [(10, .ifCond .eq 40, 3, (0, 0, 0))]
theorem K218_10 : zRk 218 B218_10 = true := zRw_ok (by decide +kernel)
/-- EchoValeModel.comes(III)I -/
def F218 (v1 : Int) (v2 : Int) (v3 : Int) (h : zHM) : Option (Int × zHM) := (F217 v1 (mset h 0 0 0)).bind fun r1 => if r1 = 0 then some ((-1), (mset h 0 0 0)) else (F205 v2 (mset h 0 0 0)).bind fun r2 => if r2 = 0 then some ((-1), (mset h 0 0 0)) else (F188 v3 0 1).bind fun r3 => if r3 = 0 then some ((-1), (mset h 0 0 0)) else (F219 v1 v2 0 (mset h 0 0 0)).bind fun r4 => if r4 ≤ 0 then some ((-1), (mset h 0 0 0)) else (F219 v1 v2 v3 (mset h 0 0 0)).bind fun r5 => some (r5, (mset h 0 0 0))
set_option maxRecDepth 100000 in
theorem S218 {spec : zRn zH2} {hc : zHC} {o : Int → Int} {d : Nat} (hd : 2 ≤ d) (v1 : Int) (v2 : Int) (v3 : Int) (h : zHM) (v : (Int × zHM)) (e : F218 v1 v2 v3 h = some v) : zRu2 spec d 218 [(22, 0), (0, v1), (0, v2), (0, v3)] (hc, h, o) (some (0, v.1)) (hc, v.2, o) := by
  refine zF_in (D := 1) (mx := 4) (L := [some (22, 0), some (0, v1), some (0, v2), some (0, v3)]) (by decide +kernel) rfl rfl hd (fun d hd => ?_)
  unfold F218 at e
  obtain ⟨r1, q1, e⟩ := zB_s e
  refine zF_blk (m := []) (d := 0) (b := B218_0) (gs := []) (c' := (7, [some (22, 0), some (0, v1), some (0, v2), some (0, v3)], [(0, v1), (22, 0)], (hc, (mset h 0 0 0), o))) K218_0 rfl trivial ?_
  refine zF_call (k := 217) (cl := 12) (n := 2) (i := .invokevirtual 266) (args := [(22, 0), (0, v1)]) (rest := []) (g1 := (hc, (mset h 0 0 0), o)) (r1 := some (0, r1)) (zCk1_w (by decide +kernel)) rfl rfl rfl (st' := [(0, r1)]) rfl (S217 (Nat.le_trans (by decide) hd) v1 (mset h 0 0 0) _ q1) ?_
  rcases zI_s e with ⟨q2, e⟩ | ⟨q2, e⟩
  · refine zF_blk (m := []) (d := 1) (b := B218_10) (gs := [r1 = 0]) (c' := (50, [some (22, 0), some (0, v1), some (0, v2), some (0, v3)], [], (hc, (mset h 0 0 0), o))) K218_10 rfl ⟨q2, trivial⟩ ?_
    refine zF_blk (m := []) (d := 0) (b := B218_1) (gs := []) (c' := (51, [some (22, 0), some (0, v1), some (0, v2), some (0, v3)], [(0, (-1))], (hc, (mset h 0 0 0), o))) K218_1 rfl trivial ?_
    exact zF_riM (zRe1_w (by decide +kernel)) e
  · refine zF_blk (m := []) (d := 0) (b := B218_10) (gs := [¬ (r1 = 0)]) (c' := (13, [some (22, 0), some (0, v1), some (0, v2), some (0, v3)], [], (hc, (mset h 0 0 0), o))) K218_10 rfl ⟨q2, trivial⟩ ?_
    obtain ⟨r2, q3, e⟩ := zB_s e
    refine zF_blk (m := []) (d := 0) (b := B218_2) (gs := []) (c' := (15, [some (22, 0), some (0, v1), some (0, v2), some (0, v3)], [(0, v2), (22, 0)], (hc, (mset h 0 0 0), o))) K218_2 rfl trivial ?_
    refine zF_call (k := 205) (cl := 12) (n := 2) (i := .invokevirtual 235) (args := [(22, 0), (0, v2)]) (rest := []) (g1 := (hc, (mset h 0 0 0), o)) (r1 := some (0, r2)) (zCk1_w (by decide +kernel)) rfl rfl rfl (st' := [(0, r2)]) rfl (S205 (Nat.le_trans (by decide) hd) v2 (mset h 0 0 0) _ q3) ?_
    rcases zI_s e with ⟨q4, e⟩ | ⟨q4, e⟩
    · refine zF_blk (m := []) (d := 1) (b := B218_9) (gs := [r2 = 0]) (c' := (50, [some (22, 0), some (0, v1), some (0, v2), some (0, v3)], [], (hc, (mset h 0 0 0), o))) K218_9 rfl ⟨q4, trivial⟩ ?_
      refine zF_blk (m := []) (d := 0) (b := B218_1) (gs := []) (c' := (51, [some (22, 0), some (0, v1), some (0, v2), some (0, v3)], [(0, (-1))], (hc, (mset h 0 0 0), o))) K218_1 rfl trivial ?_
      exact zF_riM (zRe1_w (by decide +kernel)) e
    · refine zF_blk (m := []) (d := 0) (b := B218_9) (gs := [¬ (r2 = 0)]) (c' := (21, [some (22, 0), some (0, v1), some (0, v2), some (0, v3)], [], (hc, (mset h 0 0 0), o))) K218_9 rfl ⟨q4, trivial⟩ ?_
      obtain ⟨r3, q5, e⟩ := zB_s e
      refine zF_blk (m := []) (d := 0) (b := B218_3) (gs := []) (c' := (24, [some (22, 0), some (0, v1), some (0, v2), some (0, v3)], [(0, 1), (0, 0), (0, v3)], (hc, (mset h 0 0 0), o))) K218_3 rfl trivial ?_
      refine zF_call (k := 188) (cl := 12) (n := 3) (i := .invokestatic 151) (args := [(0, v3), (0, 0), (0, 1)]) (rest := []) (g1 := (hc, (mset h 0 0 0), o)) (r1 := some (0, r3)) (zCk1_w (by decide +kernel)) rfl rfl rfl (st' := [(0, r3)]) rfl (S188 (Nat.le_trans (by decide) hd) v3 0 1 (mset h 0 0 0) _ q5) ?_
      rcases zI_s e with ⟨q6, e⟩ | ⟨q6, e⟩
      · refine zF_blk (m := []) (d := 1) (b := B218_8) (gs := [r3 = 0]) (c' := (50, [some (22, 0), some (0, v1), some (0, v2), some (0, v3)], [], (hc, (mset h 0 0 0), o))) K218_8 rfl ⟨q6, trivial⟩ ?_
        refine zF_blk (m := []) (d := 0) (b := B218_1) (gs := []) (c' := (51, [some (22, 0), some (0, v1), some (0, v2), some (0, v3)], [(0, (-1))], (hc, (mset h 0 0 0), o))) K218_1 rfl trivial ?_
        exact zF_riM (zRe1_w (by decide +kernel)) e
      · refine zF_blk (m := []) (d := 0) (b := B218_8) (gs := [¬ (r3 = 0)]) (c' := (30, [some (22, 0), some (0, v1), some (0, v2), some (0, v3)], [], (hc, (mset h 0 0 0), o))) K218_8 rfl ⟨q6, trivial⟩ ?_
        obtain ⟨r4, q7, e⟩ := zB_s e
        refine zF_blk (m := []) (d := 0) (b := B218_4) (gs := []) (c' := (34, [some (22, 0), some (0, v1), some (0, v2), some (0, v3)], [(0, 0), (0, v2), (0, v1), (22, 0)], (hc, (mset h 0 0 0), o))) K218_4 rfl trivial ?_
        refine zF_call (k := 219) (cl := 12) (n := 4) (i := .invokevirtual 269) (args := [(22, 0), (0, v1), (0, v2), (0, 0)]) (rest := []) (g1 := (hc, (mset h 0 0 0), o)) (r1 := some (0, r4)) (zCk1_w (by decide +kernel)) rfl rfl rfl (st' := [(0, r4)]) rfl (S219 (Nat.le_trans (by decide) hd) v1 v2 0 (mset h 0 0 0) _ q7) ?_
        rcases zI_s e with ⟨q8, e⟩ | ⟨q8, e⟩
        · refine zF_blk (m := []) (d := 1) (b := B218_7) (gs := [r4 ≤ 0]) (c' := (50, [some (22, 0), some (0, v1), some (0, v2), some (0, v3)], [], (hc, (mset h 0 0 0), o))) K218_7 rfl ⟨q8, trivial⟩ ?_
          refine zF_blk (m := []) (d := 0) (b := B218_1) (gs := []) (c' := (51, [some (22, 0), some (0, v1), some (0, v2), some (0, v3)], [(0, (-1))], (hc, (mset h 0 0 0), o))) K218_1 rfl trivial ?_
          exact zF_riM (zRe1_w (by decide +kernel)) e
        · refine zF_blk (m := []) (d := 0) (b := B218_7) (gs := [¬ (r4 ≤ 0)]) (c' := (40, [some (22, 0), some (0, v1), some (0, v2), some (0, v3)], [], (hc, (mset h 0 0 0), o))) K218_7 rfl ⟨q8, trivial⟩ ?_
          obtain ⟨r5, q9, e⟩ := zB_s e
          refine zF_blk (m := []) (d := 0) (b := B218_5) (gs := []) (c' := (44, [some (22, 0), some (0, v1), some (0, v2), some (0, v3)], [(0, v3), (0, v2), (0, v1), (22, 0)], (hc, (mset h 0 0 0), o))) K218_5 rfl trivial ?_
          refine zF_call (k := 219) (cl := 12) (n := 4) (i := .invokevirtual 269) (args := [(22, 0), (0, v1), (0, v2), (0, v3)]) (rest := []) (g1 := (hc, (mset h 0 0 0), o)) (r1 := some (0, r5)) (zCk1_w (by decide +kernel)) rfl rfl rfl (st' := [(0, r5)]) rfl (S219 (Nat.le_trans (by decide) hd) v1 v2 v3 (mset h 0 0 0) _ q9) ?_
          refine zF_blk (m := []) (d := 0) (b := B218_6) (gs := []) (c' := (51, [some (22, 0), some (0, v1), some (0, v2), some (0, v3)], [(0, r5)], (hc, (mset h 0 0 0), o))) K218_6 rfl trivial ?_
          exact zF_riM (zRe1_w (by decide +kernel)) e
