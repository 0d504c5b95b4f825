/-! Functions of the methods, by wip/gen/lift.py. -/
def B184_0 : List zRow := [(13, .aload_n 0, 1, (0, 0, 0)), (14, .iconst 1, 1, (0, 0, 0)), (15, .putfield 186, 3, (12, 24, 0)), (18, .aload_n 0, 1, (0, 0, 0))]
theorem K184_0 : zRk 184 B184_0 = true := by decide +kernel
def B184_1 : List zRow := [(22, .aload_n 0, 1, (0, 0, 0)), (23, .iconst 2, 1, (0, 0, 0)), (24, .bipush 10, 2, (0, 0, 0))]
theorem K184_1 : zRk 184 B184_1 = true := by decide +kernel
def B184_2 : List zRow := [(34, .aload_n 0, 1, (0, 0, 0)), (35, .getfield 16, 3, (12, 15, 5243718)), (38, .iconst 0, 1, (0, 0, 0)), (39, .aload_n 0, 1, (0, 0, 0)), (40, .getfield 155, 3, (12, 13, 0)), (43, .iastore, 1, (0, 0, 0)), (44, .aload_n 0, 1, (0, 0, 0)), (45, .iconst 2, 1, (0, 0, 0)), (46, .bipush 10, 2, (0, 0, 0))]
theorem K184_2 : zRk 184 B184_2 = true := by decide +kernel
def B184_3 : List zRow := [(56, .aload_n 0, 1, (0, 0, 0)), (57, .getfield 16, 3, (12, 15, 5243718)), (60, .iconst 1, 1, (0, 0, 0)), (61, .aload_n 0, 1, (0, 0, 0)), (62, .getfield 155, 3, (12, 13, 0)), (65, .iastore, 1, (0, 0, 0)), (66, .iconst 1, 1, (0, 0, 0))]
theorem K184_3 : zRk 184 B184_3 = true := by decide +kernel
def B184_4 : List zRow := [(54, .iconst 0, 1, (0, 0, 0))]
theorem K184_4 : zRk 184 B184_4 = true := by decide +kernel
def B184_5 : List zRow := [(51, .ifCond .ne 5, 3, (0, 0, 0))]
theorem K184_5 : zRk 184 B184_5 = true := by decide +kernel
def B184_6 : List zRow := [(32, .iconst 0, 1, (0, 0, 0))]
theorem K184_6 : zRk 184 B184_6 = true := by decide +kernel
def B184_7 : List zRow := [(29, .ifCond .ne 5, 3, (0, 0, 0))]
theorem K184_7 : zRk 184 B184_7 = true := by decide +kernel
def B184_8 : List zRow := [(7, .aload_n 0, 1, (0, 0, 0)), (8, .iconst 3, 1, (0, 0, 0))]
theorem K184_8 : zRk 184 B184_8 = true := by decide +kernel
def B184_9 : List zRow := [(0, .aload_n 0, 1, (0, 0, 0)), (1, .getfield 186, 3, (12, 24, 0)), (4, .ifCond .eq 9, 3, (0, 0, 0))]
theorem K184_9 : zRk 184 B184_9 = true := by decide +kernel
/-- EchoValeModel.readLand()Z -/
def F184 (h : zHM) : Option (Int × zHM) := if (h 24 0) = 0 then (F176 (mset h 24 0 1)).bind fun r1 => (F186 2 10 r1).bind fun r2 => if ¬ r2.1 = 0 then (F186 2 10 (mset r2.2 15 0 (r2.2 13 0))).bind fun r3 => if ¬ r3.1 = 0 then some (1, (mset r3.2 15 1 (r3.2 13 0))) else some (0, r3.2) else some (0, r2.2) else (F185 3 h).bind fun r4 => zG (r4.1 = 0 ∨ r4.1 = 1) (some (r4.1, r4.2))
set_option maxRecDepth 100000 in
theorem S184 {spec : zRn zH2} {hc : zHC} {o : Int → Int} {d : Nat} (hd : 4 ≤ d) (h : zHM) (v : (Int × zHM)) (e : F184 h = some v) : zRu2 spec d 184 [(22, 0)] (hc, h, o) (some (0, v.1)) (hc, v.2, o) := by
  refine zF_in (D := 3) (mx := 1) (L := [some (22, 0)]) (by decide +kernel) rfl rfl hd (fun d hd => ?_)
  unfold F184 at e
  rcases zI_s e with ⟨q1, e⟩ | ⟨q1, e⟩
  · refine zF_blk (m := []) (d := 1) (b := B184_9) (gs := [(h 24 0) = 0]) (c' := (13, [some (22, 0)], [], (hc, h, o))) K184_9 rfl ⟨q1, trivial⟩ ?_
    obtain ⟨r1, q2, e⟩ := zB_s e
    refine zF_blk (m := []) (d := 0) (b := B184_0) (gs := [1 = 0 ∨ 1 = 1]) (c' := (19, [some (22, 0)], [(22, 0)], (hc, (mset h 24 0 1), o))) K184_0 rfl ⟨by decide, trivial⟩ ?_
    refine zF_call (k := 176) (cl := 12) (n := 1) (i := .invokevirtual 162) (args := [(22, 0)]) (rest := []) (g1 := (hc, r1, o)) (r1 := none) (by decide +kernel) rfl rfl rfl (st' := []) rfl (S176 (Nat.le_trans (by decide) hd)  (mset h 24 0 1) _ q2) ?_
    obtain ⟨r2, q3, e⟩ := zB_s e
    refine zF_blk (m := []) (d := 0) (b := B184_1) (gs := []) (c' := (26, [some (22, 0)], [(0, 10), (0, 2), (22, 0)], (hc, r1, o))) K184_1 rfl trivial ?_
    refine zF_call (k := 186) (cl := 12) (n := 3) (i := .invokevirtual 180) (args := [(22, 0), (0, 2), (0, 10)]) (rest := []) (g1 := (hc, r2.2, o)) (r1 := some (0, r2.1)) (by decide +kernel) rfl rfl rfl (st' := [(0, r2.1)]) rfl (S186 (Nat.le_trans (by decide) hd) 2 10 r1 _ q3) ?_
    rcases zI_s e with ⟨q4, e⟩ | ⟨q4, e⟩
    · refine zF_blk (m := []) (d := 1) (b := B184_7) (gs := [¬ r2.1 = 0]) (c' := (34, [some (22, 0)], [], (hc, r2.2, o))) K184_7 rfl ⟨q4, trivial⟩ ?_
      obtain ⟨r3, q5, e⟩ := zB_s e
      refine zF_blk (m := []) (d := 0) (b := B184_2) (gs := [0 ≤ 0 ∧ 0 < 209]) (c' := (48, [some (22, 0)], [(0, 10), (0, 2), (22, 0)], (hc, (mset r2.2 15 0 (r2.2 13 0)), o))) K184_2 rfl ⟨by decide, trivial⟩ ?_
      refine zF_call (k := 186) (cl := 12) (n := 3) (i := .invokevirtual 180) (args := [(22, 0), (0, 2), (0, 10)]) (rest := []) (g1 := (hc, r3.2, o)) (r1 := some (0, r3.1)) (by decide +kernel) rfl rfl rfl (st' := [(0, r3.1)]) rfl (S186 (Nat.le_trans (by decide) hd) 2 10 (mset r2.2 15 0 (r2.2 13 0)) _ q5) ?_
      rcases zI_s e with ⟨q6, e⟩ | ⟨q6, e⟩
      · refine zF_blk (m := []) (d := 1) (b := B184_5) (gs := [¬ r3.1 = 0]) (c' := (56, [some (22, 0)], [], (hc, r3.2, o))) K184_5 rfl ⟨q6, trivial⟩ ?_
        refine zF_blk (m := []) (d := 0) (b := B184_3) (gs := [0 ≤ 1 ∧ 1 < 209]) (c' := (67, [some (22, 0)], [(0, 1)], (hc, (mset r3.2 15 1 (r3.2 13 0)), o))) K184_3 rfl ⟨by decide, trivial⟩ ?_
        exact zF_rbM (by decide +kernel) (Or.inr rfl) e
      · refine zF_blk (m := []) (d := 0) (b := B184_5) (gs := [¬ (¬ r3.1 = 0)]) (c' := (54, [some (22, 0)], [], (hc, r3.2, o))) K184_5 rfl ⟨q6, trivial⟩ ?_
        refine zF_blk (m := []) (d := 0) (b := B184_4) (gs := []) (c' := (55, [some (22, 0)], [(0, 0)], (hc, r3.2, o))) K184_4 rfl trivial ?_
        exact zF_rbM (by decide +kernel) (Or.inl rfl) e
    · refine zF_blk (m := []) (d := 0) (b := B184_7) (gs := [¬ (¬ r2.1 = 0)]) (c' := (32, [some (22, 0)], [], (hc, r2.2, o))) K184_7 rfl ⟨q4, trivial⟩ ?_
      refine zF_blk (m := []) (d := 0) (b := B184_6) (gs := []) (c' := (33, [some (22, 0)], [(0, 0)], (hc, r2.2, o))) K184_6 rfl trivial ?_
      exact zF_rbM (by decide +kernel) (Or.inl rfl) e
  · refine zF_blk (m := []) (d := 0) (b := B184_9) (gs := [¬ ((h 24 0) = 0)]) (c' := (7, [some (22, 0)], [], (hc, h, o))) K184_9 rfl ⟨q1, trivial⟩ ?_
    obtain ⟨r4, q7, e⟩ := zB_s e
    refine zF_blk (m := []) (d := 0) (b := B184_8) (gs := []) (c' := (9, [some (22, 0)], [(0, 3), (22, 0)], (hc, h, o))) K184_8 rfl trivial ?_
    refine zF_call (k := 185) (cl := 12) (n := 2) (i := .invokevirtual 148) (args := [(22, 0), (0, 3)]) (rest := []) (g1 := (hc, r4.2, o)) (r1 := some (0, r4.1)) (by decide +kernel) rfl rfl rfl (st' := [(0, r4.1)]) rfl (S185 (Nat.le_trans (by decide) hd) 3 h _ q7) ?_
    obtain ⟨q8, e⟩ := zG_s e
    exact zF_rbM (by decide +kernel) q8 e
def B202_0 : List zRow := [(20, .iconst 0, 1, (0, 0, 0))]
theorem K202_0 : zRk 202 B202_0 = true := by decide +kernel
def B202_1 : List zRow := [(16, .iconst 1, 1, (0, 0, 0)), (17, .goto 4, 3, (0, 0, 0))]
theorem K202_1 : zRk 202 B202_1 = true := by decide +kernel
def B202_2 : List zRow := [(8, .aload_n 0, 1, (0, 0, 0)), (9, .getfield 117, 3, (12, 9, 0)), (12, .iload_n 1, 1, (0, 0, 0)), (13, .if_icmp .ne 7, 3, (0, 0, 0))]
theorem K202_2 : zRk 202 B202_2 = true := by decide +kernel
def B202_3 : List zRow := [(0, .aload_n 0, 1, (0, 0, 0)), (1, .getfield 107, 3, (12, 7, 0)), (4, .iconst 4, 1, (0, 0, 0)), (5, .if_icmp .ne 15, 3, (0, 0, 0))]
theorem K202_3 : zRk 202 B202_3 = true := by decide +kernel
/-- EchoValeModel.isSign(I)Z -/
def F202 (v1 : Int) (h : zHM) : Option Int := if ¬ (h 7 0) = 4 then some 0 else if ¬ (h 9 0) = v1 then some 0 else some 1
set_option maxRecDepth 100000 in
theorem S202 {spec : zRn zH2} {hc : zHC} {o : Int → Int} {d : Nat} (hd : 1 ≤ d) (v1 : Int) (h : zHM) (v : Int) (e : F202 v1 h = some v) : zRu2 spec d 202 [(22, 0), (0, v1)] (hc, h, o) (some (0, v)) (hc, h, o) := by
  refine zF_in (D := 0) (mx := 2) (L := [some (22, 0), some (0, v1)]) (by decide +kernel) rfl rfl hd (fun d hd => ?_)
  unfold F202 at e
  rcases zI_s e with ⟨q1, e⟩ | ⟨q1, e⟩
  · refine zF_blk (m := []) (d := 1) (b := B202_3) (gs := [¬ (h 7 0) = 4]) (c' := (20, [some (22, 0), some (0, v1)], [], (hc, h, o))) K202_3 rfl ⟨q1, trivial⟩ ?_
    refine zF_blk (m := []) (d := 0) (b := B202_0) (gs := []) (c' := (21, [some (22, 0), some (0, v1)], [(0, 0)], (hc, h, o))) K202_0 rfl trivial ?_
    obtain rfl := Option.some.inj e
    exact zF_rb (by decide +kernel) (Or.inl rfl)
  · refine zF_blk (m := []) (d := 0) (b := B202_3) (gs := [¬ (¬ (h 7 0) = 4)]) (c' := (8, [some (22, 0), some (0, v1)], [], (hc, h, o))) K202_3 rfl ⟨q1, trivial⟩ ?_
    rcases zI_s e with ⟨q2, e⟩ | ⟨q2, e⟩
    · refine zF_blk (m := []) (d := 1) (b := B202_2) (gs := [¬ (h 9 0) = v1]) (c' := (20, [some (22, 0), some (0, v1)], [], (hc, h, o))) K202_2 rfl ⟨q2, trivial⟩ ?_
      refine zF_blk (m := []) (d := 0) (b := B202_0) (gs := []) (c' := (21, [some (22, 0), some (0, v1)], [(0, 0)], (hc, h, o))) K202_0 rfl trivial ?_
      obtain rfl := Option.some.inj e
      exact zF_rb (by decide +kernel) (Or.inl rfl)
    · refine zF_blk (m := []) (d := 0) (b := B202_2) (gs := [¬ (¬ (h 9 0) = v1)]) (c' := (16, [some (22, 0), some (0, v1)], [], (hc, h, o))) K202_2 rfl ⟨q2, trivial⟩ ?_
      refine zF_blk (m := []) (d := 0) (b := B202_1) (gs := []) (c' := (21, [some (22, 0), some (0, v1)], [(0, 1)], (hc, h, o))) K202_1 rfl trivial ?_
      obtain rfl := Option.some.inj e
      exact zF_rb (by decide +kernel) (Or.inr rfl)
def B201_0 : List zRow := [(0, .aload_n 0, 1, (0, 0, 0)), (1, .bipush 59, 2, (0, 0, 0))]
theorem K201_0 : zRk 201 B201_0 = true := by decide +kernel
def B201_1 : List zRow := [(15, .aload_n 0, 1, (0, 0, 0))]
theorem K201_1 : zRk 201 B201_1 = true := by decide +kernel
def B201_2 : List zRow := [(19, .iconst 1, 1, (0, 0, 0))]
theorem K201_2 : zRk 201 B201_2 = true := by decide +kernel
def B201_3 : List zRow := [(9, .aload_n 0, 1, (0, 0, 0)), (10, .iconst 1, 1, (0, 0, 0))]
theorem K201_3 : zRk 201 B201_3 = true := by decide +kernel
def B201_4 : List zRow := [(6, .ifCond .ne 9, 3, (0, 0, 0))]
theorem K201_4 : zRk 201 B201_4 = true := by decide +kernel
/-- EchoValeModel.readEnd()Z -/
def F201 (h : zHM) : Option (Int × zHM) := (F202 59 h).bind fun r1 => if ¬ r1 = 0 then (F176 h).bind fun r2 => some (1, r2) else (F185 1 h).bind fun r3 => zG (r3.1 = 0 ∨ r3.1 = 1) (some (r3.1, r3.2))
set_option maxRecDepth 100000 in
theorem S201 {spec : zRn zH2} {hc : zHC} {o : Int → Int} {d : Nat} (hd : 3 ≤ d) (h : zHM) (v : (Int × zHM)) (e : F201 h = some v) : zRu2 spec d 201 [(22, 0)] (hc, h, o) (some (0, v.1)) (hc, v.2, o) := by
  refine zF_in (D := 2) (mx := 1) (L := [some (22, 0)]) (by decide +kernel) rfl rfl hd (fun d hd => ?_)
  unfold F201 at e
  obtain ⟨r1, q1, e⟩ := zB_s e
  refine zF_blk (m := []) (d := 0) (b := B201_0) (gs := []) (c' := (3, [some (22, 0)], [(0, 59), (22, 0)], (hc, h, o))) K201_0 rfl trivial ?_
  refine zF_call (k := 202) (cl := 12) (n := 2) (i := .invokevirtual 165) (args := [(22, 0), (0, 59)]) (rest := []) (g1 := (hc, h, o)) (r1 := some (0, r1)) (by decide +kernel) rfl rfl rfl (st' := [(0, r1)]) rfl (S202 (Nat.le_trans (by decide) hd) 59 h _ q1) ?_
  rcases zI_s e with ⟨q2, e⟩ | ⟨q2, e⟩
  · refine zF_blk (m := []) (d := 1) (b := B201_4) (gs := [¬ r1 = 0]) (c' := (15, [some (22, 0)], [], (hc, h, o))) K201_4 rfl ⟨q2, trivial⟩ ?_
    obtain ⟨r2, q3, e⟩ := zB_s e
    refine zF_blk (m := []) (d := 0) (b := B201_1) (gs := []) (c' := (16, [some (22, 0)], [(22, 0)], (hc, h, o))) K201_1 rfl trivial ?_
    refine zF_call (k := 176) (cl := 12) (n := 1) (i := .invokevirtual 162) (args := [(22, 0)]) (rest := []) (g1 := (hc, r2, o)) (r1 := none) (by decide +kernel) rfl rfl rfl (st' := []) rfl (S176 (Nat.le_trans (by decide) hd)  h _ q3) ?_
    refine zF_blk (m := []) (d := 0) (b := B201_2) (gs := []) (c' := (20, [some (22, 0)], [(0, 1)], (hc, r2, o))) K201_2 rfl trivial ?_
    exact zF_rbM (by decide +kernel) (Or.inr rfl) e
  · refine zF_blk (m := []) (d := 0) (b := B201_4) (gs := [¬ (¬ r1 = 0)]) (c' := (9, [some (22, 0)], [], (hc, h, o))) K201_4 rfl ⟨q2, trivial⟩ ?_
    obtain ⟨r3, q4, e⟩ := zB_s e
    refine zF_blk (m := []) (d := 0) (b := B201_3) (gs := []) (c' := (11, [some (22, 0)], [(0, 1), (22, 0)], (hc, h, o))) K201_3 rfl trivial ?_
    refine zF_call (k := 185) (cl := 12) (n := 2) (i := .invokevirtual 148) (args := [(22, 0), (0, 1)]) (rest := []) (g1 := (hc, r3.2, o)) (r1 := some (0, r3.1)) (by decide +kernel) rfl rfl rfl (st' := [(0, r3.1)]) rfl (S185 (Nat.le_trans (by decide) hd) 1 h _ q4) ?_
    obtain ⟨q5, e⟩ := zG_s e
    exact zF_rbM (by decide +kernel) q5 e
def B180_0 : List zRow := [(0, .aload_n 0, 1, (0, 0, 0)), (1, .iconst 0, 1, (0, 0, 0))]
theorem K180_0 : zRk 180 B180_0 = true := by decide +kernel
def B180_1 : List zRow := [(16, .aload_n 0, 1, (0, 0, 0)), (17, .iconst 1, 1, (0, 0, 0))]
theorem K180_1 : zRk 180 B180_1 = true := by decide +kernel
def B180_2 : List zRow := [(32, .aload_n 0, 1, (0, 0, 0)), (33, .iconst 2, 1, (0, 0, 0))]
theorem K180_2 : zRk 180 B180_2 = true := by decide +kernel
def B180_3 : List zRow := [(48, .aload_n 0, 1, (0, 0, 0)), (49, .iconst 3, 1, (0, 0, 0))]
theorem K180_3 : zRk 180 B180_3 = true := by decide +kernel
def B180_4 : List zRow := [(64, .aload_n 0, 1, (0, 0, 0)), (65, .iconst 4, 1, (0, 0, 0))]
theorem K180_4 : zRk 180 B180_4 = true := by decide +kernel
def B180_5 : List zRow := [(80, .aload_n 0, 1, (0, 0, 0)), (81, .iconst 5, 1, (0, 0, 0))]
theorem K180_5 : zRk 180 B180_5 = true := by decide +kernel
def B180_6 : List zRow := [(96, .aload_n 0, 1, (0, 0, 0)), (97, .bipush 6, 2, (0, 0, 0))]
theorem K180_6 : zRk 180 B180_6 = true := by decide +kernel
def B180_7 : List zRow := [(112, .aload_n 0, 1, (0, 0, 0)), (113, .iconst 1, 1, (0, 0, 0))]
theorem K180_7 : zRk 180 B180_7 = true := by decide +kernel
def B180_8 : List zRow := [(105, .aload_n 0, 1, (0, 0, 0))]
theorem K180_8 : zRk 180 B180_8 = true := by decide +kernel
def B180_9 : List zRow := [(109, .goto 8, 3, (0, 0, 0))]
theorem K180_9 : zRk 180 B180_9 = true := by decide +kernel
def B180_10 : List zRow := [(102, .ifCond .eq 10, 3, (0, 0, 0))]
theorem K180_10 : zRk 180 B180_10 = true := by decide +kernel
def B180_11 : List zRow := [(88, .aload_n 0, 1, (0, 0, 0))]
theorem K180_11 : zRk 180 B180_11 = true := by decide +kernel
def B180_12 : List zRow := [(92, .istore_n 1, 1, (0, 0, 0)), (93, .goto 25, 3, (0, 0, 0))]
theorem K180_12 : zRk 180 B180_12 = true := by decide +kernel
def B180_13 : List zRow := [(85, .ifCond .eq 11, 3, (0, 0, 0))]
theorem K180_13 : zRk 180 B180_13 = true := by decide +kernel
def B180_14 : List zRow := [(72, .aload_n 0, 1, (0, 0, 0))]
theorem K180_14 : zRk 180 B180_14 = true := by decide +kernel
def B180_15 : List zRow := [(76, .istore_n 1, 1, (0, 0, 0)), (77, .goto 41, 3, (0, 0, 0))]
theorem K180_15 : zRk 180 B180_15 = true := by decide +kernel
def B180_16 : List zRow := [(69, .ifCond .eq 11, 3, (0, 0, 0))]
theorem K180_16 : zRk 180 B180_16 = true := by decide +kernel
def B180_17 : List zRow := [(56, .aload_n 0, 1, (0, 0, 0))]
theorem K180_17 : zRk 180 B180_17 = true := by decide +kernel
def B180_18 : List zRow := [(60, .istore_n 1, 1, (0, 0, 0)), (61, .goto 57, 3, (0, 0, 0))]
theorem K180_18 : zRk 180 B180_18 = true := by decide +kernel
def B180_19 : List zRow := [(53, .ifCond .eq 11, 3, (0, 0, 0))]
theorem K180_19 : zRk 180 B180_19 = true := by decide +kernel
def B180_20 : List zRow := [(40, .aload_n 0, 1, (0, 0, 0))]
theorem K180_20 : zRk 180 B180_20 = true := by decide +kernel
def B180_21 : List zRow := [(44, .istore_n 1, 1, (0, 0, 0)), (45, .goto 73, 3, (0, 0, 0))]
theorem K180_21 : zRk 180 B180_21 = true := by decide +kernel
def B180_22 : List zRow := [(37, .ifCond .eq 11, 3, (0, 0, 0))]
theorem K180_22 : zRk 180 B180_22 = true := by decide +kernel
def B180_23 : List zRow := [(24, .aload_n 0, 1, (0, 0, 0))]
theorem K180_23 : zRk 180 B180_23 = true := by decide +kernel
def B180_24 : List zRow := [(28, .istore_n 1, 1, (0, 0, 0)), (29, .goto 89, 3, (0, 0, 0))]
theorem K180_24 : zRk 180 B180_24 = true := by decide +kernel
def B180_25 : List zRow := [(21, .ifCond .eq 11, 3, (0, 0, 0))]
theorem K180_25 : zRk 180 B180_25 = true := by decide +kernel
def B180_26 : List zRow := [(8, .aload_n 0, 1, (0, 0, 0))]
theorem K180_26 : zRk 180 B180_26 = true := by decide +kernel
def B180_27 : List zRow := [(12, .istore_n 1, 1, (0, 0, 0)), (13, .goto 105, 3, (0, 0, 0))]
theorem K180_27 : zRk 180 B180_27 = true := by decide +kernel
def B180_28 : List zRow := [(5, .ifCond .eq 11, 3, (0, 0, 0))]
theorem K180_28 : zRk 180 B180_28 = true := by decide +kernel
def B180_29 : List zRow := [(133, .iconst 0, 1, (0, 0, 0))]
theorem K180_29 : zRk 180 B180_29 = true := by decide +kernel
def B180_30 : List zRow := [(122, .aload_n 0, 1, (0, 0, 0))]
theorem K180_30 : zRk 180 B180_30 = true := by decide +kernel
def B180_31 : List zRow := [(129, .iconst 1, 1, (0, 0, 0)), (130, .goto 4, 3, (0, 0, 0))]
theorem K180_31 : zRk 180 B180_31 = true := by decide +kernel
def B180_32 : List zRow := [(126, .ifCond .eq 7, 3, (0, 0, 0))]
theorem K180_32 : zRk 180 B180_32 = true := by decide +kernel
def B180_33 : List zRow := [(118, .iload_n 1, 1, (0, 0, 0)), (119, .ifCond .eq 14, 3, (0, 0, 0))]
theorem K180_33 : zRk 180 B180_33 = true := by decide +kernel
def B180_34 : List zRow := [(117, .istore_n 1, 1, (0, 0, 0))]
theorem K180_34 : zRk 180 B180_34 = true := by decide +kernel
def F180_1 (v1 : Int) (h : zHM) : Option (Int × zHM) := if v1 = 0 then some (0, h) else (F201 h).bind fun r1 => if r1.1 = 0 then some (0, r1.2) else some (1, r1.2)
set_option maxRecDepth 100000 in
theorem T180_1 {spec : zRn zH2} {hc : zHC} {o : Int → Int} {d : Nat} (hd : 6 ≤ d) (v1 : Int) (h : zHM) (v : (Int × zHM)) (e : F180_1 v1 h = some v) : zFin 0 (fun _ => 0) (zRu2 spec d) 180 (some (0, v.1)) (hc, v.2, o) (118, [some (22, 0), some (0, v1)], [], (hc, h, o)) := by
  unfold F180_1 at e
  rcases zI_s e with ⟨q1, e⟩ | ⟨q1, e⟩
  · refine zF_blk (m := []) (d := 1) (b := B180_33) (gs := [v1 = 0]) (c' := (133, [some (22, 0), some (0, v1)], [], (hc, h, o))) K180_33 rfl ⟨q1, trivial⟩ ?_
    refine zF_blk (m := []) (d := 0) (b := B180_29) (gs := []) (c' := (134, [some (22, 0), some (0, v1)], [(0, 0)], (hc, h, o))) K180_29 rfl trivial ?_
    exact zF_rbM (by decide +kernel) (Or.inl rfl) e
  · refine zF_blk (m := []) (d := 0) (b := B180_33) (gs := [¬ (v1 = 0)]) (c' := (122, [some (22, 0), some (0, v1)], [], (hc, h, o))) K180_33 rfl ⟨q1, trivial⟩ ?_
    obtain ⟨r1, q2, e⟩ := zB_s e
    refine zF_blk (m := []) (d := 0) (b := B180_30) (gs := []) (c' := (123, [some (22, 0), some (0, v1)], [(22, 0)], (hc, h, o))) K180_30 rfl trivial ?_
    refine zF_call (k := 201) (cl := 12) (n := 1) (i := .invokevirtual 223) (args := [(22, 0)]) (rest := []) (g1 := (hc, r1.2, o)) (r1 := some (0, r1.1)) (by decide +kernel) rfl rfl rfl (st' := [(0, r1.1)]) rfl (S201 (Nat.le_trans (by decide) hd)  h _ q2) ?_
    rcases zI_s e with ⟨q3, e⟩ | ⟨q3, e⟩
    · refine zF_blk (m := []) (d := 1) (b := B180_32) (gs := [r1.1 = 0]) (c' := (133, [some (22, 0), some (0, v1)], [], (hc, r1.2, o))) K180_32 rfl ⟨q3, trivial⟩ ?_
      refine zF_blk (m := []) (d := 0) (b := B180_29) (gs := []) (c' := (134, [some (22, 0), some (0, v1)], [(0, 0)], (hc, r1.2, o))) K180_29 rfl trivial ?_
      exact zF_rbM (by decide +kernel) (Or.inl rfl) e
    · refine zF_blk (m := []) (d := 0) (b := B180_32) (gs := [¬ (r1.1 = 0)]) (c' := (129, [some (22, 0), some (0, v1)], [], (hc, r1.2, o))) K180_32 rfl ⟨q3, trivial⟩ ?_
      refine zF_blk (m := []) (d := 0) (b := B180_31) (gs := []) (c' := (134, [some (22, 0), some (0, v1)], [(0, 1)], (hc, r1.2, o))) K180_31 rfl trivial ?_
      exact zF_rbM (by decide +kernel) (Or.inr rfl) e
def F180_0 (s0 : Int) (h : zHM) : Option (Int × zHM) := F180_1 s0 h
set_option maxRecDepth 100000 in
theorem T180_0 {spec : zRn zH2} {hc : zHC} {o : Int → Int} {d : Nat} (hd : 6 ≤ d) (s0 : Int) (h : zHM) (v : (Int × zHM)) (e : F180_0 s0 h = some v) : zFin 0 (fun _ => 0) (zRu2 spec d) 180 (some (0, v.1)) (hc, v.2, o) (117, [some (22, 0), none], [(0, s0)], (hc, h, o)) := by
  unfold F180_0 at e
  refine zF_blk (m := []) (d := 0) (b := B180_34) (gs := []) (c' := (118, [some (22, 0), some (0, s0)], [], (hc, h, o))) K180_34 rfl trivial ?_
  exact T180_1 hd s0 h _ e
/-- EchoValeModel.readLine()Z -/
def F180 (h : zHM) : Option (Int × zHM) := (F181 0 h).bind fun r1 => if r1 = 0 then (F181 1 h).bind fun r2 => if r2 = 0 then (F181 2 h).bind fun r3 => if r3 = 0 then (F181 3 h).bind fun r4 => if r4 = 0 then (F181 4 h).bind fun r5 => if r5 = 0 then (F181 5 h).bind fun r6 => if r6 = 0 then (F181 6 h).bind fun r7 => if r7 = 0 then (F185 1 h).bind fun r8 => F180_0 r8.1 r8.2 else (F200 h).bind fun r9 => F180_0 r9.1 r9.2 else (F199 h).bind fun r10 => F180_1 r10.1 r10.2 else (F198 h).bind fun r11 => F180_1 r11.1 r11.2 else (F196 h).bind fun r12 => F180_1 r12.1 r12.2 else (F194 h).bind fun r13 => F180_1 r13.1 r13.2 else (F189 h).bind fun r14 => F180_1 r14.1 r14.2 else (F184 h).bind fun r15 => F180_1 r15.1 r15.2
set_option maxRecDepth 100000 in
theorem S180 {spec : zRn zH2} {hc : zHC} {o : Int → Int} {d : Nat} (hd : 7 ≤ d) (h : zHM) (v : (Int × zHM)) (e : F180 h = some v) : zRu2 spec d 180 [(22, 0)] (hc, h, o) (some (0, v.1)) (hc, v.2, o) := by
  refine zF_in (D := 6) (mx := 2) (L := [some (22, 0), none]) (by decide +kernel) rfl rfl hd (fun d hd => ?_)
  unfold F180 at e
  obtain ⟨r1, q1, e⟩ := zB_s e
  refine zF_blk (m := []) (d := 0) (b := B180_0) (gs := []) (c' := (2, [some (22, 0), none], [(0, 0), (22, 0)], (hc, h, o))) K180_0 rfl trivial ?_
  refine zF_call (k := 181) (cl := 12) (n := 2) (i := .invokevirtual 199) (args := [(22, 0), (0, 0)]) (rest := []) (g1 := (hc, h, o)) (r1 := some (0, r1)) (by decide +kernel) rfl rfl rfl (st' := [(0, r1)]) rfl (S181 (Nat.le_trans (by decide) hd) 0 h _ q1) ?_
  rcases zI_s e with ⟨q2, e⟩ | ⟨q2, e⟩
  · refine zF_blk (m := []) (d := 1) (b := B180_28) (gs := [r1 = 0]) (c' := (16, [some (22, 0), none], [], (hc, h, o))) K180_28 rfl ⟨q2, trivial⟩ ?_
    obtain ⟨r2, q3, e⟩ := zB_s e
    refine zF_blk (m := []) (d := 0) (b := B180_1) (gs := []) (c' := (18, [some (22, 0), none], [(0, 1), (22, 0)], (hc, h, o))) K180_1 rfl trivial ?_
    refine zF_call (k := 181) (cl := 12) (n := 2) (i := .invokevirtual 199) (args := [(22, 0), (0, 1)]) (rest := []) (g1 := (hc, h, o)) (r1 := some (0, r2)) (by decide +kernel) rfl rfl rfl (st' := [(0, r2)]) rfl (S181 (Nat.le_trans (by decide) hd) 1 h _ q3) ?_
    rcases zI_s e with ⟨q4, e⟩ | ⟨q4, e⟩
    · refine zF_blk (m := []) (d := 1) (b := B180_25) (gs := [r2 = 0]) (c' := (32, [some (22, 0), none], [], (hc, h, o))) K180_25 rfl ⟨q4, trivial⟩ ?_
      obtain ⟨r3, q5, e⟩ := zB_s e
      refine zF_blk (m := []) (d := 0) (b := B180_2) (gs := []) (c' := (34, [some (22, 0), none], [(0, 2), (22, 0)], (hc, h, o))) K180_2 rfl trivial ?_
      refine zF_call (k := 181) (cl := 12) (n := 2) (i := .invokevirtual 199) (args := [(22, 0), (0, 2)]) (rest := []) (g1 := (hc, h, o)) (r1 := some (0, r3)) (by decide +kernel) rfl rfl rfl (st' := [(0, r3)]) rfl (S181 (Nat.le_trans (by decide) hd) 2 h _ q5) ?_
      rcases zI_s e with ⟨q6, e⟩ | ⟨q6, e⟩
      · refine zF_blk (m := []) (d := 1) (b := B180_22) (gs := [r3 = 0]) (c' := (48, [some (22, 0), none], [], (hc, h, o))) K180_22 rfl ⟨q6, trivial⟩ ?_
        obtain ⟨r4, q7, e⟩ := zB_s e
        refine zF_blk (m := []) (d := 0) (b := B180_3) (gs := []) (c' := (50, [some (22, 0), none], [(0, 3), (22, 0)], (hc, h, o))) K180_3 rfl trivial ?_
        refine zF_call (k := 181) (cl := 12) (n := 2) (i := .invokevirtual 199) (args := [(22, 0), (0, 3)]) (rest := []) (g1 := (hc, h, o)) (r1 := some (0, r4)) (by decide +kernel) rfl rfl rfl (st' := [(0, r4)]) rfl (S181 (Nat.le_trans (by decide) hd) 3 h _ q7) ?_
        rcases zI_s e with ⟨q8, e⟩ | ⟨q8, e⟩
        · refine zF_blk (m := []) (d := 1) (b := B180_19) (gs := [r4 = 0]) (c' := (64, [some (22, 0), none], [], (hc, h, o))) K180_19 rfl ⟨q8, trivial⟩ ?_
          obtain ⟨r5, q9, e⟩ := zB_s e
          refine zF_blk (m := []) (d := 0) (b := B180_4) (gs := []) (c' := (66, [some (22, 0), none], [(0, 4), (22, 0)], (hc, h, o))) K180_4 rfl trivial ?_
          refine zF_call (k := 181) (cl := 12) (n := 2) (i := .invokevirtual 199) (args := [(22, 0), (0, 4)]) (rest := []) (g1 := (hc, h, o)) (r1 := some (0, r5)) (by decide +kernel) rfl rfl rfl (st' := [(0, r5)]) rfl (S181 (Nat.le_trans (by decide) hd) 4 h _ q9) ?_
          rcases zI_s e with ⟨q10, e⟩ | ⟨q10, e⟩
          · refine zF_blk (m := []) (d := 1) (b := B180_16) (gs := [r5 = 0]) (c' := (80, [some (22, 0), none], [], (hc, h, o))) K180_16 rfl ⟨q10, trivial⟩ ?_
            obtain ⟨r6, q11, e⟩ := zB_s e
            refine zF_blk (m := []) (d := 0) (b := B180_5) (gs := []) (c' := (82, [some (22, 0), none], [(0, 5), (22, 0)], (hc, h, o))) K180_5 rfl trivial ?_
            refine zF_call (k := 181) (cl := 12) (n := 2) (i := .invokevirtual 199) (args := [(22, 0), (0, 5)]) (rest := []) (g1 := (hc, h, o)) (r1 := some (0, r6)) (by decide +kernel) rfl rfl rfl (st' := [(0, r6)]) rfl (S181 (Nat.le_trans (by decide) hd) 5 h _ q11) ?_
            rcases zI_s e with ⟨q12, e⟩ | ⟨q12, e⟩
            · refine zF_blk (m := []) (d := 1) (b := B180_13) (gs := [r6 = 0]) (c' := (96, [some (22, 0), none], [], (hc, h, o))) K180_13 rfl ⟨q12, trivial⟩ ?_
              obtain ⟨r7, q13, e⟩ := zB_s e
              refine zF_blk (m := []) (d := 0) (b := B180_6) (gs := []) (c' := (99, [some (22, 0), none], [(0, 6), (22, 0)], (hc, h, o))) K180_6 rfl trivial ?_
              refine zF_call (k := 181) (cl := 12) (n := 2) (i := .invokevirtual 199) (args := [(22, 0), (0, 6)]) (rest := []) (g1 := (hc, h, o)) (r1 := some (0, r7)) (by decide +kernel) rfl rfl rfl (st' := [(0, r7)]) rfl (S181 (Nat.le_trans (by decide) hd) 6 h _ q13) ?_
              rcases zI_s e with ⟨q14, e⟩ | ⟨q14, e⟩
              · refine zF_blk (m := []) (d := 1) (b := B180_10) (gs := [r7 = 0]) (c' := (112, [some (22, 0), none], [], (hc, h, o))) K180_10 rfl ⟨q14, trivial⟩ ?_
                obtain ⟨r8, q15, e⟩ := zB_s e
                refine zF_blk (m := []) (d := 0) (b := B180_7) (gs := []) (c' := (114, [some (22, 0), none], [(0, 1), (22, 0)], (hc, h, o))) K180_7 rfl trivial ?_
                refine zF_call (k := 185) (cl := 12) (n := 2) (i := .invokevirtual 148) (args := [(22, 0), (0, 1)]) (rest := []) (g1 := (hc, r8.2, o)) (r1 := some (0, r8.1)) (by decide +kernel) rfl rfl rfl (st' := [(0, r8.1)]) rfl (S185 (Nat.le_trans (by decide) hd) 1 h _ q15) ?_
                exact T180_0 hd r8.1 r8.2 _ e
              · refine zF_blk (m := []) (d := 0) (b := B180_10) (gs := [¬ (r7 = 0)]) (c' := (105, [some (22, 0), none], [], (hc, h, o))) K180_10 rfl ⟨q14, trivial⟩ ?_
                obtain ⟨r9, q16, e⟩ := zB_s e
                refine zF_blk (m := []) (d := 0) (b := B180_8) (gs := []) (c' := (106, [some (22, 0), none], [(22, 0)], (hc, h, o))) K180_8 rfl trivial ?_
                refine zF_call (k := 200) (cl := 12) (n := 1) (i := .invokevirtual 220) (args := [(22, 0)]) (rest := []) (g1 := (hc, r9.2, o)) (r1 := some (0, r9.1)) (by decide +kernel) rfl rfl rfl (st' := [(0, r9.1)]) rfl (S200 (Nat.le_trans (by decide) hd)  h _ q16) ?_
                refine zF_blk (m := []) (d := 0) (b := B180_9) (gs := []) (c' := (117, [some (22, 0), none], [(0, r9.1)], (hc, r9.2, o))) K180_9 rfl trivial ?_
                exact T180_0 hd r9.1 r9.2 _ e
            · refine zF_blk (m := []) (d := 0) (b := B180_13) (gs := [¬ (r6 = 0)]) (c' := (88, [some (22, 0), none], [], (hc, h, o))) K180_13 rfl ⟨q12, trivial⟩ ?_
              obtain ⟨r10, q17, e⟩ := zB_s e
              refine zF_blk (m := []) (d := 0) (b := B180_11) (gs := []) (c' := (89, [some (22, 0), none], [(22, 0)], (hc, h, o))) K180_11 rfl trivial ?_
              refine zF_call (k := 199) (cl := 12) (n := 1) (i := .invokevirtual 217) (args := [(22, 0)]) (rest := []) (g1 := (hc, r10.2, o)) (r1 := some (0, r10.1)) (by decide +kernel) rfl rfl rfl (st' := [(0, r10.1)]) rfl (S199 (Nat.le_trans (by decide) hd)  h _ q17) ?_
              refine zF_blk (m := []) (d := 0) (b := B180_12) (gs := []) (c' := (118, [some (22, 0), some (0, r10.1)], [], (hc, r10.2, o))) K180_12 rfl trivial ?_
              exact T180_1 hd r10.1 r10.2 _ e
          · refine zF_blk (m := []) (d := 0) (b := B180_16) (gs := [¬ (r5 = 0)]) (c' := (72, [some (22, 0), none], [], (hc, h, o))) K180_16 rfl ⟨q10, trivial⟩ ?_
            obtain ⟨r11, q18, e⟩ := zB_s e
            refine zF_blk (m := []) (d := 0) (b := B180_14) (gs := []) (c' := (73, [some (22, 0), none], [(22, 0)], (hc, h, o))) K180_14 rfl trivial ?_
            refine zF_call (k := 198) (cl := 12) (n := 1) (i := .invokevirtual 214) (args := [(22, 0)]) (rest := []) (g1 := (hc, r11.2, o)) (r1 := some (0, r11.1)) (by decide +kernel) rfl rfl rfl (st' := [(0, r11.1)]) rfl (S198 (Nat.le_trans (by decide) hd)  h _ q18) ?_
            refine zF_blk (m := []) (d := 0) (b := B180_15) (gs := []) (c' := (118, [some (22, 0), some (0, r11.1)], [], (hc, r11.2, o))) K180_15 rfl trivial ?_
            exact T180_1 hd r11.1 r11.2 _ e
        · refine zF_blk (m := []) (d := 0) (b := B180_19) (gs := [¬ (r4 = 0)]) (c' := (56, [some (22, 0), none], [], (hc, h, o))) K180_19 rfl ⟨q8, trivial⟩ ?_
          obtain ⟨r12, q19, e⟩ := zB_s e
          refine zF_blk (m := []) (d := 0) (b := B180_17) (gs := []) (c' := (57, [some (22, 0), none], [(22, 0)], (hc, h, o))) K180_17 rfl trivial ?_
          refine zF_call (k := 196) (cl := 12) (n := 1) (i := .invokevirtual 211) (args := [(22, 0)]) (rest := []) (g1 := (hc, r12.2, o)) (r1 := some (0, r12.1)) (by decide +kernel) rfl rfl rfl (st' := [(0, r12.1)]) rfl (S196 (Nat.le_trans (by decide) hd)  h _ q19) ?_
          refine zF_blk (m := []) (d := 0) (b := B180_18) (gs := []) (c' := (118, [some (22, 0), some (0, r12.1)], [], (hc, r12.2, o))) K180_18 rfl trivial ?_
          exact T180_1 hd r12.1 r12.2 _ e
      · refine zF_blk (m := []) (d := 0) (b := B180_22) (gs := [¬ (r3 = 0)]) (c' := (40, [some (22, 0), none], [], (hc, h, o))) K180_22 rfl ⟨q6, trivial⟩ ?_
        obtain ⟨r13, q20, e⟩ := zB_s e
        refine zF_blk (m := []) (d := 0) (b := B180_20) (gs := []) (c' := (41, [some (22, 0), none], [(22, 0)], (hc, h, o))) K180_20 rfl trivial ?_
        refine zF_call (k := 194) (cl := 12) (n := 1) (i := .invokevirtual 208) (args := [(22, 0)]) (rest := []) (g1 := (hc, r13.2, o)) (r1 := some (0, r13.1)) (by decide +kernel) rfl rfl rfl (st' := [(0, r13.1)]) rfl (S194 (Nat.le_trans (by decide) hd)  h _ q20) ?_
        refine zF_blk (m := []) (d := 0) (b := B180_21) (gs := []) (c' := (118, [some (22, 0), some (0, r13.1)], [], (hc, r13.2, o))) K180_21 rfl trivial ?_
        exact T180_1 hd r13.1 r13.2 _ e
    · refine zF_blk (m := []) (d := 0) (b := B180_25) (gs := [¬ (r2 = 0)]) (c' := (24, [some (22, 0), none], [], (hc, h, o))) K180_25 rfl ⟨q4, trivial⟩ ?_
      obtain ⟨r14, q21, e⟩ := zB_s e
      refine zF_blk (m := []) (d := 0) (b := B180_23) (gs := []) (c' := (25, [some (22, 0), none], [(22, 0)], (hc, h, o))) K180_23 rfl trivial ?_
      refine zF_call (k := 189) (cl := 12) (n := 1) (i := .invokevirtual 205) (args := [(22, 0)]) (rest := []) (g1 := (hc, r14.2, o)) (r1 := some (0, r14.1)) (by decide +kernel) rfl rfl rfl (st' := [(0, r14.1)]) rfl (S189 (Nat.le_trans (by decide) hd)  h _ q21) ?_
      refine zF_blk (m := []) (d := 0) (b := B180_24) (gs := []) (c' := (118, [some (22, 0), some (0, r14.1)], [], (hc, r14.2, o))) K180_24 rfl trivial ?_
      exact T180_1 hd r14.1 r14.2 _ e
  · refine zF_blk (m := []) (d := 0) (b := B180_28) (gs := [¬ (r1 = 0)]) (c' := (8, [some (22, 0), none], [], (hc, h, o))) K180_28 rfl ⟨q2, trivial⟩ ?_
    obtain ⟨r15, q22, e⟩ := zB_s e
    refine zF_blk (m := []) (d := 0) (b := B180_26) (gs := []) (c' := (9, [some (22, 0), none], [(22, 0)], (hc, h, o))) K180_26 rfl trivial ?_
    refine zF_call (k := 184) (cl := 12) (n := 1) (i := .invokevirtual 202) (args := [(22, 0)]) (rest := []) (g1 := (hc, r15.2, o)) (r1 := some (0, r15.1)) (by decide +kernel) rfl rfl rfl (st' := [(0, r15.1)]) rfl (S184 (Nat.le_trans (by decide) hd)  h _ q22) ?_
    refine zF_blk (m := []) (d := 0) (b := B180_27) (gs := []) (c' := (118, [some (22, 0), some (0, r15.1)], [], (hc, r15.2, o))) K180_27 rfl trivial ?_
    exact T180_1 hd r15.1 r15.2 _ e
