/-! Functions of the methods, by wip/gen/lift.py. -/
def B190_0 : List zRow := [(0, .aload_n 0, 1, (0, 0, 0))]
theorem K190_0 : zRk 190 B190_0 = true := by decide +kernel
def B190_1 : List zRow := [(13, .aload_n 0, 1, (0, 0, 0)), (14, .getfield 32, 3, (12, 20, 5505074)), (17, .iconst 0, 1, (0, 0, 0)), (18, .aload_n 0, 1, (0, 0, 0)), (19, .getfield 16, 3, (12, 15, 5243718)), (22, .iconst 2, 1, (0, 0, 0)), (23, .iaload, 1, (0, 0, 0)), (24, .aload_n 0, 1, (0, 0, 0)), (25, .getfield 120, 3, (12, 12, 1))]
theorem K190_1 : zRk 190 B190_1 = true := by decide +kernel
def B190_2 : List zRow := [(35, .aload_n 0, 1, (0, 0, 0)), (36, .getfield 32, 3, (12, 20, 5505074)), (39, .bipush 6, 2, (0, 0, 0)), (41, .aload_n 0, 1, (0, 0, 0)), (42, .getfield 16, 3, (12, 15, 5243718)), (45, .iconst 3, 1, (0, 0, 0)), (46, .iaload, 1, (0, 0, 0)), (47, .aload_n 0, 1, (0, 0, 0)), (48, .getfield 120, 3, (12, 12, 1))]
theorem K190_2 : zRk 190 B190_2 = true := by decide +kernel
def B190_3 : List zRow := [(64, .aload_n 0, 1, (0, 0, 0)), (65, .getfield 32, 3, (12, 20, 5505074)), (68, .iload_n 1, 1, (0, 0, 0)), (69, .aload_n 0, 1, (0, 0, 0)), (70, .getfield 120, 3, (12, 12, 1)), (73, .lastore, 1, (0, 0, 0)), (74, .aload_n 0, 1, (0, 0, 0))]
theorem K190_3 : zRk 190 B190_3 = true := by decide +kernel
def B190_4 : List zRow := [(78, .iconst 1, 1, (0, 0, 0))]
theorem K190_4 : zRk 190 B190_4 = true := by decide +kernel
def B190_5 : List zRow := [(54, .iconst (-1), 1, (0, 0, 0)), (55, .if_icmp .eq 9, 3, (0, 0, 0))]
theorem K190_5 : zRk 190 B190_5 = true := by decide +kernel
def B190_6 : List zRow := [(31, .iconst (-1), 1, (0, 0, 0)), (32, .if_icmp .ne 26, 3, (0, 0, 0))]
theorem K190_6 : zRk 190 B190_6 = true := by decide +kernel
def B190_7 : List zRow := [(7, .aload_n 0, 1, (0, 0, 0)), (8, .iconst 1, 1, (0, 0, 0))]
theorem K190_7 : zRk 190 B190_7 = true := by decide +kernel
def B190_8 : List zRow := [(4, .ifCond .ne 9, 3, (0, 0, 0))]
theorem K190_8 : zRk 190 B190_8 = true := by decide +kernel
def B190_9 : List zRow := [(58, .aload_n 0, 1, (0, 0, 0)), (59, .iconst 3, 1, (0, 0, 0))]
theorem K190_9 : zRk 190 B190_9 = true := by decide +kernel
def F190_0 (h : zHM) : Option (Int × zHM) := (F185 3 h).bind fun r1 => zG (r1.1 = 0 ∨ r1.1 = 1) (some (r1.1, r1.2))
set_option maxRecDepth 100000 in
theorem T190_0 {spec : zRn zH2} {hc : zHC} {o : Int → Int} {d : Nat} (hd : 3 ≤ d) (h : zHM) (v : (Int × zHM)) (e : F190_0 h = some v) : zFin 0 (fun _ => 0) (zRu2 spec d) 190 (some (0, v.1)) (hc, v.2, o) (58, [some (22, 0), none], [], (hc, h, o)) := by
  unfold F190_0 at e
  obtain ⟨r1, q1, e⟩ := zB_s e
  refine zF_blk (m := []) (d := 0) (b := B190_9) (gs := []) (c' := (60, [some (22, 0), none], [(0, 3), (22, 0)], (hc, h, o))) K190_9 rfl trivial ?_
  refine zF_call (k := 185) (cl := 12) (n := 2) (i := .invokevirtual 148) (args := [(22, 0), (0, 3)]) (rest := []) (g1 := (hc, r1.2, o)) (r1 := some (0, r1.1)) (by decide +kernel) rfl rfl rfl (st' := [(0, r1.1)]) rfl (S185 (Nat.le_trans (by decide) hd) 3 h _ q1) ?_
  obtain ⟨q2, e⟩ := zG_s e
  exact zF_rbM (by decide +kernel) q2 e
/-- EchoValeModel.readNew(I)Z -/
def F190 (v1 : Int) (h : zHM) : Option (Int × zHM) := (F191 h).bind fun r1 => if ¬ r1 = 0 then (F192 0 (h 15 2) (h 12 0) h).bind fun r2 => if ¬ r2 = (-1) then F190_0 h else (F192 6 (h 15 3) (h 12 0) h).bind fun r3 => if r3 = (-1) then zG (0 ≤ v1 ∧ v1 < 12) ((F176 (mset h 20 v1 (h 12 0))).bind fun r4 => some (1, r4)) else F190_0 h else (F185 1 h).bind fun r5 => zG (r5.1 = 0 ∨ r5.1 = 1) (some (r5.1, r5.2))
set_option maxRecDepth 100000 in
theorem S190 {spec : zRn zH2} {hc : zHC} {o : Int → Int} {d : Nat} (hd : 4 ≤ d) (v1 : Int) (h : zHM) (v : (Int × zHM)) (e : F190 v1 h = some v) : zRu2 spec d 190 [(22, 0), (0, v1)] (hc, h, o) (some (0, v.1)) (hc, v.2, o) := by
  refine zF_in (D := 3) (mx := 2) (L := [some (22, 0), some (0, v1)]) (by decide +kernel) rfl rfl hd (fun d hd => ?_)
  unfold F190 at e
  obtain ⟨r1, q1, e⟩ := zB_s e
  refine zF_blk (m := []) (d := 0) (b := B190_0) (gs := []) (c' := (1, [some (22, 0), some (0, v1)], [(22, 0)], (hc, h, o))) K190_0 rfl trivial ?_
  refine zF_call (k := 191) (cl := 12) (n := 1) (i := .invokevirtual 172) (args := [(22, 0)]) (rest := []) (g1 := (hc, h, o)) (r1 := some (0, r1)) (by decide +kernel) rfl rfl rfl (st' := [(0, r1)]) rfl (S191 (Nat.le_trans (by decide) hd)  h _ q1) ?_
  rcases zI_s e with ⟨q2, e⟩ | ⟨q2, e⟩
  · refine zF_blk (m := []) (d := 1) (b := B190_8) (gs := [¬ r1 = 0]) (c' := (13, [some (22, 0), some (0, v1)], [], (hc, h, o))) K190_8 rfl ⟨q2, trivial⟩ ?_
    obtain ⟨r2, q3, e⟩ := zB_s e
    refine zF_blk (m := []) (d := 0) (b := B190_1) (gs := [0 ≤ 2 ∧ 2 < 209]) (c' := (28, [some (22, 0), some (0, v1)], [(1, (h 12 0)), (0, (h 15 2)), (0, 0), (1409300220, 0)], (hc, h, o))) K190_1 rfl ⟨by decide, trivial⟩ ?_
    refine zF_call (k := 192) (cl := 12) (n := 4) (i := .invokestatic 176) (args := [(1409300220, 0), (0, 0), (0, (h 15 2)), (1, (h 12 0))]) (rest := []) (g1 := (hc, h, o)) (r1 := some (0, r2)) (by decide +kernel) rfl rfl rfl (st' := [(0, r2)]) rfl (S192 (Nat.le_trans (by decide) hd) 0 (h 15 2) (h 12 0) h _ q3) ?_
    rcases zI_s e with ⟨q4, e⟩ | ⟨q4, e⟩
    · refine zF_blk (m := []) (d := 1) (b := B190_6) (gs := [¬ r2 = (-1)]) (c' := (58, [some (22, 0), some (0, v1)], [], (hc, h, o))) K190_6 rfl ⟨q4, trivial⟩ ?_
      refine zF_blk (m := [true, false]) (d := 0) (b := []) (gs := []) (c' := (58, [some (22, 0), none], [], (hc, h, o))) rfl rfl trivial ?_
      exact T190_0 hd h _ e
    · refine zF_blk (m := []) (d := 0) (b := B190_6) (gs := [¬ (¬ r2 = (-1))]) (c' := (35, [some (22, 0), some (0, v1)], [], (hc, h, o))) K190_6 rfl ⟨q4, trivial⟩ ?_
      obtain ⟨r3, q5, e⟩ := zB_s e
      refine zF_blk (m := []) (d := 0) (b := B190_2) (gs := [0 ≤ 3 ∧ 3 < 209]) (c' := (51, [some (22, 0), some (0, v1)], [(1, (h 12 0)), (0, (h 15 3)), (0, 6), (1409300220, 0)], (hc, h, o))) K190_2 rfl ⟨by decide, trivial⟩ ?_
      refine zF_call (k := 192) (cl := 12) (n := 4) (i := .invokestatic 176) (args := [(1409300220, 0), (0, 6), (0, (h 15 3)), (1, (h 12 0))]) (rest := []) (g1 := (hc, h, o)) (r1 := some (0, r3)) (by decide +kernel) rfl rfl rfl (st' := [(0, r3)]) rfl (S192 (Nat.le_trans (by decide) hd) 6 (h 15 3) (h 12 0) h _ q5) ?_
      rcases zI_s e with ⟨q6, e⟩ | ⟨q6, e⟩
      · refine zF_blk (m := []) (d := 1) (b := B190_5) (gs := [r3 = (-1)]) (c' := (64, [some (22, 0), some (0, v1)], [], (hc, h, o))) K190_5 rfl ⟨q6, trivial⟩ ?_
        obtain ⟨q7, e⟩ := zG_s e
        obtain ⟨r4, q8, e⟩ := zB_s e
        refine zF_blk (m := []) (d := 0) (b := B190_3) (gs := [0 ≤ v1 ∧ v1 < 12]) (c' := (75, [some (22, 0), some (0, v1)], [(22, 0)], (hc, (mset h 20 v1 (h 12 0)), o))) K190_3 rfl ⟨q7, trivial⟩ ?_
        refine zF_call (k := 176) (cl := 12) (n := 1) (i := .invokevirtual 162) (args := [(22, 0)]) (rest := []) (g1 := (hc, r4, o)) (r1 := none) (by decide +kernel) rfl rfl rfl (st' := []) rfl (S176 (Nat.le_trans (by decide) hd)  (mset h 20 v1 (h 12 0)) _ q8) ?_
        refine zF_blk (m := []) (d := 0) (b := B190_4) (gs := []) (c' := (79, [some (22, 0), some (0, v1)], [(0, 1)], (hc, r4, o))) K190_4 rfl trivial ?_
        exact zF_rbM (by decide +kernel) (Or.inr rfl) e
      · refine zF_blk (m := []) (d := 0) (b := B190_5) (gs := [¬ (r3 = (-1))]) (c' := (58, [some (22, 0), some (0, v1)], [], (hc, h, o))) K190_5 rfl ⟨q6, trivial⟩ ?_
        refine zF_blk (m := [true, false]) (d := 0) (b := []) (gs := []) (c' := (58, [some (22, 0), none], [], (hc, h, o))) rfl rfl trivial ?_
        exact T190_0 hd h _ e
  · refine zF_blk (m := []) (d := 0) (b := B190_8) (gs := [¬ (¬ r1 = 0)]) (c' := (7, [some (22, 0), some (0, v1)], [], (hc, h, o))) K190_8 rfl ⟨q2, trivial⟩ ?_
    obtain ⟨r5, q9, e⟩ := zB_s e
    refine zF_blk (m := []) (d := 0) (b := B190_7) (gs := []) (c' := (9, [some (22, 0), some (0, v1)], [(0, 1), (22, 0)], (hc, h, o))) K190_7 rfl trivial ?_
    refine zF_call (k := 185) (cl := 12) (n := 2) (i := .invokevirtual 148) (args := [(22, 0), (0, 1)]) (rest := []) (g1 := (hc, r5.2, o)) (r1 := some (0, r5.1)) (by decide +kernel) rfl rfl rfl (st' := [(0, r5.1)]) rfl (S185 (Nat.le_trans (by decide) hd) 1 h _ q9) ?_
    obtain ⟨q10, e⟩ := zG_s e
    exact zF_rbM (by decide +kernel) q10 e
def B194_0 : List zRow := [(19, .aload_n 0, 1, (0, 0, 0))]
theorem K194_0 : zRk 194 B194_0 = true := by decide +kernel
def B194_1 : List zRow := [(23, .aload_n 0, 1, (0, 0, 0)), (24, .bipush 6, 2, (0, 0, 0)), (26, .iload_n 1, 1, (0, 0, 0))]
theorem K194_1 : zRk 194 B194_1 = true := by decide +kernel
def B194_2 : List zRow := [(27, .iadd, 1, (0, 0, 0))]
theorem K194_2 : zRk 194 B194_2 = true := by decide +kernel
def B194_3 : List zRow := [(41, .iconst 0, 1, (0, 0, 0))]
theorem K194_3 : zRk 194 B194_3 = true := by decide +kernel
def B194_4 : List zRow := [(34, .aload_n 0, 1, (0, 0, 0))]
theorem K194_4 : zRk 194 B194_4 = true := by decide +kernel
def B194_5 : List zRow := [(43, .aload_n 0, 1, (0, 0, 0)), (44, .getfield 16, 3, (12, 15, 5243718)), (47, .bipush 25, 2, (0, 0, 0)), (49, .iconst 2, 1, (0, 0, 0)), (50, .iload_n 1, 1, (0, 0, 0))]
theorem K194_5 : zRk 194 B194_5 = true := by decide +kernel
def B194_6 : List zRow := [(51, .imul, 1, (0, 0, 0))]
theorem K194_6 : zRk 194 B194_6 = true := by decide +kernel
def B194_7 : List zRow := [(52, .iadd, 1, (0, 0, 0)), (53, .aload_n 0, 1, (0, 0, 0)), (54, .getfield 155, 3, (12, 13, 0)), (57, .iastore, 1, (0, 0, 0)), (58, .aload_n 0, 1, (0, 0, 0)), (59, .getfield 16, 3, (12, 15, 5243718)), (62, .bipush 25, 2, (0, 0, 0)), (64, .iconst 2, 1, (0, 0, 0)), (65, .iload_n 1, 1, (0, 0, 0))]
theorem K194_7 : zRk 194 B194_7 = true := by decide +kernel
def B194_8 : List zRow := [(66, .imul, 1, (0, 0, 0))]
theorem K194_8 : zRk 194 B194_8 = true := by decide +kernel
def B194_9 : List zRow := [(67, .iadd, 1, (0, 0, 0)), (68, .iconst 1, 1, (0, 0, 0)), (69, .iadd, 1, (0, 0, 0)), (70, .iconst (-1), 1, (0, 0, 0)), (71, .iastore, 1, (0, 0, 0)), (72, .aload_n 0, 1, (0, 0, 0)), (73, .getfield 16, 3, (12, 15, 5243718)), (76, .iconst 3, 1, (0, 0, 0)), (77, .dup2, 1, (0, 0, 0)), (78, .iaload, 1, (0, 0, 0)), (79, .iconst 1, 1, (0, 0, 0)), (80, .iadd, 1, (0, 0, 0)), (81, .iastore, 1, (0, 0, 0)), (82, .iconst 1, 1, (0, 0, 0))]
theorem K194_9 : zRk 194 B194_9 = true := by decide +kernel
def B194_10 : List zRow := [(38, .ifCond .ne 5, 3, (0, 0, 0))]
theorem K194_10 : zRk 194 B194_10 = true := by decide +kernel
def B194_11 : List zRow := [(31, .ifCond .eq 10, 3, (0, 0, 0))]
theorem K194_11 : zRk 194 B194_11 = true := by decide +kernel
def B194_12 : List zRow := [(13, .aload_n 0, 1, (0, 0, 0)), (14, .iconst 4, 1, (0, 0, 0))]
theorem K194_12 : zRk 194 B194_12 = true := by decide +kernel
def B194_13 : List zRow := [(0, .aload_n 0, 1, (0, 0, 0)), (1, .getfield 16, 3, (12, 15, 5243718)), (4, .iconst 3, 1, (0, 0, 0)), (5, .iaload, 1, (0, 0, 0)), (6, .istore_n 1, 1, (0, 0, 0)), (7, .iload_n 1, 1, (0, 0, 0)), (8, .bipush 6, 2, (0, 0, 0)), (10, .if_icmp .ne 9, 3, (0, 0, 0))]
theorem K194_13 : zRk 194 B194_13 = true := by decide +kernel
/-- EchoValeModel.readPerson()Z -/
def F194 (h : zHM) : Option (Int × zHM) := if ¬ (h 15 3) = 6 then (F176 h).bind fun r1 => (F190 (wadd 6 (h 15 3)) r1).bind fun r2 => if r2.1 = 0 then some (0, r2.2) else (F195 r2.2).bind fun r3 => if ¬ r3.1 = 0 then zG (0 ≤ (wadd 25 (wmul 2 (h 15 3))) ∧ (wadd 25 (wmul 2 (h 15 3))) < 209) (zG (0 ≤ (wadd (wadd 25 (wmul 2 (h 15 3))) 1) ∧ (wadd (wadd 25 (wmul 2 (h 15 3))) 1) < 209) (some (1, (mset (mset (mset r3.2 15 (wadd 25 (wmul 2 (h 15 3))) (r3.2 13 0)) 15 (wadd (wadd 25 (wmul 2 (h 15 3))) 1) (-1)) 15 3 (wadd ((mset (mset r3.2 15 (wadd 25 (wmul 2 (h 15 3))) (r3.2 13 0)) 15 (wadd (wadd 25 (wmul 2 (h 15 3))) 1) (-1)) 15 3) 1))))) else some (0, r3.2) else (F185 4 h).bind fun r4 => zG (r4.1 = 0 ∨ r4.1 = 1) (some (r4.1, r4.2))
set_option maxRecDepth 100000 in
theorem S194 {spec : zRn zH2} {hc : zHC} {o : Int → Int} {d : Nat} (hd : 6 ≤ d) (h : zHM) (v : (Int × zHM)) (e : F194 h = some v) : zRu2 spec d 194 [(22, 0)] (hc, h, o) (some (0, v.1)) (hc, v.2, o) := by
  refine zF_in (D := 5) (mx := 2) (L := [some (22, 0), none]) (by decide +kernel) rfl rfl hd (fun d hd => ?_)
  unfold F194 at e
  rcases zI_s e with ⟨q1, e⟩ | ⟨q1, e⟩
  · refine zF_blk (m := []) (d := 1) (b := B194_13) (gs := [0 ≤ 3 ∧ 3 < 209, ¬ (h 15 3) = 6]) (c' := (19, [some (22, 0), some (0, (h 15 3))], [], (hc, h, o))) K194_13 rfl ⟨by decide, q1, trivial⟩ ?_
    obtain ⟨r1, q2, e⟩ := zB_s e
    refine zF_blk (m := []) (d := 0) (b := B194_0) (gs := []) (c' := (20, [some (22, 0), some (0, (h 15 3))], [(22, 0)], (hc, h, o))) K194_0 rfl trivial ?_
    refine zF_call (k := 176) (cl := 12) (n := 1) (i := .invokevirtual 162) (args := [(22, 0)]) (rest := []) (g1 := (hc, r1, o)) (r1 := none) (by decide +kernel) rfl rfl rfl (st' := []) rfl (S176 (Nat.le_trans (by decide) hd)  h _ q2) ?_
    refine zF_blk (m := []) (d := 0) (b := B194_1) (gs := []) (c' := (27, [some (22, 0), some (0, (h 15 3))], [(0, (h 15 3)), (0, 6), (22, 0)], (hc, r1, o))) K194_1 rfl trivial ?_
    obtain ⟨r2, q3, e⟩ := zB_s e
    refine zF_blk (m := []) (d := 0) (b := B194_2) (gs := []) (c' := (28, [some (22, 0), some (0, (h 15 3))], [(0, (wadd 6 (h 15 3))), (22, 0)], (hc, r1, o))) K194_2 rfl trivial ?_
    refine zF_call (k := 190) (cl := 12) (n := 2) (i := .invokevirtual 190) (args := [(22, 0), (0, (wadd 6 (h 15 3)))]) (rest := []) (g1 := (hc, r2.2, o)) (r1 := some (0, r2.1)) (by decide +kernel) rfl rfl rfl (st' := [(0, r2.1)]) rfl (S190 (Nat.le_trans (by decide) hd) (wadd 6 (h 15 3)) r1 _ q3) ?_
    rcases zI_s e with ⟨q4, e⟩ | ⟨q4, e⟩
    · refine zF_blk (m := []) (d := 1) (b := B194_11) (gs := [r2.1 = 0]) (c' := (41, [some (22, 0), some (0, (h 15 3))], [], (hc, r2.2, o))) K194_11 rfl ⟨q4, trivial⟩ ?_
      refine zF_blk (m := []) (d := 0) (b := B194_3) (gs := []) (c' := (42, [some (22, 0), some (0, (h 15 3))], [(0, 0)], (hc, r2.2, o))) K194_3 rfl trivial ?_
      exact zF_rbM (by decide +kernel) (Or.inl rfl) e
    · refine zF_blk (m := []) (d := 0) (b := B194_11) (gs := [¬ (r2.1 = 0)]) (c' := (34, [some (22, 0), some (0, (h 15 3))], [], (hc, r2.2, o))) K194_11 rfl ⟨q4, trivial⟩ ?_
      obtain ⟨r3, q5, e⟩ := zB_s e
      refine zF_blk (m := []) (d := 0) (b := B194_4) (gs := []) (c' := (35, [some (22, 0), some (0, (h 15 3))], [(22, 0)], (hc, r2.2, o))) K194_4 rfl trivial ?_
      refine zF_call (k := 195) (cl := 12) (n := 1) (i := .invokevirtual 193) (args := [(22, 0)]) (rest := []) (g1 := (hc, r3.2, o)) (r1 := some (0, r3.1)) (by decide +kernel) rfl rfl rfl (st' := [(0, r3.1)]) rfl (S195 (Nat.le_trans (by decide) hd)  r2.2 _ q5) ?_
      rcases zI_s e with ⟨q6, e⟩ | ⟨q6, e⟩
      · refine zF_blk (m := []) (d := 1) (b := B194_10) (gs := [¬ r3.1 = 0]) (c' := (43, [some (22, 0), some (0, (h 15 3))], [], (hc, r3.2, o))) K194_10 rfl ⟨q6, trivial⟩ ?_
        obtain ⟨q7, e⟩ := zG_s e
        obtain ⟨q8, e⟩ := zG_s e
        refine zF_blk (m := []) (d := 0) (b := B194_5) (gs := []) (c' := (51, [some (22, 0), some (0, (h 15 3))], [(0, (h 15 3)), (0, 2), (0, 25), (1342393079, 0)], (hc, r3.2, o))) K194_5 rfl trivial ?_
        refine zF_blk (m := []) (d := 0) (b := B194_6) (gs := []) (c' := (52, [some (22, 0), some (0, (h 15 3))], [(0, (wmul 2 (h 15 3))), (0, 25), (1342393079, 0)], (hc, r3.2, o))) K194_6 rfl trivial ?_
        refine zF_blk (m := []) (d := 0) (b := B194_7) (gs := [0 ≤ (wadd 25 (wmul 2 (h 15 3))) ∧ (wadd 25 (wmul 2 (h 15 3))) < 209]) (c' := (66, [some (22, 0), some (0, (h 15 3))], [(0, (h 15 3)), (0, 2), (0, 25), (1342393079, 0)], (hc, (mset r3.2 15 (wadd 25 (wmul 2 (h 15 3))) (r3.2 13 0)), o))) K194_7 rfl ⟨q7, trivial⟩ ?_
        refine zF_blk (m := []) (d := 0) (b := B194_8) (gs := []) (c' := (67, [some (22, 0), some (0, (h 15 3))], [(0, (wmul 2 (h 15 3))), (0, 25), (1342393079, 0)], (hc, (mset r3.2 15 (wadd 25 (wmul 2 (h 15 3))) (r3.2 13 0)), o))) K194_8 rfl trivial ?_
        refine zF_blk (m := []) (d := 0) (b := B194_9) (gs := [0 ≤ (wadd (wadd 25 (wmul 2 (h 15 3))) 1) ∧ (wadd (wadd 25 (wmul 2 (h 15 3))) 1) < 209, 0 ≤ 3 ∧ 3 < 209, 0 ≤ 3 ∧ 3 < 209]) (c' := (83, [some (22, 0), some (0, (h 15 3))], [(0, 1)], (hc, (mset (mset (mset r3.2 15 (wadd 25 (wmul 2 (h 15 3))) (r3.2 13 0)) 15 (wadd (wadd 25 (wmul 2 (h 15 3))) 1) (-1)) 15 3 (wadd ((mset (mset r3.2 15 (wadd 25 (wmul 2 (h 15 3))) (r3.2 13 0)) 15 (wadd (wadd 25 (wmul 2 (h 15 3))) 1) (-1)) 15 3) 1)), o))) K194_9 rfl ⟨q8, by decide, by decide, trivial⟩ ?_
        exact zF_rbM (by decide +kernel) (Or.inr rfl) e
      · refine zF_blk (m := []) (d := 0) (b := B194_10) (gs := [¬ (¬ r3.1 = 0)]) (c' := (41, [some (22, 0), some (0, (h 15 3))], [], (hc, r3.2, o))) K194_10 rfl ⟨q6, trivial⟩ ?_
        refine zF_blk (m := []) (d := 0) (b := B194_3) (gs := []) (c' := (42, [some (22, 0), some (0, (h 15 3))], [(0, 0)], (hc, r3.2, o))) K194_3 rfl trivial ?_
        exact zF_rbM (by decide +kernel) (Or.inl rfl) e
  · refine zF_blk (m := []) (d := 0) (b := B194_13) (gs := [0 ≤ 3 ∧ 3 < 209, ¬ (¬ (h 15 3) = 6)]) (c' := (13, [some (22, 0), some (0, (h 15 3))], [], (hc, h, o))) K194_13 rfl ⟨by decide, q1, trivial⟩ ?_
    obtain ⟨r4, q9, e⟩ := zB_s e
    refine zF_blk (m := []) (d := 0) (b := B194_12) (gs := []) (c' := (15, [some (22, 0), some (0, (h 15 3))], [(0, 4), (22, 0)], (hc, h, o))) K194_12 rfl trivial ?_
    refine zF_call (k := 185) (cl := 12) (n := 2) (i := .invokevirtual 148) (args := [(22, 0), (0, 4)]) (rest := []) (g1 := (hc, r4.2, o)) (r1 := some (0, r4.1)) (by decide +kernel) rfl rfl rfl (st' := [(0, r4.1)]) rfl (S185 (Nat.le_trans (by decide) hd) 4 h _ q9) ?_
    obtain ⟨q10, e⟩ := zG_s e
    exact zF_rbM (by decide +kernel) q10 e
def B189_0 : List zRow := [(19, .aload_n 0, 1, (0, 0, 0))]
theorem K189_0 : zRk 189 B189_0 = true := by decide +kernel
def B189_1 : List zRow := [(23, .aload_n 0, 1, (0, 0, 0)), (24, .iload_n 1, 1, (0, 0, 0))]
theorem K189_1 : zRk 189 B189_1 = true := by decide +kernel
def B189_2 : List zRow := [(38, .iconst 0, 1, (0, 0, 0))]
theorem K189_2 : zRk 189 B189_2 = true := by decide +kernel
def B189_3 : List zRow := [(31, .aload_n 0, 1, (0, 0, 0))]
theorem K189_3 : zRk 189 B189_3 = true := by decide +kernel
def B189_4 : List zRow := [(40, .iconst 0, 1, (0, 0, 0)), (41, .istore_n 2, 1, (0, 0, 0))]
theorem K189_4 : zRk 189 B189_4 = true := by decide +kernel
def B189_5 : List zRow := [(35, .ifCond .ne 5, 3, (0, 0, 0))]
theorem K189_5 : zRk 189 B189_5 = true := by decide +kernel
def B189_6 : List zRow := [(28, .ifCond .eq 10, 3, (0, 0, 0))]
theorem K189_6 : zRk 189 B189_6 = true := by decide +kernel
def B189_7 : List zRow := [(13, .aload_n 0, 1, (0, 0, 0)), (14, .iconst 4, 1, (0, 0, 0))]
theorem K189_7 : zRk 189 B189_7 = true := by decide +kernel
def B189_8 : List zRow := [(0, .aload_n 0, 1, (0, 0, 0)), (1, .getfield 16, 3, (12, 15, 5243718)), (4, .iconst 2, 1, (0, 0, 0)), (5, .iaload, 1, (0, 0, 0)), (6, .istore_n 1, 1, (0, 0, 0)), (7, .iload_n 1, 1, (0, 0, 0)), (8, .bipush 6, 2, (0, 0, 0)), (10, .if_icmp .ne 9, 3, (0, 0, 0))]
theorem K189_8 : zRk 189 B189_8 = true := by decide +kernel
def B189_9 : List zRow := [(77, .aload_n 0, 1, (0, 0, 0)), (78, .getfield 16, 3, (12, 15, 5243718)), (81, .bipush 7, 2, (0, 0, 0)), (83, .iconst 3, 1, (0, 0, 0)), (84, .iload_n 1, 1, (0, 0, 0))]
theorem K189_9 : zRk 189 B189_9 = true := by decide +kernel
def B189_10 : List zRow := [(85, .imul, 1, (0, 0, 0))]
theorem K189_10 : zRk 189 B189_10 = true := by decide +kernel
def B189_11 : List zRow := [(86, .iadd, 1, (0, 0, 0)), (87, .aload_n 0, 1, (0, 0, 0)), (88, .getfield 155, 3, (12, 13, 0)), (91, .iastore, 1, (0, 0, 0)), (92, .aload_n 0, 1, (0, 0, 0))]
theorem K189_11 : zRk 189 B189_11 = true := by decide +kernel
def B189_12 : List zRow := [(96, .aload_n 0, 1, (0, 0, 0)), (97, .iconst 1, 1, (0, 0, 0)), (98, .bipush 40, 2, (0, 0, 0))]
theorem K189_12 : zRk 189 B189_12 = true := by decide +kernel
def B189_13 : List zRow := [(108, .aload_n 0, 1, (0, 0, 0)), (109, .getfield 16, 3, (12, 15, 5243718)), (112, .bipush 7, 2, (0, 0, 0)), (114, .iconst 3, 1, (0, 0, 0)), (115, .iload_n 1, 1, (0, 0, 0))]
theorem K189_13 : zRk 189 B189_13 = true := by decide +kernel
def B189_14 : List zRow := [(116, .imul, 1, (0, 0, 0))]
theorem K189_14 : zRk 189 B189_14 = true := by decide +kernel
def B189_15 : List zRow := [(117, .iadd, 1, (0, 0, 0)), (118, .iconst 1, 1, (0, 0, 0)), (119, .iadd, 1, (0, 0, 0)), (120, .aload_n 0, 1, (0, 0, 0)), (121, .getfield 155, 3, (12, 13, 0)), (124, .iastore, 1, (0, 0, 0)), (125, .aload_n 0, 1, (0, 0, 0)), (126, .iconst 1, 1, (0, 0, 0)), (127, .bipush 9, 2, (0, 0, 0))]
theorem K189_15 : zRk 189 B189_15 = true := by decide +kernel
def B189_16 : List zRow := [(137, .aload_n 0, 1, (0, 0, 0)), (138, .getfield 16, 3, (12, 15, 5243718)), (141, .bipush 7, 2, (0, 0, 0)), (143, .iconst 3, 1, (0, 0, 0)), (144, .iload_n 1, 1, (0, 0, 0))]
theorem K189_16 : zRk 189 B189_16 = true := by decide +kernel
def B189_17 : List zRow := [(145, .imul, 1, (0, 0, 0))]
theorem K189_17 : zRk 189 B189_17 = true := by decide +kernel
def B189_18 : List zRow := [(146, .iadd, 1, (0, 0, 0)), (147, .iconst 2, 1, (0, 0, 0)), (148, .iadd, 1, (0, 0, 0)), (149, .aload_n 0, 1, (0, 0, 0)), (150, .getfield 155, 3, (12, 13, 0)), (153, .iastore, 1, (0, 0, 0)), (154, .aload_n 0, 1, (0, 0, 0)), (155, .getfield 16, 3, (12, 15, 5243718)), (158, .iconst 2, 1, (0, 0, 0)), (159, .dup2, 1, (0, 0, 0)), (160, .iaload, 1, (0, 0, 0)), (161, .iconst 1, 1, (0, 0, 0)), (162, .iadd, 1, (0, 0, 0)), (163, .iastore, 1, (0, 0, 0)), (164, .iconst 1, 1, (0, 0, 0))]
theorem K189_18 : zRk 189 B189_18 = true := by decide +kernel
def B189_19 : List zRow := [(135, .iconst 0, 1, (0, 0, 0))]
theorem K189_19 : zRk 189 B189_19 = true := by decide +kernel
def B189_20 : List zRow := [(132, .ifCond .ne 5, 3, (0, 0, 0))]
theorem K189_20 : zRk 189 B189_20 = true := by decide +kernel
def B189_21 : List zRow := [(106, .iconst 0, 1, (0, 0, 0))]
theorem K189_21 : zRk 189 B189_21 = true := by decide +kernel
def B189_22 : List zRow := [(103, .ifCond .ne 5, 3, (0, 0, 0))]
theorem K189_22 : zRk 189 B189_22 = true := by decide +kernel
def B189_23 : List zRow := [(47, .aload_n 0, 1, (0, 0, 0)), (48, .getfield 16, 3, (12, 15, 5243718)), (51, .bipush 7, 2, (0, 0, 0)), (53, .iconst 3, 1, (0, 0, 0)), (54, .iload_n 2, 1, (0, 0, 0))]
theorem K189_23 : zRk 189 B189_23 = true := by decide +kernel
def B189_24 : List zRow := [(55, .imul, 1, (0, 0, 0))]
theorem K189_24 : zRk 189 B189_24 = true := by decide +kernel
def B189_25 : List zRow := [(71, .iinc 2 1, 3, (0, 0, 0)), (74, .goto (-32), 3, (0, 0, 0))]
theorem K189_25 : zRk 189 B189_25 = true := by decide +kernel
def B189_26 : List zRow := [(65, .aload_n 0, 1, (0, 0, 0)), (66, .iconst 3, 1, (0, 0, 0))]
theorem K189_26 : zRk 189 B189_26 = true := by decide +kernel
def B189_27 : List zRow := [(56, .iadd, 1, (0, 0, 0)), (57, .iaload, 1, (0, 0, 0)), (58, .aload_n 0, 1, (0, 0, 0)), (59, .getfield 155, 3, (12, 13, 0)), (62, .if_icmp .ne 9, 3, (0, 0, 0))]
theorem K189_27 : zRk 189 B189_27 = true := by decide +kernel
def B189_28 : List zRow := [(42, .iload_n 2, 1, (0, 0, 0)), (43, .iload_n 1, 1, (0, 0, 0)), (44, .if_icmp .ge 33, 3, (0, 0, 0))]
theorem K189_28 : zRk 189 B189_28 = true := by decide +kernel
def F189_0 : Nat → Int → Int → zHM → Option (Int × zHM)
  | 0, _, _, _ => none
  | n + 1, v1, v2, h => if v1 ≤ v2 then zG (0 ≤ (wadd 7 (wmul 3 v1)) ∧ (wadd 7 (wmul 3 v1)) < 209) ((F176 (mset h 15 (wadd 7 (wmul 3 v1)) (h 13 0))).bind fun r1 => (F186 1 40 r1).bind fun r2 => if ¬ r2.1 = 0 then zG (0 ≤ (wadd (wadd 7 (wmul 3 v1)) 1) ∧ (wadd (wadd 7 (wmul 3 v1)) 1) < 209) ((F186 1 9 (mset r2.2 15 (wadd (wadd 7 (wmul 3 v1)) 1) (r2.2 13 0))).bind fun r3 => if ¬ r3.1 = 0 then zG (0 ≤ (wadd (wadd 7 (wmul 3 v1)) 2) ∧ (wadd (wadd 7 (wmul 3 v1)) 2) < 209) (some (1, (mset (mset r3.2 15 (wadd (wadd 7 (wmul 3 v1)) 2) (r3.2 13 0)) 15 2 (wadd ((mset r3.2 15 (wadd (wadd 7 (wmul 3 v1)) 2) (r3.2 13 0)) 15 2) 1)))) else some (0, r3.2)) else some (0, r2.2)) else zG (0 ≤ (wadd 7 (wmul 3 v2)) ∧ (wadd 7 (wmul 3 v2)) < 209) (if ¬ (h 15 (wadd 7 (wmul 3 v2))) = (h 13 0) then (F189_0 n) v1 (wadd v2 1) h else (F185 3 h).bind fun r4 => zG (r4.1 = 0 ∨ r4.1 = 1) (some (r4.1, r4.2)))
set_option maxRecDepth 100000 in
theorem T189_0 {spec : zRn zH2} {hc : zHC} {o : Int → Int} {d : Nat} (hd : 4 ≤ d) : ∀ (n : Nat) (v1 : Int) (v2 : Int) (h : zHM) (v : (Int × zHM)), F189_0 n v1 v2 h = some v → zFin 0 (fun _ => 0) (zRu2 spec d) 189 (some (0, v.1)) (hc, v.2, o) (42, [some (22, 0), some (0, v1), some (0, v2)], [], (hc, h, o)) := by
  intro n
  induction n with
  | zero => intro v1 v2 h v e; unfold F189_0 at e; cases e
  | succ n hk0 =>
    intro v1 v2 h v e
    unfold F189_0 at e
    rcases zI_s e with ⟨q1, e⟩ | ⟨q1, e⟩
    · refine zF_blk (m := []) (d := 1) (b := B189_28) (gs := [v1 ≤ v2]) (c' := (77, [some (22, 0), some (0, v1), some (0, v2)], [], (hc, h, o))) K189_28 rfl ⟨q1, trivial⟩ ?_
      obtain ⟨q2, e⟩ := zG_s e
      refine zF_blk (m := []) (d := 0) (b := B189_9) (gs := []) (c' := (85, [some (22, 0), some (0, v1), some (0, v2)], [(0, v1), (0, 3), (0, 7), (1342393079, 0)], (hc, h, o))) K189_9 rfl trivial ?_
      refine zF_blk (m := []) (d := 0) (b := B189_10) (gs := []) (c' := (86, [some (22, 0), some (0, v1), some (0, v2)], [(0, (wmul 3 v1)), (0, 7), (1342393079, 0)], (hc, h, o))) K189_10 rfl trivial ?_
      obtain ⟨r1, q3, e⟩ := zB_s e
      refine zF_blk (m := []) (d := 0) (b := B189_11) (gs := [0 ≤ (wadd 7 (wmul 3 v1)) ∧ (wadd 7 (wmul 3 v1)) < 209]) (c' := (93, [some (22, 0), some (0, v1), some (0, v2)], [(22, 0)], (hc, (mset h 15 (wadd 7 (wmul 3 v1)) (h 13 0)), o))) K189_11 rfl ⟨q2, trivial⟩ ?_
      refine zF_call (k := 176) (cl := 12) (n := 1) (i := .invokevirtual 162) (args := [(22, 0)]) (rest := []) (g1 := (hc, r1, o)) (r1 := none) (by decide +kernel) rfl rfl rfl (st' := []) rfl (S176 (Nat.le_trans (by decide) hd)  (mset h 15 (wadd 7 (wmul 3 v1)) (h 13 0)) _ q3) ?_
      obtain ⟨r2, q4, e⟩ := zB_s e
      refine zF_blk (m := []) (d := 0) (b := B189_12) (gs := []) (c' := (100, [some (22, 0), some (0, v1), some (0, v2)], [(0, 40), (0, 1), (22, 0)], (hc, r1, o))) K189_12 rfl trivial ?_
      refine zF_call (k := 186) (cl := 12) (n := 3) (i := .invokevirtual 180) (args := [(22, 0), (0, 1), (0, 40)]) (rest := []) (g1 := (hc, r2.2, o)) (r1 := some (0, r2.1)) (by decide +kernel) rfl rfl rfl (st' := [(0, r2.1)]) rfl (S186 (Nat.le_trans (by decide) hd) 1 40 r1 _ q4) ?_
      rcases zI_s e with ⟨q5, e⟩ | ⟨q5, e⟩
      · refine zF_blk (m := []) (d := 1) (b := B189_22) (gs := [¬ r2.1 = 0]) (c' := (108, [some (22, 0), some (0, v1), some (0, v2)], [], (hc, r2.2, o))) K189_22 rfl ⟨q5, trivial⟩ ?_
        obtain ⟨q6, e⟩ := zG_s e
        refine zF_blk (m := []) (d := 0) (b := B189_13) (gs := []) (c' := (116, [some (22, 0), some (0, v1), some (0, v2)], [(0, v1), (0, 3), (0, 7), (1342393079, 0)], (hc, r2.2, o))) K189_13 rfl trivial ?_
        refine zF_blk (m := []) (d := 0) (b := B189_14) (gs := []) (c' := (117, [some (22, 0), some (0, v1), some (0, v2)], [(0, (wmul 3 v1)), (0, 7), (1342393079, 0)], (hc, r2.2, o))) K189_14 rfl trivial ?_
        obtain ⟨r3, q7, e⟩ := zB_s e
        refine zF_blk (m := []) (d := 0) (b := B189_15) (gs := [0 ≤ (wadd (wadd 7 (wmul 3 v1)) 1) ∧ (wadd (wadd 7 (wmul 3 v1)) 1) < 209]) (c' := (129, [some (22, 0), some (0, v1), some (0, v2)], [(0, 9), (0, 1), (22, 0)], (hc, (mset r2.2 15 (wadd (wadd 7 (wmul 3 v1)) 1) (r2.2 13 0)), o))) K189_15 rfl ⟨q6, trivial⟩ ?_
        refine zF_call (k := 186) (cl := 12) (n := 3) (i := .invokevirtual 180) (args := [(22, 0), (0, 1), (0, 9)]) (rest := []) (g1 := (hc, r3.2, o)) (r1 := some (0, r3.1)) (by decide +kernel) rfl rfl rfl (st' := [(0, r3.1)]) rfl (S186 (Nat.le_trans (by decide) hd) 1 9 (mset r2.2 15 (wadd (wadd 7 (wmul 3 v1)) 1) (r2.2 13 0)) _ q7) ?_
        rcases zI_s e with ⟨q8, e⟩ | ⟨q8, e⟩
        · refine zF_blk (m := []) (d := 1) (b := B189_20) (gs := [¬ r3.1 = 0]) (c' := (137, [some (22, 0), some (0, v1), some (0, v2)], [], (hc, r3.2, o))) K189_20 rfl ⟨q8, trivial⟩ ?_
          obtain ⟨q9, e⟩ := zG_s e
          refine zF_blk (m := []) (d := 0) (b := B189_16) (gs := []) (c' := (145, [some (22, 0), some (0, v1), some (0, v2)], [(0, v1), (0, 3), (0, 7), (1342393079, 0)], (hc, r3.2, o))) K189_16 rfl trivial ?_
          refine zF_blk (m := []) (d := 0) (b := B189_17) (gs := []) (c' := (146, [some (22, 0), some (0, v1), some (0, v2)], [(0, (wmul 3 v1)), (0, 7), (1342393079, 0)], (hc, r3.2, o))) K189_17 rfl trivial ?_
          refine zF_blk (m := []) (d := 0) (b := B189_18) (gs := [0 ≤ (wadd (wadd 7 (wmul 3 v1)) 2) ∧ (wadd (wadd 7 (wmul 3 v1)) 2) < 209, 0 ≤ 2 ∧ 2 < 209, 0 ≤ 2 ∧ 2 < 209]) (c' := (165, [some (22, 0), some (0, v1), some (0, v2)], [(0, 1)], (hc, (mset (mset r3.2 15 (wadd (wadd 7 (wmul 3 v1)) 2) (r3.2 13 0)) 15 2 (wadd ((mset r3.2 15 (wadd (wadd 7 (wmul 3 v1)) 2) (r3.2 13 0)) 15 2) 1)), o))) K189_18 rfl ⟨q9, by decide, by decide, trivial⟩ ?_
          exact zF_rbM (by decide +kernel) (Or.inr rfl) e
        · refine zF_blk (m := []) (d := 0) (b := B189_20) (gs := [¬ (¬ r3.1 = 0)]) (c' := (135, [some (22, 0), some (0, v1), some (0, v2)], [], (hc, r3.2, o))) K189_20 rfl ⟨q8, trivial⟩ ?_
          refine zF_blk (m := []) (d := 0) (b := B189_19) (gs := []) (c' := (136, [some (22, 0), some (0, v1), some (0, v2)], [(0, 0)], (hc, r3.2, o))) K189_19 rfl trivial ?_
          exact zF_rbM (by decide +kernel) (Or.inl rfl) e
      · refine zF_blk (m := []) (d := 0) (b := B189_22) (gs := [¬ (¬ r2.1 = 0)]) (c' := (106, [some (22, 0), some (0, v1), some (0, v2)], [], (hc, r2.2, o))) K189_22 rfl ⟨q5, trivial⟩ ?_
        refine zF_blk (m := []) (d := 0) (b := B189_21) (gs := []) (c' := (107, [some (22, 0), some (0, v1), some (0, v2)], [(0, 0)], (hc, r2.2, o))) K189_21 rfl trivial ?_
        exact zF_rbM (by decide +kernel) (Or.inl rfl) e
    · refine zF_blk (m := []) (d := 0) (b := B189_28) (gs := [¬ (v1 ≤ v2)]) (c' := (47, [some (22, 0), some (0, v1), some (0, v2)], [], (hc, h, o))) K189_28 rfl ⟨q1, trivial⟩ ?_
      obtain ⟨q10, e⟩ := zG_s e
      refine zF_blk (m := []) (d := 0) (b := B189_23) (gs := []) (c' := (55, [some (22, 0), some (0, v1), some (0, v2)], [(0, v2), (0, 3), (0, 7), (1342393079, 0)], (hc, h, o))) K189_23 rfl trivial ?_
      refine zF_blk (m := []) (d := 0) (b := B189_24) (gs := []) (c' := (56, [some (22, 0), some (0, v1), some (0, v2)], [(0, (wmul 3 v2)), (0, 7), (1342393079, 0)], (hc, h, o))) K189_24 rfl trivial ?_
      rcases zI_s e with ⟨q11, e⟩ | ⟨q11, e⟩
      · refine zF_blk (m := []) (d := 1) (b := B189_27) (gs := [0 ≤ (wadd 7 (wmul 3 v2)) ∧ (wadd 7 (wmul 3 v2)) < 209, ¬ (h 15 (wadd 7 (wmul 3 v2))) = (h 13 0)]) (c' := (71, [some (22, 0), some (0, v1), some (0, v2)], [], (hc, h, o))) K189_27 rfl ⟨q10, q11, trivial⟩ ?_
        refine zF_blk (m := []) (d := 0) (b := B189_25) (gs := []) (c' := (42, [some (22, 0), some (0, v1), some (0, (wadd v2 1))], [], (hc, h, o))) K189_25 rfl trivial ?_
        exact hk0 v1 (wadd v2 1) h _ e
      · refine zF_blk (m := []) (d := 0) (b := B189_27) (gs := [0 ≤ (wadd 7 (wmul 3 v2)) ∧ (wadd 7 (wmul 3 v2)) < 209, ¬ (¬ (h 15 (wadd 7 (wmul 3 v2))) = (h 13 0))]) (c' := (65, [some (22, 0), some (0, v1), some (0, v2)], [], (hc, h, o))) K189_27 rfl ⟨q10, q11, trivial⟩ ?_
        obtain ⟨r4, q12, e⟩ := zB_s e
        refine zF_blk (m := []) (d := 0) (b := B189_26) (gs := []) (c' := (67, [some (22, 0), some (0, v1), some (0, v2)], [(0, 3), (22, 0)], (hc, h, o))) K189_26 rfl trivial ?_
        refine zF_call (k := 185) (cl := 12) (n := 2) (i := .invokevirtual 148) (args := [(22, 0), (0, 3)]) (rest := []) (g1 := (hc, r4.2, o)) (r1 := some (0, r4.1)) (by decide +kernel) rfl rfl rfl (st' := [(0, r4.1)]) rfl (S185 (Nat.le_trans (by decide) hd) 3 h _ q12) ?_
        obtain ⟨q13, e⟩ := zG_s e
        exact zF_rbM (by decide +kernel) q13 e
/-- EchoValeModel.readCliff()Z -/
def F189 (h : zHM) : Option (Int × zHM) := if ¬ (h 15 2) = 6 then (F176 h).bind fun r1 => (F190 (h 15 2) r1).bind fun r2 => if r2.1 = 0 then some (0, r2.2) else (F193 r2.2).bind fun r3 => if ¬ r3.1 = 0 then F189_0 zFu (h 15 2) 0 r3.2 else some (0, r3.2) else (F185 4 h).bind fun r4 => zG (r4.1 = 0 ∨ r4.1 = 1) (some (r4.1, r4.2))
set_option maxRecDepth 100000 in
theorem S189 {spec : zRn zH2} {hc : zHC} {o : Int → Int} {d : Nat} (hd : 5 ≤ d) (h : zHM) (v : (Int × zHM)) (e : F189 h = some v) : zRu2 spec d 189 [(22, 0)] (hc, h, o) (some (0, v.1)) (hc, v.2, o) := by
  refine zF_in (D := 4) (mx := 3) (L := [some (22, 0), none, none]) (by decide +kernel) rfl rfl hd (fun d hd => ?_)
  unfold F189 at e
  rcases zI_s e with ⟨q1, e⟩ | ⟨q1, e⟩
  · refine zF_blk (m := []) (d := 1) (b := B189_8) (gs := [0 ≤ 2 ∧ 2 < 209, ¬ (h 15 2) = 6]) (c' := (19, [some (22, 0), some (0, (h 15 2)), none], [], (hc, h, o))) K189_8 rfl ⟨by decide, q1, trivial⟩ ?_
    obtain ⟨r1, q2, e⟩ := zB_s e
    refine zF_blk (m := []) (d := 0) (b := B189_0) (gs := []) (c' := (20, [some (22, 0), some (0, (h 15 2)), none], [(22, 0)], (hc, h, o))) K189_0 rfl trivial ?_
    refine zF_call (k := 176) (cl := 12) (n := 1) (i := .invokevirtual 162) (args := [(22, 0)]) (rest := []) (g1 := (hc, r1, o)) (r1 := none) (by decide +kernel) rfl rfl rfl (st' := []) rfl (S176 (Nat.le_trans (by decide) hd)  h _ q2) ?_
    obtain ⟨r2, q3, e⟩ := zB_s e
    refine zF_blk (m := []) (d := 0) (b := B189_1) (gs := []) (c' := (25, [some (22, 0), some (0, (h 15 2)), none], [(0, (h 15 2)), (22, 0)], (hc, r1, o))) K189_1 rfl trivial ?_
    refine zF_call (k := 190) (cl := 12) (n := 2) (i := .invokevirtual 190) (args := [(22, 0), (0, (h 15 2))]) (rest := []) (g1 := (hc, r2.2, o)) (r1 := some (0, r2.1)) (by decide +kernel) rfl rfl rfl (st' := [(0, r2.1)]) rfl (S190 (Nat.le_trans (by decide) hd) (h 15 2) r1 _ q3) ?_
    rcases zI_s e with ⟨q4, e⟩ | ⟨q4, e⟩
    · refine zF_blk (m := []) (d := 1) (b := B189_6) (gs := [r2.1 = 0]) (c' := (38, [some (22, 0), some (0, (h 15 2)), none], [], (hc, r2.2, o))) K189_6 rfl ⟨q4, trivial⟩ ?_
      refine zF_blk (m := []) (d := 0) (b := B189_2) (gs := []) (c' := (39, [some (22, 0), some (0, (h 15 2)), none], [(0, 0)], (hc, r2.2, o))) K189_2 rfl trivial ?_
      exact zF_rbM (by decide +kernel) (Or.inl rfl) e
    · refine zF_blk (m := []) (d := 0) (b := B189_6) (gs := [¬ (r2.1 = 0)]) (c' := (31, [some (22, 0), some (0, (h 15 2)), none], [], (hc, r2.2, o))) K189_6 rfl ⟨q4, trivial⟩ ?_
      obtain ⟨r3, q5, e⟩ := zB_s e
      refine zF_blk (m := []) (d := 0) (b := B189_3) (gs := []) (c' := (32, [some (22, 0), some (0, (h 15 2)), none], [(22, 0)], (hc, r2.2, o))) K189_3 rfl trivial ?_
      refine zF_call (k := 193) (cl := 12) (n := 1) (i := .invokevirtual 183) (args := [(22, 0)]) (rest := []) (g1 := (hc, r3.2, o)) (r1 := some (0, r3.1)) (by decide +kernel) rfl rfl rfl (st' := [(0, r3.1)]) rfl (S193 (Nat.le_trans (by decide) hd)  r2.2 _ q5) ?_
      rcases zI_s e with ⟨q6, e⟩ | ⟨q6, e⟩
      · refine zF_blk (m := []) (d := 1) (b := B189_5) (gs := [¬ r3.1 = 0]) (c' := (40, [some (22, 0), some (0, (h 15 2)), none], [], (hc, r3.2, o))) K189_5 rfl ⟨q6, trivial⟩ ?_
        refine zF_blk (m := []) (d := 0) (b := B189_4) (gs := []) (c' := (42, [some (22, 0), some (0, (h 15 2)), some (0, 0)], [], (hc, r3.2, o))) K189_4 rfl trivial ?_
        exact T189_0 hd zFu (h 15 2) 0 r3.2 _ e
      · refine zF_blk (m := []) (d := 0) (b := B189_5) (gs := [¬ (¬ r3.1 = 0)]) (c' := (38, [some (22, 0), some (0, (h 15 2)), none], [], (hc, r3.2, o))) K189_5 rfl ⟨q6, trivial⟩ ?_
        refine zF_blk (m := []) (d := 0) (b := B189_2) (gs := []) (c' := (39, [some (22, 0), some (0, (h 15 2)), none], [(0, 0)], (hc, r3.2, o))) K189_2 rfl trivial ?_
        exact zF_rbM (by decide +kernel) (Or.inl rfl) e
  · refine zF_blk (m := []) (d := 0) (b := B189_8) (gs := [0 ≤ 2 ∧ 2 < 209, ¬ (¬ (h 15 2) = 6)]) (c' := (13, [some (22, 0), some (0, (h 15 2)), none], [], (hc, h, o))) K189_8 rfl ⟨by decide, q1, trivial⟩ ?_
    obtain ⟨r4, q7, e⟩ := zB_s e
    refine zF_blk (m := []) (d := 0) (b := B189_7) (gs := []) (c' := (15, [some (22, 0), some (0, (h 15 2)), none], [(0, 4), (22, 0)], (hc, h, o))) K189_7 rfl trivial ?_
    refine zF_call (k := 185) (cl := 12) (n := 2) (i := .invokevirtual 148) (args := [(22, 0), (0, 4)]) (rest := []) (g1 := (hc, r4.2, o)) (r1 := some (0, r4.1)) (by decide +kernel) rfl rfl rfl (st' := [(0, r4.1)]) rfl (S185 (Nat.le_trans (by decide) hd) 4 h _ q7) ?_
    obtain ⟨q8, e⟩ := zG_s e
    exact zF_rbM (by decide +kernel) q8 e
