/-! Functions of the methods, by wip/gen/lift.py. -/
def B30_0 : List zRow := [(68, .aload_n 0, 1, (0, 0, 0))]
theorem K30_0 : zRk 30 B30_0 = true := by decide +kernel
def B30_1 : List zRow := [(20, .aload_n 0, 1, (0, 0, 0)), (21, .getfield 18, 3, (10, 2, 23)), (24, .getfield 52, 3, (5, 6, 0)), (27, .tableswitch 76 0 6 #[41, 46, 51, 56, 61, 66, 71], 41, (0, 0, 0))]
theorem K30_1 : zRk 30 B30_1 = true := by decide +kernel
def B30_2 : List zRow := [(73, .aload_n 0, 1, (0, 0, 0))]
theorem K30_2 : zRk 30 B30_2 = true := by decide +kernel
def B30_3 : List zRow := [(78, .aload_n 0, 1, (0, 0, 0))]
theorem K30_3 : zRk 30 B30_3 = true := by decide +kernel
def B30_4 : List zRow := [(83, .aload_n 0, 1, (0, 0, 0))]
theorem K30_4 : zRk 30 B30_4 = true := by decide +kernel
def B30_5 : List zRow := [(88, .aload_n 0, 1, (0, 0, 0))]
theorem K30_5 : zRk 30 B30_5 = true := by decide +kernel
def B30_6 : List zRow := [(93, .aload_n 0, 1, (0, 0, 0))]
theorem K30_6 : zRk 30 B30_6 = true := by decide +kernel
def B30_7 : List zRow := [(98, .aload_n 0, 1, (0, 0, 0))]
theorem K30_7 : zRk 30 B30_7 = true := by decide +kernel
def B30_8 : List zRow := [(103, .aload_n 0, 1, (0, 0, 0)), (104, .getfield 18, 3, (10, 2, 23)), (107, .iconst 1, 1, (0, 0, 0))]
theorem K30_8 : zRk 30 B30_8 = true := by decide +kernel
def B30_9 : List zRow := [(11, .aload_n 0, 1, (0, 0, 0)), (12, .getfield 18, 3, (10, 2, 23)), (15, .iconst 1, 1, (0, 0, 0))]
theorem K30_9 : zRk 30 B30_9 = true := by decide +kernel
def B30_10 : List zRow := [(0, .aload_n 0, 1, (0, 0, 0)), (1, .getfield 18, 3, (10, 2, 23)), (4, .getfield 46, 3, (5, 4, 0)), (7, .iconst 3, 1, (0, 0, 0)), (8, .if_icmp .eq 12, 3, (0, 0, 0))]
theorem K30_10 : zRk 30 B30_10 = true := by decide +kernel
/-- EchoVale$ValleyText.readLine()Z -/
def F30 (h : zHC) : Option (Int × zHC) := if (h 324 0 0) = 3 then if (h 326 0 0) = 0 then (F32 h).bind fun r1 => zG (r1.1 = 0 ∨ r1.1 = 1) (some (r1.1, r1.2)) else if (h 326 0 0) = 1 then (F34 h).bind fun r2 => zG (r2.1 = 0 ∨ r2.1 = 1) (some (r2.1, r2.2)) else if (h 326 0 0) = 2 then (F41 h).bind fun r3 => zG (r3.1 = 0 ∨ r3.1 = 1) (some (r3.1, r3.2)) else if (h 326 0 0) = 3 then (F42 h).bind fun r4 => zG (r4.1 = 0 ∨ r4.1 = 1) (some (r4.1, r4.2)) else if (h 326 0 0) = 4 then (F45 h).bind fun r5 => zG (r5.1 = 0 ∨ r5.1 = 1) (some (r5.1, r5.2)) else if (h 326 0 0) = 5 then (F46 h).bind fun r6 => zG (r6.1 = 0 ∨ r6.1 = 1) (some (r6.1, r6.2)) else if (h 326 0 0) = 6 then (F48 h).bind fun r7 => zG (r7.1 = 0 ∨ r7.1 = 1) (some (r7.1, r7.2)) else zG ((h 326 0 0) < 0 ∨ 6 < (h 326 0 0)) ((F31 1 h).bind fun r8 => zG (r8.1 = 0 ∨ r8.1 = 1) (some (r8.1, r8.2))) else (F31 1 h).bind fun r9 => zG (r9.1 = 0 ∨ r9.1 = 1) (some (r9.1, r9.2))
set_option maxRecDepth 100000 in
theorem S30 {spec : zRn zH2} {hm : zHM} {o : Int → Int} {d : Nat} (hd : 6 ≤ d) (h : zHC) (v : (Int × zHC)) (e : F30 h = some v) : zRu2 spec d 30 [(20, 0)] (h, hm, o) (some (0, v.1)) (v.2, hm, o) := by
  refine zF_in (D := 5) (mx := 1) (L := [some (20, 0)]) (by decide +kernel) rfl rfl hd (fun d hd => ?_)
  unfold F30 at e
  rcases zI_s e with ⟨q1, e⟩ | ⟨q1, e⟩
  · refine zF_blk (m := []) (d := 1) (b := B30_10) (gs := [(h 324 0 0) = 3]) (c' := (20, [some (20, 0)], [], (h, hm, o))) K30_10 rfl ⟨q1, trivial⟩ ?_
    rcases zI_s e with ⟨q2, e⟩ | ⟨q2, e⟩
    · refine zF_blk (m := []) (d := 0) (b := B30_1) (gs := [(h 326 0 0) = 0]) (c' := (68, [some (20, 0)], [], (h, hm, o))) K30_1 rfl ⟨q2, trivial⟩ ?_
      obtain ⟨r1, q3, e⟩ := zB_s e
      refine zF_blk (m := []) (d := 0) (b := B30_0) (gs := []) (c' := (69, [some (20, 0)], [(20, 0)], (h, hm, o))) K30_0 rfl trivial ?_
      refine zF_call (k := 32) (cl := 10) (n := 1) (i := .invokevirtual 55) (args := [(20, 0)]) (rest := []) (g1 := (r1.2, hm, o)) (r1 := some (0, r1.1)) (by decide +kernel) rfl rfl rfl (st' := [(0, r1.1)]) rfl (S32 (Nat.le_trans (by decide) hd)  h _ q3) ?_
      obtain ⟨q4, e⟩ := zG_s e
      exact zF_rbC (by decide +kernel) q4 e
    rcases zI_s e with ⟨q5, e⟩ | ⟨q5, e⟩
    · refine zF_blk (m := []) (d := 1) (b := B30_1) (gs := [(h 326 0 0) = 1]) (c' := (73, [some (20, 0)], [], (h, hm, o))) K30_1 rfl ⟨q5, trivial⟩ ?_
      obtain ⟨r2, q6, e⟩ := zB_s e
      refine zF_blk (m := []) (d := 0) (b := B30_2) (gs := []) (c' := (74, [some (20, 0)], [(20, 0)], (h, hm, o))) K30_2 rfl trivial ?_
      refine zF_call (k := 34) (cl := 10) (n := 1) (i := .invokevirtual 58) (args := [(20, 0)]) (rest := []) (g1 := (r2.2, hm, o)) (r1 := some (0, r2.1)) (by decide +kernel) rfl rfl rfl (st' := [(0, r2.1)]) rfl (S34 (Nat.le_trans (by decide) hd)  h _ q6) ?_
      obtain ⟨q7, e⟩ := zG_s e
      exact zF_rbC (by decide +kernel) q7 e
    rcases zI_s e with ⟨q8, e⟩ | ⟨q8, e⟩
    · refine zF_blk (m := []) (d := 2) (b := B30_1) (gs := [(h 326 0 0) = 2]) (c' := (78, [some (20, 0)], [], (h, hm, o))) K30_1 rfl ⟨q8, trivial⟩ ?_
      obtain ⟨r3, q9, e⟩ := zB_s e
      refine zF_blk (m := []) (d := 0) (b := B30_3) (gs := []) (c' := (79, [some (20, 0)], [(20, 0)], (h, hm, o))) K30_3 rfl trivial ?_
      refine zF_call (k := 41) (cl := 10) (n := 1) (i := .invokevirtual 61) (args := [(20, 0)]) (rest := []) (g1 := (r3.2, hm, o)) (r1 := some (0, r3.1)) (by decide +kernel) rfl rfl rfl (st' := [(0, r3.1)]) rfl (S41 (Nat.le_trans (by decide) hd)  h _ q9) ?_
      obtain ⟨q10, e⟩ := zG_s e
      exact zF_rbC (by decide +kernel) q10 e
    rcases zI_s e with ⟨q11, e⟩ | ⟨q11, e⟩
    · refine zF_blk (m := []) (d := 3) (b := B30_1) (gs := [(h 326 0 0) = 3]) (c' := (83, [some (20, 0)], [], (h, hm, o))) K30_1 rfl ⟨q11, trivial⟩ ?_
      obtain ⟨r4, q12, e⟩ := zB_s e
      refine zF_blk (m := []) (d := 0) (b := B30_4) (gs := []) (c' := (84, [some (20, 0)], [(20, 0)], (h, hm, o))) K30_4 rfl trivial ?_
      refine zF_call (k := 42) (cl := 10) (n := 1) (i := .invokevirtual 64) (args := [(20, 0)]) (rest := []) (g1 := (r4.2, hm, o)) (r1 := some (0, r4.1)) (by decide +kernel) rfl rfl rfl (st' := [(0, r4.1)]) rfl (S42 (Nat.le_trans (by decide) hd)  h _ q12) ?_
      obtain ⟨q13, e⟩ := zG_s e
      exact zF_rbC (by decide +kernel) q13 e
    rcases zI_s e with ⟨q14, e⟩ | ⟨q14, e⟩
    · refine zF_blk (m := []) (d := 4) (b := B30_1) (gs := [(h 326 0 0) = 4]) (c' := (88, [some (20, 0)], [], (h, hm, o))) K30_1 rfl ⟨q14, trivial⟩ ?_
      obtain ⟨r5, q15, e⟩ := zB_s e
      refine zF_blk (m := []) (d := 0) (b := B30_5) (gs := []) (c' := (89, [some (20, 0)], [(20, 0)], (h, hm, o))) K30_5 rfl trivial ?_
      refine zF_call (k := 45) (cl := 10) (n := 1) (i := .invokevirtual 67) (args := [(20, 0)]) (rest := []) (g1 := (r5.2, hm, o)) (r1 := some (0, r5.1)) (by decide +kernel) rfl rfl rfl (st' := [(0, r5.1)]) rfl (S45 (Nat.le_trans (by decide) hd)  h _ q15) ?_
      obtain ⟨q16, e⟩ := zG_s e
      exact zF_rbC (by decide +kernel) q16 e
    rcases zI_s e with ⟨q17, e⟩ | ⟨q17, e⟩
    · refine zF_blk (m := []) (d := 5) (b := B30_1) (gs := [(h 326 0 0) = 5]) (c' := (93, [some (20, 0)], [], (h, hm, o))) K30_1 rfl ⟨q17, trivial⟩ ?_
      obtain ⟨r6, q18, e⟩ := zB_s e
      refine zF_blk (m := []) (d := 0) (b := B30_6) (gs := []) (c' := (94, [some (20, 0)], [(20, 0)], (h, hm, o))) K30_6 rfl trivial ?_
      refine zF_call (k := 46) (cl := 10) (n := 1) (i := .invokevirtual 70) (args := [(20, 0)]) (rest := []) (g1 := (r6.2, hm, o)) (r1 := some (0, r6.1)) (by decide +kernel) rfl rfl rfl (st' := [(0, r6.1)]) rfl (S46 (Nat.le_trans (by decide) hd)  h _ q18) ?_
      obtain ⟨q19, e⟩ := zG_s e
      exact zF_rbC (by decide +kernel) q19 e
    rcases zI_s e with ⟨q20, e⟩ | ⟨q20, e⟩
    · refine zF_blk (m := []) (d := 6) (b := B30_1) (gs := [(h 326 0 0) = 6]) (c' := (98, [some (20, 0)], [], (h, hm, o))) K30_1 rfl ⟨q20, trivial⟩ ?_
      obtain ⟨r7, q21, e⟩ := zB_s e
      refine zF_blk (m := []) (d := 0) (b := B30_7) (gs := []) (c' := (99, [some (20, 0)], [(20, 0)], (h, hm, o))) K30_7 rfl trivial ?_
      refine zF_call (k := 48) (cl := 10) (n := 1) (i := .invokevirtual 73) (args := [(20, 0)]) (rest := []) (g1 := (r7.2, hm, o)) (r1 := some (0, r7.1)) (by decide +kernel) rfl rfl rfl (st' := [(0, r7.1)]) rfl (S48 (Nat.le_trans (by decide) hd)  h _ q21) ?_
      obtain ⟨q22, e⟩ := zG_s e
      exact zF_rbC (by decide +kernel) q22 e
    obtain ⟨q25, e⟩ := zG_s e
    refine zF_blk (m := []) (d := 7) (b := B30_1) (gs := [(h 326 0 0) < 0 ∨ 6 < (h 326 0 0)]) (c' := (103, [some (20, 0)], [], (h, hm, o))) K30_1 rfl ⟨q25, trivial⟩ ?_
    obtain ⟨r8, q23, e⟩ := zB_s e
    refine zF_blk (m := []) (d := 0) (b := B30_8) (gs := []) (c' := (108, [some (20, 0)], [(0, 1), (15, 0)], (h, hm, o))) K30_8 rfl trivial ?_
    refine zF_call (k := 31) (cl := 5) (n := 2) (i := .invokevirtual 49) (args := [(15, 0), (0, 1)]) (rest := []) (g1 := (r8.2, hm, o)) (r1 := some (0, r8.1)) (by decide +kernel) rfl rfl rfl (st' := [(0, r8.1)]) rfl (S31 (Nat.le_trans (by decide) hd) 1 h _ q23) ?_
    obtain ⟨q24, e⟩ := zG_s e
    exact zF_rbC (by decide +kernel) q24 e
  · refine zF_blk (m := []) (d := 0) (b := B30_10) (gs := [¬ ((h 324 0 0) = 3)]) (c' := (11, [some (20, 0)], [], (h, hm, o))) K30_10 rfl ⟨q1, trivial⟩ ?_
    obtain ⟨r9, q26, e⟩ := zB_s e
    refine zF_blk (m := []) (d := 0) (b := B30_9) (gs := []) (c' := (16, [some (20, 0)], [(0, 1), (15, 0)], (h, hm, o))) K30_9 rfl trivial ?_
    refine zF_call (k := 31) (cl := 5) (n := 2) (i := .invokevirtual 49) (args := [(15, 0), (0, 1)]) (rest := []) (g1 := (r9.2, hm, o)) (r1 := some (0, r9.1)) (by decide +kernel) rfl rfl rfl (st' := [(0, r9.1)]) rfl (S31 (Nat.le_trans (by decide) hd) 1 h _ q26) ?_
    obtain ⟨q27, e⟩ := zG_s e
    exact zF_rbC (by decide +kernel) q27 e
def B51_0 : List zRow := [(20, .iconst 0, 1, (0, 0, 0))]
theorem K51_0 : zRk 51 B51_0 = true := by decide +kernel
def B51_1 : List zRow := [(16, .iconst 1, 1, (0, 0, 0)), (17, .goto 4, 3, (0, 0, 0))]
theorem K51_1 : zRk 51 B51_1 = true := by decide +kernel
def B51_2 : List zRow := [(8, .aload_n 0, 1, (0, 0, 0)), (9, .getfield 82, 3, (5, 6, 0)), (12, .iload_n 1, 1, (0, 0, 0)), (13, .if_icmp .ne 7, 3, (0, 0, 0))]
theorem K51_2 : zRk 51 B51_2 = true := by decide +kernel
def B51_3 : List zRow := [(0, .aload_n 0, 1, (0, 0, 0)), (1, .getfield 70, 3, (5, 4, 0)), (4, .iconst 5, 1, (0, 0, 0)), (5, .if_icmp .ne 15, 3, (0, 0, 0))]
theorem K51_3 : zRk 51 B51_3 = true := by decide +kernel
/-- EchoVale$Reader.isSign(I)Z -/
def F51 (v1 : Int) (h : zHC) : Option Int := if ¬ (h 324 0 0) = 5 then some 0 else if ¬ (h 326 0 0) = v1 then some 0 else some 1
set_option maxRecDepth 100000 in
theorem S51 {spec : zRn zH2} {hm : zHM} {o : Int → Int} {d : Nat} (hd : 1 ≤ d) (v1 : Int) (h : zHC) (v : Int) (e : F51 v1 h = some v) : zRu2 spec d 51 [(15, 0), (0, v1)] (h, hm, o) (some (0, v)) (h, hm, o) := by
  refine zF_in (D := 0) (mx := 2) (L := [some (15, 0), some (0, v1)]) (by decide +kernel) rfl rfl hd (fun d hd => ?_)
  unfold F51 at e
  rcases zI_s e with ⟨q1, e⟩ | ⟨q1, e⟩
  · refine zF_blk (m := []) (d := 1) (b := B51_3) (gs := [¬ (h 324 0 0) = 5]) (c' := (20, [some (15, 0), some (0, v1)], [], (h, hm, o))) K51_3 rfl ⟨q1, trivial⟩ ?_
    refine zF_blk (m := []) (d := 0) (b := B51_0) (gs := []) (c' := (21, [some (15, 0), some (0, v1)], [(0, 0)], (h, hm, o))) K51_0 rfl trivial ?_
    obtain rfl := Option.some.inj e
    exact zF_rb (by decide +kernel) (Or.inl rfl)
  · refine zF_blk (m := []) (d := 0) (b := B51_3) (gs := [¬ (¬ (h 324 0 0) = 5)]) (c' := (8, [some (15, 0), some (0, v1)], [], (h, hm, o))) K51_3 rfl ⟨q1, trivial⟩ ?_
    rcases zI_s e with ⟨q2, e⟩ | ⟨q2, e⟩
    · refine zF_blk (m := []) (d := 1) (b := B51_2) (gs := [¬ (h 326 0 0) = v1]) (c' := (20, [some (15, 0), some (0, v1)], [], (h, hm, o))) K51_2 rfl ⟨q2, trivial⟩ ?_
      refine zF_blk (m := []) (d := 0) (b := B51_0) (gs := []) (c' := (21, [some (15, 0), some (0, v1)], [(0, 0)], (h, hm, o))) K51_0 rfl trivial ?_
      obtain rfl := Option.some.inj e
      exact zF_rb (by decide +kernel) (Or.inl rfl)
    · refine zF_blk (m := []) (d := 0) (b := B51_2) (gs := [¬ (¬ (h 326 0 0) = v1)]) (c' := (16, [some (15, 0), some (0, v1)], [], (h, hm, o))) K51_2 rfl ⟨q2, trivial⟩ ?_
      refine zF_blk (m := []) (d := 0) (b := B51_1) (gs := []) (c' := (21, [some (15, 0), some (0, v1)], [(0, 1)], (h, hm, o))) K51_1 rfl trivial ?_
      obtain rfl := Option.some.inj e
      exact zF_rb (by decide +kernel) (Or.inr rfl)
def B50_0 : List zRow := [(0, .aload_n 0, 1, (0, 0, 0)), (1, .iload_n 1, 1, (0, 0, 0))]
theorem K50_0 : zRk 50 B50_0 = true := by decide +kernel
def B50_1 : List zRow := [(14, .aload_n 0, 1, (0, 0, 0))]
theorem K50_1 : zRk 50 B50_1 = true := by decide +kernel
def B50_2 : List zRow := [(18, .iconst 1, 1, (0, 0, 0))]
theorem K50_2 : zRk 50 B50_2 = true := by decide +kernel
def B50_3 : List zRow := [(8, .aload_n 0, 1, (0, 0, 0)), (9, .iconst 1, 1, (0, 0, 0))]
theorem K50_3 : zRk 50 B50_3 = true := by decide +kernel
def B50_4 : List zRow := [(5, .ifCond .ne 9, 3, (0, 0, 0))]
theorem K50_4 : zRk 50 B50_4 = true := by decide +kernel
/-- EchoVale$Reader.passSign(I)Z -/
def F50 (v1 : Int) (h : zHC) : Option (Int × zHC) := (F51 v1 h).bind fun r1 => if ¬ r1 = 0 then (F21 h).bind fun r2 => some (1, r2) else (F31 1 h).bind fun r3 => zG (r3.1 = 0 ∨ r3.1 = 1) (some (r3.1, r3.2))
set_option maxRecDepth 100000 in
theorem S50 {spec : zRn zH2} {hm : zHM} {o : Int → Int} {d : Nat} (hd : 4 ≤ d) (v1 : Int) (h : zHC) (v : (Int × zHC)) (e : F50 v1 h = some v) : zRu2 spec d 50 [(15, 0), (0, v1)] (h, hm, o) (some (0, v.1)) (v.2, hm, o) := by
  refine zF_in (D := 3) (mx := 2) (L := [some (15, 0), some (0, v1)]) (by decide +kernel) rfl rfl hd (fun d hd => ?_)
  unfold F50 at e
  obtain ⟨r1, q1, e⟩ := zB_s e
  refine zF_blk (m := []) (d := 0) (b := B50_0) (gs := []) (c' := (2, [some (15, 0), some (0, v1)], [(0, v1), (15, 0)], (h, hm, o))) K50_0 rfl trivial ?_
  refine zF_call (k := 51) (cl := 5) (n := 2) (i := .invokevirtual 99) (args := [(15, 0), (0, v1)]) (rest := []) (g1 := (h, hm, o)) (r1 := some (0, r1)) (by decide +kernel) rfl rfl rfl (st' := [(0, r1)]) rfl (S51 (Nat.le_trans (by decide) hd) v1 h _ q1) ?_
  rcases zI_s e with ⟨q2, e⟩ | ⟨q2, e⟩
  · refine zF_blk (m := []) (d := 1) (b := B50_4) (gs := [¬ r1 = 0]) (c' := (14, [some (15, 0), some (0, v1)], [], (h, hm, o))) K50_4 rfl ⟨q2, trivial⟩ ?_
    obtain ⟨r2, q3, e⟩ := zB_s e
    refine zF_blk (m := []) (d := 0) (b := B50_1) (gs := []) (c' := (15, [some (15, 0), some (0, v1)], [(15, 0)], (h, hm, o))) K50_1 rfl trivial ?_
    refine zF_call (k := 21) (cl := 5) (n := 1) (i := .invokevirtual 54) (args := [(15, 0)]) (rest := []) (g1 := (r2, hm, o)) (r1 := none) (by decide +kernel) rfl rfl rfl (st' := []) rfl (S21 (Nat.le_trans (by decide) hd)  h _ q3) ?_
    refine zF_blk (m := []) (d := 0) (b := B50_2) (gs := []) (c' := (19, [some (15, 0), some (0, v1)], [(0, 1)], (r2, hm, o))) K50_2 rfl trivial ?_
    exact zF_rbC (by decide +kernel) (Or.inr rfl) e
  · refine zF_blk (m := []) (d := 0) (b := B50_4) (gs := [¬ (¬ r1 = 0)]) (c' := (8, [some (15, 0), some (0, v1)], [], (h, hm, o))) K50_4 rfl ⟨q2, trivial⟩ ?_
    obtain ⟨r3, q4, e⟩ := zB_s e
    refine zF_blk (m := []) (d := 0) (b := B50_3) (gs := []) (c' := (10, [some (15, 0), some (0, v1)], [(0, 1), (15, 0)], (h, hm, o))) K50_3 rfl trivial ?_
    refine zF_call (k := 31) (cl := 5) (n := 2) (i := .invokevirtual 96) (args := [(15, 0), (0, 1)]) (rest := []) (g1 := (r3.2, hm, o)) (r1 := some (0, r3.1)) (by decide +kernel) rfl rfl rfl (st' := [(0, r3.1)]) rfl (S31 (Nat.le_trans (by decide) hd) 1 h _ q4) ?_
    obtain ⟨q5, e⟩ := zG_s e
    exact zF_rbC (by decide +kernel) q5 e
def B18_0 : List zRow := [(0, .aload_n 0, 1, (0, 0, 0)), (1, .getfield 12, 3, (10, 0, 167))]
theorem K18_0 : zRk 18 B18_0 = true := by decide +kernel
def B18_1 : List zRow := [(7, .aload_n 0, 1, (0, 0, 0)), (8, .iconst 0, 1, (0, 0, 0)), (9, .putfield 25, 3, (10, 1, 0)), (12, .aload_n 0, 1, (0, 0, 0)), (13, .getfield 18, 3, (10, 2, 23)), (16, .sipush 900, 3, (0, 0, 0))]
theorem K18_1 : zRk 18 B18_1 = true := by decide +kernel
def B18_2 : List zRow := [(22, .iconst 0, 1, (0, 0, 0)), (23, .istore_n 1, 1, (0, 0, 0))]
theorem K18_2 : zRk 18 B18_2 = true := by decide +kernel
def B18_3 : List zRow := [(78, .iconst 1, 1, (0, 0, 0))]
theorem K18_3 : zRk 18 B18_3 = true := by decide +kernel
def B18_4 : List zRow := [(31, .aload_n 0, 1, (0, 0, 0)), (32, .getfield 18, 3, (10, 2, 23))]
theorem K18_4 : zRk 18 B18_4 = true := by decide +kernel
def B18_5 : List zRow := [(41, .aload_n 0, 1, (0, 0, 0))]
theorem K18_5 : zRk 18 B18_5 = true := by decide +kernel
def B18_6 : List zRow := [(60, .iconst 0, 1, (0, 0, 0))]
theorem K18_6 : zRk 18 B18_6 = true := by decide +kernel
def B18_7 : List zRow := [(48, .aload_n 0, 1, (0, 0, 0)), (49, .getfield 18, 3, (10, 2, 23)), (52, .bipush 59, 2, (0, 0, 0))]
theorem K18_7 : zRk 18 B18_7 = true := by decide +kernel
def B18_8 : List zRow := [(62, .aload_n 0, 1, (0, 0, 0)), (63, .dup, 1, (0, 0, 0)), (64, .getfield 25, 3, (10, 1, 0)), (67, .iconst 1, 1, (0, 0, 0)), (68, .iadd, 1, (0, 0, 0)), (69, .putfield 25, 3, (10, 1, 0)), (72, .iinc 1 1, 3, (0, 0, 0)), (75, .goto (-51), 3, (0, 0, 0))]
theorem K18_8 : zRk 18 B18_8 = true := by decide +kernel
def B18_9 : List zRow := [(57, .ifCond .ne 5, 3, (0, 0, 0))]
theorem K18_9 : zRk 18 B18_9 = true := by decide +kernel
def B18_10 : List zRow := [(45, .ifCond .eq 15, 3, (0, 0, 0))]
theorem K18_10 : zRk 18 B18_10 = true := by decide +kernel
def B18_11 : List zRow := [(38, .ifCond .ne 40, 3, (0, 0, 0))]
theorem K18_11 : zRk 18 B18_11 = true := by decide +kernel
def B18_12 : List zRow := [(24, .iload_n 1, 1, (0, 0, 0)), (25, .sipush 940, 3, (0, 0, 0)), (28, .if_icmp .ge 50, 3, (0, 0, 0))]
theorem K18_12 : zRk 18 B18_12 = true := by decide +kernel
def F18_0 : Nat → Int → zHC → Option (Int × zHC)
  | 0, _, _ => none
  | n + 1, v1, h => if 940 ≤ v1 then some (1, h) else (F29 h).bind fun r1 => if ¬ r1 = 0 then some (1, h) else (F30 h).bind fun r2 => if r2.1 = 0 then some (0, r2.2) else (F50 59 r2.2).bind fun r3 => if ¬ r3.1 = 0 then (F18_0 n) (wadd v1 1) (hset r3.2 641 0 0 (wadd (r3.2 641 0 0) 1)) else some (0, r3.2)
set_option maxRecDepth 100000 in
theorem T18_0 {spec : zRn zH2} {hm : zHM} {o : Int → Int} {d : Nat} (hd : 6 ≤ d) : ∀ (n : Nat) (v1 : Int) (h : zHC) (v : (Int × zHC)), F18_0 n v1 h = some v → zFin 0 (fun _ => 0) (zRu2 spec d) 18 (some (0, v.1)) (v.2, hm, o) (24, [some (20, 0), some (0, v1)], [], (h, hm, o)) := by
  intro n
  induction n with
  | zero => intro v1 h v e; unfold F18_0 at e; cases e
  | succ n hk0 =>
    intro v1 h v e
    unfold F18_0 at e
    rcases zI_s e with ⟨q1, e⟩ | ⟨q1, e⟩
    · refine zF_blk (m := []) (d := 1) (b := B18_12) (gs := [940 ≤ v1]) (c' := (78, [some (20, 0), some (0, v1)], [], (h, hm, o))) K18_12 rfl ⟨q1, trivial⟩ ?_
      refine zF_blk (m := []) (d := 0) (b := B18_3) (gs := []) (c' := (79, [some (20, 0), some (0, v1)], [(0, 1)], (h, hm, o))) K18_3 rfl trivial ?_
      exact zF_rbC (by decide +kernel) (Or.inr rfl) e
    · refine zF_blk (m := []) (d := 0) (b := B18_12) (gs := [¬ (940 ≤ v1)]) (c' := (31, [some (20, 0), some (0, v1)], [], (h, hm, o))) K18_12 rfl ⟨q1, trivial⟩ ?_
      obtain ⟨r1, q2, e⟩ := zB_s e
      refine zF_blk (m := []) (d := 0) (b := B18_4) (gs := []) (c' := (35, [some (20, 0), some (0, v1)], [(15, 0)], (h, hm, o))) K18_4 rfl trivial ?_
      refine zF_call (k := 29) (cl := 5) (n := 1) (i := .invokevirtual 35) (args := [(15, 0)]) (rest := []) (g1 := (h, hm, o)) (r1 := some (0, r1)) (by decide +kernel) rfl rfl rfl (st' := [(0, r1)]) rfl (S29 (Nat.le_trans (by decide) hd)  h _ q2) ?_
      rcases zI_s e with ⟨q3, e⟩ | ⟨q3, e⟩
      · refine zF_blk (m := []) (d := 1) (b := B18_11) (gs := [¬ r1 = 0]) (c' := (78, [some (20, 0), some (0, v1)], [], (h, hm, o))) K18_11 rfl ⟨q3, trivial⟩ ?_
        refine zF_blk (m := []) (d := 0) (b := B18_3) (gs := []) (c' := (79, [some (20, 0), some (0, v1)], [(0, 1)], (h, hm, o))) K18_3 rfl trivial ?_
        exact zF_rbC (by decide +kernel) (Or.inr rfl) e
      · refine zF_blk (m := []) (d := 0) (b := B18_11) (gs := [¬ (¬ r1 = 0)]) (c' := (41, [some (20, 0), some (0, v1)], [], (h, hm, o))) K18_11 rfl ⟨q3, trivial⟩ ?_
        obtain ⟨r2, q4, e⟩ := zB_s e
        refine zF_blk (m := []) (d := 0) (b := B18_5) (gs := []) (c' := (42, [some (20, 0), some (0, v1)], [(20, 0)], (h, hm, o))) K18_5 rfl trivial ?_
        refine zF_call (k := 30) (cl := 10) (n := 1) (i := .invokevirtual 39) (args := [(20, 0)]) (rest := []) (g1 := (r2.2, hm, o)) (r1 := some (0, r2.1)) (by decide +kernel) rfl rfl rfl (st' := [(0, r2.1)]) rfl (S30 (Nat.le_trans (by decide) hd)  h _ q4) ?_
        rcases zI_s e with ⟨q5, e⟩ | ⟨q5, e⟩
        · refine zF_blk (m := []) (d := 1) (b := B18_10) (gs := [r2.1 = 0]) (c' := (60, [some (20, 0), some (0, v1)], [], (r2.2, hm, o))) K18_10 rfl ⟨q5, trivial⟩ ?_
          refine zF_blk (m := []) (d := 0) (b := B18_6) (gs := []) (c' := (61, [some (20, 0), some (0, v1)], [(0, 0)], (r2.2, hm, o))) K18_6 rfl trivial ?_
          exact zF_rbC (by decide +kernel) (Or.inl rfl) e
        · refine zF_blk (m := []) (d := 0) (b := B18_10) (gs := [¬ (r2.1 = 0)]) (c' := (48, [some (20, 0), some (0, v1)], [], (r2.2, hm, o))) K18_10 rfl ⟨q5, trivial⟩ ?_
          obtain ⟨r3, q6, e⟩ := zB_s e
          refine zF_blk (m := []) (d := 0) (b := B18_7) (gs := []) (c' := (54, [some (20, 0), some (0, v1)], [(0, 59), (15, 0)], (r2.2, hm, o))) K18_7 rfl trivial ?_
          refine zF_call (k := 50) (cl := 5) (n := 2) (i := .invokevirtual 42) (args := [(15, 0), (0, 59)]) (rest := []) (g1 := (r3.2, hm, o)) (r1 := some (0, r3.1)) (by decide +kernel) rfl rfl rfl (st' := [(0, r3.1)]) rfl (S50 (Nat.le_trans (by decide) hd) 59 r2.2 _ q6) ?_
          rcases zI_s e with ⟨q7, e⟩ | ⟨q7, e⟩
          · refine zF_blk (m := []) (d := 1) (b := B18_9) (gs := [¬ r3.1 = 0]) (c' := (62, [some (20, 0), some (0, v1)], [], (r3.2, hm, o))) K18_9 rfl ⟨q7, trivial⟩ ?_
            refine zF_blk (m := []) (d := 0) (b := B18_8) (gs := []) (c' := (24, [some (20, 0), some (0, (wadd v1 1))], [], ((hset r3.2 641 0 0 (wadd (r3.2 641 0 0) 1)), hm, o))) K18_8 rfl trivial ?_
            exact hk0 (wadd v1 1) (hset r3.2 641 0 0 (wadd (r3.2 641 0 0) 1)) _ e
          · refine zF_blk (m := []) (d := 0) (b := B18_9) (gs := [¬ (¬ r3.1 = 0)]) (c' := (60, [some (20, 0), some (0, v1)], [], (r3.2, hm, o))) K18_9 rfl ⟨q7, trivial⟩ ?_
            refine zF_blk (m := []) (d := 0) (b := B18_6) (gs := []) (c' := (61, [some (20, 0), some (0, v1)], [(0, 0)], (r3.2, hm, o))) K18_6 rfl trivial ?_
            exact zF_rbC (by decide +kernel) (Or.inl rfl) e
/-- EchoVale$ValleyText.readText()Z -/
def F18 (h : zHC) : Option (Int × zHC) := (F19 1 h).bind fun r1 => (F20 900 (hset r1 641 0 0 0)).bind fun r2 => F18_0 zFu 0 r2
set_option maxRecDepth 100000 in
theorem S18 {spec : zRn zH2} {hm : zHM} {o : Int → Int} {d : Nat} (hd : 7 ≤ d) (h : zHC) (v : (Int × zHC)) (e : F18 h = some v) : zRu2 spec d 18 [(20, 0)] (h, hm, o) (some (0, v.1)) (v.2, hm, o) := by
  refine zF_in (D := 6) (mx := 2) (L := [some (20, 0), none]) (by decide +kernel) rfl rfl hd (fun d hd => ?_)
  unfold F18 at e
  obtain ⟨r1, q1, e⟩ := zB_s e
  refine zF_blk (m := []) (d := 0) (b := B18_0) (gs := []) (c' := (4, [some (20, 0), none], [(19, 1)], (h, hm, o))) K18_0 rfl trivial ?_
  refine zF_call (k := 19) (cl := 9) (n := 1) (i := .invokevirtual 22) (args := [(19, 1)]) (rest := []) (g1 := (r1, hm, o)) (r1 := none) (by decide +kernel) rfl rfl rfl (st' := []) rfl (S19 (Nat.le_trans (by decide) hd) 1 h _ q1) ?_
  obtain ⟨r2, q2, e⟩ := zB_s e
  refine zF_blk (m := []) (d := 0) (b := B18_1) (gs := []) (c' := (19, [some (20, 0), none], [(0, 900), (15, 0)], ((hset r1 641 0 0 0), hm, o))) K18_1 rfl trivial ?_
  refine zF_call (k := 20) (cl := 5) (n := 2) (i := .invokevirtual 29) (args := [(15, 0), (0, 900)]) (rest := []) (g1 := (r2, hm, o)) (r1 := none) (by decide +kernel) rfl rfl rfl (st' := []) rfl (S20 (Nat.le_trans (by decide) hd) 900 (hset r1 641 0 0 0) _ q2) ?_
  refine zF_blk (m := []) (d := 0) (b := B18_2) (gs := []) (c' := (24, [some (20, 0), some (0, 0)], [], (r2, hm, o))) K18_2 rfl trivial ?_
  exact T18_0 hd zFu 0 r2 _ e
def B52_0 : List zRow := [(0, .aload_n 0, 1, (0, 0, 0)), (1, .aload_n 1, 1, (0, 0, 0)), (2, .getfield 52, 3, (9, 0, 0)), (5, .putfield 52, 3, (9, 0, 0)), (8, .aload_n 0, 1, (0, 0, 0)), (9, .aload_n 1, 1, (0, 0, 0)), (10, .getfield 56, 3, (9, 1, 0)), (13, .putfield 56, 3, (9, 1, 0)), (16, .aload_n 0, 1, (0, 0, 0)), (17, .aload_n 1, 1, (0, 0, 0)), (18, .getfield 59, 3, (9, 2, 0)), (21, .putfield 59, 3, (9, 2, 0)), (24, .aload_n 0, 1, (0, 0, 0)), (25, .aload_n 1, 1, (0, 0, 0)), (26, .getfield 62, 3, (9, 3, 0)), (29, .putfield 62, 3, (9, 3, 0)), (32, .aload_n 0, 1, (0, 0, 0)), (33, .aload_n 1, 1, (0, 0, 0)), (34, .getfield 65, 3, (9, 4, 0)), (37, .putfield 65, 3, (9, 4, 0)), (40, .aload_n 0, 1, (0, 0, 0)), (41, .aload_n 1, 1, (0, 0, 0)), (42, .getfield 68, 3, (9, 5, 0)), (45, .putfield 68, 3, (9, 5, 0)), (48, .aload_n 0, 1, (0, 0, 0)), (49, .aload_n 1, 1, (0, 0, 0)), (50, .getfield 71, 3, (9, 6, 0)), (53, .putfield 71, 3, (9, 6, 0)), (56, .aload_n 1, 1, (0, 0, 0)), (57, .getfield 9, 3, (9, 7, 5505050)), (60, .iconst 0, 1, (0, 0, 0)), (61, .aload_n 0, 1, (0, 0, 0)), (62, .getfield 9, 3, (9, 7, 5505050)), (65, .iconst 0, 1, (0, 0, 0)), (66, .bipush 6, 2, (0, 0, 0)), (68, .invokestatic 74, 3, (5001, 0, 0)), (71, .aload_n 1, 1, (0, 0, 0)), (72, .getfield 15, 3, (9, 8, 5242906)), (75, .iconst 0, 1, (0, 0, 0)), (76, .aload_n 0, 1, (0, 0, 0)), (77, .getfield 15, 3, (9, 8, 5242906)), (80, .iconst 0, 1, (0, 0, 0)), (81, .bipush 6, 2, (0, 0, 0)), (83, .invokestatic 74, 3, (5001, 0, 0)), (86, .aload_n 1, 1, (0, 0, 0)), (87, .getfield 19, 3, (9, 9, 5242906)), (90, .iconst 0, 1, (0, 0, 0)), (91, .aload_n 0, 1, (0, 0, 0)), (92, .getfield 19, 3, (9, 9, 5242906)), (95, .iconst 0, 1, (0, 0, 0)), (96, .bipush 6, 2, (0, 0, 0)), (98, .invokestatic 74, 3, (5001, 0, 0)), (101, .aload_n 1, 1, (0, 0, 0)), (102, .getfield 22, 3, (9, 10, 5242906)), (105, .iconst 0, 1, (0, 0, 0)), (106, .aload_n 0, 1, (0, 0, 0)), (107, .getfield 22, 3, (9, 10, 5242906)), (110, .iconst 0, 1, (0, 0, 0)), (111, .bipush 6, 2, (0, 0, 0)), (113, .invokestatic 74, 3, (5001, 0, 0)), (116, .aload_n 1, 1, (0, 0, 0)), (117, .getfield 25, 3, (9, 11, 5505050)), (120, .iconst 0, 1, (0, 0, 0)), (121, .aload_n 0, 1, (0, 0, 0)), (122, .getfield 25, 3, (9, 11, 5505050)), (125, .iconst 0, 1, (0, 0, 0)), (126, .bipush 6, 2, (0, 0, 0)), (128, .invokestatic 74, 3, (5001, 0, 0)), (131, .aload_n 1, 1, (0, 0, 0)), (132, .getfield 28, 3, (9, 12, 5242906)), (135, .iconst 0, 1, (0, 0, 0)), (136, .aload_n 0, 1, (0, 0, 0)), (137, .getfield 28, 3, (9, 12, 5242906)), (140, .iconst 0, 1, (0, 0, 0)), (141, .bipush 6, 2, (0, 0, 0)), (143, .invokestatic 74, 3, (5001, 0, 0)), (146, .aload_n 1, 1, (0, 0, 0)), (147, .getfield 31, 3, (9, 13, 5242906)), (150, .iconst 0, 1, (0, 0, 0)), (151, .aload_n 0, 1, (0, 0, 0)), (152, .getfield 31, 3, (9, 13, 5242906)), (155, .iconst 0, 1, (0, 0, 0)), (156, .bipush 6, 2, (0, 0, 0)), (158, .invokestatic 74, 3, (5001, 0, 0)), (161, .aload_n 1, 1, (0, 0, 0)), (162, .getfield 34, 3, (9, 14, 5242962)), (165, .iconst 0, 1, (0, 0, 0)), (166, .aload_n 0, 1, (0, 0, 0)), (167, .getfield 34, 3, (9, 14, 5242962)), (170, .iconst 0, 1, (0, 0, 0)), (171, .bipush 20, 2, (0, 0, 0)), (173, .invokestatic 74, 3, (5001, 0, 0)), (176, .aload_n 1, 1, (0, 0, 0)), (177, .getfield 37, 3, (9, 15, 5242962)), (180, .iconst 0, 1, (0, 0, 0)), (181, .aload_n 0, 1, (0, 0, 0)), (182, .getfield 37, 3, (9, 15, 5242962)), (185, .iconst 0, 1, (0, 0, 0)), (186, .bipush 20, 2, (0, 0, 0)), (188, .invokestatic 74, 3, (5001, 0, 0)), (191, .aload_n 1, 1, (0, 0, 0)), (192, .getfield 40, 3, (9, 16, 5242962)), (195, .iconst 0, 1, (0, 0, 0)), (196, .aload_n 0, 1, (0, 0, 0)), (197, .getfield 40, 3, (9, 16, 5242962)), (200, .iconst 0, 1, (0, 0, 0)), (201, .bipush 20, 2, (0, 0, 0)), (203, .invokestatic 74, 3, (5001, 0, 0)), (206, .aload_n 1, 1, (0, 0, 0)), (207, .getfield 43, 3, (9, 17, 5242914)), (210, .iconst 0, 1, (0, 0, 0)), (211, .aload_n 0, 1, (0, 0, 0)), (212, .getfield 43, 3, (9, 17, 5242914)), (215, .iconst 0, 1, (0, 0, 0)), (216, .bipush 8, 2, (0, 0, 0)), (218, .invokestatic 74, 3, (5001, 0, 0)), (221, .aload_n 1, 1, (0, 0, 0)), (222, .getfield 46, 3, (9, 18, 5242906)), (225, .iconst 0, 1, (0, 0, 0)), (226, .aload_n 0, 1, (0, 0, 0)), (227, .getfield 46, 3, (9, 18, 5242906)), (230, .iconst 0, 1, (0, 0, 0)), (231, .bipush 6, 2, (0, 0, 0)), (233, .invokestatic 74, 3, (5001, 0, 0)), (236, .aload_n 1, 1, (0, 0, 0)), (237, .getfield 49, 3, (9, 19, 5242906)), (240, .iconst 0, 1, (0, 0, 0)), (241, .aload_n 0, 1, (0, 0, 0)), (242, .getfield 49, 3, (9, 19, 5242906)), (245, .iconst 0, 1, (0, 0, 0)), (246, .bipush 6, 2, (0, 0, 0)), (248, .invokestatic 74, 3, (5001, 0, 0))]
theorem K52_0 : zRk 52 B52_0 = true := by decide +kernel
/-- EchoVale$Valley.copyFrom(LEchoVale$Valley;)V -/
def F52 (v0 : Int) (v1 : Int) (h : zHC) : Option zHC := some (hcpy (hcpy (hcpy (hcpy (hcpy (hcpy (hcpy (hcpy (hcpy (hcpy (hcpy (hcpy (hcpy (hset (hset (hset (hset (hset (hset (hset h 576 v0 0 (h 576 v1 0)) 577 v0 0 (h 577 v1 0)) 578 v0 0 (h 578 v1 0)) 579 v0 0 (h 579 v1 0)) 580 v0 0 (h 580 v1 0)) 581 v0 0 (h 581 v1 0)) 582 v0 0 (h 582 v1 0)) 583 v0 583 v1 0 0 6) 584 v0 584 v1 0 0 6) 585 v0 585 v1 0 0 6) 586 v0 586 v1 0 0 6) 587 v0 587 v1 0 0 6) 588 v0 588 v1 0 0 6) 589 v0 589 v1 0 0 6) 590 v0 590 v1 0 0 20) 591 v0 591 v1 0 0 20) 592 v0 592 v1 0 0 20) 593 v0 593 v1 0 0 8) 594 v0 594 v1 0 0 6) 595 v0 595 v1 0 0 6)
set_option maxRecDepth 100000 in
theorem S52 {spec : zRn zH2} {hm : zHM} {o : Int → Int} {d : Nat} (hd : 1 ≤ d) (v0 : Int) (v1 : Int) (h : zHC) (v : zHC) (e : F52 v0 v1 h = some v) : zRu2 spec d 52 [(19, v0), (19, v1)] (h, hm, o) none (v, hm, o) := by
  refine zF_in (D := 0) (mx := 2) (L := [some (19, v0), some (19, v1)]) (by decide +kernel) rfl rfl hd (fun d hd => ?_)
  unfold F52 at e
  refine zF_blk (m := []) (d := 0) (b := B52_0) (gs := [0 ≤ 0, 0 ≤ 0, 0 ≤ 6, 0 + 6 ≤ 6, 0 + 6 ≤ 6, 0 ≤ 0, 0 ≤ 0, 0 ≤ 6, 0 + 6 ≤ 6, 0 + 6 ≤ 6, 0 ≤ 0, 0 ≤ 0, 0 ≤ 6, 0 + 6 ≤ 6, 0 + 6 ≤ 6, 0 ≤ 0, 0 ≤ 0, 0 ≤ 6, 0 + 6 ≤ 6, 0 + 6 ≤ 6, 0 ≤ 0, 0 ≤ 0, 0 ≤ 6, 0 + 6 ≤ 6, 0 + 6 ≤ 6, 0 ≤ 0, 0 ≤ 0, 0 ≤ 6, 0 + 6 ≤ 6, 0 + 6 ≤ 6, 0 ≤ 0, 0 ≤ 0, 0 ≤ 6, 0 + 6 ≤ 6, 0 + 6 ≤ 6, 0 ≤ 0, 0 ≤ 0, 0 ≤ 20, 0 + 20 ≤ 20, 0 + 20 ≤ 20, 0 ≤ 0, 0 ≤ 0, 0 ≤ 20, 0 + 20 ≤ 20, 0 + 20 ≤ 20, 0 ≤ 0, 0 ≤ 0, 0 ≤ 20, 0 + 20 ≤ 20, 0 + 20 ≤ 20, 0 ≤ 0, 0 ≤ 0, 0 ≤ 8, 0 + 8 ≤ 8, 0 + 8 ≤ 8, 0 ≤ 0, 0 ≤ 0, 0 ≤ 6, 0 + 6 ≤ 6, 0 + 6 ≤ 6, 0 ≤ 0, 0 ≤ 0, 0 ≤ 6, 0 + 6 ≤ 6, 0 + 6 ≤ 6]) (c' := (251, [some (19, v0), some (19, v1)], [], ((hcpy (hcpy (hcpy (hcpy (hcpy (hcpy (hcpy (hcpy (hcpy (hcpy (hcpy (hcpy (hcpy (hset (hset (hset (hset (hset (hset (hset h 576 v0 0 (h 576 v1 0)) 577 v0 0 (h 577 v1 0)) 578 v0 0 (h 578 v1 0)) 579 v0 0 (h 579 v1 0)) 580 v0 0 (h 580 v1 0)) 581 v0 0 (h 581 v1 0)) 582 v0 0 (h 582 v1 0)) 583 v0 583 v1 0 0 6) 584 v0 584 v1 0 0 6) 585 v0 585 v1 0 0 6) 586 v0 586 v1 0 0 6) 587 v0 587 v1 0 0 6) 588 v0 588 v1 0 0 6) 589 v0 589 v1 0 0 6) 590 v0 590 v1 0 0 20) 591 v0 591 v1 0 0 20) 592 v0 592 v1 0 0 20) 593 v0 593 v1 0 0 8) 594 v0 594 v1 0 0 6) 595 v0 595 v1 0 0 6), hm, o))) K52_0 rfl ⟨by decide, by decide, by decide, by decide, by decide, by decide, by decide, by decide, by decide, by decide, by decide, by decide, by decide, by decide, by decide, by decide, by decide, by decide, by decide, by decide, by decide, by decide, by decide, by decide, by decide, by decide, by decide, by decide, by decide, by decide, by decide, by decide, by decide, by decide, by decide, by decide, by decide, by decide, by decide, by decide, by decide, by decide, by decide, by decide, by decide, by decide, by decide, by decide, by decide, by decide, by decide, by decide, by decide, by decide, by decide, by decide, by decide, by decide, by decide, by decide, by decide, by decide, by decide, by decide, by decide, trivial⟩ ?_
  obtain rfl := Option.some.inj e
  exact zF_rv (by decide +kernel)
