/-! Functions of the methods, by wip/gen/lift.py. -/
def B268_0 : List zRow := [(0, .aload_n 0, 1, (0, 0, 0)), (1, .sipush 300, 3, (0, 0, 0))]
theorem K268_0 : zRk 268 B268_0 = true := by decide +kernel
def B268_1 : List zRow := [(7, .aload_n 0, 1, (0, 0, 0)), (8, .iconst 0, 1, (0, 0, 0)), (9, .putfield 360, 3, (12, 36, 0)), (12, .aload_n 0, 1, (0, 0, 0)), (13, .iconst (-1), 1, (0, 0, 0)), (14, .putfield 363, 3, (12, 37, 0))]
theorem K268_1 : zRk 268 B268_1 = true := by decide +kernel
def B268_2 : List zRow := [(39, .aload_n 0, 1, (0, 0, 0)), (40, .getfield 363, 3, (12, 37, 0))]
theorem K268_2 : zRk 268 B268_2 = true := by decide +kernel
def B268_3 : List zRow := [(24, .aload_n 0, 1, (0, 0, 0))]
theorem K268_3 : zRk 268 B268_3 = true := by decide +kernel
def B268_4 : List zRow := [(31, .bipush (-2), 2, (0, 0, 0)), (33, .aload_n 0, 1, (0, 0, 0)), (34, .getfield 145, 3, (12, 11, 0))]
theorem K268_4 : zRk 268 B268_4 = true := by decide +kernel
def B268_5 : List zRow := [(37, .isub, 1, (0, 0, 0))]
theorem K268_5 : zRk 268 B268_5 = true := by decide +kernel
def B268_6 : List zRow := [(28, .ifCond .ne (-11), 3, (0, 0, 0))]
theorem K268_6 : zRk 268 B268_6 = true := by decide +kernel
def B268_7 : List zRow := [(17, .aload_n 0, 1, (0, 0, 0)), (18, .getfield 107, 3, (12, 7, 0)), (21, .ifCond .eq 18, 3, (0, 0, 0))]
theorem K268_7 : zRk 268 B268_7 = true := by decide +kernel
def F268_0 : Nat → zHM → Option (Int × zHM)
  | 0, _ => none
  | n + 1, h => if (h 7 0) = 0 then some ((h 37 0), h) else (F269 h).bind fun r1 => if ¬ r1.1 = 0 then (F268_0 n) r1.2 else some ((wsub (-2) (r1.2 11 0)), r1.2)
set_option maxRecDepth 100000 in
theorem T268_0 {spec : zRn zH2} {hc : zHC} {o : Int → Int} {d : Nat} (hd : 4 ≤ d) : ∀ (n : Nat) (h : zHM) (v : (Int × zHM)), F268_0 n h = some v → zFin 0 (fun _ => 0) (zRu2 spec d) 268 (some (0, v.1)) (hc, v.2, o) (17, [some (22, 0)], [], (hc, h, o)) := by
  intro n
  induction n with
  | zero => intro h v e; unfold F268_0 at e; cases e
  | succ n hk0 =>
    intro h v e
    unfold F268_0 at e
    rcases zI_s e with ⟨q1, e⟩ | ⟨q1, e⟩
    · refine zF_blk (m := []) (d := 1) (b := B268_7) (gs := [(h 7 0) = 0]) (c' := (39, [some (22, 0)], [], (hc, h, o))) K268_7 rfl ⟨q1, trivial⟩ ?_
      refine zF_blk (m := []) (d := 0) (b := B268_2) (gs := []) (c' := (43, [some (22, 0)], [(0, (h 37 0))], (hc, h, o))) K268_2 rfl trivial ?_
      exact zF_riM (by decide +kernel) e
    · refine zF_blk (m := []) (d := 0) (b := B268_7) (gs := [¬ ((h 7 0) = 0)]) (c' := (24, [some (22, 0)], [], (hc, h, o))) K268_7 rfl ⟨q1, trivial⟩ ?_
      obtain ⟨r1, q2, e⟩ := zB_s e
      refine zF_blk (m := []) (d := 0) (b := B268_3) (gs := []) (c' := (25, [some (22, 0)], [(22, 0)], (hc, h, o))) K268_3 rfl trivial ?_
      refine zF_call (k := 269) (cl := 12) (n := 1) (i := .invokevirtual 366) (args := [(22, 0)]) (rest := []) (g1 := (hc, r1.2, o)) (r1 := some (0, r1.1)) (by decide +kernel) rfl rfl rfl (st' := [(0, r1.1)]) rfl (S269 (Nat.le_trans (by decide) hd)  h _ q2) ?_
      rcases zI_s e with ⟨q3, e⟩ | ⟨q3, e⟩
      · refine zF_blk (m := []) (d := 1) (b := B268_6) (gs := [¬ r1.1 = 0]) (c' := (17, [some (22, 0)], [], (hc, r1.2, o))) K268_6 rfl ⟨q3, trivial⟩ ?_
        exact hk0 r1.2 _ e
      · refine zF_blk (m := []) (d := 0) (b := B268_6) (gs := [¬ (¬ r1.1 = 0)]) (c' := (31, [some (22, 0)], [], (hc, r1.2, o))) K268_6 rfl ⟨q3, trivial⟩ ?_
        refine zF_blk (m := []) (d := 0) (b := B268_4) (gs := []) (c' := (37, [some (22, 0)], [(0, (r1.2 11 0)), (0, (-2))], (hc, r1.2, o))) K268_4 rfl trivial ?_
        refine zF_blk (m := []) (d := 0) (b := B268_5) (gs := []) (c' := (38, [some (22, 0)], [(0, (wsub (-2) (r1.2 11 0)))], (hc, r1.2, o))) K268_5 rfl trivial ?_
        exact zF_riM (by decide +kernel) e
/-- EchoValeModel.claims()I -/
def F268 (h : zHM) : Option (Int × zHM) := (F174 300 h).bind fun r1 => F268_0 zFu (mset (mset r1 36 0 0) 37 0 (-1))
set_option maxRecDepth 100000 in
theorem S268 {spec : zRn zH2} {hc : zHC} {o : Int → Int} {d : Nat} (hd : 5 ≤ d) (h : zHM) (v : (Int × zHM)) (e : F268 h = some v) : zRu2 spec d 268 [(22, 0)] (hc, h, o) (some (0, v.1)) (hc, v.2, o) := by
  refine zF_in (D := 4) (mx := 1) (L := [some (22, 0)]) (by decide +kernel) rfl rfl hd (fun d hd => ?_)
  unfold F268 at e
  obtain ⟨r1, q1, e⟩ := zB_s e
  refine zF_blk (m := []) (d := 0) (b := B268_0) (gs := []) (c' := (4, [some (22, 0)], [(0, 300), (22, 0)], (hc, h, o))) K268_0 rfl trivial ?_
  refine zF_call (k := 174) (cl := 12) (n := 2) (i := .invokevirtual 226) (args := [(22, 0), (0, 300)]) (rest := []) (g1 := (hc, r1, o)) (r1 := none) (by decide +kernel) rfl rfl rfl (st' := []) rfl (S174 (Nat.le_trans (by decide) hd) 300 h _ q1) ?_
  refine zF_blk (m := []) (d := 0) (b := B268_1) (gs := []) (c' := (17, [some (22, 0)], [], (hc, (mset (mset r1 36 0 0) 37 0 (-1)), o))) K268_1 rfl trivial ?_
  exact T268_0 hd zFu (mset (mset r1 36 0 0) 37 0 (-1)) _ e
def B135_0 : List zRow := [(24, .aload_n 0, 1, (0, 0, 0))]
theorem K135_0 : zRk 135 B135_0 = true := by decide +kernel
def B135_1 : List zRow := [(25, .getfield 9, 3, (2, 2, 0)), (28, .bipush 8, 2, (0, 0, 0)), (30, .iushr, 1, (0, 0, 0)), (31, .iload_n 1, 1, (0, 0, 0)), (32, .irem, 1, (0, 0, 0))]
theorem K135_1 : zRk 135 B135_1 = true := by decide +kernel
def B135_2 : List zRow := [(20, .iconst 0, 1, (0, 0, 0)), (21, .goto 12, 3, (0, 0, 0))]
theorem K135_2 : zRk 135 B135_2 = true := by decide +kernel
def B135_3 : List zRow := [(0, .aload_n 0, 1, (0, 0, 0)), (1, .aload_n 0, 1, (0, 0, 0)), (2, .getfield 9, 3, (2, 2, 0)), (5, .ldc 15, 2, (0, 0, 1103515245)), (7, .imul, 1, (0, 0, 0)), (8, .sipush 12345, 3, (0, 0, 0)), (11, .iadd, 1, (0, 0, 0)), (12, .putfield 9, 3, (2, 2, 0)), (15, .iload_n 1, 1, (0, 0, 0)), (16, .iconst 1, 1, (0, 0, 0)), (17, .if_icmp .ge 7, 3, (0, 0, 0))]
theorem K135_3 : zRk 135 B135_3 = true := by decide +kernel
/-- EchoVale$Draws.draw(I)I -/
def F135 (v1 : Int) (h : zHC) : Option (Int × zHC) := if 1 ≤ v1 then zG (¬ v1 = 0) (some ((wrem (wushr ((hset h 130 0 0 (wadd (wmul (h 130 0 0) 1103515245) 12345)) 130 0 0) 8) v1), (hset h 130 0 0 (wadd (wmul (h 130 0 0) 1103515245) 12345)))) else some (0, (hset h 130 0 0 (wadd (wmul (h 130 0 0) 1103515245) 12345)))
set_option maxRecDepth 100000 in
theorem S135 {spec : zRn zH2} {hm : zHM} {o : Int → Int} {d : Nat} (hd : 1 ≤ d) (v1 : Int) (h : zHC) (v : (Int × zHC)) (e : F135 v1 h = some v) : zRu2 spec d 135 [(12, 0), (0, v1)] (h, hm, o) (some (0, v.1)) (v.2, hm, o) := by
  refine zF_in (D := 0) (mx := 2) (L := [some (12, 0), some (0, v1)]) (by decide +kernel) rfl rfl hd (fun d hd => ?_)
  unfold F135 at e
  rcases zI_s e with ⟨q1, e⟩ | ⟨q1, e⟩
  · refine zF_blk (m := []) (d := 1) (b := B135_3) (gs := [1 ≤ v1]) (c' := (24, [some (12, 0), some (0, v1)], [], ((hset h 130 0 0 (wadd (wmul (h 130 0 0) 1103515245) 12345)), hm, o))) K135_3 rfl ⟨q1, trivial⟩ ?_
    obtain ⟨q2, e⟩ := zG_s e
    refine zF_blk (m := []) (d := 0) (b := B135_0) (gs := []) (c' := (25, [some (12, 0), some (0, v1)], [(12, 0)], ((hset h 130 0 0 (wadd (wmul (h 130 0 0) 1103515245) 12345)), hm, o))) K135_0 rfl trivial ?_
    refine zF_blk (m := []) (d := 0) (b := B135_1) (gs := [¬ v1 = 0]) (c' := (33, [some (12, 0), some (0, v1)], [(0, (wrem (wushr ((hset h 130 0 0 (wadd (wmul (h 130 0 0) 1103515245) 12345)) 130 0 0) 8) v1))], ((hset h 130 0 0 (wadd (wmul (h 130 0 0) 1103515245) 12345)), hm, o))) K135_1 rfl ⟨q2, trivial⟩ ?_
    exact zF_riC (by decide +kernel) e
  · refine zF_blk (m := []) (d := 0) (b := B135_3) (gs := [¬ (1 ≤ v1)]) (c' := (20, [some (12, 0), some (0, v1)], [], ((hset h 130 0 0 (wadd (wmul (h 130 0 0) 1103515245) 12345)), hm, o))) K135_3 rfl ⟨q1, trivial⟩ ?_
    refine zF_blk (m := []) (d := 0) (b := B135_2) (gs := []) (c' := (33, [some (12, 0), some (0, v1)], [(0, 0)], ((hset h 130 0 0 (wadd (wmul (h 130 0 0) 1103515245) 12345)), hm, o))) K135_2 rfl trivial ?_
    exact zF_riC (by decide +kernel) e
def B136_0 : List zRow := [(0, .aload_n 0, 1, (0, 0, 0)), (1, .aload_n 1, 1, (0, 0, 0)), (2, .getfield 39, 3, (9, 3, 0))]
theorem K136_0 : zRk 136 B136_0 = true := by decide +kernel
def B136_1 : List zRow := [(8, .istore_n 3, 1, (0, 0, 0)), (9, .aload_n 0, 1, (0, 0, 0)), (10, .bipush 99, 2, (0, 0, 0))]
theorem K136_1 : zRk 136 B136_1 = true := by decide +kernel
def B136_2 : List zRow := [(15, .iconst 1, 1, (0, 0, 0)), (16, .iadd, 1, (0, 0, 0)), (17, .istore 4, 2, (0, 0, 0)), (19, .aload_n 0, 1, (0, 0, 0)), (20, .bipush 9, 2, (0, 0, 0))]
theorem K136_2 : zRk 136 B136_2 = true := by decide +kernel
def B136_3 : List zRow := [(37, .aload_n 2, 1, (0, 0, 0))]
theorem K136_3 : zRk 136 B136_3 = true := by decide +kernel
def B136_4 : List zRow := [(44, .aload_n 2, 1, (0, 0, 0)), (45, .aload_n 1, 1, (0, 0, 0)), (46, .iload_n 3, 1, (0, 0, 0)), (47, .iload 4, 2, (0, 0, 0)), (49, .iload 5, 2, (0, 0, 0))]
theorem K136_4 : zRk 136 B136_4 = true := by decide +kernel
def B136_5 : List zRow := [(54, .pop, 1, (0, 0, 0)), (55, .aload_n 0, 1, (0, 0, 0)), (56, .dup, 1, (0, 0, 0)), (57, .getfield 19, 3, (2, 1, 0)), (60, .iconst 1, 1, (0, 0, 0)), (61, .iadd, 1, (0, 0, 0)), (62, .putfield 19, 3, (2, 1, 0))]
theorem K136_5 : zRk 136 B136_5 = true := by decide +kernel
def B136_6 : List zRow := [(41, .ifCond .ne 24, 3, (0, 0, 0))]
theorem K136_6 : zRk 136 B136_6 = true := by decide +kernel
def B136_7 : List zRow := [(25, .iconst 1, 1, (0, 0, 0)), (26, .iadd, 1, (0, 0, 0)), (27, .istore 5, 2, (0, 0, 0)), (29, .iload_n 3, 1, (0, 0, 0)), (30, .aload_n 1, 1, (0, 0, 0)), (31, .getfield 39, 3, (9, 3, 0)), (34, .if_icmp .ge 31, 3, (0, 0, 0))]
theorem K136_7 : zRk 136 B136_7 = true := by decide +kernel
/-- EchoVale$Draws.speak(LEchoVale$Valley;LEchoVale$Course;)V -/
def F136 (v1 : Int) (v2 : Int) (h : zHC) : Option zHC := (F135 (h 579 v1 0) h).bind fun r1 => (F135 99 r1.2).bind fun r2 => (F135 9 r2.2).bind fun r3 => if (r3.2 579 v1 0) ≤ r1.1 then some r3.2 else (F75 v2 r3.2).bind fun r4 => if ¬ r4 = 0 then some r3.2 else (F76 v2 v1 r1.1 (wadd r2.1 1) (wadd r3.1 1) r3.2).bind fun r5 => some (hset r5.2 129 0 0 (wadd (r5.2 129 0 0) 1))
set_option maxRecDepth 100000 in
theorem S136 {spec : zRn zH2} {hm : zHM} {o : Int → Int} {d : Nat} (hd : 5 ≤ d) (v1 : Int) (v2 : Int) (h : zHC) (v : zHC) (e : F136 v1 v2 h = some v) : zRu2 spec d 136 [(12, 0), (19, v1), (11, v2)] (h, hm, o) none (v, hm, o) := by
  refine zF_in (D := 4) (mx := 6) (L := [some (12, 0), some (19, v1), some (11, v2), none, none, none]) (by decide +kernel) rfl rfl hd (fun d hd => ?_)
  unfold F136 at e
  obtain ⟨r1, q1, e⟩ := zB_s e
  refine zF_blk (m := []) (d := 0) (b := B136_0) (gs := []) (c' := (5, [some (12, 0), some (19, v1), some (11, v2), none, none, none], [(0, (h 579 v1 0)), (12, 0)], (h, hm, o))) K136_0 rfl trivial ?_
  refine zF_call (k := 135) (cl := 2) (n := 2) (i := .invokevirtual 27) (args := [(12, 0), (0, (h 579 v1 0))]) (rest := []) (g1 := (r1.2, hm, o)) (r1 := some (0, r1.1)) (by decide +kernel) rfl rfl rfl (st' := [(0, r1.1)]) rfl (S135 (Nat.le_trans (by decide) hd) (h 579 v1 0) h _ q1) ?_
  obtain ⟨r2, q2, e⟩ := zB_s e
  refine zF_blk (m := []) (d := 0) (b := B136_1) (gs := []) (c' := (12, [some (12, 0), some (19, v1), some (11, v2), some (0, r1.1), none, none], [(0, 99), (12, 0)], (r1.2, hm, o))) K136_1 rfl trivial ?_
  refine zF_call (k := 135) (cl := 2) (n := 2) (i := .invokevirtual 27) (args := [(12, 0), (0, 99)]) (rest := []) (g1 := (r2.2, hm, o)) (r1 := some (0, r2.1)) (by decide +kernel) rfl rfl rfl (st' := [(0, r2.1)]) rfl (S135 (Nat.le_trans (by decide) hd) 99 r1.2 _ q2) ?_
  obtain ⟨r3, q3, e⟩ := zB_s e
  refine zF_blk (m := []) (d := 0) (b := B136_2) (gs := []) (c' := (22, [some (12, 0), some (19, v1), some (11, v2), some (0, r1.1), some (0, (wadd r2.1 1)), none], [(0, 9), (12, 0)], (r2.2, hm, o))) K136_2 rfl trivial ?_
  refine zF_call (k := 135) (cl := 2) (n := 2) (i := .invokevirtual 27) (args := [(12, 0), (0, 9)]) (rest := []) (g1 := (r3.2, hm, o)) (r1 := some (0, r3.1)) (by decide +kernel) rfl rfl rfl (st' := [(0, r3.1)]) rfl (S135 (Nat.le_trans (by decide) hd) 9 r2.2 _ q3) ?_
  rcases zI_s e with ⟨q4, e⟩ | ⟨q4, e⟩
  · refine zF_blk (m := []) (d := 1) (b := B136_7) (gs := [(r3.2 579 v1 0) ≤ r1.1]) (c' := (65, [some (12, 0), some (19, v1), some (11, v2), some (0, r1.1), some (0, (wadd r2.1 1)), some (0, (wadd r3.1 1))], [], (r3.2, hm, o))) K136_7 rfl ⟨q4, trivial⟩ ?_
    obtain rfl := Option.some.inj e
    exact zF_rv (by decide +kernel)
  · refine zF_blk (m := []) (d := 0) (b := B136_7) (gs := [¬ ((r3.2 579 v1 0) ≤ r1.1)]) (c' := (37, [some (12, 0), some (19, v1), some (11, v2), some (0, r1.1), some (0, (wadd r2.1 1)), some (0, (wadd r3.1 1))], [], (r3.2, hm, o))) K136_7 rfl ⟨q4, trivial⟩ ?_
    obtain ⟨r4, q5, e⟩ := zB_s e
    refine zF_blk (m := []) (d := 0) (b := B136_3) (gs := []) (c' := (38, [some (12, 0), some (19, v1), some (11, v2), some (0, r1.1), some (0, (wadd r2.1 1)), some (0, (wadd r3.1 1))], [(11, v2)], (r3.2, hm, o))) K136_3 rfl trivial ?_
    refine zF_call (k := 75) (cl := 1) (n := 1) (i := .invokevirtual 44) (args := [(11, v2)]) (rest := []) (g1 := (r3.2, hm, o)) (r1 := some (0, r4)) (by decide +kernel) rfl rfl rfl (st' := [(0, r4)]) rfl (S75 (Nat.le_trans (by decide) hd) v2 r3.2 _ q5) ?_
    rcases zI_s e with ⟨q6, e⟩ | ⟨q6, e⟩
    · refine zF_blk (m := []) (d := 1) (b := B136_6) (gs := [¬ r4 = 0]) (c' := (65, [some (12, 0), some (19, v1), some (11, v2), some (0, r1.1), some (0, (wadd r2.1 1)), some (0, (wadd r3.1 1))], [], (r3.2, hm, o))) K136_6 rfl ⟨q6, trivial⟩ ?_
      obtain rfl := Option.some.inj e
      exact zF_rv (by decide +kernel)
    · refine zF_blk (m := []) (d := 0) (b := B136_6) (gs := [¬ (¬ r4 = 0)]) (c' := (44, [some (12, 0), some (19, v1), some (11, v2), some (0, r1.1), some (0, (wadd r2.1 1)), some (0, (wadd r3.1 1))], [], (r3.2, hm, o))) K136_6 rfl ⟨q6, trivial⟩ ?_
      obtain ⟨r5, q7, e⟩ := zB_s e
      refine zF_blk (m := []) (d := 0) (b := B136_4) (gs := []) (c' := (51, [some (12, 0), some (19, v1), some (11, v2), some (0, r1.1), some (0, (wadd r2.1 1)), some (0, (wadd r3.1 1))], [(0, (wadd r3.1 1)), (0, (wadd r2.1 1)), (0, r1.1), (19, v1), (11, v2)], (r3.2, hm, o))) K136_4 rfl trivial ?_
      refine zF_call (k := 76) (cl := 1) (n := 5) (i := .invokevirtual 48) (args := [(11, v2), (19, v1), (0, r1.1), (0, (wadd r2.1 1)), (0, (wadd r3.1 1))]) (rest := []) (g1 := (r5.2, hm, o)) (r1 := some (0, r5.1)) (by decide +kernel) rfl rfl rfl (st' := [(0, r5.1)]) rfl (S76 (Nat.le_trans (by decide) hd) v2 v1 r1.1 (wadd r2.1 1) (wadd r3.1 1) r3.2 _ q7) ?_
      refine zF_blk (m := []) (d := 0) (b := B136_5) (gs := []) (c' := (65, [some (12, 0), some (19, v1), some (11, v2), some (0, r1.1), some (0, (wadd r2.1 1)), some (0, (wadd r3.1 1))], [], ((hset r5.2 129 0 0 (wadd (r5.2 129 0 0) 1)), hm, o))) K136_5 rfl trivial ?_
      obtain rfl := Option.some.inj e
      exact zF_rv (by decide +kernel)
def B134_0 : List zRow := [(0, .aload_n 0, 1, (0, 0, 0)), (1, .iload 4, 2, (0, 0, 0)), (3, .putfield 9, 3, (2, 2, 0)), (6, .aload_n 0, 1, (0, 0, 0)), (7, .iconst 0, 1, (0, 0, 0)), (8, .putfield 16, 3, (2, 0, 0)), (11, .aload_n 0, 1, (0, 0, 0)), (12, .iconst 0, 1, (0, 0, 0)), (13, .putfield 19, 3, (2, 1, 0)), (16, .iconst 0, 1, (0, 0, 0)), (17, .istore 5, 2, (0, 0, 0))]
theorem K134_0 : zRk 134 B134_0 = true := by decide +kernel
def B134_1 : List zRow := [(90, .iload 5, 2, (0, 0, 0))]
theorem K134_1 : zRk 134 B134_1 = true := by decide +kernel
def B134_2 : List zRow := [(35, .iconst 0, 1, (0, 0, 0)), (36, .istore 6, 2, (0, 0, 0)), (38, .aload_n 0, 1, (0, 0, 0)), (39, .iconst 4, 1, (0, 0, 0))]
theorem K134_2 : zRk 134 B134_2 = true := by decide +kernel
def B134_3 : List zRow := [(46, .aload_n 0, 1, (0, 0, 0)), (47, .iconst 5, 1, (0, 0, 0))]
theorem K134_3 : zRk 134 B134_3 = true := by decide +kernel
def B134_4 : List zRow := [(51, .istore 6, 2, (0, 0, 0)), (53, .aload_n 0, 1, (0, 0, 0)), (54, .dup, 1, (0, 0, 0)), (55, .getfield 16, 3, (2, 0, 0)), (58, .iconst 1, 1, (0, 0, 0)), (59, .iadd, 1, (0, 0, 0)), (60, .putfield 16, 3, (2, 0, 0))]
theorem K134_4 : zRk 134 B134_4 = true := by decide +kernel
def B134_5 : List zRow := [(43, .ifCond .ne 20, 3, (0, 0, 0))]
theorem K134_5 : zRk 134 B134_5 = true := by decide +kernel
def B134_6 : List zRow := [(25, .aload_n 2, 1, (0, 0, 0)), (26, .getfield 22, 3, (1, 0, 0)), (29, .sipush 400, 3, (0, 0, 0)), (32, .if_icmp .ge 58, 3, (0, 0, 0))]
theorem K134_6 : zRk 134 B134_6 = true := by decide +kernel
def B134_7 : List zRow := [(19, .iload 5, 2, (0, 0, 0)), (21, .iload_n 3, 1, (0, 0, 0)), (22, .if_icmp .ge 68, 3, (0, 0, 0))]
theorem K134_7 : zRk 134 B134_7 = true := by decide +kernel
def B134_8 : List zRow := [(63, .aload_n 2, 1, (0, 0, 0)), (64, .aload_n 1, 1, (0, 0, 0)), (65, .iload 6, 2, (0, 0, 0))]
theorem K134_8 : zRk 134 B134_8 = true := by decide +kernel
def B134_9 : List zRow := [(70, .aload_n 0, 1, (0, 0, 0)), (71, .iconst 3, 1, (0, 0, 0))]
theorem K134_9 : zRk 134 B134_9 = true := by decide +kernel
def B134_10 : List zRow := [(78, .aload_n 0, 1, (0, 0, 0)), (79, .aload_n 1, 1, (0, 0, 0)), (80, .aload_n 2, 1, (0, 0, 0))]
theorem K134_10 : zRk 134 B134_10 = true := by decide +kernel
def B134_11 : List zRow := [(75, .ifCond .ne 9, 3, (0, 0, 0))]
theorem K134_11 : zRk 134 B134_11 = true := by decide +kernel
def B134_12 : List zRow := [(84, .iinc 5 1, 3, (0, 0, 0)), (87, .goto (-68), 3, (0, 0, 0))]
theorem K134_12 : zRk 134 B134_12 = true := by decide +kernel
def F134_2 (k0 : Int → Int → Int → Int → zHC → Option (Int × zHC)) (v1 : Int) (v2 : Int) (v3 : Int) (v5 : Int) (h : zHC) : Option (Int × zHC) := k0 v1 v2 v3 (wadd v5 1) h
set_option maxRecDepth 100000 in
theorem T134_2 {spec : zRn zH2} {hm : zHM} {o : Int → Int} {d : Nat} (hd : 5 ≤ d) (k0 : Int → Int → Int → Int → zHC → Option (Int × zHC)) (hk0 : ∀ (v1 : Int) (v2 : Int) (v3 : Int) (v5 : Int) (h : zHC) (v : (Int × zHC)), k0 v1 v2 v3 v5 h = some v → zFin 0 (fun _ => 0) (zRu2 spec d) 134 (some (0, v.1)) (v.2, hm, o) (19, [some (12, 0), some (19, v1), some (11, v2), some (0, v3), none, some (0, v5), none], [], (h, hm, o))) (v1 : Int) (v2 : Int) (v3 : Int) (v5 : Int) (h : zHC) (v : (Int × zHC)) (e : F134_2 k0 v1 v2 v3 v5 h = some v) : zFin 0 (fun _ => 0) (zRu2 spec d) 134 (some (0, v.1)) (v.2, hm, o) (84, [some (12, 0), some (19, v1), some (11, v2), some (0, v3), none, some (0, v5), none], [], (h, hm, o)) := by
  unfold F134_2 at e
  refine zF_blk (m := []) (d := 0) (b := B134_12) (gs := []) (c' := (19, [some (12, 0), some (19, v1), some (11, v2), some (0, v3), none, some (0, (wadd v5 1)), none], [], (h, hm, o))) K134_12 rfl trivial ?_
  exact hk0 v1 v2 v3 (wadd v5 1) h _ e
def F134_1 (k0 : Int → Int → Int → Int → zHC → Option (Int × zHC)) (v1 : Int) (v2 : Int) (v3 : Int) (v5 : Int) (v6 : Int) (h : zHC) : Option (Int × zHC) := (F89 v2 v1 v6 h).bind fun r1 => (F135 3 r1).bind fun r2 => if ¬ r2.1 = 0 then F134_2 k0 v1 v2 v3 v5 r2.2 else (F136 v1 v2 r2.2).bind fun r3 => F134_2 k0 v1 v2 v3 v5 r3
set_option maxRecDepth 100000 in
theorem T134_1 {spec : zRn zH2} {hm : zHM} {o : Int → Int} {d : Nat} (hd : 5 ≤ d) (k0 : Int → Int → Int → Int → zHC → Option (Int × zHC)) (hk0 : ∀ (v1 : Int) (v2 : Int) (v3 : Int) (v5 : Int) (h : zHC) (v : (Int × zHC)), k0 v1 v2 v3 v5 h = some v → zFin 0 (fun _ => 0) (zRu2 spec d) 134 (some (0, v.1)) (v.2, hm, o) (19, [some (12, 0), some (19, v1), some (11, v2), some (0, v3), none, some (0, v5), none], [], (h, hm, o))) (v1 : Int) (v2 : Int) (v3 : Int) (v5 : Int) (v6 : Int) (h : zHC) (v : (Int × zHC)) (e : F134_1 k0 v1 v2 v3 v5 v6 h = some v) : zFin 0 (fun _ => 0) (zRu2 spec d) 134 (some (0, v.1)) (v.2, hm, o) (63, [some (12, 0), some (19, v1), some (11, v2), some (0, v3), none, some (0, v5), some (0, v6)], [], (h, hm, o)) := by
  unfold F134_1 at e
  obtain ⟨r1, q1, e⟩ := zB_s e
  refine zF_blk (m := []) (d := 0) (b := B134_8) (gs := []) (c' := (67, [some (12, 0), some (19, v1), some (11, v2), some (0, v3), none, some (0, v5), some (0, v6)], [(0, v6), (19, v1), (11, v2)], (h, hm, o))) K134_8 rfl trivial ?_
  refine zF_call (k := 89) (cl := 1) (n := 3) (i := .invokevirtual 31) (args := [(11, v2), (19, v1), (0, v6)]) (rest := []) (g1 := (r1, hm, o)) (r1 := none) (by decide +kernel) rfl rfl rfl (st' := []) rfl (S89 (Nat.le_trans (by decide) hd) v2 v1 v6 h _ q1) ?_
  obtain ⟨r2, q2, e⟩ := zB_s e
  refine zF_blk (m := []) (d := 0) (b := B134_9) (gs := []) (c' := (72, [some (12, 0), some (19, v1), some (11, v2), some (0, v3), none, some (0, v5), some (0, v6)], [(0, 3), (12, 0)], (r1, hm, o))) K134_9 rfl trivial ?_
  refine zF_call (k := 135) (cl := 2) (n := 2) (i := .invokevirtual 27) (args := [(12, 0), (0, 3)]) (rest := []) (g1 := (r2.2, hm, o)) (r1 := some (0, r2.1)) (by decide +kernel) rfl rfl rfl (st' := [(0, r2.1)]) rfl (S135 (Nat.le_trans (by decide) hd) 3 r1 _ q2) ?_
  rcases zI_s e with ⟨q3, e⟩ | ⟨q3, e⟩
  · refine zF_blk (m := []) (d := 1) (b := B134_11) (gs := [¬ r2.1 = 0]) (c' := (84, [some (12, 0), some (19, v1), some (11, v2), some (0, v3), none, some (0, v5), some (0, v6)], [], (r2.2, hm, o))) K134_11 rfl ⟨q3, trivial⟩ ?_
    refine zF_blk (m := [true, true, true, true, false, true, false]) (d := 0) (b := []) (gs := []) (c' := (84, [some (12, 0), some (19, v1), some (11, v2), some (0, v3), none, some (0, v5), none], [], (r2.2, hm, o))) rfl rfl trivial ?_
    exact T134_2 hd k0 hk0 v1 v2 v3 v5 r2.2 _ e
  · refine zF_blk (m := []) (d := 0) (b := B134_11) (gs := [¬ (¬ r2.1 = 0)]) (c' := (78, [some (12, 0), some (19, v1), some (11, v2), some (0, v3), none, some (0, v5), some (0, v6)], [], (r2.2, hm, o))) K134_11 rfl ⟨q3, trivial⟩ ?_
    obtain ⟨r3, q4, e⟩ := zB_s e
    refine zF_blk (m := []) (d := 0) (b := B134_10) (gs := []) (c' := (81, [some (12, 0), some (19, v1), some (11, v2), some (0, v3), none, some (0, v5), some (0, v6)], [(11, v2), (19, v1), (12, 0)], (r2.2, hm, o))) K134_10 rfl trivial ?_
    refine zF_call (k := 136) (cl := 2) (n := 3) (i := .invokevirtual 35) (args := [(12, 0), (19, v1), (11, v2)]) (rest := []) (g1 := (r3, hm, o)) (r1 := none) (by decide +kernel) rfl rfl rfl (st' := []) rfl (S136 (Nat.le_trans (by decide) hd) v1 v2 r2.2 _ q4) ?_
    refine zF_blk (m := [true, true, true, true, false, true, false]) (d := 0) (b := []) (gs := []) (c' := (84, [some (12, 0), some (19, v1), some (11, v2), some (0, v3), none, some (0, v5), none], [], (r3, hm, o))) rfl rfl trivial ?_
    exact T134_2 hd k0 hk0 v1 v2 v3 v5 r3 _ e
def F134_0 : Nat → Int → Int → Int → Int → zHC → Option (Int × zHC)
  | 0, _, _, _, _, _ => none
  | n + 1, v1, v2, v3, v5, h => if v3 ≤ v5 then some (v5, h) else if 400 ≤ (h 64 v2 0) then some (v5, h) else (F135 4 h).bind fun r1 => if ¬ r1.1 = 0 then F134_1 (F134_0 n) v1 v2 v3 v5 0 r1.2 else (F135 5 r1.2).bind fun r2 => F134_1 (F134_0 n) v1 v2 v3 v5 r2.1 (hset r2.2 128 0 0 (wadd (r2.2 128 0 0) 1))
set_option maxRecDepth 100000 in
theorem T134_0 {spec : zRn zH2} {hm : zHM} {o : Int → Int} {d : Nat} (hd : 5 ≤ d) : ∀ (n : Nat) (v1 : Int) (v2 : Int) (v3 : Int) (v5 : Int) (h : zHC) (v : (Int × zHC)), F134_0 n v1 v2 v3 v5 h = some v → zFin 0 (fun _ => 0) (zRu2 spec d) 134 (some (0, v.1)) (v.2, hm, o) (19, [some (12, 0), some (19, v1), some (11, v2), some (0, v3), none, some (0, v5), none], [], (h, hm, o)) := by
  intro n
  induction n with
  | zero => intro v1 v2 v3 v5 h v e; unfold F134_0 at e; cases e
  | succ n hk0 =>
    intro v1 v2 v3 v5 h v e
    unfold F134_0 at e
    rcases zI_s e with ⟨q1, e⟩ | ⟨q1, e⟩
    · refine zF_blk (m := []) (d := 1) (b := B134_7) (gs := [v3 ≤ v5]) (c' := (90, [some (12, 0), some (19, v1), some (11, v2), some (0, v3), none, some (0, v5), none], [], (h, hm, o))) K134_7 rfl ⟨q1, trivial⟩ ?_
      refine zF_blk (m := []) (d := 0) (b := B134_1) (gs := []) (c' := (92, [some (12, 0), some (19, v1), some (11, v2), some (0, v3), none, some (0, v5), none], [(0, v5)], (h, hm, o))) K134_1 rfl trivial ?_
      exact zF_riC (by decide +kernel) e
    · refine zF_blk (m := []) (d := 0) (b := B134_7) (gs := [¬ (v3 ≤ v5)]) (c' := (25, [some (12, 0), some (19, v1), some (11, v2), some (0, v3), none, some (0, v5), none], [], (h, hm, o))) K134_7 rfl ⟨q1, trivial⟩ ?_
      rcases zI_s e with ⟨q2, e⟩ | ⟨q2, e⟩
      · refine zF_blk (m := []) (d := 1) (b := B134_6) (gs := [400 ≤ (h 64 v2 0)]) (c' := (90, [some (12, 0), some (19, v1), some (11, v2), some (0, v3), none, some (0, v5), none], [], (h, hm, o))) K134_6 rfl ⟨q2, trivial⟩ ?_
        refine zF_blk (m := []) (d := 0) (b := B134_1) (gs := []) (c' := (92, [some (12, 0), some (19, v1), some (11, v2), some (0, v3), none, some (0, v5), none], [(0, v5)], (h, hm, o))) K134_1 rfl trivial ?_
        exact zF_riC (by decide +kernel) e
      · refine zF_blk (m := []) (d := 0) (b := B134_6) (gs := [¬ (400 ≤ (h 64 v2 0))]) (c' := (35, [some (12, 0), some (19, v1), some (11, v2), some (0, v3), none, some (0, v5), none], [], (h, hm, o))) K134_6 rfl ⟨q2, trivial⟩ ?_
        obtain ⟨r1, q3, e⟩ := zB_s e
        refine zF_blk (m := []) (d := 0) (b := B134_2) (gs := []) (c' := (40, [some (12, 0), some (19, v1), some (11, v2), some (0, v3), none, some (0, v5), some (0, 0)], [(0, 4), (12, 0)], (h, hm, o))) K134_2 rfl trivial ?_
        refine zF_call (k := 135) (cl := 2) (n := 2) (i := .invokevirtual 27) (args := [(12, 0), (0, 4)]) (rest := []) (g1 := (r1.2, hm, o)) (r1 := some (0, r1.1)) (by decide +kernel) rfl rfl rfl (st' := [(0, r1.1)]) rfl (S135 (Nat.le_trans (by decide) hd) 4 h _ q3) ?_
        rcases zI_s e with ⟨q4, e⟩ | ⟨q4, e⟩
        · refine zF_blk (m := []) (d := 1) (b := B134_5) (gs := [¬ r1.1 = 0]) (c' := (63, [some (12, 0), some (19, v1), some (11, v2), some (0, v3), none, some (0, v5), some (0, 0)], [], (r1.2, hm, o))) K134_5 rfl ⟨q4, trivial⟩ ?_
          exact T134_1 hd (F134_0 n) hk0 v1 v2 v3 v5 0 r1.2 _ e
        · refine zF_blk (m := []) (d := 0) (b := B134_5) (gs := [¬ (¬ r1.1 = 0)]) (c' := (46, [some (12, 0), some (19, v1), some (11, v2), some (0, v3), none, some (0, v5), some (0, 0)], [], (r1.2, hm, o))) K134_5 rfl ⟨q4, trivial⟩ ?_
          obtain ⟨r2, q5, e⟩ := zB_s e
          refine zF_blk (m := []) (d := 0) (b := B134_3) (gs := []) (c' := (48, [some (12, 0), some (19, v1), some (11, v2), some (0, v3), none, some (0, v5), some (0, 0)], [(0, 5), (12, 0)], (r1.2, hm, o))) K134_3 rfl trivial ?_
          refine zF_call (k := 135) (cl := 2) (n := 2) (i := .invokevirtual 27) (args := [(12, 0), (0, 5)]) (rest := []) (g1 := (r2.2, hm, o)) (r1 := some (0, r2.1)) (by decide +kernel) rfl rfl rfl (st' := [(0, r2.1)]) rfl (S135 (Nat.le_trans (by decide) hd) 5 r1.2 _ q5) ?_
          refine zF_blk (m := []) (d := 0) (b := B134_4) (gs := []) (c' := (63, [some (12, 0), some (19, v1), some (11, v2), some (0, v3), none, some (0, v5), some (0, r2.1)], [], ((hset r2.2 128 0 0 (wadd (r2.2 128 0 0) 1)), hm, o))) K134_4 rfl trivial ?_
          exact T134_1 hd (F134_0 n) hk0 v1 v2 v3 v5 r2.1 (hset r2.2 128 0 0 (wadd (r2.2 128 0 0) 1)) _ e
/-- EchoVale$Draws.passHours(LEchoVale$Valley;LEchoVale$Course;II)I -/
def F134 (v1 : Int) (v2 : Int) (v3 : Int) (v4 : Int) (h : zHC) : Option (Int × zHC) := F134_0 zFu v1 v2 v3 0 (hset (hset (hset h 130 0 0 v4) 128 0 0 0) 129 0 0 0)
set_option maxRecDepth 100000 in
theorem S134 {spec : zRn zH2} {hm : zHM} {o : Int → Int} {d : Nat} (hd : 6 ≤ d) (v1 : Int) (v2 : Int) (v3 : Int) (v4 : Int) (h : zHC) (v : (Int × zHC)) (e : F134 v1 v2 v3 v4 h = some v) : zRu2 spec d 134 [(12, 0), (19, v1), (11, v2), (0, v3), (0, v4)] (h, hm, o) (some (0, v.1)) (v.2, hm, o) := by
  refine zF_in (D := 5) (mx := 7) (L := [some (12, 0), some (19, v1), some (11, v2), some (0, v3), some (0, v4), none, none]) (by decide +kernel) rfl rfl hd (fun d hd => ?_)
  unfold F134 at e
  refine zF_blk (m := []) (d := 0) (b := B134_0) (gs := []) (c' := (19, [some (12, 0), some (19, v1), some (11, v2), some (0, v3), some (0, v4), some (0, 0), none], [], ((hset (hset (hset h 130 0 0 v4) 128 0 0 0) 129 0 0 0), hm, o))) K134_0 rfl trivial ?_
  refine zF_blk (m := [true, true, true, true, false, true, false]) (d := 0) (b := []) (gs := []) (c' := (19, [some (12, 0), some (19, v1), some (11, v2), some (0, v3), none, some (0, 0), none], [], ((hset (hset (hset h 130 0 0 v4) 128 0 0 0) 129 0 0 0), hm, o))) rfl rfl trivial ?_
  exact T134_0 hd zFu v1 v2 v3 0 (hset (hset (hset h 130 0 0 v4) 128 0 0 0) 129 0 0 0) _ e
def B133_0 : List zRow := [(21, .iconst (-1), 1, (0, 0, 0))]
theorem K133_0 : zRk 133 B133_0 = true := by decide +kernel
def B133_1 : List zRow := [(36, .aload_n 0, 1, (0, 0, 0)), (37, .getfield 66, 3, (11, 8, 35)), (40, .aload_n 0, 1, (0, 0, 0)), (41, .getfield 56, 3, (11, 6, 7))]
theorem K133_1 : zRk 133 B133_1 = true := by decide +kernel
def B133_2 : List zRow := [(23, .aload_n 0, 1, (0, 0, 0)), (24, .getfield 56, 3, (11, 6, 7)), (27, .getfield 159, 3, (1, 0, 0)), (30, .sipush 400, 3, (0, 0, 0)), (33, .if_icmp .ge 14, 3, (0, 0, 0))]
theorem K133_2 : zRk 133 B133_2 = true := by decide +kernel
def B133_3 : List zRow := [(11, .aload_n 0, 1, (0, 0, 0)), (12, .getfield 19, 3, (11, 1, 39)), (15, .getfield 311, 3, (9, 3, 0)), (18, .ifCond .ne 5, 3, (0, 0, 0))]
theorem K133_3 : zRk 133 B133_3 = true := by decide +kernel
def B133_4 : List zRow := [(5, .iload_n 1, 1, (0, 0, 0)), (6, .bipush 100, 2, (0, 0, 0)), (8, .if_icmp .gt 13, 3, (0, 0, 0))]
theorem K133_4 : zRk 133 B133_4 = true := by decide +kernel
def B133_5 : List zRow := [(0, .iload_n 1, 1, (0, 0, 0)), (1, .iconst 1, 1, (0, 0, 0)), (2, .if_icmp .lt 19, 3, (0, 0, 0))]
theorem K133_5 : zRk 133 B133_5 = true := by decide +kernel
def B133_6 : List zRow := [(47, .aload_n 0, 1, (0, 0, 0)), (48, .getfield 87, 3, (11, 11, 11)), (51, .aload_n 0, 1, (0, 0, 0)), (52, .getfield 19, 3, (11, 1, 39)), (55, .aload_n 0, 1, (0, 0, 0)), (56, .getfield 56, 3, (11, 6, 7)), (59, .iload_n 1, 1, (0, 0, 0)), (60, .iload_n 2, 1, (0, 0, 0))]
theorem K133_6 : zRk 133 B133_6 = true := by decide +kernel
def B133_7 : List zRow := [(64, .istore_n 3, 1, (0, 0, 0)), (65, .aload_n 0, 1, (0, 0, 0)), (66, .aload_n 0, 1, (0, 0, 0)), (67, .getfield 87, 3, (11, 11, 11)), (70, .getfield 317, 3, (2, 0, 0)), (73, .putfield 98, 3, (11, 15, 0)), (76, .aload_n 0, 1, (0, 0, 0)), (77, .aload_n 0, 1, (0, 0, 0)), (78, .getfield 87, 3, (11, 11, 11)), (81, .getfield 320, 3, (2, 1, 0)), (84, .putfield 102, 3, (11, 16, 0)), (87, .iload_n 3, 1, (0, 0, 0))]
theorem K133_7 : zRk 133 B133_7 = true := by decide +kernel
def F133_0 (v1 : Int) (v2 : Int) (h : zHC) : Option (Int × zHC) := (F134 0 0 v1 v2 h).bind fun r1 => some (r1.1, (hset (hset r1.2 719 0 0 (r1.2 128 0 0)) 720 0 0 (r1.2 129 0 0)))
set_option maxRecDepth 100000 in
theorem T133_0 {spec : zRn zH2} {hm : zHM} {o : Int → Int} {d : Nat} (hd : 6 ≤ d) (v1 : Int) (v2 : Int) (h : zHC) (v : (Int × zHC)) (e : F133_0 v1 v2 h = some v) : zFin 0 (fun _ => 0) (zRu2 spec d) 133 (some (0, v.1)) (v.2, hm, o) (47, [some (21, 0), some (0, v1), some (0, v2), none], [], (h, hm, o)) := by
  unfold F133_0 at e
  obtain ⟨r1, q1, e⟩ := zB_s e
  refine zF_blk (m := []) (d := 0) (b := B133_6) (gs := []) (c' := (61, [some (21, 0), some (0, v1), some (0, v2), none], [(0, v2), (0, v1), (11, 0), (19, 0), (12, 0)], (h, hm, o))) K133_6 rfl trivial ?_
  refine zF_call (k := 134) (cl := 2) (n := 5) (i := .invokevirtual 314) (args := [(12, 0), (19, 0), (11, 0), (0, v1), (0, v2)]) (rest := []) (g1 := (r1.2, hm, o)) (r1 := some (0, r1.1)) (by decide +kernel) rfl rfl rfl (st' := [(0, r1.1)]) rfl (S134 (Nat.le_trans (by decide) hd) 0 0 v1 v2 h _ q1) ?_
  refine zF_blk (m := []) (d := 0) (b := B133_7) (gs := []) (c' := (88, [some (21, 0), some (0, v1), some (0, v2), some (0, r1.1)], [(0, r1.1)], ((hset (hset r1.2 719 0 0 (r1.2 128 0 0)) 720 0 0 (r1.2 129 0 0)), hm, o))) K133_7 rfl trivial ?_
  exact zF_riC (by decide +kernel) e
/-- EchoVale.drawn(II)I -/
def F133 (v1 : Int) (v2 : Int) (h : zHC) : Option (Int × zHC) := if v1 < 1 then some ((-1), h) else if 100 < v1 then some ((-1), h) else if ¬ (h 579 0 0) = 0 then if 400 ≤ (h 64 0 0) then F133_0 v1 v2 h else (F70 0 h).bind fun r1 => F133_0 v1 v2 r1 else some ((-1), h)
set_option maxRecDepth 100000 in
theorem S133 {spec : zRn zH2} {hm : zHM} {o : Int → Int} {d : Nat} (hd : 7 ≤ d) (v1 : Int) (v2 : Int) (h : zHC) (v : (Int × zHC)) (e : F133 v1 v2 h = some v) : zRu2 spec d 133 [(21, 0), (0, v1), (0, v2)] (h, hm, o) (some (0, v.1)) (v.2, hm, o) := by
  refine zF_in (D := 6) (mx := 4) (L := [some (21, 0), some (0, v1), some (0, v2), none]) (by decide +kernel) rfl rfl hd (fun d hd => ?_)
  unfold F133 at e
  rcases zI_s e with ⟨q1, e⟩ | ⟨q1, e⟩
  · refine zF_blk (m := []) (d := 1) (b := B133_5) (gs := [v1 < 1]) (c' := (21, [some (21, 0), some (0, v1), some (0, v2), none], [], (h, hm, o))) K133_5 rfl ⟨q1, trivial⟩ ?_
    refine zF_blk (m := []) (d := 0) (b := B133_0) (gs := []) (c' := (22, [some (21, 0), some (0, v1), some (0, v2), none], [(0, (-1))], (h, hm, o))) K133_0 rfl trivial ?_
    exact zF_riC (by decide +kernel) e
  · refine zF_blk (m := []) (d := 0) (b := B133_5) (gs := [¬ (v1 < 1)]) (c' := (5, [some (21, 0), some (0, v1), some (0, v2), none], [], (h, hm, o))) K133_5 rfl ⟨q1, trivial⟩ ?_
    rcases zI_s e with ⟨q2, e⟩ | ⟨q2, e⟩
    · refine zF_blk (m := []) (d := 1) (b := B133_4) (gs := [100 < v1]) (c' := (21, [some (21, 0), some (0, v1), some (0, v2), none], [], (h, hm, o))) K133_4 rfl ⟨q2, trivial⟩ ?_
      refine zF_blk (m := []) (d := 0) (b := B133_0) (gs := []) (c' := (22, [some (21, 0), some (0, v1), some (0, v2), none], [(0, (-1))], (h, hm, o))) K133_0 rfl trivial ?_
      exact zF_riC (by decide +kernel) e
    · refine zF_blk (m := []) (d := 0) (b := B133_4) (gs := [¬ (100 < v1)]) (c' := (11, [some (21, 0), some (0, v1), some (0, v2), none], [], (h, hm, o))) K133_4 rfl ⟨q2, trivial⟩ ?_
      rcases zI_s e with ⟨q3, e⟩ | ⟨q3, e⟩
      · refine zF_blk (m := []) (d := 1) (b := B133_3) (gs := [¬ (h 579 0 0) = 0]) (c' := (23, [some (21, 0), some (0, v1), some (0, v2), none], [], (h, hm, o))) K133_3 rfl ⟨q3, trivial⟩ ?_
        rcases zI_s e with ⟨q4, e⟩ | ⟨q4, e⟩
        · refine zF_blk (m := []) (d := 1) (b := B133_2) (gs := [400 ≤ (h 64 0 0)]) (c' := (47, [some (21, 0), some (0, v1), some (0, v2), none], [], (h, hm, o))) K133_2 rfl ⟨q4, trivial⟩ ?_
          exact T133_0 hd v1 v2 h _ e
        · refine zF_blk (m := []) (d := 0) (b := B133_2) (gs := [¬ (400 ≤ (h 64 0 0))]) (c' := (36, [some (21, 0), some (0, v1), some (0, v2), none], [], (h, hm, o))) K133_2 rfl ⟨q4, trivial⟩ ?_
          obtain ⟨r1, q5, e⟩ := zB_s e
          refine zF_blk (m := []) (d := 0) (b := B133_1) (gs := []) (c' := (44, [some (21, 0), some (0, v1), some (0, v2), none], [(11, 0), (18, 0)], (h, hm, o))) K133_1 rfl trivial ?_
          refine zF_call (k := 70) (cl := 8) (n := 2) (i := .invokevirtual 217) (args := [(18, 0), (11, 0)]) (rest := []) (g1 := (r1, hm, o)) (r1 := none) (by decide +kernel) rfl rfl rfl (st' := []) rfl (S70 (Nat.le_trans (by decide) hd) 0 h _ q5) ?_
          exact T133_0 hd v1 v2 r1 _ e
      · refine zF_blk (m := []) (d := 0) (b := B133_3) (gs := [¬ (¬ (h 579 0 0) = 0)]) (c' := (21, [some (21, 0), some (0, v1), some (0, v2), none], [], (h, hm, o))) K133_3 rfl ⟨q3, trivial⟩ ?_
        refine zF_blk (m := []) (d := 0) (b := B133_0) (gs := []) (c' := (22, [some (21, 0), some (0, v1), some (0, v2), none], [(0, (-1))], (h, hm, o))) K133_0 rfl trivial ?_
        exact zF_riC (by decide +kernel) e
