/-! Functions of the methods, by wip/gen/lift.py. -/
def B258_0 : List zRow := [(0, .aload_n 0, 1, (0, 0, 0)), (1, .iconst 0, 1, (0, 0, 0)), (2, .putfield 81, 3, (12, 0, 0)), (5, .aload_n 0, 1, (0, 0, 0)), (6, .iload_n 1, 1, (0, 0, 0))]
theorem K258_0 : zRk 258 B258_0 = true := by decide +kernel
def B258_1 : List zRow := [(23, .iconst (-1), 1, (0, 0, 0))]
theorem K258_1 : zRk 258 B258_1 = true := by decide +kernel
def B258_2 : List zRow := [(13, .iload_n 2, 1, (0, 0, 0)), (14, .iconst 1, 1, (0, 0, 0)), (15, .bipush 9, 2, (0, 0, 0))]
theorem K258_2 : zRk 258 B258_2 = true := by decide +kernel
def B258_3 : List zRow := [(25, .iconst (-1), 1, (0, 0, 0)), (26, .istore_n 3, 1, (0, 0, 0)), (27, .iconst 0, 1, (0, 0, 0)), (28, .istore 4, 2, (0, 0, 0)), (30, .iconst 0, 1, (0, 0, 0)), (31, .istore 5, 2, (0, 0, 0))]
theorem K258_3 : zRk 258 B258_3 = true := by decide +kernel
def B258_4 : List zRow := [(20, .ifCond .ne 5, 3, (0, 0, 0))]
theorem K258_4 : zRk 258 B258_4 = true := by decide +kernel
def B258_5 : List zRow := [(10, .ifCond .eq 13, 3, (0, 0, 0))]
theorem K258_5 : zRk 258 B258_5 = true := by decide +kernel
def B258_6 : List zRow := [(91, .iload_n 3, 1, (0, 0, 0))]
theorem K258_6 : zRk 258 B258_6 = true := by decide +kernel
def B258_7 : List zRow := [(44, .aload_n 0, 1, (0, 0, 0)), (45, .iload 5, 2, (0, 0, 0)), (47, .iload_n 1, 1, (0, 0, 0)), (48, .aload_n 0, 1, (0, 0, 0)), (49, .iload_n 1, 1, (0, 0, 0)), (50, .iload_n 2, 1, (0, 0, 0))]
theorem K258_7 : zRk 258 B258_7 = true := by decide +kernel
def B258_8 : List zRow := [(57, .aload_n 0, 1, (0, 0, 0)), (58, .iload 5, 2, (0, 0, 0))]
theorem K258_8 : zRk 258 B258_8 = true := by decide +kernel
def B258_9 : List zRow := [(78, .iload 5, 2, (0, 0, 0)), (80, .istore_n 3, 1, (0, 0, 0)), (81, .iload 6, 2, (0, 0, 0)), (83, .istore 4, 2, (0, 0, 0))]
theorem K258_9 : zRk 258 B258_9 = true := by decide +kernel
def B258_10 : List zRow := [(75, .goto 10, 3, (0, 0, 0))]
theorem K258_10 : zRk 258 B258_10 = true := by decide +kernel
def B258_11 : List zRow := [(66, .istore 6, 2, (0, 0, 0)), (68, .iload 6, 2, (0, 0, 0)), (70, .iload 4, 2, (0, 0, 0)), (72, .if_icmp .gt 6, 3, (0, 0, 0))]
theorem K258_11 : zRk 258 B258_11 = true := by decide +kernel
def B258_12 : List zRow := [(33, .iload 5, 2, (0, 0, 0)), (35, .aload_n 0, 1, (0, 0, 0)), (36, .getfield 13, 3, (12, 14, 5251442)), (39, .iconst 2, 1, (0, 0, 0)), (40, .iaload, 1, (0, 0, 0)), (41, .if_icmp .ge 50, 3, (0, 0, 0))]
theorem K258_12 : zRk 258 B258_12 = true := by decide +kernel
def B258_13 : List zRow := [(85, .iinc 5 1, 3, (0, 0, 0)), (88, .goto (-55), 3, (0, 0, 0))]
theorem K258_13 : zRk 258 B258_13 = true := by decide +kernel
def F258_1 (k0 : Int → Int → Int → Int → Int → zHM → Option (Int × zHM)) (v1 : Int) (v2 : Int) (v3 : Int) (v4 : Int) (v5 : Int) (h : zHM) : Option (Int × zHM) := k0 v1 v2 v3 v4 (wadd v5 1) h
set_option maxRecDepth 100000 in
theorem T258_1 {spec : zRn zH2} {hc : zHC} {o : Int → Int} {d : Nat} (hd : 3 ≤ d) (k0 : Int → Int → Int → Int → Int → zHM → Option (Int × zHM)) (hk0 : ∀ (v1 : Int) (v2 : Int) (v3 : Int) (v4 : Int) (v5 : Int) (h : zHM) (v : (Int × zHM)), k0 v1 v2 v3 v4 v5 h = some v → zFin 0 (fun _ => 0) (zRu2 spec d) 258 (some (0, v.1)) (hc, v.2, o) (33, [some (22, 0), some (0, v1), some (0, v2), some (0, v3), some (0, v4), some (0, v5), none], [], (hc, h, o))) (v1 : Int) (v2 : Int) (v3 : Int) (v4 : Int) (v5 : Int) (h : zHM) (v : (Int × zHM)) (e : F258_1 k0 v1 v2 v3 v4 v5 h = some v) : zFin 0 (fun _ => 0) (zRu2 spec d) 258 (some (0, v.1)) (hc, v.2, o) (85, [some (22, 0), some (0, v1), some (0, v2), some (0, v3), some (0, v4), some (0, v5), none], [], (hc, h, o)) := by
  unfold F258_1 at e
  refine zF_blk (m := []) (d := 0) (b := B258_13) (gs := []) (c' := (33, [some (22, 0), some (0, v1), some (0, v2), some (0, v3), some (0, v4), some (0, (wadd v5 1)), none], [], (hc, h, o))) K258_13 rfl trivial ?_
  exact hk0 v1 v2 v3 v4 (wadd v5 1) h _ e
def F258_0 : Nat → Int → Int → Int → Int → Int → zHM → Option (Int × zHM)
  | 0, _, _, _, _, _, _ => none
  | n + 1, v1, v2, v3, v4, v5, h => if (h 14 2) ≤ v5 then some (v3, h) else (F228 v1 v2 h).bind fun r1 => (F259 v5 v1 r1 h).bind fun r2 => (F207 v5 h).bind fun r3 => (F238 r2 r3).bind fun r4 => if v4 < r4 then F258_1 (F258_0 n) v1 v2 v5 r4 v5 h else F258_1 (F258_0 n) v1 v2 v3 v4 v5 h
set_option maxRecDepth 100000 in
theorem T258_0 {spec : zRn zH2} {hc : zHC} {o : Int → Int} {d : Nat} (hd : 3 ≤ d) : ∀ (n : Nat) (v1 : Int) (v2 : Int) (v3 : Int) (v4 : Int) (v5 : Int) (h : zHM) (v : (Int × zHM)), F258_0 n v1 v2 v3 v4 v5 h = some v → zFin 0 (fun _ => 0) (zRu2 spec d) 258 (some (0, v.1)) (hc, v.2, o) (33, [some (22, 0), some (0, v1), some (0, v2), some (0, v3), some (0, v4), some (0, v5), none], [], (hc, h, o)) := by
  intro n
  induction n with
  | zero => intro v1 v2 v3 v4 v5 h v e; unfold F258_0 at e; cases e
  | succ n hk0 =>
    intro v1 v2 v3 v4 v5 h v e
    unfold F258_0 at e
    rcases zI_s e with ⟨q1, e⟩ | ⟨q1, e⟩
    · refine zF_blk (m := []) (d := 1) (b := B258_12) (gs := [0 ≤ 2 ∧ 2 < 2140, (h 14 2) ≤ v5]) (c' := (91, [some (22, 0), some (0, v1), some (0, v2), some (0, v3), some (0, v4), some (0, v5), none], [], (hc, h, o))) K258_12 rfl ⟨by decide, q1, trivial⟩ ?_
      refine zF_blk (m := []) (d := 0) (b := B258_6) (gs := []) (c' := (92, [some (22, 0), some (0, v1), some (0, v2), some (0, v3), some (0, v4), some (0, v5), none], [(0, v3)], (hc, h, o))) K258_6 rfl trivial ?_
      exact zF_riM (by decide +kernel) e
    · refine zF_blk (m := []) (d := 0) (b := B258_12) (gs := [0 ≤ 2 ∧ 2 < 2140, ¬ ((h 14 2) ≤ v5)]) (c' := (44, [some (22, 0), some (0, v1), some (0, v2), some (0, v3), some (0, v4), some (0, v5), none], [], (hc, h, o))) K258_12 rfl ⟨by decide, q1, trivial⟩ ?_
      obtain ⟨r1, q2, e⟩ := zB_s e
      refine zF_blk (m := []) (d := 0) (b := B258_7) (gs := []) (c' := (51, [some (22, 0), some (0, v1), some (0, v2), some (0, v3), some (0, v4), some (0, v5), none], [(0, v2), (0, v1), (22, 0), (0, v1), (0, v5), (22, 0)], (hc, h, o))) K258_7 rfl trivial ?_
      refine zF_call (k := 228) (cl := 12) (n := 3) (i := .invokevirtual 273) (args := [(22, 0), (0, v1), (0, v2)]) (rest := [(0, v1), (0, v5), (22, 0)]) (g1 := (hc, h, o)) (r1 := some (0, r1)) (by decide +kernel) rfl rfl rfl (st' := [(0, r1), (0, v1), (0, v5), (22, 0)]) rfl (S228 (Nat.le_trans (by decide) hd) v1 v2 h _ q2) ?_
      obtain ⟨r2, q3, e⟩ := zB_s e
      refine zF_call (k := 259) (cl := 12) (n := 4) (i := .invokevirtual 339) (args := [(22, 0), (0, v5), (0, v1), (0, r1)]) (rest := []) (g1 := (hc, h, o)) (r1 := some (0, r2)) (by decide +kernel) rfl rfl rfl (st' := [(0, r2)]) rfl (S259 (Nat.le_trans (by decide) hd) v5 v1 r1 h _ q3) ?_
      obtain ⟨r3, q4, e⟩ := zB_s e
      refine zF_blk (m := []) (d := 0) (b := B258_8) (gs := []) (c' := (60, [some (22, 0), some (0, v1), some (0, v2), some (0, v3), some (0, v4), some (0, v5), none], [(0, v5), (22, 0), (0, r2)], (hc, h, o))) K258_8 rfl trivial ?_
      refine zF_call (k := 207) (cl := 12) (n := 2) (i := .invokevirtual 241) (args := [(22, 0), (0, v5)]) (rest := [(0, r2)]) (g1 := (hc, h, o)) (r1 := some (0, r3)) (by decide +kernel) rfl rfl rfl (st' := [(0, r3), (0, r2)]) rfl (S207 (Nat.le_trans (by decide) hd) v5 h _ q4) ?_
      obtain ⟨r4, q5, e⟩ := zB_s e
      refine zF_call (k := 238) (cl := 12) (n := 2) (i := .invokestatic 295) (args := [(0, r2), (0, r3)]) (rest := []) (g1 := (hc, h, o)) (r1 := some (0, r4)) (by decide +kernel) rfl rfl rfl (st' := [(0, r4)]) rfl (S238 (Nat.le_trans (by decide) hd) r2 r3 h _ q5) ?_
      rcases zI_s e with ⟨q6, e⟩ | ⟨q6, e⟩
      · refine zF_blk (m := []) (d := 1) (b := B258_11) (gs := [v4 < r4]) (c' := (78, [some (22, 0), some (0, v1), some (0, v2), some (0, v3), some (0, v4), some (0, v5), some (0, r4)], [], (hc, h, o))) K258_11 rfl ⟨q6, trivial⟩ ?_
        refine zF_blk (m := []) (d := 0) (b := B258_9) (gs := []) (c' := (85, [some (22, 0), some (0, v1), some (0, v2), some (0, v5), some (0, r4), some (0, v5), some (0, r4)], [], (hc, h, o))) K258_9 rfl trivial ?_
        refine zF_blk (m := [true, true, true, true, true, true, false]) (d := 0) (b := []) (gs := []) (c' := (85, [some (22, 0), some (0, v1), some (0, v2), some (0, v5), some (0, r4), some (0, v5), none], [], (hc, h, o))) rfl rfl trivial ?_
        exact T258_1 hd (F258_0 n) hk0 v1 v2 v5 r4 v5 h _ e
      · refine zF_blk (m := []) (d := 0) (b := B258_11) (gs := [¬ (v4 < r4)]) (c' := (75, [some (22, 0), some (0, v1), some (0, v2), some (0, v3), some (0, v4), some (0, v5), some (0, r4)], [], (hc, h, o))) K258_11 rfl ⟨q6, trivial⟩ ?_
        refine zF_blk (m := []) (d := 0) (b := B258_10) (gs := []) (c' := (85, [some (22, 0), some (0, v1), some (0, v2), some (0, v3), some (0, v4), some (0, v5), some (0, r4)], [], (hc, h, o))) K258_10 rfl trivial ?_
        refine zF_blk (m := [true, true, true, true, true, true, false]) (d := 0) (b := []) (gs := []) (c' := (85, [some (22, 0), some (0, v1), some (0, v2), some (0, v3), some (0, v4), some (0, v5), none], [], (hc, h, o))) rfl rfl trivial ?_
        exact T258_1 hd (F258_0 n) hk0 v1 v2 v3 v4 v5 h _ e
/-- EchoValeModel.nearest(II)I -/
def F258 (v1 : Int) (v2 : Int) (h : zHM) : Option (Int × zHM) := (F224 v1 (mset h 0 0 0)).bind fun r1 => if r1 = 0 then some ((-1), (mset h 0 0 0)) else (F188 v2 1 9).bind fun r2 => if ¬ r2 = 0 then F258_0 zFu v1 v2 (-1) 0 0 (mset h 0 0 0) else some ((-1), (mset h 0 0 0))
set_option maxRecDepth 100000 in
theorem S258 {spec : zRn zH2} {hc : zHC} {o : Int → Int} {d : Nat} (hd : 4 ≤ d) (v1 : Int) (v2 : Int) (h : zHM) (v : (Int × zHM)) (e : F258 v1 v2 h = some v) : zRu2 spec d 258 [(22, 0), (0, v1), (0, v2)] (hc, h, o) (some (0, v.1)) (hc, v.2, o) := by
  refine zF_in (D := 3) (mx := 7) (L := [some (22, 0), some (0, v1), some (0, v2), none, none, none, none]) (by decide +kernel) rfl rfl hd (fun d hd => ?_)
  unfold F258 at e
  obtain ⟨r1, q1, e⟩ := zB_s e
  refine zF_blk (m := []) (d := 0) (b := B258_0) (gs := []) (c' := (7, [some (22, 0), some (0, v1), some (0, v2), none, none, none, none], [(0, v1), (22, 0)], (hc, (mset h 0 0 0), o))) K258_0 rfl trivial ?_
  refine zF_call (k := 224) (cl := 12) (n := 2) (i := .invokevirtual 305) (args := [(22, 0), (0, v1)]) (rest := []) (g1 := (hc, (mset h 0 0 0), o)) (r1 := some (0, r1)) (by decide +kernel) rfl rfl rfl (st' := [(0, r1)]) rfl (S224 (Nat.le_trans (by decide) hd) v1 (mset h 0 0 0) _ q1) ?_
  rcases zI_s e with ⟨q2, e⟩ | ⟨q2, e⟩
  · refine zF_blk (m := []) (d := 1) (b := B258_5) (gs := [r1 = 0]) (c' := (23, [some (22, 0), some (0, v1), some (0, v2), none, none, none, none], [], (hc, (mset h 0 0 0), o))) K258_5 rfl ⟨q2, trivial⟩ ?_
    refine zF_blk (m := []) (d := 0) (b := B258_1) (gs := []) (c' := (24, [some (22, 0), some (0, v1), some (0, v2), none, none, none, none], [(0, (-1))], (hc, (mset h 0 0 0), o))) K258_1 rfl trivial ?_
    exact zF_riM (by decide +kernel) e
  · refine zF_blk (m := []) (d := 0) (b := B258_5) (gs := [¬ (r1 = 0)]) (c' := (13, [some (22, 0), some (0, v1), some (0, v2), none, none, none, none], [], (hc, (mset h 0 0 0), o))) K258_5 rfl ⟨q2, trivial⟩ ?_
    obtain ⟨r2, q3, e⟩ := zB_s e
    refine zF_blk (m := []) (d := 0) (b := B258_2) (gs := []) (c' := (17, [some (22, 0), some (0, v1), some (0, v2), none, none, none, none], [(0, 9), (0, 1), (0, v2)], (hc, (mset h 0 0 0), o))) K258_2 rfl trivial ?_
    refine zF_call (k := 188) (cl := 12) (n := 3) (i := .invokestatic 151) (args := [(0, v2), (0, 1), (0, 9)]) (rest := []) (g1 := (hc, (mset h 0 0 0), o)) (r1 := some (0, r2)) (by decide +kernel) rfl rfl rfl (st' := [(0, r2)]) rfl (S188 (Nat.le_trans (by decide) hd) v2 1 9 (mset h 0 0 0) _ q3) ?_
    rcases zI_s e with ⟨q4, e⟩ | ⟨q4, e⟩
    · refine zF_blk (m := []) (d := 1) (b := B258_4) (gs := [¬ r2 = 0]) (c' := (25, [some (22, 0), some (0, v1), some (0, v2), none, none, none, none], [], (hc, (mset h 0 0 0), o))) K258_4 rfl ⟨q4, trivial⟩ ?_
      refine zF_blk (m := []) (d := 0) (b := B258_3) (gs := []) (c' := (33, [some (22, 0), some (0, v1), some (0, v2), some (0, (-1)), some (0, 0), some (0, 0), none], [], (hc, (mset h 0 0 0), o))) K258_3 rfl trivial ?_
      exact T258_0 hd zFu v1 v2 (-1) 0 0 (mset h 0 0 0) _ e
    · refine zF_blk (m := []) (d := 0) (b := B258_4) (gs := [¬ (¬ r2 = 0)]) (c' := (23, [some (22, 0), some (0, v1), some (0, v2), none, none, none, none], [], (hc, (mset h 0 0 0), o))) K258_4 rfl ⟨q4, trivial⟩ ?_
      refine zF_blk (m := []) (d := 0) (b := B258_1) (gs := []) (c' := (24, [some (22, 0), some (0, v1), some (0, v2), none, none, none, none], [(0, (-1))], (hc, (mset h 0 0 0), o))) K258_1 rfl trivial ?_
      exact zF_riM (by decide +kernel) e
def B119_0 : List zRow := [(28, .iconst 0, 1, (0, 0, 0))]
theorem K119_0 : zRk 119 B119_0 = true := by decide +kernel
def B119_1 : List zRow := [(30, .iconst 0, 1, (0, 0, 0)), (31, .istore 4, 2, (0, 0, 0))]
theorem K119_1 : zRk 119 B119_1 = true := by decide +kernel
def B119_2 : List zRow := [(18, .iload_n 3, 1, (0, 0, 0)), (19, .iconst 3, 1, (0, 0, 0)), (20, .imul, 1, (0, 0, 0)), (21, .aload_n 1, 1, (0, 0, 0)), (22, .getfield 24, 3, (5, 1, 0)), (25, .if_icmp .eq 5, 3, (0, 0, 0))]
theorem K119_2 : zRk 119 B119_2 = true := by decide +kernel
def B119_3 : List zRow := [(12, .iload_n 3, 1, (0, 0, 0)), (13, .bipush 6, 2, (0, 0, 0)), (15, .if_icmp .gt 13, 3, (0, 0, 0))]
theorem K119_3 : zRk 119 B119_3 = true := by decide +kernel
def B119_4 : List zRow := [(0, .aload_n 1, 1, (0, 0, 0)), (1, .getfield 24, 3, (5, 1, 0)), (4, .iconst 3, 1, (0, 0, 0)), (5, .idiv, 1, (0, 0, 0)), (6, .istore_n 3, 1, (0, 0, 0)), (7, .iload_n 3, 1, (0, 0, 0)), (8, .iconst 1, 1, (0, 0, 0)), (9, .if_icmp .lt 19, 3, (0, 0, 0))]
theorem K119_4 : zRk 119 B119_4 = true := by decide +kernel
def B119_5 : List zRow := [(126, .aload_n 0, 1, (0, 0, 0)), (127, .iload_n 3, 1, (0, 0, 0)), (128, .putfield 42, 3, (4, 2, 0)), (131, .iconst 1, 1, (0, 0, 0))]
theorem K119_5 : zRk 119 B119_5 = true := by decide +kernel
def B119_6 : List zRow := [(118, .iconst 0, 1, (0, 0, 0))]
theorem K119_6 : zRk 119 B119_6 = true := by decide +kernel
def B119_7 : List zRow := [(105, .aload_n 0, 1, (0, 0, 0)), (106, .getfield 21, 3, (4, 5, 5242906)), (109, .iload 4, 2, (0, 0, 0)), (111, .iaload, 1, (0, 0, 0))]
theorem K119_7 : zRk 119 B119_7 = true := by decide +kernel
def B119_8 : List zRow := [(120, .iinc 4 1, 3, (0, 0, 0)), (123, .goto (-90), 3, (0, 0, 0))]
theorem K119_8 : zRk 119 B119_8 = true := by decide +kernel
def B119_9 : List zRow := [(115, .ifCond .ne 5, 3, (0, 0, 0))]
theorem K119_9 : zRk 119 B119_9 = true := by decide +kernel
def B119_10 : List zRow := [(39, .aload_n 0, 1, (0, 0, 0)), (40, .getfield 15, 3, (4, 3, 5242906)), (43, .iload 4, 2, (0, 0, 0)), (45, .aload_n 1, 1, (0, 0, 0)), (46, .getfield 30, 3, (5, 0, 5246642)), (49, .iload 4, 2, (0, 0, 0)), (51, .iconst 3, 1, (0, 0, 0)), (52, .imul, 1, (0, 0, 0)), (53, .iaload, 1, (0, 0, 0)), (54, .iastore, 1, (0, 0, 0)), (55, .aload_n 0, 1, (0, 0, 0)), (56, .getfield 18, 3, (4, 4, 5242906)), (59, .iload 4, 2, (0, 0, 0)), (61, .aload_n 1, 1, (0, 0, 0)), (62, .getfield 30, 3, (5, 0, 5246642)), (65, .iload 4, 2, (0, 0, 0)), (67, .iconst 3, 1, (0, 0, 0)), (68, .imul, 1, (0, 0, 0)), (69, .iconst 1, 1, (0, 0, 0)), (70, .iadd, 1, (0, 0, 0)), (71, .iaload, 1, (0, 0, 0)), (72, .iastore, 1, (0, 0, 0)), (73, .aload_n 0, 1, (0, 0, 0)), (74, .getfield 21, 3, (4, 5, 5242906)), (77, .iload 4, 2, (0, 0, 0)), (79, .aload_n 1, 1, (0, 0, 0)), (80, .getfield 30, 3, (5, 0, 5246642)), (83, .iload 4, 2, (0, 0, 0)), (85, .iconst 3, 1, (0, 0, 0)), (86, .imul, 1, (0, 0, 0)), (87, .iconst 2, 1, (0, 0, 0)), (88, .iadd, 1, (0, 0, 0)), (89, .iaload, 1, (0, 0, 0)), (90, .iastore, 1, (0, 0, 0)), (91, .aload_n 0, 1, (0, 0, 0)), (92, .getfield 15, 3, (4, 3, 5242906)), (95, .iload 4, 2, (0, 0, 0)), (97, .iaload, 1, (0, 0, 0)), (98, .aload_n 2, 1, (0, 0, 0)), (99, .getfield 33, 3, (9, 2, 0)), (102, .if_icmp .ge 16, 3, (0, 0, 0))]
theorem K119_10 : zRk 119 B119_10 = true := by decide +kernel
def B119_11 : List zRow := [(33, .iload 4, 2, (0, 0, 0)), (35, .iload_n 3, 1, (0, 0, 0)), (36, .if_icmp .ge 90, 3, (0, 0, 0))]
theorem K119_11 : zRk 119 B119_11 = true := by decide +kernel
def F119_0 : Nat → Int → Int → Int → zHC → Option (Int × zHC)
  | 0, _, _, _, _ => none
  | n + 1, v2, v3, v4, h => if v3 ≤ v4 then some (1, (hset h 258 0 0 v3)) else zG (0 ≤ (wmul v4 3) ∧ (wmul v4 3) < 940) (zG (0 ≤ v4 ∧ v4 < 6) (zG (0 ≤ (wadd (wmul v4 3) 1) ∧ (wadd (wmul v4 3) 1) < 940) (zG (0 ≤ v4 ∧ v4 < 6) (zG (0 ≤ (wadd (wmul v4 3) 2) ∧ (wadd (wmul v4 3) 2) < 940) (zG (0 ≤ v4 ∧ v4 < 6) (zG (0 ≤ v4 ∧ v4 < 6) (if (h 578 v2 0) ≤ ((hset h 259 0 v4 (h 320 0 (wmul v4 3))) 259 0 v4) then some (0, (hset (hset (hset h 259 0 v4 (h 320 0 (wmul v4 3))) 260 0 v4 (h 320 0 (wadd (wmul v4 3) 1))) 261 0 v4 (h 320 0 (wadd (wmul v4 3) 2)))) else zG (0 ≤ v4 ∧ v4 < 6) ((F74 ((hset (hset (hset h 259 0 v4 (h 320 0 (wmul v4 3))) 260 0 v4 (h 320 0 (wadd (wmul v4 3) 1))) 261 0 v4 (h 320 0 (wadd (wmul v4 3) 2))) 261 0 v4)).bind fun r1 => if ¬ r1 = 0 then (F119_0 n) v2 v3 (wadd v4 1) (hset (hset (hset h 259 0 v4 (h 320 0 (wmul v4 3))) 260 0 v4 (h 320 0 (wadd (wmul v4 3) 1))) 261 0 v4 (h 320 0 (wadd (wmul v4 3) 2))) else some (0, (hset (hset (hset h 259 0 v4 (h 320 0 (wmul v4 3))) 260 0 v4 (h 320 0 (wadd (wmul v4 3) 1))) 261 0 v4 (h 320 0 (wadd (wmul v4 3) 2))))))))))))
set_option maxRecDepth 100000 in
theorem T119_0 {spec : zRn zH2} {hm : zHM} {o : Int → Int} {d : Nat} (hd : 1 ≤ d) : ∀ (n : Nat) (v2 : Int) (v3 : Int) (v4 : Int) (h : zHC) (v : (Int × zHC)), F119_0 n v2 v3 v4 h = some v → zFin 0 (fun _ => 0) (zRu2 spec d) 119 (some (0, v.1)) (v.2, hm, o) (33, [some (14, 0), some (15, 0), some (19, v2), some (0, v3), some (0, v4)], [], (h, hm, o)) := by
  intro n
  induction n with
  | zero => intro v2 v3 v4 h v e; unfold F119_0 at e; cases e
  | succ n hk0 =>
    intro v2 v3 v4 h v e
    unfold F119_0 at e
    rcases zI_s e with ⟨q1, e⟩ | ⟨q1, e⟩
    · refine zF_blk (m := []) (d := 1) (b := B119_11) (gs := [v3 ≤ v4]) (c' := (126, [some (14, 0), some (15, 0), some (19, v2), some (0, v3), some (0, v4)], [], (h, hm, o))) K119_11 rfl ⟨q1, trivial⟩ ?_
      refine zF_blk (m := []) (d := 0) (b := B119_5) (gs := []) (c' := (132, [some (14, 0), some (15, 0), some (19, v2), some (0, v3), some (0, v4)], [(0, 1)], ((hset h 258 0 0 v3), hm, o))) K119_5 rfl trivial ?_
      exact zF_rbC (by decide +kernel) (Or.inr rfl) e
    · refine zF_blk (m := []) (d := 0) (b := B119_11) (gs := [¬ (v3 ≤ v4)]) (c' := (39, [some (14, 0), some (15, 0), some (19, v2), some (0, v3), some (0, v4)], [], (h, hm, o))) K119_11 rfl ⟨q1, trivial⟩ ?_
      obtain ⟨q2, e⟩ := zG_s e
      obtain ⟨q3, e⟩ := zG_s e
      obtain ⟨q4, e⟩ := zG_s e
      obtain ⟨q3, e⟩ := zG_s e
      obtain ⟨q5, e⟩ := zG_s e
      obtain ⟨q3, e⟩ := zG_s e
      obtain ⟨q3, e⟩ := zG_s e
      rcases zI_s e with ⟨q6, e⟩ | ⟨q6, e⟩
      · refine zF_blk (m := []) (d := 1) (b := B119_10) (gs := [0 ≤ (wmul v4 3) ∧ (wmul v4 3) < 940, 0 ≤ v4 ∧ v4 < 6, 0 ≤ (wadd (wmul v4 3) 1) ∧ (wadd (wmul v4 3) 1) < 940, 0 ≤ v4 ∧ v4 < 6, 0 ≤ (wadd (wmul v4 3) 2) ∧ (wadd (wmul v4 3) 2) < 940, 0 ≤ v4 ∧ v4 < 6, 0 ≤ v4 ∧ v4 < 6, (h 578 v2 0) ≤ ((hset h 259 0 v4 (h 320 0 (wmul v4 3))) 259 0 v4)]) (c' := (118, [some (14, 0), some (15, 0), some (19, v2), some (0, v3), some (0, v4)], [], ((hset (hset (hset h 259 0 v4 (h 320 0 (wmul v4 3))) 260 0 v4 (h 320 0 (wadd (wmul v4 3) 1))) 261 0 v4 (h 320 0 (wadd (wmul v4 3) 2))), hm, o))) K119_10 rfl ⟨q2, q3, q4, q3, q5, q3, q3, q6, trivial⟩ ?_
        refine zF_blk (m := []) (d := 0) (b := B119_6) (gs := []) (c' := (119, [some (14, 0), some (15, 0), some (19, v2), some (0, v3), some (0, v4)], [(0, 0)], ((hset (hset (hset h 259 0 v4 (h 320 0 (wmul v4 3))) 260 0 v4 (h 320 0 (wadd (wmul v4 3) 1))) 261 0 v4 (h 320 0 (wadd (wmul v4 3) 2))), hm, o))) K119_6 rfl trivial ?_
        exact zF_rbC (by decide +kernel) (Or.inl rfl) e
      · refine zF_blk (m := []) (d := 0) (b := B119_10) (gs := [0 ≤ (wmul v4 3) ∧ (wmul v4 3) < 940, 0 ≤ v4 ∧ v4 < 6, 0 ≤ (wadd (wmul v4 3) 1) ∧ (wadd (wmul v4 3) 1) < 940, 0 ≤ v4 ∧ v4 < 6, 0 ≤ (wadd (wmul v4 3) 2) ∧ (wadd (wmul v4 3) 2) < 940, 0 ≤ v4 ∧ v4 < 6, 0 ≤ v4 ∧ v4 < 6, ¬ ((h 578 v2 0) ≤ ((hset h 259 0 v4 (h 320 0 (wmul v4 3))) 259 0 v4))]) (c' := (105, [some (14, 0), some (15, 0), some (19, v2), some (0, v3), some (0, v4)], [], ((hset (hset (hset h 259 0 v4 (h 320 0 (wmul v4 3))) 260 0 v4 (h 320 0 (wadd (wmul v4 3) 1))) 261 0 v4 (h 320 0 (wadd (wmul v4 3) 2))), hm, o))) K119_10 rfl ⟨q2, q3, q4, q3, q5, q3, q3, q6, trivial⟩ ?_
        obtain ⟨q7, e⟩ := zG_s e
        obtain ⟨r1, q8, e⟩ := zB_s e
        refine zF_blk (m := []) (d := 0) (b := B119_7) (gs := [0 ≤ v4 ∧ v4 < 6]) (c' := (112, [some (14, 0), some (15, 0), some (19, v2), some (0, v3), some (0, v4)], [(0, ((hset (hset (hset h 259 0 v4 (h 320 0 (wmul v4 3))) 260 0 v4 (h 320 0 (wadd (wmul v4 3) 1))) 261 0 v4 (h 320 0 (wadd (wmul v4 3) 2))) 261 0 v4))], ((hset (hset (hset h 259 0 v4 (h 320 0 (wmul v4 3))) 260 0 v4 (h 320 0 (wadd (wmul v4 3) 1))) 261 0 v4 (h 320 0 (wadd (wmul v4 3) 2))), hm, o))) K119_7 rfl ⟨q7, trivial⟩ ?_
        refine zF_call (k := 74) (cl := 11) (n := 1) (i := .invokestatic 38) (args := [(0, ((hset (hset (hset h 259 0 v4 (h 320 0 (wmul v4 3))) 260 0 v4 (h 320 0 (wadd (wmul v4 3) 1))) 261 0 v4 (h 320 0 (wadd (wmul v4 3) 2))) 261 0 v4))]) (rest := []) (g1 := ((hset (hset (hset h 259 0 v4 (h 320 0 (wmul v4 3))) 260 0 v4 (h 320 0 (wadd (wmul v4 3) 1))) 261 0 v4 (h 320 0 (wadd (wmul v4 3) 2))), hm, o)) (r1 := some (0, r1)) (by decide +kernel) rfl rfl rfl (st' := [(0, r1)]) rfl (S74 (Nat.le_trans (by decide) hd) ((hset (hset (hset h 259 0 v4 (h 320 0 (wmul v4 3))) 260 0 v4 (h 320 0 (wadd (wmul v4 3) 1))) 261 0 v4 (h 320 0 (wadd (wmul v4 3) 2))) 261 0 v4) (hset (hset (hset h 259 0 v4 (h 320 0 (wmul v4 3))) 260 0 v4 (h 320 0 (wadd (wmul v4 3) 1))) 261 0 v4 (h 320 0 (wadd (wmul v4 3) 2))) _ q8) ?_
        rcases zI_s e with ⟨q9, e⟩ | ⟨q9, e⟩
        · refine zF_blk (m := []) (d := 1) (b := B119_9) (gs := [¬ r1 = 0]) (c' := (120, [some (14, 0), some (15, 0), some (19, v2), some (0, v3), some (0, v4)], [], ((hset (hset (hset h 259 0 v4 (h 320 0 (wmul v4 3))) 260 0 v4 (h 320 0 (wadd (wmul v4 3) 1))) 261 0 v4 (h 320 0 (wadd (wmul v4 3) 2))), hm, o))) K119_9 rfl ⟨q9, trivial⟩ ?_
          refine zF_blk (m := []) (d := 0) (b := B119_8) (gs := []) (c' := (33, [some (14, 0), some (15, 0), some (19, v2), some (0, v3), some (0, (wadd v4 1))], [], ((hset (hset (hset h 259 0 v4 (h 320 0 (wmul v4 3))) 260 0 v4 (h 320 0 (wadd (wmul v4 3) 1))) 261 0 v4 (h 320 0 (wadd (wmul v4 3) 2))), hm, o))) K119_8 rfl trivial ?_
          exact hk0 v2 v3 (wadd v4 1) (hset (hset (hset h 259 0 v4 (h 320 0 (wmul v4 3))) 260 0 v4 (h 320 0 (wadd (wmul v4 3) 1))) 261 0 v4 (h 320 0 (wadd (wmul v4 3) 2))) _ e
        · refine zF_blk (m := []) (d := 0) (b := B119_9) (gs := [¬ (¬ r1 = 0)]) (c' := (118, [some (14, 0), some (15, 0), some (19, v2), some (0, v3), some (0, v4)], [], ((hset (hset (hset h 259 0 v4 (h 320 0 (wmul v4 3))) 260 0 v4 (h 320 0 (wadd (wmul v4 3) 1))) 261 0 v4 (h 320 0 (wadd (wmul v4 3) 2))), hm, o))) K119_9 rfl ⟨q9, trivial⟩ ?_
          refine zF_blk (m := []) (d := 0) (b := B119_6) (gs := []) (c' := (119, [some (14, 0), some (15, 0), some (19, v2), some (0, v3), some (0, v4)], [(0, 0)], ((hset (hset (hset h 259 0 v4 (h 320 0 (wmul v4 3))) 260 0 v4 (h 320 0 (wadd (wmul v4 3) 1))) 261 0 v4 (h 320 0 (wadd (wmul v4 3) 2))), hm, o))) K119_6 rfl trivial ?_
          exact zF_rbC (by decide +kernel) (Or.inl rfl) e
/-- EchoVale$Pieces.take(LEchoVale$Reader;LEchoVale$Valley;)Z -/
def F119 (v2 : Int) (h : zHC) : Option (Int × zHC) := if (wdiv (h 321 0 0) 3) < 1 then some (0, h) else if 6 < (wdiv (h 321 0 0) 3) then some (0, h) else if (wmul (wdiv (h 321 0 0) 3) 3) = (h 321 0 0) then F119_0 zFu v2 (wdiv (h 321 0 0) 3) 0 h else some (0, h)
set_option maxRecDepth 100000 in
theorem S119 {spec : zRn zH2} {hm : zHM} {o : Int → Int} {d : Nat} (hd : 2 ≤ d) (v2 : Int) (h : zHC) (v : (Int × zHC)) (e : F119 v2 h = some v) : zRu2 spec d 119 [(14, 0), (15, 0), (19, v2)] (h, hm, o) (some (0, v.1)) (v.2, hm, o) := by
  refine zF_in (D := 1) (mx := 5) (L := [some (14, 0), some (15, 0), some (19, v2), none, none]) (by decide +kernel) rfl rfl hd (fun d hd => ?_)
  unfold F119 at e
  rcases zI_s e with ⟨q1, e⟩ | ⟨q1, e⟩
  · refine zF_blk (m := []) (d := 1) (b := B119_4) (gs := [¬ 3 = 0, (wdiv (h 321 0 0) 3) < 1]) (c' := (28, [some (14, 0), some (15, 0), some (19, v2), some (0, (wdiv (h 321 0 0) 3)), none], [], (h, hm, o))) K119_4 rfl ⟨by decide, q1, trivial⟩ ?_
    refine zF_blk (m := []) (d := 0) (b := B119_0) (gs := []) (c' := (29, [some (14, 0), some (15, 0), some (19, v2), some (0, (wdiv (h 321 0 0) 3)), none], [(0, 0)], (h, hm, o))) K119_0 rfl trivial ?_
    exact zF_rbC (by decide +kernel) (Or.inl rfl) e
  · refine zF_blk (m := []) (d := 0) (b := B119_4) (gs := [¬ 3 = 0, ¬ ((wdiv (h 321 0 0) 3) < 1)]) (c' := (12, [some (14, 0), some (15, 0), some (19, v2), some (0, (wdiv (h 321 0 0) 3)), none], [], (h, hm, o))) K119_4 rfl ⟨by decide, q1, trivial⟩ ?_
    rcases zI_s e with ⟨q2, e⟩ | ⟨q2, e⟩
    · refine zF_blk (m := []) (d := 1) (b := B119_3) (gs := [6 < (wdiv (h 321 0 0) 3)]) (c' := (28, [some (14, 0), some (15, 0), some (19, v2), some (0, (wdiv (h 321 0 0) 3)), none], [], (h, hm, o))) K119_3 rfl ⟨q2, trivial⟩ ?_
      refine zF_blk (m := []) (d := 0) (b := B119_0) (gs := []) (c' := (29, [some (14, 0), some (15, 0), some (19, v2), some (0, (wdiv (h 321 0 0) 3)), none], [(0, 0)], (h, hm, o))) K119_0 rfl trivial ?_
      exact zF_rbC (by decide +kernel) (Or.inl rfl) e
    · refine zF_blk (m := []) (d := 0) (b := B119_3) (gs := [¬ (6 < (wdiv (h 321 0 0) 3))]) (c' := (18, [some (14, 0), some (15, 0), some (19, v2), some (0, (wdiv (h 321 0 0) 3)), none], [], (h, hm, o))) K119_3 rfl ⟨q2, trivial⟩ ?_
      rcases zI_s e with ⟨q3, e⟩ | ⟨q3, e⟩
      · refine zF_blk (m := []) (d := 1) (b := B119_2) (gs := [(wmul (wdiv (h 321 0 0) 3) 3) = (h 321 0 0)]) (c' := (30, [some (14, 0), some (15, 0), some (19, v2), some (0, (wdiv (h 321 0 0) 3)), none], [], (h, hm, o))) K119_2 rfl ⟨q3, trivial⟩ ?_
        refine zF_blk (m := []) (d := 0) (b := B119_1) (gs := []) (c' := (33, [some (14, 0), some (15, 0), some (19, v2), some (0, (wdiv (h 321 0 0) 3)), some (0, 0)], [], (h, hm, o))) K119_1 rfl trivial ?_
        exact T119_0 hd zFu v2 (wdiv (h 321 0 0) 3) 0 h _ e
      · refine zF_blk (m := []) (d := 0) (b := B119_2) (gs := [¬ ((wmul (wdiv (h 321 0 0) 3) 3) = (h 321 0 0))]) (c' := (28, [some (14, 0), some (15, 0), some (19, v2), some (0, (wdiv (h 321 0 0) 3)), none], [], (h, hm, o))) K119_2 rfl ⟨q3, trivial⟩ ?_
        refine zF_blk (m := []) (d := 0) (b := B119_0) (gs := []) (c' := (29, [some (14, 0), some (15, 0), some (19, v2), some (0, (wdiv (h 321 0 0) 3)), none], [(0, 0)], (h, hm, o))) K119_0 rfl trivial ?_
        exact zF_rbC (by decide +kernel) (Or.inl rfl) e
def B122_0 : List zRow := [(0, .iconst 0, 1, (0, 0, 0)), (1, .istore_n 3, 1, (0, 0, 0))]
theorem K122_0 : zRk 122 B122_0 = true := by decide +kernel
def B122_1 : List zRow := [(80, .iconst 0, 1, (0, 0, 0))]
theorem K122_1 : zRk 122 B122_1 = true := by decide +kernel
def B122_2 : List zRow := [(12, .iconst 0, 1, (0, 0, 0)), (13, .istore 4, 2, (0, 0, 0)), (15, .iconst 0, 1, (0, 0, 0)), (16, .istore 5, 2, (0, 0, 0))]
theorem K122_2 : zRk 122 B122_2 = true := by decide +kernel
def B122_3 : List zRow := [(2, .iload_n 3, 1, (0, 0, 0)), (3, .iconst 1, 1, (0, 0, 0)), (4, .aload_n 0, 1, (0, 0, 0)), (5, .getfield 33, 3, (9, 2, 0)), (8, .ishl, 1, (0, 0, 0)), (9, .if_icmp .ge 71, 3, (0, 0, 0))]
theorem K122_3 : zRk 122 B122_3 = true := by decide +kernel
def B122_4 : List zRow := [(64, .iload_n 3, 1, (0, 0, 0)), (65, .iload_n 1, 1, (0, 0, 0))]
theorem K122_4 : zRk 122 B122_4 = true := by decide +kernel
def B122_5 : List zRow := [(72, .iconst 1, 1, (0, 0, 0))]
theorem K122_5 : zRk 122 B122_5 = true := by decide +kernel
def B122_6 : List zRow := [(69, .ifCond .eq 5, 3, (0, 0, 0))]
theorem K122_6 : zRk 122 B122_6 = true := by decide +kernel
def B122_7 : List zRow := [(58, .iload 4, 2, (0, 0, 0)), (60, .iload_n 2, 1, (0, 0, 0)), (61, .if_icmp .ne 13, 3, (0, 0, 0))]
theorem K122_7 : zRk 122 B122_7 = true := by decide +kernel
def B122_8 : List zRow := [(27, .iload 4, 2, (0, 0, 0)), (29, .iload_n 3, 1, (0, 0, 0)), (30, .iload 5, 2, (0, 0, 0))]
theorem K122_8 : zRk 122 B122_8 = true := by decide +kernel
def B122_9 : List zRow := [(48, .iconst 0, 1, (0, 0, 0))]
theorem K122_9 : zRk 122 B122_9 = true := by decide +kernel
def B122_10 : List zRow := [(38, .aload_n 0, 1, (0, 0, 0)), (39, .getfield 71, 3, (9, 9, 5242906)), (42, .iload 5, 2, (0, 0, 0)), (44, .iaload, 1, (0, 0, 0)), (45, .goto 4, 3, (0, 0, 0))]
theorem K122_10 : zRk 122 B122_10 = true := by decide +kernel
def B122_11 : List zRow := [(35, .ifCond .eq 13, 3, (0, 0, 0))]
theorem K122_11 : zRk 122 B122_11 = true := by decide +kernel
def B122_12 : List zRow := [(18, .iload 5, 2, (0, 0, 0)), (20, .aload_n 0, 1, (0, 0, 0)), (21, .getfield 33, 3, (9, 2, 0)), (24, .if_icmp .ge 34, 3, (0, 0, 0))]
theorem K122_12 : zRk 122 B122_12 = true := by decide +kernel
def B122_13 : List zRow := [(49, .iadd, 1, (0, 0, 0)), (50, .istore 4, 2, (0, 0, 0)), (52, .iinc 5 1, 3, (0, 0, 0)), (55, .goto (-37), 3, (0, 0, 0))]
theorem K122_13 : zRk 122 B122_13 = true := by decide +kernel
def B122_14 : List zRow := [(74, .iinc 3 1, 3, (0, 0, 0)), (77, .goto (-75), 3, (0, 0, 0))]
theorem K122_14 : zRk 122 B122_14 = true := by decide +kernel
def F122_2 (k0 : Int → Int → Int → Int → Option Int) (h : zHC) (v0 : Int) (v1 : Int) (v2 : Int) (v3 : Int) : Option Int := k0 v0 v1 v2 (wadd v3 1)
set_option maxRecDepth 100000 in
theorem T122_2 {spec : zRn zH2} {hm : zHM} {o : Int → Int} {d : Nat} (hd : 1 ≤ d) (h : zHC) (k0 : Int → Int → Int → Int → Option Int) (hk0 : ∀ (v0 : Int) (v1 : Int) (v2 : Int) (v3 : Int) (v : Int), k0 v0 v1 v2 v3 = some v → zFin 0 (fun _ => 0) (zRu2 spec d) 122 (some (0, v)) (h, hm, o) (2, [some (19, v0), some (0, v1), some (0, v2), some (0, v3), none, none], [], (h, hm, o))) (v0 : Int) (v1 : Int) (v2 : Int) (v3 : Int) (v : Int) (e : F122_2 k0 h v0 v1 v2 v3 = some v) : zFin 0 (fun _ => 0) (zRu2 spec d) 122 (some (0, v)) (h, hm, o) (74, [some (19, v0), some (0, v1), some (0, v2), some (0, v3), none, none], [], (h, hm, o)) := by
  unfold F122_2 at e
  refine zF_blk (m := []) (d := 0) (b := B122_14) (gs := []) (c' := (2, [some (19, v0), some (0, v1), some (0, v2), some (0, (wadd v3 1)), none, none], [], (h, hm, o))) K122_14 rfl trivial ?_
  exact hk0 v0 v1 v2 (wadd v3 1) _ e
def F122_3 (k0 : Int → Int → Int → Int → Option Int) (k1 : Int → Int → Int → Int → Int → Int → Option Int) (h : zHC) (v0 : Int) (v1 : Int) (v2 : Int) (v3 : Int) (v5 : Int) (s0 : Int) (s1 : Int) : Option Int := k1 v0 v1 v2 v3 (wadd s1 s0) (wadd v5 1)
set_option maxRecDepth 100000 in
theorem T122_3 {spec : zRn zH2} {hm : zHM} {o : Int → Int} {d : Nat} (hd : 1 ≤ d) (h : zHC) (k0 : Int → Int → Int → Int → Option Int) (hk0 : ∀ (v0 : Int) (v1 : Int) (v2 : Int) (v3 : Int) (v : Int), k0 v0 v1 v2 v3 = some v → zFin 0 (fun _ => 0) (zRu2 spec d) 122 (some (0, v)) (h, hm, o) (2, [some (19, v0), some (0, v1), some (0, v2), some (0, v3), none, none], [], (h, hm, o))) (k1 : Int → Int → Int → Int → Int → Int → Option Int) (hk1 : ∀ (v0 : Int) (v1 : Int) (v2 : Int) (v3 : Int) (v4 : Int) (v5 : Int) (v : Int), k1 v0 v1 v2 v3 v4 v5 = some v → zFin 0 (fun _ => 0) (zRu2 spec d) 122 (some (0, v)) (h, hm, o) (18, [some (19, v0), some (0, v1), some (0, v2), some (0, v3), some (0, v4), some (0, v5)], [], (h, hm, o))) (v0 : Int) (v1 : Int) (v2 : Int) (v3 : Int) (v5 : Int) (s0 : Int) (s1 : Int) (v : Int) (e : F122_3 k0 k1 h v0 v1 v2 v3 v5 s0 s1 = some v) : zFin 0 (fun _ => 0) (zRu2 spec d) 122 (some (0, v)) (h, hm, o) (49, [some (19, v0), some (0, v1), some (0, v2), some (0, v3), none, some (0, v5)], [(0, s0), (0, s1)], (h, hm, o)) := by
  unfold F122_3 at e
  refine zF_blk (m := []) (d := 0) (b := B122_13) (gs := []) (c' := (18, [some (19, v0), some (0, v1), some (0, v2), some (0, v3), some (0, (wadd s1 s0)), some (0, (wadd v5 1))], [], (h, hm, o))) K122_13 rfl trivial ?_
  exact hk1 v0 v1 v2 v3 (wadd s1 s0) (wadd v5 1) _ e
def F122_1 (k0 : Int → Int → Int → Int → Option Int) (h : zHC) : Nat → Int → Int → Int → Int → Int → Int → Option Int
  | 0, _, _, _, _, _, _ => none
  | n + 1, v0, v1, v2, v3, v4, v5 => if (h 578 v0 0) ≤ v5 then if ¬ v4 = v2 then F122_2 k0 h v0 v1 v2 v3 else (F65 v3 v1).bind fun r1 => if r1 = 0 then F122_2 k0 h v0 v1 v2 v3 else some 1 else (F65 v3 v5).bind fun r2 => if r2 = 0 then F122_3 k0 (F122_1 k0 h n) h v0 v1 v2 v3 v5 0 v4 else zG (0 ≤ v5 ∧ v5 < 6) (F122_3 k0 (F122_1 k0 h n) h v0 v1 v2 v3 v5 (h 585 v0 v5) v4)
set_option maxRecDepth 100000 in
theorem T122_1 {spec : zRn zH2} {hm : zHM} {o : Int → Int} {d : Nat} (hd : 1 ≤ d) (h : zHC) (k0 : Int → Int → Int → Int → Option Int) (hk0 : ∀ (v0 : Int) (v1 : Int) (v2 : Int) (v3 : Int) (v : Int), k0 v0 v1 v2 v3 = some v → zFin 0 (fun _ => 0) (zRu2 spec d) 122 (some (0, v)) (h, hm, o) (2, [some (19, v0), some (0, v1), some (0, v2), some (0, v3), none, none], [], (h, hm, o))) : ∀ (n : Nat) (v0 : Int) (v1 : Int) (v2 : Int) (v3 : Int) (v4 : Int) (v5 : Int) (v : Int), F122_1 k0 h n v0 v1 v2 v3 v4 v5 = some v → zFin 0 (fun _ => 0) (zRu2 spec d) 122 (some (0, v)) (h, hm, o) (18, [some (19, v0), some (0, v1), some (0, v2), some (0, v3), some (0, v4), some (0, v5)], [], (h, hm, o)) := by
  intro n
  induction n with
  | zero => intro v0 v1 v2 v3 v4 v5 v e; unfold F122_1 at e; cases e
  | succ n hk1 =>
    intro v0 v1 v2 v3 v4 v5 v e
    unfold F122_1 at e
    rcases zI_s e with ⟨q1, e⟩ | ⟨q1, e⟩
    · refine zF_blk (m := []) (d := 1) (b := B122_12) (gs := [(h 578 v0 0) ≤ v5]) (c' := (58, [some (19, v0), some (0, v1), some (0, v2), some (0, v3), some (0, v4), some (0, v5)], [], (h, hm, o))) K122_12 rfl ⟨q1, trivial⟩ ?_
      rcases zI_s e with ⟨q2, e⟩ | ⟨q2, e⟩
      · refine zF_blk (m := []) (d := 1) (b := B122_7) (gs := [¬ v4 = v2]) (c' := (74, [some (19, v0), some (0, v1), some (0, v2), some (0, v3), some (0, v4), some (0, v5)], [], (h, hm, o))) K122_7 rfl ⟨q2, trivial⟩ ?_
        refine zF_blk (m := [true, true, true, true, false, false]) (d := 0) (b := []) (gs := []) (c' := (74, [some (19, v0), some (0, v1), some (0, v2), some (0, v3), none, none], [], (h, hm, o))) rfl rfl trivial ?_
        exact T122_2 hd h k0 hk0 v0 v1 v2 v3 _ e
      · refine zF_blk (m := []) (d := 0) (b := B122_7) (gs := [¬ (¬ v4 = v2)]) (c' := (64, [some (19, v0), some (0, v1), some (0, v2), some (0, v3), some (0, v4), some (0, v5)], [], (h, hm, o))) K122_7 rfl ⟨q2, trivial⟩ ?_
        obtain ⟨r1, q3, e⟩ := zB_s e
        refine zF_blk (m := []) (d := 0) (b := B122_4) (gs := []) (c' := (66, [some (19, v0), some (0, v1), some (0, v2), some (0, v3), some (0, v4), some (0, v5)], [(0, v1), (0, v3)], (h, hm, o))) K122_4 rfl trivial ?_
        refine zF_call (k := 65) (cl := 11) (n := 2) (i := .invokestatic 67) (args := [(0, v3), (0, v1)]) (rest := []) (g1 := (h, hm, o)) (r1 := some (0, r1)) (by decide +kernel) rfl rfl rfl (st' := [(0, r1)]) rfl (S65 (Nat.le_trans (by decide) hd) v3 v1 h _ q3) ?_
        rcases zI_s e with ⟨q4, e⟩ | ⟨q4, e⟩
        · refine zF_blk (m := []) (d := 1) (b := B122_6) (gs := [r1 = 0]) (c' := (74, [some (19, v0), some (0, v1), some (0, v2), some (0, v3), some (0, v4), some (0, v5)], [], (h, hm, o))) K122_6 rfl ⟨q4, trivial⟩ ?_
          refine zF_blk (m := [true, true, true, true, false, false]) (d := 0) (b := []) (gs := []) (c' := (74, [some (19, v0), some (0, v1), some (0, v2), some (0, v3), none, none], [], (h, hm, o))) rfl rfl trivial ?_
          exact T122_2 hd h k0 hk0 v0 v1 v2 v3 _ e
        · refine zF_blk (m := []) (d := 0) (b := B122_6) (gs := [¬ (r1 = 0)]) (c' := (72, [some (19, v0), some (0, v1), some (0, v2), some (0, v3), some (0, v4), some (0, v5)], [], (h, hm, o))) K122_6 rfl ⟨q4, trivial⟩ ?_
          refine zF_blk (m := []) (d := 0) (b := B122_5) (gs := []) (c' := (73, [some (19, v0), some (0, v1), some (0, v2), some (0, v3), some (0, v4), some (0, v5)], [(0, 1)], (h, hm, o))) K122_5 rfl trivial ?_
          obtain rfl := Option.some.inj e
          exact zF_rb (by decide +kernel) (Or.inr rfl)
    · refine zF_blk (m := []) (d := 0) (b := B122_12) (gs := [¬ ((h 578 v0 0) ≤ v5)]) (c' := (27, [some (19, v0), some (0, v1), some (0, v2), some (0, v3), some (0, v4), some (0, v5)], [], (h, hm, o))) K122_12 rfl ⟨q1, trivial⟩ ?_
      obtain ⟨r2, q5, e⟩ := zB_s e
      refine zF_blk (m := []) (d := 0) (b := B122_8) (gs := []) (c' := (32, [some (19, v0), some (0, v1), some (0, v2), some (0, v3), some (0, v4), some (0, v5)], [(0, v5), (0, v3), (0, v4)], (h, hm, o))) K122_8 rfl trivial ?_
      refine zF_call (k := 65) (cl := 11) (n := 2) (i := .invokestatic 67) (args := [(0, v3), (0, v5)]) (rest := [(0, v4)]) (g1 := (h, hm, o)) (r1 := some (0, r2)) (by decide +kernel) rfl rfl rfl (st' := [(0, r2), (0, v4)]) rfl (S65 (Nat.le_trans (by decide) hd) v3 v5 h _ q5) ?_
      rcases zI_s e with ⟨q6, e⟩ | ⟨q6, e⟩
      · refine zF_blk (m := []) (d := 1) (b := B122_11) (gs := [r2 = 0]) (c' := (48, [some (19, v0), some (0, v1), some (0, v2), some (0, v3), some (0, v4), some (0, v5)], [(0, v4)], (h, hm, o))) K122_11 rfl ⟨q6, trivial⟩ ?_
        refine zF_blk (m := []) (d := 0) (b := B122_9) (gs := []) (c' := (49, [some (19, v0), some (0, v1), some (0, v2), some (0, v3), some (0, v4), some (0, v5)], [(0, 0), (0, v4)], (h, hm, o))) K122_9 rfl trivial ?_
        refine zF_blk (m := [true, true, true, true, false, true]) (d := 0) (b := []) (gs := []) (c' := (49, [some (19, v0), some (0, v1), some (0, v2), some (0, v3), none, some (0, v5)], [(0, 0), (0, v4)], (h, hm, o))) rfl rfl trivial ?_
        exact T122_3 hd h k0 hk0 (F122_1 k0 h n) hk1 v0 v1 v2 v3 v5 0 v4 _ e
      · refine zF_blk (m := []) (d := 0) (b := B122_11) (gs := [¬ (r2 = 0)]) (c' := (38, [some (19, v0), some (0, v1), some (0, v2), some (0, v3), some (0, v4), some (0, v5)], [(0, v4)], (h, hm, o))) K122_11 rfl ⟨q6, trivial⟩ ?_
        obtain ⟨q7, e⟩ := zG_s e
        refine zF_blk (m := []) (d := 0) (b := B122_10) (gs := [0 ≤ v5 ∧ v5 < 6]) (c' := (49, [some (19, v0), some (0, v1), some (0, v2), some (0, v3), some (0, v4), some (0, v5)], [(0, (h 585 v0 v5)), (0, v4)], (h, hm, o))) K122_10 rfl ⟨q7, trivial⟩ ?_
        refine zF_blk (m := [true, true, true, true, false, true]) (d := 0) (b := []) (gs := []) (c' := (49, [some (19, v0), some (0, v1), some (0, v2), some (0, v3), none, some (0, v5)], [(0, (h 585 v0 v5)), (0, v4)], (h, hm, o))) rfl rfl trivial ?_
        exact T122_3 hd h k0 hk0 (F122_1 k0 h n) hk1 v0 v1 v2 v3 v5 (h 585 v0 v5) v4 _ e
def F122_0 (h : zHC) : Nat → Int → Int → Int → Int → Option Int
  | 0, _, _, _, _ => none
  | n + 1, v0, v1, v2, v3 => if (wshl 1 (h 578 v0 0)) ≤ v3 then some 0 else F122_1 (F122_0 h n) h zFu v0 v1 v2 v3 0 0
set_option maxRecDepth 100000 in
theorem T122_0 {spec : zRn zH2} {hm : zHM} {o : Int → Int} {d : Nat} (hd : 1 ≤ d) (h : zHC) : ∀ (n : Nat) (v0 : Int) (v1 : Int) (v2 : Int) (v3 : Int) (v : Int), F122_0 h n v0 v1 v2 v3 = some v → zFin 0 (fun _ => 0) (zRu2 spec d) 122 (some (0, v)) (h, hm, o) (2, [some (19, v0), some (0, v1), some (0, v2), some (0, v3), none, none], [], (h, hm, o)) := by
  intro n
  induction n with
  | zero => intro v0 v1 v2 v3 v e; unfold F122_0 at e; cases e
  | succ n hk0 =>
    intro v0 v1 v2 v3 v e
    unfold F122_0 at e
    rcases zI_s e with ⟨q1, e⟩ | ⟨q1, e⟩
    · refine zF_blk (m := []) (d := 1) (b := B122_3) (gs := [(wshl 1 (h 578 v0 0)) ≤ v3]) (c' := (80, [some (19, v0), some (0, v1), some (0, v2), some (0, v3), none, none], [], (h, hm, o))) K122_3 rfl ⟨q1, trivial⟩ ?_
      refine zF_blk (m := []) (d := 0) (b := B122_1) (gs := []) (c' := (81, [some (19, v0), some (0, v1), some (0, v2), some (0, v3), none, none], [(0, 0)], (h, hm, o))) K122_1 rfl trivial ?_
      obtain rfl := Option.some.inj e
      exact zF_rb (by decide +kernel) (Or.inl rfl)
    · refine zF_blk (m := []) (d := 0) (b := B122_3) (gs := [¬ ((wshl 1 (h 578 v0 0)) ≤ v3)]) (c' := (12, [some (19, v0), some (0, v1), some (0, v2), some (0, v3), none, none], [], (h, hm, o))) K122_3 rfl ⟨q1, trivial⟩ ?_
      refine zF_blk (m := []) (d := 0) (b := B122_2) (gs := []) (c' := (18, [some (19, v0), some (0, v1), some (0, v2), some (0, v3), some (0, 0), some (0, 0)], [], (h, hm, o))) K122_2 rfl trivial ?_
      exact T122_1 hd h (F122_0 h n) hk0 zFu v0 v1 v2 v3 0 0 _ e
/-- EchoVale$Pieces.canTake(LEchoVale$Valley;II)Z -/
def F122 (v0 : Int) (v1 : Int) (v2 : Int) (h : zHC) : Option Int := F122_0 h zFu v0 v1 v2 0
set_option maxRecDepth 100000 in
theorem S122 {spec : zRn zH2} {hm : zHM} {o : Int → Int} {d : Nat} (hd : 2 ≤ d) (v0 : Int) (v1 : Int) (v2 : Int) (h : zHC) (v : Int) (e : F122 v0 v1 v2 h = some v) : zRu2 spec d 122 [(19, v0), (0, v1), (0, v2)] (h, hm, o) (some (0, v)) (h, hm, o) := by
  refine zF_in (D := 1) (mx := 6) (L := [some (19, v0), some (0, v1), some (0, v2), none, none, none]) (by decide +kernel) rfl rfl hd (fun d hd => ?_)
  unfold F122 at e
  refine zF_blk (m := []) (d := 0) (b := B122_0) (gs := []) (c' := (2, [some (19, v0), some (0, v1), some (0, v2), some (0, 0), none, none], [], (h, hm, o))) K122_0 rfl trivial ?_
  exact T122_0 hd h zFu v0 v1 v2 0 _ e
