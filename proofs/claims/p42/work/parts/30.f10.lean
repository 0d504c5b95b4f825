/-! Functions of the methods, by wip/gen/lift.py. -/
noncomputable def B123_0 : List zRow := [(0, .aload_n 2, 1, (0, 0, 0)), (1, .iload_n 3, 1, (0, 0, 0)), (2, .putfield 74, 3, (1, 0, 0)), (5, .aload_n 2, 1, (0, 0, 0)), (6, .iconst 0, 1, (0, 0, 0)), (7, .putfield 78, 3, (1, 1, 0)), (10, .aload_n 2, 1, (0, 0, 0)), (11, .iconst 0, 1, (0, 0, 0)), (12, .putfield 81, 3, (1, 2, 0)), (15, .aload_n 2, 1, (0, 0, 0)), (16, .aload_n 1, 1, (0, 0, 0)), (17, .iconst 0, 1, (0, 0, 0)), (18, .iload 4, 2, (0, 0, 0)), (20, .iconst 1, 1, (0, 0, 0)), (21, .iload 5, 2, (0, 0, 0))]
theorem K123_0 : zRk 123 B123_0 = true := zRw_ok (by decide +kernel)
noncomputable def B123_1 : List zRow := [(38, .iconst 0, 1, (0, 0, 0))]
theorem K123_1 : zRk 123 B123_1 = true := zRw_ok (by decide +kernel)
noncomputable def B123_2 : List zRow := [(34, .iconst 1, 1, (0, 0, 0)), (35, .goto 4, 3, (0, 0, 0))]
theorem K123_2 : zRk 123 B123_2 = true := zRw_ok (by decide +kernel)
noncomputable def B123_3 : List zRow := [(26, .istore 6, 2, (0, 0, 0)), (28, .iload 6, 2, (0, 0, 0)), (30, .iconst (-1), 1, (0, 0, 0)), (31, .if_icmp .eq 7, 3, (0, 0, 0))]
theorem K123_3 : zRk 123 B123_3 = true := zRw_ok (by decide +kernel)
noncomputable def B123_4 : List zRow := [(39, .istore 7, 2, (0, 0, 0)), (41, .iconst 0, 1, (0, 0, 0)), (42, .istore 8, 2, (0, 0, 0))]
theorem K123_4 : zRk 123 B123_4 = true := zRw_ok (by decide +kernel)
noncomputable def B123_5 : List zRow := [(56, .aload_n 2, 1, (0, 0, 0)), (57, .aload_n 1, 1, (0, 0, 0)), (58, .iload 6, 2, (0, 0, 0))]
theorem K123_5 : zRk 123 B123_5 = true := zRw_ok (by decide +kernel)
noncomputable def B123_6 : List zRow := [(63, .istore 7, 2, (0, 0, 0)), (65, .iinc 8 1, 3, (0, 0, 0)), (68, .goto (-24), 3, (0, 0, 0))]
theorem K123_6 : zRk 123 B123_6 = true := zRw_ok (by decide +kernel)
noncomputable def B123_7 : List zRow := [(51, .iload 7, 2, (0, 0, 0)), (53, .ifCond .eq 18, 3, (0, 0, 0))]
theorem K123_7 : zRk 123 B123_7 = true := zRw_ok (by decide +kernel)
noncomputable def B123_8 : List zRow := [(44, .iload 8, 2, (0, 0, 0)), (46, .bipush 6, 2, (0, 0, 0)), (48, .if_icmp .ge 23, 3, (0, 0, 0))]
theorem K123_8 : zRk 123 B123_8 = true := zRw_ok (by decide +kernel)
noncomputable def B123_9 : List zRow := [(71, .iconst 0, 1, (0, 0, 0)), (72, .istore 8, 2, (0, 0, 0))]
theorem K123_9 : zRk 123 B123_9 = true := zRw_ok (by decide +kernel)
noncomputable def B123_10 : List zRow := [(101, .iconst 1, 1, (0, 0, 0))]
theorem K123_10 : zRk 123 B123_10 = true := zRw_ok (by decide +kernel)
noncomputable def B123_11 : List zRow := [(83, .aload_n 0, 1, (0, 0, 0)), (84, .aload_n 2, 1, (0, 0, 0)), (85, .iload 8, 2, (0, 0, 0))]
theorem K123_11 : zRk 123 B123_11 = true := zRw_ok (by decide +kernel)
noncomputable def B123_12 : List zRow := [(95, .iinc 8 1, 3, (0, 0, 0)), (98, .goto (-24), 3, (0, 0, 0))]
theorem K123_12 : zRk 123 B123_12 = true := zRw_ok (by decide +kernel)
noncomputable def B123_13 : List zRow := [(93, .iconst 0, 1, (0, 0, 0))]
theorem K123_13 : zRk 123 B123_13 = true := zRw_ok (by decide +kernel)
noncomputable def B123_14 : List zRow := [(90, .ifCond .ne 5, 3, (0, 0, 0))]
theorem K123_14 : zRk 123 B123_14 = true := zRw_ok (by decide +kernel)
noncomputable def B123_15 : List zRow := [(74, .iload 8, 2, (0, 0, 0)), (76, .aload_n 0, 1, (0, 0, 0)), (77, .getfield 42, 3, (4, 2, 0)), (80, .if_icmp .ge 21, 3, (0, 0, 0))]
theorem K123_15 : zRk 123 B123_15 = true := zRw_ok (by decide +kernel)
def F123_3 : Nat → Int → Int → zHC → Option (Int × zHC)
  | 0, _, _, _ => none
  | n + 1, v2, v8, h => if (h 258 0 0) ≤ v8 then some (1, h) else (F126 v2 v8 h).bind fun r1 => if ¬ r1 = 0 then (F123_3 n) v2 (wadd v8 1) h else some (0, h)
set_option maxRecDepth 100000 in
theorem T123_3 {spec : zRn zH2} {hm : zHM} {o : Int → Int} {d : Nat} (hd : 5 ≤ d) : ∀ (n : Nat) (v2 : Int) (v8 : Int) (h : zHC) (v : (Int × zHC)), F123_3 n v2 v8 h = some v → zFin 0 (fun _ => 0) (zRu2 spec d) 123 (some (0, v.1)) (v.2, hm, o) (74, [some (14, 0), none, some (11, v2), none, none, none, none, none, some (0, v8)], [], (h, hm, o)) := by
  intro n
  induction n with
  | zero => intro v2 v8 h v e; unfold F123_3 at e; cases e
  | succ n hk0 =>
    intro v2 v8 h v e
    unfold F123_3 at e
    rcases zI_s e with ⟨q1, e⟩ | ⟨q1, e⟩
    · refine zF_blk (m := []) (d := 1) (b := B123_15) (gs := [(h 258 0 0) ≤ v8]) (c' := (101, [some (14, 0), none, some (11, v2), none, none, none, none, none, some (0, v8)], [], (h, hm, o))) K123_15 rfl ⟨q1, trivial⟩ ?_
      refine zF_blk (m := []) (d := 0) (b := B123_10) (gs := []) (c' := (102, [some (14, 0), none, some (11, v2), none, none, none, none, none, some (0, v8)], [(0, 1)], (h, hm, o))) K123_10 rfl trivial ?_
      exact zF_rbC (zRe1_w (by decide +kernel)) (Or.inr rfl) e
    · refine zF_blk (m := []) (d := 0) (b := B123_15) (gs := [¬ ((h 258 0 0) ≤ v8)]) (c' := (83, [some (14, 0), none, some (11, v2), none, none, none, none, none, some (0, v8)], [], (h, hm, o))) K123_15 rfl ⟨q1, trivial⟩ ?_
      obtain ⟨r1, q2, e⟩ := zB_s e
      refine zF_blk (m := []) (d := 0) (b := B123_11) (gs := []) (c' := (87, [some (14, 0), none, some (11, v2), none, none, none, none, none, some (0, v8)], [(0, v8), (11, v2), (14, 0)], (h, hm, o))) K123_11 rfl trivial ?_
      refine zF_call (k := 126) (cl := 4) (n := 3) (i := .invokevirtual 91) (args := [(14, 0), (11, v2), (0, v8)]) (rest := []) (g1 := (h, hm, o)) (r1 := some (0, r1)) (zCk1_w (by decide +kernel)) rfl rfl rfl (st' := [(0, r1)]) rfl (S126 (Nat.le_trans (by decide) hd) v2 v8 h _ q2) ?_
      rcases zI_s e with ⟨q3, e⟩ | ⟨q3, e⟩
      · refine zF_blk (m := []) (d := 1) (b := B123_14) (gs := [¬ r1 = 0]) (c' := (95, [some (14, 0), none, some (11, v2), none, none, none, none, none, some (0, v8)], [], (h, hm, o))) K123_14 rfl ⟨q3, trivial⟩ ?_
        refine zF_blk (m := []) (d := 0) (b := B123_12) (gs := []) (c' := (74, [some (14, 0), none, some (11, v2), none, none, none, none, none, some (0, (wadd v8 1))], [], (h, hm, o))) K123_12 rfl trivial ?_
        exact hk0 v2 (wadd v8 1) h _ e
      · refine zF_blk (m := []) (d := 0) (b := B123_14) (gs := [¬ (¬ r1 = 0)]) (c' := (93, [some (14, 0), none, some (11, v2), none, none, none, none, none, some (0, v8)], [], (h, hm, o))) K123_14 rfl ⟨q3, trivial⟩ ?_
        refine zF_blk (m := []) (d := 0) (b := B123_13) (gs := []) (c' := (94, [some (14, 0), none, some (11, v2), none, none, none, none, none, some (0, v8)], [(0, 0)], (h, hm, o))) K123_13 rfl trivial ?_
        exact zF_rbC (zRe1_w (by decide +kernel)) (Or.inl rfl) e
def F123_2 (v2 : Int) (h : zHC) : Option (Int × zHC) := F123_3 zFu v2 0 h
set_option maxRecDepth 100000 in
theorem T123_2 {spec : zRn zH2} {hm : zHM} {o : Int → Int} {d : Nat} (hd : 5 ≤ d) (v2 : Int) (h : zHC) (v : (Int × zHC)) (e : F123_2 v2 h = some v) : zFin 0 (fun _ => 0) (zRu2 spec d) 123 (some (0, v.1)) (v.2, hm, o) (71, [some (14, 0), none, some (11, v2), none, none, none, none, none, none], [], (h, hm, o)) := by
  unfold F123_2 at e
  refine zF_blk (m := []) (d := 0) (b := B123_9) (gs := []) (c' := (74, [some (14, 0), none, some (11, v2), none, none, none, none, none, some (0, 0)], [], (h, hm, o))) K123_9 rfl trivial ?_
  exact T123_3 hd zFu v2 0 h _ e
def F123_1 : Nat → Int → Int → Int → Int → Int → zHC → Option (Int × zHC)
  | 0, _, _, _, _, _, _ => none
  | n + 1, v1, v2, v6, v7, v8, h => if 6 ≤ v8 then F123_2 v2 h else if v7 = 0 then F123_2 v2 h else (F124 v2 v1 v6 h).bind fun r1 => (F123_1 n) v1 v2 v6 r1.1 (wadd v8 1) r1.2
set_option maxRecDepth 100000 in
theorem T123_1 {spec : zRn zH2} {hm : zHM} {o : Int → Int} {d : Nat} (hd : 5 ≤ d) : ∀ (n : Nat) (v1 : Int) (v2 : Int) (v6 : Int) (v7 : Int) (v8 : Int) (h : zHC) (v : (Int × zHC)), F123_1 n v1 v2 v6 v7 v8 h = some v → zFin 0 (fun _ => 0) (zRu2 spec d) 123 (some (0, v.1)) (v.2, hm, o) (44, [some (14, 0), some (19, v1), some (11, v2), none, none, none, some (0, v6), some (0, v7), some (0, v8)], [], (h, hm, o)) := by
  intro n
  induction n with
  | zero => intro v1 v2 v6 v7 v8 h v e; unfold F123_1 at e; cases e
  | succ n hk0 =>
    intro v1 v2 v6 v7 v8 h v e
    unfold F123_1 at e
    rcases zI_s e with ⟨q1, e⟩ | ⟨q1, e⟩
    · refine zF_blk (m := []) (d := 1) (b := B123_8) (gs := [6 ≤ v8]) (c' := (71, [some (14, 0), some (19, v1), some (11, v2), none, none, none, some (0, v6), some (0, v7), some (0, v8)], [], (h, hm, o))) K123_8 rfl ⟨q1, trivial⟩ ?_
      refine zF_blk (m := [true, false, true, false, false, false, false, false, false]) (d := 0) (b := []) (gs := []) (c' := (71, [some (14, 0), none, some (11, v2), none, none, none, none, none, none], [], (h, hm, o))) rfl rfl trivial ?_
      exact T123_2 hd v2 h _ e
    · refine zF_blk (m := []) (d := 0) (b := B123_8) (gs := [¬ (6 ≤ v8)]) (c' := (51, [some (14, 0), some (19, v1), some (11, v2), none, none, none, some (0, v6), some (0, v7), some (0, v8)], [], (h, hm, o))) K123_8 rfl ⟨q1, trivial⟩ ?_
      rcases zI_s e with ⟨q2, e⟩ | ⟨q2, e⟩
      · refine zF_blk (m := []) (d := 1) (b := B123_7) (gs := [v7 = 0]) (c' := (71, [some (14, 0), some (19, v1), some (11, v2), none, none, none, some (0, v6), some (0, v7), some (0, v8)], [], (h, hm, o))) K123_7 rfl ⟨q2, trivial⟩ ?_
        refine zF_blk (m := [true, false, true, false, false, false, false, false, false]) (d := 0) (b := []) (gs := []) (c' := (71, [some (14, 0), none, some (11, v2), none, none, none, none, none, none], [], (h, hm, o))) rfl rfl trivial ?_
        exact T123_2 hd v2 h _ e
      · refine zF_blk (m := []) (d := 0) (b := B123_7) (gs := [¬ (v7 = 0)]) (c' := (56, [some (14, 0), some (19, v1), some (11, v2), none, none, none, some (0, v6), some (0, v7), some (0, v8)], [], (h, hm, o))) K123_7 rfl ⟨q2, trivial⟩ ?_
        obtain ⟨r1, q3, e⟩ := zB_s e
        refine zF_blk (m := []) (d := 0) (b := B123_5) (gs := []) (c' := (60, [some (14, 0), some (19, v1), some (11, v2), none, none, none, some (0, v6), some (0, v7), some (0, v8)], [(0, v6), (19, v1), (11, v2)], (h, hm, o))) K123_5 rfl trivial ?_
        refine zF_call (k := 124) (cl := 1) (n := 3) (i := .invokevirtual 88) (args := [(11, v2), (19, v1), (0, v6)]) (rest := []) (g1 := (r1.2, hm, o)) (r1 := some (0, r1.1)) (zCk1_w (by decide +kernel)) rfl rfl rfl (st' := [(0, r1.1)]) rfl (S124 (Nat.le_trans (by decide) hd) v2 v1 v6 h _ q3) ?_
        refine zF_blk (m := []) (d := 0) (b := B123_6) (gs := []) (c' := (44, [some (14, 0), some (19, v1), some (11, v2), none, none, none, some (0, v6), some (0, r1.1), some (0, (wadd v8 1))], [], (r1.2, hm, o))) K123_6 rfl trivial ?_
        exact hk0 v1 v2 v6 r1.1 (wadd v8 1) r1.2 _ e
def F123_0 (v1 : Int) (v2 : Int) (v6 : Int) (s0 : Int) (h : zHC) : Option (Int × zHC) := F123_1 zFu v1 v2 v6 s0 0 h
set_option maxRecDepth 100000 in
theorem T123_0 {spec : zRn zH2} {hm : zHM} {o : Int → Int} {d : Nat} (hd : 5 ≤ d) (v1 : Int) (v2 : Int) (v6 : Int) (s0 : Int) (h : zHC) (v : (Int × zHC)) (e : F123_0 v1 v2 v6 s0 h = some v) : zFin 0 (fun _ => 0) (zRu2 spec d) 123 (some (0, v.1)) (v.2, hm, o) (39, [some (14, 0), some (19, v1), some (11, v2), none, none, none, some (0, v6), none, none], [(0, s0)], (h, hm, o)) := by
  unfold F123_0 at e
  refine zF_blk (m := []) (d := 0) (b := B123_4) (gs := []) (c' := (44, [some (14, 0), some (19, v1), some (11, v2), none, none, none, some (0, v6), some (0, s0), some (0, 0)], [], (h, hm, o))) K123_4 rfl trivial ?_
  exact T123_1 hd zFu v1 v2 v6 s0 0 h _ e
/-- EchoVale$Pieces.isWay(LEchoVale$Valley;LEchoVale$Course;III)Z -/
def F123 (v1 : Int) (v2 : Int) (v3 : Int) (v4 : Int) (v5 : Int) (h : zHC) : Option (Int × zHC) := (F79 v2 v1 0 v4 1 v5 (hset (hset (hset h 64 v2 0 v3) 65 v2 0 0) 66 v2 0 0)).bind fun r1 => if r1.1 = (-1) then F123_0 v1 v2 r1.1 0 r1.2 else F123_0 v1 v2 r1.1 1 r1.2
set_option maxRecDepth 100000 in
theorem S123 {spec : zRn zH2} {hm : zHM} {o : Int → Int} {d : Nat} (hd : 6 ≤ d) (v1 : Int) (v2 : Int) (v3 : Int) (v4 : Int) (v5 : Int) (h : zHC) (v : (Int × zHC)) (e : F123 v1 v2 v3 v4 v5 h = some v) : zRu2 spec d 123 [(14, 0), (19, v1), (11, v2), (0, v3), (0, v4), (0, v5)] (h, hm, o) (some (0, v.1)) (v.2, hm, o) := by
  refine zF_in (D := 5) (mx := 9) (L := [some (14, 0), some (19, v1), some (11, v2), some (0, v3), some (0, v4), some (0, v5), none, none, none]) (by decide +kernel) rfl rfl hd (fun d hd => ?_)
  unfold F123 at e
  obtain ⟨r1, q1, e⟩ := zB_s e
  refine zF_blk (m := []) (d := 0) (b := B123_0) (gs := []) (c' := (23, [some (14, 0), some (19, v1), some (11, v2), some (0, v3), some (0, v4), some (0, v5), none, none, none], [(0, v5), (0, 1), (0, v4), (0, 0), (19, v1), (11, v2)], ((hset (hset (hset h 64 v2 0 v3) 65 v2 0 0) 66 v2 0 0), hm, o))) K123_0 rfl trivial ?_
  refine zF_call (k := 79) (cl := 1) (n := 6) (i := .invokevirtual 84) (args := [(11, v2), (19, v1), (0, 0), (0, v4), (0, 1), (0, v5)]) (rest := []) (g1 := (r1.2, hm, o)) (r1 := some (0, r1.1)) (zCk1_w (by decide +kernel)) rfl rfl rfl (st' := [(0, r1.1)]) rfl (S79 (Nat.le_trans (by decide) hd) v2 v1 0 v4 1 v5 (hset (hset (hset h 64 v2 0 v3) 65 v2 0 0) 66 v2 0 0) _ q1) ?_
  rcases zI_s e with ⟨q2, e⟩ | ⟨q2, e⟩
  · refine zF_blk (m := []) (d := 1) (b := B123_3) (gs := [r1.1 = (-1)]) (c' := (38, [some (14, 0), some (19, v1), some (11, v2), some (0, v3), some (0, v4), some (0, v5), some (0, r1.1), none, none], [], (r1.2, hm, o))) K123_3 rfl ⟨q2, trivial⟩ ?_
    refine zF_blk (m := []) (d := 0) (b := B123_1) (gs := []) (c' := (39, [some (14, 0), some (19, v1), some (11, v2), some (0, v3), some (0, v4), some (0, v5), some (0, r1.1), none, none], [(0, 0)], (r1.2, hm, o))) K123_1 rfl trivial ?_
    refine zF_blk (m := [true, true, true, false, false, false, true, false, false]) (d := 0) (b := []) (gs := []) (c' := (39, [some (14, 0), some (19, v1), some (11, v2), none, none, none, some (0, r1.1), none, none], [(0, 0)], (r1.2, hm, o))) rfl rfl trivial ?_
    exact T123_0 hd v1 v2 r1.1 0 r1.2 _ e
  · refine zF_blk (m := []) (d := 0) (b := B123_3) (gs := [¬ (r1.1 = (-1))]) (c' := (34, [some (14, 0), some (19, v1), some (11, v2), some (0, v3), some (0, v4), some (0, v5), some (0, r1.1), none, none], [], (r1.2, hm, o))) K123_3 rfl ⟨q2, trivial⟩ ?_
    refine zF_blk (m := []) (d := 0) (b := B123_2) (gs := []) (c' := (39, [some (14, 0), some (19, v1), some (11, v2), some (0, v3), some (0, v4), some (0, v5), some (0, r1.1), none, none], [(0, 1)], (r1.2, hm, o))) K123_2 rfl trivial ?_
    refine zF_blk (m := [true, true, true, false, false, false, true, false, false]) (d := 0) (b := []) (gs := []) (c' := (39, [some (14, 0), some (19, v1), some (11, v2), none, none, none, some (0, r1.1), none, none], [(0, 1)], (r1.2, hm, o))) rfl rfl trivial ?_
    exact T123_0 hd v1 v2 r1.1 1 r1.2 _ e
noncomputable def B127_0 : List zRow := [(9, .aload_n 0, 1, (0, 0, 0)), (10, .getfield 9, 3, (4, 1, 5243082)), (13, .aload_n 0, 1, (0, 0, 0)), (14, .getfield 45, 3, (4, 0, 0)), (17, .iload_n 1, 1, (0, 0, 0)), (18, .iastore, 1, (0, 0, 0))]
theorem K127_0 : zRk 127 B127_0 = true := zRw_ok (by decide +kernel)
noncomputable def B127_1 : List zRow := [(0, .aload_n 0, 1, (0, 0, 0)), (1, .getfield 45, 3, (4, 0, 0)), (4, .bipush 50, 2, (0, 0, 0)), (6, .if_icmp .ge 13, 3, (0, 0, 0))]
theorem K127_1 : zRk 127 B127_1 = true := zRw_ok (by decide +kernel)
noncomputable def B127_2 : List zRow := [(19, .aload_n 0, 1, (0, 0, 0)), (20, .dup, 1, (0, 0, 0)), (21, .getfield 45, 3, (4, 0, 0)), (24, .iconst 1, 1, (0, 0, 0)), (25, .iadd, 1, (0, 0, 0)), (26, .putfield 45, 3, (4, 0, 0))]
theorem K127_2 : zRk 127 B127_2 = true := zRw_ok (by decide +kernel)
def F127_0 (h : zHC) : Option zHC := some (hset h 256 0 0 (wadd (h 256 0 0) 1))
set_option maxRecDepth 100000 in
theorem T127_0 {spec : zRn zH2} {hm : zHM} {o : Int → Int} {d : Nat} (hd : 0 ≤ d) (h : zHC) (v : zHC) (e : F127_0 h = some v) : zFin 0 (fun _ => 0) (zRu2 spec d) 127 none (v, hm, o) (19, [some (14, 0), none], [], (h, hm, o)) := by
  unfold F127_0 at e
  refine zF_blk (m := []) (d := 0) (b := B127_2) (gs := []) (c' := (29, [some (14, 0), none], [], ((hset h 256 0 0 (wadd (h 256 0 0) 1)), hm, o))) K127_2 rfl trivial ?_
  obtain rfl := Option.some.inj e
  exact zF_rv (zRe1_w (by decide +kernel))
/-- EchoVale$Pieces.addWay(I)V -/
def F127 (v1 : Int) (h : zHC) : Option zHC := if 50 ≤ (h 256 0 0) then F127_0 h else zG (0 ≤ (h 256 0 0) ∧ (h 256 0 0) < 50) (F127_0 (hset h 257 0 (h 256 0 0) v1))
set_option maxRecDepth 100000 in
theorem S127 {spec : zRn zH2} {hm : zHM} {o : Int → Int} {d : Nat} (hd : 1 ≤ d) (v1 : Int) (h : zHC) (v : zHC) (e : F127 v1 h = some v) : zRu2 spec d 127 [(14, 0), (0, v1)] (h, hm, o) none (v, hm, o) := by
  refine zF_in (D := 0) (mx := 2) (L := [some (14, 0), some (0, v1)]) (by decide +kernel) rfl rfl hd (fun d hd => ?_)
  unfold F127 at e
  rcases zI_s e with ⟨q1, e⟩ | ⟨q1, e⟩
  · refine zF_blk (m := []) (d := 1) (b := B127_1) (gs := [50 ≤ (h 256 0 0)]) (c' := (19, [some (14, 0), some (0, v1)], [], (h, hm, o))) K127_1 rfl ⟨q1, trivial⟩ ?_
    refine zF_blk (m := [true, false]) (d := 0) (b := []) (gs := []) (c' := (19, [some (14, 0), none], [], (h, hm, o))) rfl rfl trivial ?_
    exact T127_0 hd h _ e
  · refine zF_blk (m := []) (d := 0) (b := B127_1) (gs := [¬ (50 ≤ (h 256 0 0))]) (c' := (9, [some (14, 0), some (0, v1)], [], (h, hm, o))) K127_1 rfl ⟨q1, trivial⟩ ?_
    obtain ⟨q2, e⟩ := zG_s e
    refine zF_blk (m := []) (d := 0) (b := B127_0) (gs := [0 ≤ (h 256 0 0) ∧ (h 256 0 0) < 50]) (c' := (19, [some (14, 0), some (0, v1)], [], ((hset h 257 0 (h 256 0 0) v1), hm, o))) K127_0 rfl ⟨q2, trivial⟩ ?_
    refine zF_blk (m := [true, false]) (d := 0) (b := []) (gs := []) (c' := (19, [some (14, 0), none], [], ((hset h 257 0 (h 256 0 0) v1), hm, o))) rfl rfl trivial ?_
    exact T127_0 hd (hset h 257 0 (h 256 0 0) v1) _ e
noncomputable def B120_0 : List zRow := [(0, .aload_n 0, 1, (0, 0, 0)), (1, .iconst 0, 1, (0, 0, 0)), (2, .putfield 45, 3, (4, 0, 0)), (5, .iconst 0, 1, (0, 0, 0)), (6, .istore_n 3, 1, (0, 0, 0))]
theorem K120_0 : zRk 120 B120_0 = true := zRw_ok (by decide +kernel)
noncomputable def B120_1 : List zRow := [(106, .aload_n 0, 1, (0, 0, 0)), (107, .getfield 45, 3, (4, 0, 0))]
theorem K120_1 : zRk 120 B120_1 = true := zRw_ok (by decide +kernel)
noncomputable def B120_2 : List zRow := [(14, .aload_n 0, 1, (0, 0, 0)), (15, .aload_n 1, 1, (0, 0, 0)), (16, .iload_n 3, 1, (0, 0, 0))]
theorem K120_2 : zRk 120 B120_2 = true := zRw_ok (by decide +kernel)
noncomputable def B120_3 : List zRow := [(20, .istore 4, 2, (0, 0, 0)), (22, .iconst 0, 1, (0, 0, 0)), (23, .istore 5, 2, (0, 0, 0))]
theorem K120_3 : zRk 120 B120_3 = true := zRw_ok (by decide +kernel)
noncomputable def B120_4 : List zRow := [(7, .iload_n 3, 1, (0, 0, 0)), (8, .sipush 200, 3, (0, 0, 0)), (11, .if_icmp .gt 95, 3, (0, 0, 0))]
theorem K120_4 : zRk 120 B120_4 = true := zRw_ok (by decide +kernel)
noncomputable def B120_5 : List zRow := [(37, .iconst 1, 1, (0, 0, 0)), (38, .istore 6, 2, (0, 0, 0))]
theorem K120_5 : zRk 120 B120_5 = true := zRw_ok (by decide +kernel)
noncomputable def B120_6 : List zRow := [(32, .iload 4, 2, (0, 0, 0)), (34, .ifCond .eq 66, 3, (0, 0, 0))]
theorem K120_6 : zRk 120 B120_6 = true := zRw_ok (by decide +kernel)
noncomputable def B120_7 : List zRow := [(25, .iload 5, 2, (0, 0, 0)), (27, .bipush 100, 2, (0, 0, 0)), (29, .if_icmp .ge 71, 3, (0, 0, 0))]
theorem K120_7 : zRk 120 B120_7 = true := zRw_ok (by decide +kernel)
noncomputable def B120_8 : List zRow := [(47, .aload_n 1, 1, (0, 0, 0)), (48, .iload 5, 2, (0, 0, 0))]
theorem K120_8 : zRk 120 B120_8 = true := zRw_ok (by decide +kernel)
noncomputable def B120_9 : List zRow := [(56, .aload_n 0, 1, (0, 0, 0)), (57, .aload_n 1, 1, (0, 0, 0)), (58, .aload_n 2, 1, (0, 0, 0)), (59, .iload_n 3, 1, (0, 0, 0)), (60, .iload 5, 2, (0, 0, 0)), (62, .iload 6, 2, (0, 0, 0))]
theorem K120_9 : zRk 120 B120_9 = true := zRw_ok (by decide +kernel)
noncomputable def B120_10 : List zRow := [(70, .aload_n 0, 1, (0, 0, 0)), (71, .iload_n 3, 1, (0, 0, 0)), (72, .sipush 1000, 3, (0, 0, 0)), (75, .imul, 1, (0, 0, 0)), (76, .iload 5, 2, (0, 0, 0)), (78, .bipush 10, 2, (0, 0, 0)), (80, .imul, 1, (0, 0, 0)), (81, .iadd, 1, (0, 0, 0)), (82, .iload 6, 2, (0, 0, 0)), (84, .iadd, 1, (0, 0, 0))]
theorem K120_10 : zRk 120 B120_10 = true := zRw_ok (by decide +kernel)
noncomputable def B120_11 : List zRow := [(67, .ifCond .eq 21, 3, (0, 0, 0))]
theorem K120_11 : zRk 120 B120_11 = true := zRw_ok (by decide +kernel)
noncomputable def B120_12 : List zRow := [(53, .ifCond .eq 41, 3, (0, 0, 0))]
theorem K120_12 : zRk 120 B120_12 = true := zRw_ok (by decide +kernel)
noncomputable def B120_13 : List zRow := [(40, .iload 6, 2, (0, 0, 0)), (42, .bipush 9, 2, (0, 0, 0)), (44, .if_icmp .gt 50, 3, (0, 0, 0))]
theorem K120_13 : zRk 120 B120_13 = true := zRw_ok (by decide +kernel)
noncomputable def B120_14 : List zRow := [(88, .iinc 6 1, 3, (0, 0, 0)), (91, .goto (-51), 3, (0, 0, 0))]
theorem K120_14 : zRk 120 B120_14 = true := zRw_ok (by decide +kernel)
noncomputable def B120_15 : List zRow := [(94, .iinc 5 1, 3, (0, 0, 0)), (97, .goto (-72), 3, (0, 0, 0))]
theorem K120_15 : zRk 120 B120_15 = true := zRw_ok (by decide +kernel)
noncomputable def B120_16 : List zRow := [(100, .iinc 3 1, 3, (0, 0, 0)), (103, .goto (-96), 3, (0, 0, 0))]
theorem K120_16 : zRk 120 B120_16 = true := zRw_ok (by decide +kernel)
def F120_2 (k0 : Int → Int → Int → zHC → Option (Int × zHC)) (v1 : Int) (v2 : Int) (v3 : Int) (h : zHC) : Option (Int × zHC) := k0 v1 v2 (wadd v3 1) h
set_option maxRecDepth 100000 in
theorem T120_2 {spec : zRn zH2} {hm : zHM} {o : Int → Int} {d : Nat} (hd : 6 ≤ d) (k0 : Int → Int → Int → zHC → Option (Int × zHC)) (hk0 : ∀ (v1 : Int) (v2 : Int) (v3 : Int) (h : zHC) (v : (Int × zHC)), k0 v1 v2 v3 h = some v → zFin 0 (fun _ => 0) (zRu2 spec d) 120 (some (0, v.1)) (v.2, hm, o) (7, [some (14, 0), some (19, v1), some (11, v2), some (0, v3), none, none, none], [], (h, hm, o))) (v1 : Int) (v2 : Int) (v3 : Int) (h : zHC) (v : (Int × zHC)) (e : F120_2 k0 v1 v2 v3 h = some v) : zFin 0 (fun _ => 0) (zRu2 spec d) 120 (some (0, v.1)) (v.2, hm, o) (100, [some (14, 0), some (19, v1), some (11, v2), some (0, v3), none, none, none], [], (h, hm, o)) := by
  unfold F120_2 at e
  refine zF_blk (m := []) (d := 0) (b := B120_16) (gs := []) (c' := (7, [some (14, 0), some (19, v1), some (11, v2), some (0, (wadd v3 1)), none, none, none], [], (h, hm, o))) K120_16 rfl trivial ?_
  exact hk0 v1 v2 (wadd v3 1) h _ e
def F120_4 (k0 : Int → Int → Int → zHC → Option (Int × zHC)) (k1 : Int → Int → Int → Int → Int → zHC → Option (Int × zHC)) (v1 : Int) (v2 : Int) (v3 : Int) (v4 : Int) (v5 : Int) (h : zHC) : Option (Int × zHC) := k1 v1 v2 v3 v4 (wadd v5 1) h
set_option maxRecDepth 100000 in
theorem T120_4 {spec : zRn zH2} {hm : zHM} {o : Int → Int} {d : Nat} (hd : 6 ≤ d) (k0 : Int → Int → Int → zHC → Option (Int × zHC)) (hk0 : ∀ (v1 : Int) (v2 : Int) (v3 : Int) (h : zHC) (v : (Int × zHC)), k0 v1 v2 v3 h = some v → zFin 0 (fun _ => 0) (zRu2 spec d) 120 (some (0, v.1)) (v.2, hm, o) (7, [some (14, 0), some (19, v1), some (11, v2), some (0, v3), none, none, none], [], (h, hm, o))) (k1 : Int → Int → Int → Int → Int → zHC → Option (Int × zHC)) (hk1 : ∀ (v1 : Int) (v2 : Int) (v3 : Int) (v4 : Int) (v5 : Int) (h : zHC) (v : (Int × zHC)), k1 v1 v2 v3 v4 v5 h = some v → zFin 0 (fun _ => 0) (zRu2 spec d) 120 (some (0, v.1)) (v.2, hm, o) (25, [some (14, 0), some (19, v1), some (11, v2), some (0, v3), some (0, v4), some (0, v5), none], [], (h, hm, o))) (v1 : Int) (v2 : Int) (v3 : Int) (v4 : Int) (v5 : Int) (h : zHC) (v : (Int × zHC)) (e : F120_4 k0 k1 v1 v2 v3 v4 v5 h = some v) : zFin 0 (fun _ => 0) (zRu2 spec d) 120 (some (0, v.1)) (v.2, hm, o) (94, [some (14, 0), some (19, v1), some (11, v2), some (0, v3), some (0, v4), some (0, v5), none], [], (h, hm, o)) := by
  unfold F120_4 at e
  refine zF_blk (m := []) (d := 0) (b := B120_15) (gs := []) (c' := (25, [some (14, 0), some (19, v1), some (11, v2), some (0, v3), some (0, v4), some (0, (wadd v5 1)), none], [], (h, hm, o))) K120_15 rfl trivial ?_
  exact hk1 v1 v2 v3 v4 (wadd v5 1) h _ e
def F120_5 (k0 : Int → Int → Int → zHC → Option (Int × zHC)) (k1 : Int → Int → Int → Int → Int → zHC → Option (Int × zHC)) (k2 : Int → Int → Int → Int → Int → Int → zHC → Option (Int × zHC)) (v1 : Int) (v2 : Int) (v3 : Int) (v4 : Int) (v5 : Int) (v6 : Int) (h : zHC) : Option (Int × zHC) := k2 v1 v2 v3 v4 v5 (wadd v6 1) h
set_option maxRecDepth 100000 in
theorem T120_5 {spec : zRn zH2} {hm : zHM} {o : Int → Int} {d : Nat} (hd : 6 ≤ d) (k0 : Int → Int → Int → zHC → Option (Int × zHC)) (hk0 : ∀ (v1 : Int) (v2 : Int) (v3 : Int) (h : zHC) (v : (Int × zHC)), k0 v1 v2 v3 h = some v → zFin 0 (fun _ => 0) (zRu2 spec d) 120 (some (0, v.1)) (v.2, hm, o) (7, [some (14, 0), some (19, v1), some (11, v2), some (0, v3), none, none, none], [], (h, hm, o))) (k1 : Int → Int → Int → Int → Int → zHC → Option (Int × zHC)) (hk1 : ∀ (v1 : Int) (v2 : Int) (v3 : Int) (v4 : Int) (v5 : Int) (h : zHC) (v : (Int × zHC)), k1 v1 v2 v3 v4 v5 h = some v → zFin 0 (fun _ => 0) (zRu2 spec d) 120 (some (0, v.1)) (v.2, hm, o) (25, [some (14, 0), some (19, v1), some (11, v2), some (0, v3), some (0, v4), some (0, v5), none], [], (h, hm, o))) (k2 : Int → Int → Int → Int → Int → Int → zHC → Option (Int × zHC)) (hk2 : ∀ (v1 : Int) (v2 : Int) (v3 : Int) (v4 : Int) (v5 : Int) (v6 : Int) (h : zHC) (v : (Int × zHC)), k2 v1 v2 v3 v4 v5 v6 h = some v → zFin 0 (fun _ => 0) (zRu2 spec d) 120 (some (0, v.1)) (v.2, hm, o) (40, [some (14, 0), some (19, v1), some (11, v2), some (0, v3), some (0, v4), some (0, v5), some (0, v6)], [], (h, hm, o))) (v1 : Int) (v2 : Int) (v3 : Int) (v4 : Int) (v5 : Int) (v6 : Int) (h : zHC) (v : (Int × zHC)) (e : F120_5 k0 k1 k2 v1 v2 v3 v4 v5 v6 h = some v) : zFin 0 (fun _ => 0) (zRu2 spec d) 120 (some (0, v.1)) (v.2, hm, o) (88, [some (14, 0), some (19, v1), some (11, v2), some (0, v3), some (0, v4), some (0, v5), some (0, v6)], [], (h, hm, o)) := by
  unfold F120_5 at e
  refine zF_blk (m := []) (d := 0) (b := B120_14) (gs := []) (c' := (40, [some (14, 0), some (19, v1), some (11, v2), some (0, v3), some (0, v4), some (0, v5), some (0, (wadd v6 1))], [], (h, hm, o))) K120_14 rfl trivial ?_
  exact hk2 v1 v2 v3 v4 v5 (wadd v6 1) h _ e
def F120_3 (k0 : Int → Int → Int → zHC → Option (Int × zHC)) (k1 : Int → Int → Int → Int → Int → zHC → Option (Int × zHC)) : Nat → Int → Int → Int → Int → Int → Int → zHC → Option (Int × zHC)
  | 0, _, _, _, _, _, _, _ => none
  | n + 1, v1, v2, v3, v4, v5, v6, h => if 9 < v6 then F120_4 k0 k1 v1 v2 v3 v4 v5 h else (F69 v1 v5 h).bind fun r1 => if r1 = 0 then F120_4 k0 k1 v1 v2 v3 v4 v5 h else (F123 v1 v2 v3 v5 v6 h).bind fun r2 => if r2.1 = 0 then F120_5 k0 k1 (F120_3 k0 k1 n) v1 v2 v3 v4 v5 v6 r2.2 else (F127 (wadd (wadd (wmul v3 1000) (wmul v5 10)) v6) r2.2).bind fun r3 => F120_5 k0 k1 (F120_3 k0 k1 n) v1 v2 v3 v4 v5 v6 r3
set_option maxRecDepth 100000 in
theorem T120_3 {spec : zRn zH2} {hm : zHM} {o : Int → Int} {d : Nat} (hd : 6 ≤ d) (k0 : Int → Int → Int → zHC → Option (Int × zHC)) (hk0 : ∀ (v1 : Int) (v2 : Int) (v3 : Int) (h : zHC) (v : (Int × zHC)), k0 v1 v2 v3 h = some v → zFin 0 (fun _ => 0) (zRu2 spec d) 120 (some (0, v.1)) (v.2, hm, o) (7, [some (14, 0), some (19, v1), some (11, v2), some (0, v3), none, none, none], [], (h, hm, o))) (k1 : Int → Int → Int → Int → Int → zHC → Option (Int × zHC)) (hk1 : ∀ (v1 : Int) (v2 : Int) (v3 : Int) (v4 : Int) (v5 : Int) (h : zHC) (v : (Int × zHC)), k1 v1 v2 v3 v4 v5 h = some v → zFin 0 (fun _ => 0) (zRu2 spec d) 120 (some (0, v.1)) (v.2, hm, o) (25, [some (14, 0), some (19, v1), some (11, v2), some (0, v3), some (0, v4), some (0, v5), none], [], (h, hm, o))) : ∀ (n : Nat) (v1 : Int) (v2 : Int) (v3 : Int) (v4 : Int) (v5 : Int) (v6 : Int) (h : zHC) (v : (Int × zHC)), F120_3 k0 k1 n v1 v2 v3 v4 v5 v6 h = some v → zFin 0 (fun _ => 0) (zRu2 spec d) 120 (some (0, v.1)) (v.2, hm, o) (40, [some (14, 0), some (19, v1), some (11, v2), some (0, v3), some (0, v4), some (0, v5), some (0, v6)], [], (h, hm, o)) := by
  intro n
  induction n with
  | zero => intro v1 v2 v3 v4 v5 v6 h v e; unfold F120_3 at e; cases e
  | succ n hk2 =>
    intro v1 v2 v3 v4 v5 v6 h v e
    unfold F120_3 at e
    rcases zI_s e with ⟨q1, e⟩ | ⟨q1, e⟩
    · refine zF_blk (m := []) (d := 1) (b := B120_13) (gs := [9 < v6]) (c' := (94, [some (14, 0), some (19, v1), some (11, v2), some (0, v3), some (0, v4), some (0, v5), some (0, v6)], [], (h, hm, o))) K120_13 rfl ⟨q1, trivial⟩ ?_
      refine zF_blk (m := [true, true, true, true, true, true, false]) (d := 0) (b := []) (gs := []) (c' := (94, [some (14, 0), some (19, v1), some (11, v2), some (0, v3), some (0, v4), some (0, v5), none], [], (h, hm, o))) rfl rfl trivial ?_
      exact T120_4 hd k0 hk0 k1 hk1 v1 v2 v3 v4 v5 h _ e
    · refine zF_blk (m := []) (d := 0) (b := B120_13) (gs := [¬ (9 < v6)]) (c' := (47, [some (14, 0), some (19, v1), some (11, v2), some (0, v3), some (0, v4), some (0, v5), some (0, v6)], [], (h, hm, o))) K120_13 rfl ⟨q1, trivial⟩ ?_
      obtain ⟨r1, q2, e⟩ := zB_s e
      refine zF_blk (m := []) (d := 0) (b := B120_8) (gs := []) (c' := (50, [some (14, 0), some (19, v1), some (11, v2), some (0, v3), some (0, v4), some (0, v5), some (0, v6)], [(0, v5), (19, v1)], (h, hm, o))) K120_8 rfl trivial ?_
      refine zF_call (k := 69) (cl := 9) (n := 2) (i := .invokevirtual 52) (args := [(19, v1), (0, v5)]) (rest := []) (g1 := (h, hm, o)) (r1 := some (0, r1)) (zCk1_w (by decide +kernel)) rfl rfl rfl (st' := [(0, r1)]) rfl (S69 (Nat.le_trans (by decide) hd) v1 v5 h _ q2) ?_
      rcases zI_s e with ⟨q3, e⟩ | ⟨q3, e⟩
      · refine zF_blk (m := []) (d := 1) (b := B120_12) (gs := [r1 = 0]) (c' := (94, [some (14, 0), some (19, v1), some (11, v2), some (0, v3), some (0, v4), some (0, v5), some (0, v6)], [], (h, hm, o))) K120_12 rfl ⟨q3, trivial⟩ ?_
        refine zF_blk (m := [true, true, true, true, true, true, false]) (d := 0) (b := []) (gs := []) (c' := (94, [some (14, 0), some (19, v1), some (11, v2), some (0, v3), some (0, v4), some (0, v5), none], [], (h, hm, o))) rfl rfl trivial ?_
        exact T120_4 hd k0 hk0 k1 hk1 v1 v2 v3 v4 v5 h _ e
      · refine zF_blk (m := []) (d := 0) (b := B120_12) (gs := [¬ (r1 = 0)]) (c' := (56, [some (14, 0), some (19, v1), some (11, v2), some (0, v3), some (0, v4), some (0, v5), some (0, v6)], [], (h, hm, o))) K120_12 rfl ⟨q3, trivial⟩ ?_
        obtain ⟨r2, q4, e⟩ := zB_s e
        refine zF_blk (m := []) (d := 0) (b := B120_9) (gs := []) (c' := (64, [some (14, 0), some (19, v1), some (11, v2), some (0, v3), some (0, v4), some (0, v5), some (0, v6)], [(0, v6), (0, v5), (0, v3), (11, v2), (19, v1), (14, 0)], (h, hm, o))) K120_9 rfl trivial ?_
        refine zF_call (k := 123) (cl := 4) (n := 6) (i := .invokevirtual 55) (args := [(14, 0), (19, v1), (11, v2), (0, v3), (0, v5), (0, v6)]) (rest := []) (g1 := (r2.2, hm, o)) (r1 := some (0, r2.1)) (zCk1_w (by decide +kernel)) rfl rfl rfl (st' := [(0, r2.1)]) rfl (S123 (Nat.le_trans (by decide) hd) v1 v2 v3 v5 v6 h _ q4) ?_
        rcases zI_s e with ⟨q5, e⟩ | ⟨q5, e⟩
        · refine zF_blk (m := []) (d := 1) (b := B120_11) (gs := [r2.1 = 0]) (c' := (88, [some (14, 0), some (19, v1), some (11, v2), some (0, v3), some (0, v4), some (0, v5), some (0, v6)], [], (r2.2, hm, o))) K120_11 rfl ⟨q5, trivial⟩ ?_
          exact T120_5 hd k0 hk0 k1 hk1 (F120_3 k0 k1 n) hk2 v1 v2 v3 v4 v5 v6 r2.2 _ e
        · refine zF_blk (m := []) (d := 0) (b := B120_11) (gs := [¬ (r2.1 = 0)]) (c' := (70, [some (14, 0), some (19, v1), some (11, v2), some (0, v3), some (0, v4), some (0, v5), some (0, v6)], [], (r2.2, hm, o))) K120_11 rfl ⟨q5, trivial⟩ ?_
          obtain ⟨r3, q6, e⟩ := zB_s e
          refine zF_blk (m := []) (d := 0) (b := B120_10) (gs := []) (c' := (85, [some (14, 0), some (19, v1), some (11, v2), some (0, v3), some (0, v4), some (0, v5), some (0, v6)], [(0, (wadd (wadd (wmul v3 1000) (wmul v5 10)) v6)), (14, 0)], (r2.2, hm, o))) K120_10 rfl trivial ?_
          refine zF_call (k := 127) (cl := 4) (n := 2) (i := .invokevirtual 59) (args := [(14, 0), (0, (wadd (wadd (wmul v3 1000) (wmul v5 10)) v6))]) (rest := []) (g1 := (r3, hm, o)) (r1 := none) (zCk1_w (by decide +kernel)) rfl rfl rfl (st' := []) rfl (S127 (Nat.le_trans (by decide) hd) (wadd (wadd (wmul v3 1000) (wmul v5 10)) v6) r2.2 _ q6) ?_
          exact T120_5 hd k0 hk0 k1 hk1 (F120_3 k0 k1 n) hk2 v1 v2 v3 v4 v5 v6 r3 _ e
def F120_1 (k0 : Int → Int → Int → zHC → Option (Int × zHC)) : Nat → Int → Int → Int → Int → Int → zHC → Option (Int × zHC)
  | 0, _, _, _, _, _, _ => none
  | n + 1, v1, v2, v3, v4, v5, h => if 100 ≤ v5 then F120_2 k0 v1 v2 v3 h else if v4 = 0 then F120_2 k0 v1 v2 v3 h else F120_3 k0 (F120_1 k0 n) zFu v1 v2 v3 v4 v5 1 h
set_option maxRecDepth 100000 in
theorem T120_1 {spec : zRn zH2} {hm : zHM} {o : Int → Int} {d : Nat} (hd : 6 ≤ d) (k0 : Int → Int → Int → zHC → Option (Int × zHC)) (hk0 : ∀ (v1 : Int) (v2 : Int) (v3 : Int) (h : zHC) (v : (Int × zHC)), k0 v1 v2 v3 h = some v → zFin 0 (fun _ => 0) (zRu2 spec d) 120 (some (0, v.1)) (v.2, hm, o) (7, [some (14, 0), some (19, v1), some (11, v2), some (0, v3), none, none, none], [], (h, hm, o))) : ∀ (n : Nat) (v1 : Int) (v2 : Int) (v3 : Int) (v4 : Int) (v5 : Int) (h : zHC) (v : (Int × zHC)), F120_1 k0 n v1 v2 v3 v4 v5 h = some v → zFin 0 (fun _ => 0) (zRu2 spec d) 120 (some (0, v.1)) (v.2, hm, o) (25, [some (14, 0), some (19, v1), some (11, v2), some (0, v3), some (0, v4), some (0, v5), none], [], (h, hm, o)) := by
  intro n
  induction n with
  | zero => intro v1 v2 v3 v4 v5 h v e; unfold F120_1 at e; cases e
  | succ n hk1 =>
    intro v1 v2 v3 v4 v5 h v e
    unfold F120_1 at e
    rcases zI_s e with ⟨q1, e⟩ | ⟨q1, e⟩
    · refine zF_blk (m := []) (d := 1) (b := B120_7) (gs := [100 ≤ v5]) (c' := (100, [some (14, 0), some (19, v1), some (11, v2), some (0, v3), some (0, v4), some (0, v5), none], [], (h, hm, o))) K120_7 rfl ⟨q1, trivial⟩ ?_
      refine zF_blk (m := [true, true, true, true, false, false, false]) (d := 0) (b := []) (gs := []) (c' := (100, [some (14, 0), some (19, v1), some (11, v2), some (0, v3), none, none, none], [], (h, hm, o))) rfl rfl trivial ?_
      exact T120_2 hd k0 hk0 v1 v2 v3 h _ e
    · refine zF_blk (m := []) (d := 0) (b := B120_7) (gs := [¬ (100 ≤ v5)]) (c' := (32, [some (14, 0), some (19, v1), some (11, v2), some (0, v3), some (0, v4), some (0, v5), none], [], (h, hm, o))) K120_7 rfl ⟨q1, trivial⟩ ?_
      rcases zI_s e with ⟨q2, e⟩ | ⟨q2, e⟩
      · refine zF_blk (m := []) (d := 1) (b := B120_6) (gs := [v4 = 0]) (c' := (100, [some (14, 0), some (19, v1), some (11, v2), some (0, v3), some (0, v4), some (0, v5), none], [], (h, hm, o))) K120_6 rfl ⟨q2, trivial⟩ ?_
        refine zF_blk (m := [true, true, true, true, false, false, false]) (d := 0) (b := []) (gs := []) (c' := (100, [some (14, 0), some (19, v1), some (11, v2), some (0, v3), none, none, none], [], (h, hm, o))) rfl rfl trivial ?_
        exact T120_2 hd k0 hk0 v1 v2 v3 h _ e
      · refine zF_blk (m := []) (d := 0) (b := B120_6) (gs := [¬ (v4 = 0)]) (c' := (37, [some (14, 0), some (19, v1), some (11, v2), some (0, v3), some (0, v4), some (0, v5), none], [], (h, hm, o))) K120_6 rfl ⟨q2, trivial⟩ ?_
        refine zF_blk (m := []) (d := 0) (b := B120_5) (gs := []) (c' := (40, [some (14, 0), some (19, v1), some (11, v2), some (0, v3), some (0, v4), some (0, v5), some (0, 1)], [], (h, hm, o))) K120_5 rfl trivial ?_
        exact T120_3 hd k0 hk0 (F120_1 k0 n) hk1 zFu v1 v2 v3 v4 v5 1 h _ e
def F120_0 : Nat → Int → Int → Int → zHC → Option (Int × zHC)
  | 0, _, _, _, _ => none
  | n + 1, v1, v2, v3, h => if 200 < v3 then some ((h 256 0 0), h) else (F121 v1 v3 h).bind fun r1 => F120_1 (F120_0 n) zFu v1 v2 v3 r1 0 h
set_option maxRecDepth 100000 in
theorem T120_0 {spec : zRn zH2} {hm : zHM} {o : Int → Int} {d : Nat} (hd : 6 ≤ d) : ∀ (n : Nat) (v1 : Int) (v2 : Int) (v3 : Int) (h : zHC) (v : (Int × zHC)), F120_0 n v1 v2 v3 h = some v → zFin 0 (fun _ => 0) (zRu2 spec d) 120 (some (0, v.1)) (v.2, hm, o) (7, [some (14, 0), some (19, v1), some (11, v2), some (0, v3), none, none, none], [], (h, hm, o)) := by
  intro n
  induction n with
  | zero => intro v1 v2 v3 h v e; unfold F120_0 at e; cases e
  | succ n hk0 =>
    intro v1 v2 v3 h v e
    unfold F120_0 at e
    rcases zI_s e with ⟨q1, e⟩ | ⟨q1, e⟩
    · refine zF_blk (m := []) (d := 1) (b := B120_4) (gs := [200 < v3]) (c' := (106, [some (14, 0), some (19, v1), some (11, v2), some (0, v3), none, none, none], [], (h, hm, o))) K120_4 rfl ⟨q1, trivial⟩ ?_
      refine zF_blk (m := []) (d := 0) (b := B120_1) (gs := []) (c' := (110, [some (14, 0), some (19, v1), some (11, v2), some (0, v3), none, none, none], [(0, (h 256 0 0))], (h, hm, o))) K120_1 rfl trivial ?_
      exact zF_riC (zRe1_w (by decide +kernel)) e
    · refine zF_blk (m := []) (d := 0) (b := B120_4) (gs := [¬ (200 < v3)]) (c' := (14, [some (14, 0), some (19, v1), some (11, v2), some (0, v3), none, none, none], [], (h, hm, o))) K120_4 rfl ⟨q1, trivial⟩ ?_
      obtain ⟨r1, q2, e⟩ := zB_s e
      refine zF_blk (m := []) (d := 0) (b := B120_2) (gs := []) (c' := (17, [some (14, 0), some (19, v1), some (11, v2), some (0, v3), none, none, none], [(0, v3), (19, v1), (14, 0)], (h, hm, o))) K120_2 rfl trivial ?_
      refine zF_call (k := 121) (cl := 4) (n := 3) (i := .invokevirtual 48) (args := [(14, 0), (19, v1), (0, v3)]) (rest := []) (g1 := (h, hm, o)) (r1 := some (0, r1)) (zCk1_w (by decide +kernel)) rfl rfl rfl (st' := [(0, r1)]) rfl (S121 (Nat.le_trans (by decide) hd) v1 v3 h _ q2) ?_
      refine zF_blk (m := []) (d := 0) (b := B120_3) (gs := []) (c' := (25, [some (14, 0), some (19, v1), some (11, v2), some (0, v3), some (0, r1), some (0, 0), none], [], (h, hm, o))) K120_3 rfl trivial ?_
      exact T120_1 hd (F120_0 n) hk0 zFu v1 v2 v3 r1 0 h _ e
/-- EchoVale$Pieces.find(LEchoVale$Valley;LEchoVale$Course;)I -/
def F120 (v1 : Int) (v2 : Int) (h : zHC) : Option (Int × zHC) := F120_0 zFu v1 v2 0 (hset h 256 0 0 0)
set_option maxRecDepth 100000 in
theorem S120 {spec : zRn zH2} {hm : zHM} {o : Int → Int} {d : Nat} (hd : 7 ≤ d) (v1 : Int) (v2 : Int) (h : zHC) (v : (Int × zHC)) (e : F120 v1 v2 h = some v) : zRu2 spec d 120 [(14, 0), (19, v1), (11, v2)] (h, hm, o) (some (0, v.1)) (v.2, hm, o) := by
  refine zF_in (D := 6) (mx := 7) (L := [some (14, 0), some (19, v1), some (11, v2), none, none, none, none]) (by decide +kernel) rfl rfl hd (fun d hd => ?_)
  unfold F120 at e
  refine zF_blk (m := []) (d := 0) (b := B120_0) (gs := []) (c' := (7, [some (14, 0), some (19, v1), some (11, v2), some (0, 0), none, none, none], [], ((hset h 256 0 0 0), hm, o))) K120_0 rfl trivial ?_
  exact T120_0 hd zFu v1 v2 0 (hset h 256 0 0 0) _ e
noncomputable def B118_0 : List zRow := [(0, .aload_n 0, 1, (0, 0, 0)), (1, .getfield 80, 3, (11, 10, 19)), (4, .aload_n 0, 1, (0, 0, 0)), (5, .getfield 12, 3, (11, 0, 23)), (8, .aload_n 0, 1, (0, 0, 0)), (9, .getfield 19, 3, (11, 1, 39))]
theorem K118_0 : zRk 118 B118_0 = true := zRw_ok (by decide +kernel)
noncomputable def B118_1 : List zRow := [(46, .iconst (-1), 1, (0, 0, 0))]
theorem K118_1 : zRk 118 B118_1 = true := zRw_ok (by decide +kernel)
noncomputable def B118_2 : List zRow := [(28, .aload_n 0, 1, (0, 0, 0)), (29, .getfield 80, 3, (11, 10, 19)), (32, .aload_n 0, 1, (0, 0, 0)), (33, .getfield 19, 3, (11, 1, 39)), (36, .aload_n 0, 1, (0, 0, 0)), (37, .getfield 60, 3, (11, 7, 135))]
theorem K118_2 : zRk 118 B118_2 = true := zRw_ok (by decide +kernel)
noncomputable def B118_3 : List zRow := [(43, .goto 4, 3, (0, 0, 0))]
theorem K118_3 : zRk 118 B118_3 = true := zRw_ok (by decide +kernel)
noncomputable def B118_4 : List zRow := [(15, .istore_n 1, 1, (0, 0, 0)), (16, .aload_n 0, 1, (0, 0, 0)), (17, .getfield 12, 3, (11, 0, 23)), (20, .iconst 0, 1, (0, 0, 0)), (21, .putfield 105, 3, (5, 1, 0)), (24, .iload_n 1, 1, (0, 0, 0)), (25, .ifCond .eq 21, 3, (0, 0, 0))]
theorem K118_4 : zRk 118 B118_4 = true := zRw_ok (by decide +kernel)
/-- EchoVale.pieces()I -/
def F118 (h : zHC) : Option (Int × zHC) := (F119 0 h).bind fun r1 => if r1.1 = 0 then some ((-1), (hset r1.2 321 0 0 0)) else (F120 0 1 (hset r1.2 321 0 0 0)).bind fun r2 => some (r2.1, r2.2)
set_option maxRecDepth 100000 in
theorem S118 {spec : zRn zH2} {hm : zHM} {o : Int → Int} {d : Nat} (hd : 8 ≤ d) (h : zHC) (v : (Int × zHC)) (e : F118 h = some v) : zRu2 spec d 118 [(21, 0)] (h, hm, o) (some (0, v.1)) (v.2, hm, o) := by
  refine zF_in (D := 7) (mx := 2) (L := [some (21, 0), none]) (by decide +kernel) rfl rfl hd (fun d hd => ?_)
  unfold F118 at e
  obtain ⟨r1, q1, e⟩ := zB_s e
  refine zF_blk (m := []) (d := 0) (b := B118_0) (gs := []) (c' := (12, [some (21, 0), none], [(19, 0), (15, 0), (14, 0)], (h, hm, o))) K118_0 rfl trivial ?_
  refine zF_call (k := 119) (cl := 4) (n := 3) (i := .invokevirtual 291) (args := [(14, 0), (15, 0), (19, 0)]) (rest := []) (g1 := (r1.2, hm, o)) (r1 := some (0, r1.1)) (zCk1_w (by decide +kernel)) rfl rfl rfl (st' := [(0, r1.1)]) rfl (S119 (Nat.le_trans (by decide) hd) 0 h _ q1) ?_
  rcases zI_s e with ⟨q2, e⟩ | ⟨q2, e⟩
  · refine zF_blk (m := []) (d := 1) (b := B118_4) (gs := [r1.1 = 0]) (c' := (46, [some (21, 0), some (0, r1.1)], [], ((hset r1.2 321 0 0 0), hm, o))) K118_4 rfl ⟨q2, trivial⟩ ?_
    refine zF_blk (m := []) (d := 0) (b := B118_1) (gs := []) (c' := (47, [some (21, 0), some (0, r1.1)], [(0, (-1))], ((hset r1.2 321 0 0 0), hm, o))) K118_1 rfl trivial ?_
    exact zF_riC (zRe1_w (by decide +kernel)) e
  · refine zF_blk (m := []) (d := 0) (b := B118_4) (gs := [¬ (r1.1 = 0)]) (c' := (28, [some (21, 0), some (0, r1.1)], [], ((hset r1.2 321 0 0 0), hm, o))) K118_4 rfl ⟨q2, trivial⟩ ?_
    obtain ⟨r2, q3, e⟩ := zB_s e
    refine zF_blk (m := []) (d := 0) (b := B118_2) (gs := []) (c' := (40, [some (21, 0), some (0, r1.1)], [(11, 1), (19, 0), (14, 0)], ((hset r1.2 321 0 0 0), hm, o))) K118_2 rfl trivial ?_
    refine zF_call (k := 120) (cl := 4) (n := 3) (i := .invokevirtual 295) (args := [(14, 0), (19, 0), (11, 1)]) (rest := []) (g1 := (r2.2, hm, o)) (r1 := some (0, r2.1)) (zCk1_w (by decide +kernel)) rfl rfl rfl (st' := [(0, r2.1)]) rfl (S120 (Nat.le_trans (by decide) hd) 0 1 (hset r1.2 321 0 0 0) _ q3) ?_
    refine zF_blk (m := []) (d := 0) (b := B118_3) (gs := []) (c' := (47, [some (21, 0), some (0, r1.1)], [(0, r2.1)], (r2.2, hm, o))) K118_3 rfl trivial ?_
    exact zF_riC (zRe1_w (by decide +kernel)) e
noncomputable def B263_0 : List zRow := [(0, .aload_n 0, 1, (0, 0, 0))]
theorem K263_0 : zRk 263 B263_0 = true := zRw_ok (by decide +kernel)
noncomputable def B263_1 : List zRow := [(23, .iconst 0, 1, (0, 0, 0))]
theorem K263_1 : zRk 263 B263_1 = true := zRw_ok (by decide +kernel)
noncomputable def B263_2 : List zRow := [(11, .iload_n 1, 1, (0, 0, 0)), (12, .iconst 3, 1, (0, 0, 0)), (13, .idiv, 1, (0, 0, 0)), (14, .iconst 1, 1, (0, 0, 0)), (15, .bipush 6, 2, (0, 0, 0))]
theorem K263_2 : zRk 263 B263_2 = true := zRw_ok (by decide +kernel)
noncomputable def B263_3 : List zRow := [(25, .iconst 0, 1, (0, 0, 0)), (26, .istore_n 2, 1, (0, 0, 0))]
theorem K263_3 : zRk 263 B263_3 = true := zRw_ok (by decide +kernel)
noncomputable def B263_4 : List zRow := [(20, .ifCond .ne 5, 3, (0, 0, 0))]
theorem K263_4 : zRk 263 B263_4 = true := zRw_ok (by decide +kernel)
noncomputable def B263_5 : List zRow := [(4, .istore_n 1, 1, (0, 0, 0)), (5, .iload_n 1, 1, (0, 0, 0)), (6, .iconst 3, 1, (0, 0, 0)), (7, .irem, 1, (0, 0, 0)), (8, .ifCond .ne 15, 3, (0, 0, 0))]
theorem K263_5 : zRk 263 B263_5 = true := zRw_ok (by decide +kernel)
noncomputable def B263_6 : List zRow := [(72, .aload_n 0, 1, (0, 0, 0)), (73, .iload_n 1, 1, (0, 0, 0)), (74, .iconst 3, 1, (0, 0, 0)), (75, .idiv, 1, (0, 0, 0)), (76, .putfield 345, 3, (12, 34, 0)), (79, .iconst 0, 1, (0, 0, 0)), (80, .istore_n 2, 1, (0, 0, 0))]
theorem K263_6 : zRk 263 B263_6 = true := zRw_ok (by decide +kernel)
noncomputable def B263_7 : List zRow := [(64, .iconst 0, 1, (0, 0, 0))]
theorem K263_7 : zRk 263 B263_7 = true := zRw_ok (by decide +kernel)
noncomputable def B263_8 : List zRow := [(47, .aload_n 0, 1, (0, 0, 0)), (48, .getfield 7, 3, (12, 1, 5246642)), (51, .iload_n 2, 1, (0, 0, 0)), (52, .iconst 2, 1, (0, 0, 0)), (53, .iadd, 1, (0, 0, 0)), (54, .iaload, 1, (0, 0, 0)), (55, .iconst 1, 1, (0, 0, 0)), (56, .bipush 9, 2, (0, 0, 0))]
theorem K263_8 : zRk 263 B263_8 = true := zRw_ok (by decide +kernel)
noncomputable def B263_9 : List zRow := [(66, .iinc 2 3, 3, (0, 0, 0)), (69, .goto (-42), 3, (0, 0, 0))]
theorem K263_9 : zRk 263 B263_9 = true := zRw_ok (by decide +kernel)
noncomputable def B263_10 : List zRow := [(61, .ifCond .ne 5, 3, (0, 0, 0))]
theorem K263_10 : zRk 263 B263_10 = true := zRw_ok (by decide +kernel)
noncomputable def B263_11 : List zRow := [(32, .aload_n 0, 1, (0, 0, 0)), (33, .getfield 7, 3, (12, 1, 5246642)), (36, .iload_n 2, 1, (0, 0, 0)), (37, .iaload, 1, (0, 0, 0)), (38, .aload_n 0, 1, (0, 0, 0)), (39, .getfield 13, 3, (12, 14, 5251442)), (42, .iconst 2, 1, (0, 0, 0)), (43, .iaload, 1, (0, 0, 0)), (44, .if_icmp .ge 20, 3, (0, 0, 0))]
theorem K263_11 : zRk 263 B263_11 = true := zRw_ok (by decide +kernel)
noncomputable def B263_12 : List zRow := [(27, .iload_n 2, 1, (0, 0, 0)), (28, .iload_n 1, 1, (0, 0, 0)), (29, .if_icmp .ge 43, 3, (0, 0, 0))]
theorem K263_12 : zRk 263 B263_12 = true := zRw_ok (by decide +kernel)
noncomputable def B263_13 : List zRow := [(141, .iconst 1, 1, (0, 0, 0))]
theorem K263_13 : zRk 263 B263_13 = true := zRw_ok (by decide +kernel)
noncomputable def B263_14 : List zRow := [(89, .aload_n 0, 1, (0, 0, 0)), (90, .getfield 45, 3, (12, 26, 5242906)), (93, .iload_n 2, 1, (0, 0, 0)), (94, .aload_n 0, 1, (0, 0, 0)), (95, .getfield 7, 3, (12, 1, 5246642)), (98, .iconst 3, 1, (0, 0, 0)), (99, .iload_n 2, 1, (0, 0, 0))]
theorem K263_14 : zRk 263 B263_14 = true := zRw_ok (by decide +kernel)
noncomputable def B263_15 : List zRow := [(100, .imul, 1, (0, 0, 0)), (101, .iaload, 1, (0, 0, 0)), (102, .iastore, 1, (0, 0, 0)), (103, .aload_n 0, 1, (0, 0, 0)), (104, .getfield 48, 3, (12, 27, 5242906)), (107, .iload_n 2, 1, (0, 0, 0)), (108, .aload_n 0, 1, (0, 0, 0)), (109, .getfield 7, 3, (12, 1, 5246642)), (112, .iconst 3, 1, (0, 0, 0)), (113, .iload_n 2, 1, (0, 0, 0))]
theorem K263_15 : zRk 263 B263_15 = true := zRw_ok (by decide +kernel)
noncomputable def B263_16 : List zRow := [(114, .imul, 1, (0, 0, 0)), (115, .iconst 1, 1, (0, 0, 0)), (116, .iadd, 1, (0, 0, 0)), (117, .iaload, 1, (0, 0, 0)), (118, .iastore, 1, (0, 0, 0)), (119, .aload_n 0, 1, (0, 0, 0)), (120, .getfield 51, 3, (12, 28, 5242906)), (123, .iload_n 2, 1, (0, 0, 0)), (124, .aload_n 0, 1, (0, 0, 0)), (125, .getfield 7, 3, (12, 1, 5246642)), (128, .iconst 3, 1, (0, 0, 0)), (129, .iload_n 2, 1, (0, 0, 0))]
theorem K263_16 : zRk 263 B263_16 = true := zRw_ok (by decide +kernel)
noncomputable def B263_17 : List zRow := [(130, .imul, 1, (0, 0, 0)), (131, .iconst 2, 1, (0, 0, 0)), (132, .iadd, 1, (0, 0, 0)), (133, .iaload, 1, (0, 0, 0)), (134, .iastore, 1, (0, 0, 0)), (135, .iinc 2 1, 3, (0, 0, 0)), (138, .goto (-57), 3, (0, 0, 0))]
theorem K263_17 : zRk 263 B263_17 = true := zRw_ok (by decide +kernel)
noncomputable def B263_18 : List zRow := [(81, .iload_n 2, 1, (0, 0, 0)), (82, .aload_n 0, 1, (0, 0, 0)), (83, .getfield 345, 3, (12, 34, 0)), (86, .if_icmp .ge 55, 3, (0, 0, 0))]
theorem K263_18 : zRk 263 B263_18 = true := zRw_ok (by decide +kernel)
def F263_1 : Nat → Int → zHM → Option (Int × zHM)
  | 0, _, _ => none
  | n + 1, v2, h => if (h 34 0) ≤ v2 then some (1, h) else zG (0 ≤ (wmul 3 v2) ∧ (wmul 3 v2) < 940) (zG (0 ≤ v2 ∧ v2 < 6) (zG (0 ≤ (wadd (wmul 3 v2) 1) ∧ (wadd (wmul 3 v2) 1) < 940) (zG (0 ≤ v2 ∧ v2 < 6) (zG (0 ≤ (wadd (wmul 3 v2) 2) ∧ (wadd (wmul 3 v2) 2) < 940) (zG (0 ≤ v2 ∧ v2 < 6) ((F263_1 n) (wadd v2 1) (mset (mset (mset h 26 v2 (h 1 (wmul 3 v2))) 27 v2 (h 1 (wadd (wmul 3 v2) 1))) 28 v2 (h 1 (wadd (wmul 3 v2) 2)))))))))
set_option maxRecDepth 100000 in
theorem T263_1 {spec : zRn zH2} {hc : zHC} {o : Int → Int} {d : Nat} (hd : 1 ≤ d) : ∀ (n : Nat) (v2 : Int) (h : zHM) (v : (Int × zHM)), F263_1 n v2 h = some v → zFin 0 (fun _ => 0) (zRu2 spec d) 263 (some (0, v.1)) (hc, v.2, o) (81, [some (22, 0), none, some (0, v2)], [], (hc, h, o)) := by
  intro n
  induction n with
  | zero => intro v2 h v e; unfold F263_1 at e; cases e
  | succ n hk0 =>
    intro v2 h v e
    unfold F263_1 at e
    rcases zI_s e with ⟨q1, e⟩ | ⟨q1, e⟩
    · refine zF_blk (m := []) (d := 1) (b := B263_18) (gs := [(h 34 0) ≤ v2]) (c' := (141, [some (22, 0), none, some (0, v2)], [], (hc, h, o))) K263_18 rfl ⟨q1, trivial⟩ ?_
      refine zF_blk (m := []) (d := 0) (b := B263_13) (gs := []) (c' := (142, [some (22, 0), none, some (0, v2)], [(0, 1)], (hc, h, o))) K263_13 rfl trivial ?_
      exact zF_rbM (zRe1_w (by decide +kernel)) (Or.inr rfl) e
    · refine zF_blk (m := []) (d := 0) (b := B263_18) (gs := [¬ ((h 34 0) ≤ v2)]) (c' := (89, [some (22, 0), none, some (0, v2)], [], (hc, h, o))) K263_18 rfl ⟨q1, trivial⟩ ?_
      obtain ⟨q2, e⟩ := zG_s e
      obtain ⟨q3, e⟩ := zG_s e
      obtain ⟨q4, e⟩ := zG_s e
      obtain ⟨q5, e⟩ := zG_s e
      obtain ⟨q6, e⟩ := zG_s e
      obtain ⟨q7, e⟩ := zG_s e
      refine zF_blk (m := []) (d := 0) (b := B263_14) (gs := []) (c' := (100, [some (22, 0), none, some (0, v2)], [(0, v2), (0, 3), (1343141609, 0), (0, v2), (1342185218, 0)], (hc, h, o))) K263_14 rfl trivial ?_
      refine zF_blk (m := []) (d := 0) (b := B263_15) (gs := [0 ≤ (wmul 3 v2) ∧ (wmul 3 v2) < 940, 0 ≤ v2 ∧ v2 < 6]) (c' := (114, [some (22, 0), none, some (0, v2)], [(0, v2), (0, 3), (1343141609, 0), (0, v2), (1342185219, 0)], (hc, (mset h 26 v2 (h 1 (wmul 3 v2))), o))) K263_15 rfl ⟨q2, q3, trivial⟩ ?_
      refine zF_blk (m := []) (d := 0) (b := B263_16) (gs := [0 ≤ (wadd (wmul 3 v2) 1) ∧ (wadd (wmul 3 v2) 1) < 940, 0 ≤ v2 ∧ v2 < 6]) (c' := (130, [some (22, 0), none, some (0, v2)], [(0, v2), (0, 3), (1343141609, 0), (0, v2), (1342185220, 0)], (hc, (mset (mset h 26 v2 (h 1 (wmul 3 v2))) 27 v2 (h 1 (wadd (wmul 3 v2) 1))), o))) K263_16 rfl ⟨q4, q5, trivial⟩ ?_
      refine zF_blk (m := []) (d := 0) (b := B263_17) (gs := [0 ≤ (wadd (wmul 3 v2) 2) ∧ (wadd (wmul 3 v2) 2) < 940, 0 ≤ v2 ∧ v2 < 6]) (c' := (81, [some (22, 0), none, some (0, (wadd v2 1))], [], (hc, (mset (mset (mset h 26 v2 (h 1 (wmul 3 v2))) 27 v2 (h 1 (wadd (wmul 3 v2) 1))) 28 v2 (h 1 (wadd (wmul 3 v2) 2))), o))) K263_17 rfl ⟨q6, q7, trivial⟩ ?_
      exact hk0 (wadd v2 1) (mset (mset (mset h 26 v2 (h 1 (wmul 3 v2))) 27 v2 (h 1 (wadd (wmul 3 v2) 1))) 28 v2 (h 1 (wadd (wmul 3 v2) 2))) _ e
def F263_0 : Nat → Int → Int → zHM → Option (Int × zHM)
  | 0, _, _, _ => none
  | n + 1, v1, v2, h => if v1 ≤ v2 then F263_1 zFu 0 (mset h 34 0 (wdiv v1 3)) else zG (0 ≤ v2 ∧ v2 < 940) (if (h 14 2) ≤ (h 1 v2) then some (0, h) else zG (0 ≤ (wadd v2 2) ∧ (wadd v2 2) < 940) ((F188 (h 1 (wadd v2 2)) 1 9).bind fun r1 => if ¬ r1 = 0 then (F263_0 n) v1 (wadd v2 3) h else some (0, h)))
set_option maxRecDepth 100000 in
theorem T263_0 {spec : zRn zH2} {hc : zHC} {o : Int → Int} {d : Nat} (hd : 1 ≤ d) : ∀ (n : Nat) (v1 : Int) (v2 : Int) (h : zHM) (v : (Int × zHM)), F263_0 n v1 v2 h = some v → zFin 0 (fun _ => 0) (zRu2 spec d) 263 (some (0, v.1)) (hc, v.2, o) (27, [some (22, 0), some (0, v1), some (0, v2)], [], (hc, h, o)) := by
  intro n
  induction n with
  | zero => intro v1 v2 h v e; unfold F263_0 at e; cases e
  | succ n hk0 =>
    intro v1 v2 h v e
    unfold F263_0 at e
    rcases zI_s e with ⟨q1, e⟩ | ⟨q1, e⟩
    · refine zF_blk (m := []) (d := 1) (b := B263_12) (gs := [v1 ≤ v2]) (c' := (72, [some (22, 0), some (0, v1), some (0, v2)], [], (hc, h, o))) K263_12 rfl ⟨q1, trivial⟩ ?_
      refine zF_blk (m := []) (d := 0) (b := B263_6) (gs := [¬ 3 = 0]) (c' := (81, [some (22, 0), some (0, v1), some (0, 0)], [], (hc, (mset h 34 0 (wdiv v1 3)), o))) K263_6 rfl ⟨by decide, trivial⟩ ?_
      refine zF_blk (m := [true, false, true]) (d := 0) (b := []) (gs := []) (c' := (81, [some (22, 0), none, some (0, 0)], [], (hc, (mset h 34 0 (wdiv v1 3)), o))) rfl rfl trivial ?_
      exact T263_1 hd zFu 0 (mset h 34 0 (wdiv v1 3)) _ e
    · refine zF_blk (m := []) (d := 0) (b := B263_12) (gs := [¬ (v1 ≤ v2)]) (c' := (32, [some (22, 0), some (0, v1), some (0, v2)], [], (hc, h, o))) K263_12 rfl ⟨q1, trivial⟩ ?_
      obtain ⟨q2, e⟩ := zG_s e
      rcases zI_s e with ⟨q3, e⟩ | ⟨q3, e⟩
      · refine zF_blk (m := []) (d := 1) (b := B263_11) (gs := [0 ≤ v2 ∧ v2 < 940, 0 ≤ 2 ∧ 2 < 2140, (h 14 2) ≤ (h 1 v2)]) (c' := (64, [some (22, 0), some (0, v1), some (0, v2)], [], (hc, h, o))) K263_11 rfl ⟨q2, by decide, q3, trivial⟩ ?_
        refine zF_blk (m := []) (d := 0) (b := B263_7) (gs := []) (c' := (65, [some (22, 0), some (0, v1), some (0, v2)], [(0, 0)], (hc, h, o))) K263_7 rfl trivial ?_
        exact zF_rbM (zRe1_w (by decide +kernel)) (Or.inl rfl) e
      · refine zF_blk (m := []) (d := 0) (b := B263_11) (gs := [0 ≤ v2 ∧ v2 < 940, 0 ≤ 2 ∧ 2 < 2140, ¬ ((h 14 2) ≤ (h 1 v2))]) (c' := (47, [some (22, 0), some (0, v1), some (0, v2)], [], (hc, h, o))) K263_11 rfl ⟨q2, by decide, q3, trivial⟩ ?_
        obtain ⟨q4, e⟩ := zG_s e
        obtain ⟨r1, q5, e⟩ := zB_s e
        refine zF_blk (m := []) (d := 0) (b := B263_8) (gs := [0 ≤ (wadd v2 2) ∧ (wadd v2 2) < 940]) (c' := (58, [some (22, 0), some (0, v1), some (0, v2)], [(0, 9), (0, 1), (0, (h 1 (wadd v2 2)))], (hc, h, o))) K263_8 rfl ⟨q4, trivial⟩ ?_
        refine zF_call (k := 188) (cl := 12) (n := 3) (i := .invokestatic 151) (args := [(0, (h 1 (wadd v2 2))), (0, 1), (0, 9)]) (rest := []) (g1 := (hc, h, o)) (r1 := some (0, r1)) (zCk1_w (by decide +kernel)) rfl rfl rfl (st' := [(0, r1)]) rfl (S188 (Nat.le_trans (by decide) hd) (h 1 (wadd v2 2)) 1 9 h _ q5) ?_
        rcases zI_s e with ⟨q6, e⟩ | ⟨q6, e⟩
        · refine zF_blk (m := []) (d := 1) (b := B263_10) (gs := [¬ r1 = 0]) (c' := (66, [some (22, 0), some (0, v1), some (0, v2)], [], (hc, h, o))) K263_10 rfl ⟨q6, trivial⟩ ?_
          refine zF_blk (m := []) (d := 0) (b := B263_9) (gs := []) (c' := (27, [some (22, 0), some (0, v1), some (0, (wadd v2 3))], [], (hc, h, o))) K263_9 rfl trivial ?_
          exact hk0 v1 (wadd v2 3) h _ e
        · refine zF_blk (m := []) (d := 0) (b := B263_10) (gs := [¬ (¬ r1 = 0)]) (c' := (64, [some (22, 0), some (0, v1), some (0, v2)], [], (hc, h, o))) K263_10 rfl ⟨q6, trivial⟩ ?_
          refine zF_blk (m := []) (d := 0) (b := B263_7) (gs := []) (c' := (65, [some (22, 0), some (0, v1), some (0, v2)], [(0, 0)], (hc, h, o))) K263_7 rfl trivial ?_
          exact zF_rbM (zRe1_w (by decide +kernel)) (Or.inl rfl) e
/-- EchoValeModel.takePieces()Z -/
def F263 (h : zHM) : Option (Int × zHM) := (F175 h).bind fun r1 => if ¬ (wrem r1.1 3) = 0 then some (0, r1.2) else (F188 (wdiv r1.1 3) 1 6).bind fun r2 => if ¬ r2 = 0 then F263_0 zFu r1.1 0 r1.2 else some (0, r1.2)
set_option maxRecDepth 100000 in
theorem S263 {spec : zRn zH2} {hc : zHC} {o : Int → Int} {d : Nat} (hd : 2 ≤ d) (h : zHM) (v : (Int × zHM)) (e : F263 h = some v) : zRu2 spec d 263 [(22, 0)] (hc, h, o) (some (0, v.1)) (hc, v.2, o) := by
  refine zF_in (D := 1) (mx := 3) (L := [some (22, 0), none, none]) (by decide +kernel) rfl rfl hd (fun d hd => ?_)
  unfold F263 at e
  obtain ⟨r1, q1, e⟩ := zB_s e
  refine zF_blk (m := []) (d := 0) (b := B263_0) (gs := []) (c' := (1, [some (22, 0), none, none], [(22, 0)], (hc, h, o))) K263_0 rfl trivial ?_
  refine zF_call (k := 175) (cl := 12) (n := 1) (i := .invokevirtual 168) (args := [(22, 0)]) (rest := []) (g1 := (hc, r1.2, o)) (r1 := some (0, r1.1)) (zCk1_w (by decide +kernel)) rfl rfl rfl (st' := [(0, r1.1)]) rfl (S175 (Nat.le_trans (by decide) hd)  h _ q1) ?_
  rcases zI_s e with ⟨q2, e⟩ | ⟨q2, e⟩
  · refine zF_blk (m := []) (d := 1) (b := B263_5) (gs := [¬ 3 = 0, ¬ (wrem r1.1 3) = 0]) (c' := (23, [some (22, 0), some (0, r1.1), none], [], (hc, r1.2, o))) K263_5 rfl ⟨by decide, q2, trivial⟩ ?_
    refine zF_blk (m := []) (d := 0) (b := B263_1) (gs := []) (c' := (24, [some (22, 0), some (0, r1.1), none], [(0, 0)], (hc, r1.2, o))) K263_1 rfl trivial ?_
    exact zF_rbM (zRe1_w (by decide +kernel)) (Or.inl rfl) e
  · refine zF_blk (m := []) (d := 0) (b := B263_5) (gs := [¬ 3 = 0, ¬ (¬ (wrem r1.1 3) = 0)]) (c' := (11, [some (22, 0), some (0, r1.1), none], [], (hc, r1.2, o))) K263_5 rfl ⟨by decide, q2, trivial⟩ ?_
    obtain ⟨r2, q3, e⟩ := zB_s e
    refine zF_blk (m := []) (d := 0) (b := B263_2) (gs := [¬ 3 = 0]) (c' := (17, [some (22, 0), some (0, r1.1), none], [(0, 6), (0, 1), (0, (wdiv r1.1 3))], (hc, r1.2, o))) K263_2 rfl ⟨by decide, trivial⟩ ?_
    refine zF_call (k := 188) (cl := 12) (n := 3) (i := .invokestatic 151) (args := [(0, (wdiv r1.1 3)), (0, 1), (0, 6)]) (rest := []) (g1 := (hc, r1.2, o)) (r1 := some (0, r2)) (zCk1_w (by decide +kernel)) rfl rfl rfl (st' := [(0, r2)]) rfl (S188 (Nat.le_trans (by decide) hd) (wdiv r1.1 3) 1 6 r1.2 _ q3) ?_
    rcases zI_s e with ⟨q4, e⟩ | ⟨q4, e⟩
    · refine zF_blk (m := []) (d := 1) (b := B263_4) (gs := [¬ r2 = 0]) (c' := (25, [some (22, 0), some (0, r1.1), none], [], (hc, r1.2, o))) K263_4 rfl ⟨q4, trivial⟩ ?_
      refine zF_blk (m := []) (d := 0) (b := B263_3) (gs := []) (c' := (27, [some (22, 0), some (0, r1.1), some (0, 0)], [], (hc, r1.2, o))) K263_3 rfl trivial ?_
      exact T263_0 hd zFu r1.1 0 r1.2 _ e
    · refine zF_blk (m := []) (d := 0) (b := B263_4) (gs := [¬ (¬ r2 = 0)]) (c' := (23, [some (22, 0), some (0, r1.1), none], [], (hc, r1.2, o))) K263_4 rfl ⟨q4, trivial⟩ ?_
      refine zF_blk (m := []) (d := 0) (b := B263_1) (gs := []) (c' := (24, [some (22, 0), some (0, r1.1), none], [(0, 0)], (hc, r1.2, o))) K263_1 rfl trivial ?_
      exact zF_rbM (zRe1_w (by decide +kernel)) (Or.inl rfl) e
noncomputable def B265_0 : List zRow := [(39, .aload_n 0, 1, (0, 0, 0)), (40, .getfield 60, 3, (12, 31, 5242906)), (43, .iload_n 1, 1, (0, 0, 0)), (44, .iaload, 1, (0, 0, 0)), (45, .iload_n 3, 1, (0, 0, 0)), (46, .if_icmp .lt 4, 3, (0, 0, 0))]
theorem K265_0 : zRk 265 B265_0 = true := zRw_ok (by decide +kernel)
noncomputable def B265_1 : List zRow := [(29, .aload_n 0, 1, (0, 0, 0)), (30, .getfield 57, 3, (12, 30, 5242906)), (33, .iload_n 1, 1, (0, 0, 0)), (34, .iaload, 1, (0, 0, 0)), (35, .iload_n 2, 1, (0, 0, 0)), (36, .if_icmp .ne 14, 3, (0, 0, 0))]
theorem K265_1 : zRk 265 B265_1 = true := zRw_ok (by decide +kernel)
noncomputable def B265_2 : List zRow := [(19, .aload_n 0, 1, (0, 0, 0)), (20, .getfield 57, 3, (12, 30, 5242906)), (23, .iload_n 1, 1, (0, 0, 0)), (24, .iaload, 1, (0, 0, 0)), (25, .iload_n 2, 1, (0, 0, 0)), (26, .if_icmp .lt 23, 3, (0, 0, 0))]
theorem K265_2 : zRk 265 B265_2 = true := zRw_ok (by decide +kernel)
noncomputable def B265_3 : List zRow := [(9, .aload_n 0, 1, (0, 0, 0)), (10, .getfield 57, 3, (12, 30, 5242906)), (13, .iload_n 1, 1, (0, 0, 0)), (14, .iaload, 1, (0, 0, 0)), (15, .iconst (-1), 1, (0, 0, 0)), (16, .if_icmp .eq 34, 3, (0, 0, 0))]
theorem K265_3 : zRk 265 B265_3 = true := zRw_ok (by decide +kernel)
noncomputable def B265_4 : List zRow := [(0, .aload_n 0, 1, (0, 0, 0)), (1, .getfield 63, 3, (12, 32, 5242906)), (4, .iload_n 1, 1, (0, 0, 0)), (5, .iaload, 1, (0, 0, 0)), (6, .ifCond .gt 43, 3, (0, 0, 0))]
theorem K265_4 : zRk 265 B265_4 = true := zRw_ok (by decide +kernel)
noncomputable def B265_5 : List zRow := [(50, .aload_n 0, 1, (0, 0, 0)), (51, .getfield 57, 3, (12, 30, 5242906)), (54, .iload_n 1, 1, (0, 0, 0)), (55, .iload_n 2, 1, (0, 0, 0)), (56, .iastore, 1, (0, 0, 0)), (57, .aload_n 0, 1, (0, 0, 0)), (58, .getfield 60, 3, (12, 31, 5242906)), (61, .iload_n 1, 1, (0, 0, 0)), (62, .iload_n 3, 1, (0, 0, 0)), (63, .iastore, 1, (0, 0, 0))]
theorem K265_5 : zRk 265 B265_5 = true := zRw_ok (by decide +kernel)
def F265_0 (v1 : Int) (v2 : Int) (v3 : Int) (h : zHM) : Option zHM := zG (0 ≤ v1 ∧ v1 < 6) (zG (0 ≤ v1 ∧ v1 < 6) (some (mset (mset h 30 v1 v2) 31 v1 v3)))
set_option maxRecDepth 100000 in
theorem T265_0 {spec : zRn zH2} {hc : zHC} {o : Int → Int} {d : Nat} (hd : 0 ≤ d) (v1 : Int) (v2 : Int) (v3 : Int) (h : zHM) (v : zHM) (e : F265_0 v1 v2 v3 h = some v) : zFin 0 (fun _ => 0) (zRu2 spec d) 265 none (hc, v, o) (50, [some (22, 0), some (0, v1), some (0, v2), some (0, v3)], [], (hc, h, o)) := by
  unfold F265_0 at e
  obtain ⟨q1, e⟩ := zG_s e
  obtain ⟨q1, e⟩ := zG_s e
  refine zF_blk (m := []) (d := 0) (b := B265_5) (gs := [0 ≤ v1 ∧ v1 < 6, 0 ≤ v1 ∧ v1 < 6]) (c' := (64, [some (22, 0), some (0, v1), some (0, v2), some (0, v3)], [], (hc, (mset (mset h 30 v1 v2) 31 v1 v3), o))) K265_5 rfl ⟨q1, q1, trivial⟩ ?_
  obtain rfl := Option.some.inj e
  exact zF_rv (zRe1_w (by decide +kernel))
/-- EchoValeModel.cometh(III)V -/
def F265 (v1 : Int) (v2 : Int) (v3 : Int) (h : zHM) : Option zHM := zG (0 ≤ v1 ∧ v1 < 6) (if 0 < (h 32 v1) then some h else zG (0 ≤ v1 ∧ v1 < 6) (if (h 30 v1) = (-1) then F265_0 v1 v2 v3 h else zG (0 ≤ v1 ∧ v1 < 6) (if (h 30 v1) < v2 then some h else zG (0 ≤ v1 ∧ v1 < 6) (if ¬ (h 30 v1) = v2 then F265_0 v1 v2 v3 h else zG (0 ≤ v1 ∧ v1 < 6) (if (h 31 v1) < v3 then F265_0 v1 v2 v3 h else some h)))))
set_option maxRecDepth 100000 in
theorem S265 {spec : zRn zH2} {hc : zHC} {o : Int → Int} {d : Nat} (hd : 1 ≤ d) (v1 : Int) (v2 : Int) (v3 : Int) (h : zHM) (v : zHM) (e : F265 v1 v2 v3 h = some v) : zRu2 spec d 265 [(22, 0), (0, v1), (0, v2), (0, v3)] (hc, h, o) none (hc, v, o) := by
  refine zF_in (D := 0) (mx := 4) (L := [some (22, 0), some (0, v1), some (0, v2), some (0, v3)]) (by decide +kernel) rfl rfl hd (fun d hd => ?_)
  unfold F265 at e
  obtain ⟨q1, e⟩ := zG_s e
  rcases zI_s e with ⟨q2, e⟩ | ⟨q2, e⟩
  · refine zF_blk (m := []) (d := 1) (b := B265_4) (gs := [0 ≤ v1 ∧ v1 < 6, 0 < (h 32 v1)]) (c' := (49, [some (22, 0), some (0, v1), some (0, v2), some (0, v3)], [], (hc, h, o))) K265_4 rfl ⟨q1, q2, trivial⟩ ?_
    obtain rfl := Option.some.inj e
    exact zF_rv (zRe1_w (by decide +kernel))
  · refine zF_blk (m := []) (d := 0) (b := B265_4) (gs := [0 ≤ v1 ∧ v1 < 6, ¬ (0 < (h 32 v1))]) (c' := (9, [some (22, 0), some (0, v1), some (0, v2), some (0, v3)], [], (hc, h, o))) K265_4 rfl ⟨q1, q2, trivial⟩ ?_
    obtain ⟨q3, e⟩ := zG_s e
    rcases zI_s e with ⟨q4, e⟩ | ⟨q4, e⟩
    · refine zF_blk (m := []) (d := 1) (b := B265_3) (gs := [0 ≤ v1 ∧ v1 < 6, (h 30 v1) = (-1)]) (c' := (50, [some (22, 0), some (0, v1), some (0, v2), some (0, v3)], [], (hc, h, o))) K265_3 rfl ⟨q3, q4, trivial⟩ ?_
      exact T265_0 hd v1 v2 v3 h _ e
    · refine zF_blk (m := []) (d := 0) (b := B265_3) (gs := [0 ≤ v1 ∧ v1 < 6, ¬ ((h 30 v1) = (-1))]) (c' := (19, [some (22, 0), some (0, v1), some (0, v2), some (0, v3)], [], (hc, h, o))) K265_3 rfl ⟨q3, q4, trivial⟩ ?_
      obtain ⟨q5, e⟩ := zG_s e
      rcases zI_s e with ⟨q6, e⟩ | ⟨q6, e⟩
      · refine zF_blk (m := []) (d := 1) (b := B265_2) (gs := [0 ≤ v1 ∧ v1 < 6, (h 30 v1) < v2]) (c' := (49, [some (22, 0), some (0, v1), some (0, v2), some (0, v3)], [], (hc, h, o))) K265_2 rfl ⟨q5, q6, trivial⟩ ?_
        obtain rfl := Option.some.inj e
        exact zF_rv (zRe1_w (by decide +kernel))
      · refine zF_blk (m := []) (d := 0) (b := B265_2) (gs := [0 ≤ v1 ∧ v1 < 6, ¬ ((h 30 v1) < v2)]) (c' := (29, [some (22, 0), some (0, v1), some (0, v2), some (0, v3)], [], (hc, h, o))) K265_2 rfl ⟨q5, q6, trivial⟩ ?_
        obtain ⟨q7, e⟩ := zG_s e
        rcases zI_s e with ⟨q8, e⟩ | ⟨q8, e⟩
        · refine zF_blk (m := []) (d := 1) (b := B265_1) (gs := [0 ≤ v1 ∧ v1 < 6, ¬ (h 30 v1) = v2]) (c' := (50, [some (22, 0), some (0, v1), some (0, v2), some (0, v3)], [], (hc, h, o))) K265_1 rfl ⟨q7, q8, trivial⟩ ?_
          exact T265_0 hd v1 v2 v3 h _ e
        · refine zF_blk (m := []) (d := 0) (b := B265_1) (gs := [0 ≤ v1 ∧ v1 < 6, ¬ (¬ (h 30 v1) = v2)]) (c' := (39, [some (22, 0), some (0, v1), some (0, v2), some (0, v3)], [], (hc, h, o))) K265_1 rfl ⟨q7, q8, trivial⟩ ?_
          obtain ⟨q9, e⟩ := zG_s e
          rcases zI_s e with ⟨q10, e⟩ | ⟨q10, e⟩
          · refine zF_blk (m := []) (d := 1) (b := B265_0) (gs := [0 ≤ v1 ∧ v1 < 6, (h 31 v1) < v3]) (c' := (50, [some (22, 0), some (0, v1), some (0, v2), some (0, v3)], [], (hc, h, o))) K265_0 rfl ⟨q9, q10, trivial⟩ ?_
            exact T265_0 hd v1 v2 v3 h _ e
          · refine zF_blk (m := []) (d := 0) (b := B265_0) (gs := [0 ≤ v1 ∧ v1 < 6, ¬ ((h 31 v1) < v3)]) (c' := (49, [some (22, 0), some (0, v1), some (0, v2), some (0, v3)], [], (hc, h, o))) K265_0 rfl ⟨q9, q10, trivial⟩ ?_
            obtain rfl := Option.some.inj e
            exact zF_rv (zRe1_w (by decide +kernel))
noncomputable def B264_0 : List zRow := [(0, .aload_n 0, 1, (0, 0, 0)), (1, .getfield 13, 3, (12, 14, 5251442)), (4, .iconst 2, 1, (0, 0, 0)), (5, .iaload, 1, (0, 0, 0)), (6, .istore 4, 2, (0, 0, 0)), (8, .iconst 0, 1, (0, 0, 0)), (9, .istore 5, 2, (0, 0, 0))]
theorem K264_0 : zRk 264 B264_0 = true := zRw_ok (by decide +kernel)
noncomputable def B264_1 : List zRow := [(48, .iconst 0, 1, (0, 0, 0)), (49, .istore 5, 2, (0, 0, 0))]
theorem K264_1 : zRk 264 B264_1 = true := zRw_ok (by decide +kernel)
noncomputable def B264_2 : List zRow := [(18, .aload_n 0, 1, (0, 0, 0)), (19, .getfield 57, 3, (12, 30, 5242906)), (22, .iload 5, 2, (0, 0, 0)), (24, .iconst (-1), 1, (0, 0, 0)), (25, .iastore, 1, (0, 0, 0)), (26, .aload_n 0, 1, (0, 0, 0)), (27, .getfield 63, 3, (12, 32, 5242906)), (30, .iload 5, 2, (0, 0, 0)), (32, .iconst 0, 1, (0, 0, 0)), (33, .iastore, 1, (0, 0, 0)), (34, .aload_n 0, 1, (0, 0, 0)), (35, .getfield 66, 3, (12, 33, 5242906)), (38, .iload 5, 2, (0, 0, 0)), (40, .iconst 0, 1, (0, 0, 0)), (41, .iastore, 1, (0, 0, 0)), (42, .iinc 5 1, 3, (0, 0, 0)), (45, .goto (-34), 3, (0, 0, 0))]
theorem K264_2 : zRk 264 B264_2 = true := zRw_ok (by decide +kernel)
noncomputable def B264_3 : List zRow := [(11, .iload 5, 2, (0, 0, 0)), (13, .iload 4, 2, (0, 0, 0)), (15, .if_icmp .ge 33, 3, (0, 0, 0))]
theorem K264_3 : zRk 264 B264_3 = true := zRw_ok (by decide +kernel)
noncomputable def B264_4 : List zRow := [(97, .iconst 0, 1, (0, 0, 0)), (98, .istore 5, 2, (0, 0, 0))]
theorem K264_4 : zRk 264 B264_4 = true := zRw_ok (by decide +kernel)
noncomputable def B264_5 : List zRow := [(58, .aload_n 0, 1, (0, 0, 0)), (59, .iload 5, 2, (0, 0, 0)), (61, .iload_n 1, 1, (0, 0, 0)), (62, .iload_n 3, 1, (0, 0, 0))]
theorem K264_5 : zRk 264 B264_5 = true := zRw_ok (by decide +kernel)
noncomputable def B264_6 : List zRow := [(69, .aload_n 0, 1, (0, 0, 0)), (70, .iload 5, 2, (0, 0, 0)), (72, .iload_n 2, 1, (0, 0, 0)), (73, .aload_n 0, 1, (0, 0, 0)), (74, .iload 5, 2, (0, 0, 0))]
theorem K264_6 : zRk 264 B264_6 = true := zRw_ok (by decide +kernel)
noncomputable def B264_7 : List zRow := [(79, .iadd, 1, (0, 0, 0)), (80, .aload_n 0, 1, (0, 0, 0)), (81, .iload 5, 2, (0, 0, 0)), (83, .iload_n 1, 1, (0, 0, 0)), (84, .iload_n 3, 1, (0, 0, 0))]
theorem K264_7 : zRk 264 B264_7 = true := zRw_ok (by decide +kernel)
noncomputable def B264_8 : List zRow := [(66, .ifCond .le 25, 3, (0, 0, 0))]
theorem K264_8 : zRk 264 B264_8 = true := zRw_ok (by decide +kernel)
noncomputable def B264_9 : List zRow := [(51, .iload 5, 2, (0, 0, 0)), (53, .iload 4, 2, (0, 0, 0)), (55, .if_icmp .ge 42, 3, (0, 0, 0))]
theorem K264_9 : zRk 264 B264_9 = true := zRw_ok (by decide +kernel)
noncomputable def B264_10 : List zRow := [(91, .iinc 5 1, 3, (0, 0, 0)), (94, .goto (-43), 3, (0, 0, 0))]
theorem K264_10 : zRk 264 B264_10 = true := zRw_ok (by decide +kernel)
noncomputable def B264_11 : List zRow := [(107, .iconst (-1), 1, (0, 0, 0)), (108, .istore 6, 2, (0, 0, 0)), (110, .iconst 0, 1, (0, 0, 0)), (111, .istore 7, 2, (0, 0, 0))]
theorem K264_11 : zRk 264 B264_11 = true := zRw_ok (by decide +kernel)
noncomputable def B264_12 : List zRow := [(100, .iload 5, 2, (0, 0, 0)), (102, .iload 4, 2, (0, 0, 0)), (104, .if_icmp .ge 232, 3, (0, 0, 0))]
theorem K264_12 : zRk 264 B264_12 = true := zRw_ok (by decide +kernel)
noncomputable def B264_13 : List zRow := [(181, .aload_n 0, 1, (0, 0, 0)), (182, .getfield 63, 3, (12, 32, 5242906)), (185, .iload 6, 2, (0, 0, 0)), (187, .iconst 1, 1, (0, 0, 0)), (188, .iastore, 1, (0, 0, 0)), (189, .aload_n 0, 1, (0, 0, 0)), (190, .getfield 60, 3, (12, 31, 5242906)), (193, .iload 6, 2, (0, 0, 0)), (195, .iaload, 1, (0, 0, 0)), (196, .aload_n 0, 1, (0, 0, 0)), (197, .iload 6, 2, (0, 0, 0))]
theorem K264_13 : zRk 264 B264_13 = true := zRw_ok (by decide +kernel)
noncomputable def B264_14 : List zRow := [(202, .aload_n 0, 1, (0, 0, 0)), (203, .aload_n 0, 1, (0, 0, 0)), (204, .getfield 57, 3, (12, 30, 5242906)), (207, .iload 6, 2, (0, 0, 0)), (209, .iaload, 1, (0, 0, 0))]
theorem K264_14 : zRk 264 B264_14 = true := zRw_ok (by decide +kernel)
noncomputable def B264_15 : List zRow := [(213, .isub, 1, (0, 0, 0))]
theorem K264_15 : zRk 264 B264_15 = true := zRw_ok (by decide +kernel)
noncomputable def B264_16 : List zRow := [(234, .iload 7, 2, (0, 0, 0))]
theorem K264_16 : zRk 264 B264_16 = true := zRw_ok (by decide +kernel)
noncomputable def B264_17 : List zRow := [(230, .iconst 0, 1, (0, 0, 0)), (231, .goto 5, 3, (0, 0, 0))]
theorem K264_17 : zRk 264 B264_17 = true := zRw_ok (by decide +kernel)
noncomputable def B264_18 : List zRow := [(217, .istore 7, 2, (0, 0, 0)), (219, .aload_n 0, 1, (0, 0, 0)), (220, .getfield 66, 3, (12, 33, 5242906)), (223, .iload 6, 2, (0, 0, 0)), (225, .iload 7, 2, (0, 0, 0)), (227, .ifCond .ge 7, 3, (0, 0, 0))]
theorem K264_18 : zRk 264 B264_18 = true := zRw_ok (by decide +kernel)
noncomputable def B264_19 : List zRow := [(174, .iload 6, 2, (0, 0, 0)), (176, .iconst (-1), 1, (0, 0, 0)), (177, .if_icmp .ne 4, 3, (0, 0, 0))]
theorem K264_19 : zRk 264 B264_19 = true := zRw_ok (by decide +kernel)
noncomputable def B264_20 : List zRow := [(147, .aload_n 0, 1, (0, 0, 0)), (148, .getfield 57, 3, (12, 30, 5242906)), (151, .iload 7, 2, (0, 0, 0)), (153, .iaload, 1, (0, 0, 0)), (154, .aload_n 0, 1, (0, 0, 0)), (155, .getfield 57, 3, (12, 30, 5242906)), (158, .iload 6, 2, (0, 0, 0)), (160, .iaload, 1, (0, 0, 0)), (161, .if_icmp .ge 7, 3, (0, 0, 0))]
theorem K264_20 : zRk 264 B264_20 = true := zRw_ok (by decide +kernel)
noncomputable def B264_21 : List zRow := [(141, .iload 6, 2, (0, 0, 0)), (143, .iconst (-1), 1, (0, 0, 0)), (144, .if_icmp .eq 20, 3, (0, 0, 0))]
theorem K264_21 : zRk 264 B264_21 = true := zRw_ok (by decide +kernel)
noncomputable def B264_22 : List zRow := [(130, .aload_n 0, 1, (0, 0, 0)), (131, .getfield 57, 3, (12, 30, 5242906)), (134, .iload 7, 2, (0, 0, 0)), (136, .iaload, 1, (0, 0, 0)), (137, .iconst (-1), 1, (0, 0, 0)), (138, .if_icmp .eq 30, 3, (0, 0, 0))]
theorem K264_22 : zRk 264 B264_22 = true := zRw_ok (by decide +kernel)
noncomputable def B264_23 : List zRow := [(120, .aload_n 0, 1, (0, 0, 0)), (121, .getfield 63, 3, (12, 32, 5242906)), (124, .iload 7, 2, (0, 0, 0)), (126, .iaload, 1, (0, 0, 0)), (127, .ifCond .ne 41, 3, (0, 0, 0))]
theorem K264_23 : zRk 264 B264_23 = true := zRw_ok (by decide +kernel)
noncomputable def B264_24 : List zRow := [(113, .iload 7, 2, (0, 0, 0)), (115, .iload 4, 2, (0, 0, 0)), (117, .if_icmp .ge 57, 3, (0, 0, 0))]
theorem K264_24 : zRk 264 B264_24 = true := zRw_ok (by decide +kernel)
noncomputable def B264_25 : List zRow := [(164, .iload 7, 2, (0, 0, 0)), (166, .istore 6, 2, (0, 0, 0))]
theorem K264_25 : zRk 264 B264_25 = true := zRw_ok (by decide +kernel)
noncomputable def B264_26 : List zRow := [(168, .iinc 7 1, 3, (0, 0, 0)), (171, .goto (-58), 3, (0, 0, 0))]
theorem K264_26 : zRk 264 B264_26 = true := zRw_ok (by decide +kernel)
noncomputable def B264_27 : List zRow := [(236, .iastore, 1, (0, 0, 0)), (237, .iconst 0, 1, (0, 0, 0)), (238, .istore 8, 2, (0, 0, 0))]
theorem K264_27 : zRk 264 B264_27 = true := zRw_ok (by decide +kernel)
noncomputable def B264_28 : List zRow := [(252, .aload_n 0, 1, (0, 0, 0)), (253, .iload 6, 2, (0, 0, 0))]
theorem K264_28 : zRk 264 B264_28 = true := zRw_ok (by decide +kernel)
noncomputable def B264_29 : List zRow := [(258, .aload_n 0, 1, (0, 0, 0)), (259, .iload 8, 2, (0, 0, 0))]
theorem K264_29 : zRk 264 B264_29 = true := zRw_ok (by decide +kernel)
noncomputable def B264_30 : List zRow := [(295, .aload_n 0, 1, (0, 0, 0)), (296, .iload 8, 2, (0, 0, 0)), (298, .aload_n 0, 1, (0, 0, 0)), (299, .getfield 57, 3, (12, 30, 5242906)), (302, .iload 6, 2, (0, 0, 0)), (304, .iaload, 1, (0, 0, 0)), (305, .aload_n 0, 1, (0, 0, 0)), (306, .iload 8, 2, (0, 0, 0))]
theorem K264_30 : zRk 264 B264_30 = true := zRw_ok (by decide +kernel)
noncomputable def B264_31 : List zRow := [(311, .iadd, 1, (0, 0, 0)), (312, .iload 7, 2, (0, 0, 0)), (314, .iconst 1, 1, (0, 0, 0)), (315, .isub, 1, (0, 0, 0)), (316, .iload 9, 2, (0, 0, 0)), (318, .iconst 2, 1, (0, 0, 0)), (319, .idiv, 1, (0, 0, 0)), (320, .isub, 1, (0, 0, 0))]
theorem K264_31 : zRk 264 B264_31 = true := zRw_ok (by decide +kernel)
noncomputable def B264_32 : List zRow := [(283, .iload 7, 2, (0, 0, 0)), (285, .iconst 1, 1, (0, 0, 0)), (286, .isub, 1, (0, 0, 0)), (287, .iload 9, 2, (0, 0, 0)), (289, .iconst 2, 1, (0, 0, 0)), (290, .idiv, 1, (0, 0, 0)), (291, .isub, 1, (0, 0, 0)), (292, .ifCond .le 32, 3, (0, 0, 0))]
theorem K264_32 : zRk 264 B264_32 = true := zRw_ok (by decide +kernel)
noncomputable def B264_33 : List zRow := [(276, .iload 9, 2, (0, 0, 0)), (278, .iload 7, 2, (0, 0, 0)), (280, .if_icmp .gt 44, 3, (0, 0, 0))]
theorem K264_33 : zRk 264 B264_33 = true := zRw_ok (by decide +kernel)
noncomputable def B264_34 : List zRow := [(267, .istore 9, 2, (0, 0, 0)), (269, .iload 8, 2, (0, 0, 0)), (271, .iload 6, 2, (0, 0, 0)), (273, .if_icmp .eq 51, 3, (0, 0, 0))]
theorem K264_34 : zRk 264 B264_34 = true := zRw_ok (by decide +kernel)
noncomputable def B264_35 : List zRow := [(247, .iload 7, 2, (0, 0, 0)), (249, .ifCond .le 81, 3, (0, 0, 0))]
theorem K264_35 : zRk 264 B264_35 = true := zRw_ok (by decide +kernel)
noncomputable def B264_36 : List zRow := [(240, .iload 8, 2, (0, 0, 0)), (242, .iload 4, 2, (0, 0, 0)), (244, .if_icmp .ge 86, 3, (0, 0, 0))]
theorem K264_36 : zRk 264 B264_36 = true := zRw_ok (by decide +kernel)
noncomputable def B264_37 : List zRow := [(324, .iinc 8 1, 3, (0, 0, 0)), (327, .goto (-87), 3, (0, 0, 0))]
theorem K264_37 : zRk 264 B264_37 = true := zRw_ok (by decide +kernel)
noncomputable def B264_38 : List zRow := [(330, .iinc 5 1, 3, (0, 0, 0)), (333, .goto (-233), 3, (0, 0, 0))]
theorem K264_38 : zRk 264 B264_38 = true := zRw_ok (by decide +kernel)
def F264_9 (k0 : Int → Int → zHM → Option zHM) (v4 : Int) (v5 : Int) (h : zHM) : Option zHM := k0 v4 (wadd v5 1) h
set_option maxRecDepth 100000 in
theorem T264_9 {spec : zRn zH2} {hc : zHC} {o : Int → Int} {d : Nat} (hd : 3 ≤ d) (k0 : Int → Int → zHM → Option zHM) (hk0 : ∀ (v4 : Int) (v5 : Int) (h : zHM) (v : zHM), k0 v4 v5 h = some v → zFin 0 (fun _ => 0) (zRu2 spec d) 264 none (hc, v, o) (100, [some (22, 0), none, none, none, some (0, v4), some (0, v5), none, none, none, none], [], (hc, h, o))) (v4 : Int) (v5 : Int) (h : zHM) (v : zHM) (e : F264_9 k0 v4 v5 h = some v) : zFin 0 (fun _ => 0) (zRu2 spec d) 264 none (hc, v, o) (330, [some (22, 0), none, none, none, some (0, v4), some (0, v5), none, none, none, none], [], (hc, h, o)) := by
  unfold F264_9 at e
  refine zF_blk (m := []) (d := 0) (b := B264_38) (gs := []) (c' := (100, [some (22, 0), none, none, none, some (0, v4), some (0, (wadd v5 1)), none, none, none, none], [], (hc, h, o))) K264_38 rfl trivial ?_
  exact hk0 v4 (wadd v5 1) h _ e
def F264_10 (k0 : Int → Int → zHM → Option zHM) (k1 : Int → Int → Int → Int → Int → zHM → Option zHM) (v4 : Int) (v5 : Int) (v6 : Int) (v7 : Int) (v8 : Int) (h : zHM) : Option zHM := k1 v4 v5 v6 v7 (wadd v8 1) h
set_option maxRecDepth 100000 in
theorem T264_10 {spec : zRn zH2} {hc : zHC} {o : Int → Int} {d : Nat} (hd : 3 ≤ d) (k0 : Int → Int → zHM → Option zHM) (hk0 : ∀ (v4 : Int) (v5 : Int) (h : zHM) (v : zHM), k0 v4 v5 h = some v → zFin 0 (fun _ => 0) (zRu2 spec d) 264 none (hc, v, o) (100, [some (22, 0), none, none, none, some (0, v4), some (0, v5), none, none, none, none], [], (hc, h, o))) (k1 : Int → Int → Int → Int → Int → zHM → Option zHM) (hk1 : ∀ (v4 : Int) (v5 : Int) (v6 : Int) (v7 : Int) (v8 : Int) (h : zHM) (v : zHM), k1 v4 v5 v6 v7 v8 h = some v → zFin 0 (fun _ => 0) (zRu2 spec d) 264 none (hc, v, o) (240, [some (22, 0), none, none, none, some (0, v4), some (0, v5), some (0, v6), some (0, v7), some (0, v8), none], [], (hc, h, o))) (v4 : Int) (v5 : Int) (v6 : Int) (v7 : Int) (v8 : Int) (h : zHM) (v : zHM) (e : F264_10 k0 k1 v4 v5 v6 v7 v8 h = some v) : zFin 0 (fun _ => 0) (zRu2 spec d) 264 none (hc, v, o) (324, [some (22, 0), none, none, none, some (0, v4), some (0, v5), some (0, v6), some (0, v7), some (0, v8), none], [], (hc, h, o)) := by
  unfold F264_10 at e
  refine zF_blk (m := []) (d := 0) (b := B264_37) (gs := []) (c' := (240, [some (22, 0), none, none, none, some (0, v4), some (0, v5), some (0, v6), some (0, v7), some (0, (wadd v8 1)), none], [], (hc, h, o))) K264_37 rfl trivial ?_
  exact hk1 v4 v5 v6 v7 (wadd v8 1) h _ e
def F264_8 (k0 : Int → Int → zHM → Option zHM) : Nat → Int → Int → Int → Int → Int → zHM → Option zHM
  | 0, _, _, _, _, _, _ => none
  | n + 1, v4, v5, v6, v7, v8, h => if v4 ≤ v8 then F264_9 k0 v4 v5 h else if v7 ≤ 0 then F264_9 k0 v4 v5 h else (F229 v6 h).bind fun r1 => (F229 v8 h).bind fun r2 => (F230 r1 r2).bind fun r3 => if v8 = v6 then F264_10 k0 (F264_8 k0 n) v4 v5 v6 v7 v8 h else if v7 < r3 then F264_10 k0 (F264_8 k0 n) v4 v5 v6 v7 v8 h else if (wsub (wsub v7 1) (wdiv r3 2)) ≤ 0 then F264_10 k0 (F264_8 k0 n) v4 v5 v6 v7 v8 h else zG (0 ≤ v6 ∧ v6 < 6) ((F232 v8 h).bind fun r4 => (F265 v8 (wadd (h 30 v6) r4) (wsub (wsub v7 1) (wdiv r3 2)) h).bind fun r5 => F264_10 k0 (F264_8 k0 n) v4 v5 v6 v7 v8 r5)
set_option maxRecDepth 100000 in
theorem T264_8 {spec : zRn zH2} {hc : zHC} {o : Int → Int} {d : Nat} (hd : 3 ≤ d) (k0 : Int → Int → zHM → Option zHM) (hk0 : ∀ (v4 : Int) (v5 : Int) (h : zHM) (v : zHM), k0 v4 v5 h = some v → zFin 0 (fun _ => 0) (zRu2 spec d) 264 none (hc, v, o) (100, [some (22, 0), none, none, none, some (0, v4), some (0, v5), none, none, none, none], [], (hc, h, o))) : ∀ (n : Nat) (v4 : Int) (v5 : Int) (v6 : Int) (v7 : Int) (v8 : Int) (h : zHM) (v : zHM), F264_8 k0 n v4 v5 v6 v7 v8 h = some v → zFin 0 (fun _ => 0) (zRu2 spec d) 264 none (hc, v, o) (240, [some (22, 0), none, none, none, some (0, v4), some (0, v5), some (0, v6), some (0, v7), some (0, v8), none], [], (hc, h, o)) := by
  intro n
  induction n with
  | zero => intro v4 v5 v6 v7 v8 h v e; unfold F264_8 at e; cases e
  | succ n hk1 =>
    intro v4 v5 v6 v7 v8 h v e
    unfold F264_8 at e
    rcases zI_s e with ⟨q1, e⟩ | ⟨q1, e⟩
    · refine zF_blk (m := []) (d := 1) (b := B264_36) (gs := [v4 ≤ v8]) (c' := (330, [some (22, 0), none, none, none, some (0, v4), some (0, v5), some (0, v6), some (0, v7), some (0, v8), none], [], (hc, h, o))) K264_36 rfl ⟨q1, trivial⟩ ?_
      refine zF_blk (m := [true, false, false, false, true, true, false, false, false, false]) (d := 0) (b := []) (gs := []) (c' := (330, [some (22, 0), none, none, none, some (0, v4), some (0, v5), none, none, none, none], [], (hc, h, o))) rfl rfl trivial ?_
      exact T264_9 hd k0 hk0 v4 v5 h _ e
    · refine zF_blk (m := []) (d := 0) (b := B264_36) (gs := [¬ (v4 ≤ v8)]) (c' := (247, [some (22, 0), none, none, none, some (0, v4), some (0, v5), some (0, v6), some (0, v7), some (0, v8), none], [], (hc, h, o))) K264_36 rfl ⟨q1, trivial⟩ ?_
      rcases zI_s e with ⟨q2, e⟩ | ⟨q2, e⟩
      · refine zF_blk (m := []) (d := 1) (b := B264_35) (gs := [v7 ≤ 0]) (c' := (330, [some (22, 0), none, none, none, some (0, v4), some (0, v5), some (0, v6), some (0, v7), some (0, v8), none], [], (hc, h, o))) K264_35 rfl ⟨q2, trivial⟩ ?_
        refine zF_blk (m := [true, false, false, false, true, true, false, false, false, false]) (d := 0) (b := []) (gs := []) (c' := (330, [some (22, 0), none, none, none, some (0, v4), some (0, v5), none, none, none, none], [], (hc, h, o))) rfl rfl trivial ?_
        exact T264_9 hd k0 hk0 v4 v5 h _ e
      · refine zF_blk (m := []) (d := 0) (b := B264_35) (gs := [¬ (v7 ≤ 0)]) (c' := (252, [some (22, 0), none, none, none, some (0, v4), some (0, v5), some (0, v6), some (0, v7), some (0, v8), none], [], (hc, h, o))) K264_35 rfl ⟨q2, trivial⟩ ?_
        obtain ⟨r1, q3, e⟩ := zB_s e
        refine zF_blk (m := []) (d := 0) (b := B264_28) (gs := []) (c' := (255, [some (22, 0), none, none, none, some (0, v4), some (0, v5), some (0, v6), some (0, v7), some (0, v8), none], [(0, v6), (22, 0)], (hc, h, o))) K264_28 rfl trivial ?_
        refine zF_call (k := 229) (cl := 12) (n := 2) (i := .invokevirtual 276) (args := [(22, 0), (0, v6)]) (rest := []) (g1 := (hc, h, o)) (r1 := some (0, r1)) (zCk1_w (by decide +kernel)) rfl rfl rfl (st' := [(0, r1)]) rfl (S229 (Nat.le_trans (by decide) hd) v6 h _ q3) ?_
        obtain ⟨r2, q4, e⟩ := zB_s e
        refine zF_blk (m := []) (d := 0) (b := B264_29) (gs := []) (c' := (261, [some (22, 0), none, none, none, some (0, v4), some (0, v5), some (0, v6), some (0, v7), some (0, v8), none], [(0, v8), (22, 0), (0, r1)], (hc, h, o))) K264_29 rfl trivial ?_
        refine zF_call (k := 229) (cl := 12) (n := 2) (i := .invokevirtual 276) (args := [(22, 0), (0, v8)]) (rest := [(0, r1)]) (g1 := (hc, h, o)) (r1 := some (0, r2)) (zCk1_w (by decide +kernel)) rfl rfl rfl (st' := [(0, r2), (0, r1)]) rfl (S229 (Nat.le_trans (by decide) hd) v8 h _ q4) ?_
        obtain ⟨r3, q5, e⟩ := zB_s e
        refine zF_call (k := 230) (cl := 12) (n := 2) (i := .invokestatic 279) (args := [(0, r1), (0, r2)]) (rest := []) (g1 := (hc, h, o)) (r1 := some (0, r3)) (zCk1_w (by decide +kernel)) rfl rfl rfl (st' := [(0, r3)]) rfl (S230 (Nat.le_trans (by decide) hd) r1 r2 h _ q5) ?_
        rcases zI_s e with ⟨q6, e⟩ | ⟨q6, e⟩
        · refine zF_blk (m := []) (d := 1) (b := B264_34) (gs := [v8 = v6]) (c' := (324, [some (22, 0), none, none, none, some (0, v4), some (0, v5), some (0, v6), some (0, v7), some (0, v8), some (0, r3)], [], (hc, h, o))) K264_34 rfl ⟨q6, trivial⟩ ?_
          refine zF_blk (m := [true, false, false, false, true, true, true, true, true, false]) (d := 0) (b := []) (gs := []) (c' := (324, [some (22, 0), none, none, none, some (0, v4), some (0, v5), some (0, v6), some (0, v7), some (0, v8), none], [], (hc, h, o))) rfl rfl trivial ?_
          exact T264_10 hd k0 hk0 (F264_8 k0 n) hk1 v4 v5 v6 v7 v8 h _ e
        · refine zF_blk (m := []) (d := 0) (b := B264_34) (gs := [¬ (v8 = v6)]) (c' := (276, [some (22, 0), none, none, none, some (0, v4), some (0, v5), some (0, v6), some (0, v7), some (0, v8), some (0, r3)], [], (hc, h, o))) K264_34 rfl ⟨q6, trivial⟩ ?_
          rcases zI_s e with ⟨q7, e⟩ | ⟨q7, e⟩
          · refine zF_blk (m := []) (d := 1) (b := B264_33) (gs := [v7 < r3]) (c' := (324, [some (22, 0), none, none, none, some (0, v4), some (0, v5), some (0, v6), some (0, v7), some (0, v8), some (0, r3)], [], (hc, h, o))) K264_33 rfl ⟨q7, trivial⟩ ?_
            refine zF_blk (m := [true, false, false, false, true, true, true, true, true, false]) (d := 0) (b := []) (gs := []) (c' := (324, [some (22, 0), none, none, none, some (0, v4), some (0, v5), some (0, v6), some (0, v7), some (0, v8), none], [], (hc, h, o))) rfl rfl trivial ?_
            exact T264_10 hd k0 hk0 (F264_8 k0 n) hk1 v4 v5 v6 v7 v8 h _ e
          · refine zF_blk (m := []) (d := 0) (b := B264_33) (gs := [¬ (v7 < r3)]) (c' := (283, [some (22, 0), none, none, none, some (0, v4), some (0, v5), some (0, v6), some (0, v7), some (0, v8), some (0, r3)], [], (hc, h, o))) K264_33 rfl ⟨q7, trivial⟩ ?_
            rcases zI_s e with ⟨q8, e⟩ | ⟨q8, e⟩
            · refine zF_blk (m := []) (d := 1) (b := B264_32) (gs := [¬ 2 = 0, (wsub (wsub v7 1) (wdiv r3 2)) ≤ 0]) (c' := (324, [some (22, 0), none, none, none, some (0, v4), some (0, v5), some (0, v6), some (0, v7), some (0, v8), some (0, r3)], [], (hc, h, o))) K264_32 rfl ⟨by decide, q8, trivial⟩ ?_
              refine zF_blk (m := [true, false, false, false, true, true, true, true, true, false]) (d := 0) (b := []) (gs := []) (c' := (324, [some (22, 0), none, none, none, some (0, v4), some (0, v5), some (0, v6), some (0, v7), some (0, v8), none], [], (hc, h, o))) rfl rfl trivial ?_
              exact T264_10 hd k0 hk0 (F264_8 k0 n) hk1 v4 v5 v6 v7 v8 h _ e
            · refine zF_blk (m := []) (d := 0) (b := B264_32) (gs := [¬ 2 = 0, ¬ ((wsub (wsub v7 1) (wdiv r3 2)) ≤ 0)]) (c' := (295, [some (22, 0), none, none, none, some (0, v4), some (0, v5), some (0, v6), some (0, v7), some (0, v8), some (0, r3)], [], (hc, h, o))) K264_32 rfl ⟨by decide, q8, trivial⟩ ?_
              obtain ⟨q9, e⟩ := zG_s e
              obtain ⟨r4, q10, e⟩ := zB_s e
              refine zF_blk (m := []) (d := 0) (b := B264_30) (gs := [0 ≤ v6 ∧ v6 < 6]) (c' := (308, [some (22, 0), none, none, none, some (0, v4), some (0, v5), some (0, v6), some (0, v7), some (0, v8), some (0, r3)], [(0, v8), (22, 0), (0, (h 30 v6)), (0, v8), (22, 0)], (hc, h, o))) K264_30 rfl ⟨q9, trivial⟩ ?_
              refine zF_call (k := 232) (cl := 12) (n := 2) (i := .invokevirtual 282) (args := [(22, 0), (0, v8)]) (rest := [(0, (h 30 v6)), (0, v8), (22, 0)]) (g1 := (hc, h, o)) (r1 := some (0, r4)) (zCk1_w (by decide +kernel)) rfl rfl rfl (st' := [(0, r4), (0, (h 30 v6)), (0, v8), (22, 0)]) rfl (S232 (Nat.le_trans (by decide) hd) v8 h _ q10) ?_
              obtain ⟨r5, q11, e⟩ := zB_s e
              refine zF_blk (m := []) (d := 0) (b := B264_31) (gs := [¬ 2 = 0]) (c' := (321, [some (22, 0), none, none, none, some (0, v4), some (0, v5), some (0, v6), some (0, v7), some (0, v8), some (0, r3)], [(0, (wsub (wsub v7 1) (wdiv r3 2))), (0, (wadd (h 30 v6) r4)), (0, v8), (22, 0)], (hc, h, o))) K264_31 rfl ⟨by decide, trivial⟩ ?_
              refine zF_call (k := 265) (cl := 12) (n := 4) (i := .invokevirtual 342) (args := [(22, 0), (0, v8), (0, (wadd (h 30 v6) r4)), (0, (wsub (wsub v7 1) (wdiv r3 2)))]) (rest := []) (g1 := (hc, r5, o)) (r1 := none) (zCk1_w (by decide +kernel)) rfl rfl rfl (st' := []) rfl (S265 (Nat.le_trans (by decide) hd) v8 (wadd (h 30 v6) r4) (wsub (wsub v7 1) (wdiv r3 2)) h _ q11) ?_
              refine zF_blk (m := [true, false, false, false, true, true, true, true, true, false]) (d := 0) (b := []) (gs := []) (c' := (324, [some (22, 0), none, none, none, some (0, v4), some (0, v5), some (0, v6), some (0, v7), some (0, v8), none], [], (hc, r5, o))) rfl rfl trivial ?_
              exact T264_10 hd k0 hk0 (F264_8 k0 n) hk1 v4 v5 v6 v7 v8 r5 _ e
def F264_5 (k0 : Int → Int → zHM → Option zHM) (v4 : Int) (v5 : Int) (v6 : Int) (v7 : Int) (s0 : Int) (s1 : Int) (h : zHM) : Option zHM := zG (0 ≤ s1 ∧ s1 < 6) (F264_8 k0 zFu v4 v5 v6 v7 0 (mset h 33 s1 s0))
set_option maxRecDepth 100000 in
theorem T264_5 {spec : zRn zH2} {hc : zHC} {o : Int → Int} {d : Nat} (hd : 3 ≤ d) (k0 : Int → Int → zHM → Option zHM) (hk0 : ∀ (v4 : Int) (v5 : Int) (h : zHM) (v : zHM), k0 v4 v5 h = some v → zFin 0 (fun _ => 0) (zRu2 spec d) 264 none (hc, v, o) (100, [some (22, 0), none, none, none, some (0, v4), some (0, v5), none, none, none, none], [], (hc, h, o))) (v4 : Int) (v5 : Int) (v6 : Int) (v7 : Int) (s0 : Int) (s1 : Int) (h : zHM) (v : zHM) (e : F264_5 k0 v4 v5 v6 v7 s0 s1 h = some v) : zFin 0 (fun _ => 0) (zRu2 spec d) 264 none (hc, v, o) (236, [some (22, 0), none, none, none, some (0, v4), some (0, v5), some (0, v6), some (0, v7), none, none], [(0, s0), (0, s1), (1342185225, 0)], (hc, h, o)) := by
  unfold F264_5 at e
  obtain ⟨q1, e⟩ := zG_s e
  refine zF_blk (m := []) (d := 0) (b := B264_27) (gs := [0 ≤ s1 ∧ s1 < 6]) (c' := (240, [some (22, 0), none, none, none, some (0, v4), some (0, v5), some (0, v6), some (0, v7), some (0, 0), none], [], (hc, (mset h 33 s1 s0), o))) K264_27 rfl ⟨q1, trivial⟩ ?_
  exact T264_8 hd k0 hk0 zFu v4 v5 v6 v7 0 (mset h 33 s1 s0) _ e
def F264_6 (k0 : Int → Int → zHM → Option zHM) (k1 : Int → Int → Int → Int → zHM → Option zHM) (v4 : Int) (v5 : Int) (v6 : Int) (v7 : Int) (h : zHM) : Option zHM := k1 v4 v5 v6 (wadd v7 1) h
set_option maxRecDepth 100000 in
theorem T264_6 {spec : zRn zH2} {hc : zHC} {o : Int → Int} {d : Nat} (hd : 3 ≤ d) (k0 : Int → Int → zHM → Option zHM) (hk0 : ∀ (v4 : Int) (v5 : Int) (h : zHM) (v : zHM), k0 v4 v5 h = some v → zFin 0 (fun _ => 0) (zRu2 spec d) 264 none (hc, v, o) (100, [some (22, 0), none, none, none, some (0, v4), some (0, v5), none, none, none, none], [], (hc, h, o))) (k1 : Int → Int → Int → Int → zHM → Option zHM) (hk1 : ∀ (v4 : Int) (v5 : Int) (v6 : Int) (v7 : Int) (h : zHM) (v : zHM), k1 v4 v5 v6 v7 h = some v → zFin 0 (fun _ => 0) (zRu2 spec d) 264 none (hc, v, o) (113, [some (22, 0), none, none, none, some (0, v4), some (0, v5), some (0, v6), some (0, v7), none, none], [], (hc, h, o))) (v4 : Int) (v5 : Int) (v6 : Int) (v7 : Int) (h : zHM) (v : zHM) (e : F264_6 k0 k1 v4 v5 v6 v7 h = some v) : zFin 0 (fun _ => 0) (zRu2 spec d) 264 none (hc, v, o) (168, [some (22, 0), none, none, none, some (0, v4), some (0, v5), some (0, v6), some (0, v7), none, none], [], (hc, h, o)) := by
  unfold F264_6 at e
  refine zF_blk (m := []) (d := 0) (b := B264_26) (gs := []) (c' := (113, [some (22, 0), none, none, none, some (0, v4), some (0, v5), some (0, v6), some (0, (wadd v7 1)), none, none], [], (hc, h, o))) K264_26 rfl trivial ?_
  exact hk1 v4 v5 v6 (wadd v7 1) h _ e
def F264_7 (k0 : Int → Int → zHM → Option zHM) (k1 : Int → Int → Int → Int → zHM → Option zHM) (v4 : Int) (v5 : Int) (v7 : Int) (h : zHM) : Option zHM := F264_6 k0 k1 v4 v5 v7 v7 h
set_option maxRecDepth 100000 in
theorem T264_7 {spec : zRn zH2} {hc : zHC} {o : Int → Int} {d : Nat} (hd : 3 ≤ d) (k0 : Int → Int → zHM → Option zHM) (hk0 : ∀ (v4 : Int) (v5 : Int) (h : zHM) (v : zHM), k0 v4 v5 h = some v → zFin 0 (fun _ => 0) (zRu2 spec d) 264 none (hc, v, o) (100, [some (22, 0), none, none, none, some (0, v4), some (0, v5), none, none, none, none], [], (hc, h, o))) (k1 : Int → Int → Int → Int → zHM → Option zHM) (hk1 : ∀ (v4 : Int) (v5 : Int) (v6 : Int) (v7 : Int) (h : zHM) (v : zHM), k1 v4 v5 v6 v7 h = some v → zFin 0 (fun _ => 0) (zRu2 spec d) 264 none (hc, v, o) (113, [some (22, 0), none, none, none, some (0, v4), some (0, v5), some (0, v6), some (0, v7), none, none], [], (hc, h, o))) (v4 : Int) (v5 : Int) (v7 : Int) (h : zHM) (v : zHM) (e : F264_7 k0 k1 v4 v5 v7 h = some v) : zFin 0 (fun _ => 0) (zRu2 spec d) 264 none (hc, v, o) (164, [some (22, 0), none, none, none, some (0, v4), some (0, v5), none, some (0, v7), none, none], [], (hc, h, o)) := by
  unfold F264_7 at e
  refine zF_blk (m := []) (d := 0) (b := B264_25) (gs := []) (c' := (168, [some (22, 0), none, none, none, some (0, v4), some (0, v5), some (0, v7), some (0, v7), none, none], [], (hc, h, o))) K264_25 rfl trivial ?_
  exact T264_6 hd k0 hk0 k1 hk1 v4 v5 v7 v7 h _ e
def F264_4 (k0 : Int → Int → zHM → Option zHM) : Nat → Int → Int → Int → Int → zHM → Option zHM
  | 0, _, _, _, _, _ => none
  | n + 1, v4, v5, v6, v7, h => if v4 ≤ v7 then if ¬ v6 = (-1) then zG (0 ≤ v6 ∧ v6 < 6) (zG (0 ≤ v6 ∧ v6 < 6) ((F207 v6 (mset h 32 v6 1)).bind fun r1 => zG (0 ≤ v6 ∧ v6 < 6) ((F208 (h 30 v6) (mset h 32 v6 1)).bind fun r2 => (F238 (h 31 v6) (wsub r1 r2)).bind fun r3 => if 0 ≤ r3 then F264_5 k0 v4 v5 v6 r3 r3 v6 (mset h 32 v6 1) else F264_5 k0 v4 v5 v6 r3 0 v6 (mset h 32 v6 1)))) else some h else zG (0 ≤ v7 ∧ v7 < 6) (if ¬ (h 32 v7) = 0 then F264_6 k0 (F264_4 k0 n) v4 v5 v6 v7 h else zG (0 ≤ v7 ∧ v7 < 6) (if (h 30 v7) = (-1) then F264_6 k0 (F264_4 k0 n) v4 v5 v6 v7 h else if v6 = (-1) then F264_7 k0 (F264_4 k0 n) v4 v5 v7 h else zG (0 ≤ v7 ∧ v7 < 6) (zG (0 ≤ v6 ∧ v6 < 6) (if (h 30 v6) ≤ (h 30 v7) then F264_6 k0 (F264_4 k0 n) v4 v5 v6 v7 h else F264_7 k0 (F264_4 k0 n) v4 v5 v7 h))))
set_option maxRecDepth 100000 in
theorem T264_4 {spec : zRn zH2} {hc : zHC} {o : Int → Int} {d : Nat} (hd : 3 ≤ d) (k0 : Int → Int → zHM → Option zHM) (hk0 : ∀ (v4 : Int) (v5 : Int) (h : zHM) (v : zHM), k0 v4 v5 h = some v → zFin 0 (fun _ => 0) (zRu2 spec d) 264 none (hc, v, o) (100, [some (22, 0), none, none, none, some (0, v4), some (0, v5), none, none, none, none], [], (hc, h, o))) : ∀ (n : Nat) (v4 : Int) (v5 : Int) (v6 : Int) (v7 : Int) (h : zHM) (v : zHM), F264_4 k0 n v4 v5 v6 v7 h = some v → zFin 0 (fun _ => 0) (zRu2 spec d) 264 none (hc, v, o) (113, [some (22, 0), none, none, none, some (0, v4), some (0, v5), some (0, v6), some (0, v7), none, none], [], (hc, h, o)) := by
  intro n
  induction n with
  | zero => intro v4 v5 v6 v7 h v e; unfold F264_4 at e; cases e
  | succ n hk1 =>
    intro v4 v5 v6 v7 h v e
    unfold F264_4 at e
    rcases zI_s e with ⟨q1, e⟩ | ⟨q1, e⟩
    · refine zF_blk (m := []) (d := 1) (b := B264_24) (gs := [v4 ≤ v7]) (c' := (174, [some (22, 0), none, none, none, some (0, v4), some (0, v5), some (0, v6), some (0, v7), none, none], [], (hc, h, o))) K264_24 rfl ⟨q1, trivial⟩ ?_
      rcases zI_s e with ⟨q2, e⟩ | ⟨q2, e⟩
      · refine zF_blk (m := []) (d := 1) (b := B264_19) (gs := [¬ v6 = (-1)]) (c' := (181, [some (22, 0), none, none, none, some (0, v4), some (0, v5), some (0, v6), some (0, v7), none, none], [], (hc, h, o))) K264_19 rfl ⟨q2, trivial⟩ ?_
        obtain ⟨q3, e⟩ := zG_s e
        obtain ⟨q3, e⟩ := zG_s e
        obtain ⟨r1, q4, e⟩ := zB_s e
        refine zF_blk (m := []) (d := 0) (b := B264_13) (gs := [0 ≤ v6 ∧ v6 < 6, 0 ≤ v6 ∧ v6 < 6]) (c' := (199, [some (22, 0), none, none, none, some (0, v4), some (0, v5), some (0, v6), some (0, v7), none, none], [(0, v6), (22, 0), (0, (h 31 v6))], (hc, (mset h 32 v6 1), o))) K264_13 rfl ⟨q3, q3, trivial⟩ ?_
        refine zF_call (k := 207) (cl := 12) (n := 2) (i := .invokevirtual 241) (args := [(22, 0), (0, v6)]) (rest := [(0, (h 31 v6))]) (g1 := (hc, (mset h 32 v6 1), o)) (r1 := some (0, r1)) (zCk1_w (by decide +kernel)) rfl rfl rfl (st' := [(0, r1), (0, (h 31 v6))]) rfl (S207 (Nat.le_trans (by decide) hd) v6 (mset h 32 v6 1) _ q4) ?_
        obtain ⟨q5, e⟩ := zG_s e
        obtain ⟨r2, q6, e⟩ := zB_s e
        refine zF_blk (m := []) (d := 0) (b := B264_14) (gs := [0 ≤ v6 ∧ v6 < 6]) (c' := (210, [some (22, 0), none, none, none, some (0, v4), some (0, v5), some (0, v6), some (0, v7), none, none], [(0, (h 30 v6)), (22, 0), (0, r1), (0, (h 31 v6))], (hc, (mset h 32 v6 1), o))) K264_14 rfl ⟨q5, trivial⟩ ?_
        refine zF_call (k := 208) (cl := 12) (n := 2) (i := .invokevirtual 244) (args := [(22, 0), (0, (h 30 v6))]) (rest := [(0, r1), (0, (h 31 v6))]) (g1 := (hc, (mset h 32 v6 1), o)) (r1 := some (0, r2)) (zCk1_w (by decide +kernel)) rfl rfl rfl (st' := [(0, r2), (0, r1), (0, (h 31 v6))]) rfl (S208 (Nat.le_trans (by decide) hd) (h 30 v6) (mset h 32 v6 1) _ q6) ?_
        obtain ⟨r3, q7, e⟩ := zB_s e
        refine zF_blk (m := []) (d := 0) (b := B264_15) (gs := []) (c' := (214, [some (22, 0), none, none, none, some (0, v4), some (0, v5), some (0, v6), some (0, v7), none, none], [(0, (wsub r1 r2)), (0, (h 31 v6))], (hc, (mset h 32 v6 1), o))) K264_15 rfl trivial ?_
        refine zF_call (k := 238) (cl := 12) (n := 2) (i := .invokestatic 295) (args := [(0, (h 31 v6)), (0, (wsub r1 r2))]) (rest := []) (g1 := (hc, (mset h 32 v6 1), o)) (r1 := some (0, r3)) (zCk1_w (by decide +kernel)) rfl rfl rfl (st' := [(0, r3)]) rfl (S238 (Nat.le_trans (by decide) hd) (h 31 v6) (wsub r1 r2) (mset h 32 v6 1) _ q7) ?_
        rcases zI_s e with ⟨q8, e⟩ | ⟨q8, e⟩
        · refine zF_blk (m := []) (d := 1) (b := B264_18) (gs := [0 ≤ r3]) (c' := (234, [some (22, 0), none, none, none, some (0, v4), some (0, v5), some (0, v6), some (0, r3), none, none], [(0, v6), (1342185225, 0)], (hc, (mset h 32 v6 1), o))) K264_18 rfl ⟨q8, trivial⟩ ?_
          refine zF_blk (m := []) (d := 0) (b := B264_16) (gs := []) (c' := (236, [some (22, 0), none, none, none, some (0, v4), some (0, v5), some (0, v6), some (0, r3), none, none], [(0, r3), (0, v6), (1342185225, 0)], (hc, (mset h 32 v6 1), o))) K264_16 rfl trivial ?_
          exact T264_5 hd k0 hk0 v4 v5 v6 r3 r3 v6 (mset h 32 v6 1) _ e
        · refine zF_blk (m := []) (d := 0) (b := B264_18) (gs := [¬ (0 ≤ r3)]) (c' := (230, [some (22, 0), none, none, none, some (0, v4), some (0, v5), some (0, v6), some (0, r3), none, none], [(0, v6), (1342185225, 0)], (hc, (mset h 32 v6 1), o))) K264_18 rfl ⟨q8, trivial⟩ ?_
          refine zF_blk (m := []) (d := 0) (b := B264_17) (gs := []) (c' := (236, [some (22, 0), none, none, none, some (0, v4), some (0, v5), some (0, v6), some (0, r3), none, none], [(0, 0), (0, v6), (1342185225, 0)], (hc, (mset h 32 v6 1), o))) K264_17 rfl trivial ?_
          exact T264_5 hd k0 hk0 v4 v5 v6 r3 0 v6 (mset h 32 v6 1) _ e
      · refine zF_blk (m := []) (d := 0) (b := B264_19) (gs := [¬ (¬ v6 = (-1))]) (c' := (180, [some (22, 0), none, none, none, some (0, v4), some (0, v5), some (0, v6), some (0, v7), none, none], [], (hc, h, o))) K264_19 rfl ⟨q2, trivial⟩ ?_
        obtain rfl := Option.some.inj e
        exact zF_rv (zRe1_w (by decide +kernel))
    · refine zF_blk (m := []) (d := 0) (b := B264_24) (gs := [¬ (v4 ≤ v7)]) (c' := (120, [some (22, 0), none, none, none, some (0, v4), some (0, v5), some (0, v6), some (0, v7), none, none], [], (hc, h, o))) K264_24 rfl ⟨q1, trivial⟩ ?_
      obtain ⟨q9, e⟩ := zG_s e
      rcases zI_s e with ⟨q10, e⟩ | ⟨q10, e⟩
      · refine zF_blk (m := []) (d := 1) (b := B264_23) (gs := [0 ≤ v7 ∧ v7 < 6, ¬ (h 32 v7) = 0]) (c' := (168, [some (22, 0), none, none, none, some (0, v4), some (0, v5), some (0, v6), some (0, v7), none, none], [], (hc, h, o))) K264_23 rfl ⟨q9, q10, trivial⟩ ?_
        exact T264_6 hd k0 hk0 (F264_4 k0 n) hk1 v4 v5 v6 v7 h _ e
      · refine zF_blk (m := []) (d := 0) (b := B264_23) (gs := [0 ≤ v7 ∧ v7 < 6, ¬ (¬ (h 32 v7) = 0)]) (c' := (130, [some (22, 0), none, none, none, some (0, v4), some (0, v5), some (0, v6), some (0, v7), none, none], [], (hc, h, o))) K264_23 rfl ⟨q9, q10, trivial⟩ ?_
        obtain ⟨q11, e⟩ := zG_s e
        rcases zI_s e with ⟨q12, e⟩ | ⟨q12, e⟩
        · refine zF_blk (m := []) (d := 1) (b := B264_22) (gs := [0 ≤ v7 ∧ v7 < 6, (h 30 v7) = (-1)]) (c' := (168, [some (22, 0), none, none, none, some (0, v4), some (0, v5), some (0, v6), some (0, v7), none, none], [], (hc, h, o))) K264_22 rfl ⟨q11, q12, trivial⟩ ?_
          exact T264_6 hd k0 hk0 (F264_4 k0 n) hk1 v4 v5 v6 v7 h _ e
        · refine zF_blk (m := []) (d := 0) (b := B264_22) (gs := [0 ≤ v7 ∧ v7 < 6, ¬ ((h 30 v7) = (-1))]) (c' := (141, [some (22, 0), none, none, none, some (0, v4), some (0, v5), some (0, v6), some (0, v7), none, none], [], (hc, h, o))) K264_22 rfl ⟨q11, q12, trivial⟩ ?_
          rcases zI_s e with ⟨q13, e⟩ | ⟨q13, e⟩
          · refine zF_blk (m := []) (d := 1) (b := B264_21) (gs := [v6 = (-1)]) (c' := (164, [some (22, 0), none, none, none, some (0, v4), some (0, v5), some (0, v6), some (0, v7), none, none], [], (hc, h, o))) K264_21 rfl ⟨q13, trivial⟩ ?_
            refine zF_blk (m := [true, false, false, false, true, true, false, true, false, false]) (d := 0) (b := []) (gs := []) (c' := (164, [some (22, 0), none, none, none, some (0, v4), some (0, v5), none, some (0, v7), none, none], [], (hc, h, o))) rfl rfl trivial ?_
            exact T264_7 hd k0 hk0 (F264_4 k0 n) hk1 v4 v5 v7 h _ e
          · refine zF_blk (m := []) (d := 0) (b := B264_21) (gs := [¬ (v6 = (-1))]) (c' := (147, [some (22, 0), none, none, none, some (0, v4), some (0, v5), some (0, v6), some (0, v7), none, none], [], (hc, h, o))) K264_21 rfl ⟨q13, trivial⟩ ?_
            obtain ⟨q14, e⟩ := zG_s e
            obtain ⟨q15, e⟩ := zG_s e
            rcases zI_s e with ⟨q16, e⟩ | ⟨q16, e⟩
            · refine zF_blk (m := []) (d := 1) (b := B264_20) (gs := [0 ≤ v7 ∧ v7 < 6, 0 ≤ v6 ∧ v6 < 6, (h 30 v6) ≤ (h 30 v7)]) (c' := (168, [some (22, 0), none, none, none, some (0, v4), some (0, v5), some (0, v6), some (0, v7), none, none], [], (hc, h, o))) K264_20 rfl ⟨q14, q15, q16, trivial⟩ ?_
              exact T264_6 hd k0 hk0 (F264_4 k0 n) hk1 v4 v5 v6 v7 h _ e
            · refine zF_blk (m := []) (d := 0) (b := B264_20) (gs := [0 ≤ v7 ∧ v7 < 6, 0 ≤ v6 ∧ v6 < 6, ¬ ((h 30 v6) ≤ (h 30 v7))]) (c' := (164, [some (22, 0), none, none, none, some (0, v4), some (0, v5), some (0, v6), some (0, v7), none, none], [], (hc, h, o))) K264_20 rfl ⟨q14, q15, q16, trivial⟩ ?_
              refine zF_blk (m := [true, false, false, false, true, true, false, true, false, false]) (d := 0) (b := []) (gs := []) (c' := (164, [some (22, 0), none, none, none, some (0, v4), some (0, v5), none, some (0, v7), none, none], [], (hc, h, o))) rfl rfl trivial ?_
              exact T264_7 hd k0 hk0 (F264_4 k0 n) hk1 v4 v5 v7 h _ e
def F264_2 : Nat → Int → Int → zHM → Option zHM
  | 0, _, _, _ => none
  | n + 1, v4, v5, h => if v4 ≤ v5 then some h else F264_4 (F264_2 n) zFu v4 v5 (-1) 0 h
set_option maxRecDepth 100000 in
theorem T264_2 {spec : zRn zH2} {hc : zHC} {o : Int → Int} {d : Nat} (hd : 3 ≤ d) : ∀ (n : Nat) (v4 : Int) (v5 : Int) (h : zHM) (v : zHM), F264_2 n v4 v5 h = some v → zFin 0 (fun _ => 0) (zRu2 spec d) 264 none (hc, v, o) (100, [some (22, 0), none, none, none, some (0, v4), some (0, v5), none, none, none, none], [], (hc, h, o)) := by
  intro n
  induction n with
  | zero => intro v4 v5 h v e; unfold F264_2 at e; cases e
  | succ n hk0 =>
    intro v4 v5 h v e
    unfold F264_2 at e
    rcases zI_s e with ⟨q1, e⟩ | ⟨q1, e⟩
    · refine zF_blk (m := []) (d := 1) (b := B264_12) (gs := [v4 ≤ v5]) (c' := (336, [some (22, 0), none, none, none, some (0, v4), some (0, v5), none, none, none, none], [], (hc, h, o))) K264_12 rfl ⟨q1, trivial⟩ ?_
      obtain rfl := Option.some.inj e
      exact zF_rv (zRe1_w (by decide +kernel))
    · refine zF_blk (m := []) (d := 0) (b := B264_12) (gs := [¬ (v4 ≤ v5)]) (c' := (107, [some (22, 0), none, none, none, some (0, v4), some (0, v5), none, none, none, none], [], (hc, h, o))) K264_12 rfl ⟨q1, trivial⟩ ?_
      refine zF_blk (m := []) (d := 0) (b := B264_11) (gs := []) (c' := (113, [some (22, 0), none, none, none, some (0, v4), some (0, v5), some (0, (-1)), some (0, 0), none, none], [], (hc, h, o))) K264_11 rfl trivial ?_
      exact T264_4 hd (F264_2 n) hk0 zFu v4 v5 (-1) 0 h _ e
def F264_3 (k0 : Int → Int → Int → Int → Int → zHM → Option zHM) (v1 : Int) (v2 : Int) (v3 : Int) (v4 : Int) (v5 : Int) (h : zHM) : Option zHM := k0 v1 v2 v3 v4 (wadd v5 1) h
set_option maxRecDepth 100000 in
theorem T264_3 {spec : zRn zH2} {hc : zHC} {o : Int → Int} {d : Nat} (hd : 3 ≤ d) (k0 : Int → Int → Int → Int → Int → zHM → Option zHM) (hk0 : ∀ (v1 : Int) (v2 : Int) (v3 : Int) (v4 : Int) (v5 : Int) (h : zHM) (v : zHM), k0 v1 v2 v3 v4 v5 h = some v → zFin 0 (fun _ => 0) (zRu2 spec d) 264 none (hc, v, o) (51, [some (22, 0), some (0, v1), some (0, v2), some (0, v3), some (0, v4), some (0, v5), none, none, none, none], [], (hc, h, o))) (v1 : Int) (v2 : Int) (v3 : Int) (v4 : Int) (v5 : Int) (h : zHM) (v : zHM) (e : F264_3 k0 v1 v2 v3 v4 v5 h = some v) : zFin 0 (fun _ => 0) (zRu2 spec d) 264 none (hc, v, o) (91, [some (22, 0), some (0, v1), some (0, v2), some (0, v3), some (0, v4), some (0, v5), none, none, none, none], [], (hc, h, o)) := by
  unfold F264_3 at e
  refine zF_blk (m := []) (d := 0) (b := B264_10) (gs := []) (c' := (51, [some (22, 0), some (0, v1), some (0, v2), some (0, v3), some (0, v4), some (0, (wadd v5 1)), none, none, none, none], [], (hc, h, o))) K264_10 rfl trivial ?_
  exact hk0 v1 v2 v3 v4 (wadd v5 1) h _ e
def F264_1 : Nat → Int → Int → Int → Int → Int → zHM → Option zHM
  | 0, _, _, _, _, _, _ => none
  | n + 1, v1, v2, v3, v4, v5, h => if v4 ≤ v5 then F264_2 zFu v4 0 h else (F259 v5 v1 v3 h).bind fun r1 => if r1 ≤ 0 then F264_3 (F264_1 n) v1 v2 v3 v4 v5 h else (F232 v5 h).bind fun r2 => (F259 v5 v1 v3 h).bind fun r3 => (F265 v5 (wadd v2 r2) r3 h).bind fun r4 => F264_3 (F264_1 n) v1 v2 v3 v4 v5 r4
set_option maxRecDepth 100000 in
theorem T264_1 {spec : zRn zH2} {hc : zHC} {o : Int → Int} {d : Nat} (hd : 3 ≤ d) : ∀ (n : Nat) (v1 : Int) (v2 : Int) (v3 : Int) (v4 : Int) (v5 : Int) (h : zHM) (v : zHM), F264_1 n v1 v2 v3 v4 v5 h = some v → zFin 0 (fun _ => 0) (zRu2 spec d) 264 none (hc, v, o) (51, [some (22, 0), some (0, v1), some (0, v2), some (0, v3), some (0, v4), some (0, v5), none, none, none, none], [], (hc, h, o)) := by
  intro n
  induction n with
  | zero => intro v1 v2 v3 v4 v5 h v e; unfold F264_1 at e; cases e
  | succ n hk0 =>
    intro v1 v2 v3 v4 v5 h v e
    unfold F264_1 at e
    rcases zI_s e with ⟨q1, e⟩ | ⟨q1, e⟩
    · refine zF_blk (m := []) (d := 1) (b := B264_9) (gs := [v4 ≤ v5]) (c' := (97, [some (22, 0), some (0, v1), some (0, v2), some (0, v3), some (0, v4), some (0, v5), none, none, none, none], [], (hc, h, o))) K264_9 rfl ⟨q1, trivial⟩ ?_
      refine zF_blk (m := []) (d := 0) (b := B264_4) (gs := []) (c' := (100, [some (22, 0), some (0, v1), some (0, v2), some (0, v3), some (0, v4), some (0, 0), none, none, none, none], [], (hc, h, o))) K264_4 rfl trivial ?_
      refine zF_blk (m := [true, false, false, false, true, true, false, false, false, false]) (d := 0) (b := []) (gs := []) (c' := (100, [some (22, 0), none, none, none, some (0, v4), some (0, 0), none, none, none, none], [], (hc, h, o))) rfl rfl trivial ?_
      exact T264_2 hd zFu v4 0 h _ e
    · refine zF_blk (m := []) (d := 0) (b := B264_9) (gs := [¬ (v4 ≤ v5)]) (c' := (58, [some (22, 0), some (0, v1), some (0, v2), some (0, v3), some (0, v4), some (0, v5), none, none, none, none], [], (hc, h, o))) K264_9 rfl ⟨q1, trivial⟩ ?_
      obtain ⟨r1, q2, e⟩ := zB_s e
      refine zF_blk (m := []) (d := 0) (b := B264_5) (gs := []) (c' := (63, [some (22, 0), some (0, v1), some (0, v2), some (0, v3), some (0, v4), some (0, v5), none, none, none, none], [(0, v3), (0, v1), (0, v5), (22, 0)], (hc, h, o))) K264_5 rfl trivial ?_
      refine zF_call (k := 259) (cl := 12) (n := 4) (i := .invokevirtual 339) (args := [(22, 0), (0, v5), (0, v1), (0, v3)]) (rest := []) (g1 := (hc, h, o)) (r1 := some (0, r1)) (zCk1_w (by decide +kernel)) rfl rfl rfl (st' := [(0, r1)]) rfl (S259 (Nat.le_trans (by decide) hd) v5 v1 v3 h _ q2) ?_
      rcases zI_s e with ⟨q3, e⟩ | ⟨q3, e⟩
      · refine zF_blk (m := []) (d := 1) (b := B264_8) (gs := [r1 ≤ 0]) (c' := (91, [some (22, 0), some (0, v1), some (0, v2), some (0, v3), some (0, v4), some (0, v5), none, none, none, none], [], (hc, h, o))) K264_8 rfl ⟨q3, trivial⟩ ?_
        exact T264_3 hd (F264_1 n) hk0 v1 v2 v3 v4 v5 h _ e
      · refine zF_blk (m := []) (d := 0) (b := B264_8) (gs := [¬ (r1 ≤ 0)]) (c' := (69, [some (22, 0), some (0, v1), some (0, v2), some (0, v3), some (0, v4), some (0, v5), none, none, none, none], [], (hc, h, o))) K264_8 rfl ⟨q3, trivial⟩ ?_
        obtain ⟨r2, q4, e⟩ := zB_s e
        refine zF_blk (m := []) (d := 0) (b := B264_6) (gs := []) (c' := (76, [some (22, 0), some (0, v1), some (0, v2), some (0, v3), some (0, v4), some (0, v5), none, none, none, none], [(0, v5), (22, 0), (0, v2), (0, v5), (22, 0)], (hc, h, o))) K264_6 rfl trivial ?_
        refine zF_call (k := 232) (cl := 12) (n := 2) (i := .invokevirtual 282) (args := [(22, 0), (0, v5)]) (rest := [(0, v2), (0, v5), (22, 0)]) (g1 := (hc, h, o)) (r1 := some (0, r2)) (zCk1_w (by decide +kernel)) rfl rfl rfl (st' := [(0, r2), (0, v2), (0, v5), (22, 0)]) rfl (S232 (Nat.le_trans (by decide) hd) v5 h _ q4) ?_
        obtain ⟨r3, q5, e⟩ := zB_s e
        refine zF_blk (m := []) (d := 0) (b := B264_7) (gs := []) (c' := (85, [some (22, 0), some (0, v1), some (0, v2), some (0, v3), some (0, v4), some (0, v5), none, none, none, none], [(0, v3), (0, v1), (0, v5), (22, 0), (0, (wadd v2 r2)), (0, v5), (22, 0)], (hc, h, o))) K264_7 rfl trivial ?_
        refine zF_call (k := 259) (cl := 12) (n := 4) (i := .invokevirtual 339) (args := [(22, 0), (0, v5), (0, v1), (0, v3)]) (rest := [(0, (wadd v2 r2)), (0, v5), (22, 0)]) (g1 := (hc, h, o)) (r1 := some (0, r3)) (zCk1_w (by decide +kernel)) rfl rfl rfl (st' := [(0, r3), (0, (wadd v2 r2)), (0, v5), (22, 0)]) rfl (S259 (Nat.le_trans (by decide) hd) v5 v1 v3 h _ q5) ?_
        obtain ⟨r4, q6, e⟩ := zB_s e
        refine zF_call (k := 265) (cl := 12) (n := 4) (i := .invokevirtual 342) (args := [(22, 0), (0, v5), (0, (wadd v2 r2)), (0, r3)]) (rest := []) (g1 := (hc, r4, o)) (r1 := none) (zCk1_w (by decide +kernel)) rfl rfl rfl (st' := []) rfl (S265 (Nat.le_trans (by decide) hd) v5 (wadd v2 r2) r3 h _ q6) ?_
        exact T264_3 hd (F264_1 n) hk0 v1 v2 v3 v4 v5 r4 _ e
def F264_0 : Nat → Int → Int → Int → Int → Int → zHM → Option zHM
  | 0, _, _, _, _, _, _ => none
  | n + 1, v1, v2, v3, v4, v5, h => if v4 ≤ v5 then F264_1 zFu v1 v2 v3 v4 0 h else zG (0 ≤ v5 ∧ v5 < 6) (zG (0 ≤ v5 ∧ v5 < 6) (zG (0 ≤ v5 ∧ v5 < 6) ((F264_0 n) v1 v2 v3 v4 (wadd v5 1) (mset (mset (mset h 30 v5 (-1)) 32 v5 0) 33 v5 0))))
set_option maxRecDepth 100000 in
theorem T264_0 {spec : zRn zH2} {hc : zHC} {o : Int → Int} {d : Nat} (hd : 3 ≤ d) : ∀ (n : Nat) (v1 : Int) (v2 : Int) (v3 : Int) (v4 : Int) (v5 : Int) (h : zHM) (v : zHM), F264_0 n v1 v2 v3 v4 v5 h = some v → zFin 0 (fun _ => 0) (zRu2 spec d) 264 none (hc, v, o) (11, [some (22, 0), some (0, v1), some (0, v2), some (0, v3), some (0, v4), some (0, v5), none, none, none, none], [], (hc, h, o)) := by
  intro n
  induction n with
  | zero => intro v1 v2 v3 v4 v5 h v e; unfold F264_0 at e; cases e
  | succ n hk0 =>
    intro v1 v2 v3 v4 v5 h v e
    unfold F264_0 at e
    rcases zI_s e with ⟨q1, e⟩ | ⟨q1, e⟩
    · refine zF_blk (m := []) (d := 1) (b := B264_3) (gs := [v4 ≤ v5]) (c' := (48, [some (22, 0), some (0, v1), some (0, v2), some (0, v3), some (0, v4), some (0, v5), none, none, none, none], [], (hc, h, o))) K264_3 rfl ⟨q1, trivial⟩ ?_
      refine zF_blk (m := []) (d := 0) (b := B264_1) (gs := []) (c' := (51, [some (22, 0), some (0, v1), some (0, v2), some (0, v3), some (0, v4), some (0, 0), none, none, none, none], [], (hc, h, o))) K264_1 rfl trivial ?_
      exact T264_1 hd zFu v1 v2 v3 v4 0 h _ e
    · refine zF_blk (m := []) (d := 0) (b := B264_3) (gs := [¬ (v4 ≤ v5)]) (c' := (18, [some (22, 0), some (0, v1), some (0, v2), some (0, v3), some (0, v4), some (0, v5), none, none, none, none], [], (hc, h, o))) K264_3 rfl ⟨q1, trivial⟩ ?_
      obtain ⟨q2, e⟩ := zG_s e
      obtain ⟨q2, e⟩ := zG_s e
      obtain ⟨q2, e⟩ := zG_s e
      refine zF_blk (m := []) (d := 0) (b := B264_2) (gs := [0 ≤ v5 ∧ v5 < 6, 0 ≤ v5 ∧ v5 < 6, 0 ≤ v5 ∧ v5 < 6]) (c' := (11, [some (22, 0), some (0, v1), some (0, v2), some (0, v3), some (0, v4), some (0, (wadd v5 1)), none, none, none, none], [], (hc, (mset (mset (mset h 30 v5 (-1)) 32 v5 0) 33 v5 0), o))) K264_2 rfl ⟨q2, q2, q2, trivial⟩ ?_
      exact hk0 v1 v2 v3 v4 (wadd v5 1) (mset (mset (mset h 30 v5 (-1)) 32 v5 0) 33 v5 0) _ e
/-- EchoValeModel.soundAll(III)V -/
def F264 (v1 : Int) (v2 : Int) (v3 : Int) (h : zHM) : Option zHM := F264_0 zFu v1 v2 v3 (h 14 2) 0 h
set_option maxRecDepth 100000 in
theorem S264 {spec : zRn zH2} {hc : zHC} {o : Int → Int} {d : Nat} (hd : 4 ≤ d) (v1 : Int) (v2 : Int) (v3 : Int) (h : zHM) (v : zHM) (e : F264 v1 v2 v3 h = some v) : zRu2 spec d 264 [(22, 0), (0, v1), (0, v2), (0, v3)] (hc, h, o) none (hc, v, o) := by
  refine zF_in (D := 3) (mx := 10) (L := [some (22, 0), some (0, v1), some (0, v2), some (0, v3), none, none, none, none, none, none]) (by decide +kernel) rfl rfl hd (fun d hd => ?_)
  unfold F264 at e
  refine zF_blk (m := []) (d := 0) (b := B264_0) (gs := [0 ≤ 2 ∧ 2 < 2140]) (c' := (11, [some (22, 0), some (0, v1), some (0, v2), some (0, v3), some (0, (h 14 2)), some (0, 0), none, none, none, none], [], (hc, h, o))) K264_0 rfl ⟨by decide, trivial⟩ ?_
  exact T264_0 hd zFu v1 v2 v3 (h 14 2) 0 h _ e
noncomputable def B266_0 : List zRow := [(0, .iconst 0, 1, (0, 0, 0)), (1, .istore_n 1, 1, (0, 0, 0))]
theorem K266_0 : zRk 266 B266_0 = true := zRw_ok (by decide +kernel)
noncomputable def B266_1 : List zRow := [(58, .iconst 1, 1, (0, 0, 0))]
theorem K266_1 : zRk 266 B266_1 = true := zRw_ok (by decide +kernel)
noncomputable def B266_2 : List zRow := [(50, .iconst 0, 1, (0, 0, 0))]
theorem K266_2 : zRk 266 B266_2 = true := zRw_ok (by decide +kernel)
noncomputable def B266_3 : List zRow := [(52, .iinc 1 1, 3, (0, 0, 0)), (55, .goto (-53), 3, (0, 0, 0))]
theorem K266_3 : zRk 266 B266_3 = true := zRw_ok (by decide +kernel)
noncomputable def B266_4 : List zRow := [(30, .aload_n 0, 1, (0, 0, 0)), (31, .getfield 57, 3, (12, 30, 5242906)), (34, .aload_n 0, 1, (0, 0, 0)), (35, .getfield 45, 3, (12, 26, 5242906)), (38, .iload_n 1, 1, (0, 0, 0)), (39, .iaload, 1, (0, 0, 0)), (40, .iaload, 1, (0, 0, 0)), (41, .aload_n 0, 1, (0, 0, 0)), (42, .getfield 48, 3, (12, 27, 5242906)), (45, .iload_n 1, 1, (0, 0, 0)), (46, .iaload, 1, (0, 0, 0)), (47, .if_icmp .eq 5, 3, (0, 0, 0))]
theorem K266_4 : zRk 266 B266_4 = true := zRw_ok (by decide +kernel)
noncomputable def B266_5 : List zRow := [(10, .aload_n 0, 1, (0, 0, 0)), (11, .getfield 66, 3, (12, 33, 5242906)), (14, .aload_n 0, 1, (0, 0, 0)), (15, .getfield 45, 3, (12, 26, 5242906)), (18, .iload_n 1, 1, (0, 0, 0)), (19, .iaload, 1, (0, 0, 0)), (20, .iaload, 1, (0, 0, 0)), (21, .aload_n 0, 1, (0, 0, 0)), (22, .getfield 51, 3, (12, 28, 5242906)), (25, .iload_n 1, 1, (0, 0, 0)), (26, .iaload, 1, (0, 0, 0)), (27, .if_icmp .ne 23, 3, (0, 0, 0))]
theorem K266_5 : zRk 266 B266_5 = true := zRw_ok (by decide +kernel)
noncomputable def B266_6 : List zRow := [(2, .iload_n 1, 1, (0, 0, 0)), (3, .aload_n 0, 1, (0, 0, 0)), (4, .getfield 345, 3, (12, 34, 0)), (7, .if_icmp .ge 51, 3, (0, 0, 0))]
theorem K266_6 : zRk 266 B266_6 = true := zRw_ok (by decide +kernel)
def F266_0 (h : zHM) : Nat → Int → Option Int
  | 0, _ => none
  | n + 1, v1 => if (h 34 0) ≤ v1 then some 1 else zG (0 ≤ v1 ∧ v1 < 6) (zG (0 ≤ (h 26 v1) ∧ (h 26 v1) < 6) (zG (0 ≤ v1 ∧ v1 < 6) (if ¬ (h 33 (h 26 v1)) = (h 28 v1) then some 0 else zG (0 ≤ v1 ∧ v1 < 6) (zG (0 ≤ (h 26 v1) ∧ (h 26 v1) < 6) (zG (0 ≤ v1 ∧ v1 < 6) (if (h 30 (h 26 v1)) = (h 27 v1) then (F266_0 h n) (wadd v1 1) else some 0))))))
set_option maxRecDepth 100000 in
theorem T266_0 {spec : zRn zH2} {hc : zHC} {o : Int → Int} {d : Nat} (hd : 0 ≤ d) (h : zHM) : ∀ (n : Nat) (v1 : Int) (v : Int), F266_0 h n v1 = some v → zFin 0 (fun _ => 0) (zRu2 spec d) 266 (some (0, v)) (hc, h, o) (2, [some (22, 0), some (0, v1)], [], (hc, h, o)) := by
  intro n
  induction n with
  | zero => intro v1 v e; unfold F266_0 at e; cases e
  | succ n hk0 =>
    intro v1 v e
    unfold F266_0 at e
    rcases zI_s e with ⟨q1, e⟩ | ⟨q1, e⟩
    · refine zF_blk (m := []) (d := 1) (b := B266_6) (gs := [(h 34 0) ≤ v1]) (c' := (58, [some (22, 0), some (0, v1)], [], (hc, h, o))) K266_6 rfl ⟨q1, trivial⟩ ?_
      refine zF_blk (m := []) (d := 0) (b := B266_1) (gs := []) (c' := (59, [some (22, 0), some (0, v1)], [(0, 1)], (hc, h, o))) K266_1 rfl trivial ?_
      obtain rfl := Option.some.inj e
      exact zF_rb (zRe1_w (by decide +kernel)) (Or.inr rfl)
    · refine zF_blk (m := []) (d := 0) (b := B266_6) (gs := [¬ ((h 34 0) ≤ v1)]) (c' := (10, [some (22, 0), some (0, v1)], [], (hc, h, o))) K266_6 rfl ⟨q1, trivial⟩ ?_
      obtain ⟨q2, e⟩ := zG_s e
      obtain ⟨q3, e⟩ := zG_s e
      obtain ⟨q2, e⟩ := zG_s e
      rcases zI_s e with ⟨q4, e⟩ | ⟨q4, e⟩
      · refine zF_blk (m := []) (d := 1) (b := B266_5) (gs := [0 ≤ v1 ∧ v1 < 6, 0 ≤ (h 26 v1) ∧ (h 26 v1) < 6, 0 ≤ v1 ∧ v1 < 6, ¬ (h 33 (h 26 v1)) = (h 28 v1)]) (c' := (50, [some (22, 0), some (0, v1)], [], (hc, h, o))) K266_5 rfl ⟨q2, q3, q2, q4, trivial⟩ ?_
        refine zF_blk (m := []) (d := 0) (b := B266_2) (gs := []) (c' := (51, [some (22, 0), some (0, v1)], [(0, 0)], (hc, h, o))) K266_2 rfl trivial ?_
        obtain rfl := Option.some.inj e
        exact zF_rb (zRe1_w (by decide +kernel)) (Or.inl rfl)
      · refine zF_blk (m := []) (d := 0) (b := B266_5) (gs := [0 ≤ v1 ∧ v1 < 6, 0 ≤ (h 26 v1) ∧ (h 26 v1) < 6, 0 ≤ v1 ∧ v1 < 6, ¬ (¬ (h 33 (h 26 v1)) = (h 28 v1))]) (c' := (30, [some (22, 0), some (0, v1)], [], (hc, h, o))) K266_5 rfl ⟨q2, q3, q2, q4, trivial⟩ ?_
        obtain ⟨q5, e⟩ := zG_s e
        obtain ⟨q6, e⟩ := zG_s e
        obtain ⟨q5, e⟩ := zG_s e
        rcases zI_s e with ⟨q7, e⟩ | ⟨q7, e⟩
        · refine zF_blk (m := []) (d := 1) (b := B266_4) (gs := [0 ≤ v1 ∧ v1 < 6, 0 ≤ (h 26 v1) ∧ (h 26 v1) < 6, 0 ≤ v1 ∧ v1 < 6, (h 30 (h 26 v1)) = (h 27 v1)]) (c' := (52, [some (22, 0), some (0, v1)], [], (hc, h, o))) K266_4 rfl ⟨q5, q6, q5, q7, trivial⟩ ?_
          refine zF_blk (m := []) (d := 0) (b := B266_3) (gs := []) (c' := (2, [some (22, 0), some (0, (wadd v1 1))], [], (hc, h, o))) K266_3 rfl trivial ?_
          exact hk0 (wadd v1 1) _ e
        · refine zF_blk (m := []) (d := 0) (b := B266_4) (gs := [0 ≤ v1 ∧ v1 < 6, 0 ≤ (h 26 v1) ∧ (h 26 v1) < 6, 0 ≤ v1 ∧ v1 < 6, ¬ ((h 30 (h 26 v1)) = (h 27 v1))]) (c' := (50, [some (22, 0), some (0, v1)], [], (hc, h, o))) K266_4 rfl ⟨q5, q6, q5, q7, trivial⟩ ?_
          refine zF_blk (m := []) (d := 0) (b := B266_2) (gs := []) (c' := (51, [some (22, 0), some (0, v1)], [(0, 0)], (hc, h, o))) K266_2 rfl trivial ?_
          obtain rfl := Option.some.inj e
          exact zF_rb (zRe1_w (by decide +kernel)) (Or.inl rfl)
/-- EchoValeModel.allSound()Z -/
def F266 (h : zHM) : Option Int := F266_0 h zFu 0
set_option maxRecDepth 100000 in
theorem S266 {spec : zRn zH2} {hc : zHC} {o : Int → Int} {d : Nat} (hd : 1 ≤ d) (h : zHM) (v : Int) (e : F266 h = some v) : zRu2 spec d 266 [(22, 0)] (hc, h, o) (some (0, v)) (hc, h, o) := by
  refine zF_in (D := 0) (mx := 2) (L := [some (22, 0), none]) (by decide +kernel) rfl rfl hd (fun d hd => ?_)
  unfold F266 at e
  refine zF_blk (m := []) (d := 0) (b := B266_0) (gs := []) (c' := (2, [some (22, 0), some (0, 0)], [], (hc, h, o))) K266_0 rfl trivial ?_
  exact T266_0 hd h zFu 0 _ e
noncomputable def B262_0 : List zRow := [(0, .aload_n 0, 1, (0, 0, 0)), (1, .iconst 0, 1, (0, 0, 0)), (2, .putfield 81, 3, (12, 0, 0)), (5, .aload_n 0, 1, (0, 0, 0))]
theorem K262_0 : zRk 262 B262_0 = true := zRw_ok (by decide +kernel)
noncomputable def B262_1 : List zRow := [(14, .iconst 0, 1, (0, 0, 0)), (15, .istore_n 1, 1, (0, 0, 0)), (16, .aload_n 0, 1, (0, 0, 0)), (17, .iconst 0, 1, (0, 0, 0)), (18, .putfield 351, 3, (12, 35, 0)), (21, .iconst 0, 1, (0, 0, 0)), (22, .istore_n 2, 1, (0, 0, 0))]
theorem K262_1 : zRk 262 B262_1 = true := zRw_ok (by decide +kernel)
noncomputable def B262_2 : List zRow := [(12, .iconst (-1), 1, (0, 0, 0))]
theorem K262_2 : zRk 262 B262_2 = true := zRw_ok (by decide +kernel)
noncomputable def B262_3 : List zRow := [(9, .ifCond .ne 5, 3, (0, 0, 0))]
theorem K262_3 : zRk 262 B262_3 = true := zRw_ok (by decide +kernel)
noncomputable def B262_4 : List zRow := [(140, .iload_n 1, 1, (0, 0, 0))]
theorem K262_4 : zRk 262 B262_4 = true := zRw_ok (by decide +kernel)
noncomputable def B262_5 : List zRow := [(43, .iconst 0, 1, (0, 0, 0)), (44, .istore_n 3, 1, (0, 0, 0))]
theorem K262_5 : zRk 262 B262_5 = true := zRw_ok (by decide +kernel)
noncomputable def B262_6 : List zRow := [(40, .goto 100, 3, (0, 0, 0)), (140, .iload_n 1, 1, (0, 0, 0))]
theorem K262_6 : zRk 262 B262_6 = true := zRw_ok (by decide +kernel)
noncomputable def B262_7 : List zRow := [(30, .iload_n 2, 1, (0, 0, 0)), (31, .aload_n 0, 1, (0, 0, 0)), (32, .getfield 48, 3, (12, 27, 5242906)), (35, .iconst 0, 1, (0, 0, 0)), (36, .iaload, 1, (0, 0, 0)), (37, .if_icmp .lt 6, 3, (0, 0, 0))]
theorem K262_7 : zRk 262 B262_7 = true := zRw_ok (by decide +kernel)
noncomputable def B262_8 : List zRow := [(23, .iload_n 2, 1, (0, 0, 0)), (24, .sipush 200, 3, (0, 0, 0)), (27, .if_icmp .gt 113, 3, (0, 0, 0))]
theorem K262_8 : zRk 262 B262_8 = true := zRw_ok (by decide +kernel)
noncomputable def B262_9 : List zRow := [(134, .iinc 2 1, 3, (0, 0, 0)), (137, .goto (-114), 3, (0, 0, 0))]
theorem K262_9 : zRk 262 B262_9 = true := zRw_ok (by decide +kernel)
noncomputable def B262_10 : List zRow := [(51, .iconst 1, 1, (0, 0, 0)), (52, .istore 4, 2, (0, 0, 0))]
theorem K262_10 : zRk 262 B262_10 = true := zRw_ok (by decide +kernel)
noncomputable def B262_11 : List zRow := [(45, .iload_n 3, 1, (0, 0, 0)), (46, .bipush 100, 2, (0, 0, 0)), (48, .if_icmp .ge 86, 3, (0, 0, 0))]
theorem K262_11 : zRk 262 B262_11 = true := zRw_ok (by decide +kernel)
noncomputable def B262_12 : List zRow := [(61, .aload_n 0, 1, (0, 0, 0)), (62, .iload_n 3, 1, (0, 0, 0))]
theorem K262_12 : zRk 262 B262_12 = true := zRw_ok (by decide +kernel)
noncomputable def B262_13 : List zRow := [(69, .aload_n 0, 1, (0, 0, 0)), (70, .iload_n 3, 1, (0, 0, 0)), (71, .iload_n 2, 1, (0, 0, 0)), (72, .iload 4, 2, (0, 0, 0))]
theorem K262_13 : zRk 262 B262_13 = true := zRw_ok (by decide +kernel)
noncomputable def B262_14 : List zRow := [(77, .aload_n 0, 1, (0, 0, 0))]
theorem K262_14 : zRk 262 B262_14 = true := zRw_ok (by decide +kernel)
noncomputable def B262_15 : List zRow := [(93, .aload_n 0, 1, (0, 0, 0)), (94, .getfield 54, 3, (12, 29, 5243082)), (97, .iload_n 1, 1, (0, 0, 0)), (98, .sipush 1000, 3, (0, 0, 0)), (101, .iload_n 2, 1, (0, 0, 0))]
theorem K262_15 : zRk 262 B262_15 = true := zRw_ok (by decide +kernel)
noncomputable def B262_16 : List zRow := [(102, .imul, 1, (0, 0, 0)), (103, .bipush 10, 2, (0, 0, 0)), (105, .iload_n 3, 1, (0, 0, 0))]
theorem K262_16 : zRk 262 B262_16 = true := zRw_ok (by decide +kernel)
noncomputable def B262_17 : List zRow := [(106, .imul, 1, (0, 0, 0)), (107, .iadd, 1, (0, 0, 0)), (108, .iload 4, 2, (0, 0, 0)), (110, .iadd, 1, (0, 0, 0)), (111, .iastore, 1, (0, 0, 0)), (112, .aload_n 0, 1, (0, 0, 0)), (113, .iload_n 1, 1, (0, 0, 0)), (114, .iconst 1, 1, (0, 0, 0)), (115, .iadd, 1, (0, 0, 0)), (116, .putfield 351, 3, (12, 35, 0))]
theorem K262_17 : zRk 262 B262_17 = true := zRw_ok (by decide +kernel)
noncomputable def B262_18 : List zRow := [(87, .iload_n 1, 1, (0, 0, 0)), (88, .bipush 50, 2, (0, 0, 0)), (90, .if_icmp .ge 29, 3, (0, 0, 0))]
theorem K262_18 : zRk 262 B262_18 = true := zRw_ok (by decide +kernel)
noncomputable def B262_19 : List zRow := [(84, .goto 38, 3, (0, 0, 0))]
theorem K262_19 : zRk 262 B262_19 = true := zRw_ok (by decide +kernel)
noncomputable def B262_20 : List zRow := [(81, .ifCond .ne 6, 3, (0, 0, 0))]
theorem K262_20 : zRk 262 B262_20 = true := zRw_ok (by decide +kernel)
noncomputable def B262_21 : List zRow := [(66, .ifCond .eq 62, 3, (0, 0, 0))]
theorem K262_21 : zRk 262 B262_21 = true := zRw_ok (by decide +kernel)
noncomputable def B262_22 : List zRow := [(54, .iload 4, 2, (0, 0, 0)), (56, .bipush 9, 2, (0, 0, 0)), (58, .if_icmp .gt 70, 3, (0, 0, 0))]
theorem K262_22 : zRk 262 B262_22 = true := zRw_ok (by decide +kernel)
noncomputable def B262_23 : List zRow := [(122, .iinc 4 1, 3, (0, 0, 0)), (125, .goto (-71), 3, (0, 0, 0))]
theorem K262_23 : zRk 262 B262_23 = true := zRw_ok (by decide +kernel)
noncomputable def B262_24 : List zRow := [(119, .iinc 1 1, 3, (0, 0, 0))]
theorem K262_24 : zRk 262 B262_24 = true := zRw_ok (by decide +kernel)
noncomputable def B262_25 : List zRow := [(128, .iinc 3 1, 3, (0, 0, 0)), (131, .goto (-86), 3, (0, 0, 0))]
theorem K262_25 : zRk 262 B262_25 = true := zRw_ok (by decide +kernel)
def F262_3 (k0 : Int → Int → zHM → Option (Int × zHM)) (k1 : Int → Int → Int → zHM → Option (Int × zHM)) (v1 : Int) (v2 : Int) (v3 : Int) (h : zHM) : Option (Int × zHM) := k1 v1 v2 (wadd v3 1) h
set_option maxRecDepth 100000 in
theorem T262_3 {spec : zRn zH2} {hc : zHC} {o : Int → Int} {d : Nat} (hd : 4 ≤ d) (k0 : Int → Int → zHM → Option (Int × zHM)) (hk0 : ∀ (v1 : Int) (v2 : Int) (h : zHM) (v : (Int × zHM)), k0 v1 v2 h = some v → zFin 0 (fun _ => 0) (zRu2 spec d) 262 (some (0, v.1)) (hc, v.2, o) (23, [some (22, 0), some (0, v1), some (0, v2), none, none], [], (hc, h, o))) (k1 : Int → Int → Int → zHM → Option (Int × zHM)) (hk1 : ∀ (v1 : Int) (v2 : Int) (v3 : Int) (h : zHM) (v : (Int × zHM)), k1 v1 v2 v3 h = some v → zFin 0 (fun _ => 0) (zRu2 spec d) 262 (some (0, v.1)) (hc, v.2, o) (45, [some (22, 0), some (0, v1), some (0, v2), some (0, v3), none], [], (hc, h, o))) (v1 : Int) (v2 : Int) (v3 : Int) (h : zHM) (v : (Int × zHM)) (e : F262_3 k0 k1 v1 v2 v3 h = some v) : zFin 0 (fun _ => 0) (zRu2 spec d) 262 (some (0, v.1)) (hc, v.2, o) (128, [some (22, 0), some (0, v1), some (0, v2), some (0, v3), none], [], (hc, h, o)) := by
  unfold F262_3 at e
  refine zF_blk (m := []) (d := 0) (b := B262_25) (gs := []) (c' := (45, [some (22, 0), some (0, v1), some (0, v2), some (0, (wadd v3 1)), none], [], (hc, h, o))) K262_25 rfl trivial ?_
  exact hk1 v1 v2 (wadd v3 1) h _ e
def F262_5 (k0 : Int → Int → zHM → Option (Int × zHM)) (k1 : Int → Int → Int → zHM → Option (Int × zHM)) (k2 : Int → Int → Int → Int → zHM → Option (Int × zHM)) (v1 : Int) (v2 : Int) (v3 : Int) (v4 : Int) (h : zHM) : Option (Int × zHM) := k2 v1 v2 v3 (wadd v4 1) h
set_option maxRecDepth 100000 in
theorem T262_5 {spec : zRn zH2} {hc : zHC} {o : Int → Int} {d : Nat} (hd : 4 ≤ d) (k0 : Int → Int → zHM → Option (Int × zHM)) (hk0 : ∀ (v1 : Int) (v2 : Int) (h : zHM) (v : (Int × zHM)), k0 v1 v2 h = some v → zFin 0 (fun _ => 0) (zRu2 spec d) 262 (some (0, v.1)) (hc, v.2, o) (23, [some (22, 0), some (0, v1), some (0, v2), none, none], [], (hc, h, o))) (k1 : Int → Int → Int → zHM → Option (Int × zHM)) (hk1 : ∀ (v1 : Int) (v2 : Int) (v3 : Int) (h : zHM) (v : (Int × zHM)), k1 v1 v2 v3 h = some v → zFin 0 (fun _ => 0) (zRu2 spec d) 262 (some (0, v.1)) (hc, v.2, o) (45, [some (22, 0), some (0, v1), some (0, v2), some (0, v3), none], [], (hc, h, o))) (k2 : Int → Int → Int → Int → zHM → Option (Int × zHM)) (hk2 : ∀ (v1 : Int) (v2 : Int) (v3 : Int) (v4 : Int) (h : zHM) (v : (Int × zHM)), k2 v1 v2 v3 v4 h = some v → zFin 0 (fun _ => 0) (zRu2 spec d) 262 (some (0, v.1)) (hc, v.2, o) (54, [some (22, 0), some (0, v1), some (0, v2), some (0, v3), some (0, v4)], [], (hc, h, o))) (v1 : Int) (v2 : Int) (v3 : Int) (v4 : Int) (h : zHM) (v : (Int × zHM)) (e : F262_5 k0 k1 k2 v1 v2 v3 v4 h = some v) : zFin 0 (fun _ => 0) (zRu2 spec d) 262 (some (0, v.1)) (hc, v.2, o) (122, [some (22, 0), some (0, v1), some (0, v2), some (0, v3), some (0, v4)], [], (hc, h, o)) := by
  unfold F262_5 at e
  refine zF_blk (m := []) (d := 0) (b := B262_23) (gs := []) (c' := (54, [some (22, 0), some (0, v1), some (0, v2), some (0, v3), some (0, (wadd v4 1))], [], (hc, h, o))) K262_23 rfl trivial ?_
  exact hk2 v1 v2 v3 (wadd v4 1) h _ e
def F262_4 (k0 : Int → Int → zHM → Option (Int × zHM)) (k1 : Int → Int → Int → zHM → Option (Int × zHM)) (k2 : Int → Int → Int → Int → zHM → Option (Int × zHM)) (v1 : Int) (v2 : Int) (v3 : Int) (v4 : Int) (h : zHM) : Option (Int × zHM) := F262_5 k0 k1 k2 (wadd v1 1) v2 v3 v4 h
set_option maxRecDepth 100000 in
theorem T262_4 {spec : zRn zH2} {hc : zHC} {o : Int → Int} {d : Nat} (hd : 4 ≤ d) (k0 : Int → Int → zHM → Option (Int × zHM)) (hk0 : ∀ (v1 : Int) (v2 : Int) (h : zHM) (v : (Int × zHM)), k0 v1 v2 h = some v → zFin 0 (fun _ => 0) (zRu2 spec d) 262 (some (0, v.1)) (hc, v.2, o) (23, [some (22, 0), some (0, v1), some (0, v2), none, none], [], (hc, h, o))) (k1 : Int → Int → Int → zHM → Option (Int × zHM)) (hk1 : ∀ (v1 : Int) (v2 : Int) (v3 : Int) (h : zHM) (v : (Int × zHM)), k1 v1 v2 v3 h = some v → zFin 0 (fun _ => 0) (zRu2 spec d) 262 (some (0, v.1)) (hc, v.2, o) (45, [some (22, 0), some (0, v1), some (0, v2), some (0, v3), none], [], (hc, h, o))) (k2 : Int → Int → Int → Int → zHM → Option (Int × zHM)) (hk2 : ∀ (v1 : Int) (v2 : Int) (v3 : Int) (v4 : Int) (h : zHM) (v : (Int × zHM)), k2 v1 v2 v3 v4 h = some v → zFin 0 (fun _ => 0) (zRu2 spec d) 262 (some (0, v.1)) (hc, v.2, o) (54, [some (22, 0), some (0, v1), some (0, v2), some (0, v3), some (0, v4)], [], (hc, h, o))) (v1 : Int) (v2 : Int) (v3 : Int) (v4 : Int) (h : zHM) (v : (Int × zHM)) (e : F262_4 k0 k1 k2 v1 v2 v3 v4 h = some v) : zFin 0 (fun _ => 0) (zRu2 spec d) 262 (some (0, v.1)) (hc, v.2, o) (119, [some (22, 0), some (0, v1), some (0, v2), some (0, v3), some (0, v4)], [], (hc, h, o)) := by
  unfold F262_4 at e
  refine zF_blk (m := []) (d := 0) (b := B262_24) (gs := []) (c' := (122, [some (22, 0), some (0, (wadd v1 1)), some (0, v2), some (0, v3), some (0, v4)], [], (hc, h, o))) K262_24 rfl trivial ?_
  exact T262_5 hd k0 hk0 k1 hk1 k2 hk2 (wadd v1 1) v2 v3 v4 h _ e
def F262_2 (k0 : Int → Int → zHM → Option (Int × zHM)) (k1 : Int → Int → Int → zHM → Option (Int × zHM)) : Nat → Int → Int → Int → Int → zHM → Option (Int × zHM)
  | 0, _, _, _, _, _ => none
  | n + 1, v1, v2, v3, v4, h => if 9 < v4 then F262_3 k0 k1 v1 v2 v3 h else (F224 v3 h).bind fun r1 => if r1 = 0 then F262_3 k0 k1 v1 v2 v3 h else (F264 v3 v2 v4 h).bind fun r2 => (F266 r2).bind fun r3 => if ¬ r3 = 0 then if 50 ≤ v1 then F262_4 k0 k1 (F262_2 k0 k1 n) v1 v2 v3 v4 r2 else zG (0 ≤ v1 ∧ v1 < 50) (F262_4 k0 k1 (F262_2 k0 k1 n) v1 v2 v3 v4 (mset (mset r2 29 v1 (wadd (wadd (wmul 1000 v2) (wmul 10 v3)) v4)) 35 0 (wadd v1 1))) else F262_5 k0 k1 (F262_2 k0 k1 n) v1 v2 v3 v4 r2
set_option maxRecDepth 100000 in
theorem T262_2 {spec : zRn zH2} {hc : zHC} {o : Int → Int} {d : Nat} (hd : 4 ≤ d) (k0 : Int → Int → zHM → Option (Int × zHM)) (hk0 : ∀ (v1 : Int) (v2 : Int) (h : zHM) (v : (Int × zHM)), k0 v1 v2 h = some v → zFin 0 (fun _ => 0) (zRu2 spec d) 262 (some (0, v.1)) (hc, v.2, o) (23, [some (22, 0), some (0, v1), some (0, v2), none, none], [], (hc, h, o))) (k1 : Int → Int → Int → zHM → Option (Int × zHM)) (hk1 : ∀ (v1 : Int) (v2 : Int) (v3 : Int) (h : zHM) (v : (Int × zHM)), k1 v1 v2 v3 h = some v → zFin 0 (fun _ => 0) (zRu2 spec d) 262 (some (0, v.1)) (hc, v.2, o) (45, [some (22, 0), some (0, v1), some (0, v2), some (0, v3), none], [], (hc, h, o))) : ∀ (n : Nat) (v1 : Int) (v2 : Int) (v3 : Int) (v4 : Int) (h : zHM) (v : (Int × zHM)), F262_2 k0 k1 n v1 v2 v3 v4 h = some v → zFin 0 (fun _ => 0) (zRu2 spec d) 262 (some (0, v.1)) (hc, v.2, o) (54, [some (22, 0), some (0, v1), some (0, v2), some (0, v3), some (0, v4)], [], (hc, h, o)) := by
  intro n
  induction n with
  | zero => intro v1 v2 v3 v4 h v e; unfold F262_2 at e; cases e
  | succ n hk2 =>
    intro v1 v2 v3 v4 h v e
    unfold F262_2 at e
    rcases zI_s e with ⟨q1, e⟩ | ⟨q1, e⟩
    · refine zF_blk (m := []) (d := 1) (b := B262_22) (gs := [9 < v4]) (c' := (128, [some (22, 0), some (0, v1), some (0, v2), some (0, v3), some (0, v4)], [], (hc, h, o))) K262_22 rfl ⟨q1, trivial⟩ ?_
      refine zF_blk (m := [true, true, true, true, false]) (d := 0) (b := []) (gs := []) (c' := (128, [some (22, 0), some (0, v1), some (0, v2), some (0, v3), none], [], (hc, h, o))) rfl rfl trivial ?_
      exact T262_3 hd k0 hk0 k1 hk1 v1 v2 v3 h _ e
    · refine zF_blk (m := []) (d := 0) (b := B262_22) (gs := [¬ (9 < v4)]) (c' := (61, [some (22, 0), some (0, v1), some (0, v2), some (0, v3), some (0, v4)], [], (hc, h, o))) K262_22 rfl ⟨q1, trivial⟩ ?_
      obtain ⟨r1, q2, e⟩ := zB_s e
      refine zF_blk (m := []) (d := 0) (b := B262_12) (gs := []) (c' := (63, [some (22, 0), some (0, v1), some (0, v2), some (0, v3), some (0, v4)], [(0, v3), (22, 0)], (hc, h, o))) K262_12 rfl trivial ?_
      refine zF_call (k := 224) (cl := 12) (n := 2) (i := .invokevirtual 305) (args := [(22, 0), (0, v3)]) (rest := []) (g1 := (hc, h, o)) (r1 := some (0, r1)) (zCk1_w (by decide +kernel)) rfl rfl rfl (st' := [(0, r1)]) rfl (S224 (Nat.le_trans (by decide) hd) v3 h _ q2) ?_
      rcases zI_s e with ⟨q3, e⟩ | ⟨q3, e⟩
      · refine zF_blk (m := []) (d := 1) (b := B262_21) (gs := [r1 = 0]) (c' := (128, [some (22, 0), some (0, v1), some (0, v2), some (0, v3), some (0, v4)], [], (hc, h, o))) K262_21 rfl ⟨q3, trivial⟩ ?_
        refine zF_blk (m := [true, true, true, true, false]) (d := 0) (b := []) (gs := []) (c' := (128, [some (22, 0), some (0, v1), some (0, v2), some (0, v3), none], [], (hc, h, o))) rfl rfl trivial ?_
        exact T262_3 hd k0 hk0 k1 hk1 v1 v2 v3 h _ e
      · refine zF_blk (m := []) (d := 0) (b := B262_21) (gs := [¬ (r1 = 0)]) (c' := (69, [some (22, 0), some (0, v1), some (0, v2), some (0, v3), some (0, v4)], [], (hc, h, o))) K262_21 rfl ⟨q3, trivial⟩ ?_
        obtain ⟨r2, q4, e⟩ := zB_s e
        refine zF_blk (m := []) (d := 0) (b := B262_13) (gs := []) (c' := (74, [some (22, 0), some (0, v1), some (0, v2), some (0, v3), some (0, v4)], [(0, v4), (0, v2), (0, v3), (22, 0)], (hc, h, o))) K262_13 rfl trivial ?_
        refine zF_call (k := 264) (cl := 12) (n := 4) (i := .invokevirtual 354) (args := [(22, 0), (0, v3), (0, v2), (0, v4)]) (rest := []) (g1 := (hc, r2, o)) (r1 := none) (zCk1_w (by decide +kernel)) rfl rfl rfl (st' := []) rfl (S264 (Nat.le_trans (by decide) hd) v3 v2 v4 h _ q4) ?_
        obtain ⟨r3, q5, e⟩ := zB_s e
        refine zF_blk (m := []) (d := 0) (b := B262_14) (gs := []) (c' := (78, [some (22, 0), some (0, v1), some (0, v2), some (0, v3), some (0, v4)], [(22, 0)], (hc, r2, o))) K262_14 rfl trivial ?_
        refine zF_call (k := 266) (cl := 12) (n := 1) (i := .invokevirtual 357) (args := [(22, 0)]) (rest := []) (g1 := (hc, r2, o)) (r1 := some (0, r3)) (zCk1_w (by decide +kernel)) rfl rfl rfl (st' := [(0, r3)]) rfl (S266 (Nat.le_trans (by decide) hd)  r2 _ q5) ?_
        rcases zI_s e with ⟨q6, e⟩ | ⟨q6, e⟩
        · refine zF_blk (m := []) (d := 1) (b := B262_20) (gs := [¬ r3 = 0]) (c' := (87, [some (22, 0), some (0, v1), some (0, v2), some (0, v3), some (0, v4)], [], (hc, r2, o))) K262_20 rfl ⟨q6, trivial⟩ ?_
          rcases zI_s e with ⟨q7, e⟩ | ⟨q7, e⟩
          · refine zF_blk (m := []) (d := 1) (b := B262_18) (gs := [50 ≤ v1]) (c' := (119, [some (22, 0), some (0, v1), some (0, v2), some (0, v3), some (0, v4)], [], (hc, r2, o))) K262_18 rfl ⟨q7, trivial⟩ ?_
            exact T262_4 hd k0 hk0 k1 hk1 (F262_2 k0 k1 n) hk2 v1 v2 v3 v4 r2 _ e
          · refine zF_blk (m := []) (d := 0) (b := B262_18) (gs := [¬ (50 ≤ v1)]) (c' := (93, [some (22, 0), some (0, v1), some (0, v2), some (0, v3), some (0, v4)], [], (hc, r2, o))) K262_18 rfl ⟨q7, trivial⟩ ?_
            obtain ⟨q8, e⟩ := zG_s e
            refine zF_blk (m := []) (d := 0) (b := B262_15) (gs := []) (c' := (102, [some (22, 0), some (0, v1), some (0, v2), some (0, v3), some (0, v4)], [(0, v2), (0, 1000), (0, v1), (1342230277, 0)], (hc, r2, o))) K262_15 rfl trivial ?_
            refine zF_blk (m := []) (d := 0) (b := B262_16) (gs := []) (c' := (106, [some (22, 0), some (0, v1), some (0, v2), some (0, v3), some (0, v4)], [(0, v3), (0, 10), (0, (wmul 1000 v2)), (0, v1), (1342230277, 0)], (hc, r2, o))) K262_16 rfl trivial ?_
            refine zF_blk (m := []) (d := 0) (b := B262_17) (gs := [0 ≤ v1 ∧ v1 < 50]) (c' := (119, [some (22, 0), some (0, v1), some (0, v2), some (0, v3), some (0, v4)], [], (hc, (mset (mset r2 29 v1 (wadd (wadd (wmul 1000 v2) (wmul 10 v3)) v4)) 35 0 (wadd v1 1)), o))) K262_17 rfl ⟨q8, trivial⟩ ?_
            exact T262_4 hd k0 hk0 k1 hk1 (F262_2 k0 k1 n) hk2 v1 v2 v3 v4 (mset (mset r2 29 v1 (wadd (wadd (wmul 1000 v2) (wmul 10 v3)) v4)) 35 0 (wadd v1 1)) _ e
        · refine zF_blk (m := []) (d := 0) (b := B262_20) (gs := [¬ (¬ r3 = 0)]) (c' := (84, [some (22, 0), some (0, v1), some (0, v2), some (0, v3), some (0, v4)], [], (hc, r2, o))) K262_20 rfl ⟨q6, trivial⟩ ?_
          refine zF_blk (m := []) (d := 0) (b := B262_19) (gs := []) (c' := (122, [some (22, 0), some (0, v1), some (0, v2), some (0, v3), some (0, v4)], [], (hc, r2, o))) K262_19 rfl trivial ?_
          exact T262_5 hd k0 hk0 k1 hk1 (F262_2 k0 k1 n) hk2 v1 v2 v3 v4 r2 _ e
def F262_1 (k0 : Int → Int → zHM → Option (Int × zHM)) : Nat → Int → Int → Int → zHM → Option (Int × zHM)
  | 0, _, _, _, _ => none
  | n + 1, v1, v2, v3, h => if 100 ≤ v3 then k0 v1 (wadd v2 1) h else F262_2 k0 (F262_1 k0 n) zFu v1 v2 v3 1 h
set_option maxRecDepth 100000 in
theorem T262_1 {spec : zRn zH2} {hc : zHC} {o : Int → Int} {d : Nat} (hd : 4 ≤ d) (k0 : Int → Int → zHM → Option (Int × zHM)) (hk0 : ∀ (v1 : Int) (v2 : Int) (h : zHM) (v : (Int × zHM)), k0 v1 v2 h = some v → zFin 0 (fun _ => 0) (zRu2 spec d) 262 (some (0, v.1)) (hc, v.2, o) (23, [some (22, 0), some (0, v1), some (0, v2), none, none], [], (hc, h, o))) : ∀ (n : Nat) (v1 : Int) (v2 : Int) (v3 : Int) (h : zHM) (v : (Int × zHM)), F262_1 k0 n v1 v2 v3 h = some v → zFin 0 (fun _ => 0) (zRu2 spec d) 262 (some (0, v.1)) (hc, v.2, o) (45, [some (22, 0), some (0, v1), some (0, v2), some (0, v3), none], [], (hc, h, o)) := by
  intro n
  induction n with
  | zero => intro v1 v2 v3 h v e; unfold F262_1 at e; cases e
  | succ n hk1 =>
    intro v1 v2 v3 h v e
    unfold F262_1 at e
    rcases zI_s e with ⟨q1, e⟩ | ⟨q1, e⟩
    · refine zF_blk (m := []) (d := 1) (b := B262_11) (gs := [100 ≤ v3]) (c' := (134, [some (22, 0), some (0, v1), some (0, v2), some (0, v3), none], [], (hc, h, o))) K262_11 rfl ⟨q1, trivial⟩ ?_
      refine zF_blk (m := []) (d := 0) (b := B262_9) (gs := []) (c' := (23, [some (22, 0), some (0, v1), some (0, (wadd v2 1)), some (0, v3), none], [], (hc, h, o))) K262_9 rfl trivial ?_
      refine zF_blk (m := [true, true, true, false, false]) (d := 0) (b := []) (gs := []) (c' := (23, [some (22, 0), some (0, v1), some (0, (wadd v2 1)), none, none], [], (hc, h, o))) rfl rfl trivial ?_
      exact hk0 v1 (wadd v2 1) h _ e
    · refine zF_blk (m := []) (d := 0) (b := B262_11) (gs := [¬ (100 ≤ v3)]) (c' := (51, [some (22, 0), some (0, v1), some (0, v2), some (0, v3), none], [], (hc, h, o))) K262_11 rfl ⟨q1, trivial⟩ ?_
      refine zF_blk (m := []) (d := 0) (b := B262_10) (gs := []) (c' := (54, [some (22, 0), some (0, v1), some (0, v2), some (0, v3), some (0, 1)], [], (hc, h, o))) K262_10 rfl trivial ?_
      exact T262_2 hd k0 hk0 (F262_1 k0 n) hk1 zFu v1 v2 v3 1 h _ e
def F262_0 : Nat → Int → Int → zHM → Option (Int × zHM)
  | 0, _, _, _ => none
  | n + 1, v1, v2, h => if 200 < v2 then some (v1, h) else if v2 < (h 27 0) then F262_1 (F262_0 n) zFu v1 v2 0 h else some (v1, h)
set_option maxRecDepth 100000 in
theorem T262_0 {spec : zRn zH2} {hc : zHC} {o : Int → Int} {d : Nat} (hd : 4 ≤ d) : ∀ (n : Nat) (v1 : Int) (v2 : Int) (h : zHM) (v : (Int × zHM)), F262_0 n v1 v2 h = some v → zFin 0 (fun _ => 0) (zRu2 spec d) 262 (some (0, v.1)) (hc, v.2, o) (23, [some (22, 0), some (0, v1), some (0, v2), none, none], [], (hc, h, o)) := by
  intro n
  induction n with
  | zero => intro v1 v2 h v e; unfold F262_0 at e; cases e
  | succ n hk0 =>
    intro v1 v2 h v e
    unfold F262_0 at e
    rcases zI_s e with ⟨q1, e⟩ | ⟨q1, e⟩
    · refine zF_blk (m := []) (d := 1) (b := B262_8) (gs := [200 < v2]) (c' := (140, [some (22, 0), some (0, v1), some (0, v2), none, none], [], (hc, h, o))) K262_8 rfl ⟨q1, trivial⟩ ?_
      refine zF_blk (m := []) (d := 0) (b := B262_4) (gs := []) (c' := (141, [some (22, 0), some (0, v1), some (0, v2), none, none], [(0, v1)], (hc, h, o))) K262_4 rfl trivial ?_
      exact zF_riM (zRe1_w (by decide +kernel)) e
    · refine zF_blk (m := []) (d := 0) (b := B262_8) (gs := [¬ (200 < v2)]) (c' := (30, [some (22, 0), some (0, v1), some (0, v2), none, none], [], (hc, h, o))) K262_8 rfl ⟨q1, trivial⟩ ?_
      rcases zI_s e with ⟨q2, e⟩ | ⟨q2, e⟩
      · refine zF_blk (m := []) (d := 1) (b := B262_7) (gs := [0 ≤ 0 ∧ 0 < 6, v2 < (h 27 0)]) (c' := (43, [some (22, 0), some (0, v1), some (0, v2), none, none], [], (hc, h, o))) K262_7 rfl ⟨by decide, q2, trivial⟩ ?_
        refine zF_blk (m := []) (d := 0) (b := B262_5) (gs := []) (c' := (45, [some (22, 0), some (0, v1), some (0, v2), some (0, 0), none], [], (hc, h, o))) K262_5 rfl trivial ?_
        exact T262_1 hd (F262_0 n) hk0 zFu v1 v2 0 h _ e
      · refine zF_blk (m := []) (d := 0) (b := B262_7) (gs := [0 ≤ 0 ∧ 0 < 6, ¬ (v2 < (h 27 0))]) (c' := (40, [some (22, 0), some (0, v1), some (0, v2), none, none], [], (hc, h, o))) K262_7 rfl ⟨by decide, q2, trivial⟩ ?_
        refine zF_blk (m := []) (d := 0) (b := B262_6) (gs := []) (c' := (141, [some (22, 0), some (0, v1), some (0, v2), none, none], [(0, v1)], (hc, h, o))) K262_6 rfl trivial ?_
        exact zF_riM (zRe1_w (by decide +kernel)) e
/-- EchoValeModel.pieces()I -/
def F262 (h : zHM) : Option (Int × zHM) := (F263 (mset h 0 0 0)).bind fun r1 => if ¬ r1.1 = 0 then F262_0 zFu 0 0 (mset r1.2 35 0 0) else some ((-1), r1.2)
set_option maxRecDepth 100000 in
theorem S262 {spec : zRn zH2} {hc : zHC} {o : Int → Int} {d : Nat} (hd : 5 ≤ d) (h : zHM) (v : (Int × zHM)) (e : F262 h = some v) : zRu2 spec d 262 [(22, 0)] (hc, h, o) (some (0, v.1)) (hc, v.2, o) := by
  refine zF_in (D := 4) (mx := 5) (L := [some (22, 0), none, none, none, none]) (by decide +kernel) rfl rfl hd (fun d hd => ?_)
  unfold F262 at e
  obtain ⟨r1, q1, e⟩ := zB_s e
  refine zF_blk (m := []) (d := 0) (b := B262_0) (gs := []) (c' := (6, [some (22, 0), none, none, none, none], [(22, 0)], (hc, (mset h 0 0 0), o))) K262_0 rfl trivial ?_
  refine zF_call (k := 263) (cl := 12) (n := 1) (i := .invokevirtual 348) (args := [(22, 0)]) (rest := []) (g1 := (hc, r1.2, o)) (r1 := some (0, r1.1)) (zCk1_w (by decide +kernel)) rfl rfl rfl (st' := [(0, r1.1)]) rfl (S263 (Nat.le_trans (by decide) hd)  (mset h 0 0 0) _ q1) ?_
  rcases zI_s e with ⟨q2, e⟩ | ⟨q2, e⟩
  · refine zF_blk (m := []) (d := 1) (b := B262_3) (gs := [¬ r1.1 = 0]) (c' := (14, [some (22, 0), none, none, none, none], [], (hc, r1.2, o))) K262_3 rfl ⟨q2, trivial⟩ ?_
    refine zF_blk (m := []) (d := 0) (b := B262_1) (gs := []) (c' := (23, [some (22, 0), some (0, 0), some (0, 0), none, none], [], (hc, (mset r1.2 35 0 0), o))) K262_1 rfl trivial ?_
    exact T262_0 hd zFu 0 0 (mset r1.2 35 0 0) _ e
  · refine zF_blk (m := []) (d := 0) (b := B262_3) (gs := [¬ (¬ r1.1 = 0)]) (c' := (12, [some (22, 0), none, none, none, none], [], (hc, r1.2, o))) K262_3 rfl ⟨q2, trivial⟩ ?_
    refine zF_blk (m := []) (d := 0) (b := B262_2) (gs := []) (c' := (13, [some (22, 0), none, none, none, none], [(0, (-1))], (hc, r1.2, o))) K262_2 rfl trivial ?_
    exact zF_riM (zRe1_w (by decide +kernel)) e
noncomputable def B128_0 : List zRow := [(21, .iconst (-1), 1, (0, 0, 0))]
theorem K128_0 : zRk 128 B128_0 = true := zRw_ok (by decide +kernel)
noncomputable def B128_1 : List zRow := [(23, .aload_n 0, 1, (0, 0, 0)), (24, .getfield 80, 3, (11, 10, 19)), (27, .getfield 302, 3, (4, 1, 5243082)), (30, .iload_n 1, 1, (0, 0, 0)), (31, .iaload, 1, (0, 0, 0))]
theorem K128_1 : zRk 128 B128_1 = true := zRw_ok (by decide +kernel)
noncomputable def B128_2 : List zRow := [(15, .iload_n 1, 1, (0, 0, 0)), (16, .bipush 50, 2, (0, 0, 0)), (18, .if_icmp .lt 5, 3, (0, 0, 0))]
theorem K128_2 : zRk 128 B128_2 = true := zRw_ok (by decide +kernel)
noncomputable def B128_3 : List zRow := [(4, .iload_n 1, 1, (0, 0, 0)), (5, .aload_n 0, 1, (0, 0, 0)), (6, .getfield 80, 3, (11, 10, 19)), (9, .getfield 299, 3, (4, 0, 0)), (12, .if_icmp .ge 9, 3, (0, 0, 0))]
theorem K128_3 : zRk 128 B128_3 = true := zRw_ok (by decide +kernel)
noncomputable def B128_4 : List zRow := [(0, .iload_n 1, 1, (0, 0, 0)), (1, .ifCond .lt 20, 3, (0, 0, 0))]
theorem K128_4 : zRk 128 B128_4 = true := zRw_ok (by decide +kernel)
/-- EchoVale.piece(I)I -/
def F128 (v1 : Int) (h : zHC) : Option Int := if v1 < 0 then some (-1) else if (h 256 0 0) ≤ v1 then some (-1) else if v1 < 50 then zG (0 ≤ v1 ∧ v1 < 50) (some (h 257 0 v1)) else some (-1)
set_option maxRecDepth 100000 in
theorem S128 {spec : zRn zH2} {hm : zHM} {o : Int → Int} {d : Nat} (hd : 1 ≤ d) (v1 : Int) (h : zHC) (v : Int) (e : F128 v1 h = some v) : zRu2 spec d 128 [(21, 0), (0, v1)] (h, hm, o) (some (0, v)) (h, hm, o) := by
  refine zF_in (D := 0) (mx := 2) (L := [some (21, 0), some (0, v1)]) (by decide +kernel) rfl rfl hd (fun d hd => ?_)
  unfold F128 at e
  rcases zI_s e with ⟨q1, e⟩ | ⟨q1, e⟩
  · refine zF_blk (m := []) (d := 1) (b := B128_4) (gs := [v1 < 0]) (c' := (21, [some (21, 0), some (0, v1)], [], (h, hm, o))) K128_4 rfl ⟨q1, trivial⟩ ?_
    refine zF_blk (m := []) (d := 0) (b := B128_0) (gs := []) (c' := (22, [some (21, 0), some (0, v1)], [(0, (-1))], (h, hm, o))) K128_0 rfl trivial ?_
    obtain rfl := Option.some.inj e
    exact zF_ri (zRe1_w (by decide +kernel))
  · refine zF_blk (m := []) (d := 0) (b := B128_4) (gs := [¬ (v1 < 0)]) (c' := (4, [some (21, 0), some (0, v1)], [], (h, hm, o))) K128_4 rfl ⟨q1, trivial⟩ ?_
    rcases zI_s e with ⟨q2, e⟩ | ⟨q2, e⟩
    · refine zF_blk (m := []) (d := 1) (b := B128_3) (gs := [(h 256 0 0) ≤ v1]) (c' := (21, [some (21, 0), some (0, v1)], [], (h, hm, o))) K128_3 rfl ⟨q2, trivial⟩ ?_
      refine zF_blk (m := []) (d := 0) (b := B128_0) (gs := []) (c' := (22, [some (21, 0), some (0, v1)], [(0, (-1))], (h, hm, o))) K128_0 rfl trivial ?_
      obtain rfl := Option.some.inj e
      exact zF_ri (zRe1_w (by decide +kernel))
    · refine zF_blk (m := []) (d := 0) (b := B128_3) (gs := [¬ ((h 256 0 0) ≤ v1)]) (c' := (15, [some (21, 0), some (0, v1)], [], (h, hm, o))) K128_3 rfl ⟨q2, trivial⟩ ?_
      rcases zI_s e with ⟨q3, e⟩ | ⟨q3, e⟩
      · refine zF_blk (m := []) (d := 1) (b := B128_2) (gs := [v1 < 50]) (c' := (23, [some (21, 0), some (0, v1)], [], (h, hm, o))) K128_2 rfl ⟨q3, trivial⟩ ?_
        obtain ⟨q4, e⟩ := zG_s e
        refine zF_blk (m := []) (d := 0) (b := B128_1) (gs := [0 ≤ v1 ∧ v1 < 50]) (c' := (32, [some (21, 0), some (0, v1)], [(0, (h 257 0 v1))], (h, hm, o))) K128_1 rfl ⟨q4, trivial⟩ ?_
        obtain rfl := Option.some.inj e
        exact zF_ri (zRe1_w (by decide +kernel))
      · refine zF_blk (m := []) (d := 0) (b := B128_2) (gs := [¬ (v1 < 50)]) (c' := (21, [some (21, 0), some (0, v1)], [], (h, hm, o))) K128_2 rfl ⟨q3, trivial⟩ ?_
        refine zF_blk (m := []) (d := 0) (b := B128_0) (gs := []) (c' := (22, [some (21, 0), some (0, v1)], [(0, (-1))], (h, hm, o))) K128_0 rfl trivial ?_
        obtain rfl := Option.some.inj e
        exact zF_ri (zRe1_w (by decide +kernel))
noncomputable def B267_0 : List zRow := [(26, .iconst (-1), 1, (0, 0, 0))]
theorem K267_0 : zRk 267 B267_0 = true := zRw_ok (by decide +kernel)
noncomputable def B267_1 : List zRow := [(17, .aload_n 0, 1, (0, 0, 0)), (18, .getfield 54, 3, (12, 29, 5243082)), (21, .iload_n 1, 1, (0, 0, 0)), (22, .iaload, 1, (0, 0, 0)), (23, .goto 4, 3, (0, 0, 0))]
theorem K267_1 : zRk 267 B267_1 = true := zRw_ok (by decide +kernel)
noncomputable def B267_2 : List zRow := [(9, .iload_n 1, 1, (0, 0, 0)), (10, .aload_n 0, 1, (0, 0, 0)), (11, .getfield 351, 3, (12, 35, 0)), (14, .if_icmp .ge 12, 3, (0, 0, 0))]
theorem K267_2 : zRk 267 B267_2 = true := zRw_ok (by decide +kernel)
noncomputable def B267_3 : List zRow := [(0, .aload_n 0, 1, (0, 0, 0)), (1, .iconst 0, 1, (0, 0, 0)), (2, .putfield 81, 3, (12, 0, 0)), (5, .iload_n 1, 1, (0, 0, 0)), (6, .ifCond .lt 20, 3, (0, 0, 0))]
theorem K267_3 : zRk 267 B267_3 = true := zRw_ok (by decide +kernel)
/-- EchoValeModel.piece(I)I -/
def F267 (v1 : Int) (h : zHM) : Option (Int × zHM) := if v1 < 0 then some ((-1), (mset h 0 0 0)) else if (h 35 0) ≤ v1 then some ((-1), (mset h 0 0 0)) else zG (0 ≤ v1 ∧ v1 < 50) (some ((h 29 v1), (mset h 0 0 0)))
set_option maxRecDepth 100000 in
theorem S267 {spec : zRn zH2} {hc : zHC} {o : Int → Int} {d : Nat} (hd : 1 ≤ d) (v1 : Int) (h : zHM) (v : (Int × zHM)) (e : F267 v1 h = some v) : zRu2 spec d 267 [(22, 0), (0, v1)] (hc, h, o) (some (0, v.1)) (hc, v.2, o) := by
  refine zF_in (D := 0) (mx := 2) (L := [some (22, 0), some (0, v1)]) (by decide +kernel) rfl rfl hd (fun d hd => ?_)
  unfold F267 at e
  rcases zI_s e with ⟨q1, e⟩ | ⟨q1, e⟩
  · refine zF_blk (m := []) (d := 1) (b := B267_3) (gs := [v1 < 0]) (c' := (26, [some (22, 0), some (0, v1)], [], (hc, (mset h 0 0 0), o))) K267_3 rfl ⟨q1, trivial⟩ ?_
    refine zF_blk (m := []) (d := 0) (b := B267_0) (gs := []) (c' := (27, [some (22, 0), some (0, v1)], [(0, (-1))], (hc, (mset h 0 0 0), o))) K267_0 rfl trivial ?_
    exact zF_riM (zRe1_w (by decide +kernel)) e
  · refine zF_blk (m := []) (d := 0) (b := B267_3) (gs := [¬ (v1 < 0)]) (c' := (9, [some (22, 0), some (0, v1)], [], (hc, (mset h 0 0 0), o))) K267_3 rfl ⟨q1, trivial⟩ ?_
    rcases zI_s e with ⟨q2, e⟩ | ⟨q2, e⟩
    · refine zF_blk (m := []) (d := 1) (b := B267_2) (gs := [(h 35 0) ≤ v1]) (c' := (26, [some (22, 0), some (0, v1)], [], (hc, (mset h 0 0 0), o))) K267_2 rfl ⟨q2, trivial⟩ ?_
      refine zF_blk (m := []) (d := 0) (b := B267_0) (gs := []) (c' := (27, [some (22, 0), some (0, v1)], [(0, (-1))], (hc, (mset h 0 0 0), o))) K267_0 rfl trivial ?_
      exact zF_riM (zRe1_w (by decide +kernel)) e
    · refine zF_blk (m := []) (d := 0) (b := B267_2) (gs := [¬ ((h 35 0) ≤ v1)]) (c' := (17, [some (22, 0), some (0, v1)], [], (hc, (mset h 0 0 0), o))) K267_2 rfl ⟨q2, trivial⟩ ?_
      obtain ⟨q3, e⟩ := zG_s e
      refine zF_blk (m := []) (d := 0) (b := B267_1) (gs := [0 ≤ v1 ∧ v1 < 50]) (c' := (27, [some (22, 0), some (0, v1)], [(0, (h 29 v1))], (hc, (mset h 0 0 0), o))) K267_1 rfl ⟨q3, trivial⟩ ?_
      exact zF_riM (zRe1_w (by decide +kernel)) e
noncomputable def B132_0 : List zRow := [(44, .bipush 7, 2, (0, 0, 0))]
theorem K132_0 : zRk 132 B132_0 = true := zRw_ok (by decide +kernel)
noncomputable def B132_1 : List zRow := [(40, .iconst 5, 1, (0, 0, 0)), (41, .goto 5, 3, (0, 0, 0))]
theorem K132_1 : zRk 132 B132_1 = true := zRw_ok (by decide +kernel)
noncomputable def B132_2 : List zRow := [(32, .aload_n 0, 1, (0, 0, 0)), (33, .iload_n 3, 1, (0, 0, 0)), (34, .iload_n 1, 1, (0, 0, 0)), (35, .bipush 7, 2, (0, 0, 0)), (37, .if_icmp .ne 7, 3, (0, 0, 0))]
theorem K132_2 : zRk 132 B132_2 = true := zRw_ok (by decide +kernel)
noncomputable def B132_3 : List zRow := [(16, .aload_n 0, 1, (0, 0, 0)), (17, .iload_n 3, 1, (0, 0, 0)), (18, .iconst 1, 1, (0, 0, 0))]
theorem K132_3 : zRk 132 B132_3 = true := zRw_ok (by decide +kernel)
noncomputable def B132_4 : List zRow := [(30, .iconst 0, 1, (0, 0, 0))]
theorem K132_4 : zRk 132 B132_4 = true := zRw_ok (by decide +kernel)
noncomputable def B132_5 : List zRow := [(26, .iconst 1, 1, (0, 0, 0)), (27, .goto 4, 3, (0, 0, 0))]
theorem K132_5 : zRk 132 B132_5 = true := zRw_ok (by decide +kernel)
noncomputable def B132_6 : List zRow := [(22, .iload_n 2, 1, (0, 0, 0)), (23, .if_icmp .ne 7, 3, (0, 0, 0))]
theorem K132_6 : zRk 132 B132_6 = true := zRw_ok (by decide +kernel)
noncomputable def B132_7 : List zRow := [(10, .iload_n 1, 1, (0, 0, 0)), (11, .bipush 8, 2, (0, 0, 0)), (13, .if_icmp .ne 19, 3, (0, 0, 0))]
theorem K132_7 : zRk 132 B132_7 = true := zRw_ok (by decide +kernel)
noncomputable def B132_8 : List zRow := [(8, .iconst 0, 1, (0, 0, 0))]
theorem K132_8 : zRk 132 B132_8 = true := zRw_ok (by decide +kernel)
noncomputable def B132_9 : List zRow := [(0, .iload_n 3, 1, (0, 0, 0)), (1, .aload_n 0, 1, (0, 0, 0)), (2, .getfield 61, 3, (1, 1, 0)), (5, .if_icmp .lt 5, 3, (0, 0, 0))]
theorem K132_9 : zRk 132 B132_9 = true := zRw_ok (by decide +kernel)
noncomputable def B132_10 : List zRow := [(49, .iload_n 2, 1, (0, 0, 0))]
theorem K132_10 : zRk 132 B132_10 = true := zRw_ok (by decide +kernel)
def F132_0 (h : zHC) (v2 : Int) (s0 : Int) (s1 : Int) (s2 : Int) : Option Int := (F63 s2 s1 s0 h).bind fun r1 => (F65 r1 v2).bind fun r2 => zG (r2 = 0 ∨ r2 = 1) (some r2)
set_option maxRecDepth 100000 in
theorem T132_0 {spec : zRn zH2} {hm : zHM} {o : Int → Int} {d : Nat} (hd : 1 ≤ d) (h : zHC) (v2 : Int) (s0 : Int) (s1 : Int) (s2 : Int) (v : Int) (e : F132_0 h v2 s0 s1 s2 = some v) : zFin 0 (fun _ => 0) (zRu2 spec d) 132 (some (0, v)) (h, hm, o) (46, [none, none, some (0, v2), none], [(0, s0), (0, s1), (11, s2)], (h, hm, o)) := by
  unfold F132_0 at e
  obtain ⟨r1, q1, e⟩ := zB_s e
  refine zF_call (k := 63) (cl := 1) (n := 3) (i := .invokevirtual 66) (args := [(11, s2), (0, s1), (0, s0)]) (rest := []) (g1 := (h, hm, o)) (r1 := some (0, r1)) (zCk1_w (by decide +kernel)) rfl rfl rfl (st' := [(0, r1)]) rfl (S63 (Nat.le_trans (by decide) hd) s2 s1 s0 h _ q1) ?_
  obtain ⟨r2, q2, e⟩ := zB_s e
  refine zF_blk (m := []) (d := 0) (b := B132_10) (gs := []) (c' := (50, [none, none, some (0, v2), none], [(0, v2), (0, r1)], (h, hm, o))) K132_10 rfl trivial ?_
  refine zF_call (k := 65) (cl := 11) (n := 2) (i := .invokestatic 70) (args := [(0, r1), (0, v2)]) (rest := []) (g1 := (h, hm, o)) (r1 := some (0, r2)) (zCk1_w (by decide +kernel)) rfl rfl rfl (st' := [(0, r2)]) rfl (S65 (Nat.le_trans (by decide) hd) r1 v2 h _ q2) ?_
  obtain ⟨q3, e⟩ := zG_s e
  obtain rfl := Option.some.inj e
  exact zF_rb (zRe1_w (by decide +kernel)) q3
/-- EchoVale$ClaimsText.isSo(LEchoVale$Course;III)Z -/
def F132 (v0 : Int) (v1 : Int) (v2 : Int) (v3 : Int) (h : zHC) : Option Int := if v3 < (h 65 v0 0) then if ¬ v1 = 8 then if ¬ v1 = 7 then F132_0 h v2 7 v3 v0 else F132_0 h v2 5 v3 v0 else (F63 v0 v3 1 h).bind fun r1 => if ¬ r1 = v2 then some 0 else some 1 else some 0
set_option maxRecDepth 100000 in
theorem S132 {spec : zRn zH2} {hm : zHM} {o : Int → Int} {d : Nat} (hd : 2 ≤ d) (v0 : Int) (v1 : Int) (v2 : Int) (v3 : Int) (h : zHC) (v : Int) (e : F132 v0 v1 v2 v3 h = some v) : zRu2 spec d 132 [(11, v0), (0, v1), (0, v2), (0, v3)] (h, hm, o) (some (0, v)) (h, hm, o) := by
  refine zF_in (D := 1) (mx := 4) (L := [some (11, v0), some (0, v1), some (0, v2), some (0, v3)]) (by decide +kernel) rfl rfl hd (fun d hd => ?_)
  unfold F132 at e
  rcases zI_s e with ⟨q1, e⟩ | ⟨q1, e⟩
  · refine zF_blk (m := []) (d := 1) (b := B132_9) (gs := [v3 < (h 65 v0 0)]) (c' := (10, [some (11, v0), some (0, v1), some (0, v2), some (0, v3)], [], (h, hm, o))) K132_9 rfl ⟨q1, trivial⟩ ?_
    rcases zI_s e with ⟨q2, e⟩ | ⟨q2, e⟩
    · refine zF_blk (m := []) (d := 1) (b := B132_7) (gs := [¬ v1 = 8]) (c' := (32, [some (11, v0), some (0, v1), some (0, v2), some (0, v3)], [], (h, hm, o))) K132_7 rfl ⟨q2, trivial⟩ ?_
      rcases zI_s e with ⟨q3, e⟩ | ⟨q3, e⟩
      · refine zF_blk (m := []) (d := 1) (b := B132_2) (gs := [¬ v1 = 7]) (c' := (44, [some (11, v0), some (0, v1), some (0, v2), some (0, v3)], [(0, v3), (11, v0)], (h, hm, o))) K132_2 rfl ⟨q3, trivial⟩ ?_
        refine zF_blk (m := []) (d := 0) (b := B132_0) (gs := []) (c' := (46, [some (11, v0), some (0, v1), some (0, v2), some (0, v3)], [(0, 7), (0, v3), (11, v0)], (h, hm, o))) K132_0 rfl trivial ?_
        refine zF_blk (m := [false, false, true, false]) (d := 0) (b := []) (gs := []) (c' := (46, [none, none, some (0, v2), none], [(0, 7), (0, v3), (11, v0)], (h, hm, o))) rfl rfl trivial ?_
        exact T132_0 hd h v2 7 v3 v0 _ e
      · refine zF_blk (m := []) (d := 0) (b := B132_2) (gs := [¬ (¬ v1 = 7)]) (c' := (40, [some (11, v0), some (0, v1), some (0, v2), some (0, v3)], [(0, v3), (11, v0)], (h, hm, o))) K132_2 rfl ⟨q3, trivial⟩ ?_
        refine zF_blk (m := []) (d := 0) (b := B132_1) (gs := []) (c' := (46, [some (11, v0), some (0, v1), some (0, v2), some (0, v3)], [(0, 5), (0, v3), (11, v0)], (h, hm, o))) K132_1 rfl trivial ?_
        refine zF_blk (m := [false, false, true, false]) (d := 0) (b := []) (gs := []) (c' := (46, [none, none, some (0, v2), none], [(0, 5), (0, v3), (11, v0)], (h, hm, o))) rfl rfl trivial ?_
        exact T132_0 hd h v2 5 v3 v0 _ e
    · refine zF_blk (m := []) (d := 0) (b := B132_7) (gs := [¬ (¬ v1 = 8)]) (c' := (16, [some (11, v0), some (0, v1), some (0, v2), some (0, v3)], [], (h, hm, o))) K132_7 rfl ⟨q2, trivial⟩ ?_
      obtain ⟨r1, q4, e⟩ := zB_s e
      refine zF_blk (m := []) (d := 0) (b := B132_3) (gs := []) (c' := (19, [some (11, v0), some (0, v1), some (0, v2), some (0, v3)], [(0, 1), (0, v3), (11, v0)], (h, hm, o))) K132_3 rfl trivial ?_
      refine zF_call (k := 63) (cl := 1) (n := 3) (i := .invokevirtual 66) (args := [(11, v0), (0, v3), (0, 1)]) (rest := []) (g1 := (h, hm, o)) (r1 := some (0, r1)) (zCk1_w (by decide +kernel)) rfl rfl rfl (st' := [(0, r1)]) rfl (S63 (Nat.le_trans (by decide) hd) v0 v3 1 h _ q4) ?_
      rcases zI_s e with ⟨q5, e⟩ | ⟨q5, e⟩
      · refine zF_blk (m := []) (d := 1) (b := B132_6) (gs := [¬ r1 = v2]) (c' := (30, [some (11, v0), some (0, v1), some (0, v2), some (0, v3)], [], (h, hm, o))) K132_6 rfl ⟨q5, trivial⟩ ?_
        refine zF_blk (m := []) (d := 0) (b := B132_4) (gs := []) (c' := (31, [some (11, v0), some (0, v1), some (0, v2), some (0, v3)], [(0, 0)], (h, hm, o))) K132_4 rfl trivial ?_
        obtain rfl := Option.some.inj e
        exact zF_rb (zRe1_w (by decide +kernel)) (Or.inl rfl)
      · refine zF_blk (m := []) (d := 0) (b := B132_6) (gs := [¬ (¬ r1 = v2)]) (c' := (26, [some (11, v0), some (0, v1), some (0, v2), some (0, v3)], [], (h, hm, o))) K132_6 rfl ⟨q5, trivial⟩ ?_
        refine zF_blk (m := []) (d := 0) (b := B132_5) (gs := []) (c' := (31, [some (11, v0), some (0, v1), some (0, v2), some (0, v3)], [(0, 1)], (h, hm, o))) K132_5 rfl trivial ?_
        obtain rfl := Option.some.inj e
        exact zF_rb (zRe1_w (by decide +kernel)) (Or.inr rfl)
  · refine zF_blk (m := []) (d := 0) (b := B132_9) (gs := [¬ (v3 < (h 65 v0 0))]) (c' := (8, [some (11, v0), some (0, v1), some (0, v2), some (0, v3)], [], (h, hm, o))) K132_9 rfl ⟨q1, trivial⟩ ?_
    refine zF_blk (m := []) (d := 0) (b := B132_8) (gs := []) (c' := (9, [some (11, v0), some (0, v1), some (0, v2), some (0, v3)], [(0, 0)], (h, hm, o))) K132_8 rfl trivial ?_
    obtain rfl := Option.some.inj e
    exact zF_rb (zRe1_w (by decide +kernel)) (Or.inl rfl)
