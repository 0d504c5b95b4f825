/-! Functions of the methods, by wip/gen/lift.py. -/
def B85_0 : List zRow := [(46, .iconst 1, 1, (0, 0, 0)), (47, .goto 4, 3, (0, 0, 0))]
theorem K85_0 : zRk 85 B85_0 = true := by decide +kernel
def B85_1 : List zRow := [(32, .aload_n 0, 1, (0, 0, 0)), (33, .getfield 15, 3, (1, 4, 5243602)), (36, .iload 5, 2, (0, 0, 0)), (38, .iaload, 1, (0, 0, 0)), (39, .aload_n 0, 1, (0, 0, 0)), (40, .getfield 30, 3, (1, 0, 0)), (43, .if_icmp .gt 7, 3, (0, 0, 0))]
theorem K85_1 : zRk 85 B85_1 = true := by decide +kernel
def B85_2 : List zRow := [(0, .iload_n 2, 1, (0, 0, 0)), (1, .bipush 6, 2, (0, 0, 0)), (3, .imul, 1, (0, 0, 0)), (4, .iload_n 3, 1, (0, 0, 0)), (5, .iadd, 1, (0, 0, 0)), (6, .istore 5, 2, (0, 0, 0)), (8, .aload_n 0, 1, (0, 0, 0)), (9, .getfield 30, 3, (1, 0, 0)), (12, .aload_n 1, 1, (0, 0, 0)), (13, .getfield 84, 3, (9, 9, 5242906)), (16, .iload_n 3, 1, (0, 0, 0)), (17, .iaload, 1, (0, 0, 0)), (18, .iadd, 1, (0, 0, 0)), (19, .istore 6, 2, (0, 0, 0)), (21, .aload_n 0, 1, (0, 0, 0)), (22, .getfield 15, 3, (1, 4, 5243602)), (25, .iload 5, 2, (0, 0, 0)), (27, .iaload, 1, (0, 0, 0)), (28, .iconst (-1), 1, (0, 0, 0)), (29, .if_icmp .eq 21, 3, (0, 0, 0))]
theorem K85_2 : zRk 85 B85_2 = true := by decide +kernel
def B85_3 : List zRow := [(100, .iload 4, 2, (0, 0, 0)), (102, .aload_n 0, 1, (0, 0, 0)), (103, .getfield 18, 3, (1, 5, 5243602)), (106, .iload 5, 2, (0, 0, 0)), (108, .iaload, 1, (0, 0, 0)), (109, .if_icmp .le 21, 3, (0, 0, 0))]
theorem K85_3 : zRk 85 B85_3 = true := by decide +kernel
def B85_4 : List zRow := [(88, .iload 6, 2, (0, 0, 0)), (90, .aload_n 0, 1, (0, 0, 0)), (91, .getfield 15, 3, (1, 4, 5243602)), (94, .iload 5, 2, (0, 0, 0)), (96, .iaload, 1, (0, 0, 0)), (97, .if_icmp .ne 33, 3, (0, 0, 0))]
theorem K85_4 : zRk 85 B85_4 = true := by decide +kernel
def B85_5 : List zRow := [(76, .iload 6, 2, (0, 0, 0)), (78, .aload_n 0, 1, (0, 0, 0)), (79, .getfield 15, 3, (1, 4, 5243602)), (82, .iload 5, 2, (0, 0, 0)), (84, .iaload, 1, (0, 0, 0)), (85, .if_icmp .lt 27, 3, (0, 0, 0))]
theorem K85_5 : zRk 85 B85_5 = true := by decide +kernel
def B85_6 : List zRow := [(65, .aload_n 0, 1, (0, 0, 0)), (66, .getfield 15, 3, (1, 4, 5243602)), (69, .iload 5, 2, (0, 0, 0)), (71, .iaload, 1, (0, 0, 0)), (72, .iconst (-1), 1, (0, 0, 0)), (73, .if_icmp .eq 39, 3, (0, 0, 0))]
theorem K85_6 : zRk 85 B85_6 = true := by decide +kernel
def B85_7 : List zRow := [(59, .iload 7, 2, (0, 0, 0)), (61, .ifCond .eq 4, 3, (0, 0, 0))]
theorem K85_7 : zRk 85 B85_7 = true := by decide +kernel
def B85_8 : List zRow := [(51, .istore 7, 2, (0, 0, 0)), (53, .iload 4, 2, (0, 0, 0)), (55, .iconst 1, 1, (0, 0, 0)), (56, .if_icmp .lt 8, 3, (0, 0, 0))]
theorem K85_8 : zRk 85 B85_8 = true := by decide +kernel
def B85_9 : List zRow := [(112, .aload_n 0, 1, (0, 0, 0)), (113, .getfield 15, 3, (1, 4, 5243602)), (116, .iload 5, 2, (0, 0, 0)), (118, .iload 6, 2, (0, 0, 0)), (120, .iastore, 1, (0, 0, 0)), (121, .aload_n 0, 1, (0, 0, 0)), (122, .getfield 18, 3, (1, 5, 5243602)), (125, .iload 5, 2, (0, 0, 0)), (127, .iload 4, 2, (0, 0, 0)), (129, .iastore, 1, (0, 0, 0))]
theorem K85_9 : zRk 85 B85_9 = true := by decide +kernel
def B85_10 : List zRow := [(50, .iconst 0, 1, (0, 0, 0))]
theorem K85_10 : zRk 85 B85_10 = true := by decide +kernel
def F85_2 (v0 : Int) (v4 : Int) (v5 : Int) (v6 : Int) (h : zHC) : Option zHC := zG (0 ≤ v5 ∧ v5 < 180) (zG (0 ≤ v5 ∧ v5 < 180) (some (hset (hset h 68 v0 v5 v6) 69 v0 v5 v4)))
set_option maxRecDepth 100000 in
theorem T85_2 {spec : zRn zH2} {hm : zHM} {o : Int → Int} {d : Nat} (hd : 0 ≤ d) (v0 : Int) (v4 : Int) (v5 : Int) (v6 : Int) (h : zHC) (v : zHC) (e : F85_2 v0 v4 v5 v6 h = some v) : zFin 0 (fun _ => 0) (zRu2 spec d) 85 none (v, hm, o) (112, [some (11, v0), none, none, none, some (0, v4), some (0, v5), some (0, v6), none], [], (h, hm, o)) := by
  unfold F85_2 at e
  obtain ⟨q1, e⟩ := zG_s e
  obtain ⟨q1, e⟩ := zG_s e
  refine zF_blk (m := []) (d := 0) (b := B85_9) (gs := [0 ≤ v5 ∧ v5 < 180, 0 ≤ v5 ∧ v5 < 180]) (c' := (130, [some (11, v0), none, none, none, some (0, v4), some (0, v5), some (0, v6), none], [], ((hset (hset h 68 v0 v5 v6) 69 v0 v5 v4), hm, o))) K85_9 rfl ⟨q1, q1, trivial⟩ ?_
  obtain rfl := Option.some.inj e
  exact zF_rv (by decide +kernel)
def F85_1 (v0 : Int) (v4 : Int) (v5 : Int) (v6 : Int) (s0 : Int) (h : zHC) : Option zHC := if v4 < 1 then some h else if s0 = 0 then zG (0 ≤ v5 ∧ v5 < 180) (if (h 68 v0 v5) = (-1) then F85_2 v0 v4 v5 v6 h else zG (0 ≤ v5 ∧ v5 < 180) (if v6 < (h 68 v0 v5) then F85_2 v0 v4 v5 v6 h else zG (0 ≤ v5 ∧ v5 < 180) (if ¬ v6 = (h 68 v0 v5) then some h else zG (0 ≤ v5 ∧ v5 < 180) (if v4 ≤ (h 69 v0 v5) then some h else F85_2 v0 v4 v5 v6 h)))) else some h
set_option maxRecDepth 100000 in
theorem T85_1 {spec : zRn zH2} {hm : zHM} {o : Int → Int} {d : Nat} (hd : 0 ≤ d) (v0 : Int) (v4 : Int) (v5 : Int) (v6 : Int) (s0 : Int) (h : zHC) (v : zHC) (e : F85_1 v0 v4 v5 v6 s0 h = some v) : zFin 0 (fun _ => 0) (zRu2 spec d) 85 none (v, hm, o) (51, [some (11, v0), none, none, none, some (0, v4), some (0, v5), some (0, v6), none], [(0, s0)], (h, hm, o)) := by
  unfold F85_1 at e
  rcases zI_s e with ⟨q1, e⟩ | ⟨q1, e⟩
  · refine zF_blk (m := []) (d := 1) (b := B85_8) (gs := [v4 < 1]) (c' := (64, [some (11, v0), none, none, none, some (0, v4), some (0, v5), some (0, v6), some (0, s0)], [], (h, hm, o))) K85_8 rfl ⟨q1, trivial⟩ ?_
    obtain rfl := Option.some.inj e
    exact zF_rv (by decide +kernel)
  · refine zF_blk (m := []) (d := 0) (b := B85_8) (gs := [¬ (v4 < 1)]) (c' := (59, [some (11, v0), none, none, none, some (0, v4), some (0, v5), some (0, v6), some (0, s0)], [], (h, hm, o))) K85_8 rfl ⟨q1, trivial⟩ ?_
    rcases zI_s e with ⟨q2, e⟩ | ⟨q2, e⟩
    · refine zF_blk (m := []) (d := 1) (b := B85_7) (gs := [s0 = 0]) (c' := (65, [some (11, v0), none, none, none, some (0, v4), some (0, v5), some (0, v6), some (0, s0)], [], (h, hm, o))) K85_7 rfl ⟨q2, trivial⟩ ?_
      obtain ⟨q3, e⟩ := zG_s e
      rcases zI_s e with ⟨q4, e⟩ | ⟨q4, e⟩
      · refine zF_blk (m := []) (d := 1) (b := B85_6) (gs := [0 ≤ v5 ∧ v5 < 180, (h 68 v0 v5) = (-1)]) (c' := (112, [some (11, v0), none, none, none, some (0, v4), some (0, v5), some (0, v6), some (0, s0)], [], (h, hm, o))) K85_6 rfl ⟨q3, q4, trivial⟩ ?_
        refine zF_blk (m := [true, false, false, false, true, true, true, false]) (d := 0) (b := []) (gs := []) (c' := (112, [some (11, v0), none, none, none, some (0, v4), some (0, v5), some (0, v6), none], [], (h, hm, o))) rfl rfl trivial ?_
        exact T85_2 hd v0 v4 v5 v6 h _ e
      · refine zF_blk (m := []) (d := 0) (b := B85_6) (gs := [0 ≤ v5 ∧ v5 < 180, ¬ ((h 68 v0 v5) = (-1))]) (c' := (76, [some (11, v0), none, none, none, some (0, v4), some (0, v5), some (0, v6), some (0, s0)], [], (h, hm, o))) K85_6 rfl ⟨q3, q4, trivial⟩ ?_
        obtain ⟨q5, e⟩ := zG_s e
        rcases zI_s e with ⟨q6, e⟩ | ⟨q6, e⟩
        · refine zF_blk (m := []) (d := 1) (b := B85_5) (gs := [0 ≤ v5 ∧ v5 < 180, v6 < (h 68 v0 v5)]) (c' := (112, [some (11, v0), none, none, none, some (0, v4), some (0, v5), some (0, v6), some (0, s0)], [], (h, hm, o))) K85_5 rfl ⟨q5, q6, trivial⟩ ?_
          refine zF_blk (m := [true, false, false, false, true, true, true, false]) (d := 0) (b := []) (gs := []) (c' := (112, [some (11, v0), none, none, none, some (0, v4), some (0, v5), some (0, v6), none], [], (h, hm, o))) rfl rfl trivial ?_
          exact T85_2 hd v0 v4 v5 v6 h _ e
        · refine zF_blk (m := []) (d := 0) (b := B85_5) (gs := [0 ≤ v5 ∧ v5 < 180, ¬ (v6 < (h 68 v0 v5))]) (c' := (88, [some (11, v0), none, none, none, some (0, v4), some (0, v5), some (0, v6), some (0, s0)], [], (h, hm, o))) K85_5 rfl ⟨q5, q6, trivial⟩ ?_
          obtain ⟨q7, e⟩ := zG_s e
          rcases zI_s e with ⟨q8, e⟩ | ⟨q8, e⟩
          · refine zF_blk (m := []) (d := 1) (b := B85_4) (gs := [0 ≤ v5 ∧ v5 < 180, ¬ v6 = (h 68 v0 v5)]) (c' := (130, [some (11, v0), none, none, none, some (0, v4), some (0, v5), some (0, v6), some (0, s0)], [], (h, hm, o))) K85_4 rfl ⟨q7, q8, trivial⟩ ?_
            obtain rfl := Option.some.inj e
            exact zF_rv (by decide +kernel)
          · refine zF_blk (m := []) (d := 0) (b := B85_4) (gs := [0 ≤ v5 ∧ v5 < 180, ¬ (¬ v6 = (h 68 v0 v5))]) (c' := (100, [some (11, v0), none, none, none, some (0, v4), some (0, v5), some (0, v6), some (0, s0)], [], (h, hm, o))) K85_4 rfl ⟨q7, q8, trivial⟩ ?_
            obtain ⟨q9, e⟩ := zG_s e
            rcases zI_s e with ⟨q10, e⟩ | ⟨q10, e⟩
            · refine zF_blk (m := []) (d := 1) (b := B85_3) (gs := [0 ≤ v5 ∧ v5 < 180, v4 ≤ (h 69 v0 v5)]) (c' := (130, [some (11, v0), none, none, none, some (0, v4), some (0, v5), some (0, v6), some (0, s0)], [], (h, hm, o))) K85_3 rfl ⟨q9, q10, trivial⟩ ?_
              obtain rfl := Option.some.inj e
              exact zF_rv (by decide +kernel)
            · refine zF_blk (m := []) (d := 0) (b := B85_3) (gs := [0 ≤ v5 ∧ v5 < 180, ¬ (v4 ≤ (h 69 v0 v5))]) (c' := (112, [some (11, v0), none, none, none, some (0, v4), some (0, v5), some (0, v6), some (0, s0)], [], (h, hm, o))) K85_3 rfl ⟨q9, q10, trivial⟩ ?_
              refine zF_blk (m := [true, false, false, false, true, true, true, false]) (d := 0) (b := []) (gs := []) (c' := (112, [some (11, v0), none, none, none, some (0, v4), some (0, v5), some (0, v6), none], [], (h, hm, o))) rfl rfl trivial ?_
              exact T85_2 hd v0 v4 v5 v6 h _ e
    · refine zF_blk (m := []) (d := 0) (b := B85_7) (gs := [¬ (s0 = 0)]) (c' := (64, [some (11, v0), none, none, none, some (0, v4), some (0, v5), some (0, v6), some (0, s0)], [], (h, hm, o))) K85_7 rfl ⟨q2, trivial⟩ ?_
      obtain rfl := Option.some.inj e
      exact zF_rv (by decide +kernel)
def F85_0 (v0 : Int) (v4 : Int) (v5 : Int) (v6 : Int) (h : zHC) : Option zHC := F85_1 v0 v4 v5 v6 0 h
set_option maxRecDepth 100000 in
theorem T85_0 {spec : zRn zH2} {hm : zHM} {o : Int → Int} {d : Nat} (hd : 0 ≤ d) (v0 : Int) (v4 : Int) (v5 : Int) (v6 : Int) (h : zHC) (v : zHC) (e : F85_0 v0 v4 v5 v6 h = some v) : zFin 0 (fun _ => 0) (zRu2 spec d) 85 none (v, hm, o) (50, [some (11, v0), none, none, none, some (0, v4), some (0, v5), some (0, v6), none], [], (h, hm, o)) := by
  unfold F85_0 at e
  refine zF_blk (m := []) (d := 0) (b := B85_10) (gs := []) (c' := (51, [some (11, v0), none, none, none, some (0, v4), some (0, v5), some (0, v6), none], [(0, 0)], (h, hm, o))) K85_10 rfl trivial ?_
  exact T85_1 hd v0 v4 v5 v6 0 h _ e
/-- EchoVale$Course.offer(LEchoVale$Valley;III)V -/
def F85 (v0 : Int) (v1 : Int) (v2 : Int) (v3 : Int) (v4 : Int) (h : zHC) : Option zHC := zG (0 ≤ v3 ∧ v3 < 6) (zG (0 ≤ (wadd (wmul v2 6) v3) ∧ (wadd (wmul v2 6) v3) < 180) (if (h 68 v0 (wadd (wmul v2 6) v3)) = (-1) then F85_0 v0 v4 (wadd (wmul v2 6) v3) (wadd (h 64 v0 0) (h 585 v1 v3)) h else zG (0 ≤ (wadd (wmul v2 6) v3) ∧ (wadd (wmul v2 6) v3) < 180) (if (h 64 v0 0) < (h 68 v0 (wadd (wmul v2 6) v3)) then F85_0 v0 v4 (wadd (wmul v2 6) v3) (wadd (h 64 v0 0) (h 585 v1 v3)) h else F85_1 v0 v4 (wadd (wmul v2 6) v3) (wadd (h 64 v0 0) (h 585 v1 v3)) 1 h)))
set_option maxRecDepth 100000 in
theorem S85 {spec : zRn zH2} {hm : zHM} {o : Int → Int} {d : Nat} (hd : 1 ≤ d) (v0 : Int) (v1 : Int) (v2 : Int) (v3 : Int) (v4 : Int) (h : zHC) (v : zHC) (e : F85 v0 v1 v2 v3 v4 h = some v) : zRu2 spec d 85 [(11, v0), (19, v1), (0, v2), (0, v3), (0, v4)] (h, hm, o) none (v, hm, o) := by
  refine zF_in (D := 0) (mx := 8) (L := [some (11, v0), some (19, v1), some (0, v2), some (0, v3), some (0, v4), none, none, none]) (by decide +kernel) rfl rfl hd (fun d hd => ?_)
  unfold F85 at e
  obtain ⟨q1, e⟩ := zG_s e
  obtain ⟨q2, e⟩ := zG_s e
  rcases zI_s e with ⟨q3, e⟩ | ⟨q3, e⟩
  · refine zF_blk (m := []) (d := 1) (b := B85_2) (gs := [0 ≤ v3 ∧ v3 < 6, 0 ≤ (wadd (wmul v2 6) v3) ∧ (wadd (wmul v2 6) v3) < 180, (h 68 v0 (wadd (wmul v2 6) v3)) = (-1)]) (c' := (50, [some (11, v0), some (19, v1), some (0, v2), some (0, v3), some (0, v4), some (0, (wadd (wmul v2 6) v3)), some (0, (wadd (h 64 v0 0) (h 585 v1 v3))), none], [], (h, hm, o))) K85_2 rfl ⟨q1, q2, q3, trivial⟩ ?_
    refine zF_blk (m := [true, false, false, false, true, true, true, false]) (d := 0) (b := []) (gs := []) (c' := (50, [some (11, v0), none, none, none, some (0, v4), some (0, (wadd (wmul v2 6) v3)), some (0, (wadd (h 64 v0 0) (h 585 v1 v3))), none], [], (h, hm, o))) rfl rfl trivial ?_
    exact T85_0 hd v0 v4 (wadd (wmul v2 6) v3) (wadd (h 64 v0 0) (h 585 v1 v3)) h _ e
  · refine zF_blk (m := []) (d := 0) (b := B85_2) (gs := [0 ≤ v3 ∧ v3 < 6, 0 ≤ (wadd (wmul v2 6) v3) ∧ (wadd (wmul v2 6) v3) < 180, ¬ ((h 68 v0 (wadd (wmul v2 6) v3)) = (-1))]) (c' := (32, [some (11, v0), some (19, v1), some (0, v2), some (0, v3), some (0, v4), some (0, (wadd (wmul v2 6) v3)), some (0, (wadd (h 64 v0 0) (h 585 v1 v3))), none], [], (h, hm, o))) K85_2 rfl ⟨q1, q2, q3, trivial⟩ ?_
    obtain ⟨q4, e⟩ := zG_s e
    rcases zI_s e with ⟨q5, e⟩ | ⟨q5, e⟩
    · refine zF_blk (m := []) (d := 1) (b := B85_1) (gs := [0 ≤ (wadd (wmul v2 6) v3) ∧ (wadd (wmul v2 6) v3) < 180, (h 64 v0 0) < (h 68 v0 (wadd (wmul v2 6) v3))]) (c' := (50, [some (11, v0), some (19, v1), some (0, v2), some (0, v3), some (0, v4), some (0, (wadd (wmul v2 6) v3)), some (0, (wadd (h 64 v0 0) (h 585 v1 v3))), none], [], (h, hm, o))) K85_1 rfl ⟨q4, q5, trivial⟩ ?_
      refine zF_blk (m := [true, false, false, false, true, true, true, false]) (d := 0) (b := []) (gs := []) (c' := (50, [some (11, v0), none, none, none, some (0, v4), some (0, (wadd (wmul v2 6) v3)), some (0, (wadd (h 64 v0 0) (h 585 v1 v3))), none], [], (h, hm, o))) rfl rfl trivial ?_
      exact T85_0 hd v0 v4 (wadd (wmul v2 6) v3) (wadd (h 64 v0 0) (h 585 v1 v3)) h _ e
    · refine zF_blk (m := []) (d := 0) (b := B85_1) (gs := [0 ≤ (wadd (wmul v2 6) v3) ∧ (wadd (wmul v2 6) v3) < 180, ¬ ((h 64 v0 0) < (h 68 v0 (wadd (wmul v2 6) v3)))]) (c' := (46, [some (11, v0), some (19, v1), some (0, v2), some (0, v3), some (0, v4), some (0, (wadd (wmul v2 6) v3)), some (0, (wadd (h 64 v0 0) (h 585 v1 v3))), none], [], (h, hm, o))) K85_1 rfl ⟨q4, q5, trivial⟩ ?_
      refine zF_blk (m := []) (d := 0) (b := B85_0) (gs := []) (c' := (51, [some (11, v0), some (19, v1), some (0, v2), some (0, v3), some (0, v4), some (0, (wadd (wmul v2 6) v3)), some (0, (wadd (h 64 v0 0) (h 585 v1 v3))), none], [(0, 1)], (h, hm, o))) K85_0 rfl trivial ?_
      refine zF_blk (m := [true, false, false, false, true, true, true, false]) (d := 0) (b := []) (gs := []) (c' := (51, [some (11, v0), none, none, none, some (0, v4), some (0, (wadd (wmul v2 6) v3)), some (0, (wadd (h 64 v0 0) (h 585 v1 v3))), none], [(0, 1)], (h, hm, o))) rfl rfl trivial ?_
      exact T85_1 hd v0 v4 (wadd (wmul v2 6) v3) (wadd (h 64 v0 0) (h 585 v1 v3)) 1 h _ e
def B79_0 : List zRow := [(15, .iload 6, 2, (0, 0, 0)), (17, .bipush 8, 2, (0, 0, 0)), (19, .imul, 1, (0, 0, 0)), (20, .istore 7, 2, (0, 0, 0)), (22, .aload_n 0, 1, (0, 0, 0)), (23, .getfield 21, 3, (1, 6, 5243842)), (26, .iload 7, 2, (0, 0, 0)), (28, .iconst 0, 1, (0, 0, 0)), (29, .iadd, 1, (0, 0, 0)), (30, .iload 4, 2, (0, 0, 0)), (32, .iastore, 1, (0, 0, 0)), (33, .aload_n 0, 1, (0, 0, 0)), (34, .getfield 21, 3, (1, 6, 5243842)), (37, .iload 7, 2, (0, 0, 0)), (39, .iconst 1, 1, (0, 0, 0)), (40, .iadd, 1, (0, 0, 0)), (41, .iload_n 2, 1, (0, 0, 0)), (42, .iastore, 1, (0, 0, 0)), (43, .aload_n 0, 1, (0, 0, 0)), (44, .getfield 21, 3, (1, 6, 5243842)), (47, .iload 7, 2, (0, 0, 0)), (49, .iconst 2, 1, (0, 0, 0)), (50, .iadd, 1, (0, 0, 0)), (51, .aload_n 0, 1, (0, 0, 0)), (52, .getfield 30, 3, (1, 0, 0)), (55, .iastore, 1, (0, 0, 0)), (56, .aload_n 0, 1, (0, 0, 0)), (57, .getfield 21, 3, (1, 6, 5243842)), (60, .iload 7, 2, (0, 0, 0)), (62, .iconst 3, 1, (0, 0, 0)), (63, .iadd, 1, (0, 0, 0)), (64, .iload_n 3, 1, (0, 0, 0)), (65, .iastore, 1, (0, 0, 0)), (66, .aload_n 0, 1, (0, 0, 0)), (67, .getfield 21, 3, (1, 6, 5243842)), (70, .iload 7, 2, (0, 0, 0)), (72, .iconst 4, 1, (0, 0, 0)), (73, .iadd, 1, (0, 0, 0)), (74, .iload 5, 2, (0, 0, 0)), (76, .iastore, 1, (0, 0, 0)), (77, .aload_n 0, 1, (0, 0, 0)), (78, .getfield 21, 3, (1, 6, 5243842)), (81, .iload 7, 2, (0, 0, 0)), (83, .iconst 5, 1, (0, 0, 0)), (84, .iadd, 1, (0, 0, 0)), (85, .iconst 1, 1, (0, 0, 0)), (86, .iload_n 2, 1, (0, 0, 0)), (87, .ishl, 1, (0, 0, 0)), (88, .iastore, 1, (0, 0, 0)), (89, .aload_n 0, 1, (0, 0, 0)), (90, .getfield 21, 3, (1, 6, 5243842)), (93, .iload 7, 2, (0, 0, 0)), (95, .bipush 6, 2, (0, 0, 0)), (97, .iadd, 1, (0, 0, 0)), (98, .iconst 0, 1, (0, 0, 0)), (99, .iastore, 1, (0, 0, 0)), (100, .aload_n 0, 1, (0, 0, 0)), (101, .getfield 21, 3, (1, 6, 5243842)), (104, .iload 7, 2, (0, 0, 0)), (106, .bipush 7, 2, (0, 0, 0)), (108, .iadd, 1, (0, 0, 0)), (109, .iconst 0, 1, (0, 0, 0)), (110, .iastore, 1, (0, 0, 0)), (111, .aload_n 0, 1, (0, 0, 0)), (112, .getfield 15, 3, (1, 4, 5243602)), (115, .iload 6, 2, (0, 0, 0)), (117, .bipush 6, 2, (0, 0, 0)), (119, .imul, 1, (0, 0, 0)), (120, .iload 6, 2, (0, 0, 0)), (122, .iconst 1, 1, (0, 0, 0)), (123, .iadd, 1, (0, 0, 0)), (124, .bipush 6, 2, (0, 0, 0)), (126, .imul, 1, (0, 0, 0)), (127, .iconst (-1), 1, (0, 0, 0))]
theorem K79_0 : zRk 79 B79_0 = true := by decide +kernel
def B79_1 : List zRow := [(131, .aload_n 0, 1, (0, 0, 0)), (132, .iload 6, 2, (0, 0, 0)), (134, .iconst 1, 1, (0, 0, 0)), (135, .iadd, 1, (0, 0, 0)), (136, .putfield 34, 3, (1, 1, 0)), (139, .iconst 0, 1, (0, 0, 0)), (140, .istore 8, 2, (0, 0, 0))]
theorem K79_1 : zRk 79 B79_1 = true := by decide +kernel
def B79_2 : List zRow := [(13, .iconst (-1), 1, (0, 0, 0))]
theorem K79_2 : zRk 79 B79_2 = true := by decide +kernel
def B79_3 : List zRow := [(0, .aload_n 0, 1, (0, 0, 0)), (1, .getfield 34, 3, (1, 1, 0)), (4, .istore 6, 2, (0, 0, 0)), (6, .iload 6, 2, (0, 0, 0)), (8, .bipush 30, 2, (0, 0, 0)), (10, .if_icmp .lt 5, 3, (0, 0, 0))]
theorem K79_3 : zRk 79 B79_3 = true := by decide +kernel
def B79_4 : List zRow := [(175, .aload_n 0, 1, (0, 0, 0)), (176, .iload 6, 2, (0, 0, 0))]
theorem K79_4 : zRk 79 B79_4 = true := by decide +kernel
def B79_5 : List zRow := [(181, .iload 6, 2, (0, 0, 0))]
theorem K79_5 : zRk 79 B79_5 = true := by decide +kernel
def B79_6 : List zRow := [(151, .aload_n 0, 1, (0, 0, 0)), (152, .aload_n 1, 1, (0, 0, 0)), (153, .iload 6, 2, (0, 0, 0)), (155, .iload 8, 2, (0, 0, 0)), (157, .aload_n 1, 1, (0, 0, 0)), (158, .iload 8, 2, (0, 0, 0)), (160, .iload_n 3, 1, (0, 0, 0)), (161, .iload 5, 2, (0, 0, 0))]
theorem K79_6 : zRk 79 B79_6 = true := by decide +kernel
def B79_7 : List zRow := [(169, .iinc 8 1, 3, (0, 0, 0)), (172, .goto (-30), 3, (0, 0, 0))]
theorem K79_7 : zRk 79 B79_7 = true := by decide +kernel
def B79_8 : List zRow := [(142, .iload 8, 2, (0, 0, 0)), (144, .aload_n 1, 1, (0, 0, 0)), (145, .getfield 69, 3, (9, 2, 0)), (148, .if_icmp .ge 27, 3, (0, 0, 0))]
theorem K79_8 : zRk 79 B79_8 = true := by decide +kernel
def F79_0 : Nat → Int → Int → Int → Int → Int → Int → zHC → Option (Int × zHC)
  | 0, _, _, _, _, _, _, _ => none
  | n + 1, v0, v1, v3, v5, v6, v8, h => if (h 578 v1 0) ≤ v8 then (F86 v0 v6 h).bind fun r1 => some (v6, r1) else (F82 v1 v8 v3 v5 h).bind fun r2 => (F85 v0 v1 v6 v8 r2 h).bind fun r3 => (F79_0 n) v0 v1 v3 v5 v6 (wadd v8 1) r3
set_option maxRecDepth 100000 in
theorem T79_0 {spec : zRn zH2} {hm : zHM} {o : Int → Int} {d : Nat} (hd : 2 ≤ d) : ∀ (n : Nat) (v0 : Int) (v1 : Int) (v3 : Int) (v5 : Int) (v6 : Int) (v8 : Int) (h : zHC) (v : (Int × zHC)), F79_0 n v0 v1 v3 v5 v6 v8 h = some v → zFin 0 (fun _ => 0) (zRu2 spec d) 79 (some (0, v.1)) (v.2, hm, o) (142, [some (11, v0), some (19, v1), none, some (0, v3), none, some (0, v5), some (0, v6), none, some (0, v8)], [], (h, hm, o)) := by
  intro n
  induction n with
  | zero => intro v0 v1 v3 v5 v6 v8 h v e; unfold F79_0 at e; cases e
  | succ n hk0 =>
    intro v0 v1 v3 v5 v6 v8 h v e
    unfold F79_0 at e
    rcases zI_s e with ⟨q1, e⟩ | ⟨q1, e⟩
    · refine zF_blk (m := []) (d := 1) (b := B79_8) (gs := [(h 578 v1 0) ≤ v8]) (c' := (175, [some (11, v0), some (19, v1), none, some (0, v3), none, some (0, v5), some (0, v6), none, some (0, v8)], [], (h, hm, o))) K79_8 rfl ⟨q1, trivial⟩ ?_
      obtain ⟨r1, q2, e⟩ := zB_s e
      refine zF_blk (m := []) (d := 0) (b := B79_4) (gs := []) (c' := (178, [some (11, v0), some (19, v1), none, some (0, v3), none, some (0, v5), some (0, v6), none, some (0, v8)], [(0, v6), (11, v0)], (h, hm, o))) K79_4 rfl trivial ?_
      refine zF_call (k := 86) (cl := 1) (n := 2) (i := .invokevirtual 80) (args := [(11, v0), (0, v6)]) (rest := []) (g1 := (r1, hm, o)) (r1 := none) (by decide +kernel) rfl rfl rfl (st' := []) rfl (S86 (Nat.le_trans (by decide) hd) v0 v6 h _ q2) ?_
      refine zF_blk (m := []) (d := 0) (b := B79_5) (gs := []) (c' := (183, [some (11, v0), some (19, v1), none, some (0, v3), none, some (0, v5), some (0, v6), none, some (0, v8)], [(0, v6)], (r1, hm, o))) K79_5 rfl trivial ?_
      exact zF_riC (by decide +kernel) e
    · refine zF_blk (m := []) (d := 0) (b := B79_8) (gs := [¬ ((h 578 v1 0) ≤ v8)]) (c' := (151, [some (11, v0), some (19, v1), none, some (0, v3), none, some (0, v5), some (0, v6), none, some (0, v8)], [], (h, hm, o))) K79_8 rfl ⟨q1, trivial⟩ ?_
      obtain ⟨r2, q3, e⟩ := zB_s e
      refine zF_blk (m := []) (d := 0) (b := B79_6) (gs := []) (c' := (163, [some (11, v0), some (19, v1), none, some (0, v3), none, some (0, v5), some (0, v6), none, some (0, v8)], [(0, v5), (0, v3), (0, v8), (19, v1), (0, v8), (0, v6), (19, v1), (11, v0)], (h, hm, o))) K79_6 rfl trivial ?_
      refine zF_call (k := 82) (cl := 9) (n := 4) (i := .invokevirtual 72) (args := [(19, v1), (0, v8), (0, v3), (0, v5)]) (rest := [(0, v8), (0, v6), (19, v1), (11, v0)]) (g1 := (h, hm, o)) (r1 := some (0, r2)) (by decide +kernel) rfl rfl rfl (st' := [(0, r2), (0, v8), (0, v6), (19, v1), (11, v0)]) rfl (S82 (Nat.le_trans (by decide) hd) v1 v8 v3 v5 h _ q3) ?_
      obtain ⟨r3, q4, e⟩ := zB_s e
      refine zF_call (k := 85) (cl := 1) (n := 5) (i := .invokevirtual 76) (args := [(11, v0), (19, v1), (0, v6), (0, v8), (0, r2)]) (rest := []) (g1 := (r3, hm, o)) (r1 := none) (by decide +kernel) rfl rfl rfl (st' := []) rfl (S85 (Nat.le_trans (by decide) hd) v0 v1 v6 v8 r2 h _ q4) ?_
      refine zF_blk (m := []) (d := 0) (b := B79_7) (gs := []) (c' := (142, [some (11, v0), some (19, v1), none, some (0, v3), none, some (0, v5), some (0, v6), none, some (0, (wadd v8 1))], [], (r3, hm, o))) K79_7 rfl trivial ?_
      exact hk0 v0 v1 v3 v5 v6 (wadd v8 1) r3 _ e
/-- EchoVale$Course.utter(LEchoVale$Valley;IIII)I -/
def F79 (v0 : Int) (v1 : Int) (v2 : Int) (v3 : Int) (v4 : Int) (v5 : Int) (h : zHC) : Option (Int × zHC) := if (h 65 v0 0) < 30 then zG (0 ≤ (wadd (wmul (h 65 v0 0) 8) 0) ∧ (wadd (wmul (h 65 v0 0) 8) 0) < 240) (zG (0 ≤ (wadd (wmul (h 65 v0 0) 8) 1) ∧ (wadd (wmul (h 65 v0 0) 8) 1) < 240) (zG (0 ≤ (wadd (wmul (h 65 v0 0) 8) 2) ∧ (wadd (wmul (h 65 v0 0) 8) 2) < 240) (zG (0 ≤ (wadd (wmul (h 65 v0 0) 8) 3) ∧ (wadd (wmul (h 65 v0 0) 8) 3) < 240) (zG (0 ≤ (wadd (wmul (h 65 v0 0) 8) 4) ∧ (wadd (wmul (h 65 v0 0) 8) 4) < 240) (zG (0 ≤ (wadd (wmul (h 65 v0 0) 8) 5) ∧ (wadd (wmul (h 65 v0 0) 8) 5) < 240) (zG (0 ≤ (wadd (wmul (h 65 v0 0) 8) 6) ∧ (wadd (wmul (h 65 v0 0) 8) 6) < 240) (zG (0 ≤ (wadd (wmul (h 65 v0 0) 8) 7) ∧ (wadd (wmul (h 65 v0 0) 8) 7) < 240) ((F80 v0 (wmul (h 65 v0 0) 6) (wmul (wadd (h 65 v0 0) 1) 6) (-1) (hset (hset (hset (hset (hset (hset (hset (hset h 70 v0 (wadd (wmul (h 65 v0 0) 8) 0) v4) 70 v0 (wadd (wmul (h 65 v0 0) 8) 1) v2) 70 v0 (wadd (wmul (h 65 v0 0) 8) 2) (h 64 v0 0)) 70 v0 (wadd (wmul (h 65 v0 0) 8) 3) v3) 70 v0 (wadd (wmul (h 65 v0 0) 8) 4) v5) 70 v0 (wadd (wmul (h 65 v0 0) 8) 5) (wshl 1 v2)) 70 v0 (wadd (wmul (h 65 v0 0) 8) 6) 0) 70 v0 (wadd (wmul (h 65 v0 0) 8) 7) 0)).bind fun r1 => F79_0 zFu v0 v1 v3 v5 (h 65 v0 0) 0 (hset r1 65 v0 0 (wadd (h 65 v0 0) 1)))))))))) else some ((-1), h)
set_option maxRecDepth 100000 in
theorem S79 {spec : zRn zH2} {hm : zHM} {o : Int → Int} {d : Nat} (hd : 3 ≤ d) (v0 : Int) (v1 : Int) (v2 : Int) (v3 : Int) (v4 : Int) (v5 : Int) (h : zHC) (v : (Int × zHC)) (e : F79 v0 v1 v2 v3 v4 v5 h = some v) : zRu2 spec d 79 [(11, v0), (19, v1), (0, v2), (0, v3), (0, v4), (0, v5)] (h, hm, o) (some (0, v.1)) (v.2, hm, o) := by
  refine zF_in (D := 2) (mx := 9) (L := [some (11, v0), some (19, v1), some (0, v2), some (0, v3), some (0, v4), some (0, v5), none, none, none]) (by decide +kernel) rfl rfl hd (fun d hd => ?_)
  unfold F79 at e
  rcases zI_s e with ⟨q1, e⟩ | ⟨q1, e⟩
  · refine zF_blk (m := []) (d := 1) (b := B79_3) (gs := [(h 65 v0 0) < 30]) (c' := (15, [some (11, v0), some (19, v1), some (0, v2), some (0, v3), some (0, v4), some (0, v5), some (0, (h 65 v0 0)), none, none], [], (h, hm, o))) K79_3 rfl ⟨q1, trivial⟩ ?_
    obtain ⟨q2, e⟩ := zG_s e
    obtain ⟨q3, e⟩ := zG_s e
    obtain ⟨q4, e⟩ := zG_s e
    obtain ⟨q5, e⟩ := zG_s e
    obtain ⟨q6, e⟩ := zG_s e
    obtain ⟨q7, e⟩ := zG_s e
    obtain ⟨q8, e⟩ := zG_s e
    obtain ⟨q9, e⟩ := zG_s e
    obtain ⟨r1, q10, e⟩ := zB_s e
    refine zF_blk (m := []) (d := 0) (b := B79_0) (gs := [0 ≤ (wadd (wmul (h 65 v0 0) 8) 0) ∧ (wadd (wmul (h 65 v0 0) 8) 0) < 240, 0 ≤ (wadd (wmul (h 65 v0 0) 8) 1) ∧ (wadd (wmul (h 65 v0 0) 8) 1) < 240, 0 ≤ (wadd (wmul (h 65 v0 0) 8) 2) ∧ (wadd (wmul (h 65 v0 0) 8) 2) < 240, 0 ≤ (wadd (wmul (h 65 v0 0) 8) 3) ∧ (wadd (wmul (h 65 v0 0) 8) 3) < 240, 0 ≤ (wadd (wmul (h 65 v0 0) 8) 4) ∧ (wadd (wmul (h 65 v0 0) 8) 4) < 240, 0 ≤ (wadd (wmul (h 65 v0 0) 8) 5) ∧ (wadd (wmul (h 65 v0 0) 8) 5) < 240, 0 ≤ (wadd (wmul (h 65 v0 0) 8) 6) ∧ (wadd (wmul (h 65 v0 0) 8) 6) < 240, 0 ≤ (wadd (wmul (h 65 v0 0) 8) 7) ∧ (wadd (wmul (h 65 v0 0) 8) 7) < 240]) (c' := (128, [some (11, v0), some (19, v1), some (0, v2), some (0, v3), some (0, v4), some (0, v5), some (0, (h 65 v0 0)), some (0, (wmul (h 65 v0 0) 8)), none], [(0, (-1)), (0, (wmul (wadd (h 65 v0 0) 1) 6)), (0, (wmul (h 65 v0 0) 6)), (1342362668, v0)], ((hset (hset (hset (hset (hset (hset (hset (hset h 70 v0 (wadd (wmul (h 65 v0 0) 8) 0) v4) 70 v0 (wadd (wmul (h 65 v0 0) 8) 1) v2) 70 v0 (wadd (wmul (h 65 v0 0) 8) 2) (h 64 v0 0)) 70 v0 (wadd (wmul (h 65 v0 0) 8) 3) v3) 70 v0 (wadd (wmul (h 65 v0 0) 8) 4) v5) 70 v0 (wadd (wmul (h 65 v0 0) 8) 5) (wshl 1 v2)) 70 v0 (wadd (wmul (h 65 v0 0) 8) 6) 0) 70 v0 (wadd (wmul (h 65 v0 0) 8) 7) 0), hm, o))) K79_0 rfl ⟨q2, q3, q4, q5, q6, q7, q8, q9, trivial⟩ ?_
    refine zF_call (k := 80) (cl := 15) (n := 4) (i := .invokestatic 63) (args := [(1342362668, v0), (0, (wmul (h 65 v0 0) 6)), (0, (wmul (wadd (h 65 v0 0) 1) 6)), (0, (-1))]) (rest := []) (g1 := (r1, hm, o)) (r1 := none) (by decide +kernel) rfl rfl rfl (st' := []) rfl (S80 (Nat.le_trans (by decide) hd) v0 (wmul (h 65 v0 0) 6) (wmul (wadd (h 65 v0 0) 1) 6) (-1) (hset (hset (hset (hset (hset (hset (hset (hset h 70 v0 (wadd (wmul (h 65 v0 0) 8) 0) v4) 70 v0 (wadd (wmul (h 65 v0 0) 8) 1) v2) 70 v0 (wadd (wmul (h 65 v0 0) 8) 2) (h 64 v0 0)) 70 v0 (wadd (wmul (h 65 v0 0) 8) 3) v3) 70 v0 (wadd (wmul (h 65 v0 0) 8) 4) v5) 70 v0 (wadd (wmul (h 65 v0 0) 8) 5) (wshl 1 v2)) 70 v0 (wadd (wmul (h 65 v0 0) 8) 6) 0) 70 v0 (wadd (wmul (h 65 v0 0) 8) 7) 0) _ q10) ?_
    refine zF_blk (m := []) (d := 0) (b := B79_1) (gs := []) (c' := (142, [some (11, v0), some (19, v1), some (0, v2), some (0, v3), some (0, v4), some (0, v5), some (0, (h 65 v0 0)), some (0, (wmul (h 65 v0 0) 8)), some (0, 0)], [], ((hset r1 65 v0 0 (wadd (h 65 v0 0) 1)), hm, o))) K79_1 rfl trivial ?_
    refine zF_blk (m := [true, true, false, true, false, true, true, false, true]) (d := 0) (b := []) (gs := []) (c' := (142, [some (11, v0), some (19, v1), none, some (0, v3), none, some (0, v5), some (0, (h 65 v0 0)), none, some (0, 0)], [], ((hset r1 65 v0 0 (wadd (h 65 v0 0) 1)), hm, o))) rfl rfl trivial ?_
    exact T79_0 hd zFu v0 v1 v3 v5 (h 65 v0 0) 0 (hset r1 65 v0 0 (wadd (h 65 v0 0) 1)) _ e
  · refine zF_blk (m := []) (d := 0) (b := B79_3) (gs := [¬ ((h 65 v0 0) < 30)]) (c' := (13, [some (11, v0), some (19, v1), some (0, v2), some (0, v3), some (0, v4), some (0, v5), some (0, (h 65 v0 0)), none, none], [], (h, hm, o))) K79_3 rfl ⟨q1, trivial⟩ ?_
    refine zF_blk (m := []) (d := 0) (b := B79_2) (gs := []) (c' := (14, [some (11, v0), some (19, v1), some (0, v2), some (0, v3), some (0, v4), some (0, v5), some (0, (h 65 v0 0)), none, none], [(0, (-1))], (h, hm, o))) K79_2 rfl trivial ?_
    exact zF_riC (by decide +kernel) e
def B76_0 : List zRow := [(0, .aload_n 0, 1, (0, 0, 0)), (1, .getfield 9, 3, (1, 3, 5242906)), (4, .iload_n 2, 1, (0, 0, 0)), (5, .iaload, 1, (0, 0, 0)), (6, .istore 5, 2, (0, 0, 0)), (8, .aload_n 0, 1, (0, 0, 0)), (9, .aload_n 1, 1, (0, 0, 0)), (10, .iload_n 2, 1, (0, 0, 0)), (11, .iload 5, 2, (0, 0, 0)), (13, .iload_n 3, 1, (0, 0, 0)), (14, .aload_n 1, 1, (0, 0, 0)), (15, .iload 5, 2, (0, 0, 0)), (17, .iload 4, 2, (0, 0, 0))]
theorem K76_0 : zRk 76 B76_0 = true := by decide +kernel
/-- EchoVale$Course.speak(LEchoVale$Valley;III)I -/
def F76 (v0 : Int) (v1 : Int) (v2 : Int) (v3 : Int) (v4 : Int) (h : zHC) : Option (Int × zHC) := zG (0 ≤ v2 ∧ v2 < 6) ((F77 v1 (h 67 v0 v2) v4 h).bind fun r1 => (F79 v0 v1 v2 (h 67 v0 v2) v3 r1 h).bind fun r2 => some (r2.1, r2.2))
set_option maxRecDepth 100000 in
theorem S76 {spec : zRn zH2} {hm : zHM} {o : Int → Int} {d : Nat} (hd : 4 ≤ d) (v0 : Int) (v1 : Int) (v2 : Int) (v3 : Int) (v4 : Int) (h : zHC) (v : (Int × zHC)) (e : F76 v0 v1 v2 v3 v4 h = some v) : zRu2 spec d 76 [(11, v0), (19, v1), (0, v2), (0, v3), (0, v4)] (h, hm, o) (some (0, v.1)) (v.2, hm, o) := by
  refine zF_in (D := 3) (mx := 6) (L := [some (11, v0), some (19, v1), some (0, v2), some (0, v3), some (0, v4), none]) (by decide +kernel) rfl rfl hd (fun d hd => ?_)
  unfold F76 at e
  obtain ⟨q1, e⟩ := zG_s e
  obtain ⟨r1, q2, e⟩ := zB_s e
  refine zF_blk (m := []) (d := 0) (b := B76_0) (gs := [0 ≤ v2 ∧ v2 < 6]) (c' := (19, [some (11, v0), some (19, v1), some (0, v2), some (0, v3), some (0, v4), some (0, (h 67 v0 v2))], [(0, v4), (0, (h 67 v0 v2)), (19, v1), (0, v3), (0, (h 67 v0 v2)), (0, v2), (19, v1), (11, v0)], (h, hm, o))) K76_0 rfl ⟨q1, trivial⟩ ?_
  refine zF_call (k := 77) (cl := 9) (n := 3) (i := .invokevirtual 55) (args := [(19, v1), (0, (h 67 v0 v2)), (0, v4)]) (rest := [(0, v3), (0, (h 67 v0 v2)), (0, v2), (19, v1), (11, v0)]) (g1 := (h, hm, o)) (r1 := some (0, r1)) (by decide +kernel) rfl rfl rfl (st' := [(0, r1), (0, v3), (0, (h 67 v0 v2)), (0, v2), (19, v1), (11, v0)]) rfl (S77 (Nat.le_trans (by decide) hd) v1 (h 67 v0 v2) v4 h _ q2) ?_
  obtain ⟨r2, q3, e⟩ := zB_s e
  refine zF_call (k := 79) (cl := 1) (n := 6) (i := .invokevirtual 59) (args := [(11, v0), (19, v1), (0, v2), (0, (h 67 v0 v2)), (0, v3), (0, r1)]) (rest := []) (g1 := (r2.2, hm, o)) (r1 := some (0, r2.1)) (by decide +kernel) rfl rfl rfl (st' := [(0, r2.1)]) rfl (S79 (Nat.le_trans (by decide) hd) v0 v1 v2 (h 67 v0 v2) v3 r1 h _ q3) ?_
  exact zF_riC (by decide +kernel) e
