/-! Functions of the methods, by wip/gen/lift.py. -/
def B267_0 : List zRow := [(26, .iconst (-1), 1, (0, 0, 0))]
theorem K267_0 : zRk 267 B267_0 = true := by decide +kernel
def B267_1 : List zRow := [(17, .aload_n 0, 1, (0, 0, 0)), (18, .getfield 54, 3, (12, 29, 5243082)), (21, .iload_n 1, 1, (0, 0, 0)), (22, .iaload, 1, (0, 0, 0)), (23, .goto 4, 3, (0, 0, 0))]
theorem K267_1 : zRk 267 B267_1 = true := by decide +kernel
def B267_2 : List zRow := [(9, .iload_n 1, 1, (0, 0, 0)), (10, .aload_n 0, 1, (0, 0, 0)), (11, .getfield 351, 3, (12, 35, 0)), (14, .if_icmp .ge 12, 3, (0, 0, 0))]
theorem K267_2 : zRk 267 B267_2 = true := by decide +kernel
def B267_3 : List zRow := [(0, .aload_n 0, 1, (0, 0, 0)), (1, .iconst 0, 1, (0, 0, 0)), (2, .putfield 81, 3, (12, 0, 0)), (5, .iload_n 1, 1, (0, 0, 0)), (6, .ifCond .lt 20, 3, (0, 0, 0))]
theorem K267_3 : zRk 267 B267_3 = true := by decide +kernel
/-- EchoValeModel.piece(I)I -/
def F267 (v1 : Int) (h : zHM) : Option (Int × zHM) := if v1 < 0 then some ((-1), (mset h 0 0 0)) else if (h 35 0) ≤ v1 then some ((-1), (mset h 0 0 0)) else zG (0 ≤ v1 ∧ v1 < 50) (some ((h 29 v1), (mset h 0 0 0)))
set_option maxRecDepth 100000 in
theorem S267 {spec : zRn zH2} {hc : zHC} {o : Int → Int} {d : Nat} (hd : 1 ≤ d) (v1 : Int) (h : zHM) (v : (Int × zHM)) (e : F267 v1 h = some v) : zRu2 spec d 267 [(22, 0), (0, v1)] (hc, h, o) (some (0, v.1)) (hc, v.2, o) := by
  refine zF_in (D := 0) (mx := 2) (L := [some (22, 0), some (0, v1)]) (by decide +kernel) rfl rfl hd (fun d hd => ?_)
  unfold F267 at e
  rcases zI_s e with ⟨q1, e⟩ | ⟨q1, e⟩
  · refine zF_blk (m := []) (d := 1) (b := B267_3) (gs := [v1 < 0]) (c' := (26, [some (22, 0), some (0, v1)], [], (hc, (mset h 0 0 0), o))) K267_3 rfl ⟨q1, trivial⟩ ?_
    refine zF_blk (m := []) (d := 0) (b := B267_0) (gs := []) (c' := (27, [some (22, 0), some (0, v1)], [(0, (-1))], (hc, (mset h 0 0 0), o))) K267_0 rfl trivial ?_
    exact zF_riM (by decide +kernel) e
  · refine zF_blk (m := []) (d := 0) (b := B267_3) (gs := [¬ (v1 < 0)]) (c' := (9, [some (22, 0), some (0, v1)], [], (hc, (mset h 0 0 0), o))) K267_3 rfl ⟨q1, trivial⟩ ?_
    rcases zI_s e with ⟨q2, e⟩ | ⟨q2, e⟩
    · refine zF_blk (m := []) (d := 1) (b := B267_2) (gs := [(h 35 0) ≤ v1]) (c' := (26, [some (22, 0), some (0, v1)], [], (hc, (mset h 0 0 0), o))) K267_2 rfl ⟨q2, trivial⟩ ?_
      refine zF_blk (m := []) (d := 0) (b := B267_0) (gs := []) (c' := (27, [some (22, 0), some (0, v1)], [(0, (-1))], (hc, (mset h 0 0 0), o))) K267_0 rfl trivial ?_
      exact zF_riM (by decide +kernel) e
    · refine zF_blk (m := []) (d := 0) (b := B267_2) (gs := [¬ ((h 35 0) ≤ v1)]) (c' := (17, [some (22, 0), some (0, v1)], [], (hc, (mset h 0 0 0), o))) K267_2 rfl ⟨q2, trivial⟩ ?_
      obtain ⟨q3, e⟩ := zG_s e
      refine zF_blk (m := []) (d := 0) (b := B267_1) (gs := [0 ≤ v1 ∧ v1 < 50]) (c' := (27, [some (22, 0), some (0, v1)], [(0, (h 29 v1))], (hc, (mset h 0 0 0), o))) K267_1 rfl ⟨q3, trivial⟩ ?_
      exact zF_riM (by decide +kernel) e
def B132_0 : List zRow := [(44, .bipush 7, 2, (0, 0, 0))]
theorem K132_0 : zRk 132 B132_0 = true := by decide +kernel
def B132_1 : List zRow := [(40, .iconst 5, 1, (0, 0, 0)), (41, .goto 5, 3, (0, 0, 0))]
theorem K132_1 : zRk 132 B132_1 = true := by decide +kernel
def B132_2 : List zRow := [(32, .aload_n 0, 1, (0, 0, 0)), (33, .iload_n 3, 1, (0, 0, 0)), (34, .iload_n 1, 1, (0, 0, 0)), (35, .bipush 7, 2, (0, 0, 0)), (37, .if_icmp .ne 7, 3, (0, 0, 0))]
theorem K132_2 : zRk 132 B132_2 = true := by decide +kernel
def B132_3 : List zRow := [(16, .aload_n 0, 1, (0, 0, 0)), (17, .iload_n 3, 1, (0, 0, 0)), (18, .iconst 1, 1, (0, 0, 0))]
theorem K132_3 : zRk 132 B132_3 = true := by decide +kernel
def B132_4 : List zRow := [(30, .iconst 0, 1, (0, 0, 0))]
theorem K132_4 : zRk 132 B132_4 = true := by decide +kernel
def B132_5 : List zRow := [(26, .iconst 1, 1, (0, 0, 0)), (27, .goto 4, 3, (0, 0, 0))]
theorem K132_5 : zRk 132 B132_5 = true := by decide +kernel
def B132_6 : List zRow := [(22, .iload_n 2, 1, (0, 0, 0)), (23, .if_icmp .ne 7, 3, (0, 0, 0))]
theorem K132_6 : zRk 132 B132_6 = true := by decide +kernel
def B132_7 : List zRow := [(10, .iload_n 1, 1, (0, 0, 0)), (11, .bipush 8, 2, (0, 0, 0)), (13, .if_icmp .ne 19, 3, (0, 0, 0))]
theorem K132_7 : zRk 132 B132_7 = true := by decide +kernel
def B132_8 : List zRow := [(8, .iconst 0, 1, (0, 0, 0))]
theorem K132_8 : zRk 132 B132_8 = true := by decide +kernel
def B132_9 : List zRow := [(0, .iload_n 3, 1, (0, 0, 0)), (1, .aload_n 0, 1, (0, 0, 0)), (2, .getfield 61, 3, (1, 1, 0)), (5, .if_icmp .lt 5, 3, (0, 0, 0))]
theorem K132_9 : zRk 132 B132_9 = true := by decide +kernel
def B132_10 : List zRow := [(49, .iload_n 2, 1, (0, 0, 0))]
theorem K132_10 : zRk 132 B132_10 = true := by decide +kernel
def F132_0 (h : zHC) (v2 : Int) (s0 : Int) (s1 : Int) (s2 : Int) : Option Int := (F63 s2 s1 s0 h).bind fun r1 => (F65 r1 v2).bind fun r2 => zG (r2 = 0 ∨ r2 = 1) (some r2)
set_option maxRecDepth 100000 in
theorem T132_0 {spec : zRn zH2} {hm : zHM} {o : Int → Int} {d : Nat} (hd : 1 ≤ d) (h : zHC) (v2 : Int) (s0 : Int) (s1 : Int) (s2 : Int) (v : Int) (e : F132_0 h v2 s0 s1 s2 = some v) : zFin 0 (fun _ => 0) (zRu2 spec d) 132 (some (0, v)) (h, hm, o) (46, [none, none, some (0, v2), none], [(0, s0), (0, s1), (11, s2)], (h, hm, o)) := by
  unfold F132_0 at e
  obtain ⟨r1, q1, e⟩ := zB_s e
  refine zF_call (k := 63) (cl := 1) (n := 3) (i := .invokevirtual 66) (args := [(11, s2), (0, s1), (0, s0)]) (rest := []) (g1 := (h, hm, o)) (r1 := some (0, r1)) (by decide +kernel) rfl rfl rfl (st' := [(0, r1)]) rfl (S63 (Nat.le_trans (by decide) hd) s2 s1 s0 h _ q1) ?_
  obtain ⟨r2, q2, e⟩ := zB_s e
  refine zF_blk (m := []) (d := 0) (b := B132_10) (gs := []) (c' := (50, [none, none, some (0, v2), none], [(0, v2), (0, r1)], (h, hm, o))) K132_10 rfl trivial ?_
  refine zF_call (k := 65) (cl := 11) (n := 2) (i := .invokestatic 70) (args := [(0, r1), (0, v2)]) (rest := []) (g1 := (h, hm, o)) (r1 := some (0, r2)) (by decide +kernel) rfl rfl rfl (st' := [(0, r2)]) rfl (S65 (Nat.le_trans (by decide) hd) r1 v2 h _ q2) ?_
  obtain ⟨q3, e⟩ := zG_s e
  obtain rfl := Option.some.inj e
  exact zF_rb (by decide +kernel) q3
/-- EchoVale$ClaimsText.isSo(LEchoVale$Course;III)Z -/
def F132 (v0 : Int) (v1 : Int) (v2 : Int) (v3 : Int) (h : zHC) : Option Int := if v3 < (h 65 v0 0) then if ¬ v1 = 8 then if ¬ v1 = 7 then F132_0 h v2 7 v3 v0 else F132_0 h v2 5 v3 v0 else (F63 v0 v3 1 h).bind fun r1 => if ¬ r1 = v2 then some 0 else some 1 else some 0
set_option maxRecDepth 100000 in
theorem S132 {spec : zRn zH2} {hm : zHM} {o : Int → Int} {d : Nat} (hd : 2 ≤ d) (v0 : Int) (v1 : Int) (v2 : Int) (v3 : Int) (h : zHC) (v : Int) (e : F132 v0 v1 v2 v3 h = some v) : zRu2 spec d 132 [(11, v0), (0, v1), (0, v2), (0, v3)] (h, hm, o) (some (0, v)) (h, hm, o) := by
  refine zF_in (D := 1) (mx := 4) (L := [some (11, v0), some (0, v1), some (0, v2), some (0, v3)]) (by decide +kernel) rfl rfl hd (fun d hd => ?_)
  unfold F132 at e
  rcases zI_s e with ⟨q1, e⟩ | ⟨q1, e⟩
  · refine zF_blk (m := []) (d := 1) (b := B132_9) (gs := [v3 < (h 65 v0 0)]) (c' := (10, [some (11, v0), some (0, v1), some (0, v2), some (0, v3)], [], (h, hm, o))) K132_9 rfl ⟨q1, trivial⟩ ?_
    rcases zI_s e with ⟨q2, e⟩ | ⟨q2, e⟩
    · refine zF_blk (m := []) (d := 1) (b := B132_7) (gs := [¬ v1 = 8]) (c' := (32, [some (11, v0), some (0, v1), some (0, v2), some (0, v3)], [], (h, hm, o))) K132_7 rfl ⟨q2, trivial⟩ ?_
      rcases zI_s e with ⟨q3, e⟩ | ⟨q3, e⟩
      · refine zF_blk (m := []) (d := 1) (b := B132_2) (gs := [¬ v1 = 7]) (c' := (44, [some (11, v0), some (0, v1), some (0, v2), some (0, v3)], [(0, v3), (11, v0)], (h, hm, o))) K132_2 rfl ⟨q3, trivial⟩ ?_
        refine zF_blk (m := []) (d := 0) (b := B132_0) (gs := []) (c' := (46, [some (11, v0), some (0, v1), some (0, v2), some (0, v3)], [(0, 7), (0, v3), (11, v0)], (h, hm, o))) K132_0 rfl trivial ?_
        refine zF_blk (m := [false, false, true, false]) (d := 0) (b := []) (gs := []) (c' := (46, [none, none, some (0, v2), none], [(0, 7), (0, v3), (11, v0)], (h, hm, o))) rfl rfl trivial ?_
        exact T132_0 hd h v2 7 v3 v0 _ e
      · refine zF_blk (m := []) (d := 0) (b := B132_2) (gs := [¬ (¬ v1 = 7)]) (c' := (40, [some (11, v0), some (0, v1), some (0, v2), some (0, v3)], [(0, v3), (11, v0)], (h, hm, o))) K132_2 rfl ⟨q3, trivial⟩ ?_
        refine zF_blk (m := []) (d := 0) (b := B132_1) (gs := []) (c' := (46, [some (11, v0), some (0, v1), some (0, v2), some (0, v3)], [(0, 5), (0, v3), (11, v0)], (h, hm, o))) K132_1 rfl trivial ?_
        refine zF_blk (m := [false, false, true, false]) (d := 0) (b := []) (gs := []) (c' := (46, [none, none, some (0, v2), none], [(0, 5), (0, v3), (11, v0)], (h, hm, o))) rfl rfl trivial ?_
        exact T132_0 hd h v2 5 v3 v0 _ e
    · refine zF_blk (m := []) (d := 0) (b := B132_7) (gs := [¬ (¬ v1 = 8)]) (c' := (16, [some (11, v0), some (0, v1), some (0, v2), some (0, v3)], [], (h, hm, o))) K132_7 rfl ⟨q2, trivial⟩ ?_
      obtain ⟨r1, q4, e⟩ := zB_s e
      refine zF_blk (m := []) (d := 0) (b := B132_3) (gs := []) (c' := (19, [some (11, v0), some (0, v1), some (0, v2), some (0, v3)], [(0, 1), (0, v3), (11, v0)], (h, hm, o))) K132_3 rfl trivial ?_
      refine zF_call (k := 63) (cl := 1) (n := 3) (i := .invokevirtual 66) (args := [(11, v0), (0, v3), (0, 1)]) (rest := []) (g1 := (h, hm, o)) (r1 := some (0, r1)) (by decide +kernel) rfl rfl rfl (st' := [(0, r1)]) rfl (S63 (Nat.le_trans (by decide) hd) v0 v3 1 h _ q4) ?_
      rcases zI_s e with ⟨q5, e⟩ | ⟨q5, e⟩
      · refine zF_blk (m := []) (d := 1) (b := B132_6) (gs := [¬ r1 = v2]) (c' := (30, [some (11, v0), some (0, v1), some (0, v2), some (0, v3)], [], (h, hm, o))) K132_6 rfl ⟨q5, trivial⟩ ?_
        refine zF_blk (m := []) (d := 0) (b := B132_4) (gs := []) (c' := (31, [some (11, v0), some (0, v1), some (0, v2), some (0, v3)], [(0, 0)], (h, hm, o))) K132_4 rfl trivial ?_
        obtain rfl := Option.some.inj e
        exact zF_rb (by decide +kernel) (Or.inl rfl)
      · refine zF_blk (m := []) (d := 0) (b := B132_6) (gs := [¬ (¬ r1 = v2)]) (c' := (26, [some (11, v0), some (0, v1), some (0, v2), some (0, v3)], [], (h, hm, o))) K132_6 rfl ⟨q5, trivial⟩ ?_
        refine zF_blk (m := []) (d := 0) (b := B132_5) (gs := []) (c' := (31, [some (11, v0), some (0, v1), some (0, v2), some (0, v3)], [(0, 1)], (h, hm, o))) K132_5 rfl trivial ?_
        obtain rfl := Option.some.inj e
        exact zF_rb (by decide +kernel) (Or.inr rfl)
  · refine zF_blk (m := []) (d := 0) (b := B132_9) (gs := [¬ (v3 < (h 65 v0 0))]) (c' := (8, [some (11, v0), some (0, v1), some (0, v2), some (0, v3)], [], (h, hm, o))) K132_9 rfl ⟨q1, trivial⟩ ?_
    refine zF_blk (m := []) (d := 0) (b := B132_8) (gs := []) (c' := (9, [some (11, v0), some (0, v1), some (0, v2), some (0, v3)], [(0, 0)], (h, hm, o))) K132_8 rfl trivial ?_
    obtain rfl := Option.some.inj e
    exact zF_rb (by decide +kernel) (Or.inl rfl)
def B131_0 : List zRow := [(21, .iconst (-1), 1, (0, 0, 0))]
theorem K131_0 : zRk 131 B131_0 = true := by decide +kernel
def B131_1 : List zRow := [(11, .aload_n 0, 1, (0, 0, 0)), (12, .getfield 9, 3, (0, 1, 23)), (15, .getfield 36, 3, (5, 6, 0)), (18, .goto 4, 3, (0, 0, 0))]
theorem K131_1 : zRk 131 B131_1 = true := by decide +kernel
def B131_2 : List zRow := [(0, .aload_n 0, 1, (0, 0, 0)), (1, .getfield 9, 3, (0, 1, 23)), (4, .getfield 33, 3, (5, 4, 0)), (7, .iconst 3, 1, (0, 0, 0)), (8, .if_icmp .ne 13, 3, (0, 0, 0))]
theorem K131_2 : zRk 131 B131_2 = true := by decide +kernel
def B131_3 : List zRow := [(45, .aload_n 0, 1, (0, 0, 0)), (46, .getfield 9, 3, (0, 1, 23)), (49, .iconst 1, 1, (0, 0, 0))]
theorem K131_3 : zRk 131 B131_3 = true := by decide +kernel
def B131_4 : List zRow := [(38, .iload 4, 2, (0, 0, 0)), (40, .bipush 9, 2, (0, 0, 0)), (42, .if_icmp .eq 12, 3, (0, 0, 0))]
theorem K131_4 : zRk 131 B131_4 = true := by decide +kernel
def B131_5 : List zRow := [(31, .iload 4, 2, (0, 0, 0)), (33, .bipush 8, 2, (0, 0, 0)), (35, .if_icmp .eq 19, 3, (0, 0, 0))]
theorem K131_5 : zRk 131 B131_5 = true := by decide +kernel
def B131_6 : List zRow := [(22, .istore 4, 2, (0, 0, 0)), (24, .iload 4, 2, (0, 0, 0)), (26, .bipush 7, 2, (0, 0, 0)), (28, .if_icmp .eq 26, 3, (0, 0, 0))]
theorem K131_6 : zRk 131 B131_6 = true := by decide +kernel
def B131_7 : List zRow := [(69, .aload_n 0, 1, (0, 0, 0)), (70, .getfield 9, 3, (0, 1, 23))]
theorem K131_7 : zRk 131 B131_7 = true := by decide +kernel
def B131_8 : List zRow := [(76, .aload_n 0, 1, (0, 0, 0)), (77, .getfield 9, 3, (0, 1, 23)), (80, .aload_n 1, 1, (0, 0, 0))]
theorem K131_8 : zRk 131 B131_8 = true := by decide +kernel
def B131_9 : List zRow := [(94, .aload_n 0, 1, (0, 0, 0)), (95, .getfield 9, 3, (0, 1, 23))]
theorem K131_9 : zRk 131 B131_9 = true := by decide +kernel
def B131_10 : List zRow := [(101, .aload_n 0, 1, (0, 0, 0)), (102, .getfield 9, 3, (0, 1, 23)), (105, .iconst 0, 1, (0, 0, 0)), (106, .bipush 29, 2, (0, 0, 0))]
theorem K131_10 : zRk 131 B131_10 = true := by decide +kernel
def B131_11 : List zRow := [(124, .aload_n 2, 1, (0, 0, 0)), (125, .iload 4, 2, (0, 0, 0)), (127, .iload 5, 2, (0, 0, 0)), (129, .aload_n 0, 1, (0, 0, 0)), (130, .getfield 9, 3, (0, 1, 23)), (133, .getfield 36, 3, (5, 6, 0))]
theorem K131_11 : zRk 131 B131_11 = true := by decide +kernel
def B131_12 : List zRow := [(142, .aload_n 0, 1, (0, 0, 0)), (143, .iload_n 3, 1, (0, 0, 0)), (144, .putfield 15, 3, (0, 0, 0))]
theorem K131_12 : zRk 131 B131_12 = true := by decide +kernel
def B131_13 : List zRow := [(139, .ifCond .ne 8, 3, (0, 0, 0))]
theorem K131_13 : zRk 131 B131_13 = true := by decide +kernel
def B131_14 : List zRow := [(116, .aload_n 0, 1, (0, 0, 0)), (117, .getfield 15, 3, (0, 0, 0)), (120, .iconst (-1), 1, (0, 0, 0)), (121, .if_icmp .ne 26, 3, (0, 0, 0))]
theorem K131_14 : zRk 131 B131_14 = true := by decide +kernel
def B131_15 : List zRow := [(114, .iconst 0, 1, (0, 0, 0))]
theorem K131_15 : zRk 131 B131_15 = true := by decide +kernel
def B131_16 : List zRow := [(111, .ifCond .ne 5, 3, (0, 0, 0))]
theorem K131_16 : zRk 131 B131_16 = true := by decide +kernel
def B131_17 : List zRow := [(92, .iconst 0, 1, (0, 0, 0))]
theorem K131_17 : zRk 131 B131_17 = true := by decide +kernel
def B131_18 : List zRow := [(84, .istore 5, 2, (0, 0, 0)), (86, .iload 5, 2, (0, 0, 0)), (88, .iconst (-1), 1, (0, 0, 0)), (89, .if_icmp .ne 5, 3, (0, 0, 0))]
theorem K131_18 : zRk 131 B131_18 = true := by decide +kernel
def B131_19 : List zRow := [(60, .aload_n 0, 1, (0, 0, 0)), (61, .getfield 9, 3, (0, 1, 23)), (64, .iconst 4, 1, (0, 0, 0))]
theorem K131_19 : zRk 131 B131_19 = true := by decide +kernel
def B131_20 : List zRow := [(54, .iload_n 3, 1, (0, 0, 0)), (55, .bipush 30, 2, (0, 0, 0)), (57, .if_icmp .lt 12, 3, (0, 0, 0))]
theorem K131_20 : zRk 131 B131_20 = true := by decide +kernel
def B131_21 : List zRow := [(147, .aload_n 0, 1, (0, 0, 0)), (148, .getfield 9, 3, (0, 1, 23))]
theorem K131_21 : zRk 131 B131_21 = true := by decide +kernel
def B131_22 : List zRow := [(154, .aload_n 0, 1, (0, 0, 0)), (155, .getfield 9, 3, (0, 1, 23)), (158, .bipush 59, 2, (0, 0, 0))]
theorem K131_22 : zRk 131 B131_22 = true := by decide +kernel
def F131_2 (h : zHC) : Option (Int × zHC) := (F21 h).bind fun r1 => (F50 59 r1).bind fun r2 => zG (r2.1 = 0 ∨ r2.1 = 1) (some (r2.1, r2.2))
set_option maxRecDepth 100000 in
theorem T131_2 {spec : zRn zH2} {hm : zHM} {o : Int → Int} {d : Nat} (hd : 4 ≤ d) (h : zHC) (v : (Int × zHC)) (e : F131_2 h = some v) : zFin 0 (fun _ => 0) (zRu2 spec d) 131 (some (0, v.1)) (v.2, hm, o) (147, [some (10, 0), none, none, none, none, none], [], (h, hm, o)) := by
  unfold F131_2 at e
  obtain ⟨r1, q1, e⟩ := zB_s e
  refine zF_blk (m := []) (d := 0) (b := B131_21) (gs := []) (c' := (151, [some (10, 0), none, none, none, none, none], [(15, 0)], (h, hm, o))) K131_21 rfl trivial ?_
  refine zF_call (k := 21) (cl := 5) (n := 1) (i := .invokevirtual 43) (args := [(15, 0)]) (rest := []) (g1 := (r1, hm, o)) (r1 := none) (by decide +kernel) rfl rfl rfl (st' := []) rfl (S21 (Nat.le_trans (by decide) hd)  h _ q1) ?_
  obtain ⟨r2, q2, e⟩ := zB_s e
  refine zF_blk (m := []) (d := 0) (b := B131_22) (gs := []) (c' := (160, [some (10, 0), none, none, none, none, none], [(0, 59), (15, 0)], (r1, hm, o))) K131_22 rfl trivial ?_
  refine zF_call (k := 50) (cl := 5) (n := 2) (i := .invokevirtual 58) (args := [(15, 0), (0, 59)]) (rest := []) (g1 := (r2.2, hm, o)) (r1 := some (0, r2.1)) (by decide +kernel) rfl rfl rfl (st' := [(0, r2.1)]) rfl (S50 (Nat.le_trans (by decide) hd) 59 r1 _ q2) ?_
  obtain ⟨q3, e⟩ := zG_s e
  exact zF_rbC (by decide +kernel) q3 e
def F131_1 (v1 : Int) (v2 : Int) (v3 : Int) (v4 : Int) (h : zHC) : Option (Int × zHC) := if v3 < 30 then (F21 h).bind fun r1 => (F43 v1 r1).bind fun r2 => if ¬ r2.1 = (-1) then (F21 r2.2).bind fun r3 => (F33 0 29 r3).bind fun r4 => if ¬ r4.1 = 0 then if ¬ (r4.2 0 0 0) = (-1) then F131_2 r4.2 else (F132 v2 v4 r2.1 (r4.2 326 0 0) r4.2).bind fun r5 => if ¬ r5 = 0 then F131_2 r4.2 else F131_2 (hset r4.2 0 0 0 v3) else some (0, r4.2) else some (0, r2.2) else (F31 4 h).bind fun r6 => zG (r6.1 = 0 ∨ r6.1 = 1) (some (r6.1, r6.2))
set_option maxRecDepth 100000 in
theorem T131_1 {spec : zRn zH2} {hm : zHM} {o : Int → Int} {d : Nat} (hd : 4 ≤ d) (v1 : Int) (v2 : Int) (v3 : Int) (v4 : Int) (h : zHC) (v : (Int × zHC)) (e : F131_1 v1 v2 v3 v4 h = some v) : zFin 0 (fun _ => 0) (zRu2 spec d) 131 (some (0, v.1)) (v.2, hm, o) (54, [some (10, 0), some (19, v1), some (11, v2), some (0, v3), some (0, v4), none], [], (h, hm, o)) := by
  unfold F131_1 at e
  rcases zI_s e with ⟨q1, e⟩ | ⟨q1, e⟩
  · refine zF_blk (m := []) (d := 1) (b := B131_20) (gs := [v3 < 30]) (c' := (69, [some (10, 0), some (19, v1), some (11, v2), some (0, v3), some (0, v4), none], [], (h, hm, o))) K131_20 rfl ⟨q1, trivial⟩ ?_
    obtain ⟨r1, q2, e⟩ := zB_s e
    refine zF_blk (m := []) (d := 0) (b := B131_7) (gs := []) (c' := (73, [some (10, 0), some (19, v1), some (11, v2), some (0, v3), some (0, v4), none], [(15, 0)], (h, hm, o))) K131_7 rfl trivial ?_
    refine zF_call (k := 21) (cl := 5) (n := 1) (i := .invokevirtual 43) (args := [(15, 0)]) (rest := []) (g1 := (r1, hm, o)) (r1 := none) (by decide +kernel) rfl rfl rfl (st' := []) rfl (S21 (Nat.le_trans (by decide) hd)  h _ q2) ?_
    obtain ⟨r2, q3, e⟩ := zB_s e
    refine zF_blk (m := []) (d := 0) (b := B131_8) (gs := []) (c' := (81, [some (10, 0), some (19, v1), some (11, v2), some (0, v3), some (0, v4), none], [(19, v1), (15, 0)], (r1, hm, o))) K131_8 rfl trivial ?_
    refine zF_call (k := 43) (cl := 5) (n := 2) (i := .invokevirtual 46) (args := [(15, 0), (19, v1)]) (rest := []) (g1 := (r2.2, hm, o)) (r1 := some (0, r2.1)) (by decide +kernel) rfl rfl rfl (st' := [(0, r2.1)]) rfl (S43 (Nat.le_trans (by decide) hd) v1 r1 _ q3) ?_
    rcases zI_s e with ⟨q4, e⟩ | ⟨q4, e⟩
    · refine zF_blk (m := []) (d := 1) (b := B131_18) (gs := [¬ r2.1 = (-1)]) (c' := (94, [some (10, 0), some (19, v1), some (11, v2), some (0, v3), some (0, v4), some (0, r2.1)], [], (r2.2, hm, o))) K131_18 rfl ⟨q4, trivial⟩ ?_
      obtain ⟨r3, q5, e⟩ := zB_s e
      refine zF_blk (m := []) (d := 0) (b := B131_9) (gs := []) (c' := (98, [some (10, 0), some (19, v1), some (11, v2), some (0, v3), some (0, v4), some (0, r2.1)], [(15, 0)], (r2.2, hm, o))) K131_9 rfl trivial ?_
      refine zF_call (k := 21) (cl := 5) (n := 1) (i := .invokevirtual 43) (args := [(15, 0)]) (rest := []) (g1 := (r3, hm, o)) (r1 := none) (by decide +kernel) rfl rfl rfl (st' := []) rfl (S21 (Nat.le_trans (by decide) hd)  r2.2 _ q5) ?_
      obtain ⟨r4, q6, e⟩ := zB_s e
      refine zF_blk (m := []) (d := 0) (b := B131_10) (gs := []) (c' := (108, [some (10, 0), some (19, v1), some (11, v2), some (0, v3), some (0, v4), some (0, r2.1)], [(0, 29), (0, 0), (15, 0)], (r3, hm, o))) K131_10 rfl trivial ?_
      refine zF_call (k := 33) (cl := 5) (n := 3) (i := .invokevirtual 50) (args := [(15, 0), (0, 0), (0, 29)]) (rest := []) (g1 := (r4.2, hm, o)) (r1 := some (0, r4.1)) (by decide +kernel) rfl rfl rfl (st' := [(0, r4.1)]) rfl (S33 (Nat.le_trans (by decide) hd) 0 29 r3 _ q6) ?_
      rcases zI_s e with ⟨q7, e⟩ | ⟨q7, e⟩
      · refine zF_blk (m := []) (d := 1) (b := B131_16) (gs := [¬ r4.1 = 0]) (c' := (116, [some (10, 0), some (19, v1), some (11, v2), some (0, v3), some (0, v4), some (0, r2.1)], [], (r4.2, hm, o))) K131_16 rfl ⟨q7, trivial⟩ ?_
        rcases zI_s e with ⟨q8, e⟩ | ⟨q8, e⟩
        · refine zF_blk (m := []) (d := 1) (b := B131_14) (gs := [¬ (r4.2 0 0 0) = (-1)]) (c' := (147, [some (10, 0), some (19, v1), some (11, v2), some (0, v3), some (0, v4), some (0, r2.1)], [], (r4.2, hm, o))) K131_14 rfl ⟨q8, trivial⟩ ?_
          refine zF_blk (m := [true, false, false, false, false, false]) (d := 0) (b := []) (gs := []) (c' := (147, [some (10, 0), none, none, none, none, none], [], (r4.2, hm, o))) rfl rfl trivial ?_
          exact T131_2 hd r4.2 _ e
        · refine zF_blk (m := []) (d := 0) (b := B131_14) (gs := [¬ (¬ (r4.2 0 0 0) = (-1))]) (c' := (124, [some (10, 0), some (19, v1), some (11, v2), some (0, v3), some (0, v4), some (0, r2.1)], [], (r4.2, hm, o))) K131_14 rfl ⟨q8, trivial⟩ ?_
          obtain ⟨r5, q9, e⟩ := zB_s e
          refine zF_blk (m := []) (d := 0) (b := B131_11) (gs := []) (c' := (136, [some (10, 0), some (19, v1), some (11, v2), some (0, v3), some (0, v4), some (0, r2.1)], [(0, (r4.2 326 0 0)), (0, r2.1), (0, v4), (11, v2)], (r4.2, hm, o))) K131_11 rfl trivial ?_
          refine zF_call (k := 132) (cl := 0) (n := 4) (i := .invokestatic 54) (args := [(11, v2), (0, v4), (0, r2.1), (0, (r4.2 326 0 0))]) (rest := []) (g1 := (r4.2, hm, o)) (r1 := some (0, r5)) (by decide +kernel) rfl rfl rfl (st' := [(0, r5)]) rfl (S132 (Nat.le_trans (by decide) hd) v2 v4 r2.1 (r4.2 326 0 0) r4.2 _ q9) ?_
          rcases zI_s e with ⟨q10, e⟩ | ⟨q10, e⟩
          · refine zF_blk (m := []) (d := 1) (b := B131_13) (gs := [¬ r5 = 0]) (c' := (147, [some (10, 0), some (19, v1), some (11, v2), some (0, v3), some (0, v4), some (0, r2.1)], [], (r4.2, hm, o))) K131_13 rfl ⟨q10, trivial⟩ ?_
            refine zF_blk (m := [true, false, false, false, false, false]) (d := 0) (b := []) (gs := []) (c' := (147, [some (10, 0), none, none, none, none, none], [], (r4.2, hm, o))) rfl rfl trivial ?_
            exact T131_2 hd r4.2 _ e
          · refine zF_blk (m := []) (d := 0) (b := B131_13) (gs := [¬ (¬ r5 = 0)]) (c' := (142, [some (10, 0), some (19, v1), some (11, v2), some (0, v3), some (0, v4), some (0, r2.1)], [], (r4.2, hm, o))) K131_13 rfl ⟨q10, trivial⟩ ?_
            refine zF_blk (m := []) (d := 0) (b := B131_12) (gs := []) (c' := (147, [some (10, 0), some (19, v1), some (11, v2), some (0, v3), some (0, v4), some (0, r2.1)], [], ((hset r4.2 0 0 0 v3), hm, o))) K131_12 rfl trivial ?_
            refine zF_blk (m := [true, false, false, false, false, false]) (d := 0) (b := []) (gs := []) (c' := (147, [some (10, 0), none, none, none, none, none], [], ((hset r4.2 0 0 0 v3), hm, o))) rfl rfl trivial ?_
            exact T131_2 hd (hset r4.2 0 0 0 v3) _ e
      · refine zF_blk (m := []) (d := 0) (b := B131_16) (gs := [¬ (¬ r4.1 = 0)]) (c' := (114, [some (10, 0), some (19, v1), some (11, v2), some (0, v3), some (0, v4), some (0, r2.1)], [], (r4.2, hm, o))) K131_16 rfl ⟨q7, trivial⟩ ?_
        refine zF_blk (m := []) (d := 0) (b := B131_15) (gs := []) (c' := (115, [some (10, 0), some (19, v1), some (11, v2), some (0, v3), some (0, v4), some (0, r2.1)], [(0, 0)], (r4.2, hm, o))) K131_15 rfl trivial ?_
        exact zF_rbC (by decide +kernel) (Or.inl rfl) e
    · refine zF_blk (m := []) (d := 0) (b := B131_18) (gs := [¬ (¬ r2.1 = (-1))]) (c' := (92, [some (10, 0), some (19, v1), some (11, v2), some (0, v3), some (0, v4), some (0, r2.1)], [], (r2.2, hm, o))) K131_18 rfl ⟨q4, trivial⟩ ?_
      refine zF_blk (m := []) (d := 0) (b := B131_17) (gs := []) (c' := (93, [some (10, 0), some (19, v1), some (11, v2), some (0, v3), some (0, v4), some (0, r2.1)], [(0, 0)], (r2.2, hm, o))) K131_17 rfl trivial ?_
      exact zF_rbC (by decide +kernel) (Or.inl rfl) e
  · refine zF_blk (m := []) (d := 0) (b := B131_20) (gs := [¬ (v3 < 30)]) (c' := (60, [some (10, 0), some (19, v1), some (11, v2), some (0, v3), some (0, v4), none], [], (h, hm, o))) K131_20 rfl ⟨q1, trivial⟩ ?_
    obtain ⟨r6, q11, e⟩ := zB_s e
    refine zF_blk (m := []) (d := 0) (b := B131_19) (gs := []) (c' := (65, [some (10, 0), some (19, v1), some (11, v2), some (0, v3), some (0, v4), none], [(0, 4), (15, 0)], (h, hm, o))) K131_19 rfl trivial ?_
    refine zF_call (k := 31) (cl := 5) (n := 2) (i := .invokevirtual 39) (args := [(15, 0), (0, 4)]) (rest := []) (g1 := (r6.2, hm, o)) (r1 := some (0, r6.1)) (by decide +kernel) rfl rfl rfl (st' := [(0, r6.1)]) rfl (S31 (Nat.le_trans (by decide) hd) 4 h _ q11) ?_
    obtain ⟨q12, e⟩ := zG_s e
    exact zF_rbC (by decide +kernel) q12 e
def F131_0 (v1 : Int) (v2 : Int) (v3 : Int) (s0 : Int) (h : zHC) : Option (Int × zHC) := if s0 = 7 then F131_1 v1 v2 v3 s0 h else if s0 = 8 then F131_1 v1 v2 v3 s0 h else if s0 = 9 then F131_1 v1 v2 v3 s0 h else (F31 1 h).bind fun r1 => zG (r1.1 = 0 ∨ r1.1 = 1) (some (r1.1, r1.2))
set_option maxRecDepth 100000 in
theorem T131_0 {spec : zRn zH2} {hm : zHM} {o : Int → Int} {d : Nat} (hd : 4 ≤ d) (v1 : Int) (v2 : Int) (v3 : Int) (s0 : Int) (h : zHC) (v : (Int × zHC)) (e : F131_0 v1 v2 v3 s0 h = some v) : zFin 0 (fun _ => 0) (zRu2 spec d) 131 (some (0, v.1)) (v.2, hm, o) (22, [some (10, 0), some (19, v1), some (11, v2), some (0, v3), none, none], [(0, s0)], (h, hm, o)) := by
  unfold F131_0 at e
  rcases zI_s e with ⟨q1, e⟩ | ⟨q1, e⟩
  · refine zF_blk (m := []) (d := 1) (b := B131_6) (gs := [s0 = 7]) (c' := (54, [some (10, 0), some (19, v1), some (11, v2), some (0, v3), some (0, s0), none], [], (h, hm, o))) K131_6 rfl ⟨q1, trivial⟩ ?_
    exact T131_1 hd v1 v2 v3 s0 h _ e
  · refine zF_blk (m := []) (d := 0) (b := B131_6) (gs := [¬ (s0 = 7)]) (c' := (31, [some (10, 0), some (19, v1), some (11, v2), some (0, v3), some (0, s0), none], [], (h, hm, o))) K131_6 rfl ⟨q1, trivial⟩ ?_
    rcases zI_s e with ⟨q2, e⟩ | ⟨q2, e⟩
    · refine zF_blk (m := []) (d := 1) (b := B131_5) (gs := [s0 = 8]) (c' := (54, [some (10, 0), some (19, v1), some (11, v2), some (0, v3), some (0, s0), none], [], (h, hm, o))) K131_5 rfl ⟨q2, trivial⟩ ?_
      exact T131_1 hd v1 v2 v3 s0 h _ e
    · refine zF_blk (m := []) (d := 0) (b := B131_5) (gs := [¬ (s0 = 8)]) (c' := (38, [some (10, 0), some (19, v1), some (11, v2), some (0, v3), some (0, s0), none], [], (h, hm, o))) K131_5 rfl ⟨q2, trivial⟩ ?_
      rcases zI_s e with ⟨q3, e⟩ | ⟨q3, e⟩
      · refine zF_blk (m := []) (d := 1) (b := B131_4) (gs := [s0 = 9]) (c' := (54, [some (10, 0), some (19, v1), some (11, v2), some (0, v3), some (0, s0), none], [], (h, hm, o))) K131_4 rfl ⟨q3, trivial⟩ ?_
        exact T131_1 hd v1 v2 v3 s0 h _ e
      · refine zF_blk (m := []) (d := 0) (b := B131_4) (gs := [¬ (s0 = 9)]) (c' := (45, [some (10, 0), some (19, v1), some (11, v2), some (0, v3), some (0, s0), none], [], (h, hm, o))) K131_4 rfl ⟨q3, trivial⟩ ?_
        obtain ⟨r1, q4, e⟩ := zB_s e
        refine zF_blk (m := []) (d := 0) (b := B131_3) (gs := []) (c' := (50, [some (10, 0), some (19, v1), some (11, v2), some (0, v3), some (0, s0), none], [(0, 1), (15, 0)], (h, hm, o))) K131_3 rfl trivial ?_
        refine zF_call (k := 31) (cl := 5) (n := 2) (i := .invokevirtual 39) (args := [(15, 0), (0, 1)]) (rest := []) (g1 := (r1.2, hm, o)) (r1 := some (0, r1.1)) (by decide +kernel) rfl rfl rfl (st' := [(0, r1.1)]) rfl (S31 (Nat.le_trans (by decide) hd) 1 h _ q4) ?_
        obtain ⟨q5, e⟩ := zG_s e
        exact zF_rbC (by decide +kernel) q5 e
/-- EchoVale$ClaimsText.readLine(LEchoVale$Valley;LEchoVale$Course;I)Z -/
def F131 (v1 : Int) (v2 : Int) (v3 : Int) (h : zHC) : Option (Int × zHC) := if ¬ (h 324 0 0) = 3 then F131_0 v1 v2 v3 (-1) h else F131_0 v1 v2 v3 (h 326 0 0) h
set_option maxRecDepth 100000 in
theorem S131 {spec : zRn zH2} {hm : zHM} {o : Int → Int} {d : Nat} (hd : 5 ≤ d) (v1 : Int) (v2 : Int) (v3 : Int) (h : zHC) (v : (Int × zHC)) (e : F131 v1 v2 v3 h = some v) : zRu2 spec d 131 [(10, 0), (19, v1), (11, v2), (0, v3)] (h, hm, o) (some (0, v.1)) (v.2, hm, o) := by
  refine zF_in (D := 4) (mx := 6) (L := [some (10, 0), some (19, v1), some (11, v2), some (0, v3), none, none]) (by decide +kernel) rfl rfl hd (fun d hd => ?_)
  unfold F131 at e
  rcases zI_s e with ⟨q1, e⟩ | ⟨q1, e⟩
  · refine zF_blk (m := []) (d := 1) (b := B131_2) (gs := [¬ (h 324 0 0) = 3]) (c' := (21, [some (10, 0), some (19, v1), some (11, v2), some (0, v3), none, none], [], (h, hm, o))) K131_2 rfl ⟨q1, trivial⟩ ?_
    refine zF_blk (m := []) (d := 0) (b := B131_0) (gs := []) (c' := (22, [some (10, 0), some (19, v1), some (11, v2), some (0, v3), none, none], [(0, (-1))], (h, hm, o))) K131_0 rfl trivial ?_
    exact T131_0 hd v1 v2 v3 (-1) h _ e
  · refine zF_blk (m := []) (d := 0) (b := B131_2) (gs := [¬ (¬ (h 324 0 0) = 3)]) (c' := (11, [some (10, 0), some (19, v1), some (11, v2), some (0, v3), none, none], [], (h, hm, o))) K131_2 rfl ⟨q1, trivial⟩ ?_
    refine zF_blk (m := []) (d := 0) (b := B131_1) (gs := []) (c' := (22, [some (10, 0), some (19, v1), some (11, v2), some (0, v3), none, none], [(0, (h 326 0 0))], (h, hm, o))) K131_1 rfl trivial ?_
    exact T131_0 hd v1 v2 v3 (h 326 0 0) h _ e
def B130_0 : List zRow := [(0, .aload_n 0, 1, (0, 0, 0)), (1, .iconst (-1), 1, (0, 0, 0)), (2, .putfield 15, 3, (0, 0, 0)), (5, .aload_n 0, 1, (0, 0, 0)), (6, .getfield 9, 3, (0, 1, 23)), (9, .sipush 300, 3, (0, 0, 0))]
theorem K130_0 : zRk 130 B130_0 = true := by decide +kernel
def B130_1 : List zRow := [(15, .iconst 0, 1, (0, 0, 0)), (16, .istore_n 3, 1, (0, 0, 0))]
theorem K130_1 : zRk 130 B130_1 = true := by decide +kernel
def B130_2 : List zRow := [(52, .iconst 1, 1, (0, 0, 0))]
theorem K130_2 : zRk 130 B130_2 = true := by decide +kernel
def B130_3 : List zRow := [(24, .aload_n 0, 1, (0, 0, 0)), (25, .getfield 9, 3, (0, 1, 23))]
theorem K130_3 : zRk 130 B130_3 = true := by decide +kernel
def B130_4 : List zRow := [(34, .aload_n 0, 1, (0, 0, 0)), (35, .aload_n 1, 1, (0, 0, 0)), (36, .aload_n 2, 1, (0, 0, 0)), (37, .iload_n 3, 1, (0, 0, 0))]
theorem K130_4 : zRk 130 B130_4 = true := by decide +kernel
def B130_5 : List zRow := [(46, .iinc 3 1, 3, (0, 0, 0)), (49, .goto (-32), 3, (0, 0, 0))]
theorem K130_5 : zRk 130 B130_5 = true := by decide +kernel
def B130_6 : List zRow := [(44, .iconst 0, 1, (0, 0, 0))]
theorem K130_6 : zRk 130 B130_6 = true := by decide +kernel
def B130_7 : List zRow := [(41, .ifCond .ne 5, 3, (0, 0, 0))]
theorem K130_7 : zRk 130 B130_7 = true := by decide +kernel
def B130_8 : List zRow := [(31, .ifCond .ne 21, 3, (0, 0, 0))]
theorem K130_8 : zRk 130 B130_8 = true := by decide +kernel
def B130_9 : List zRow := [(17, .iload_n 3, 1, (0, 0, 0)), (18, .sipush 940, 3, (0, 0, 0)), (21, .if_icmp .ge 31, 3, (0, 0, 0))]
theorem K130_9 : zRk 130 B130_9 = true := by decide +kernel
def F130_0 : Nat → Int → Int → Int → zHC → Option (Int × zHC)
  | 0, _, _, _, _ => none
  | n + 1, v1, v2, v3, h => if 940 ≤ v3 then some (1, h) else (F29 h).bind fun r1 => if ¬ r1 = 0 then some (1, h) else (F131 v1 v2 v3 h).bind fun r2 => if ¬ r2.1 = 0 then (F130_0 n) v1 v2 (wadd v3 1) r2.2 else some (0, r2.2)
set_option maxRecDepth 100000 in
theorem T130_0 {spec : zRn zH2} {hm : zHM} {o : Int → Int} {d : Nat} (hd : 5 ≤ d) : ∀ (n : Nat) (v1 : Int) (v2 : Int) (v3 : Int) (h : zHC) (v : (Int × zHC)), F130_0 n v1 v2 v3 h = some v → zFin 0 (fun _ => 0) (zRu2 spec d) 130 (some (0, v.1)) (v.2, hm, o) (17, [some (10, 0), some (19, v1), some (11, v2), some (0, v3)], [], (h, hm, o)) := by
  intro n
  induction n with
  | zero => intro v1 v2 v3 h v e; unfold F130_0 at e; cases e
  | succ n hk0 =>
    intro v1 v2 v3 h v e
    unfold F130_0 at e
    rcases zI_s e with ⟨q1, e⟩ | ⟨q1, e⟩
    · refine zF_blk (m := []) (d := 1) (b := B130_9) (gs := [940 ≤ v3]) (c' := (52, [some (10, 0), some (19, v1), some (11, v2), some (0, v3)], [], (h, hm, o))) K130_9 rfl ⟨q1, trivial⟩ ?_
      refine zF_blk (m := []) (d := 0) (b := B130_2) (gs := []) (c' := (53, [some (10, 0), some (19, v1), some (11, v2), some (0, v3)], [(0, 1)], (h, hm, o))) K130_2 rfl trivial ?_
      exact zF_rbC (by decide +kernel) (Or.inr rfl) e
    · refine zF_blk (m := []) (d := 0) (b := B130_9) (gs := [¬ (940 ≤ v3)]) (c' := (24, [some (10, 0), some (19, v1), some (11, v2), some (0, v3)], [], (h, hm, o))) K130_9 rfl ⟨q1, trivial⟩ ?_
      obtain ⟨r1, q2, e⟩ := zB_s e
      refine zF_blk (m := []) (d := 0) (b := B130_3) (gs := []) (c' := (28, [some (10, 0), some (19, v1), some (11, v2), some (0, v3)], [(15, 0)], (h, hm, o))) K130_3 rfl trivial ?_
      refine zF_call (k := 29) (cl := 5) (n := 1) (i := .invokevirtual 25) (args := [(15, 0)]) (rest := []) (g1 := (h, hm, o)) (r1 := some (0, r1)) (by decide +kernel) rfl rfl rfl (st' := [(0, r1)]) rfl (S29 (Nat.le_trans (by decide) hd)  h _ q2) ?_
      rcases zI_s e with ⟨q3, e⟩ | ⟨q3, e⟩
      · refine zF_blk (m := []) (d := 1) (b := B130_8) (gs := [¬ r1 = 0]) (c' := (52, [some (10, 0), some (19, v1), some (11, v2), some (0, v3)], [], (h, hm, o))) K130_8 rfl ⟨q3, trivial⟩ ?_
        refine zF_blk (m := []) (d := 0) (b := B130_2) (gs := []) (c' := (53, [some (10, 0), some (19, v1), some (11, v2), some (0, v3)], [(0, 1)], (h, hm, o))) K130_2 rfl trivial ?_
        exact zF_rbC (by decide +kernel) (Or.inr rfl) e
      · refine zF_blk (m := []) (d := 0) (b := B130_8) (gs := [¬ (¬ r1 = 0)]) (c' := (34, [some (10, 0), some (19, v1), some (11, v2), some (0, v3)], [], (h, hm, o))) K130_8 rfl ⟨q3, trivial⟩ ?_
        obtain ⟨r2, q4, e⟩ := zB_s e
        refine zF_blk (m := []) (d := 0) (b := B130_4) (gs := []) (c' := (38, [some (10, 0), some (19, v1), some (11, v2), some (0, v3)], [(0, v3), (11, v2), (19, v1), (10, 0)], (h, hm, o))) K130_4 rfl trivial ?_
        refine zF_call (k := 131) (cl := 0) (n := 4) (i := .invokevirtual 29) (args := [(10, 0), (19, v1), (11, v2), (0, v3)]) (rest := []) (g1 := (r2.2, hm, o)) (r1 := some (0, r2.1)) (by decide +kernel) rfl rfl rfl (st' := [(0, r2.1)]) rfl (S131 (Nat.le_trans (by decide) hd) v1 v2 v3 h _ q4) ?_
        rcases zI_s e with ⟨q5, e⟩ | ⟨q5, e⟩
        · refine zF_blk (m := []) (d := 1) (b := B130_7) (gs := [¬ r2.1 = 0]) (c' := (46, [some (10, 0), some (19, v1), some (11, v2), some (0, v3)], [], (r2.2, hm, o))) K130_7 rfl ⟨q5, trivial⟩ ?_
          refine zF_blk (m := []) (d := 0) (b := B130_5) (gs := []) (c' := (17, [some (10, 0), some (19, v1), some (11, v2), some (0, (wadd v3 1))], [], (r2.2, hm, o))) K130_5 rfl trivial ?_
          exact hk0 v1 v2 (wadd v3 1) r2.2 _ e
        · refine zF_blk (m := []) (d := 0) (b := B130_7) (gs := [¬ (¬ r2.1 = 0)]) (c' := (44, [some (10, 0), some (19, v1), some (11, v2), some (0, v3)], [], (r2.2, hm, o))) K130_7 rfl ⟨q5, trivial⟩ ?_
          refine zF_blk (m := []) (d := 0) (b := B130_6) (gs := []) (c' := (45, [some (10, 0), some (19, v1), some (11, v2), some (0, v3)], [(0, 0)], (r2.2, hm, o))) K130_6 rfl trivial ?_
          exact zF_rbC (by decide +kernel) (Or.inl rfl) e
/-- EchoVale$ClaimsText.readText(LEchoVale$Valley;LEchoVale$Course;)Z -/
def F130 (v1 : Int) (v2 : Int) (h : zHC) : Option (Int × zHC) := (F20 300 (hset h 0 0 0 (-1))).bind fun r1 => F130_0 zFu v1 v2 0 r1
set_option maxRecDepth 100000 in
theorem S130 {spec : zRn zH2} {hm : zHM} {o : Int → Int} {d : Nat} (hd : 6 ≤ d) (v1 : Int) (v2 : Int) (h : zHC) (v : (Int × zHC)) (e : F130 v1 v2 h = some v) : zRu2 spec d 130 [(10, 0), (19, v1), (11, v2)] (h, hm, o) (some (0, v.1)) (v.2, hm, o) := by
  refine zF_in (D := 5) (mx := 4) (L := [some (10, 0), some (19, v1), some (11, v2), none]) (by decide +kernel) rfl rfl hd (fun d hd => ?_)
  unfold F130 at e
  obtain ⟨r1, q1, e⟩ := zB_s e
  refine zF_blk (m := []) (d := 0) (b := B130_0) (gs := []) (c' := (12, [some (10, 0), some (19, v1), some (11, v2), none], [(0, 300), (15, 0)], ((hset h 0 0 0 (-1)), hm, o))) K130_0 rfl trivial ?_
  refine zF_call (k := 20) (cl := 5) (n := 2) (i := .invokevirtual 19) (args := [(15, 0), (0, 300)]) (rest := []) (g1 := (r1, hm, o)) (r1 := none) (by decide +kernel) rfl rfl rfl (st' := []) rfl (S20 (Nat.le_trans (by decide) hd) 300 (hset h 0 0 0 (-1)) _ q1) ?_
  refine zF_blk (m := []) (d := 0) (b := B130_1) (gs := []) (c' := (17, [some (10, 0), some (19, v1), some (11, v2), some (0, 0)], [], (r1, hm, o))) K130_1 rfl trivial ?_
  exact T130_0 hd zFu v1 v2 0 r1 _ e
