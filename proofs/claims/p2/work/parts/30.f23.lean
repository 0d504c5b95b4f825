/-! Functions of the methods, by wip/gen/lift.py. -/
def B73_0 : List zRow := [(0, .aload_n 0, 1, (0, 0, 0)), (1, .iload_n 1, 1, (0, 0, 0))]
theorem K73_0 : zRk 73 B73_0 = true := by decide +kernel
def B73_1 : List zRow := [(36, .iconst (-1), 1, (0, 0, 0))]
theorem K73_1 : zRk 73 B73_1 = true := by decide +kernel
def B73_2 : List zRow := [(8, .iload_n 3, 1, (0, 0, 0))]
theorem K73_2 : zRk 73 B73_2 = true := by decide +kernel
def B73_3 : List zRow := [(26, .aload_n 0, 1, (0, 0, 0)), (27, .getfield 56, 3, (11, 6, 7))]
theorem K73_3 : zRk 73 B73_3 = true := by decide +kernel
def B73_4 : List zRow := [(38, .aload_n 0, 1, (0, 0, 0)), (39, .getfield 66, 3, (11, 8, 35)), (42, .aload_n 0, 1, (0, 0, 0)), (43, .getfield 56, 3, (11, 6, 7))]
theorem K73_4 : zRk 73 B73_4 = true := by decide +kernel
def B73_5 : List zRow := [(49, .aload_n 0, 1, (0, 0, 0)), (50, .getfield 56, 3, (11, 6, 7)), (53, .aload_n 0, 1, (0, 0, 0)), (54, .getfield 19, 3, (11, 1, 39)), (57, .iload_n 1, 1, (0, 0, 0)), (58, .iload_n 2, 1, (0, 0, 0)), (59, .iload_n 3, 1, (0, 0, 0))]
theorem K73_5 : zRk 73 B73_5 = true := by decide +kernel
def B73_6 : List zRow := [(33, .ifCond .eq 5, 3, (0, 0, 0))]
theorem K73_6 : zRk 73 B73_6 = true := by decide +kernel
def B73_7 : List zRow := [(20, .iload_n 2, 1, (0, 0, 0)), (21, .bipush 99, 2, (0, 0, 0)), (23, .if_icmp .gt 13, 3, (0, 0, 0))]
theorem K73_7 : zRk 73 B73_7 = true := by decide +kernel
def B73_8 : List zRow := [(15, .iload_n 2, 1, (0, 0, 0)), (16, .iconst 1, 1, (0, 0, 0)), (17, .if_icmp .lt 19, 3, (0, 0, 0))]
theorem K73_8 : zRk 73 B73_8 = true := by decide +kernel
def B73_9 : List zRow := [(12, .ifCond .eq 24, 3, (0, 0, 0))]
theorem K73_9 : zRk 73 B73_9 = true := by decide +kernel
def B73_10 : List zRow := [(5, .ifCond .eq 31, 3, (0, 0, 0))]
theorem K73_10 : zRk 73 B73_10 = true := by decide +kernel
/-- EchoVale.says(III)I -/
def F73 (v1 : Int) (v2 : Int) (v3 : Int) (h : zHC) : Option (Int × zHC) := (F61 v1 h).bind fun r1 => if r1 = 0 then some ((-1), h) else (F74 v3).bind fun r2 => if r2 = 0 then some ((-1), h) else if v2 < 1 then some ((-1), h) else if 99 < v2 then some ((-1), h) else (F75 0 h).bind fun r3 => if r3 = 0 then (F70 0 h).bind fun r4 => (F76 0 0 v1 v2 v3 r4).bind fun r5 => some (r5.1, r5.2) else some ((-1), h)
set_option maxRecDepth 100000 in
theorem S73 {spec : zRn zH2} {hm : zHM} {o : Int → Int} {d : Nat} (hd : 5 ≤ d) (v1 : Int) (v2 : Int) (v3 : Int) (h : zHC) (v : (Int × zHC)) (e : F73 v1 v2 v3 h = some v) : zRu2 spec d 73 [(21, 0), (0, v1), (0, v2), (0, v3)] (h, hm, o) (some (0, v.1)) (v.2, hm, o) := by
  refine zF_in (D := 4) (mx := 4) (L := [some (21, 0), some (0, v1), some (0, v2), some (0, v3)]) (by decide +kernel) rfl rfl hd (fun d hd => ?_)
  unfold F73 at e
  obtain ⟨r1, q1, e⟩ := zB_s e
  refine zF_blk (m := []) (d := 0) (b := B73_0) (gs := []) (c' := (2, [some (21, 0), some (0, v1), some (0, v2), some (0, v3)], [(0, v1), (21, 0)], (h, hm, o))) K73_0 rfl trivial ?_
  refine zF_call (k := 61) (cl := 11) (n := 2) (i := .invokevirtual 172) (args := [(21, 0), (0, v1)]) (rest := []) (g1 := (h, hm, o)) (r1 := some (0, r1)) (by decide +kernel) rfl rfl rfl (st' := [(0, r1)]) rfl (S61 (Nat.le_trans (by decide) hd) v1 h _ q1) ?_
  rcases zI_s e with ⟨q2, e⟩ | ⟨q2, e⟩
  · refine zF_blk (m := []) (d := 1) (b := B73_10) (gs := [r1 = 0]) (c' := (36, [some (21, 0), some (0, v1), some (0, v2), some (0, v3)], [], (h, hm, o))) K73_10 rfl ⟨q2, trivial⟩ ?_
    refine zF_blk (m := []) (d := 0) (b := B73_1) (gs := []) (c' := (37, [some (21, 0), some (0, v1), some (0, v2), some (0, v3)], [(0, (-1))], (h, hm, o))) K73_1 rfl trivial ?_
    exact zF_riC (by decide +kernel) e
  · refine zF_blk (m := []) (d := 0) (b := B73_10) (gs := [¬ (r1 = 0)]) (c' := (8, [some (21, 0), some (0, v1), some (0, v2), some (0, v3)], [], (h, hm, o))) K73_10 rfl ⟨q2, trivial⟩ ?_
    obtain ⟨r2, q3, e⟩ := zB_s e
    refine zF_blk (m := []) (d := 0) (b := B73_2) (gs := []) (c' := (9, [some (21, 0), some (0, v1), some (0, v2), some (0, v3)], [(0, v3)], (h, hm, o))) K73_2 rfl trivial ?_
    refine zF_call (k := 74) (cl := 11) (n := 1) (i := .invokestatic 221) (args := [(0, v3)]) (rest := []) (g1 := (h, hm, o)) (r1 := some (0, r2)) (by decide +kernel) rfl rfl rfl (st' := [(0, r2)]) rfl (S74 (Nat.le_trans (by decide) hd) v3 h _ q3) ?_
    rcases zI_s e with ⟨q4, e⟩ | ⟨q4, e⟩
    · refine zF_blk (m := []) (d := 1) (b := B73_9) (gs := [r2 = 0]) (c' := (36, [some (21, 0), some (0, v1), some (0, v2), some (0, v3)], [], (h, hm, o))) K73_9 rfl ⟨q4, trivial⟩ ?_
      refine zF_blk (m := []) (d := 0) (b := B73_1) (gs := []) (c' := (37, [some (21, 0), some (0, v1), some (0, v2), some (0, v3)], [(0, (-1))], (h, hm, o))) K73_1 rfl trivial ?_
      exact zF_riC (by decide +kernel) e
    · refine zF_blk (m := []) (d := 0) (b := B73_9) (gs := [¬ (r2 = 0)]) (c' := (15, [some (21, 0), some (0, v1), some (0, v2), some (0, v3)], [], (h, hm, o))) K73_9 rfl ⟨q4, trivial⟩ ?_
      rcases zI_s e with ⟨q5, e⟩ | ⟨q5, e⟩
      · refine zF_blk (m := []) (d := 1) (b := B73_8) (gs := [v2 < 1]) (c' := (36, [some (21, 0), some (0, v1), some (0, v2), some (0, v3)], [], (h, hm, o))) K73_8 rfl ⟨q5, trivial⟩ ?_
        refine zF_blk (m := []) (d := 0) (b := B73_1) (gs := []) (c' := (37, [some (21, 0), some (0, v1), some (0, v2), some (0, v3)], [(0, (-1))], (h, hm, o))) K73_1 rfl trivial ?_
        exact zF_riC (by decide +kernel) e
      · refine zF_blk (m := []) (d := 0) (b := B73_8) (gs := [¬ (v2 < 1)]) (c' := (20, [some (21, 0), some (0, v1), some (0, v2), some (0, v3)], [], (h, hm, o))) K73_8 rfl ⟨q5, trivial⟩ ?_
        rcases zI_s e with ⟨q6, e⟩ | ⟨q6, e⟩
        · refine zF_blk (m := []) (d := 1) (b := B73_7) (gs := [99 < v2]) (c' := (36, [some (21, 0), some (0, v1), some (0, v2), some (0, v3)], [], (h, hm, o))) K73_7 rfl ⟨q6, trivial⟩ ?_
          refine zF_blk (m := []) (d := 0) (b := B73_1) (gs := []) (c' := (37, [some (21, 0), some (0, v1), some (0, v2), some (0, v3)], [(0, (-1))], (h, hm, o))) K73_1 rfl trivial ?_
          exact zF_riC (by decide +kernel) e
        · refine zF_blk (m := []) (d := 0) (b := B73_7) (gs := [¬ (99 < v2)]) (c' := (26, [some (21, 0), some (0, v1), some (0, v2), some (0, v3)], [], (h, hm, o))) K73_7 rfl ⟨q6, trivial⟩ ?_
          obtain ⟨r3, q7, e⟩ := zB_s e
          refine zF_blk (m := []) (d := 0) (b := B73_3) (gs := []) (c' := (30, [some (21, 0), some (0, v1), some (0, v2), some (0, v3)], [(11, 0)], (h, hm, o))) K73_3 rfl trivial ?_
          refine zF_call (k := 75) (cl := 1) (n := 1) (i := .invokevirtual 224) (args := [(11, 0)]) (rest := []) (g1 := (h, hm, o)) (r1 := some (0, r3)) (by decide +kernel) rfl rfl rfl (st' := [(0, r3)]) rfl (S75 (Nat.le_trans (by decide) hd) 0 h _ q7) ?_
          rcases zI_s e with ⟨q8, e⟩ | ⟨q8, e⟩
          · refine zF_blk (m := []) (d := 1) (b := B73_6) (gs := [r3 = 0]) (c' := (38, [some (21, 0), some (0, v1), some (0, v2), some (0, v3)], [], (h, hm, o))) K73_6 rfl ⟨q8, trivial⟩ ?_
            obtain ⟨r4, q9, e⟩ := zB_s e
            refine zF_blk (m := []) (d := 0) (b := B73_4) (gs := []) (c' := (46, [some (21, 0), some (0, v1), some (0, v2), some (0, v3)], [(11, 0), (18, 0)], (h, hm, o))) K73_4 rfl trivial ?_
            refine zF_call (k := 70) (cl := 8) (n := 2) (i := .invokevirtual 217) (args := [(18, 0), (11, 0)]) (rest := []) (g1 := (r4, hm, o)) (r1 := none) (by decide +kernel) rfl rfl rfl (st' := []) rfl (S70 (Nat.le_trans (by decide) hd) 0 h _ q9) ?_
            obtain ⟨r5, q10, e⟩ := zB_s e
            refine zF_blk (m := []) (d := 0) (b := B73_5) (gs := []) (c' := (60, [some (21, 0), some (0, v1), some (0, v2), some (0, v3)], [(0, v3), (0, v2), (0, v1), (19, 0), (11, 0)], (r4, hm, o))) K73_5 rfl trivial ?_
            refine zF_call (k := 76) (cl := 1) (n := 5) (i := .invokevirtual 227) (args := [(11, 0), (19, 0), (0, v1), (0, v2), (0, v3)]) (rest := []) (g1 := (r5.2, hm, o)) (r1 := some (0, r5.1)) (by decide +kernel) rfl rfl rfl (st' := [(0, r5.1)]) rfl (S76 (Nat.le_trans (by decide) hd) 0 0 v1 v2 v3 r4 _ q10) ?_
            exact zF_riC (by decide +kernel) e
          · refine zF_blk (m := []) (d := 0) (b := B73_6) (gs := [¬ (r3 = 0)]) (c' := (36, [some (21, 0), some (0, v1), some (0, v2), some (0, v3)], [], (h, hm, o))) K73_6 rfl ⟨q8, trivial⟩ ?_
            refine zF_blk (m := []) (d := 0) (b := B73_1) (gs := []) (c' := (37, [some (21, 0), some (0, v1), some (0, v2), some (0, v3)], [(0, (-1))], (h, hm, o))) K73_1 rfl trivial ?_
            exact zF_riC (by decide +kernel) e
def B228_0 : List zRow := [(0, .iload_n 2, 1, (0, 0, 0)), (1, .aload_n 0, 1, (0, 0, 0)), (2, .getfield 13, 3, (12, 14, 5251442)), (5, .bipush 97, 2, (0, 0, 0)), (7, .iload_n 1, 1, (0, 0, 0))]
theorem K228_0 : zRk 228 B228_0 = true := by decide +kernel
def B228_1 : List zRow := [(17, .iconst 0, 1, (0, 0, 0))]
theorem K228_1 : zRk 228 B228_1 = true := by decide +kernel
def B228_2 : List zRow := [(13, .iconst 2, 1, (0, 0, 0)), (14, .goto 4, 3, (0, 0, 0))]
theorem K228_2 : zRk 228 B228_2 = true := by decide +kernel
def B228_3 : List zRow := [(8, .iadd, 1, (0, 0, 0)), (9, .iaload, 1, (0, 0, 0)), (10, .ifCond .le 7, 3, (0, 0, 0))]
theorem K228_3 : zRk 228 B228_3 = true := by decide +kernel
def B228_4 : List zRow := [(28, .iload_n 3, 1, (0, 0, 0))]
theorem K228_4 : zRk 228 B228_4 = true := by decide +kernel
def B228_5 : List zRow := [(24, .iconst 0, 1, (0, 0, 0)), (25, .goto 4, 3, (0, 0, 0))]
theorem K228_5 : zRk 228 B228_5 = true := by decide +kernel
def B228_6 : List zRow := [(18, .isub, 1, (0, 0, 0)), (19, .istore_n 3, 1, (0, 0, 0)), (20, .iload_n 3, 1, (0, 0, 0)), (21, .ifCond .ge 7, 3, (0, 0, 0))]
theorem K228_6 : zRk 228 B228_6 = true := by decide +kernel
def F228_0 (h : zHM) (s0 : Int) (s1 : Int) : Option Int := if 0 ≤ (wsub s1 s0) then some (wsub s1 s0) else some 0
set_option maxRecDepth 100000 in
theorem T228_0 {spec : zRn zH2} {hc : zHC} {o : Int → Int} {d : Nat} (hd : 0 ≤ d) (h : zHM) (s0 : Int) (s1 : Int) (v : Int) (e : F228_0 h s0 s1 = some v) : zFin 0 (fun _ => 0) (zRu2 spec d) 228 (some (0, v)) (hc, h, o) (18, [none, none, none, none], [(0, s0), (0, s1)], (hc, h, o)) := by
  unfold F228_0 at e
  rcases zI_s e with ⟨q1, e⟩ | ⟨q1, e⟩
  · refine zF_blk (m := []) (d := 1) (b := B228_6) (gs := [0 ≤ (wsub s1 s0)]) (c' := (28, [none, none, none, some (0, (wsub s1 s0))], [], (hc, h, o))) K228_6 rfl ⟨q1, trivial⟩ ?_
    refine zF_blk (m := []) (d := 0) (b := B228_4) (gs := []) (c' := (29, [none, none, none, some (0, (wsub s1 s0))], [(0, (wsub s1 s0))], (hc, h, o))) K228_4 rfl trivial ?_
    obtain rfl := Option.some.inj e
    exact zF_ri (by decide +kernel)
  · refine zF_blk (m := []) (d := 0) (b := B228_6) (gs := [¬ (0 ≤ (wsub s1 s0))]) (c' := (24, [none, none, none, some (0, (wsub s1 s0))], [], (hc, h, o))) K228_6 rfl ⟨q1, trivial⟩ ?_
    refine zF_blk (m := []) (d := 0) (b := B228_5) (gs := []) (c' := (29, [none, none, none, some (0, (wsub s1 s0))], [(0, 0)], (hc, h, o))) K228_5 rfl trivial ?_
    obtain rfl := Option.some.inj e
    exact zF_ri (by decide +kernel)
/-- EchoValeModel.loudAt(II)I -/
def F228 (v1 : Int) (v2 : Int) (h : zHM) : Option Int := zG (0 ≤ (wadd 97 v1) ∧ (wadd 97 v1) < 2140) (if (h 14 (wadd 97 v1)) ≤ 0 then F228_0 h 0 v2 else F228_0 h 2 v2)
set_option maxRecDepth 100000 in
theorem S228 {spec : zRn zH2} {hc : zHC} {o : Int → Int} {d : Nat} (hd : 1 ≤ d) (v1 : Int) (v2 : Int) (h : zHM) (v : Int) (e : F228 v1 v2 h = some v) : zRu2 spec d 228 [(22, 0), (0, v1), (0, v2)] (hc, h, o) (some (0, v)) (hc, h, o) := by
  refine zF_in (D := 0) (mx := 4) (L := [some (22, 0), some (0, v1), some (0, v2), none]) (by decide +kernel) rfl rfl hd (fun d hd => ?_)
  unfold F228 at e
  obtain ⟨q1, e⟩ := zG_s e
  refine zF_blk (m := []) (d := 0) (b := B228_0) (gs := []) (c' := (8, [some (22, 0), some (0, v1), some (0, v2), none], [(0, v1), (0, 97), (1344370422, 0), (0, v2)], (hc, h, o))) K228_0 rfl trivial ?_
  rcases zI_s e with ⟨q2, e⟩ | ⟨q2, e⟩
  · refine zF_blk (m := []) (d := 1) (b := B228_3) (gs := [0 ≤ (wadd 97 v1) ∧ (wadd 97 v1) < 2140, (h 14 (wadd 97 v1)) ≤ 0]) (c' := (17, [some (22, 0), some (0, v1), some (0, v2), none], [(0, v2)], (hc, h, o))) K228_3 rfl ⟨q1, q2, trivial⟩ ?_
    refine zF_blk (m := []) (d := 0) (b := B228_1) (gs := []) (c' := (18, [some (22, 0), some (0, v1), some (0, v2), none], [(0, 0), (0, v2)], (hc, h, o))) K228_1 rfl trivial ?_
    refine zF_blk (m := [false, false, false, false]) (d := 0) (b := []) (gs := []) (c' := (18, [none, none, none, none], [(0, 0), (0, v2)], (hc, h, o))) rfl rfl trivial ?_
    exact T228_0 hd h 0 v2 _ e
  · refine zF_blk (m := []) (d := 0) (b := B228_3) (gs := [0 ≤ (wadd 97 v1) ∧ (wadd 97 v1) < 2140, ¬ ((h 14 (wadd 97 v1)) ≤ 0)]) (c' := (13, [some (22, 0), some (0, v1), some (0, v2), none], [(0, v2)], (hc, h, o))) K228_3 rfl ⟨q1, q2, trivial⟩ ?_
    refine zF_blk (m := []) (d := 0) (b := B228_2) (gs := []) (c' := (18, [some (22, 0), some (0, v1), some (0, v2), none], [(0, 2), (0, v2)], (hc, h, o))) K228_2 rfl trivial ?_
    refine zF_blk (m := [false, false, false, false]) (d := 0) (b := []) (gs := []) (c' := (18, [none, none, none, none], [(0, 2), (0, v2)], (hc, h, o))) rfl rfl trivial ?_
    exact T228_0 hd h 2 v2 _ e
def B229_0 : List zRow := [(0, .aload_n 0, 1, (0, 0, 0)), (1, .getfield 13, 3, (12, 14, 5251442)), (4, .bipush 7, 2, (0, 0, 0)), (6, .iconst 3, 1, (0, 0, 0)), (7, .iload_n 1, 1, (0, 0, 0))]
theorem K229_0 : zRk 229 B229_0 = true := by decide +kernel
def B229_1 : List zRow := [(8, .imul, 1, (0, 0, 0))]
theorem K229_1 : zRk 229 B229_1 = true := by decide +kernel
def B229_2 : List zRow := [(9, .iadd, 1, (0, 0, 0)), (10, .iaload, 1, (0, 0, 0))]
theorem K229_2 : zRk 229 B229_2 = true := by decide +kernel
/-- EchoValeModel.cliffAt(I)I -/
def F229 (v1 : Int) (h : zHM) : Option Int := zG (0 ≤ (wadd 7 (wmul 3 v1)) ∧ (wadd 7 (wmul 3 v1)) < 2140) (some (h 14 (wadd 7 (wmul 3 v1))))
set_option maxRecDepth 100000 in
theorem S229 {spec : zRn zH2} {hc : zHC} {o : Int → Int} {d : Nat} (hd : 1 ≤ d) (v1 : Int) (h : zHM) (v : Int) (e : F229 v1 h = some v) : zRu2 spec d 229 [(22, 0), (0, v1)] (hc, h, o) (some (0, v)) (hc, h, o) := by
  refine zF_in (D := 0) (mx := 2) (L := [some (22, 0), some (0, v1)]) (by decide +kernel) rfl rfl hd (fun d hd => ?_)
  unfold F229 at e
  obtain ⟨q1, e⟩ := zG_s e
  refine zF_blk (m := []) (d := 0) (b := B229_0) (gs := []) (c' := (8, [some (22, 0), some (0, v1)], [(0, v1), (0, 3), (0, 7), (1344370422, 0)], (hc, h, o))) K229_0 rfl trivial ?_
  refine zF_blk (m := []) (d := 0) (b := B229_1) (gs := []) (c' := (9, [some (22, 0), some (0, v1)], [(0, (wmul 3 v1)), (0, 7), (1344370422, 0)], (hc, h, o))) K229_1 rfl trivial ?_
  refine zF_blk (m := []) (d := 0) (b := B229_2) (gs := [0 ≤ (wadd 7 (wmul 3 v1)) ∧ (wadd 7 (wmul 3 v1)) < 2140]) (c' := (11, [some (22, 0), some (0, v1)], [(0, (h 14 (wadd 7 (wmul 3 v1))))], (hc, h, o))) K229_2 rfl ⟨q1, trivial⟩ ?_
  obtain rfl := Option.some.inj e
  exact zF_ri (by decide +kernel)
def B231_0 : List zRow := [(9, .iload_n 0, 1, (0, 0, 0))]
theorem K231_0 : zRk 231 B231_0 = true := by decide +kernel
def B231_1 : List zRow := [(4, .iload_n 0, 1, (0, 0, 0)), (5, .ineg, 1, (0, 0, 0)), (6, .goto 4, 3, (0, 0, 0))]
theorem K231_1 : zRk 231 B231_1 = true := by decide +kernel
def B231_2 : List zRow := [(0, .iload_n 0, 1, (0, 0, 0)), (1, .ifCond .ge 8, 3, (0, 0, 0))]
theorem K231_2 : zRk 231 B231_2 = true := by decide +kernel
/-- EchoValeModel.size(I)I -/
def F231 (v0 : Int) : Option Int := if 0 ≤ v0 then some v0 else some (wneg v0)
set_option maxRecDepth 100000 in
theorem S231 {spec : zRn zH2} {hc : zHC} {o : Int → Int} {d : Nat} (hd : 1 ≤ d) (v0 : Int) (h : zHM) (v : Int) (e : F231 v0 = some v) : zRu2 spec d 231 [(0, v0)] (hc, h, o) (some (0, v)) (hc, h, o) := by
  refine zF_in (D := 0) (mx := 1) (L := [some (0, v0)]) (by decide +kernel) rfl rfl hd (fun d hd => ?_)
  unfold F231 at e
  rcases zI_s e with ⟨q1, e⟩ | ⟨q1, e⟩
  · refine zF_blk (m := []) (d := 1) (b := B231_2) (gs := [0 ≤ v0]) (c' := (9, [some (0, v0)], [], (hc, h, o))) K231_2 rfl ⟨q1, trivial⟩ ?_
    refine zF_blk (m := []) (d := 0) (b := B231_0) (gs := []) (c' := (10, [some (0, v0)], [(0, v0)], (hc, h, o))) K231_0 rfl trivial ?_
    obtain rfl := Option.some.inj e
    exact zF_ri (by decide +kernel)
  · refine zF_blk (m := []) (d := 0) (b := B231_2) (gs := [¬ (0 ≤ v0)]) (c' := (4, [some (0, v0)], [], (hc, h, o))) K231_2 rfl ⟨q1, trivial⟩ ?_
    refine zF_blk (m := []) (d := 0) (b := B231_1) (gs := []) (c' := (10, [some (0, v0)], [(0, (wneg v0))], (hc, h, o))) K231_1 rfl trivial ?_
    obtain rfl := Option.some.inj e
    exact zF_ri (by decide +kernel)
def B230_0 : List zRow := [(0, .iload_n 0, 1, (0, 0, 0)), (1, .bipush 10, 2, (0, 0, 0)), (3, .irem, 1, (0, 0, 0)), (4, .iload_n 1, 1, (0, 0, 0)), (5, .bipush 10, 2, (0, 0, 0)), (7, .irem, 1, (0, 0, 0)), (8, .isub, 1, (0, 0, 0))]
theorem K230_0 : zRk 230 B230_0 = true := by decide +kernel
def B230_1 : List zRow := [(12, .iload_n 0, 1, (0, 0, 0)), (13, .bipush 10, 2, (0, 0, 0)), (15, .idiv, 1, (0, 0, 0)), (16, .iload_n 1, 1, (0, 0, 0)), (17, .bipush 10, 2, (0, 0, 0)), (19, .idiv, 1, (0, 0, 0)), (20, .isub, 1, (0, 0, 0))]
theorem K230_1 : zRk 230 B230_1 = true := by decide +kernel
def B230_2 : List zRow := [(24, .iadd, 1, (0, 0, 0))]
theorem K230_2 : zRk 230 B230_2 = true := by decide +kernel
/-- EchoValeModel.apart(II)I -/
def F230 (v0 : Int) (v1 : Int) : Option Int := (F231 (wsub (wrem v0 10) (wrem v1 10))).bind fun r1 => (F231 (wsub (wdiv v0 10) (wdiv v1 10))).bind fun r2 => some (wadd r1 r2)
set_option maxRecDepth 100000 in
theorem S230 {spec : zRn zH2} {hc : zHC} {o : Int → Int} {d : Nat} (hd : 2 ≤ d) (v0 : Int) (v1 : Int) (h : zHM) (v : Int) (e : F230 v0 v1 = some v) : zRu2 spec d 230 [(0, v0), (0, v1)] (hc, h, o) (some (0, v)) (hc, h, o) := by
  refine zF_in (D := 1) (mx := 2) (L := [some (0, v0), some (0, v1)]) (by decide +kernel) rfl rfl hd (fun d hd => ?_)
  unfold F230 at e
  obtain ⟨r1, q1, e⟩ := zB_s e
  refine zF_blk (m := []) (d := 0) (b := B230_0) (gs := [¬ 10 = 0, ¬ 10 = 0]) (c' := (9, [some (0, v0), some (0, v1)], [(0, (wsub (wrem v0 10) (wrem v1 10)))], (hc, h, o))) K230_0 rfl ⟨by decide, by decide, trivial⟩ ?_
  refine zF_call (k := 231) (cl := 12) (n := 1) (i := .invokestatic 92) (args := [(0, (wsub (wrem v0 10) (wrem v1 10)))]) (rest := []) (g1 := (hc, h, o)) (r1 := some (0, r1)) (by decide +kernel) rfl rfl rfl (st' := [(0, r1)]) rfl (S231 (Nat.le_trans (by decide) hd) (wsub (wrem v0 10) (wrem v1 10)) h _ q1) ?_
  obtain ⟨r2, q2, e⟩ := zB_s e
  refine zF_blk (m := []) (d := 0) (b := B230_1) (gs := [¬ 10 = 0, ¬ 10 = 0]) (c' := (21, [some (0, v0), some (0, v1)], [(0, (wsub (wdiv v0 10) (wdiv v1 10))), (0, r1)], (hc, h, o))) K230_1 rfl ⟨by decide, by decide, trivial⟩ ?_
  refine zF_call (k := 231) (cl := 12) (n := 1) (i := .invokestatic 92) (args := [(0, (wsub (wdiv v0 10) (wdiv v1 10)))]) (rest := [(0, r1)]) (g1 := (hc, h, o)) (r1 := some (0, r2)) (by decide +kernel) rfl rfl rfl (st' := [(0, r2), (0, r1)]) rfl (S231 (Nat.le_trans (by decide) hd) (wsub (wdiv v0 10) (wdiv v1 10)) h _ q2) ?_
  refine zF_blk (m := []) (d := 0) (b := B230_2) (gs := []) (c' := (25, [some (0, v0), some (0, v1)], [(0, (wadd r1 r2))], (hc, h, o))) K230_2 rfl trivial ?_
  obtain rfl := Option.some.inj e
  exact zF_ri (by decide +kernel)
def B232_0 : List zRow := [(0, .aload_n 0, 1, (0, 0, 0)), (1, .getfield 13, 3, (12, 14, 5251442)), (4, .bipush 7, 2, (0, 0, 0)), (6, .iconst 3, 1, (0, 0, 0)), (7, .iload_n 1, 1, (0, 0, 0))]
theorem K232_0 : zRk 232 B232_0 = true := by decide +kernel
def B232_1 : List zRow := [(8, .imul, 1, (0, 0, 0))]
theorem K232_1 : zRk 232 B232_1 = true := by decide +kernel
def B232_2 : List zRow := [(9, .iadd, 1, (0, 0, 0)), (10, .iconst 1, 1, (0, 0, 0)), (11, .iadd, 1, (0, 0, 0)), (12, .iaload, 1, (0, 0, 0))]
theorem K232_2 : zRk 232 B232_2 = true := by decide +kernel
/-- EchoValeModel.delay(I)I -/
def F232 (v1 : Int) (h : zHM) : Option Int := zG (0 ≤ (wadd (wadd 7 (wmul 3 v1)) 1) ∧ (wadd (wadd 7 (wmul 3 v1)) 1) < 2140) (some (h 14 (wadd (wadd 7 (wmul 3 v1)) 1)))
set_option maxRecDepth 100000 in
theorem S232 {spec : zRn zH2} {hc : zHC} {o : Int → Int} {d : Nat} (hd : 1 ≤ d) (v1 : Int) (h : zHM) (v : Int) (e : F232 v1 h = some v) : zRu2 spec d 232 [(22, 0), (0, v1)] (hc, h, o) (some (0, v)) (hc, h, o) := by
  refine zF_in (D := 0) (mx := 2) (L := [some (22, 0), some (0, v1)]) (by decide +kernel) rfl rfl hd (fun d hd => ?_)
  unfold F232 at e
  obtain ⟨q1, e⟩ := zG_s e
  refine zF_blk (m := []) (d := 0) (b := B232_0) (gs := []) (c' := (8, [some (22, 0), some (0, v1)], [(0, v1), (0, 3), (0, 7), (1344370422, 0)], (hc, h, o))) K232_0 rfl trivial ?_
  refine zF_blk (m := []) (d := 0) (b := B232_1) (gs := []) (c' := (9, [some (22, 0), some (0, v1)], [(0, (wmul 3 v1)), (0, 7), (1344370422, 0)], (hc, h, o))) K232_1 rfl trivial ?_
  refine zF_blk (m := []) (d := 0) (b := B232_2) (gs := [0 ≤ (wadd (wadd 7 (wmul 3 v1)) 1) ∧ (wadd (wadd 7 (wmul 3 v1)) 1) < 2140]) (c' := (13, [some (22, 0), some (0, v1)], [(0, (h 14 (wadd (wadd 7 (wmul 3 v1)) 1)))], (hc, h, o))) K232_2 rfl ⟨q1, trivial⟩ ?_
  obtain rfl := Option.some.inj e
  exact zF_ri (by decide +kernel)
def B233_0 : List zRow := [(0, .sipush 457, 3, (0, 0, 0)), (3, .bipush 18, 2, (0, 0, 0)), (5, .iload_n 1, 1, (0, 0, 0))]
theorem K233_0 : zRk 233 B233_0 = true := by decide +kernel
def B233_1 : List zRow := [(6, .imul, 1, (0, 0, 0))]
theorem K233_1 : zRk 233 B233_1 = true := by decide +kernel
def B233_2 : List zRow := [(7, .iadd, 1, (0, 0, 0)), (8, .iconst 3, 1, (0, 0, 0)), (9, .iload_n 2, 1, (0, 0, 0))]
theorem K233_2 : zRk 233 B233_2 = true := by decide +kernel
def B233_3 : List zRow := [(58, .iload 4, 2, (0, 0, 0)), (60, .aload_n 0, 1, (0, 0, 0)), (61, .getfield 13, 3, (12, 14, 5251442)), (64, .iload 5, 2, (0, 0, 0)), (66, .iconst 1, 1, (0, 0, 0)), (67, .iadd, 1, (0, 0, 0)), (68, .iaload, 1, (0, 0, 0)), (69, .if_icmp .le 7, 3, (0, 0, 0))]
theorem K233_3 : zRk 233 B233_3 = true := by decide +kernel
def B233_4 : List zRow := [(47, .iload_n 3, 1, (0, 0, 0)), (48, .aload_n 0, 1, (0, 0, 0)), (49, .getfield 13, 3, (12, 14, 5251442)), (52, .iload 5, 2, (0, 0, 0)), (54, .iaload, 1, (0, 0, 0)), (55, .if_icmp .ne 21, 3, (0, 0, 0))]
theorem K233_4 : zRk 233 B233_4 = true := by decide +kernel
def B233_5 : List zRow := [(36, .iload_n 3, 1, (0, 0, 0)), (37, .aload_n 0, 1, (0, 0, 0)), (38, .getfield 13, 3, (12, 14, 5251442)), (41, .iload 5, 2, (0, 0, 0)), (43, .iaload, 1, (0, 0, 0)), (44, .if_icmp .lt 28, 3, (0, 0, 0))]
theorem K233_5 : zRk 233 B233_5 = true := by decide +kernel
def B233_6 : List zRow := [(24, .aload_n 0, 1, (0, 0, 0)), (25, .getfield 13, 3, (12, 14, 5251442)), (28, .iload 5, 2, (0, 0, 0)), (30, .iconst 2, 1, (0, 0, 0)), (31, .iadd, 1, (0, 0, 0)), (32, .iaload, 1, (0, 0, 0)), (33, .ifCond .ne 43, 3, (0, 0, 0))]
theorem K233_6 : zRk 233 B233_6 = true := by decide +kernel
def B233_7 : List zRow := [(10, .imul, 1, (0, 0, 0)), (11, .iadd, 1, (0, 0, 0)), (12, .istore 5, 2, (0, 0, 0)), (14, .aload_n 0, 1, (0, 0, 0)), (15, .getfield 13, 3, (12, 14, 5251442)), (18, .iload 5, 2, (0, 0, 0)), (20, .iaload, 1, (0, 0, 0)), (21, .ifCond .eq 51, 3, (0, 0, 0))]
theorem K233_7 : zRk 233 B233_7 = true := by decide +kernel
def B233_8 : List zRow := [(76, .iconst 0, 1, (0, 0, 0))]
theorem K233_8 : zRk 233 B233_8 = true := by decide +kernel
def B233_9 : List zRow := [(85, .aload_n 0, 1, (0, 0, 0)), (86, .getfield 13, 3, (12, 14, 5251442)), (89, .iload 5, 2, (0, 0, 0)), (91, .iload_n 3, 1, (0, 0, 0)), (92, .iastore, 1, (0, 0, 0)), (93, .aload_n 0, 1, (0, 0, 0)), (94, .getfield 13, 3, (12, 14, 5251442)), (97, .iload 5, 2, (0, 0, 0)), (99, .iconst 1, 1, (0, 0, 0)), (100, .iadd, 1, (0, 0, 0)), (101, .iload 4, 2, (0, 0, 0)), (103, .iastore, 1, (0, 0, 0))]
theorem K233_9 : zRk 233 B233_9 = true := by decide +kernel
def B233_10 : List zRow := [(77, .istore 6, 2, (0, 0, 0)), (79, .iload 6, 2, (0, 0, 0)), (81, .ifCond .ne 4, 3, (0, 0, 0))]
theorem K233_10 : zRk 233 B233_10 = true := by decide +kernel
def B233_11 : List zRow := [(72, .iconst 1, 1, (0, 0, 0)), (73, .goto 4, 3, (0, 0, 0))]
theorem K233_11 : zRk 233 B233_11 = true := by decide +kernel
def F233_2 (v3 : Int) (v4 : Int) (v5 : Int) (s0 : Int) (h : zHM) : Option zHM := if ¬ s0 = 0 then zG (0 ≤ v5 ∧ v5 < 2140) (zG (0 ≤ (wadd v5 1) ∧ (wadd v5 1) < 2140) (some (mset (mset h 14 v5 v3) 14 (wadd v5 1) v4))) else some h
set_option maxRecDepth 100000 in
theorem T233_2 {spec : zRn zH2} {hc : zHC} {o : Int → Int} {d : Nat} (hd : 0 ≤ d) (v3 : Int) (v4 : Int) (v5 : Int) (s0 : Int) (h : zHM) (v : zHM) (e : F233_2 v3 v4 v5 s0 h = some v) : zFin 0 (fun _ => 0) (zRu2 spec d) 233 none (hc, v, o) (77, [some (22, 0), none, none, some (0, v3), some (0, v4), some (0, v5), none], [(0, s0)], (hc, h, o)) := by
  unfold F233_2 at e
  rcases zI_s e with ⟨q1, e⟩ | ⟨q1, e⟩
  · refine zF_blk (m := []) (d := 1) (b := B233_10) (gs := [¬ s0 = 0]) (c' := (85, [some (22, 0), none, none, some (0, v3), some (0, v4), some (0, v5), some (0, s0)], [], (hc, h, o))) K233_10 rfl ⟨q1, trivial⟩ ?_
    obtain ⟨q2, e⟩ := zG_s e
    obtain ⟨q3, e⟩ := zG_s e
    refine zF_blk (m := []) (d := 0) (b := B233_9) (gs := [0 ≤ v5 ∧ v5 < 2140, 0 ≤ (wadd v5 1) ∧ (wadd v5 1) < 2140]) (c' := (104, [some (22, 0), none, none, some (0, v3), some (0, v4), some (0, v5), some (0, s0)], [], (hc, (mset (mset h 14 v5 v3) 14 (wadd v5 1) v4), o))) K233_9 rfl ⟨q2, q3, trivial⟩ ?_
    obtain rfl := Option.some.inj e
    exact zF_rv (by decide +kernel)
  · refine zF_blk (m := []) (d := 0) (b := B233_10) (gs := [¬ (¬ s0 = 0)]) (c' := (84, [some (22, 0), none, none, some (0, v3), some (0, v4), some (0, v5), some (0, s0)], [], (hc, h, o))) K233_10 rfl ⟨q1, trivial⟩ ?_
    obtain rfl := Option.some.inj e
    exact zF_rv (by decide +kernel)
def F233_1 (v3 : Int) (v4 : Int) (v5 : Int) (h : zHM) : Option zHM := F233_2 v3 v4 v5 0 h
set_option maxRecDepth 100000 in
theorem T233_1 {spec : zRn zH2} {hc : zHC} {o : Int → Int} {d : Nat} (hd : 0 ≤ d) (v3 : Int) (v4 : Int) (v5 : Int) (h : zHM) (v : zHM) (e : F233_1 v3 v4 v5 h = some v) : zFin 0 (fun _ => 0) (zRu2 spec d) 233 none (hc, v, o) (76, [some (22, 0), none, none, some (0, v3), some (0, v4), some (0, v5), none], [], (hc, h, o)) := by
  unfold F233_1 at e
  refine zF_blk (m := []) (d := 0) (b := B233_8) (gs := []) (c' := (77, [some (22, 0), none, none, some (0, v3), some (0, v4), some (0, v5), none], [(0, 0)], (hc, h, o))) K233_8 rfl trivial ?_
  exact T233_2 hd v3 v4 v5 0 h _ e
def F233_0 (v3 : Int) (v4 : Int) (v5 : Int) (h : zHM) : Option zHM := F233_2 v3 v4 v5 1 h
set_option maxRecDepth 100000 in
theorem T233_0 {spec : zRn zH2} {hc : zHC} {o : Int → Int} {d : Nat} (hd : 0 ≤ d) (v3 : Int) (v4 : Int) (v5 : Int) (h : zHM) (v : zHM) (e : F233_0 v3 v4 v5 h = some v) : zFin 0 (fun _ => 0) (zRu2 spec d) 233 none (hc, v, o) (72, [some (22, 0), none, none, some (0, v3), some (0, v4), some (0, v5), none], [], (hc, h, o)) := by
  unfold F233_0 at e
  refine zF_blk (m := []) (d := 0) (b := B233_11) (gs := []) (c' := (77, [some (22, 0), none, none, some (0, v3), some (0, v4), some (0, v5), none], [(0, 1)], (hc, h, o))) K233_11 rfl trivial ?_
  exact T233_2 hd v3 v4 v5 1 h _ e
/-- EchoValeModel.comeTo(IIII)V -/
def F233 (v1 : Int) (v2 : Int) (v3 : Int) (v4 : Int) (h : zHM) : Option zHM := zG (0 ≤ (wadd (wadd 457 (wmul 18 v1)) (wmul 3 v2)) ∧ (wadd (wadd 457 (wmul 18 v1)) (wmul 3 v2)) < 2140) (if (h 14 (wadd (wadd 457 (wmul 18 v1)) (wmul 3 v2))) = 0 then F233_0 v3 v4 (wadd (wadd 457 (wmul 18 v1)) (wmul 3 v2)) h else zG (0 ≤ (wadd (wadd (wadd 457 (wmul 18 v1)) (wmul 3 v2)) 2) ∧ (wadd (wadd (wadd 457 (wmul 18 v1)) (wmul 3 v2)) 2) < 2140) (if ¬ (h 14 (wadd (wadd (wadd 457 (wmul 18 v1)) (wmul 3 v2)) 2)) = 0 then F233_1 v3 v4 (wadd (wadd 457 (wmul 18 v1)) (wmul 3 v2)) h else zG (0 ≤ (wadd (wadd 457 (wmul 18 v1)) (wmul 3 v2)) ∧ (wadd (wadd 457 (wmul 18 v1)) (wmul 3 v2)) < 2140) (if v3 < (h 14 (wadd (wadd 457 (wmul 18 v1)) (wmul 3 v2))) then F233_0 v3 v4 (wadd (wadd 457 (wmul 18 v1)) (wmul 3 v2)) h else zG (0 ≤ (wadd (wadd 457 (wmul 18 v1)) (wmul 3 v2)) ∧ (wadd (wadd 457 (wmul 18 v1)) (wmul 3 v2)) < 2140) (if ¬ v3 = (h 14 (wadd (wadd 457 (wmul 18 v1)) (wmul 3 v2))) then F233_1 v3 v4 (wadd (wadd 457 (wmul 18 v1)) (wmul 3 v2)) h else zG (0 ≤ (wadd (wadd (wadd 457 (wmul 18 v1)) (wmul 3 v2)) 1) ∧ (wadd (wadd (wadd 457 (wmul 18 v1)) (wmul 3 v2)) 1) < 2140) (if v4 ≤ (h 14 (wadd (wadd (wadd 457 (wmul 18 v1)) (wmul 3 v2)) 1)) then F233_1 v3 v4 (wadd (wadd 457 (wmul 18 v1)) (wmul 3 v2)) h else F233_0 v3 v4 (wadd (wadd 457 (wmul 18 v1)) (wmul 3 v2)) h)))))
set_option maxRecDepth 100000 in
theorem S233 {spec : zRn zH2} {hc : zHC} {o : Int → Int} {d : Nat} (hd : 1 ≤ d) (v1 : Int) (v2 : Int) (v3 : Int) (v4 : Int) (h : zHM) (v : zHM) (e : F233 v1 v2 v3 v4 h = some v) : zRu2 spec d 233 [(22, 0), (0, v1), (0, v2), (0, v3), (0, v4)] (hc, h, o) none (hc, v, o) := by
  refine zF_in (D := 0) (mx := 7) (L := [some (22, 0), some (0, v1), some (0, v2), some (0, v3), some (0, v4), none, none]) (by decide +kernel) rfl rfl hd (fun d hd => ?_)
  unfold F233 at e
  obtain ⟨q1, e⟩ := zG_s e
  refine zF_blk (m := []) (d := 0) (b := B233_0) (gs := []) (c' := (6, [some (22, 0), some (0, v1), some (0, v2), some (0, v3), some (0, v4), none, none], [(0, v1), (0, 18), (0, 457)], (hc, h, o))) K233_0 rfl trivial ?_
  refine zF_blk (m := []) (d := 0) (b := B233_1) (gs := []) (c' := (7, [some (22, 0), some (0, v1), some (0, v2), some (0, v3), some (0, v4), none, none], [(0, (wmul 18 v1)), (0, 457)], (hc, h, o))) K233_1 rfl trivial ?_
  refine zF_blk (m := []) (d := 0) (b := B233_2) (gs := []) (c' := (10, [some (22, 0), some (0, v1), some (0, v2), some (0, v3), some (0, v4), none, none], [(0, v2), (0, 3), (0, (wadd 457 (wmul 18 v1)))], (hc, h, o))) K233_2 rfl trivial ?_
  rcases zI_s e with ⟨q2, e⟩ | ⟨q2, e⟩
  · refine zF_blk (m := []) (d := 1) (b := B233_7) (gs := [0 ≤ (wadd (wadd 457 (wmul 18 v1)) (wmul 3 v2)) ∧ (wadd (wadd 457 (wmul 18 v1)) (wmul 3 v2)) < 2140, (h 14 (wadd (wadd 457 (wmul 18 v1)) (wmul 3 v2))) = 0]) (c' := (72, [some (22, 0), some (0, v1), some (0, v2), some (0, v3), some (0, v4), some (0, (wadd (wadd 457 (wmul 18 v1)) (wmul 3 v2))), none], [], (hc, h, o))) K233_7 rfl ⟨q1, q2, trivial⟩ ?_
    refine zF_blk (m := [true, false, false, true, true, true, false]) (d := 0) (b := []) (gs := []) (c' := (72, [some (22, 0), none, none, some (0, v3), some (0, v4), some (0, (wadd (wadd 457 (wmul 18 v1)) (wmul 3 v2))), none], [], (hc, h, o))) rfl rfl trivial ?_
    exact T233_0 hd v3 v4 (wadd (wadd 457 (wmul 18 v1)) (wmul 3 v2)) h _ e
  · refine zF_blk (m := []) (d := 0) (b := B233_7) (gs := [0 ≤ (wadd (wadd 457 (wmul 18 v1)) (wmul 3 v2)) ∧ (wadd (wadd 457 (wmul 18 v1)) (wmul 3 v2)) < 2140, ¬ ((h 14 (wadd (wadd 457 (wmul 18 v1)) (wmul 3 v2))) = 0)]) (c' := (24, [some (22, 0), some (0, v1), some (0, v2), some (0, v3), some (0, v4), some (0, (wadd (wadd 457 (wmul 18 v1)) (wmul 3 v2))), none], [], (hc, h, o))) K233_7 rfl ⟨q1, q2, trivial⟩ ?_
    obtain ⟨q3, e⟩ := zG_s e
    rcases zI_s e with ⟨q4, e⟩ | ⟨q4, e⟩
    · refine zF_blk (m := []) (d := 1) (b := B233_6) (gs := [0 ≤ (wadd (wadd (wadd 457 (wmul 18 v1)) (wmul 3 v2)) 2) ∧ (wadd (wadd (wadd 457 (wmul 18 v1)) (wmul 3 v2)) 2) < 2140, ¬ (h 14 (wadd (wadd (wadd 457 (wmul 18 v1)) (wmul 3 v2)) 2)) = 0]) (c' := (76, [some (22, 0), some (0, v1), some (0, v2), some (0, v3), some (0, v4), some (0, (wadd (wadd 457 (wmul 18 v1)) (wmul 3 v2))), none], [], (hc, h, o))) K233_6 rfl ⟨q3, q4, trivial⟩ ?_
      refine zF_blk (m := [true, false, false, true, true, true, false]) (d := 0) (b := []) (gs := []) (c' := (76, [some (22, 0), none, none, some (0, v3), some (0, v4), some (0, (wadd (wadd 457 (wmul 18 v1)) (wmul 3 v2))), none], [], (hc, h, o))) rfl rfl trivial ?_
      exact T233_1 hd v3 v4 (wadd (wadd 457 (wmul 18 v1)) (wmul 3 v2)) h _ e
    · refine zF_blk (m := []) (d := 0) (b := B233_6) (gs := [0 ≤ (wadd (wadd (wadd 457 (wmul 18 v1)) (wmul 3 v2)) 2) ∧ (wadd (wadd (wadd 457 (wmul 18 v1)) (wmul 3 v2)) 2) < 2140, ¬ (¬ (h 14 (wadd (wadd (wadd 457 (wmul 18 v1)) (wmul 3 v2)) 2)) = 0)]) (c' := (36, [some (22, 0), some (0, v1), some (0, v2), some (0, v3), some (0, v4), some (0, (wadd (wadd 457 (wmul 18 v1)) (wmul 3 v2))), none], [], (hc, h, o))) K233_6 rfl ⟨q3, q4, trivial⟩ ?_
      obtain ⟨q5, e⟩ := zG_s e
      rcases zI_s e with ⟨q6, e⟩ | ⟨q6, e⟩
      · refine zF_blk (m := []) (d := 1) (b := B233_5) (gs := [0 ≤ (wadd (wadd 457 (wmul 18 v1)) (wmul 3 v2)) ∧ (wadd (wadd 457 (wmul 18 v1)) (wmul 3 v2)) < 2140, v3 < (h 14 (wadd (wadd 457 (wmul 18 v1)) (wmul 3 v2)))]) (c' := (72, [some (22, 0), some (0, v1), some (0, v2), some (0, v3), some (0, v4), some (0, (wadd (wadd 457 (wmul 18 v1)) (wmul 3 v2))), none], [], (hc, h, o))) K233_5 rfl ⟨q5, q6, trivial⟩ ?_
        refine zF_blk (m := [true, false, false, true, true, true, false]) (d := 0) (b := []) (gs := []) (c' := (72, [some (22, 0), none, none, some (0, v3), some (0, v4), some (0, (wadd (wadd 457 (wmul 18 v1)) (wmul 3 v2))), none], [], (hc, h, o))) rfl rfl trivial ?_
        exact T233_0 hd v3 v4 (wadd (wadd 457 (wmul 18 v1)) (wmul 3 v2)) h _ e
      · refine zF_blk (m := []) (d := 0) (b := B233_5) (gs := [0 ≤ (wadd (wadd 457 (wmul 18 v1)) (wmul 3 v2)) ∧ (wadd (wadd 457 (wmul 18 v1)) (wmul 3 v2)) < 2140, ¬ (v3 < (h 14 (wadd (wadd 457 (wmul 18 v1)) (wmul 3 v2))))]) (c' := (47, [some (22, 0), some (0, v1), some (0, v2), some (0, v3), some (0, v4), some (0, (wadd (wadd 457 (wmul 18 v1)) (wmul 3 v2))), none], [], (hc, h, o))) K233_5 rfl ⟨q5, q6, trivial⟩ ?_
        obtain ⟨q7, e⟩ := zG_s e
        rcases zI_s e with ⟨q8, e⟩ | ⟨q8, e⟩
        · refine zF_blk (m := []) (d := 1) (b := B233_4) (gs := [0 ≤ (wadd (wadd 457 (wmul 18 v1)) (wmul 3 v2)) ∧ (wadd (wadd 457 (wmul 18 v1)) (wmul 3 v2)) < 2140, ¬ v3 = (h 14 (wadd (wadd 457 (wmul 18 v1)) (wmul 3 v2)))]) (c' := (76, [some (22, 0), some (0, v1), some (0, v2), some (0, v3), some (0, v4), some (0, (wadd (wadd 457 (wmul 18 v1)) (wmul 3 v2))), none], [], (hc, h, o))) K233_4 rfl ⟨q7, q8, trivial⟩ ?_
          refine zF_blk (m := [true, false, false, true, true, true, false]) (d := 0) (b := []) (gs := []) (c' := (76, [some (22, 0), none, none, some (0, v3), some (0, v4), some (0, (wadd (wadd 457 (wmul 18 v1)) (wmul 3 v2))), none], [], (hc, h, o))) rfl rfl trivial ?_
          exact T233_1 hd v3 v4 (wadd (wadd 457 (wmul 18 v1)) (wmul 3 v2)) h _ e
        · refine zF_blk (m := []) (d := 0) (b := B233_4) (gs := [0 ≤ (wadd (wadd 457 (wmul 18 v1)) (wmul 3 v2)) ∧ (wadd (wadd 457 (wmul 18 v1)) (wmul 3 v2)) < 2140, ¬ (¬ v3 = (h 14 (wadd (wadd 457 (wmul 18 v1)) (wmul 3 v2))))]) (c' := (58, [some (22, 0), some (0, v1), some (0, v2), some (0, v3), some (0, v4), some (0, (wadd (wadd 457 (wmul 18 v1)) (wmul 3 v2))), none], [], (hc, h, o))) K233_4 rfl ⟨q7, q8, trivial⟩ ?_
          obtain ⟨q9, e⟩ := zG_s e
          rcases zI_s e with ⟨q10, e⟩ | ⟨q10, e⟩
          · refine zF_blk (m := []) (d := 1) (b := B233_3) (gs := [0 ≤ (wadd (wadd (wadd 457 (wmul 18 v1)) (wmul 3 v2)) 1) ∧ (wadd (wadd (wadd 457 (wmul 18 v1)) (wmul 3 v2)) 1) < 2140, v4 ≤ (h 14 (wadd (wadd (wadd 457 (wmul 18 v1)) (wmul 3 v2)) 1))]) (c' := (76, [some (22, 0), some (0, v1), some (0, v2), some (0, v3), some (0, v4), some (0, (wadd (wadd 457 (wmul 18 v1)) (wmul 3 v2))), none], [], (hc, h, o))) K233_3 rfl ⟨q9, q10, trivial⟩ ?_
            refine zF_blk (m := [true, false, false, true, true, true, false]) (d := 0) (b := []) (gs := []) (c' := (76, [some (22, 0), none, none, some (0, v3), some (0, v4), some (0, (wadd (wadd 457 (wmul 18 v1)) (wmul 3 v2))), none], [], (hc, h, o))) rfl rfl trivial ?_
            exact T233_1 hd v3 v4 (wadd (wadd 457 (wmul 18 v1)) (wmul 3 v2)) h _ e
          · refine zF_blk (m := []) (d := 0) (b := B233_3) (gs := [0 ≤ (wadd (wadd (wadd 457 (wmul 18 v1)) (wmul 3 v2)) 1) ∧ (wadd (wadd (wadd 457 (wmul 18 v1)) (wmul 3 v2)) 1) < 2140, ¬ (v4 ≤ (h 14 (wadd (wadd (wadd 457 (wmul 18 v1)) (wmul 3 v2)) 1)))]) (c' := (72, [some (22, 0), some (0, v1), some (0, v2), some (0, v3), some (0, v4), some (0, (wadd (wadd 457 (wmul 18 v1)) (wmul 3 v2))), none], [], (hc, h, o))) K233_3 rfl ⟨q9, q10, trivial⟩ ?_
            refine zF_blk (m := [true, false, false, true, true, true, false]) (d := 0) (b := []) (gs := []) (c' := (72, [some (22, 0), none, none, some (0, v3), some (0, v4), some (0, (wadd (wadd 457 (wmul 18 v1)) (wmul 3 v2))), none], [], (hc, h, o))) rfl rfl trivial ?_
            exact T233_0 hd v3 v4 (wadd (wadd 457 (wmul 18 v1)) (wmul 3 v2)) h _ e
