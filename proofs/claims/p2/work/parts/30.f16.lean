/-! Functions of the methods, by wip/gen/lift.py. -/
def B206_0 : List zRow := [(0, .aload_n 0, 1, (0, 0, 0)), (1, .iconst 1, 1, (0, 0, 0)), (2, .putfield 81, 3, (12, 0, 0)), (5, .iconst 0, 1, (0, 0, 0))]
theorem K206_0 : zRk 206 B206_0 = true := by decide +kernel
/-- EchoValeModel.refuse()I -/
def F206 (h : zHM) : Option (Int × zHM) := some (0, (mset h 0 0 1))
set_option maxRecDepth 100000 in
theorem S206 {spec : zRn zH2} {hc : zHC} {o : Int → Int} {d : Nat} (hd : 1 ≤ d) (h : zHM) (v : (Int × zHM)) (e : F206 h = some v) : zRu2 spec d 206 [(22, 0)] (hc, h, o) (some (0, v.1)) (hc, v.2, o) := by
  refine zF_in (D := 0) (mx := 1) (L := [some (22, 0)]) (by decide +kernel) rfl rfl hd (fun d hd => ?_)
  unfold F206 at e
  refine zF_blk (m := []) (d := 0) (b := B206_0) (gs := []) (c' := (6, [some (22, 0)], [(0, 0)], (hc, (mset h 0 0 1), o))) K206_0 rfl trivial ?_
  exact zF_riM (by decide +kernel) e
def B204_0 : List zRow := [(0, .aload_n 0, 1, (0, 0, 0)), (1, .iload_n 1, 1, (0, 0, 0))]
theorem K204_0 : zRk 204 B204_0 = true := by decide +kernel
def B204_1 : List zRow := [(8, .iload_n 2, 1, (0, 0, 0)), (9, .iconst 0, 1, (0, 0, 0)), (10, .iconst 3, 1, (0, 0, 0))]
theorem K204_1 : zRk 204 B204_1 = true := by decide +kernel
def B204_2 : List zRow := [(22, .aload_n 0, 1, (0, 0, 0)), (23, .iconst 0, 1, (0, 0, 0)), (24, .putfield 81, 3, (12, 0, 0)), (27, .aload_n 0, 1, (0, 0, 0)), (28, .iload_n 1, 1, (0, 0, 0))]
theorem K204_2 : zRk 204 B204_2 = true := by decide +kernel
def B204_3 : List zRow := [(32, .aload_n 0, 1, (0, 0, 0)), (33, .aload_n 0, 1, (0, 0, 0)), (34, .getfield 13, 3, (12, 14, 5251442)), (37, .sipush 209, 3, (0, 0, 0)), (40, .iaload, 1, (0, 0, 0))]
theorem K204_3 : zRk 204 B204_3 = true := by decide +kernel
def B204_4 : List zRow := [(75, .iload_n 3, 1, (0, 0, 0))]
theorem K204_4 : zRk 204 B204_4 = true := by decide +kernel
def B204_5 : List zRow := [(71, .iconst 0, 1, (0, 0, 0)), (72, .goto 4, 3, (0, 0, 0))]
theorem K204_5 : zRk 204 B204_5 = true := by decide +kernel
def B204_6 : List zRow := [(67, .iload_n 3, 1, (0, 0, 0)), (68, .ifCond .ge 7, 3, (0, 0, 0))]
theorem K204_6 : zRk 204 B204_6 = true := by decide +kernel
def B204_7 : List zRow := [(51, .aload_n 0, 1, (0, 0, 0)), (52, .getfield 13, 3, (12, 14, 5251442)), (55, .bipush 7, 2, (0, 0, 0)), (57, .iconst 3, 1, (0, 0, 0)), (58, .iload_n 1, 1, (0, 0, 0))]
theorem K204_7 : zRk 204 B204_7 = true := by decide +kernel
def B204_8 : List zRow := [(59, .imul, 1, (0, 0, 0))]
theorem K204_8 : zRk 204 B204_8 = true := by decide +kernel
def B204_9 : List zRow := [(60, .iadd, 1, (0, 0, 0)), (61, .iload_n 2, 1, (0, 0, 0)), (62, .iadd, 1, (0, 0, 0)), (63, .iaload, 1, (0, 0, 0)), (64, .goto 12, 3, (0, 0, 0))]
theorem K204_9 : zRk 204 B204_9 = true := by decide +kernel
def B204_10 : List zRow := [(44, .isub, 1, (0, 0, 0)), (45, .istore_n 3, 1, (0, 0, 0)), (46, .iload_n 2, 1, (0, 0, 0)), (47, .iconst 3, 1, (0, 0, 0)), (48, .if_icmp .ge 19, 3, (0, 0, 0))]
theorem K204_10 : zRk 204 B204_10 = true := by decide +kernel
def B204_11 : List zRow := [(14, .ifCond .ne 8, 3, (0, 0, 0))]
theorem K204_11 : zRk 204 B204_11 = true := by decide +kernel
def B204_12 : List zRow := [(5, .ifCond .eq 12, 3, (0, 0, 0))]
theorem K204_12 : zRk 204 B204_12 = true := by decide +kernel
def B204_13 : List zRow := [(17, .aload_n 0, 1, (0, 0, 0))]
theorem K204_13 : zRk 204 B204_13 = true := by decide +kernel
def F204_0 (h : zHM) : Option (Int × zHM) := (F206 h).bind fun r1 => some (r1.1, r1.2)
set_option maxRecDepth 100000 in
theorem T204_0 {spec : zRn zH2} {hc : zHC} {o : Int → Int} {d : Nat} (hd : 1 ≤ d) (h : zHM) (v : (Int × zHM)) (e : F204_0 h = some v) : zFin 0 (fun _ => 0) (zRu2 spec d) 204 (some (0, v.1)) (hc, v.2, o) (17, [some (22, 0), none, none, none], [], (hc, h, o)) := by
  unfold F204_0 at e
  obtain ⟨r1, q1, e⟩ := zB_s e
  refine zF_blk (m := []) (d := 0) (b := B204_13) (gs := []) (c' := (18, [some (22, 0), none, none, none], [(22, 0)], (hc, h, o))) K204_13 rfl trivial ?_
  refine zF_call (k := 206) (cl := 12) (n := 1) (i := .invokevirtual 238) (args := [(22, 0)]) (rest := []) (g1 := (hc, r1.2, o)) (r1 := some (0, r1.1)) (by decide +kernel) rfl rfl rfl (st' := [(0, r1.1)]) rfl (S206 (Nat.le_trans (by decide) hd)  h _ q1) ?_
  exact zF_riM (by decide +kernel) e
/-- EchoValeModel.cliff(II)I -/
def F204 (v1 : Int) (v2 : Int) (h : zHM) : Option (Int × zHM) := (F205 v1 h).bind fun r1 => if r1 = 0 then F204_0 h else (F188 v2 0 3).bind fun r2 => if ¬ r2 = 0 then (F207 v1 (mset h 0 0 0)).bind fun r3 => (F208 (h 14 209) (mset h 0 0 0)).bind fun r4 => if 3 ≤ v2 then if 0 ≤ (wsub r3 r4) then some ((wsub r3 r4), (mset h 0 0 0)) else some (0, (mset h 0 0 0)) else zG (0 ≤ (wadd (wadd 7 (wmul 3 v1)) v2) ∧ (wadd (wadd 7 (wmul 3 v1)) v2) < 2140) (some ((h 14 (wadd (wadd 7 (wmul 3 v1)) v2)), (mset h 0 0 0))) else F204_0 h
set_option maxRecDepth 100000 in
theorem S204 {spec : zRn zH2} {hc : zHC} {o : Int → Int} {d : Nat} (hd : 2 ≤ d) (v1 : Int) (v2 : Int) (h : zHM) (v : (Int × zHM)) (e : F204 v1 v2 h = some v) : zRu2 spec d 204 [(22, 0), (0, v1), (0, v2)] (hc, h, o) (some (0, v.1)) (hc, v.2, o) := by
  refine zF_in (D := 1) (mx := 4) (L := [some (22, 0), some (0, v1), some (0, v2), none]) (by decide +kernel) rfl rfl hd (fun d hd => ?_)
  unfold F204 at e
  obtain ⟨r1, q1, e⟩ := zB_s e
  refine zF_blk (m := []) (d := 0) (b := B204_0) (gs := []) (c' := (2, [some (22, 0), some (0, v1), some (0, v2), none], [(0, v1), (22, 0)], (hc, h, o))) K204_0 rfl trivial ?_
  refine zF_call (k := 205) (cl := 12) (n := 2) (i := .invokevirtual 235) (args := [(22, 0), (0, v1)]) (rest := []) (g1 := (hc, h, o)) (r1 := some (0, r1)) (by decide +kernel) rfl rfl rfl (st' := [(0, r1)]) rfl (S205 (Nat.le_trans (by decide) hd) v1 h _ q1) ?_
  rcases zI_s e with ⟨q2, e⟩ | ⟨q2, e⟩
  · refine zF_blk (m := []) (d := 1) (b := B204_12) (gs := [r1 = 0]) (c' := (17, [some (22, 0), some (0, v1), some (0, v2), none], [], (hc, h, o))) K204_12 rfl ⟨q2, trivial⟩ ?_
    refine zF_blk (m := [true, false, false, false]) (d := 0) (b := []) (gs := []) (c' := (17, [some (22, 0), none, none, none], [], (hc, h, o))) rfl rfl trivial ?_
    exact T204_0 hd h _ e
  · refine zF_blk (m := []) (d := 0) (b := B204_12) (gs := [¬ (r1 = 0)]) (c' := (8, [some (22, 0), some (0, v1), some (0, v2), none], [], (hc, h, o))) K204_12 rfl ⟨q2, trivial⟩ ?_
    obtain ⟨r2, q3, e⟩ := zB_s e
    refine zF_blk (m := []) (d := 0) (b := B204_1) (gs := []) (c' := (11, [some (22, 0), some (0, v1), some (0, v2), none], [(0, 3), (0, 0), (0, v2)], (hc, h, o))) K204_1 rfl trivial ?_
    refine zF_call (k := 188) (cl := 12) (n := 3) (i := .invokestatic 151) (args := [(0, v2), (0, 0), (0, 3)]) (rest := []) (g1 := (hc, h, o)) (r1 := some (0, r2)) (by decide +kernel) rfl rfl rfl (st' := [(0, r2)]) rfl (S188 (Nat.le_trans (by decide) hd) v2 0 3 h _ q3) ?_
    rcases zI_s e with ⟨q4, e⟩ | ⟨q4, e⟩
    · refine zF_blk (m := []) (d := 1) (b := B204_11) (gs := [¬ r2 = 0]) (c' := (22, [some (22, 0), some (0, v1), some (0, v2), none], [], (hc, h, o))) K204_11 rfl ⟨q4, trivial⟩ ?_
      obtain ⟨r3, q5, e⟩ := zB_s e
      refine zF_blk (m := []) (d := 0) (b := B204_2) (gs := []) (c' := (29, [some (22, 0), some (0, v1), some (0, v2), none], [(0, v1), (22, 0)], (hc, (mset h 0 0 0), o))) K204_2 rfl trivial ?_
      refine zF_call (k := 207) (cl := 12) (n := 2) (i := .invokevirtual 241) (args := [(22, 0), (0, v1)]) (rest := []) (g1 := (hc, (mset h 0 0 0), o)) (r1 := some (0, r3)) (by decide +kernel) rfl rfl rfl (st' := [(0, r3)]) rfl (S207 (Nat.le_trans (by decide) hd) v1 (mset h 0 0 0) _ q5) ?_
      obtain ⟨r4, q6, e⟩ := zB_s e
      refine zF_blk (m := []) (d := 0) (b := B204_3) (gs := [0 ≤ 209 ∧ 209 < 2140]) (c' := (41, [some (22, 0), some (0, v1), some (0, v2), none], [(0, (h 14 209)), (22, 0), (0, r3)], (hc, (mset h 0 0 0), o))) K204_3 rfl ⟨by decide, trivial⟩ ?_
      refine zF_call (k := 208) (cl := 12) (n := 2) (i := .invokevirtual 244) (args := [(22, 0), (0, (h 14 209))]) (rest := [(0, r3)]) (g1 := (hc, (mset h 0 0 0), o)) (r1 := some (0, r4)) (by decide +kernel) rfl rfl rfl (st' := [(0, r4), (0, r3)]) rfl (S208 (Nat.le_trans (by decide) hd) (h 14 209) (mset h 0 0 0) _ q6) ?_
      rcases zI_s e with ⟨q7, e⟩ | ⟨q7, e⟩
      · refine zF_blk (m := []) (d := 1) (b := B204_10) (gs := [3 ≤ v2]) (c' := (67, [some (22, 0), some (0, v1), some (0, v2), some (0, (wsub r3 r4))], [], (hc, (mset h 0 0 0), o))) K204_10 rfl ⟨q7, trivial⟩ ?_
        rcases zI_s e with ⟨q8, e⟩ | ⟨q8, e⟩
        · refine zF_blk (m := []) (d := 1) (b := B204_6) (gs := [0 ≤ (wsub r3 r4)]) (c' := (75, [some (22, 0), some (0, v1), some (0, v2), some (0, (wsub r3 r4))], [], (hc, (mset h 0 0 0), o))) K204_6 rfl ⟨q8, trivial⟩ ?_
          refine zF_blk (m := []) (d := 0) (b := B204_4) (gs := []) (c' := (76, [some (22, 0), some (0, v1), some (0, v2), some (0, (wsub r3 r4))], [(0, (wsub r3 r4))], (hc, (mset h 0 0 0), o))) K204_4 rfl trivial ?_
          exact zF_riM (by decide +kernel) e
        · refine zF_blk (m := []) (d := 0) (b := B204_6) (gs := [¬ (0 ≤ (wsub r3 r4))]) (c' := (71, [some (22, 0), some (0, v1), some (0, v2), some (0, (wsub r3 r4))], [], (hc, (mset h 0 0 0), o))) K204_6 rfl ⟨q8, trivial⟩ ?_
          refine zF_blk (m := []) (d := 0) (b := B204_5) (gs := []) (c' := (76, [some (22, 0), some (0, v1), some (0, v2), some (0, (wsub r3 r4))], [(0, 0)], (hc, (mset h 0 0 0), o))) K204_5 rfl trivial ?_
          exact zF_riM (by decide +kernel) e
      · refine zF_blk (m := []) (d := 0) (b := B204_10) (gs := [¬ (3 ≤ v2)]) (c' := (51, [some (22, 0), some (0, v1), some (0, v2), some (0, (wsub r3 r4))], [], (hc, (mset h 0 0 0), o))) K204_10 rfl ⟨q7, trivial⟩ ?_
        obtain ⟨q9, e⟩ := zG_s e
        refine zF_blk (m := []) (d := 0) (b := B204_7) (gs := []) (c' := (59, [some (22, 0), some (0, v1), some (0, v2), some (0, (wsub r3 r4))], [(0, v1), (0, 3), (0, 7), (1344370422, 0)], (hc, (mset h 0 0 0), o))) K204_7 rfl trivial ?_
        refine zF_blk (m := []) (d := 0) (b := B204_8) (gs := []) (c' := (60, [some (22, 0), some (0, v1), some (0, v2), some (0, (wsub r3 r4))], [(0, (wmul 3 v1)), (0, 7), (1344370422, 0)], (hc, (mset h 0 0 0), o))) K204_8 rfl trivial ?_
        refine zF_blk (m := []) (d := 0) (b := B204_9) (gs := [0 ≤ (wadd (wadd 7 (wmul 3 v1)) v2) ∧ (wadd (wadd 7 (wmul 3 v1)) v2) < 2140]) (c' := (76, [some (22, 0), some (0, v1), some (0, v2), some (0, (wsub r3 r4))], [(0, (h 14 (wadd (wadd 7 (wmul 3 v1)) v2)))], (hc, (mset h 0 0 0), o))) K204_9 rfl ⟨q9, trivial⟩ ?_
        exact zF_riM (by decide +kernel) e
    · refine zF_blk (m := []) (d := 0) (b := B204_11) (gs := [¬ (¬ r2 = 0)]) (c' := (17, [some (22, 0), some (0, v1), some (0, v2), none], [], (hc, h, o))) K204_11 rfl ⟨q4, trivial⟩ ?_
      refine zF_blk (m := [true, false, false, false]) (d := 0) (b := []) (gs := []) (c' := (17, [some (22, 0), none, none, none], [], (hc, h, o))) rfl rfl trivial ?_
      exact T204_0 hd h _ e
def B210_0 : List zRow := [(18, .iconst 0, 1, (0, 0, 0))]
theorem K210_0 : zRk 210 B210_0 = true := by decide +kernel
def B210_1 : List zRow := [(14, .iconst 1, 1, (0, 0, 0)), (15, .goto 4, 3, (0, 0, 0))]
theorem K210_1 : zRk 210 B210_1 = true := by decide +kernel
def B210_2 : List zRow := [(4, .iload_n 1, 1, (0, 0, 0)), (5, .aload_n 0, 1, (0, 0, 0)), (6, .getfield 13, 3, (12, 14, 5251442)), (9, .iconst 3, 1, (0, 0, 0)), (10, .iaload, 1, (0, 0, 0)), (11, .if_icmp .ge 7, 3, (0, 0, 0))]
theorem K210_2 : zRk 210 B210_2 = true := by decide +kernel
def B210_3 : List zRow := [(0, .iload_n 1, 1, (0, 0, 0)), (1, .ifCond .lt 17, 3, (0, 0, 0))]
theorem K210_3 : zRk 210 B210_3 = true := by decide +kernel
/-- EchoValeModel.isPerson(I)Z -/
def F210 (v1 : Int) (h : zHM) : Option Int := if v1 < 0 then some 0 else if (h 14 3) ≤ v1 then some 0 else some 1
set_option maxRecDepth 100000 in
theorem S210 {spec : zRn zH2} {hc : zHC} {o : Int → Int} {d : Nat} (hd : 1 ≤ d) (v1 : Int) (h : zHM) (v : Int) (e : F210 v1 h = some v) : zRu2 spec d 210 [(22, 0), (0, v1)] (hc, h, o) (some (0, v)) (hc, h, o) := by
  refine zF_in (D := 0) (mx := 2) (L := [some (22, 0), some (0, v1)]) (by decide +kernel) rfl rfl hd (fun d hd => ?_)
  unfold F210 at e
  rcases zI_s e with ⟨q1, e⟩ | ⟨q1, e⟩
  · refine zF_blk (m := []) (d := 1) (b := B210_3) (gs := [v1 < 0]) (c' := (18, [some (22, 0), some (0, v1)], [], (hc, h, o))) K210_3 rfl ⟨q1, trivial⟩ ?_
    refine zF_blk (m := []) (d := 0) (b := B210_0) (gs := []) (c' := (19, [some (22, 0), some (0, v1)], [(0, 0)], (hc, h, o))) K210_0 rfl trivial ?_
    obtain rfl := Option.some.inj e
    exact zF_rb (by decide +kernel) (Or.inl rfl)
  · refine zF_blk (m := []) (d := 0) (b := B210_3) (gs := [¬ (v1 < 0)]) (c' := (4, [some (22, 0), some (0, v1)], [], (hc, h, o))) K210_3 rfl ⟨q1, trivial⟩ ?_
    rcases zI_s e with ⟨q2, e⟩ | ⟨q2, e⟩
    · refine zF_blk (m := []) (d := 1) (b := B210_2) (gs := [0 ≤ 3 ∧ 3 < 2140, (h 14 3) ≤ v1]) (c' := (18, [some (22, 0), some (0, v1)], [], (hc, h, o))) K210_2 rfl ⟨by decide, q2, trivial⟩ ?_
      refine zF_blk (m := []) (d := 0) (b := B210_0) (gs := []) (c' := (19, [some (22, 0), some (0, v1)], [(0, 0)], (hc, h, o))) K210_0 rfl trivial ?_
      obtain rfl := Option.some.inj e
      exact zF_rb (by decide +kernel) (Or.inl rfl)
    · refine zF_blk (m := []) (d := 0) (b := B210_2) (gs := [0 ≤ 3 ∧ 3 < 2140, ¬ ((h 14 3) ≤ v1)]) (c' := (14, [some (22, 0), some (0, v1)], [], (hc, h, o))) K210_2 rfl ⟨by decide, q2, trivial⟩ ?_
      refine zF_blk (m := []) (d := 0) (b := B210_1) (gs := []) (c' := (19, [some (22, 0), some (0, v1)], [(0, 1)], (hc, h, o))) K210_1 rfl trivial ?_
      obtain rfl := Option.some.inj e
      exact zF_rb (by decide +kernel) (Or.inr rfl)
def B213_0 : List zRow := [(0, .aload_n 0, 1, (0, 0, 0)), (1, .getfield 13, 3, (12, 14, 5251442)), (4, .sipush 217, 3, (0, 0, 0)), (7, .bipush 8, 2, (0, 0, 0)), (9, .iload_n 1, 1, (0, 0, 0))]
theorem K213_0 : zRk 213 B213_0 = true := by decide +kernel
def B213_1 : List zRow := [(10, .imul, 1, (0, 0, 0))]
theorem K213_1 : zRk 213 B213_1 = true := by decide +kernel
def B213_2 : List zRow := [(11, .iadd, 1, (0, 0, 0)), (12, .iload_n 2, 1, (0, 0, 0)), (13, .iadd, 1, (0, 0, 0)), (14, .iaload, 1, (0, 0, 0))]
theorem K213_2 : zRk 213 B213_2 = true := by decide +kernel
/-- EchoValeModel.of(II)I -/
def F213 (v1 : Int) (v2 : Int) (h : zHM) : Option Int := zG (0 ≤ (wadd (wadd 217 (wmul 8 v1)) v2) ∧ (wadd (wadd 217 (wmul 8 v1)) v2) < 2140) (some (h 14 (wadd (wadd 217 (wmul 8 v1)) v2)))
set_option maxRecDepth 100000 in
theorem S213 {spec : zRn zH2} {hc : zHC} {o : Int → Int} {d : Nat} (hd : 1 ≤ d) (v1 : Int) (v2 : Int) (h : zHM) (v : Int) (e : F213 v1 v2 h = some v) : zRu2 spec d 213 [(22, 0), (0, v1), (0, v2)] (hc, h, o) (some (0, v)) (hc, h, o) := by
  refine zF_in (D := 0) (mx := 3) (L := [some (22, 0), some (0, v1), some (0, v2)]) (by decide +kernel) rfl rfl hd (fun d hd => ?_)
  unfold F213 at e
  obtain ⟨q1, e⟩ := zG_s e
  refine zF_blk (m := []) (d := 0) (b := B213_0) (gs := []) (c' := (10, [some (22, 0), some (0, v1), some (0, v2)], [(0, v1), (0, 8), (0, 217), (1344370422, 0)], (hc, h, o))) K213_0 rfl trivial ?_
  refine zF_blk (m := []) (d := 0) (b := B213_1) (gs := []) (c' := (11, [some (22, 0), some (0, v1), some (0, v2)], [(0, (wmul 8 v1)), (0, 217), (1344370422, 0)], (hc, h, o))) K213_1 rfl trivial ?_
  refine zF_blk (m := []) (d := 0) (b := B213_2) (gs := [0 ≤ (wadd (wadd 217 (wmul 8 v1)) v2) ∧ (wadd (wadd 217 (wmul 8 v1)) v2) < 2140]) (c' := (15, [some (22, 0), some (0, v1), some (0, v2)], [(0, (h 14 (wadd (wadd 217 (wmul 8 v1)) v2)))], (hc, h, o))) K213_2 rfl ⟨q1, trivial⟩ ?_
  obtain rfl := Option.some.inj e
  exact zF_ri (by decide +kernel)
def B214_0 : List zRow := [(13, .iconst 0, 1, (0, 0, 0))]
theorem K214_0 : zRk 214 B214_0 = true := by decide +kernel
def B214_1 : List zRow := [(9, .iconst 1, 1, (0, 0, 0)), (10, .goto 4, 3, (0, 0, 0))]
theorem K214_1 : zRk 214 B214_1 = true := by decide +kernel
def B214_2 : List zRow := [(0, .iload_n 0, 1, (0, 0, 0)), (1, .iload_n 1, 1, (0, 0, 0)), (2, .ishr, 1, (0, 0, 0)), (3, .iconst 1, 1, (0, 0, 0)), (4, .iand, 1, (0, 0, 0)), (5, .iconst 1, 1, (0, 0, 0)), (6, .if_icmp .ne 7, 3, (0, 0, 0))]
theorem K214_2 : zRk 214 B214_2 = true := by decide +kernel
/-- EchoValeModel.has(II)Z -/
def F214 (v0 : Int) (v1 : Int) : Option Int := if ¬ (wand (wshr v0 v1) 1) = 1 then some 0 else some 1
set_option maxRecDepth 100000 in
theorem S214 {spec : zRn zH2} {hc : zHC} {o : Int → Int} {d : Nat} (hd : 1 ≤ d) (v0 : Int) (v1 : Int) (h : zHM) (v : Int) (e : F214 v0 v1 = some v) : zRu2 spec d 214 [(0, v0), (0, v1)] (hc, h, o) (some (0, v)) (hc, h, o) := by
  refine zF_in (D := 0) (mx := 2) (L := [some (0, v0), some (0, v1)]) (by decide +kernel) rfl rfl hd (fun d hd => ?_)
  unfold F214 at e
  rcases zI_s e with ⟨q1, e⟩ | ⟨q1, e⟩
  · refine zF_blk (m := []) (d := 1) (b := B214_2) (gs := [¬ (wand (wshr v0 v1) 1) = 1]) (c' := (13, [some (0, v0), some (0, v1)], [], (hc, h, o))) K214_2 rfl ⟨q1, trivial⟩ ?_
    refine zF_blk (m := []) (d := 0) (b := B214_0) (gs := []) (c' := (14, [some (0, v0), some (0, v1)], [(0, 0)], (hc, h, o))) K214_0 rfl trivial ?_
    obtain rfl := Option.some.inj e
    exact zF_rb (by decide +kernel) (Or.inl rfl)
  · refine zF_blk (m := []) (d := 0) (b := B214_2) (gs := [¬ (¬ (wand (wshr v0 v1) 1) = 1)]) (c' := (9, [some (0, v0), some (0, v1)], [], (hc, h, o))) K214_2 rfl ⟨q1, trivial⟩ ?_
    refine zF_blk (m := []) (d := 0) (b := B214_1) (gs := []) (c' := (14, [some (0, v0), some (0, v1)], [(0, 1)], (hc, h, o))) K214_1 rfl trivial ?_
    obtain rfl := Option.some.inj e
    exact zF_rb (by decide +kernel) (Or.inr rfl)
def B215_0 : List zRow := [(0, .iconst 0, 1, (0, 0, 0)), (1, .istore_n 1, 1, (0, 0, 0)), (2, .iload_n 0, 1, (0, 0, 0)), (3, .istore_n 2, 1, (0, 0, 0))]
theorem K215_0 : zRk 215 B215_0 = true := by decide +kernel
def B215_1 : List zRow := [(20, .iload_n 1, 1, (0, 0, 0))]
theorem K215_1 : zRk 215 B215_1 = true := by decide +kernel
def B215_2 : List zRow := [(8, .iinc 1 1, 3, (0, 0, 0)), (11, .iload_n 2, 1, (0, 0, 0)), (12, .iload_n 2, 1, (0, 0, 0)), (13, .iconst 1, 1, (0, 0, 0)), (14, .isub, 1, (0, 0, 0)), (15, .iand, 1, (0, 0, 0)), (16, .istore_n 2, 1, (0, 0, 0)), (17, .goto (-13), 3, (0, 0, 0))]
theorem K215_2 : zRk 215 B215_2 = true := by decide +kernel
def B215_3 : List zRow := [(4, .iload_n 2, 1, (0, 0, 0)), (5, .ifCond .eq 15, 3, (0, 0, 0))]
theorem K215_3 : zRk 215 B215_3 = true := by decide +kernel
def F215_0 : Nat → Int → Int → Option Int
  | 0, _, _ => none
  | n + 1, v1, v2 => if v2 = 0 then some v1 else (F215_0 n) (wadd v1 1) (wand v2 (wsub v2 1))
set_option maxRecDepth 100000 in
theorem T215_0 {spec : zRn zH2} {hc : zHC} {o : Int → Int} {d : Nat} (hd : 0 ≤ d) (h : zHM) : ∀ (n : Nat) (v1 : Int) (v2 : Int) (v : Int), F215_0 n v1 v2 = some v → zFin 0 (fun _ => 0) (zRu2 spec d) 215 (some (0, v)) (hc, h, o) (4, [none, some (0, v1), some (0, v2)], [], (hc, h, o)) := by
  intro n
  induction n with
  | zero => intro v1 v2 v e; unfold F215_0 at e; cases e
  | succ n hk0 =>
    intro v1 v2 v e
    unfold F215_0 at e
    rcases zI_s e with ⟨q1, e⟩ | ⟨q1, e⟩
    · refine zF_blk (m := []) (d := 1) (b := B215_3) (gs := [v2 = 0]) (c' := (20, [none, some (0, v1), some (0, v2)], [], (hc, h, o))) K215_3 rfl ⟨q1, trivial⟩ ?_
      refine zF_blk (m := []) (d := 0) (b := B215_1) (gs := []) (c' := (21, [none, some (0, v1), some (0, v2)], [(0, v1)], (hc, h, o))) K215_1 rfl trivial ?_
      obtain rfl := Option.some.inj e
      exact zF_ri (by decide +kernel)
    · refine zF_blk (m := []) (d := 0) (b := B215_3) (gs := [¬ (v2 = 0)]) (c' := (8, [none, some (0, v1), some (0, v2)], [], (hc, h, o))) K215_3 rfl ⟨q1, trivial⟩ ?_
      refine zF_blk (m := []) (d := 0) (b := B215_2) (gs := []) (c' := (4, [none, some (0, (wadd v1 1)), some (0, (wand v2 (wsub v2 1)))], [], (hc, h, o))) K215_2 rfl trivial ?_
      exact hk0 (wadd v1 1) (wand v2 (wsub v2 1)) _ e
/-- EchoValeModel.bits(I)I -/
def F215 (v0 : Int) : Option Int := F215_0 zFu 0 v0
set_option maxRecDepth 100000 in
theorem S215 {spec : zRn zH2} {hc : zHC} {o : Int → Int} {d : Nat} (hd : 1 ≤ d) (v0 : Int) (h : zHM) (v : Int) (e : F215 v0 = some v) : zRu2 spec d 215 [(0, v0)] (hc, h, o) (some (0, v)) (hc, h, o) := by
  refine zF_in (D := 0) (mx := 3) (L := [some (0, v0), none, none]) (by decide +kernel) rfl rfl hd (fun d hd => ?_)
  unfold F215 at e
  refine zF_blk (m := []) (d := 0) (b := B215_0) (gs := []) (c' := (4, [some (0, v0), some (0, 0), some (0, v0)], [], (hc, h, o))) K215_0 rfl trivial ?_
  refine zF_blk (m := [false, true, true]) (d := 0) (b := []) (gs := []) (c' := (4, [none, some (0, 0), some (0, v0)], [], (hc, h, o))) rfl rfl trivial ?_
  exact T215_0 hd h zFu 0 v0 _ e
def B212_0 : List zRow := [(0, .aload_n 0, 1, (0, 0, 0)), (1, .iload_n 2, 1, (0, 0, 0)), (2, .iconst 5, 1, (0, 0, 0))]
theorem K212_0 : zRk 212 B212_0 = true := by decide +kernel
def B212_1 : List zRow := [(6, .istore_n 3, 1, (0, 0, 0)), (7, .iload_n 3, 1, (0, 0, 0)), (8, .iload_n 1, 1, (0, 0, 0))]
theorem K212_1 : zRk 212 B212_1 = true := by decide +kernel
def B212_2 : List zRow := [(17, .iload_n 3, 1, (0, 0, 0))]
theorem K212_2 : zRk 212 B212_2 = true := by decide +kernel
def B212_3 : List zRow := [(21, .istore 4, 2, (0, 0, 0)), (23, .iload_n 3, 1, (0, 0, 0)), (24, .iconst 1, 1, (0, 0, 0)), (25, .iload_n 1, 1, (0, 0, 0)), (26, .ishl, 1, (0, 0, 0)), (27, .iconst 1, 1, (0, 0, 0)), (28, .isub, 1, (0, 0, 0)), (29, .iand, 1, (0, 0, 0))]
theorem K212_3 : zRk 212 B212_3 = true := by decide +kernel
def B212_4 : List zRow := [(33, .istore 5, 2, (0, 0, 0)), (35, .aload_n 0, 1, (0, 0, 0)), (36, .iload_n 2, 1, (0, 0, 0)), (37, .iconst 0, 1, (0, 0, 0))]
theorem K212_4 : zRk 212 B212_4 = true := by decide +kernel
def B212_5 : List zRow := [(41, .iload 4, 2, (0, 0, 0)), (43, .idiv, 1, (0, 0, 0)), (44, .iload 5, 2, (0, 0, 0)), (46, .aload_n 0, 1, (0, 0, 0)), (47, .iload_n 2, 1, (0, 0, 0)), (48, .iconst 0, 1, (0, 0, 0))]
theorem K212_5 : zRk 212 B212_5 = true := by decide +kernel
def B212_6 : List zRow := [(62, .iconst 0, 1, (0, 0, 0))]
theorem K212_6 : zRk 212 B212_6 = true := by decide +kernel
def B212_7 : List zRow := [(58, .iconst 1, 1, (0, 0, 0)), (59, .goto 4, 3, (0, 0, 0))]
theorem K212_7 : zRk 212 B212_7 = true := by decide +kernel
def B212_8 : List zRow := [(52, .iload 4, 2, (0, 0, 0)), (54, .irem, 1, (0, 0, 0)), (55, .if_icmp .ge 7, 3, (0, 0, 0))]
theorem K212_8 : zRk 212 B212_8 = true := by decide +kernel
def B212_9 : List zRow := [(15, .iconst 0, 1, (0, 0, 0))]
theorem K212_9 : zRk 212 B212_9 = true := by decide +kernel
def B212_10 : List zRow := [(12, .ifCond .ne 5, 3, (0, 0, 0))]
theorem K212_10 : zRk 212 B212_10 = true := by decide +kernel
def B212_11 : List zRow := [(63, .iadd, 1, (0, 0, 0))]
theorem K212_11 : zRk 212 B212_11 = true := by decide +kernel
def F212_0 (h : zHM) (s0 : Int) (s1 : Int) : Option Int := some (wadd s1 s0)
set_option maxRecDepth 100000 in
theorem T212_0 {spec : zRn zH2} {hc : zHC} {o : Int → Int} {d : Nat} (hd : 1 ≤ d) (h : zHM) (s0 : Int) (s1 : Int) (v : Int) (e : F212_0 h s0 s1 = some v) : zFin 0 (fun _ => 0) (zRu2 spec d) 212 (some (0, v)) (hc, h, o) (63, [none, none, none, none, none, none], [(0, s0), (0, s1)], (hc, h, o)) := by
  unfold F212_0 at e
  refine zF_blk (m := []) (d := 0) (b := B212_11) (gs := []) (c' := (64, [none, none, none, none, none, none], [(0, (wadd s1 s0))], (hc, h, o))) K212_11 rfl trivial ?_
  obtain rfl := Option.some.inj e
  exact zF_ri (by decide +kernel)
/-- EchoValeModel.shareOf(II)I -/
def F212 (v1 : Int) (v2 : Int) (h : zHM) : Option Int := (F213 v2 5 h).bind fun r1 => (F214 r1 v1).bind fun r2 => if ¬ r2 = 0 then (F215 r1).bind fun r3 => (F215 (wand r1 (wsub (wshl 1 v1) 1))).bind fun r4 => (F213 v2 0 h).bind fun r5 => zG (¬ r3 = 0) ((F213 v2 0 h).bind fun r6 => zG (¬ r3 = 0) (if (wrem r6 r3) ≤ r4 then F212_0 h 0 (wdiv r5 r3) else F212_0 h 1 (wdiv r5 r3))) else some 0
set_option maxRecDepth 100000 in
theorem S212 {spec : zRn zH2} {hc : zHC} {o : Int → Int} {d : Nat} (hd : 2 ≤ d) (v1 : Int) (v2 : Int) (h : zHM) (v : Int) (e : F212 v1 v2 h = some v) : zRu2 spec d 212 [(22, 0), (0, v1), (0, v2)] (hc, h, o) (some (0, v)) (hc, h, o) := by
  refine zF_in (D := 1) (mx := 6) (L := [some (22, 0), some (0, v1), some (0, v2), none, none, none]) (by decide +kernel) rfl rfl hd (fun d hd => ?_)
  unfold F212 at e
  obtain ⟨r1, q1, e⟩ := zB_s e
  refine zF_blk (m := []) (d := 0) (b := B212_0) (gs := []) (c' := (3, [some (22, 0), some (0, v1), some (0, v2), none, none, none], [(0, 5), (0, v2), (22, 0)], (hc, h, o))) K212_0 rfl trivial ?_
  refine zF_call (k := 213) (cl := 12) (n := 3) (i := .invokevirtual 247) (args := [(22, 0), (0, v2), (0, 5)]) (rest := []) (g1 := (hc, h, o)) (r1 := some (0, r1)) (by decide +kernel) rfl rfl rfl (st' := [(0, r1)]) rfl (S213 (Nat.le_trans (by decide) hd) v2 5 h _ q1) ?_
  obtain ⟨r2, q2, e⟩ := zB_s e
  refine zF_blk (m := []) (d := 0) (b := B212_1) (gs := []) (c' := (9, [some (22, 0), some (0, v1), some (0, v2), some (0, r1), none, none], [(0, v1), (0, r1)], (hc, h, o))) K212_1 rfl trivial ?_
  refine zF_call (k := 214) (cl := 12) (n := 2) (i := .invokestatic 251) (args := [(0, r1), (0, v1)]) (rest := []) (g1 := (hc, h, o)) (r1 := some (0, r2)) (by decide +kernel) rfl rfl rfl (st' := [(0, r2)]) rfl (S214 (Nat.le_trans (by decide) hd) r1 v1 h _ q2) ?_
  rcases zI_s e with ⟨q3, e⟩ | ⟨q3, e⟩
  · refine zF_blk (m := []) (d := 1) (b := B212_10) (gs := [¬ r2 = 0]) (c' := (17, [some (22, 0), some (0, v1), some (0, v2), some (0, r1), none, none], [], (hc, h, o))) K212_10 rfl ⟨q3, trivial⟩ ?_
    obtain ⟨r3, q4, e⟩ := zB_s e
    refine zF_blk (m := []) (d := 0) (b := B212_2) (gs := []) (c' := (18, [some (22, 0), some (0, v1), some (0, v2), some (0, r1), none, none], [(0, r1)], (hc, h, o))) K212_2 rfl trivial ?_
    refine zF_call (k := 215) (cl := 12) (n := 1) (i := .invokestatic 254) (args := [(0, r1)]) (rest := []) (g1 := (hc, h, o)) (r1 := some (0, r3)) (by decide +kernel) rfl rfl rfl (st' := [(0, r3)]) rfl (S215 (Nat.le_trans (by decide) hd) r1 h _ q4) ?_
    obtain ⟨r4, q5, e⟩ := zB_s e
    refine zF_blk (m := []) (d := 0) (b := B212_3) (gs := []) (c' := (30, [some (22, 0), some (0, v1), some (0, v2), some (0, r1), some (0, r3), none], [(0, (wand r1 (wsub (wshl 1 v1) 1)))], (hc, h, o))) K212_3 rfl trivial ?_
    refine zF_call (k := 215) (cl := 12) (n := 1) (i := .invokestatic 254) (args := [(0, (wand r1 (wsub (wshl 1 v1) 1)))]) (rest := []) (g1 := (hc, h, o)) (r1 := some (0, r4)) (by decide +kernel) rfl rfl rfl (st' := [(0, r4)]) rfl (S215 (Nat.le_trans (by decide) hd) (wand r1 (wsub (wshl 1 v1) 1)) h _ q5) ?_
    obtain ⟨r5, q6, e⟩ := zB_s e
    refine zF_blk (m := []) (d := 0) (b := B212_4) (gs := []) (c' := (38, [some (22, 0), some (0, v1), some (0, v2), some (0, r1), some (0, r3), some (0, r4)], [(0, 0), (0, v2), (22, 0)], (hc, h, o))) K212_4 rfl trivial ?_
    refine zF_call (k := 213) (cl := 12) (n := 3) (i := .invokevirtual 247) (args := [(22, 0), (0, v2), (0, 0)]) (rest := []) (g1 := (hc, h, o)) (r1 := some (0, r5)) (by decide +kernel) rfl rfl rfl (st' := [(0, r5)]) rfl (S213 (Nat.le_trans (by decide) hd) v2 0 h _ q6) ?_
    obtain ⟨q7, e⟩ := zG_s e
    obtain ⟨r6, q8, e⟩ := zB_s e
    refine zF_blk (m := []) (d := 0) (b := B212_5) (gs := [¬ r3 = 0]) (c' := (49, [some (22, 0), some (0, v1), some (0, v2), some (0, r1), some (0, r3), some (0, r4)], [(0, 0), (0, v2), (22, 0), (0, r4), (0, (wdiv r5 r3))], (hc, h, o))) K212_5 rfl ⟨q7, trivial⟩ ?_
    refine zF_call (k := 213) (cl := 12) (n := 3) (i := .invokevirtual 247) (args := [(22, 0), (0, v2), (0, 0)]) (rest := [(0, r4), (0, (wdiv r5 r3))]) (g1 := (hc, h, o)) (r1 := some (0, r6)) (by decide +kernel) rfl rfl rfl (st' := [(0, r6), (0, r4), (0, (wdiv r5 r3))]) rfl (S213 (Nat.le_trans (by decide) hd) v2 0 h _ q8) ?_
    obtain ⟨q9, e⟩ := zG_s e
    rcases zI_s e with ⟨q10, e⟩ | ⟨q10, e⟩
    · refine zF_blk (m := []) (d := 1) (b := B212_8) (gs := [¬ r3 = 0, (wrem r6 r3) ≤ r4]) (c' := (62, [some (22, 0), some (0, v1), some (0, v2), some (0, r1), some (0, r3), some (0, r4)], [(0, (wdiv r5 r3))], (hc, h, o))) K212_8 rfl ⟨q9, q10, trivial⟩ ?_
      refine zF_blk (m := []) (d := 0) (b := B212_6) (gs := []) (c' := (63, [some (22, 0), some (0, v1), some (0, v2), some (0, r1), some (0, r3), some (0, r4)], [(0, 0), (0, (wdiv r5 r3))], (hc, h, o))) K212_6 rfl trivial ?_
      refine zF_blk (m := [false, false, false, false, false, false]) (d := 0) (b := []) (gs := []) (c' := (63, [none, none, none, none, none, none], [(0, 0), (0, (wdiv r5 r3))], (hc, h, o))) rfl rfl trivial ?_
      exact T212_0 hd h 0 (wdiv r5 r3) _ e
    · refine zF_blk (m := []) (d := 0) (b := B212_8) (gs := [¬ r3 = 0, ¬ ((wrem r6 r3) ≤ r4)]) (c' := (58, [some (22, 0), some (0, v1), some (0, v2), some (0, r1), some (0, r3), some (0, r4)], [(0, (wdiv r5 r3))], (hc, h, o))) K212_8 rfl ⟨q9, q10, trivial⟩ ?_
      refine zF_blk (m := []) (d := 0) (b := B212_7) (gs := []) (c' := (63, [some (22, 0), some (0, v1), some (0, v2), some (0, r1), some (0, r3), some (0, r4)], [(0, 1), (0, (wdiv r5 r3))], (hc, h, o))) K212_7 rfl trivial ?_
      refine zF_blk (m := [false, false, false, false, false, false]) (d := 0) (b := []) (gs := []) (c' := (63, [none, none, none, none, none, none], [(0, 1), (0, (wdiv r5 r3))], (hc, h, o))) rfl rfl trivial ?_
      exact T212_0 hd h 1 (wdiv r5 r3) _ e
  · refine zF_blk (m := []) (d := 0) (b := B212_10) (gs := [¬ (¬ r2 = 0)]) (c' := (15, [some (22, 0), some (0, v1), some (0, v2), some (0, r1), none, none], [], (hc, h, o))) K212_10 rfl ⟨q3, trivial⟩ ?_
    refine zF_blk (m := []) (d := 0) (b := B212_9) (gs := []) (c' := (16, [some (22, 0), some (0, v1), some (0, v2), some (0, r1), none, none], [(0, 0)], (hc, h, o))) K212_9 rfl trivial ?_
    obtain rfl := Option.some.inj e
    exact zF_ri (by decide +kernel)
def B211_0 : List zRow := [(0, .iconst 0, 1, (0, 0, 0)), (1, .istore_n 2, 1, (0, 0, 0)), (2, .iconst 0, 1, (0, 0, 0)), (3, .istore_n 3, 1, (0, 0, 0))]
theorem K211_0 : zRk 211 B211_0 = true := by decide +kernel
def B211_1 : List zRow := [(31, .iload_n 2, 1, (0, 0, 0))]
theorem K211_1 : zRk 211 B211_1 = true := by decide +kernel
def B211_2 : List zRow := [(16, .iload_n 2, 1, (0, 0, 0)), (17, .aload_n 0, 1, (0, 0, 0)), (18, .iload_n 1, 1, (0, 0, 0)), (19, .iload_n 3, 1, (0, 0, 0))]
theorem K211_2 : zRk 211 B211_2 = true := by decide +kernel
def B211_3 : List zRow := [(23, .iadd, 1, (0, 0, 0)), (24, .istore_n 2, 1, (0, 0, 0)), (25, .iinc 3 1, 3, (0, 0, 0)), (28, .goto (-24), 3, (0, 0, 0))]
theorem K211_3 : zRk 211 B211_3 = true := by decide +kernel
def B211_4 : List zRow := [(4, .iload_n 3, 1, (0, 0, 0)), (5, .aload_n 0, 1, (0, 0, 0)), (6, .getfield 13, 3, (12, 14, 5251442)), (9, .sipush 216, 3, (0, 0, 0)), (12, .iaload, 1, (0, 0, 0)), (13, .if_icmp .ge 18, 3, (0, 0, 0))]
theorem K211_4 : zRk 211 B211_4 = true := by decide +kernel
def F211_0 (h : zHM) : Nat → Int → Int → Int → Option Int
  | 0, _, _, _ => none
  | n + 1, v1, v2, v3 => if (h 14 216) ≤ v3 then some v2 else (F212 v1 v3 h).bind fun r1 => (F211_0 h n) v1 (wadd v2 r1) (wadd v3 1)
set_option maxRecDepth 100000 in
theorem T211_0 {spec : zRn zH2} {hc : zHC} {o : Int → Int} {d : Nat} (hd : 2 ≤ d) (h : zHM) : ∀ (n : Nat) (v1 : Int) (v2 : Int) (v3 : Int) (v : Int), F211_0 h n v1 v2 v3 = some v → zFin 0 (fun _ => 0) (zRu2 spec d) 211 (some (0, v)) (hc, h, o) (4, [some (22, 0), some (0, v1), some (0, v2), some (0, v3)], [], (hc, h, o)) := by
  intro n
  induction n with
  | zero => intro v1 v2 v3 v e; unfold F211_0 at e; cases e
  | succ n hk0 =>
    intro v1 v2 v3 v e
    unfold F211_0 at e
    rcases zI_s e with ⟨q1, e⟩ | ⟨q1, e⟩
    · refine zF_blk (m := []) (d := 1) (b := B211_4) (gs := [0 ≤ 216 ∧ 216 < 2140, (h 14 216) ≤ v3]) (c' := (31, [some (22, 0), some (0, v1), some (0, v2), some (0, v3)], [], (hc, h, o))) K211_4 rfl ⟨by decide, q1, trivial⟩ ?_
      refine zF_blk (m := []) (d := 0) (b := B211_1) (gs := []) (c' := (32, [some (22, 0), some (0, v1), some (0, v2), some (0, v3)], [(0, v2)], (hc, h, o))) K211_1 rfl trivial ?_
      obtain rfl := Option.some.inj e
      exact zF_ri (by decide +kernel)
    · refine zF_blk (m := []) (d := 0) (b := B211_4) (gs := [0 ≤ 216 ∧ 216 < 2140, ¬ ((h 14 216) ≤ v3)]) (c' := (16, [some (22, 0), some (0, v1), some (0, v2), some (0, v3)], [], (hc, h, o))) K211_4 rfl ⟨by decide, q1, trivial⟩ ?_
      obtain ⟨r1, q2, e⟩ := zB_s e
      refine zF_blk (m := []) (d := 0) (b := B211_2) (gs := []) (c' := (20, [some (22, 0), some (0, v1), some (0, v2), some (0, v3)], [(0, v3), (0, v1), (22, 0), (0, v2)], (hc, h, o))) K211_2 rfl trivial ?_
      refine zF_call (k := 212) (cl := 12) (n := 3) (i := .invokevirtual 257) (args := [(22, 0), (0, v1), (0, v3)]) (rest := [(0, v2)]) (g1 := (hc, h, o)) (r1 := some (0, r1)) (by decide +kernel) rfl rfl rfl (st' := [(0, r1), (0, v2)]) rfl (S212 (Nat.le_trans (by decide) hd) v1 v3 h _ q2) ?_
      refine zF_blk (m := []) (d := 0) (b := B211_3) (gs := []) (c' := (4, [some (22, 0), some (0, v1), some (0, (wadd v2 r1)), some (0, (wadd v3 1))], [], (hc, h, o))) K211_3 rfl trivial ?_
      exact hk0 v1 (wadd v2 r1) (wadd v3 1) _ e
/-- EchoValeModel.hasAll(I)I -/
def F211 (v1 : Int) (h : zHM) : Option Int := F211_0 h zFu v1 0 0
set_option maxRecDepth 100000 in
theorem S211 {spec : zRn zH2} {hc : zHC} {o : Int → Int} {d : Nat} (hd : 3 ≤ d) (v1 : Int) (h : zHM) (v : Int) (e : F211 v1 h = some v) : zRu2 spec d 211 [(22, 0), (0, v1)] (hc, h, o) (some (0, v)) (hc, h, o) := by
  refine zF_in (D := 2) (mx := 4) (L := [some (22, 0), some (0, v1), none, none]) (by decide +kernel) rfl rfl hd (fun d hd => ?_)
  unfold F211 at e
  refine zF_blk (m := []) (d := 0) (b := B211_0) (gs := []) (c' := (4, [some (22, 0), some (0, v1), some (0, 0), some (0, 0)], [], (hc, h, o))) K211_0 rfl trivial ?_
  exact T211_0 hd h zFu v1 0 0 _ e
