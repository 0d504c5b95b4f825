/-! Functions of the methods, by wip/gen/lift.py. -/
def B53_0 : List zRow := [(0, .aload_n 0, 1, (0, 0, 0)), (1, .iconst 0, 1, (0, 0, 0)), (2, .putfield 30, 3, (1, 0, 0)), (5, .aload_n 0, 1, (0, 0, 0)), (6, .iconst 0, 1, (0, 0, 0)), (7, .putfield 34, 3, (1, 1, 0)), (10, .aload_n 0, 1, (0, 0, 0)), (11, .iconst 0, 1, (0, 0, 0)), (12, .putfield 37, 3, (1, 2, 0)), (15, .aload_n 1, 1, (0, 0, 0)), (16, .getfield 40, 3, (9, 12, 5242906)), (19, .iconst 0, 1, (0, 0, 0)), (20, .aload_n 0, 1, (0, 0, 0)), (21, .getfield 9, 3, (1, 3, 5242906)), (24, .iconst 0, 1, (0, 0, 0)), (25, .bipush 6, 2, (0, 0, 0)), (27, .invokestatic 45, 3, (5001, 0, 0))]
theorem K53_0 : zRk 53 B53_0 = true := by decide +kernel
/-- EchoVale$Course.begin(LEchoVale$Valley;)V -/
def F53 (v0 : Int) (v1 : Int) (h : zHC) : Option zHC := some (hcpy (hset (hset (hset h 64 v0 0 0) 65 v0 0 0) 66 v0 0 0) 67 v0 588 v1 0 0 6)
set_option maxRecDepth 100000 in
theorem S53 {spec : zRn zH2} {hm : zHM} {o : Int → Int} {d : Nat} (hd : 1 ≤ d) (v0 : Int) (v1 : Int) (h : zHC) (v : zHC) (e : F53 v0 v1 h = some v) : zRu2 spec d 53 [(11, v0), (19, v1)] (h, hm, o) none (v, hm, o) := by
  refine zF_in (D := 0) (mx := 2) (L := [some (11, v0), some (19, v1)]) (by decide +kernel) rfl rfl hd (fun d hd => ?_)
  unfold F53 at e
  refine zF_blk (m := []) (d := 0) (b := B53_0) (gs := [0 ≤ 0, 0 ≤ 0, 0 ≤ 6, 0 + 6 ≤ 6, 0 + 6 ≤ 6]) (c' := (30, [some (11, v0), some (19, v1)], [], ((hcpy (hset (hset (hset h 64 v0 0 0) 65 v0 0 0) 66 v0 0 0) 67 v0 588 v1 0 0 6), hm, o))) K53_0 rfl ⟨by decide, by decide, by decide, by decide, by decide, trivial⟩ ?_
  obtain rfl := Option.some.inj e
  exact zF_rv (by decide +kernel)
def B54_0 : List zRow := [(0, .aload_n 0, 1, (0, 0, 0)), (1, .iconst 0, 1, (0, 0, 0)), (2, .putfield 19, 3, (6, 0, 0)), (5, .aload_n 0, 1, (0, 0, 0)), (6, .iconst 0, 1, (0, 0, 0)), (7, .putfield 23, 3, (6, 1, 0))]
theorem K54_0 : zRk 54 B54_0 = true := by decide +kernel
/-- EchoVale$Sentence.clear()V -/
def F54 (v0 : Int) (h : zHC) : Option zHC := some (hset (hset h 384 v0 0 0) 385 v0 0 0)
set_option maxRecDepth 100000 in
theorem S54 {spec : zRn zH2} {hm : zHM} {o : Int → Int} {d : Nat} (hd : 1 ≤ d) (v0 : Int) (h : zHC) (v : zHC) (e : F54 v0 h = some v) : zRu2 spec d 54 [(16, v0)] (h, hm, o) none (v, hm, o) := by
  refine zF_in (D := 0) (mx := 1) (L := [some (16, v0)]) (by decide +kernel) rfl rfl hd (fun d hd => ?_)
  unfold F54 at e
  refine zF_blk (m := []) (d := 0) (b := B54_0) (gs := []) (c' := (10, [some (16, v0)], [], ((hset (hset h 384 v0 0 0) 385 v0 0 0), hm, o))) K54_0 rfl trivial ?_
  obtain rfl := Option.some.inj e
  exact zF_rv (by decide +kernel)
def B55_0 : List zRow := [(0, .aload_n 0, 1, (0, 0, 0)), (1, .iconst 0, 1, (0, 0, 0)), (2, .putfield 18, 3, (8, 0, 0))]
theorem K55_0 : zRk 55 B55_0 = true := by decide +kernel
/-- EchoVale$Undo.forget()V -/
def F55 (h : zHC) : Option zHC := some (hset h 512 0 0 0)
set_option maxRecDepth 100000 in
theorem S55 {spec : zRn zH2} {hm : zHM} {o : Int → Int} {d : Nat} (hd : 1 ≤ d) (h : zHC) (v : zHC) (e : F55 h = some v) : zRu2 spec d 55 [(18, 0)] (h, hm, o) none (v, hm, o) := by
  refine zF_in (D := 0) (mx := 1) (L := [some (18, 0)]) (by decide +kernel) rfl rfl hd (fun d hd => ?_)
  unfold F55 at e
  refine zF_blk (m := []) (d := 0) (b := B55_0) (gs := []) (c' := (5, [some (18, 0)], [], ((hset h 512 0 0 0), hm, o))) K55_0 rfl trivial ?_
  obtain rfl := Option.some.inj e
  exact zF_rv (by decide +kernel)
def B17_0 : List zRow := [(0, .aload_n 0, 1, (0, 0, 0)), (1, .getfield 28, 3, (11, 2, 43))]
theorem K17_0 : zRk 17 B17_0 = true := by decide +kernel
def B17_1 : List zRow := [(30, .aload_n 0, 1, (0, 0, 0)), (31, .getfield 19, 3, (11, 1, 39)), (34, .aload_n 0, 1, (0, 0, 0)), (35, .getfield 28, 3, (11, 2, 43)), (38, .getfield 119, 3, (10, 0, 167))]
theorem K17_1 : zRk 17 B17_1 = true := by decide +kernel
def B17_2 : List zRow := [(44, .aload_n 0, 1, (0, 0, 0)), (45, .getfield 56, 3, (11, 6, 7)), (48, .aload_n 0, 1, (0, 0, 0)), (49, .getfield 19, 3, (11, 1, 39))]
theorem K17_2 : zRk 17 B17_2 = true := by decide +kernel
def B17_3 : List zRow := [(55, .aload_n 0, 1, (0, 0, 0)), (56, .getfield 42, 3, (11, 4, 27))]
theorem K17_3 : zRk 17 B17_3 = true := by decide +kernel
def B17_4 : List zRow := [(62, .aload_n 0, 1, (0, 0, 0)), (63, .getfield 66, 3, (11, 8, 35))]
theorem K17_4 : zRk 17 B17_4 = true := by decide +kernel
def B17_5 : List zRow := [(69, .aload_n 0, 1, (0, 0, 0)), (70, .getfield 28, 3, (11, 2, 43)), (73, .getfield 133, 3, (10, 1, 0))]
theorem K17_5 : zRk 17 B17_5 = true := by decide +kernel
def B17_6 : List zRow := [(20, .iconst (-1), 1, (0, 0, 0)), (21, .aload_n 0, 1, (0, 0, 0)), (22, .getfield 12, 3, (11, 0, 23)), (25, .getfield 116, 3, (5, 3, 0))]
theorem K17_6 : zRk 17 B17_6 = true := by decide +kernel
def B17_7 : List zRow := [(28, .isub, 1, (0, 0, 0))]
theorem K17_7 : zRk 17 B17_7 = true := by decide +kernel
def B17_8 : List zRow := [(7, .istore_n 1, 1, (0, 0, 0)), (8, .aload_n 0, 1, (0, 0, 0)), (9, .getfield 12, 3, (11, 0, 23)), (12, .iconst 0, 1, (0, 0, 0)), (13, .putfield 105, 3, (5, 1, 0)), (16, .iload_n 1, 1, (0, 0, 0)), (17, .ifCond .ne 13, 3, (0, 0, 0))]
theorem K17_8 : zRk 17 B17_8 = true := by decide +kernel
/-- EchoVale.valley()I -/
def F17 (h : zHC) : Option (Int × zHC) := (F18 h).bind fun r1 => if ¬ r1.1 = 0 then (F52 0 1 (hset r1.2 321 0 0 0)).bind fun r2 => (F53 0 0 r2).bind fun r3 => (F54 0 r3).bind fun r4 => (F55 r4).bind fun r5 => some ((r5 641 0 0), r5) else some ((wsub (-1) (r1.2 323 0 0)), (hset r1.2 321 0 0 0))
set_option maxRecDepth 100000 in
theorem S17 {spec : zRn zH2} {hm : zHM} {o : Int → Int} {d : Nat} (hd : 8 ≤ d) (h : zHC) (v : (Int × zHC)) (e : F17 h = some v) : zRu2 spec d 17 [(21, 0)] (h, hm, o) (some (0, v.1)) (v.2, hm, o) := by
  refine zF_in (D := 7) (mx := 2) (L := [some (21, 0), none]) (by decide +kernel) rfl rfl hd (fun d hd => ?_)
  unfold F17 at e
  obtain ⟨r1, q1, e⟩ := zB_s e
  refine zF_blk (m := []) (d := 0) (b := B17_0) (gs := []) (c' := (4, [some (21, 0), none], [(20, 0)], (h, hm, o))) K17_0 rfl trivial ?_
  refine zF_call (k := 18) (cl := 10) (n := 1) (i := .invokevirtual 112) (args := [(20, 0)]) (rest := []) (g1 := (r1.2, hm, o)) (r1 := some (0, r1.1)) (by decide +kernel) rfl rfl rfl (st' := [(0, r1.1)]) rfl (S18 (Nat.le_trans (by decide) hd)  h _ q1) ?_
  rcases zI_s e with ⟨q2, e⟩ | ⟨q2, e⟩
  · refine zF_blk (m := []) (d := 1) (b := B17_8) (gs := [¬ r1.1 = 0]) (c' := (30, [some (21, 0), some (0, r1.1)], [], ((hset r1.2 321 0 0 0), hm, o))) K17_8 rfl ⟨q2, trivial⟩ ?_
    obtain ⟨r2, q3, e⟩ := zB_s e
    refine zF_blk (m := []) (d := 0) (b := B17_1) (gs := []) (c' := (41, [some (21, 0), some (0, r1.1)], [(19, 1), (19, 0)], ((hset r1.2 321 0 0 0), hm, o))) K17_1 rfl trivial ?_
    refine zF_call (k := 52) (cl := 9) (n := 2) (i := .invokevirtual 120) (args := [(19, 0), (19, 1)]) (rest := []) (g1 := (r2, hm, o)) (r1 := none) (by decide +kernel) rfl rfl rfl (st' := []) rfl (S52 (Nat.le_trans (by decide) hd) 0 1 (hset r1.2 321 0 0 0) _ q3) ?_
    obtain ⟨r3, q4, e⟩ := zB_s e
    refine zF_blk (m := []) (d := 0) (b := B17_2) (gs := []) (c' := (52, [some (21, 0), some (0, r1.1)], [(19, 0), (11, 0)], (r2, hm, o))) K17_2 rfl trivial ?_
    refine zF_call (k := 53) (cl := 1) (n := 2) (i := .invokevirtual 124) (args := [(11, 0), (19, 0)]) (rest := []) (g1 := (r3, hm, o)) (r1 := none) (by decide +kernel) rfl rfl rfl (st' := []) rfl (S53 (Nat.le_trans (by decide) hd) 0 0 r2 _ q4) ?_
    obtain ⟨r4, q5, e⟩ := zB_s e
    refine zF_blk (m := []) (d := 0) (b := B17_3) (gs := []) (c' := (59, [some (21, 0), some (0, r1.1)], [(16, 0)], (r3, hm, o))) K17_3 rfl trivial ?_
    refine zF_call (k := 54) (cl := 6) (n := 1) (i := .invokevirtual 127) (args := [(16, 0)]) (rest := []) (g1 := (r4, hm, o)) (r1 := none) (by decide +kernel) rfl rfl rfl (st' := []) rfl (S54 (Nat.le_trans (by decide) hd) 0 r3 _ q5) ?_
    obtain ⟨r5, q6, e⟩ := zB_s e
    refine zF_blk (m := []) (d := 0) (b := B17_4) (gs := []) (c' := (66, [some (21, 0), some (0, r1.1)], [(18, 0)], (r4, hm, o))) K17_4 rfl trivial ?_
    refine zF_call (k := 55) (cl := 8) (n := 1) (i := .invokevirtual 130) (args := [(18, 0)]) (rest := []) (g1 := (r5, hm, o)) (r1 := none) (by decide +kernel) rfl rfl rfl (st' := []) rfl (S55 (Nat.le_trans (by decide) hd)  r4 _ q6) ?_
    refine zF_blk (m := []) (d := 0) (b := B17_5) (gs := []) (c' := (76, [some (21, 0), some (0, r1.1)], [(0, (r5 641 0 0))], (r5, hm, o))) K17_5 rfl trivial ?_
    exact zF_riC (by decide +kernel) e
  · refine zF_blk (m := []) (d := 0) (b := B17_8) (gs := [¬ (¬ r1.1 = 0)]) (c' := (20, [some (21, 0), some (0, r1.1)], [], ((hset r1.2 321 0 0 0), hm, o))) K17_8 rfl ⟨q2, trivial⟩ ?_
    refine zF_blk (m := []) (d := 0) (b := B17_6) (gs := []) (c' := (28, [some (21, 0), some (0, r1.1)], [(0, (r1.2 323 0 0)), (0, (-1))], ((hset r1.2 321 0 0 0), hm, o))) K17_6 rfl trivial ?_
    refine zF_blk (m := []) (d := 0) (b := B17_7) (gs := []) (c' := (29, [some (21, 0), some (0, r1.1)], [(0, (wsub (-1) (r1.2 323 0 0)))], ((hset r1.2 321 0 0 0), hm, o))) K17_7 rfl trivial ?_
    exact zF_riC (by decide +kernel) e
def B175_0 : List zRow := [(0, .aload_n 0, 1, (0, 0, 0)), (1, .getfield 85, 3, (12, 2, 0)), (4, .istore_n 1, 1, (0, 0, 0)), (5, .aload_n 0, 1, (0, 0, 0)), (6, .iconst 0, 1, (0, 0, 0)), (7, .putfield 85, 3, (12, 2, 0)), (10, .iload_n 1, 1, (0, 0, 0))]
theorem K175_0 : zRk 175 B175_0 = true := by decide +kernel
/-- EchoValeModel.take()I -/
def F175 (h : zHM) : Option (Int × zHM) := some ((h 2 0), (mset h 2 0 0))
set_option maxRecDepth 100000 in
theorem S175 {spec : zRn zH2} {hc : zHC} {o : Int → Int} {d : Nat} (hd : 1 ≤ d) (h : zHM) (v : (Int × zHM)) (e : F175 h = some v) : zRu2 spec d 175 [(22, 0)] (hc, h, o) (some (0, v.1)) (hc, v.2, o) := by
  refine zF_in (D := 0) (mx := 2) (L := [some (22, 0), none]) (by decide +kernel) rfl rfl hd (fun d hd => ?_)
  unfold F175 at e
  refine zF_blk (m := []) (d := 0) (b := B175_0) (gs := []) (c' := (11, [some (22, 0), some (0, (h 2 0))], [(0, (h 2 0))], (hc, (mset h 2 0 0), o))) K175_0 rfl trivial ?_
  exact zF_riM (by decide +kernel) e
def B177_0 : List zRow := [(16, .iconst 0, 1, (0, 0, 0))]
theorem K177_0 : zRk 177 B177_0 = true := by decide +kernel
def B177_1 : List zRow := [(12, .iconst 1, 1, (0, 0, 0)), (13, .goto 4, 3, (0, 0, 0))]
theorem K177_1 : zRk 177 B177_1 = true := by decide +kernel
def B177_2 : List zRow := [(6, .iload_n 0, 1, (0, 0, 0)), (7, .bipush 122, 2, (0, 0, 0)), (9, .if_icmp .gt 7, 3, (0, 0, 0))]
theorem K177_2 : zRk 177 B177_2 = true := by decide +kernel
def B177_3 : List zRow := [(0, .iload_n 0, 1, (0, 0, 0)), (1, .bipush 97, 2, (0, 0, 0)), (3, .if_icmp .lt 13, 3, (0, 0, 0))]
theorem K177_3 : zRk 177 B177_3 = true := by decide +kernel
/-- EchoValeModel.isLetter(I)Z -/
def F177 (v0 : Int) : Option Int := if v0 < 97 then some 0 else if 122 < v0 then some 0 else some 1
set_option maxRecDepth 100000 in
theorem S177 {spec : zRn zH2} {hc : zHC} {o : Int → Int} {d : Nat} (hd : 1 ≤ d) (v0 : Int) (h : zHM) (v : Int) (e : F177 v0 = some v) : zRu2 spec d 177 [(0, v0)] (hc, h, o) (some (0, v)) (hc, h, o) := by
  refine zF_in (D := 0) (mx := 1) (L := [some (0, v0)]) (by decide +kernel) rfl rfl hd (fun d hd => ?_)
  unfold F177 at e
  rcases zI_s e with ⟨q1, e⟩ | ⟨q1, e⟩
  · refine zF_blk (m := []) (d := 1) (b := B177_3) (gs := [v0 < 97]) (c' := (16, [some (0, v0)], [], (hc, h, o))) K177_3 rfl ⟨q1, trivial⟩ ?_
    refine zF_blk (m := []) (d := 0) (b := B177_0) (gs := []) (c' := (17, [some (0, v0)], [(0, 0)], (hc, h, o))) K177_0 rfl trivial ?_
    obtain rfl := Option.some.inj e
    exact zF_rb (by decide +kernel) (Or.inl rfl)
  · refine zF_blk (m := []) (d := 0) (b := B177_3) (gs := [¬ (v0 < 97)]) (c' := (6, [some (0, v0)], [], (hc, h, o))) K177_3 rfl ⟨q1, trivial⟩ ?_
    rcases zI_s e with ⟨q2, e⟩ | ⟨q2, e⟩
    · refine zF_blk (m := []) (d := 1) (b := B177_2) (gs := [122 < v0]) (c' := (16, [some (0, v0)], [], (hc, h, o))) K177_2 rfl ⟨q2, trivial⟩ ?_
      refine zF_blk (m := []) (d := 0) (b := B177_0) (gs := []) (c' := (17, [some (0, v0)], [(0, 0)], (hc, h, o))) K177_0 rfl trivial ?_
      obtain rfl := Option.some.inj e
      exact zF_rb (by decide +kernel) (Or.inl rfl)
    · refine zF_blk (m := []) (d := 0) (b := B177_2) (gs := [¬ (122 < v0)]) (c' := (12, [some (0, v0)], [], (hc, h, o))) K177_2 rfl ⟨q2, trivial⟩ ?_
      refine zF_blk (m := []) (d := 0) (b := B177_1) (gs := []) (c' := (17, [some (0, v0)], [(0, 1)], (hc, h, o))) K177_1 rfl trivial ?_
      obtain rfl := Option.some.inj e
      exact zF_rb (by decide +kernel) (Or.inr rfl)
def B178_0 : List zRow := [(16, .iconst 0, 1, (0, 0, 0))]
theorem K178_0 : zRk 178 B178_0 = true := by decide +kernel
def B178_1 : List zRow := [(12, .iconst 1, 1, (0, 0, 0)), (13, .goto 4, 3, (0, 0, 0))]
theorem K178_1 : zRk 178 B178_1 = true := by decide +kernel
def B178_2 : List zRow := [(6, .iload_n 0, 1, (0, 0, 0)), (7, .bipush 57, 2, (0, 0, 0)), (9, .if_icmp .gt 7, 3, (0, 0, 0))]
theorem K178_2 : zRk 178 B178_2 = true := by decide +kernel
def B178_3 : List zRow := [(0, .iload_n 0, 1, (0, 0, 0)), (1, .bipush 48, 2, (0, 0, 0)), (3, .if_icmp .lt 13, 3, (0, 0, 0))]
theorem K178_3 : zRk 178 B178_3 = true := by decide +kernel
/-- EchoValeModel.isDigit(I)Z -/
def F178 (v0 : Int) : Option Int := if v0 < 48 then some 0 else if 57 < v0 then some 0 else some 1
set_option maxRecDepth 100000 in
theorem S178 {spec : zRn zH2} {hc : zHC} {o : Int → Int} {d : Nat} (hd : 1 ≤ d) (v0 : Int) (h : zHM) (v : Int) (e : F178 v0 = some v) : zRu2 spec d 178 [(0, v0)] (hc, h, o) (some (0, v)) (hc, h, o) := by
  refine zF_in (D := 0) (mx := 1) (L := [some (0, v0)]) (by decide +kernel) rfl rfl hd (fun d hd => ?_)
  unfold F178 at e
  rcases zI_s e with ⟨q1, e⟩ | ⟨q1, e⟩
  · refine zF_blk (m := []) (d := 1) (b := B178_3) (gs := [v0 < 48]) (c' := (16, [some (0, v0)], [], (hc, h, o))) K178_3 rfl ⟨q1, trivial⟩ ?_
    refine zF_blk (m := []) (d := 0) (b := B178_0) (gs := []) (c' := (17, [some (0, v0)], [(0, 0)], (hc, h, o))) K178_0 rfl trivial ?_
    obtain rfl := Option.some.inj e
    exact zF_rb (by decide +kernel) (Or.inl rfl)
  · refine zF_blk (m := []) (d := 0) (b := B178_3) (gs := [¬ (v0 < 48)]) (c' := (6, [some (0, v0)], [], (hc, h, o))) K178_3 rfl ⟨q1, trivial⟩ ?_
    rcases zI_s e with ⟨q2, e⟩ | ⟨q2, e⟩
    · refine zF_blk (m := []) (d := 1) (b := B178_2) (gs := [57 < v0]) (c' := (16, [some (0, v0)], [], (hc, h, o))) K178_2 rfl ⟨q2, trivial⟩ ?_
      refine zF_blk (m := []) (d := 0) (b := B178_0) (gs := []) (c' := (17, [some (0, v0)], [(0, 0)], (hc, h, o))) K178_0 rfl trivial ?_
      obtain rfl := Option.some.inj e
      exact zF_rb (by decide +kernel) (Or.inl rfl)
    · refine zF_blk (m := []) (d := 0) (b := B178_2) (gs := [¬ (57 < v0)]) (c' := (12, [some (0, v0)], [], (hc, h, o))) K178_2 rfl ⟨q2, trivial⟩ ?_
      refine zF_blk (m := []) (d := 0) (b := B178_1) (gs := []) (c' := (17, [some (0, v0)], [(0, 1)], (hc, h, o))) K178_1 rfl trivial ?_
      obtain rfl := Option.some.inj e
      exact zF_rb (by decide +kernel) (Or.inr rfl)
def B179_0 : List zRow := [(17, .iconst 0, 1, (0, 0, 0))]
theorem K179_0 : zRk 179 B179_0 = true := by decide +kernel
def B179_1 : List zRow := [(8, .aload_n 0, 1, (0, 0, 0)), (9, .getfield 7, 3, (12, 1, 5246642)), (12, .iload_n 1, 1, (0, 0, 0)), (13, .iaload, 1, (0, 0, 0)), (14, .goto 4, 3, (0, 0, 0))]
theorem K179_1 : zRk 179 B179_1 = true := by decide +kernel
def B179_2 : List zRow := [(0, .iload_n 1, 1, (0, 0, 0)), (1, .aload_n 0, 1, (0, 0, 0)), (2, .getfield 96, 3, (12, 3, 0)), (5, .if_icmp .ge 12, 3, (0, 0, 0))]
theorem K179_2 : zRk 179 B179_2 = true := by decide +kernel
/-- EchoValeModel.tapeAt(I)I -/
def F179 (v1 : Int) (h : zHM) : Option Int := if (h 3 0) ≤ v1 then some 0 else zG (0 ≤ v1 ∧ v1 < 940) (some (h 1 v1))
set_option maxRecDepth 100000 in
theorem S179 {spec : zRn zH2} {hc : zHC} {o : Int → Int} {d : Nat} (hd : 1 ≤ d) (v1 : Int) (h : zHM) (v : Int) (e : F179 v1 h = some v) : zRu2 spec d 179 [(22, 0), (0, v1)] (hc, h, o) (some (0, v)) (hc, h, o) := by
  refine zF_in (D := 0) (mx := 2) (L := [some (22, 0), some (0, v1)]) (by decide +kernel) rfl rfl hd (fun d hd => ?_)
  unfold F179 at e
  rcases zI_s e with ⟨q1, e⟩ | ⟨q1, e⟩
  · refine zF_blk (m := []) (d := 1) (b := B179_2) (gs := [(h 3 0) ≤ v1]) (c' := (17, [some (22, 0), some (0, v1)], [], (hc, h, o))) K179_2 rfl ⟨q1, trivial⟩ ?_
    refine zF_blk (m := []) (d := 0) (b := B179_0) (gs := []) (c' := (18, [some (22, 0), some (0, v1)], [(0, 0)], (hc, h, o))) K179_0 rfl trivial ?_
    obtain rfl := Option.some.inj e
    exact zF_ri (by decide +kernel)
  · refine zF_blk (m := []) (d := 0) (b := B179_2) (gs := [¬ ((h 3 0) ≤ v1)]) (c' := (8, [some (22, 0), some (0, v1)], [], (hc, h, o))) K179_2 rfl ⟨q1, trivial⟩ ?_
    obtain ⟨q2, e⟩ := zG_s e
    refine zF_blk (m := []) (d := 0) (b := B179_1) (gs := [0 ≤ v1 ∧ v1 < 940]) (c' := (18, [some (22, 0), some (0, v1)], [(0, (h 1 v1))], (hc, h, o))) K179_1 rfl ⟨q2, trivial⟩ ?_
    obtain rfl := Option.some.inj e
    exact zF_ri (by decide +kernel)
def B176_0 : List zRow := [(25, .aload_n 0, 1, (0, 0, 0)), (26, .getfield 7, 3, (12, 1, 5246642)), (29, .aload_n 0, 1, (0, 0, 0)), (30, .getfield 98, 3, (12, 5, 0)), (33, .iaload, 1, (0, 0, 0)), (34, .bipush 10, 2, (0, 0, 0)), (36, .if_icmp .ne 16, 3, (0, 0, 0))]
theorem K176_0 : zRk 176 B176_0 = true := by decide +kernel
def B176_1 : List zRow := [(11, .aload_n 0, 1, (0, 0, 0)), (12, .getfield 7, 3, (12, 1, 5246642)), (15, .aload_n 0, 1, (0, 0, 0)), (16, .getfield 98, 3, (12, 5, 0)), (19, .iaload, 1, (0, 0, 0)), (20, .bipush 32, 2, (0, 0, 0)), (22, .if_icmp .eq 17, 3, (0, 0, 0))]
theorem K176_1 : zRk 176 B176_1 = true := by decide +kernel
def B176_2 : List zRow := [(0, .aload_n 0, 1, (0, 0, 0)), (1, .getfield 98, 3, (12, 5, 0)), (4, .aload_n 0, 1, (0, 0, 0)), (5, .getfield 96, 3, (12, 3, 0)), (8, .if_icmp .ge 44, 3, (0, 0, 0))]
theorem K176_2 : zRk 176 B176_2 = true := by decide +kernel
def B176_3 : List zRow := [(39, .aload_n 0, 1, (0, 0, 0)), (40, .dup, 1, (0, 0, 0)), (41, .getfield 98, 3, (12, 5, 0)), (44, .iconst 1, 1, (0, 0, 0)), (45, .iadd, 1, (0, 0, 0)), (46, .putfield 98, 3, (12, 5, 0)), (49, .goto (-49), 3, (0, 0, 0))]
theorem K176_3 : zRk 176 B176_3 = true := by decide +kernel
def B176_4 : List zRow := [(82, .aload_n 0, 1, (0, 0, 0)), (83, .aload_n 0, 1, (0, 0, 0)), (84, .getfield 104, 3, (12, 4, 0)), (87, .putfield 101, 3, (12, 6, 0)), (90, .aload_n 0, 1, (0, 0, 0)), (91, .iconst 1, 1, (0, 0, 0)), (92, .putfield 107, 3, (12, 7, 0))]
theorem K176_4 : zRk 176 B176_4 = true := by decide +kernel
def B176_5 : List zRow := [(71, .aload_n 0, 1, (0, 0, 0)), (72, .getfield 101, 3, (12, 6, 0)), (75, .aload_n 0, 1, (0, 0, 0)), (76, .getfield 104, 3, (12, 4, 0)), (79, .if_icmp .lt 17, 3, (0, 0, 0))]
theorem K176_5 : zRk 176 B176_5 = true := by decide +kernel
def B176_6 : List zRow := [(52, .aload_n 0, 1, (0, 0, 0)), (53, .aload_n 0, 1, (0, 0, 0)), (54, .getfield 98, 3, (12, 5, 0)), (57, .putfield 101, 3, (12, 6, 0)), (60, .aload_n 0, 1, (0, 0, 0)), (61, .getfield 96, 3, (12, 3, 0)), (64, .aload_n 0, 1, (0, 0, 0)), (65, .getfield 104, 3, (12, 4, 0)), (68, .if_icmp .le 28, 3, (0, 0, 0))]
theorem K176_6 : zRk 176 B176_6 = true := by decide +kernel
def B176_7 : List zRow := [(113, .aload_n 0, 1, (0, 0, 0)), (114, .getfield 7, 3, (12, 1, 5246642)), (117, .aload_n 0, 1, (0, 0, 0)), (118, .getfield 98, 3, (12, 5, 0)), (121, .iaload, 1, (0, 0, 0)), (122, .istore_n 1, 1, (0, 0, 0)), (123, .iload_n 1, 1, (0, 0, 0))]
theorem K176_7 : zRk 176 B176_7 = true := by decide +kernel
def B176_8 : List zRow := [(130, .iload_n 1, 1, (0, 0, 0))]
theorem K176_8 : zRk 176 B176_8 = true := by decide +kernel
def B176_9 : List zRow := [(178, .iconst 1, 1, (0, 0, 0))]
theorem K176_9 : zRk 176 B176_9 = true := by decide +kernel
def B176_10 : List zRow := [(168, .iload_n 1, 1, (0, 0, 0)), (169, .bipush 41, 2, (0, 0, 0)), (171, .if_icmp .ne 7, 3, (0, 0, 0))]
theorem K176_10 : zRk 176 B176_10 = true := by decide +kernel
def B176_11 : List zRow := [(162, .iload_n 1, 1, (0, 0, 0)), (163, .bipush 40, 2, (0, 0, 0)), (165, .if_icmp .eq 9, 3, (0, 0, 0))]
theorem K176_11 : zRk 176 B176_11 = true := by decide +kernel
def B176_12 : List zRow := [(156, .iload_n 1, 1, (0, 0, 0)), (157, .bipush 62, 2, (0, 0, 0)), (159, .if_icmp .eq 15, 3, (0, 0, 0))]
theorem K176_12 : zRk 176 B176_12 = true := by decide +kernel
def B176_13 : List zRow := [(150, .iload_n 1, 1, (0, 0, 0)), (151, .bipush 61, 2, (0, 0, 0)), (153, .if_icmp .eq 21, 3, (0, 0, 0))]
theorem K176_13 : zRk 176 B176_13 = true := by decide +kernel
def B176_14 : List zRow := [(144, .iload_n 1, 1, (0, 0, 0)), (145, .bipush 60, 2, (0, 0, 0)), (147, .if_icmp .eq 27, 3, (0, 0, 0))]
theorem K176_14 : zRk 176 B176_14 = true := by decide +kernel
def B176_15 : List zRow := [(137, .aload_n 0, 1, (0, 0, 0)), (138, .iload_n 1, 1, (0, 0, 0)), (139, .bipush 59, 2, (0, 0, 0)), (141, .if_icmp .eq 33, 3, (0, 0, 0))]
theorem K176_15 : zRk 176 B176_15 = true := by decide +kernel
def B176_16 : List zRow := [(134, .ifCond .ne 64, 3, (0, 0, 0))]
theorem K176_16 : zRk 176 B176_16 = true := by decide +kernel
def B176_17 : List zRow := [(127, .ifCond .ne 71, 3, (0, 0, 0))]
theorem K176_17 : zRk 176 B176_17 = true := by decide +kernel
def B176_18 : List zRow := [(107, .aload_n 0, 1, (0, 0, 0)), (108, .iconst 0, 1, (0, 0, 0)), (109, .putfield 107, 3, (12, 7, 0))]
theorem K176_18 : zRk 176 B176_18 = true := by decide +kernel
def B176_19 : List zRow := [(96, .aload_n 0, 1, (0, 0, 0)), (97, .getfield 98, 3, (12, 5, 0)), (100, .aload_n 0, 1, (0, 0, 0)), (101, .getfield 96, 3, (12, 3, 0)), (104, .if_icmp .lt 9, 3, (0, 0, 0))]
theorem K176_19 : zRk 176 B176_19 = true := by decide +kernel
def B176_20 : List zRow := [(179, .putfield 107, 3, (12, 7, 0)), (182, .aload_n 0, 1, (0, 0, 0)), (183, .iload_n 1, 1, (0, 0, 0)), (184, .putfield 117, 3, (12, 9, 0)), (187, .aload_n 0, 1, (0, 0, 0)), (188, .dup, 1, (0, 0, 0)), (189, .getfield 98, 3, (12, 5, 0)), (192, .iconst 1, 1, (0, 0, 0)), (193, .iadd, 1, (0, 0, 0)), (194, .putfield 98, 3, (12, 5, 0))]
theorem K176_20 : zRk 176 B176_20 = true := by decide +kernel
def B176_21 : List zRow := [(174, .iconst 4, 1, (0, 0, 0)), (175, .goto 4, 3, (0, 0, 0))]
theorem K176_21 : zRk 176 B176_21 = true := by decide +kernel
def B176_22 : List zRow := [(198, .iload_n 1, 1, (0, 0, 0))]
theorem K176_22 : zRk 176 B176_22 = true := by decide +kernel
def B176_23 : List zRow := [(202, .istore_n 2, 1, (0, 0, 0)), (203, .iconst 1, 1, (0, 0, 0)), (204, .istore_n 3, 1, (0, 0, 0)), (205, .aload_n 0, 1, (0, 0, 0)), (206, .lconst 0, 1, (0, 0, 0)), (207, .putfield 120, 3, (12, 12, 1)), (210, .aload_n 0, 1, (0, 0, 0)), (211, .iconst 0, 1, (0, 0, 0)), (212, .putfield 124, 3, (12, 8, 0))]
theorem K176_23 : zRk 176 B176_23 = true := by decide +kernel
def B176_24 : List zRow := [(215, .aload_n 0, 1, (0, 0, 0)), (216, .aload_n 0, 1, (0, 0, 0)), (217, .getfield 98, 3, (12, 5, 0))]
theorem K176_24 : zRk 176 B176_24 = true := by decide +kernel
def B176_25 : List zRow := [(229, .aload_n 0, 1, (0, 0, 0)), (230, .aload_n 0, 1, (0, 0, 0)), (231, .getfield 98, 3, (12, 5, 0))]
theorem K176_25 : zRk 176 B176_25 = true := by decide +kernel
def B176_26 : List zRow := [(373, .iconst 3, 1, (0, 0, 0))]
theorem K176_26 : zRk 176 B176_26 = true := by decide +kernel
def B176_27 : List zRow := [(368, .bipush 7, 2, (0, 0, 0)), (370, .goto 4, 3, (0, 0, 0))]
theorem K176_27 : zRk 176 B176_27 = true := by decide +kernel
def B176_28 : List zRow := [(355, .aload_n 0, 1, (0, 0, 0)), (356, .getfield 98, 3, (12, 5, 0)), (359, .aload_n 0, 1, (0, 0, 0)), (360, .getfield 101, 3, (12, 6, 0)), (363, .isub, 1, (0, 0, 0)), (364, .iload_n 2, 1, (0, 0, 0)), (365, .ifCond .eq 8, 3, (0, 0, 0))]
theorem K176_28 : zRk 176 B176_28 = true := by decide +kernel
def B176_29 : List zRow := [(350, .aload_n 0, 1, (0, 0, 0)), (351, .iload_n 3, 1, (0, 0, 0)), (352, .ifCond .eq 25, 3, (0, 0, 0))]
theorem K176_29 : zRk 176 B176_29 = true := by decide +kernel
def B176_30 : List zRow := [(240, .ifCond .eq 110, 3, (0, 0, 0))]
theorem K176_30 : zRk 176 B176_30 = true := by decide +kernel
def B176_31 : List zRow := [(226, .ifCond .ne 17, 3, (0, 0, 0))]
theorem K176_31 : zRk 176 B176_31 = true := by decide +kernel
def B176_32 : List zRow := [(389, .iconst 3, 1, (0, 0, 0))]
theorem K176_32 : zRk 176 B176_32 = true := by decide +kernel
def B176_33 : List zRow := [(385, .iconst 2, 1, (0, 0, 0)), (386, .goto 4, 3, (0, 0, 0))]
theorem K176_33 : zRk 176 B176_33 = true := by decide +kernel
def B176_34 : List zRow := [(381, .iload_n 2, 1, (0, 0, 0)), (382, .ifCond .eq 7, 3, (0, 0, 0))]
theorem K176_34 : zRk 176 B176_34 = true := by decide +kernel
def B176_35 : List zRow := [(374, .if_icmp .le 7, 3, (0, 0, 0))]
theorem K176_35 : zRk 176 B176_35 = true := by decide +kernel
def B176_36 : List zRow := [(390, .putfield 107, 3, (12, 7, 0))]
theorem K176_36 : zRk 176 B176_36 = true := by decide +kernel
def B176_37 : List zRow := [(377, .iconst 1, 1, (0, 0, 0)), (378, .goto 12, 3, (0, 0, 0))]
theorem K176_37 : zRk 176 B176_37 = true := by decide +kernel
def B176_38 : List zRow := [(258, .iload 4, 2, (0, 0, 0))]
theorem K176_38 : zRk 176 B176_38 = true := by decide +kernel
def B176_39 : List zRow := [(267, .iconst 1, 1, (0, 0, 0)), (268, .goto 4, 3, (0, 0, 0))]
theorem K176_39 : zRk 176 B176_39 = true := by decide +kernel
def B176_40 : List zRow := [(263, .iload_n 2, 1, (0, 0, 0)), (264, .if_icmp .ne 7, 3, (0, 0, 0))]
theorem K176_40 : zRk 176 B176_40 = true := by decide +kernel
def B176_41 : List zRow := [(243, .aload_n 0, 1, (0, 0, 0)), (244, .getfield 7, 3, (12, 1, 5246642)), (247, .aload_n 0, 1, (0, 0, 0)), (248, .getfield 98, 3, (12, 5, 0)), (251, .iaload, 1, (0, 0, 0)), (252, .istore 4, 2, (0, 0, 0)), (254, .iload_n 3, 1, (0, 0, 0)), (255, .ifCond .eq 16, 3, (0, 0, 0))]
theorem K176_41 : zRk 176 B176_41 = true := by decide +kernel
def B176_42 : List zRow := [(287, .aload_n 0, 1, (0, 0, 0)), (288, .ldc2_w 130, 3, (0, 0, 27)), (291, .aload_n 0, 1, (0, 0, 0)), (292, .getfield 120, 3, (12, 12, 1)), (295, .lmul, 1, (0, 0, 0)), (296, .iload 4, 2, (0, 0, 0)), (298, .i2l, 1, (0, 0, 0)), (299, .ladd, 1, (0, 0, 0)), (300, .ldc2_w 132, 3, (0, 0, 96)), (303, .lsub, 1, (0, 0, 0)), (304, .putfield 120, 3, (12, 12, 1))]
theorem K176_42 : zRk 176 B176_42 = true := by decide +kernel
def B176_43 : List zRow := [(272, .istore_n 3, 1, (0, 0, 0)), (273, .aload_n 0, 1, (0, 0, 0)), (274, .getfield 98, 3, (12, 5, 0)), (277, .aload_n 0, 1, (0, 0, 0)), (278, .getfield 101, 3, (12, 6, 0)), (281, .isub, 1, (0, 0, 0)), (282, .bipush 7, 2, (0, 0, 0)), (284, .if_icmp .ge 23, 3, (0, 0, 0))]
theorem K176_43 : zRk 176 B176_43 = true := by decide +kernel
def B176_44 : List zRow := [(320, .aload_n 0, 1, (0, 0, 0)), (321, .bipush 10, 2, (0, 0, 0)), (323, .aload_n 0, 1, (0, 0, 0)), (324, .getfield 124, 3, (12, 8, 0))]
theorem K176_44 : zRk 176 B176_44 = true := by decide +kernel
def B176_45 : List zRow := [(327, .imul, 1, (0, 0, 0)), (328, .iload 4, 2, (0, 0, 0)), (330, .iadd, 1, (0, 0, 0)), (331, .bipush 48, 2, (0, 0, 0)), (333, .isub, 1, (0, 0, 0)), (334, .putfield 124, 3, (12, 8, 0))]
theorem K176_45 : zRk 176 B176_45 = true := by decide +kernel
def B176_46 : List zRow := [(307, .aload_n 0, 1, (0, 0, 0)), (308, .getfield 98, 3, (12, 5, 0)), (311, .aload_n 0, 1, (0, 0, 0)), (312, .getfield 101, 3, (12, 6, 0)), (315, .isub, 1, (0, 0, 0)), (316, .iconst 3, 1, (0, 0, 0)), (317, .if_icmp .ge 20, 3, (0, 0, 0))]
theorem K176_46 : zRk 176 B176_46 = true := by decide +kernel
def B176_47 : List zRow := [(337, .aload_n 0, 1, (0, 0, 0)), (338, .dup, 1, (0, 0, 0)), (339, .getfield 98, 3, (12, 5, 0)), (342, .iconst 1, 1, (0, 0, 0)), (343, .iadd, 1, (0, 0, 0)), (344, .putfield 98, 3, (12, 5, 0)), (347, .goto (-132), 3, (0, 0, 0))]
theorem K176_47 : zRk 176 B176_47 = true := by decide +kernel
def B176_48 : List zRow := [(271, .iconst 0, 1, (0, 0, 0))]
theorem K176_48 : zRk 176 B176_48 = true := by decide +kernel
def F176_15 (k0 : Int → Int → zHM → Option zHM) (v2 : Int) (v3 : Int) (h : zHM) : Option zHM := k0 v2 v3 (mset h 5 0 (wadd (h 5 0) 1))
set_option maxRecDepth 100000 in
theorem T176_15 {spec : zRn zH2} {hc : zHC} {o : Int → Int} {d : Nat} (hd : 1 ≤ d) (k0 : Int → Int → zHM → Option zHM) (hk0 : ∀ (v2 : Int) (v3 : Int) (h : zHM) (v : zHM), k0 v2 v3 h = some v → zFin 0 (fun _ => 0) (zRu2 spec d) 176 none (hc, v, o) (215, [some (22, 0), none, some (0, v2), some (0, v3), none], [], (hc, h, o))) (v2 : Int) (v3 : Int) (h : zHM) (v : zHM) (e : F176_15 k0 v2 v3 h = some v) : zFin 0 (fun _ => 0) (zRu2 spec d) 176 none (hc, v, o) (337, [some (22, 0), none, some (0, v2), some (0, v3), none], [], (hc, h, o)) := by
  unfold F176_15 at e
  refine zF_blk (m := []) (d := 0) (b := B176_47) (gs := []) (c' := (215, [some (22, 0), none, some (0, v2), some (0, v3), none], [], (hc, (mset h 5 0 (wadd (h 5 0) 1)), o))) K176_47 rfl trivial ?_
  exact hk0 v2 v3 (mset h 5 0 (wadd (h 5 0) 1)) _ e
def F176_14 (k0 : Int → Int → zHM → Option zHM) (v2 : Int) (v3 : Int) (v4 : Int) (h : zHM) : Option zHM := if 3 ≤ (wsub (h 5 0) (h 6 0)) then F176_15 k0 v2 v3 h else F176_15 k0 v2 v3 (mset h 8 0 (wsub (wadd (wmul 10 (h 8 0)) v4) 48))
set_option maxRecDepth 100000 in
theorem T176_14 {spec : zRn zH2} {hc : zHC} {o : Int → Int} {d : Nat} (hd : 1 ≤ d) (k0 : Int → Int → zHM → Option zHM) (hk0 : ∀ (v2 : Int) (v3 : Int) (h : zHM) (v : zHM), k0 v2 v3 h = some v → zFin 0 (fun _ => 0) (zRu2 spec d) 176 none (hc, v, o) (215, [some (22, 0), none, some (0, v2), some (0, v3), none], [], (hc, h, o))) (v2 : Int) (v3 : Int) (v4 : Int) (h : zHM) (v : zHM) (e : F176_14 k0 v2 v3 v4 h = some v) : zFin 0 (fun _ => 0) (zRu2 spec d) 176 none (hc, v, o) (307, [some (22, 0), none, some (0, v2), some (0, v3), some (0, v4)], [], (hc, h, o)) := by
  unfold F176_14 at e
  rcases zI_s e with ⟨q1, e⟩ | ⟨q1, e⟩
  · refine zF_blk (m := []) (d := 1) (b := B176_46) (gs := [3 ≤ (wsub (h 5 0) (h 6 0))]) (c' := (337, [some (22, 0), none, some (0, v2), some (0, v3), some (0, v4)], [], (hc, h, o))) K176_46 rfl ⟨q1, trivial⟩ ?_
    refine zF_blk (m := [true, false, true, true, false]) (d := 0) (b := []) (gs := []) (c' := (337, [some (22, 0), none, some (0, v2), some (0, v3), none], [], (hc, h, o))) rfl rfl trivial ?_
    exact T176_15 hd k0 hk0 v2 v3 h _ e
  · refine zF_blk (m := []) (d := 0) (b := B176_46) (gs := [¬ (3 ≤ (wsub (h 5 0) (h 6 0)))]) (c' := (320, [some (22, 0), none, some (0, v2), some (0, v3), some (0, v4)], [], (hc, h, o))) K176_46 rfl ⟨q1, trivial⟩ ?_
    refine zF_blk (m := []) (d := 0) (b := B176_44) (gs := []) (c' := (327, [some (22, 0), none, some (0, v2), some (0, v3), some (0, v4)], [(0, (h 8 0)), (0, 10), (22, 0)], (hc, h, o))) K176_44 rfl trivial ?_
    refine zF_blk (m := []) (d := 0) (b := B176_45) (gs := []) (c' := (337, [some (22, 0), none, some (0, v2), some (0, v3), some (0, v4)], [], (hc, (mset h 8 0 (wsub (wadd (wmul 10 (h 8 0)) v4) 48)), o))) K176_45 rfl trivial ?_
    refine zF_blk (m := [true, false, true, true, false]) (d := 0) (b := []) (gs := []) (c' := (337, [some (22, 0), none, some (0, v2), some (0, v3), none], [], (hc, (mset h 8 0 (wsub (wadd (wmul 10 (h 8 0)) v4) 48)), o))) rfl rfl trivial ?_
    exact T176_15 hd k0 hk0 v2 v3 (mset h 8 0 (wsub (wadd (wmul 10 (h 8 0)) v4) 48)) _ e
def F176_13 (k0 : Int → Int → zHM → Option zHM) (v2 : Int) (v4 : Int) (s0 : Int) (h : zHM) : Option zHM := if 7 ≤ (wsub (h 5 0) (h 6 0)) then F176_14 k0 v2 s0 v4 h else F176_14 k0 v2 s0 v4 (mset h 12 0 (qsub (qadd (qmul 27 (h 12 0)) v4) 96))
set_option maxRecDepth 100000 in
theorem T176_13 {spec : zRn zH2} {hc : zHC} {o : Int → Int} {d : Nat} (hd : 1 ≤ d) (k0 : Int → Int → zHM → Option zHM) (hk0 : ∀ (v2 : Int) (v3 : Int) (h : zHM) (v : zHM), k0 v2 v3 h = some v → zFin 0 (fun _ => 0) (zRu2 spec d) 176 none (hc, v, o) (215, [some (22, 0), none, some (0, v2), some (0, v3), none], [], (hc, h, o))) (v2 : Int) (v4 : Int) (s0 : Int) (h : zHM) (v : zHM) (e : F176_13 k0 v2 v4 s0 h = some v) : zFin 0 (fun _ => 0) (zRu2 spec d) 176 none (hc, v, o) (272, [some (22, 0), none, some (0, v2), none, some (0, v4)], [(0, s0)], (hc, h, o)) := by
  unfold F176_13 at e
  rcases zI_s e with ⟨q1, e⟩ | ⟨q1, e⟩
  · refine zF_blk (m := []) (d := 1) (b := B176_43) (gs := [7 ≤ (wsub (h 5 0) (h 6 0))]) (c' := (307, [some (22, 0), none, some (0, v2), some (0, s0), some (0, v4)], [], (hc, h, o))) K176_43 rfl ⟨q1, trivial⟩ ?_
    exact T176_14 hd k0 hk0 v2 s0 v4 h _ e
  · refine zF_blk (m := []) (d := 0) (b := B176_43) (gs := [¬ (7 ≤ (wsub (h 5 0) (h 6 0)))]) (c' := (287, [some (22, 0), none, some (0, v2), some (0, s0), some (0, v4)], [], (hc, h, o))) K176_43 rfl ⟨q1, trivial⟩ ?_
    refine zF_blk (m := []) (d := 0) (b := B176_42) (gs := []) (c' := (307, [some (22, 0), none, some (0, v2), some (0, s0), some (0, v4)], [], (hc, (mset h 12 0 (qsub (qadd (qmul 27 (h 12 0)) v4) 96)), o))) K176_42 rfl trivial ?_
    exact T176_14 hd k0 hk0 v2 s0 v4 (mset h 12 0 (qsub (qadd (qmul 27 (h 12 0)) v4) 96)) _ e
def F176_12 (k0 : Int → Int → zHM → Option zHM) (v2 : Int) (v4 : Int) (h : zHM) : Option zHM := F176_13 k0 v2 v4 0 h
set_option maxRecDepth 100000 in
theorem T176_12 {spec : zRn zH2} {hc : zHC} {o : Int → Int} {d : Nat} (hd : 1 ≤ d) (k0 : Int → Int → zHM → Option zHM) (hk0 : ∀ (v2 : Int) (v3 : Int) (h : zHM) (v : zHM), k0 v2 v3 h = some v → zFin 0 (fun _ => 0) (zRu2 spec d) 176 none (hc, v, o) (215, [some (22, 0), none, some (0, v2), some (0, v3), none], [], (hc, h, o))) (v2 : Int) (v4 : Int) (h : zHM) (v : zHM) (e : F176_12 k0 v2 v4 h = some v) : zFin 0 (fun _ => 0) (zRu2 spec d) 176 none (hc, v, o) (271, [some (22, 0), none, some (0, v2), none, some (0, v4)], [], (hc, h, o)) := by
  unfold F176_12 at e
  refine zF_blk (m := []) (d := 0) (b := B176_48) (gs := []) (c' := (272, [some (22, 0), none, some (0, v2), none, some (0, v4)], [(0, 0)], (hc, h, o))) K176_48 rfl trivial ?_
  exact T176_13 hd k0 hk0 v2 v4 0 h _ e
def F176_8 (k0 : Int → Int → zHM → Option zHM) (v2 : Int) (v3 : Int) (h : zHM) : Option zHM := zG (0 ≤ (h 5 0) ∧ (h 5 0) < 940) (if v3 = 0 then F176_12 k0 v2 (h 1 (h 5 0)) h else (F177 (h 1 (h 5 0))).bind fun r1 => if ¬ r1 = v2 then F176_12 k0 v2 (h 1 (h 5 0)) h else F176_13 k0 v2 (h 1 (h 5 0)) 1 h)
set_option maxRecDepth 100000 in
theorem T176_8 {spec : zRn zH2} {hc : zHC} {o : Int → Int} {d : Nat} (hd : 1 ≤ d) (k0 : Int → Int → zHM → Option zHM) (hk0 : ∀ (v2 : Int) (v3 : Int) (h : zHM) (v : zHM), k0 v2 v3 h = some v → zFin 0 (fun _ => 0) (zRu2 spec d) 176 none (hc, v, o) (215, [some (22, 0), none, some (0, v2), some (0, v3), none], [], (hc, h, o))) (v2 : Int) (v3 : Int) (h : zHM) (v : zHM) (e : F176_8 k0 v2 v3 h = some v) : zFin 0 (fun _ => 0) (zRu2 spec d) 176 none (hc, v, o) (243, [some (22, 0), none, some (0, v2), some (0, v3), none], [], (hc, h, o)) := by
  unfold F176_8 at e
  obtain ⟨q1, e⟩ := zG_s e
  rcases zI_s e with ⟨q2, e⟩ | ⟨q2, e⟩
  · refine zF_blk (m := []) (d := 1) (b := B176_41) (gs := [0 ≤ (h 5 0) ∧ (h 5 0) < 940, v3 = 0]) (c' := (271, [some (22, 0), none, some (0, v2), some (0, v3), some (0, (h 1 (h 5 0)))], [], (hc, h, o))) K176_41 rfl ⟨q1, q2, trivial⟩ ?_
    refine zF_blk (m := [true, false, true, false, true]) (d := 0) (b := []) (gs := []) (c' := (271, [some (22, 0), none, some (0, v2), none, some (0, (h 1 (h 5 0)))], [], (hc, h, o))) rfl rfl trivial ?_
    exact T176_12 hd k0 hk0 v2 (h 1 (h 5 0)) h _ e
  · refine zF_blk (m := []) (d := 0) (b := B176_41) (gs := [0 ≤ (h 5 0) ∧ (h 5 0) < 940, ¬ (v3 = 0)]) (c' := (258, [some (22, 0), none, some (0, v2), some (0, v3), some (0, (h 1 (h 5 0)))], [], (hc, h, o))) K176_41 rfl ⟨q1, q2, trivial⟩ ?_
    obtain ⟨r1, q3, e⟩ := zB_s e
    refine zF_blk (m := []) (d := 0) (b := B176_38) (gs := []) (c' := (260, [some (22, 0), none, some (0, v2), some (0, v3), some (0, (h 1 (h 5 0)))], [(0, (h 1 (h 5 0)))], (hc, h, o))) K176_38 rfl trivial ?_
    refine zF_call (k := 177) (cl := 12) (n := 1) (i := .invokestatic 110) (args := [(0, (h 1 (h 5 0)))]) (rest := []) (g1 := (hc, h, o)) (r1 := some (0, r1)) (by decide +kernel) rfl rfl rfl (st' := [(0, r1)]) rfl (S177 (Nat.le_trans (by decide) hd) (h 1 (h 5 0)) h _ q3) ?_
    rcases zI_s e with ⟨q4, e⟩ | ⟨q4, e⟩
    · refine zF_blk (m := []) (d := 1) (b := B176_40) (gs := [¬ r1 = v2]) (c' := (271, [some (22, 0), none, some (0, v2), some (0, v3), some (0, (h 1 (h 5 0)))], [], (hc, h, o))) K176_40 rfl ⟨q4, trivial⟩ ?_
      refine zF_blk (m := [true, false, true, false, true]) (d := 0) (b := []) (gs := []) (c' := (271, [some (22, 0), none, some (0, v2), none, some (0, (h 1 (h 5 0)))], [], (hc, h, o))) rfl rfl trivial ?_
      exact T176_12 hd k0 hk0 v2 (h 1 (h 5 0)) h _ e
    · refine zF_blk (m := []) (d := 0) (b := B176_40) (gs := [¬ (¬ r1 = v2)]) (c' := (267, [some (22, 0), none, some (0, v2), some (0, v3), some (0, (h 1 (h 5 0)))], [], (hc, h, o))) K176_40 rfl ⟨q4, trivial⟩ ?_
      refine zF_blk (m := []) (d := 0) (b := B176_39) (gs := []) (c' := (272, [some (22, 0), none, some (0, v2), some (0, v3), some (0, (h 1 (h 5 0)))], [(0, 1)], (hc, h, o))) K176_39 rfl trivial ?_
      refine zF_blk (m := [true, false, true, false, true]) (d := 0) (b := []) (gs := []) (c' := (272, [some (22, 0), none, some (0, v2), none, some (0, (h 1 (h 5 0)))], [(0, 1)], (hc, h, o))) rfl rfl trivial ?_
      exact T176_13 hd k0 hk0 v2 (h 1 (h 5 0)) 1 h _ e
def F176_11 (s0 : Int) (h : zHM) : Option zHM := some (mset h 7 0 s0)
set_option maxRecDepth 100000 in
theorem T176_11 {spec : zRn zH2} {hc : zHC} {o : Int → Int} {d : Nat} (hd : 1 ≤ d) (s0 : Int) (h : zHM) (v : zHM) (e : F176_11 s0 h = some v) : zFin 0 (fun _ => 0) (zRu2 spec d) 176 none (hc, v, o) (390, [none, none, none, none, none], [(0, s0), (22, 0)], (hc, h, o)) := by
  unfold F176_11 at e
  refine zF_blk (m := []) (d := 0) (b := B176_36) (gs := []) (c' := (393, [none, none, none, none, none], [], (hc, (mset h 7 0 s0), o))) K176_36 rfl trivial ?_
  obtain rfl := Option.some.inj e
  exact zF_rv (by decide +kernel)
def F176_9 (h : zHM) : Option zHM := F176_11 1 h
set_option maxRecDepth 100000 in
theorem T176_9 {spec : zRn zH2} {hc : zHC} {o : Int → Int} {d : Nat} (hd : 1 ≤ d) (h : zHM) (v : zHM) (e : F176_9 h = some v) : zFin 0 (fun _ => 0) (zRu2 spec d) 176 none (hc, v, o) (377, [none, none, none, none, none], [(22, 0)], (hc, h, o)) := by
  unfold F176_9 at e
  refine zF_blk (m := []) (d := 0) (b := B176_37) (gs := []) (c' := (390, [none, none, none, none, none], [(0, 1), (22, 0)], (hc, h, o))) K176_37 rfl trivial ?_
  exact T176_11 hd 1 h _ e
def F176_10 (v2 : Int) (s0 : Int) (s1 : Int) (h : zHM) : Option zHM := if s1 ≤ s0 then if v2 = 0 then F176_11 3 h else F176_11 2 h else F176_9 h
set_option maxRecDepth 100000 in
theorem T176_10 {spec : zRn zH2} {hc : zHC} {o : Int → Int} {d : Nat} (hd : 1 ≤ d) (v2 : Int) (s0 : Int) (s1 : Int) (h : zHM) (v : zHM) (e : F176_10 v2 s0 s1 h = some v) : zFin 0 (fun _ => 0) (zRu2 spec d) 176 none (hc, v, o) (374, [none, none, some (0, v2), none, none], [(0, s0), (0, s1), (22, 0)], (hc, h, o)) := by
  unfold F176_10 at e
  rcases zI_s e with ⟨q1, e⟩ | ⟨q1, e⟩
  · refine zF_blk (m := []) (d := 1) (b := B176_35) (gs := [s1 ≤ s0]) (c' := (381, [none, none, some (0, v2), none, none], [(22, 0)], (hc, h, o))) K176_35 rfl ⟨q1, trivial⟩ ?_
    rcases zI_s e with ⟨q2, e⟩ | ⟨q2, e⟩
    · refine zF_blk (m := []) (d := 1) (b := B176_34) (gs := [v2 = 0]) (c' := (389, [none, none, some (0, v2), none, none], [(22, 0)], (hc, h, o))) K176_34 rfl ⟨q2, trivial⟩ ?_
      refine zF_blk (m := []) (d := 0) (b := B176_32) (gs := []) (c' := (390, [none, none, some (0, v2), none, none], [(0, 3), (22, 0)], (hc, h, o))) K176_32 rfl trivial ?_
      refine zF_blk (m := [false, false, false, false, false]) (d := 0) (b := []) (gs := []) (c' := (390, [none, none, none, none, none], [(0, 3), (22, 0)], (hc, h, o))) rfl rfl trivial ?_
      exact T176_11 hd 3 h _ e
    · refine zF_blk (m := []) (d := 0) (b := B176_34) (gs := [¬ (v2 = 0)]) (c' := (385, [none, none, some (0, v2), none, none], [(22, 0)], (hc, h, o))) K176_34 rfl ⟨q2, trivial⟩ ?_
      refine zF_blk (m := []) (d := 0) (b := B176_33) (gs := []) (c' := (390, [none, none, some (0, v2), none, none], [(0, 2), (22, 0)], (hc, h, o))) K176_33 rfl trivial ?_
      refine zF_blk (m := [false, false, false, false, false]) (d := 0) (b := []) (gs := []) (c' := (390, [none, none, none, none, none], [(0, 2), (22, 0)], (hc, h, o))) rfl rfl trivial ?_
      exact T176_11 hd 2 h _ e
  · refine zF_blk (m := []) (d := 0) (b := B176_35) (gs := [¬ (s1 ≤ s0)]) (c' := (377, [none, none, some (0, v2), none, none], [(22, 0)], (hc, h, o))) K176_35 rfl ⟨q1, trivial⟩ ?_
    refine zF_blk (m := [false, false, false, false, false]) (d := 0) (b := []) (gs := []) (c' := (377, [none, none, none, none, none], [(22, 0)], (hc, h, o))) rfl rfl trivial ?_
    exact T176_9 hd h _ e
def F176_7 : Nat → Int → Int → zHM → Option zHM
  | 0, _, _, _ => none
  | n + 1, v2, v3, h => (F179 (h 5 0) h).bind fun r1 => (F177 r1).bind fun r2 => if ¬ r2 = 0 then F176_8 (F176_7 n) v2 v3 h else (F179 (h 5 0) h).bind fun r3 => (F178 r3).bind fun r4 => if r4 = 0 then if v3 = 0 then F176_9 h else if v2 = 0 then F176_10 v2 3 (wsub (h 5 0) (h 6 0)) h else F176_10 v2 7 (wsub (h 5 0) (h 6 0)) h else F176_8 (F176_7 n) v2 v3 h
set_option maxRecDepth 100000 in
theorem T176_7 {spec : zRn zH2} {hc : zHC} {o : Int → Int} {d : Nat} (hd : 1 ≤ d) : ∀ (n : Nat) (v2 : Int) (v3 : Int) (h : zHM) (v : zHM), F176_7 n v2 v3 h = some v → zFin 0 (fun _ => 0) (zRu2 spec d) 176 none (hc, v, o) (215, [some (22, 0), none, some (0, v2), some (0, v3), none], [], (hc, h, o)) := by
  intro n
  induction n with
  | zero => intro v2 v3 h v e; unfold F176_7 at e; cases e
  | succ n hk0 =>
    intro v2 v3 h v e
    unfold F176_7 at e
    obtain ⟨r1, q1, e⟩ := zB_s e
    refine zF_blk (m := []) (d := 0) (b := B176_24) (gs := []) (c' := (220, [some (22, 0), none, some (0, v2), some (0, v3), none], [(0, (h 5 0)), (22, 0)], (hc, h, o))) K176_24 rfl trivial ?_
    refine zF_call (k := 179) (cl := 12) (n := 2) (i := .invokevirtual 127) (args := [(22, 0), (0, (h 5 0))]) (rest := []) (g1 := (hc, h, o)) (r1 := some (0, r1)) (by decide +kernel) rfl rfl rfl (st' := [(0, r1)]) rfl (S179 (Nat.le_trans (by decide) hd) (h 5 0) h _ q1) ?_
    obtain ⟨r2, q2, e⟩ := zB_s e
    refine zF_call (k := 177) (cl := 12) (n := 1) (i := .invokestatic 110) (args := [(0, r1)]) (rest := []) (g1 := (hc, h, o)) (r1 := some (0, r2)) (by decide +kernel) rfl rfl rfl (st' := [(0, r2)]) rfl (S177 (Nat.le_trans (by decide) hd) r1 h _ q2) ?_
    rcases zI_s e with ⟨q3, e⟩ | ⟨q3, e⟩
    · refine zF_blk (m := []) (d := 1) (b := B176_31) (gs := [¬ r2 = 0]) (c' := (243, [some (22, 0), none, some (0, v2), some (0, v3), none], [], (hc, h, o))) K176_31 rfl ⟨q3, trivial⟩ ?_
      exact T176_8 hd (F176_7 n) hk0 v2 v3 h _ e
    · refine zF_blk (m := []) (d := 0) (b := B176_31) (gs := [¬ (¬ r2 = 0)]) (c' := (229, [some (22, 0), none, some (0, v2), some (0, v3), none], [], (hc, h, o))) K176_31 rfl ⟨q3, trivial⟩ ?_
      obtain ⟨r3, q4, e⟩ := zB_s e
      refine zF_blk (m := []) (d := 0) (b := B176_25) (gs := []) (c' := (234, [some (22, 0), none, some (0, v2), some (0, v3), none], [(0, (h 5 0)), (22, 0)], (hc, h, o))) K176_25 rfl trivial ?_
      refine zF_call (k := 179) (cl := 12) (n := 2) (i := .invokevirtual 127) (args := [(22, 0), (0, (h 5 0))]) (rest := []) (g1 := (hc, h, o)) (r1 := some (0, r3)) (by decide +kernel) rfl rfl rfl (st' := [(0, r3)]) rfl (S179 (Nat.le_trans (by decide) hd) (h 5 0) h _ q4) ?_
      obtain ⟨r4, q5, e⟩ := zB_s e
      refine zF_call (k := 178) (cl := 12) (n := 1) (i := .invokestatic 114) (args := [(0, r3)]) (rest := []) (g1 := (hc, h, o)) (r1 := some (0, r4)) (by decide +kernel) rfl rfl rfl (st' := [(0, r4)]) rfl (S178 (Nat.le_trans (by decide) hd) r3 h _ q5) ?_
      rcases zI_s e with ⟨q6, e⟩ | ⟨q6, e⟩
      · refine zF_blk (m := []) (d := 1) (b := B176_30) (gs := [r4 = 0]) (c' := (350, [some (22, 0), none, some (0, v2), some (0, v3), none], [], (hc, h, o))) K176_30 rfl ⟨q6, trivial⟩ ?_
        rcases zI_s e with ⟨q7, e⟩ | ⟨q7, e⟩
        · refine zF_blk (m := []) (d := 1) (b := B176_29) (gs := [v3 = 0]) (c' := (377, [some (22, 0), none, some (0, v2), some (0, v3), none], [(22, 0)], (hc, h, o))) K176_29 rfl ⟨q7, trivial⟩ ?_
          refine zF_blk (m := [false, false, false, false, false]) (d := 0) (b := []) (gs := []) (c' := (377, [none, none, none, none, none], [(22, 0)], (hc, h, o))) rfl rfl trivial ?_
          exact T176_9 hd h _ e
        · refine zF_blk (m := []) (d := 0) (b := B176_29) (gs := [¬ (v3 = 0)]) (c' := (355, [some (22, 0), none, some (0, v2), some (0, v3), none], [(22, 0)], (hc, h, o))) K176_29 rfl ⟨q7, trivial⟩ ?_
          rcases zI_s e with ⟨q8, e⟩ | ⟨q8, e⟩
          · refine zF_blk (m := []) (d := 1) (b := B176_28) (gs := [v2 = 0]) (c' := (373, [some (22, 0), none, some (0, v2), some (0, v3), none], [(0, (wsub (h 5 0) (h 6 0))), (22, 0)], (hc, h, o))) K176_28 rfl ⟨q8, trivial⟩ ?_
            refine zF_blk (m := []) (d := 0) (b := B176_26) (gs := []) (c' := (374, [some (22, 0), none, some (0, v2), some (0, v3), none], [(0, 3), (0, (wsub (h 5 0) (h 6 0))), (22, 0)], (hc, h, o))) K176_26 rfl trivial ?_
            refine zF_blk (m := [false, false, true, false, false]) (d := 0) (b := []) (gs := []) (c' := (374, [none, none, some (0, v2), none, none], [(0, 3), (0, (wsub (h 5 0) (h 6 0))), (22, 0)], (hc, h, o))) rfl rfl trivial ?_
            exact T176_10 hd v2 3 (wsub (h 5 0) (h 6 0)) h _ e
          · refine zF_blk (m := []) (d := 0) (b := B176_28) (gs := [¬ (v2 = 0)]) (c' := (368, [some (22, 0), none, some (0, v2), some (0, v3), none], [(0, (wsub (h 5 0) (h 6 0))), (22, 0)], (hc, h, o))) K176_28 rfl ⟨q8, trivial⟩ ?_
            refine zF_blk (m := []) (d := 0) (b := B176_27) (gs := []) (c' := (374, [some (22, 0), none, some (0, v2), some (0, v3), none], [(0, 7), (0, (wsub (h 5 0) (h 6 0))), (22, 0)], (hc, h, o))) K176_27 rfl trivial ?_
            refine zF_blk (m := [false, false, true, false, false]) (d := 0) (b := []) (gs := []) (c' := (374, [none, none, some (0, v2), none, none], [(0, 7), (0, (wsub (h 5 0) (h 6 0))), (22, 0)], (hc, h, o))) rfl rfl trivial ?_
            exact T176_10 hd v2 7 (wsub (h 5 0) (h 6 0)) h _ e
      · refine zF_blk (m := []) (d := 0) (b := B176_30) (gs := [¬ (r4 = 0)]) (c' := (243, [some (22, 0), none, some (0, v2), some (0, v3), none], [], (hc, h, o))) K176_30 rfl ⟨q6, trivial⟩ ?_
        exact T176_8 hd (F176_7 n) hk0 v2 v3 h _ e
def F176_4 (v1 : Int) (h : zHM) : Option zHM := (F177 v1).bind fun r1 => F176_7 zFu r1 1 (mset (mset h 12 0 0) 8 0 0)
set_option maxRecDepth 100000 in
theorem T176_4 {spec : zRn zH2} {hc : zHC} {o : Int → Int} {d : Nat} (hd : 1 ≤ d) (v1 : Int) (h : zHM) (v : zHM) (e : F176_4 v1 h = some v) : zFin 0 (fun _ => 0) (zRu2 spec d) 176 none (hc, v, o) (198, [some (22, 0), some (0, v1), none, none, none], [], (hc, h, o)) := by
  unfold F176_4 at e
  obtain ⟨r1, q1, e⟩ := zB_s e
  refine zF_blk (m := []) (d := 0) (b := B176_22) (gs := []) (c' := (199, [some (22, 0), some (0, v1), none, none, none], [(0, v1)], (hc, h, o))) K176_22 rfl trivial ?_
  refine zF_call (k := 177) (cl := 12) (n := 1) (i := .invokestatic 110) (args := [(0, v1)]) (rest := []) (g1 := (hc, h, o)) (r1 := some (0, r1)) (by decide +kernel) rfl rfl rfl (st' := [(0, r1)]) rfl (S177 (Nat.le_trans (by decide) hd) v1 h _ q1) ?_
  refine zF_blk (m := []) (d := 0) (b := B176_23) (gs := []) (c' := (215, [some (22, 0), some (0, v1), some (0, r1), some (0, 1), none], [], (hc, (mset (mset h 12 0 0) 8 0 0), o))) K176_23 rfl trivial ?_
  refine zF_blk (m := [true, false, true, true, false]) (d := 0) (b := []) (gs := []) (c' := (215, [some (22, 0), none, some (0, r1), some (0, 1), none], [], (hc, (mset (mset h 12 0 0) 8 0 0), o))) rfl rfl trivial ?_
  exact T176_7 hd zFu r1 1 (mset (mset h 12 0 0) 8 0 0) _ e
def F176_6 (v1 : Int) (s0 : Int) (h : zHM) : Option zHM := some (mset (mset (mset h 7 0 s0) 9 0 v1) 5 0 (wadd (h 5 0) 1))
set_option maxRecDepth 100000 in
theorem T176_6 {spec : zRn zH2} {hc : zHC} {o : Int → Int} {d : Nat} (hd : 1 ≤ d) (v1 : Int) (s0 : Int) (h : zHM) (v : zHM) (e : F176_6 v1 s0 h = some v) : zFin 0 (fun _ => 0) (zRu2 spec d) 176 none (hc, v, o) (179, [some (22, 0), some (0, v1), none, none, none], [(0, s0), (22, 0)], (hc, h, o)) := by
  unfold F176_6 at e
  refine zF_blk (m := []) (d := 0) (b := B176_20) (gs := []) (c' := (197, [some (22, 0), some (0, v1), none, none, none], [], (hc, (mset (mset (mset h 7 0 s0) 9 0 v1) 5 0 (wadd (h 5 0) 1)), o))) K176_20 rfl trivial ?_
  obtain rfl := Option.some.inj e
  exact zF_rv (by decide +kernel)
def F176_5 (v1 : Int) (h : zHM) : Option zHM := F176_6 v1 4 h
set_option maxRecDepth 100000 in
theorem T176_5 {spec : zRn zH2} {hc : zHC} {o : Int → Int} {d : Nat} (hd : 1 ≤ d) (v1 : Int) (h : zHM) (v : zHM) (e : F176_5 v1 h = some v) : zFin 0 (fun _ => 0) (zRu2 spec d) 176 none (hc, v, o) (174, [some (22, 0), some (0, v1), none, none, none], [(22, 0)], (hc, h, o)) := by
  unfold F176_5 at e
  refine zF_blk (m := []) (d := 0) (b := B176_21) (gs := []) (c' := (179, [some (22, 0), some (0, v1), none, none, none], [(0, 4), (22, 0)], (hc, h, o))) K176_21 rfl trivial ?_
  exact T176_6 hd v1 4 h _ e
def F176_3 (h : zHM) : Option zHM := if (h 5 0) < (h 3 0) then zG (0 ≤ (h 5 0) ∧ (h 5 0) < 940) ((F177 (h 1 (h 5 0))).bind fun r1 => if ¬ r1 = 0 then F176_4 (h 1 (h 5 0)) h else (F178 (h 1 (h 5 0))).bind fun r2 => if ¬ r2 = 0 then F176_4 (h 1 (h 5 0)) h else if (h 1 (h 5 0)) = 59 then F176_5 (h 1 (h 5 0)) h else if (h 1 (h 5 0)) = 60 then F176_5 (h 1 (h 5 0)) h else if (h 1 (h 5 0)) = 61 then F176_5 (h 1 (h 5 0)) h else if (h 1 (h 5 0)) = 62 then F176_5 (h 1 (h 5 0)) h else if (h 1 (h 5 0)) = 40 then F176_5 (h 1 (h 5 0)) h else if ¬ (h 1 (h 5 0)) = 41 then F176_6 (h 1 (h 5 0)) 1 h else F176_5 (h 1 (h 5 0)) h) else some (mset h 7 0 0)
set_option maxRecDepth 100000 in
theorem T176_3 {spec : zRn zH2} {hc : zHC} {o : Int → Int} {d : Nat} (hd : 1 ≤ d) (h : zHM) (v : zHM) (e : F176_3 h = some v) : zFin 0 (fun _ => 0) (zRu2 spec d) 176 none (hc, v, o) (96, [some (22, 0), none, none, none, none], [], (hc, h, o)) := by
  unfold F176_3 at e
  rcases zI_s e with ⟨q1, e⟩ | ⟨q1, e⟩
  · refine zF_blk (m := []) (d := 1) (b := B176_19) (gs := [(h 5 0) < (h 3 0)]) (c' := (113, [some (22, 0), none, none, none, none], [], (hc, h, o))) K176_19 rfl ⟨q1, trivial⟩ ?_
    obtain ⟨q2, e⟩ := zG_s e
    obtain ⟨r1, q3, e⟩ := zB_s e
    refine zF_blk (m := []) (d := 0) (b := B176_7) (gs := [0 ≤ (h 5 0) ∧ (h 5 0) < 940]) (c' := (124, [some (22, 0), some (0, (h 1 (h 5 0))), none, none, none], [(0, (h 1 (h 5 0)))], (hc, h, o))) K176_7 rfl ⟨q2, trivial⟩ ?_
    refine zF_call (k := 177) (cl := 12) (n := 1) (i := .invokestatic 110) (args := [(0, (h 1 (h 5 0)))]) (rest := []) (g1 := (hc, h, o)) (r1 := some (0, r1)) (by decide +kernel) rfl rfl rfl (st' := [(0, r1)]) rfl (S177 (Nat.le_trans (by decide) hd) (h 1 (h 5 0)) h _ q3) ?_
    rcases zI_s e with ⟨q4, e⟩ | ⟨q4, e⟩
    · refine zF_blk (m := []) (d := 1) (b := B176_17) (gs := [¬ r1 = 0]) (c' := (198, [some (22, 0), some (0, (h 1 (h 5 0))), none, none, none], [], (hc, h, o))) K176_17 rfl ⟨q4, trivial⟩ ?_
      exact T176_4 hd (h 1 (h 5 0)) h _ e
    · refine zF_blk (m := []) (d := 0) (b := B176_17) (gs := [¬ (¬ r1 = 0)]) (c' := (130, [some (22, 0), some (0, (h 1 (h 5 0))), none, none, none], [], (hc, h, o))) K176_17 rfl ⟨q4, trivial⟩ ?_
      obtain ⟨r2, q5, e⟩ := zB_s e
      refine zF_blk (m := []) (d := 0) (b := B176_8) (gs := []) (c' := (131, [some (22, 0), some (0, (h 1 (h 5 0))), none, none, none], [(0, (h 1 (h 5 0)))], (hc, h, o))) K176_8 rfl trivial ?_
      refine zF_call (k := 178) (cl := 12) (n := 1) (i := .invokestatic 114) (args := [(0, (h 1 (h 5 0)))]) (rest := []) (g1 := (hc, h, o)) (r1 := some (0, r2)) (by decide +kernel) rfl rfl rfl (st' := [(0, r2)]) rfl (S178 (Nat.le_trans (by decide) hd) (h 1 (h 5 0)) h _ q5) ?_
      rcases zI_s e with ⟨q6, e⟩ | ⟨q6, e⟩
      · refine zF_blk (m := []) (d := 1) (b := B176_16) (gs := [¬ r2 = 0]) (c' := (198, [some (22, 0), some (0, (h 1 (h 5 0))), none, none, none], [], (hc, h, o))) K176_16 rfl ⟨q6, trivial⟩ ?_
        exact T176_4 hd (h 1 (h 5 0)) h _ e
      · refine zF_blk (m := []) (d := 0) (b := B176_16) (gs := [¬ (¬ r2 = 0)]) (c' := (137, [some (22, 0), some (0, (h 1 (h 5 0))), none, none, none], [], (hc, h, o))) K176_16 rfl ⟨q6, trivial⟩ ?_
        rcases zI_s e with ⟨q7, e⟩ | ⟨q7, e⟩
        · refine zF_blk (m := []) (d := 1) (b := B176_15) (gs := [(h 1 (h 5 0)) = 59]) (c' := (174, [some (22, 0), some (0, (h 1 (h 5 0))), none, none, none], [(22, 0)], (hc, h, o))) K176_15 rfl ⟨q7, trivial⟩ ?_
          exact T176_5 hd (h 1 (h 5 0)) h _ e
        · refine zF_blk (m := []) (d := 0) (b := B176_15) (gs := [¬ ((h 1 (h 5 0)) = 59)]) (c' := (144, [some (22, 0), some (0, (h 1 (h 5 0))), none, none, none], [(22, 0)], (hc, h, o))) K176_15 rfl ⟨q7, trivial⟩ ?_
          rcases zI_s e with ⟨q8, e⟩ | ⟨q8, e⟩
          · refine zF_blk (m := []) (d := 1) (b := B176_14) (gs := [(h 1 (h 5 0)) = 60]) (c' := (174, [some (22, 0), some (0, (h 1 (h 5 0))), none, none, none], [(22, 0)], (hc, h, o))) K176_14 rfl ⟨q8, trivial⟩ ?_
            exact T176_5 hd (h 1 (h 5 0)) h _ e
          · refine zF_blk (m := []) (d := 0) (b := B176_14) (gs := [¬ ((h 1 (h 5 0)) = 60)]) (c' := (150, [some (22, 0), some (0, (h 1 (h 5 0))), none, none, none], [(22, 0)], (hc, h, o))) K176_14 rfl ⟨q8, trivial⟩ ?_
            rcases zI_s e with ⟨q9, e⟩ | ⟨q9, e⟩
            · refine zF_blk (m := []) (d := 1) (b := B176_13) (gs := [(h 1 (h 5 0)) = 61]) (c' := (174, [some (22, 0), some (0, (h 1 (h 5 0))), none, none, none], [(22, 0)], (hc, h, o))) K176_13 rfl ⟨q9, trivial⟩ ?_
              exact T176_5 hd (h 1 (h 5 0)) h _ e
            · refine zF_blk (m := []) (d := 0) (b := B176_13) (gs := [¬ ((h 1 (h 5 0)) = 61)]) (c' := (156, [some (22, 0), some (0, (h 1 (h 5 0))), none, none, none], [(22, 0)], (hc, h, o))) K176_13 rfl ⟨q9, trivial⟩ ?_
              rcases zI_s e with ⟨q10, e⟩ | ⟨q10, e⟩
              · refine zF_blk (m := []) (d := 1) (b := B176_12) (gs := [(h 1 (h 5 0)) = 62]) (c' := (174, [some (22, 0), some (0, (h 1 (h 5 0))), none, none, none], [(22, 0)], (hc, h, o))) K176_12 rfl ⟨q10, trivial⟩ ?_
                exact T176_5 hd (h 1 (h 5 0)) h _ e
              · refine zF_blk (m := []) (d := 0) (b := B176_12) (gs := [¬ ((h 1 (h 5 0)) = 62)]) (c' := (162, [some (22, 0), some (0, (h 1 (h 5 0))), none, none, none], [(22, 0)], (hc, h, o))) K176_12 rfl ⟨q10, trivial⟩ ?_
                rcases zI_s e with ⟨q11, e⟩ | ⟨q11, e⟩
                · refine zF_blk (m := []) (d := 1) (b := B176_11) (gs := [(h 1 (h 5 0)) = 40]) (c' := (174, [some (22, 0), some (0, (h 1 (h 5 0))), none, none, none], [(22, 0)], (hc, h, o))) K176_11 rfl ⟨q11, trivial⟩ ?_
                  exact T176_5 hd (h 1 (h 5 0)) h _ e
                · refine zF_blk (m := []) (d := 0) (b := B176_11) (gs := [¬ ((h 1 (h 5 0)) = 40)]) (c' := (168, [some (22, 0), some (0, (h 1 (h 5 0))), none, none, none], [(22, 0)], (hc, h, o))) K176_11 rfl ⟨q11, trivial⟩ ?_
                  rcases zI_s e with ⟨q12, e⟩ | ⟨q12, e⟩
                  · refine zF_blk (m := []) (d := 1) (b := B176_10) (gs := [¬ (h 1 (h 5 0)) = 41]) (c' := (178, [some (22, 0), some (0, (h 1 (h 5 0))), none, none, none], [(22, 0)], (hc, h, o))) K176_10 rfl ⟨q12, trivial⟩ ?_
                    refine zF_blk (m := []) (d := 0) (b := B176_9) (gs := []) (c' := (179, [some (22, 0), some (0, (h 1 (h 5 0))), none, none, none], [(0, 1), (22, 0)], (hc, h, o))) K176_9 rfl trivial ?_
                    exact T176_6 hd (h 1 (h 5 0)) 1 h _ e
                  · refine zF_blk (m := []) (d := 0) (b := B176_10) (gs := [¬ (¬ (h 1 (h 5 0)) = 41)]) (c' := (174, [some (22, 0), some (0, (h 1 (h 5 0))), none, none, none], [(22, 0)], (hc, h, o))) K176_10 rfl ⟨q12, trivial⟩ ?_
                    exact T176_5 hd (h 1 (h 5 0)) h _ e
  · refine zF_blk (m := []) (d := 0) (b := B176_19) (gs := [¬ ((h 5 0) < (h 3 0))]) (c' := (107, [some (22, 0), none, none, none, none], [], (hc, h, o))) K176_19 rfl ⟨q1, trivial⟩ ?_
    refine zF_blk (m := []) (d := 0) (b := B176_18) (gs := []) (c' := (112, [some (22, 0), none, none, none, none], [], (hc, (mset h 7 0 0), o))) K176_18 rfl trivial ?_
    obtain rfl := Option.some.inj e
    exact zF_rv (by decide +kernel)
def F176_1 (h : zHM) : Option zHM := if (h 3 0) ≤ (h 4 0) then F176_3 (mset h 6 0 (h 5 0)) else if (h 5 0) < (h 4 0) then F176_3 (mset h 6 0 (h 5 0)) else some (mset (mset (mset h 6 0 (h 5 0)) 6 0 (h 4 0)) 7 0 1)
set_option maxRecDepth 100000 in
theorem T176_1 {spec : zRn zH2} {hc : zHC} {o : Int → Int} {d : Nat} (hd : 1 ≤ d) (h : zHM) (v : zHM) (e : F176_1 h = some v) : zFin 0 (fun _ => 0) (zRu2 spec d) 176 none (hc, v, o) (52, [some (22, 0), none, none, none, none], [], (hc, h, o)) := by
  unfold F176_1 at e
  rcases zI_s e with ⟨q1, e⟩ | ⟨q1, e⟩
  · refine zF_blk (m := []) (d := 1) (b := B176_6) (gs := [(h 3 0) ≤ (h 4 0)]) (c' := (96, [some (22, 0), none, none, none, none], [], (hc, (mset h 6 0 (h 5 0)), o))) K176_6 rfl ⟨q1, trivial⟩ ?_
    exact T176_3 hd (mset h 6 0 (h 5 0)) _ e
  · refine zF_blk (m := []) (d := 0) (b := B176_6) (gs := [¬ ((h 3 0) ≤ (h 4 0))]) (c' := (71, [some (22, 0), none, none, none, none], [], (hc, (mset h 6 0 (h 5 0)), o))) K176_6 rfl ⟨q1, trivial⟩ ?_
    rcases zI_s e with ⟨q2, e⟩ | ⟨q2, e⟩
    · refine zF_blk (m := []) (d := 1) (b := B176_5) (gs := [(h 5 0) < (h 4 0)]) (c' := (96, [some (22, 0), none, none, none, none], [], (hc, (mset h 6 0 (h 5 0)), o))) K176_5 rfl ⟨q2, trivial⟩ ?_
      exact T176_3 hd (mset h 6 0 (h 5 0)) _ e
    · refine zF_blk (m := []) (d := 0) (b := B176_5) (gs := [¬ ((h 5 0) < (h 4 0))]) (c' := (82, [some (22, 0), none, none, none, none], [], (hc, (mset h 6 0 (h 5 0)), o))) K176_5 rfl ⟨q2, trivial⟩ ?_
      refine zF_blk (m := []) (d := 0) (b := B176_4) (gs := []) (c' := (95, [some (22, 0), none, none, none, none], [], (hc, (mset (mset (mset h 6 0 (h 5 0)) 6 0 (h 4 0)) 7 0 1), o))) K176_4 rfl trivial ?_
      obtain rfl := Option.some.inj e
      exact zF_rv (by decide +kernel)
def F176_2 (k0 : zHM → Option zHM) (h : zHM) : Option zHM := k0 (mset h 5 0 (wadd (h 5 0) 1))
set_option maxRecDepth 100000 in
theorem T176_2 {spec : zRn zH2} {hc : zHC} {o : Int → Int} {d : Nat} (hd : 1 ≤ d) (k0 : zHM → Option zHM) (hk0 : ∀ (h : zHM) (v : zHM), k0 h = some v → zFin 0 (fun _ => 0) (zRu2 spec d) 176 none (hc, v, o) (0, [some (22, 0), none, none, none, none], [], (hc, h, o))) (h : zHM) (v : zHM) (e : F176_2 k0 h = some v) : zFin 0 (fun _ => 0) (zRu2 spec d) 176 none (hc, v, o) (39, [some (22, 0), none, none, none, none], [], (hc, h, o)) := by
  unfold F176_2 at e
  refine zF_blk (m := []) (d := 0) (b := B176_3) (gs := []) (c' := (0, [some (22, 0), none, none, none, none], [], (hc, (mset h 5 0 (wadd (h 5 0) 1)), o))) K176_3 rfl trivial ?_
  exact hk0 (mset h 5 0 (wadd (h 5 0) 1)) _ e
def F176_0 : Nat → zHM → Option zHM
  | 0, _ => none
  | n + 1, h => if (h 3 0) ≤ (h 5 0) then F176_1 h else zG (0 ≤ (h 5 0) ∧ (h 5 0) < 940) (if (h 1 (h 5 0)) = 32 then F176_2 (F176_0 n) h else zG (0 ≤ (h 5 0) ∧ (h 5 0) < 940) (if ¬ (h 1 (h 5 0)) = 10 then F176_1 h else F176_2 (F176_0 n) h))
set_option maxRecDepth 100000 in
theorem T176_0 {spec : zRn zH2} {hc : zHC} {o : Int → Int} {d : Nat} (hd : 1 ≤ d) : ∀ (n : Nat) (h : zHM) (v : zHM), F176_0 n h = some v → zFin 0 (fun _ => 0) (zRu2 spec d) 176 none (hc, v, o) (0, [some (22, 0), none, none, none, none], [], (hc, h, o)) := by
  intro n
  induction n with
  | zero => intro h v e; unfold F176_0 at e; cases e
  | succ n hk0 =>
    intro h v e
    unfold F176_0 at e
    rcases zI_s e with ⟨q1, e⟩ | ⟨q1, e⟩
    · refine zF_blk (m := []) (d := 1) (b := B176_2) (gs := [(h 3 0) ≤ (h 5 0)]) (c' := (52, [some (22, 0), none, none, none, none], [], (hc, h, o))) K176_2 rfl ⟨q1, trivial⟩ ?_
      exact T176_1 hd h _ e
    · refine zF_blk (m := []) (d := 0) (b := B176_2) (gs := [¬ ((h 3 0) ≤ (h 5 0))]) (c' := (11, [some (22, 0), none, none, none, none], [], (hc, h, o))) K176_2 rfl ⟨q1, trivial⟩ ?_
      obtain ⟨q2, e⟩ := zG_s e
      rcases zI_s e with ⟨q3, e⟩ | ⟨q3, e⟩
      · refine zF_blk (m := []) (d := 1) (b := B176_1) (gs := [0 ≤ (h 5 0) ∧ (h 5 0) < 940, (h 1 (h 5 0)) = 32]) (c' := (39, [some (22, 0), none, none, none, none], [], (hc, h, o))) K176_1 rfl ⟨q2, q3, trivial⟩ ?_
        exact T176_2 hd (F176_0 n) hk0 h _ e
      · refine zF_blk (m := []) (d := 0) (b := B176_1) (gs := [0 ≤ (h 5 0) ∧ (h 5 0) < 940, ¬ ((h 1 (h 5 0)) = 32)]) (c' := (25, [some (22, 0), none, none, none, none], [], (hc, h, o))) K176_1 rfl ⟨q2, q3, trivial⟩ ?_
        obtain ⟨q4, e⟩ := zG_s e
        rcases zI_s e with ⟨q5, e⟩ | ⟨q5, e⟩
        · refine zF_blk (m := []) (d := 1) (b := B176_0) (gs := [0 ≤ (h 5 0) ∧ (h 5 0) < 940, ¬ (h 1 (h 5 0)) = 10]) (c' := (52, [some (22, 0), none, none, none, none], [], (hc, h, o))) K176_0 rfl ⟨q4, q5, trivial⟩ ?_
          exact T176_1 hd h _ e
        · refine zF_blk (m := []) (d := 0) (b := B176_0) (gs := [0 ≤ (h 5 0) ∧ (h 5 0) < 940, ¬ (¬ (h 1 (h 5 0)) = 10)]) (c' := (39, [some (22, 0), none, none, none, none], [], (hc, h, o))) K176_0 rfl ⟨q4, q5, trivial⟩ ?_
          exact T176_2 hd (F176_0 n) hk0 h _ e
/-- EchoValeModel.go()V -/
def F176 (h : zHM) : Option zHM := F176_0 zFu h
set_option maxRecDepth 100000 in
theorem S176 {spec : zRn zH2} {hc : zHC} {o : Int → Int} {d : Nat} (hd : 2 ≤ d) (h : zHM) (v : zHM) (e : F176 h = some v) : zRu2 spec d 176 [(22, 0)] (hc, h, o) none (hc, v, o) := by
  refine zF_in (D := 1) (mx := 5) (L := [some (22, 0), none, none, none, none]) (by decide +kernel) rfl rfl hd (fun d hd => ?_)
  unfold F176 at e
  exact T176_0 hd zFu h _ e
