/-! Functions of the methods, by wip/gen/lift.py. -/
def B223_0 : List zRow := [(0, .aload_n 0, 1, (0, 0, 0)), (1, .iconst 0, 1, (0, 0, 0)), (2, .putfield 81, 3, (12, 0, 0)), (5, .aload_n 0, 1, (0, 0, 0)), (6, .iload_n 1, 1, (0, 0, 0))]
theorem K223_0 : zRk 223 B223_0 = true := by decide +kernel
def B223_1 : List zRow := [(21, .iconst 0, 1, (0, 0, 0))]
theorem K223_1 : zRk 223 B223_1 = true := by decide +kernel
def B223_2 : List zRow := [(13, .aload_n 0, 1, (0, 0, 0)), (14, .iload_n 2, 1, (0, 0, 0))]
theorem K223_2 : zRk 223 B223_2 = true := by decide +kernel
def B223_3 : List zRow := [(23, .aload_n 0, 1, (0, 0, 0))]
theorem K223_3 : zRk 223 B223_3 = true := by decide +kernel
def B223_4 : List zRow := [(27, .aload_n 0, 1, (0, 0, 0)), (28, .getfield 13, 3, (12, 14, 5251442)), (31, .sipush 210, 3, (0, 0, 0)), (34, .iload_n 1, 1, (0, 0, 0))]
theorem K223_4 : zRk 223 B223_4 = true := by decide +kernel
def B223_5 : List zRow := [(35, .iadd, 1, (0, 0, 0)), (36, .iload_n 2, 1, (0, 0, 0)), (37, .iastore, 1, (0, 0, 0)), (38, .iconst 1, 1, (0, 0, 0))]
theorem K223_5 : zRk 223 B223_5 = true := by decide +kernel
def B223_6 : List zRow := [(18, .ifCond .ne 5, 3, (0, 0, 0))]
theorem K223_6 : zRk 223 B223_6 = true := by decide +kernel
def B223_7 : List zRow := [(10, .ifCond .eq 11, 3, (0, 0, 0))]
theorem K223_7 : zRk 223 B223_7 = true := by decide +kernel
/-- EchoValeModel.goes(II)Z -/
def F223 (v1 : Int) (v2 : Int) (h : zHM) : Option (Int × zHM) := (F210 v1 (mset h 0 0 0)).bind fun r1 => if r1 = 0 then some (0, (mset h 0 0 0)) else (F224 v2 (mset h 0 0 0)).bind fun r2 => if ¬ r2 = 0 then (F225 (mset h 0 0 0)).bind fun r3 => zG (0 ≤ (wadd 210 v1) ∧ (wadd 210 v1) < 2140) (some (1, (mset r3 14 (wadd 210 v1) v2))) else some (0, (mset h 0 0 0))
set_option maxRecDepth 100000 in
theorem S223 {spec : zRn zH2} {hc : zHC} {o : Int → Int} {d : Nat} (hd : 2 ≤ d) (v1 : Int) (v2 : Int) (h : zHM) (v : (Int × zHM)) (e : F223 v1 v2 h = some v) : zRu2 spec d 223 [(22, 0), (0, v1), (0, v2)] (hc, h, o) (some (0, v.1)) (hc, v.2, o) := by
  refine zF_in (D := 1) (mx := 3) (L := [some (22, 0), some (0, v1), some (0, v2)]) (by decide +kernel) rfl rfl hd (fun d hd => ?_)
  unfold F223 at e
  obtain ⟨r1, q1, e⟩ := zB_s e
  refine zF_blk (m := []) (d := 0) (b := B223_0) (gs := []) (c' := (7, [some (22, 0), some (0, v1), some (0, v2)], [(0, v1), (22, 0)], (hc, (mset h 0 0 0), o))) K223_0 rfl trivial ?_
  refine zF_call (k := 210) (cl := 12) (n := 2) (i := .invokevirtual 260) (args := [(22, 0), (0, v1)]) (rest := []) (g1 := (hc, (mset h 0 0 0), o)) (r1 := some (0, r1)) (by decide +kernel) rfl rfl rfl (st' := [(0, r1)]) rfl (S210 (Nat.le_trans (by decide) hd) v1 (mset h 0 0 0) _ q1) ?_
  rcases zI_s e with ⟨q2, e⟩ | ⟨q2, e⟩
  · refine zF_blk (m := []) (d := 1) (b := B223_7) (gs := [r1 = 0]) (c' := (21, [some (22, 0), some (0, v1), some (0, v2)], [], (hc, (mset h 0 0 0), o))) K223_7 rfl ⟨q2, trivial⟩ ?_
    refine zF_blk (m := []) (d := 0) (b := B223_1) (gs := []) (c' := (22, [some (22, 0), some (0, v1), some (0, v2)], [(0, 0)], (hc, (mset h 0 0 0), o))) K223_1 rfl trivial ?_
    exact zF_rbM (by decide +kernel) (Or.inl rfl) e
  · refine zF_blk (m := []) (d := 0) (b := B223_7) (gs := [¬ (r1 = 0)]) (c' := (13, [some (22, 0), some (0, v1), some (0, v2)], [], (hc, (mset h 0 0 0), o))) K223_7 rfl ⟨q2, trivial⟩ ?_
    obtain ⟨r2, q3, e⟩ := zB_s e
    refine zF_blk (m := []) (d := 0) (b := B223_2) (gs := []) (c' := (15, [some (22, 0), some (0, v1), some (0, v2)], [(0, v2), (22, 0)], (hc, (mset h 0 0 0), o))) K223_2 rfl trivial ?_
    refine zF_call (k := 224) (cl := 12) (n := 2) (i := .invokevirtual 305) (args := [(22, 0), (0, v2)]) (rest := []) (g1 := (hc, (mset h 0 0 0), o)) (r1 := some (0, r2)) (by decide +kernel) rfl rfl rfl (st' := [(0, r2)]) rfl (S224 (Nat.le_trans (by decide) hd) v2 (mset h 0 0 0) _ q3) ?_
    rcases zI_s e with ⟨q4, e⟩ | ⟨q4, e⟩
    · refine zF_blk (m := []) (d := 1) (b := B223_6) (gs := [¬ r2 = 0]) (c' := (23, [some (22, 0), some (0, v1), some (0, v2)], [], (hc, (mset h 0 0 0), o))) K223_6 rfl ⟨q4, trivial⟩ ?_
      obtain ⟨r3, q5, e⟩ := zB_s e
      refine zF_blk (m := []) (d := 0) (b := B223_3) (gs := []) (c' := (24, [some (22, 0), some (0, v1), some (0, v2)], [(22, 0)], (hc, (mset h 0 0 0), o))) K223_3 rfl trivial ?_
      refine zF_call (k := 225) (cl := 12) (n := 1) (i := .invokevirtual 308) (args := [(22, 0)]) (rest := []) (g1 := (hc, r3, o)) (r1 := none) (by decide +kernel) rfl rfl rfl (st' := []) rfl (S225 (Nat.le_trans (by decide) hd)  (mset h 0 0 0) _ q5) ?_
      obtain ⟨q6, e⟩ := zG_s e
      refine zF_blk (m := []) (d := 0) (b := B223_4) (gs := []) (c' := (35, [some (22, 0), some (0, v1), some (0, v2)], [(0, v1), (0, 210), (1344370422, 0)], (hc, r3, o))) K223_4 rfl trivial ?_
      refine zF_blk (m := []) (d := 0) (b := B223_5) (gs := [0 ≤ (wadd 210 v1) ∧ (wadd 210 v1) < 2140]) (c' := (39, [some (22, 0), some (0, v1), some (0, v2)], [(0, 1)], (hc, (mset r3 14 (wadd 210 v1) v2), o))) K223_5 rfl ⟨q6, trivial⟩ ?_
      exact zF_rbM (by decide +kernel) (Or.inr rfl) e
    · refine zF_blk (m := []) (d := 0) (b := B223_6) (gs := [¬ (¬ r2 = 0)]) (c' := (21, [some (22, 0), some (0, v1), some (0, v2)], [], (hc, (mset h 0 0 0), o))) K223_6 rfl ⟨q4, trivial⟩ ?_
      refine zF_blk (m := []) (d := 0) (b := B223_1) (gs := []) (c' := (22, [some (22, 0), some (0, v1), some (0, v2)], [(0, 0)], (hc, (mset h 0 0 0), o))) K223_1 rfl trivial ?_
      exact zF_rbM (by decide +kernel) (Or.inl rfl) e
def B74_0 : List zRow := [(15, .iconst 0, 1, (0, 0, 0))]
theorem K74_0 : zRk 74 B74_0 = true := by decide +kernel
def B74_1 : List zRow := [(11, .iconst 1, 1, (0, 0, 0)), (12, .goto 4, 3, (0, 0, 0))]
theorem K74_1 : zRk 74 B74_1 = true := by decide +kernel
def B74_2 : List zRow := [(5, .iload_n 0, 1, (0, 0, 0)), (6, .bipush 9, 2, (0, 0, 0)), (8, .if_icmp .gt 7, 3, (0, 0, 0))]
theorem K74_2 : zRk 74 B74_2 = true := by decide +kernel
def B74_3 : List zRow := [(0, .iload_n 0, 1, (0, 0, 0)), (1, .iconst 1, 1, (0, 0, 0)), (2, .if_icmp .lt 13, 3, (0, 0, 0))]
theorem K74_3 : zRk 74 B74_3 = true := by decide +kernel
/-- EchoVale.isLoud(I)Z -/
def F74 (v0 : Int) : Option Int := if v0 < 1 then some 0 else if 9 < v0 then some 0 else some 1
set_option maxRecDepth 100000 in
theorem S74 {spec : zRn zH2} {hm : zHM} {o : Int → Int} {d : Nat} (hd : 1 ≤ d) (v0 : Int) (h : zHC) (v : Int) (e : F74 v0 = some v) : zRu2 spec d 74 [(0, v0)] (h, hm, o) (some (0, v)) (h, hm, o) := by
  refine zF_in (D := 0) (mx := 1) (L := [some (0, v0)]) (by decide +kernel) rfl rfl hd (fun d hd => ?_)
  unfold F74 at e
  rcases zI_s e with ⟨q1, e⟩ | ⟨q1, e⟩
  · refine zF_blk (m := []) (d := 1) (b := B74_3) (gs := [v0 < 1]) (c' := (15, [some (0, v0)], [], (h, hm, o))) K74_3 rfl ⟨q1, trivial⟩ ?_
    refine zF_blk (m := []) (d := 0) (b := B74_0) (gs := []) (c' := (16, [some (0, v0)], [(0, 0)], (h, hm, o))) K74_0 rfl trivial ?_
    obtain rfl := Option.some.inj e
    exact zF_rb (by decide +kernel) (Or.inl rfl)
  · refine zF_blk (m := []) (d := 0) (b := B74_3) (gs := [¬ (v0 < 1)]) (c' := (5, [some (0, v0)], [], (h, hm, o))) K74_3 rfl ⟨q1, trivial⟩ ?_
    rcases zI_s e with ⟨q2, e⟩ | ⟨q2, e⟩
    · refine zF_blk (m := []) (d := 1) (b := B74_2) (gs := [9 < v0]) (c' := (15, [some (0, v0)], [], (h, hm, o))) K74_2 rfl ⟨q2, trivial⟩ ?_
      refine zF_blk (m := []) (d := 0) (b := B74_0) (gs := []) (c' := (16, [some (0, v0)], [(0, 0)], (h, hm, o))) K74_0 rfl trivial ?_
      obtain rfl := Option.some.inj e
      exact zF_rb (by decide +kernel) (Or.inl rfl)
    · refine zF_blk (m := []) (d := 0) (b := B74_2) (gs := [¬ (9 < v0)]) (c' := (11, [some (0, v0)], [], (h, hm, o))) K74_2 rfl ⟨q2, trivial⟩ ?_
      refine zF_blk (m := []) (d := 0) (b := B74_1) (gs := []) (c' := (16, [some (0, v0)], [(0, 1)], (h, hm, o))) K74_1 rfl trivial ?_
      obtain rfl := Option.some.inj e
      exact zF_rb (by decide +kernel) (Or.inr rfl)
def B75_0 : List zRow := [(13, .iconst 0, 1, (0, 0, 0))]
theorem K75_0 : zRk 75 B75_0 = true := by decide +kernel
def B75_1 : List zRow := [(9, .iconst 1, 1, (0, 0, 0)), (10, .goto 4, 3, (0, 0, 0))]
theorem K75_1 : zRk 75 B75_1 = true := by decide +kernel
def B75_2 : List zRow := [(0, .aload_n 0, 1, (0, 0, 0)), (1, .getfield 34, 3, (1, 1, 0)), (4, .bipush 30, 2, (0, 0, 0)), (6, .if_icmp .lt 7, 3, (0, 0, 0))]
theorem K75_2 : zRk 75 B75_2 = true := by decide +kernel
/-- EchoVale$Course.isFull()Z -/
def F75 (v0 : Int) (h : zHC) : Option Int := if (h 65 v0 0) < 30 then some 0 else some 1
set_option maxRecDepth 100000 in
theorem S75 {spec : zRn zH2} {hm : zHM} {o : Int → Int} {d : Nat} (hd : 1 ≤ d) (v0 : Int) (h : zHC) (v : Int) (e : F75 v0 h = some v) : zRu2 spec d 75 [(11, v0)] (h, hm, o) (some (0, v)) (h, hm, o) := by
  refine zF_in (D := 0) (mx := 1) (L := [some (11, v0)]) (by decide +kernel) rfl rfl hd (fun d hd => ?_)
  unfold F75 at e
  rcases zI_s e with ⟨q1, e⟩ | ⟨q1, e⟩
  · refine zF_blk (m := []) (d := 1) (b := B75_2) (gs := [(h 65 v0 0) < 30]) (c' := (13, [some (11, v0)], [], (h, hm, o))) K75_2 rfl ⟨q1, trivial⟩ ?_
    refine zF_blk (m := []) (d := 0) (b := B75_0) (gs := []) (c' := (14, [some (11, v0)], [(0, 0)], (h, hm, o))) K75_0 rfl trivial ?_
    obtain rfl := Option.some.inj e
    exact zF_rb (by decide +kernel) (Or.inl rfl)
  · refine zF_blk (m := []) (d := 0) (b := B75_2) (gs := [¬ ((h 65 v0 0) < 30)]) (c' := (9, [some (11, v0)], [], (h, hm, o))) K75_2 rfl ⟨q1, trivial⟩ ?_
    refine zF_blk (m := []) (d := 0) (b := B75_1) (gs := []) (c' := (14, [some (11, v0)], [(0, 1)], (h, hm, o))) K75_1 rfl trivial ?_
    obtain rfl := Option.some.inj e
    exact zF_rb (by decide +kernel) (Or.inr rfl)
def B77_0 : List zRow := [(0, .aload_n 0, 1, (0, 0, 0)), (1, .iload_n 1, 1, (0, 0, 0))]
theorem K77_0 : zRk 77 B77_0 = true := by decide +kernel
def B77_1 : List zRow := [(18, .iload_n 2, 1, (0, 0, 0))]
theorem K77_1 : zRk 77 B77_1 = true := by decide +kernel
def B77_2 : List zRow := [(8, .iconst 0, 1, (0, 0, 0)), (9, .iload_n 2, 1, (0, 0, 0)), (10, .iconst 2, 1, (0, 0, 0)), (11, .isub, 1, (0, 0, 0)), (12, .invokestatic 97, 3, (5004, 0, 0)), (15, .goto 4, 3, (0, 0, 0))]
theorem K77_2 : zRk 77 B77_2 = true := by decide +kernel
def B77_3 : List zRow := [(5, .ifCond .eq 13, 3, (0, 0, 0))]
theorem K77_3 : zRk 77 B77_3 = true := by decide +kernel
/-- EchoVale$Valley.lessFelt(II)I -/
def F77 (v0 : Int) (v1 : Int) (v2 : Int) (h : zHC) : Option Int := (F47 v0 v1 h).bind fun r1 => if r1 = 0 then some v2 else some (if 0 < (wsub v2 2) then (wsub v2 2) else 0)
set_option maxRecDepth 100000 in
theorem S77 {spec : zRn zH2} {hm : zHM} {o : Int → Int} {d : Nat} (hd : 2 ≤ d) (v0 : Int) (v1 : Int) (v2 : Int) (h : zHC) (v : Int) (e : F77 v0 v1 v2 h = some v) : zRu2 spec d 77 [(19, v0), (0, v1), (0, v2)] (h, hm, o) (some (0, v)) (h, hm, o) := by
  refine zF_in (D := 1) (mx := 3) (L := [some (19, v0), some (0, v1), some (0, v2)]) (by decide +kernel) rfl rfl hd (fun d hd => ?_)
  unfold F77 at e
  obtain ⟨r1, q1, e⟩ := zB_s e
  refine zF_blk (m := []) (d := 0) (b := B77_0) (gs := []) (c' := (2, [some (19, v0), some (0, v1), some (0, v2)], [(0, v1), (19, v0)], (h, hm, o))) K77_0 rfl trivial ?_
  refine zF_call (k := 47) (cl := 9) (n := 2) (i := .invokevirtual 93) (args := [(19, v0), (0, v1)]) (rest := []) (g1 := (h, hm, o)) (r1 := some (0, r1)) (by decide +kernel) rfl rfl rfl (st' := [(0, r1)]) rfl (S47 (Nat.le_trans (by decide) hd) v0 v1 h _ q1) ?_
  rcases zI_s e with ⟨q2, e⟩ | ⟨q2, e⟩
  · refine zF_blk (m := []) (d := 1) (b := B77_3) (gs := [r1 = 0]) (c' := (18, [some (19, v0), some (0, v1), some (0, v2)], [], (h, hm, o))) K77_3 rfl ⟨q2, trivial⟩ ?_
    refine zF_blk (m := []) (d := 0) (b := B77_1) (gs := []) (c' := (19, [some (19, v0), some (0, v1), some (0, v2)], [(0, v2)], (h, hm, o))) K77_1 rfl trivial ?_
    obtain rfl := Option.some.inj e
    exact zF_ri (by decide +kernel)
  · refine zF_blk (m := []) (d := 0) (b := B77_3) (gs := [¬ (r1 = 0)]) (c' := (8, [some (19, v0), some (0, v1), some (0, v2)], [], (h, hm, o))) K77_3 rfl ⟨q2, trivial⟩ ?_
    refine zF_blk (m := []) (d := 0) (b := B77_2) (gs := []) (c' := (19, [some (19, v0), some (0, v1), some (0, v2)], [(0, (if 0 < (wsub v2 2) then (wsub v2 2) else 0))], (h, hm, o))) K77_2 rfl trivial ?_
    obtain rfl := Option.some.inj e
    exact zF_ri (by decide +kernel)
def B81_0 : List zRow := [(59, .iload_n 2, 1, (0, 0, 0)), (60, .iload_n 0, 1, (0, 0, 0)), (61, .if_icmp .le 12, 3, (0, 0, 0))]
theorem K81_0 : zRk 81 B81_0 = true := by decide +kernel
def B81_1 : List zRow := [(46, .iload_n 1, 1, (0, 0, 0)), (47, .ifCond .ge 12, 3, (0, 0, 0))]
theorem K81_1 : zRk 81 B81_1 = true := by decide +kernel
def B81_2 : List zRow := [(0, .iload_n 1, 1, (0, 0, 0)), (1, .iload_n 2, 1, (0, 0, 0)), (2, .if_icmp .le 44, 3, (0, 0, 0))]
theorem K81_2 : zRk 81 B81_2 = true := by decide +kernel
/-- java/util/Arrays.rangeCheck(III)V -/
def F81 (v0 : Int) (v1 : Int) (v2 : Int) (h : zHC) : Option zHC := if v1 ≤ v2 then if 0 ≤ v1 then if v2 ≤ v0 then some h else none else none else none
set_option maxRecDepth 100000 in
theorem S81 {spec : zRn zH2} {hm : zHM} {o : Int → Int} {d : Nat} (hd : 1 ≤ d) (v0 : Int) (v1 : Int) (v2 : Int) (h : zHC) (v : zHC) (e : F81 v0 v1 v2 h = some v) : zRu2 spec d 81 [(0, v0), (0, v1), (0, v2)] (h, hm, o) none (v, hm, o) := by
  refine zF_in (D := 0) (mx := 3) (L := [some (0, v0), some (0, v1), some (0, v2)]) (by decide +kernel) rfl rfl hd (fun d hd => ?_)
  unfold F81 at e
  rcases zI_s e with ⟨q1, e⟩ | ⟨q1, e⟩
  · refine zF_blk (m := []) (d := 1) (b := B81_2) (gs := [v1 ≤ v2]) (c' := (46, [some (0, v0), some (0, v1), some (0, v2)], [], (h, hm, o))) K81_2 rfl ⟨q1, trivial⟩ ?_
    rcases zI_s e with ⟨q2, e⟩ | ⟨q2, e⟩
    · refine zF_blk (m := []) (d := 1) (b := B81_1) (gs := [0 ≤ v1]) (c' := (59, [some (0, v0), some (0, v1), some (0, v2)], [], (h, hm, o))) K81_1 rfl ⟨q2, trivial⟩ ?_
      rcases zI_s e with ⟨q3, e⟩ | ⟨q3, e⟩
      · refine zF_blk (m := []) (d := 1) (b := B81_0) (gs := [v2 ≤ v0]) (c' := (73, [some (0, v0), some (0, v1), some (0, v2)], [], (h, hm, o))) K81_0 rfl ⟨q3, trivial⟩ ?_
        obtain rfl := Option.some.inj e
        exact zF_rv (by decide +kernel)
      · refine zF_blk (m := []) (d := 0) (b := B81_0) (gs := [¬ (v2 ≤ v0)]) (c' := (64, [some (0, v0), some (0, v1), some (0, v2)], [], (h, hm, o))) K81_0 rfl ⟨q3, trivial⟩ ?_
        cases e
    · refine zF_blk (m := []) (d := 0) (b := B81_1) (gs := [¬ (0 ≤ v1)]) (c' := (50, [some (0, v0), some (0, v1), some (0, v2)], [], (h, hm, o))) K81_1 rfl ⟨q2, trivial⟩ ?_
      cases e
  · refine zF_blk (m := []) (d := 0) (b := B81_2) (gs := [¬ (v1 ≤ v2)]) (c' := (5, [some (0, v0), some (0, v1), some (0, v2)], [], (h, hm, o))) K81_2 rfl ⟨q1, trivial⟩ ?_
    cases e
def B80_0 : List zRow := [(0, .aload_n 0, 1, (0, 0, 0)), (1, .arraylength, 1, (0, 0, 0)), (2, .iload_n 1, 1, (0, 0, 0)), (3, .iload_n 2, 1, (0, 0, 0))]
theorem K80_0 : zRk 80 B80_0 = true := by decide +kernel
def B80_1 : List zRow := [(7, .iload_n 1, 1, (0, 0, 0)), (8, .istore 4, 2, (0, 0, 0))]
theorem K80_1 : zRk 80 B80_1 = true := by decide +kernel
def B80_2 : List zRow := [(16, .aload_n 0, 1, (0, 0, 0)), (17, .iload 4, 2, (0, 0, 0)), (19, .iload_n 3, 1, (0, 0, 0)), (20, .iastore, 1, (0, 0, 0)), (21, .iinc 4 1, 3, (0, 0, 0)), (24, .goto (-14), 3, (0, 0, 0))]
theorem K80_2 : zRk 80 B80_2 = true := by decide +kernel
def B80_3 : List zRow := [(10, .iload 4, 2, (0, 0, 0)), (12, .iload_n 2, 1, (0, 0, 0)), (13, .if_icmp .ge 14, 3, (0, 0, 0))]
theorem K80_3 : zRk 80 B80_3 = true := by decide +kernel
def F80_0 : Nat → Int → Int → Int → Int → zHC → Option zHC
  | 0, _, _, _, _, _ => none
  | n + 1, v0, v2, v3, v4, h => if v2 ≤ v4 then some h else zG (0 ≤ v4 ∧ v4 < 180) ((F80_0 n) v0 v2 v3 (wadd v4 1) (hset h 68 v0 v4 v3))
set_option maxRecDepth 100000 in
theorem T80_0 {spec : zRn zH2} {hm : zHM} {o : Int → Int} {d : Nat} (hd : 1 ≤ d) : ∀ (n : Nat) (v0 : Int) (v2 : Int) (v3 : Int) (v4 : Int) (h : zHC) (v : zHC), F80_0 n v0 v2 v3 v4 h = some v → zFin 0 (fun _ => 0) (zRu2 spec d) 80 none (v, hm, o) (10, [some (1342362668, v0), none, some (0, v2), some (0, v3), some (0, v4)], [], (h, hm, o)) := by
  intro n
  induction n with
  | zero => intro v0 v2 v3 v4 h v e; unfold F80_0 at e; cases e
  | succ n hk0 =>
    intro v0 v2 v3 v4 h v e
    unfold F80_0 at e
    rcases zI_s e with ⟨q1, e⟩ | ⟨q1, e⟩
    · refine zF_blk (m := []) (d := 1) (b := B80_3) (gs := [v2 ≤ v4]) (c' := (27, [some (1342362668, v0), none, some (0, v2), some (0, v3), some (0, v4)], [], (h, hm, o))) K80_3 rfl ⟨q1, trivial⟩ ?_
      obtain rfl := Option.some.inj e
      exact zF_rv (by decide +kernel)
    · refine zF_blk (m := []) (d := 0) (b := B80_3) (gs := [¬ (v2 ≤ v4)]) (c' := (16, [some (1342362668, v0), none, some (0, v2), some (0, v3), some (0, v4)], [], (h, hm, o))) K80_3 rfl ⟨q1, trivial⟩ ?_
      obtain ⟨q2, e⟩ := zG_s e
      refine zF_blk (m := []) (d := 0) (b := B80_2) (gs := [0 ≤ v4 ∧ v4 < 180]) (c' := (10, [some (1342362668, v0), none, some (0, v2), some (0, v3), some (0, (wadd v4 1))], [], ((hset h 68 v0 v4 v3), hm, o))) K80_2 rfl ⟨q2, trivial⟩ ?_
      exact hk0 v0 v2 v3 (wadd v4 1) (hset h 68 v0 v4 v3) _ e
/-- java/util/Arrays.fill([IIII)V -/
def F80 (v0 : Int) (v1 : Int) (v2 : Int) (v3 : Int) (h : zHC) : Option zHC := (F81 180 v1 v2 h).bind fun r1 => F80_0 zFu v0 v2 v3 v1 r1
set_option maxRecDepth 100000 in
theorem S80 {spec : zRn zH2} {hm : zHM} {o : Int → Int} {d : Nat} (hd : 2 ≤ d) (v0 : Int) (v1 : Int) (v2 : Int) (v3 : Int) (h : zHC) (v : zHC) (e : F80 v0 v1 v2 v3 h = some v) : zRu2 spec d 80 [(1342362668, v0), (0, v1), (0, v2), (0, v3)] (h, hm, o) none (v, hm, o) := by
  refine zF_in (D := 1) (mx := 5) (L := [some (1342362668, v0), some (0, v1), some (0, v2), some (0, v3), none]) (by decide +kernel) rfl rfl hd (fun d hd => ?_)
  unfold F80 at e
  obtain ⟨r1, q1, e⟩ := zB_s e
  refine zF_blk (m := []) (d := 0) (b := B80_0) (gs := []) (c' := (4, [some (1342362668, v0), some (0, v1), some (0, v2), some (0, v3), none], [(0, v2), (0, v1), (0, 180)], (h, hm, o))) K80_0 rfl trivial ?_
  refine zF_call (k := 81) (cl := 15) (n := 3) (i := .invokestatic 13) (args := [(0, 180), (0, v1), (0, v2)]) (rest := []) (g1 := (r1, hm, o)) (r1 := none) (by decide +kernel) rfl rfl rfl (st' := []) rfl (S81 (Nat.le_trans (by decide) hd) 180 v1 v2 h _ q1) ?_
  refine zF_blk (m := []) (d := 0) (b := B80_1) (gs := []) (c' := (10, [some (1342362668, v0), some (0, v1), some (0, v2), some (0, v3), some (0, v1)], [], (r1, hm, o))) K80_1 rfl trivial ?_
  refine zF_blk (m := [true, false, true, true, true]) (d := 0) (b := []) (gs := []) (c' := (10, [some (1342362668, v0), none, some (0, v2), some (0, v3), some (0, v1)], [], (r1, hm, o))) rfl rfl trivial ?_
  exact T80_0 hd zFu v0 v2 v3 v1 r1 _ e
def B86_0 : List zRow := [(0, .ldc 87, 2, (0, 0, 1000000)), (2, .istore_n 2, 1, (0, 0, 0)), (3, .iload_n 1, 1, (0, 0, 0)), (4, .bipush 6, 2, (0, 0, 0)), (6, .imul, 1, (0, 0, 0)), (7, .istore_n 3, 1, (0, 0, 0))]
theorem K86_0 : zRk 86 B86_0 = true := by decide +kernel
def B86_1 : List zRow := [(54, .aload_n 0, 1, (0, 0, 0)), (55, .getfield 27, 3, (1, 8, 5243002)), (58, .iload_n 1, 1, (0, 0, 0)), (59, .iload_n 2, 1, (0, 0, 0)), (60, .iastore, 1, (0, 0, 0))]
theorem K86_1 : zRk 86 B86_1 = true := by decide +kernel
def B86_2 : List zRow := [(41, .aload_n 0, 1, (0, 0, 0)), (42, .getfield 15, 3, (1, 4, 5243602)), (45, .iload_n 3, 1, (0, 0, 0)), (46, .iaload, 1, (0, 0, 0)), (47, .istore_n 2, 1, (0, 0, 0))]
theorem K86_2 : zRk 86 B86_2 = true := by decide +kernel
def B86_3 : List zRow := [(31, .aload_n 0, 1, (0, 0, 0)), (32, .getfield 15, 3, (1, 4, 5243602)), (35, .iload_n 3, 1, (0, 0, 0)), (36, .iaload, 1, (0, 0, 0)), (37, .iload_n 2, 1, (0, 0, 0)), (38, .if_icmp .ge 10, 3, (0, 0, 0))]
theorem K86_3 : zRk 86 B86_3 = true := by decide +kernel
def B86_4 : List zRow := [(18, .aload_n 0, 1, (0, 0, 0)), (19, .getfield 15, 3, (1, 4, 5243602)), (22, .iload_n 3, 1, (0, 0, 0)), (23, .iaload, 1, (0, 0, 0)), (24, .aload_n 0, 1, (0, 0, 0)), (25, .getfield 30, 3, (1, 0, 0)), (28, .if_icmp .le 20, 3, (0, 0, 0))]
theorem K86_4 : zRk 86 B86_4 = true := by decide +kernel
def B86_5 : List zRow := [(8, .iload_n 3, 1, (0, 0, 0)), (9, .iload_n 1, 1, (0, 0, 0)), (10, .iconst 1, 1, (0, 0, 0)), (11, .iadd, 1, (0, 0, 0)), (12, .bipush 6, 2, (0, 0, 0)), (14, .imul, 1, (0, 0, 0)), (15, .if_icmp .ge 39, 3, (0, 0, 0))]
theorem K86_5 : zRk 86 B86_5 = true := by decide +kernel
def B86_6 : List zRow := [(48, .iinc 3 1, 3, (0, 0, 0)), (51, .goto (-43), 3, (0, 0, 0))]
theorem K86_6 : zRk 86 B86_6 = true := by decide +kernel
def F86_1 (k0 : Int → Int → Int → Int → zHC → Option zHC) (v0 : Int) (v1 : Int) (v2 : Int) (v3 : Int) (h : zHC) : Option zHC := k0 v0 v1 v2 (wadd v3 1) h
set_option maxRecDepth 100000 in
theorem T86_1 {spec : zRn zH2} {hm : zHM} {o : Int → Int} {d : Nat} (hd : 0 ≤ d) (k0 : Int → Int → Int → Int → zHC → Option zHC) (hk0 : ∀ (v0 : Int) (v1 : Int) (v2 : Int) (v3 : Int) (h : zHC) (v : zHC), k0 v0 v1 v2 v3 h = some v → zFin 0 (fun _ => 0) (zRu2 spec d) 86 none (v, hm, o) (8, [some (11, v0), some (0, v1), some (0, v2), some (0, v3)], [], (h, hm, o))) (v0 : Int) (v1 : Int) (v2 : Int) (v3 : Int) (h : zHC) (v : zHC) (e : F86_1 k0 v0 v1 v2 v3 h = some v) : zFin 0 (fun _ => 0) (zRu2 spec d) 86 none (v, hm, o) (48, [some (11, v0), some (0, v1), some (0, v2), some (0, v3)], [], (h, hm, o)) := by
  unfold F86_1 at e
  refine zF_blk (m := []) (d := 0) (b := B86_6) (gs := []) (c' := (8, [some (11, v0), some (0, v1), some (0, v2), some (0, (wadd v3 1))], [], (h, hm, o))) K86_6 rfl trivial ?_
  exact hk0 v0 v1 v2 (wadd v3 1) h _ e
def F86_0 : Nat → Int → Int → Int → Int → zHC → Option zHC
  | 0, _, _, _, _, _ => none
  | n + 1, v0, v1, v2, v3, h => if (wmul (wadd v1 1) 6) ≤ v3 then zG (0 ≤ v1 ∧ v1 < 30) (some (hset h 72 v0 v1 v2)) else zG (0 ≤ v3 ∧ v3 < 180) (if (h 68 v0 v3) ≤ (h 64 v0 0) then F86_1 (F86_0 n) v0 v1 v2 v3 h else zG (0 ≤ v3 ∧ v3 < 180) (if v2 ≤ (h 68 v0 v3) then F86_1 (F86_0 n) v0 v1 v2 v3 h else zG (0 ≤ v3 ∧ v3 < 180) (F86_1 (F86_0 n) v0 v1 (h 68 v0 v3) v3 h)))
set_option maxRecDepth 100000 in
theorem T86_0 {spec : zRn zH2} {hm : zHM} {o : Int → Int} {d : Nat} (hd : 0 ≤ d) : ∀ (n : Nat) (v0 : Int) (v1 : Int) (v2 : Int) (v3 : Int) (h : zHC) (v : zHC), F86_0 n v0 v1 v2 v3 h = some v → zFin 0 (fun _ => 0) (zRu2 spec d) 86 none (v, hm, o) (8, [some (11, v0), some (0, v1), some (0, v2), some (0, v3)], [], (h, hm, o)) := by
  intro n
  induction n with
  | zero => intro v0 v1 v2 v3 h v e; unfold F86_0 at e; cases e
  | succ n hk0 =>
    intro v0 v1 v2 v3 h v e
    unfold F86_0 at e
    rcases zI_s e with ⟨q1, e⟩ | ⟨q1, e⟩
    · refine zF_blk (m := []) (d := 1) (b := B86_5) (gs := [(wmul (wadd v1 1) 6) ≤ v3]) (c' := (54, [some (11, v0), some (0, v1), some (0, v2), some (0, v3)], [], (h, hm, o))) K86_5 rfl ⟨q1, trivial⟩ ?_
      obtain ⟨q2, e⟩ := zG_s e
      refine zF_blk (m := []) (d := 0) (b := B86_1) (gs := [0 ≤ v1 ∧ v1 < 30]) (c' := (61, [some (11, v0), some (0, v1), some (0, v2), some (0, v3)], [], ((hset h 72 v0 v1 v2), hm, o))) K86_1 rfl ⟨q2, trivial⟩ ?_
      obtain rfl := Option.some.inj e
      exact zF_rv (by decide +kernel)
    · refine zF_blk (m := []) (d := 0) (b := B86_5) (gs := [¬ ((wmul (wadd v1 1) 6) ≤ v3)]) (c' := (18, [some (11, v0), some (0, v1), some (0, v2), some (0, v3)], [], (h, hm, o))) K86_5 rfl ⟨q1, trivial⟩ ?_
      obtain ⟨q3, e⟩ := zG_s e
      rcases zI_s e with ⟨q4, e⟩ | ⟨q4, e⟩
      · refine zF_blk (m := []) (d := 1) (b := B86_4) (gs := [0 ≤ v3 ∧ v3 < 180, (h 68 v0 v3) ≤ (h 64 v0 0)]) (c' := (48, [some (11, v0), some (0, v1), some (0, v2), some (0, v3)], [], (h, hm, o))) K86_4 rfl ⟨q3, q4, trivial⟩ ?_
        exact T86_1 hd (F86_0 n) hk0 v0 v1 v2 v3 h _ e
      · refine zF_blk (m := []) (d := 0) (b := B86_4) (gs := [0 ≤ v3 ∧ v3 < 180, ¬ ((h 68 v0 v3) ≤ (h 64 v0 0))]) (c' := (31, [some (11, v0), some (0, v1), some (0, v2), some (0, v3)], [], (h, hm, o))) K86_4 rfl ⟨q3, q4, trivial⟩ ?_
        obtain ⟨q5, e⟩ := zG_s e
        rcases zI_s e with ⟨q6, e⟩ | ⟨q6, e⟩
        · refine zF_blk (m := []) (d := 1) (b := B86_3) (gs := [0 ≤ v3 ∧ v3 < 180, v2 ≤ (h 68 v0 v3)]) (c' := (48, [some (11, v0), some (0, v1), some (0, v2), some (0, v3)], [], (h, hm, o))) K86_3 rfl ⟨q5, q6, trivial⟩ ?_
          exact T86_1 hd (F86_0 n) hk0 v0 v1 v2 v3 h _ e
        · refine zF_blk (m := []) (d := 0) (b := B86_3) (gs := [0 ≤ v3 ∧ v3 < 180, ¬ (v2 ≤ (h 68 v0 v3))]) (c' := (41, [some (11, v0), some (0, v1), some (0, v2), some (0, v3)], [], (h, hm, o))) K86_3 rfl ⟨q5, q6, trivial⟩ ?_
          obtain ⟨q7, e⟩ := zG_s e
          refine zF_blk (m := []) (d := 0) (b := B86_2) (gs := [0 ≤ v3 ∧ v3 < 180]) (c' := (48, [some (11, v0), some (0, v1), some (0, (h 68 v0 v3)), some (0, v3)], [], (h, hm, o))) K86_2 rfl ⟨q7, trivial⟩ ?_
          exact T86_1 hd (F86_0 n) hk0 v0 v1 (h 68 v0 v3) v3 h _ e
/-- EchoVale$Course.findSoonest(I)V -/
def F86 (v0 : Int) (v1 : Int) (h : zHC) : Option zHC := F86_0 zFu v0 v1 1000000 (wmul v1 6) h
set_option maxRecDepth 100000 in
theorem S86 {spec : zRn zH2} {hm : zHM} {o : Int → Int} {d : Nat} (hd : 1 ≤ d) (v0 : Int) (v1 : Int) (h : zHC) (v : zHC) (e : F86 v0 v1 h = some v) : zRu2 spec d 86 [(11, v0), (0, v1)] (h, hm, o) none (v, hm, o) := by
  refine zF_in (D := 0) (mx := 4) (L := [some (11, v0), some (0, v1), none, none]) (by decide +kernel) rfl rfl hd (fun d hd => ?_)
  unfold F86 at e
  refine zF_blk (m := []) (d := 0) (b := B86_0) (gs := []) (c' := (8, [some (11, v0), some (0, v1), some (0, 1000000), some (0, (wmul v1 6))], [], (h, hm, o))) K86_0 rfl trivial ?_
  exact T86_0 hd zFu v0 v1 1000000 (wmul v1 6) h _ e
def B83_0 : List zRow := [(0, .iload_n 0, 1, (0, 0, 0)), (1, .bipush 10, 2, (0, 0, 0)), (3, .idiv, 1, (0, 0, 0)), (4, .iload_n 1, 1, (0, 0, 0)), (5, .bipush 10, 2, (0, 0, 0)), (7, .idiv, 1, (0, 0, 0)), (8, .isub, 1, (0, 0, 0)), (9, .invokestatic 80, 3, (5002, 0, 0)), (12, .iload_n 0, 1, (0, 0, 0)), (13, .bipush 10, 2, (0, 0, 0)), (15, .irem, 1, (0, 0, 0)), (16, .iload_n 1, 1, (0, 0, 0)), (17, .bipush 10, 2, (0, 0, 0)), (19, .irem, 1, (0, 0, 0)), (20, .isub, 1, (0, 0, 0)), (21, .invokestatic 80, 3, (5002, 0, 0)), (24, .iadd, 1, (0, 0, 0))]
theorem K83_0 : zRk 83 B83_0 = true := by decide +kernel
/-- EchoVale$Valley.distance(II)I -/
def F83 (v0 : Int) (v1 : Int) : Option Int := some (wadd (if (wsub (wdiv v0 10) (wdiv v1 10)) < 0 then wneg (wsub (wdiv v0 10) (wdiv v1 10)) else (wsub (wdiv v0 10) (wdiv v1 10))) (if (wsub (wrem v0 10) (wrem v1 10)) < 0 then wneg (wsub (wrem v0 10) (wrem v1 10)) else (wsub (wrem v0 10) (wrem v1 10))))
set_option maxRecDepth 100000 in
theorem S83 {spec : zRn zH2} {hm : zHM} {o : Int → Int} {d : Nat} (hd : 1 ≤ d) (v0 : Int) (v1 : Int) (h : zHC) (v : Int) (e : F83 v0 v1 = some v) : zRu2 spec d 83 [(0, v0), (0, v1)] (h, hm, o) (some (0, v)) (h, hm, o) := by
  refine zF_in (D := 0) (mx := 2) (L := [some (0, v0), some (0, v1)]) (by decide +kernel) rfl rfl hd (fun d hd => ?_)
  unfold F83 at e
  refine zF_blk (m := []) (d := 0) (b := B83_0) (gs := [¬ 10 = 0, ¬ 10 = 0, ¬ 10 = 0, ¬ 10 = 0]) (c' := (25, [some (0, v0), some (0, v1)], [(0, (wadd (if (wsub (wdiv v0 10) (wdiv v1 10)) < 0 then wneg (wsub (wdiv v0 10) (wdiv v1 10)) else (wsub (wdiv v0 10) (wdiv v1 10))) (if (wsub (wrem v0 10) (wrem v1 10)) < 0 then wneg (wsub (wrem v0 10) (wrem v1 10)) else (wsub (wrem v0 10) (wrem v1 10)))))], (h, hm, o))) K83_0 rfl ⟨by decide, by decide, by decide, by decide, trivial⟩ ?_
  obtain rfl := Option.some.inj e
  exact zF_ri (by decide +kernel)
def B82_0 : List zRow := [(0, .aload_n 0, 1, (0, 0, 0)), (1, .getfield 15, 3, (9, 8, 5242906)), (4, .iload_n 1, 1, (0, 0, 0)), (5, .iaload, 1, (0, 0, 0)), (6, .iload_n 2, 1, (0, 0, 0))]
theorem K82_0 : zRk 82 B82_0 = true := by decide +kernel
def B82_1 : List zRow := [(32, .iconst 0, 1, (0, 0, 0))]
theorem K82_1 : zRk 82 B82_1 = true := by decide +kernel
def B82_2 : List zRow := [(23, .iload_n 3, 1, (0, 0, 0)), (24, .iload 4, 2, (0, 0, 0)), (26, .iconst 2, 1, (0, 0, 0)), (27, .idiv, 1, (0, 0, 0)), (28, .isub, 1, (0, 0, 0)), (29, .goto 4, 3, (0, 0, 0))]
theorem K82_2 : zRk 82 B82_2 = true := by decide +kernel
def B82_3 : List zRow := [(17, .iload 4, 2, (0, 0, 0)), (19, .iload_n 3, 1, (0, 0, 0)), (20, .if_icmp .gt 12, 3, (0, 0, 0))]
theorem K82_3 : zRk 82 B82_3 = true := by decide +kernel
def B82_4 : List zRow := [(10, .istore 4, 2, (0, 0, 0)), (12, .iload_n 3, 1, (0, 0, 0)), (13, .iconst 1, 1, (0, 0, 0)), (14, .if_icmp .lt 18, 3, (0, 0, 0))]
theorem K82_4 : zRk 82 B82_4 = true := by decide +kernel
/-- EchoVale$Valley.directly(III)I -/
def F82 (v0 : Int) (v1 : Int) (v2 : Int) (v3 : Int) (h : zHC) : Option Int := zG (0 ≤ v1 ∧ v1 < 6) ((F83 (h 584 v0 v1) v2).bind fun r1 => if v3 < 1 then some 0 else if v3 < r1 then some 0 else some (wsub v3 (wdiv r1 2)))
set_option maxRecDepth 100000 in
theorem S82 {spec : zRn zH2} {hm : zHM} {o : Int → Int} {d : Nat} (hd : 2 ≤ d) (v0 : Int) (v1 : Int) (v2 : Int) (v3 : Int) (h : zHC) (v : Int) (e : F82 v0 v1 v2 v3 h = some v) : zRu2 spec d 82 [(19, v0), (0, v1), (0, v2), (0, v3)] (h, hm, o) (some (0, v)) (h, hm, o) := by
  refine zF_in (D := 1) (mx := 5) (L := [some (19, v0), some (0, v1), some (0, v2), some (0, v3), none]) (by decide +kernel) rfl rfl hd (fun d hd => ?_)
  unfold F82 at e
  obtain ⟨q1, e⟩ := zG_s e
  obtain ⟨r1, q2, e⟩ := zB_s e
  refine zF_blk (m := []) (d := 0) (b := B82_0) (gs := [0 ≤ v1 ∧ v1 < 6]) (c' := (7, [some (19, v0), some (0, v1), some (0, v2), some (0, v3), none], [(0, v2), (0, (h 584 v0 v1))], (h, hm, o))) K82_0 rfl ⟨q1, trivial⟩ ?_
  refine zF_call (k := 83) (cl := 9) (n := 2) (i := .invokestatic 101) (args := [(0, (h 584 v0 v1)), (0, v2)]) (rest := []) (g1 := (h, hm, o)) (r1 := some (0, r1)) (by decide +kernel) rfl rfl rfl (st' := [(0, r1)]) rfl (S83 (Nat.le_trans (by decide) hd) (h 584 v0 v1) v2 h _ q2) ?_
  rcases zI_s e with ⟨q3, e⟩ | ⟨q3, e⟩
  · refine zF_blk (m := []) (d := 1) (b := B82_4) (gs := [v3 < 1]) (c' := (32, [some (19, v0), some (0, v1), some (0, v2), some (0, v3), some (0, r1)], [], (h, hm, o))) K82_4 rfl ⟨q3, trivial⟩ ?_
    refine zF_blk (m := []) (d := 0) (b := B82_1) (gs := []) (c' := (33, [some (19, v0), some (0, v1), some (0, v2), some (0, v3), some (0, r1)], [(0, 0)], (h, hm, o))) K82_1 rfl trivial ?_
    obtain rfl := Option.some.inj e
    exact zF_ri (by decide +kernel)
  · refine zF_blk (m := []) (d := 0) (b := B82_4) (gs := [¬ (v3 < 1)]) (c' := (17, [some (19, v0), some (0, v1), some (0, v2), some (0, v3), some (0, r1)], [], (h, hm, o))) K82_4 rfl ⟨q3, trivial⟩ ?_
    rcases zI_s e with ⟨q4, e⟩ | ⟨q4, e⟩
    · refine zF_blk (m := []) (d := 1) (b := B82_3) (gs := [v3 < r1]) (c' := (32, [some (19, v0), some (0, v1), some (0, v2), some (0, v3), some (0, r1)], [], (h, hm, o))) K82_3 rfl ⟨q4, trivial⟩ ?_
      refine zF_blk (m := []) (d := 0) (b := B82_1) (gs := []) (c' := (33, [some (19, v0), some (0, v1), some (0, v2), some (0, v3), some (0, r1)], [(0, 0)], (h, hm, o))) K82_1 rfl trivial ?_
      obtain rfl := Option.some.inj e
      exact zF_ri (by decide +kernel)
    · refine zF_blk (m := []) (d := 0) (b := B82_3) (gs := [¬ (v3 < r1)]) (c' := (23, [some (19, v0), some (0, v1), some (0, v2), some (0, v3), some (0, r1)], [], (h, hm, o))) K82_3 rfl ⟨q4, trivial⟩ ?_
      refine zF_blk (m := []) (d := 0) (b := B82_2) (gs := [¬ 2 = 0]) (c' := (33, [some (19, v0), some (0, v1), some (0, v2), some (0, v3), some (0, r1)], [(0, (wsub v3 (wdiv r1 2)))], (h, hm, o))) K82_2 rfl ⟨by decide, trivial⟩ ?_
      obtain rfl := Option.some.inj e
      exact zF_ri (by decide +kernel)
