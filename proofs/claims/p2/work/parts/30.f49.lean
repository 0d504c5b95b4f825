/-! Functions of the methods, by wip/gen/lift.py. -/
def B275_0 : List zRow := [(0, .aload_n 0, 1, (0, 0, 0)), (1, .iconst 0, 1, (0, 0, 0)), (2, .putfield 81, 3, (12, 0, 0)), (5, .iload_n 1, 1, (0, 0, 0)), (6, .iconst 0, 1, (0, 0, 0)), (7, .iconst 1, 1, (0, 0, 0))]
theorem K275_0 : zRk 275 B275_0 = true := by decide +kernel
def B275_1 : List zRow := [(16, .iconst (-1), 1, (0, 0, 0)), (17, .istore_n 2, 1, (0, 0, 0)), (18, .iconst 0, 1, (0, 0, 0)), (19, .istore_n 3, 1, (0, 0, 0))]
theorem K275_1 : zRk 275 B275_1 = true := by decide +kernel
def B275_2 : List zRow := [(14, .iconst (-1), 1, (0, 0, 0))]
theorem K275_2 : zRk 275 B275_2 = true := by decide +kernel
def B275_3 : List zRow := [(11, .ifCond .ne 5, 3, (0, 0, 0))]
theorem K275_3 : zRk 275 B275_3 = true := by decide +kernel
def B275_4 : List zRow := [(77, .iload_n 2, 1, (0, 0, 0))]
theorem K275_4 : zRk 275 B275_4 = true := by decide +kernel
def B275_5 : List zRow := [(56, .aload_n 0, 1, (0, 0, 0)), (57, .iload_n 3, 1, (0, 0, 0))]
theorem K275_5 : zRk 275 B275_5 = true := by decide +kernel
def B275_6 : List zRow := [(61, .aload_n 0, 1, (0, 0, 0)), (62, .iload_n 2, 1, (0, 0, 0))]
theorem K275_6 : zRk 275 B275_6 = true := by decide +kernel
def B275_7 : List zRow := [(66, .if_icmp .ge 5, 3, (0, 0, 0))]
theorem K275_7 : zRk 275 B275_7 = true := by decide +kernel
def B275_8 : List zRow := [(40, .aload_n 0, 1, (0, 0, 0)), (41, .iload_n 3, 1, (0, 0, 0))]
theorem K275_8 : zRk 275 B275_8 = true := by decide +kernel
def B275_9 : List zRow := [(45, .aload_n 0, 1, (0, 0, 0)), (46, .iload_n 2, 1, (0, 0, 0))]
theorem K275_9 : zRk 275 B275_9 = true := by decide +kernel
def B275_10 : List zRow := [(53, .goto 16, 3, (0, 0, 0))]
theorem K275_10 : zRk 275 B275_10 = true := by decide +kernel
def B275_11 : List zRow := [(50, .if_icmp .le 21, 3, (0, 0, 0))]
theorem K275_11 : zRk 275 B275_11 = true := by decide +kernel
def B275_12 : List zRow := [(35, .iload_n 1, 1, (0, 0, 0)), (36, .iconst 1, 1, (0, 0, 0)), (37, .if_icmp .ne 19, 3, (0, 0, 0))]
theorem K275_12 : zRk 275 B275_12 = true := by decide +kernel
def B275_13 : List zRow := [(30, .iload_n 2, 1, (0, 0, 0)), (31, .iconst (-1), 1, (0, 0, 0)), (32, .if_icmp .eq 37, 3, (0, 0, 0))]
theorem K275_13 : zRk 275 B275_13 = true := by decide +kernel
def B275_14 : List zRow := [(20, .iload_n 3, 1, (0, 0, 0)), (21, .aload_n 0, 1, (0, 0, 0)), (22, .getfield 13, 3, (12, 14, 5251442)), (25, .iconst 3, 1, (0, 0, 0)), (26, .iaload, 1, (0, 0, 0)), (27, .if_icmp .ge 50, 3, (0, 0, 0))]
theorem K275_14 : zRk 275 B275_14 = true := by decide +kernel
def B275_15 : List zRow := [(71, .iinc 3 1, 3, (0, 0, 0)), (74, .goto (-54), 3, (0, 0, 0))]
theorem K275_15 : zRk 275 B275_15 = true := by decide +kernel
def B275_16 : List zRow := [(69, .iload_n 3, 1, (0, 0, 0)), (70, .istore_n 2, 1, (0, 0, 0))]
theorem K275_16 : zRk 275 B275_16 = true := by decide +kernel
def F275_2 (k0 : Int → Int → Int → zHM → Option (Int × zHM)) (v1 : Int) (v2 : Int) (v3 : Int) (h : zHM) : Option (Int × zHM) := k0 v1 v2 (wadd v3 1) h
set_option maxRecDepth 100000 in
theorem T275_2 {spec : zRn zH2} {hc : zHC} {o : Int → Int} {d : Nat} (hd : 3 ≤ d) (k0 : Int → Int → Int → zHM → Option (Int × zHM)) (hk0 : ∀ (v1 : Int) (v2 : Int) (v3 : Int) (h : zHM) (v : (Int × zHM)), k0 v1 v2 v3 h = some v → zFin 0 (fun _ => 0) (zRu2 spec d) 275 (some (0, v.1)) (hc, v.2, o) (20, [some (22, 0), some (0, v1), some (0, v2), some (0, v3)], [], (hc, h, o))) (v1 : Int) (v2 : Int) (v3 : Int) (h : zHM) (v : (Int × zHM)) (e : F275_2 k0 v1 v2 v3 h = some v) : zFin 0 (fun _ => 0) (zRu2 spec d) 275 (some (0, v.1)) (hc, v.2, o) (71, [some (22, 0), some (0, v1), some (0, v2), some (0, v3)], [], (hc, h, o)) := by
  unfold F275_2 at e
  refine zF_blk (m := []) (d := 0) (b := B275_15) (gs := []) (c' := (20, [some (22, 0), some (0, v1), some (0, v2), some (0, (wadd v3 1))], [], (hc, h, o))) K275_15 rfl trivial ?_
  exact hk0 v1 v2 (wadd v3 1) h _ e
def F275_1 (k0 : Int → Int → Int → zHM → Option (Int × zHM)) (v1 : Int) (v3 : Int) (h : zHM) : Option (Int × zHM) := F275_2 k0 v1 v3 v3 h
set_option maxRecDepth 100000 in
theorem T275_1 {spec : zRn zH2} {hc : zHC} {o : Int → Int} {d : Nat} (hd : 3 ≤ d) (k0 : Int → Int → Int → zHM → Option (Int × zHM)) (hk0 : ∀ (v1 : Int) (v2 : Int) (v3 : Int) (h : zHM) (v : (Int × zHM)), k0 v1 v2 v3 h = some v → zFin 0 (fun _ => 0) (zRu2 spec d) 275 (some (0, v.1)) (hc, v.2, o) (20, [some (22, 0), some (0, v1), some (0, v2), some (0, v3)], [], (hc, h, o))) (v1 : Int) (v3 : Int) (h : zHM) (v : (Int × zHM)) (e : F275_1 k0 v1 v3 h = some v) : zFin 0 (fun _ => 0) (zRu2 spec d) 275 (some (0, v.1)) (hc, v.2, o) (69, [some (22, 0), some (0, v1), none, some (0, v3)], [], (hc, h, o)) := by
  unfold F275_1 at e
  refine zF_blk (m := []) (d := 0) (b := B275_16) (gs := []) (c' := (71, [some (22, 0), some (0, v1), some (0, v3), some (0, v3)], [], (hc, h, o))) K275_16 rfl trivial ?_
  exact T275_2 hd k0 hk0 v1 v3 v3 h _ e
def F275_0 : Nat → Int → Int → Int → zHM → Option (Int × zHM)
  | 0, _, _, _, _ => none
  | n + 1, v1, v2, v3, h => if (h 14 3) ≤ v3 then some (v2, h) else if v2 = (-1) then F275_1 (F275_0 n) v1 v3 h else if ¬ v1 = 1 then (F211 v3 h).bind fun r1 => (F211 v2 h).bind fun r2 => if r2 ≤ r1 then F275_2 (F275_0 n) v1 v2 v3 h else F275_1 (F275_0 n) v1 v3 h else (F211 v3 h).bind fun r3 => (F211 v2 h).bind fun r4 => if r3 ≤ r4 then F275_2 (F275_0 n) v1 v2 v3 h else F275_1 (F275_0 n) v1 v3 h
set_option maxRecDepth 100000 in
theorem T275_0 {spec : zRn zH2} {hc : zHC} {o : Int → Int} {d : Nat} (hd : 3 ≤ d) : ∀ (n : Nat) (v1 : Int) (v2 : Int) (v3 : Int) (h : zHM) (v : (Int × zHM)), F275_0 n v1 v2 v3 h = some v → zFin 0 (fun _ => 0) (zRu2 spec d) 275 (some (0, v.1)) (hc, v.2, o) (20, [some (22, 0), some (0, v1), some (0, v2), some (0, v3)], [], (hc, h, o)) := by
  intro n
  induction n with
  | zero => intro v1 v2 v3 h v e; unfold F275_0 at e; cases e
  | succ n hk0 =>
    intro v1 v2 v3 h v e
    unfold F275_0 at e
    rcases zI_s e with ⟨q1, e⟩ | ⟨q1, e⟩
    · refine zF_blk (m := []) (d := 1) (b := B275_14) (gs := [0 ≤ 3 ∧ 3 < 2140, (h 14 3) ≤ v3]) (c' := (77, [some (22, 0), some (0, v1), some (0, v2), some (0, v3)], [], (hc, h, o))) K275_14 rfl ⟨by decide, q1, trivial⟩ ?_
      refine zF_blk (m := []) (d := 0) (b := B275_4) (gs := []) (c' := (78, [some (22, 0), some (0, v1), some (0, v2), some (0, v3)], [(0, v2)], (hc, h, o))) K275_4 rfl trivial ?_
      exact zF_riM (by decide +kernel) e
    · refine zF_blk (m := []) (d := 0) (b := B275_14) (gs := [0 ≤ 3 ∧ 3 < 2140, ¬ ((h 14 3) ≤ v3)]) (c' := (30, [some (22, 0), some (0, v1), some (0, v2), some (0, v3)], [], (hc, h, o))) K275_14 rfl ⟨by decide, q1, trivial⟩ ?_
      rcases zI_s e with ⟨q2, e⟩ | ⟨q2, e⟩
      · refine zF_blk (m := []) (d := 1) (b := B275_13) (gs := [v2 = (-1)]) (c' := (69, [some (22, 0), some (0, v1), some (0, v2), some (0, v3)], [], (hc, h, o))) K275_13 rfl ⟨q2, trivial⟩ ?_
        refine zF_blk (m := [true, true, false, true]) (d := 0) (b := []) (gs := []) (c' := (69, [some (22, 0), some (0, v1), none, some (0, v3)], [], (hc, h, o))) rfl rfl trivial ?_
        exact T275_1 hd (F275_0 n) hk0 v1 v3 h _ e
      · refine zF_blk (m := []) (d := 0) (b := B275_13) (gs := [¬ (v2 = (-1))]) (c' := (35, [some (22, 0), some (0, v1), some (0, v2), some (0, v3)], [], (hc, h, o))) K275_13 rfl ⟨q2, trivial⟩ ?_
        rcases zI_s e with ⟨q3, e⟩ | ⟨q3, e⟩
        · refine zF_blk (m := []) (d := 1) (b := B275_12) (gs := [¬ v1 = 1]) (c' := (56, [some (22, 0), some (0, v1), some (0, v2), some (0, v3)], [], (hc, h, o))) K275_12 rfl ⟨q3, trivial⟩ ?_
          obtain ⟨r1, q4, e⟩ := zB_s e
          refine zF_blk (m := []) (d := 0) (b := B275_5) (gs := []) (c' := (58, [some (22, 0), some (0, v1), some (0, v2), some (0, v3)], [(0, v3), (22, 0)], (hc, h, o))) K275_5 rfl trivial ?_
          refine zF_call (k := 211) (cl := 12) (n := 2) (i := .invokevirtual 263) (args := [(22, 0), (0, v3)]) (rest := []) (g1 := (hc, h, o)) (r1 := some (0, r1)) (by decide +kernel) rfl rfl rfl (st' := [(0, r1)]) rfl (S211 (Nat.le_trans (by decide) hd) v3 h _ q4) ?_
          obtain ⟨r2, q5, e⟩ := zB_s e
          refine zF_blk (m := []) (d := 0) (b := B275_6) (gs := []) (c' := (63, [some (22, 0), some (0, v1), some (0, v2), some (0, v3)], [(0, v2), (22, 0), (0, r1)], (hc, h, o))) K275_6 rfl trivial ?_
          refine zF_call (k := 211) (cl := 12) (n := 2) (i := .invokevirtual 263) (args := [(22, 0), (0, v2)]) (rest := [(0, r1)]) (g1 := (hc, h, o)) (r1 := some (0, r2)) (by decide +kernel) rfl rfl rfl (st' := [(0, r2), (0, r1)]) rfl (S211 (Nat.le_trans (by decide) hd) v2 h _ q5) ?_
          rcases zI_s e with ⟨q6, e⟩ | ⟨q6, e⟩
          · refine zF_blk (m := []) (d := 1) (b := B275_7) (gs := [r2 ≤ r1]) (c' := (71, [some (22, 0), some (0, v1), some (0, v2), some (0, v3)], [], (hc, h, o))) K275_7 rfl ⟨q6, trivial⟩ ?_
            exact T275_2 hd (F275_0 n) hk0 v1 v2 v3 h _ e
          · refine zF_blk (m := []) (d := 0) (b := B275_7) (gs := [¬ (r2 ≤ r1)]) (c' := (69, [some (22, 0), some (0, v1), some (0, v2), some (0, v3)], [], (hc, h, o))) K275_7 rfl ⟨q6, trivial⟩ ?_
            refine zF_blk (m := [true, true, false, true]) (d := 0) (b := []) (gs := []) (c' := (69, [some (22, 0), some (0, v1), none, some (0, v3)], [], (hc, h, o))) rfl rfl trivial ?_
            exact T275_1 hd (F275_0 n) hk0 v1 v3 h _ e
        · refine zF_blk (m := []) (d := 0) (b := B275_12) (gs := [¬ (¬ v1 = 1)]) (c' := (40, [some (22, 0), some (0, v1), some (0, v2), some (0, v3)], [], (hc, h, o))) K275_12 rfl ⟨q3, trivial⟩ ?_
          obtain ⟨r3, q7, e⟩ := zB_s e
          refine zF_blk (m := []) (d := 0) (b := B275_8) (gs := []) (c' := (42, [some (22, 0), some (0, v1), some (0, v2), some (0, v3)], [(0, v3), (22, 0)], (hc, h, o))) K275_8 rfl trivial ?_
          refine zF_call (k := 211) (cl := 12) (n := 2) (i := .invokevirtual 263) (args := [(22, 0), (0, v3)]) (rest := []) (g1 := (hc, h, o)) (r1 := some (0, r3)) (by decide +kernel) rfl rfl rfl (st' := [(0, r3)]) rfl (S211 (Nat.le_trans (by decide) hd) v3 h _ q7) ?_
          obtain ⟨r4, q8, e⟩ := zB_s e
          refine zF_blk (m := []) (d := 0) (b := B275_9) (gs := []) (c' := (47, [some (22, 0), some (0, v1), some (0, v2), some (0, v3)], [(0, v2), (22, 0), (0, r3)], (hc, h, o))) K275_9 rfl trivial ?_
          refine zF_call (k := 211) (cl := 12) (n := 2) (i := .invokevirtual 263) (args := [(22, 0), (0, v2)]) (rest := [(0, r3)]) (g1 := (hc, h, o)) (r1 := some (0, r4)) (by decide +kernel) rfl rfl rfl (st' := [(0, r4), (0, r3)]) rfl (S211 (Nat.le_trans (by decide) hd) v2 h _ q8) ?_
          rcases zI_s e with ⟨q9, e⟩ | ⟨q9, e⟩
          · refine zF_blk (m := []) (d := 1) (b := B275_11) (gs := [r3 ≤ r4]) (c' := (71, [some (22, 0), some (0, v1), some (0, v2), some (0, v3)], [], (hc, h, o))) K275_11 rfl ⟨q9, trivial⟩ ?_
            exact T275_2 hd (F275_0 n) hk0 v1 v2 v3 h _ e
          · refine zF_blk (m := []) (d := 0) (b := B275_11) (gs := [¬ (r3 ≤ r4)]) (c' := (53, [some (22, 0), some (0, v1), some (0, v2), some (0, v3)], [], (hc, h, o))) K275_11 rfl ⟨q9, trivial⟩ ?_
            refine zF_blk (m := []) (d := 0) (b := B275_10) (gs := []) (c' := (69, [some (22, 0), some (0, v1), some (0, v2), some (0, v3)], [], (hc, h, o))) K275_10 rfl trivial ?_
            refine zF_blk (m := [true, true, false, true]) (d := 0) (b := []) (gs := []) (c' := (69, [some (22, 0), some (0, v1), none, some (0, v3)], [], (hc, h, o))) rfl rfl trivial ?_
            exact T275_1 hd (F275_0 n) hk0 v1 v3 h _ e
/-- EchoValeModel.poorest(I)I -/
def F275 (v1 : Int) (h : zHM) : Option (Int × zHM) := (F188 v1 0 1).bind fun r1 => if ¬ r1 = 0 then F275_0 zFu v1 (-1) 0 (mset h 0 0 0) else some ((-1), (mset h 0 0 0))
set_option maxRecDepth 100000 in
theorem S275 {spec : zRn zH2} {hc : zHC} {o : Int → Int} {d : Nat} (hd : 4 ≤ d) (v1 : Int) (h : zHM) (v : (Int × zHM)) (e : F275 v1 h = some v) : zRu2 spec d 275 [(22, 0), (0, v1)] (hc, h, o) (some (0, v.1)) (hc, v.2, o) := by
  refine zF_in (D := 3) (mx := 4) (L := [some (22, 0), some (0, v1), none, none]) (by decide +kernel) rfl rfl hd (fun d hd => ?_)
  unfold F275 at e
  obtain ⟨r1, q1, e⟩ := zB_s e
  refine zF_blk (m := []) (d := 0) (b := B275_0) (gs := []) (c' := (8, [some (22, 0), some (0, v1), none, none], [(0, 1), (0, 0), (0, v1)], (hc, (mset h 0 0 0), o))) K275_0 rfl trivial ?_
  refine zF_call (k := 188) (cl := 12) (n := 3) (i := .invokestatic 151) (args := [(0, v1), (0, 0), (0, 1)]) (rest := []) (g1 := (hc, (mset h 0 0 0), o)) (r1 := some (0, r1)) (by decide +kernel) rfl rfl rfl (st' := [(0, r1)]) rfl (S188 (Nat.le_trans (by decide) hd) v1 0 1 (mset h 0 0 0) _ q1) ?_
  rcases zI_s e with ⟨q2, e⟩ | ⟨q2, e⟩
  · refine zF_blk (m := []) (d := 1) (b := B275_3) (gs := [¬ r1 = 0]) (c' := (16, [some (22, 0), some (0, v1), none, none], [], (hc, (mset h 0 0 0), o))) K275_3 rfl ⟨q2, trivial⟩ ?_
    refine zF_blk (m := []) (d := 0) (b := B275_1) (gs := []) (c' := (20, [some (22, 0), some (0, v1), some (0, (-1)), some (0, 0)], [], (hc, (mset h 0 0 0), o))) K275_1 rfl trivial ?_
    exact T275_0 hd zFu v1 (-1) 0 (mset h 0 0 0) _ e
  · refine zF_blk (m := []) (d := 0) (b := B275_3) (gs := [¬ (¬ r1 = 0)]) (c' := (14, [some (22, 0), some (0, v1), none, none], [], (hc, (mset h 0 0 0), o))) K275_3 rfl ⟨q2, trivial⟩ ?_
    refine zF_blk (m := []) (d := 0) (b := B275_2) (gs := []) (c' := (15, [some (22, 0), some (0, v1), none, none], [(0, (-1))], (hc, (mset h 0 0 0), o))) K275_2 rfl trivial ?_
    exact zF_riM (by decide +kernel) e
def B140_0 : List zRow := [(0, .aload_n 0, 1, (0, 0, 0)), (1, .getfield 19, 3, (11, 1, 39)), (4, .iload_n 1, 1, (0, 0, 0))]
theorem K140_0 : zRk 140 B140_0 = true := by decide +kernel
def B140_1 : List zRow := [(18, .iconst (-1), 1, (0, 0, 0))]
theorem K140_1 : zRk 140 B140_1 = true := by decide +kernel
def B140_2 : List zRow := [(11, .iload_n 2, 1, (0, 0, 0))]
theorem K140_2 : zRk 140 B140_2 = true := by decide +kernel
def B140_3 : List zRow := [(20, .aload_n 0, 1, (0, 0, 0)), (21, .getfield 19, 3, (11, 1, 39)), (24, .iload_n 1, 1, (0, 0, 0)), (25, .iload_n 2, 1, (0, 0, 0))]
theorem K140_3 : zRk 140 B140_3 = true := by decide +kernel
def B140_4 : List zRow := [(29, .istore_n 3, 1, (0, 0, 0)), (30, .iconst 0, 1, (0, 0, 0)), (31, .istore 4, 2, (0, 0, 0)), (33, .iconst 0, 1, (0, 0, 0)), (34, .istore 5, 2, (0, 0, 0))]
theorem K140_4 : zRk 140 B140_4 = true := by decide +kernel
def B140_5 : List zRow := [(15, .ifCond .ne 5, 3, (0, 0, 0))]
theorem K140_5 : zRk 140 B140_5 = true := by decide +kernel
def B140_6 : List zRow := [(8, .ifCond .eq 10, 3, (0, 0, 0))]
theorem K140_6 : zRk 140 B140_6 = true := by decide +kernel
def B140_7 : List zRow := [(77, .iload 4, 2, (0, 0, 0))]
theorem K140_7 : zRk 140 B140_7 = true := by decide +kernel
def B140_8 : List zRow := [(48, .aload_n 0, 1, (0, 0, 0)), (49, .getfield 19, 3, (11, 1, 39)), (52, .iload 5, 2, (0, 0, 0)), (54, .iload_n 1, 1, (0, 0, 0)), (55, .iload_n 3, 1, (0, 0, 0))]
theorem K140_8 : zRk 140 B140_8 = true := by decide +kernel
def B140_9 : List zRow := [(62, .iload 4, 2, (0, 0, 0)), (64, .iconst 1, 1, (0, 0, 0)), (65, .iload 5, 2, (0, 0, 0)), (67, .ishl, 1, (0, 0, 0)), (68, .ior, 1, (0, 0, 0)), (69, .istore 4, 2, (0, 0, 0))]
theorem K140_9 : zRk 140 B140_9 = true := by decide +kernel
def B140_10 : List zRow := [(59, .ifCond .le 12, 3, (0, 0, 0))]
theorem K140_10 : zRk 140 B140_10 = true := by decide +kernel
def B140_11 : List zRow := [(36, .iload 5, 2, (0, 0, 0)), (38, .aload_n 0, 1, (0, 0, 0)), (39, .getfield 19, 3, (11, 1, 39)), (42, .getfield 282, 3, (9, 2, 0)), (45, .if_icmp .ge 32, 3, (0, 0, 0))]
theorem K140_11 : zRk 140 B140_11 = true := by decide +kernel
def B140_12 : List zRow := [(71, .iinc 5 1, 3, (0, 0, 0)), (74, .goto (-38), 3, (0, 0, 0))]
theorem K140_12 : zRk 140 B140_12 = true := by decide +kernel
def F140_1 (k0 : Int → Int → Int → Int → Option Int) (h : zHC) (v1 : Int) (v3 : Int) (v4 : Int) (v5 : Int) : Option Int := k0 v1 v3 v4 (wadd v5 1)
set_option maxRecDepth 100000 in
theorem T140_1 {spec : zRn zH2} {hm : zHM} {o : Int → Int} {d : Nat} (hd : 2 ≤ d) (h : zHC) (k0 : Int → Int → Int → Int → Option Int) (hk0 : ∀ (v1 : Int) (v3 : Int) (v4 : Int) (v5 : Int) (v : Int), k0 v1 v3 v4 v5 = some v → zFin 0 (fun _ => 0) (zRu2 spec d) 140 (some (0, v)) (h, hm, o) (36, [some (21, 0), some (0, v1), none, some (0, v3), some (0, v4), some (0, v5)], [], (h, hm, o))) (v1 : Int) (v3 : Int) (v4 : Int) (v5 : Int) (v : Int) (e : F140_1 k0 h v1 v3 v4 v5 = some v) : zFin 0 (fun _ => 0) (zRu2 spec d) 140 (some (0, v)) (h, hm, o) (71, [some (21, 0), some (0, v1), none, some (0, v3), some (0, v4), some (0, v5)], [], (h, hm, o)) := by
  unfold F140_1 at e
  refine zF_blk (m := []) (d := 0) (b := B140_12) (gs := []) (c' := (36, [some (21, 0), some (0, v1), none, some (0, v3), some (0, v4), some (0, (wadd v5 1))], [], (h, hm, o))) K140_12 rfl trivial ?_
  exact hk0 v1 v3 v4 (wadd v5 1) _ e
def F140_0 (h : zHC) : Nat → Int → Int → Int → Int → Option Int
  | 0, _, _, _, _ => none
  | n + 1, v1, v3, v4, v5 => if (h 578 0 0) ≤ v5 then some v4 else (F82 0 v5 v1 v3 h).bind fun r1 => if r1 ≤ 0 then F140_1 (F140_0 h n) h v1 v3 v4 v5 else F140_1 (F140_0 h n) h v1 v3 (wor v4 (wshl 1 v5)) v5
set_option maxRecDepth 100000 in
theorem T140_0 {spec : zRn zH2} {hm : zHM} {o : Int → Int} {d : Nat} (hd : 2 ≤ d) (h : zHC) : ∀ (n : Nat) (v1 : Int) (v3 : Int) (v4 : Int) (v5 : Int) (v : Int), F140_0 h n v1 v3 v4 v5 = some v → zFin 0 (fun _ => 0) (zRu2 spec d) 140 (some (0, v)) (h, hm, o) (36, [some (21, 0), some (0, v1), none, some (0, v3), some (0, v4), some (0, v5)], [], (h, hm, o)) := by
  intro n
  induction n with
  | zero => intro v1 v3 v4 v5 v e; unfold F140_0 at e; cases e
  | succ n hk0 =>
    intro v1 v3 v4 v5 v e
    unfold F140_0 at e
    rcases zI_s e with ⟨q1, e⟩ | ⟨q1, e⟩
    · refine zF_blk (m := []) (d := 1) (b := B140_11) (gs := [(h 578 0 0) ≤ v5]) (c' := (77, [some (21, 0), some (0, v1), none, some (0, v3), some (0, v4), some (0, v5)], [], (h, hm, o))) K140_11 rfl ⟨q1, trivial⟩ ?_
      refine zF_blk (m := []) (d := 0) (b := B140_7) (gs := []) (c' := (79, [some (21, 0), some (0, v1), none, some (0, v3), some (0, v4), some (0, v5)], [(0, v4)], (h, hm, o))) K140_7 rfl trivial ?_
      obtain rfl := Option.some.inj e
      exact zF_ri (by decide +kernel)
    · refine zF_blk (m := []) (d := 0) (b := B140_11) (gs := [¬ ((h 578 0 0) ≤ v5)]) (c' := (48, [some (21, 0), some (0, v1), none, some (0, v3), some (0, v4), some (0, v5)], [], (h, hm, o))) K140_11 rfl ⟨q1, trivial⟩ ?_
      obtain ⟨r1, q2, e⟩ := zB_s e
      refine zF_blk (m := []) (d := 0) (b := B140_8) (gs := []) (c' := (56, [some (21, 0), some (0, v1), none, some (0, v3), some (0, v4), some (0, v5)], [(0, v3), (0, v1), (0, v5), (19, 0)], (h, hm, o))) K140_8 rfl trivial ?_
      refine zF_call (k := 82) (cl := 9) (n := 4) (i := .invokevirtual 285) (args := [(19, 0), (0, v5), (0, v1), (0, v3)]) (rest := []) (g1 := (h, hm, o)) (r1 := some (0, r1)) (by decide +kernel) rfl rfl rfl (st' := [(0, r1)]) rfl (S82 (Nat.le_trans (by decide) hd) 0 v5 v1 v3 h _ q2) ?_
      rcases zI_s e with ⟨q3, e⟩ | ⟨q3, e⟩
      · refine zF_blk (m := []) (d := 1) (b := B140_10) (gs := [r1 ≤ 0]) (c' := (71, [some (21, 0), some (0, v1), none, some (0, v3), some (0, v4), some (0, v5)], [], (h, hm, o))) K140_10 rfl ⟨q3, trivial⟩ ?_
        exact T140_1 hd h (F140_0 h n) hk0 v1 v3 v4 v5 _ e
      · refine zF_blk (m := []) (d := 0) (b := B140_10) (gs := [¬ (r1 ≤ 0)]) (c' := (62, [some (21, 0), some (0, v1), none, some (0, v3), some (0, v4), some (0, v5)], [], (h, hm, o))) K140_10 rfl ⟨q3, trivial⟩ ?_
        refine zF_blk (m := []) (d := 0) (b := B140_9) (gs := []) (c' := (71, [some (21, 0), some (0, v1), none, some (0, v3), some (0, (wor v4 (wshl 1 v5))), some (0, v5)], [], (h, hm, o))) K140_9 rfl trivial ?_
        exact T140_1 hd h (F140_0 h n) hk0 v1 v3 (wor v4 (wshl 1 v5)) v5 _ e
/-- EchoVale.reach(II)I -/
def F140 (v1 : Int) (v2 : Int) (h : zHC) : Option Int := (F69 0 v1 h).bind fun r1 => if r1 = 0 then some (-1) else (F74 v2).bind fun r2 => if ¬ r2 = 0 then (F77 0 v1 v2 h).bind fun r3 => F140_0 h zFu v1 r3 0 0 else some (-1)
set_option maxRecDepth 100000 in
theorem S140 {spec : zRn zH2} {hm : zHM} {o : Int → Int} {d : Nat} (hd : 3 ≤ d) (v1 : Int) (v2 : Int) (h : zHC) (v : Int) (e : F140 v1 v2 h = some v) : zRu2 spec d 140 [(21, 0), (0, v1), (0, v2)] (h, hm, o) (some (0, v)) (h, hm, o) := by
  refine zF_in (D := 2) (mx := 6) (L := [some (21, 0), some (0, v1), some (0, v2), none, none, none]) (by decide +kernel) rfl rfl hd (fun d hd => ?_)
  unfold F140 at e
  obtain ⟨r1, q1, e⟩ := zB_s e
  refine zF_blk (m := []) (d := 0) (b := B140_0) (gs := []) (c' := (5, [some (21, 0), some (0, v1), some (0, v2), none, none, none], [(0, v1), (19, 0)], (h, hm, o))) K140_0 rfl trivial ?_
  refine zF_call (k := 69) (cl := 9) (n := 2) (i := .invokevirtual 214) (args := [(19, 0), (0, v1)]) (rest := []) (g1 := (h, hm, o)) (r1 := some (0, r1)) (by decide +kernel) rfl rfl rfl (st' := [(0, r1)]) rfl (S69 (Nat.le_trans (by decide) hd) 0 v1 h _ q1) ?_
  rcases zI_s e with ⟨q2, e⟩ | ⟨q2, e⟩
  · refine zF_blk (m := []) (d := 1) (b := B140_6) (gs := [r1 = 0]) (c' := (18, [some (21, 0), some (0, v1), some (0, v2), none, none, none], [], (h, hm, o))) K140_6 rfl ⟨q2, trivial⟩ ?_
    refine zF_blk (m := []) (d := 0) (b := B140_1) (gs := []) (c' := (19, [some (21, 0), some (0, v1), some (0, v2), none, none, none], [(0, (-1))], (h, hm, o))) K140_1 rfl trivial ?_
    obtain rfl := Option.some.inj e
    exact zF_ri (by decide +kernel)
  · refine zF_blk (m := []) (d := 0) (b := B140_6) (gs := [¬ (r1 = 0)]) (c' := (11, [some (21, 0), some (0, v1), some (0, v2), none, none, none], [], (h, hm, o))) K140_6 rfl ⟨q2, trivial⟩ ?_
    obtain ⟨r2, q3, e⟩ := zB_s e
    refine zF_blk (m := []) (d := 0) (b := B140_2) (gs := []) (c' := (12, [some (21, 0), some (0, v1), some (0, v2), none, none, none], [(0, v2)], (h, hm, o))) K140_2 rfl trivial ?_
    refine zF_call (k := 74) (cl := 11) (n := 1) (i := .invokestatic 221) (args := [(0, v2)]) (rest := []) (g1 := (h, hm, o)) (r1 := some (0, r2)) (by decide +kernel) rfl rfl rfl (st' := [(0, r2)]) rfl (S74 (Nat.le_trans (by decide) hd) v2 h _ q3) ?_
    rcases zI_s e with ⟨q4, e⟩ | ⟨q4, e⟩
    · refine zF_blk (m := []) (d := 1) (b := B140_5) (gs := [¬ r2 = 0]) (c' := (20, [some (21, 0), some (0, v1), some (0, v2), none, none, none], [], (h, hm, o))) K140_5 rfl ⟨q4, trivial⟩ ?_
      obtain ⟨r3, q5, e⟩ := zB_s e
      refine zF_blk (m := []) (d := 0) (b := B140_3) (gs := []) (c' := (26, [some (21, 0), some (0, v1), some (0, v2), none, none, none], [(0, v2), (0, v1), (19, 0)], (h, hm, o))) K140_3 rfl trivial ?_
      refine zF_call (k := 77) (cl := 9) (n := 3) (i := .invokevirtual 279) (args := [(19, 0), (0, v1), (0, v2)]) (rest := []) (g1 := (h, hm, o)) (r1 := some (0, r3)) (by decide +kernel) rfl rfl rfl (st' := [(0, r3)]) rfl (S77 (Nat.le_trans (by decide) hd) 0 v1 v2 h _ q5) ?_
      refine zF_blk (m := []) (d := 0) (b := B140_4) (gs := []) (c' := (36, [some (21, 0), some (0, v1), some (0, v2), some (0, r3), some (0, 0), some (0, 0)], [], (h, hm, o))) K140_4 rfl trivial ?_
      refine zF_blk (m := [true, true, false, true, true, true]) (d := 0) (b := []) (gs := []) (c' := (36, [some (21, 0), some (0, v1), none, some (0, r3), some (0, 0), some (0, 0)], [], (h, hm, o))) rfl rfl trivial ?_
      exact T140_0 hd h zFu v1 r3 0 0 _ e
    · refine zF_blk (m := []) (d := 0) (b := B140_5) (gs := [¬ (¬ r2 = 0)]) (c' := (18, [some (21, 0), some (0, v1), some (0, v2), none, none, none], [], (h, hm, o))) K140_5 rfl ⟨q4, trivial⟩ ?_
      refine zF_blk (m := []) (d := 0) (b := B140_1) (gs := []) (c' := (19, [some (21, 0), some (0, v1), some (0, v2), none, none, none], [(0, (-1))], (h, hm, o))) K140_1 rfl trivial ?_
      obtain rfl := Option.some.inj e
      exact zF_ri (by decide +kernel)
def B260_0 : List zRow := [(0, .aload_n 0, 1, (0, 0, 0)), (1, .iconst 0, 1, (0, 0, 0)), (2, .putfield 81, 3, (12, 0, 0)), (5, .aload_n 0, 1, (0, 0, 0)), (6, .iload_n 1, 1, (0, 0, 0))]
theorem K260_0 : zRk 260 B260_0 = true := by decide +kernel
def B260_1 : List zRow := [(23, .iconst (-1), 1, (0, 0, 0))]
theorem K260_1 : zRk 260 B260_1 = true := by decide +kernel
def B260_2 : List zRow := [(13, .iload_n 2, 1, (0, 0, 0)), (14, .iconst 1, 1, (0, 0, 0)), (15, .bipush 9, 2, (0, 0, 0))]
theorem K260_2 : zRk 260 B260_2 = true := by decide +kernel
def B260_3 : List zRow := [(25, .iconst 0, 1, (0, 0, 0)), (26, .istore_n 3, 1, (0, 0, 0)), (27, .iconst 0, 1, (0, 0, 0)), (28, .istore 4, 2, (0, 0, 0))]
theorem K260_3 : zRk 260 B260_3 = true := by decide +kernel
def B260_4 : List zRow := [(20, .ifCond .ne 5, 3, (0, 0, 0))]
theorem K260_4 : zRk 260 B260_4 = true := by decide +kernel
def B260_5 : List zRow := [(10, .ifCond .eq 13, 3, (0, 0, 0))]
theorem K260_5 : zRk 260 B260_5 = true := by decide +kernel
def B260_6 : List zRow := [(70, .iload_n 3, 1, (0, 0, 0))]
theorem K260_6 : zRk 260 B260_6 = true := by decide +kernel
def B260_7 : List zRow := [(41, .aload_n 0, 1, (0, 0, 0)), (42, .iload 4, 2, (0, 0, 0)), (44, .iload_n 1, 1, (0, 0, 0)), (45, .aload_n 0, 1, (0, 0, 0)), (46, .iload_n 1, 1, (0, 0, 0)), (47, .iload_n 2, 1, (0, 0, 0))]
theorem K260_7 : zRk 260 B260_7 = true := by decide +kernel
def B260_8 : List zRow := [(57, .iload_n 3, 1, (0, 0, 0)), (58, .iconst 1, 1, (0, 0, 0)), (59, .iload 4, 2, (0, 0, 0)), (61, .ishl, 1, (0, 0, 0)), (62, .ior, 1, (0, 0, 0)), (63, .istore_n 3, 1, (0, 0, 0))]
theorem K260_8 : zRk 260 B260_8 = true := by decide +kernel
def B260_9 : List zRow := [(54, .ifCond .le 10, 3, (0, 0, 0))]
theorem K260_9 : zRk 260 B260_9 = true := by decide +kernel
def B260_10 : List zRow := [(30, .iload 4, 2, (0, 0, 0)), (32, .aload_n 0, 1, (0, 0, 0)), (33, .getfield 13, 3, (12, 14, 5251442)), (36, .iconst 2, 1, (0, 0, 0)), (37, .iaload, 1, (0, 0, 0)), (38, .if_icmp .ge 32, 3, (0, 0, 0))]
theorem K260_10 : zRk 260 B260_10 = true := by decide +kernel
def B260_11 : List zRow := [(64, .iinc 4 1, 3, (0, 0, 0)), (67, .goto (-37), 3, (0, 0, 0))]
theorem K260_11 : zRk 260 B260_11 = true := by decide +kernel
def F260_1 (k0 : Int → Int → Int → Int → zHM → Option (Int × zHM)) (v1 : Int) (v2 : Int) (v3 : Int) (v4 : Int) (h : zHM) : Option (Int × zHM) := k0 v1 v2 v3 (wadd v4 1) h
set_option maxRecDepth 100000 in
theorem T260_1 {spec : zRn zH2} {hc : zHC} {o : Int → Int} {d : Nat} (hd : 3 ≤ d) (k0 : Int → Int → Int → Int → zHM → Option (Int × zHM)) (hk0 : ∀ (v1 : Int) (v2 : Int) (v3 : Int) (v4 : Int) (h : zHM) (v : (Int × zHM)), k0 v1 v2 v3 v4 h = some v → zFin 0 (fun _ => 0) (zRu2 spec d) 260 (some (0, v.1)) (hc, v.2, o) (30, [some (22, 0), some (0, v1), some (0, v2), some (0, v3), some (0, v4)], [], (hc, h, o))) (v1 : Int) (v2 : Int) (v3 : Int) (v4 : Int) (h : zHM) (v : (Int × zHM)) (e : F260_1 k0 v1 v2 v3 v4 h = some v) : zFin 0 (fun _ => 0) (zRu2 spec d) 260 (some (0, v.1)) (hc, v.2, o) (64, [some (22, 0), some (0, v1), some (0, v2), some (0, v3), some (0, v4)], [], (hc, h, o)) := by
  unfold F260_1 at e
  refine zF_blk (m := []) (d := 0) (b := B260_11) (gs := []) (c' := (30, [some (22, 0), some (0, v1), some (0, v2), some (0, v3), some (0, (wadd v4 1))], [], (hc, h, o))) K260_11 rfl trivial ?_
  exact hk0 v1 v2 v3 (wadd v4 1) h _ e
def F260_0 : Nat → Int → Int → Int → Int → zHM → Option (Int × zHM)
  | 0, _, _, _, _, _ => none
  | n + 1, v1, v2, v3, v4, h => if (h 14 2) ≤ v4 then some (v3, h) else (F228 v1 v2 h).bind fun r1 => (F259 v4 v1 r1 h).bind fun r2 => if r2 ≤ 0 then F260_1 (F260_0 n) v1 v2 v3 v4 h else F260_1 (F260_0 n) v1 v2 (wor v3 (wshl 1 v4)) v4 h
set_option maxRecDepth 100000 in
theorem T260_0 {spec : zRn zH2} {hc : zHC} {o : Int → Int} {d : Nat} (hd : 3 ≤ d) : ∀ (n : Nat) (v1 : Int) (v2 : Int) (v3 : Int) (v4 : Int) (h : zHM) (v : (Int × zHM)), F260_0 n v1 v2 v3 v4 h = some v → zFin 0 (fun _ => 0) (zRu2 spec d) 260 (some (0, v.1)) (hc, v.2, o) (30, [some (22, 0), some (0, v1), some (0, v2), some (0, v3), some (0, v4)], [], (hc, h, o)) := by
  intro n
  induction n with
  | zero => intro v1 v2 v3 v4 h v e; unfold F260_0 at e; cases e
  | succ n hk0 =>
    intro v1 v2 v3 v4 h v e
    unfold F260_0 at e
    rcases zI_s e with ⟨q1, e⟩ | ⟨q1, e⟩
    · refine zF_blk (m := []) (d := 1) (b := B260_10) (gs := [0 ≤ 2 ∧ 2 < 2140, (h 14 2) ≤ v4]) (c' := (70, [some (22, 0), some (0, v1), some (0, v2), some (0, v3), some (0, v4)], [], (hc, h, o))) K260_10 rfl ⟨by decide, q1, trivial⟩ ?_
      refine zF_blk (m := []) (d := 0) (b := B260_6) (gs := []) (c' := (71, [some (22, 0), some (0, v1), some (0, v2), some (0, v3), some (0, v4)], [(0, v3)], (hc, h, o))) K260_6 rfl trivial ?_
      exact zF_riM (by decide +kernel) e
    · refine zF_blk (m := []) (d := 0) (b := B260_10) (gs := [0 ≤ 2 ∧ 2 < 2140, ¬ ((h 14 2) ≤ v4)]) (c' := (41, [some (22, 0), some (0, v1), some (0, v2), some (0, v3), some (0, v4)], [], (hc, h, o))) K260_10 rfl ⟨by decide, q1, trivial⟩ ?_
      obtain ⟨r1, q2, e⟩ := zB_s e
      refine zF_blk (m := []) (d := 0) (b := B260_7) (gs := []) (c' := (48, [some (22, 0), some (0, v1), some (0, v2), some (0, v3), some (0, v4)], [(0, v2), (0, v1), (22, 0), (0, v1), (0, v4), (22, 0)], (hc, h, o))) K260_7 rfl trivial ?_
      refine zF_call (k := 228) (cl := 12) (n := 3) (i := .invokevirtual 273) (args := [(22, 0), (0, v1), (0, v2)]) (rest := [(0, v1), (0, v4), (22, 0)]) (g1 := (hc, h, o)) (r1 := some (0, r1)) (by decide +kernel) rfl rfl rfl (st' := [(0, r1), (0, v1), (0, v4), (22, 0)]) rfl (S228 (Nat.le_trans (by decide) hd) v1 v2 h _ q2) ?_
      obtain ⟨r2, q3, e⟩ := zB_s e
      refine zF_call (k := 259) (cl := 12) (n := 4) (i := .invokevirtual 339) (args := [(22, 0), (0, v4), (0, v1), (0, r1)]) (rest := []) (g1 := (hc, h, o)) (r1 := some (0, r2)) (by decide +kernel) rfl rfl rfl (st' := [(0, r2)]) rfl (S259 (Nat.le_trans (by decide) hd) v4 v1 r1 h _ q3) ?_
      rcases zI_s e with ⟨q4, e⟩ | ⟨q4, e⟩
      · refine zF_blk (m := []) (d := 1) (b := B260_9) (gs := [r2 ≤ 0]) (c' := (64, [some (22, 0), some (0, v1), some (0, v2), some (0, v3), some (0, v4)], [], (hc, h, o))) K260_9 rfl ⟨q4, trivial⟩ ?_
        exact T260_1 hd (F260_0 n) hk0 v1 v2 v3 v4 h _ e
      · refine zF_blk (m := []) (d := 0) (b := B260_9) (gs := [¬ (r2 ≤ 0)]) (c' := (57, [some (22, 0), some (0, v1), some (0, v2), some (0, v3), some (0, v4)], [], (hc, h, o))) K260_9 rfl ⟨q4, trivial⟩ ?_
        refine zF_blk (m := []) (d := 0) (b := B260_8) (gs := []) (c' := (64, [some (22, 0), some (0, v1), some (0, v2), some (0, (wor v3 (wshl 1 v4))), some (0, v4)], [], (hc, h, o))) K260_8 rfl trivial ?_
        exact T260_1 hd (F260_0 n) hk0 v1 v2 (wor v3 (wshl 1 v4)) v4 h _ e
/-- EchoValeModel.reach(II)I -/
def F260 (v1 : Int) (v2 : Int) (h : zHM) : Option (Int × zHM) := (F224 v1 (mset h 0 0 0)).bind fun r1 => if r1 = 0 then some ((-1), (mset h 0 0 0)) else (F188 v2 1 9).bind fun r2 => if ¬ r2 = 0 then F260_0 zFu v1 v2 0 0 (mset h 0 0 0) else some ((-1), (mset h 0 0 0))
set_option maxRecDepth 100000 in
theorem S260 {spec : zRn zH2} {hc : zHC} {o : Int → Int} {d : Nat} (hd : 4 ≤ d) (v1 : Int) (v2 : Int) (h : zHM) (v : (Int × zHM)) (e : F260 v1 v2 h = some v) : zRu2 spec d 260 [(22, 0), (0, v1), (0, v2)] (hc, h, o) (some (0, v.1)) (hc, v.2, o) := by
  refine zF_in (D := 3) (mx := 5) (L := [some (22, 0), some (0, v1), some (0, v2), none, none]) (by decide +kernel) rfl rfl hd (fun d hd => ?_)
  unfold F260 at e
  obtain ⟨r1, q1, e⟩ := zB_s e
  refine zF_blk (m := []) (d := 0) (b := B260_0) (gs := []) (c' := (7, [some (22, 0), some (0, v1), some (0, v2), none, none], [(0, v1), (22, 0)], (hc, (mset h 0 0 0), o))) K260_0 rfl trivial ?_
  refine zF_call (k := 224) (cl := 12) (n := 2) (i := .invokevirtual 305) (args := [(22, 0), (0, v1)]) (rest := []) (g1 := (hc, (mset h 0 0 0), o)) (r1 := some (0, r1)) (by decide +kernel) rfl rfl rfl (st' := [(0, r1)]) rfl (S224 (Nat.le_trans (by decide) hd) v1 (mset h 0 0 0) _ q1) ?_
  rcases zI_s e with ⟨q2, e⟩ | ⟨q2, e⟩
  · refine zF_blk (m := []) (d := 1) (b := B260_5) (gs := [r1 = 0]) (c' := (23, [some (22, 0), some (0, v1), some (0, v2), none, none], [], (hc, (mset h 0 0 0), o))) K260_5 rfl ⟨q2, trivial⟩ ?_
    refine zF_blk (m := []) (d := 0) (b := B260_1) (gs := []) (c' := (24, [some (22, 0), some (0, v1), some (0, v2), none, none], [(0, (-1))], (hc, (mset h 0 0 0), o))) K260_1 rfl trivial ?_
    exact zF_riM (by decide +kernel) e
  · refine zF_blk (m := []) (d := 0) (b := B260_5) (gs := [¬ (r1 = 0)]) (c' := (13, [some (22, 0), some (0, v1), some (0, v2), none, none], [], (hc, (mset h 0 0 0), o))) K260_5 rfl ⟨q2, trivial⟩ ?_
    obtain ⟨r2, q3, e⟩ := zB_s e
    refine zF_blk (m := []) (d := 0) (b := B260_2) (gs := []) (c' := (17, [some (22, 0), some (0, v1), some (0, v2), none, none], [(0, 9), (0, 1), (0, v2)], (hc, (mset h 0 0 0), o))) K260_2 rfl trivial ?_
    refine zF_call (k := 188) (cl := 12) (n := 3) (i := .invokestatic 151) (args := [(0, v2), (0, 1), (0, 9)]) (rest := []) (g1 := (hc, (mset h 0 0 0), o)) (r1 := some (0, r2)) (by decide +kernel) rfl rfl rfl (st' := [(0, r2)]) rfl (S188 (Nat.le_trans (by decide) hd) v2 1 9 (mset h 0 0 0) _ q3) ?_
    rcases zI_s e with ⟨q4, e⟩ | ⟨q4, e⟩
    · refine zF_blk (m := []) (d := 1) (b := B260_4) (gs := [¬ r2 = 0]) (c' := (25, [some (22, 0), some (0, v1), some (0, v2), none, none], [], (hc, (mset h 0 0 0), o))) K260_4 rfl ⟨q4, trivial⟩ ?_
      refine zF_blk (m := []) (d := 0) (b := B260_3) (gs := []) (c' := (30, [some (22, 0), some (0, v1), some (0, v2), some (0, 0), some (0, 0)], [], (hc, (mset h 0 0 0), o))) K260_3 rfl trivial ?_
      exact T260_0 hd zFu v1 v2 0 0 (mset h 0 0 0) _ e
    · refine zF_blk (m := []) (d := 0) (b := B260_4) (gs := [¬ (¬ r2 = 0)]) (c' := (23, [some (22, 0), some (0, v1), some (0, v2), none, none], [], (hc, (mset h 0 0 0), o))) K260_4 rfl ⟨q4, trivial⟩ ?_
      refine zF_blk (m := []) (d := 0) (b := B260_1) (gs := []) (c' := (24, [some (22, 0), some (0, v1), some (0, v2), none, none], [(0, (-1))], (hc, (mset h 0 0 0), o))) K260_1 rfl trivial ?_
      exact zF_riM (by decide +kernel) e
