/-! Functions of the methods, by wip/gen/lift.py. -/
def B257_0 : List zRow := [(0, .aload_n 0, 1, (0, 0, 0)), (1, .iconst 0, 1, (0, 0, 0)), (2, .putfield 81, 3, (12, 0, 0)), (5, .aload_n 0, 1, (0, 0, 0)), (6, .iload_n 1, 1, (0, 0, 0))]
theorem K257_0 : zRk 257 B257_0 = true := by decide +kernel
def B257_1 : List zRow := [(28, .iconst (-1), 1, (0, 0, 0))]
theorem K257_1 : zRk 257 B257_1 = true := by decide +kernel
def B257_2 : List zRow := [(13, .aload_n 0, 1, (0, 0, 0)), (14, .iload_n 2, 1, (0, 0, 0))]
theorem K257_2 : zRk 257 B257_2 = true := by decide +kernel
def B257_3 : List zRow := [(21, .iload_n 3, 1, (0, 0, 0))]
theorem K257_3 : zRk 257 B257_3 = true := by decide +kernel
def B257_4 : List zRow := [(30, .aload_n 0, 1, (0, 0, 0))]
theorem K257_4 : zRk 257 B257_4 = true := by decide +kernel
def B257_5 : List zRow := [(34, .iconst 0, 1, (0, 0, 0)), (35, .istore 4, 2, (0, 0, 0)), (37, .iconst 0, 1, (0, 0, 0)), (38, .istore 5, 2, (0, 0, 0))]
theorem K257_5 : zRk 257 B257_5 = true := by decide +kernel
def B257_6 : List zRow := [(25, .ifCond .ne 5, 3, (0, 0, 0))]
theorem K257_6 : zRk 257 B257_6 = true := by decide +kernel
def B257_7 : List zRow := [(18, .ifCond .eq 10, 3, (0, 0, 0))]
theorem K257_7 : zRk 257 B257_7 = true := by decide +kernel
def B257_8 : List zRow := [(10, .ifCond .eq 18, 3, (0, 0, 0))]
theorem K257_8 : zRk 257 B257_8 = true := by decide +kernel
def B257_9 : List zRow := [(60, .aload_n 0, 1, (0, 0, 0)), (61, .getfield 13, 3, (12, 14, 5251442)), (64, .sipush 209, 3, (0, 0, 0)), (67, .dup2, 1, (0, 0, 0)), (68, .iaload, 1, (0, 0, 0)), (69, .iconst 1, 1, (0, 0, 0)), (70, .iadd, 1, (0, 0, 0)), (71, .iastore, 1, (0, 0, 0)), (72, .aload_n 0, 1, (0, 0, 0)), (73, .aload_n 0, 1, (0, 0, 0)), (74, .getfield 13, 3, (12, 14, 5251442)), (77, .sipush 209, 3, (0, 0, 0)), (80, .iaload, 1, (0, 0, 0))]
theorem K257_9 : zRk 257 B257_9 = true := by decide +kernel
def B257_10 : List zRow := [(84, .aload_n 0, 1, (0, 0, 0)), (85, .getfield 13, 3, (12, 14, 5251442)), (88, .sipush 210, 3, (0, 0, 0)), (91, .iload_n 1, 1, (0, 0, 0))]
theorem K257_10 : zRk 257 B257_10 = true := by decide +kernel
def B257_11 : List zRow := [(92, .iadd, 1, (0, 0, 0)), (93, .iaload, 1, (0, 0, 0)), (94, .aload_n 0, 1, (0, 0, 0)), (95, .getfield 13, 3, (12, 14, 5251442)), (98, .sipush 210, 3, (0, 0, 0)), (101, .iload_n 2, 1, (0, 0, 0))]
theorem K257_11 : zRk 257 B257_11 = true := by decide +kernel
def B257_12 : List zRow := [(107, .iinc 4 1, 3, (0, 0, 0))]
theorem K257_12 : zRk 257 B257_12 = true := by decide +kernel
def B257_13 : List zRow := [(102, .iadd, 1, (0, 0, 0)), (103, .iaload, 1, (0, 0, 0)), (104, .if_icmp .ne 6, 3, (0, 0, 0))]
theorem K257_13 : zRk 257 B257_13 = true := by decide +kernel
def B257_14 : List zRow := [(46, .aload_n 0, 1, (0, 0, 0)), (47, .getfield 13, 3, (12, 14, 5251442)), (50, .sipush 209, 3, (0, 0, 0)), (53, .iaload, 1, (0, 0, 0)), (54, .sipush 400, 3, (0, 0, 0)), (57, .if_icmp .ge 59, 3, (0, 0, 0))]
theorem K257_14 : zRk 257 B257_14 = true := by decide +kernel
def B257_15 : List zRow := [(40, .iload 5, 2, (0, 0, 0)), (42, .iload_n 3, 1, (0, 0, 0)), (43, .if_icmp .ge 73, 3, (0, 0, 0))]
theorem K257_15 : zRk 257 B257_15 = true := by decide +kernel
def B257_16 : List zRow := [(110, .iinc 5 1, 3, (0, 0, 0)), (113, .goto (-73), 3, (0, 0, 0))]
theorem K257_16 : zRk 257 B257_16 = true := by decide +kernel
def B257_17 : List zRow := [(116, .aload_n 0, 1, (0, 0, 0))]
theorem K257_17 : zRk 257 B257_17 = true := by decide +kernel
def B257_18 : List zRow := [(120, .iload 4, 2, (0, 0, 0))]
theorem K257_18 : zRk 257 B257_18 = true := by decide +kernel
def F257_1 (v4 : Int) (h : zHM) : Option (Int × zHM) := (F245 h).bind fun r1 => some (v4, r1)
set_option maxRecDepth 100000 in
theorem T257_1 {spec : zRn zH2} {hc : zHC} {o : Int → Int} {d : Nat} (hd : 2 ≤ d) (v4 : Int) (h : zHM) (v : (Int × zHM)) (e : F257_1 v4 h = some v) : zFin 0 (fun _ => 0) (zRu2 spec d) 257 (some (0, v.1)) (hc, v.2, o) (116, [some (22, 0), none, none, none, some (0, v4), none], [], (hc, h, o)) := by
  unfold F257_1 at e
  obtain ⟨r1, q1, e⟩ := zB_s e
  refine zF_blk (m := []) (d := 0) (b := B257_17) (gs := []) (c' := (117, [some (22, 0), none, none, none, some (0, v4), none], [(22, 0)], (hc, h, o))) K257_17 rfl trivial ?_
  refine zF_call (k := 245) (cl := 12) (n := 1) (i := .invokevirtual 320) (args := [(22, 0)]) (rest := []) (g1 := (hc, r1, o)) (r1 := none) (by decide +kernel) rfl rfl rfl (st' := []) rfl (S245 (Nat.le_trans (by decide) hd)  h _ q1) ?_
  refine zF_blk (m := []) (d := 0) (b := B257_18) (gs := []) (c' := (122, [some (22, 0), none, none, none, some (0, v4), none], [(0, v4)], (hc, r1, o))) K257_18 rfl trivial ?_
  exact zF_riM (by decide +kernel) e
def F257_2 (k0 : Int → Int → Int → Int → Int → zHM → Option (Int × zHM)) (v1 : Int) (v2 : Int) (v3 : Int) (v4 : Int) (v5 : Int) (h : zHM) : Option (Int × zHM) := k0 v1 v2 v3 v4 (wadd v5 1) h
set_option maxRecDepth 100000 in
theorem T257_2 {spec : zRn zH2} {hc : zHC} {o : Int → Int} {d : Nat} (hd : 2 ≤ d) (k0 : Int → Int → Int → Int → Int → zHM → Option (Int × zHM)) (hk0 : ∀ (v1 : Int) (v2 : Int) (v3 : Int) (v4 : Int) (v5 : Int) (h : zHM) (v : (Int × zHM)), k0 v1 v2 v3 v4 v5 h = some v → zFin 0 (fun _ => 0) (zRu2 spec d) 257 (some (0, v.1)) (hc, v.2, o) (40, [some (22, 0), some (0, v1), some (0, v2), some (0, v3), some (0, v4), some (0, v5)], [], (hc, h, o))) (v1 : Int) (v2 : Int) (v3 : Int) (v4 : Int) (v5 : Int) (h : zHM) (v : (Int × zHM)) (e : F257_2 k0 v1 v2 v3 v4 v5 h = some v) : zFin 0 (fun _ => 0) (zRu2 spec d) 257 (some (0, v.1)) (hc, v.2, o) (110, [some (22, 0), some (0, v1), some (0, v2), some (0, v3), some (0, v4), some (0, v5)], [], (hc, h, o)) := by
  unfold F257_2 at e
  refine zF_blk (m := []) (d := 0) (b := B257_16) (gs := []) (c' := (40, [some (22, 0), some (0, v1), some (0, v2), some (0, v3), some (0, v4), some (0, (wadd v5 1))], [], (hc, h, o))) K257_16 rfl trivial ?_
  exact hk0 v1 v2 v3 v4 (wadd v5 1) h _ e
def F257_0 : Nat → Int → Int → Int → Int → Int → zHM → Option (Int × zHM)
  | 0, _, _, _, _, _, _ => none
  | n + 1, v1, v2, v3, v4, v5, h => if v3 ≤ v5 then F257_1 v4 h else if 400 ≤ (h 14 209) then F257_1 v4 h else (F237 (wadd (h 14 209) 1) (mset h 14 209 (wadd (h 14 209) 1))).bind fun r1 => zG (0 ≤ (wadd 210 v1) ∧ (wadd 210 v1) < 2140) (zG (0 ≤ (wadd 210 v2) ∧ (wadd 210 v2) < 2140) (if ¬ (r1 14 (wadd 210 v1)) = (r1 14 (wadd 210 v2)) then F257_2 (F257_0 n) v1 v2 v3 v4 v5 r1 else F257_2 (F257_0 n) v1 v2 v3 (wadd v4 1) v5 r1))
set_option maxRecDepth 100000 in
theorem T257_0 {spec : zRn zH2} {hc : zHC} {o : Int → Int} {d : Nat} (hd : 2 ≤ d) : ∀ (n : Nat) (v1 : Int) (v2 : Int) (v3 : Int) (v4 : Int) (v5 : Int) (h : zHM) (v : (Int × zHM)), F257_0 n v1 v2 v3 v4 v5 h = some v → zFin 0 (fun _ => 0) (zRu2 spec d) 257 (some (0, v.1)) (hc, v.2, o) (40, [some (22, 0), some (0, v1), some (0, v2), some (0, v3), some (0, v4), some (0, v5)], [], (hc, h, o)) := by
  intro n
  induction n with
  | zero => intro v1 v2 v3 v4 v5 h v e; unfold F257_0 at e; cases e
  | succ n hk0 =>
    intro v1 v2 v3 v4 v5 h v e
    unfold F257_0 at e
    rcases zI_s e with ⟨q1, e⟩ | ⟨q1, e⟩
    · refine zF_blk (m := []) (d := 1) (b := B257_15) (gs := [v3 ≤ v5]) (c' := (116, [some (22, 0), some (0, v1), some (0, v2), some (0, v3), some (0, v4), some (0, v5)], [], (hc, h, o))) K257_15 rfl ⟨q1, trivial⟩ ?_
      refine zF_blk (m := [true, false, false, false, true, false]) (d := 0) (b := []) (gs := []) (c' := (116, [some (22, 0), none, none, none, some (0, v4), none], [], (hc, h, o))) rfl rfl trivial ?_
      exact T257_1 hd v4 h _ e
    · refine zF_blk (m := []) (d := 0) (b := B257_15) (gs := [¬ (v3 ≤ v5)]) (c' := (46, [some (22, 0), some (0, v1), some (0, v2), some (0, v3), some (0, v4), some (0, v5)], [], (hc, h, o))) K257_15 rfl ⟨q1, trivial⟩ ?_
      rcases zI_s e with ⟨q2, e⟩ | ⟨q2, e⟩
      · refine zF_blk (m := []) (d := 1) (b := B257_14) (gs := [0 ≤ 209 ∧ 209 < 2140, 400 ≤ (h 14 209)]) (c' := (116, [some (22, 0), some (0, v1), some (0, v2), some (0, v3), some (0, v4), some (0, v5)], [], (hc, h, o))) K257_14 rfl ⟨by decide, q2, trivial⟩ ?_
        refine zF_blk (m := [true, false, false, false, true, false]) (d := 0) (b := []) (gs := []) (c' := (116, [some (22, 0), none, none, none, some (0, v4), none], [], (hc, h, o))) rfl rfl trivial ?_
        exact T257_1 hd v4 h _ e
      · refine zF_blk (m := []) (d := 0) (b := B257_14) (gs := [0 ≤ 209 ∧ 209 < 2140, ¬ (400 ≤ (h 14 209))]) (c' := (60, [some (22, 0), some (0, v1), some (0, v2), some (0, v3), some (0, v4), some (0, v5)], [], (hc, h, o))) K257_14 rfl ⟨by decide, q2, trivial⟩ ?_
        obtain ⟨r1, q3, e⟩ := zB_s e
        refine zF_blk (m := []) (d := 0) (b := B257_9) (gs := [0 ≤ 209 ∧ 209 < 2140, 0 ≤ 209 ∧ 209 < 2140, 0 ≤ 209 ∧ 209 < 2140]) (c' := (81, [some (22, 0), some (0, v1), some (0, v2), some (0, v3), some (0, v4), some (0, v5)], [(0, (wadd (h 14 209) 1)), (22, 0)], (hc, (mset h 14 209 (wadd (h 14 209) 1)), o))) K257_9 rfl ⟨by decide, by decide, by decide, trivial⟩ ?_
        refine zF_call (k := 237) (cl := 12) (n := 2) (i := .invokevirtual 292) (args := [(22, 0), (0, (wadd (h 14 209) 1))]) (rest := []) (g1 := (hc, r1, o)) (r1 := none) (by decide +kernel) rfl rfl rfl (st' := []) rfl (S237 (Nat.le_trans (by decide) hd) (wadd (h 14 209) 1) (mset h 14 209 (wadd (h 14 209) 1)) _ q3) ?_
        obtain ⟨q4, e⟩ := zG_s e
        obtain ⟨q5, e⟩ := zG_s e
        refine zF_blk (m := []) (d := 0) (b := B257_10) (gs := []) (c' := (92, [some (22, 0), some (0, v1), some (0, v2), some (0, v3), some (0, v4), some (0, v5)], [(0, v1), (0, 210), (1344370422, 0)], (hc, r1, o))) K257_10 rfl trivial ?_
        refine zF_blk (m := []) (d := 0) (b := B257_11) (gs := [0 ≤ (wadd 210 v1) ∧ (wadd 210 v1) < 2140]) (c' := (102, [some (22, 0), some (0, v1), some (0, v2), some (0, v3), some (0, v4), some (0, v5)], [(0, v2), (0, 210), (1344370422, 0), (0, (r1 14 (wadd 210 v1)))], (hc, r1, o))) K257_11 rfl ⟨q4, trivial⟩ ?_
        rcases zI_s e with ⟨q6, e⟩ | ⟨q6, e⟩
        · refine zF_blk (m := []) (d := 1) (b := B257_13) (gs := [0 ≤ (wadd 210 v2) ∧ (wadd 210 v2) < 2140, ¬ (r1 14 (wadd 210 v1)) = (r1 14 (wadd 210 v2))]) (c' := (110, [some (22, 0), some (0, v1), some (0, v2), some (0, v3), some (0, v4), some (0, v5)], [], (hc, r1, o))) K257_13 rfl ⟨q5, q6, trivial⟩ ?_
          exact T257_2 hd (F257_0 n) hk0 v1 v2 v3 v4 v5 r1 _ e
        · refine zF_blk (m := []) (d := 0) (b := B257_13) (gs := [0 ≤ (wadd 210 v2) ∧ (wadd 210 v2) < 2140, ¬ (¬ (r1 14 (wadd 210 v1)) = (r1 14 (wadd 210 v2)))]) (c' := (107, [some (22, 0), some (0, v1), some (0, v2), some (0, v3), some (0, v4), some (0, v5)], [], (hc, r1, o))) K257_13 rfl ⟨q5, q6, trivial⟩ ?_
          refine zF_blk (m := []) (d := 0) (b := B257_12) (gs := []) (c' := (110, [some (22, 0), some (0, v1), some (0, v2), some (0, v3), some (0, (wadd v4 1)), some (0, v5)], [], (hc, r1, o))) K257_12 rfl trivial ?_
          exact T257_2 hd (F257_0 n) hk0 v1 v2 v3 (wadd v4 1) v5 r1 _ e
/-- EchoValeModel.meets(III)I -/
def F257 (v1 : Int) (v2 : Int) (v3 : Int) (h : zHM) : Option (Int × zHM) := (F210 v1 (mset h 0 0 0)).bind fun r1 => if r1 = 0 then some ((-1), (mset h 0 0 0)) else (F210 v2 (mset h 0 0 0)).bind fun r2 => if r2 = 0 then some ((-1), (mset h 0 0 0)) else (F242 v3).bind fun r3 => if ¬ r3 = 0 then (F244 (mset h 0 0 0)).bind fun r4 => F257_0 zFu v1 v2 v3 0 0 r4 else some ((-1), (mset h 0 0 0))
set_option maxRecDepth 100000 in
theorem S257 {spec : zRn zH2} {hc : zHC} {o : Int → Int} {d : Nat} (hd : 3 ≤ d) (v1 : Int) (v2 : Int) (v3 : Int) (h : zHM) (v : (Int × zHM)) (e : F257 v1 v2 v3 h = some v) : zRu2 spec d 257 [(22, 0), (0, v1), (0, v2), (0, v3)] (hc, h, o) (some (0, v.1)) (hc, v.2, o) := by
  refine zF_in (D := 2) (mx := 6) (L := [some (22, 0), some (0, v1), some (0, v2), some (0, v3), none, none]) (by decide +kernel) rfl rfl hd (fun d hd => ?_)
  unfold F257 at e
  obtain ⟨r1, q1, e⟩ := zB_s e
  refine zF_blk (m := []) (d := 0) (b := B257_0) (gs := []) (c' := (7, [some (22, 0), some (0, v1), some (0, v2), some (0, v3), none, none], [(0, v1), (22, 0)], (hc, (mset h 0 0 0), o))) K257_0 rfl trivial ?_
  refine zF_call (k := 210) (cl := 12) (n := 2) (i := .invokevirtual 260) (args := [(22, 0), (0, v1)]) (rest := []) (g1 := (hc, (mset h 0 0 0), o)) (r1 := some (0, r1)) (by decide +kernel) rfl rfl rfl (st' := [(0, r1)]) rfl (S210 (Nat.le_trans (by decide) hd) v1 (mset h 0 0 0) _ q1) ?_
  rcases zI_s e with ⟨q2, e⟩ | ⟨q2, e⟩
  · refine zF_blk (m := []) (d := 1) (b := B257_8) (gs := [r1 = 0]) (c' := (28, [some (22, 0), some (0, v1), some (0, v2), some (0, v3), none, none], [], (hc, (mset h 0 0 0), o))) K257_8 rfl ⟨q2, trivial⟩ ?_
    refine zF_blk (m := []) (d := 0) (b := B257_1) (gs := []) (c' := (29, [some (22, 0), some (0, v1), some (0, v2), some (0, v3), none, none], [(0, (-1))], (hc, (mset h 0 0 0), o))) K257_1 rfl trivial ?_
    exact zF_riM (by decide +kernel) e
  · refine zF_blk (m := []) (d := 0) (b := B257_8) (gs := [¬ (r1 = 0)]) (c' := (13, [some (22, 0), some (0, v1), some (0, v2), some (0, v3), none, none], [], (hc, (mset h 0 0 0), o))) K257_8 rfl ⟨q2, trivial⟩ ?_
    obtain ⟨r2, q3, e⟩ := zB_s e
    refine zF_blk (m := []) (d := 0) (b := B257_2) (gs := []) (c' := (15, [some (22, 0), some (0, v1), some (0, v2), some (0, v3), none, none], [(0, v2), (22, 0)], (hc, (mset h 0 0 0), o))) K257_2 rfl trivial ?_
    refine zF_call (k := 210) (cl := 12) (n := 2) (i := .invokevirtual 260) (args := [(22, 0), (0, v2)]) (rest := []) (g1 := (hc, (mset h 0 0 0), o)) (r1 := some (0, r2)) (by decide +kernel) rfl rfl rfl (st' := [(0, r2)]) rfl (S210 (Nat.le_trans (by decide) hd) v2 (mset h 0 0 0) _ q3) ?_
    rcases zI_s e with ⟨q4, e⟩ | ⟨q4, e⟩
    · refine zF_blk (m := []) (d := 1) (b := B257_7) (gs := [r2 = 0]) (c' := (28, [some (22, 0), some (0, v1), some (0, v2), some (0, v3), none, none], [], (hc, (mset h 0 0 0), o))) K257_7 rfl ⟨q4, trivial⟩ ?_
      refine zF_blk (m := []) (d := 0) (b := B257_1) (gs := []) (c' := (29, [some (22, 0), some (0, v1), some (0, v2), some (0, v3), none, none], [(0, (-1))], (hc, (mset h 0 0 0), o))) K257_1 rfl trivial ?_
      exact zF_riM (by decide +kernel) e
    · refine zF_blk (m := []) (d := 0) (b := B257_7) (gs := [¬ (r2 = 0)]) (c' := (21, [some (22, 0), some (0, v1), some (0, v2), some (0, v3), none, none], [], (hc, (mset h 0 0 0), o))) K257_7 rfl ⟨q4, trivial⟩ ?_
      obtain ⟨r3, q5, e⟩ := zB_s e
      refine zF_blk (m := []) (d := 0) (b := B257_3) (gs := []) (c' := (22, [some (22, 0), some (0, v1), some (0, v2), some (0, v3), none, none], [(0, v3)], (hc, (mset h 0 0 0), o))) K257_3 rfl trivial ?_
      refine zF_call (k := 242) (cl := 12) (n := 1) (i := .invokestatic 323) (args := [(0, v3)]) (rest := []) (g1 := (hc, (mset h 0 0 0), o)) (r1 := some (0, r3)) (by decide +kernel) rfl rfl rfl (st' := [(0, r3)]) rfl (S242 (Nat.le_trans (by decide) hd) v3 (mset h 0 0 0) _ q5) ?_
      rcases zI_s e with ⟨q6, e⟩ | ⟨q6, e⟩
      · refine zF_blk (m := []) (d := 1) (b := B257_6) (gs := [¬ r3 = 0]) (c' := (30, [some (22, 0), some (0, v1), some (0, v2), some (0, v3), none, none], [], (hc, (mset h 0 0 0), o))) K257_6 rfl ⟨q6, trivial⟩ ?_
        obtain ⟨r4, q7, e⟩ := zB_s e
        refine zF_blk (m := []) (d := 0) (b := B257_4) (gs := []) (c' := (31, [some (22, 0), some (0, v1), some (0, v2), some (0, v3), none, none], [(22, 0)], (hc, (mset h 0 0 0), o))) K257_4 rfl trivial ?_
        refine zF_call (k := 244) (cl := 12) (n := 1) (i := .invokevirtual 317) (args := [(22, 0)]) (rest := []) (g1 := (hc, r4, o)) (r1 := none) (by decide +kernel) rfl rfl rfl (st' := []) rfl (S244 (Nat.le_trans (by decide) hd)  (mset h 0 0 0) _ q7) ?_
        refine zF_blk (m := []) (d := 0) (b := B257_5) (gs := []) (c' := (40, [some (22, 0), some (0, v1), some (0, v2), some (0, v3), some (0, 0), some (0, 0)], [], (hc, r4, o))) K257_5 rfl trivial ?_
        exact T257_0 hd zFu v1 v2 v3 0 0 r4 _ e
      · refine zF_blk (m := []) (d := 0) (b := B257_6) (gs := [¬ (¬ r3 = 0)]) (c' := (28, [some (22, 0), some (0, v1), some (0, v2), some (0, v3), none, none], [], (hc, (mset h 0 0 0), o))) K257_6 rfl ⟨q6, trivial⟩ ?_
        refine zF_blk (m := []) (d := 0) (b := B257_1) (gs := []) (c' := (29, [some (22, 0), some (0, v1), some (0, v2), some (0, v3), none, none], [(0, (-1))], (hc, (mset h 0 0 0), o))) K257_1 rfl trivial ?_
        exact zF_riM (by decide +kernel) e
def B117_0 : List zRow := [(0, .aload_n 0, 1, (0, 0, 0)), (1, .getfield 19, 3, (11, 1, 39)), (4, .iload_n 1, 1, (0, 0, 0))]
theorem K117_0 : zRk 117 B117_0 = true := by decide +kernel
def B117_1 : List zRow := [(13, .aload_n 0, 1, (0, 0, 0)), (14, .getfield 19, 3, (11, 1, 39)), (17, .iload_n 1, 1, (0, 0, 0)), (18, .iconst 0, 1, (0, 0, 0)), (19, .iload_n 2, 1, (0, 0, 0)), (20, .invokestatic 166, 3, (5004, 0, 0))]
theorem K117_1 : zRk 117 B117_1 = true := by decide +kernel
def B117_2 : List zRow := [(26, .istore_n 3, 1, (0, 0, 0)), (27, .iconst (-1), 1, (0, 0, 0)), (28, .istore 4, 2, (0, 0, 0)), (30, .iconst 0, 1, (0, 0, 0)), (31, .istore 5, 2, (0, 0, 0)), (33, .iconst 0, 1, (0, 0, 0)), (34, .istore 6, 2, (0, 0, 0))]
theorem K117_2 : zRk 117 B117_2 = true := by decide +kernel
def B117_3 : List zRow := [(11, .iconst (-1), 1, (0, 0, 0))]
theorem K117_3 : zRk 117 B117_3 = true := by decide +kernel
def B117_4 : List zRow := [(8, .ifCond .ne 5, 3, (0, 0, 0))]
theorem K117_4 : zRk 117 B117_4 = true := by decide +kernel
def B117_5 : List zRow := [(95, .iload 4, 2, (0, 0, 0))]
theorem K117_5 : zRk 117 B117_5 = true := by decide +kernel
def B117_6 : List zRow := [(48, .aload_n 0, 1, (0, 0, 0)), (49, .getfield 19, 3, (11, 1, 39)), (52, .iload 6, 2, (0, 0, 0)), (54, .iload_n 1, 1, (0, 0, 0)), (55, .iload_n 3, 1, (0, 0, 0))]
theorem K117_6 : zRk 117 B117_6 = true := by decide +kernel
def B117_7 : List zRow := [(81, .iload 7, 2, (0, 0, 0)), (83, .istore 5, 2, (0, 0, 0)), (85, .iload 6, 2, (0, 0, 0)), (87, .istore 4, 2, (0, 0, 0))]
theorem K117_7 : zRk 117 B117_7 = true := by decide +kernel
def B117_8 : List zRow := [(59, .aload_n 0, 1, (0, 0, 0)), (60, .getfield 19, 3, (11, 1, 39)), (63, .getfield 156, 3, (9, 10, 5242906)), (66, .iload 6, 2, (0, 0, 0)), (68, .iaload, 1, (0, 0, 0)), (69, .invokestatic 288, 3, (5003, 0, 0)), (72, .istore 7, 2, (0, 0, 0)), (74, .iload 7, 2, (0, 0, 0)), (76, .iload 5, 2, (0, 0, 0)), (78, .if_icmp .le 11, 3, (0, 0, 0))]
theorem K117_8 : zRk 117 B117_8 = true := by decide +kernel
def B117_9 : List zRow := [(36, .iload 6, 2, (0, 0, 0)), (38, .aload_n 0, 1, (0, 0, 0)), (39, .getfield 19, 3, (11, 1, 39)), (42, .getfield 282, 3, (9, 2, 0)), (45, .if_icmp .ge 50, 3, (0, 0, 0))]
theorem K117_9 : zRk 117 B117_9 = true := by decide +kernel
def B117_10 : List zRow := [(89, .iinc 6 1, 3, (0, 0, 0)), (92, .goto (-56), 3, (0, 0, 0))]
theorem K117_10 : zRk 117 B117_10 = true := by decide +kernel
def F117_1 (k0 : Int → Int → Int → Int → Int → Option Int) (h : zHC) (v1 : Int) (v3 : Int) (v4 : Int) (v5 : Int) (v6 : Int) : Option Int := k0 v1 v3 v4 v5 (wadd v6 1)
set_option maxRecDepth 100000 in
theorem T117_1 {spec : zRn zH2} {hm : zHM} {o : Int → Int} {d : Nat} (hd : 2 ≤ d) (h : zHC) (k0 : Int → Int → Int → Int → Int → Option Int) (hk0 : ∀ (v1 : Int) (v3 : Int) (v4 : Int) (v5 : Int) (v6 : Int) (v : Int), k0 v1 v3 v4 v5 v6 = some v → zFin 0 (fun _ => 0) (zRu2 spec d) 117 (some (0, v)) (h, hm, o) (36, [some (21, 0), some (0, v1), none, some (0, v3), some (0, v4), some (0, v5), some (0, v6), none], [], (h, hm, o))) (v1 : Int) (v3 : Int) (v4 : Int) (v5 : Int) (v6 : Int) (v : Int) (e : F117_1 k0 h v1 v3 v4 v5 v6 = some v) : zFin 0 (fun _ => 0) (zRu2 spec d) 117 (some (0, v)) (h, hm, o) (89, [some (21, 0), some (0, v1), none, some (0, v3), some (0, v4), some (0, v5), some (0, v6), none], [], (h, hm, o)) := by
  unfold F117_1 at e
  refine zF_blk (m := []) (d := 0) (b := B117_10) (gs := []) (c' := (36, [some (21, 0), some (0, v1), none, some (0, v3), some (0, v4), some (0, v5), some (0, (wadd v6 1)), none], [], (h, hm, o))) K117_10 rfl trivial ?_
  exact hk0 v1 v3 v4 v5 (wadd v6 1) _ e
def F117_0 (h : zHC) : Nat → Int → Int → Int → Int → Int → Option Int
  | 0, _, _, _, _, _ => none
  | n + 1, v1, v3, v4, v5, v6 => if (h 578 0 0) ≤ v6 then some v4 else (F82 0 v6 v1 v3 h).bind fun r1 => zG (0 ≤ v6 ∧ v6 < 6) (if (if (h 586 0 v6) < r1 then (h 586 0 v6) else r1) ≤ v5 then F117_1 (F117_0 h n) h v1 v3 v4 v5 v6 else F117_1 (F117_0 h n) h v1 v3 v6 (if (h 586 0 v6) < r1 then (h 586 0 v6) else r1) v6)
set_option maxRecDepth 100000 in
theorem T117_0 {spec : zRn zH2} {hm : zHM} {o : Int → Int} {d : Nat} (hd : 2 ≤ d) (h : zHC) : ∀ (n : Nat) (v1 : Int) (v3 : Int) (v4 : Int) (v5 : Int) (v6 : Int) (v : Int), F117_0 h n v1 v3 v4 v5 v6 = some v → zFin 0 (fun _ => 0) (zRu2 spec d) 117 (some (0, v)) (h, hm, o) (36, [some (21, 0), some (0, v1), none, some (0, v3), some (0, v4), some (0, v5), some (0, v6), none], [], (h, hm, o)) := by
  intro n
  induction n with
  | zero => intro v1 v3 v4 v5 v6 v e; unfold F117_0 at e; cases e
  | succ n hk0 =>
    intro v1 v3 v4 v5 v6 v e
    unfold F117_0 at e
    rcases zI_s e with ⟨q1, e⟩ | ⟨q1, e⟩
    · refine zF_blk (m := []) (d := 1) (b := B117_9) (gs := [(h 578 0 0) ≤ v6]) (c' := (95, [some (21, 0), some (0, v1), none, some (0, v3), some (0, v4), some (0, v5), some (0, v6), none], [], (h, hm, o))) K117_9 rfl ⟨q1, trivial⟩ ?_
      refine zF_blk (m := []) (d := 0) (b := B117_5) (gs := []) (c' := (97, [some (21, 0), some (0, v1), none, some (0, v3), some (0, v4), some (0, v5), some (0, v6), none], [(0, v4)], (h, hm, o))) K117_5 rfl trivial ?_
      obtain rfl := Option.some.inj e
      exact zF_ri (by decide +kernel)
    · refine zF_blk (m := []) (d := 0) (b := B117_9) (gs := [¬ ((h 578 0 0) ≤ v6)]) (c' := (48, [some (21, 0), some (0, v1), none, some (0, v3), some (0, v4), some (0, v5), some (0, v6), none], [], (h, hm, o))) K117_9 rfl ⟨q1, trivial⟩ ?_
      obtain ⟨r1, q2, e⟩ := zB_s e
      refine zF_blk (m := []) (d := 0) (b := B117_6) (gs := []) (c' := (56, [some (21, 0), some (0, v1), none, some (0, v3), some (0, v4), some (0, v5), some (0, v6), none], [(0, v3), (0, v1), (0, v6), (19, 0)], (h, hm, o))) K117_6 rfl trivial ?_
      refine zF_call (k := 82) (cl := 9) (n := 4) (i := .invokevirtual 285) (args := [(19, 0), (0, v6), (0, v1), (0, v3)]) (rest := []) (g1 := (h, hm, o)) (r1 := some (0, r1)) (by decide +kernel) rfl rfl rfl (st' := [(0, r1)]) rfl (S82 (Nat.le_trans (by decide) hd) 0 v6 v1 v3 h _ q2) ?_
      obtain ⟨q3, e⟩ := zG_s e
      rcases zI_s e with ⟨q4, e⟩ | ⟨q4, e⟩
      · refine zF_blk (m := []) (d := 1) (b := B117_8) (gs := [0 ≤ v6 ∧ v6 < 6, (if (h 586 0 v6) < r1 then (h 586 0 v6) else r1) ≤ v5]) (c' := (89, [some (21, 0), some (0, v1), none, some (0, v3), some (0, v4), some (0, v5), some (0, v6), some (0, (if (h 586 0 v6) < r1 then (h 586 0 v6) else r1))], [], (h, hm, o))) K117_8 rfl ⟨q3, q4, trivial⟩ ?_
        refine zF_blk (m := [true, true, false, true, true, true, true, false]) (d := 0) (b := []) (gs := []) (c' := (89, [some (21, 0), some (0, v1), none, some (0, v3), some (0, v4), some (0, v5), some (0, v6), none], [], (h, hm, o))) rfl rfl trivial ?_
        exact T117_1 hd h (F117_0 h n) hk0 v1 v3 v4 v5 v6 _ e
      · refine zF_blk (m := []) (d := 0) (b := B117_8) (gs := [0 ≤ v6 ∧ v6 < 6, ¬ ((if (h 586 0 v6) < r1 then (h 586 0 v6) else r1) ≤ v5)]) (c' := (81, [some (21, 0), some (0, v1), none, some (0, v3), some (0, v4), some (0, v5), some (0, v6), some (0, (if (h 586 0 v6) < r1 then (h 586 0 v6) else r1))], [], (h, hm, o))) K117_8 rfl ⟨q3, q4, trivial⟩ ?_
        refine zF_blk (m := []) (d := 0) (b := B117_7) (gs := []) (c' := (89, [some (21, 0), some (0, v1), none, some (0, v3), some (0, v6), some (0, (if (h 586 0 v6) < r1 then (h 586 0 v6) else r1)), some (0, v6), some (0, (if (h 586 0 v6) < r1 then (h 586 0 v6) else r1))], [], (h, hm, o))) K117_7 rfl trivial ?_
        refine zF_blk (m := [true, true, false, true, true, true, true, false]) (d := 0) (b := []) (gs := []) (c' := (89, [some (21, 0), some (0, v1), none, some (0, v3), some (0, v6), some (0, (if (h 586 0 v6) < r1 then (h 586 0 v6) else r1)), some (0, v6), none], [], (h, hm, o))) rfl rfl trivial ?_
        exact T117_1 hd h (F117_0 h n) hk0 v1 v3 v6 (if (h 586 0 v6) < r1 then (h 586 0 v6) else r1) v6 _ e
/-- EchoVale.nearest(II)I -/
def F117 (v1 : Int) (v2 : Int) (h : zHC) : Option Int := (F69 0 v1 h).bind fun r1 => if ¬ r1 = 0 then (F77 0 v1 (if 0 < v2 then v2 else 0) h).bind fun r2 => F117_0 h zFu v1 r2 (-1) 0 0 else some (-1)
set_option maxRecDepth 100000 in
theorem S117 {spec : zRn zH2} {hm : zHM} {o : Int → Int} {d : Nat} (hd : 3 ≤ d) (v1 : Int) (v2 : Int) (h : zHC) (v : Int) (e : F117 v1 v2 h = some v) : zRu2 spec d 117 [(21, 0), (0, v1), (0, v2)] (h, hm, o) (some (0, v)) (h, hm, o) := by
  refine zF_in (D := 2) (mx := 8) (L := [some (21, 0), some (0, v1), some (0, v2), none, none, none, none, none]) (by decide +kernel) rfl rfl hd (fun d hd => ?_)
  unfold F117 at e
  obtain ⟨r1, q1, e⟩ := zB_s e
  refine zF_blk (m := []) (d := 0) (b := B117_0) (gs := []) (c' := (5, [some (21, 0), some (0, v1), some (0, v2), none, none, none, none, none], [(0, v1), (19, 0)], (h, hm, o))) K117_0 rfl trivial ?_
  refine zF_call (k := 69) (cl := 9) (n := 2) (i := .invokevirtual 214) (args := [(19, 0), (0, v1)]) (rest := []) (g1 := (h, hm, o)) (r1 := some (0, r1)) (by decide +kernel) rfl rfl rfl (st' := [(0, r1)]) rfl (S69 (Nat.le_trans (by decide) hd) 0 v1 h _ q1) ?_
  rcases zI_s e with ⟨q2, e⟩ | ⟨q2, e⟩
  · refine zF_blk (m := []) (d := 1) (b := B117_4) (gs := [¬ r1 = 0]) (c' := (13, [some (21, 0), some (0, v1), some (0, v2), none, none, none, none, none], [], (h, hm, o))) K117_4 rfl ⟨q2, trivial⟩ ?_
    obtain ⟨r2, q3, e⟩ := zB_s e
    refine zF_blk (m := []) (d := 0) (b := B117_1) (gs := []) (c' := (23, [some (21, 0), some (0, v1), some (0, v2), none, none, none, none, none], [(0, (if 0 < v2 then v2 else 0)), (0, v1), (19, 0)], (h, hm, o))) K117_1 rfl trivial ?_
    refine zF_call (k := 77) (cl := 9) (n := 3) (i := .invokevirtual 279) (args := [(19, 0), (0, v1), (0, (if 0 < v2 then v2 else 0))]) (rest := []) (g1 := (h, hm, o)) (r1 := some (0, r2)) (by decide +kernel) rfl rfl rfl (st' := [(0, r2)]) rfl (S77 (Nat.le_trans (by decide) hd) 0 v1 (if 0 < v2 then v2 else 0) h _ q3) ?_
    refine zF_blk (m := []) (d := 0) (b := B117_2) (gs := []) (c' := (36, [some (21, 0), some (0, v1), some (0, v2), some (0, r2), some (0, (-1)), some (0, 0), some (0, 0), none], [], (h, hm, o))) K117_2 rfl trivial ?_
    refine zF_blk (m := [true, true, false, true, true, true, true, false]) (d := 0) (b := []) (gs := []) (c' := (36, [some (21, 0), some (0, v1), none, some (0, r2), some (0, (-1)), some (0, 0), some (0, 0), none], [], (h, hm, o))) rfl rfl trivial ?_
    exact T117_0 hd h zFu v1 r2 (-1) 0 0 _ e
  · refine zF_blk (m := []) (d := 0) (b := B117_4) (gs := [¬ (¬ r1 = 0)]) (c' := (11, [some (21, 0), some (0, v1), some (0, v2), none, none, none, none, none], [], (h, hm, o))) K117_4 rfl ⟨q2, trivial⟩ ?_
    refine zF_blk (m := []) (d := 0) (b := B117_3) (gs := []) (c' := (12, [some (21, 0), some (0, v1), some (0, v2), none, none, none, none, none], [(0, (-1))], (h, hm, o))) K117_3 rfl trivial ?_
    obtain rfl := Option.some.inj e
    exact zF_ri (by decide +kernel)
def B259_0 : List zRow := [(33, .iconst 0, 1, (0, 0, 0))]
theorem K259_0 : zRk 259 B259_0 = true := by decide +kernel
def B259_1 : List zRow := [(4, .iload_n 2, 1, (0, 0, 0)), (5, .aload_n 0, 1, (0, 0, 0)), (6, .iload_n 1, 1, (0, 0, 0))]
theorem K259_1 : zRk 259 B259_1 = true := by decide +kernel
def B259_2 : List zRow := [(17, .iload_n 3, 1, (0, 0, 0)), (18, .iload_n 2, 1, (0, 0, 0)), (19, .aload_n 0, 1, (0, 0, 0)), (20, .iload_n 1, 1, (0, 0, 0))]
theorem K259_2 : zRk 259 B259_2 = true := by decide +kernel
def B259_3 : List zRow := [(27, .iconst 2, 1, (0, 0, 0)), (28, .idiv, 1, (0, 0, 0)), (29, .isub, 1, (0, 0, 0)), (30, .goto 4, 3, (0, 0, 0))]
theorem K259_3 : zRk 259 B259_3 = true := by decide +kernel
def B259_4 : List zRow := [(13, .iload_n 3, 1, (0, 0, 0)), (14, .if_icmp .gt 19, 3, (0, 0, 0))]
theorem K259_4 : zRk 259 B259_4 = true := by decide +kernel
def B259_5 : List zRow := [(0, .iload_n 3, 1, (0, 0, 0)), (1, .ifCond .le 32, 3, (0, 0, 0))]
theorem K259_5 : zRk 259 B259_5 = true := by decide +kernel
/-- EchoValeModel.wouldCome(III)I -/
def F259 (v1 : Int) (v2 : Int) (v3 : Int) (h : zHM) : Option Int := if v3 ≤ 0 then some 0 else (F229 v1 h).bind fun r1 => (F230 v2 r1).bind fun r2 => if v3 < r2 then some 0 else (F229 v1 h).bind fun r3 => (F230 v2 r3).bind fun r4 => some (wsub v3 (wdiv r4 2))
set_option maxRecDepth 100000 in
theorem S259 {spec : zRn zH2} {hc : zHC} {o : Int → Int} {d : Nat} (hd : 3 ≤ d) (v1 : Int) (v2 : Int) (v3 : Int) (h : zHM) (v : Int) (e : F259 v1 v2 v3 h = some v) : zRu2 spec d 259 [(22, 0), (0, v1), (0, v2), (0, v3)] (hc, h, o) (some (0, v)) (hc, h, o) := by
  refine zF_in (D := 2) (mx := 4) (L := [some (22, 0), some (0, v1), some (0, v2), some (0, v3)]) (by decide +kernel) rfl rfl hd (fun d hd => ?_)
  unfold F259 at e
  rcases zI_s e with ⟨q1, e⟩ | ⟨q1, e⟩
  · refine zF_blk (m := []) (d := 1) (b := B259_5) (gs := [v3 ≤ 0]) (c' := (33, [some (22, 0), some (0, v1), some (0, v2), some (0, v3)], [], (hc, h, o))) K259_5 rfl ⟨q1, trivial⟩ ?_
    refine zF_blk (m := []) (d := 0) (b := B259_0) (gs := []) (c' := (34, [some (22, 0), some (0, v1), some (0, v2), some (0, v3)], [(0, 0)], (hc, h, o))) K259_0 rfl trivial ?_
    obtain rfl := Option.some.inj e
    exact zF_ri (by decide +kernel)
  · refine zF_blk (m := []) (d := 0) (b := B259_5) (gs := [¬ (v3 ≤ 0)]) (c' := (4, [some (22, 0), some (0, v1), some (0, v2), some (0, v3)], [], (hc, h, o))) K259_5 rfl ⟨q1, trivial⟩ ?_
    obtain ⟨r1, q2, e⟩ := zB_s e
    refine zF_blk (m := []) (d := 0) (b := B259_1) (gs := []) (c' := (7, [some (22, 0), some (0, v1), some (0, v2), some (0, v3)], [(0, v1), (22, 0), (0, v2)], (hc, h, o))) K259_1 rfl trivial ?_
    refine zF_call (k := 229) (cl := 12) (n := 2) (i := .invokevirtual 276) (args := [(22, 0), (0, v1)]) (rest := [(0, v2)]) (g1 := (hc, h, o)) (r1 := some (0, r1)) (by decide +kernel) rfl rfl rfl (st' := [(0, r1), (0, v2)]) rfl (S229 (Nat.le_trans (by decide) hd) v1 h _ q2) ?_
    obtain ⟨r2, q3, e⟩ := zB_s e
    refine zF_call (k := 230) (cl := 12) (n := 2) (i := .invokestatic 279) (args := [(0, v2), (0, r1)]) (rest := []) (g1 := (hc, h, o)) (r1 := some (0, r2)) (by decide +kernel) rfl rfl rfl (st' := [(0, r2)]) rfl (S230 (Nat.le_trans (by decide) hd) v2 r1 h _ q3) ?_
    rcases zI_s e with ⟨q4, e⟩ | ⟨q4, e⟩
    · refine zF_blk (m := []) (d := 1) (b := B259_4) (gs := [v3 < r2]) (c' := (33, [some (22, 0), some (0, v1), some (0, v2), some (0, v3)], [], (hc, h, o))) K259_4 rfl ⟨q4, trivial⟩ ?_
      refine zF_blk (m := []) (d := 0) (b := B259_0) (gs := []) (c' := (34, [some (22, 0), some (0, v1), some (0, v2), some (0, v3)], [(0, 0)], (hc, h, o))) K259_0 rfl trivial ?_
      obtain rfl := Option.some.inj e
      exact zF_ri (by decide +kernel)
    · refine zF_blk (m := []) (d := 0) (b := B259_4) (gs := [¬ (v3 < r2)]) (c' := (17, [some (22, 0), some (0, v1), some (0, v2), some (0, v3)], [], (hc, h, o))) K259_4 rfl ⟨q4, trivial⟩ ?_
      obtain ⟨r3, q5, e⟩ := zB_s e
      refine zF_blk (m := []) (d := 0) (b := B259_2) (gs := []) (c' := (21, [some (22, 0), some (0, v1), some (0, v2), some (0, v3)], [(0, v1), (22, 0), (0, v2), (0, v3)], (hc, h, o))) K259_2 rfl trivial ?_
      refine zF_call (k := 229) (cl := 12) (n := 2) (i := .invokevirtual 276) (args := [(22, 0), (0, v1)]) (rest := [(0, v2), (0, v3)]) (g1 := (hc, h, o)) (r1 := some (0, r3)) (by decide +kernel) rfl rfl rfl (st' := [(0, r3), (0, v2), (0, v3)]) rfl (S229 (Nat.le_trans (by decide) hd) v1 h _ q5) ?_
      obtain ⟨r4, q6, e⟩ := zB_s e
      refine zF_call (k := 230) (cl := 12) (n := 2) (i := .invokestatic 279) (args := [(0, v2), (0, r3)]) (rest := [(0, v3)]) (g1 := (hc, h, o)) (r1 := some (0, r4)) (by decide +kernel) rfl rfl rfl (st' := [(0, r4), (0, v3)]) rfl (S230 (Nat.le_trans (by decide) hd) v2 r3 h _ q6) ?_
      refine zF_blk (m := []) (d := 0) (b := B259_3) (gs := [¬ 2 = 0]) (c' := (34, [some (22, 0), some (0, v1), some (0, v2), some (0, v3)], [(0, (wsub v3 (wdiv r4 2)))], (hc, h, o))) K259_3 rfl ⟨by decide, trivial⟩ ?_
      obtain rfl := Option.some.inj e
      exact zF_ri (by decide +kernel)
