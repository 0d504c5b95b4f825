/-! Functions of the methods, by wip/gen/lift.py. -/
def B173_0 : List zRow := [(0, .aload_n 0, 1, (0, 0, 0)), (1, .sipush 900, 3, (0, 0, 0))]
theorem K173_0 : zRk 173 B173_0 = true := by decide +kernel
def B173_1 : List zRow := [(7, .iconst 0, 1, (0, 0, 0)), (8, .istore_n 1, 1, (0, 0, 0))]
theorem K173_1 : zRk 173 B173_1 = true := by decide +kernel
def B173_2 : List zRow := [(29, .aload_n 0, 1, (0, 0, 0)), (30, .iconst 0, 1, (0, 0, 0)), (31, .putfield 186, 3, (12, 24, 0)), (34, .iconst 0, 1, (0, 0, 0)), (35, .istore_n 1, 1, (0, 0, 0))]
theorem K173_2 : zRk 173 B173_2 = true := by decide +kernel
def B173_3 : List zRow := [(16, .aload_n 0, 1, (0, 0, 0)), (17, .getfield 16, 3, (12, 15, 5243718)), (20, .iload_n 1, 1, (0, 0, 0)), (21, .iconst 0, 1, (0, 0, 0)), (22, .iastore, 1, (0, 0, 0)), (23, .iinc 1 1, 3, (0, 0, 0)), (26, .goto (-17), 3, (0, 0, 0))]
theorem K173_3 : zRk 173 B173_3 = true := by decide +kernel
def B173_4 : List zRow := [(9, .iload_n 1, 1, (0, 0, 0)), (10, .sipush 209, 3, (0, 0, 0)), (13, .if_icmp .ge 16, 3, (0, 0, 0))]
theorem K173_4 : zRk 173 B173_4 = true := by decide +kernel
def B173_5 : List zRow := [(63, .iconst 0, 1, (0, 0, 0)), (64, .istore_n 2, 1, (0, 0, 0))]
theorem K173_5 : zRk 173 B173_5 = true := by decide +kernel
def B173_6 : List zRow := [(43, .aload_n 0, 1, (0, 0, 0))]
theorem K173_6 : zRk 173 B173_6 = true := by decide +kernel
def B173_7 : List zRow := [(57, .iinc 1 1, 3, (0, 0, 0)), (60, .goto (-24), 3, (0, 0, 0))]
theorem K173_7 : zRk 173 B173_7 = true := by decide +kernel
def B173_8 : List zRow := [(50, .iconst (-1), 1, (0, 0, 0)), (51, .aload_n 0, 1, (0, 0, 0)), (52, .getfield 145, 3, (12, 11, 0))]
theorem K173_8 : zRk 173 B173_8 = true := by decide +kernel
def B173_9 : List zRow := [(55, .isub, 1, (0, 0, 0))]
theorem K173_9 : zRk 173 B173_9 = true := by decide +kernel
def B173_10 : List zRow := [(47, .ifCond .ne 10, 3, (0, 0, 0))]
theorem K173_10 : zRk 173 B173_10 = true := by decide +kernel
def B173_11 : List zRow := [(36, .aload_n 0, 1, (0, 0, 0)), (37, .getfield 107, 3, (12, 7, 0)), (40, .ifCond .eq 23, 3, (0, 0, 0))]
theorem K173_11 : zRk 173 B173_11 = true := by decide +kernel
def B173_12 : List zRow := [(101, .iconst 0, 1, (0, 0, 0)), (102, .istore_n 2, 1, (0, 0, 0))]
theorem K173_12 : zRk 173 B173_12 = true := by decide +kernel
def B173_13 : List zRow := [(93, .iconst 0, 1, (0, 0, 0))]
theorem K173_13 : zRk 173 B173_13 = true := by decide +kernel
def B173_14 : List zRow := [(84, .aload_n 0, 1, (0, 0, 0)), (85, .getfield 16, 3, (12, 15, 5243718)), (88, .iload_n 2, 1, (0, 0, 0)), (89, .iaload, 1, (0, 0, 0)), (90, .goto 4, 3, (0, 0, 0))]
theorem K173_14 : zRk 173 B173_14 = true := by decide +kernel
def B173_15 : List zRow := [(72, .aload_n 0, 1, (0, 0, 0)), (73, .getfield 13, 3, (12, 14, 5251442)), (76, .iload_n 2, 1, (0, 0, 0)), (77, .iload_n 2, 1, (0, 0, 0)), (78, .sipush 209, 3, (0, 0, 0)), (81, .if_icmp .ge 12, 3, (0, 0, 0))]
theorem K173_15 : zRk 173 B173_15 = true := by decide +kernel
def B173_16 : List zRow := [(65, .iload_n 2, 1, (0, 0, 0)), (66, .sipush 2140, 3, (0, 0, 0)), (69, .if_icmp .ge 32, 3, (0, 0, 0))]
theorem K173_16 : zRk 173 B173_16 = true := by decide +kernel
def B173_17 : List zRow := [(94, .iastore, 1, (0, 0, 0)), (95, .iinc 2 1, 3, (0, 0, 0)), (98, .goto (-33), 3, (0, 0, 0))]
theorem K173_17 : zRk 173 B173_17 = true := by decide +kernel
def B173_18 : List zRow := [(136, .iconst 0, 1, (0, 0, 0)), (137, .istore_n 2, 1, (0, 0, 0))]
theorem K173_18 : zRk 173 B173_18 = true := by decide +kernel
def B173_19 : List zRow := [(109, .aload_n 0, 1, (0, 0, 0)), (110, .getfield 13, 3, (12, 14, 5251442)), (113, .sipush 210, 3, (0, 0, 0)), (116, .iload_n 2, 1, (0, 0, 0))]
theorem K173_19 : zRk 173 B173_19 = true := by decide +kernel
def B173_20 : List zRow := [(117, .iadd, 1, (0, 0, 0)), (118, .aload_n 0, 1, (0, 0, 0)), (119, .getfield 13, 3, (12, 14, 5251442)), (122, .bipush 25, 2, (0, 0, 0)), (124, .iconst 2, 1, (0, 0, 0)), (125, .iload_n 2, 1, (0, 0, 0))]
theorem K173_20 : zRk 173 B173_20 = true := by decide +kernel
def B173_21 : List zRow := [(126, .imul, 1, (0, 0, 0))]
theorem K173_21 : zRk 173 B173_21 = true := by decide +kernel
def B173_22 : List zRow := [(127, .iadd, 1, (0, 0, 0)), (128, .iaload, 1, (0, 0, 0)), (129, .iastore, 1, (0, 0, 0)), (130, .iinc 2 1, 3, (0, 0, 0)), (133, .goto (-30), 3, (0, 0, 0))]
theorem K173_22 : zRk 173 B173_22 = true := by decide +kernel
def B173_23 : List zRow := [(103, .iload_n 2, 1, (0, 0, 0)), (104, .bipush 6, 2, (0, 0, 0)), (106, .if_icmp .ge 30, 3, (0, 0, 0))]
theorem K173_23 : zRk 173 B173_23 = true := by decide +kernel
def B173_24 : List zRow := [(162, .aload_n 0, 1, (0, 0, 0)), (163, .iconst 0, 1, (0, 0, 0)), (164, .putfield 232, 3, (12, 23, 0)), (167, .iload_n 1, 1, (0, 0, 0))]
theorem K173_24 : zRk 173 B173_24 = true := by decide +kernel
def B173_25 : List zRow := [(144, .aload_n 0, 1, (0, 0, 0)), (145, .getfield 28, 3, (12, 19, 5505074)), (148, .iload_n 2, 1, (0, 0, 0)), (149, .aload_n 0, 1, (0, 0, 0)), (150, .getfield 32, 3, (12, 20, 5505074)), (153, .iload_n 2, 1, (0, 0, 0)), (154, .laload, 1, (0, 0, 0)), (155, .lastore, 1, (0, 0, 0)), (156, .iinc 2 1, 3, (0, 0, 0)), (159, .goto (-21), 3, (0, 0, 0))]
theorem K173_25 : zRk 173 B173_25 = true := by decide +kernel
def B173_26 : List zRow := [(138, .iload_n 2, 1, (0, 0, 0)), (139, .bipush 12, 2, (0, 0, 0)), (141, .if_icmp .ge 21, 3, (0, 0, 0))]
theorem K173_26 : zRk 173 B173_26 = true := by decide +kernel
def F173_5 : Nat → Int → Int → zHM → Option (Int × zHM)
  | 0, _, _, _ => none
  | n + 1, v1, v2, h => if 12 ≤ v2 then some (v1, (mset h 23 0 0)) else zG (0 ≤ v2 ∧ v2 < 12) (zG (0 ≤ v2 ∧ v2 < 12) ((F173_5 n) v1 (wadd v2 1) (mset h 19 v2 (h 20 v2))))
set_option maxRecDepth 100000 in
theorem T173_5 {spec : zRn zH2} {hc : zHC} {o : Int → Int} {d : Nat} (hd : 7 ≤ d) : ∀ (n : Nat) (v1 : Int) (v2 : Int) (h : zHM) (v : (Int × zHM)), F173_5 n v1 v2 h = some v → zFin 0 (fun _ => 0) (zRu2 spec d) 173 (some (0, v.1)) (hc, v.2, o) (138, [some (22, 0), some (0, v1), some (0, v2)], [], (hc, h, o)) := by
  intro n
  induction n with
  | zero => intro v1 v2 h v e; unfold F173_5 at e; cases e
  | succ n hk0 =>
    intro v1 v2 h v e
    unfold F173_5 at e
    rcases zI_s e with ⟨q1, e⟩ | ⟨q1, e⟩
    · refine zF_blk (m := []) (d := 1) (b := B173_26) (gs := [12 ≤ v2]) (c' := (162, [some (22, 0), some (0, v1), some (0, v2)], [], (hc, h, o))) K173_26 rfl ⟨q1, trivial⟩ ?_
      refine zF_blk (m := []) (d := 0) (b := B173_24) (gs := []) (c' := (168, [some (22, 0), some (0, v1), some (0, v2)], [(0, v1)], (hc, (mset h 23 0 0), o))) K173_24 rfl trivial ?_
      exact zF_riM (by decide +kernel) e
    · refine zF_blk (m := []) (d := 0) (b := B173_26) (gs := [¬ (12 ≤ v2)]) (c' := (144, [some (22, 0), some (0, v1), some (0, v2)], [], (hc, h, o))) K173_26 rfl ⟨q1, trivial⟩ ?_
      obtain ⟨q2, e⟩ := zG_s e
      obtain ⟨q2, e⟩ := zG_s e
      refine zF_blk (m := []) (d := 0) (b := B173_25) (gs := [0 ≤ v2 ∧ v2 < 12, 0 ≤ v2 ∧ v2 < 12]) (c' := (138, [some (22, 0), some (0, v1), some (0, (wadd v2 1))], [], (hc, (mset h 19 v2 (h 20 v2)), o))) K173_25 rfl ⟨q2, q2, trivial⟩ ?_
      exact hk0 v1 (wadd v2 1) (mset h 19 v2 (h 20 v2)) _ e
def F173_3 : Nat → Int → Int → zHM → Option (Int × zHM)
  | 0, _, _, _ => none
  | n + 1, v1, v2, h => if 6 ≤ v2 then F173_5 zFu v1 0 h else zG (0 ≤ (wadd 25 (wmul 2 v2)) ∧ (wadd 25 (wmul 2 v2)) < 2140) (zG (0 ≤ (wadd 210 v2) ∧ (wadd 210 v2) < 2140) ((F173_3 n) v1 (wadd v2 1) (mset h 14 (wadd 210 v2) (h 14 (wadd 25 (wmul 2 v2))))))
set_option maxRecDepth 100000 in
theorem T173_3 {spec : zRn zH2} {hc : zHC} {o : Int → Int} {d : Nat} (hd : 7 ≤ d) : ∀ (n : Nat) (v1 : Int) (v2 : Int) (h : zHM) (v : (Int × zHM)), F173_3 n v1 v2 h = some v → zFin 0 (fun _ => 0) (zRu2 spec d) 173 (some (0, v.1)) (hc, v.2, o) (103, [some (22, 0), some (0, v1), some (0, v2)], [], (hc, h, o)) := by
  intro n
  induction n with
  | zero => intro v1 v2 h v e; unfold F173_3 at e; cases e
  | succ n hk0 =>
    intro v1 v2 h v e
    unfold F173_3 at e
    rcases zI_s e with ⟨q1, e⟩ | ⟨q1, e⟩
    · refine zF_blk (m := []) (d := 1) (b := B173_23) (gs := [6 ≤ v2]) (c' := (136, [some (22, 0), some (0, v1), some (0, v2)], [], (hc, h, o))) K173_23 rfl ⟨q1, trivial⟩ ?_
      refine zF_blk (m := []) (d := 0) (b := B173_18) (gs := []) (c' := (138, [some (22, 0), some (0, v1), some (0, 0)], [], (hc, h, o))) K173_18 rfl trivial ?_
      exact T173_5 hd zFu v1 0 h _ e
    · refine zF_blk (m := []) (d := 0) (b := B173_23) (gs := [¬ (6 ≤ v2)]) (c' := (109, [some (22, 0), some (0, v1), some (0, v2)], [], (hc, h, o))) K173_23 rfl ⟨q1, trivial⟩ ?_
      obtain ⟨q2, e⟩ := zG_s e
      obtain ⟨q3, e⟩ := zG_s e
      refine zF_blk (m := []) (d := 0) (b := B173_19) (gs := []) (c' := (117, [some (22, 0), some (0, v1), some (0, v2)], [(0, v2), (0, 210), (1344370422, 0)], (hc, h, o))) K173_19 rfl trivial ?_
      refine zF_blk (m := []) (d := 0) (b := B173_20) (gs := []) (c' := (126, [some (22, 0), some (0, v1), some (0, v2)], [(0, v2), (0, 2), (0, 25), (1344370422, 0), (0, (wadd 210 v2)), (1344370422, 0)], (hc, h, o))) K173_20 rfl trivial ?_
      refine zF_blk (m := []) (d := 0) (b := B173_21) (gs := []) (c' := (127, [some (22, 0), some (0, v1), some (0, v2)], [(0, (wmul 2 v2)), (0, 25), (1344370422, 0), (0, (wadd 210 v2)), (1344370422, 0)], (hc, h, o))) K173_21 rfl trivial ?_
      refine zF_blk (m := []) (d := 0) (b := B173_22) (gs := [0 ≤ (wadd 25 (wmul 2 v2)) ∧ (wadd 25 (wmul 2 v2)) < 2140, 0 ≤ (wadd 210 v2) ∧ (wadd 210 v2) < 2140]) (c' := (103, [some (22, 0), some (0, v1), some (0, (wadd v2 1))], [], (hc, (mset h 14 (wadd 210 v2) (h 14 (wadd 25 (wmul 2 v2)))), o))) K173_22 rfl ⟨q2, q3, trivial⟩ ?_
      exact hk0 v1 (wadd v2 1) (mset h 14 (wadd 210 v2) (h 14 (wadd 25 (wmul 2 v2)))) _ e
def F173_4 (k0 : Int → Int → zHM → Option (Int × zHM)) (v1 : Int) (v2 : Int) (s0 : Int) (s1 : Int) (h : zHM) : Option (Int × zHM) := zG (0 ≤ s1 ∧ s1 < 2140) (k0 v1 (wadd v2 1) (mset h 14 s1 s0))
set_option maxRecDepth 100000 in
theorem T173_4 {spec : zRn zH2} {hc : zHC} {o : Int → Int} {d : Nat} (hd : 7 ≤ d) (k0 : Int → Int → zHM → Option (Int × zHM)) (hk0 : ∀ (v1 : Int) (v2 : Int) (h : zHM) (v : (Int × zHM)), k0 v1 v2 h = some v → zFin 0 (fun _ => 0) (zRu2 spec d) 173 (some (0, v.1)) (hc, v.2, o) (65, [some (22, 0), some (0, v1), some (0, v2)], [], (hc, h, o))) (v1 : Int) (v2 : Int) (s0 : Int) (s1 : Int) (h : zHM) (v : (Int × zHM)) (e : F173_4 k0 v1 v2 s0 s1 h = some v) : zFin 0 (fun _ => 0) (zRu2 spec d) 173 (some (0, v.1)) (hc, v.2, o) (94, [some (22, 0), some (0, v1), some (0, v2)], [(0, s0), (0, s1), (1344370422, 0)], (hc, h, o)) := by
  unfold F173_4 at e
  obtain ⟨q1, e⟩ := zG_s e
  refine zF_blk (m := []) (d := 0) (b := B173_17) (gs := [0 ≤ s1 ∧ s1 < 2140]) (c' := (65, [some (22, 0), some (0, v1), some (0, (wadd v2 1))], [], (hc, (mset h 14 s1 s0), o))) K173_17 rfl ⟨q1, trivial⟩ ?_
  exact hk0 v1 (wadd v2 1) (mset h 14 s1 s0) _ e
def F173_2 : Nat → Int → Int → zHM → Option (Int × zHM)
  | 0, _, _, _ => none
  | n + 1, v1, v2, h => if 2140 ≤ v2 then F173_3 zFu v1 0 h else if 209 ≤ v2 then F173_4 (F173_2 n) v1 v2 0 v2 h else zG (0 ≤ v2 ∧ v2 < 209) (F173_4 (F173_2 n) v1 v2 (h 15 v2) v2 h)
set_option maxRecDepth 100000 in
theorem T173_2 {spec : zRn zH2} {hc : zHC} {o : Int → Int} {d : Nat} (hd : 7 ≤ d) : ∀ (n : Nat) (v1 : Int) (v2 : Int) (h : zHM) (v : (Int × zHM)), F173_2 n v1 v2 h = some v → zFin 0 (fun _ => 0) (zRu2 spec d) 173 (some (0, v.1)) (hc, v.2, o) (65, [some (22, 0), some (0, v1), some (0, v2)], [], (hc, h, o)) := by
  intro n
  induction n with
  | zero => intro v1 v2 h v e; unfold F173_2 at e; cases e
  | succ n hk0 =>
    intro v1 v2 h v e
    unfold F173_2 at e
    rcases zI_s e with ⟨q1, e⟩ | ⟨q1, e⟩
    · refine zF_blk (m := []) (d := 1) (b := B173_16) (gs := [2140 ≤ v2]) (c' := (101, [some (22, 0), some (0, v1), some (0, v2)], [], (hc, h, o))) K173_16 rfl ⟨q1, trivial⟩ ?_
      refine zF_blk (m := []) (d := 0) (b := B173_12) (gs := []) (c' := (103, [some (22, 0), some (0, v1), some (0, 0)], [], (hc, h, o))) K173_12 rfl trivial ?_
      exact T173_3 hd zFu v1 0 h _ e
    · refine zF_blk (m := []) (d := 0) (b := B173_16) (gs := [¬ (2140 ≤ v2)]) (c' := (72, [some (22, 0), some (0, v1), some (0, v2)], [], (hc, h, o))) K173_16 rfl ⟨q1, trivial⟩ ?_
      rcases zI_s e with ⟨q2, e⟩ | ⟨q2, e⟩
      · refine zF_blk (m := []) (d := 1) (b := B173_15) (gs := [209 ≤ v2]) (c' := (93, [some (22, 0), some (0, v1), some (0, v2)], [(0, v2), (1344370422, 0)], (hc, h, o))) K173_15 rfl ⟨q2, trivial⟩ ?_
        refine zF_blk (m := []) (d := 0) (b := B173_13) (gs := []) (c' := (94, [some (22, 0), some (0, v1), some (0, v2)], [(0, 0), (0, v2), (1344370422, 0)], (hc, h, o))) K173_13 rfl trivial ?_
        exact T173_4 hd (F173_2 n) hk0 v1 v2 0 v2 h _ e
      · refine zF_blk (m := []) (d := 0) (b := B173_15) (gs := [¬ (209 ≤ v2)]) (c' := (84, [some (22, 0), some (0, v1), some (0, v2)], [(0, v2), (1344370422, 0)], (hc, h, o))) K173_15 rfl ⟨q2, trivial⟩ ?_
        obtain ⟨q3, e⟩ := zG_s e
        refine zF_blk (m := []) (d := 0) (b := B173_14) (gs := [0 ≤ v2 ∧ v2 < 209]) (c' := (94, [some (22, 0), some (0, v1), some (0, v2)], [(0, (h 15 v2)), (0, v2), (1344370422, 0)], (hc, h, o))) K173_14 rfl ⟨q3, trivial⟩ ?_
        exact T173_4 hd (F173_2 n) hk0 v1 v2 (h 15 v2) v2 h _ e
def F173_1 : Nat → Int → zHM → Option (Int × zHM)
  | 0, _, _ => none
  | n + 1, v1, h => if (h 7 0) = 0 then F173_2 zFu v1 0 h else (F180 h).bind fun r1 => if ¬ r1.1 = 0 then (F173_1 n) (wadd v1 1) r1.2 else some ((wsub (-1) (r1.2 11 0)), r1.2)
set_option maxRecDepth 100000 in
theorem T173_1 {spec : zRn zH2} {hc : zHC} {o : Int → Int} {d : Nat} (hd : 7 ≤ d) : ∀ (n : Nat) (v1 : Int) (h : zHM) (v : (Int × zHM)), F173_1 n v1 h = some v → zFin 0 (fun _ => 0) (zRu2 spec d) 173 (some (0, v.1)) (hc, v.2, o) (36, [some (22, 0), some (0, v1), none], [], (hc, h, o)) := by
  intro n
  induction n with
  | zero => intro v1 h v e; unfold F173_1 at e; cases e
  | succ n hk0 =>
    intro v1 h v e
    unfold F173_1 at e
    rcases zI_s e with ⟨q1, e⟩ | ⟨q1, e⟩
    · refine zF_blk (m := []) (d := 1) (b := B173_11) (gs := [(h 7 0) = 0]) (c' := (63, [some (22, 0), some (0, v1), none], [], (hc, h, o))) K173_11 rfl ⟨q1, trivial⟩ ?_
      refine zF_blk (m := []) (d := 0) (b := B173_5) (gs := []) (c' := (65, [some (22, 0), some (0, v1), some (0, 0)], [], (hc, h, o))) K173_5 rfl trivial ?_
      exact T173_2 hd zFu v1 0 h _ e
    · refine zF_blk (m := []) (d := 0) (b := B173_11) (gs := [¬ ((h 7 0) = 0)]) (c' := (43, [some (22, 0), some (0, v1), none], [], (hc, h, o))) K173_11 rfl ⟨q1, trivial⟩ ?_
      obtain ⟨r1, q2, e⟩ := zB_s e
      refine zF_blk (m := []) (d := 0) (b := B173_6) (gs := []) (c' := (44, [some (22, 0), some (0, v1), none], [(22, 0)], (hc, h, o))) K173_6 rfl trivial ?_
      refine zF_call (k := 180) (cl := 12) (n := 1) (i := .invokevirtual 229) (args := [(22, 0)]) (rest := []) (g1 := (hc, r1.2, o)) (r1 := some (0, r1.1)) (by decide +kernel) rfl rfl rfl (st' := [(0, r1.1)]) rfl (S180 (Nat.le_trans (by decide) hd)  h _ q2) ?_
      rcases zI_s e with ⟨q3, e⟩ | ⟨q3, e⟩
      · refine zF_blk (m := []) (d := 1) (b := B173_10) (gs := [¬ r1.1 = 0]) (c' := (57, [some (22, 0), some (0, v1), none], [], (hc, r1.2, o))) K173_10 rfl ⟨q3, trivial⟩ ?_
        refine zF_blk (m := []) (d := 0) (b := B173_7) (gs := []) (c' := (36, [some (22, 0), some (0, (wadd v1 1)), none], [], (hc, r1.2, o))) K173_7 rfl trivial ?_
        exact hk0 (wadd v1 1) r1.2 _ e
      · refine zF_blk (m := []) (d := 0) (b := B173_10) (gs := [¬ (¬ r1.1 = 0)]) (c' := (50, [some (22, 0), some (0, v1), none], [], (hc, r1.2, o))) K173_10 rfl ⟨q3, trivial⟩ ?_
        refine zF_blk (m := []) (d := 0) (b := B173_8) (gs := []) (c' := (55, [some (22, 0), some (0, v1), none], [(0, (r1.2 11 0)), (0, (-1))], (hc, r1.2, o))) K173_8 rfl trivial ?_
        refine zF_blk (m := []) (d := 0) (b := B173_9) (gs := []) (c' := (56, [some (22, 0), some (0, v1), none], [(0, (wsub (-1) (r1.2 11 0)))], (hc, r1.2, o))) K173_9 rfl trivial ?_
        exact zF_riM (by decide +kernel) e
def F173_0 : Nat → Int → zHM → Option (Int × zHM)
  | 0, _, _ => none
  | n + 1, v1, h => if 209 ≤ v1 then F173_1 zFu 0 (mset h 24 0 0) else zG (0 ≤ v1 ∧ v1 < 209) ((F173_0 n) (wadd v1 1) (mset h 15 v1 0))
set_option maxRecDepth 100000 in
theorem T173_0 {spec : zRn zH2} {hc : zHC} {o : Int → Int} {d : Nat} (hd : 7 ≤ d) : ∀ (n : Nat) (v1 : Int) (h : zHM) (v : (Int × zHM)), F173_0 n v1 h = some v → zFin 0 (fun _ => 0) (zRu2 spec d) 173 (some (0, v.1)) (hc, v.2, o) (9, [some (22, 0), some (0, v1), none], [], (hc, h, o)) := by
  intro n
  induction n with
  | zero => intro v1 h v e; unfold F173_0 at e; cases e
  | succ n hk0 =>
    intro v1 h v e
    unfold F173_0 at e
    rcases zI_s e with ⟨q1, e⟩ | ⟨q1, e⟩
    · refine zF_blk (m := []) (d := 1) (b := B173_4) (gs := [209 ≤ v1]) (c' := (29, [some (22, 0), some (0, v1), none], [], (hc, h, o))) K173_4 rfl ⟨q1, trivial⟩ ?_
      refine zF_blk (m := []) (d := 0) (b := B173_2) (gs := [0 = 0 ∨ 0 = 1]) (c' := (36, [some (22, 0), some (0, 0), none], [], (hc, (mset h 24 0 0), o))) K173_2 rfl ⟨by decide, trivial⟩ ?_
      exact T173_1 hd zFu 0 (mset h 24 0 0) _ e
    · refine zF_blk (m := []) (d := 0) (b := B173_4) (gs := [¬ (209 ≤ v1)]) (c' := (16, [some (22, 0), some (0, v1), none], [], (hc, h, o))) K173_4 rfl ⟨q1, trivial⟩ ?_
      obtain ⟨q2, e⟩ := zG_s e
      refine zF_blk (m := []) (d := 0) (b := B173_3) (gs := [0 ≤ v1 ∧ v1 < 209]) (c' := (9, [some (22, 0), some (0, (wadd v1 1)), none], [], (hc, (mset h 15 v1 0), o))) K173_3 rfl ⟨q2, trivial⟩ ?_
      exact hk0 (wadd v1 1) (mset h 15 v1 0) _ e
/-- EchoValeModel.valley()I -/
def F173 (h : zHM) : Option (Int × zHM) := (F174 900 h).bind fun r1 => F173_0 zFu 0 r1
set_option maxRecDepth 100000 in
theorem S173 {spec : zRn zH2} {hc : zHC} {o : Int → Int} {d : Nat} (hd : 8 ≤ d) (h : zHM) (v : (Int × zHM)) (e : F173 h = some v) : zRu2 spec d 173 [(22, 0)] (hc, h, o) (some (0, v.1)) (hc, v.2, o) := by
  refine zF_in (D := 7) (mx := 3) (L := [some (22, 0), none, none]) (by decide +kernel) rfl rfl hd (fun d hd => ?_)
  unfold F173 at e
  obtain ⟨r1, q1, e⟩ := zB_s e
  refine zF_blk (m := []) (d := 0) (b := B173_0) (gs := []) (c' := (4, [some (22, 0), none, none], [(0, 900), (22, 0)], (hc, h, o))) K173_0 rfl trivial ?_
  refine zF_call (k := 174) (cl := 12) (n := 2) (i := .invokevirtual 226) (args := [(22, 0), (0, 900)]) (rest := []) (g1 := (hc, r1, o)) (r1 := none) (by decide +kernel) rfl rfl rfl (st' := []) rfl (S174 (Nat.le_trans (by decide) hd) 900 h _ q1) ?_
  refine zF_blk (m := []) (d := 0) (b := B173_1) (gs := []) (c' := (9, [some (22, 0), some (0, 0), none], [], (hc, r1, o))) K173_1 rfl trivial ?_
  exact T173_0 hd zFu 0 r1 _ e
def B56_0 : List zRow := [(0, .aload_n 0, 1, (0, 0, 0)), (1, .getfield 12, 3, (11, 0, 23)), (4, .getfield 136, 3, (5, 2, 0))]
theorem K56_0 : zRk 56 B56_0 = true := by decide +kernel
/-- EchoVale.fault()I -/
def F56 (h : zHC) : Option Int := some (h 322 0 0)
set_option maxRecDepth 100000 in
theorem S56 {spec : zRn zH2} {hm : zHM} {o : Int → Int} {d : Nat} (hd : 1 ≤ d) (h : zHC) (v : Int) (e : F56 h = some v) : zRu2 spec d 56 [(21, 0)] (h, hm, o) (some (0, v)) (h, hm, o) := by
  refine zF_in (D := 0) (mx := 1) (L := [some (21, 0)]) (by decide +kernel) rfl rfl hd (fun d hd => ?_)
  unfold F56 at e
  refine zF_blk (m := []) (d := 0) (b := B56_0) (gs := []) (c' := (7, [some (21, 0)], [(0, (h 322 0 0))], (h, hm, o))) K56_0 rfl trivial ?_
  obtain rfl := Option.some.inj e
  exact zF_ri (by decide +kernel)
def B203_0 : List zRow := [(0, .aload_n 0, 1, (0, 0, 0)), (1, .iconst 0, 1, (0, 0, 0)), (2, .putfield 81, 3, (12, 0, 0)), (5, .aload_n 0, 1, (0, 0, 0)), (6, .getfield 142, 3, (12, 10, 0))]
theorem K203_0 : zRk 203 B203_0 = true := by decide +kernel
/-- EchoValeModel.fault()I -/
def F203 (h : zHM) : Option (Int × zHM) := some ((h 10 0), (mset h 0 0 0))
set_option maxRecDepth 100000 in
theorem S203 {spec : zRn zH2} {hc : zHC} {o : Int → Int} {d : Nat} (hd : 1 ≤ d) (h : zHM) (v : (Int × zHM)) (e : F203 h = some v) : zRu2 spec d 203 [(22, 0)] (hc, h, o) (some (0, v.1)) (hc, v.2, o) := by
  refine zF_in (D := 0) (mx := 1) (L := [some (22, 0)]) (by decide +kernel) rfl rfl hd (fun d hd => ?_)
  unfold F203 at e
  refine zF_blk (m := []) (d := 0) (b := B203_0) (gs := []) (c' := (9, [some (22, 0)], [(0, (h 10 0))], (hc, (mset h 0 0 0), o))) K203_0 rfl trivial ?_
  exact zF_riM (by decide +kernel) e
def B205_0 : List zRow := [(18, .iconst 0, 1, (0, 0, 0))]
theorem K205_0 : zRk 205 B205_0 = true := by decide +kernel
def B205_1 : List zRow := [(14, .iconst 1, 1, (0, 0, 0)), (15, .goto 4, 3, (0, 0, 0))]
theorem K205_1 : zRk 205 B205_1 = true := by decide +kernel
def B205_2 : List zRow := [(4, .iload_n 1, 1, (0, 0, 0)), (5, .aload_n 0, 1, (0, 0, 0)), (6, .getfield 13, 3, (12, 14, 5251442)), (9, .iconst 2, 1, (0, 0, 0)), (10, .iaload, 1, (0, 0, 0)), (11, .if_icmp .ge 7, 3, (0, 0, 0))]
theorem K205_2 : zRk 205 B205_2 = true := by decide +kernel
def B205_3 : List zRow := [(0, .iload_n 1, 1, (0, 0, 0)), (1, .ifCond .lt 17, 3, (0, 0, 0))]
theorem K205_3 : zRk 205 B205_3 = true := by decide +kernel
/-- EchoValeModel.isCliff(I)Z -/
def F205 (v1 : Int) (h : zHM) : Option Int := if v1 < 0 then some 0 else if (h 14 2) ≤ v1 then some 0 else some 1
set_option maxRecDepth 100000 in
theorem S205 {spec : zRn zH2} {hc : zHC} {o : Int → Int} {d : Nat} (hd : 1 ≤ d) (v1 : Int) (h : zHM) (v : Int) (e : F205 v1 h = some v) : zRu2 spec d 205 [(22, 0), (0, v1)] (hc, h, o) (some (0, v)) (hc, h, o) := by
  refine zF_in (D := 0) (mx := 2) (L := [some (22, 0), some (0, v1)]) (by decide +kernel) rfl rfl hd (fun d hd => ?_)
  unfold F205 at e
  rcases zI_s e with ⟨q1, e⟩ | ⟨q1, e⟩
  · refine zF_blk (m := []) (d := 1) (b := B205_3) (gs := [v1 < 0]) (c' := (18, [some (22, 0), some (0, v1)], [], (hc, h, o))) K205_3 rfl ⟨q1, trivial⟩ ?_
    refine zF_blk (m := []) (d := 0) (b := B205_0) (gs := []) (c' := (19, [some (22, 0), some (0, v1)], [(0, 0)], (hc, h, o))) K205_0 rfl trivial ?_
    obtain rfl := Option.some.inj e
    exact zF_rb (by decide +kernel) (Or.inl rfl)
  · refine zF_blk (m := []) (d := 0) (b := B205_3) (gs := [¬ (v1 < 0)]) (c' := (4, [some (22, 0), some (0, v1)], [], (hc, h, o))) K205_3 rfl ⟨q1, trivial⟩ ?_
    rcases zI_s e with ⟨q2, e⟩ | ⟨q2, e⟩
    · refine zF_blk (m := []) (d := 1) (b := B205_2) (gs := [0 ≤ 2 ∧ 2 < 2140, (h 14 2) ≤ v1]) (c' := (18, [some (22, 0), some (0, v1)], [], (hc, h, o))) K205_2 rfl ⟨by decide, q2, trivial⟩ ?_
      refine zF_blk (m := []) (d := 0) (b := B205_0) (gs := []) (c' := (19, [some (22, 0), some (0, v1)], [(0, 0)], (hc, h, o))) K205_0 rfl trivial ?_
      obtain rfl := Option.some.inj e
      exact zF_rb (by decide +kernel) (Or.inl rfl)
    · refine zF_blk (m := []) (d := 0) (b := B205_2) (gs := [0 ≤ 2 ∧ 2 < 2140, ¬ ((h 14 2) ≤ v1)]) (c' := (14, [some (22, 0), some (0, v1)], [], (hc, h, o))) K205_2 rfl ⟨by decide, q2, trivial⟩ ?_
      refine zF_blk (m := []) (d := 0) (b := B205_1) (gs := []) (c' := (19, [some (22, 0), some (0, v1)], [(0, 1)], (hc, h, o))) K205_1 rfl trivial ?_
      obtain rfl := Option.some.inj e
      exact zF_rb (by decide +kernel) (Or.inr rfl)
def B207_0 : List zRow := [(0, .aload_n 0, 1, (0, 0, 0)), (1, .getfield 13, 3, (12, 14, 5251442)), (4, .bipush 7, 2, (0, 0, 0)), (6, .iconst 3, 1, (0, 0, 0)), (7, .iload_n 1, 1, (0, 0, 0))]
theorem K207_0 : zRk 207 B207_0 = true := by decide +kernel
def B207_1 : List zRow := [(8, .imul, 1, (0, 0, 0))]
theorem K207_1 : zRk 207 B207_1 = true := by decide +kernel
def B207_2 : List zRow := [(9, .iadd, 1, (0, 0, 0)), (10, .iconst 2, 1, (0, 0, 0)), (11, .iadd, 1, (0, 0, 0)), (12, .iaload, 1, (0, 0, 0))]
theorem K207_2 : zRk 207 B207_2 = true := by decide +kernel
/-- EchoValeModel.strength(I)I -/
def F207 (v1 : Int) (h : zHM) : Option Int := zG (0 ≤ (wadd (wadd 7 (wmul 3 v1)) 2) ∧ (wadd (wadd 7 (wmul 3 v1)) 2) < 2140) (some (h 14 (wadd (wadd 7 (wmul 3 v1)) 2)))
set_option maxRecDepth 100000 in
theorem S207 {spec : zRn zH2} {hc : zHC} {o : Int → Int} {d : Nat} (hd : 1 ≤ d) (v1 : Int) (h : zHM) (v : Int) (e : F207 v1 h = some v) : zRu2 spec d 207 [(22, 0), (0, v1)] (hc, h, o) (some (0, v)) (hc, h, o) := by
  refine zF_in (D := 0) (mx := 2) (L := [some (22, 0), some (0, v1)]) (by decide +kernel) rfl rfl hd (fun d hd => ?_)
  unfold F207 at e
  obtain ⟨q1, e⟩ := zG_s e
  refine zF_blk (m := []) (d := 0) (b := B207_0) (gs := []) (c' := (8, [some (22, 0), some (0, v1)], [(0, v1), (0, 3), (0, 7), (1344370422, 0)], (hc, h, o))) K207_0 rfl trivial ?_
  refine zF_blk (m := []) (d := 0) (b := B207_1) (gs := []) (c' := (9, [some (22, 0), some (0, v1)], [(0, (wmul 3 v1)), (0, 7), (1344370422, 0)], (hc, h, o))) K207_1 rfl trivial ?_
  refine zF_blk (m := []) (d := 0) (b := B207_2) (gs := [0 ≤ (wadd (wadd 7 (wmul 3 v1)) 2) ∧ (wadd (wadd 7 (wmul 3 v1)) 2) < 2140]) (c' := (13, [some (22, 0), some (0, v1)], [(0, (h 14 (wadd (wadd 7 (wmul 3 v1)) 2)))], (hc, h, o))) K207_2 rfl ⟨q1, trivial⟩ ?_
  obtain rfl := Option.some.inj e
  exact zF_ri (by decide +kernel)
def B208_0 : List zRow := [(0, .iconst 0, 1, (0, 0, 0)), (1, .istore_n 2, 1, (0, 0, 0)), (2, .iconst (-1), 1, (0, 0, 0)), (3, .istore_n 3, 1, (0, 0, 0)), (4, .iconst 0, 1, (0, 0, 0)), (5, .istore 4, 2, (0, 0, 0))]
theorem K208_0 : zRk 208 B208_0 = true := by decide +kernel
def B208_1 : List zRow := [(74, .iload_n 2, 1, (0, 0, 0))]
theorem K208_1 : zRk 208 B208_1 = true := by decide +kernel
def B208_2 : List zRow := [(19, .aload_n 0, 1, (0, 0, 0)), (20, .getfield 13, 3, (12, 14, 5251442)), (23, .sipush 197, 3, (0, 0, 0)), (26, .iconst 2, 1, (0, 0, 0)), (27, .iload 4, 2, (0, 0, 0))]
theorem K208_2 : zRk 208 B208_2 = true := by decide +kernel
def B208_3 : List zRow := [(29, .imul, 1, (0, 0, 0))]
theorem K208_3 : zRk 208 B208_3 = true := by decide +kernel
def B208_4 : List zRow := [(49, .iload 5, 2, (0, 0, 0)), (51, .istore_n 3, 1, (0, 0, 0)), (52, .aload_n 0, 1, (0, 0, 0)), (53, .getfield 13, 3, (12, 14, 5251442)), (56, .sipush 197, 3, (0, 0, 0)), (59, .iconst 2, 1, (0, 0, 0)), (60, .iload 4, 2, (0, 0, 0))]
theorem K208_4 : zRk 208 B208_4 = true := by decide +kernel
def B208_5 : List zRow := [(62, .imul, 1, (0, 0, 0))]
theorem K208_5 : zRk 208 B208_5 = true := by decide +kernel
def B208_6 : List zRow := [(63, .iadd, 1, (0, 0, 0)), (64, .iconst 1, 1, (0, 0, 0)), (65, .iadd, 1, (0, 0, 0)), (66, .iaload, 1, (0, 0, 0)), (67, .istore_n 2, 1, (0, 0, 0))]
theorem K208_6 : zRk 208 B208_6 = true := by decide +kernel
def B208_7 : List zRow := [(46, .goto 22, 3, (0, 0, 0))]
theorem K208_7 : zRk 208 B208_7 = true := by decide +kernel
def B208_8 : List zRow := [(40, .iload 5, 2, (0, 0, 0)), (42, .iload_n 3, 1, (0, 0, 0)), (43, .if_icmp .ge 6, 3, (0, 0, 0))]
theorem K208_8 : zRk 208 B208_8 = true := by decide +kernel
def B208_9 : List zRow := [(30, .iadd, 1, (0, 0, 0)), (31, .iaload, 1, (0, 0, 0)), (32, .istore 5, 2, (0, 0, 0)), (34, .iload 5, 2, (0, 0, 0)), (36, .iload_n 1, 1, (0, 0, 0)), (37, .if_icmp .gt 31, 3, (0, 0, 0))]
theorem K208_9 : zRk 208 B208_9 = true := by decide +kernel
def B208_10 : List zRow := [(7, .iload 4, 2, (0, 0, 0)), (9, .aload_n 0, 1, (0, 0, 0)), (10, .getfield 13, 3, (12, 14, 5251442)), (13, .bipush 6, 2, (0, 0, 0)), (15, .iaload, 1, (0, 0, 0)), (16, .if_icmp .ge 58, 3, (0, 0, 0))]
theorem K208_10 : zRk 208 B208_10 = true := by decide +kernel
def B208_11 : List zRow := [(68, .iinc 4 1, 3, (0, 0, 0)), (71, .goto (-64), 3, (0, 0, 0))]
theorem K208_11 : zRk 208 B208_11 = true := by decide +kernel
def F208_1 (k0 : Int → Int → Int → Int → Option Int) (h : zHM) (v1 : Int) (v2 : Int) (v3 : Int) (v4 : Int) : Option Int := k0 v1 v2 v3 (wadd v4 1)
set_option maxRecDepth 100000 in
theorem T208_1 {spec : zRn zH2} {hc : zHC} {o : Int → Int} {d : Nat} (hd : 0 ≤ d) (h : zHM) (k0 : Int → Int → Int → Int → Option Int) (hk0 : ∀ (v1 : Int) (v2 : Int) (v3 : Int) (v4 : Int) (v : Int), k0 v1 v2 v3 v4 = some v → zFin 0 (fun _ => 0) (zRu2 spec d) 208 (some (0, v)) (hc, h, o) (7, [some (22, 0), some (0, v1), some (0, v2), some (0, v3), some (0, v4), none], [], (hc, h, o))) (v1 : Int) (v2 : Int) (v3 : Int) (v4 : Int) (v : Int) (e : F208_1 k0 h v1 v2 v3 v4 = some v) : zFin 0 (fun _ => 0) (zRu2 spec d) 208 (some (0, v)) (hc, h, o) (68, [some (22, 0), some (0, v1), some (0, v2), some (0, v3), some (0, v4), none], [], (hc, h, o)) := by
  unfold F208_1 at e
  refine zF_blk (m := []) (d := 0) (b := B208_11) (gs := []) (c' := (7, [some (22, 0), some (0, v1), some (0, v2), some (0, v3), some (0, (wadd v4 1)), none], [], (hc, h, o))) K208_11 rfl trivial ?_
  exact hk0 v1 v2 v3 (wadd v4 1) _ e
def F208_0 (h : zHM) : Nat → Int → Int → Int → Int → Option Int
  | 0, _, _, _, _ => none
  | n + 1, v1, v2, v3, v4 => if (h 14 6) ≤ v4 then some v2 else zG (0 ≤ (wadd 197 (wmul 2 v4)) ∧ (wadd 197 (wmul 2 v4)) < 2140) (if v1 < (h 14 (wadd 197 (wmul 2 v4))) then F208_1 (F208_0 h n) h v1 v2 v3 v4 else if v3 ≤ (h 14 (wadd 197 (wmul 2 v4))) then zG (0 ≤ (wadd (wadd 197 (wmul 2 v4)) 1) ∧ (wadd (wadd 197 (wmul 2 v4)) 1) < 2140) (F208_1 (F208_0 h n) h v1 (h 14 (wadd (wadd 197 (wmul 2 v4)) 1)) (h 14 (wadd 197 (wmul 2 v4))) v4) else F208_1 (F208_0 h n) h v1 v2 v3 v4)
set_option maxRecDepth 100000 in
theorem T208_0 {spec : zRn zH2} {hc : zHC} {o : Int → Int} {d : Nat} (hd : 0 ≤ d) (h : zHM) : ∀ (n : Nat) (v1 : Int) (v2 : Int) (v3 : Int) (v4 : Int) (v : Int), F208_0 h n v1 v2 v3 v4 = some v → zFin 0 (fun _ => 0) (zRu2 spec d) 208 (some (0, v)) (hc, h, o) (7, [some (22, 0), some (0, v1), some (0, v2), some (0, v3), some (0, v4), none], [], (hc, h, o)) := by
  intro n
  induction n with
  | zero => intro v1 v2 v3 v4 v e; unfold F208_0 at e; cases e
  | succ n hk0 =>
    intro v1 v2 v3 v4 v e
    unfold F208_0 at e
    rcases zI_s e with ⟨q1, e⟩ | ⟨q1, e⟩
    · refine zF_blk (m := []) (d := 1) (b := B208_10) (gs := [0 ≤ 6 ∧ 6 < 2140, (h 14 6) ≤ v4]) (c' := (74, [some (22, 0), some (0, v1), some (0, v2), some (0, v3), some (0, v4), none], [], (hc, h, o))) K208_10 rfl ⟨by decide, q1, trivial⟩ ?_
      refine zF_blk (m := []) (d := 0) (b := B208_1) (gs := []) (c' := (75, [some (22, 0), some (0, v1), some (0, v2), some (0, v3), some (0, v4), none], [(0, v2)], (hc, h, o))) K208_1 rfl trivial ?_
      obtain rfl := Option.some.inj e
      exact zF_ri (by decide +kernel)
    · refine zF_blk (m := []) (d := 0) (b := B208_10) (gs := [0 ≤ 6 ∧ 6 < 2140, ¬ ((h 14 6) ≤ v4)]) (c' := (19, [some (22, 0), some (0, v1), some (0, v2), some (0, v3), some (0, v4), none], [], (hc, h, o))) K208_10 rfl ⟨by decide, q1, trivial⟩ ?_
      obtain ⟨q2, e⟩ := zG_s e
      refine zF_blk (m := []) (d := 0) (b := B208_2) (gs := []) (c' := (29, [some (22, 0), some (0, v1), some (0, v2), some (0, v3), some (0, v4), none], [(0, v4), (0, 2), (0, 197), (1344370422, 0)], (hc, h, o))) K208_2 rfl trivial ?_
      refine zF_blk (m := []) (d := 0) (b := B208_3) (gs := []) (c' := (30, [some (22, 0), some (0, v1), some (0, v2), some (0, v3), some (0, v4), none], [(0, (wmul 2 v4)), (0, 197), (1344370422, 0)], (hc, h, o))) K208_3 rfl trivial ?_
      rcases zI_s e with ⟨q3, e⟩ | ⟨q3, e⟩
      · refine zF_blk (m := []) (d := 1) (b := B208_9) (gs := [0 ≤ (wadd 197 (wmul 2 v4)) ∧ (wadd 197 (wmul 2 v4)) < 2140, v1 < (h 14 (wadd 197 (wmul 2 v4)))]) (c' := (68, [some (22, 0), some (0, v1), some (0, v2), some (0, v3), some (0, v4), some (0, (h 14 (wadd 197 (wmul 2 v4))))], [], (hc, h, o))) K208_9 rfl ⟨q2, q3, trivial⟩ ?_
        refine zF_blk (m := [true, true, true, true, true, false]) (d := 0) (b := []) (gs := []) (c' := (68, [some (22, 0), some (0, v1), some (0, v2), some (0, v3), some (0, v4), none], [], (hc, h, o))) rfl rfl trivial ?_
        exact T208_1 hd h (F208_0 h n) hk0 v1 v2 v3 v4 _ e
      · refine zF_blk (m := []) (d := 0) (b := B208_9) (gs := [0 ≤ (wadd 197 (wmul 2 v4)) ∧ (wadd 197 (wmul 2 v4)) < 2140, ¬ (v1 < (h 14 (wadd 197 (wmul 2 v4))))]) (c' := (40, [some (22, 0), some (0, v1), some (0, v2), some (0, v3), some (0, v4), some (0, (h 14 (wadd 197 (wmul 2 v4))))], [], (hc, h, o))) K208_9 rfl ⟨q2, q3, trivial⟩ ?_
        rcases zI_s e with ⟨q4, e⟩ | ⟨q4, e⟩
        · refine zF_blk (m := []) (d := 1) (b := B208_8) (gs := [v3 ≤ (h 14 (wadd 197 (wmul 2 v4)))]) (c' := (49, [some (22, 0), some (0, v1), some (0, v2), some (0, v3), some (0, v4), some (0, (h 14 (wadd 197 (wmul 2 v4))))], [], (hc, h, o))) K208_8 rfl ⟨q4, trivial⟩ ?_
          obtain ⟨q5, e⟩ := zG_s e
          refine zF_blk (m := []) (d := 0) (b := B208_4) (gs := []) (c' := (62, [some (22, 0), some (0, v1), some (0, v2), some (0, (h 14 (wadd 197 (wmul 2 v4)))), some (0, v4), some (0, (h 14 (wadd 197 (wmul 2 v4))))], [(0, v4), (0, 2), (0, 197), (1344370422, 0)], (hc, h, o))) K208_4 rfl trivial ?_
          refine zF_blk (m := []) (d := 0) (b := B208_5) (gs := []) (c' := (63, [some (22, 0), some (0, v1), some (0, v2), some (0, (h 14 (wadd 197 (wmul 2 v4)))), some (0, v4), some (0, (h 14 (wadd 197 (wmul 2 v4))))], [(0, (wmul 2 v4)), (0, 197), (1344370422, 0)], (hc, h, o))) K208_5 rfl trivial ?_
          refine zF_blk (m := []) (d := 0) (b := B208_6) (gs := [0 ≤ (wadd (wadd 197 (wmul 2 v4)) 1) ∧ (wadd (wadd 197 (wmul 2 v4)) 1) < 2140]) (c' := (68, [some (22, 0), some (0, v1), some (0, (h 14 (wadd (wadd 197 (wmul 2 v4)) 1))), some (0, (h 14 (wadd 197 (wmul 2 v4)))), some (0, v4), some (0, (h 14 (wadd 197 (wmul 2 v4))))], [], (hc, h, o))) K208_6 rfl ⟨q5, trivial⟩ ?_
          refine zF_blk (m := [true, true, true, true, true, false]) (d := 0) (b := []) (gs := []) (c' := (68, [some (22, 0), some (0, v1), some (0, (h 14 (wadd (wadd 197 (wmul 2 v4)) 1))), some (0, (h 14 (wadd 197 (wmul 2 v4)))), some (0, v4), none], [], (hc, h, o))) rfl rfl trivial ?_
          exact T208_1 hd h (F208_0 h n) hk0 v1 (h 14 (wadd (wadd 197 (wmul 2 v4)) 1)) (h 14 (wadd 197 (wmul 2 v4))) v4 _ e
        · refine zF_blk (m := []) (d := 0) (b := B208_8) (gs := [¬ (v3 ≤ (h 14 (wadd 197 (wmul 2 v4))))]) (c' := (46, [some (22, 0), some (0, v1), some (0, v2), some (0, v3), some (0, v4), some (0, (h 14 (wadd 197 (wmul 2 v4))))], [], (hc, h, o))) K208_8 rfl ⟨q4, trivial⟩ ?_
          refine zF_blk (m := []) (d := 0) (b := B208_7) (gs := []) (c' := (68, [some (22, 0), some (0, v1), some (0, v2), some (0, v3), some (0, v4), some (0, (h 14 (wadd 197 (wmul 2 v4))))], [], (hc, h, o))) K208_7 rfl trivial ?_
          refine zF_blk (m := [true, true, true, true, true, false]) (d := 0) (b := []) (gs := []) (c' := (68, [some (22, 0), some (0, v1), some (0, v2), some (0, v3), some (0, v4), none], [], (hc, h, o))) rfl rfl trivial ?_
          exact T208_1 hd h (F208_0 h n) hk0 v1 v2 v3 v4 _ e
/-- EchoValeModel.snowAt(I)I -/
def F208 (v1 : Int) (h : zHM) : Option Int := F208_0 h zFu v1 0 (-1) 0
set_option maxRecDepth 100000 in
theorem S208 {spec : zRn zH2} {hc : zHC} {o : Int → Int} {d : Nat} (hd : 1 ≤ d) (v1 : Int) (h : zHM) (v : Int) (e : F208 v1 h = some v) : zRu2 spec d 208 [(22, 0), (0, v1)] (hc, h, o) (some (0, v)) (hc, h, o) := by
  refine zF_in (D := 0) (mx := 6) (L := [some (22, 0), some (0, v1), none, none, none, none]) (by decide +kernel) rfl rfl hd (fun d hd => ?_)
  unfold F208 at e
  refine zF_blk (m := []) (d := 0) (b := B208_0) (gs := []) (c' := (7, [some (22, 0), some (0, v1), some (0, 0), some (0, (-1)), some (0, 0), none], [], (hc, h, o))) K208_0 rfl trivial ?_
  exact T208_0 hd h zFu v1 0 (-1) 0 _ e
