/-! Functions of the methods, by wip/gen/lift.py. -/
def B249_0 : List zRow := [(0, .aload_n 0, 1, (0, 0, 0))]
theorem K249_0 : zRk 249 B249_0 = true := by decide +kernel
def B249_1 : List zRow := [(4, .iconst 0, 1, (0, 0, 0)), (5, .istore_n 3, 1, (0, 0, 0))]
theorem K249_1 : zRk 249 B249_1 = true := by decide +kernel
def B249_2 : List zRow := [(53, .aload_n 0, 1, (0, 0, 0)), (54, .iload_n 2, 1, (0, 0, 0))]
theorem K249_2 : zRk 249 B249_2 = true := by decide +kernel
def B249_3 : List zRow := [(58, .pop, 1, (0, 0, 0)), (59, .iconst 0, 1, (0, 0, 0)), (60, .istore_n 3, 1, (0, 0, 0))]
theorem K249_3 : zRk 249 B249_3 = true := by decide +kernel
def B249_4 : List zRow := [(16, .iload_n 1, 1, (0, 0, 0)), (17, .iload_n 3, 1, (0, 0, 0))]
theorem K249_4 : zRk 249 B249_4 = true := by decide +kernel
def B249_5 : List zRow := [(24, .aload_n 0, 1, (0, 0, 0)), (25, .getfield 13, 3, (12, 14, 5251442)), (28, .sipush 210, 3, (0, 0, 0)), (31, .iload_n 3, 1, (0, 0, 0))]
theorem K249_5 : zRk 249 B249_5 = true := by decide +kernel
def B249_6 : List zRow := [(32, .iadd, 1, (0, 0, 0)), (33, .aload_n 0, 1, (0, 0, 0)), (34, .getfield 13, 3, (12, 14, 5251442)), (37, .bipush 25, 2, (0, 0, 0)), (39, .iconst 2, 1, (0, 0, 0)), (40, .iload_n 3, 1, (0, 0, 0))]
theorem K249_6 : zRk 249 B249_6 = true := by decide +kernel
def B249_7 : List zRow := [(41, .imul, 1, (0, 0, 0))]
theorem K249_7 : zRk 249 B249_7 = true := by decide +kernel
def B249_8 : List zRow := [(42, .iadd, 1, (0, 0, 0)), (43, .iconst 1, 1, (0, 0, 0)), (44, .iadd, 1, (0, 0, 0)), (45, .iaload, 1, (0, 0, 0)), (46, .iastore, 1, (0, 0, 0))]
theorem K249_8 : zRk 249 B249_8 = true := by decide +kernel
def B249_9 : List zRow := [(21, .ifCond .eq 26, 3, (0, 0, 0))]
theorem K249_9 : zRk 249 B249_9 = true := by decide +kernel
def B249_10 : List zRow := [(6, .iload_n 3, 1, (0, 0, 0)), (7, .aload_n 0, 1, (0, 0, 0)), (8, .getfield 13, 3, (12, 14, 5251442)), (11, .iconst 3, 1, (0, 0, 0)), (12, .iaload, 1, (0, 0, 0)), (13, .if_icmp .ge 40, 3, (0, 0, 0))]
theorem K249_10 : zRk 249 B249_10 = true := by decide +kernel
def B249_11 : List zRow := [(47, .iinc 3 1, 3, (0, 0, 0)), (50, .goto (-44), 3, (0, 0, 0))]
theorem K249_11 : zRk 249 B249_11 = true := by decide +kernel
def B249_12 : List zRow := [(93, .aload_n 0, 1, (0, 0, 0))]
theorem K249_12 : zRk 249 B249_12 = true := by decide +kernel
def B249_13 : List zRow := [(71, .aload_n 0, 1, (0, 0, 0)), (72, .getfield 42, 3, (12, 25, 5244418)), (75, .bipush 6, 2, (0, 0, 0)), (77, .iload_n 1, 1, (0, 0, 0))]
theorem K249_13 : zRk 249 B249_13 = true := by decide +kernel
def B249_14 : List zRow := [(78, .imul, 1, (0, 0, 0)), (79, .iload_n 3, 1, (0, 0, 0)), (80, .iadd, 1, (0, 0, 0)), (81, .aload_n 0, 1, (0, 0, 0)), (82, .iload_n 3, 1, (0, 0, 0))]
theorem K249_14 : zRk 249 B249_14 = true := by decide +kernel
def B249_15 : List zRow := [(86, .iastore, 1, (0, 0, 0)), (87, .iinc 3 1, 3, (0, 0, 0)), (90, .goto (-29), 3, (0, 0, 0))]
theorem K249_15 : zRk 249 B249_15 = true := by decide +kernel
def B249_16 : List zRow := [(61, .iload_n 3, 1, (0, 0, 0)), (62, .aload_n 0, 1, (0, 0, 0)), (63, .getfield 13, 3, (12, 14, 5251442)), (66, .iconst 3, 1, (0, 0, 0)), (67, .iaload, 1, (0, 0, 0)), (68, .if_icmp .ge 25, 3, (0, 0, 0))]
theorem K249_16 : zRk 249 B249_16 = true := by decide +kernel
def F249_1 : Nat → Int → Int → zHM → Option zHM
  | 0, _, _, _ => none
  | n + 1, v1, v3, h => if (h 14 3) ≤ v3 then (F245 h).bind fun r1 => some r1 else (F211 v3 h).bind fun r2 => zG (0 ≤ (wadd (wmul 6 v1) v3) ∧ (wadd (wmul 6 v1) v3) < 384) ((F249_1 n) v1 (wadd v3 1) (mset h 25 (wadd (wmul 6 v1) v3) r2))
set_option maxRecDepth 100000 in
theorem T249_1 {spec : zRn zH2} {hc : zHC} {o : Int → Int} {d : Nat} (hd : 6 ≤ d) : ∀ (n : Nat) (v1 : Int) (v3 : Int) (h : zHM) (v : zHM), F249_1 n v1 v3 h = some v → zFin 0 (fun _ => 0) (zRu2 spec d) 249 none (hc, v, o) (61, [some (22, 0), some (0, v1), none, some (0, v3)], [], (hc, h, o)) := by
  intro n
  induction n with
  | zero => intro v1 v3 h v e; unfold F249_1 at e; cases e
  | succ n hk0 =>
    intro v1 v3 h v e
    unfold F249_1 at e
    rcases zI_s e with ⟨q1, e⟩ | ⟨q1, e⟩
    · refine zF_blk (m := []) (d := 1) (b := B249_16) (gs := [0 ≤ 3 ∧ 3 < 2140, (h 14 3) ≤ v3]) (c' := (93, [some (22, 0), some (0, v1), none, some (0, v3)], [], (hc, h, o))) K249_16 rfl ⟨by decide, q1, trivial⟩ ?_
      obtain ⟨r1, q2, e⟩ := zB_s e
      refine zF_blk (m := []) (d := 0) (b := B249_12) (gs := []) (c' := (94, [some (22, 0), some (0, v1), none, some (0, v3)], [(22, 0)], (hc, h, o))) K249_12 rfl trivial ?_
      refine zF_call (k := 245) (cl := 12) (n := 1) (i := .invokevirtual 320) (args := [(22, 0)]) (rest := []) (g1 := (hc, r1, o)) (r1 := none) (by decide +kernel) rfl rfl rfl (st' := []) rfl (S245 (Nat.le_trans (by decide) hd)  h _ q2) ?_
      obtain rfl := Option.some.inj e
      exact zF_rv (by decide +kernel)
    · refine zF_blk (m := []) (d := 0) (b := B249_16) (gs := [0 ≤ 3 ∧ 3 < 2140, ¬ ((h 14 3) ≤ v3)]) (c' := (71, [some (22, 0), some (0, v1), none, some (0, v3)], [], (hc, h, o))) K249_16 rfl ⟨by decide, q1, trivial⟩ ?_
      refine zF_blk (m := []) (d := 0) (b := B249_13) (gs := []) (c' := (78, [some (22, 0), some (0, v1), none, some (0, v3)], [(0, v1), (0, 6), (1342572289, 0)], (hc, h, o))) K249_13 rfl trivial ?_
      obtain ⟨r2, q3, e⟩ := zB_s e
      refine zF_blk (m := []) (d := 0) (b := B249_14) (gs := []) (c' := (83, [some (22, 0), some (0, v1), none, some (0, v3)], [(0, v3), (22, 0), (0, (wadd (wmul 6 v1) v3)), (1342572289, 0)], (hc, h, o))) K249_14 rfl trivial ?_
      refine zF_call (k := 211) (cl := 12) (n := 2) (i := .invokevirtual 263) (args := [(22, 0), (0, v3)]) (rest := [(0, (wadd (wmul 6 v1) v3)), (1342572289, 0)]) (g1 := (hc, h, o)) (r1 := some (0, r2)) (by decide +kernel) rfl rfl rfl (st' := [(0, r2), (0, (wadd (wmul 6 v1) v3)), (1342572289, 0)]) rfl (S211 (Nat.le_trans (by decide) hd) v3 h _ q3) ?_
      obtain ⟨q4, e⟩ := zG_s e
      refine zF_blk (m := []) (d := 0) (b := B249_15) (gs := [0 ≤ (wadd (wmul 6 v1) v3) ∧ (wadd (wmul 6 v1) v3) < 384]) (c' := (61, [some (22, 0), some (0, v1), none, some (0, (wadd v3 1))], [], (hc, (mset h 25 (wadd (wmul 6 v1) v3) r2), o))) K249_15 rfl ⟨q4, trivial⟩ ?_
      exact hk0 v1 (wadd v3 1) (mset h 25 (wadd (wmul 6 v1) v3) r2) _ e
def F249_2 (k0 : Int → Int → Int → zHM → Option zHM) (v1 : Int) (v2 : Int) (v3 : Int) (h : zHM) : Option zHM := k0 v1 v2 (wadd v3 1) h
set_option maxRecDepth 100000 in
theorem T249_2 {spec : zRn zH2} {hc : zHC} {o : Int → Int} {d : Nat} (hd : 6 ≤ d) (k0 : Int → Int → Int → zHM → Option zHM) (hk0 : ∀ (v1 : Int) (v2 : Int) (v3 : Int) (h : zHM) (v : zHM), k0 v1 v2 v3 h = some v → zFin 0 (fun _ => 0) (zRu2 spec d) 249 none (hc, v, o) (6, [some (22, 0), some (0, v1), some (0, v2), some (0, v3)], [], (hc, h, o))) (v1 : Int) (v2 : Int) (v3 : Int) (h : zHM) (v : zHM) (e : F249_2 k0 v1 v2 v3 h = some v) : zFin 0 (fun _ => 0) (zRu2 spec d) 249 none (hc, v, o) (47, [some (22, 0), some (0, v1), some (0, v2), some (0, v3)], [], (hc, h, o)) := by
  unfold F249_2 at e
  refine zF_blk (m := []) (d := 0) (b := B249_11) (gs := []) (c' := (6, [some (22, 0), some (0, v1), some (0, v2), some (0, (wadd v3 1))], [], (hc, h, o))) K249_11 rfl trivial ?_
  exact hk0 v1 v2 (wadd v3 1) h _ e
def F249_0 : Nat → Int → Int → Int → zHM → Option zHM
  | 0, _, _, _, _ => none
  | n + 1, v1, v2, v3, h => if (h 14 3) ≤ v3 then (F235 v2 h).bind fun r1 => F249_1 zFu v1 0 r1.2 else (F214 v1 v3).bind fun r2 => if r2 = 0 then F249_2 (F249_0 n) v1 v2 v3 h else zG (0 ≤ (wadd (wadd 25 (wmul 2 v3)) 1) ∧ (wadd (wadd 25 (wmul 2 v3)) 1) < 2140) (zG (0 ≤ (wadd 210 v3) ∧ (wadd 210 v3) < 2140) (F249_2 (F249_0 n) v1 v2 v3 (mset h 14 (wadd 210 v3) (h 14 (wadd (wadd 25 (wmul 2 v3)) 1)))))
set_option maxRecDepth 100000 in
theorem T249_0 {spec : zRn zH2} {hc : zHC} {o : Int → Int} {d : Nat} (hd : 6 ≤ d) : ∀ (n : Nat) (v1 : Int) (v2 : Int) (v3 : Int) (h : zHM) (v : zHM), F249_0 n v1 v2 v3 h = some v → zFin 0 (fun _ => 0) (zRu2 spec d) 249 none (hc, v, o) (6, [some (22, 0), some (0, v1), some (0, v2), some (0, v3)], [], (hc, h, o)) := by
  intro n
  induction n with
  | zero => intro v1 v2 v3 h v e; unfold F249_0 at e; cases e
  | succ n hk0 =>
    intro v1 v2 v3 h v e
    unfold F249_0 at e
    rcases zI_s e with ⟨q1, e⟩ | ⟨q1, e⟩
    · refine zF_blk (m := []) (d := 1) (b := B249_10) (gs := [0 ≤ 3 ∧ 3 < 2140, (h 14 3) ≤ v3]) (c' := (53, [some (22, 0), some (0, v1), some (0, v2), some (0, v3)], [], (hc, h, o))) K249_10 rfl ⟨by decide, q1, trivial⟩ ?_
      obtain ⟨r1, q2, e⟩ := zB_s e
      refine zF_blk (m := []) (d := 0) (b := B249_2) (gs := []) (c' := (55, [some (22, 0), some (0, v1), some (0, v2), some (0, v3)], [(0, v2), (22, 0)], (hc, h, o))) K249_2 rfl trivial ?_
      refine zF_call (k := 235) (cl := 12) (n := 2) (i := .invokevirtual 314) (args := [(22, 0), (0, v2)]) (rest := []) (g1 := (hc, r1.2, o)) (r1 := some (0, r1.1)) (by decide +kernel) rfl rfl rfl (st' := [(0, r1.1)]) rfl (S235 (Nat.le_trans (by decide) hd) v2 h _ q2) ?_
      refine zF_blk (m := []) (d := 0) (b := B249_3) (gs := []) (c' := (61, [some (22, 0), some (0, v1), some (0, v2), some (0, 0)], [], (hc, r1.2, o))) K249_3 rfl trivial ?_
      refine zF_blk (m := [true, true, false, true]) (d := 0) (b := []) (gs := []) (c' := (61, [some (22, 0), some (0, v1), none, some (0, 0)], [], (hc, r1.2, o))) rfl rfl trivial ?_
      exact T249_1 hd zFu v1 0 r1.2 _ e
    · refine zF_blk (m := []) (d := 0) (b := B249_10) (gs := [0 ≤ 3 ∧ 3 < 2140, ¬ ((h 14 3) ≤ v3)]) (c' := (16, [some (22, 0), some (0, v1), some (0, v2), some (0, v3)], [], (hc, h, o))) K249_10 rfl ⟨by decide, q1, trivial⟩ ?_
      obtain ⟨r2, q3, e⟩ := zB_s e
      refine zF_blk (m := []) (d := 0) (b := B249_4) (gs := []) (c' := (18, [some (22, 0), some (0, v1), some (0, v2), some (0, v3)], [(0, v3), (0, v1)], (hc, h, o))) K249_4 rfl trivial ?_
      refine zF_call (k := 214) (cl := 12) (n := 2) (i := .invokestatic 251) (args := [(0, v1), (0, v3)]) (rest := []) (g1 := (hc, h, o)) (r1 := some (0, r2)) (by decide +kernel) rfl rfl rfl (st' := [(0, r2)]) rfl (S214 (Nat.le_trans (by decide) hd) v1 v3 h _ q3) ?_
      rcases zI_s e with ⟨q4, e⟩ | ⟨q4, e⟩
      · refine zF_blk (m := []) (d := 1) (b := B249_9) (gs := [r2 = 0]) (c' := (47, [some (22, 0), some (0, v1), some (0, v2), some (0, v3)], [], (hc, h, o))) K249_9 rfl ⟨q4, trivial⟩ ?_
        exact T249_2 hd (F249_0 n) hk0 v1 v2 v3 h _ e
      · refine zF_blk (m := []) (d := 0) (b := B249_9) (gs := [¬ (r2 = 0)]) (c' := (24, [some (22, 0), some (0, v1), some (0, v2), some (0, v3)], [], (hc, h, o))) K249_9 rfl ⟨q4, trivial⟩ ?_
        obtain ⟨q5, e⟩ := zG_s e
        obtain ⟨q6, e⟩ := zG_s e
        refine zF_blk (m := []) (d := 0) (b := B249_5) (gs := []) (c' := (32, [some (22, 0), some (0, v1), some (0, v2), some (0, v3)], [(0, v3), (0, 210), (1344370422, 0)], (hc, h, o))) K249_5 rfl trivial ?_
        refine zF_blk (m := []) (d := 0) (b := B249_6) (gs := []) (c' := (41, [some (22, 0), some (0, v1), some (0, v2), some (0, v3)], [(0, v3), (0, 2), (0, 25), (1344370422, 0), (0, (wadd 210 v3)), (1344370422, 0)], (hc, h, o))) K249_6 rfl trivial ?_
        refine zF_blk (m := []) (d := 0) (b := B249_7) (gs := []) (c' := (42, [some (22, 0), some (0, v1), some (0, v2), some (0, v3)], [(0, (wmul 2 v3)), (0, 25), (1344370422, 0), (0, (wadd 210 v3)), (1344370422, 0)], (hc, h, o))) K249_7 rfl trivial ?_
        refine zF_blk (m := []) (d := 0) (b := B249_8) (gs := [0 ≤ (wadd (wadd 25 (wmul 2 v3)) 1) ∧ (wadd (wadd 25 (wmul 2 v3)) 1) < 2140, 0 ≤ (wadd 210 v3) ∧ (wadd 210 v3) < 2140]) (c' := (47, [some (22, 0), some (0, v1), some (0, v2), some (0, v3)], [], (hc, (mset h 14 (wadd 210 v3) (h 14 (wadd (wadd 25 (wmul 2 v3)) 1))), o))) K249_8 rfl ⟨q5, q6, trivial⟩ ?_
        exact T249_2 hd (F249_0 n) hk0 v1 v2 v3 (mset h 14 (wadd 210 v3) (h 14 (wadd (wadd 25 (wmul 2 v3)) 1))) _ e
/-- EchoValeModel.layHas(II)V -/
def F249 (v1 : Int) (v2 : Int) (h : zHM) : Option zHM := (F244 h).bind fun r1 => F249_0 zFu v1 v2 0 r1
set_option maxRecDepth 100000 in
theorem S249 {spec : zRn zH2} {hc : zHC} {o : Int → Int} {d : Nat} (hd : 7 ≤ d) (v1 : Int) (v2 : Int) (h : zHM) (v : zHM) (e : F249 v1 v2 h = some v) : zRu2 spec d 249 [(22, 0), (0, v1), (0, v2)] (hc, h, o) none (hc, v, o) := by
  refine zF_in (D := 6) (mx := 4) (L := [some (22, 0), some (0, v1), some (0, v2), none]) (by decide +kernel) rfl rfl hd (fun d hd => ?_)
  unfold F249 at e
  obtain ⟨r1, q1, e⟩ := zB_s e
  refine zF_blk (m := []) (d := 0) (b := B249_0) (gs := []) (c' := (1, [some (22, 0), some (0, v1), some (0, v2), none], [(22, 0)], (hc, h, o))) K249_0 rfl trivial ?_
  refine zF_call (k := 244) (cl := 12) (n := 1) (i := .invokevirtual 317) (args := [(22, 0)]) (rest := []) (g1 := (hc, r1, o)) (r1 := none) (by decide +kernel) rfl rfl rfl (st' := []) rfl (S244 (Nat.le_trans (by decide) hd)  h _ q1) ?_
  refine zF_blk (m := []) (d := 0) (b := B249_1) (gs := []) (c' := (6, [some (22, 0), some (0, v1), some (0, v2), some (0, 0)], [], (hc, r1, o))) K249_1 rfl trivial ?_
  exact T249_0 hd zFu v1 v2 0 r1 _ e
def B247_0 : List zRow := [(0, .aload_n 0, 1, (0, 0, 0)), (1, .iconst 0, 1, (0, 0, 0)), (2, .putfield 81, 3, (12, 0, 0)), (5, .aload_n 0, 1, (0, 0, 0)), (6, .iload_n 1, 1, (0, 0, 0))]
theorem K247_0 : zRk 247 B247_0 = true := by decide +kernel
def B247_1 : List zRow := [(35, .iconst (-1), 1, (0, 0, 0))]
theorem K247_1 : zRk 247 B247_1 = true := by decide +kernel
def B247_2 : List zRow := [(17, .iload_n 2, 1, (0, 0, 0)), (18, .aload_n 0, 1, (0, 0, 0))]
theorem K247_2 : zRk 247 B247_2 = true := by decide +kernel
def B247_3 : List zRow := [(28, .iload_n 3, 1, (0, 0, 0))]
theorem K247_3 : zRk 247 B247_3 = true := by decide +kernel
def B247_4 : List zRow := [(37, .aload_n 0, 1, (0, 0, 0)), (38, .iload_n 2, 1, (0, 0, 0)), (39, .iload_n 3, 1, (0, 0, 0))]
theorem K247_4 : zRk 247 B247_4 = true := by decide +kernel
def B247_5 : List zRow := [(43, .aload_n 0, 1, (0, 0, 0)), (44, .getfield 42, 3, (12, 25, 5244418)), (47, .bipush 6, 2, (0, 0, 0)), (49, .iload_n 2, 1, (0, 0, 0))]
theorem K247_5 : zRk 247 B247_5 = true := by decide +kernel
def B247_6 : List zRow := [(50, .imul, 1, (0, 0, 0)), (51, .iload_n 1, 1, (0, 0, 0)), (52, .iadd, 1, (0, 0, 0)), (53, .iaload, 1, (0, 0, 0))]
theorem K247_6 : zRk 247 B247_6 = true := by decide +kernel
def B247_7 : List zRow := [(32, .ifCond .ne 5, 3, (0, 0, 0))]
theorem K247_7 : zRk 247 B247_7 = true := by decide +kernel
def B247_8 : List zRow := [(22, .iconst (-1), 1, (0, 0, 0)), (23, .ixor, 1, (0, 0, 0)), (24, .iand, 1, (0, 0, 0)), (25, .ifCond .ne 10, 3, (0, 0, 0))]
theorem K247_8 : zRk 247 B247_8 = true := by decide +kernel
def B247_9 : List zRow := [(13, .iload_n 2, 1, (0, 0, 0)), (14, .ifCond .lt 21, 3, (0, 0, 0))]
theorem K247_9 : zRk 247 B247_9 = true := by decide +kernel
def B247_10 : List zRow := [(10, .ifCond .eq 25, 3, (0, 0, 0))]
theorem K247_10 : zRk 247 B247_10 = true := by decide +kernel
/-- EchoValeModel.has(III)I -/
def F247 (v1 : Int) (v2 : Int) (v3 : Int) (h : zHM) : Option (Int × zHM) := (F210 v1 (mset h 0 0 0)).bind fun r1 => if r1 = 0 then some ((-1), (mset h 0 0 0)) else if v2 < 0 then some ((-1), (mset h 0 0 0)) else (F248 (mset h 0 0 0)).bind fun r2 => if ¬ (wand v2 (wxor r2 (-1))) = 0 then some ((-1), (mset h 0 0 0)) else (F242 v3).bind fun r3 => if ¬ r3 = 0 then (F249 v2 v3 (mset h 0 0 0)).bind fun r4 => zG (0 ≤ (wadd (wmul 6 v2) v1) ∧ (wadd (wmul 6 v2) v1) < 384) (some ((r4 25 (wadd (wmul 6 v2) v1)), r4)) else some ((-1), (mset h 0 0 0))
set_option maxRecDepth 100000 in
theorem S247 {spec : zRn zH2} {hc : zHC} {o : Int → Int} {d : Nat} (hd : 8 ≤ d) (v1 : Int) (v2 : Int) (v3 : Int) (h : zHM) (v : (Int × zHM)) (e : F247 v1 v2 v3 h = some v) : zRu2 spec d 247 [(22, 0), (0, v1), (0, v2), (0, v3)] (hc, h, o) (some (0, v.1)) (hc, v.2, o) := by
  refine zF_in (D := 7) (mx := 4) (L := [some (22, 0), some (0, v1), some (0, v2), some (0, v3)]) (by decide +kernel) rfl rfl hd (fun d hd => ?_)
  unfold F247 at e
  obtain ⟨r1, q1, e⟩ := zB_s e
  refine zF_blk (m := []) (d := 0) (b := B247_0) (gs := []) (c' := (7, [some (22, 0), some (0, v1), some (0, v2), some (0, v3)], [(0, v1), (22, 0)], (hc, (mset h 0 0 0), o))) K247_0 rfl trivial ?_
  refine zF_call (k := 210) (cl := 12) (n := 2) (i := .invokevirtual 260) (args := [(22, 0), (0, v1)]) (rest := []) (g1 := (hc, (mset h 0 0 0), o)) (r1 := some (0, r1)) (by decide +kernel) rfl rfl rfl (st' := [(0, r1)]) rfl (S210 (Nat.le_trans (by decide) hd) v1 (mset h 0 0 0) _ q1) ?_
  rcases zI_s e with ⟨q2, e⟩ | ⟨q2, e⟩
  · refine zF_blk (m := []) (d := 1) (b := B247_10) (gs := [r1 = 0]) (c' := (35, [some (22, 0), some (0, v1), some (0, v2), some (0, v3)], [], (hc, (mset h 0 0 0), o))) K247_10 rfl ⟨q2, trivial⟩ ?_
    refine zF_blk (m := []) (d := 0) (b := B247_1) (gs := []) (c' := (36, [some (22, 0), some (0, v1), some (0, v2), some (0, v3)], [(0, (-1))], (hc, (mset h 0 0 0), o))) K247_1 rfl trivial ?_
    exact zF_riM (by decide +kernel) e
  · refine zF_blk (m := []) (d := 0) (b := B247_10) (gs := [¬ (r1 = 0)]) (c' := (13, [some (22, 0), some (0, v1), some (0, v2), some (0, v3)], [], (hc, (mset h 0 0 0), o))) K247_10 rfl ⟨q2, trivial⟩ ?_
    rcases zI_s e with ⟨q3, e⟩ | ⟨q3, e⟩
    · refine zF_blk (m := []) (d := 1) (b := B247_9) (gs := [v2 < 0]) (c' := (35, [some (22, 0), some (0, v1), some (0, v2), some (0, v3)], [], (hc, (mset h 0 0 0), o))) K247_9 rfl ⟨q3, trivial⟩ ?_
      refine zF_blk (m := []) (d := 0) (b := B247_1) (gs := []) (c' := (36, [some (22, 0), some (0, v1), some (0, v2), some (0, v3)], [(0, (-1))], (hc, (mset h 0 0 0), o))) K247_1 rfl trivial ?_
      exact zF_riM (by decide +kernel) e
    · refine zF_blk (m := []) (d := 0) (b := B247_9) (gs := [¬ (v2 < 0)]) (c' := (17, [some (22, 0), some (0, v1), some (0, v2), some (0, v3)], [], (hc, (mset h 0 0 0), o))) K247_9 rfl ⟨q3, trivial⟩ ?_
      obtain ⟨r2, q4, e⟩ := zB_s e
      refine zF_blk (m := []) (d := 0) (b := B247_2) (gs := []) (c' := (19, [some (22, 0), some (0, v1), some (0, v2), some (0, v3)], [(22, 0), (0, v2)], (hc, (mset h 0 0 0), o))) K247_2 rfl trivial ?_
      refine zF_call (k := 248) (cl := 12) (n := 1) (i := .invokevirtual 329) (args := [(22, 0)]) (rest := [(0, v2)]) (g1 := (hc, (mset h 0 0 0), o)) (r1 := some (0, r2)) (by decide +kernel) rfl rfl rfl (st' := [(0, r2), (0, v2)]) rfl (S248 (Nat.le_trans (by decide) hd)  (mset h 0 0 0) _ q4) ?_
      rcases zI_s e with ⟨q5, e⟩ | ⟨q5, e⟩
      · refine zF_blk (m := []) (d := 1) (b := B247_8) (gs := [¬ (wand v2 (wxor r2 (-1))) = 0]) (c' := (35, [some (22, 0), some (0, v1), some (0, v2), some (0, v3)], [], (hc, (mset h 0 0 0), o))) K247_8 rfl ⟨q5, trivial⟩ ?_
        refine zF_blk (m := []) (d := 0) (b := B247_1) (gs := []) (c' := (36, [some (22, 0), some (0, v1), some (0, v2), some (0, v3)], [(0, (-1))], (hc, (mset h 0 0 0), o))) K247_1 rfl trivial ?_
        exact zF_riM (by decide +kernel) e
      · refine zF_blk (m := []) (d := 0) (b := B247_8) (gs := [¬ (¬ (wand v2 (wxor r2 (-1))) = 0)]) (c' := (28, [some (22, 0), some (0, v1), some (0, v2), some (0, v3)], [], (hc, (mset h 0 0 0), o))) K247_8 rfl ⟨q5, trivial⟩ ?_
        obtain ⟨r3, q6, e⟩ := zB_s e
        refine zF_blk (m := []) (d := 0) (b := B247_3) (gs := []) (c' := (29, [some (22, 0), some (0, v1), some (0, v2), some (0, v3)], [(0, v3)], (hc, (mset h 0 0 0), o))) K247_3 rfl trivial ?_
        refine zF_call (k := 242) (cl := 12) (n := 1) (i := .invokestatic 323) (args := [(0, v3)]) (rest := []) (g1 := (hc, (mset h 0 0 0), o)) (r1 := some (0, r3)) (by decide +kernel) rfl rfl rfl (st' := [(0, r3)]) rfl (S242 (Nat.le_trans (by decide) hd) v3 (mset h 0 0 0) _ q6) ?_
        rcases zI_s e with ⟨q7, e⟩ | ⟨q7, e⟩
        · refine zF_blk (m := []) (d := 1) (b := B247_7) (gs := [¬ r3 = 0]) (c' := (37, [some (22, 0), some (0, v1), some (0, v2), some (0, v3)], [], (hc, (mset h 0 0 0), o))) K247_7 rfl ⟨q7, trivial⟩ ?_
          obtain ⟨r4, q8, e⟩ := zB_s e
          refine zF_blk (m := []) (d := 0) (b := B247_4) (gs := []) (c' := (40, [some (22, 0), some (0, v1), some (0, v2), some (0, v3)], [(0, v3), (0, v2), (22, 0)], (hc, (mset h 0 0 0), o))) K247_4 rfl trivial ?_
          refine zF_call (k := 249) (cl := 12) (n := 3) (i := .invokevirtual 332) (args := [(22, 0), (0, v2), (0, v3)]) (rest := []) (g1 := (hc, r4, o)) (r1 := none) (by decide +kernel) rfl rfl rfl (st' := []) rfl (S249 (Nat.le_trans (by decide) hd) v2 v3 (mset h 0 0 0) _ q8) ?_
          obtain ⟨q9, e⟩ := zG_s e
          refine zF_blk (m := []) (d := 0) (b := B247_5) (gs := []) (c' := (50, [some (22, 0), some (0, v1), some (0, v2), some (0, v3)], [(0, v2), (0, 6), (1342572289, 0)], (hc, r4, o))) K247_5 rfl trivial ?_
          refine zF_blk (m := []) (d := 0) (b := B247_6) (gs := [0 ≤ (wadd (wmul 6 v2) v1) ∧ (wadd (wmul 6 v2) v1) < 384]) (c' := (54, [some (22, 0), some (0, v1), some (0, v2), some (0, v3)], [(0, (r4 25 (wadd (wmul 6 v2) v1)))], (hc, r4, o))) K247_6 rfl ⟨q9, trivial⟩ ?_
          exact zF_riM (by decide +kernel) e
        · refine zF_blk (m := []) (d := 0) (b := B247_7) (gs := [¬ (¬ r3 = 0)]) (c' := (35, [some (22, 0), some (0, v1), some (0, v2), some (0, v3)], [], (hc, (mset h 0 0 0), o))) K247_7 rfl ⟨q7, trivial⟩ ?_
          refine zF_blk (m := []) (d := 0) (b := B247_1) (gs := []) (c' := (36, [some (22, 0), some (0, v1), some (0, v2), some (0, v3)], [(0, (-1))], (hc, (mset h 0 0 0), o))) K247_1 rfl trivial ?_
          exact zF_riM (by decide +kernel) e
def B108_0 : List zRow := [(0, .iconst 0, 1, (0, 0, 0)), (1, .istore_n 2, 1, (0, 0, 0))]
theorem K108_0 : zRk 108 B108_0 = true := by decide +kernel
def B108_1 : List zRow := [(13, .aload_n 0, 1, (0, 0, 0)), (14, .getfield 91, 3, (11, 12, 5244418)), (17, .iload_n 1, 1, (0, 0, 0)), (18, .bipush 6, 2, (0, 0, 0)), (20, .imul, 1, (0, 0, 0)), (21, .iload_n 2, 1, (0, 0, 0)), (22, .iadd, 1, (0, 0, 0)), (23, .aload_n 0, 1, (0, 0, 0)), (24, .getfield 60, 3, (11, 7, 135)), (27, .iload_n 2, 1, (0, 0, 0))]
theorem K108_1 : zRk 108 B108_1 = true := by decide +kernel
def B108_2 : List zRow := [(31, .iastore, 1, (0, 0, 0)), (32, .iinc 2 1, 3, (0, 0, 0)), (35, .goto (-33), 3, (0, 0, 0))]
theorem K108_2 : zRk 108 B108_2 = true := by decide +kernel
def B108_3 : List zRow := [(2, .iload_n 2, 1, (0, 0, 0)), (3, .aload_n 0, 1, (0, 0, 0)), (4, .getfield 19, 3, (11, 1, 39)), (7, .getfield 311, 3, (9, 3, 0)), (10, .if_icmp .ge 28, 3, (0, 0, 0))]
theorem K108_3 : zRk 108 B108_3 = true := by decide +kernel
def F108_0 : Nat → Int → Int → zHC → Option zHC
  | 0, _, _, _ => none
  | n + 1, v1, v2, h => if (h 579 0 0) ≤ v2 then some h else (F101 1 v2 h).bind fun r1 => zG (0 ≤ (wadd (wmul v1 6) v2) ∧ (wadd (wmul v1 6) v2) < 384) ((F108_0 n) v1 (wadd v2 1) (hset h 716 0 (wadd (wmul v1 6) v2) r1))
set_option maxRecDepth 100000 in
theorem T108_0 {spec : zRn zH2} {hm : zHM} {o : Int → Int} {d : Nat} (hd : 3 ≤ d) : ∀ (n : Nat) (v1 : Int) (v2 : Int) (h : zHC) (v : zHC), F108_0 n v1 v2 h = some v → zFin 0 (fun _ => 0) (zRu2 spec d) 108 none (v, hm, o) (2, [some (21, 0), some (0, v1), some (0, v2)], [], (h, hm, o)) := by
  intro n
  induction n with
  | zero => intro v1 v2 h v e; unfold F108_0 at e; cases e
  | succ n hk0 =>
    intro v1 v2 h v e
    unfold F108_0 at e
    rcases zI_s e with ⟨q1, e⟩ | ⟨q1, e⟩
    · refine zF_blk (m := []) (d := 1) (b := B108_3) (gs := [(h 579 0 0) ≤ v2]) (c' := (38, [some (21, 0), some (0, v1), some (0, v2)], [], (h, hm, o))) K108_3 rfl ⟨q1, trivial⟩ ?_
      obtain rfl := Option.some.inj e
      exact zF_rv (by decide +kernel)
    · refine zF_blk (m := []) (d := 0) (b := B108_3) (gs := [¬ ((h 579 0 0) ≤ v2)]) (c' := (13, [some (21, 0), some (0, v1), some (0, v2)], [], (h, hm, o))) K108_3 rfl ⟨q1, trivial⟩ ?_
      obtain ⟨r1, q2, e⟩ := zB_s e
      refine zF_blk (m := []) (d := 0) (b := B108_1) (gs := []) (c' := (28, [some (21, 0), some (0, v1), some (0, v2)], [(0, v2), (11, 1), (0, (wadd (wmul v1 6) v2)), (1342572212, 0)], (h, hm, o))) K108_1 rfl trivial ?_
      refine zF_call (k := 101) (cl := 1) (n := 2) (i := .invokevirtual 179) (args := [(11, 1), (0, v2)]) (rest := [(0, (wadd (wmul v1 6) v2)), (1342572212, 0)]) (g1 := (h, hm, o)) (r1 := some (0, r1)) (by decide +kernel) rfl rfl rfl (st' := [(0, r1), (0, (wadd (wmul v1 6) v2)), (1342572212, 0)]) rfl (S101 (Nat.le_trans (by decide) hd) 1 v2 h _ q2) ?_
      obtain ⟨q3, e⟩ := zG_s e
      refine zF_blk (m := []) (d := 0) (b := B108_2) (gs := [0 ≤ (wadd (wmul v1 6) v2) ∧ (wadd (wmul v1 6) v2) < 384]) (c' := (2, [some (21, 0), some (0, v1), some (0, (wadd v2 1))], [], ((hset h 716 0 (wadd (wmul v1 6) v2) r1), hm, o))) K108_2 rfl ⟨q3, trivial⟩ ?_
      exact hk0 v1 (wadd v2 1) (hset h 716 0 (wadd (wmul v1 6) v2) r1) _ e
/-- EchoVale.keepOutcome(I)V -/
def F108 (v1 : Int) (h : zHC) : Option zHC := F108_0 zFu v1 0 h
set_option maxRecDepth 100000 in
theorem S108 {spec : zRn zH2} {hm : zHM} {o : Int → Int} {d : Nat} (hd : 4 ≤ d) (v1 : Int) (h : zHC) (v : zHC) (e : F108 v1 h = some v) : zRu2 spec d 108 [(21, 0), (0, v1)] (h, hm, o) none (v, hm, o) := by
  refine zF_in (D := 3) (mx := 3) (L := [some (21, 0), some (0, v1), none]) (by decide +kernel) rfl rfl hd (fun d hd => ?_)
  unfold F108 at e
  refine zF_blk (m := []) (d := 0) (b := B108_0) (gs := []) (c' := (2, [some (21, 0), some (0, v1), some (0, 0)], [], (h, hm, o))) K108_0 rfl trivial ?_
  exact T108_0 hd zFu v1 0 h _ e
def B109_0 : List zRow := [(0, .aload_n 0, 1, (0, 0, 0)), (1, .getfield 19, 3, (11, 1, 39))]
theorem K109_0 : zRk 109 B109_0 = true := by decide +kernel
def B109_1 : List zRow := [(7, .istore_n 2, 1, (0, 0, 0)), (8, .iconst 0, 1, (0, 0, 0)), (9, .istore_n 3, 1, (0, 0, 0))]
theorem K109_1 : zRk 109 B109_1 = true := by decide +kernel
def B109_2 : List zRow := [(70, .iconst 1, 1, (0, 0, 0))]
theorem K109_2 : zRk 109 B109_2 = true := by decide +kernel
def B109_3 : List zRow := [(21, .iload_n 1, 1, (0, 0, 0)), (22, .iconst 1, 1, (0, 0, 0)), (23, .iload_n 3, 1, (0, 0, 0)), (24, .ishl, 1, (0, 0, 0)), (25, .ixor, 1, (0, 0, 0)), (26, .istore 4, 2, (0, 0, 0)), (28, .iload_n 2, 1, (0, 0, 0)), (29, .iload_n 3, 1, (0, 0, 0))]
theorem K109_3 : zRk 109 B109_3 = true := by decide +kernel
def B109_4 : List zRow := [(62, .iconst 0, 1, (0, 0, 0))]
theorem K109_4 : zRk 109 B109_4 = true := by decide +kernel
def B109_5 : List zRow := [(36, .aload_n 0, 1, (0, 0, 0)), (37, .getfield 91, 3, (11, 12, 5244418)), (40, .iload 4, 2, (0, 0, 0)), (42, .bipush 6, 2, (0, 0, 0)), (44, .imul, 1, (0, 0, 0)), (45, .iload_n 3, 1, (0, 0, 0)), (46, .iadd, 1, (0, 0, 0)), (47, .iaload, 1, (0, 0, 0)), (48, .aload_n 0, 1, (0, 0, 0)), (49, .getfield 91, 3, (11, 12, 5244418)), (52, .iload_n 1, 1, (0, 0, 0)), (53, .bipush 6, 2, (0, 0, 0)), (55, .imul, 1, (0, 0, 0)), (56, .iload_n 3, 1, (0, 0, 0)), (57, .iadd, 1, (0, 0, 0)), (58, .iaload, 1, (0, 0, 0)), (59, .if_icmp .le 5, 3, (0, 0, 0))]
theorem K109_5 : zRk 109 B109_5 = true := by decide +kernel
def B109_6 : List zRow := [(33, .ifCond .eq 31, 3, (0, 0, 0))]
theorem K109_6 : zRk 109 B109_6 = true := by decide +kernel
def B109_7 : List zRow := [(10, .iload_n 3, 1, (0, 0, 0)), (11, .aload_n 0, 1, (0, 0, 0)), (12, .getfield 19, 3, (11, 1, 39)), (15, .getfield 311, 3, (9, 3, 0)), (18, .if_icmp .ge 52, 3, (0, 0, 0))]
theorem K109_7 : zRk 109 B109_7 = true := by decide +kernel
def B109_8 : List zRow := [(64, .iinc 3 1, 3, (0, 0, 0)), (67, .goto (-57), 3, (0, 0, 0))]
theorem K109_8 : zRk 109 B109_8 = true := by decide +kernel
def F109_1 (k0 : Int → Int → Int → Option Int) (h : zHC) (v1 : Int) (v2 : Int) (v3 : Int) : Option Int := k0 v1 v2 (wadd v3 1)
set_option maxRecDepth 100000 in
theorem T109_1 {spec : zRn zH2} {hm : zHM} {o : Int → Int} {d : Nat} (hd : 1 ≤ d) (h : zHC) (k0 : Int → Int → Int → Option Int) (hk0 : ∀ (v1 : Int) (v2 : Int) (v3 : Int) (v : Int), k0 v1 v2 v3 = some v → zFin 0 (fun _ => 0) (zRu2 spec d) 109 (some (0, v)) (h, hm, o) (10, [some (21, 0), some (0, v1), some (0, v2), some (0, v3), none], [], (h, hm, o))) (v1 : Int) (v2 : Int) (v3 : Int) (v : Int) (e : F109_1 k0 h v1 v2 v3 = some v) : zFin 0 (fun _ => 0) (zRu2 spec d) 109 (some (0, v)) (h, hm, o) (64, [some (21, 0), some (0, v1), some (0, v2), some (0, v3), none], [], (h, hm, o)) := by
  unfold F109_1 at e
  refine zF_blk (m := []) (d := 0) (b := B109_8) (gs := []) (c' := (10, [some (21, 0), some (0, v1), some (0, v2), some (0, (wadd v3 1)), none], [], (h, hm, o))) K109_8 rfl trivial ?_
  exact hk0 v1 v2 (wadd v3 1) _ e
def F109_0 (h : zHC) : Nat → Int → Int → Int → Option Int
  | 0, _, _, _ => none
  | n + 1, v1, v2, v3 => if (h 579 0 0) ≤ v3 then some 1 else (F65 v2 v3).bind fun r1 => if r1 = 0 then F109_1 (F109_0 h n) h v1 v2 v3 else zG (0 ≤ (wadd (wmul (wxor v1 (wshl 1 v3)) 6) v3) ∧ (wadd (wmul (wxor v1 (wshl 1 v3)) 6) v3) < 384) (zG (0 ≤ (wadd (wmul v1 6) v3) ∧ (wadd (wmul v1 6) v3) < 384) (if (h 716 0 (wadd (wmul (wxor v1 (wshl 1 v3)) 6) v3)) ≤ (h 716 0 (wadd (wmul v1 6) v3)) then F109_1 (F109_0 h n) h v1 v2 v3 else some 0))
set_option maxRecDepth 100000 in
theorem T109_0 {spec : zRn zH2} {hm : zHM} {o : Int → Int} {d : Nat} (hd : 1 ≤ d) (h : zHC) : ∀ (n : Nat) (v1 : Int) (v2 : Int) (v3 : Int) (v : Int), F109_0 h n v1 v2 v3 = some v → zFin 0 (fun _ => 0) (zRu2 spec d) 109 (some (0, v)) (h, hm, o) (10, [some (21, 0), some (0, v1), some (0, v2), some (0, v3), none], [], (h, hm, o)) := by
  intro n
  induction n with
  | zero => intro v1 v2 v3 v e; unfold F109_0 at e; cases e
  | succ n hk0 =>
    intro v1 v2 v3 v e
    unfold F109_0 at e
    rcases zI_s e with ⟨q1, e⟩ | ⟨q1, e⟩
    · refine zF_blk (m := []) (d := 1) (b := B109_7) (gs := [(h 579 0 0) ≤ v3]) (c' := (70, [some (21, 0), some (0, v1), some (0, v2), some (0, v3), none], [], (h, hm, o))) K109_7 rfl ⟨q1, trivial⟩ ?_
      refine zF_blk (m := []) (d := 0) (b := B109_2) (gs := []) (c' := (71, [some (21, 0), some (0, v1), some (0, v2), some (0, v3), none], [(0, 1)], (h, hm, o))) K109_2 rfl trivial ?_
      obtain rfl := Option.some.inj e
      exact zF_rb (by decide +kernel) (Or.inr rfl)
    · refine zF_blk (m := []) (d := 0) (b := B109_7) (gs := [¬ ((h 579 0 0) ≤ v3)]) (c' := (21, [some (21, 0), some (0, v1), some (0, v2), some (0, v3), none], [], (h, hm, o))) K109_7 rfl ⟨q1, trivial⟩ ?_
      obtain ⟨r1, q2, e⟩ := zB_s e
      refine zF_blk (m := []) (d := 0) (b := B109_3) (gs := []) (c' := (30, [some (21, 0), some (0, v1), some (0, v2), some (0, v3), some (0, (wxor v1 (wshl 1 v3)))], [(0, v3), (0, v2)], (h, hm, o))) K109_3 rfl trivial ?_
      refine zF_call (k := 65) (cl := 11) (n := 2) (i := .invokestatic 272) (args := [(0, v2), (0, v3)]) (rest := []) (g1 := (h, hm, o)) (r1 := some (0, r1)) (by decide +kernel) rfl rfl rfl (st' := [(0, r1)]) rfl (S65 (Nat.le_trans (by decide) hd) v2 v3 h _ q2) ?_
      rcases zI_s e with ⟨q3, e⟩ | ⟨q3, e⟩
      · refine zF_blk (m := []) (d := 1) (b := B109_6) (gs := [r1 = 0]) (c' := (64, [some (21, 0), some (0, v1), some (0, v2), some (0, v3), some (0, (wxor v1 (wshl 1 v3)))], [], (h, hm, o))) K109_6 rfl ⟨q3, trivial⟩ ?_
        refine zF_blk (m := [true, true, true, true, false]) (d := 0) (b := []) (gs := []) (c' := (64, [some (21, 0), some (0, v1), some (0, v2), some (0, v3), none], [], (h, hm, o))) rfl rfl trivial ?_
        exact T109_1 hd h (F109_0 h n) hk0 v1 v2 v3 _ e
      · refine zF_blk (m := []) (d := 0) (b := B109_6) (gs := [¬ (r1 = 0)]) (c' := (36, [some (21, 0), some (0, v1), some (0, v2), some (0, v3), some (0, (wxor v1 (wshl 1 v3)))], [], (h, hm, o))) K109_6 rfl ⟨q3, trivial⟩ ?_
        obtain ⟨q4, e⟩ := zG_s e
        obtain ⟨q5, e⟩ := zG_s e
        rcases zI_s e with ⟨q6, e⟩ | ⟨q6, e⟩
        · refine zF_blk (m := []) (d := 1) (b := B109_5) (gs := [0 ≤ (wadd (wmul (wxor v1 (wshl 1 v3)) 6) v3) ∧ (wadd (wmul (wxor v1 (wshl 1 v3)) 6) v3) < 384, 0 ≤ (wadd (wmul v1 6) v3) ∧ (wadd (wmul v1 6) v3) < 384, (h 716 0 (wadd (wmul (wxor v1 (wshl 1 v3)) 6) v3)) ≤ (h 716 0 (wadd (wmul v1 6) v3))]) (c' := (64, [some (21, 0), some (0, v1), some (0, v2), some (0, v3), some (0, (wxor v1 (wshl 1 v3)))], [], (h, hm, o))) K109_5 rfl ⟨q4, q5, q6, trivial⟩ ?_
          refine zF_blk (m := [true, true, true, true, false]) (d := 0) (b := []) (gs := []) (c' := (64, [some (21, 0), some (0, v1), some (0, v2), some (0, v3), none], [], (h, hm, o))) rfl rfl trivial ?_
          exact T109_1 hd h (F109_0 h n) hk0 v1 v2 v3 _ e
        · refine zF_blk (m := []) (d := 0) (b := B109_5) (gs := [0 ≤ (wadd (wmul (wxor v1 (wshl 1 v3)) 6) v3) ∧ (wadd (wmul (wxor v1 (wshl 1 v3)) 6) v3) < 384, 0 ≤ (wadd (wmul v1 6) v3) ∧ (wadd (wmul v1 6) v3) < 384, ¬ ((h 716 0 (wadd (wmul (wxor v1 (wshl 1 v3)) 6) v3)) ≤ (h 716 0 (wadd (wmul v1 6) v3)))]) (c' := (62, [some (21, 0), some (0, v1), some (0, v2), some (0, v3), some (0, (wxor v1 (wshl 1 v3)))], [], (h, hm, o))) K109_5 rfl ⟨q4, q5, q6, trivial⟩ ?_
          refine zF_blk (m := []) (d := 0) (b := B109_4) (gs := []) (c' := (63, [some (21, 0), some (0, v1), some (0, v2), some (0, v3), some (0, (wxor v1 (wshl 1 v3)))], [(0, 0)], (h, hm, o))) K109_4 rfl trivial ?_
          obtain rfl := Option.some.inj e
          exact zF_rb (by decide +kernel) (Or.inl rfl)
/-- EchoVale.isRest(I)Z -/
def F109 (v1 : Int) (h : zHC) : Option Int := (F105 0 h).bind fun r1 => F109_0 h zFu v1 r1 0
set_option maxRecDepth 100000 in
theorem S109 {spec : zRn zH2} {hm : zHM} {o : Int → Int} {d : Nat} (hd : 2 ≤ d) (v1 : Int) (h : zHC) (v : Int) (e : F109 v1 h = some v) : zRu2 spec d 109 [(21, 0), (0, v1)] (h, hm, o) (some (0, v)) (h, hm, o) := by
  refine zF_in (D := 1) (mx := 5) (L := [some (21, 0), some (0, v1), none, none, none]) (by decide +kernel) rfl rfl hd (fun d hd => ?_)
  unfold F109 at e
  obtain ⟨r1, q1, e⟩ := zB_s e
  refine zF_blk (m := []) (d := 0) (b := B109_0) (gs := []) (c' := (4, [some (21, 0), some (0, v1), none, none, none], [(19, 0)], (h, hm, o))) K109_0 rfl trivial ?_
  refine zF_call (k := 105) (cl := 9) (n := 1) (i := .invokevirtual 371) (args := [(19, 0)]) (rest := []) (g1 := (h, hm, o)) (r1 := some (0, r1)) (by decide +kernel) rfl rfl rfl (st' := [(0, r1)]) rfl (S105 (Nat.le_trans (by decide) hd) 0 h _ q1) ?_
  refine zF_blk (m := []) (d := 0) (b := B109_1) (gs := []) (c' := (10, [some (21, 0), some (0, v1), some (0, r1), some (0, 0), none], [], (h, hm, o))) K109_1 rfl trivial ?_
  exact T109_0 hd h zFu v1 r1 0 _ e
