/-! Functions of the methods, by wip/gen/lift.py. -/
def B242_0 : List zRow := [(0, .iload_n 0, 1, (0, 0, 0)), (1, .iconst 1, 1, (0, 0, 0)), (2, .bipush 60, 2, (0, 0, 0))]
theorem K242_0 : zRk 242 B242_0 = true := by decide +kernel
/-- EchoValeModel.isTime(I)Z -/
def F242 (v0 : Int) : Option Int := (F188 v0 1 60).bind fun r1 => zG (r1 = 0 ∨ r1 = 1) (some r1)
set_option maxRecDepth 100000 in
theorem S242 {spec : zRn zH2} {hc : zHC} {o : Int → Int} {d : Nat} (hd : 2 ≤ d) (v0 : Int) (h : zHM) (v : Int) (e : F242 v0 = some v) : zRu2 spec d 242 [(0, v0)] (hc, h, o) (some (0, v)) (hc, h, o) := by
  refine zF_in (D := 1) (mx := 1) (L := [some (0, v0)]) (by decide +kernel) rfl rfl hd (fun d hd => ?_)
  unfold F242 at e
  obtain ⟨r1, q1, e⟩ := zB_s e
  refine zF_blk (m := []) (d := 0) (b := B242_0) (gs := []) (c' := (4, [some (0, v0)], [(0, 60), (0, 1), (0, v0)], (hc, h, o))) K242_0 rfl trivial ?_
  refine zF_call (k := 188) (cl := 12) (n := 3) (i := .invokestatic 151) (args := [(0, v0), (0, 1), (0, 60)]) (rest := []) (g1 := (hc, h, o)) (r1 := some (0, r1)) (by decide +kernel) rfl rfl rfl (st' := [(0, r1)]) rfl (S188 (Nat.le_trans (by decide) hd) v0 1 60 h _ q1) ?_
  obtain ⟨q2, e⟩ := zG_s e
  obtain rfl := Option.some.inj e
  exact zF_rb (by decide +kernel) q2
def B244_0 : List zRow := [(0, .iconst 0, 1, (0, 0, 0)), (1, .istore_n 1, 1, (0, 0, 0))]
theorem K244_0 : zRk 244 B244_0 = true := by decide +kernel
def B244_1 : List zRow := [(9, .aload_n 0, 1, (0, 0, 0)), (10, .getfield 25, 3, (12, 18, 5249638)), (13, .iload_n 1, 1, (0, 0, 0)), (14, .aload_n 0, 1, (0, 0, 0)), (15, .getfield 13, 3, (12, 14, 5251442)), (18, .sipush 209, 3, (0, 0, 0)), (21, .iload_n 1, 1, (0, 0, 0))]
theorem K244_1 : zRk 244 B244_1 = true := by decide +kernel
def B244_2 : List zRow := [(22, .iadd, 1, (0, 0, 0)), (23, .iaload, 1, (0, 0, 0)), (24, .iastore, 1, (0, 0, 0)), (25, .iinc 1 1, 3, (0, 0, 0)), (28, .goto (-26), 3, (0, 0, 0))]
theorem K244_2 : zRk 244 B244_2 = true := by decide +kernel
def B244_3 : List zRow := [(2, .iload_n 1, 1, (0, 0, 0)), (3, .sipush 1689, 3, (0, 0, 0)), (6, .if_icmp .ge 25, 3, (0, 0, 0))]
theorem K244_3 : zRk 244 B244_3 = true := by decide +kernel
def F244_0 : Nat → Int → zHM → Option zHM
  | 0, _, _ => none
  | n + 1, v1, h => if 1689 ≤ v1 then some h else zG (0 ≤ (wadd 209 v1) ∧ (wadd 209 v1) < 2140) (zG (0 ≤ v1 ∧ v1 < 1689) ((F244_0 n) (wadd v1 1) (mset h 18 v1 (h 14 (wadd 209 v1)))))
set_option maxRecDepth 100000 in
theorem T244_0 {spec : zRn zH2} {hc : zHC} {o : Int → Int} {d : Nat} (hd : 0 ≤ d) : ∀ (n : Nat) (v1 : Int) (h : zHM) (v : zHM), F244_0 n v1 h = some v → zFin 0 (fun _ => 0) (zRu2 spec d) 244 none (hc, v, o) (2, [some (22, 0), some (0, v1)], [], (hc, h, o)) := by
  intro n
  induction n with
  | zero => intro v1 h v e; unfold F244_0 at e; cases e
  | succ n hk0 =>
    intro v1 h v e
    unfold F244_0 at e
    rcases zI_s e with ⟨q1, e⟩ | ⟨q1, e⟩
    · refine zF_blk (m := []) (d := 1) (b := B244_3) (gs := [1689 ≤ v1]) (c' := (31, [some (22, 0), some (0, v1)], [], (hc, h, o))) K244_3 rfl ⟨q1, trivial⟩ ?_
      obtain rfl := Option.some.inj e
      exact zF_rv (by decide +kernel)
    · refine zF_blk (m := []) (d := 0) (b := B244_3) (gs := [¬ (1689 ≤ v1)]) (c' := (9, [some (22, 0), some (0, v1)], [], (hc, h, o))) K244_3 rfl ⟨q1, trivial⟩ ?_
      obtain ⟨q2, e⟩ := zG_s e
      obtain ⟨q3, e⟩ := zG_s e
      refine zF_blk (m := []) (d := 0) (b := B244_1) (gs := []) (c' := (22, [some (22, 0), some (0, v1)], [(0, v1), (0, 209), (1344370422, 0), (0, v1), (1343908602, 0)], (hc, h, o))) K244_1 rfl trivial ?_
      refine zF_blk (m := []) (d := 0) (b := B244_2) (gs := [0 ≤ (wadd 209 v1) ∧ (wadd 209 v1) < 2140, 0 ≤ v1 ∧ v1 < 1689]) (c' := (2, [some (22, 0), some (0, (wadd v1 1))], [], (hc, (mset h 18 v1 (h 14 (wadd 209 v1))), o))) K244_2 rfl ⟨q2, q3, trivial⟩ ?_
      exact hk0 (wadd v1 1) (mset h 18 v1 (h 14 (wadd 209 v1))) _ e
/-- EchoValeModel.layAside()V -/
def F244 (h : zHM) : Option zHM := F244_0 zFu 0 h
set_option maxRecDepth 100000 in
theorem S244 {spec : zRn zH2} {hc : zHC} {o : Int → Int} {d : Nat} (hd : 1 ≤ d) (h : zHM) (v : zHM) (e : F244 h = some v) : zRu2 spec d 244 [(22, 0)] (hc, h, o) none (hc, v, o) := by
  refine zF_in (D := 0) (mx := 2) (L := [some (22, 0), none]) (by decide +kernel) rfl rfl hd (fun d hd => ?_)
  unfold F244 at e
  refine zF_blk (m := []) (d := 0) (b := B244_0) (gs := []) (c' := (2, [some (22, 0), some (0, 0)], [], (hc, h, o))) K244_0 rfl trivial ?_
  exact T244_0 hd zFu 0 h _ e
def B245_0 : List zRow := [(0, .iconst 0, 1, (0, 0, 0)), (1, .istore_n 1, 1, (0, 0, 0))]
theorem K245_0 : zRk 245 B245_0 = true := by decide +kernel
def B245_1 : List zRow := [(9, .aload_n 0, 1, (0, 0, 0)), (10, .getfield 13, 3, (12, 14, 5251442)), (13, .sipush 209, 3, (0, 0, 0)), (16, .iload_n 1, 1, (0, 0, 0))]
theorem K245_1 : zRk 245 B245_1 = true := by decide +kernel
def B245_2 : List zRow := [(17, .iadd, 1, (0, 0, 0)), (18, .aload_n 0, 1, (0, 0, 0)), (19, .getfield 25, 3, (12, 18, 5249638)), (22, .iload_n 1, 1, (0, 0, 0)), (23, .iaload, 1, (0, 0, 0)), (24, .iastore, 1, (0, 0, 0)), (25, .iinc 1 1, 3, (0, 0, 0)), (28, .goto (-26), 3, (0, 0, 0))]
theorem K245_2 : zRk 245 B245_2 = true := by decide +kernel
def B245_3 : List zRow := [(2, .iload_n 1, 1, (0, 0, 0)), (3, .sipush 1689, 3, (0, 0, 0)), (6, .if_icmp .ge 25, 3, (0, 0, 0))]
theorem K245_3 : zRk 245 B245_3 = true := by decide +kernel
def F245_0 : Nat → Int → zHM → Option zHM
  | 0, _, _ => none
  | n + 1, v1, h => if 1689 ≤ v1 then some h else zG (0 ≤ v1 ∧ v1 < 1689) (zG (0 ≤ (wadd 209 v1) ∧ (wadd 209 v1) < 2140) ((F245_0 n) (wadd v1 1) (mset h 14 (wadd 209 v1) (h 18 v1))))
set_option maxRecDepth 100000 in
theorem T245_0 {spec : zRn zH2} {hc : zHC} {o : Int → Int} {d : Nat} (hd : 0 ≤ d) : ∀ (n : Nat) (v1 : Int) (h : zHM) (v : zHM), F245_0 n v1 h = some v → zFin 0 (fun _ => 0) (zRu2 spec d) 245 none (hc, v, o) (2, [some (22, 0), some (0, v1)], [], (hc, h, o)) := by
  intro n
  induction n with
  | zero => intro v1 h v e; unfold F245_0 at e; cases e
  | succ n hk0 =>
    intro v1 h v e
    unfold F245_0 at e
    rcases zI_s e with ⟨q1, e⟩ | ⟨q1, e⟩
    · refine zF_blk (m := []) (d := 1) (b := B245_3) (gs := [1689 ≤ v1]) (c' := (31, [some (22, 0), some (0, v1)], [], (hc, h, o))) K245_3 rfl ⟨q1, trivial⟩ ?_
      obtain rfl := Option.some.inj e
      exact zF_rv (by decide +kernel)
    · refine zF_blk (m := []) (d := 0) (b := B245_3) (gs := [¬ (1689 ≤ v1)]) (c' := (9, [some (22, 0), some (0, v1)], [], (hc, h, o))) K245_3 rfl ⟨q1, trivial⟩ ?_
      obtain ⟨q2, e⟩ := zG_s e
      obtain ⟨q3, e⟩ := zG_s e
      refine zF_blk (m := []) (d := 0) (b := B245_1) (gs := []) (c' := (17, [some (22, 0), some (0, v1)], [(0, v1), (0, 209), (1344370422, 0)], (hc, h, o))) K245_1 rfl trivial ?_
      refine zF_blk (m := []) (d := 0) (b := B245_2) (gs := [0 ≤ v1 ∧ v1 < 1689, 0 ≤ (wadd 209 v1) ∧ (wadd 209 v1) < 2140]) (c' := (2, [some (22, 0), some (0, (wadd v1 1))], [], (hc, (mset h 14 (wadd 209 v1) (h 18 v1)), o))) K245_2 rfl ⟨q2, q3, trivial⟩ ?_
      exact hk0 (wadd v1 1) (mset h 14 (wadd 209 v1) (h 18 v1)) _ e
/-- EchoValeModel.layBack()V -/
def F245 (h : zHM) : Option zHM := F245_0 zFu 0 h
set_option maxRecDepth 100000 in
theorem S245 {spec : zRn zH2} {hc : zHC} {o : Int → Int} {d : Nat} (hd : 1 ≤ d) (h : zHM) (v : zHM) (e : F245 h = some v) : zRu2 spec d 245 [(22, 0)] (hc, h, o) none (hc, v, o) := by
  refine zF_in (D := 0) (mx := 2) (L := [some (22, 0), none]) (by decide +kernel) rfl rfl hd (fun d hd => ?_)
  unfold F245 at e
  refine zF_blk (m := []) (d := 0) (b := B245_0) (gs := []) (c' := (2, [some (22, 0), some (0, 0)], [], (hc, h, o))) K245_0 rfl trivial ?_
  exact T245_0 hd zFu 0 h _ e
def B243_0 : List zRow := [(0, .aload_n 0, 1, (0, 0, 0))]
theorem K243_0 : zRk 243 B243_0 = true := by decide +kernel
def B243_1 : List zRow := [(4, .aload_n 0, 1, (0, 0, 0)), (5, .getfield 13, 3, (12, 14, 5251442)), (8, .sipush 210, 3, (0, 0, 0)), (11, .iload_n 1, 1, (0, 0, 0))]
theorem K243_1 : zRk 243 B243_1 = true := by decide +kernel
def B243_2 : List zRow := [(12, .iadd, 1, (0, 0, 0)), (13, .iload_n 2, 1, (0, 0, 0)), (14, .iastore, 1, (0, 0, 0)), (15, .aload_n 0, 1, (0, 0, 0)), (16, .iload_n 3, 1, (0, 0, 0))]
theorem K243_2 : zRk 243 B243_2 = true := by decide +kernel
def B243_3 : List zRow := [(20, .pop, 1, (0, 0, 0)), (21, .aload_n 0, 1, (0, 0, 0)), (22, .iload_n 1, 1, (0, 0, 0))]
theorem K243_3 : zRk 243 B243_3 = true := by decide +kernel
def B243_4 : List zRow := [(26, .istore 4, 2, (0, 0, 0)), (28, .aload_n 0, 1, (0, 0, 0))]
theorem K243_4 : zRk 243 B243_4 = true := by decide +kernel
def B243_5 : List zRow := [(32, .iload 4, 2, (0, 0, 0))]
theorem K243_5 : zRk 243 B243_5 = true := by decide +kernel
/-- EchoValeModel.campingBy(III)I -/
def F243 (v1 : Int) (v2 : Int) (v3 : Int) (h : zHM) : Option (Int × zHM) := (F244 h).bind fun r1 => zG (0 ≤ (wadd 210 v1) ∧ (wadd 210 v1) < 2140) ((F235 v3 (mset r1 14 (wadd 210 v1) v2)).bind fun r2 => (F211 v1 r2.2).bind fun r3 => (F245 r2.2).bind fun r4 => some (r3, r4))
set_option maxRecDepth 100000 in
theorem S243 {spec : zRn zH2} {hc : zHC} {o : Int → Int} {d : Nat} (hd : 7 ≤ d) (v1 : Int) (v2 : Int) (v3 : Int) (h : zHM) (v : (Int × zHM)) (e : F243 v1 v2 v3 h = some v) : zRu2 spec d 243 [(22, 0), (0, v1), (0, v2), (0, v3)] (hc, h, o) (some (0, v.1)) (hc, v.2, o) := by
  refine zF_in (D := 6) (mx := 5) (L := [some (22, 0), some (0, v1), some (0, v2), some (0, v3), none]) (by decide +kernel) rfl rfl hd (fun d hd => ?_)
  unfold F243 at e
  obtain ⟨r1, q1, e⟩ := zB_s e
  refine zF_blk (m := []) (d := 0) (b := B243_0) (gs := []) (c' := (1, [some (22, 0), some (0, v1), some (0, v2), some (0, v3), none], [(22, 0)], (hc, h, o))) K243_0 rfl trivial ?_
  refine zF_call (k := 244) (cl := 12) (n := 1) (i := .invokevirtual 317) (args := [(22, 0)]) (rest := []) (g1 := (hc, r1, o)) (r1 := none) (by decide +kernel) rfl rfl rfl (st' := []) rfl (S244 (Nat.le_trans (by decide) hd)  h _ q1) ?_
  obtain ⟨q2, e⟩ := zG_s e
  refine zF_blk (m := []) (d := 0) (b := B243_1) (gs := []) (c' := (12, [some (22, 0), some (0, v1), some (0, v2), some (0, v3), none], [(0, v1), (0, 210), (1344370422, 0)], (hc, r1, o))) K243_1 rfl trivial ?_
  obtain ⟨r2, q3, e⟩ := zB_s e
  refine zF_blk (m := []) (d := 0) (b := B243_2) (gs := [0 ≤ (wadd 210 v1) ∧ (wadd 210 v1) < 2140]) (c' := (17, [some (22, 0), some (0, v1), some (0, v2), some (0, v3), none], [(0, v3), (22, 0)], (hc, (mset r1 14 (wadd 210 v1) v2), o))) K243_2 rfl ⟨q2, trivial⟩ ?_
  refine zF_call (k := 235) (cl := 12) (n := 2) (i := .invokevirtual 314) (args := [(22, 0), (0, v3)]) (rest := []) (g1 := (hc, r2.2, o)) (r1 := some (0, r2.1)) (by decide +kernel) rfl rfl rfl (st' := [(0, r2.1)]) rfl (S235 (Nat.le_trans (by decide) hd) v3 (mset r1 14 (wadd 210 v1) v2) _ q3) ?_
  obtain ⟨r3, q4, e⟩ := zB_s e
  refine zF_blk (m := []) (d := 0) (b := B243_3) (gs := []) (c' := (23, [some (22, 0), some (0, v1), some (0, v2), some (0, v3), none], [(0, v1), (22, 0)], (hc, r2.2, o))) K243_3 rfl trivial ?_
  refine zF_call (k := 211) (cl := 12) (n := 2) (i := .invokevirtual 263) (args := [(22, 0), (0, v1)]) (rest := []) (g1 := (hc, r2.2, o)) (r1 := some (0, r3)) (by decide +kernel) rfl rfl rfl (st' := [(0, r3)]) rfl (S211 (Nat.le_trans (by decide) hd) v1 r2.2 _ q4) ?_
  obtain ⟨r4, q5, e⟩ := zB_s e
  refine zF_blk (m := []) (d := 0) (b := B243_4) (gs := []) (c' := (29, [some (22, 0), some (0, v1), some (0, v2), some (0, v3), some (0, r3)], [(22, 0)], (hc, r2.2, o))) K243_4 rfl trivial ?_
  refine zF_call (k := 245) (cl := 12) (n := 1) (i := .invokevirtual 320) (args := [(22, 0)]) (rest := []) (g1 := (hc, r4, o)) (r1 := none) (by decide +kernel) rfl rfl rfl (st' := []) rfl (S245 (Nat.le_trans (by decide) hd)  r2.2 _ q5) ?_
  refine zF_blk (m := []) (d := 0) (b := B243_5) (gs := []) (c' := (34, [some (22, 0), some (0, v1), some (0, v2), some (0, v3), some (0, r3)], [(0, r3)], (hc, r4, o))) K243_5 rfl trivial ?_
  exact zF_riM (by decide +kernel) e
def B241_0 : List zRow := [(0, .aload_n 0, 1, (0, 0, 0)), (1, .iconst 0, 1, (0, 0, 0)), (2, .putfield 81, 3, (12, 0, 0)), (5, .aload_n 0, 1, (0, 0, 0)), (6, .iload_n 1, 1, (0, 0, 0))]
theorem K241_0 : zRk 241 B241_0 = true := by decide +kernel
def B241_1 : List zRow := [(20, .iconst (-1), 1, (0, 0, 0))]
theorem K241_1 : zRk 241 B241_1 = true := by decide +kernel
def B241_2 : List zRow := [(13, .iload_n 2, 1, (0, 0, 0))]
theorem K241_2 : zRk 241 B241_2 = true := by decide +kernel
def B241_3 : List zRow := [(22, .iconst (-1), 1, (0, 0, 0)), (23, .istore_n 3, 1, (0, 0, 0)), (24, .iconst (-1), 1, (0, 0, 0)), (25, .istore 4, 2, (0, 0, 0)), (27, .iconst 0, 1, (0, 0, 0)), (28, .istore 5, 2, (0, 0, 0))]
theorem K241_3 : zRk 241 B241_3 = true := by decide +kernel
def B241_4 : List zRow := [(17, .ifCond .ne 5, 3, (0, 0, 0))]
theorem K241_4 : zRk 241 B241_4 = true := by decide +kernel
def B241_5 : List zRow := [(10, .ifCond .eq 10, 3, (0, 0, 0))]
theorem K241_5 : zRk 241 B241_5 = true := by decide +kernel
def B241_6 : List zRow := [(83, .iload_n 3, 1, (0, 0, 0))]
theorem K241_6 : zRk 241 B241_6 = true := by decide +kernel
def B241_7 : List zRow := [(37, .aload_n 0, 1, (0, 0, 0)), (38, .iload 5, 2, (0, 0, 0))]
theorem K241_7 : zRk 241 B241_7 = true := by decide +kernel
def B241_8 : List zRow := [(57, .iconst (-1), 1, (0, 0, 0))]
theorem K241_8 : zRk 241 B241_8 = true := by decide +kernel
def B241_9 : List zRow := [(46, .aload_n 0, 1, (0, 0, 0)), (47, .iload_n 1, 1, (0, 0, 0)), (48, .iload 5, 2, (0, 0, 0)), (50, .iload_n 2, 1, (0, 0, 0))]
theorem K241_9 : zRk 241 B241_9 = true := by decide +kernel
def B241_10 : List zRow := [(54, .goto 4, 3, (0, 0, 0))]
theorem K241_10 : zRk 241 B241_10 = true := by decide +kernel
def B241_11 : List zRow := [(43, .ifCond .eq 14, 3, (0, 0, 0))]
theorem K241_11 : zRk 241 B241_11 = true := by decide +kernel
def B241_12 : List zRow := [(30, .iload 5, 2, (0, 0, 0)), (32, .bipush 100, 2, (0, 0, 0)), (34, .if_icmp .ge 49, 3, (0, 0, 0))]
theorem K241_12 : zRk 241 B241_12 = true := by decide +kernel
def B241_13 : List zRow := [(70, .iload 5, 2, (0, 0, 0)), (72, .istore_n 3, 1, (0, 0, 0)), (73, .iload 6, 2, (0, 0, 0)), (75, .istore 4, 2, (0, 0, 0))]
theorem K241_13 : zRk 241 B241_13 = true := by decide +kernel
def B241_14 : List zRow := [(67, .goto 10, 3, (0, 0, 0))]
theorem K241_14 : zRk 241 B241_14 = true := by decide +kernel
def B241_15 : List zRow := [(58, .istore 6, 2, (0, 0, 0)), (60, .iload 6, 2, (0, 0, 0)), (62, .iload 4, 2, (0, 0, 0)), (64, .if_icmp .gt 6, 3, (0, 0, 0))]
theorem K241_15 : zRk 241 B241_15 = true := by decide +kernel
def B241_16 : List zRow := [(77, .iinc 5 1, 3, (0, 0, 0)), (80, .goto (-50), 3, (0, 0, 0))]
theorem K241_16 : zRk 241 B241_16 = true := by decide +kernel
def F241_2 (k0 : Int → Int → Int → Int → Int → zHM → Option (Int × zHM)) (v1 : Int) (v2 : Int) (v3 : Int) (v4 : Int) (v5 : Int) (h : zHM) : Option (Int × zHM) := k0 v1 v2 v3 v4 (wadd v5 1) h
set_option maxRecDepth 100000 in
theorem T241_2 {spec : zRn zH2} {hc : zHC} {o : Int → Int} {d : Nat} (hd : 7 ≤ d) (k0 : Int → Int → Int → Int → Int → zHM → Option (Int × zHM)) (hk0 : ∀ (v1 : Int) (v2 : Int) (v3 : Int) (v4 : Int) (v5 : Int) (h : zHM) (v : (Int × zHM)), k0 v1 v2 v3 v4 v5 h = some v → zFin 0 (fun _ => 0) (zRu2 spec d) 241 (some (0, v.1)) (hc, v.2, o) (30, [some (22, 0), some (0, v1), some (0, v2), some (0, v3), some (0, v4), some (0, v5), none], [], (hc, h, o))) (v1 : Int) (v2 : Int) (v3 : Int) (v4 : Int) (v5 : Int) (h : zHM) (v : (Int × zHM)) (e : F241_2 k0 v1 v2 v3 v4 v5 h = some v) : zFin 0 (fun _ => 0) (zRu2 spec d) 241 (some (0, v.1)) (hc, v.2, o) (77, [some (22, 0), some (0, v1), some (0, v2), some (0, v3), some (0, v4), some (0, v5), none], [], (hc, h, o)) := by
  unfold F241_2 at e
  refine zF_blk (m := []) (d := 0) (b := B241_16) (gs := []) (c' := (30, [some (22, 0), some (0, v1), some (0, v2), some (0, v3), some (0, v4), some (0, (wadd v5 1)), none], [], (hc, h, o))) K241_16 rfl trivial ?_
  exact hk0 v1 v2 v3 v4 (wadd v5 1) h _ e
def F241_1 (k0 : Int → Int → Int → Int → Int → zHM → Option (Int × zHM)) (v1 : Int) (v2 : Int) (v3 : Int) (v4 : Int) (v5 : Int) (s0 : Int) (h : zHM) : Option (Int × zHM) := if v4 < s0 then F241_2 k0 v1 v2 v5 s0 v5 h else F241_2 k0 v1 v2 v3 v4 v5 h
set_option maxRecDepth 100000 in
theorem T241_1 {spec : zRn zH2} {hc : zHC} {o : Int → Int} {d : Nat} (hd : 7 ≤ d) (k0 : Int → Int → Int → Int → Int → zHM → Option (Int × zHM)) (hk0 : ∀ (v1 : Int) (v2 : Int) (v3 : Int) (v4 : Int) (v5 : Int) (h : zHM) (v : (Int × zHM)), k0 v1 v2 v3 v4 v5 h = some v → zFin 0 (fun _ => 0) (zRu2 spec d) 241 (some (0, v.1)) (hc, v.2, o) (30, [some (22, 0), some (0, v1), some (0, v2), some (0, v3), some (0, v4), some (0, v5), none], [], (hc, h, o))) (v1 : Int) (v2 : Int) (v3 : Int) (v4 : Int) (v5 : Int) (s0 : Int) (h : zHM) (v : (Int × zHM)) (e : F241_1 k0 v1 v2 v3 v4 v5 s0 h = some v) : zFin 0 (fun _ => 0) (zRu2 spec d) 241 (some (0, v.1)) (hc, v.2, o) (58, [some (22, 0), some (0, v1), some (0, v2), some (0, v3), some (0, v4), some (0, v5), none], [(0, s0)], (hc, h, o)) := by
  unfold F241_1 at e
  rcases zI_s e with ⟨q1, e⟩ | ⟨q1, e⟩
  · refine zF_blk (m := []) (d := 1) (b := B241_15) (gs := [v4 < s0]) (c' := (70, [some (22, 0), some (0, v1), some (0, v2), some (0, v3), some (0, v4), some (0, v5), some (0, s0)], [], (hc, h, o))) K241_15 rfl ⟨q1, trivial⟩ ?_
    refine zF_blk (m := []) (d := 0) (b := B241_13) (gs := []) (c' := (77, [some (22, 0), some (0, v1), some (0, v2), some (0, v5), some (0, s0), some (0, v5), some (0, s0)], [], (hc, h, o))) K241_13 rfl trivial ?_
    refine zF_blk (m := [true, true, true, true, true, true, false]) (d := 0) (b := []) (gs := []) (c' := (77, [some (22, 0), some (0, v1), some (0, v2), some (0, v5), some (0, s0), some (0, v5), none], [], (hc, h, o))) rfl rfl trivial ?_
    exact T241_2 hd k0 hk0 v1 v2 v5 s0 v5 h _ e
  · refine zF_blk (m := []) (d := 0) (b := B241_15) (gs := [¬ (v4 < s0)]) (c' := (67, [some (22, 0), some (0, v1), some (0, v2), some (0, v3), some (0, v4), some (0, v5), some (0, s0)], [], (hc, h, o))) K241_15 rfl ⟨q1, trivial⟩ ?_
    refine zF_blk (m := []) (d := 0) (b := B241_14) (gs := []) (c' := (77, [some (22, 0), some (0, v1), some (0, v2), some (0, v3), some (0, v4), some (0, v5), some (0, s0)], [], (hc, h, o))) K241_14 rfl trivial ?_
    refine zF_blk (m := [true, true, true, true, true, true, false]) (d := 0) (b := []) (gs := []) (c' := (77, [some (22, 0), some (0, v1), some (0, v2), some (0, v3), some (0, v4), some (0, v5), none], [], (hc, h, o))) rfl rfl trivial ?_
    exact T241_2 hd k0 hk0 v1 v2 v3 v4 v5 h _ e
def F241_0 : Nat → Int → Int → Int → Int → Int → zHM → Option (Int × zHM)
  | 0, _, _, _, _, _, _ => none
  | n + 1, v1, v2, v3, v4, v5, h => if 100 ≤ v5 then some (v3, h) else (F224 v5 h).bind fun r1 => if r1 = 0 then F241_1 (F241_0 n) v1 v2 v3 v4 v5 (-1) h else (F243 v1 v5 v2 h).bind fun r2 => F241_1 (F241_0 n) v1 v2 v3 v4 v5 r2.1 r2.2
set_option maxRecDepth 100000 in
theorem T241_0 {spec : zRn zH2} {hc : zHC} {o : Int → Int} {d : Nat} (hd : 7 ≤ d) : ∀ (n : Nat) (v1 : Int) (v2 : Int) (v3 : Int) (v4 : Int) (v5 : Int) (h : zHM) (v : (Int × zHM)), F241_0 n v1 v2 v3 v4 v5 h = some v → zFin 0 (fun _ => 0) (zRu2 spec d) 241 (some (0, v.1)) (hc, v.2, o) (30, [some (22, 0), some (0, v1), some (0, v2), some (0, v3), some (0, v4), some (0, v5), none], [], (hc, h, o)) := by
  intro n
  induction n with
  | zero => intro v1 v2 v3 v4 v5 h v e; unfold F241_0 at e; cases e
  | succ n hk0 =>
    intro v1 v2 v3 v4 v5 h v e
    unfold F241_0 at e
    rcases zI_s e with ⟨q1, e⟩ | ⟨q1, e⟩
    · refine zF_blk (m := []) (d := 1) (b := B241_12) (gs := [100 ≤ v5]) (c' := (83, [some (22, 0), some (0, v1), some (0, v2), some (0, v3), some (0, v4), some (0, v5), none], [], (hc, h, o))) K241_12 rfl ⟨q1, trivial⟩ ?_
      refine zF_blk (m := []) (d := 0) (b := B241_6) (gs := []) (c' := (84, [some (22, 0), some (0, v1), some (0, v2), some (0, v3), some (0, v4), some (0, v5), none], [(0, v3)], (hc, h, o))) K241_6 rfl trivial ?_
      exact zF_riM (by decide +kernel) e
    · refine zF_blk (m := []) (d := 0) (b := B241_12) (gs := [¬ (100 ≤ v5)]) (c' := (37, [some (22, 0), some (0, v1), some (0, v2), some (0, v3), some (0, v4), some (0, v5), none], [], (hc, h, o))) K241_12 rfl ⟨q1, trivial⟩ ?_
      obtain ⟨r1, q2, e⟩ := zB_s e
      refine zF_blk (m := []) (d := 0) (b := B241_7) (gs := []) (c' := (40, [some (22, 0), some (0, v1), some (0, v2), some (0, v3), some (0, v4), some (0, v5), none], [(0, v5), (22, 0)], (hc, h, o))) K241_7 rfl trivial ?_
      refine zF_call (k := 224) (cl := 12) (n := 2) (i := .invokevirtual 305) (args := [(22, 0), (0, v5)]) (rest := []) (g1 := (hc, h, o)) (r1 := some (0, r1)) (by decide +kernel) rfl rfl rfl (st' := [(0, r1)]) rfl (S224 (Nat.le_trans (by decide) hd) v5 h _ q2) ?_
      rcases zI_s e with ⟨q3, e⟩ | ⟨q3, e⟩
      · refine zF_blk (m := []) (d := 1) (b := B241_11) (gs := [r1 = 0]) (c' := (57, [some (22, 0), some (0, v1), some (0, v2), some (0, v3), some (0, v4), some (0, v5), none], [], (hc, h, o))) K241_11 rfl ⟨q3, trivial⟩ ?_
        refine zF_blk (m := []) (d := 0) (b := B241_8) (gs := []) (c' := (58, [some (22, 0), some (0, v1), some (0, v2), some (0, v3), some (0, v4), some (0, v5), none], [(0, (-1))], (hc, h, o))) K241_8 rfl trivial ?_
        exact T241_1 hd (F241_0 n) hk0 v1 v2 v3 v4 v5 (-1) h _ e
      · refine zF_blk (m := []) (d := 0) (b := B241_11) (gs := [¬ (r1 = 0)]) (c' := (46, [some (22, 0), some (0, v1), some (0, v2), some (0, v3), some (0, v4), some (0, v5), none], [], (hc, h, o))) K241_11 rfl ⟨q3, trivial⟩ ?_
        obtain ⟨r2, q4, e⟩ := zB_s e
        refine zF_blk (m := []) (d := 0) (b := B241_9) (gs := []) (c' := (51, [some (22, 0), some (0, v1), some (0, v2), some (0, v3), some (0, v4), some (0, v5), none], [(0, v2), (0, v5), (0, v1), (22, 0)], (hc, h, o))) K241_9 rfl trivial ?_
        refine zF_call (k := 243) (cl := 12) (n := 4) (i := .invokevirtual 326) (args := [(22, 0), (0, v1), (0, v5), (0, v2)]) (rest := []) (g1 := (hc, r2.2, o)) (r1 := some (0, r2.1)) (by decide +kernel) rfl rfl rfl (st' := [(0, r2.1)]) rfl (S243 (Nat.le_trans (by decide) hd) v1 v5 v2 h _ q4) ?_
        refine zF_blk (m := []) (d := 0) (b := B241_10) (gs := []) (c' := (58, [some (22, 0), some (0, v1), some (0, v2), some (0, v3), some (0, v4), some (0, v5), none], [(0, r2.1)], (hc, r2.2, o))) K241_10 rfl trivial ?_
        exact T241_1 hd (F241_0 n) hk0 v1 v2 v3 v4 v5 r2.1 r2.2 _ e
/-- EchoValeModel.camp(II)I -/
def F241 (v1 : Int) (v2 : Int) (h : zHM) : Option (Int × zHM) := (F210 v1 (mset h 0 0 0)).bind fun r1 => if r1 = 0 then some ((-1), (mset h 0 0 0)) else (F242 v2).bind fun r2 => if ¬ r2 = 0 then F241_0 zFu v1 v2 (-1) (-1) 0 (mset h 0 0 0) else some ((-1), (mset h 0 0 0))
set_option maxRecDepth 100000 in
theorem S241 {spec : zRn zH2} {hc : zHC} {o : Int → Int} {d : Nat} (hd : 8 ≤ d) (v1 : Int) (v2 : Int) (h : zHM) (v : (Int × zHM)) (e : F241 v1 v2 h = some v) : zRu2 spec d 241 [(22, 0), (0, v1), (0, v2)] (hc, h, o) (some (0, v.1)) (hc, v.2, o) := by
  refine zF_in (D := 7) (mx := 7) (L := [some (22, 0), some (0, v1), some (0, v2), none, none, none, none]) (by decide +kernel) rfl rfl hd (fun d hd => ?_)
  unfold F241 at e
  obtain ⟨r1, q1, e⟩ := zB_s e
  refine zF_blk (m := []) (d := 0) (b := B241_0) (gs := []) (c' := (7, [some (22, 0), some (0, v1), some (0, v2), none, none, none, none], [(0, v1), (22, 0)], (hc, (mset h 0 0 0), o))) K241_0 rfl trivial ?_
  refine zF_call (k := 210) (cl := 12) (n := 2) (i := .invokevirtual 260) (args := [(22, 0), (0, v1)]) (rest := []) (g1 := (hc, (mset h 0 0 0), o)) (r1 := some (0, r1)) (by decide +kernel) rfl rfl rfl (st' := [(0, r1)]) rfl (S210 (Nat.le_trans (by decide) hd) v1 (mset h 0 0 0) _ q1) ?_
  rcases zI_s e with ⟨q2, e⟩ | ⟨q2, e⟩
  · refine zF_blk (m := []) (d := 1) (b := B241_5) (gs := [r1 = 0]) (c' := (20, [some (22, 0), some (0, v1), some (0, v2), none, none, none, none], [], (hc, (mset h 0 0 0), o))) K241_5 rfl ⟨q2, trivial⟩ ?_
    refine zF_blk (m := []) (d := 0) (b := B241_1) (gs := []) (c' := (21, [some (22, 0), some (0, v1), some (0, v2), none, none, none, none], [(0, (-1))], (hc, (mset h 0 0 0), o))) K241_1 rfl trivial ?_
    exact zF_riM (by decide +kernel) e
  · refine zF_blk (m := []) (d := 0) (b := B241_5) (gs := [¬ (r1 = 0)]) (c' := (13, [some (22, 0), some (0, v1), some (0, v2), none, none, none, none], [], (hc, (mset h 0 0 0), o))) K241_5 rfl ⟨q2, trivial⟩ ?_
    obtain ⟨r2, q3, e⟩ := zB_s e
    refine zF_blk (m := []) (d := 0) (b := B241_2) (gs := []) (c' := (14, [some (22, 0), some (0, v1), some (0, v2), none, none, none, none], [(0, v2)], (hc, (mset h 0 0 0), o))) K241_2 rfl trivial ?_
    refine zF_call (k := 242) (cl := 12) (n := 1) (i := .invokestatic 323) (args := [(0, v2)]) (rest := []) (g1 := (hc, (mset h 0 0 0), o)) (r1 := some (0, r2)) (by decide +kernel) rfl rfl rfl (st' := [(0, r2)]) rfl (S242 (Nat.le_trans (by decide) hd) v2 (mset h 0 0 0) _ q3) ?_
    rcases zI_s e with ⟨q4, e⟩ | ⟨q4, e⟩
    · refine zF_blk (m := []) (d := 1) (b := B241_4) (gs := [¬ r2 = 0]) (c' := (22, [some (22, 0), some (0, v1), some (0, v2), none, none, none, none], [], (hc, (mset h 0 0 0), o))) K241_4 rfl ⟨q4, trivial⟩ ?_
      refine zF_blk (m := []) (d := 0) (b := B241_3) (gs := []) (c' := (30, [some (22, 0), some (0, v1), some (0, v2), some (0, (-1)), some (0, (-1)), some (0, 0), none], [], (hc, (mset h 0 0 0), o))) K241_3 rfl trivial ?_
      exact T241_0 hd zFu v1 v2 (-1) (-1) 0 (mset h 0 0 0) _ e
    · refine zF_blk (m := []) (d := 0) (b := B241_4) (gs := [¬ (¬ r2 = 0)]) (c' := (20, [some (22, 0), some (0, v1), some (0, v2), none, none, none, none], [], (hc, (mset h 0 0 0), o))) K241_4 rfl ⟨q4, trivial⟩ ?_
      refine zF_blk (m := []) (d := 0) (b := B241_1) (gs := []) (c' := (21, [some (22, 0), some (0, v1), some (0, v2), none, none, none, none], [(0, (-1))], (hc, (mset h 0 0 0), o))) K241_1 rfl trivial ?_
      exact zF_riM (by decide +kernel) e
def B102_0 : List zRow := [(0, .aload_n 0, 1, (0, 0, 0)), (1, .iload_n 1, 1, (0, 0, 0))]
theorem K102_0 : zRk 102 B102_0 = true := by decide +kernel
def B102_1 : List zRow := [(26, .iconst (-1), 1, (0, 0, 0))]
theorem K102_1 : zRk 102 B102_1 = true := by decide +kernel
def B102_2 : List zRow := [(8, .aload_n 0, 1, (0, 0, 0)), (9, .getfield 19, 3, (11, 1, 39)), (12, .iload_n 2, 1, (0, 0, 0))]
theorem K102_2 : zRk 102 B102_2 = true := by decide +kernel
def B102_3 : List zRow := [(19, .iload_n 3, 1, (0, 0, 0))]
theorem K102_3 : zRk 102 B102_3 = true := by decide +kernel
def B102_4 : List zRow := [(28, .aload_n 0, 1, (0, 0, 0)), (29, .iload_n 1, 1, (0, 0, 0)), (30, .iload_n 2, 1, (0, 0, 0)), (31, .iload_n 3, 1, (0, 0, 0))]
theorem K102_4 : zRk 102 B102_4 = true := by decide +kernel
def B102_5 : List zRow := [(23, .ifCond .ne 5, 3, (0, 0, 0))]
theorem K102_5 : zRk 102 B102_5 = true := by decide +kernel
def B102_6 : List zRow := [(16, .ifCond .eq 10, 3, (0, 0, 0))]
theorem K102_6 : zRk 102 B102_6 = true := by decide +kernel
def B102_7 : List zRow := [(5, .ifCond .eq 21, 3, (0, 0, 0))]
theorem K102_7 : zRk 102 B102_7 = true := by decide +kernel
/-- EchoVale.camping(III)I -/
def F102 (v1 : Int) (v2 : Int) (v3 : Int) (h : zHC) : Option (Int × zHC) := (F61 v1 h).bind fun r1 => if r1 = 0 then some ((-1), h) else (F69 0 v2 h).bind fun r2 => if r2 = 0 then some ((-1), h) else (F99 v3).bind fun r3 => if ¬ r3 = 0 then (F100 v1 v2 v3 h).bind fun r4 => some (r4.1, r4.2) else some ((-1), h)
set_option maxRecDepth 100000 in
theorem S102 {spec : zRn zH2} {hm : zHM} {o : Int → Int} {d : Nat} (hd : 8 ≤ d) (v1 : Int) (v2 : Int) (v3 : Int) (h : zHC) (v : (Int × zHC)) (e : F102 v1 v2 v3 h = some v) : zRu2 spec d 102 [(21, 0), (0, v1), (0, v2), (0, v3)] (h, hm, o) (some (0, v.1)) (v.2, hm, o) := by
  refine zF_in (D := 7) (mx := 4) (L := [some (21, 0), some (0, v1), some (0, v2), some (0, v3)]) (by decide +kernel) rfl rfl hd (fun d hd => ?_)
  unfold F102 at e
  obtain ⟨r1, q1, e⟩ := zB_s e
  refine zF_blk (m := []) (d := 0) (b := B102_0) (gs := []) (c' := (2, [some (21, 0), some (0, v1), some (0, v2), some (0, v3)], [(0, v1), (21, 0)], (h, hm, o))) K102_0 rfl trivial ?_
  refine zF_call (k := 61) (cl := 11) (n := 2) (i := .invokevirtual 172) (args := [(21, 0), (0, v1)]) (rest := []) (g1 := (h, hm, o)) (r1 := some (0, r1)) (by decide +kernel) rfl rfl rfl (st' := [(0, r1)]) rfl (S61 (Nat.le_trans (by decide) hd) v1 h _ q1) ?_
  rcases zI_s e with ⟨q2, e⟩ | ⟨q2, e⟩
  · refine zF_blk (m := []) (d := 1) (b := B102_7) (gs := [r1 = 0]) (c' := (26, [some (21, 0), some (0, v1), some (0, v2), some (0, v3)], [], (h, hm, o))) K102_7 rfl ⟨q2, trivial⟩ ?_
    refine zF_blk (m := []) (d := 0) (b := B102_1) (gs := []) (c' := (27, [some (21, 0), some (0, v1), some (0, v2), some (0, v3)], [(0, (-1))], (h, hm, o))) K102_1 rfl trivial ?_
    exact zF_riC (by decide +kernel) e
  · refine zF_blk (m := []) (d := 0) (b := B102_7) (gs := [¬ (r1 = 0)]) (c' := (8, [some (21, 0), some (0, v1), some (0, v2), some (0, v3)], [], (h, hm, o))) K102_7 rfl ⟨q2, trivial⟩ ?_
    obtain ⟨r2, q3, e⟩ := zB_s e
    refine zF_blk (m := []) (d := 0) (b := B102_2) (gs := []) (c' := (13, [some (21, 0), some (0, v1), some (0, v2), some (0, v3)], [(0, v2), (19, 0)], (h, hm, o))) K102_2 rfl trivial ?_
    refine zF_call (k := 69) (cl := 9) (n := 2) (i := .invokevirtual 214) (args := [(19, 0), (0, v2)]) (rest := []) (g1 := (h, hm, o)) (r1 := some (0, r2)) (by decide +kernel) rfl rfl rfl (st' := [(0, r2)]) rfl (S69 (Nat.le_trans (by decide) hd) 0 v2 h _ q3) ?_
    rcases zI_s e with ⟨q4, e⟩ | ⟨q4, e⟩
    · refine zF_blk (m := []) (d := 1) (b := B102_6) (gs := [r2 = 0]) (c' := (26, [some (21, 0), some (0, v1), some (0, v2), some (0, v3)], [], (h, hm, o))) K102_6 rfl ⟨q4, trivial⟩ ?_
      refine zF_blk (m := []) (d := 0) (b := B102_1) (gs := []) (c' := (27, [some (21, 0), some (0, v1), some (0, v2), some (0, v3)], [(0, (-1))], (h, hm, o))) K102_1 rfl trivial ?_
      exact zF_riC (by decide +kernel) e
    · refine zF_blk (m := []) (d := 0) (b := B102_6) (gs := [¬ (r2 = 0)]) (c' := (19, [some (21, 0), some (0, v1), some (0, v2), some (0, v3)], [], (h, hm, o))) K102_6 rfl ⟨q4, trivial⟩ ?_
      obtain ⟨r3, q5, e⟩ := zB_s e
      refine zF_blk (m := []) (d := 0) (b := B102_3) (gs := []) (c' := (20, [some (21, 0), some (0, v1), some (0, v2), some (0, v3)], [(0, v3)], (h, hm, o))) K102_3 rfl trivial ?_
      refine zF_call (k := 99) (cl := 11) (n := 1) (i := .invokestatic 242) (args := [(0, v3)]) (rest := []) (g1 := (h, hm, o)) (r1 := some (0, r3)) (by decide +kernel) rfl rfl rfl (st' := [(0, r3)]) rfl (S99 (Nat.le_trans (by decide) hd) v3 h _ q5) ?_
      rcases zI_s e with ⟨q6, e⟩ | ⟨q6, e⟩
      · refine zF_blk (m := []) (d := 1) (b := B102_5) (gs := [¬ r3 = 0]) (c' := (28, [some (21, 0), some (0, v1), some (0, v2), some (0, v3)], [], (h, hm, o))) K102_5 rfl ⟨q6, trivial⟩ ?_
        obtain ⟨r4, q7, e⟩ := zB_s e
        refine zF_blk (m := []) (d := 0) (b := B102_4) (gs := []) (c' := (32, [some (21, 0), some (0, v1), some (0, v2), some (0, v3)], [(0, v3), (0, v2), (0, v1), (21, 0)], (h, hm, o))) K102_4 rfl trivial ?_
        refine zF_call (k := 100) (cl := 11) (n := 4) (i := .invokevirtual 245) (args := [(21, 0), (0, v1), (0, v2), (0, v3)]) (rest := []) (g1 := (r4.2, hm, o)) (r1 := some (0, r4.1)) (by decide +kernel) rfl rfl rfl (st' := [(0, r4.1)]) rfl (S100 (Nat.le_trans (by decide) hd) v1 v2 v3 h _ q7) ?_
        exact zF_riC (by decide +kernel) e
      · refine zF_blk (m := []) (d := 0) (b := B102_5) (gs := [¬ (¬ r3 = 0)]) (c' := (26, [some (21, 0), some (0, v1), some (0, v2), some (0, v3)], [], (h, hm, o))) K102_5 rfl ⟨q6, trivial⟩ ?_
        refine zF_blk (m := []) (d := 0) (b := B102_1) (gs := []) (c' := (27, [some (21, 0), some (0, v1), some (0, v2), some (0, v3)], [(0, (-1))], (h, hm, o))) K102_1 rfl trivial ?_
        exact zF_riC (by decide +kernel) e
