/-! Functions of the methods, by wip/gen/lift.py. -/
def B256_0 : List zRow := [(0, .aload_n 0, 1, (0, 0, 0)), (1, .iconst 0, 1, (0, 0, 0)), (2, .putfield 81, 3, (12, 0, 0)), (5, .aload_n 0, 1, (0, 0, 0)), (6, .iload_n 1, 1, (0, 0, 0))]
theorem K256_0 : zRk 256 B256_0 = true := by decide +kernel
def B256_1 : List zRow := [(31, .iconst (-1), 1, (0, 0, 0))]
theorem K256_1 : zRk 256 B256_1 = true := by decide +kernel
def B256_2 : List zRow := [(13, .aload_n 0, 1, (0, 0, 0)), (14, .iload_n 2, 1, (0, 0, 0))]
theorem K256_2 : zRk 256 B256_2 = true := by decide +kernel
def B256_3 : List zRow := [(21, .iload_n 3, 1, (0, 0, 0)), (22, .iconst 1, 1, (0, 0, 0)), (23, .bipush 100, 2, (0, 0, 0))]
theorem K256_3 : zRk 256 B256_3 = true := by decide +kernel
def B256_4 : List zRow := [(33, .aload_n 0, 1, (0, 0, 0))]
theorem K256_4 : zRk 256 B256_4 = true := by decide +kernel
def B256_5 : List zRow := [(37, .aload_n 0, 1, (0, 0, 0)), (38, .getfield 13, 3, (12, 14, 5251442)), (41, .sipush 997, 3, (0, 0, 0)), (44, .iaload, 1, (0, 0, 0)), (45, .istore 4, 2, (0, 0, 0)), (47, .aload_n 0, 1, (0, 0, 0)), (48, .iload_n 3, 1, (0, 0, 0))]
theorem K256_5 : zRk 256 B256_5 = true := by decide +kernel
def B256_6 : List zRow := [(52, .pop, 1, (0, 0, 0)), (53, .iconst (-1), 1, (0, 0, 0)), (54, .istore 5, 2, (0, 0, 0)), (56, .iload 4, 2, (0, 0, 0)), (58, .istore 6, 2, (0, 0, 0))]
theorem K256_6 : zRk 256 B256_6 = true := by decide +kernel
def B256_7 : List zRow := [(28, .ifCond .ne 5, 3, (0, 0, 0))]
theorem K256_7 : zRk 256 B256_7 = true := by decide +kernel
def B256_8 : List zRow := [(18, .ifCond .eq 13, 3, (0, 0, 0))]
theorem K256_8 : zRk 256 B256_8 = true := by decide +kernel
def B256_9 : List zRow := [(10, .ifCond .eq 21, 3, (0, 0, 0))]
theorem K256_9 : zRk 256 B256_9 = true := by decide +kernel
def B256_10 : List zRow := [(79, .aload_n 0, 1, (0, 0, 0)), (80, .getfield 13, 3, (12, 14, 5251442)), (83, .sipush 998, 3, (0, 0, 0)), (86, .iconst 5, 1, (0, 0, 0)), (87, .iload 6, 2, (0, 0, 0))]
theorem K256_10 : zRk 256 B256_10 = true := by decide +kernel
def B256_11 : List zRow := [(89, .imul, 1, (0, 0, 0))]
theorem K256_11 : zRk 256 B256_11 = true := by decide +kernel
def B256_12 : List zRow := [(96, .aload_n 0, 1, (0, 0, 0)), (97, .getfield 13, 3, (12, 14, 5251442)), (100, .sipush 998, 3, (0, 0, 0)), (103, .iconst 5, 1, (0, 0, 0)), (104, .iload 6, 2, (0, 0, 0))]
theorem K256_12 : zRk 256 B256_12 = true := by decide +kernel
def B256_13 : List zRow := [(106, .imul, 1, (0, 0, 0))]
theorem K256_13 : zRk 256 B256_13 = true := by decide +kernel
def B256_14 : List zRow := [(107, .iadd, 1, (0, 0, 0)), (108, .iconst 4, 1, (0, 0, 0)), (109, .iadd, 1, (0, 0, 0)), (110, .iaload, 1, (0, 0, 0)), (111, .iload_n 1, 1, (0, 0, 0))]
theorem K256_14 : zRk 256 B256_14 = true := by decide +kernel
def B256_15 : List zRow := [(118, .aload_n 0, 1, (0, 0, 0)), (119, .getfield 13, 3, (12, 14, 5251442)), (122, .sipush 998, 3, (0, 0, 0)), (125, .iconst 5, 1, (0, 0, 0)), (126, .iload 6, 2, (0, 0, 0))]
theorem K256_15 : zRk 256 B256_15 = true := by decide +kernel
def B256_16 : List zRow := [(128, .imul, 1, (0, 0, 0))]
theorem K256_16 : zRk 256 B256_16 = true := by decide +kernel
def B256_17 : List zRow := [(129, .iadd, 1, (0, 0, 0)), (130, .iconst 2, 1, (0, 0, 0)), (131, .iadd, 1, (0, 0, 0)), (132, .iaload, 1, (0, 0, 0)), (133, .istore 5, 2, (0, 0, 0))]
theorem K256_17 : zRk 256 B256_17 = true := by decide +kernel
def B256_18 : List zRow := [(115, .ifCond .eq 20, 3, (0, 0, 0))]
theorem K256_18 : zRk 256 B256_18 = true := by decide +kernel
def B256_19 : List zRow := [(90, .iadd, 1, (0, 0, 0)), (91, .iaload, 1, (0, 0, 0)), (92, .iload_n 2, 1, (0, 0, 0)), (93, .if_icmp .ne 42, 3, (0, 0, 0))]
theorem K256_19 : zRk 256 B256_19 = true := by decide +kernel
def B256_20 : List zRow := [(73, .iload 5, 2, (0, 0, 0)), (75, .iconst (-1), 1, (0, 0, 0)), (76, .if_icmp .ne 65, 3, (0, 0, 0))]
theorem K256_20 : zRk 256 B256_20 = true := by decide +kernel
def B256_21 : List zRow := [(60, .iload 6, 2, (0, 0, 0)), (62, .aload_n 0, 1, (0, 0, 0)), (63, .getfield 13, 3, (12, 14, 5251442)), (66, .sipush 997, 3, (0, 0, 0)), (69, .iaload, 1, (0, 0, 0)), (70, .if_icmp .ge 71, 3, (0, 0, 0))]
theorem K256_21 : zRk 256 B256_21 = true := by decide +kernel
def B256_22 : List zRow := [(135, .iinc 6 1, 3, (0, 0, 0)), (138, .goto (-78), 3, (0, 0, 0))]
theorem K256_22 : zRk 256 B256_22 = true := by decide +kernel
def B256_23 : List zRow := [(141, .aload_n 0, 1, (0, 0, 0))]
theorem K256_23 : zRk 256 B256_23 = true := by decide +kernel
def B256_24 : List zRow := [(145, .iload 5, 2, (0, 0, 0))]
theorem K256_24 : zRk 256 B256_24 = true := by decide +kernel
def F256_1 (v5 : Int) (h : zHM) : Option (Int × zHM) := (F245 h).bind fun r1 => some (v5, r1)
set_option maxRecDepth 100000 in
theorem T256_1 {spec : zRn zH2} {hc : zHC} {o : Int → Int} {d : Nat} (hd : 6 ≤ d) (v5 : Int) (h : zHM) (v : (Int × zHM)) (e : F256_1 v5 h = some v) : zFin 0 (fun _ => 0) (zRu2 spec d) 256 (some (0, v.1)) (hc, v.2, o) (141, [some (22, 0), none, none, none, none, some (0, v5), none], [], (hc, h, o)) := by
  unfold F256_1 at e
  obtain ⟨r1, q1, e⟩ := zB_s e
  refine zF_blk (m := []) (d := 0) (b := B256_23) (gs := []) (c' := (142, [some (22, 0), none, none, none, none, some (0, v5), none], [(22, 0)], (hc, h, o))) K256_23 rfl trivial ?_
  refine zF_call (k := 245) (cl := 12) (n := 1) (i := .invokevirtual 320) (args := [(22, 0)]) (rest := []) (g1 := (hc, r1, o)) (r1 := none) (by decide +kernel) rfl rfl rfl (st' := []) rfl (S245 (Nat.le_trans (by decide) hd)  h _ q1) ?_
  refine zF_blk (m := []) (d := 0) (b := B256_24) (gs := []) (c' := (147, [some (22, 0), none, none, none, none, some (0, v5), none], [(0, v5)], (hc, r1, o))) K256_24 rfl trivial ?_
  exact zF_riM (by decide +kernel) e
def F256_2 (k0 : Int → Int → Int → Int → zHM → Option (Int × zHM)) (v1 : Int) (v2 : Int) (v5 : Int) (v6 : Int) (h : zHM) : Option (Int × zHM) := k0 v1 v2 v5 (wadd v6 1) h
set_option maxRecDepth 100000 in
theorem T256_2 {spec : zRn zH2} {hc : zHC} {o : Int → Int} {d : Nat} (hd : 6 ≤ d) (k0 : Int → Int → Int → Int → zHM → Option (Int × zHM)) (hk0 : ∀ (v1 : Int) (v2 : Int) (v5 : Int) (v6 : Int) (h : zHM) (v : (Int × zHM)), k0 v1 v2 v5 v6 h = some v → zFin 0 (fun _ => 0) (zRu2 spec d) 256 (some (0, v.1)) (hc, v.2, o) (60, [some (22, 0), some (0, v1), some (0, v2), none, none, some (0, v5), some (0, v6)], [], (hc, h, o))) (v1 : Int) (v2 : Int) (v5 : Int) (v6 : Int) (h : zHM) (v : (Int × zHM)) (e : F256_2 k0 v1 v2 v5 v6 h = some v) : zFin 0 (fun _ => 0) (zRu2 spec d) 256 (some (0, v.1)) (hc, v.2, o) (135, [some (22, 0), some (0, v1), some (0, v2), none, none, some (0, v5), some (0, v6)], [], (hc, h, o)) := by
  unfold F256_2 at e
  refine zF_blk (m := []) (d := 0) (b := B256_22) (gs := []) (c' := (60, [some (22, 0), some (0, v1), some (0, v2), none, none, some (0, v5), some (0, (wadd v6 1))], [], (hc, h, o))) K256_22 rfl trivial ?_
  exact hk0 v1 v2 v5 (wadd v6 1) h _ e
def F256_0 : Nat → Int → Int → Int → Int → zHM → Option (Int × zHM)
  | 0, _, _, _, _, _ => none
  | n + 1, v1, v2, v5, v6, h => if (h 14 997) ≤ v6 then F256_1 v5 h else if ¬ v5 = (-1) then F256_1 v5 h else zG (0 ≤ (wadd 998 (wmul 5 v6)) ∧ (wadd 998 (wmul 5 v6)) < 2140) (if ¬ (h 14 (wadd 998 (wmul 5 v6))) = v2 then F256_2 (F256_0 n) v1 v2 v5 v6 h else zG (0 ≤ (wadd (wadd 998 (wmul 5 v6)) 4) ∧ (wadd (wadd 998 (wmul 5 v6)) 4) < 2140) ((F214 (h 14 (wadd (wadd 998 (wmul 5 v6)) 4)) v1).bind fun r1 => if r1 = 0 then F256_2 (F256_0 n) v1 v2 v5 v6 h else zG (0 ≤ (wadd (wadd 998 (wmul 5 v6)) 2) ∧ (wadd (wadd 998 (wmul 5 v6)) 2) < 2140) (F256_2 (F256_0 n) v1 v2 (h 14 (wadd (wadd 998 (wmul 5 v6)) 2)) v6 h)))
set_option maxRecDepth 100000 in
theorem T256_0 {spec : zRn zH2} {hc : zHC} {o : Int → Int} {d : Nat} (hd : 6 ≤ d) : ∀ (n : Nat) (v1 : Int) (v2 : Int) (v5 : Int) (v6 : Int) (h : zHM) (v : (Int × zHM)), F256_0 n v1 v2 v5 v6 h = some v → zFin 0 (fun _ => 0) (zRu2 spec d) 256 (some (0, v.1)) (hc, v.2, o) (60, [some (22, 0), some (0, v1), some (0, v2), none, none, some (0, v5), some (0, v6)], [], (hc, h, o)) := by
  intro n
  induction n with
  | zero => intro v1 v2 v5 v6 h v e; unfold F256_0 at e; cases e
  | succ n hk0 =>
    intro v1 v2 v5 v6 h v e
    unfold F256_0 at e
    rcases zI_s e with ⟨q1, e⟩ | ⟨q1, e⟩
    · refine zF_blk (m := []) (d := 1) (b := B256_21) (gs := [0 ≤ 997 ∧ 997 < 2140, (h 14 997) ≤ v6]) (c' := (141, [some (22, 0), some (0, v1), some (0, v2), none, none, some (0, v5), some (0, v6)], [], (hc, h, o))) K256_21 rfl ⟨by decide, q1, trivial⟩ ?_
      refine zF_blk (m := [true, false, false, false, false, true, false]) (d := 0) (b := []) (gs := []) (c' := (141, [some (22, 0), none, none, none, none, some (0, v5), none], [], (hc, h, o))) rfl rfl trivial ?_
      exact T256_1 hd v5 h _ e
    · refine zF_blk (m := []) (d := 0) (b := B256_21) (gs := [0 ≤ 997 ∧ 997 < 2140, ¬ ((h 14 997) ≤ v6)]) (c' := (73, [some (22, 0), some (0, v1), some (0, v2), none, none, some (0, v5), some (0, v6)], [], (hc, h, o))) K256_21 rfl ⟨by decide, q1, trivial⟩ ?_
      rcases zI_s e with ⟨q2, e⟩ | ⟨q2, e⟩
      · refine zF_blk (m := []) (d := 1) (b := B256_20) (gs := [¬ v5 = (-1)]) (c' := (141, [some (22, 0), some (0, v1), some (0, v2), none, none, some (0, v5), some (0, v6)], [], (hc, h, o))) K256_20 rfl ⟨q2, trivial⟩ ?_
        refine zF_blk (m := [true, false, false, false, false, true, false]) (d := 0) (b := []) (gs := []) (c' := (141, [some (22, 0), none, none, none, none, some (0, v5), none], [], (hc, h, o))) rfl rfl trivial ?_
        exact T256_1 hd v5 h _ e
      · refine zF_blk (m := []) (d := 0) (b := B256_20) (gs := [¬ (¬ v5 = (-1))]) (c' := (79, [some (22, 0), some (0, v1), some (0, v2), none, none, some (0, v5), some (0, v6)], [], (hc, h, o))) K256_20 rfl ⟨q2, trivial⟩ ?_
        obtain ⟨q3, e⟩ := zG_s e
        refine zF_blk (m := []) (d := 0) (b := B256_10) (gs := []) (c' := (89, [some (22, 0), some (0, v1), some (0, v2), none, none, some (0, v5), some (0, v6)], [(0, v6), (0, 5), (0, 998), (1344370422, 0)], (hc, h, o))) K256_10 rfl trivial ?_
        refine zF_blk (m := []) (d := 0) (b := B256_11) (gs := []) (c' := (90, [some (22, 0), some (0, v1), some (0, v2), none, none, some (0, v5), some (0, v6)], [(0, (wmul 5 v6)), (0, 998), (1344370422, 0)], (hc, h, o))) K256_11 rfl trivial ?_
        rcases zI_s e with ⟨q4, e⟩ | ⟨q4, e⟩
        · refine zF_blk (m := []) (d := 1) (b := B256_19) (gs := [0 ≤ (wadd 998 (wmul 5 v6)) ∧ (wadd 998 (wmul 5 v6)) < 2140, ¬ (h 14 (wadd 998 (wmul 5 v6))) = v2]) (c' := (135, [some (22, 0), some (0, v1), some (0, v2), none, none, some (0, v5), some (0, v6)], [], (hc, h, o))) K256_19 rfl ⟨q3, q4, trivial⟩ ?_
          exact T256_2 hd (F256_0 n) hk0 v1 v2 v5 v6 h _ e
        · refine zF_blk (m := []) (d := 0) (b := B256_19) (gs := [0 ≤ (wadd 998 (wmul 5 v6)) ∧ (wadd 998 (wmul 5 v6)) < 2140, ¬ (¬ (h 14 (wadd 998 (wmul 5 v6))) = v2)]) (c' := (96, [some (22, 0), some (0, v1), some (0, v2), none, none, some (0, v5), some (0, v6)], [], (hc, h, o))) K256_19 rfl ⟨q3, q4, trivial⟩ ?_
          obtain ⟨q5, e⟩ := zG_s e
          refine zF_blk (m := []) (d := 0) (b := B256_12) (gs := []) (c' := (106, [some (22, 0), some (0, v1), some (0, v2), none, none, some (0, v5), some (0, v6)], [(0, v6), (0, 5), (0, 998), (1344370422, 0)], (hc, h, o))) K256_12 rfl trivial ?_
          refine zF_blk (m := []) (d := 0) (b := B256_13) (gs := []) (c' := (107, [some (22, 0), some (0, v1), some (0, v2), none, none, some (0, v5), some (0, v6)], [(0, (wmul 5 v6)), (0, 998), (1344370422, 0)], (hc, h, o))) K256_13 rfl trivial ?_
          obtain ⟨r1, q6, e⟩ := zB_s e
          refine zF_blk (m := []) (d := 0) (b := B256_14) (gs := [0 ≤ (wadd (wadd 998 (wmul 5 v6)) 4) ∧ (wadd (wadd 998 (wmul 5 v6)) 4) < 2140]) (c' := (112, [some (22, 0), some (0, v1), some (0, v2), none, none, some (0, v5), some (0, v6)], [(0, v1), (0, (h 14 (wadd (wadd 998 (wmul 5 v6)) 4)))], (hc, h, o))) K256_14 rfl ⟨q5, trivial⟩ ?_
          refine zF_call (k := 214) (cl := 12) (n := 2) (i := .invokestatic 251) (args := [(0, (h 14 (wadd (wadd 998 (wmul 5 v6)) 4))), (0, v1)]) (rest := []) (g1 := (hc, h, o)) (r1 := some (0, r1)) (by decide +kernel) rfl rfl rfl (st' := [(0, r1)]) rfl (S214 (Nat.le_trans (by decide) hd) (h 14 (wadd (wadd 998 (wmul 5 v6)) 4)) v1 h _ q6) ?_
          rcases zI_s e with ⟨q7, e⟩ | ⟨q7, e⟩
          · refine zF_blk (m := []) (d := 1) (b := B256_18) (gs := [r1 = 0]) (c' := (135, [some (22, 0), some (0, v1), some (0, v2), none, none, some (0, v5), some (0, v6)], [], (hc, h, o))) K256_18 rfl ⟨q7, trivial⟩ ?_
            exact T256_2 hd (F256_0 n) hk0 v1 v2 v5 v6 h _ e
          · refine zF_blk (m := []) (d := 0) (b := B256_18) (gs := [¬ (r1 = 0)]) (c' := (118, [some (22, 0), some (0, v1), some (0, v2), none, none, some (0, v5), some (0, v6)], [], (hc, h, o))) K256_18 rfl ⟨q7, trivial⟩ ?_
            obtain ⟨q8, e⟩ := zG_s e
            refine zF_blk (m := []) (d := 0) (b := B256_15) (gs := []) (c' := (128, [some (22, 0), some (0, v1), some (0, v2), none, none, some (0, v5), some (0, v6)], [(0, v6), (0, 5), (0, 998), (1344370422, 0)], (hc, h, o))) K256_15 rfl trivial ?_
            refine zF_blk (m := []) (d := 0) (b := B256_16) (gs := []) (c' := (129, [some (22, 0), some (0, v1), some (0, v2), none, none, some (0, v5), some (0, v6)], [(0, (wmul 5 v6)), (0, 998), (1344370422, 0)], (hc, h, o))) K256_16 rfl trivial ?_
            refine zF_blk (m := []) (d := 0) (b := B256_17) (gs := [0 ≤ (wadd (wadd 998 (wmul 5 v6)) 2) ∧ (wadd (wadd 998 (wmul 5 v6)) 2) < 2140]) (c' := (135, [some (22, 0), some (0, v1), some (0, v2), none, none, some (0, (h 14 (wadd (wadd 998 (wmul 5 v6)) 2))), some (0, v6)], [], (hc, h, o))) K256_17 rfl ⟨q8, trivial⟩ ?_
            exact T256_2 hd (F256_0 n) hk0 v1 v2 (h 14 (wadd (wadd 998 (wmul 5 v6)) 2)) v6 h _ e
/-- EchoValeModel.when(III)I -/
def F256 (v1 : Int) (v2 : Int) (v3 : Int) (h : zHM) : Option (Int × zHM) := (F210 v1 (mset h 0 0 0)).bind fun r1 => if r1 = 0 then some ((-1), (mset h 0 0 0)) else (F217 v2 (mset h 0 0 0)).bind fun r2 => if r2 = 0 then some ((-1), (mset h 0 0 0)) else (F188 v3 1 100).bind fun r3 => if ¬ r3 = 0 then (F244 (mset h 0 0 0)).bind fun r4 => (F235 v3 r4).bind fun r5 => F256_0 zFu v1 v2 (-1) (r4 14 997) r5.2 else some ((-1), (mset h 0 0 0))
set_option maxRecDepth 100000 in
theorem S256 {spec : zRn zH2} {hc : zHC} {o : Int → Int} {d : Nat} (hd : 7 ≤ d) (v1 : Int) (v2 : Int) (v3 : Int) (h : zHM) (v : (Int × zHM)) (e : F256 v1 v2 v3 h = some v) : zRu2 spec d 256 [(22, 0), (0, v1), (0, v2), (0, v3)] (hc, h, o) (some (0, v.1)) (hc, v.2, o) := by
  refine zF_in (D := 6) (mx := 7) (L := [some (22, 0), some (0, v1), some (0, v2), some (0, v3), none, none, none]) (by decide +kernel) rfl rfl hd (fun d hd => ?_)
  unfold F256 at e
  obtain ⟨r1, q1, e⟩ := zB_s e
  refine zF_blk (m := []) (d := 0) (b := B256_0) (gs := []) (c' := (7, [some (22, 0), some (0, v1), some (0, v2), some (0, v3), none, none, none], [(0, v1), (22, 0)], (hc, (mset h 0 0 0), o))) K256_0 rfl trivial ?_
  refine zF_call (k := 210) (cl := 12) (n := 2) (i := .invokevirtual 260) (args := [(22, 0), (0, v1)]) (rest := []) (g1 := (hc, (mset h 0 0 0), o)) (r1 := some (0, r1)) (by decide +kernel) rfl rfl rfl (st' := [(0, r1)]) rfl (S210 (Nat.le_trans (by decide) hd) v1 (mset h 0 0 0) _ q1) ?_
  rcases zI_s e with ⟨q2, e⟩ | ⟨q2, e⟩
  · refine zF_blk (m := []) (d := 1) (b := B256_9) (gs := [r1 = 0]) (c' := (31, [some (22, 0), some (0, v1), some (0, v2), some (0, v3), none, none, none], [], (hc, (mset h 0 0 0), o))) K256_9 rfl ⟨q2, trivial⟩ ?_
    refine zF_blk (m := []) (d := 0) (b := B256_1) (gs := []) (c' := (32, [some (22, 0), some (0, v1), some (0, v2), some (0, v3), none, none, none], [(0, (-1))], (hc, (mset h 0 0 0), o))) K256_1 rfl trivial ?_
    exact zF_riM (by decide +kernel) e
  · refine zF_blk (m := []) (d := 0) (b := B256_9) (gs := [¬ (r1 = 0)]) (c' := (13, [some (22, 0), some (0, v1), some (0, v2), some (0, v3), none, none, none], [], (hc, (mset h 0 0 0), o))) K256_9 rfl ⟨q2, trivial⟩ ?_
    obtain ⟨r2, q3, e⟩ := zB_s e
    refine zF_blk (m := []) (d := 0) (b := B256_2) (gs := []) (c' := (15, [some (22, 0), some (0, v1), some (0, v2), some (0, v3), none, none, none], [(0, v2), (22, 0)], (hc, (mset h 0 0 0), o))) K256_2 rfl trivial ?_
    refine zF_call (k := 217) (cl := 12) (n := 2) (i := .invokevirtual 266) (args := [(22, 0), (0, v2)]) (rest := []) (g1 := (hc, (mset h 0 0 0), o)) (r1 := some (0, r2)) (by decide +kernel) rfl rfl rfl (st' := [(0, r2)]) rfl (S217 (Nat.le_trans (by decide) hd) v2 (mset h 0 0 0) _ q3) ?_
    rcases zI_s e with ⟨q4, e⟩ | ⟨q4, e⟩
    · refine zF_blk (m := []) (d := 1) (b := B256_8) (gs := [r2 = 0]) (c' := (31, [some (22, 0), some (0, v1), some (0, v2), some (0, v3), none, none, none], [], (hc, (mset h 0 0 0), o))) K256_8 rfl ⟨q4, trivial⟩ ?_
      refine zF_blk (m := []) (d := 0) (b := B256_1) (gs := []) (c' := (32, [some (22, 0), some (0, v1), some (0, v2), some (0, v3), none, none, none], [(0, (-1))], (hc, (mset h 0 0 0), o))) K256_1 rfl trivial ?_
      exact zF_riM (by decide +kernel) e
    · refine zF_blk (m := []) (d := 0) (b := B256_8) (gs := [¬ (r2 = 0)]) (c' := (21, [some (22, 0), some (0, v1), some (0, v2), some (0, v3), none, none, none], [], (hc, (mset h 0 0 0), o))) K256_8 rfl ⟨q4, trivial⟩ ?_
      obtain ⟨r3, q5, e⟩ := zB_s e
      refine zF_blk (m := []) (d := 0) (b := B256_3) (gs := []) (c' := (25, [some (22, 0), some (0, v1), some (0, v2), some (0, v3), none, none, none], [(0, 100), (0, 1), (0, v3)], (hc, (mset h 0 0 0), o))) K256_3 rfl trivial ?_
      refine zF_call (k := 188) (cl := 12) (n := 3) (i := .invokestatic 151) (args := [(0, v3), (0, 1), (0, 100)]) (rest := []) (g1 := (hc, (mset h 0 0 0), o)) (r1 := some (0, r3)) (by decide +kernel) rfl rfl rfl (st' := [(0, r3)]) rfl (S188 (Nat.le_trans (by decide) hd) v3 1 100 (mset h 0 0 0) _ q5) ?_
      rcases zI_s e with ⟨q6, e⟩ | ⟨q6, e⟩
      · refine zF_blk (m := []) (d := 1) (b := B256_7) (gs := [¬ r3 = 0]) (c' := (33, [some (22, 0), some (0, v1), some (0, v2), some (0, v3), none, none, none], [], (hc, (mset h 0 0 0), o))) K256_7 rfl ⟨q6, trivial⟩ ?_
        obtain ⟨r4, q7, e⟩ := zB_s e
        refine zF_blk (m := []) (d := 0) (b := B256_4) (gs := []) (c' := (34, [some (22, 0), some (0, v1), some (0, v2), some (0, v3), none, none, none], [(22, 0)], (hc, (mset h 0 0 0), o))) K256_4 rfl trivial ?_
        refine zF_call (k := 244) (cl := 12) (n := 1) (i := .invokevirtual 317) (args := [(22, 0)]) (rest := []) (g1 := (hc, r4, o)) (r1 := none) (by decide +kernel) rfl rfl rfl (st' := []) rfl (S244 (Nat.le_trans (by decide) hd)  (mset h 0 0 0) _ q7) ?_
        obtain ⟨r5, q8, e⟩ := zB_s e
        refine zF_blk (m := []) (d := 0) (b := B256_5) (gs := [0 ≤ 997 ∧ 997 < 2140]) (c' := (49, [some (22, 0), some (0, v1), some (0, v2), some (0, v3), some (0, (r4 14 997)), none, none], [(0, v3), (22, 0)], (hc, r4, o))) K256_5 rfl ⟨by decide, trivial⟩ ?_
        refine zF_call (k := 235) (cl := 12) (n := 2) (i := .invokevirtual 314) (args := [(22, 0), (0, v3)]) (rest := []) (g1 := (hc, r5.2, o)) (r1 := some (0, r5.1)) (by decide +kernel) rfl rfl rfl (st' := [(0, r5.1)]) rfl (S235 (Nat.le_trans (by decide) hd) v3 r4 _ q8) ?_
        refine zF_blk (m := []) (d := 0) (b := B256_6) (gs := []) (c' := (60, [some (22, 0), some (0, v1), some (0, v2), some (0, v3), some (0, (r4 14 997)), some (0, (-1)), some (0, (r4 14 997))], [], (hc, r5.2, o))) K256_6 rfl trivial ?_
        refine zF_blk (m := [true, true, true, false, false, true, true]) (d := 0) (b := []) (gs := []) (c' := (60, [some (22, 0), some (0, v1), some (0, v2), none, none, some (0, (-1)), some (0, (r4 14 997))], [], (hc, r5.2, o))) rfl rfl trivial ?_
        exact T256_0 hd zFu v1 v2 (-1) (r4 14 997) r5.2 _ e
      · refine zF_blk (m := []) (d := 0) (b := B256_7) (gs := [¬ (¬ r3 = 0)]) (c' := (31, [some (22, 0), some (0, v1), some (0, v2), some (0, v3), none, none, none], [], (hc, (mset h 0 0 0), o))) K256_7 rfl ⟨q6, trivial⟩ ?_
        refine zF_blk (m := []) (d := 0) (b := B256_1) (gs := []) (c' := (32, [some (22, 0), some (0, v1), some (0, v2), some (0, v3), none, none, none], [(0, (-1))], (hc, (mset h 0 0 0), o))) K256_1 rfl trivial ?_
        exact zF_riM (by decide +kernel) e
def B116_0 : List zRow := [(0, .aload_n 0, 1, (0, 0, 0)), (1, .iload_n 1, 1, (0, 0, 0))]
theorem K116_0 : zRk 116 B116_0 = true := by decide +kernel
def B116_1 : List zRow := [(23, .iconst (-1), 1, (0, 0, 0))]
theorem K116_1 : zRk 116 B116_1 = true := by decide +kernel
def B116_2 : List zRow := [(8, .aload_n 0, 1, (0, 0, 0)), (9, .iload_n 2, 1, (0, 0, 0))]
theorem K116_2 : zRk 116 B116_2 = true := by decide +kernel
def B116_3 : List zRow := [(16, .iload_n 3, 1, (0, 0, 0))]
theorem K116_3 : zRk 116 B116_3 = true := by decide +kernel
def B116_4 : List zRow := [(25, .aload_n 0, 1, (0, 0, 0)), (26, .getfield 60, 3, (11, 7, 135)), (29, .aload_n 0, 1, (0, 0, 0)), (30, .getfield 56, 3, (11, 6, 7))]
theorem K116_4 : zRk 116 B116_4 = true := by decide +kernel
def B116_5 : List zRow := [(36, .iconst 0, 1, (0, 0, 0)), (37, .istore 4, 2, (0, 0, 0)), (39, .iconst 0, 1, (0, 0, 0)), (40, .istore 5, 2, (0, 0, 0))]
theorem K116_5 : zRk 116 B116_5 = true := by decide +kernel
def B116_6 : List zRow := [(20, .ifCond .ne 5, 3, (0, 0, 0))]
theorem K116_6 : zRk 116 B116_6 = true := by decide +kernel
def B116_7 : List zRow := [(13, .ifCond .eq 10, 3, (0, 0, 0))]
theorem K116_7 : zRk 116 B116_7 = true := by decide +kernel
def B116_8 : List zRow := [(5, .ifCond .eq 18, 3, (0, 0, 0))]
theorem K116_8 : zRk 116 B116_8 = true := by decide +kernel
def B116_9 : List zRow := [(103, .iload 4, 2, (0, 0, 0))]
theorem K116_9 : zRk 116 B116_9 = true := by decide +kernel
def B116_10 : List zRow := [(61, .aload_n 0, 1, (0, 0, 0)), (62, .getfield 60, 3, (11, 7, 135)), (65, .aload_n 0, 1, (0, 0, 0)), (66, .getfield 19, 3, (11, 1, 39)), (69, .iconst 0, 1, (0, 0, 0))]
theorem K116_10 : zRk 116 B116_10 = true := by decide +kernel
def B116_11 : List zRow := [(94, .iinc 4 1, 3, (0, 0, 0))]
theorem K116_11 : zRk 116 B116_11 = true := by decide +kernel
def B116_12 : List zRow := [(73, .aload_n 0, 1, (0, 0, 0)), (74, .getfield 60, 3, (11, 7, 135)), (77, .getfield 177, 3, (1, 3, 5242906)), (80, .iload_n 1, 1, (0, 0, 0)), (81, .iaload, 1, (0, 0, 0)), (82, .aload_n 0, 1, (0, 0, 0)), (83, .getfield 60, 3, (11, 7, 135)), (86, .getfield 177, 3, (1, 3, 5242906)), (89, .iload_n 2, 1, (0, 0, 0)), (90, .iaload, 1, (0, 0, 0)), (91, .if_icmp .ne 6, 3, (0, 0, 0))]
theorem K116_12 : zRk 116 B116_12 = true := by decide +kernel
def B116_13 : List zRow := [(48, .aload_n 0, 1, (0, 0, 0)), (49, .getfield 60, 3, (11, 7, 135)), (52, .getfield 159, 3, (1, 0, 0)), (55, .sipush 400, 3, (0, 0, 0)), (58, .if_icmp .ge 45, 3, (0, 0, 0))]
theorem K116_13 : zRk 116 B116_13 = true := by decide +kernel
def B116_14 : List zRow := [(42, .iload 5, 2, (0, 0, 0)), (44, .iload_n 3, 1, (0, 0, 0)), (45, .if_icmp .ge 58, 3, (0, 0, 0))]
theorem K116_14 : zRk 116 B116_14 = true := by decide +kernel
def B116_15 : List zRow := [(97, .iinc 5 1, 3, (0, 0, 0)), (100, .goto (-58), 3, (0, 0, 0))]
theorem K116_15 : zRk 116 B116_15 = true := by decide +kernel
def F116_1 (k0 : Int → Int → Int → Int → Int → zHC → Option (Int × zHC)) (v1 : Int) (v2 : Int) (v3 : Int) (v4 : Int) (v5 : Int) (h : zHC) : Option (Int × zHC) := k0 v1 v2 v3 v4 (wadd v5 1) h
set_option maxRecDepth 100000 in
theorem T116_1 {spec : zRn zH2} {hm : zHM} {o : Int → Int} {d : Nat} (hd : 5 ≤ d) (k0 : Int → Int → Int → Int → Int → zHC → Option (Int × zHC)) (hk0 : ∀ (v1 : Int) (v2 : Int) (v3 : Int) (v4 : Int) (v5 : Int) (h : zHC) (v : (Int × zHC)), k0 v1 v2 v3 v4 v5 h = some v → zFin 0 (fun _ => 0) (zRu2 spec d) 116 (some (0, v.1)) (v.2, hm, o) (42, [some (21, 0), some (0, v1), some (0, v2), some (0, v3), some (0, v4), some (0, v5)], [], (h, hm, o))) (v1 : Int) (v2 : Int) (v3 : Int) (v4 : Int) (v5 : Int) (h : zHC) (v : (Int × zHC)) (e : F116_1 k0 v1 v2 v3 v4 v5 h = some v) : zFin 0 (fun _ => 0) (zRu2 spec d) 116 (some (0, v.1)) (v.2, hm, o) (97, [some (21, 0), some (0, v1), some (0, v2), some (0, v3), some (0, v4), some (0, v5)], [], (h, hm, o)) := by
  unfold F116_1 at e
  refine zF_blk (m := []) (d := 0) (b := B116_15) (gs := []) (c' := (42, [some (21, 0), some (0, v1), some (0, v2), some (0, v3), some (0, v4), some (0, (wadd v5 1))], [], (h, hm, o))) K116_15 rfl trivial ?_
  exact hk0 v1 v2 v3 v4 (wadd v5 1) h _ e
def F116_0 : Nat → Int → Int → Int → Int → Int → zHC → Option (Int × zHC)
  | 0, _, _, _, _, _, _ => none
  | n + 1, v1, v2, v3, v4, v5, h => if v3 ≤ v5 then some (v4, h) else if 400 ≤ (h 64 1 0) then some (v4, h) else (F89 1 0 0 h).bind fun r1 => zG (0 ≤ v1 ∧ v1 < 6) (zG (0 ≤ v2 ∧ v2 < 6) (if ¬ (r1 67 1 v1) = (r1 67 1 v2) then F116_1 (F116_0 n) v1 v2 v3 v4 v5 r1 else F116_1 (F116_0 n) v1 v2 v3 (wadd v4 1) v5 r1))
set_option maxRecDepth 100000 in
theorem T116_0 {spec : zRn zH2} {hm : zHM} {o : Int → Int} {d : Nat} (hd : 5 ≤ d) : ∀ (n : Nat) (v1 : Int) (v2 : Int) (v3 : Int) (v4 : Int) (v5 : Int) (h : zHC) (v : (Int × zHC)), F116_0 n v1 v2 v3 v4 v5 h = some v → zFin 0 (fun _ => 0) (zRu2 spec d) 116 (some (0, v.1)) (v.2, hm, o) (42, [some (21, 0), some (0, v1), some (0, v2), some (0, v3), some (0, v4), some (0, v5)], [], (h, hm, o)) := by
  intro n
  induction n with
  | zero => intro v1 v2 v3 v4 v5 h v e; unfold F116_0 at e; cases e
  | succ n hk0 =>
    intro v1 v2 v3 v4 v5 h v e
    unfold F116_0 at e
    rcases zI_s e with ⟨q1, e⟩ | ⟨q1, e⟩
    · refine zF_blk (m := []) (d := 1) (b := B116_14) (gs := [v3 ≤ v5]) (c' := (103, [some (21, 0), some (0, v1), some (0, v2), some (0, v3), some (0, v4), some (0, v5)], [], (h, hm, o))) K116_14 rfl ⟨q1, trivial⟩ ?_
      refine zF_blk (m := []) (d := 0) (b := B116_9) (gs := []) (c' := (105, [some (21, 0), some (0, v1), some (0, v2), some (0, v3), some (0, v4), some (0, v5)], [(0, v4)], (h, hm, o))) K116_9 rfl trivial ?_
      exact zF_riC (by decide +kernel) e
    · refine zF_blk (m := []) (d := 0) (b := B116_14) (gs := [¬ (v3 ≤ v5)]) (c' := (48, [some (21, 0), some (0, v1), some (0, v2), some (0, v3), some (0, v4), some (0, v5)], [], (h, hm, o))) K116_14 rfl ⟨q1, trivial⟩ ?_
      rcases zI_s e with ⟨q2, e⟩ | ⟨q2, e⟩
      · refine zF_blk (m := []) (d := 1) (b := B116_13) (gs := [400 ≤ (h 64 1 0)]) (c' := (103, [some (21, 0), some (0, v1), some (0, v2), some (0, v3), some (0, v4), some (0, v5)], [], (h, hm, o))) K116_13 rfl ⟨q2, trivial⟩ ?_
        refine zF_blk (m := []) (d := 0) (b := B116_9) (gs := []) (c' := (105, [some (21, 0), some (0, v1), some (0, v2), some (0, v3), some (0, v4), some (0, v5)], [(0, v4)], (h, hm, o))) K116_9 rfl trivial ?_
        exact zF_riC (by decide +kernel) e
      · refine zF_blk (m := []) (d := 0) (b := B116_13) (gs := [¬ (400 ≤ (h 64 1 0))]) (c' := (61, [some (21, 0), some (0, v1), some (0, v2), some (0, v3), some (0, v4), some (0, v5)], [], (h, hm, o))) K116_13 rfl ⟨q2, trivial⟩ ?_
        obtain ⟨r1, q3, e⟩ := zB_s e
        refine zF_blk (m := []) (d := 0) (b := B116_10) (gs := []) (c' := (70, [some (21, 0), some (0, v1), some (0, v2), some (0, v3), some (0, v4), some (0, v5)], [(0, 0), (19, 0), (11, 1)], (h, hm, o))) K116_10 rfl trivial ?_
        refine zF_call (k := 89) (cl := 1) (n := 3) (i := .invokevirtual 268) (args := [(11, 1), (19, 0), (0, 0)]) (rest := []) (g1 := (r1, hm, o)) (r1 := none) (by decide +kernel) rfl rfl rfl (st' := []) rfl (S89 (Nat.le_trans (by decide) hd) 1 0 0 h _ q3) ?_
        obtain ⟨q4, e⟩ := zG_s e
        obtain ⟨q5, e⟩ := zG_s e
        rcases zI_s e with ⟨q6, e⟩ | ⟨q6, e⟩
        · refine zF_blk (m := []) (d := 1) (b := B116_12) (gs := [0 ≤ v1 ∧ v1 < 6, 0 ≤ v2 ∧ v2 < 6, ¬ (r1 67 1 v1) = (r1 67 1 v2)]) (c' := (97, [some (21, 0), some (0, v1), some (0, v2), some (0, v3), some (0, v4), some (0, v5)], [], (r1, hm, o))) K116_12 rfl ⟨q4, q5, q6, trivial⟩ ?_
          exact T116_1 hd (F116_0 n) hk0 v1 v2 v3 v4 v5 r1 _ e
        · refine zF_blk (m := []) (d := 0) (b := B116_12) (gs := [0 ≤ v1 ∧ v1 < 6, 0 ≤ v2 ∧ v2 < 6, ¬ (¬ (r1 67 1 v1) = (r1 67 1 v2))]) (c' := (94, [some (21, 0), some (0, v1), some (0, v2), some (0, v3), some (0, v4), some (0, v5)], [], (r1, hm, o))) K116_12 rfl ⟨q4, q5, q6, trivial⟩ ?_
          refine zF_blk (m := []) (d := 0) (b := B116_11) (gs := []) (c' := (97, [some (21, 0), some (0, v1), some (0, v2), some (0, v3), some (0, (wadd v4 1)), some (0, v5)], [], (r1, hm, o))) K116_11 rfl trivial ?_
          exact T116_1 hd (F116_0 n) hk0 v1 v2 v3 (wadd v4 1) v5 r1 _ e
/-- EchoVale.meets(III)I -/
def F116 (v1 : Int) (v2 : Int) (v3 : Int) (h : zHC) : Option (Int × zHC) := (F61 v1 h).bind fun r1 => if r1 = 0 then some ((-1), h) else (F61 v2 h).bind fun r2 => if r2 = 0 then some ((-1), h) else (F99 v3).bind fun r3 => if ¬ r3 = 0 then (F72 1 0 h).bind fun r4 => F116_0 zFu v1 v2 v3 0 0 r4 else some ((-1), h)
set_option maxRecDepth 100000 in
theorem S116 {spec : zRn zH2} {hm : zHM} {o : Int → Int} {d : Nat} (hd : 6 ≤ d) (v1 : Int) (v2 : Int) (v3 : Int) (h : zHC) (v : (Int × zHC)) (e : F116 v1 v2 v3 h = some v) : zRu2 spec d 116 [(21, 0), (0, v1), (0, v2), (0, v3)] (h, hm, o) (some (0, v.1)) (v.2, hm, o) := by
  refine zF_in (D := 5) (mx := 6) (L := [some (21, 0), some (0, v1), some (0, v2), some (0, v3), none, none]) (by decide +kernel) rfl rfl hd (fun d hd => ?_)
  unfold F116 at e
  obtain ⟨r1, q1, e⟩ := zB_s e
  refine zF_blk (m := []) (d := 0) (b := B116_0) (gs := []) (c' := (2, [some (21, 0), some (0, v1), some (0, v2), some (0, v3), none, none], [(0, v1), (21, 0)], (h, hm, o))) K116_0 rfl trivial ?_
  refine zF_call (k := 61) (cl := 11) (n := 2) (i := .invokevirtual 172) (args := [(21, 0), (0, v1)]) (rest := []) (g1 := (h, hm, o)) (r1 := some (0, r1)) (by decide +kernel) rfl rfl rfl (st' := [(0, r1)]) rfl (S61 (Nat.le_trans (by decide) hd) v1 h _ q1) ?_
  rcases zI_s e with ⟨q2, e⟩ | ⟨q2, e⟩
  · refine zF_blk (m := []) (d := 1) (b := B116_8) (gs := [r1 = 0]) (c' := (23, [some (21, 0), some (0, v1), some (0, v2), some (0, v3), none, none], [], (h, hm, o))) K116_8 rfl ⟨q2, trivial⟩ ?_
    refine zF_blk (m := []) (d := 0) (b := B116_1) (gs := []) (c' := (24, [some (21, 0), some (0, v1), some (0, v2), some (0, v3), none, none], [(0, (-1))], (h, hm, o))) K116_1 rfl trivial ?_
    exact zF_riC (by decide +kernel) e
  · refine zF_blk (m := []) (d := 0) (b := B116_8) (gs := [¬ (r1 = 0)]) (c' := (8, [some (21, 0), some (0, v1), some (0, v2), some (0, v3), none, none], [], (h, hm, o))) K116_8 rfl ⟨q2, trivial⟩ ?_
    obtain ⟨r2, q3, e⟩ := zB_s e
    refine zF_blk (m := []) (d := 0) (b := B116_2) (gs := []) (c' := (10, [some (21, 0), some (0, v1), some (0, v2), some (0, v3), none, none], [(0, v2), (21, 0)], (h, hm, o))) K116_2 rfl trivial ?_
    refine zF_call (k := 61) (cl := 11) (n := 2) (i := .invokevirtual 172) (args := [(21, 0), (0, v2)]) (rest := []) (g1 := (h, hm, o)) (r1 := some (0, r2)) (by decide +kernel) rfl rfl rfl (st' := [(0, r2)]) rfl (S61 (Nat.le_trans (by decide) hd) v2 h _ q3) ?_
    rcases zI_s e with ⟨q4, e⟩ | ⟨q4, e⟩
    · refine zF_blk (m := []) (d := 1) (b := B116_7) (gs := [r2 = 0]) (c' := (23, [some (21, 0), some (0, v1), some (0, v2), some (0, v3), none, none], [], (h, hm, o))) K116_7 rfl ⟨q4, trivial⟩ ?_
      refine zF_blk (m := []) (d := 0) (b := B116_1) (gs := []) (c' := (24, [some (21, 0), some (0, v1), some (0, v2), some (0, v3), none, none], [(0, (-1))], (h, hm, o))) K116_1 rfl trivial ?_
      exact zF_riC (by decide +kernel) e
    · refine zF_blk (m := []) (d := 0) (b := B116_7) (gs := [¬ (r2 = 0)]) (c' := (16, [some (21, 0), some (0, v1), some (0, v2), some (0, v3), none, none], [], (h, hm, o))) K116_7 rfl ⟨q4, trivial⟩ ?_
      obtain ⟨r3, q5, e⟩ := zB_s e
      refine zF_blk (m := []) (d := 0) (b := B116_3) (gs := []) (c' := (17, [some (21, 0), some (0, v1), some (0, v2), some (0, v3), none, none], [(0, v3)], (h, hm, o))) K116_3 rfl trivial ?_
      refine zF_call (k := 99) (cl := 11) (n := 1) (i := .invokestatic 242) (args := [(0, v3)]) (rest := []) (g1 := (h, hm, o)) (r1 := some (0, r3)) (by decide +kernel) rfl rfl rfl (st' := [(0, r3)]) rfl (S99 (Nat.le_trans (by decide) hd) v3 h _ q5) ?_
      rcases zI_s e with ⟨q6, e⟩ | ⟨q6, e⟩
      · refine zF_blk (m := []) (d := 1) (b := B116_6) (gs := [¬ r3 = 0]) (c' := (25, [some (21, 0), some (0, v1), some (0, v2), some (0, v3), none, none], [], (h, hm, o))) K116_6 rfl ⟨q6, trivial⟩ ?_
        obtain ⟨r4, q7, e⟩ := zB_s e
        refine zF_blk (m := []) (d := 0) (b := B116_4) (gs := []) (c' := (33, [some (21, 0), some (0, v1), some (0, v2), some (0, v3), none, none], [(11, 0), (11, 1)], (h, hm, o))) K116_4 rfl trivial ?_
        refine zF_call (k := 72) (cl := 1) (n := 2) (i := .invokevirtual 276) (args := [(11, 1), (11, 0)]) (rest := []) (g1 := (r4, hm, o)) (r1 := none) (by decide +kernel) rfl rfl rfl (st' := []) rfl (S72 (Nat.le_trans (by decide) hd) 1 0 h _ q7) ?_
        refine zF_blk (m := []) (d := 0) (b := B116_5) (gs := []) (c' := (42, [some (21, 0), some (0, v1), some (0, v2), some (0, v3), some (0, 0), some (0, 0)], [], (r4, hm, o))) K116_5 rfl trivial ?_
        exact T116_0 hd zFu v1 v2 v3 0 0 r4 _ e
      · refine zF_blk (m := []) (d := 0) (b := B116_6) (gs := [¬ (¬ r3 = 0)]) (c' := (23, [some (21, 0), some (0, v1), some (0, v2), some (0, v3), none, none], [], (h, hm, o))) K116_6 rfl ⟨q6, trivial⟩ ?_
        refine zF_blk (m := []) (d := 0) (b := B116_1) (gs := []) (c' := (24, [some (21, 0), some (0, v1), some (0, v2), some (0, v3), none, none], [(0, (-1))], (h, hm, o))) K116_1 rfl trivial ?_
        exact zF_riC (by decide +kernel) e
