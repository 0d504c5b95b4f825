/-! Functions of the methods, by wip/gen/lift.py. -/
noncomputable def B139_0 : List zRow := [(9, .iconst (-1), 1, (0, 0, 0))]
theorem K139_0 : zRk 139 B139_0 = true := zRw_ok (by decide +kernel)
noncomputable def B139_1 : List zRow := [(20, .iconst 1, 1, (0, 0, 0))]
theorem K139_1 : zRk 139 B139_1 = true := zRw_ok (by decide +kernel)
noncomputable def B139_2 : List zRow := [(16, .iconst (-1), 1, (0, 0, 0)), (17, .goto 4, 3, (0, 0, 0))]
theorem K139_2 : zRk 139 B139_2 = true := zRw_ok (by decide +kernel)
noncomputable def B139_3 : List zRow := [(11, .iload_n 1, 1, (0, 0, 0)), (12, .iconst 1, 1, (0, 0, 0)), (13, .if_icmp .ne 7, 3, (0, 0, 0))]
theorem K139_3 : zRk 139 B139_3 = true := zRw_ok (by decide +kernel)
noncomputable def B139_4 : List zRow := [(4, .iload_n 1, 1, (0, 0, 0)), (5, .iconst 1, 1, (0, 0, 0)), (6, .if_icmp .le 5, 3, (0, 0, 0))]
theorem K139_4 : zRk 139 B139_4 = true := zRw_ok (by decide +kernel)
noncomputable def B139_5 : List zRow := [(0, .iload_n 1, 1, (0, 0, 0)), (1, .ifCond .lt 8, 3, (0, 0, 0))]
theorem K139_5 : zRk 139 B139_5 = true := zRw_ok (by decide +kernel)
noncomputable def B139_6 : List zRow := [(21, .istore_n 2, 1, (0, 0, 0)), (22, .iconst (-1), 1, (0, 0, 0)), (23, .istore_n 3, 1, (0, 0, 0)), (24, .iconst 0, 1, (0, 0, 0)), (25, .istore 4, 2, (0, 0, 0)), (27, .iconst 0, 1, (0, 0, 0)), (28, .istore 5, 2, (0, 0, 0))]
theorem K139_6 : zRk 139 B139_6 = true := zRw_ok (by decide +kernel)
noncomputable def B139_7 : List zRow := [(80, .iload_n 3, 1, (0, 0, 0))]
theorem K139_7 : zRk 139 B139_7 = true := zRw_ok (by decide +kernel)
noncomputable def B139_8 : List zRow := [(42, .iload_n 2, 1, (0, 0, 0)), (43, .aload_n 0, 1, (0, 0, 0)), (44, .getfield 56, 3, (11, 6, 7)), (47, .iload 5, 2, (0, 0, 0))]
theorem K139_8 : zRk 139 B139_8 = true := zRw_ok (by decide +kernel)
noncomputable def B139_9 : List zRow := [(60, .iload 6, 2, (0, 0, 0)), (62, .iload 4, 2, (0, 0, 0)), (64, .if_icmp .ge 10, 3, (0, 0, 0))]
theorem K139_9 : zRk 139 B139_9 = true := zRw_ok (by decide +kernel)
noncomputable def B139_10 : List zRow := [(52, .imul, 1, (0, 0, 0)), (53, .istore 6, 2, (0, 0, 0)), (55, .iload_n 3, 1, (0, 0, 0)), (56, .iconst (-1), 1, (0, 0, 0)), (57, .if_icmp .eq 10, 3, (0, 0, 0))]
theorem K139_10 : zRk 139 B139_10 = true := zRw_ok (by decide +kernel)
noncomputable def B139_11 : List zRow := [(30, .iload 5, 2, (0, 0, 0)), (32, .aload_n 0, 1, (0, 0, 0)), (33, .getfield 19, 3, (11, 1, 39)), (36, .getfield 311, 3, (9, 3, 0)), (39, .if_icmp .ge 41, 3, (0, 0, 0))]
theorem K139_11 : zRk 139 B139_11 = true := zRw_ok (by decide +kernel)
noncomputable def B139_12 : List zRow := [(74, .iinc 5 1, 3, (0, 0, 0)), (77, .goto (-47), 3, (0, 0, 0))]
theorem K139_12 : zRk 139 B139_12 = true := zRw_ok (by decide +kernel)
noncomputable def B139_13 : List zRow := [(67, .iload 6, 2, (0, 0, 0)), (69, .istore 4, 2, (0, 0, 0)), (71, .iload 5, 2, (0, 0, 0)), (73, .istore_n 3, 1, (0, 0, 0))]
theorem K139_13 : zRk 139 B139_13 = true := zRw_ok (by decide +kernel)
def F139_3 (k0 : Int → Int → Int → Int → Option Int) (h : zHC) (v2 : Int) (v3 : Int) (v4 : Int) (v5 : Int) : Option Int := k0 v2 v3 v4 (wadd v5 1)
set_option maxRecDepth 100000 in
theorem T139_3 {spec : zRn zH2} {hm : zHM} {o : Int → Int} {d : Nat} (hd : 3 ≤ d) (h : zHC) (k0 : Int → Int → Int → Int → Option Int) (hk0 : ∀ (v2 : Int) (v3 : Int) (v4 : Int) (v5 : Int) (v : Int), k0 v2 v3 v4 v5 = some v → zFin 0 (fun _ => 0) (zRu2 spec d) 139 (some (0, v)) (h, hm, o) (30, [some (21, 0), none, some (0, v2), some (0, v3), some (0, v4), some (0, v5), none], [], (h, hm, o))) (v2 : Int) (v3 : Int) (v4 : Int) (v5 : Int) (v : Int) (e : F139_3 k0 h v2 v3 v4 v5 = some v) : zFin 0 (fun _ => 0) (zRu2 spec d) 139 (some (0, v)) (h, hm, o) (74, [some (21, 0), none, some (0, v2), some (0, v3), some (0, v4), some (0, v5), none], [], (h, hm, o)) := by
  unfold F139_3 at e
  refine zF_blk (m := []) (d := 0) (b := B139_12) (gs := []) (c' := (30, [some (21, 0), none, some (0, v2), some (0, v3), some (0, v4), some (0, (wadd v5 1)), none], [], (h, hm, o))) K139_12 rfl trivial ?_
  exact hk0 v2 v3 v4 (wadd v5 1) _ e
def F139_2 (k0 : Int → Int → Int → Int → Option Int) (h : zHC) (v2 : Int) (v5 : Int) (v6 : Int) : Option Int := F139_3 k0 h v2 v5 v6 v5
set_option maxRecDepth 100000 in
theorem T139_2 {spec : zRn zH2} {hm : zHM} {o : Int → Int} {d : Nat} (hd : 3 ≤ d) (h : zHC) (k0 : Int → Int → Int → Int → Option Int) (hk0 : ∀ (v2 : Int) (v3 : Int) (v4 : Int) (v5 : Int) (v : Int), k0 v2 v3 v4 v5 = some v → zFin 0 (fun _ => 0) (zRu2 spec d) 139 (some (0, v)) (h, hm, o) (30, [some (21, 0), none, some (0, v2), some (0, v3), some (0, v4), some (0, v5), none], [], (h, hm, o))) (v2 : Int) (v5 : Int) (v6 : Int) (v : Int) (e : F139_2 k0 h v2 v5 v6 = some v) : zFin 0 (fun _ => 0) (zRu2 spec d) 139 (some (0, v)) (h, hm, o) (67, [some (21, 0), none, some (0, v2), none, none, some (0, v5), some (0, v6)], [], (h, hm, o)) := by
  unfold F139_2 at e
  refine zF_blk (m := []) (d := 0) (b := B139_13) (gs := []) (c' := (74, [some (21, 0), none, some (0, v2), some (0, v5), some (0, v6), some (0, v5), some (0, v6)], [], (h, hm, o))) K139_13 rfl trivial ?_
  refine zF_blk (m := [true, false, true, true, true, true, false]) (d := 0) (b := []) (gs := []) (c' := (74, [some (21, 0), none, some (0, v2), some (0, v5), some (0, v6), some (0, v5), none], [], (h, hm, o))) rfl rfl trivial ?_
  exact T139_3 hd h k0 hk0 v2 v5 v6 v5 _ e
def F139_1 (h : zHC) : Nat → Int → Int → Int → Int → Option Int
  | 0, _, _, _, _ => none
  | n + 1, v2, v3, v4, v5 => if (h 579 0 0) ≤ v5 then some v3 else (F101 0 v5 h).bind fun r1 => if v3 = (-1) then F139_2 (F139_1 h n) h v2 v5 (wmul v2 r1) else if v4 ≤ (wmul v2 r1) then F139_3 (F139_1 h n) h v2 v3 v4 v5 else F139_2 (F139_1 h n) h v2 v5 (wmul v2 r1)
set_option maxRecDepth 100000 in
theorem T139_1 {spec : zRn zH2} {hm : zHM} {o : Int → Int} {d : Nat} (hd : 3 ≤ d) (h : zHC) : ∀ (n : Nat) (v2 : Int) (v3 : Int) (v4 : Int) (v5 : Int) (v : Int), F139_1 h n v2 v3 v4 v5 = some v → zFin 0 (fun _ => 0) (zRu2 spec d) 139 (some (0, v)) (h, hm, o) (30, [some (21, 0), none, some (0, v2), some (0, v3), some (0, v4), some (0, v5), none], [], (h, hm, o)) := by
  intro n
  induction n with
  | zero => intro v2 v3 v4 v5 v e; unfold F139_1 at e; cases e
  | succ n hk0 =>
    intro v2 v3 v4 v5 v e
    unfold F139_1 at e
    rcases zI_s e with ⟨q1, e⟩ | ⟨q1, e⟩
    · refine zF_blk (m := []) (d := 1) (b := B139_11) (gs := [(h 579 0 0) ≤ v5]) (c' := (80, [some (21, 0), none, some (0, v2), some (0, v3), some (0, v4), some (0, v5), none], [], (h, hm, o))) K139_11 rfl ⟨q1, trivial⟩ ?_
      refine zF_blk (m := []) (d := 0) (b := B139_7) (gs := []) (c' := (81, [some (21, 0), none, some (0, v2), some (0, v3), some (0, v4), some (0, v5), none], [(0, v3)], (h, hm, o))) K139_7 rfl trivial ?_
      obtain rfl := Option.some.inj e
      exact zF_ri (zRe1_w (by decide +kernel))
    · refine zF_blk (m := []) (d := 0) (b := B139_11) (gs := [¬ ((h 579 0 0) ≤ v5)]) (c' := (42, [some (21, 0), none, some (0, v2), some (0, v3), some (0, v4), some (0, v5), none], [], (h, hm, o))) K139_11 rfl ⟨q1, trivial⟩ ?_
      obtain ⟨r1, q2, e⟩ := zB_s e
      refine zF_blk (m := []) (d := 0) (b := B139_8) (gs := []) (c' := (49, [some (21, 0), none, some (0, v2), some (0, v3), some (0, v4), some (0, v5), none], [(0, v5), (11, 0), (0, v2)], (h, hm, o))) K139_8 rfl trivial ?_
      refine zF_call (k := 101) (cl := 1) (n := 2) (i := .invokevirtual 179) (args := [(11, 0), (0, v5)]) (rest := [(0, v2)]) (g1 := (h, hm, o)) (r1 := some (0, r1)) (zCk1_w (by decide +kernel)) rfl rfl rfl (st' := [(0, r1), (0, v2)]) rfl (S101 (Nat.le_trans (by decide) hd) 0 v5 h _ q2) ?_
      rcases zI_s e with ⟨q3, e⟩ | ⟨q3, e⟩
      · refine zF_blk (m := []) (d := 1) (b := B139_10) (gs := [v3 = (-1)]) (c' := (67, [some (21, 0), none, some (0, v2), some (0, v3), some (0, v4), some (0, v5), some (0, (wmul v2 r1))], [], (h, hm, o))) K139_10 rfl ⟨q3, trivial⟩ ?_
        refine zF_blk (m := [true, false, true, false, false, true, true]) (d := 0) (b := []) (gs := []) (c' := (67, [some (21, 0), none, some (0, v2), none, none, some (0, v5), some (0, (wmul v2 r1))], [], (h, hm, o))) rfl rfl trivial ?_
        exact T139_2 hd h (F139_1 h n) hk0 v2 v5 (wmul v2 r1) _ e
      · refine zF_blk (m := []) (d := 0) (b := B139_10) (gs := [¬ (v3 = (-1))]) (c' := (60, [some (21, 0), none, some (0, v2), some (0, v3), some (0, v4), some (0, v5), some (0, (wmul v2 r1))], [], (h, hm, o))) K139_10 rfl ⟨q3, trivial⟩ ?_
        rcases zI_s e with ⟨q4, e⟩ | ⟨q4, e⟩
        · refine zF_blk (m := []) (d := 1) (b := B139_9) (gs := [v4 ≤ (wmul v2 r1)]) (c' := (74, [some (21, 0), none, some (0, v2), some (0, v3), some (0, v4), some (0, v5), some (0, (wmul v2 r1))], [], (h, hm, o))) K139_9 rfl ⟨q4, trivial⟩ ?_
          refine zF_blk (m := [true, false, true, true, true, true, false]) (d := 0) (b := []) (gs := []) (c' := (74, [some (21, 0), none, some (0, v2), some (0, v3), some (0, v4), some (0, v5), none], [], (h, hm, o))) rfl rfl trivial ?_
          exact T139_3 hd h (F139_1 h n) hk0 v2 v3 v4 v5 _ e
        · refine zF_blk (m := []) (d := 0) (b := B139_9) (gs := [¬ (v4 ≤ (wmul v2 r1))]) (c' := (67, [some (21, 0), none, some (0, v2), some (0, v3), some (0, v4), some (0, v5), some (0, (wmul v2 r1))], [], (h, hm, o))) K139_9 rfl ⟨q4, trivial⟩ ?_
          refine zF_blk (m := [true, false, true, false, false, true, true]) (d := 0) (b := []) (gs := []) (c' := (67, [some (21, 0), none, some (0, v2), none, none, some (0, v5), some (0, (wmul v2 r1))], [], (h, hm, o))) rfl rfl trivial ?_
          exact T139_2 hd h (F139_1 h n) hk0 v2 v5 (wmul v2 r1) _ e
def F139_0 (h : zHC) (s0 : Int) : Option Int := F139_1 h zFu s0 (-1) 0 0
set_option maxRecDepth 100000 in
theorem T139_0 {spec : zRn zH2} {hm : zHM} {o : Int → Int} {d : Nat} (hd : 3 ≤ d) (h : zHC) (s0 : Int) (v : Int) (e : F139_0 h s0 = some v) : zFin 0 (fun _ => 0) (zRu2 spec d) 139 (some (0, v)) (h, hm, o) (21, [some (21, 0), none, none, none, none, none, none], [(0, s0)], (h, hm, o)) := by
  unfold F139_0 at e
  refine zF_blk (m := []) (d := 0) (b := B139_6) (gs := []) (c' := (30, [some (21, 0), none, some (0, s0), some (0, (-1)), some (0, 0), some (0, 0), none], [], (h, hm, o))) K139_6 rfl trivial ?_
  exact T139_1 hd h zFu s0 (-1) 0 0 _ e
/-- EchoVale.poorest(I)I -/
def F139 (v1 : Int) (h : zHC) : Option Int := if v1 < 0 then some (-1) else if v1 ≤ 1 then if ¬ v1 = 1 then F139_0 h 1 else F139_0 h (-1) else some (-1)
set_option maxRecDepth 100000 in
theorem S139 {spec : zRn zH2} {hm : zHM} {o : Int → Int} {d : Nat} (hd : 4 ≤ d) (v1 : Int) (h : zHC) (v : Int) (e : F139 v1 h = some v) : zRu2 spec d 139 [(21, 0), (0, v1)] (h, hm, o) (some (0, v)) (h, hm, o) := by
  refine zF_in (D := 3) (mx := 7) (L := [some (21, 0), some (0, v1), none, none, none, none, none]) (by decide +kernel) rfl rfl hd (fun d hd => ?_)
  unfold F139 at e
  rcases zI_s e with ⟨q1, e⟩ | ⟨q1, e⟩
  · refine zF_blk (m := []) (d := 1) (b := B139_5) (gs := [v1 < 0]) (c' := (9, [some (21, 0), some (0, v1), none, none, none, none, none], [], (h, hm, o))) K139_5 rfl ⟨q1, trivial⟩ ?_
    refine zF_blk (m := []) (d := 0) (b := B139_0) (gs := []) (c' := (10, [some (21, 0), some (0, v1), none, none, none, none, none], [(0, (-1))], (h, hm, o))) K139_0 rfl trivial ?_
    obtain rfl := Option.some.inj e
    exact zF_ri (zRe1_w (by decide +kernel))
  · refine zF_blk (m := []) (d := 0) (b := B139_5) (gs := [¬ (v1 < 0)]) (c' := (4, [some (21, 0), some (0, v1), none, none, none, none, none], [], (h, hm, o))) K139_5 rfl ⟨q1, trivial⟩ ?_
    rcases zI_s e with ⟨q2, e⟩ | ⟨q2, e⟩
    · refine zF_blk (m := []) (d := 1) (b := B139_4) (gs := [v1 ≤ 1]) (c' := (11, [some (21, 0), some (0, v1), none, none, none, none, none], [], (h, hm, o))) K139_4 rfl ⟨q2, trivial⟩ ?_
      rcases zI_s e with ⟨q3, e⟩ | ⟨q3, e⟩
      · refine zF_blk (m := []) (d := 1) (b := B139_3) (gs := [¬ v1 = 1]) (c' := (20, [some (21, 0), some (0, v1), none, none, none, none, none], [], (h, hm, o))) K139_3 rfl ⟨q3, trivial⟩ ?_
        refine zF_blk (m := []) (d := 0) (b := B139_1) (gs := []) (c' := (21, [some (21, 0), some (0, v1), none, none, none, none, none], [(0, 1)], (h, hm, o))) K139_1 rfl trivial ?_
        refine zF_blk (m := [true, false, false, false, false, false, false]) (d := 0) (b := []) (gs := []) (c' := (21, [some (21, 0), none, none, none, none, none, none], [(0, 1)], (h, hm, o))) rfl rfl trivial ?_
        exact T139_0 hd h 1 _ e
      · refine zF_blk (m := []) (d := 0) (b := B139_3) (gs := [¬ (¬ v1 = 1)]) (c' := (16, [some (21, 0), some (0, v1), none, none, none, none, none], [], (h, hm, o))) K139_3 rfl ⟨q3, trivial⟩ ?_
        refine zF_blk (m := []) (d := 0) (b := B139_2) (gs := []) (c' := (21, [some (21, 0), some (0, v1), none, none, none, none, none], [(0, (-1))], (h, hm, o))) K139_2 rfl trivial ?_
        refine zF_blk (m := [true, false, false, false, false, false, false]) (d := 0) (b := []) (gs := []) (c' := (21, [some (21, 0), none, none, none, none, none, none], [(0, (-1))], (h, hm, o))) rfl rfl trivial ?_
        exact T139_0 hd h (-1) _ e
    · refine zF_blk (m := []) (d := 0) (b := B139_4) (gs := [¬ (v1 ≤ 1)]) (c' := (9, [some (21, 0), some (0, v1), none, none, none, none, none], [], (h, hm, o))) K139_4 rfl ⟨q2, trivial⟩ ?_
      refine zF_blk (m := []) (d := 0) (b := B139_0) (gs := []) (c' := (10, [some (21, 0), some (0, v1), none, none, none, none, none], [(0, (-1))], (h, hm, o))) K139_0 rfl trivial ?_
      obtain rfl := Option.some.inj e
      exact zF_ri (zRe1_w (by decide +kernel))
noncomputable def B275_0 : List zRow := [(0, .aload_n 0, 1, (0, 0, 0)), (1, .iconst 0, 1, (0, 0, 0)), (2, .putfield 81, 3, (12, 0, 0)), (5, .iload_n 1, 1, (0, 0, 0)), (6, .iconst 0, 1, (0, 0, 0)), (7, .iconst 1, 1, (0, 0, 0))]
theorem K275_0 : zRk 275 B275_0 = true := zRw_ok (by decide +kernel)
noncomputable def B275_1 : List zRow := [(16, .iconst (-1), 1, (0, 0, 0)), (17, .istore_n 2, 1, (0, 0, 0)), (18, .iconst 0, 1, (0, 0, 0)), (19, .istore_n 3, 1, (0, 0, 0))]
theorem K275_1 : zRk 275 B275_1 = true := zRw_ok (by decide +kernel)
noncomputable def B275_2 : List zRow := [(14, .iconst (-1), 1, (0, 0, 0))]
theorem K275_2 : zRk 275 B275_2 = true := zRw_ok (by decide +kernel)
noncomputable def B275_3 : List zRow := [(11, .ifCond .ne 5, 3, (0, 0, 0))]
theorem K275_3 : zRk 275 B275_3 = true := zRw_ok (by decide +kernel)
noncomputable def B275_4 : List zRow := [(77, .iload_n 2, 1, (0, 0, 0))]
theorem K275_4 : zRk 275 B275_4 = true := zRw_ok (by decide +kernel)
noncomputable def B275_5 : List zRow := [(56, .aload_n 0, 1, (0, 0, 0)), (57, .iload_n 3, 1, (0, 0, 0))]
theorem K275_5 : zRk 275 B275_5 = true := zRw_ok (by decide +kernel)
noncomputable def B275_6 : List zRow := [(61, .aload_n 0, 1, (0, 0, 0)), (62, .iload_n 2, 1, (0, 0, 0))]
theorem K275_6 : zRk 275 B275_6 = true := zRw_ok (by decide +kernel)
noncomputable def B275_7 : List zRow := [(66, .if_icmp .ge 5, 3, (0, 0, 0))]
theorem K275_7 : zRk 275 B275_7 = true := zRw_ok (by decide +kernel)
noncomputable def B275_8 : List zRow := [(40, .aload_n 0, 1, (0, 0, 0)), (41, .iload_n 3, 1, (0, 0, 0))]
theorem K275_8 : zRk 275 B275_8 = true := zRw_ok (by decide +kernel)
noncomputable def B275_9 : List zRow := [(45, .aload_n 0, 1, (0, 0, 0)), (46, .iload_n 2, 1, (0, 0, 0))]
theorem K275_9 : zRk 275 B275_9 = true := zRw_ok (by decide +kernel)
noncomputable def B275_10 : List zRow := [(53, .goto 16, 3, (0, 0, 0))]
theorem K275_10 : zRk 275 B275_10 = true := zRw_ok (by decide +kernel)
noncomputable def B275_11 : List zRow := [(50, .if_icmp .le 21, 3, (0, 0, 0))]
theorem K275_11 : zRk 275 B275_11 = true := zRw_ok (by decide +kernel)
noncomputable def B275_12 : List zRow := [(35, .iload_n 1, 1, (0, 0, 0)), (36, .iconst 1, 1, (0, 0, 0)), (37, .if_icmp .ne 19, 3, (0, 0, 0))]
theorem K275_12 : zRk 275 B275_12 = true := zRw_ok (by decide +kernel)
noncomputable def B275_13 : List zRow := [(30, .iload_n 2, 1, (0, 0, 0)), (31, .iconst (-1), 1, (0, 0, 0)), (32, .if_icmp .eq 37, 3, (0, 0, 0))]
theorem K275_13 : zRk 275 B275_13 = true := zRw_ok (by decide +kernel)
noncomputable def B275_14 : List zRow := [(20, .iload_n 3, 1, (0, 0, 0)), (21, .aload_n 0, 1, (0, 0, 0)), (22, .getfield 13, 3, (12, 14, 5251442)), (25, .iconst 3, 1, (0, 0, 0)), (26, .iaload, 1, (0, 0, 0)), (27, .if_icmp .ge 50, 3, (0, 0, 0))]
theorem K275_14 : zRk 275 B275_14 = true := zRw_ok (by decide +kernel)
noncomputable def B275_15 : List zRow := [(71, .iinc 3 1, 3, (0, 0, 0)), (74, .goto (-54), 3, (0, 0, 0))]
theorem K275_15 : zRk 275 B275_15 = true := zRw_ok (by decide +kernel)
noncomputable def B275_16 : List zRow := [(69, .iload_n 3, 1, (0, 0, 0)), (70, .istore_n 2, 1, (0, 0, 0))]
theorem K275_16 : zRk 275 B275_16 = true := zRw_ok (by decide +kernel)
def F275_2 (k0 : Int → Int → Int → zHM → Option (Int × zHM)) (v1 : Int) (v2 : Int) (v3 : Int) (h : zHM) : Option (Int × zHM) := k0 v1 v2 (wadd v3 1) h
set_option maxRecDepth 100000 in
theorem T275_2 {spec : zRn zH2} {hc : zHC} {o : Int → Int} {d : Nat} (hd : 3 ≤ d) (k0 : Int → Int → Int → zHM → Option (Int × zHM)) (hk0 : ∀ (v1 : Int) (v2 : Int) (v3 : Int) (h : zHM) (v : (Int × zHM)), k0 v1 v2 v3 h = some v → zFin 0 (fun _ => 0) (zRu2 spec d) 275 (some (0, v.1)) (hc, v.2, o) (20, [some (22, 0), some (0, v1), some (0, v2), some (0, v3)], [], (hc, h, o))) (v1 : Int) (v2 : Int) (v3 : Int) (h : zHM) (v : (Int × zHM)) (e : F275_2 k0 v1 v2 v3 h = some v) : zFin 0 (fun _ => 0) (zRu2 spec d) 275 (some (0, v.1)) (hc, v.2, o) (71, [some (22, 0), some (0, v1), some (0, v2), some (0, v3)], [], (hc, h, o)) := by
  unfold F275_2 at e
  refine zF_blk (m := []) (d := 0) (b := B275_15) (gs := []) (c' := (20, [some (22, 0), some (0, v1), some (0, v2), some (0, (wadd v3 1))], [], (hc, h, o))) K275_15 rfl trivial ?_
  exact hk0 v1 v2 (wadd v3 1) h _ e
def F275_1 (k0 : Int → Int → Int → zHM → Option (Int × zHM)) (v1 : Int) (v3 : Int) (h : zHM) : Option (Int × zHM) := F275_2 k0 v1 v3 v3 h
set_option maxRecDepth 100000 in
theorem T275_1 {spec : zRn zH2} {hc : zHC} {o : Int → Int} {d : Nat} (hd : 3 ≤ d) (k0 : Int → Int → Int → zHM → Option (Int × zHM)) (hk0 : ∀ (v1 : Int) (v2 : Int) (v3 : Int) (h : zHM) (v : (Int × zHM)), k0 v1 v2 v3 h = some v → zFin 0 (fun _ => 0) (zRu2 spec d) 275 (some (0, v.1)) (hc, v.2, o) (20, [some (22, 0), some (0, v1), some (0, v2), some (0, v3)], [], (hc, h, o))) (v1 : Int) (v3 : Int) (h : zHM) (v : (Int × zHM)) (e : F275_1 k0 v1 v3 h = some v) : zFin 0 (fun _ => 0) (zRu2 spec d) 275 (some (0, v.1)) (hc, v.2, o) (69, [some (22, 0), some (0, v1), none, some (0, v3)], [], (hc, h, o)) := by
  unfold F275_1 at e
  refine zF_blk (m := []) (d := 0) (b := B275_16) (gs := []) (c' := (71, [some (22, 0), some (0, v1), some (0, v3), some (0, v3)], [], (hc, h, o))) K275_16 rfl trivial ?_
  exact T275_2 hd k0 hk0 v1 v3 v3 h _ e
def F275_0 : Nat → Int → Int → Int → zHM → Option (Int × zHM)
  | 0, _, _, _, _ => none
  | n + 1, v1, v2, v3, h => if (h 14 3) ≤ v3 then some (v2, h) else if v2 = (-1) then F275_1 (F275_0 n) v1 v3 h else if ¬ v1 = 1 then (F211 v3 h).bind fun r1 => (F211 v2 h).bind fun r2 => if r2 ≤ r1 then F275_2 (F275_0 n) v1 v2 v3 h else F275_1 (F275_0 n) v1 v3 h else (F211 v3 h).bind fun r3 => (F211 v2 h).bind fun r4 => if r3 ≤ r4 then F275_2 (F275_0 n) v1 v2 v3 h else F275_1 (F275_0 n) v1 v3 h
set_option maxRecDepth 100000 in
theorem T275_0 {spec : zRn zH2} {hc : zHC} {o : Int → Int} {d : Nat} (hd : 3 ≤ d) : ∀ (n : Nat) (v1 : Int) (v2 : Int) (v3 : Int) (h : zHM) (v : (Int × zHM)), F275_0 n v1 v2 v3 h = some v → zFin 0 (fun _ => 0) (zRu2 spec d) 275 (some (0, v.1)) (hc, v.2, o) (20, [some (22, 0), some (0, v1), some (0, v2), some (0, v3)], [], (hc, h, o)) := by
  intro n
  induction n with
  | zero => intro v1 v2 v3 h v e; unfold F275_0 at e; cases e
  | succ n hk0 =>
    intro v1 v2 v3 h v e
    unfold F275_0 at e
    rcases zI_s e with ⟨q1, e⟩ | ⟨q1, e⟩
    · refine zF_blk (m := []) (d := 1) (b := B275_14) (gs := [0 ≤ 3 ∧ 3 < 2140, (h 14 3) ≤ v3]) (c' := (77, [some (22, 0), some (0, v1), some (0, v2), some (0, v3)], [], (hc, h, o))) K275_14 rfl ⟨by decide, q1, trivial⟩ ?_
      refine zF_blk (m := []) (d := 0) (b := B275_4) (gs := []) (c' := (78, [some (22, 0), some (0, v1), some (0, v2), some (0, v3)], [(0, v2)], (hc, h, o))) K275_4 rfl trivial ?_
      exact zF_riM (zRe1_w (by decide +kernel)) e
    · refine zF_blk (m := []) (d := 0) (b := B275_14) (gs := [0 ≤ 3 ∧ 3 < 2140, ¬ ((h 14 3) ≤ v3)]) (c' := (30, [some (22, 0), some (0, v1), some (0, v2), some (0, v3)], [], (hc, h, o))) K275_14 rfl ⟨by decide, q1, trivial⟩ ?_
      rcases zI_s e with ⟨q2, e⟩ | ⟨q2, e⟩
      · refine zF_blk (m := []) (d := 1) (b := B275_13) (gs := [v2 = (-1)]) (c' := (69, [some (22, 0), some (0, v1), some (0, v2), some (0, v3)], [], (hc, h, o))) K275_13 rfl ⟨q2, trivial⟩ ?_
        refine zF_blk (m := [true, true, false, true]) (d := 0) (b := []) (gs := []) (c' := (69, [some (22, 0), some (0, v1), none, some (0, v3)], [], (hc, h, o))) rfl rfl trivial ?_
        exact T275_1 hd (F275_0 n) hk0 v1 v3 h _ e
      · refine zF_blk (m := []) (d := 0) (b := B275_13) (gs := [¬ (v2 = (-1))]) (c' := (35, [some (22, 0), some (0, v1), some (0, v2), some (0, v3)], [], (hc, h, o))) K275_13 rfl ⟨q2, trivial⟩ ?_
        rcases zI_s e with ⟨q3, e⟩ | ⟨q3, e⟩
        · refine zF_blk (m := []) (d := 1) (b := B275_12) (gs := [¬ v1 = 1]) (c' := (56, [some (22, 0), some (0, v1), some (0, v2), some (0, v3)], [], (hc, h, o))) K275_12 rfl ⟨q3, trivial⟩ ?_
          obtain ⟨r1, q4, e⟩ := zB_s e
          refine zF_blk (m := []) (d := 0) (b := B275_5) (gs := []) (c' := (58, [some (22, 0), some (0, v1), some (0, v2), some (0, v3)], [(0, v3), (22, 0)], (hc, h, o))) K275_5 rfl trivial ?_
          refine zF_call (k := 211) (cl := 12) (n := 2) (i := .invokevirtual 263) (args := [(22, 0), (0, v3)]) (rest := []) (g1 := (hc, h, o)) (r1 := some (0, r1)) (zCk1_w (by decide +kernel)) rfl rfl rfl (st' := [(0, r1)]) rfl (S211 (Nat.le_trans (by decide) hd) v3 h _ q4) ?_
          obtain ⟨r2, q5, e⟩ := zB_s e
          refine zF_blk (m := []) (d := 0) (b := B275_6) (gs := []) (c' := (63, [some (22, 0), some (0, v1), some (0, v2), some (0, v3)], [(0, v2), (22, 0), (0, r1)], (hc, h, o))) K275_6 rfl trivial ?_
          refine zF_call (k := 211) (cl := 12) (n := 2) (i := .invokevirtual 263) (args := [(22, 0), (0, v2)]) (rest := [(0, r1)]) (g1 := (hc, h, o)) (r1 := some (0, r2)) (zCk1_w (by decide +kernel)) rfl rfl rfl (st' := [(0, r2), (0, r1)]) rfl (S211 (Nat.le_trans (by decide) hd) v2 h _ q5) ?_
          rcases zI_s e with ⟨q6, e⟩ | ⟨q6, e⟩
          · refine zF_blk (m := []) (d := 1) (b := B275_7) (gs := [r2 ≤ r1]) (c' := (71, [some (22, 0), some (0, v1), some (0, v2), some (0, v3)], [], (hc, h, o))) K275_7 rfl ⟨q6, trivial⟩ ?_
            exact T275_2 hd (F275_0 n) hk0 v1 v2 v3 h _ e
          · refine zF_blk (m := []) (d := 0) (b := B275_7) (gs := [¬ (r2 ≤ r1)]) (c' := (69, [some (22, 0), some (0, v1), some (0, v2), some (0, v3)], [], (hc, h, o))) K275_7 rfl ⟨q6, trivial⟩ ?_
            refine zF_blk (m := [true, true, false, true]) (d := 0) (b := []) (gs := []) (c' := (69, [some (22, 0), some (0, v1), none, some (0, v3)], [], (hc, h, o))) rfl rfl trivial ?_
            exact T275_1 hd (F275_0 n) hk0 v1 v3 h _ e
        · refine zF_blk (m := []) (d := 0) (b := B275_12) (gs := [¬ (¬ v1 = 1)]) (c' := (40, [some (22, 0), some (0, v1), some (0, v2), some (0, v3)], [], (hc, h, o))) K275_12 rfl ⟨q3, trivial⟩ ?_
          obtain ⟨r3, q7, e⟩ := zB_s e
          refine zF_blk (m := []) (d := 0) (b := B275_8) (gs := []) (c' := (42, [some (22, 0), some (0, v1), some (0, v2), some (0, v3)], [(0, v3), (22, 0)], (hc, h, o))) K275_8 rfl trivial ?_
          refine zF_call (k := 211) (cl := 12) (n := 2) (i := .invokevirtual 263) (args := [(22, 0), (0, v3)]) (rest := []) (g1 := (hc, h, o)) (r1 := some (0, r3)) (zCk1_w (by decide +kernel)) rfl rfl rfl (st' := [(0, r3)]) rfl (S211 (Nat.le_trans (by decide) hd) v3 h _ q7) ?_
          obtain ⟨r4, q8, e⟩ := zB_s e
          refine zF_blk (m := []) (d := 0) (b := B275_9) (gs := []) (c' := (47, [some (22, 0), some (0, v1), some (0, v2), some (0, v3)], [(0, v2), (22, 0), (0, r3)], (hc, h, o))) K275_9 rfl trivial ?_
          refine zF_call (k := 211) (cl := 12) (n := 2) (i := .invokevirtual 263) (args := [(22, 0), (0, v2)]) (rest := [(0, r3)]) (g1 := (hc, h, o)) (r1 := some (0, r4)) (zCk1_w (by decide +kernel)) rfl rfl rfl (st' := [(0, r4), (0, r3)]) rfl (S211 (Nat.le_trans (by decide) hd) v2 h _ q8) ?_
          rcases zI_s e with ⟨q9, e⟩ | ⟨q9, e⟩
          · refine zF_blk (m := []) (d := 1) (b := B275_11) (gs := [r3 ≤ r4]) (c' := (71, [some (22, 0), some (0, v1), some (0, v2), some (0, v3)], [], (hc, h, o))) K275_11 rfl ⟨q9, trivial⟩ ?_
            exact T275_2 hd (F275_0 n) hk0 v1 v2 v3 h _ e
          · refine zF_blk (m := []) (d := 0) (b := B275_11) (gs := [¬ (r3 ≤ r4)]) (c' := (53, [some (22, 0), some (0, v1), some (0, v2), some (0, v3)], [], (hc, h, o))) K275_11 rfl ⟨q9, trivial⟩ ?_
            refine zF_blk (m := []) (d := 0) (b := B275_10) (gs := []) (c' := (69, [some (22, 0), some (0, v1), some (0, v2), some (0, v3)], [], (hc, h, o))) K275_10 rfl trivial ?_
            refine zF_blk (m := [true, true, false, true]) (d := 0) (b := []) (gs := []) (c' := (69, [some (22, 0), some (0, v1), none, some (0, v3)], [], (hc, h, o))) rfl rfl trivial ?_
            exact T275_1 hd (F275_0 n) hk0 v1 v3 h _ e
/-- EchoValeModel.poorest(I)I -/
def F275 (v1 : Int) (h : zHM) : Option (Int × zHM) := (F188 v1 0 1).bind fun r1 => if ¬ r1 = 0 then F275_0 zFu v1 (-1) 0 (mset h 0 0 0) else some ((-1), (mset h 0 0 0))
set_option maxRecDepth 100000 in
theorem S275 {spec : zRn zH2} {hc : zHC} {o : Int → Int} {d : Nat} (hd : 4 ≤ d) (v1 : Int) (h : zHM) (v : (Int × zHM)) (e : F275 v1 h = some v) : zRu2 spec d 275 [(22, 0), (0, v1)] (hc, h, o) (some (0, v.1)) (hc, v.2, o) := by
  refine zF_in (D := 3) (mx := 4) (L := [some (22, 0), some (0, v1), none, none]) (by decide +kernel) rfl rfl hd (fun d hd => ?_)
  unfold F275 at e
  obtain ⟨r1, q1, e⟩ := zB_s e
  refine zF_blk (m := []) (d := 0) (b := B275_0) (gs := []) (c' := (8, [some (22, 0), some (0, v1), none, none], [(0, 1), (0, 0), (0, v1)], (hc, (mset h 0 0 0), o))) K275_0 rfl trivial ?_
  refine zF_call (k := 188) (cl := 12) (n := 3) (i := .invokestatic 151) (args := [(0, v1), (0, 0), (0, 1)]) (rest := []) (g1 := (hc, (mset h 0 0 0), o)) (r1 := some (0, r1)) (zCk1_w (by decide +kernel)) rfl rfl rfl (st' := [(0, r1)]) rfl (S188 (Nat.le_trans (by decide) hd) v1 0 1 (mset h 0 0 0) _ q1) ?_
  rcases zI_s e with ⟨q2, e⟩ | ⟨q2, e⟩
  · refine zF_blk (m := []) (d := 1) (b := B275_3) (gs := [¬ r1 = 0]) (c' := (16, [some (22, 0), some (0, v1), none, none], [], (hc, (mset h 0 0 0), o))) K275_3 rfl ⟨q2, trivial⟩ ?_
    refine zF_blk (m := []) (d := 0) (b := B275_1) (gs := []) (c' := (20, [some (22, 0), some (0, v1), some (0, (-1)), some (0, 0)], [], (hc, (mset h 0 0 0), o))) K275_1 rfl trivial ?_
    exact T275_0 hd zFu v1 (-1) 0 (mset h 0 0 0) _ e
  · refine zF_blk (m := []) (d := 0) (b := B275_3) (gs := [¬ (¬ r1 = 0)]) (c' := (14, [some (22, 0), some (0, v1), none, none], [], (hc, (mset h 0 0 0), o))) K275_3 rfl ⟨q2, trivial⟩ ?_
    refine zF_blk (m := []) (d := 0) (b := B275_2) (gs := []) (c' := (15, [some (22, 0), some (0, v1), none, none], [(0, (-1))], (hc, (mset h 0 0 0), o))) K275_2 rfl trivial ?_
    exact zF_riM (zRe1_w (by decide +kernel)) e
noncomputable def B140_0 : List zRow := [(0, .aload_n 0, 1, (0, 0, 0)), (1, .getfield 19, 3, (11, 1, 39)), (4, .iload_n 1, 1, (0, 0, 0))]
theorem K140_0 : zRk 140 B140_0 = true := zRw_ok (by decide +kernel)
noncomputable def B140_1 : List zRow := [(18, .iconst (-1), 1, (0, 0, 0))]
theorem K140_1 : zRk 140 B140_1 = true := zRw_ok (by decide +kernel)
noncomputable def B140_2 : List zRow := [(11, .iload_n 2, 1, (0, 0, 0))]
theorem K140_2 : zRk 140 B140_2 = true := zRw_ok (by decide +kernel)
noncomputable def B140_3 : List zRow := [(20, .aload_n 0, 1, (0, 0, 0)), (21, .getfield 19, 3, (11, 1, 39)), (24, .iload_n 1, 1, (0, 0, 0)), (25, .iload_n 2, 1, (0, 0, 0))]
theorem K140_3 : zRk 140 B140_3 = true := zRw_ok (by decide +kernel)
noncomputable def B140_4 : List zRow := [(29, .istore_n 3, 1, (0, 0, 0)), (30, .iconst 0, 1, (0, 0, 0)), (31, .istore 4, 2, (0, 0, 0)), (33, .iconst 0, 1, (0, 0, 0)), (34, .istore 5, 2, (0, 0, 0))]
theorem K140_4 : zRk 140 B140_4 = true := zRw_ok (by decide +kernel)
noncomputable def B140_5 : List zRow := [(15, .ifCond .ne 5, 3, (0, 0, 0))]
theorem K140_5 : zRk 140 B140_5 = true := zRw_ok (by decide +kernel)
noncomputable def B140_6 : List zRow := [(8, .ifCond .eq 10, 3, (0, 0, 0))]
theorem K140_6 : zRk 140 B140_6 = true := zRw_ok (by decide +kernel)
noncomputable def B140_7 : List zRow := [(77, .iload 4, 2, (0, 0, 0))]
theorem K140_7 : zRk 140 B140_7 = true := zRw_ok (by decide +kernel)
noncomputable def B140_8 : List zRow := [(48, .aload_n 0, 1, (0, 0, 0)), (49, .getfield 19, 3, (11, 1, 39)), (52, .iload 5, 2, (0, 0, 0)), (54, .iload_n 1, 1, (0, 0, 0)), (55, .iload_n 3, 1, (0, 0, 0))]
theorem K140_8 : zRk 140 B140_8 = true := zRw_ok (by decide +kernel)
noncomputable def B140_9 : List zRow := [(62, .iload 4, 2, (0, 0, 0)), (64, .iconst 1, 1, (0, 0, 0)), (65, .iload 5, 2, (0, 0, 0)), (67, .ishl, 1, (0, 0, 0)), (68, .ior, 1, (0, 0, 0)), (69, .istore 4, 2, (0, 0, 0))]
theorem K140_9 : zRk 140 B140_9 = true := zRw_ok (by decide +kernel)
noncomputable def B140_10 : List zRow := [(59, .ifCond .le 12, 3, (0, 0, 0))]
theorem K140_10 : zRk 140 B140_10 = true := zRw_ok (by decide +kernel)
noncomputable def B140_11 : List zRow := [(36, .iload 5, 2, (0, 0, 0)), (38, .aload_n 0, 1, (0, 0, 0)), (39, .getfield 19, 3, (11, 1, 39)), (42, .getfield 282, 3, (9, 2, 0)), (45, .if_icmp .ge 32, 3, (0, 0, 0))]
theorem K140_11 : zRk 140 B140_11 = true := zRw_ok (by decide +kernel)
noncomputable def B140_12 : List zRow := [(71, .iinc 5 1, 3, (0, 0, 0)), (74, .goto (-38), 3, (0, 0, 0))]
theorem K140_12 : zRk 140 B140_12 = true := zRw_ok (by decide +kernel)
def F140_1 (k0 : Int → Int → Int → Int → Option Int) (h : zHC) (v1 : Int) (v3 : Int) (v4 : Int) (v5 : Int) : Option Int := k0 v1 v3 v4 (wadd v5 1)
set_option maxRecDepth 100000 in
theorem T140_1 {spec : zRn zH2} {hm : zHM} {o : Int → Int} {d : Nat} (hd : 2 ≤ d) (h : zHC) (k0 : Int → Int → Int → Int → Option Int) (hk0 : ∀ (v1 : Int) (v3 : Int) (v4 : Int) (v5 : Int) (v : Int), k0 v1 v3 v4 v5 = some v → zFin 0 (fun _ => 0) (zRu2 spec d) 140 (some (0, v)) (h, hm, o) (36, [some (21, 0), some (0, v1), none, some (0, v3), some (0, v4), some (0, v5)], [], (h, hm, o))) (v1 : Int) (v3 : Int) (v4 : Int) (v5 : Int) (v : Int) (e : F140_1 k0 h v1 v3 v4 v5 = some v) : zFin 0 (fun _ => 0) (zRu2 spec d) 140 (some (0, v)) (h, hm, o) (71, [some (21, 0), some (0, v1), none, some (0, v3), some (0, v4), some (0, v5)], [], (h, hm, o)) := by
  unfold F140_1 at e
  refine zF_blk (m := []) (d := 0) (b := B140_12) (gs := []) (c' := (36, [some (21, 0), some (0, v1), none, some (0, v3), some (0, v4), some (0, (wadd v5 1))], [], (h, hm, o))) K140_12 rfl trivial ?_
  exact hk0 v1 v3 v4 (wadd v5 1) _ e
def F140_0 (h : zHC) : Nat → Int → Int → Int → Int → Option Int
  | 0, _, _, _, _ => none
  | n + 1, v1, v3, v4, v5 => if (h 578 0 0) ≤ v5 then some v4 else (F82 0 v5 v1 v3 h).bind fun r1 => if r1 ≤ 0 then F140_1 (F140_0 h n) h v1 v3 v4 v5 else F140_1 (F140_0 h n) h v1 v3 (wor v4 (wshl 1 v5)) v5
set_option maxRecDepth 100000 in
theorem T140_0 {spec : zRn zH2} {hm : zHM} {o : Int → Int} {d : Nat} (hd : 2 ≤ d) (h : zHC) : ∀ (n : Nat) (v1 : Int) (v3 : Int) (v4 : Int) (v5 : Int) (v : Int), F140_0 h n v1 v3 v4 v5 = some v → zFin 0 (fun _ => 0) (zRu2 spec d) 140 (some (0, v)) (h, hm, o) (36, [some (21, 0), some (0, v1), none, some (0, v3), some (0, v4), some (0, v5)], [], (h, hm, o)) := by
  intro n
  induction n with
  | zero => intro v1 v3 v4 v5 v e; unfold F140_0 at e; cases e
  | succ n hk0 =>
    intro v1 v3 v4 v5 v e
    unfold F140_0 at e
    rcases zI_s e with ⟨q1, e⟩ | ⟨q1, e⟩
    · refine zF_blk (m := []) (d := 1) (b := B140_11) (gs := [(h 578 0 0) ≤ v5]) (c' := (77, [some (21, 0), some (0, v1), none, some (0, v3), some (0, v4), some (0, v5)], [], (h, hm, o))) K140_11 rfl ⟨q1, trivial⟩ ?_
      refine zF_blk (m := []) (d := 0) (b := B140_7) (gs := []) (c' := (79, [some (21, 0), some (0, v1), none, some (0, v3), some (0, v4), some (0, v5)], [(0, v4)], (h, hm, o))) K140_7 rfl trivial ?_
      obtain rfl := Option.some.inj e
      exact zF_ri (zRe1_w (by decide +kernel))
    · refine zF_blk (m := []) (d := 0) (b := B140_11) (gs := [¬ ((h 578 0 0) ≤ v5)]) (c' := (48, [some (21, 0), some (0, v1), none, some (0, v3), some (0, v4), some (0, v5)], [], (h, hm, o))) K140_11 rfl ⟨q1, trivial⟩ ?_
      obtain ⟨r1, q2, e⟩ := zB_s e
      refine zF_blk (m := []) (d := 0) (b := B140_8) (gs := []) (c' := (56, [some (21, 0), some (0, v1), none, some (0, v3), some (0, v4), some (0, v5)], [(0, v3), (0, v1), (0, v5), (19, 0)], (h, hm, o))) K140_8 rfl trivial ?_
      refine zF_call (k := 82) (cl := 9) (n := 4) (i := .invokevirtual 285) (args := [(19, 0), (0, v5), (0, v1), (0, v3)]) (rest := []) (g1 := (h, hm, o)) (r1 := some (0, r1)) (zCk1_w (by decide +kernel)) rfl rfl rfl (st' := [(0, r1)]) rfl (S82 (Nat.le_trans (by decide) hd) 0 v5 v1 v3 h _ q2) ?_
      rcases zI_s e with ⟨q3, e⟩ | ⟨q3, e⟩
      · refine zF_blk (m := []) (d := 1) (b := B140_10) (gs := [r1 ≤ 0]) (c' := (71, [some (21, 0), some (0, v1), none, some (0, v3), some (0, v4), some (0, v5)], [], (h, hm, o))) K140_10 rfl ⟨q3, trivial⟩ ?_
        exact T140_1 hd h (F140_0 h n) hk0 v1 v3 v4 v5 _ e
      · refine zF_blk (m := []) (d := 0) (b := B140_10) (gs := [¬ (r1 ≤ 0)]) (c' := (62, [some (21, 0), some (0, v1), none, some (0, v3), some (0, v4), some (0, v5)], [], (h, hm, o))) K140_10 rfl ⟨q3, trivial⟩ ?_
        refine zF_blk (m := []) (d := 0) (b := B140_9) (gs := []) (c' := (71, [some (21, 0), some (0, v1), none, some (0, v3), some (0, (wor v4 (wshl 1 v5))), some (0, v5)], [], (h, hm, o))) K140_9 rfl trivial ?_
        exact T140_1 hd h (F140_0 h n) hk0 v1 v3 (wor v4 (wshl 1 v5)) v5 _ e
/-- EchoVale.reach(II)I -/
def F140 (v1 : Int) (v2 : Int) (h : zHC) : Option Int := (F69 0 v1 h).bind fun r1 => if r1 = 0 then some (-1) else (F74 v2).bind fun r2 => if ¬ r2 = 0 then (F77 0 v1 v2 h).bind fun r3 => F140_0 h zFu v1 r3 0 0 else some (-1)
set_option maxRecDepth 100000 in
theorem S140 {spec : zRn zH2} {hm : zHM} {o : Int → Int} {d : Nat} (hd : 3 ≤ d) (v1 : Int) (v2 : Int) (h : zHC) (v : Int) (e : F140 v1 v2 h = some v) : zRu2 spec d 140 [(21, 0), (0, v1), (0, v2)] (h, hm, o) (some (0, v)) (h, hm, o) := by
  refine zF_in (D := 2) (mx := 6) (L := [some (21, 0), some (0, v1), some (0, v2), none, none, none]) (by decide +kernel) rfl rfl hd (fun d hd => ?_)
  unfold F140 at e
  obtain ⟨r1, q1, e⟩ := zB_s e
  refine zF_blk (m := []) (d := 0) (b := B140_0) (gs := []) (c' := (5, [some (21, 0), some (0, v1), some (0, v2), none, none, none], [(0, v1), (19, 0)], (h, hm, o))) K140_0 rfl trivial ?_
  refine zF_call (k := 69) (cl := 9) (n := 2) (i := .invokevirtual 214) (args := [(19, 0), (0, v1)]) (rest := []) (g1 := (h, hm, o)) (r1 := some (0, r1)) (zCk1_w (by decide +kernel)) rfl rfl rfl (st' := [(0, r1)]) rfl (S69 (Nat.le_trans (by decide) hd) 0 v1 h _ q1) ?_
  rcases zI_s e with ⟨q2, e⟩ | ⟨q2, e⟩
  · refine zF_blk (m := []) (d := 1) (b := B140_6) (gs := [r1 = 0]) (c' := (18, [some (21, 0), some (0, v1), some (0, v2), none, none, none], [], (h, hm, o))) K140_6 rfl ⟨q2, trivial⟩ ?_
    refine zF_blk (m := []) (d := 0) (b := B140_1) (gs := []) (c' := (19, [some (21, 0), some (0, v1), some (0, v2), none, none, none], [(0, (-1))], (h, hm, o))) K140_1 rfl trivial ?_
    obtain rfl := Option.some.inj e
    exact zF_ri (zRe1_w (by decide +kernel))
  · refine zF_blk (m := []) (d := 0) (b := B140_6) (gs := [¬ (r1 = 0)]) (c' := (11, [some (21, 0), some (0, v1), some (0, v2), none, none, none], [], (h, hm, o))) K140_6 rfl ⟨q2, trivial⟩ ?_
    obtain ⟨r2, q3, e⟩ := zB_s e
    refine zF_blk (m := []) (d := 0) (b := B140_2) (gs := []) (c' := (12, [some (21, 0), some (0, v1), some (0, v2), none, none, none], [(0, v2)], (h, hm, o))) K140_2 rfl trivial ?_
    refine zF_call (k := 74) (cl := 11) (n := 1) (i := .invokestatic 221) (args := [(0, v2)]) (rest := []) (g1 := (h, hm, o)) (r1 := some (0, r2)) (zCk1_w (by decide +kernel)) rfl rfl rfl (st' := [(0, r2)]) rfl (S74 (Nat.le_trans (by decide) hd) v2 h _ q3) ?_
    rcases zI_s e with ⟨q4, e⟩ | ⟨q4, e⟩
    · refine zF_blk (m := []) (d := 1) (b := B140_5) (gs := [¬ r2 = 0]) (c' := (20, [some (21, 0), some (0, v1), some (0, v2), none, none, none], [], (h, hm, o))) K140_5 rfl ⟨q4, trivial⟩ ?_
      obtain ⟨r3, q5, e⟩ := zB_s e
      refine zF_blk (m := []) (d := 0) (b := B140_3) (gs := []) (c' := (26, [some (21, 0), some (0, v1), some (0, v2), none, none, none], [(0, v2), (0, v1), (19, 0)], (h, hm, o))) K140_3 rfl trivial ?_
      refine zF_call (k := 77) (cl := 9) (n := 3) (i := .invokevirtual 279) (args := [(19, 0), (0, v1), (0, v2)]) (rest := []) (g1 := (h, hm, o)) (r1 := some (0, r3)) (zCk1_w (by decide +kernel)) rfl rfl rfl (st' := [(0, r3)]) rfl (S77 (Nat.le_trans (by decide) hd) 0 v1 v2 h _ q5) ?_
      refine zF_blk (m := []) (d := 0) (b := B140_4) (gs := []) (c' := (36, [some (21, 0), some (0, v1), some (0, v2), some (0, r3), some (0, 0), some (0, 0)], [], (h, hm, o))) K140_4 rfl trivial ?_
      refine zF_blk (m := [true, true, false, true, true, true]) (d := 0) (b := []) (gs := []) (c' := (36, [some (21, 0), some (0, v1), none, some (0, r3), some (0, 0), some (0, 0)], [], (h, hm, o))) rfl rfl trivial ?_
      exact T140_0 hd h zFu v1 r3 0 0 _ e
    · refine zF_blk (m := []) (d := 0) (b := B140_5) (gs := [¬ (¬ r2 = 0)]) (c' := (18, [some (21, 0), some (0, v1), some (0, v2), none, none, none], [], (h, hm, o))) K140_5 rfl ⟨q4, trivial⟩ ?_
      refine zF_blk (m := []) (d := 0) (b := B140_1) (gs := []) (c' := (19, [some (21, 0), some (0, v1), some (0, v2), none, none, none], [(0, (-1))], (h, hm, o))) K140_1 rfl trivial ?_
      obtain rfl := Option.some.inj e
      exact zF_ri (zRe1_w (by decide +kernel))
noncomputable def B260_0 : List zRow := [(0, .aload_n 0, 1, (0, 0, 0)), (1, .iconst 0, 1, (0, 0, 0)), (2, .putfield 81, 3, (12, 0, 0)), (5, .aload_n 0, 1, (0, 0, 0)), (6, .iload_n 1, 1, (0, 0, 0))]
theorem K260_0 : zRk 260 B260_0 = true := zRw_ok (by decide +kernel)
noncomputable def B260_1 : List zRow := [(23, .iconst (-1), 1, (0, 0, 0))]
theorem K260_1 : zRk 260 B260_1 = true := zRw_ok (by decide +kernel)
noncomputable def B260_2 : List zRow := [(13, .iload_n 2, 1, (0, 0, 0)), (14, .iconst 1, 1, (0, 0, 0)), (15, .bipush 9, 2, (0, 0, 0))]
theorem K260_2 : zRk 260 B260_2 = true := zRw_ok (by decide +kernel)
noncomputable def B260_3 : List zRow := [(25, .iconst 0, 1, (0, 0, 0)), (26, .istore_n 3, 1, (0, 0, 0)), (27, .iconst 0, 1, (0, 0, 0)), (28, .istore 4, 2, (0, 0, 0))]
theorem K260_3 : zRk 260 B260_3 = true := zRw_ok (by decide +kernel)
noncomputable def B260_4 : List zRow := [(20, .ifCond .ne 5, 3, (0, 0, 0))]
theorem K260_4 : zRk 260 B260_4 = true := zRw_ok (by decide +kernel)
noncomputable def B260_5 : List zRow := [(10, .ifCond .eq 13, 3, (0, 0, 0))]
theorem K260_5 : zRk 260 B260_5 = true := zRw_ok (by decide +kernel)
noncomputable def B260_6 : List zRow := [(70, .iload_n 3, 1, (0, 0, 0))]
theorem K260_6 : zRk 260 B260_6 = true := zRw_ok (by decide +kernel)
noncomputable def B260_7 : List zRow := [(41, .aload_n 0, 1, (0, 0, 0)), (42, .iload 4, 2, (0, 0, 0)), (44, .iload_n 1, 1, (0, 0, 0)), (45, .aload_n 0, 1, (0, 0, 0)), (46, .iload_n 1, 1, (0, 0, 0)), (47, .iload_n 2, 1, (0, 0, 0))]
theorem K260_7 : zRk 260 B260_7 = true := zRw_ok (by decide +kernel)
noncomputable def B260_8 : List zRow := [(57, .iload_n 3, 1, (0, 0, 0)), (58, .iconst 1, 1, (0, 0, 0)), (59, .iload 4, 2, (0, 0, 0)), (61, .ishl, 1, (0, 0, 0)), (62, .ior, 1, (0, 0, 0)), (63, .istore_n 3, 1, (0, 0, 0))]
theorem K260_8 : zRk 260 B260_8 = true := zRw_ok (by decide +kernel)
noncomputable def B260_9 : List zRow := [(54, .ifCond .le 10, 3, (0, 0, 0))]
theorem K260_9 : zRk 260 B260_9 = true := zRw_ok (by decide +kernel)
noncomputable def B260_10 : List zRow := [(30, .iload 4, 2, (0, 0, 0)), (32, .aload_n 0, 1, (0, 0, 0)), (33, .getfield 13, 3, (12, 14, 5251442)), (36, .iconst 2, 1, (0, 0, 0)), (37, .iaload, 1, (0, 0, 0)), (38, .if_icmp .ge 32, 3, (0, 0, 0))]
theorem K260_10 : zRk 260 B260_10 = true := zRw_ok (by decide +kernel)
noncomputable def B260_11 : List zRow := [(64, .iinc 4 1, 3, (0, 0, 0)), (67, .goto (-37), 3, (0, 0, 0))]
theorem K260_11 : zRk 260 B260_11 = true := zRw_ok (by decide +kernel)
def F260_1 (k0 : Int → Int → Int → Int → zHM → Option (Int × zHM)) (v1 : Int) (v2 : Int) (v3 : Int) (v4 : Int) (h : zHM) : Option (Int × zHM) := k0 v1 v2 v3 (wadd v4 1) h
set_option maxRecDepth 100000 in
theorem T260_1 {spec : zRn zH2} {hc : zHC} {o : Int → Int} {d : Nat} (hd : 3 ≤ d) (k0 : Int → Int → Int → Int → zHM → Option (Int × zHM)) (hk0 : ∀ (v1 : Int) (v2 : Int) (v3 : Int) (v4 : Int) (h : zHM) (v : (Int × zHM)), k0 v1 v2 v3 v4 h = some v → zFin 0 (fun _ => 0) (zRu2 spec d) 260 (some (0, v.1)) (hc, v.2, o) (30, [some (22, 0), some (0, v1), some (0, v2), some (0, v3), some (0, v4)], [], (hc, h, o))) (v1 : Int) (v2 : Int) (v3 : Int) (v4 : Int) (h : zHM) (v : (Int × zHM)) (e : F260_1 k0 v1 v2 v3 v4 h = some v) : zFin 0 (fun _ => 0) (zRu2 spec d) 260 (some (0, v.1)) (hc, v.2, o) (64, [some (22, 0), some (0, v1), some (0, v2), some (0, v3), some (0, v4)], [], (hc, h, o)) := by
  unfold F260_1 at e
  refine zF_blk (m := []) (d := 0) (b := B260_11) (gs := []) (c' := (30, [some (22, 0), some (0, v1), some (0, v2), some (0, v3), some (0, (wadd v4 1))], [], (hc, h, o))) K260_11 rfl trivial ?_
  exact hk0 v1 v2 v3 (wadd v4 1) h _ e
def F260_0 : Nat → Int → Int → Int → Int → zHM → Option (Int × zHM)
  | 0, _, _, _, _, _ => none
  | n + 1, v1, v2, v3, v4, h => if (h 14 2) ≤ v4 then some (v3, h) else (F228 v1 v2 h).bind fun r1 => (F259 v4 v1 r1 h).bind fun r2 => if r2 ≤ 0 then F260_1 (F260_0 n) v1 v2 v3 v4 h else F260_1 (F260_0 n) v1 v2 (wor v3 (wshl 1 v4)) v4 h
set_option maxRecDepth 100000 in
theorem T260_0 {spec : zRn zH2} {hc : zHC} {o : Int → Int} {d : Nat} (hd : 3 ≤ d) : ∀ (n : Nat) (v1 : Int) (v2 : Int) (v3 : Int) (v4 : Int) (h : zHM) (v : (Int × zHM)), F260_0 n v1 v2 v3 v4 h = some v → zFin 0 (fun _ => 0) (zRu2 spec d) 260 (some (0, v.1)) (hc, v.2, o) (30, [some (22, 0), some (0, v1), some (0, v2), some (0, v3), some (0, v4)], [], (hc, h, o)) := by
  intro n
  induction n with
  | zero => intro v1 v2 v3 v4 h v e; unfold F260_0 at e; cases e
  | succ n hk0 =>
    intro v1 v2 v3 v4 h v e
    unfold F260_0 at e
    rcases zI_s e with ⟨q1, e⟩ | ⟨q1, e⟩
    · refine zF_blk (m := []) (d := 1) (b := B260_10) (gs := [0 ≤ 2 ∧ 2 < 2140, (h 14 2) ≤ v4]) (c' := (70, [some (22, 0), some (0, v1), some (0, v2), some (0, v3), some (0, v4)], [], (hc, h, o))) K260_10 rfl ⟨by decide, q1, trivial⟩ ?_
      refine zF_blk (m := []) (d := 0) (b := B260_6) (gs := []) (c' := (71, [some (22, 0), some (0, v1), some (0, v2), some (0, v3), some (0, v4)], [(0, v3)], (hc, h, o))) K260_6 rfl trivial ?_
      exact zF_riM (zRe1_w (by decide +kernel)) e
    · refine zF_blk (m := []) (d := 0) (b := B260_10) (gs := [0 ≤ 2 ∧ 2 < 2140, ¬ ((h 14 2) ≤ v4)]) (c' := (41, [some (22, 0), some (0, v1), some (0, v2), some (0, v3), some (0, v4)], [], (hc, h, o))) K260_10 rfl ⟨by decide, q1, trivial⟩ ?_
      obtain ⟨r1, q2, e⟩ := zB_s e
      refine zF_blk (m := []) (d := 0) (b := B260_7) (gs := []) (c' := (48, [some (22, 0), some (0, v1), some (0, v2), some (0, v3), some (0, v4)], [(0, v2), (0, v1), (22, 0), (0, v1), (0, v4), (22, 0)], (hc, h, o))) K260_7 rfl trivial ?_
      refine zF_call (k := 228) (cl := 12) (n := 3) (i := .invokevirtual 273) (args := [(22, 0), (0, v1), (0, v2)]) (rest := [(0, v1), (0, v4), (22, 0)]) (g1 := (hc, h, o)) (r1 := some (0, r1)) (zCk1_w (by decide +kernel)) rfl rfl rfl (st' := [(0, r1), (0, v1), (0, v4), (22, 0)]) rfl (S228 (Nat.le_trans (by decide) hd) v1 v2 h _ q2) ?_
      obtain ⟨r2, q3, e⟩ := zB_s e
      refine zF_call (k := 259) (cl := 12) (n := 4) (i := .invokevirtual 339) (args := [(22, 0), (0, v4), (0, v1), (0, r1)]) (rest := []) (g1 := (hc, h, o)) (r1 := some (0, r2)) (zCk1_w (by decide +kernel)) rfl rfl rfl (st' := [(0, r2)]) rfl (S259 (Nat.le_trans (by decide) hd) v4 v1 r1 h _ q3) ?_
      rcases zI_s e with ⟨q4, e⟩ | ⟨q4, e⟩
      · refine zF_blk (m := []) (d := 1) (b := B260_9) (gs := [r2 ≤ 0]) (c' := (64, [some (22, 0), some (0, v1), some (0, v2), some (0, v3), some (0, v4)], [], (hc, h, o))) K260_9 rfl ⟨q4, trivial⟩ ?_
        exact T260_1 hd (F260_0 n) hk0 v1 v2 v3 v4 h _ e
      · refine zF_blk (m := []) (d := 0) (b := B260_9) (gs := [¬ (r2 ≤ 0)]) (c' := (57, [some (22, 0), some (0, v1), some (0, v2), some (0, v3), some (0, v4)], [], (hc, h, o))) K260_9 rfl ⟨q4, trivial⟩ ?_
        refine zF_blk (m := []) (d := 0) (b := B260_8) (gs := []) (c' := (64, [some (22, 0), some (0, v1), some (0, v2), some (0, (wor v3 (wshl 1 v4))), some (0, v4)], [], (hc, h, o))) K260_8 rfl trivial ?_
        exact T260_1 hd (F260_0 n) hk0 v1 v2 (wor v3 (wshl 1 v4)) v4 h _ e
/-- EchoValeModel.reach(II)I -/
def F260 (v1 : Int) (v2 : Int) (h : zHM) : Option (Int × zHM) := (F224 v1 (mset h 0 0 0)).bind fun r1 => if r1 = 0 then some ((-1), (mset h 0 0 0)) else (F188 v2 1 9).bind fun r2 => if ¬ r2 = 0 then F260_0 zFu v1 v2 0 0 (mset h 0 0 0) else some ((-1), (mset h 0 0 0))
set_option maxRecDepth 100000 in
theorem S260 {spec : zRn zH2} {hc : zHC} {o : Int → Int} {d : Nat} (hd : 4 ≤ d) (v1 : Int) (v2 : Int) (h : zHM) (v : (Int × zHM)) (e : F260 v1 v2 h = some v) : zRu2 spec d 260 [(22, 0), (0, v1), (0, v2)] (hc, h, o) (some (0, v.1)) (hc, v.2, o) := by
  refine zF_in (D := 3) (mx := 5) (L := [some (22, 0), some (0, v1), some (0, v2), none, none]) (by decide +kernel) rfl rfl hd (fun d hd => ?_)
  unfold F260 at e
  obtain ⟨r1, q1, e⟩ := zB_s e
  refine zF_blk (m := []) (d := 0) (b := B260_0) (gs := []) (c' := (7, [some (22, 0), some (0, v1), some (0, v2), none, none], [(0, v1), (22, 0)], (hc, (mset h 0 0 0), o))) K260_0 rfl trivial ?_
  refine zF_call (k := 224) (cl := 12) (n := 2) (i := .invokevirtual 305) (args := [(22, 0), (0, v1)]) (rest := []) (g1 := (hc, (mset h 0 0 0), o)) (r1 := some (0, r1)) (zCk1_w (by decide +kernel)) rfl rfl rfl (st' := [(0, r1)]) rfl (S224 (Nat.le_trans (by decide) hd) v1 (mset h 0 0 0) _ q1) ?_
  rcases zI_s e with ⟨q2, e⟩ | ⟨q2, e⟩
  · refine zF_blk (m := []) (d := 1) (b := B260_5) (gs := [r1 = 0]) (c' := (23, [some (22, 0), some (0, v1), some (0, v2), none, none], [], (hc, (mset h 0 0 0), o))) K260_5 rfl ⟨q2, trivial⟩ ?_
    refine zF_blk (m := []) (d := 0) (b := B260_1) (gs := []) (c' := (24, [some (22, 0), some (0, v1), some (0, v2), none, none], [(0, (-1))], (hc, (mset h 0 0 0), o))) K260_1 rfl trivial ?_
    exact zF_riM (zRe1_w (by decide +kernel)) e
  · refine zF_blk (m := []) (d := 0) (b := B260_5) (gs := [¬ (r1 = 0)]) (c' := (13, [some (22, 0), some (0, v1), some (0, v2), none, none], [], (hc, (mset h 0 0 0), o))) K260_5 rfl ⟨q2, trivial⟩ ?_
    obtain ⟨r2, q3, e⟩ := zB_s e
    refine zF_blk (m := []) (d := 0) (b := B260_2) (gs := []) (c' := (17, [some (22, 0), some (0, v1), some (0, v2), none, none], [(0, 9), (0, 1), (0, v2)], (hc, (mset h 0 0 0), o))) K260_2 rfl trivial ?_
    refine zF_call (k := 188) (cl := 12) (n := 3) (i := .invokestatic 151) (args := [(0, v2), (0, 1), (0, 9)]) (rest := []) (g1 := (hc, (mset h 0 0 0), o)) (r1 := some (0, r2)) (zCk1_w (by decide +kernel)) rfl rfl rfl (st' := [(0, r2)]) rfl (S188 (Nat.le_trans (by decide) hd) v2 1 9 (mset h 0 0 0) _ q3) ?_
    rcases zI_s e with ⟨q4, e⟩ | ⟨q4, e⟩
    · refine zF_blk (m := []) (d := 1) (b := B260_4) (gs := [¬ r2 = 0]) (c' := (25, [some (22, 0), some (0, v1), some (0, v2), none, none], [], (hc, (mset h 0 0 0), o))) K260_4 rfl ⟨q4, trivial⟩ ?_
      refine zF_blk (m := []) (d := 0) (b := B260_3) (gs := []) (c' := (30, [some (22, 0), some (0, v1), some (0, v2), some (0, 0), some (0, 0)], [], (hc, (mset h 0 0 0), o))) K260_3 rfl trivial ?_
      exact T260_0 hd zFu v1 v2 0 0 (mset h 0 0 0) _ e
    · refine zF_blk (m := []) (d := 0) (b := B260_4) (gs := [¬ (¬ r2 = 0)]) (c' := (23, [some (22, 0), some (0, v1), some (0, v2), none, none], [], (hc, (mset h 0 0 0), o))) K260_4 rfl ⟨q4, trivial⟩ ?_
      refine zF_blk (m := []) (d := 0) (b := B260_1) (gs := []) (c' := (24, [some (22, 0), some (0, v1), some (0, v2), none, none], [(0, (-1))], (hc, (mset h 0 0 0), o))) K260_1 rfl trivial ?_
      exact zF_riM (zRe1_w (by decide +kernel)) e
noncomputable def B141_0 : List zRow := [(0, .aload_n 0, 1, (0, 0, 0)), (1, .iload_n 1, 1, (0, 0, 0))]
theorem K141_0 : zRk 141 B141_0 = true := zRw_ok (by decide +kernel)
noncomputable def B141_1 : List zRow := [(34, .iconst (-1), 1, (0, 0, 0))]
theorem K141_1 : zRk 141 B141_1 = true := zRw_ok (by decide +kernel)
noncomputable def B141_2 : List zRow := [(8, .iload_n 2, 1, (0, 0, 0))]
theorem K141_2 : zRk 141 B141_2 = true := zRw_ok (by decide +kernel)
noncomputable def B141_3 : List zRow := [(15, .aload_n 0, 1, (0, 0, 0)), (16, .getfield 19, 3, (11, 1, 39)), (19, .iload_n 1, 1, (0, 0, 0)), (20, .iload_n 2, 1, (0, 0, 0)), (21, .aload_n 0, 1, (0, 0, 0)), (22, .getfield 56, 3, (11, 6, 7)), (25, .getfield 177, 3, (1, 3, 5242906))]
theorem K141_3 : zRk 141 B141_3 = true := zRw_ok (by decide +kernel)
noncomputable def B141_4 : List zRow := [(31, .goto 4, 3, (0, 0, 0))]
theorem K141_4 : zRk 141 B141_4 = true := zRw_ok (by decide +kernel)
noncomputable def B141_5 : List zRow := [(12, .ifCond .eq 22, 3, (0, 0, 0))]
theorem K141_5 : zRk 141 B141_5 = true := zRw_ok (by decide +kernel)
noncomputable def B141_6 : List zRow := [(5, .ifCond .eq 29, 3, (0, 0, 0))]
theorem K141_6 : zRk 141 B141_6 = true := zRw_ok (by decide +kernel)
/-- EchoVale.hears(II)I -/
def F141 (v1 : Int) (v2 : Int) (h : zHC) : Option Int := (F59 v1 h).bind fun r1 => if r1 = 0 then some (-1) else (F74 v2).bind fun r2 => if r2 = 0 then some (-1) else (F93 0 v1 v2 0 h).bind fun r3 => some r3
set_option maxRecDepth 100000 in
theorem S141 {spec : zRn zH2} {hm : zHM} {o : Int → Int} {d : Nat} (hd : 3 ≤ d) (v1 : Int) (v2 : Int) (h : zHC) (v : Int) (e : F141 v1 v2 h = some v) : zRu2 spec d 141 [(21, 0), (0, v1), (0, v2)] (h, hm, o) (some (0, v)) (h, hm, o) := by
  refine zF_in (D := 2) (mx := 3) (L := [some (21, 0), some (0, v1), some (0, v2)]) (by decide +kernel) rfl rfl hd (fun d hd => ?_)
  unfold F141 at e
  obtain ⟨r1, q1, e⟩ := zB_s e
  refine zF_blk (m := []) (d := 0) (b := B141_0) (gs := []) (c' := (2, [some (21, 0), some (0, v1), some (0, v2)], [(0, v1), (21, 0)], (h, hm, o))) K141_0 rfl trivial ?_
  refine zF_call (k := 59) (cl := 11) (n := 2) (i := .invokevirtual 139) (args := [(21, 0), (0, v1)]) (rest := []) (g1 := (h, hm, o)) (r1 := some (0, r1)) (zCk1_w (by decide +kernel)) rfl rfl rfl (st' := [(0, r1)]) rfl (S59 (Nat.le_trans (by decide) hd) v1 h _ q1) ?_
  rcases zI_s e with ⟨q2, e⟩ | ⟨q2, e⟩
  · refine zF_blk (m := []) (d := 1) (b := B141_6) (gs := [r1 = 0]) (c' := (34, [some (21, 0), some (0, v1), some (0, v2)], [], (h, hm, o))) K141_6 rfl ⟨q2, trivial⟩ ?_
    refine zF_blk (m := []) (d := 0) (b := B141_1) (gs := []) (c' := (35, [some (21, 0), some (0, v1), some (0, v2)], [(0, (-1))], (h, hm, o))) K141_1 rfl trivial ?_
    obtain rfl := Option.some.inj e
    exact zF_ri (zRe1_w (by decide +kernel))
  · refine zF_blk (m := []) (d := 0) (b := B141_6) (gs := [¬ (r1 = 0)]) (c' := (8, [some (21, 0), some (0, v1), some (0, v2)], [], (h, hm, o))) K141_6 rfl ⟨q2, trivial⟩ ?_
    obtain ⟨r2, q3, e⟩ := zB_s e
    refine zF_blk (m := []) (d := 0) (b := B141_2) (gs := []) (c' := (9, [some (21, 0), some (0, v1), some (0, v2)], [(0, v2)], (h, hm, o))) K141_2 rfl trivial ?_
    refine zF_call (k := 74) (cl := 11) (n := 1) (i := .invokestatic 221) (args := [(0, v2)]) (rest := []) (g1 := (h, hm, o)) (r1 := some (0, r2)) (zCk1_w (by decide +kernel)) rfl rfl rfl (st' := [(0, r2)]) rfl (S74 (Nat.le_trans (by decide) hd) v2 h _ q3) ?_
    rcases zI_s e with ⟨q4, e⟩ | ⟨q4, e⟩
    · refine zF_blk (m := []) (d := 1) (b := B141_5) (gs := [r2 = 0]) (c' := (34, [some (21, 0), some (0, v1), some (0, v2)], [], (h, hm, o))) K141_5 rfl ⟨q4, trivial⟩ ?_
      refine zF_blk (m := []) (d := 0) (b := B141_1) (gs := []) (c' := (35, [some (21, 0), some (0, v1), some (0, v2)], [(0, (-1))], (h, hm, o))) K141_1 rfl trivial ?_
      obtain rfl := Option.some.inj e
      exact zF_ri (zRe1_w (by decide +kernel))
    · refine zF_blk (m := []) (d := 0) (b := B141_5) (gs := [¬ (r2 = 0)]) (c' := (15, [some (21, 0), some (0, v1), some (0, v2)], [], (h, hm, o))) K141_5 rfl ⟨q4, trivial⟩ ?_
      obtain ⟨r3, q5, e⟩ := zB_s e
      refine zF_blk (m := []) (d := 0) (b := B141_3) (gs := []) (c' := (28, [some (21, 0), some (0, v1), some (0, v2)], [(1342184491, 0), (0, v2), (0, v1), (19, 0)], (h, hm, o))) K141_3 rfl trivial ?_
      refine zF_call (k := 93) (cl := 9) (n := 4) (i := .invokevirtual 323) (args := [(19, 0), (0, v1), (0, v2), (1342184491, 0)]) (rest := []) (g1 := (h, hm, o)) (r1 := some (0, r3)) (zCk1_w (by decide +kernel)) rfl rfl rfl (st' := [(0, r3)]) rfl (S93 (Nat.le_trans (by decide) hd) 0 v1 v2 0 h _ q5) ?_
      refine zF_blk (m := []) (d := 0) (b := B141_4) (gs := []) (c' := (35, [some (21, 0), some (0, v1), some (0, v2)], [(0, r3)], (h, hm, o))) K141_4 rfl trivial ?_
      obtain rfl := Option.some.inj e
      exact zF_ri (zRe1_w (by decide +kernel))
noncomputable def B261_0 : List zRow := [(0, .aload_n 0, 1, (0, 0, 0)), (1, .iconst 0, 1, (0, 0, 0)), (2, .putfield 81, 3, (12, 0, 0)), (5, .aload_n 0, 1, (0, 0, 0)), (6, .iload_n 1, 1, (0, 0, 0))]
theorem K261_0 : zRk 261 B261_0 = true := zRw_ok (by decide +kernel)
noncomputable def B261_1 : List zRow := [(32, .iconst (-1), 1, (0, 0, 0))]
theorem K261_1 : zRk 261 B261_1 = true := zRw_ok (by decide +kernel)
noncomputable def B261_2 : List zRow := [(13, .iload_n 2, 1, (0, 0, 0)), (14, .iconst 1, 1, (0, 0, 0)), (15, .bipush 9, 2, (0, 0, 0))]
theorem K261_2 : zRk 261 B261_2 = true := zRw_ok (by decide +kernel)
noncomputable def B261_3 : List zRow := [(23, .aload_n 0, 1, (0, 0, 0)), (24, .iload_n 1, 1, (0, 0, 0)), (25, .iload_n 2, 1, (0, 0, 0))]
theorem K261_3 : zRk 261 B261_3 = true := zRw_ok (by decide +kernel)
noncomputable def B261_4 : List zRow := [(29, .goto 4, 3, (0, 0, 0))]
theorem K261_4 : zRk 261 B261_4 = true := zRw_ok (by decide +kernel)
noncomputable def B261_5 : List zRow := [(20, .ifCond .eq 12, 3, (0, 0, 0))]
theorem K261_5 : zRk 261 B261_5 = true := zRw_ok (by decide +kernel)
noncomputable def B261_6 : List zRow := [(10, .ifCond .eq 22, 3, (0, 0, 0))]
theorem K261_6 : zRk 261 B261_6 = true := zRw_ok (by decide +kernel)
/-- EchoValeModel.hears(II)I -/
def F261 (v1 : Int) (v2 : Int) (h : zHM) : Option (Int × zHM) := (F205 v1 (mset h 0 0 0)).bind fun r1 => if r1 = 0 then some ((-1), (mset h 0 0 0)) else (F188 v2 1 9).bind fun r2 => if r2 = 0 then some ((-1), (mset h 0 0 0)) else (F240 v1 v2 (mset h 0 0 0)).bind fun r3 => some (r3, (mset h 0 0 0))
set_option maxRecDepth 100000 in
theorem S261 {spec : zRn zH2} {hc : zHC} {o : Int → Int} {d : Nat} (hd : 4 ≤ d) (v1 : Int) (v2 : Int) (h : zHM) (v : (Int × zHM)) (e : F261 v1 v2 h = some v) : zRu2 spec d 261 [(22, 0), (0, v1), (0, v2)] (hc, h, o) (some (0, v.1)) (hc, v.2, o) := by
  refine zF_in (D := 3) (mx := 3) (L := [some (22, 0), some (0, v1), some (0, v2)]) (by decide +kernel) rfl rfl hd (fun d hd => ?_)
  unfold F261 at e
  obtain ⟨r1, q1, e⟩ := zB_s e
  refine zF_blk (m := []) (d := 0) (b := B261_0) (gs := []) (c' := (7, [some (22, 0), some (0, v1), some (0, v2)], [(0, v1), (22, 0)], (hc, (mset h 0 0 0), o))) K261_0 rfl trivial ?_
  refine zF_call (k := 205) (cl := 12) (n := 2) (i := .invokevirtual 235) (args := [(22, 0), (0, v1)]) (rest := []) (g1 := (hc, (mset h 0 0 0), o)) (r1 := some (0, r1)) (zCk1_w (by decide +kernel)) rfl rfl rfl (st' := [(0, r1)]) rfl (S205 (Nat.le_trans (by decide) hd) v1 (mset h 0 0 0) _ q1) ?_
  rcases zI_s e with ⟨q2, e⟩ | ⟨q2, e⟩
  · refine zF_blk (m := []) (d := 1) (b := B261_6) (gs := [r1 = 0]) (c' := (32, [some (22, 0), some (0, v1), some (0, v2)], [], (hc, (mset h 0 0 0), o))) K261_6 rfl ⟨q2, trivial⟩ ?_
    refine zF_blk (m := []) (d := 0) (b := B261_1) (gs := []) (c' := (33, [some (22, 0), some (0, v1), some (0, v2)], [(0, (-1))], (hc, (mset h 0 0 0), o))) K261_1 rfl trivial ?_
    exact zF_riM (zRe1_w (by decide +kernel)) e
  · refine zF_blk (m := []) (d := 0) (b := B261_6) (gs := [¬ (r1 = 0)]) (c' := (13, [some (22, 0), some (0, v1), some (0, v2)], [], (hc, (mset h 0 0 0), o))) K261_6 rfl ⟨q2, trivial⟩ ?_
    obtain ⟨r2, q3, e⟩ := zB_s e
    refine zF_blk (m := []) (d := 0) (b := B261_2) (gs := []) (c' := (17, [some (22, 0), some (0, v1), some (0, v2)], [(0, 9), (0, 1), (0, v2)], (hc, (mset h 0 0 0), o))) K261_2 rfl trivial ?_
    refine zF_call (k := 188) (cl := 12) (n := 3) (i := .invokestatic 151) (args := [(0, v2), (0, 1), (0, 9)]) (rest := []) (g1 := (hc, (mset h 0 0 0), o)) (r1 := some (0, r2)) (zCk1_w (by decide +kernel)) rfl rfl rfl (st' := [(0, r2)]) rfl (S188 (Nat.le_trans (by decide) hd) v2 1 9 (mset h 0 0 0) _ q3) ?_
    rcases zI_s e with ⟨q4, e⟩ | ⟨q4, e⟩
    · refine zF_blk (m := []) (d := 1) (b := B261_5) (gs := [r2 = 0]) (c' := (32, [some (22, 0), some (0, v1), some (0, v2)], [], (hc, (mset h 0 0 0), o))) K261_5 rfl ⟨q4, trivial⟩ ?_
      refine zF_blk (m := []) (d := 0) (b := B261_1) (gs := []) (c' := (33, [some (22, 0), some (0, v1), some (0, v2)], [(0, (-1))], (hc, (mset h 0 0 0), o))) K261_1 rfl trivial ?_
      exact zF_riM (zRe1_w (by decide +kernel)) e
    · refine zF_blk (m := []) (d := 0) (b := B261_5) (gs := [¬ (r2 = 0)]) (c' := (23, [some (22, 0), some (0, v1), some (0, v2)], [], (hc, (mset h 0 0 0), o))) K261_5 rfl ⟨q4, trivial⟩ ?_
      obtain ⟨r3, q5, e⟩ := zB_s e
      refine zF_blk (m := []) (d := 0) (b := B261_3) (gs := []) (c' := (26, [some (22, 0), some (0, v1), some (0, v2)], [(0, v2), (0, v1), (22, 0)], (hc, (mset h 0 0 0), o))) K261_3 rfl trivial ?_
      refine zF_call (k := 240) (cl := 12) (n := 3) (i := .invokevirtual 289) (args := [(22, 0), (0, v1), (0, v2)]) (rest := []) (g1 := (hc, (mset h 0 0 0), o)) (r1 := some (0, r3)) (zCk1_w (by decide +kernel)) rfl rfl rfl (st' := [(0, r3)]) rfl (S240 (Nat.le_trans (by decide) hd) v1 v2 (mset h 0 0 0) _ q5) ?_
      refine zF_blk (m := []) (d := 0) (b := B261_4) (gs := []) (c' := (33, [some (22, 0), some (0, v1), some (0, v2)], [(0, r3)], (hc, (mset h 0 0 0), o))) K261_4 rfl trivial ?_
      exact zF_riM (zRe1_w (by decide +kernel)) e
noncomputable def B144_0 : List zRow := [(9, .aload_n 0, 1, (0, 0, 0)), (10, .getfield 95, 3, (11, 13, 5243266)), (13, .aload_n 0, 1, (0, 0, 0)), (14, .getfield 327, 3, (11, 14, 0)), (17, .iload_n 1, 1, (0, 0, 0)), (18, .iastore, 1, (0, 0, 0)), (19, .aload_n 0, 1, (0, 0, 0)), (20, .dup, 1, (0, 0, 0)), (21, .getfield 327, 3, (11, 14, 0)), (24, .iconst 1, 1, (0, 0, 0)), (25, .iadd, 1, (0, 0, 0)), (26, .putfield 327, 3, (11, 14, 0))]
theorem K144_0 : zRk 144 B144_0 = true := zRw_ok (by decide +kernel)
noncomputable def B144_1 : List zRow := [(0, .aload_n 0, 1, (0, 0, 0)), (1, .getfield 327, 3, (11, 14, 0)), (4, .bipush 96, 2, (0, 0, 0)), (6, .if_icmp .ge 23, 3, (0, 0, 0))]
theorem K144_1 : zRk 144 B144_1 = true := zRw_ok (by decide +kernel)
/-- EchoVale.put(I)V -/
def F144 (v1 : Int) (h : zHC) : Option zHC := if 96 ≤ (h 718 0 0) then some h else zG (0 ≤ (h 718 0 0) ∧ (h 718 0 0) < 96) (some (hset (hset h 717 0 (h 718 0 0) v1) 718 0 0 (wadd (h 718 0 0) 1)))
set_option maxRecDepth 100000 in
theorem S144 {spec : zRn zH2} {hm : zHM} {o : Int → Int} {d : Nat} (hd : 1 ≤ d) (v1 : Int) (h : zHC) (v : zHC) (e : F144 v1 h = some v) : zRu2 spec d 144 [(21, 0), (0, v1)] (h, hm, o) none (v, hm, o) := by
  refine zF_in (D := 0) (mx := 2) (L := [some (21, 0), some (0, v1)]) (by decide +kernel) rfl rfl hd (fun d hd => ?_)
  unfold F144 at e
  rcases zI_s e with ⟨q1, e⟩ | ⟨q1, e⟩
  · refine zF_blk (m := []) (d := 1) (b := B144_1) (gs := [96 ≤ (h 718 0 0)]) (c' := (29, [some (21, 0), some (0, v1)], [], (h, hm, o))) K144_1 rfl ⟨q1, trivial⟩ ?_
    obtain rfl := Option.some.inj e
    exact zF_rv (zRe1_w (by decide +kernel))
  · refine zF_blk (m := []) (d := 0) (b := B144_1) (gs := [¬ (96 ≤ (h 718 0 0))]) (c' := (9, [some (21, 0), some (0, v1)], [], (h, hm, o))) K144_1 rfl ⟨q1, trivial⟩ ?_
    obtain ⟨q2, e⟩ := zG_s e
    refine zF_blk (m := []) (d := 0) (b := B144_0) (gs := [0 ≤ (h 718 0 0) ∧ (h 718 0 0) < 96]) (c' := (29, [some (21, 0), some (0, v1)], [], ((hset (hset h 717 0 (h 718 0 0) v1) 718 0 0 (wadd (h 718 0 0) 1)), hm, o))) K144_0 rfl ⟨q2, trivial⟩ ?_
    obtain rfl := Option.some.inj e
    exact zF_rv (zRe1_w (by decide +kernel))
noncomputable def B143_0 : List zRow := [(0, .bipush 6, 2, (0, 0, 0)), (2, .istore_n 3, 1, (0, 0, 0))]
theorem K143_0 : zRk 143 B143_0 = true := zRw_ok (by decide +kernel)
noncomputable def B143_1 : List zRow := [(23, .aload_n 0, 1, (0, 0, 0)), (24, .bipush 97, 2, (0, 0, 0)), (26, .iload 4, 2, (0, 0, 0))]
theorem K143_1 : zRk 143 B143_1 = true := zRw_ok (by decide +kernel)
noncomputable def B143_2 : List zRow := [(28, .iadd, 1, (0, 0, 0)), (29, .iconst 1, 1, (0, 0, 0)), (30, .isub, 1, (0, 0, 0))]
theorem K143_2 : zRk 143 B143_2 = true := zRw_ok (by decide +kernel)
noncomputable def B143_3 : List zRow := [(7, .lload_n 1, 1, (0, 0, 0)), (8, .iload_n 3, 1, (0, 0, 0)), (9, .iconst 5, 1, (0, 0, 0)), (10, .imul, 1, (0, 0, 0)), (11, .lshr, 1, (0, 0, 0)), (12, .l2i, 1, (0, 0, 0)), (13, .bipush 31, 2, (0, 0, 0)), (15, .iand, 1, (0, 0, 0)), (16, .istore 4, 2, (0, 0, 0)), (18, .iload 4, 2, (0, 0, 0)), (20, .ifCond .le 14, 3, (0, 0, 0))]
theorem K143_3 : zRk 143 B143_3 = true := zRw_ok (by decide +kernel)
noncomputable def B143_4 : List zRow := [(3, .iload_n 3, 1, (0, 0, 0)), (4, .ifCond .lt 36, 3, (0, 0, 0))]
theorem K143_4 : zRk 143 B143_4 = true := zRw_ok (by decide +kernel)
noncomputable def B143_5 : List zRow := [(34, .iinc 3 (-1), 3, (0, 0, 0)), (37, .goto (-34), 3, (0, 0, 0))]
theorem K143_5 : zRk 143 B143_5 = true := zRw_ok (by decide +kernel)
def F143_1 (k0 : Int → Int → zHC → Option zHC) (v1 : Int) (v3 : Int) (h : zHC) : Option zHC := k0 v1 (wadd v3 (-1)) h
set_option maxRecDepth 100000 in
theorem T143_1 {spec : zRn zH2} {hm : zHM} {o : Int → Int} {d : Nat} (hd : 1 ≤ d) (k0 : Int → Int → zHC → Option zHC) (hk0 : ∀ (v1 : Int) (v3 : Int) (h : zHC) (v : zHC), k0 v1 v3 h = some v → zFin 0 (fun _ => 0) (zRu2 spec d) 143 none (v, hm, o) (3, [some (21, 0), some (1, v1), none, some (0, v3), none], [], (h, hm, o))) (v1 : Int) (v3 : Int) (h : zHC) (v : zHC) (e : F143_1 k0 v1 v3 h = some v) : zFin 0 (fun _ => 0) (zRu2 spec d) 143 none (v, hm, o) (34, [some (21, 0), some (1, v1), none, some (0, v3), none], [], (h, hm, o)) := by
  unfold F143_1 at e
  refine zF_blk (m := []) (d := 0) (b := B143_5) (gs := []) (c' := (3, [some (21, 0), some (1, v1), none, some (0, (wadd v3 (-1))), none], [], (h, hm, o))) K143_5 rfl trivial ?_
  exact hk0 v1 (wadd v3 (-1)) h _ e
def F143_0 : Nat → Int → Int → zHC → Option zHC
  | 0, _, _, _ => none
  | n + 1, v1, v3, h => if v3 < 0 then some h else if (wand (wl2i (qshr v1 (wmul v3 5))) 31) ≤ 0 then F143_1 (F143_0 n) v1 v3 h else (F144 (wsub (wadd 97 (wand (wl2i (qshr v1 (wmul v3 5))) 31)) 1) h).bind fun r1 => F143_1 (F143_0 n) v1 v3 r1
set_option maxRecDepth 100000 in
theorem T143_0 {spec : zRn zH2} {hm : zHM} {o : Int → Int} {d : Nat} (hd : 1 ≤ d) : ∀ (n : Nat) (v1 : Int) (v3 : Int) (h : zHC) (v : zHC), F143_0 n v1 v3 h = some v → zFin 0 (fun _ => 0) (zRu2 spec d) 143 none (v, hm, o) (3, [some (21, 0), some (1, v1), none, some (0, v3), none], [], (h, hm, o)) := by
  intro n
  induction n with
  | zero => intro v1 v3 h v e; unfold F143_0 at e; cases e
  | succ n hk0 =>
    intro v1 v3 h v e
    unfold F143_0 at e
    rcases zI_s e with ⟨q1, e⟩ | ⟨q1, e⟩
    · refine zF_blk (m := []) (d := 1) (b := B143_4) (gs := [v3 < 0]) (c' := (40, [some (21, 0), some (1, v1), none, some (0, v3), none], [], (h, hm, o))) K143_4 rfl ⟨q1, trivial⟩ ?_
      obtain rfl := Option.some.inj e
      exact zF_rv (zRe1_w (by decide +kernel))
    · refine zF_blk (m := []) (d := 0) (b := B143_4) (gs := [¬ (v3 < 0)]) (c' := (7, [some (21, 0), some (1, v1), none, some (0, v3), none], [], (h, hm, o))) K143_4 rfl ⟨q1, trivial⟩ ?_
      rcases zI_s e with ⟨q2, e⟩ | ⟨q2, e⟩
      · refine zF_blk (m := []) (d := 1) (b := B143_3) (gs := [(wand (wl2i (qshr v1 (wmul v3 5))) 31) ≤ 0]) (c' := (34, [some (21, 0), some (1, v1), none, some (0, v3), some (0, (wand (wl2i (qshr v1 (wmul v3 5))) 31))], [], (h, hm, o))) K143_3 rfl ⟨q2, trivial⟩ ?_
        refine zF_blk (m := [true, true, false, true, false]) (d := 0) (b := []) (gs := []) (c' := (34, [some (21, 0), some (1, v1), none, some (0, v3), none], [], (h, hm, o))) rfl rfl trivial ?_
        exact T143_1 hd (F143_0 n) hk0 v1 v3 h _ e
      · refine zF_blk (m := []) (d := 0) (b := B143_3) (gs := [¬ ((wand (wl2i (qshr v1 (wmul v3 5))) 31) ≤ 0)]) (c' := (23, [some (21, 0), some (1, v1), none, some (0, v3), some (0, (wand (wl2i (qshr v1 (wmul v3 5))) 31))], [], (h, hm, o))) K143_3 rfl ⟨q2, trivial⟩ ?_
        refine zF_blk (m := []) (d := 0) (b := B143_1) (gs := []) (c' := (28, [some (21, 0), some (1, v1), none, some (0, v3), some (0, (wand (wl2i (qshr v1 (wmul v3 5))) 31))], [(0, (wand (wl2i (qshr v1 (wmul v3 5))) 31)), (0, 97), (21, 0)], (h, hm, o))) K143_1 rfl trivial ?_
        obtain ⟨r1, q3, e⟩ := zB_s e
        refine zF_blk (m := []) (d := 0) (b := B143_2) (gs := []) (c' := (31, [some (21, 0), some (1, v1), none, some (0, v3), some (0, (wand (wl2i (qshr v1 (wmul v3 5))) 31))], [(0, (wsub (wadd 97 (wand (wl2i (qshr v1 (wmul v3 5))) 31)) 1)), (21, 0)], (h, hm, o))) K143_2 rfl trivial ?_
        refine zF_call (k := 144) (cl := 11) (n := 2) (i := .invokevirtual 338) (args := [(21, 0), (0, (wsub (wadd 97 (wand (wl2i (qshr v1 (wmul v3 5))) 31)) 1))]) (rest := []) (g1 := (r1, hm, o)) (r1 := none) (zCk1_w (by decide +kernel)) rfl rfl rfl (st' := []) rfl (S144 (Nat.le_trans (by decide) hd) (wsub (wadd 97 (wand (wl2i (qshr v1 (wmul v3 5))) 31)) 1) h _ q3) ?_
        refine zF_blk (m := [true, true, false, true, false]) (d := 0) (b := []) (gs := []) (c' := (34, [some (21, 0), some (1, v1), none, some (0, v3), none], [], (r1, hm, o))) rfl rfl trivial ?_
        exact T143_1 hd (F143_0 n) hk0 v1 v3 r1 _ e
/-- EchoVale.putName(J)V -/
def F143 (v1 : Int) (h : zHC) : Option zHC := F143_0 zFu v1 6 h
set_option maxRecDepth 100000 in
theorem S143 {spec : zRn zH2} {hm : zHM} {o : Int → Int} {d : Nat} (hd : 2 ≤ d) (v1 : Int) (h : zHC) (v : zHC) (e : F143 v1 h = some v) : zRu2 spec d 143 [(21, 0), (1, v1)] (h, hm, o) none (v, hm, o) := by
  refine zF_in (D := 1) (mx := 5) (L := [some (21, 0), some (1, v1), none, none, none]) (by decide +kernel) rfl rfl hd (fun d hd => ?_)
  unfold F143 at e
  refine zF_blk (m := []) (d := 0) (b := B143_0) (gs := []) (c' := (3, [some (21, 0), some (1, v1), none, some (0, 6), none], [], (h, hm, o))) K143_0 rfl trivial ?_
  exact T143_0 hd zFu v1 6 h _ e
noncomputable def B145_0 : List zRow := [(6, .aload_n 0, 1, (0, 0, 0)), (7, .bipush 48, 2, (0, 0, 0)), (9, .iload_n 1, 1, (0, 0, 0)), (10, .bipush 100, 2, (0, 0, 0)), (12, .idiv, 1, (0, 0, 0))]
theorem K145_0 : zRk 145 B145_0 = true := zRw_ok (by decide +kernel)
noncomputable def B145_1 : List zRow := [(13, .iadd, 1, (0, 0, 0))]
theorem K145_1 : zRk 145 B145_1 = true := zRw_ok (by decide +kernel)
noncomputable def B145_2 : List zRow := [(0, .iload_n 1, 1, (0, 0, 0)), (1, .bipush 100, 2, (0, 0, 0)), (3, .if_icmp .lt 14, 3, (0, 0, 0))]
theorem K145_2 : zRk 145 B145_2 = true := zRw_ok (by decide +kernel)
noncomputable def B145_3 : List zRow := [(23, .aload_n 0, 1, (0, 0, 0)), (24, .bipush 48, 2, (0, 0, 0)), (26, .iload_n 1, 1, (0, 0, 0)), (27, .bipush 10, 2, (0, 0, 0)), (29, .idiv, 1, (0, 0, 0)), (30, .bipush 10, 2, (0, 0, 0)), (32, .irem, 1, (0, 0, 0))]
theorem K145_3 : zRk 145 B145_3 = true := zRw_ok (by decide +kernel)
noncomputable def B145_4 : List zRow := [(33, .iadd, 1, (0, 0, 0))]
theorem K145_4 : zRk 145 B145_4 = true := zRw_ok (by decide +kernel)
noncomputable def B145_5 : List zRow := [(17, .iload_n 1, 1, (0, 0, 0)), (18, .bipush 10, 2, (0, 0, 0)), (20, .if_icmp .lt 17, 3, (0, 0, 0))]
theorem K145_5 : zRk 145 B145_5 = true := zRw_ok (by decide +kernel)
noncomputable def B145_6 : List zRow := [(37, .aload_n 0, 1, (0, 0, 0)), (38, .bipush 48, 2, (0, 0, 0)), (40, .iload_n 1, 1, (0, 0, 0)), (41, .bipush 10, 2, (0, 0, 0)), (43, .irem, 1, (0, 0, 0))]
theorem K145_6 : zRk 145 B145_6 = true := zRw_ok (by decide +kernel)
noncomputable def B145_7 : List zRow := [(44, .iadd, 1, (0, 0, 0))]
theorem K145_7 : zRk 145 B145_7 = true := zRw_ok (by decide +kernel)
def F145_1 (v1 : Int) (h : zHC) : Option zHC := (F144 (wadd 48 (wrem v1 10)) h).bind fun r1 => some r1
set_option maxRecDepth 100000 in
theorem T145_1 {spec : zRn zH2} {hm : zHM} {o : Int → Int} {d : Nat} (hd : 1 ≤ d) (v1 : Int) (h : zHC) (v : zHC) (e : F145_1 v1 h = some v) : zFin 0 (fun _ => 0) (zRu2 spec d) 145 none (v, hm, o) (37, [some (21, 0), some (0, v1)], [], (h, hm, o)) := by
  unfold F145_1 at e
  refine zF_blk (m := []) (d := 0) (b := B145_6) (gs := [¬ 10 = 0]) (c' := (44, [some (21, 0), some (0, v1)], [(0, (wrem v1 10)), (0, 48), (21, 0)], (h, hm, o))) K145_6 rfl ⟨by decide, trivial⟩ ?_
  obtain ⟨r1, q1, e⟩ := zB_s e
  refine zF_blk (m := []) (d := 0) (b := B145_7) (gs := []) (c' := (45, [some (21, 0), some (0, v1)], [(0, (wadd 48 (wrem v1 10))), (21, 0)], (h, hm, o))) K145_7 rfl trivial ?_
  refine zF_call (k := 144) (cl := 11) (n := 2) (i := .invokevirtual 338) (args := [(21, 0), (0, (wadd 48 (wrem v1 10)))]) (rest := []) (g1 := (r1, hm, o)) (r1 := none) (zCk1_w (by decide +kernel)) rfl rfl rfl (st' := []) rfl (S144 (Nat.le_trans (by decide) hd) (wadd 48 (wrem v1 10)) h _ q1) ?_
  obtain rfl := Option.some.inj e
  exact zF_rv (zRe1_w (by decide +kernel))
def F145_0 (v1 : Int) (h : zHC) : Option zHC := if v1 < 10 then F145_1 v1 h else (F144 (wadd 48 (wrem (wdiv v1 10) 10)) h).bind fun r1 => F145_1 v1 r1
set_option maxRecDepth 100000 in
theorem T145_0 {spec : zRn zH2} {hm : zHM} {o : Int → Int} {d : Nat} (hd : 1 ≤ d) (v1 : Int) (h : zHC) (v : zHC) (e : F145_0 v1 h = some v) : zFin 0 (fun _ => 0) (zRu2 spec d) 145 none (v, hm, o) (17, [some (21, 0), some (0, v1)], [], (h, hm, o)) := by
  unfold F145_0 at e
  rcases zI_s e with ⟨q1, e⟩ | ⟨q1, e⟩
  · refine zF_blk (m := []) (d := 1) (b := B145_5) (gs := [v1 < 10]) (c' := (37, [some (21, 0), some (0, v1)], [], (h, hm, o))) K145_5 rfl ⟨q1, trivial⟩ ?_
    exact T145_1 hd v1 h _ e
  · refine zF_blk (m := []) (d := 0) (b := B145_5) (gs := [¬ (v1 < 10)]) (c' := (23, [some (21, 0), some (0, v1)], [], (h, hm, o))) K145_5 rfl ⟨q1, trivial⟩ ?_
    refine zF_blk (m := []) (d := 0) (b := B145_3) (gs := [¬ 10 = 0, ¬ 10 = 0]) (c' := (33, [some (21, 0), some (0, v1)], [(0, (wrem (wdiv v1 10) 10)), (0, 48), (21, 0)], (h, hm, o))) K145_3 rfl ⟨by decide, by decide, trivial⟩ ?_
    obtain ⟨r1, q2, e⟩ := zB_s e
    refine zF_blk (m := []) (d := 0) (b := B145_4) (gs := []) (c' := (34, [some (21, 0), some (0, v1)], [(0, (wadd 48 (wrem (wdiv v1 10) 10))), (21, 0)], (h, hm, o))) K145_4 rfl trivial ?_
    refine zF_call (k := 144) (cl := 11) (n := 2) (i := .invokevirtual 338) (args := [(21, 0), (0, (wadd 48 (wrem (wdiv v1 10) 10)))]) (rest := []) (g1 := (r1, hm, o)) (r1 := none) (zCk1_w (by decide +kernel)) rfl rfl rfl (st' := []) rfl (S144 (Nat.le_trans (by decide) hd) (wadd 48 (wrem (wdiv v1 10) 10)) h _ q2) ?_
    exact T145_1 hd v1 r1 _ e
/-- EchoVale.putNumber(I)V -/
def F145 (v1 : Int) (h : zHC) : Option zHC := if v1 < 100 then F145_0 v1 h else (F144 (wadd 48 (wdiv v1 100)) h).bind fun r1 => F145_0 v1 r1
set_option maxRecDepth 100000 in
theorem S145 {spec : zRn zH2} {hm : zHM} {o : Int → Int} {d : Nat} (hd : 2 ≤ d) (v1 : Int) (h : zHC) (v : zHC) (e : F145 v1 h = some v) : zRu2 spec d 145 [(21, 0), (0, v1)] (h, hm, o) none (v, hm, o) := by
  refine zF_in (D := 1) (mx := 2) (L := [some (21, 0), some (0, v1)]) (by decide +kernel) rfl rfl hd (fun d hd => ?_)
  unfold F145 at e
  rcases zI_s e with ⟨q1, e⟩ | ⟨q1, e⟩
  · refine zF_blk (m := []) (d := 1) (b := B145_2) (gs := [v1 < 100]) (c' := (17, [some (21, 0), some (0, v1)], [], (h, hm, o))) K145_2 rfl ⟨q1, trivial⟩ ?_
    exact T145_0 hd v1 h _ e
  · refine zF_blk (m := []) (d := 0) (b := B145_2) (gs := [¬ (v1 < 100)]) (c' := (6, [some (21, 0), some (0, v1)], [], (h, hm, o))) K145_2 rfl ⟨q1, trivial⟩ ?_
    refine zF_blk (m := []) (d := 0) (b := B145_0) (gs := [¬ 100 = 0]) (c' := (13, [some (21, 0), some (0, v1)], [(0, (wdiv v1 100)), (0, 48), (21, 0)], (h, hm, o))) K145_0 rfl ⟨by decide, trivial⟩ ?_
    obtain ⟨r1, q2, e⟩ := zB_s e
    refine zF_blk (m := []) (d := 0) (b := B145_1) (gs := []) (c' := (14, [some (21, 0), some (0, v1)], [(0, (wadd 48 (wdiv v1 100))), (21, 0)], (h, hm, o))) K145_1 rfl trivial ?_
    refine zF_call (k := 144) (cl := 11) (n := 2) (i := .invokevirtual 338) (args := [(21, 0), (0, (wadd 48 (wdiv v1 100)))]) (rest := []) (g1 := (r1, hm, o)) (r1 := none) (zCk1_w (by decide +kernel)) rfl rfl rfl (st' := []) rfl (S144 (Nat.le_trans (by decide) hd) (wadd 48 (wdiv v1 100)) h _ q2) ?_
    exact T145_0 hd v1 r1 _ e
noncomputable def B142_0 : List zRow := [(0, .aload_n 0, 1, (0, 0, 0)), (1, .iload_n 1, 1, (0, 0, 0))]
theorem K142_0 : zRk 142 B142_0 = true := zRw_ok (by decide +kernel)
noncomputable def B142_1 : List zRow := [(10, .aload_n 0, 1, (0, 0, 0)), (11, .iconst 0, 1, (0, 0, 0)), (12, .putfield 327, 3, (11, 14, 0)), (15, .iconst 0, 1, (0, 0, 0)), (16, .istore_n 2, 1, (0, 0, 0))]
theorem K142_1 : zRk 142 B142_1 = true := zRw_ok (by decide +kernel)
noncomputable def B142_2 : List zRow := [(8, .iconst (-1), 1, (0, 0, 0))]
theorem K142_2 : zRk 142 B142_2 = true := zRw_ok (by decide +kernel)
noncomputable def B142_3 : List zRow := [(5, .ifCond .ne 5, 3, (0, 0, 0))]
theorem K142_3 : zRk 142 B142_3 = true := zRw_ok (by decide +kernel)
noncomputable def B142_4 : List zRow := [(112, .aload_n 0, 1, (0, 0, 0)), (113, .getfield 327, 3, (11, 14, 0))]
theorem K142_4 : zRk 142 B142_4 = true := zRw_ok (by decide +kernel)
noncomputable def B142_5 : List zRow := [(28, .aload_n 0, 1, (0, 0, 0)), (29, .getfield 56, 3, (11, 6, 7)), (32, .iload_n 2, 1, (0, 0, 0)), (33, .iconst 0, 1, (0, 0, 0))]
theorem K142_5 : zRk 142 B142_5 = true := zRw_ok (by decide +kernel)
noncomputable def B142_6 : List zRow := [(41, .aload_n 0, 1, (0, 0, 0)), (42, .aload_n 0, 1, (0, 0, 0)), (43, .getfield 19, 3, (11, 1, 39)), (46, .getfield 330, 3, (9, 7, 5505050)), (49, .aload_n 0, 1, (0, 0, 0)), (50, .getfield 56, 3, (11, 6, 7)), (53, .iload_n 2, 1, (0, 0, 0)), (54, .iconst 1, 1, (0, 0, 0))]
theorem K142_6 : zRk 142 B142_6 = true := zRw_ok (by decide +kernel)
noncomputable def B142_7 : List zRow := [(58, .laload, 1, (0, 0, 0))]
theorem K142_7 : zRk 142 B142_7 = true := zRw_ok (by decide +kernel)
noncomputable def B142_8 : List zRow := [(62, .aload_n 0, 1, (0, 0, 0)), (63, .bipush 32, 2, (0, 0, 0))]
theorem K142_8 : zRk 142 B142_8 = true := zRw_ok (by decide +kernel)
noncomputable def B142_9 : List zRow := [(68, .aload_n 0, 1, (0, 0, 0)), (69, .aload_n 0, 1, (0, 0, 0)), (70, .getfield 56, 3, (11, 6, 7)), (73, .iload_n 2, 1, (0, 0, 0)), (74, .iconst 2, 1, (0, 0, 0))]
theorem K142_9 : zRk 142 B142_9 = true := zRw_ok (by decide +kernel)
noncomputable def B142_10 : List zRow := [(81, .aload_n 0, 1, (0, 0, 0)), (82, .bipush 32, 2, (0, 0, 0))]
theorem K142_10 : zRk 142 B142_10 = true := zRw_ok (by decide +kernel)
noncomputable def B142_11 : List zRow := [(87, .aload_n 0, 1, (0, 0, 0)), (88, .aload_n 0, 1, (0, 0, 0)), (89, .getfield 56, 3, (11, 6, 7)), (92, .iload_n 2, 1, (0, 0, 0)), (93, .iconst 3, 1, (0, 0, 0))]
theorem K142_11 : zRk 142 B142_11 = true := zRw_ok (by decide +kernel)
noncomputable def B142_12 : List zRow := [(100, .aload_n 0, 1, (0, 0, 0)), (101, .bipush 59, 2, (0, 0, 0))]
theorem K142_12 : zRk 142 B142_12 = true := zRw_ok (by decide +kernel)
noncomputable def B142_13 : List zRow := [(37, .iload_n 1, 1, (0, 0, 0)), (38, .if_icmp .ne 68, 3, (0, 0, 0))]
theorem K142_13 : zRk 142 B142_13 = true := zRw_ok (by decide +kernel)
noncomputable def B142_14 : List zRow := [(17, .iload_n 2, 1, (0, 0, 0)), (18, .aload_n 0, 1, (0, 0, 0)), (19, .getfield 56, 3, (11, 6, 7)), (22, .getfield 208, 3, (1, 2, 0)), (25, .if_icmp .ge 87, 3, (0, 0, 0))]
theorem K142_14 : zRk 142 B142_14 = true := zRw_ok (by decide +kernel)
noncomputable def B142_15 : List zRow := [(106, .iinc 2 1, 3, (0, 0, 0)), (109, .goto (-92), 3, (0, 0, 0))]
theorem K142_15 : zRk 142 B142_15 = true := zRw_ok (by decide +kernel)
def F142_1 (k0 : Int → Int → zHC → Option (Int × zHC)) (v1 : Int) (v2 : Int) (h : zHC) : Option (Int × zHC) := k0 v1 (wadd v2 1) h
set_option maxRecDepth 100000 in
theorem T142_1 {spec : zRn zH2} {hm : zHM} {o : Int → Int} {d : Nat} (hd : 2 ≤ d) (k0 : Int → Int → zHC → Option (Int × zHC)) (hk0 : ∀ (v1 : Int) (v2 : Int) (h : zHC) (v : (Int × zHC)), k0 v1 v2 h = some v → zFin 0 (fun _ => 0) (zRu2 spec d) 142 (some (0, v.1)) (v.2, hm, o) (17, [some (21, 0), some (0, v1), some (0, v2)], [], (h, hm, o))) (v1 : Int) (v2 : Int) (h : zHC) (v : (Int × zHC)) (e : F142_1 k0 v1 v2 h = some v) : zFin 0 (fun _ => 0) (zRu2 spec d) 142 (some (0, v.1)) (v.2, hm, o) (106, [some (21, 0), some (0, v1), some (0, v2)], [], (h, hm, o)) := by
  unfold F142_1 at e
  refine zF_blk (m := []) (d := 0) (b := B142_15) (gs := []) (c' := (17, [some (21, 0), some (0, v1), some (0, (wadd v2 1))], [], (h, hm, o))) K142_15 rfl trivial ?_
  exact hk0 v1 (wadd v2 1) h _ e
def F142_0 : Nat → Int → Int → zHC → Option (Int × zHC)
  | 0, _, _, _ => none
  | n + 1, v1, v2, h => if (h 66 0 0) ≤ v2 then some ((h 718 0 0), h) else (F67 0 v2 0 h).bind fun r1 => if ¬ r1 = v1 then F142_1 (F142_0 n) v1 v2 h else (F67 0 v2 1 h).bind fun r2 => zG (0 ≤ r2 ∧ r2 < 6) ((F143 (h 583 0 r2) h).bind fun r3 => (F144 32 r3).bind fun r4 => (F67 0 v2 2 r4).bind fun r5 => (F145 r5 r4).bind fun r6 => (F144 32 r6).bind fun r7 => (F67 0 v2 3 r7).bind fun r8 => (F145 r8 r7).bind fun r9 => (F144 59 r9).bind fun r10 => F142_1 (F142_0 n) v1 v2 r10)
set_option maxRecDepth 100000 in
theorem T142_0 {spec : zRn zH2} {hm : zHM} {o : Int → Int} {d : Nat} (hd : 2 ≤ d) : ∀ (n : Nat) (v1 : Int) (v2 : Int) (h : zHC) (v : (Int × zHC)), F142_0 n v1 v2 h = some v → zFin 0 (fun _ => 0) (zRu2 spec d) 142 (some (0, v.1)) (v.2, hm, o) (17, [some (21, 0), some (0, v1), some (0, v2)], [], (h, hm, o)) := by
  intro n
  induction n with
  | zero => intro v1 v2 h v e; unfold F142_0 at e; cases e
  | succ n hk0 =>
    intro v1 v2 h v e
    unfold F142_0 at e
    rcases zI_s e with ⟨q1, e⟩ | ⟨q1, e⟩
    · refine zF_blk (m := []) (d := 1) (b := B142_14) (gs := [(h 66 0 0) ≤ v2]) (c' := (112, [some (21, 0), some (0, v1), some (0, v2)], [], (h, hm, o))) K142_14 rfl ⟨q1, trivial⟩ ?_
      refine zF_blk (m := []) (d := 0) (b := B142_4) (gs := []) (c' := (116, [some (21, 0), some (0, v1), some (0, v2)], [(0, (h 718 0 0))], (h, hm, o))) K142_4 rfl trivial ?_
      exact zF_riC (zRe1_w (by decide +kernel)) e
    · refine zF_blk (m := []) (d := 0) (b := B142_14) (gs := [¬ ((h 66 0 0) ≤ v2)]) (c' := (28, [some (21, 0), some (0, v1), some (0, v2)], [], (h, hm, o))) K142_14 rfl ⟨q1, trivial⟩ ?_
      obtain ⟨r1, q2, e⟩ := zB_s e
      refine zF_blk (m := []) (d := 0) (b := B142_5) (gs := []) (c' := (34, [some (21, 0), some (0, v1), some (0, v2)], [(0, 0), (0, v2), (11, 0)], (h, hm, o))) K142_5 rfl trivial ?_
      refine zF_call (k := 67) (cl := 1) (n := 3) (i := .invokevirtual 211) (args := [(11, 0), (0, v2), (0, 0)]) (rest := []) (g1 := (h, hm, o)) (r1 := some (0, r1)) (zCk1_w (by decide +kernel)) rfl rfl rfl (st' := [(0, r1)]) rfl (S67 (Nat.le_trans (by decide) hd) 0 v2 0 h _ q2) ?_
      rcases zI_s e with ⟨q3, e⟩ | ⟨q3, e⟩
      · refine zF_blk (m := []) (d := 1) (b := B142_13) (gs := [¬ r1 = v1]) (c' := (106, [some (21, 0), some (0, v1), some (0, v2)], [], (h, hm, o))) K142_13 rfl ⟨q3, trivial⟩ ?_
        exact T142_1 hd (F142_0 n) hk0 v1 v2 h _ e
      · refine zF_blk (m := []) (d := 0) (b := B142_13) (gs := [¬ (¬ r1 = v1)]) (c' := (41, [some (21, 0), some (0, v1), some (0, v2)], [], (h, hm, o))) K142_13 rfl ⟨q3, trivial⟩ ?_
        obtain ⟨r2, q4, e⟩ := zB_s e
        refine zF_blk (m := []) (d := 0) (b := B142_6) (gs := []) (c' := (55, [some (21, 0), some (0, v1), some (0, v2)], [(0, 1), (0, v2), (11, 0), (1409293871, 0), (21, 0)], (h, hm, o))) K142_6 rfl trivial ?_
        refine zF_call (k := 67) (cl := 1) (n := 3) (i := .invokevirtual 211) (args := [(11, 0), (0, v2), (0, 1)]) (rest := [(1409293871, 0), (21, 0)]) (g1 := (h, hm, o)) (r1 := some (0, r2)) (zCk1_w (by decide +kernel)) rfl rfl rfl (st' := [(0, r2), (1409293871, 0), (21, 0)]) rfl (S67 (Nat.le_trans (by decide) hd) 0 v2 1 h _ q4) ?_
        obtain ⟨q5, e⟩ := zG_s e
        obtain ⟨r3, q6, e⟩ := zB_s e
        refine zF_blk (m := []) (d := 0) (b := B142_7) (gs := [0 ≤ r2 ∧ r2 < 6]) (c' := (59, [some (21, 0), some (0, v1), some (0, v2)], [(1, (h 583 0 r2)), (21, 0)], (h, hm, o))) K142_7 rfl ⟨q5, trivial⟩ ?_
        refine zF_call (k := 143) (cl := 11) (n := 2) (i := .invokevirtual 334) (args := [(21, 0), (1, (h 583 0 r2))]) (rest := []) (g1 := (r3, hm, o)) (r1 := none) (zCk1_w (by decide +kernel)) rfl rfl rfl (st' := []) rfl (S143 (Nat.le_trans (by decide) hd) (h 583 0 r2) h _ q6) ?_
        obtain ⟨r4, q7, e⟩ := zB_s e
        refine zF_blk (m := []) (d := 0) (b := B142_8) (gs := []) (c' := (65, [some (21, 0), some (0, v1), some (0, v2)], [(0, 32), (21, 0)], (r3, hm, o))) K142_8 rfl trivial ?_
        refine zF_call (k := 144) (cl := 11) (n := 2) (i := .invokevirtual 338) (args := [(21, 0), (0, 32)]) (rest := []) (g1 := (r4, hm, o)) (r1 := none) (zCk1_w (by decide +kernel)) rfl rfl rfl (st' := []) rfl (S144 (Nat.le_trans (by decide) hd) 32 r3 _ q7) ?_
        obtain ⟨r5, q8, e⟩ := zB_s e
        refine zF_blk (m := []) (d := 0) (b := B142_9) (gs := []) (c' := (75, [some (21, 0), some (0, v1), some (0, v2)], [(0, 2), (0, v2), (11, 0), (21, 0)], (r4, hm, o))) K142_9 rfl trivial ?_
        refine zF_call (k := 67) (cl := 1) (n := 3) (i := .invokevirtual 211) (args := [(11, 0), (0, v2), (0, 2)]) (rest := [(21, 0)]) (g1 := (r4, hm, o)) (r1 := some (0, r5)) (zCk1_w (by decide +kernel)) rfl rfl rfl (st' := [(0, r5), (21, 0)]) rfl (S67 (Nat.le_trans (by decide) hd) 0 v2 2 r4 _ q8) ?_
        obtain ⟨r6, q9, e⟩ := zB_s e
        refine zF_call (k := 145) (cl := 11) (n := 2) (i := .invokevirtual 341) (args := [(21, 0), (0, r5)]) (rest := []) (g1 := (r6, hm, o)) (r1 := none) (zCk1_w (by decide +kernel)) rfl rfl rfl (st' := []) rfl (S145 (Nat.le_trans (by decide) hd) r5 r4 _ q9) ?_
        obtain ⟨r7, q10, e⟩ := zB_s e
        refine zF_blk (m := []) (d := 0) (b := B142_10) (gs := []) (c' := (84, [some (21, 0), some (0, v1), some (0, v2)], [(0, 32), (21, 0)], (r6, hm, o))) K142_10 rfl trivial ?_
        refine zF_call (k := 144) (cl := 11) (n := 2) (i := .invokevirtual 338) (args := [(21, 0), (0, 32)]) (rest := []) (g1 := (r7, hm, o)) (r1 := none) (zCk1_w (by decide +kernel)) rfl rfl rfl (st' := []) rfl (S144 (Nat.le_trans (by decide) hd) 32 r6 _ q10) ?_
        obtain ⟨r8, q11, e⟩ := zB_s e
        refine zF_blk (m := []) (d := 0) (b := B142_11) (gs := []) (c' := (94, [some (21, 0), some (0, v1), some (0, v2)], [(0, 3), (0, v2), (11, 0), (21, 0)], (r7, hm, o))) K142_11 rfl trivial ?_
        refine zF_call (k := 67) (cl := 1) (n := 3) (i := .invokevirtual 211) (args := [(11, 0), (0, v2), (0, 3)]) (rest := [(21, 0)]) (g1 := (r7, hm, o)) (r1 := some (0, r8)) (zCk1_w (by decide +kernel)) rfl rfl rfl (st' := [(0, r8), (21, 0)]) rfl (S67 (Nat.le_trans (by decide) hd) 0 v2 3 r7 _ q11) ?_
        obtain ⟨r9, q12, e⟩ := zB_s e
        refine zF_call (k := 145) (cl := 11) (n := 2) (i := .invokevirtual 341) (args := [(21, 0), (0, r8)]) (rest := []) (g1 := (r9, hm, o)) (r1 := none) (zCk1_w (by decide +kernel)) rfl rfl rfl (st' := []) rfl (S145 (Nat.le_trans (by decide) hd) r8 r7 _ q12) ?_
        obtain ⟨r10, q13, e⟩ := zB_s e
        refine zF_blk (m := []) (d := 0) (b := B142_12) (gs := []) (c' := (103, [some (21, 0), some (0, v1), some (0, v2)], [(0, 59), (21, 0)], (r9, hm, o))) K142_12 rfl trivial ?_
        refine zF_call (k := 144) (cl := 11) (n := 2) (i := .invokevirtual 338) (args := [(21, 0), (0, 59)]) (rest := []) (g1 := (r10, hm, o)) (r1 := none) (zCk1_w (by decide +kernel)) rfl rfl rfl (st' := []) rfl (S144 (Nat.le_trans (by decide) hd) 59 r9 _ q13) ?_
        exact T142_1 hd (F142_0 n) hk0 v1 v2 r10 _ e
/-- EchoVale.write(I)I -/
def F142 (v1 : Int) (h : zHC) : Option (Int × zHC) := (F58 v1 h).bind fun r1 => if ¬ r1 = 0 then F142_0 zFu v1 0 (hset h 718 0 0 0) else some ((-1), h)
set_option maxRecDepth 100000 in
theorem S142 {spec : zRn zH2} {hm : zHM} {o : Int → Int} {d : Nat} (hd : 3 ≤ d) (v1 : Int) (h : zHC) (v : (Int × zHC)) (e : F142 v1 h = some v) : zRu2 spec d 142 [(21, 0), (0, v1)] (h, hm, o) (some (0, v.1)) (v.2, hm, o) := by
  refine zF_in (D := 2) (mx := 3) (L := [some (21, 0), some (0, v1), none]) (by decide +kernel) rfl rfl hd (fun d hd => ?_)
  unfold F142 at e
  obtain ⟨r1, q1, e⟩ := zB_s e
  refine zF_blk (m := []) (d := 0) (b := B142_0) (gs := []) (c' := (2, [some (21, 0), some (0, v1), none], [(0, v1), (21, 0)], (h, hm, o))) K142_0 rfl trivial ?_
  refine zF_call (k := 58) (cl := 11) (n := 2) (i := .invokevirtual 191) (args := [(21, 0), (0, v1)]) (rest := []) (g1 := (h, hm, o)) (r1 := some (0, r1)) (zCk1_w (by decide +kernel)) rfl rfl rfl (st' := [(0, r1)]) rfl (S58 (Nat.le_trans (by decide) hd) v1 h _ q1) ?_
  rcases zI_s e with ⟨q2, e⟩ | ⟨q2, e⟩
  · refine zF_blk (m := []) (d := 1) (b := B142_3) (gs := [¬ r1 = 0]) (c' := (10, [some (21, 0), some (0, v1), none], [], (h, hm, o))) K142_3 rfl ⟨q2, trivial⟩ ?_
    refine zF_blk (m := []) (d := 0) (b := B142_1) (gs := []) (c' := (17, [some (21, 0), some (0, v1), some (0, 0)], [], ((hset h 718 0 0 0), hm, o))) K142_1 rfl trivial ?_
    exact T142_0 hd zFu v1 0 (hset h 718 0 0 0) _ e
  · refine zF_blk (m := []) (d := 0) (b := B142_3) (gs := [¬ (¬ r1 = 0)]) (c' := (8, [some (21, 0), some (0, v1), none], [], (h, hm, o))) K142_3 rfl ⟨q2, trivial⟩ ?_
    refine zF_blk (m := []) (d := 0) (b := B142_2) (gs := []) (c' := (9, [some (21, 0), some (0, v1), none], [(0, (-1))], (h, hm, o))) K142_2 rfl trivial ?_
    exact zF_riC (zRe1_w (by decide +kernel)) e
noncomputable def B277_0 : List zRow := [(0, .aload_n 0, 1, (0, 0, 0)), (1, .getfield 72, 3, (12, 42, 5243682)), (4, .aload_n 0, 1, (0, 0, 0)), (5, .getfield 385, 3, (12, 44, 0)), (8, .iload_n 1, 1, (0, 0, 0)), (9, .iastore, 1, (0, 0, 0)), (10, .aload_n 0, 1, (0, 0, 0)), (11, .dup, 1, (0, 0, 0)), (12, .getfield 385, 3, (12, 44, 0)), (15, .iconst 1, 1, (0, 0, 0)), (16, .iadd, 1, (0, 0, 0)), (17, .putfield 385, 3, (12, 44, 0))]
theorem K277_0 : zRk 277 B277_0 = true := zRw_ok (by decide +kernel)
/-- EchoValeModel.put(I)V -/
def F277 (v1 : Int) (h : zHM) : Option zHM := zG (0 ≤ (h 44 0) ∧ (h 44 0) < 200) (some (mset (mset h 42 (h 44 0) v1) 44 0 (wadd (h 44 0) 1)))
set_option maxRecDepth 100000 in
theorem S277 {spec : zRn zH2} {hc : zHC} {o : Int → Int} {d : Nat} (hd : 1 ≤ d) (v1 : Int) (h : zHM) (v : zHM) (e : F277 v1 h = some v) : zRu2 spec d 277 [(22, 0), (0, v1)] (hc, h, o) none (hc, v, o) := by
  refine zF_in (D := 0) (mx := 2) (L := [some (22, 0), some (0, v1)]) (by decide +kernel) rfl rfl hd (fun d hd => ?_)
  unfold F277 at e
  obtain ⟨q1, e⟩ := zG_s e
  refine zF_blk (m := []) (d := 0) (b := B277_0) (gs := [0 ≤ (h 44 0) ∧ (h 44 0) < 200]) (c' := (20, [some (22, 0), some (0, v1)], [], (hc, (mset (mset h 42 (h 44 0) v1) 44 0 (wadd (h 44 0) 1)), o))) K277_0 rfl ⟨q1, trivial⟩ ?_
  obtain rfl := Option.some.inj e
  exact zF_rv (zRe1_w (by decide +kernel))
noncomputable def B278_0 : List zRow := [(0, .aload_n 0, 1, (0, 0, 0)), (1, .bipush 32, 2, (0, 0, 0))]
theorem K278_0 : zRk 278 B278_0 = true := zRw_ok (by decide +kernel)
noncomputable def B278_1 : List zRow := [(12, .aload_n 0, 1, (0, 0, 0)), (13, .bipush 48, 2, (0, 0, 0)), (15, .iload_n 1, 1, (0, 0, 0)), (16, .bipush 100, 2, (0, 0, 0)), (18, .idiv, 1, (0, 0, 0))]
theorem K278_1 : zRk 278 B278_1 = true := zRw_ok (by decide +kernel)
noncomputable def B278_2 : List zRow := [(19, .iadd, 1, (0, 0, 0))]
theorem K278_2 : zRk 278 B278_2 = true := zRw_ok (by decide +kernel)
noncomputable def B278_3 : List zRow := [(6, .iload_n 1, 1, (0, 0, 0)), (7, .bipush 99, 2, (0, 0, 0)), (9, .if_icmp .le 14, 3, (0, 0, 0))]
theorem K278_3 : zRk 278 B278_3 = true := zRw_ok (by decide +kernel)
noncomputable def B278_4 : List zRow := [(29, .aload_n 0, 1, (0, 0, 0)), (30, .bipush 48, 2, (0, 0, 0)), (32, .iload_n 1, 1, (0, 0, 0)), (33, .bipush 10, 2, (0, 0, 0)), (35, .idiv, 1, (0, 0, 0)), (36, .bipush 10, 2, (0, 0, 0)), (38, .irem, 1, (0, 0, 0))]
theorem K278_4 : zRk 278 B278_4 = true := zRw_ok (by decide +kernel)
noncomputable def B278_5 : List zRow := [(39, .iadd, 1, (0, 0, 0))]
theorem K278_5 : zRk 278 B278_5 = true := zRw_ok (by decide +kernel)
noncomputable def B278_6 : List zRow := [(23, .iload_n 1, 1, (0, 0, 0)), (24, .bipush 9, 2, (0, 0, 0)), (26, .if_icmp .le 17, 3, (0, 0, 0))]
theorem K278_6 : zRk 278 B278_6 = true := zRw_ok (by decide +kernel)
noncomputable def B278_7 : List zRow := [(43, .aload_n 0, 1, (0, 0, 0)), (44, .bipush 48, 2, (0, 0, 0)), (46, .iload_n 1, 1, (0, 0, 0)), (47, .bipush 10, 2, (0, 0, 0)), (49, .irem, 1, (0, 0, 0))]
theorem K278_7 : zRk 278 B278_7 = true := zRw_ok (by decide +kernel)
noncomputable def B278_8 : List zRow := [(50, .iadd, 1, (0, 0, 0))]
theorem K278_8 : zRk 278 B278_8 = true := zRw_ok (by decide +kernel)
def F278_1 (v1 : Int) (h : zHM) : Option zHM := (F277 (wadd 48 (wrem v1 10)) h).bind fun r1 => some r1
set_option maxRecDepth 100000 in
theorem T278_1 {spec : zRn zH2} {hc : zHC} {o : Int → Int} {d : Nat} (hd : 1 ≤ d) (v1 : Int) (h : zHM) (v : zHM) (e : F278_1 v1 h = some v) : zFin 0 (fun _ => 0) (zRu2 spec d) 278 none (hc, v, o) (43, [some (22, 0), some (0, v1)], [], (hc, h, o)) := by
  unfold F278_1 at e
  refine zF_blk (m := []) (d := 0) (b := B278_7) (gs := [¬ 10 = 0]) (c' := (50, [some (22, 0), some (0, v1)], [(0, (wrem v1 10)), (0, 48), (22, 0)], (hc, h, o))) K278_7 rfl ⟨by decide, trivial⟩ ?_
  obtain ⟨r1, q1, e⟩ := zB_s e
  refine zF_blk (m := []) (d := 0) (b := B278_8) (gs := []) (c' := (51, [some (22, 0), some (0, v1)], [(0, (wadd 48 (wrem v1 10))), (22, 0)], (hc, h, o))) K278_8 rfl trivial ?_
  refine zF_call (k := 277) (cl := 12) (n := 2) (i := .invokevirtual 388) (args := [(22, 0), (0, (wadd 48 (wrem v1 10)))]) (rest := []) (g1 := (hc, r1, o)) (r1 := none) (zCk1_w (by decide +kernel)) rfl rfl rfl (st' := []) rfl (S277 (Nat.le_trans (by decide) hd) (wadd 48 (wrem v1 10)) h _ q1) ?_
  obtain rfl := Option.some.inj e
  exact zF_rv (zRe1_w (by decide +kernel))
def F278_0 (v1 : Int) (h : zHM) : Option zHM := if v1 ≤ 9 then F278_1 v1 h else (F277 (wadd 48 (wrem (wdiv v1 10) 10)) h).bind fun r1 => F278_1 v1 r1
set_option maxRecDepth 100000 in
theorem T278_0 {spec : zRn zH2} {hc : zHC} {o : Int → Int} {d : Nat} (hd : 1 ≤ d) (v1 : Int) (h : zHM) (v : zHM) (e : F278_0 v1 h = some v) : zFin 0 (fun _ => 0) (zRu2 spec d) 278 none (hc, v, o) (23, [some (22, 0), some (0, v1)], [], (hc, h, o)) := by
  unfold F278_0 at e
  rcases zI_s e with ⟨q1, e⟩ | ⟨q1, e⟩
  · refine zF_blk (m := []) (d := 1) (b := B278_6) (gs := [v1 ≤ 9]) (c' := (43, [some (22, 0), some (0, v1)], [], (hc, h, o))) K278_6 rfl ⟨q1, trivial⟩ ?_
    exact T278_1 hd v1 h _ e
  · refine zF_blk (m := []) (d := 0) (b := B278_6) (gs := [¬ (v1 ≤ 9)]) (c' := (29, [some (22, 0), some (0, v1)], [], (hc, h, o))) K278_6 rfl ⟨q1, trivial⟩ ?_
    refine zF_blk (m := []) (d := 0) (b := B278_4) (gs := [¬ 10 = 0, ¬ 10 = 0]) (c' := (39, [some (22, 0), some (0, v1)], [(0, (wrem (wdiv v1 10) 10)), (0, 48), (22, 0)], (hc, h, o))) K278_4 rfl ⟨by decide, by decide, trivial⟩ ?_
    obtain ⟨r1, q2, e⟩ := zB_s e
    refine zF_blk (m := []) (d := 0) (b := B278_5) (gs := []) (c' := (40, [some (22, 0), some (0, v1)], [(0, (wadd 48 (wrem (wdiv v1 10) 10))), (22, 0)], (hc, h, o))) K278_5 rfl trivial ?_
    refine zF_call (k := 277) (cl := 12) (n := 2) (i := .invokevirtual 388) (args := [(22, 0), (0, (wadd 48 (wrem (wdiv v1 10) 10)))]) (rest := []) (g1 := (hc, r1, o)) (r1 := none) (zCk1_w (by decide +kernel)) rfl rfl rfl (st' := []) rfl (S277 (Nat.le_trans (by decide) hd) (wadd 48 (wrem (wdiv v1 10) 10)) h _ q2) ?_
    exact T278_1 hd v1 r1 _ e
/-- EchoValeModel.putNumber(I)V -/
def F278 (v1 : Int) (h : zHM) : Option zHM := (F277 32 h).bind fun r1 => if v1 ≤ 99 then F278_0 v1 r1 else (F277 (wadd 48 (wdiv v1 100)) r1).bind fun r2 => F278_0 v1 r2
set_option maxRecDepth 100000 in
theorem S278 {spec : zRn zH2} {hc : zHC} {o : Int → Int} {d : Nat} (hd : 2 ≤ d) (v1 : Int) (h : zHM) (v : zHM) (e : F278 v1 h = some v) : zRu2 spec d 278 [(22, 0), (0, v1)] (hc, h, o) none (hc, v, o) := by
  refine zF_in (D := 1) (mx := 2) (L := [some (22, 0), some (0, v1)]) (by decide +kernel) rfl rfl hd (fun d hd => ?_)
  unfold F278 at e
  obtain ⟨r1, q1, e⟩ := zB_s e
  refine zF_blk (m := []) (d := 0) (b := B278_0) (gs := []) (c' := (3, [some (22, 0), some (0, v1)], [(0, 32), (22, 0)], (hc, h, o))) K278_0 rfl trivial ?_
  refine zF_call (k := 277) (cl := 12) (n := 2) (i := .invokevirtual 388) (args := [(22, 0), (0, 32)]) (rest := []) (g1 := (hc, r1, o)) (r1 := none) (zCk1_w (by decide +kernel)) rfl rfl rfl (st' := []) rfl (S277 (Nat.le_trans (by decide) hd) 32 h _ q1) ?_
  rcases zI_s e with ⟨q2, e⟩ | ⟨q2, e⟩
  · refine zF_blk (m := []) (d := 1) (b := B278_3) (gs := [v1 ≤ 99]) (c' := (23, [some (22, 0), some (0, v1)], [], (hc, r1, o))) K278_3 rfl ⟨q2, trivial⟩ ?_
    exact T278_0 hd v1 r1 _ e
  · refine zF_blk (m := []) (d := 0) (b := B278_3) (gs := [¬ (v1 ≤ 99)]) (c' := (12, [some (22, 0), some (0, v1)], [], (hc, r1, o))) K278_3 rfl ⟨q2, trivial⟩ ?_
    refine zF_blk (m := []) (d := 0) (b := B278_1) (gs := [¬ 100 = 0]) (c' := (19, [some (22, 0), some (0, v1)], [(0, (wdiv v1 100)), (0, 48), (22, 0)], (hc, r1, o))) K278_1 rfl ⟨by decide, trivial⟩ ?_
    obtain ⟨r2, q3, e⟩ := zB_s e
    refine zF_blk (m := []) (d := 0) (b := B278_2) (gs := []) (c' := (20, [some (22, 0), some (0, v1)], [(0, (wadd 48 (wdiv v1 100))), (22, 0)], (hc, r1, o))) K278_2 rfl trivial ?_
    refine zF_call (k := 277) (cl := 12) (n := 2) (i := .invokevirtual 388) (args := [(22, 0), (0, (wadd 48 (wdiv v1 100)))]) (rest := []) (g1 := (hc, r2, o)) (r1 := none) (zCk1_w (by decide +kernel)) rfl rfl rfl (st' := []) rfl (S277 (Nat.le_trans (by decide) hd) (wadd 48 (wdiv v1 100)) r1 _ q3) ?_
    exact T278_0 hd v1 r2 _ e
noncomputable def B276_0 : List zRow := [(0, .aload_n 0, 1, (0, 0, 0)), (1, .iconst 0, 1, (0, 0, 0)), (2, .putfield 81, 3, (12, 0, 0)), (5, .aload_n 0, 1, (0, 0, 0)), (6, .iload_n 1, 1, (0, 0, 0))]
theorem K276_0 : zRk 276 B276_0 = true := zRw_ok (by decide +kernel)
noncomputable def B276_1 : List zRow := [(15, .aload_n 0, 1, (0, 0, 0)), (16, .iconst 0, 1, (0, 0, 0)), (17, .putfield 385, 3, (12, 44, 0)), (20, .iconst 0, 1, (0, 0, 0)), (21, .istore_n 2, 1, (0, 0, 0))]
theorem K276_1 : zRk 276 B276_1 = true := zRw_ok (by decide +kernel)
noncomputable def B276_2 : List zRow := [(13, .iconst (-1), 1, (0, 0, 0))]
theorem K276_2 : zRk 276 B276_2 = true := zRw_ok (by decide +kernel)
noncomputable def B276_3 : List zRow := [(10, .ifCond .ne 5, 3, (0, 0, 0))]
theorem K276_3 : zRk 276 B276_3 = true := zRw_ok (by decide +kernel)
noncomputable def B276_4 : List zRow := [(175, .aload_n 0, 1, (0, 0, 0)), (176, .getfield 385, 3, (12, 44, 0))]
theorem K276_4 : zRk 276 B276_4 = true := zRw_ok (by decide +kernel)
noncomputable def B276_5 : List zRow := [(34, .sipush 998, 3, (0, 0, 0)), (37, .iconst 5, 1, (0, 0, 0)), (38, .iload_n 2, 1, (0, 0, 0))]
theorem K276_5 : zRk 276 B276_5 = true := zRw_ok (by decide +kernel)
noncomputable def B276_6 : List zRow := [(39, .imul, 1, (0, 0, 0))]
theorem K276_6 : zRk 276 B276_6 = true := zRw_ok (by decide +kernel)
noncomputable def B276_7 : List zRow := [(55, .iconst 0, 1, (0, 0, 0)), (56, .istore 4, 2, (0, 0, 0)), (58, .aload_n 0, 1, (0, 0, 0)), (59, .getfield 28, 3, (12, 19, 5505074)), (62, .aload_n 0, 1, (0, 0, 0)), (63, .getfield 13, 3, (12, 14, 5251442)), (66, .iload_n 3, 1, (0, 0, 0)), (67, .iconst 1, 1, (0, 0, 0)), (68, .iadd, 1, (0, 0, 0)), (69, .iaload, 1, (0, 0, 0)), (70, .laload, 1, (0, 0, 0)), (71, .lstore 5, 2, (0, 0, 0))]
theorem K276_7 : zRk 276 B276_7 = true := zRw_ok (by decide +kernel)
noncomputable def B276_8 : List zRow := [(52, .goto 117, 3, (0, 0, 0))]
theorem K276_8 : zRk 276 B276_8 = true := zRw_ok (by decide +kernel)
noncomputable def B276_9 : List zRow := [(40, .iadd, 1, (0, 0, 0)), (41, .istore_n 3, 1, (0, 0, 0)), (42, .aload_n 0, 1, (0, 0, 0)), (43, .getfield 13, 3, (12, 14, 5251442)), (46, .iload_n 3, 1, (0, 0, 0)), (47, .iaload, 1, (0, 0, 0)), (48, .iload_n 1, 1, (0, 0, 0)), (49, .if_icmp .eq 6, 3, (0, 0, 0))]
theorem K276_9 : zRk 276 B276_9 = true := zRw_ok (by decide +kernel)
noncomputable def B276_10 : List zRow := [(22, .iload_n 2, 1, (0, 0, 0)), (23, .aload_n 0, 1, (0, 0, 0)), (24, .getfield 13, 3, (12, 14, 5251442)), (27, .sipush 997, 3, (0, 0, 0)), (30, .iaload, 1, (0, 0, 0)), (31, .if_icmp .ge 144, 3, (0, 0, 0))]
theorem K276_10 : zRk 276 B276_10 = true := zRw_ok (by decide +kernel)
noncomputable def B276_11 : List zRow := [(169, .iinc 2 1, 3, (0, 0, 0)), (172, .goto (-150), 3, (0, 0, 0))]
theorem K276_11 : zRk 276 B276_11 = true := zRw_ok (by decide +kernel)
noncomputable def B276_12 : List zRow := [(111, .iload 4, 2, (0, 0, 0)), (113, .iconst 1, 1, (0, 0, 0)), (114, .isub, 1, (0, 0, 0)), (115, .istore 5, 2, (0, 0, 0))]
theorem K276_12 : zRk 276 B276_12 = true := zRw_ok (by decide +kernel)
noncomputable def B276_13 : List zRow := [(80, .aload_n 0, 1, (0, 0, 0)), (81, .getfield 75, 3, (12, 43, 5242910)), (84, .iload 4, 2, (0, 0, 0)), (86, .lload 5, 2, (0, 0, 0)), (88, .ldc2_w 130, 3, (0, 0, 27)), (91, .lrem, 1, (0, 0, 0)), (92, .l2i, 1, (0, 0, 0)), (93, .bipush 96, 2, (0, 0, 0)), (95, .iadd, 1, (0, 0, 0)), (96, .iastore, 1, (0, 0, 0)), (97, .iinc 4 1, 3, (0, 0, 0)), (100, .lload 5, 2, (0, 0, 0)), (102, .ldc2_w 130, 3, (0, 0, 27)), (105, .ldiv, 1, (0, 0, 0)), (106, .lstore 5, 2, (0, 0, 0)), (108, .goto (-35), 3, (0, 0, 0))]
theorem K276_13 : zRk 276 B276_13 = true := zRw_ok (by decide +kernel)
noncomputable def B276_14 : List zRow := [(73, .lload 5, 2, (0, 0, 0)), (75, .lconst 0, 1, (0, 0, 0)), (76, .lcmp, 1, (0, 0, 0)), (77, .ifCond .le 34, 3, (0, 0, 0))]
theorem K276_14 : zRk 276 B276_14 = true := zRw_ok (by decide +kernel)
noncomputable def B276_15 : List zRow := [(139, .aload_n 0, 1, (0, 0, 0)), (140, .aload_n 0, 1, (0, 0, 0)), (141, .getfield 13, 3, (12, 14, 5251442)), (144, .iload_n 3, 1, (0, 0, 0)), (145, .iconst 2, 1, (0, 0, 0)), (146, .iadd, 1, (0, 0, 0)), (147, .iaload, 1, (0, 0, 0))]
theorem K276_15 : zRk 276 B276_15 = true := zRw_ok (by decide +kernel)
noncomputable def B276_16 : List zRow := [(151, .aload_n 0, 1, (0, 0, 0)), (152, .aload_n 0, 1, (0, 0, 0)), (153, .getfield 13, 3, (12, 14, 5251442)), (156, .iload_n 3, 1, (0, 0, 0)), (157, .iconst 3, 1, (0, 0, 0)), (158, .iadd, 1, (0, 0, 0)), (159, .iaload, 1, (0, 0, 0))]
theorem K276_16 : zRk 276 B276_16 = true := zRw_ok (by decide +kernel)
noncomputable def B276_17 : List zRow := [(163, .aload_n 0, 1, (0, 0, 0)), (164, .bipush 59, 2, (0, 0, 0))]
theorem K276_17 : zRk 276 B276_17 = true := zRw_ok (by decide +kernel)
noncomputable def B276_18 : List zRow := [(122, .aload_n 0, 1, (0, 0, 0)), (123, .aload_n 0, 1, (0, 0, 0)), (124, .getfield 75, 3, (12, 43, 5242910)), (127, .iload 5, 2, (0, 0, 0)), (129, .iaload, 1, (0, 0, 0))]
theorem K276_18 : zRk 276 B276_18 = true := zRw_ok (by decide +kernel)
noncomputable def B276_19 : List zRow := [(133, .iinc 5 (-1), 3, (0, 0, 0)), (136, .goto (-19), 3, (0, 0, 0))]
theorem K276_19 : zRk 276 B276_19 = true := zRw_ok (by decide +kernel)
noncomputable def B276_20 : List zRow := [(117, .iload 5, 2, (0, 0, 0)), (119, .ifCond .lt 20, 3, (0, 0, 0))]
theorem K276_20 : zRk 276 B276_20 = true := zRw_ok (by decide +kernel)
def F276_2 (k0 : Int → Int → zHM → Option (Int × zHM)) (v1 : Int) (v2 : Int) (h : zHM) : Option (Int × zHM) := k0 v1 (wadd v2 1) h
set_option maxRecDepth 100000 in
theorem T276_2 {spec : zRn zH2} {hc : zHC} {o : Int → Int} {d : Nat} (hd : 2 ≤ d) (k0 : Int → Int → zHM → Option (Int × zHM)) (hk0 : ∀ (v1 : Int) (v2 : Int) (h : zHM) (v : (Int × zHM)), k0 v1 v2 h = some v → zFin 0 (fun _ => 0) (zRu2 spec d) 276 (some (0, v.1)) (hc, v.2, o) (22, [some (22, 0), some (0, v1), some (0, v2), none, none, none, none], [], (hc, h, o))) (v1 : Int) (v2 : Int) (h : zHM) (v : (Int × zHM)) (e : F276_2 k0 v1 v2 h = some v) : zFin 0 (fun _ => 0) (zRu2 spec d) 276 (some (0, v.1)) (hc, v.2, o) (169, [some (22, 0), some (0, v1), some (0, v2), none, none, none, none], [], (hc, h, o)) := by
  unfold F276_2 at e
  refine zF_blk (m := []) (d := 0) (b := B276_11) (gs := []) (c' := (22, [some (22, 0), some (0, v1), some (0, (wadd v2 1)), none, none, none, none], [], (hc, h, o))) K276_11 rfl trivial ?_
  exact hk0 v1 (wadd v2 1) h _ e
def F276_3 (k0 : Int → Int → zHM → Option (Int × zHM)) : Nat → Int → Int → Int → Int → zHM → Option (Int × zHM)
  | 0, _, _, _, _, _ => none
  | n + 1, v1, v2, v3, v5, h => if v5 < 0 then zG (0 ≤ (wadd v3 2) ∧ (wadd v3 2) < 2140) ((F278 (h 14 (wadd v3 2)) h).bind fun r1 => zG (0 ≤ (wadd v3 3) ∧ (wadd v3 3) < 2140) ((F278 (r1 14 (wadd v3 3)) r1).bind fun r2 => (F277 59 r2).bind fun r3 => F276_2 k0 v1 v2 r3)) else zG (0 ≤ v5 ∧ v5 < 7) ((F277 (h 43 v5) h).bind fun r4 => (F276_3 k0 n) v1 v2 v3 (wadd v5 (-1)) r4)
set_option maxRecDepth 100000 in
theorem T276_3 {spec : zRn zH2} {hc : zHC} {o : Int → Int} {d : Nat} (hd : 2 ≤ d) (k0 : Int → Int → zHM → Option (Int × zHM)) (hk0 : ∀ (v1 : Int) (v2 : Int) (h : zHM) (v : (Int × zHM)), k0 v1 v2 h = some v → zFin 0 (fun _ => 0) (zRu2 spec d) 276 (some (0, v.1)) (hc, v.2, o) (22, [some (22, 0), some (0, v1), some (0, v2), none, none, none, none], [], (hc, h, o))) : ∀ (n : Nat) (v1 : Int) (v2 : Int) (v3 : Int) (v5 : Int) (h : zHM) (v : (Int × zHM)), F276_3 k0 n v1 v2 v3 v5 h = some v → zFin 0 (fun _ => 0) (zRu2 spec d) 276 (some (0, v.1)) (hc, v.2, o) (117, [some (22, 0), some (0, v1), some (0, v2), some (0, v3), none, some (0, v5), none], [], (hc, h, o)) := by
  intro n
  induction n with
  | zero => intro v1 v2 v3 v5 h v e; unfold F276_3 at e; cases e
  | succ n hk1 =>
    intro v1 v2 v3 v5 h v e
    unfold F276_3 at e
    rcases zI_s e with ⟨q1, e⟩ | ⟨q1, e⟩
    · refine zF_blk (m := []) (d := 1) (b := B276_20) (gs := [v5 < 0]) (c' := (139, [some (22, 0), some (0, v1), some (0, v2), some (0, v3), none, some (0, v5), none], [], (hc, h, o))) K276_20 rfl ⟨q1, trivial⟩ ?_
      obtain ⟨q2, e⟩ := zG_s e
      obtain ⟨r1, q3, e⟩ := zB_s e
      refine zF_blk (m := []) (d := 0) (b := B276_15) (gs := [0 ≤ (wadd v3 2) ∧ (wadd v3 2) < 2140]) (c' := (148, [some (22, 0), some (0, v1), some (0, v2), some (0, v3), none, some (0, v5), none], [(0, (h 14 (wadd v3 2))), (22, 0)], (hc, h, o))) K276_15 rfl ⟨q2, trivial⟩ ?_
      refine zF_call (k := 278) (cl := 12) (n := 2) (i := .invokevirtual 391) (args := [(22, 0), (0, (h 14 (wadd v3 2)))]) (rest := []) (g1 := (hc, r1, o)) (r1 := none) (zCk1_w (by decide +kernel)) rfl rfl rfl (st' := []) rfl (S278 (Nat.le_trans (by decide) hd) (h 14 (wadd v3 2)) h _ q3) ?_
      obtain ⟨q4, e⟩ := zG_s e
      obtain ⟨r2, q5, e⟩ := zB_s e
      refine zF_blk (m := []) (d := 0) (b := B276_16) (gs := [0 ≤ (wadd v3 3) ∧ (wadd v3 3) < 2140]) (c' := (160, [some (22, 0), some (0, v1), some (0, v2), some (0, v3), none, some (0, v5), none], [(0, (r1 14 (wadd v3 3))), (22, 0)], (hc, r1, o))) K276_16 rfl ⟨q4, trivial⟩ ?_
      refine zF_call (k := 278) (cl := 12) (n := 2) (i := .invokevirtual 391) (args := [(22, 0), (0, (r1 14 (wadd v3 3)))]) (rest := []) (g1 := (hc, r2, o)) (r1 := none) (zCk1_w (by decide +kernel)) rfl rfl rfl (st' := []) rfl (S278 (Nat.le_trans (by decide) hd) (r1 14 (wadd v3 3)) r1 _ q5) ?_
      obtain ⟨r3, q6, e⟩ := zB_s e
      refine zF_blk (m := []) (d := 0) (b := B276_17) (gs := []) (c' := (166, [some (22, 0), some (0, v1), some (0, v2), some (0, v3), none, some (0, v5), none], [(0, 59), (22, 0)], (hc, r2, o))) K276_17 rfl trivial ?_
      refine zF_call (k := 277) (cl := 12) (n := 2) (i := .invokevirtual 388) (args := [(22, 0), (0, 59)]) (rest := []) (g1 := (hc, r3, o)) (r1 := none) (zCk1_w (by decide +kernel)) rfl rfl rfl (st' := []) rfl (S277 (Nat.le_trans (by decide) hd) 59 r2 _ q6) ?_
      refine zF_blk (m := [true, true, true, false, false, false, false]) (d := 0) (b := []) (gs := []) (c' := (169, [some (22, 0), some (0, v1), some (0, v2), none, none, none, none], [], (hc, r3, o))) rfl rfl trivial ?_
      exact T276_2 hd k0 hk0 v1 v2 r3 _ e
    · refine zF_blk (m := []) (d := 0) (b := B276_20) (gs := [¬ (v5 < 0)]) (c' := (122, [some (22, 0), some (0, v1), some (0, v2), some (0, v3), none, some (0, v5), none], [], (hc, h, o))) K276_20 rfl ⟨q1, trivial⟩ ?_
      obtain ⟨q7, e⟩ := zG_s e
      obtain ⟨r4, q8, e⟩ := zB_s e
      refine zF_blk (m := []) (d := 0) (b := B276_18) (gs := [0 ≤ v5 ∧ v5 < 7]) (c' := (130, [some (22, 0), some (0, v1), some (0, v2), some (0, v3), none, some (0, v5), none], [(0, (h 43 v5)), (22, 0)], (hc, h, o))) K276_18 rfl ⟨q7, trivial⟩ ?_
      refine zF_call (k := 277) (cl := 12) (n := 2) (i := .invokevirtual 388) (args := [(22, 0), (0, (h 43 v5))]) (rest := []) (g1 := (hc, r4, o)) (r1 := none) (zCk1_w (by decide +kernel)) rfl rfl rfl (st' := []) rfl (S277 (Nat.le_trans (by decide) hd) (h 43 v5) h _ q8) ?_
      refine zF_blk (m := []) (d := 0) (b := B276_19) (gs := []) (c' := (117, [some (22, 0), some (0, v1), some (0, v2), some (0, v3), none, some (0, (wadd v5 (-1))), none], [], (hc, r4, o))) K276_19 rfl trivial ?_
      exact hk1 v1 v2 v3 (wadd v5 (-1)) r4 _ e
def F276_1 (k0 : Int → Int → zHM → Option (Int × zHM)) : Nat → Int → Int → Int → Int → Int → zHM → Option (Int × zHM)
  | 0, _, _, _, _, _, _ => none
  | n + 1, v1, v2, v3, v4, v5, h => if (qcmp v5 0) ≤ 0 then F276_3 k0 zFu v1 v2 v3 (wsub v4 1) h else zG (0 ≤ v4 ∧ v4 < 7) ((F276_1 k0 n) v1 v2 v3 (wadd v4 1) (qdiv v5 27) (mset h 43 v4 (wadd (wl2i (qrem v5 27)) 96)))
set_option maxRecDepth 100000 in
theorem T276_1 {spec : zRn zH2} {hc : zHC} {o : Int → Int} {d : Nat} (hd : 2 ≤ d) (k0 : Int → Int → zHM → Option (Int × zHM)) (hk0 : ∀ (v1 : Int) (v2 : Int) (h : zHM) (v : (Int × zHM)), k0 v1 v2 h = some v → zFin 0 (fun _ => 0) (zRu2 spec d) 276 (some (0, v.1)) (hc, v.2, o) (22, [some (22, 0), some (0, v1), some (0, v2), none, none, none, none], [], (hc, h, o))) : ∀ (n : Nat) (v1 : Int) (v2 : Int) (v3 : Int) (v4 : Int) (v5 : Int) (h : zHM) (v : (Int × zHM)), F276_1 k0 n v1 v2 v3 v4 v5 h = some v → zFin 0 (fun _ => 0) (zRu2 spec d) 276 (some (0, v.1)) (hc, v.2, o) (73, [some (22, 0), some (0, v1), some (0, v2), some (0, v3), some (0, v4), some (1, v5), none], [], (hc, h, o)) := by
  intro n
  induction n with
  | zero => intro v1 v2 v3 v4 v5 h v e; unfold F276_1 at e; cases e
  | succ n hk1 =>
    intro v1 v2 v3 v4 v5 h v e
    unfold F276_1 at e
    rcases zI_s e with ⟨q1, e⟩ | ⟨q1, e⟩
    · refine zF_blk (m := []) (d := 1) (b := B276_14) (gs := [(qcmp v5 0) ≤ 0]) (c' := (111, [some (22, 0), some (0, v1), some (0, v2), some (0, v3), some (0, v4), some (1, v5), none], [], (hc, h, o))) K276_14 rfl ⟨q1, trivial⟩ ?_
      refine zF_blk (m := []) (d := 0) (b := B276_12) (gs := []) (c' := (117, [some (22, 0), some (0, v1), some (0, v2), some (0, v3), some (0, v4), some (0, (wsub v4 1)), none], [], (hc, h, o))) K276_12 rfl trivial ?_
      refine zF_blk (m := [true, true, true, true, false, true, false]) (d := 0) (b := []) (gs := []) (c' := (117, [some (22, 0), some (0, v1), some (0, v2), some (0, v3), none, some (0, (wsub v4 1)), none], [], (hc, h, o))) rfl rfl trivial ?_
      exact T276_3 hd k0 hk0 zFu v1 v2 v3 (wsub v4 1) h _ e
    · refine zF_blk (m := []) (d := 0) (b := B276_14) (gs := [¬ ((qcmp v5 0) ≤ 0)]) (c' := (80, [some (22, 0), some (0, v1), some (0, v2), some (0, v3), some (0, v4), some (1, v5), none], [], (hc, h, o))) K276_14 rfl ⟨q1, trivial⟩ ?_
      obtain ⟨q2, e⟩ := zG_s e
      refine zF_blk (m := []) (d := 0) (b := B276_13) (gs := [¬ 27 = 0, 0 ≤ v4 ∧ v4 < 7, ¬ 27 = 0]) (c' := (73, [some (22, 0), some (0, v1), some (0, v2), some (0, v3), some (0, (wadd v4 1)), some (1, (qdiv v5 27)), none], [], (hc, (mset h 43 v4 (wadd (wl2i (qrem v5 27)) 96)), o))) K276_13 rfl ⟨by decide, q2, by decide, trivial⟩ ?_
      exact hk1 v1 v2 v3 (wadd v4 1) (qdiv v5 27) (mset h 43 v4 (wadd (wl2i (qrem v5 27)) 96)) _ e
def F276_0 : Nat → Int → Int → zHM → Option (Int × zHM)
  | 0, _, _, _ => none
  | n + 1, v1, v2, h => if (h 14 997) ≤ v2 then some ((h 44 0), h) else zG (0 ≤ (wadd 998 (wmul 5 v2)) ∧ (wadd 998 (wmul 5 v2)) < 2140) (if (h 14 (wadd 998 (wmul 5 v2))) = v1 then zG (0 ≤ (wadd (wadd 998 (wmul 5 v2)) 1) ∧ (wadd (wadd 998 (wmul 5 v2)) 1) < 2140) (zG (0 ≤ (h 14 (wadd (wadd 998 (wmul 5 v2)) 1)) ∧ (h 14 (wadd (wadd 998 (wmul 5 v2)) 1)) < 12) (F276_1 (F276_0 n) zFu v1 v2 (wadd 998 (wmul 5 v2)) 0 (h 19 (h 14 (wadd (wadd 998 (wmul 5 v2)) 1))) h)) else F276_2 (F276_0 n) v1 v2 h)
set_option maxRecDepth 100000 in
theorem T276_0 {spec : zRn zH2} {hc : zHC} {o : Int → Int} {d : Nat} (hd : 2 ≤ d) : ∀ (n : Nat) (v1 : Int) (v2 : Int) (h : zHM) (v : (Int × zHM)), F276_0 n v1 v2 h = some v → zFin 0 (fun _ => 0) (zRu2 spec d) 276 (some (0, v.1)) (hc, v.2, o) (22, [some (22, 0), some (0, v1), some (0, v2), none, none, none, none], [], (hc, h, o)) := by
  intro n
  induction n with
  | zero => intro v1 v2 h v e; unfold F276_0 at e; cases e
  | succ n hk0 =>
    intro v1 v2 h v e
    unfold F276_0 at e
    rcases zI_s e with ⟨q1, e⟩ | ⟨q1, e⟩
    · refine zF_blk (m := []) (d := 1) (b := B276_10) (gs := [0 ≤ 997 ∧ 997 < 2140, (h 14 997) ≤ v2]) (c' := (175, [some (22, 0), some (0, v1), some (0, v2), none, none, none, none], [], (hc, h, o))) K276_10 rfl ⟨by decide, q1, trivial⟩ ?_
      refine zF_blk (m := []) (d := 0) (b := B276_4) (gs := []) (c' := (179, [some (22, 0), some (0, v1), some (0, v2), none, none, none, none], [(0, (h 44 0))], (hc, h, o))) K276_4 rfl trivial ?_
      exact zF_riM (zRe1_w (by decide +kernel)) e
    · refine zF_blk (m := []) (d := 0) (b := B276_10) (gs := [0 ≤ 997 ∧ 997 < 2140, ¬ ((h 14 997) ≤ v2)]) (c' := (34, [some (22, 0), some (0, v1), some (0, v2), none, none, none, none], [], (hc, h, o))) K276_10 rfl ⟨by decide, q1, trivial⟩ ?_
      obtain ⟨q2, e⟩ := zG_s e
      refine zF_blk (m := []) (d := 0) (b := B276_5) (gs := []) (c' := (39, [some (22, 0), some (0, v1), some (0, v2), none, none, none, none], [(0, v2), (0, 5), (0, 998)], (hc, h, o))) K276_5 rfl trivial ?_
      refine zF_blk (m := []) (d := 0) (b := B276_6) (gs := []) (c' := (40, [some (22, 0), some (0, v1), some (0, v2), none, none, none, none], [(0, (wmul 5 v2)), (0, 998)], (hc, h, o))) K276_6 rfl trivial ?_
      rcases zI_s e with ⟨q3, e⟩ | ⟨q3, e⟩
      · refine zF_blk (m := []) (d := 1) (b := B276_9) (gs := [0 ≤ (wadd 998 (wmul 5 v2)) ∧ (wadd 998 (wmul 5 v2)) < 2140, (h 14 (wadd 998 (wmul 5 v2))) = v1]) (c' := (55, [some (22, 0), some (0, v1), some (0, v2), some (0, (wadd 998 (wmul 5 v2))), none, none, none], [], (hc, h, o))) K276_9 rfl ⟨q2, q3, trivial⟩ ?_
        obtain ⟨q4, e⟩ := zG_s e
        obtain ⟨q5, e⟩ := zG_s e
        refine zF_blk (m := []) (d := 0) (b := B276_7) (gs := [0 ≤ (wadd (wadd 998 (wmul 5 v2)) 1) ∧ (wadd (wadd 998 (wmul 5 v2)) 1) < 2140, 0 ≤ (h 14 (wadd (wadd 998 (wmul 5 v2)) 1)) ∧ (h 14 (wadd (wadd 998 (wmul 5 v2)) 1)) < 12]) (c' := (73, [some (22, 0), some (0, v1), some (0, v2), some (0, (wadd 998 (wmul 5 v2))), some (0, 0), some (1, (h 19 (h 14 (wadd (wadd 998 (wmul 5 v2)) 1)))), none], [], (hc, h, o))) K276_7 rfl ⟨q4, q5, trivial⟩ ?_
        exact T276_1 hd (F276_0 n) hk0 zFu v1 v2 (wadd 998 (wmul 5 v2)) 0 (h 19 (h 14 (wadd (wadd 998 (wmul 5 v2)) 1))) h _ e
      · refine zF_blk (m := []) (d := 0) (b := B276_9) (gs := [0 ≤ (wadd 998 (wmul 5 v2)) ∧ (wadd 998 (wmul 5 v2)) < 2140, ¬ ((h 14 (wadd 998 (wmul 5 v2))) = v1)]) (c' := (52, [some (22, 0), some (0, v1), some (0, v2), some (0, (wadd 998 (wmul 5 v2))), none, none, none], [], (hc, h, o))) K276_9 rfl ⟨q2, q3, trivial⟩ ?_
        refine zF_blk (m := []) (d := 0) (b := B276_8) (gs := []) (c' := (169, [some (22, 0), some (0, v1), some (0, v2), some (0, (wadd 998 (wmul 5 v2))), none, none, none], [], (hc, h, o))) K276_8 rfl trivial ?_
        refine zF_blk (m := [true, true, true, false, false, false, false]) (d := 0) (b := []) (gs := []) (c' := (169, [some (22, 0), some (0, v1), some (0, v2), none, none, none, none], [], (hc, h, o))) rfl rfl trivial ?_
        exact T276_2 hd (F276_0 n) hk0 v1 v2 h _ e
/-- EchoValeModel.write(I)I -/
def F276 (v1 : Int) (h : zHM) : Option (Int × zHM) := (F217 v1 (mset h 0 0 0)).bind fun r1 => if ¬ r1 = 0 then F276_0 zFu v1 0 (mset (mset h 0 0 0) 44 0 0) else some ((-1), (mset h 0 0 0))
set_option maxRecDepth 100000 in
theorem S276 {spec : zRn zH2} {hc : zHC} {o : Int → Int} {d : Nat} (hd : 3 ≤ d) (v1 : Int) (h : zHM) (v : (Int × zHM)) (e : F276 v1 h = some v) : zRu2 spec d 276 [(22, 0), (0, v1)] (hc, h, o) (some (0, v.1)) (hc, v.2, o) := by
  refine zF_in (D := 2) (mx := 7) (L := [some (22, 0), some (0, v1), none, none, none, none, none]) (by decide +kernel) rfl rfl hd (fun d hd => ?_)
  unfold F276 at e
  obtain ⟨r1, q1, e⟩ := zB_s e
  refine zF_blk (m := []) (d := 0) (b := B276_0) (gs := []) (c' := (7, [some (22, 0), some (0, v1), none, none, none, none, none], [(0, v1), (22, 0)], (hc, (mset h 0 0 0), o))) K276_0 rfl trivial ?_
  refine zF_call (k := 217) (cl := 12) (n := 2) (i := .invokevirtual 266) (args := [(22, 0), (0, v1)]) (rest := []) (g1 := (hc, (mset h 0 0 0), o)) (r1 := some (0, r1)) (zCk1_w (by decide +kernel)) rfl rfl rfl (st' := [(0, r1)]) rfl (S217 (Nat.le_trans (by decide) hd) v1 (mset h 0 0 0) _ q1) ?_
  rcases zI_s e with ⟨q2, e⟩ | ⟨q2, e⟩
  · refine zF_blk (m := []) (d := 1) (b := B276_3) (gs := [¬ r1 = 0]) (c' := (15, [some (22, 0), some (0, v1), none, none, none, none, none], [], (hc, (mset h 0 0 0), o))) K276_3 rfl ⟨q2, trivial⟩ ?_
    refine zF_blk (m := []) (d := 0) (b := B276_1) (gs := []) (c' := (22, [some (22, 0), some (0, v1), some (0, 0), none, none, none, none], [], (hc, (mset (mset h 0 0 0) 44 0 0), o))) K276_1 rfl trivial ?_
    exact T276_0 hd zFu v1 0 (mset (mset h 0 0 0) 44 0 0) _ e
  · refine zF_blk (m := []) (d := 0) (b := B276_3) (gs := [¬ (¬ r1 = 0)]) (c' := (13, [some (22, 0), some (0, v1), none, none, none, none, none], [], (hc, (mset h 0 0 0), o))) K276_3 rfl ⟨q2, trivial⟩ ?_
    refine zF_blk (m := []) (d := 0) (b := B276_2) (gs := []) (c' := (14, [some (22, 0), some (0, v1), none, none, none, none, none], [(0, (-1))], (hc, (mset h 0 0 0), o))) K276_2 rfl trivial ?_
    exact zF_riM (zRe1_w (by decide +kernel)) e
noncomputable def B146_0 : List zRow := [(21, .iconst (-1), 1, (0, 0, 0))]
theorem K146_0 : zRk 146 B146_0 = true := zRw_ok (by decide +kernel)
noncomputable def B146_1 : List zRow := [(12, .aload_n 0, 1, (0, 0, 0)), (13, .getfield 95, 3, (11, 13, 5243266)), (16, .iload_n 1, 1, (0, 0, 0)), (17, .iaload, 1, (0, 0, 0)), (18, .goto 4, 3, (0, 0, 0))]
theorem K146_1 : zRk 146 B146_1 = true := zRw_ok (by decide +kernel)
noncomputable def B146_2 : List zRow := [(4, .iload_n 1, 1, (0, 0, 0)), (5, .aload_n 0, 1, (0, 0, 0)), (6, .getfield 327, 3, (11, 14, 0)), (9, .if_icmp .ge 12, 3, (0, 0, 0))]
theorem K146_2 : zRk 146 B146_2 = true := zRw_ok (by decide +kernel)
noncomputable def B146_3 : List zRow := [(0, .iload_n 1, 1, (0, 0, 0)), (1, .ifCond .lt 20, 3, (0, 0, 0))]
theorem K146_3 : zRk 146 B146_3 = true := zRw_ok (by decide +kernel)
/-- EchoVale.byteAt(I)I -/
def F146 (v1 : Int) (h : zHC) : Option Int := if v1 < 0 then some (-1) else if (h 718 0 0) ≤ v1 then some (-1) else zG (0 ≤ v1 ∧ v1 < 96) (some (h 717 0 v1))
set_option maxRecDepth 100000 in
theorem S146 {spec : zRn zH2} {hm : zHM} {o : Int → Int} {d : Nat} (hd : 1 ≤ d) (v1 : Int) (h : zHC) (v : Int) (e : F146 v1 h = some v) : zRu2 spec d 146 [(21, 0), (0, v1)] (h, hm, o) (some (0, v)) (h, hm, o) := by
  refine zF_in (D := 0) (mx := 2) (L := [some (21, 0), some (0, v1)]) (by decide +kernel) rfl rfl hd (fun d hd => ?_)
  unfold F146 at e
  rcases zI_s e with ⟨q1, e⟩ | ⟨q1, e⟩
  · refine zF_blk (m := []) (d := 1) (b := B146_3) (gs := [v1 < 0]) (c' := (21, [some (21, 0), some (0, v1)], [], (h, hm, o))) K146_3 rfl ⟨q1, trivial⟩ ?_
    refine zF_blk (m := []) (d := 0) (b := B146_0) (gs := []) (c' := (22, [some (21, 0), some (0, v1)], [(0, (-1))], (h, hm, o))) K146_0 rfl trivial ?_
    obtain rfl := Option.some.inj e
    exact zF_ri (zRe1_w (by decide +kernel))
  · refine zF_blk (m := []) (d := 0) (b := B146_3) (gs := [¬ (v1 < 0)]) (c' := (4, [some (21, 0), some (0, v1)], [], (h, hm, o))) K146_3 rfl ⟨q1, trivial⟩ ?_
    rcases zI_s e with ⟨q2, e⟩ | ⟨q2, e⟩
    · refine zF_blk (m := []) (d := 1) (b := B146_2) (gs := [(h 718 0 0) ≤ v1]) (c' := (21, [some (21, 0), some (0, v1)], [], (h, hm, o))) K146_2 rfl ⟨q2, trivial⟩ ?_
      refine zF_blk (m := []) (d := 0) (b := B146_0) (gs := []) (c' := (22, [some (21, 0), some (0, v1)], [(0, (-1))], (h, hm, o))) K146_0 rfl trivial ?_
      obtain rfl := Option.some.inj e
      exact zF_ri (zRe1_w (by decide +kernel))
    · refine zF_blk (m := []) (d := 0) (b := B146_2) (gs := [¬ ((h 718 0 0) ≤ v1)]) (c' := (12, [some (21, 0), some (0, v1)], [], (h, hm, o))) K146_2 rfl ⟨q2, trivial⟩ ?_
      obtain ⟨q3, e⟩ := zG_s e
      refine zF_blk (m := []) (d := 0) (b := B146_1) (gs := [0 ≤ v1 ∧ v1 < 96]) (c' := (22, [some (21, 0), some (0, v1)], [(0, (h 717 0 v1))], (h, hm, o))) K146_1 rfl ⟨q3, trivial⟩ ?_
      obtain rfl := Option.some.inj e
      exact zF_ri (zRe1_w (by decide +kernel))
noncomputable def B279_0 : List zRow := [(26, .iconst (-1), 1, (0, 0, 0))]
theorem K279_0 : zRk 279 B279_0 = true := zRw_ok (by decide +kernel)
noncomputable def B279_1 : List zRow := [(17, .aload_n 0, 1, (0, 0, 0)), (18, .getfield 72, 3, (12, 42, 5243682)), (21, .iload_n 1, 1, (0, 0, 0)), (22, .iaload, 1, (0, 0, 0)), (23, .goto 4, 3, (0, 0, 0))]
theorem K279_1 : zRk 279 B279_1 = true := zRw_ok (by decide +kernel)
noncomputable def B279_2 : List zRow := [(9, .iload_n 1, 1, (0, 0, 0)), (10, .aload_n 0, 1, (0, 0, 0)), (11, .getfield 385, 3, (12, 44, 0)), (14, .if_icmp .ge 12, 3, (0, 0, 0))]
theorem K279_2 : zRk 279 B279_2 = true := zRw_ok (by decide +kernel)
noncomputable def B279_3 : List zRow := [(0, .aload_n 0, 1, (0, 0, 0)), (1, .iconst 0, 1, (0, 0, 0)), (2, .putfield 81, 3, (12, 0, 0)), (5, .iload_n 1, 1, (0, 0, 0)), (6, .ifCond .lt 20, 3, (0, 0, 0))]
theorem K279_3 : zRk 279 B279_3 = true := zRw_ok (by decide +kernel)
/-- EchoValeModel.byteAt(I)I -/
def F279 (v1 : Int) (h : zHM) : Option (Int × zHM) := if v1 < 0 then some ((-1), (mset h 0 0 0)) else if (h 44 0) ≤ v1 then some ((-1), (mset h 0 0 0)) else zG (0 ≤ v1 ∧ v1 < 200) (some ((h 42 v1), (mset h 0 0 0)))
set_option maxRecDepth 100000 in
theorem S279 {spec : zRn zH2} {hc : zHC} {o : Int → Int} {d : Nat} (hd : 1 ≤ d) (v1 : Int) (h : zHM) (v : (Int × zHM)) (e : F279 v1 h = some v) : zRu2 spec d 279 [(22, 0), (0, v1)] (hc, h, o) (some (0, v.1)) (hc, v.2, o) := by
  refine zF_in (D := 0) (mx := 2) (L := [some (22, 0), some (0, v1)]) (by decide +kernel) rfl rfl hd (fun d hd => ?_)
  unfold F279 at e
  rcases zI_s e with ⟨q1, e⟩ | ⟨q1, e⟩
  · refine zF_blk (m := []) (d := 1) (b := B279_3) (gs := [v1 < 0]) (c' := (26, [some (22, 0), some (0, v1)], [], (hc, (mset h 0 0 0), o))) K279_3 rfl ⟨q1, trivial⟩ ?_
    refine zF_blk (m := []) (d := 0) (b := B279_0) (gs := []) (c' := (27, [some (22, 0), some (0, v1)], [(0, (-1))], (hc, (mset h 0 0 0), o))) K279_0 rfl trivial ?_
    exact zF_riM (zRe1_w (by decide +kernel)) e
  · refine zF_blk (m := []) (d := 0) (b := B279_3) (gs := [¬ (v1 < 0)]) (c' := (9, [some (22, 0), some (0, v1)], [], (hc, (mset h 0 0 0), o))) K279_3 rfl ⟨q1, trivial⟩ ?_
    rcases zI_s e with ⟨q2, e⟩ | ⟨q2, e⟩
    · refine zF_blk (m := []) (d := 1) (b := B279_2) (gs := [(h 44 0) ≤ v1]) (c' := (26, [some (22, 0), some (0, v1)], [], (hc, (mset h 0 0 0), o))) K279_2 rfl ⟨q2, trivial⟩ ?_
      refine zF_blk (m := []) (d := 0) (b := B279_0) (gs := []) (c' := (27, [some (22, 0), some (0, v1)], [(0, (-1))], (hc, (mset h 0 0 0), o))) K279_0 rfl trivial ?_
      exact zF_riM (zRe1_w (by decide +kernel)) e
    · refine zF_blk (m := []) (d := 0) (b := B279_2) (gs := [¬ ((h 44 0) ≤ v1)]) (c' := (17, [some (22, 0), some (0, v1)], [], (hc, (mset h 0 0 0), o))) K279_2 rfl ⟨q2, trivial⟩ ?_
      obtain ⟨q3, e⟩ := zG_s e
      refine zF_blk (m := []) (d := 0) (b := B279_1) (gs := [0 ≤ v1 ∧ v1 < 200]) (c' := (27, [some (22, 0), some (0, v1)], [(0, (h 42 v1))], (hc, (mset h 0 0 0), o))) K279_1 rfl ⟨q3, trivial⟩ ?_
      exact zF_riM (zRe1_w (by decide +kernel)) e
noncomputable def B152_0 : List zRow := [(20, .iconst 0, 1, (0, 0, 0))]
theorem K152_0 : zRk 152 B152_0 = true := zRw_ok (by decide +kernel)
noncomputable def B152_1 : List zRow := [(16, .iconst 1, 1, (0, 0, 0)), (17, .goto 4, 3, (0, 0, 0))]
theorem K152_1 : zRk 152 B152_1 = true := zRw_ok (by decide +kernel)
noncomputable def B152_2 : List zRow := [(8, .aload_n 0, 1, (0, 0, 0)), (9, .getfield 82, 3, (5, 6, 0)), (12, .iload_n 1, 1, (0, 0, 0)), (13, .if_icmp .ne 7, 3, (0, 0, 0))]
theorem K152_2 : zRk 152 B152_2 = true := zRw_ok (by decide +kernel)
noncomputable def B152_3 : List zRow := [(0, .aload_n 0, 1, (0, 0, 0)), (1, .getfield 70, 3, (5, 4, 0)), (4, .iconst 3, 1, (0, 0, 0)), (5, .if_icmp .ne 15, 3, (0, 0, 0))]
theorem K152_3 : zRk 152 B152_3 = true := zRw_ok (by decide +kernel)
/-- EchoVale$Reader.isWord(I)Z -/
def F152 (v1 : Int) (h : zHC) : Option Int := if ¬ (h 324 0 0) = 3 then some 0 else if ¬ (h 326 0 0) = v1 then some 0 else some 1
set_option maxRecDepth 100000 in
theorem S152 {spec : zRn zH2} {hm : zHM} {o : Int → Int} {d : Nat} (hd : 1 ≤ d) (v1 : Int) (h : zHC) (v : Int) (e : F152 v1 h = some v) : zRu2 spec d 152 [(15, 0), (0, v1)] (h, hm, o) (some (0, v)) (h, hm, o) := by
  refine zF_in (D := 0) (mx := 2) (L := [some (15, 0), some (0, v1)]) (by decide +kernel) rfl rfl hd (fun d hd => ?_)
  unfold F152 at e
  rcases zI_s e with ⟨q1, e⟩ | ⟨q1, e⟩
  · refine zF_blk (m := []) (d := 1) (b := B152_3) (gs := [¬ (h 324 0 0) = 3]) (c' := (20, [some (15, 0), some (0, v1)], [], (h, hm, o))) K152_3 rfl ⟨q1, trivial⟩ ?_
    refine zF_blk (m := []) (d := 0) (b := B152_0) (gs := []) (c' := (21, [some (15, 0), some (0, v1)], [(0, 0)], (h, hm, o))) K152_0 rfl trivial ?_
    obtain rfl := Option.some.inj e
    exact zF_rb (zRe1_w (by decide +kernel)) (Or.inl rfl)
  · refine zF_blk (m := []) (d := 0) (b := B152_3) (gs := [¬ (¬ (h 324 0 0) = 3)]) (c' := (8, [some (15, 0), some (0, v1)], [], (h, hm, o))) K152_3 rfl ⟨q1, trivial⟩ ?_
    rcases zI_s e with ⟨q2, e⟩ | ⟨q2, e⟩
    · refine zF_blk (m := []) (d := 1) (b := B152_2) (gs := [¬ (h 326 0 0) = v1]) (c' := (20, [some (15, 0), some (0, v1)], [], (h, hm, o))) K152_2 rfl ⟨q2, trivial⟩ ?_
      refine zF_blk (m := []) (d := 0) (b := B152_0) (gs := []) (c' := (21, [some (15, 0), some (0, v1)], [(0, 0)], (h, hm, o))) K152_0 rfl trivial ?_
      obtain rfl := Option.some.inj e
      exact zF_rb (zRe1_w (by decide +kernel)) (Or.inl rfl)
    · refine zF_blk (m := []) (d := 0) (b := B152_2) (gs := [¬ (¬ (h 326 0 0) = v1)]) (c' := (16, [some (15, 0), some (0, v1)], [], (h, hm, o))) K152_2 rfl ⟨q2, trivial⟩ ?_
      refine zF_blk (m := []) (d := 0) (b := B152_1) (gs := []) (c' := (21, [some (15, 0), some (0, v1)], [(0, 1)], (h, hm, o))) K152_1 rfl trivial ?_
      obtain rfl := Option.some.inj e
      exact zF_rb (zRe1_w (by decide +kernel)) (Or.inr rfl)
noncomputable def B153_0 : List zRow := [(9, .aload_n 0, 1, (0, 0, 0)), (10, .getfield 9, 3, (6, 2, 5243362)), (13, .aload_n 0, 1, (0, 0, 0)), (14, .getfield 23, 3, (6, 1, 0)), (17, .iconst 3, 1, (0, 0, 0)), (18, .imul, 1, (0, 0, 0)), (19, .iload_n 1, 1, (0, 0, 0)), (20, .iastore, 1, (0, 0, 0)), (21, .aload_n 0, 1, (0, 0, 0)), (22, .getfield 9, 3, (6, 2, 5243362)), (25, .aload_n 0, 1, (0, 0, 0)), (26, .getfield 23, 3, (6, 1, 0)), (29, .iconst 3, 1, (0, 0, 0)), (30, .imul, 1, (0, 0, 0)), (31, .iconst 1, 1, (0, 0, 0)), (32, .iadd, 1, (0, 0, 0)), (33, .iload_n 2, 1, (0, 0, 0)), (34, .iastore, 1, (0, 0, 0)), (35, .aload_n 0, 1, (0, 0, 0)), (36, .getfield 9, 3, (6, 2, 5243362)), (39, .aload_n 0, 1, (0, 0, 0)), (40, .getfield 23, 3, (6, 1, 0)), (43, .iconst 3, 1, (0, 0, 0)), (44, .imul, 1, (0, 0, 0)), (45, .iconst 2, 1, (0, 0, 0)), (46, .iadd, 1, (0, 0, 0)), (47, .iload_n 3, 1, (0, 0, 0)), (48, .iastore, 1, (0, 0, 0)), (49, .aload_n 0, 1, (0, 0, 0)), (50, .dup, 1, (0, 0, 0)), (51, .getfield 23, 3, (6, 1, 0)), (54, .iconst 1, 1, (0, 0, 0)), (55, .iadd, 1, (0, 0, 0)), (56, .putfield 23, 3, (6, 1, 0))]
theorem K153_0 : zRk 153 B153_0 = true := zRw_ok (by decide +kernel)
noncomputable def B153_1 : List zRow := [(0, .aload_n 0, 1, (0, 0, 0)), (1, .getfield 23, 3, (6, 1, 0)), (4, .bipush 40, 2, (0, 0, 0)), (6, .if_icmp .ge 53, 3, (0, 0, 0))]
theorem K153_1 : zRk 153 B153_1 = true := zRw_ok (by decide +kernel)
/-- EchoVale$Sentence.add(III)V -/
def F153 (v0 : Int) (v1 : Int) (v2 : Int) (v3 : Int) (h : zHC) : Option zHC := if 40 ≤ (h 385 v0 0) then some h else zG (0 ≤ (wmul (h 385 v0 0) 3) ∧ (wmul (h 385 v0 0) 3) < 120) (zG (0 ≤ (wadd (wmul (h 385 v0 0) 3) 1) ∧ (wadd (wmul (h 385 v0 0) 3) 1) < 120) (zG (0 ≤ (wadd (wmul (h 385 v0 0) 3) 2) ∧ (wadd (wmul (h 385 v0 0) 3) 2) < 120) (some (hset (hset (hset (hset h 386 v0 (wmul (h 385 v0 0) 3) v1) 386 v0 (wadd (wmul (h 385 v0 0) 3) 1) v2) 386 v0 (wadd (wmul (h 385 v0 0) 3) 2) v3) 385 v0 0 (wadd (h 385 v0 0) 1)))))
set_option maxRecDepth 100000 in
theorem S153 {spec : zRn zH2} {hm : zHM} {o : Int → Int} {d : Nat} (hd : 1 ≤ d) (v0 : Int) (v1 : Int) (v2 : Int) (v3 : Int) (h : zHC) (v : zHC) (e : F153 v0 v1 v2 v3 h = some v) : zRu2 spec d 153 [(16, v0), (0, v1), (0, v2), (0, v3)] (h, hm, o) none (v, hm, o) := by
  refine zF_in (D := 0) (mx := 4) (L := [some (16, v0), some (0, v1), some (0, v2), some (0, v3)]) (by decide +kernel) rfl rfl hd (fun d hd => ?_)
  unfold F153 at e
  rcases zI_s e with ⟨q1, e⟩ | ⟨q1, e⟩
  · refine zF_blk (m := []) (d := 1) (b := B153_1) (gs := [40 ≤ (h 385 v0 0)]) (c' := (59, [some (16, v0), some (0, v1), some (0, v2), some (0, v3)], [], (h, hm, o))) K153_1 rfl ⟨q1, trivial⟩ ?_
    obtain rfl := Option.some.inj e
    exact zF_rv (zRe1_w (by decide +kernel))
  · refine zF_blk (m := []) (d := 0) (b := B153_1) (gs := [¬ (40 ≤ (h 385 v0 0))]) (c' := (9, [some (16, v0), some (0, v1), some (0, v2), some (0, v3)], [], (h, hm, o))) K153_1 rfl ⟨q1, trivial⟩ ?_
    obtain ⟨q2, e⟩ := zG_s e
    obtain ⟨q3, e⟩ := zG_s e
    obtain ⟨q4, e⟩ := zG_s e
    refine zF_blk (m := []) (d := 0) (b := B153_0) (gs := [0 ≤ (wmul (h 385 v0 0) 3) ∧ (wmul (h 385 v0 0) 3) < 120, 0 ≤ (wadd (wmul (h 385 v0 0) 3) 1) ∧ (wadd (wmul (h 385 v0 0) 3) 1) < 120, 0 ≤ (wadd (wmul (h 385 v0 0) 3) 2) ∧ (wadd (wmul (h 385 v0 0) 3) 2) < 120]) (c' := (59, [some (16, v0), some (0, v1), some (0, v2), some (0, v3)], [], ((hset (hset (hset (hset h 386 v0 (wmul (h 385 v0 0) 3) v1) 386 v0 (wadd (wmul (h 385 v0 0) 3) 1) v2) 386 v0 (wadd (wmul (h 385 v0 0) 3) 2) v3) 385 v0 0 (wadd (h 385 v0 0) 1)), hm, o))) K153_0 rfl ⟨q2, q3, q4, trivial⟩ ?_
    obtain rfl := Option.some.inj e
    exact zF_rv (zRe1_w (by decide +kernel))
noncomputable def B154_0 : List zRow := [(0, .aload_n 0, 1, (0, 0, 0)), (1, .getfield 18, 3, (7, 1, 23)), (4, .getfield 66, 3, (5, 6, 0)), (7, .istore_n 2, 1, (0, 0, 0)), (8, .aload_n 0, 1, (0, 0, 0)), (9, .getfield 18, 3, (7, 1, 23))]
theorem K154_0 : zRk 154 B154_0 = true := zRw_ok (by decide +kernel)
noncomputable def B154_1 : List zRow := [(86, .aload_n 0, 1, (0, 0, 0)), (87, .getfield 18, 3, (7, 1, 23)), (90, .bipush 60, 2, (0, 0, 0))]
theorem K154_1 : zRk 154 B154_1 = true := zRw_ok (by decide +kernel)
noncomputable def B154_2 : List zRow := [(98, .aload_n 0, 1, (0, 0, 0)), (99, .getfield 18, 3, (7, 1, 23)), (102, .bipush 61, 2, (0, 0, 0))]
theorem K154_2 : zRk 154 B154_2 = true := zRw_ok (by decide +kernel)
noncomputable def B154_3 : List zRow := [(110, .aload_n 0, 1, (0, 0, 0)), (111, .getfield 18, 3, (7, 1, 23)), (114, .bipush 62, 2, (0, 0, 0))]
theorem K154_3 : zRk 154 B154_3 = true := zRw_ok (by decide +kernel)
noncomputable def B154_4 : List zRow := [(122, .aload_n 0, 1, (0, 0, 0)), (123, .getfield 18, 3, (7, 1, 23)), (126, .iconst 1, 1, (0, 0, 0))]
theorem K154_4 : zRk 154 B154_4 = true := zRw_ok (by decide +kernel)
noncomputable def B154_5 : List zRow := [(119, .ifCond .ne 12, 3, (0, 0, 0))]
theorem K154_5 : zRk 154 B154_5 = true := zRw_ok (by decide +kernel)
noncomputable def B154_6 : List zRow := [(107, .ifCond .ne 24, 3, (0, 0, 0))]
theorem K154_6 : zRk 154 B154_6 = true := zRw_ok (by decide +kernel)
noncomputable def B154_7 : List zRow := [(95, .ifCond .ne 36, 3, (0, 0, 0))]
theorem K154_7 : zRk 154 B154_7 = true := zRw_ok (by decide +kernel)
noncomputable def B154_8 : List zRow := [(45, .iload_n 2, 1, (0, 0, 0)), (46, .bipush 16, 2, (0, 0, 0)), (48, .if_icmp .ne 38, 3, (0, 0, 0))]
theorem K154_8 : zRk 154 B154_8 = true := zRw_ok (by decide +kernel)
noncomputable def B154_9 : List zRow := [(39, .iload_n 2, 1, (0, 0, 0)), (40, .bipush 15, 2, (0, 0, 0)), (42, .if_icmp .eq 9, 3, (0, 0, 0))]
theorem K154_9 : zRk 154 B154_9 = true := zRw_ok (by decide +kernel)
noncomputable def B154_10 : List zRow := [(21, .iload_n 2, 1, (0, 0, 0)), (22, .bipush 14, 2, (0, 0, 0)), (24, .if_icmp .ne 15, 3, (0, 0, 0))]
theorem K154_10 : zRk 154 B154_10 = true := zRw_ok (by decide +kernel)
noncomputable def B154_11 : List zRow := [(15, .iload_n 2, 1, (0, 0, 0)), (16, .bipush 13, 2, (0, 0, 0)), (18, .if_icmp .eq 9, 3, (0, 0, 0))]
theorem K154_11 : zRk 154 B154_11 = true := zRw_ok (by decide +kernel)
noncomputable def B154_12 : List zRow := [(131, .aload_n 0, 1, (0, 0, 0)), (132, .getfield 18, 3, (7, 1, 23)), (135, .getfield 66, 3, (5, 6, 0)), (138, .istore_n 3, 1, (0, 0, 0)), (139, .aload_n 0, 1, (0, 0, 0)), (140, .getfield 18, 3, (7, 1, 23))]
theorem K154_12 : zRk 154 B154_12 = true := zRw_ok (by decide +kernel)
noncomputable def B154_13 : List zRow := [(166, .aload_n 0, 1, (0, 0, 0)), (167, .getfield 12, 3, (7, 0, 155)), (170, .iload_n 2, 1, (0, 0, 0)), (171, .iload_n 3, 1, (0, 0, 0)), (172, .aload_n 0, 1, (0, 0, 0)), (173, .getfield 18, 3, (7, 1, 23)), (176, .getfield 66, 3, (5, 6, 0))]
theorem K154_13 : zRk 154 B154_13 = true := zRw_ok (by decide +kernel)
noncomputable def B154_14 : List zRow := [(182, .aload_n 0, 1, (0, 0, 0)), (183, .getfield 18, 3, (7, 1, 23))]
theorem K154_14 : zRk 154 B154_14 = true := zRw_ok (by decide +kernel)
noncomputable def B154_15 : List zRow := [(189, .iconst 1, 1, (0, 0, 0))]
theorem K154_15 : zRk 154 B154_15 = true := zRw_ok (by decide +kernel)
noncomputable def B154_16 : List zRow := [(157, .aload_n 0, 1, (0, 0, 0)), (158, .getfield 18, 3, (7, 1, 23)), (161, .iconst 1, 1, (0, 0, 0))]
theorem K154_16 : zRk 154 B154_16 = true := zRw_ok (by decide +kernel)
noncomputable def B154_17 : List zRow := [(146, .aload_n 0, 1, (0, 0, 0)), (147, .getfield 18, 3, (7, 1, 23)), (150, .getfield 62, 3, (5, 4, 0)), (153, .iconst 4, 1, (0, 0, 0)), (154, .if_icmp .eq 12, 3, (0, 0, 0))]
theorem K154_17 : zRk 154 B154_17 = true := zRw_ok (by decide +kernel)
noncomputable def B154_18 : List zRow := [(51, .aload_n 0, 1, (0, 0, 0)), (52, .getfield 18, 3, (7, 1, 23)), (55, .aload_n 1, 1, (0, 0, 0))]
theorem K154_18 : zRk 154 B154_18 = true := zRw_ok (by decide +kernel)
noncomputable def B154_19 : List zRow := [(67, .aload_n 0, 1, (0, 0, 0)), (68, .getfield 12, 3, (7, 0, 155)), (71, .iload_n 2, 1, (0, 0, 0)), (72, .iconst 0, 1, (0, 0, 0)), (73, .iload_n 3, 1, (0, 0, 0))]
theorem K154_19 : zRk 154 B154_19 = true := zRw_ok (by decide +kernel)
noncomputable def B154_20 : List zRow := [(77, .aload_n 0, 1, (0, 0, 0)), (78, .getfield 18, 3, (7, 1, 23))]
theorem K154_20 : zRk 154 B154_20 = true := zRw_ok (by decide +kernel)
noncomputable def B154_21 : List zRow := [(84, .iconst 1, 1, (0, 0, 0))]
theorem K154_21 : zRk 154 B154_21 = true := zRw_ok (by decide +kernel)
noncomputable def B154_22 : List zRow := [(65, .iconst 0, 1, (0, 0, 0))]
theorem K154_22 : zRk 154 B154_22 = true := zRw_ok (by decide +kernel)
noncomputable def B154_23 : List zRow := [(59, .istore_n 3, 1, (0, 0, 0)), (60, .iload_n 3, 1, (0, 0, 0)), (61, .iconst (-1), 1, (0, 0, 0)), (62, .if_icmp .ne 5, 3, (0, 0, 0))]
theorem K154_23 : zRk 154 B154_23 = true := zRw_ok (by decide +kernel)
noncomputable def B154_24 : List zRow := [(27, .aload_n 0, 1, (0, 0, 0)), (28, .getfield 12, 3, (7, 0, 155)), (31, .iload_n 2, 1, (0, 0, 0)), (32, .iconst 0, 1, (0, 0, 0)), (33, .iconst 0, 1, (0, 0, 0))]
theorem K154_24 : zRk 154 B154_24 = true := zRw_ok (by decide +kernel)
noncomputable def B154_25 : List zRow := [(37, .iconst 1, 1, (0, 0, 0))]
theorem K154_25 : zRk 154 B154_25 = true := zRw_ok (by decide +kernel)
def F154_2 (v2 : Int) (h : zHC) : Option (Int × zHC) := (F21 h).bind fun r1 => if (r1 324 0 0) = 4 then (F153 1 v2 (h 326 0 0) (r1 326 0 0) r1).bind fun r2 => (F21 r2).bind fun r3 => some (1, r3) else (F31 1 r1).bind fun r4 => zG (r4.1 = 0 ∨ r4.1 = 1) (some (r4.1, r4.2))
set_option maxRecDepth 100000 in
theorem T154_2 {spec : zRn zH2} {hm : zHM} {o : Int → Int} {d : Nat} (hd : 3 ≤ d) (v2 : Int) (h : zHC) (v : (Int × zHC)) (e : F154_2 v2 h = some v) : zFin 0 (fun _ => 0) (zRu2 spec d) 154 (some (0, v.1)) (v.2, hm, o) (131, [some (17, 0), none, some (0, v2), none], [], (h, hm, o)) := by
  unfold F154_2 at e
  obtain ⟨r1, q1, e⟩ := zB_s e
  refine zF_blk (m := []) (d := 0) (b := B154_12) (gs := []) (c' := (143, [some (17, 0), none, some (0, v2), some (0, (h 326 0 0))], [(15, 0)], (h, hm, o))) K154_12 rfl trivial ?_
  refine zF_call (k := 21) (cl := 5) (n := 1) (i := .invokevirtual 49) (args := [(15, 0)]) (rest := []) (g1 := (r1, hm, o)) (r1 := none) (zCk1_w (by decide +kernel)) rfl rfl rfl (st' := []) rfl (S21 (Nat.le_trans (by decide) hd)  h _ q1) ?_
  rcases zI_s e with ⟨q2, e⟩ | ⟨q2, e⟩
  · refine zF_blk (m := []) (d := 1) (b := B154_17) (gs := [(r1 324 0 0) = 4]) (c' := (166, [some (17, 0), none, some (0, v2), some (0, (h 326 0 0))], [], (r1, hm, o))) K154_17 rfl ⟨q2, trivial⟩ ?_
    obtain ⟨r2, q3, e⟩ := zB_s e
    refine zF_blk (m := []) (d := 0) (b := B154_13) (gs := []) (c' := (179, [some (17, 0), none, some (0, v2), some (0, (h 326 0 0))], [(0, (r1 326 0 0)), (0, (h 326 0 0)), (0, v2), (16, 1)], (r1, hm, o))) K154_13 rfl trivial ?_
    refine zF_call (k := 153) (cl := 6) (n := 4) (i := .invokevirtual 52) (args := [(16, 1), (0, v2), (0, (h 326 0 0)), (0, (r1 326 0 0))]) (rest := []) (g1 := (r2, hm, o)) (r1 := none) (zCk1_w (by decide +kernel)) rfl rfl rfl (st' := []) rfl (S153 (Nat.le_trans (by decide) hd) 1 v2 (h 326 0 0) (r1 326 0 0) r1 _ q3) ?_
    obtain ⟨r3, q4, e⟩ := zB_s e
    refine zF_blk (m := []) (d := 0) (b := B154_14) (gs := []) (c' := (186, [some (17, 0), none, some (0, v2), some (0, (h 326 0 0))], [(15, 0)], (r2, hm, o))) K154_14 rfl trivial ?_
    refine zF_call (k := 21) (cl := 5) (n := 1) (i := .invokevirtual 49) (args := [(15, 0)]) (rest := []) (g1 := (r3, hm, o)) (r1 := none) (zCk1_w (by decide +kernel)) rfl rfl rfl (st' := []) rfl (S21 (Nat.le_trans (by decide) hd)  r2 _ q4) ?_
    refine zF_blk (m := []) (d := 0) (b := B154_15) (gs := []) (c' := (190, [some (17, 0), none, some (0, v2), some (0, (h 326 0 0))], [(0, 1)], (r3, hm, o))) K154_15 rfl trivial ?_
    exact zF_rbC (zRe1_w (by decide +kernel)) (Or.inr rfl) e
  · refine zF_blk (m := []) (d := 0) (b := B154_17) (gs := [¬ ((r1 324 0 0) = 4)]) (c' := (157, [some (17, 0), none, some (0, v2), some (0, (h 326 0 0))], [], (r1, hm, o))) K154_17 rfl ⟨q2, trivial⟩ ?_
    obtain ⟨r4, q5, e⟩ := zB_s e
    refine zF_blk (m := []) (d := 0) (b := B154_16) (gs := []) (c' := (162, [some (17, 0), none, some (0, v2), some (0, (h 326 0 0))], [(0, 1), (15, 0)], (r1, hm, o))) K154_16 rfl trivial ?_
    refine zF_call (k := 31) (cl := 5) (n := 2) (i := .invokevirtual 39) (args := [(15, 0), (0, 1)]) (rest := []) (g1 := (r4.2, hm, o)) (r1 := some (0, r4.1)) (zCk1_w (by decide +kernel)) rfl rfl rfl (st' := [(0, r4.1)]) rfl (S31 (Nat.le_trans (by decide) hd) 1 r1 _ q5) ?_
    obtain ⟨q6, e⟩ := zG_s e
    exact zF_rbC (zRe1_w (by decide +kernel)) q6 e
def F154_1 (v1 : Int) (v2 : Int) (h : zHC) : Option (Int × zHC) := (F43 v1 h).bind fun r1 => if ¬ r1.1 = (-1) then (F153 1 v2 0 r1.1 r1.2).bind fun r2 => (F21 r2).bind fun r3 => some (1, r3) else some (0, r1.2)
set_option maxRecDepth 100000 in
theorem T154_1 {spec : zRn zH2} {hm : zHM} {o : Int → Int} {d : Nat} (hd : 3 ≤ d) (v1 : Int) (v2 : Int) (h : zHC) (v : (Int × zHC)) (e : F154_1 v1 v2 h = some v) : zFin 0 (fun _ => 0) (zRu2 spec d) 154 (some (0, v.1)) (v.2, hm, o) (51, [some (17, 0), some (19, v1), some (0, v2), none], [], (h, hm, o)) := by
  unfold F154_1 at e
  obtain ⟨r1, q1, e⟩ := zB_s e
  refine zF_blk (m := []) (d := 0) (b := B154_18) (gs := []) (c' := (56, [some (17, 0), some (19, v1), some (0, v2), none], [(19, v1), (15, 0)], (h, hm, o))) K154_18 rfl trivial ?_
  refine zF_call (k := 43) (cl := 5) (n := 2) (i := .invokevirtual 79) (args := [(15, 0), (19, v1)]) (rest := []) (g1 := (r1.2, hm, o)) (r1 := some (0, r1.1)) (zCk1_w (by decide +kernel)) rfl rfl rfl (st' := [(0, r1.1)]) rfl (S43 (Nat.le_trans (by decide) hd) v1 h _ q1) ?_
  rcases zI_s e with ⟨q2, e⟩ | ⟨q2, e⟩
  · refine zF_blk (m := []) (d := 1) (b := B154_23) (gs := [¬ r1.1 = (-1)]) (c' := (67, [some (17, 0), some (19, v1), some (0, v2), some (0, r1.1)], [], (r1.2, hm, o))) K154_23 rfl ⟨q2, trivial⟩ ?_
    obtain ⟨r2, q3, e⟩ := zB_s e
    refine zF_blk (m := []) (d := 0) (b := B154_19) (gs := []) (c' := (74, [some (17, 0), some (19, v1), some (0, v2), some (0, r1.1)], [(0, r1.1), (0, 0), (0, v2), (16, 1)], (r1.2, hm, o))) K154_19 rfl trivial ?_
    refine zF_call (k := 153) (cl := 6) (n := 4) (i := .invokevirtual 52) (args := [(16, 1), (0, v2), (0, 0), (0, r1.1)]) (rest := []) (g1 := (r2, hm, o)) (r1 := none) (zCk1_w (by decide +kernel)) rfl rfl rfl (st' := []) rfl (S153 (Nat.le_trans (by decide) hd) 1 v2 0 r1.1 r1.2 _ q3) ?_
    obtain ⟨r3, q4, e⟩ := zB_s e
    refine zF_blk (m := []) (d := 0) (b := B154_20) (gs := []) (c' := (81, [some (17, 0), some (19, v1), some (0, v2), some (0, r1.1)], [(15, 0)], (r2, hm, o))) K154_20 rfl trivial ?_
    refine zF_call (k := 21) (cl := 5) (n := 1) (i := .invokevirtual 49) (args := [(15, 0)]) (rest := []) (g1 := (r3, hm, o)) (r1 := none) (zCk1_w (by decide +kernel)) rfl rfl rfl (st' := []) rfl (S21 (Nat.le_trans (by decide) hd)  r2 _ q4) ?_
    refine zF_blk (m := []) (d := 0) (b := B154_21) (gs := []) (c' := (85, [some (17, 0), some (19, v1), some (0, v2), some (0, r1.1)], [(0, 1)], (r3, hm, o))) K154_21 rfl trivial ?_
    exact zF_rbC (zRe1_w (by decide +kernel)) (Or.inr rfl) e
  · refine zF_blk (m := []) (d := 0) (b := B154_23) (gs := [¬ (¬ r1.1 = (-1))]) (c' := (65, [some (17, 0), some (19, v1), some (0, v2), some (0, r1.1)], [], (r1.2, hm, o))) K154_23 rfl ⟨q2, trivial⟩ ?_
    refine zF_blk (m := []) (d := 0) (b := B154_22) (gs := []) (c' := (66, [some (17, 0), some (19, v1), some (0, v2), some (0, r1.1)], [(0, 0)], (r1.2, hm, o))) K154_22 rfl trivial ?_
    exact zF_rbC (zRe1_w (by decide +kernel)) (Or.inl rfl) e
def F154_0 (v2 : Int) (h : zHC) : Option (Int × zHC) := (F153 1 v2 0 0 h).bind fun r1 => some (1, r1)
set_option maxRecDepth 100000 in
theorem T154_0 {spec : zRn zH2} {hm : zHM} {o : Int → Int} {d : Nat} (hd : 3 ≤ d) (v2 : Int) (h : zHC) (v : (Int × zHC)) (e : F154_0 v2 h = some v) : zFin 0 (fun _ => 0) (zRu2 spec d) 154 (some (0, v.1)) (v.2, hm, o) (27, [some (17, 0), none, some (0, v2), none], [], (h, hm, o)) := by
  unfold F154_0 at e
  obtain ⟨r1, q1, e⟩ := zB_s e
  refine zF_blk (m := []) (d := 0) (b := B154_24) (gs := []) (c' := (34, [some (17, 0), none, some (0, v2), none], [(0, 0), (0, 0), (0, v2), (16, 1)], (h, hm, o))) K154_24 rfl trivial ?_
  refine zF_call (k := 153) (cl := 6) (n := 4) (i := .invokevirtual 52) (args := [(16, 1), (0, v2), (0, 0), (0, 0)]) (rest := []) (g1 := (r1, hm, o)) (r1 := none) (zCk1_w (by decide +kernel)) rfl rfl rfl (st' := []) rfl (S153 (Nat.le_trans (by decide) hd) 1 v2 0 0 h _ q1) ?_
  refine zF_blk (m := []) (d := 0) (b := B154_25) (gs := []) (c' := (38, [some (17, 0), none, some (0, v2), none], [(0, 1)], (r1, hm, o))) K154_25 rfl trivial ?_
  exact zF_rbC (zRe1_w (by decide +kernel)) (Or.inr rfl) e
/-- EchoVale$SentenceText.readPlain(LEchoVale$Valley;)Z -/
def F154 (v1 : Int) (h : zHC) : Option (Int × zHC) := (F21 h).bind fun r1 => if (h 326 0 0) = 13 then F154_0 (h 326 0 0) r1 else if ¬ (h 326 0 0) = 14 then if (h 326 0 0) = 15 then F154_1 v1 (h 326 0 0) r1 else if ¬ (h 326 0 0) = 16 then (F51 60 r1).bind fun r2 => if ¬ r2 = 0 then F154_2 (h 326 0 0) r1 else (F51 61 r1).bind fun r3 => if ¬ r3 = 0 then F154_2 (h 326 0 0) r1 else (F51 62 r1).bind fun r4 => if ¬ r4 = 0 then F154_2 (h 326 0 0) r1 else (F31 1 r1).bind fun r5 => zG (r5.1 = 0 ∨ r5.1 = 1) (some (r5.1, r5.2)) else F154_1 v1 (h 326 0 0) r1 else F154_0 (h 326 0 0) r1
set_option maxRecDepth 100000 in
theorem S154 {spec : zRn zH2} {hm : zHM} {o : Int → Int} {d : Nat} (hd : 4 ≤ d) (v1 : Int) (h : zHC) (v : (Int × zHC)) (e : F154 v1 h = some v) : zRu2 spec d 154 [(17, 0), (19, v1)] (h, hm, o) (some (0, v.1)) (v.2, hm, o) := by
  refine zF_in (D := 3) (mx := 4) (L := [some (17, 0), some (19, v1), none, none]) (by decide +kernel) rfl rfl hd (fun d hd => ?_)
  unfold F154 at e
  obtain ⟨r1, q1, e⟩ := zB_s e
  refine zF_blk (m := []) (d := 0) (b := B154_0) (gs := []) (c' := (12, [some (17, 0), some (19, v1), some (0, (h 326 0 0)), none], [(15, 0)], (h, hm, o))) K154_0 rfl trivial ?_
  refine zF_call (k := 21) (cl := 5) (n := 1) (i := .invokevirtual 49) (args := [(15, 0)]) (rest := []) (g1 := (r1, hm, o)) (r1 := none) (zCk1_w (by decide +kernel)) rfl rfl rfl (st' := []) rfl (S21 (Nat.le_trans (by decide) hd)  h _ q1) ?_
  rcases zI_s e with ⟨q2, e⟩ | ⟨q2, e⟩
  · refine zF_blk (m := []) (d := 1) (b := B154_11) (gs := [(h 326 0 0) = 13]) (c' := (27, [some (17, 0), some (19, v1), some (0, (h 326 0 0)), none], [], (r1, hm, o))) K154_11 rfl ⟨q2, trivial⟩ ?_
    refine zF_blk (m := [true, false, true, false]) (d := 0) (b := []) (gs := []) (c' := (27, [some (17, 0), none, some (0, (h 326 0 0)), none], [], (r1, hm, o))) rfl rfl trivial ?_
    exact T154_0 hd (h 326 0 0) r1 _ e
  · refine zF_blk (m := []) (d := 0) (b := B154_11) (gs := [¬ ((h 326 0 0) = 13)]) (c' := (21, [some (17, 0), some (19, v1), some (0, (h 326 0 0)), none], [], (r1, hm, o))) K154_11 rfl ⟨q2, trivial⟩ ?_
    rcases zI_s e with ⟨q3, e⟩ | ⟨q3, e⟩
    · refine zF_blk (m := []) (d := 1) (b := B154_10) (gs := [¬ (h 326 0 0) = 14]) (c' := (39, [some (17, 0), some (19, v1), some (0, (h 326 0 0)), none], [], (r1, hm, o))) K154_10 rfl ⟨q3, trivial⟩ ?_
      rcases zI_s e with ⟨q4, e⟩ | ⟨q4, e⟩
      · refine zF_blk (m := []) (d := 1) (b := B154_9) (gs := [(h 326 0 0) = 15]) (c' := (51, [some (17, 0), some (19, v1), some (0, (h 326 0 0)), none], [], (r1, hm, o))) K154_9 rfl ⟨q4, trivial⟩ ?_
        exact T154_1 hd v1 (h 326 0 0) r1 _ e
      · refine zF_blk (m := []) (d := 0) (b := B154_9) (gs := [¬ ((h 326 0 0) = 15)]) (c' := (45, [some (17, 0), some (19, v1), some (0, (h 326 0 0)), none], [], (r1, hm, o))) K154_9 rfl ⟨q4, trivial⟩ ?_
        rcases zI_s e with ⟨q5, e⟩ | ⟨q5, e⟩
        · refine zF_blk (m := []) (d := 1) (b := B154_8) (gs := [¬ (h 326 0 0) = 16]) (c' := (86, [some (17, 0), some (19, v1), some (0, (h 326 0 0)), none], [], (r1, hm, o))) K154_8 rfl ⟨q5, trivial⟩ ?_
          obtain ⟨r2, q6, e⟩ := zB_s e
          refine zF_blk (m := []) (d := 0) (b := B154_1) (gs := []) (c' := (92, [some (17, 0), some (19, v1), some (0, (h 326 0 0)), none], [(0, 60), (15, 0)], (r1, hm, o))) K154_1 rfl trivial ?_
          refine zF_call (k := 51) (cl := 5) (n := 2) (i := .invokevirtual 59) (args := [(15, 0), (0, 60)]) (rest := []) (g1 := (r1, hm, o)) (r1 := some (0, r2)) (zCk1_w (by decide +kernel)) rfl rfl rfl (st' := [(0, r2)]) rfl (S51 (Nat.le_trans (by decide) hd) 60 r1 _ q6) ?_
          rcases zI_s e with ⟨q7, e⟩ | ⟨q7, e⟩
          · refine zF_blk (m := []) (d := 1) (b := B154_7) (gs := [¬ r2 = 0]) (c' := (131, [some (17, 0), some (19, v1), some (0, (h 326 0 0)), none], [], (r1, hm, o))) K154_7 rfl ⟨q7, trivial⟩ ?_
            refine zF_blk (m := [true, false, true, false]) (d := 0) (b := []) (gs := []) (c' := (131, [some (17, 0), none, some (0, (h 326 0 0)), none], [], (r1, hm, o))) rfl rfl trivial ?_
            exact T154_2 hd (h 326 0 0) r1 _ e
          · refine zF_blk (m := []) (d := 0) (b := B154_7) (gs := [¬ (¬ r2 = 0)]) (c' := (98, [some (17, 0), some (19, v1), some (0, (h 326 0 0)), none], [], (r1, hm, o))) K154_7 rfl ⟨q7, trivial⟩ ?_
            obtain ⟨r3, q8, e⟩ := zB_s e
            refine zF_blk (m := []) (d := 0) (b := B154_2) (gs := []) (c' := (104, [some (17, 0), some (19, v1), some (0, (h 326 0 0)), none], [(0, 61), (15, 0)], (r1, hm, o))) K154_2 rfl trivial ?_
            refine zF_call (k := 51) (cl := 5) (n := 2) (i := .invokevirtual 59) (args := [(15, 0), (0, 61)]) (rest := []) (g1 := (r1, hm, o)) (r1 := some (0, r3)) (zCk1_w (by decide +kernel)) rfl rfl rfl (st' := [(0, r3)]) rfl (S51 (Nat.le_trans (by decide) hd) 61 r1 _ q8) ?_
            rcases zI_s e with ⟨q9, e⟩ | ⟨q9, e⟩
            · refine zF_blk (m := []) (d := 1) (b := B154_6) (gs := [¬ r3 = 0]) (c' := (131, [some (17, 0), some (19, v1), some (0, (h 326 0 0)), none], [], (r1, hm, o))) K154_6 rfl ⟨q9, trivial⟩ ?_
              refine zF_blk (m := [true, false, true, false]) (d := 0) (b := []) (gs := []) (c' := (131, [some (17, 0), none, some (0, (h 326 0 0)), none], [], (r1, hm, o))) rfl rfl trivial ?_
              exact T154_2 hd (h 326 0 0) r1 _ e
            · refine zF_blk (m := []) (d := 0) (b := B154_6) (gs := [¬ (¬ r3 = 0)]) (c' := (110, [some (17, 0), some (19, v1), some (0, (h 326 0 0)), none], [], (r1, hm, o))) K154_6 rfl ⟨q9, trivial⟩ ?_
              obtain ⟨r4, q10, e⟩ := zB_s e
              refine zF_blk (m := []) (d := 0) (b := B154_3) (gs := []) (c' := (116, [some (17, 0), some (19, v1), some (0, (h 326 0 0)), none], [(0, 62), (15, 0)], (r1, hm, o))) K154_3 rfl trivial ?_
              refine zF_call (k := 51) (cl := 5) (n := 2) (i := .invokevirtual 59) (args := [(15, 0), (0, 62)]) (rest := []) (g1 := (r1, hm, o)) (r1 := some (0, r4)) (zCk1_w (by decide +kernel)) rfl rfl rfl (st' := [(0, r4)]) rfl (S51 (Nat.le_trans (by decide) hd) 62 r1 _ q10) ?_
              rcases zI_s e with ⟨q11, e⟩ | ⟨q11, e⟩
              · refine zF_blk (m := []) (d := 1) (b := B154_5) (gs := [¬ r4 = 0]) (c' := (131, [some (17, 0), some (19, v1), some (0, (h 326 0 0)), none], [], (r1, hm, o))) K154_5 rfl ⟨q11, trivial⟩ ?_
                refine zF_blk (m := [true, false, true, false]) (d := 0) (b := []) (gs := []) (c' := (131, [some (17, 0), none, some (0, (h 326 0 0)), none], [], (r1, hm, o))) rfl rfl trivial ?_
                exact T154_2 hd (h 326 0 0) r1 _ e
              · refine zF_blk (m := []) (d := 0) (b := B154_5) (gs := [¬ (¬ r4 = 0)]) (c' := (122, [some (17, 0), some (19, v1), some (0, (h 326 0 0)), none], [], (r1, hm, o))) K154_5 rfl ⟨q11, trivial⟩ ?_
                obtain ⟨r5, q12, e⟩ := zB_s e
                refine zF_blk (m := []) (d := 0) (b := B154_4) (gs := []) (c' := (127, [some (17, 0), some (19, v1), some (0, (h 326 0 0)), none], [(0, 1), (15, 0)], (r1, hm, o))) K154_4 rfl trivial ?_
                refine zF_call (k := 31) (cl := 5) (n := 2) (i := .invokevirtual 39) (args := [(15, 0), (0, 1)]) (rest := []) (g1 := (r5.2, hm, o)) (r1 := some (0, r5.1)) (zCk1_w (by decide +kernel)) rfl rfl rfl (st' := [(0, r5.1)]) rfl (S31 (Nat.le_trans (by decide) hd) 1 r1 _ q12) ?_
                obtain ⟨q13, e⟩ := zG_s e
                exact zF_rbC (zRe1_w (by decide +kernel)) q13 e
        · refine zF_blk (m := []) (d := 0) (b := B154_8) (gs := [¬ (¬ (h 326 0 0) = 16)]) (c' := (51, [some (17, 0), some (19, v1), some (0, (h 326 0 0)), none], [], (r1, hm, o))) K154_8 rfl ⟨q5, trivial⟩ ?_
          exact T154_1 hd v1 (h 326 0 0) r1 _ e
    · refine zF_blk (m := []) (d := 0) (b := B154_10) (gs := [¬ (¬ (h 326 0 0) = 14)]) (c' := (27, [some (17, 0), some (19, v1), some (0, (h 326 0 0)), none], [], (r1, hm, o))) K154_10 rfl ⟨q3, trivial⟩ ?_
      refine zF_blk (m := [true, false, true, false]) (d := 0) (b := []) (gs := []) (c' := (27, [some (17, 0), none, some (0, (h 326 0 0)), none], [], (r1, hm, o))) rfl rfl trivial ?_
      exact T154_0 hd (h 326 0 0) r1 _ e
noncomputable def B150b_0 : List zRow := [(0, .aload_n 0, 1, (0, 0, 0)), (1, .aload_n 1, 1, (0, 0, 0)), (2, .iload_n 2, 1, (0, 0, 0))]
theorem K150b_0 : zRk 150 B150b_0 = true := zRw_ok (by decide +kernel)
noncomputable def B150b_1 : List zRow := [(11, .iconst 0, 1, (0, 0, 0)), (12, .istore_n 3, 1, (0, 0, 0))]
theorem K150b_1 : zRk 150 B150b_1 = true := zRw_ok (by decide +kernel)
noncomputable def B150b_2 : List zRow := [(9, .iconst 0, 1, (0, 0, 0))]
theorem K150b_2 : zRk 150 B150b_2 = true := zRw_ok (by decide +kernel)
noncomputable def B150b_3 : List zRow := [(6, .ifCond .ne 5, 3, (0, 0, 0))]
theorem K150b_3 : zRk 150 B150b_3 = true := zRw_ok (by decide +kernel)
noncomputable def B150b_4 : List zRow := [(67, .iconst 1, 1, (0, 0, 0))]
theorem K150b_4 : zRk 150 B150b_4 = true := zRw_ok (by decide +kernel)
noncomputable def B150b_5 : List zRow := [(20, .aload_n 0, 1, (0, 0, 0)), (21, .getfield 18, 3, (7, 1, 23)), (24, .bipush 11, 2, (0, 0, 0))]
theorem K150b_5 : zRk 150 B150b_5 = true := zRw_ok (by decide +kernel)
noncomputable def B150b_6 : List zRow := [(32, .aload_n 0, 1, (0, 0, 0)), (33, .getfield 18, 3, (7, 1, 23))]
theorem K150b_6 : zRk 150 B150b_6 = true := zRw_ok (by decide +kernel)
noncomputable def B150b_7 : List zRow := [(39, .aload_n 0, 1, (0, 0, 0)), (40, .aload_n 1, 1, (0, 0, 0)), (41, .iload_n 2, 1, (0, 0, 0))]
theorem K150b_7 : zRk 150 B150b_7 = true := zRw_ok (by decide +kernel)
noncomputable def B150b_8 : List zRow := [(50, .aload_n 0, 1, (0, 0, 0)), (51, .getfield 12, 3, (7, 0, 155)), (54, .bipush 11, 2, (0, 0, 0)), (56, .iconst 0, 1, (0, 0, 0)), (57, .iconst 0, 1, (0, 0, 0))]
theorem K150b_8 : zRk 150 B150b_8 = true := zRw_ok (by decide +kernel)
noncomputable def B150b_9 : List zRow := [(61, .iinc 3 1, 3, (0, 0, 0)), (64, .goto (-51), 3, (0, 0, 0))]
theorem K150b_9 : zRk 150 B150b_9 = true := zRw_ok (by decide +kernel)
noncomputable def B150b_10 : List zRow := [(48, .iconst 0, 1, (0, 0, 0))]
theorem K150b_10 : zRk 150 B150b_10 = true := zRw_ok (by decide +kernel)
noncomputable def B150b_11 : List zRow := [(45, .ifCond .ne 5, 3, (0, 0, 0))]
theorem K150b_11 : zRk 150 B150b_11 = true := zRw_ok (by decide +kernel)
noncomputable def B150b_12 : List zRow := [(29, .ifCond .eq 38, 3, (0, 0, 0))]
theorem K150b_12 : zRk 150 B150b_12 = true := zRw_ok (by decide +kernel)
noncomputable def B150b_13 : List zRow := [(13, .iload_n 3, 1, (0, 0, 0)), (14, .sipush 940, 3, (0, 0, 0)), (17, .if_icmp .ge 50, 3, (0, 0, 0))]
theorem K150b_13 : zRk 150 B150b_13 = true := zRw_ok (by decide +kernel)
def F150b_0 (kR : Int → Int → zHC → Option (Int × zHC)) : Nat → Int → Int → Int → zHC → Option (Int × zHC)
  | 0, _, _, _, _ => none
  | n + 1, v1, v2, v3, h => if 940 ≤ v3 then some (1, h) else (F152 11 h).bind fun r1 => if r1 = 0 then some (1, h) else (F21 h).bind fun r2 => (kR v1 v2 r2).bind fun r3 => if ¬ r3.1 = 0 then (F153 1 11 0 0 r3.2).bind fun r4 => (F150b_0 kR n) v1 v2 (wadd v3 1) r4 else some (0, r3.2)
set_option maxRecDepth 100000 in
theorem T150b_0 {spec : zRn zH2} {hm : zHM} {o : Int → Int} {d : Nat} {DR : Nat} (hd : DR + 3 ≤ d) (kR : Int → Int → zHC → Option (Int × zHC)) (hkR : ∀ (d' : Nat), DR ≤ d' → ∀ (v1 : Int) (v2 : Int) (h : zHC) (v : (Int × zHC)), kR v1 v2 h = some v → zRu2 spec d' 151 [(17, 0), (19, v1), (0, v2)] (h, hm, o) (some (0, v.1)) (v.2, hm, o)) : ∀ (n : Nat) (v1 : Int) (v2 : Int) (v3 : Int) (h : zHC) (v : (Int × zHC)), F150b_0 kR n v1 v2 v3 h = some v → zFin 0 (fun _ => 0) (zRu2 spec d) 150 (some (0, v.1)) (v.2, hm, o) (13, [some (17, 0), some (19, v1), some (0, v2), some (0, v3)], [], (h, hm, o)) := by
  intro n
  induction n with
  | zero => intro v1 v2 v3 h v e; unfold F150b_0 at e; cases e
  | succ n hk0 =>
    intro v1 v2 v3 h v e
    unfold F150b_0 at e
    rcases zI_s e with ⟨q1, e⟩ | ⟨q1, e⟩
    · refine zF_blk (m := []) (d := 1) (b := B150b_13) (gs := [940 ≤ v3]) (c' := (67, [some (17, 0), some (19, v1), some (0, v2), some (0, v3)], [], (h, hm, o))) K150b_13 rfl ⟨q1, trivial⟩ ?_
      refine zF_blk (m := []) (d := 0) (b := B150b_4) (gs := []) (c' := (68, [some (17, 0), some (19, v1), some (0, v2), some (0, v3)], [(0, 1)], (h, hm, o))) K150b_4 rfl trivial ?_
      exact zF_rbC (zRe1_w (by decide +kernel)) (Or.inr rfl) e
    · refine zF_blk (m := []) (d := 0) (b := B150b_13) (gs := [¬ (940 ≤ v3)]) (c' := (20, [some (17, 0), some (19, v1), some (0, v2), some (0, v3)], [], (h, hm, o))) K150b_13 rfl ⟨q1, trivial⟩ ?_
      obtain ⟨r1, q2, e⟩ := zB_s e
      refine zF_blk (m := []) (d := 0) (b := B150b_5) (gs := []) (c' := (26, [some (17, 0), some (19, v1), some (0, v2), some (0, v3)], [(0, 11), (15, 0)], (h, hm, o))) K150b_5 rfl trivial ?_
      refine zF_call (k := 152) (cl := 5) (n := 2) (i := .invokevirtual 46) (args := [(15, 0), (0, 11)]) (rest := []) (g1 := (h, hm, o)) (r1 := some (0, r1)) (zCk1_w (by decide +kernel)) rfl rfl rfl (st' := [(0, r1)]) rfl (S152 (by omega) 11 h _ q2) ?_
      rcases zI_s e with ⟨q3, e⟩ | ⟨q3, e⟩
      · refine zF_blk (m := []) (d := 1) (b := B150b_12) (gs := [r1 = 0]) (c' := (67, [some (17, 0), some (19, v1), some (0, v2), some (0, v3)], [], (h, hm, o))) K150b_12 rfl ⟨q3, trivial⟩ ?_
        refine zF_blk (m := []) (d := 0) (b := B150b_4) (gs := []) (c' := (68, [some (17, 0), some (19, v1), some (0, v2), some (0, v3)], [(0, 1)], (h, hm, o))) K150b_4 rfl trivial ?_
        exact zF_rbC (zRe1_w (by decide +kernel)) (Or.inr rfl) e
      · refine zF_blk (m := []) (d := 0) (b := B150b_12) (gs := [¬ (r1 = 0)]) (c' := (32, [some (17, 0), some (19, v1), some (0, v2), some (0, v3)], [], (h, hm, o))) K150b_12 rfl ⟨q3, trivial⟩ ?_
        obtain ⟨r2, q4, e⟩ := zB_s e
        refine zF_blk (m := []) (d := 0) (b := B150b_6) (gs := []) (c' := (36, [some (17, 0), some (19, v1), some (0, v2), some (0, v3)], [(15, 0)], (h, hm, o))) K150b_6 rfl trivial ?_
        refine zF_call (k := 21) (cl := 5) (n := 1) (i := .invokevirtual 49) (args := [(15, 0)]) (rest := []) (g1 := (r2, hm, o)) (r1 := none) (zCk1_w (by decide +kernel)) rfl rfl rfl (st' := []) rfl (S21 (by omega)  h _ q4) ?_
        obtain ⟨r3, q5, e⟩ := zB_s e
        refine zF_blk (m := []) (d := 0) (b := B150b_7) (gs := []) (c' := (42, [some (17, 0), some (19, v1), some (0, v2), some (0, v3)], [(0, v2), (19, v1), (17, 0)], (r2, hm, o))) K150b_7 rfl trivial ?_
        refine zF_call (k := 151) (cl := 7) (n := 3) (i := .invokevirtual 56) (args := [(17, 0), (19, v1), (0, v2)]) (rest := []) (g1 := (r3.2, hm, o)) (r1 := some (0, r3.1)) (zCk1_w (by decide +kernel)) rfl rfl rfl (st' := [(0, r3.1)]) rfl (hkR _ (by omega) v1 v2 r2 _ q5) ?_
        rcases zI_s e with ⟨q6, e⟩ | ⟨q6, e⟩
        · refine zF_blk (m := []) (d := 1) (b := B150b_11) (gs := [¬ r3.1 = 0]) (c' := (50, [some (17, 0), some (19, v1), some (0, v2), some (0, v3)], [], (r3.2, hm, o))) K150b_11 rfl ⟨q6, trivial⟩ ?_
          obtain ⟨r4, q7, e⟩ := zB_s e
          refine zF_blk (m := []) (d := 0) (b := B150b_8) (gs := []) (c' := (58, [some (17, 0), some (19, v1), some (0, v2), some (0, v3)], [(0, 0), (0, 0), (0, 11), (16, 1)], (r3.2, hm, o))) K150b_8 rfl trivial ?_
          refine zF_call (k := 153) (cl := 6) (n := 4) (i := .invokevirtual 52) (args := [(16, 1), (0, 11), (0, 0), (0, 0)]) (rest := []) (g1 := (r4, hm, o)) (r1 := none) (zCk1_w (by decide +kernel)) rfl rfl rfl (st' := []) rfl (S153 (by omega) 1 11 0 0 r3.2 _ q7) ?_
          refine zF_blk (m := []) (d := 0) (b := B150b_9) (gs := []) (c' := (13, [some (17, 0), some (19, v1), some (0, v2), some (0, (wadd v3 1))], [], (r4, hm, o))) K150b_9 rfl trivial ?_
          exact hk0 v1 v2 (wadd v3 1) r4 _ e
        · refine zF_blk (m := []) (d := 0) (b := B150b_11) (gs := [¬ (¬ r3.1 = 0)]) (c' := (48, [some (17, 0), some (19, v1), some (0, v2), some (0, v3)], [], (r3.2, hm, o))) K150b_11 rfl ⟨q6, trivial⟩ ?_
          refine zF_blk (m := []) (d := 0) (b := B150b_10) (gs := []) (c' := (49, [some (17, 0), some (19, v1), some (0, v2), some (0, v3)], [(0, 0)], (r3.2, hm, o))) K150b_10 rfl trivial ?_
          exact zF_rbC (zRe1_w (by decide +kernel)) (Or.inl rfl) e
/-- EchoVale$SentenceText.readJoined(LEchoVale$Valley;I)Z -/
def F150b (kR : Int → Int → zHC → Option (Int × zHC)) (v1 : Int) (v2 : Int) (h : zHC) : Option (Int × zHC) := (kR v1 v2 h).bind fun r1 => if ¬ r1.1 = 0 then F150b_0 kR zFu v1 v2 0 r1.2 else some (0, r1.2)
set_option maxRecDepth 100000 in
theorem S150b {spec : zRn zH2} {hm : zHM} {o : Int → Int} {d : Nat} {DR : Nat} (hd : DR + 4 ≤ d) (kR : Int → Int → zHC → Option (Int × zHC)) (hkR : ∀ (d' : Nat), DR ≤ d' → ∀ (v1 : Int) (v2 : Int) (h : zHC) (v : (Int × zHC)), kR v1 v2 h = some v → zRu2 spec d' 151 [(17, 0), (19, v1), (0, v2)] (h, hm, o) (some (0, v.1)) (v.2, hm, o)) (v1 : Int) (v2 : Int) (h : zHC) (v : (Int × zHC)) (e : F150b kR v1 v2 h = some v) : zRu2 spec d 150 [(17, 0), (19, v1), (0, v2)] (h, hm, o) (some (0, v.1)) (v.2, hm, o) := by
  refine zF_in (D := DR + 3) (mx := 4) (L := [some (17, 0), some (19, v1), some (0, v2), none]) (by decide +kernel) rfl rfl hd (fun d hd => ?_)
  unfold F150b at e
  obtain ⟨r1, q1, e⟩ := zB_s e
  refine zF_blk (m := []) (d := 0) (b := B150b_0) (gs := []) (c' := (3, [some (17, 0), some (19, v1), some (0, v2), none], [(0, v2), (19, v1), (17, 0)], (h, hm, o))) K150b_0 rfl trivial ?_
  refine zF_call (k := 151) (cl := 7) (n := 3) (i := .invokevirtual 56) (args := [(17, 0), (19, v1), (0, v2)]) (rest := []) (g1 := (r1.2, hm, o)) (r1 := some (0, r1.1)) (zCk1_w (by decide +kernel)) rfl rfl rfl (st' := [(0, r1.1)]) rfl (hkR _ (by omega) v1 v2 h _ q1) ?_
  rcases zI_s e with ⟨q2, e⟩ | ⟨q2, e⟩
  · refine zF_blk (m := []) (d := 1) (b := B150b_3) (gs := [¬ r1.1 = 0]) (c' := (11, [some (17, 0), some (19, v1), some (0, v2), none], [], (r1.2, hm, o))) K150b_3 rfl ⟨q2, trivial⟩ ?_
    refine zF_blk (m := []) (d := 0) (b := B150b_1) (gs := []) (c' := (13, [some (17, 0), some (19, v1), some (0, v2), some (0, 0)], [], (r1.2, hm, o))) K150b_1 rfl trivial ?_
    exact T150b_0 hd kR hkR zFu v1 v2 0 r1.2 _ e
  · refine zF_blk (m := []) (d := 0) (b := B150b_3) (gs := [¬ (¬ r1.1 = 0)]) (c' := (9, [some (17, 0), some (19, v1), some (0, v2), none], [], (r1.2, hm, o))) K150b_3 rfl ⟨q2, trivial⟩ ?_
    refine zF_blk (m := []) (d := 0) (b := B150b_2) (gs := []) (c' := (10, [some (17, 0), some (19, v1), some (0, v2), none], [(0, 0)], (r1.2, hm, o))) K150b_2 rfl trivial ?_
    exact zF_rbC (zRe1_w (by decide +kernel)) (Or.inl rfl) e
