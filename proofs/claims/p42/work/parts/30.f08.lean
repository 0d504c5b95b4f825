/-! Functions of the methods, by wip/gen/lift.py. -/
noncomputable def B108_0 : List zRow := [(0, .iconst 0, 1, (0, 0, 0)), (1, .istore_n 2, 1, (0, 0, 0))]
theorem K108_0 : zRk 108 B108_0 = true := zRw_ok (by decide +kernel)
noncomputable def B108_1 : List zRow := [(13, .aload_n 0, 1, (0, 0, 0)), (14, .getfield 91, 3, (11, 12, 5244418)), (17, .iload_n 1, 1, (0, 0, 0)), (18, .bipush 6, 2, (0, 0, 0)), (20, .imul, 1, (0, 0, 0)), (21, .iload_n 2, 1, (0, 0, 0)), (22, .iadd, 1, (0, 0, 0)), (23, .aload_n 0, 1, (0, 0, 0)), (24, .getfield 60, 3, (11, 7, 135)), (27, .iload_n 2, 1, (0, 0, 0))]
theorem K108_1 : zRk 108 B108_1 = true := zRw_ok (by decide +kernel)
noncomputable def B108_2 : List zRow := [(31, .iastore, 1, (0, 0, 0)), (32, .iinc 2 1, 3, (0, 0, 0)), (35, .goto (-33), 3, (0, 0, 0))]
theorem K108_2 : zRk 108 B108_2 = true := zRw_ok (by decide +kernel)
noncomputable def B108_3 : List zRow := [(2, .iload_n 2, 1, (0, 0, 0)), (3, .aload_n 0, 1, (0, 0, 0)), (4, .getfield 19, 3, (11, 1, 39)), (7, .getfield 311, 3, (9, 3, 0)), (10, .if_icmp .ge 28, 3, (0, 0, 0))]
theorem K108_3 : zRk 108 B108_3 = true := zRw_ok (by decide +kernel)
def F108_0 : Nat → Int → Int → zHC → Option zHC
  | 0, _, _, _ => none
  | n + 1, v1, v2, h => if (h 579 0 0) ≤ v2 then some h else (F101 1 v2 h).bind fun r1 => zG (0 ≤ (wadd (wmul v1 6) v2) ∧ (wadd (wmul v1 6) v2) < 384) ((F108_0 n) v1 (wadd v2 1) (hset h 716 0 (wadd (wmul v1 6) v2) r1))
set_option maxRecDepth 100000 in
theorem T108_0 {spec : zRn zH2} {hm : zHM} {o : Int → Int} {d : Nat} (hd : 3 ≤ d) : ∀ (n : Nat) (v1 : Int) (v2 : Int) (h : zHC) (v : zHC), F108_0 n v1 v2 h = some v → zFin 0 (fun _ => 0) (zRu2 spec d) 108 none (v, hm, o) (2, [some (21, 0), some (0, v1), some (0, v2)], [], (h, hm, o)) := by
  intro n
  induction n with
  | zero => intro v1 v2 h v e; unfold F108_0 at e; cases e
  | succ n hk0 =>
    intro v1 v2 h v e
    unfold F108_0 at e
    rcases zI_s e with ⟨q1, e⟩ | ⟨q1, e⟩
    · refine zF_blk (m := []) (d := 1) (b := B108_3) (gs := [(h 579 0 0) ≤ v2]) (c' := (38, [some (21, 0), some (0, v1), some (0, v2)], [], (h, hm, o))) K108_3 rfl ⟨q1, trivial⟩ ?_
      obtain rfl := Option.some.inj e
      exact zF_rv (zRe1_w (by decide +kernel))
    · refine zF_blk (m := []) (d := 0) (b := B108_3) (gs := [¬ ((h 579 0 0) ≤ v2)]) (c' := (13, [some (21, 0), some (0, v1), some (0, v2)], [], (h, hm, o))) K108_3 rfl ⟨q1, trivial⟩ ?_
      obtain ⟨r1, q2, e⟩ := zB_s e
      refine zF_blk (m := []) (d := 0) (b := B108_1) (gs := []) (c' := (28, [some (21, 0), some (0, v1), some (0, v2)], [(0, v2), (11, 1), (0, (wadd (wmul v1 6) v2)), (1342572212, 0)], (h, hm, o))) K108_1 rfl trivial ?_
      refine zF_call (k := 101) (cl := 1) (n := 2) (i := .invokevirtual 179) (args := [(11, 1), (0, v2)]) (rest := [(0, (wadd (wmul v1 6) v2)), (1342572212, 0)]) (g1 := (h, hm, o)) (r1 := some (0, r1)) (zCk1_w (by decide +kernel)) rfl rfl rfl (st' := [(0, r1), (0, (wadd (wmul v1 6) v2)), (1342572212, 0)]) rfl (S101 (Nat.le_trans (by decide) hd) 1 v2 h _ q2) ?_
      obtain ⟨q3, e⟩ := zG_s e
      refine zF_blk (m := []) (d := 0) (b := B108_2) (gs := [0 ≤ (wadd (wmul v1 6) v2) ∧ (wadd (wmul v1 6) v2) < 384]) (c' := (2, [some (21, 0), some (0, v1), some (0, (wadd v2 1))], [], ((hset h 716 0 (wadd (wmul v1 6) v2) r1), hm, o))) K108_2 rfl ⟨q3, trivial⟩ ?_
      exact hk0 v1 (wadd v2 1) (hset h 716 0 (wadd (wmul v1 6) v2) r1) _ e
/-- EchoVale.keepOutcome(I)V -/
def F108 (v1 : Int) (h : zHC) : Option zHC := F108_0 zFu v1 0 h
set_option maxRecDepth 100000 in
theorem S108 {spec : zRn zH2} {hm : zHM} {o : Int → Int} {d : Nat} (hd : 4 ≤ d) (v1 : Int) (h : zHC) (v : zHC) (e : F108 v1 h = some v) : zRu2 spec d 108 [(21, 0), (0, v1)] (h, hm, o) none (v, hm, o) := by
  refine zF_in (D := 3) (mx := 3) (L := [some (21, 0), some (0, v1), none]) (by decide +kernel) rfl rfl hd (fun d hd => ?_)
  unfold F108 at e
  refine zF_blk (m := []) (d := 0) (b := B108_0) (gs := []) (c' := (2, [some (21, 0), some (0, v1), some (0, 0)], [], (h, hm, o))) K108_0 rfl trivial ?_
  exact T108_0 hd zFu v1 0 h _ e
noncomputable def B109_0 : List zRow := [(0, .aload_n 0, 1, (0, 0, 0)), (1, .getfield 19, 3, (11, 1, 39))]
theorem K109_0 : zRk 109 B109_0 = true := zRw_ok (by decide +kernel)
noncomputable def B109_1 : List zRow := [(7, .istore_n 2, 1, (0, 0, 0)), (8, .iconst 0, 1, (0, 0, 0)), (9, .istore_n 3, 1, (0, 0, 0))]
theorem K109_1 : zRk 109 B109_1 = true := zRw_ok (by decide +kernel)
noncomputable def B109_2 : List zRow := [(70, .iconst 1, 1, (0, 0, 0))]
theorem K109_2 : zRk 109 B109_2 = true := zRw_ok (by decide +kernel)
noncomputable def B109_3 : List zRow := [(21, .iload_n 1, 1, (0, 0, 0)), (22, .iconst 1, 1, (0, 0, 0)), (23, .iload_n 3, 1, (0, 0, 0)), (24, .ishl, 1, (0, 0, 0)), (25, .ixor, 1, (0, 0, 0)), (26, .istore 4, 2, (0, 0, 0)), (28, .iload_n 2, 1, (0, 0, 0)), (29, .iload_n 3, 1, (0, 0, 0))]
theorem K109_3 : zRk 109 B109_3 = true := zRw_ok (by decide +kernel)
noncomputable def B109_4 : List zRow := [(62, .iconst 0, 1, (0, 0, 0))]
theorem K109_4 : zRk 109 B109_4 = true := zRw_ok (by decide +kernel)
noncomputable def B109_5 : List zRow := [(36, .aload_n 0, 1, (0, 0, 0)), (37, .getfield 91, 3, (11, 12, 5244418)), (40, .iload 4, 2, (0, 0, 0)), (42, .bipush 6, 2, (0, 0, 0)), (44, .imul, 1, (0, 0, 0)), (45, .iload_n 3, 1, (0, 0, 0)), (46, .iadd, 1, (0, 0, 0)), (47, .iaload, 1, (0, 0, 0)), (48, .aload_n 0, 1, (0, 0, 0)), (49, .getfield 91, 3, (11, 12, 5244418)), (52, .iload_n 1, 1, (0, 0, 0)), (53, .bipush 6, 2, (0, 0, 0)), (55, .imul, 1, (0, 0, 0)), (56, .iload_n 3, 1, (0, 0, 0)), (57, .iadd, 1, (0, 0, 0)), (58, .iaload, 1, (0, 0, 0)), (59, .if_icmp .le 5, 3, (0, 0, 0))]
theorem K109_5 : zRk 109 B109_5 = true := zRw_ok (by decide +kernel)
noncomputable def B109_6 : List zRow := [(33, .ifCond .eq 31, 3, (0, 0, 0))]
theorem K109_6 : zRk 109 B109_6 = true := zRw_ok (by decide +kernel)
noncomputable def B109_7 : List zRow := [(10, .iload_n 3, 1, (0, 0, 0)), (11, .aload_n 0, 1, (0, 0, 0)), (12, .getfield 19, 3, (11, 1, 39)), (15, .getfield 311, 3, (9, 3, 0)), (18, .if_icmp .ge 52, 3, (0, 0, 0))]
theorem K109_7 : zRk 109 B109_7 = true := zRw_ok (by decide +kernel)
noncomputable def B109_8 : List zRow := [(64, .iinc 3 1, 3, (0, 0, 0)), (67, .goto (-57), 3, (0, 0, 0))]
theorem K109_8 : zRk 109 B109_8 = true := zRw_ok (by decide +kernel)
def F109_1 (k0 : Int → Int → Int → Option Int) (h : zHC) (v1 : Int) (v2 : Int) (v3 : Int) : Option Int := k0 v1 v2 (wadd v3 1)
set_option maxRecDepth 100000 in
theorem T109_1 {spec : zRn zH2} {hm : zHM} {o : Int → Int} {d : Nat} (hd : 1 ≤ d) (h : zHC) (k0 : Int → Int → Int → Option Int) (hk0 : ∀ (v1 : Int) (v2 : Int) (v3 : Int) (v : Int), k0 v1 v2 v3 = some v → zFin 0 (fun _ => 0) (zRu2 spec d) 109 (some (0, v)) (h, hm, o) (10, [some (21, 0), some (0, v1), some (0, v2), some (0, v3), none], [], (h, hm, o))) (v1 : Int) (v2 : Int) (v3 : Int) (v : Int) (e : F109_1 k0 h v1 v2 v3 = some v) : zFin 0 (fun _ => 0) (zRu2 spec d) 109 (some (0, v)) (h, hm, o) (64, [some (21, 0), some (0, v1), some (0, v2), some (0, v3), none], [], (h, hm, o)) := by
  unfold F109_1 at e
  refine zF_blk (m := []) (d := 0) (b := B109_8) (gs := []) (c' := (10, [some (21, 0), some (0, v1), some (0, v2), some (0, (wadd v3 1)), none], [], (h, hm, o))) K109_8 rfl trivial ?_
  exact hk0 v1 v2 (wadd v3 1) _ e
def F109_0 (h : zHC) : Nat → Int → Int → Int → Option Int
  | 0, _, _, _ => none
  | n + 1, v1, v2, v3 => if (h 579 0 0) ≤ v3 then some 1 else (F65 v2 v3).bind fun r1 => if r1 = 0 then F109_1 (F109_0 h n) h v1 v2 v3 else zG (0 ≤ (wadd (wmul (wxor v1 (wshl 1 v3)) 6) v3) ∧ (wadd (wmul (wxor v1 (wshl 1 v3)) 6) v3) < 384) (zG (0 ≤ (wadd (wmul v1 6) v3) ∧ (wadd (wmul v1 6) v3) < 384) (if (h 716 0 (wadd (wmul (wxor v1 (wshl 1 v3)) 6) v3)) ≤ (h 716 0 (wadd (wmul v1 6) v3)) then F109_1 (F109_0 h n) h v1 v2 v3 else some 0))
set_option maxRecDepth 100000 in
theorem T109_0 {spec : zRn zH2} {hm : zHM} {o : Int → Int} {d : Nat} (hd : 1 ≤ d) (h : zHC) : ∀ (n : Nat) (v1 : Int) (v2 : Int) (v3 : Int) (v : Int), F109_0 h n v1 v2 v3 = some v → zFin 0 (fun _ => 0) (zRu2 spec d) 109 (some (0, v)) (h, hm, o) (10, [some (21, 0), some (0, v1), some (0, v2), some (0, v3), none], [], (h, hm, o)) := by
  intro n
  induction n with
  | zero => intro v1 v2 v3 v e; unfold F109_0 at e; cases e
  | succ n hk0 =>
    intro v1 v2 v3 v e
    unfold F109_0 at e
    rcases zI_s e with ⟨q1, e⟩ | ⟨q1, e⟩
    · refine zF_blk (m := []) (d := 1) (b := B109_7) (gs := [(h 579 0 0) ≤ v3]) (c' := (70, [some (21, 0), some (0, v1), some (0, v2), some (0, v3), none], [], (h, hm, o))) K109_7 rfl ⟨q1, trivial⟩ ?_
      refine zF_blk (m := []) (d := 0) (b := B109_2) (gs := []) (c' := (71, [some (21, 0), some (0, v1), some (0, v2), some (0, v3), none], [(0, 1)], (h, hm, o))) K109_2 rfl trivial ?_
      obtain rfl := Option.some.inj e
      exact zF_rb (zRe1_w (by decide +kernel)) (Or.inr rfl)
    · refine zF_blk (m := []) (d := 0) (b := B109_7) (gs := [¬ ((h 579 0 0) ≤ v3)]) (c' := (21, [some (21, 0), some (0, v1), some (0, v2), some (0, v3), none], [], (h, hm, o))) K109_7 rfl ⟨q1, trivial⟩ ?_
      obtain ⟨r1, q2, e⟩ := zB_s e
      refine zF_blk (m := []) (d := 0) (b := B109_3) (gs := []) (c' := (30, [some (21, 0), some (0, v1), some (0, v2), some (0, v3), some (0, (wxor v1 (wshl 1 v3)))], [(0, v3), (0, v2)], (h, hm, o))) K109_3 rfl trivial ?_
      refine zF_call (k := 65) (cl := 11) (n := 2) (i := .invokestatic 272) (args := [(0, v2), (0, v3)]) (rest := []) (g1 := (h, hm, o)) (r1 := some (0, r1)) (zCk1_w (by decide +kernel)) rfl rfl rfl (st' := [(0, r1)]) rfl (S65 (Nat.le_trans (by decide) hd) v2 v3 h _ q2) ?_
      rcases zI_s e with ⟨q3, e⟩ | ⟨q3, e⟩
      · refine zF_blk (m := []) (d := 1) (b := B109_6) (gs := [r1 = 0]) (c' := (64, [some (21, 0), some (0, v1), some (0, v2), some (0, v3), some (0, (wxor v1 (wshl 1 v3)))], [], (h, hm, o))) K109_6 rfl ⟨q3, trivial⟩ ?_
        refine zF_blk (m := [true, true, true, true, false]) (d := 0) (b := []) (gs := []) (c' := (64, [some (21, 0), some (0, v1), some (0, v2), some (0, v3), none], [], (h, hm, o))) rfl rfl trivial ?_
        exact T109_1 hd h (F109_0 h n) hk0 v1 v2 v3 _ e
      · refine zF_blk (m := []) (d := 0) (b := B109_6) (gs := [¬ (r1 = 0)]) (c' := (36, [some (21, 0), some (0, v1), some (0, v2), some (0, v3), some (0, (wxor v1 (wshl 1 v3)))], [], (h, hm, o))) K109_6 rfl ⟨q3, trivial⟩ ?_
        obtain ⟨q4, e⟩ := zG_s e
        obtain ⟨q5, e⟩ := zG_s e
        rcases zI_s e with ⟨q6, e⟩ | ⟨q6, e⟩
        · refine zF_blk (m := []) (d := 1) (b := B109_5) (gs := [0 ≤ (wadd (wmul (wxor v1 (wshl 1 v3)) 6) v3) ∧ (wadd (wmul (wxor v1 (wshl 1 v3)) 6) v3) < 384, 0 ≤ (wadd (wmul v1 6) v3) ∧ (wadd (wmul v1 6) v3) < 384, (h 716 0 (wadd (wmul (wxor v1 (wshl 1 v3)) 6) v3)) ≤ (h 716 0 (wadd (wmul v1 6) v3))]) (c' := (64, [some (21, 0), some (0, v1), some (0, v2), some (0, v3), some (0, (wxor v1 (wshl 1 v3)))], [], (h, hm, o))) K109_5 rfl ⟨q4, q5, q6, trivial⟩ ?_
          refine zF_blk (m := [true, true, true, true, false]) (d := 0) (b := []) (gs := []) (c' := (64, [some (21, 0), some (0, v1), some (0, v2), some (0, v3), none], [], (h, hm, o))) rfl rfl trivial ?_
          exact T109_1 hd h (F109_0 h n) hk0 v1 v2 v3 _ e
        · refine zF_blk (m := []) (d := 0) (b := B109_5) (gs := [0 ≤ (wadd (wmul (wxor v1 (wshl 1 v3)) 6) v3) ∧ (wadd (wmul (wxor v1 (wshl 1 v3)) 6) v3) < 384, 0 ≤ (wadd (wmul v1 6) v3) ∧ (wadd (wmul v1 6) v3) < 384, ¬ ((h 716 0 (wadd (wmul (wxor v1 (wshl 1 v3)) 6) v3)) ≤ (h 716 0 (wadd (wmul v1 6) v3)))]) (c' := (62, [some (21, 0), some (0, v1), some (0, v2), some (0, v3), some (0, (wxor v1 (wshl 1 v3)))], [], (h, hm, o))) K109_5 rfl ⟨q4, q5, q6, trivial⟩ ?_
          refine zF_blk (m := []) (d := 0) (b := B109_4) (gs := []) (c' := (63, [some (21, 0), some (0, v1), some (0, v2), some (0, v3), some (0, (wxor v1 (wshl 1 v3)))], [(0, 0)], (h, hm, o))) K109_4 rfl trivial ?_
          obtain rfl := Option.some.inj e
          exact zF_rb (zRe1_w (by decide +kernel)) (Or.inl rfl)
/-- EchoVale.isRest(I)Z -/
def F109 (v1 : Int) (h : zHC) : Option Int := (F105 0 h).bind fun r1 => F109_0 h zFu v1 r1 0
set_option maxRecDepth 100000 in
theorem S109 {spec : zRn zH2} {hm : zHM} {o : Int → Int} {d : Nat} (hd : 2 ≤ d) (v1 : Int) (h : zHC) (v : Int) (e : F109 v1 h = some v) : zRu2 spec d 109 [(21, 0), (0, v1)] (h, hm, o) (some (0, v)) (h, hm, o) := by
  refine zF_in (D := 1) (mx := 5) (L := [some (21, 0), some (0, v1), none, none, none]) (by decide +kernel) rfl rfl hd (fun d hd => ?_)
  unfold F109 at e
  obtain ⟨r1, q1, e⟩ := zB_s e
  refine zF_blk (m := []) (d := 0) (b := B109_0) (gs := []) (c' := (4, [some (21, 0), some (0, v1), none, none, none], [(19, 0)], (h, hm, o))) K109_0 rfl trivial ?_
  refine zF_call (k := 105) (cl := 9) (n := 1) (i := .invokevirtual 371) (args := [(19, 0)]) (rest := []) (g1 := (h, hm, o)) (r1 := some (0, r1)) (zCk1_w (by decide +kernel)) rfl rfl rfl (st' := [(0, r1)]) rfl (S105 (Nat.le_trans (by decide) hd) 0 h _ q1) ?_
  refine zF_blk (m := []) (d := 0) (b := B109_1) (gs := []) (c' := (10, [some (21, 0), some (0, v1), some (0, r1), some (0, 0), none], [], (h, hm, o))) K109_1 rfl trivial ?_
  exact T109_0 hd h zFu v1 r1 0 _ e
noncomputable def B107_0 : List zRow := [(0, .iload_n 1, 1, (0, 0, 0))]
theorem K107_0 : zRk 107 B107_0 = true := zRw_ok (by decide +kernel)
noncomputable def B107_1 : List zRow := [(12, .iconst (-1), 1, (0, 0, 0))]
theorem K107_1 : zRk 107 B107_1 = true := zRw_ok (by decide +kernel)
noncomputable def B107_2 : List zRow := [(14, .iconst 0, 1, (0, 0, 0)), (15, .istore_n 3, 1, (0, 0, 0))]
theorem K107_2 : zRk 107 B107_2 = true := zRw_ok (by decide +kernel)
noncomputable def B107_3 : List zRow := [(7, .iload_n 2, 1, (0, 0, 0)), (8, .iconst (-1), 1, (0, 0, 0)), (9, .if_icmp .ge 5, 3, (0, 0, 0))]
theorem K107_3 : zRk 107 B107_3 = true := zRw_ok (by decide +kernel)
noncomputable def B107_4 : List zRow := [(4, .ifCond .eq 8, 3, (0, 0, 0))]
theorem K107_4 : zRk 107 B107_4 = true := zRw_ok (by decide +kernel)
noncomputable def B107_5 : List zRow := [(47, .iconst 0, 1, (0, 0, 0)), (48, .istore_n 3, 1, (0, 0, 0)), (49, .iconst 0, 1, (0, 0, 0)), (50, .istore 4, 2, (0, 0, 0))]
theorem K107_5 : zRk 107 B107_5 = true := zRw_ok (by decide +kernel)
noncomputable def B107_6 : List zRow := [(22, .aload_n 0, 1, (0, 0, 0)), (23, .iload_n 3, 1, (0, 0, 0))]
theorem K107_6 : zRk 107 B107_6 = true := zRw_ok (by decide +kernel)
noncomputable def B107_7 : List zRow := [(30, .aload_n 0, 1, (0, 0, 0)), (31, .iload_n 3, 1, (0, 0, 0)), (32, .iload_n 1, 1, (0, 0, 0))]
theorem K107_7 : zRk 107 B107_7 = true := zRw_ok (by decide +kernel)
noncomputable def B107_8 : List zRow := [(36, .aload_n 0, 1, (0, 0, 0)), (37, .iload_n 3, 1, (0, 0, 0))]
theorem K107_8 : zRk 107 B107_8 = true := zRw_ok (by decide +kernel)
noncomputable def B107_9 : List zRow := [(27, .ifCond .eq 14, 3, (0, 0, 0))]
theorem K107_9 : zRk 107 B107_9 = true := zRw_ok (by decide +kernel)
noncomputable def B107_10 : List zRow := [(16, .iload_n 3, 1, (0, 0, 0)), (17, .bipush 64, 2, (0, 0, 0)), (19, .if_icmp .ge 28, 3, (0, 0, 0))]
theorem K107_10 : zRk 107 B107_10 = true := zRw_ok (by decide +kernel)
noncomputable def B107_11 : List zRow := [(41, .iinc 3 1, 3, (0, 0, 0)), (44, .goto (-28), 3, (0, 0, 0))]
theorem K107_11 : zRk 107 B107_11 = true := zRw_ok (by decide +kernel)
noncomputable def B107_12 : List zRow := [(103, .iconst (-1), 1, (0, 0, 0))]
theorem K107_12 : zRk 107 B107_12 = true := zRw_ok (by decide +kernel)
noncomputable def B107_13 : List zRow := [(99, .iload_n 3, 1, (0, 0, 0)), (100, .goto 4, 3, (0, 0, 0))]
theorem K107_13 : zRk 107 B107_13 = true := zRw_ok (by decide +kernel)
noncomputable def B107_14 : List zRow := [(94, .iload_n 2, 1, (0, 0, 0)), (95, .iconst (-1), 1, (0, 0, 0)), (96, .if_icmp .ne 7, 3, (0, 0, 0))]
theorem K107_14 : zRk 107 B107_14 = true := zRw_ok (by decide +kernel)
noncomputable def B107_15 : List zRow := [(59, .aload_n 0, 1, (0, 0, 0)), (60, .iload 4, 2, (0, 0, 0))]
theorem K107_15 : zRk 107 B107_15 = true := zRw_ok (by decide +kernel)
noncomputable def B107_16 : List zRow := [(68, .aload_n 0, 1, (0, 0, 0)), (69, .iload 4, 2, (0, 0, 0))]
theorem K107_16 : zRk 107 B107_16 = true := zRw_ok (by decide +kernel)
noncomputable def B107_17 : List zRow := [(85, .iinc 3 1, 3, (0, 0, 0))]
theorem K107_17 : zRk 107 B107_17 = true := zRw_ok (by decide +kernel)
noncomputable def B107_18 : List zRow := [(82, .iload 4, 2, (0, 0, 0))]
theorem K107_18 : zRk 107 B107_18 = true := zRw_ok (by decide +kernel)
noncomputable def B107_19 : List zRow := [(77, .iload_n 3, 1, (0, 0, 0)), (78, .iload_n 2, 1, (0, 0, 0)), (79, .if_icmp .ne 6, 3, (0, 0, 0))]
theorem K107_19 : zRk 107 B107_19 = true := zRw_ok (by decide +kernel)
noncomputable def B107_20 : List zRow := [(74, .ifCond .eq 14, 3, (0, 0, 0))]
theorem K107_20 : zRk 107 B107_20 = true := zRw_ok (by decide +kernel)
noncomputable def B107_21 : List zRow := [(65, .ifCond .eq 23, 3, (0, 0, 0))]
theorem K107_21 : zRk 107 B107_21 = true := zRw_ok (by decide +kernel)
noncomputable def B107_22 : List zRow := [(52, .iload 4, 2, (0, 0, 0)), (54, .bipush 64, 2, (0, 0, 0)), (56, .if_icmp .ge 38, 3, (0, 0, 0))]
theorem K107_22 : zRk 107 B107_22 = true := zRw_ok (by decide +kernel)
noncomputable def B107_23 : List zRow := [(88, .iinc 4 1, 3, (0, 0, 0)), (91, .goto (-39), 3, (0, 0, 0))]
theorem K107_23 : zRk 107 B107_23 = true := zRw_ok (by decide +kernel)
def F107_3 (k0 : Int → Int → Int → zHC → Option (Int × zHC)) (v2 : Int) (v3 : Int) (v4 : Int) (h : zHC) : Option (Int × zHC) := k0 v2 v3 (wadd v4 1) h
set_option maxRecDepth 100000 in
theorem T107_3 {spec : zRn zH2} {hm : zHM} {o : Int → Int} {d : Nat} (hd : 7 ≤ d) (k0 : Int → Int → Int → zHC → Option (Int × zHC)) (hk0 : ∀ (v2 : Int) (v3 : Int) (v4 : Int) (h : zHC) (v : (Int × zHC)), k0 v2 v3 v4 h = some v → zFin 0 (fun _ => 0) (zRu2 spec d) 107 (some (0, v.1)) (v.2, hm, o) (52, [some (21, 0), none, some (0, v2), some (0, v3), some (0, v4)], [], (h, hm, o))) (v2 : Int) (v3 : Int) (v4 : Int) (h : zHC) (v : (Int × zHC)) (e : F107_3 k0 v2 v3 v4 h = some v) : zFin 0 (fun _ => 0) (zRu2 spec d) 107 (some (0, v.1)) (v.2, hm, o) (88, [some (21, 0), none, some (0, v2), some (0, v3), some (0, v4)], [], (h, hm, o)) := by
  unfold F107_3 at e
  refine zF_blk (m := []) (d := 0) (b := B107_23) (gs := []) (c' := (52, [some (21, 0), none, some (0, v2), some (0, v3), some (0, (wadd v4 1))], [], (h, hm, o))) K107_23 rfl trivial ?_
  exact hk0 v2 v3 (wadd v4 1) h _ e
def F107_1 : Nat → Int → Int → Int → zHC → Option (Int × zHC)
  | 0, _, _, _, _ => none
  | n + 1, v2, v3, v4, h => if 64 ≤ v4 then if ¬ v2 = (-1) then some ((-1), h) else some (v3, h) else (F104 v4 h).bind fun r1 => if r1 = 0 then F107_3 (F107_1 n) v2 v3 v4 h else (F109 v4 h).bind fun r2 => if r2 = 0 then F107_3 (F107_1 n) v2 v3 v4 h else if ¬ v3 = v2 then F107_3 (F107_1 n) v2 (wadd v3 1) v4 h else some (v4, h)
set_option maxRecDepth 100000 in
theorem T107_1 {spec : zRn zH2} {hm : zHM} {o : Int → Int} {d : Nat} (hd : 7 ≤ d) : ∀ (n : Nat) (v2 : Int) (v3 : Int) (v4 : Int) (h : zHC) (v : (Int × zHC)), F107_1 n v2 v3 v4 h = some v → zFin 0 (fun _ => 0) (zRu2 spec d) 107 (some (0, v.1)) (v.2, hm, o) (52, [some (21, 0), none, some (0, v2), some (0, v3), some (0, v4)], [], (h, hm, o)) := by
  intro n
  induction n with
  | zero => intro v2 v3 v4 h v e; unfold F107_1 at e; cases e
  | succ n hk0 =>
    intro v2 v3 v4 h v e
    unfold F107_1 at e
    rcases zI_s e with ⟨q1, e⟩ | ⟨q1, e⟩
    · refine zF_blk (m := []) (d := 1) (b := B107_22) (gs := [64 ≤ v4]) (c' := (94, [some (21, 0), none, some (0, v2), some (0, v3), some (0, v4)], [], (h, hm, o))) K107_22 rfl ⟨q1, trivial⟩ ?_
      rcases zI_s e with ⟨q2, e⟩ | ⟨q2, e⟩
      · refine zF_blk (m := []) (d := 1) (b := B107_14) (gs := [¬ v2 = (-1)]) (c' := (103, [some (21, 0), none, some (0, v2), some (0, v3), some (0, v4)], [], (h, hm, o))) K107_14 rfl ⟨q2, trivial⟩ ?_
        refine zF_blk (m := []) (d := 0) (b := B107_12) (gs := []) (c' := (104, [some (21, 0), none, some (0, v2), some (0, v3), some (0, v4)], [(0, (-1))], (h, hm, o))) K107_12 rfl trivial ?_
        exact zF_riC (zRe1_w (by decide +kernel)) e
      · refine zF_blk (m := []) (d := 0) (b := B107_14) (gs := [¬ (¬ v2 = (-1))]) (c' := (99, [some (21, 0), none, some (0, v2), some (0, v3), some (0, v4)], [], (h, hm, o))) K107_14 rfl ⟨q2, trivial⟩ ?_
        refine zF_blk (m := []) (d := 0) (b := B107_13) (gs := []) (c' := (104, [some (21, 0), none, some (0, v2), some (0, v3), some (0, v4)], [(0, v3)], (h, hm, o))) K107_13 rfl trivial ?_
        exact zF_riC (zRe1_w (by decide +kernel)) e
    · refine zF_blk (m := []) (d := 0) (b := B107_22) (gs := [¬ (64 ≤ v4)]) (c' := (59, [some (21, 0), none, some (0, v2), some (0, v3), some (0, v4)], [], (h, hm, o))) K107_22 rfl ⟨q1, trivial⟩ ?_
      obtain ⟨r1, q3, e⟩ := zB_s e
      refine zF_blk (m := []) (d := 0) (b := B107_15) (gs := []) (c' := (62, [some (21, 0), none, some (0, v2), some (0, v3), some (0, v4)], [(0, v4), (21, 0)], (h, hm, o))) K107_15 rfl trivial ?_
      refine zF_call (k := 104) (cl := 11) (n := 2) (i := .invokevirtual 249) (args := [(21, 0), (0, v4)]) (rest := []) (g1 := (h, hm, o)) (r1 := some (0, r1)) (zCk1_w (by decide +kernel)) rfl rfl rfl (st' := [(0, r1)]) rfl (S104 (Nat.le_trans (by decide) hd) v4 h _ q3) ?_
      rcases zI_s e with ⟨q4, e⟩ | ⟨q4, e⟩
      · refine zF_blk (m := []) (d := 1) (b := B107_21) (gs := [r1 = 0]) (c' := (88, [some (21, 0), none, some (0, v2), some (0, v3), some (0, v4)], [], (h, hm, o))) K107_21 rfl ⟨q4, trivial⟩ ?_
        exact T107_3 hd (F107_1 n) hk0 v2 v3 v4 h _ e
      · refine zF_blk (m := []) (d := 0) (b := B107_21) (gs := [¬ (r1 = 0)]) (c' := (68, [some (21, 0), none, some (0, v2), some (0, v3), some (0, v4)], [], (h, hm, o))) K107_21 rfl ⟨q4, trivial⟩ ?_
        obtain ⟨r2, q5, e⟩ := zB_s e
        refine zF_blk (m := []) (d := 0) (b := B107_16) (gs := []) (c' := (71, [some (21, 0), none, some (0, v2), some (0, v3), some (0, v4)], [(0, v4), (21, 0)], (h, hm, o))) K107_16 rfl trivial ?_
        refine zF_call (k := 109) (cl := 11) (n := 2) (i := .invokevirtual 259) (args := [(21, 0), (0, v4)]) (rest := []) (g1 := (h, hm, o)) (r1 := some (0, r2)) (zCk1_w (by decide +kernel)) rfl rfl rfl (st' := [(0, r2)]) rfl (S109 (Nat.le_trans (by decide) hd) v4 h _ q5) ?_
        rcases zI_s e with ⟨q6, e⟩ | ⟨q6, e⟩
        · refine zF_blk (m := []) (d := 1) (b := B107_20) (gs := [r2 = 0]) (c' := (88, [some (21, 0), none, some (0, v2), some (0, v3), some (0, v4)], [], (h, hm, o))) K107_20 rfl ⟨q6, trivial⟩ ?_
          exact T107_3 hd (F107_1 n) hk0 v2 v3 v4 h _ e
        · refine zF_blk (m := []) (d := 0) (b := B107_20) (gs := [¬ (r2 = 0)]) (c' := (77, [some (21, 0), none, some (0, v2), some (0, v3), some (0, v4)], [], (h, hm, o))) K107_20 rfl ⟨q6, trivial⟩ ?_
          rcases zI_s e with ⟨q7, e⟩ | ⟨q7, e⟩
          · refine zF_blk (m := []) (d := 1) (b := B107_19) (gs := [¬ v3 = v2]) (c' := (85, [some (21, 0), none, some (0, v2), some (0, v3), some (0, v4)], [], (h, hm, o))) K107_19 rfl ⟨q7, trivial⟩ ?_
            refine zF_blk (m := []) (d := 0) (b := B107_17) (gs := []) (c' := (88, [some (21, 0), none, some (0, v2), some (0, (wadd v3 1)), some (0, v4)], [], (h, hm, o))) K107_17 rfl trivial ?_
            exact T107_3 hd (F107_1 n) hk0 v2 (wadd v3 1) v4 h _ e
          · refine zF_blk (m := []) (d := 0) (b := B107_19) (gs := [¬ (¬ v3 = v2)]) (c' := (82, [some (21, 0), none, some (0, v2), some (0, v3), some (0, v4)], [], (h, hm, o))) K107_19 rfl ⟨q7, trivial⟩ ?_
            refine zF_blk (m := []) (d := 0) (b := B107_18) (gs := []) (c' := (84, [some (21, 0), none, some (0, v2), some (0, v3), some (0, v4)], [(0, v4)], (h, hm, o))) K107_18 rfl trivial ?_
            exact zF_riC (zRe1_w (by decide +kernel)) e
def F107_2 (k0 : Int → Int → Int → zHC → Option (Int × zHC)) (v1 : Int) (v2 : Int) (v3 : Int) (h : zHC) : Option (Int × zHC) := k0 v1 v2 (wadd v3 1) h
set_option maxRecDepth 100000 in
theorem T107_2 {spec : zRn zH2} {hm : zHM} {o : Int → Int} {d : Nat} (hd : 7 ≤ d) (k0 : Int → Int → Int → zHC → Option (Int × zHC)) (hk0 : ∀ (v1 : Int) (v2 : Int) (v3 : Int) (h : zHC) (v : (Int × zHC)), k0 v1 v2 v3 h = some v → zFin 0 (fun _ => 0) (zRu2 spec d) 107 (some (0, v.1)) (v.2, hm, o) (16, [some (21, 0), some (0, v1), some (0, v2), some (0, v3), none], [], (h, hm, o))) (v1 : Int) (v2 : Int) (v3 : Int) (h : zHC) (v : (Int × zHC)) (e : F107_2 k0 v1 v2 v3 h = some v) : zFin 0 (fun _ => 0) (zRu2 spec d) 107 (some (0, v.1)) (v.2, hm, o) (41, [some (21, 0), some (0, v1), some (0, v2), some (0, v3), none], [], (h, hm, o)) := by
  unfold F107_2 at e
  refine zF_blk (m := []) (d := 0) (b := B107_11) (gs := []) (c' := (16, [some (21, 0), some (0, v1), some (0, v2), some (0, (wadd v3 1)), none], [], (h, hm, o))) K107_11 rfl trivial ?_
  exact hk0 v1 v2 (wadd v3 1) h _ e
def F107_0 : Nat → Int → Int → Int → zHC → Option (Int × zHC)
  | 0, _, _, _, _ => none
  | n + 1, v1, v2, v3, h => if 64 ≤ v3 then F107_1 zFu v2 0 0 h else (F104 v3 h).bind fun r1 => if r1 = 0 then F107_2 (F107_0 n) v1 v2 v3 h else (F106 v3 v1 h).bind fun r2 => (F108 v3 r2).bind fun r3 => F107_2 (F107_0 n) v1 v2 v3 r3
set_option maxRecDepth 100000 in
theorem T107_0 {spec : zRn zH2} {hm : zHM} {o : Int → Int} {d : Nat} (hd : 7 ≤ d) : ∀ (n : Nat) (v1 : Int) (v2 : Int) (v3 : Int) (h : zHC) (v : (Int × zHC)), F107_0 n v1 v2 v3 h = some v → zFin 0 (fun _ => 0) (zRu2 spec d) 107 (some (0, v.1)) (v.2, hm, o) (16, [some (21, 0), some (0, v1), some (0, v2), some (0, v3), none], [], (h, hm, o)) := by
  intro n
  induction n with
  | zero => intro v1 v2 v3 h v e; unfold F107_0 at e; cases e
  | succ n hk0 =>
    intro v1 v2 v3 h v e
    unfold F107_0 at e
    rcases zI_s e with ⟨q1, e⟩ | ⟨q1, e⟩
    · refine zF_blk (m := []) (d := 1) (b := B107_10) (gs := [64 ≤ v3]) (c' := (47, [some (21, 0), some (0, v1), some (0, v2), some (0, v3), none], [], (h, hm, o))) K107_10 rfl ⟨q1, trivial⟩ ?_
      refine zF_blk (m := []) (d := 0) (b := B107_5) (gs := []) (c' := (52, [some (21, 0), some (0, v1), some (0, v2), some (0, 0), some (0, 0)], [], (h, hm, o))) K107_5 rfl trivial ?_
      refine zF_blk (m := [true, false, true, true, true]) (d := 0) (b := []) (gs := []) (c' := (52, [some (21, 0), none, some (0, v2), some (0, 0), some (0, 0)], [], (h, hm, o))) rfl rfl trivial ?_
      exact T107_1 hd zFu v2 0 0 h _ e
    · refine zF_blk (m := []) (d := 0) (b := B107_10) (gs := [¬ (64 ≤ v3)]) (c' := (22, [some (21, 0), some (0, v1), some (0, v2), some (0, v3), none], [], (h, hm, o))) K107_10 rfl ⟨q1, trivial⟩ ?_
      obtain ⟨r1, q2, e⟩ := zB_s e
      refine zF_blk (m := []) (d := 0) (b := B107_6) (gs := []) (c' := (24, [some (21, 0), some (0, v1), some (0, v2), some (0, v3), none], [(0, v3), (21, 0)], (h, hm, o))) K107_6 rfl trivial ?_
      refine zF_call (k := 104) (cl := 11) (n := 2) (i := .invokevirtual 249) (args := [(21, 0), (0, v3)]) (rest := []) (g1 := (h, hm, o)) (r1 := some (0, r1)) (zCk1_w (by decide +kernel)) rfl rfl rfl (st' := [(0, r1)]) rfl (S104 (Nat.le_trans (by decide) hd) v3 h _ q2) ?_
      rcases zI_s e with ⟨q3, e⟩ | ⟨q3, e⟩
      · refine zF_blk (m := []) (d := 1) (b := B107_9) (gs := [r1 = 0]) (c' := (41, [some (21, 0), some (0, v1), some (0, v2), some (0, v3), none], [], (h, hm, o))) K107_9 rfl ⟨q3, trivial⟩ ?_
        exact T107_2 hd (F107_0 n) hk0 v1 v2 v3 h _ e
      · refine zF_blk (m := []) (d := 0) (b := B107_9) (gs := [¬ (r1 = 0)]) (c' := (30, [some (21, 0), some (0, v1), some (0, v2), some (0, v3), none], [], (h, hm, o))) K107_9 rfl ⟨q3, trivial⟩ ?_
        obtain ⟨r2, q4, e⟩ := zB_s e
        refine zF_blk (m := []) (d := 0) (b := B107_7) (gs := []) (c' := (33, [some (21, 0), some (0, v1), some (0, v2), some (0, v3), none], [(0, v1), (0, v3), (21, 0)], (h, hm, o))) K107_7 rfl trivial ?_
        refine zF_call (k := 106) (cl := 11) (n := 3) (i := .invokevirtual 252) (args := [(21, 0), (0, v3), (0, v1)]) (rest := []) (g1 := (r2, hm, o)) (r1 := none) (zCk1_w (by decide +kernel)) rfl rfl rfl (st' := []) rfl (S106 (Nat.le_trans (by decide) hd) v3 v1 h _ q4) ?_
        obtain ⟨r3, q5, e⟩ := zB_s e
        refine zF_blk (m := []) (d := 0) (b := B107_8) (gs := []) (c' := (38, [some (21, 0), some (0, v1), some (0, v2), some (0, v3), none], [(0, v3), (21, 0)], (r2, hm, o))) K107_8 rfl trivial ?_
        refine zF_call (k := 108) (cl := 11) (n := 2) (i := .invokevirtual 256) (args := [(21, 0), (0, v3)]) (rest := []) (g1 := (r3, hm, o)) (r1 := none) (zCk1_w (by decide +kernel)) rfl rfl rfl (st' := []) rfl (S108 (Nat.le_trans (by decide) hd) v3 r2 _ q5) ?_
        exact T107_2 hd (F107_0 n) hk0 v1 v2 v3 r3 _ e
/-- EchoVale.rests(II)I -/
def F107 (v1 : Int) (v2 : Int) (h : zHC) : Option (Int × zHC) := (F99 v1).bind fun r1 => if r1 = 0 then some ((-1), h) else if (-1) ≤ v2 then F107_0 zFu v1 v2 0 h else some ((-1), h)
set_option maxRecDepth 100000 in
theorem S107 {spec : zRn zH2} {hm : zHM} {o : Int → Int} {d : Nat} (hd : 8 ≤ d) (v1 : Int) (v2 : Int) (h : zHC) (v : (Int × zHC)) (e : F107 v1 v2 h = some v) : zRu2 spec d 107 [(21, 0), (0, v1), (0, v2)] (h, hm, o) (some (0, v.1)) (v.2, hm, o) := by
  refine zF_in (D := 7) (mx := 5) (L := [some (21, 0), some (0, v1), some (0, v2), none, none]) (by decide +kernel) rfl rfl hd (fun d hd => ?_)
  unfold F107 at e
  obtain ⟨r1, q1, e⟩ := zB_s e
  refine zF_blk (m := []) (d := 0) (b := B107_0) (gs := []) (c' := (1, [some (21, 0), some (0, v1), some (0, v2), none, none], [(0, v1)], (h, hm, o))) K107_0 rfl trivial ?_
  refine zF_call (k := 99) (cl := 11) (n := 1) (i := .invokestatic 242) (args := [(0, v1)]) (rest := []) (g1 := (h, hm, o)) (r1 := some (0, r1)) (zCk1_w (by decide +kernel)) rfl rfl rfl (st' := [(0, r1)]) rfl (S99 (Nat.le_trans (by decide) hd) v1 h _ q1) ?_
  rcases zI_s e with ⟨q2, e⟩ | ⟨q2, e⟩
  · refine zF_blk (m := []) (d := 1) (b := B107_4) (gs := [r1 = 0]) (c' := (12, [some (21, 0), some (0, v1), some (0, v2), none, none], [], (h, hm, o))) K107_4 rfl ⟨q2, trivial⟩ ?_
    refine zF_blk (m := []) (d := 0) (b := B107_1) (gs := []) (c' := (13, [some (21, 0), some (0, v1), some (0, v2), none, none], [(0, (-1))], (h, hm, o))) K107_1 rfl trivial ?_
    exact zF_riC (zRe1_w (by decide +kernel)) e
  · refine zF_blk (m := []) (d := 0) (b := B107_4) (gs := [¬ (r1 = 0)]) (c' := (7, [some (21, 0), some (0, v1), some (0, v2), none, none], [], (h, hm, o))) K107_4 rfl ⟨q2, trivial⟩ ?_
    rcases zI_s e with ⟨q3, e⟩ | ⟨q3, e⟩
    · refine zF_blk (m := []) (d := 1) (b := B107_3) (gs := [(-1) ≤ v2]) (c' := (14, [some (21, 0), some (0, v1), some (0, v2), none, none], [], (h, hm, o))) K107_3 rfl ⟨q3, trivial⟩ ?_
      refine zF_blk (m := []) (d := 0) (b := B107_2) (gs := []) (c' := (16, [some (21, 0), some (0, v1), some (0, v2), some (0, 0), none], [], (h, hm, o))) K107_2 rfl trivial ?_
      exact T107_0 hd zFu v1 v2 0 h _ e
    · refine zF_blk (m := []) (d := 0) (b := B107_3) (gs := [¬ ((-1) ≤ v2)]) (c' := (12, [some (21, 0), some (0, v1), some (0, v2), none, none], [], (h, hm, o))) K107_3 rfl ⟨q3, trivial⟩ ?_
      refine zF_blk (m := []) (d := 0) (b := B107_1) (gs := []) (c' := (13, [some (21, 0), some (0, v1), some (0, v2), none, none], [(0, (-1))], (h, hm, o))) K107_1 rfl trivial ?_
      exact zF_riC (zRe1_w (by decide +kernel)) e
noncomputable def B251_0 : List zRow := [(0, .iconst 0, 1, (0, 0, 0)), (1, .istore_n 3, 1, (0, 0, 0))]
theorem K251_0 : zRk 251 B251_0 = true := zRw_ok (by decide +kernel)
noncomputable def B251_1 : List zRow := [(57, .iconst 1, 1, (0, 0, 0))]
theorem K251_1 : zRk 251 B251_1 = true := zRw_ok (by decide +kernel)
noncomputable def B251_2 : List zRow := [(12, .iload_n 2, 1, (0, 0, 0)), (13, .iload_n 3, 1, (0, 0, 0))]
theorem K251_2 : zRk 251 B251_2 = true := zRw_ok (by decide +kernel)
noncomputable def B251_3 : List zRow := [(20, .aload_n 0, 1, (0, 0, 0)), (21, .getfield 42, 3, (12, 25, 5244418)), (24, .bipush 6, 2, (0, 0, 0)), (26, .iload_n 1, 1, (0, 0, 0)), (27, .iconst 1, 1, (0, 0, 0)), (28, .iload_n 3, 1, (0, 0, 0)), (29, .ishl, 1, (0, 0, 0)), (30, .ixor, 1, (0, 0, 0))]
theorem K251_3 : zRk 251 B251_3 = true := zRw_ok (by decide +kernel)
noncomputable def B251_4 : List zRow := [(31, .imul, 1, (0, 0, 0)), (32, .iload_n 3, 1, (0, 0, 0)), (33, .iadd, 1, (0, 0, 0)), (34, .iaload, 1, (0, 0, 0)), (35, .aload_n 0, 1, (0, 0, 0)), (36, .getfield 42, 3, (12, 25, 5244418)), (39, .bipush 6, 2, (0, 0, 0)), (41, .iload_n 1, 1, (0, 0, 0))]
theorem K251_4 : zRk 251 B251_4 = true := zRw_ok (by decide +kernel)
noncomputable def B251_5 : List zRow := [(49, .iconst 0, 1, (0, 0, 0))]
theorem K251_5 : zRk 251 B251_5 = true := zRw_ok (by decide +kernel)
noncomputable def B251_6 : List zRow := [(42, .imul, 1, (0, 0, 0)), (43, .iload_n 3, 1, (0, 0, 0)), (44, .iadd, 1, (0, 0, 0)), (45, .iaload, 1, (0, 0, 0)), (46, .if_icmp .le 5, 3, (0, 0, 0))]
theorem K251_6 : zRk 251 B251_6 = true := zRw_ok (by decide +kernel)
noncomputable def B251_7 : List zRow := [(17, .ifCond .eq 34, 3, (0, 0, 0))]
theorem K251_7 : zRk 251 B251_7 = true := zRw_ok (by decide +kernel)
noncomputable def B251_8 : List zRow := [(2, .iload_n 3, 1, (0, 0, 0)), (3, .aload_n 0, 1, (0, 0, 0)), (4, .getfield 13, 3, (12, 14, 5251442)), (7, .iconst 3, 1, (0, 0, 0)), (8, .iaload, 1, (0, 0, 0)), (9, .if_icmp .ge 48, 3, (0, 0, 0))]
theorem K251_8 : zRk 251 B251_8 = true := zRw_ok (by decide +kernel)
noncomputable def B251_9 : List zRow := [(51, .iinc 3 1, 3, (0, 0, 0)), (54, .goto (-52), 3, (0, 0, 0))]
theorem K251_9 : zRk 251 B251_9 = true := zRw_ok (by decide +kernel)
def F251_1 (k0 : Int → Int → Int → Option Int) (h : zHM) (v1 : Int) (v2 : Int) (v3 : Int) : Option Int := k0 v1 v2 (wadd v3 1)
set_option maxRecDepth 100000 in
theorem T251_1 {spec : zRn zH2} {hc : zHC} {o : Int → Int} {d : Nat} (hd : 1 ≤ d) (h : zHM) (k0 : Int → Int → Int → Option Int) (hk0 : ∀ (v1 : Int) (v2 : Int) (v3 : Int) (v : Int), k0 v1 v2 v3 = some v → zFin 0 (fun _ => 0) (zRu2 spec d) 251 (some (0, v)) (hc, h, o) (2, [some (22, 0), some (0, v1), some (0, v2), some (0, v3)], [], (hc, h, o))) (v1 : Int) (v2 : Int) (v3 : Int) (v : Int) (e : F251_1 k0 h v1 v2 v3 = some v) : zFin 0 (fun _ => 0) (zRu2 spec d) 251 (some (0, v)) (hc, h, o) (51, [some (22, 0), some (0, v1), some (0, v2), some (0, v3)], [], (hc, h, o)) := by
  unfold F251_1 at e
  refine zF_blk (m := []) (d := 0) (b := B251_9) (gs := []) (c' := (2, [some (22, 0), some (0, v1), some (0, v2), some (0, (wadd v3 1))], [], (hc, h, o))) K251_9 rfl trivial ?_
  exact hk0 v1 v2 (wadd v3 1) _ e
def F251_0 (h : zHM) : Nat → Int → Int → Int → Option Int
  | 0, _, _, _ => none
  | n + 1, v1, v2, v3 => if (h 14 3) ≤ v3 then some 1 else (F214 v2 v3).bind fun r1 => if r1 = 0 then F251_1 (F251_0 h n) h v1 v2 v3 else zG (0 ≤ (wadd (wmul 6 (wxor v1 (wshl 1 v3))) v3) ∧ (wadd (wmul 6 (wxor v1 (wshl 1 v3))) v3) < 384) (zG (0 ≤ (wadd (wmul 6 v1) v3) ∧ (wadd (wmul 6 v1) v3) < 384) (if (h 25 (wadd (wmul 6 (wxor v1 (wshl 1 v3))) v3)) ≤ (h 25 (wadd (wmul 6 v1) v3)) then F251_1 (F251_0 h n) h v1 v2 v3 else some 0))
set_option maxRecDepth 100000 in
theorem T251_0 {spec : zRn zH2} {hc : zHC} {o : Int → Int} {d : Nat} (hd : 1 ≤ d) (h : zHM) : ∀ (n : Nat) (v1 : Int) (v2 : Int) (v3 : Int) (v : Int), F251_0 h n v1 v2 v3 = some v → zFin 0 (fun _ => 0) (zRu2 spec d) 251 (some (0, v)) (hc, h, o) (2, [some (22, 0), some (0, v1), some (0, v2), some (0, v3)], [], (hc, h, o)) := by
  intro n
  induction n with
  | zero => intro v1 v2 v3 v e; unfold F251_0 at e; cases e
  | succ n hk0 =>
    intro v1 v2 v3 v e
    unfold F251_0 at e
    rcases zI_s e with ⟨q1, e⟩ | ⟨q1, e⟩
    · refine zF_blk (m := []) (d := 1) (b := B251_8) (gs := [0 ≤ 3 ∧ 3 < 2140, (h 14 3) ≤ v3]) (c' := (57, [some (22, 0), some (0, v1), some (0, v2), some (0, v3)], [], (hc, h, o))) K251_8 rfl ⟨by decide, q1, trivial⟩ ?_
      refine zF_blk (m := []) (d := 0) (b := B251_1) (gs := []) (c' := (58, [some (22, 0), some (0, v1), some (0, v2), some (0, v3)], [(0, 1)], (hc, h, o))) K251_1 rfl trivial ?_
      obtain rfl := Option.some.inj e
      exact zF_rb (zRe1_w (by decide +kernel)) (Or.inr rfl)
    · refine zF_blk (m := []) (d := 0) (b := B251_8) (gs := [0 ≤ 3 ∧ 3 < 2140, ¬ ((h 14 3) ≤ v3)]) (c' := (12, [some (22, 0), some (0, v1), some (0, v2), some (0, v3)], [], (hc, h, o))) K251_8 rfl ⟨by decide, q1, trivial⟩ ?_
      obtain ⟨r1, q2, e⟩ := zB_s e
      refine zF_blk (m := []) (d := 0) (b := B251_2) (gs := []) (c' := (14, [some (22, 0), some (0, v1), some (0, v2), some (0, v3)], [(0, v3), (0, v2)], (hc, h, o))) K251_2 rfl trivial ?_
      refine zF_call (k := 214) (cl := 12) (n := 2) (i := .invokestatic 251) (args := [(0, v2), (0, v3)]) (rest := []) (g1 := (hc, h, o)) (r1 := some (0, r1)) (zCk1_w (by decide +kernel)) rfl rfl rfl (st' := [(0, r1)]) rfl (S214 (Nat.le_trans (by decide) hd) v2 v3 h _ q2) ?_
      rcases zI_s e with ⟨q3, e⟩ | ⟨q3, e⟩
      · refine zF_blk (m := []) (d := 1) (b := B251_7) (gs := [r1 = 0]) (c' := (51, [some (22, 0), some (0, v1), some (0, v2), some (0, v3)], [], (hc, h, o))) K251_7 rfl ⟨q3, trivial⟩ ?_
        exact T251_1 hd h (F251_0 h n) hk0 v1 v2 v3 _ e
      · refine zF_blk (m := []) (d := 0) (b := B251_7) (gs := [¬ (r1 = 0)]) (c' := (20, [some (22, 0), some (0, v1), some (0, v2), some (0, v3)], [], (hc, h, o))) K251_7 rfl ⟨q3, trivial⟩ ?_
        obtain ⟨q4, e⟩ := zG_s e
        obtain ⟨q5, e⟩ := zG_s e
        refine zF_blk (m := []) (d := 0) (b := B251_3) (gs := []) (c' := (31, [some (22, 0), some (0, v1), some (0, v2), some (0, v3)], [(0, (wxor v1 (wshl 1 v3))), (0, 6), (1342572289, 0)], (hc, h, o))) K251_3 rfl trivial ?_
        refine zF_blk (m := []) (d := 0) (b := B251_4) (gs := [0 ≤ (wadd (wmul 6 (wxor v1 (wshl 1 v3))) v3) ∧ (wadd (wmul 6 (wxor v1 (wshl 1 v3))) v3) < 384]) (c' := (42, [some (22, 0), some (0, v1), some (0, v2), some (0, v3)], [(0, v1), (0, 6), (1342572289, 0), (0, (h 25 (wadd (wmul 6 (wxor v1 (wshl 1 v3))) v3)))], (hc, h, o))) K251_4 rfl ⟨q4, trivial⟩ ?_
        rcases zI_s e with ⟨q6, e⟩ | ⟨q6, e⟩
        · refine zF_blk (m := []) (d := 1) (b := B251_6) (gs := [0 ≤ (wadd (wmul 6 v1) v3) ∧ (wadd (wmul 6 v1) v3) < 384, (h 25 (wadd (wmul 6 (wxor v1 (wshl 1 v3))) v3)) ≤ (h 25 (wadd (wmul 6 v1) v3))]) (c' := (51, [some (22, 0), some (0, v1), some (0, v2), some (0, v3)], [], (hc, h, o))) K251_6 rfl ⟨q5, q6, trivial⟩ ?_
          exact T251_1 hd h (F251_0 h n) hk0 v1 v2 v3 _ e
        · refine zF_blk (m := []) (d := 0) (b := B251_6) (gs := [0 ≤ (wadd (wmul 6 v1) v3) ∧ (wadd (wmul 6 v1) v3) < 384, ¬ ((h 25 (wadd (wmul 6 (wxor v1 (wshl 1 v3))) v3)) ≤ (h 25 (wadd (wmul 6 v1) v3)))]) (c' := (49, [some (22, 0), some (0, v1), some (0, v2), some (0, v3)], [], (hc, h, o))) K251_6 rfl ⟨q5, q6, trivial⟩ ?_
          refine zF_blk (m := []) (d := 0) (b := B251_5) (gs := []) (c' := (50, [some (22, 0), some (0, v1), some (0, v2), some (0, v3)], [(0, 0)], (hc, h, o))) K251_5 rfl trivial ?_
          obtain rfl := Option.some.inj e
          exact zF_rb (zRe1_w (by decide +kernel)) (Or.inl rfl)
/-- EchoValeModel.isRest(II)Z -/
def F251 (v1 : Int) (v2 : Int) (h : zHM) : Option Int := F251_0 h zFu v1 v2 0
set_option maxRecDepth 100000 in
theorem S251 {spec : zRn zH2} {hc : zHC} {o : Int → Int} {d : Nat} (hd : 2 ≤ d) (v1 : Int) (v2 : Int) (h : zHM) (v : Int) (e : F251 v1 v2 h = some v) : zRu2 spec d 251 [(22, 0), (0, v1), (0, v2)] (hc, h, o) (some (0, v)) (hc, h, o) := by
  refine zF_in (D := 1) (mx := 4) (L := [some (22, 0), some (0, v1), some (0, v2), none]) (by decide +kernel) rfl rfl hd (fun d hd => ?_)
  unfold F251 at e
  refine zF_blk (m := []) (d := 0) (b := B251_0) (gs := []) (c' := (2, [some (22, 0), some (0, v1), some (0, v2), some (0, 0)], [], (hc, h, o))) K251_0 rfl trivial ?_
  exact T251_0 hd h zFu v1 v2 0 _ e
noncomputable def B250_0 : List zRow := [(0, .aload_n 0, 1, (0, 0, 0)), (1, .iconst 0, 1, (0, 0, 0)), (2, .putfield 81, 3, (12, 0, 0)), (5, .iload_n 1, 1, (0, 0, 0))]
theorem K250_0 : zRk 250 B250_0 = true := zRw_ok (by decide +kernel)
noncomputable def B250_1 : List zRow := [(14, .aload_n 0, 1, (0, 0, 0))]
theorem K250_1 : zRk 250 B250_1 = true := zRw_ok (by decide +kernel)
noncomputable def B250_2 : List zRow := [(18, .istore_n 3, 1, (0, 0, 0)), (19, .iconst 0, 1, (0, 0, 0)), (20, .istore 4, 2, (0, 0, 0))]
theorem K250_2 : zRk 250 B250_2 = true := zRw_ok (by decide +kernel)
noncomputable def B250_3 : List zRow := [(12, .iconst (-1), 1, (0, 0, 0))]
theorem K250_3 : zRk 250 B250_3 = true := zRw_ok (by decide +kernel)
noncomputable def B250_4 : List zRow := [(9, .ifCond .ne 5, 3, (0, 0, 0))]
theorem K250_4 : zRk 250 B250_4 = true := zRw_ok (by decide +kernel)
noncomputable def B250_5 : List zRow := [(50, .iconst 0, 1, (0, 0, 0)), (51, .istore 4, 2, (0, 0, 0)), (53, .iconst 0, 1, (0, 0, 0)), (54, .istore 5, 2, (0, 0, 0))]
theorem K250_5 : zRk 250 B250_5 = true := zRw_ok (by decide +kernel)
noncomputable def B250_6 : List zRow := [(37, .aload_n 0, 1, (0, 0, 0)), (38, .iload 4, 2, (0, 0, 0)), (40, .iload_n 1, 1, (0, 0, 0))]
theorem K250_6 : zRk 250 B250_6 = true := zRw_ok (by decide +kernel)
noncomputable def B250_7 : List zRow := [(28, .iload 4, 2, (0, 0, 0)), (30, .iload_n 3, 1, (0, 0, 0)), (31, .iconst (-1), 1, (0, 0, 0)), (32, .ixor, 1, (0, 0, 0)), (33, .iand, 1, (0, 0, 0)), (34, .ifCond .ne 10, 3, (0, 0, 0))]
theorem K250_7 : zRk 250 B250_7 = true := zRw_ok (by decide +kernel)
noncomputable def B250_8 : List zRow := [(22, .iload 4, 2, (0, 0, 0)), (24, .iload_n 3, 1, (0, 0, 0)), (25, .if_icmp .gt 25, 3, (0, 0, 0))]
theorem K250_8 : zRk 250 B250_8 = true := zRw_ok (by decide +kernel)
noncomputable def B250_9 : List zRow := [(44, .iinc 4 1, 3, (0, 0, 0)), (47, .goto (-25), 3, (0, 0, 0))]
theorem K250_9 : zRk 250 B250_9 = true := zRw_ok (by decide +kernel)
noncomputable def B250_10 : List zRow := [(112, .iconst (-1), 1, (0, 0, 0))]
theorem K250_10 : zRk 250 B250_10 = true := zRw_ok (by decide +kernel)
noncomputable def B250_11 : List zRow := [(107, .iload 4, 2, (0, 0, 0)), (109, .goto 4, 3, (0, 0, 0))]
theorem K250_11 : zRk 250 B250_11 = true := zRw_ok (by decide +kernel)
noncomputable def B250_12 : List zRow := [(102, .iload_n 2, 1, (0, 0, 0)), (103, .iconst (-1), 1, (0, 0, 0)), (104, .if_icmp .ne 8, 3, (0, 0, 0))]
theorem K250_12 : zRk 250 B250_12 = true := zRw_ok (by decide +kernel)
noncomputable def B250_13 : List zRow := [(71, .aload_n 0, 1, (0, 0, 0)), (72, .iload 5, 2, (0, 0, 0)), (74, .iload_n 3, 1, (0, 0, 0))]
theorem K250_13 : zRk 250 B250_13 = true := zRw_ok (by decide +kernel)
noncomputable def B250_14 : List zRow := [(93, .iinc 4 1, 3, (0, 0, 0))]
theorem K250_14 : zRk 250 B250_14 = true := zRw_ok (by decide +kernel)
noncomputable def B250_15 : List zRow := [(90, .iload 5, 2, (0, 0, 0))]
theorem K250_15 : zRk 250 B250_15 = true := zRw_ok (by decide +kernel)
noncomputable def B250_16 : List zRow := [(84, .iload 4, 2, (0, 0, 0)), (86, .iload_n 2, 1, (0, 0, 0)), (87, .if_icmp .ne 6, 3, (0, 0, 0))]
theorem K250_16 : zRk 250 B250_16 = true := zRw_ok (by decide +kernel)
noncomputable def B250_17 : List zRow := [(81, .goto 15, 3, (0, 0, 0))]
theorem K250_17 : zRk 250 B250_17 = true := zRw_ok (by decide +kernel)
noncomputable def B250_18 : List zRow := [(78, .ifCond .ne 6, 3, (0, 0, 0))]
theorem K250_18 : zRk 250 B250_18 = true := zRw_ok (by decide +kernel)
noncomputable def B250_19 : List zRow := [(62, .iload 5, 2, (0, 0, 0)), (64, .iload_n 3, 1, (0, 0, 0)), (65, .iconst (-1), 1, (0, 0, 0)), (66, .ixor, 1, (0, 0, 0)), (67, .iand, 1, (0, 0, 0)), (68, .ifCond .ne 28, 3, (0, 0, 0))]
theorem K250_19 : zRk 250 B250_19 = true := zRw_ok (by decide +kernel)
noncomputable def B250_20 : List zRow := [(56, .iload 5, 2, (0, 0, 0)), (58, .iload_n 3, 1, (0, 0, 0)), (59, .if_icmp .gt 43, 3, (0, 0, 0))]
theorem K250_20 : zRk 250 B250_20 = true := zRw_ok (by decide +kernel)
noncomputable def B250_21 : List zRow := [(96, .iinc 5 1, 3, (0, 0, 0)), (99, .goto (-43), 3, (0, 0, 0))]
theorem K250_21 : zRk 250 B250_21 = true := zRw_ok (by decide +kernel)
def F250_3 (k0 : Int → Int → Int → Int → zHM → Option (Int × zHM)) (v2 : Int) (v3 : Int) (v4 : Int) (v5 : Int) (h : zHM) : Option (Int × zHM) := k0 v2 v3 v4 (wadd v5 1) h
set_option maxRecDepth 100000 in
theorem T250_3 {spec : zRn zH2} {hc : zHC} {o : Int → Int} {d : Nat} (hd : 7 ≤ d) (k0 : Int → Int → Int → Int → zHM → Option (Int × zHM)) (hk0 : ∀ (v2 : Int) (v3 : Int) (v4 : Int) (v5 : Int) (h : zHM) (v : (Int × zHM)), k0 v2 v3 v4 v5 h = some v → zFin 0 (fun _ => 0) (zRu2 spec d) 250 (some (0, v.1)) (hc, v.2, o) (56, [some (22, 0), none, some (0, v2), some (0, v3), some (0, v4), some (0, v5)], [], (hc, h, o))) (v2 : Int) (v3 : Int) (v4 : Int) (v5 : Int) (h : zHM) (v : (Int × zHM)) (e : F250_3 k0 v2 v3 v4 v5 h = some v) : zFin 0 (fun _ => 0) (zRu2 spec d) 250 (some (0, v.1)) (hc, v.2, o) (96, [some (22, 0), none, some (0, v2), some (0, v3), some (0, v4), some (0, v5)], [], (hc, h, o)) := by
  unfold F250_3 at e
  refine zF_blk (m := []) (d := 0) (b := B250_21) (gs := []) (c' := (56, [some (22, 0), none, some (0, v2), some (0, v3), some (0, v4), some (0, (wadd v5 1))], [], (hc, h, o))) K250_21 rfl trivial ?_
  exact hk0 v2 v3 v4 (wadd v5 1) h _ e
def F250_1 : Nat → Int → Int → Int → Int → zHM → Option (Int × zHM)
  | 0, _, _, _, _, _ => none
  | n + 1, v2, v3, v4, v5, h => if v3 < v5 then if ¬ v2 = (-1) then some ((-1), h) else some (v4, h) else if ¬ (wand v5 (wxor v3 (-1))) = 0 then F250_3 (F250_1 n) v2 v3 v4 v5 h else (F251 v5 v3 h).bind fun r1 => if ¬ r1 = 0 then if ¬ v4 = v2 then F250_3 (F250_1 n) v2 v3 (wadd v4 1) v5 h else some (v5, h) else F250_3 (F250_1 n) v2 v3 v4 v5 h
set_option maxRecDepth 100000 in
theorem T250_1 {spec : zRn zH2} {hc : zHC} {o : Int → Int} {d : Nat} (hd : 7 ≤ d) : ∀ (n : Nat) (v2 : Int) (v3 : Int) (v4 : Int) (v5 : Int) (h : zHM) (v : (Int × zHM)), F250_1 n v2 v3 v4 v5 h = some v → zFin 0 (fun _ => 0) (zRu2 spec d) 250 (some (0, v.1)) (hc, v.2, o) (56, [some (22, 0), none, some (0, v2), some (0, v3), some (0, v4), some (0, v5)], [], (hc, h, o)) := by
  intro n
  induction n with
  | zero => intro v2 v3 v4 v5 h v e; unfold F250_1 at e; cases e
  | succ n hk0 =>
    intro v2 v3 v4 v5 h v e
    unfold F250_1 at e
    rcases zI_s e with ⟨q1, e⟩ | ⟨q1, e⟩
    · refine zF_blk (m := []) (d := 1) (b := B250_20) (gs := [v3 < v5]) (c' := (102, [some (22, 0), none, some (0, v2), some (0, v3), some (0, v4), some (0, v5)], [], (hc, h, o))) K250_20 rfl ⟨q1, trivial⟩ ?_
      rcases zI_s e with ⟨q2, e⟩ | ⟨q2, e⟩
      · refine zF_blk (m := []) (d := 1) (b := B250_12) (gs := [¬ v2 = (-1)]) (c' := (112, [some (22, 0), none, some (0, v2), some (0, v3), some (0, v4), some (0, v5)], [], (hc, h, o))) K250_12 rfl ⟨q2, trivial⟩ ?_
        refine zF_blk (m := []) (d := 0) (b := B250_10) (gs := []) (c' := (113, [some (22, 0), none, some (0, v2), some (0, v3), some (0, v4), some (0, v5)], [(0, (-1))], (hc, h, o))) K250_10 rfl trivial ?_
        exact zF_riM (zRe1_w (by decide +kernel)) e
      · refine zF_blk (m := []) (d := 0) (b := B250_12) (gs := [¬ (¬ v2 = (-1))]) (c' := (107, [some (22, 0), none, some (0, v2), some (0, v3), some (0, v4), some (0, v5)], [], (hc, h, o))) K250_12 rfl ⟨q2, trivial⟩ ?_
        refine zF_blk (m := []) (d := 0) (b := B250_11) (gs := []) (c' := (113, [some (22, 0), none, some (0, v2), some (0, v3), some (0, v4), some (0, v5)], [(0, v4)], (hc, h, o))) K250_11 rfl trivial ?_
        exact zF_riM (zRe1_w (by decide +kernel)) e
    · refine zF_blk (m := []) (d := 0) (b := B250_20) (gs := [¬ (v3 < v5)]) (c' := (62, [some (22, 0), none, some (0, v2), some (0, v3), some (0, v4), some (0, v5)], [], (hc, h, o))) K250_20 rfl ⟨q1, trivial⟩ ?_
      rcases zI_s e with ⟨q3, e⟩ | ⟨q3, e⟩
      · refine zF_blk (m := []) (d := 1) (b := B250_19) (gs := [¬ (wand v5 (wxor v3 (-1))) = 0]) (c' := (96, [some (22, 0), none, some (0, v2), some (0, v3), some (0, v4), some (0, v5)], [], (hc, h, o))) K250_19 rfl ⟨q3, trivial⟩ ?_
        exact T250_3 hd (F250_1 n) hk0 v2 v3 v4 v5 h _ e
      · refine zF_blk (m := []) (d := 0) (b := B250_19) (gs := [¬ (¬ (wand v5 (wxor v3 (-1))) = 0)]) (c' := (71, [some (22, 0), none, some (0, v2), some (0, v3), some (0, v4), some (0, v5)], [], (hc, h, o))) K250_19 rfl ⟨q3, trivial⟩ ?_
        obtain ⟨r1, q4, e⟩ := zB_s e
        refine zF_blk (m := []) (d := 0) (b := B250_13) (gs := []) (c' := (75, [some (22, 0), none, some (0, v2), some (0, v3), some (0, v4), some (0, v5)], [(0, v3), (0, v5), (22, 0)], (hc, h, o))) K250_13 rfl trivial ?_
        refine zF_call (k := 251) (cl := 12) (n := 3) (i := .invokevirtual 336) (args := [(22, 0), (0, v5), (0, v3)]) (rest := []) (g1 := (hc, h, o)) (r1 := some (0, r1)) (zCk1_w (by decide +kernel)) rfl rfl rfl (st' := [(0, r1)]) rfl (S251 (Nat.le_trans (by decide) hd) v5 v3 h _ q4) ?_
        rcases zI_s e with ⟨q5, e⟩ | ⟨q5, e⟩
        · refine zF_blk (m := []) (d := 1) (b := B250_18) (gs := [¬ r1 = 0]) (c' := (84, [some (22, 0), none, some (0, v2), some (0, v3), some (0, v4), some (0, v5)], [], (hc, h, o))) K250_18 rfl ⟨q5, trivial⟩ ?_
          rcases zI_s e with ⟨q6, e⟩ | ⟨q6, e⟩
          · refine zF_blk (m := []) (d := 1) (b := B250_16) (gs := [¬ v4 = v2]) (c' := (93, [some (22, 0), none, some (0, v2), some (0, v3), some (0, v4), some (0, v5)], [], (hc, h, o))) K250_16 rfl ⟨q6, trivial⟩ ?_
            refine zF_blk (m := []) (d := 0) (b := B250_14) (gs := []) (c' := (96, [some (22, 0), none, some (0, v2), some (0, v3), some (0, (wadd v4 1)), some (0, v5)], [], (hc, h, o))) K250_14 rfl trivial ?_
            exact T250_3 hd (F250_1 n) hk0 v2 v3 (wadd v4 1) v5 h _ e
          · refine zF_blk (m := []) (d := 0) (b := B250_16) (gs := [¬ (¬ v4 = v2)]) (c' := (90, [some (22, 0), none, some (0, v2), some (0, v3), some (0, v4), some (0, v5)], [], (hc, h, o))) K250_16 rfl ⟨q6, trivial⟩ ?_
            refine zF_blk (m := []) (d := 0) (b := B250_15) (gs := []) (c' := (92, [some (22, 0), none, some (0, v2), some (0, v3), some (0, v4), some (0, v5)], [(0, v5)], (hc, h, o))) K250_15 rfl trivial ?_
            exact zF_riM (zRe1_w (by decide +kernel)) e
        · refine zF_blk (m := []) (d := 0) (b := B250_18) (gs := [¬ (¬ r1 = 0)]) (c' := (81, [some (22, 0), none, some (0, v2), some (0, v3), some (0, v4), some (0, v5)], [], (hc, h, o))) K250_18 rfl ⟨q5, trivial⟩ ?_
          refine zF_blk (m := []) (d := 0) (b := B250_17) (gs := []) (c' := (96, [some (22, 0), none, some (0, v2), some (0, v3), some (0, v4), some (0, v5)], [], (hc, h, o))) K250_17 rfl trivial ?_
          exact T250_3 hd (F250_1 n) hk0 v2 v3 v4 v5 h _ e
def F250_2 (k0 : Int → Int → Int → Int → zHM → Option (Int × zHM)) (v1 : Int) (v2 : Int) (v3 : Int) (v4 : Int) (h : zHM) : Option (Int × zHM) := k0 v1 v2 v3 (wadd v4 1) h
set_option maxRecDepth 100000 in
theorem T250_2 {spec : zRn zH2} {hc : zHC} {o : Int → Int} {d : Nat} (hd : 7 ≤ d) (k0 : Int → Int → Int → Int → zHM → Option (Int × zHM)) (hk0 : ∀ (v1 : Int) (v2 : Int) (v3 : Int) (v4 : Int) (h : zHM) (v : (Int × zHM)), k0 v1 v2 v3 v4 h = some v → zFin 0 (fun _ => 0) (zRu2 spec d) 250 (some (0, v.1)) (hc, v.2, o) (22, [some (22, 0), some (0, v1), some (0, v2), some (0, v3), some (0, v4), none], [], (hc, h, o))) (v1 : Int) (v2 : Int) (v3 : Int) (v4 : Int) (h : zHM) (v : (Int × zHM)) (e : F250_2 k0 v1 v2 v3 v4 h = some v) : zFin 0 (fun _ => 0) (zRu2 spec d) 250 (some (0, v.1)) (hc, v.2, o) (44, [some (22, 0), some (0, v1), some (0, v2), some (0, v3), some (0, v4), none], [], (hc, h, o)) := by
  unfold F250_2 at e
  refine zF_blk (m := []) (d := 0) (b := B250_9) (gs := []) (c' := (22, [some (22, 0), some (0, v1), some (0, v2), some (0, v3), some (0, (wadd v4 1)), none], [], (hc, h, o))) K250_9 rfl trivial ?_
  exact hk0 v1 v2 v3 (wadd v4 1) h _ e
def F250_0 : Nat → Int → Int → Int → Int → zHM → Option (Int × zHM)
  | 0, _, _, _, _, _ => none
  | n + 1, v1, v2, v3, v4, h => if v3 < v4 then F250_1 zFu v2 v3 0 0 h else if ¬ (wand v4 (wxor v3 (-1))) = 0 then F250_2 (F250_0 n) v1 v2 v3 v4 h else (F249 v4 v1 h).bind fun r1 => F250_2 (F250_0 n) v1 v2 v3 v4 r1
set_option maxRecDepth 100000 in
theorem T250_0 {spec : zRn zH2} {hc : zHC} {o : Int → Int} {d : Nat} (hd : 7 ≤ d) : ∀ (n : Nat) (v1 : Int) (v2 : Int) (v3 : Int) (v4 : Int) (h : zHM) (v : (Int × zHM)), F250_0 n v1 v2 v3 v4 h = some v → zFin 0 (fun _ => 0) (zRu2 spec d) 250 (some (0, v.1)) (hc, v.2, o) (22, [some (22, 0), some (0, v1), some (0, v2), some (0, v3), some (0, v4), none], [], (hc, h, o)) := by
  intro n
  induction n with
  | zero => intro v1 v2 v3 v4 h v e; unfold F250_0 at e; cases e
  | succ n hk0 =>
    intro v1 v2 v3 v4 h v e
    unfold F250_0 at e
    rcases zI_s e with ⟨q1, e⟩ | ⟨q1, e⟩
    · refine zF_blk (m := []) (d := 1) (b := B250_8) (gs := [v3 < v4]) (c' := (50, [some (22, 0), some (0, v1), some (0, v2), some (0, v3), some (0, v4), none], [], (hc, h, o))) K250_8 rfl ⟨q1, trivial⟩ ?_
      refine zF_blk (m := []) (d := 0) (b := B250_5) (gs := []) (c' := (56, [some (22, 0), some (0, v1), some (0, v2), some (0, v3), some (0, 0), some (0, 0)], [], (hc, h, o))) K250_5 rfl trivial ?_
      refine zF_blk (m := [true, false, true, true, true, true]) (d := 0) (b := []) (gs := []) (c' := (56, [some (22, 0), none, some (0, v2), some (0, v3), some (0, 0), some (0, 0)], [], (hc, h, o))) rfl rfl trivial ?_
      exact T250_1 hd zFu v2 v3 0 0 h _ e
    · refine zF_blk (m := []) (d := 0) (b := B250_8) (gs := [¬ (v3 < v4)]) (c' := (28, [some (22, 0), some (0, v1), some (0, v2), some (0, v3), some (0, v4), none], [], (hc, h, o))) K250_8 rfl ⟨q1, trivial⟩ ?_
      rcases zI_s e with ⟨q2, e⟩ | ⟨q2, e⟩
      · refine zF_blk (m := []) (d := 1) (b := B250_7) (gs := [¬ (wand v4 (wxor v3 (-1))) = 0]) (c' := (44, [some (22, 0), some (0, v1), some (0, v2), some (0, v3), some (0, v4), none], [], (hc, h, o))) K250_7 rfl ⟨q2, trivial⟩ ?_
        exact T250_2 hd (F250_0 n) hk0 v1 v2 v3 v4 h _ e
      · refine zF_blk (m := []) (d := 0) (b := B250_7) (gs := [¬ (¬ (wand v4 (wxor v3 (-1))) = 0)]) (c' := (37, [some (22, 0), some (0, v1), some (0, v2), some (0, v3), some (0, v4), none], [], (hc, h, o))) K250_7 rfl ⟨q2, trivial⟩ ?_
        obtain ⟨r1, q3, e⟩ := zB_s e
        refine zF_blk (m := []) (d := 0) (b := B250_6) (gs := []) (c' := (41, [some (22, 0), some (0, v1), some (0, v2), some (0, v3), some (0, v4), none], [(0, v1), (0, v4), (22, 0)], (hc, h, o))) K250_6 rfl trivial ?_
        refine zF_call (k := 249) (cl := 12) (n := 3) (i := .invokevirtual 332) (args := [(22, 0), (0, v4), (0, v1)]) (rest := []) (g1 := (hc, r1, o)) (r1 := none) (zCk1_w (by decide +kernel)) rfl rfl rfl (st' := []) rfl (S249 (Nat.le_trans (by decide) hd) v4 v1 h _ q3) ?_
        exact T250_2 hd (F250_0 n) hk0 v1 v2 v3 v4 r1 _ e
/-- EchoValeModel.rests(II)I -/
def F250 (v1 : Int) (v2 : Int) (h : zHM) : Option (Int × zHM) := (F242 v1).bind fun r1 => if ¬ r1 = 0 then (F248 (mset h 0 0 0)).bind fun r2 => F250_0 zFu v1 v2 r2 0 (mset h 0 0 0) else some ((-1), (mset h 0 0 0))
set_option maxRecDepth 100000 in
theorem S250 {spec : zRn zH2} {hc : zHC} {o : Int → Int} {d : Nat} (hd : 8 ≤ d) (v1 : Int) (v2 : Int) (h : zHM) (v : (Int × zHM)) (e : F250 v1 v2 h = some v) : zRu2 spec d 250 [(22, 0), (0, v1), (0, v2)] (hc, h, o) (some (0, v.1)) (hc, v.2, o) := by
  refine zF_in (D := 7) (mx := 6) (L := [some (22, 0), some (0, v1), some (0, v2), none, none, none]) (by decide +kernel) rfl rfl hd (fun d hd => ?_)
  unfold F250 at e
  obtain ⟨r1, q1, e⟩ := zB_s e
  refine zF_blk (m := []) (d := 0) (b := B250_0) (gs := []) (c' := (6, [some (22, 0), some (0, v1), some (0, v2), none, none, none], [(0, v1)], (hc, (mset h 0 0 0), o))) K250_0 rfl trivial ?_
  refine zF_call (k := 242) (cl := 12) (n := 1) (i := .invokestatic 323) (args := [(0, v1)]) (rest := []) (g1 := (hc, (mset h 0 0 0), o)) (r1 := some (0, r1)) (zCk1_w (by decide +kernel)) rfl rfl rfl (st' := [(0, r1)]) rfl (S242 (Nat.le_trans (by decide) hd) v1 (mset h 0 0 0) _ q1) ?_
  rcases zI_s e with ⟨q2, e⟩ | ⟨q2, e⟩
  · refine zF_blk (m := []) (d := 1) (b := B250_4) (gs := [¬ r1 = 0]) (c' := (14, [some (22, 0), some (0, v1), some (0, v2), none, none, none], [], (hc, (mset h 0 0 0), o))) K250_4 rfl ⟨q2, trivial⟩ ?_
    obtain ⟨r2, q3, e⟩ := zB_s e
    refine zF_blk (m := []) (d := 0) (b := B250_1) (gs := []) (c' := (15, [some (22, 0), some (0, v1), some (0, v2), none, none, none], [(22, 0)], (hc, (mset h 0 0 0), o))) K250_1 rfl trivial ?_
    refine zF_call (k := 248) (cl := 12) (n := 1) (i := .invokevirtual 329) (args := [(22, 0)]) (rest := []) (g1 := (hc, (mset h 0 0 0), o)) (r1 := some (0, r2)) (zCk1_w (by decide +kernel)) rfl rfl rfl (st' := [(0, r2)]) rfl (S248 (Nat.le_trans (by decide) hd)  (mset h 0 0 0) _ q3) ?_
    refine zF_blk (m := []) (d := 0) (b := B250_2) (gs := []) (c' := (22, [some (22, 0), some (0, v1), some (0, v2), some (0, r2), some (0, 0), none], [], (hc, (mset h 0 0 0), o))) K250_2 rfl trivial ?_
    exact T250_0 hd zFu v1 v2 r2 0 (mset h 0 0 0) _ e
  · refine zF_blk (m := []) (d := 0) (b := B250_4) (gs := [¬ (¬ r1 = 0)]) (c' := (12, [some (22, 0), some (0, v1), some (0, v2), none, none, none], [], (hc, (mset h 0 0 0), o))) K250_4 rfl ⟨q2, trivial⟩ ?_
    refine zF_blk (m := []) (d := 0) (b := B250_3) (gs := []) (c' := (13, [some (22, 0), some (0, v1), some (0, v2), none, none, none], [(0, (-1))], (hc, (mset h 0 0 0), o))) K250_3 rfl trivial ?_
    exact zF_riM (zRe1_w (by decide +kernel)) e
noncomputable def B111_0 : List zRow := [(0, .aload_n 0, 1, (0, 0, 0)), (1, .getfield 60, 3, (11, 7, 135)), (4, .aload_n 0, 1, (0, 0, 0)), (5, .getfield 56, 3, (11, 6, 7))]
theorem K111_0 : zRk 111 B111_0 = true := zRw_ok (by decide +kernel)
noncomputable def B111_1 : List zRow := [(11, .aload_n 0, 1, (0, 0, 0)), (12, .getfield 60, 3, (11, 7, 135)), (15, .getfield 177, 3, (1, 3, 5242906)), (18, .iload_n 1, 1, (0, 0, 0)), (19, .iload_n 2, 1, (0, 0, 0)), (20, .iastore, 1, (0, 0, 0)), (21, .aload_n 0, 1, (0, 0, 0)), (22, .getfield 60, 3, (11, 7, 135)), (25, .aload_n 0, 1, (0, 0, 0)), (26, .getfield 19, 3, (11, 1, 39)), (29, .iload_n 1, 1, (0, 0, 0)), (30, .iconst 1, 1, (0, 0, 0)), (31, .iload_n 3, 1, (0, 0, 0))]
theorem K111_1 : zRk 111 B111_1 = true := zRw_ok (by decide +kernel)
noncomputable def B111_2 : List zRow := [(35, .pop, 1, (0, 0, 0)), (36, .aload_n 0, 1, (0, 0, 0)), (37, .getfield 60, 3, (11, 7, 135)), (40, .aload_n 0, 1, (0, 0, 0)), (41, .getfield 19, 3, (11, 1, 39)), (44, .iload 4, 2, (0, 0, 0))]
theorem K111_2 : zRk 111 B111_2 = true := zRw_ok (by decide +kernel)
noncomputable def B111_3 : List zRow := [(49, .pop, 1, (0, 0, 0))]
theorem K111_3 : zRk 111 B111_3 = true := zRw_ok (by decide +kernel)
/-- EchoVale.passOneSaying(IIII)V -/
def F111 (v1 : Int) (v2 : Int) (v3 : Int) (v4 : Int) (h : zHC) : Option zHC := (F72 1 0 h).bind fun r1 => zG (0 ≤ v1 ∧ v1 < 6) ((F76 1 0 v1 1 v3 (hset r1 67 1 v1 v2)).bind fun r2 => (F88 1 0 v4 r2.2).bind fun r3 => some r3.2)
set_option maxRecDepth 100000 in
theorem S111 {spec : zRn zH2} {hm : zHM} {o : Int → Int} {d : Nat} (hd : 7 ≤ d) (v1 : Int) (v2 : Int) (v3 : Int) (v4 : Int) (h : zHC) (v : zHC) (e : F111 v1 v2 v3 v4 h = some v) : zRu2 spec d 111 [(21, 0), (0, v1), (0, v2), (0, v3), (0, v4)] (h, hm, o) none (v, hm, o) := by
  refine zF_in (D := 6) (mx := 5) (L := [some (21, 0), some (0, v1), some (0, v2), some (0, v3), some (0, v4)]) (by decide +kernel) rfl rfl hd (fun d hd => ?_)
  unfold F111 at e
  obtain ⟨r1, q1, e⟩ := zB_s e
  refine zF_blk (m := []) (d := 0) (b := B111_0) (gs := []) (c' := (8, [some (21, 0), some (0, v1), some (0, v2), some (0, v3), some (0, v4)], [(11, 0), (11, 1)], (h, hm, o))) K111_0 rfl trivial ?_
  refine zF_call (k := 72) (cl := 1) (n := 2) (i := .invokevirtual 276) (args := [(11, 1), (11, 0)]) (rest := []) (g1 := (r1, hm, o)) (r1 := none) (zCk1_w (by decide +kernel)) rfl rfl rfl (st' := []) rfl (S72 (Nat.le_trans (by decide) hd) 1 0 h _ q1) ?_
  obtain ⟨q2, e⟩ := zG_s e
  obtain ⟨r2, q3, e⟩ := zB_s e
  refine zF_blk (m := []) (d := 0) (b := B111_1) (gs := [0 ≤ v1 ∧ v1 < 6]) (c' := (32, [some (21, 0), some (0, v1), some (0, v2), some (0, v3), some (0, v4)], [(0, v3), (0, 1), (0, v1), (19, 0), (11, 1)], ((hset r1 67 1 v1 v2), hm, o))) K111_1 rfl ⟨q2, trivial⟩ ?_
  refine zF_call (k := 76) (cl := 1) (n := 5) (i := .invokevirtual 227) (args := [(11, 1), (19, 0), (0, v1), (0, 1), (0, v3)]) (rest := []) (g1 := (r2.2, hm, o)) (r1 := some (0, r2.1)) (zCk1_w (by decide +kernel)) rfl rfl rfl (st' := [(0, r2.1)]) rfl (S76 (Nat.le_trans (by decide) hd) 1 0 v1 1 v3 (hset r1 67 1 v1 v2) _ q3) ?_
  obtain ⟨r3, q4, e⟩ := zB_s e
  refine zF_blk (m := []) (d := 0) (b := B111_2) (gs := []) (c' := (46, [some (21, 0), some (0, v1), some (0, v2), some (0, v3), some (0, v4)], [(0, v4), (19, 0), (11, 1)], (r2.2, hm, o))) K111_2 rfl trivial ?_
  refine zF_call (k := 88) (cl := 1) (n := 3) (i := .invokevirtual 231) (args := [(11, 1), (19, 0), (0, v4)]) (rest := []) (g1 := (r3.2, hm, o)) (r1 := some (0, r3.1)) (zCk1_w (by decide +kernel)) rfl rfl rfl (st' := [(0, r3.1)]) rfl (S88 (Nat.le_trans (by decide) hd) 1 0 v4 r2.2 _ q4) ?_
  refine zF_blk (m := []) (d := 0) (b := B111_3) (gs := []) (c' := (50, [some (21, 0), some (0, v1), some (0, v2), some (0, v3), some (0, v4)], [], (r3.2, hm, o))) K111_3 rfl trivial ?_
  obtain rfl := Option.some.inj e
  exact zF_rv (zRe1_w (by decide +kernel))
noncomputable def B110_0 : List zRow := [(0, .aload_n 0, 1, (0, 0, 0)), (1, .iload_n 1, 1, (0, 0, 0))]
theorem K110_0 : zRk 110 B110_0 = true := zRw_ok (by decide +kernel)
noncomputable def B110_1 : List zRow := [(52, .iconst (-1), 1, (0, 0, 0))]
theorem K110_1 : zRk 110 B110_1 = true := zRw_ok (by decide +kernel)
noncomputable def B110_2 : List zRow := [(8, .aload_n 0, 1, (0, 0, 0)), (9, .iload_n 2, 1, (0, 0, 0))]
theorem K110_2 : zRk 110 B110_2 = true := zRw_ok (by decide +kernel)
noncomputable def B110_3 : List zRow := [(21, .iload_n 3, 1, (0, 0, 0))]
theorem K110_3 : zRk 110 B110_3 = true := zRw_ok (by decide +kernel)
noncomputable def B110_4 : List zRow := [(28, .iload 4, 2, (0, 0, 0))]
theorem K110_4 : zRk 110 B110_4 = true := zRw_ok (by decide +kernel)
noncomputable def B110_5 : List zRow := [(42, .aload_n 0, 1, (0, 0, 0)), (43, .getfield 56, 3, (11, 6, 7))]
theorem K110_5 : zRk 110 B110_5 = true := zRw_ok (by decide +kernel)
noncomputable def B110_6 : List zRow := [(54, .iconst 0, 1, (0, 0, 0)), (55, .istore 6, 2, (0, 0, 0)), (57, .iconst 0, 1, (0, 0, 0)), (58, .istore 7, 2, (0, 0, 0))]
theorem K110_6 : zRk 110 B110_6 = true := zRw_ok (by decide +kernel)
noncomputable def B110_7 : List zRow := [(49, .ifCond .eq 5, 3, (0, 0, 0))]
theorem K110_7 : zRk 110 B110_7 = true := zRw_ok (by decide +kernel)
noncomputable def B110_8 : List zRow := [(36, .iload 5, 2, (0, 0, 0)), (38, .iconst (-1), 1, (0, 0, 0)), (39, .if_icmp .lt 13, 3, (0, 0, 0))]
theorem K110_8 : zRk 110 B110_8 = true := zRw_ok (by decide +kernel)
noncomputable def B110_9 : List zRow := [(33, .ifCond .eq 19, 3, (0, 0, 0))]
theorem K110_9 : zRk 110 B110_9 = true := zRw_ok (by decide +kernel)
noncomputable def B110_10 : List zRow := [(25, .ifCond .eq 27, 3, (0, 0, 0))]
theorem K110_10 : zRk 110 B110_10 = true := zRw_ok (by decide +kernel)
noncomputable def B110_11 : List zRow := [(16, .iload_n 1, 1, (0, 0, 0)), (17, .iload_n 2, 1, (0, 0, 0)), (18, .if_icmp .eq 34, 3, (0, 0, 0))]
theorem K110_11 : zRk 110 B110_11 = true := zRw_ok (by decide +kernel)
noncomputable def B110_12 : List zRow := [(13, .ifCond .eq 39, 3, (0, 0, 0))]
theorem K110_12 : zRk 110 B110_12 = true := zRw_ok (by decide +kernel)
noncomputable def B110_13 : List zRow := [(5, .ifCond .eq 47, 3, (0, 0, 0))]
theorem K110_13 : zRk 110 B110_13 = true := zRw_ok (by decide +kernel)
noncomputable def B110_14 : List zRow := [(134, .iconst (-1), 1, (0, 0, 0))]
theorem K110_14 : zRk 110 B110_14 = true := zRw_ok (by decide +kernel)
noncomputable def B110_15 : List zRow := [(129, .iload 6, 2, (0, 0, 0)), (131, .goto 4, 3, (0, 0, 0))]
theorem K110_15 : zRk 110 B110_15 = true := zRw_ok (by decide +kernel)
noncomputable def B110_16 : List zRow := [(123, .iload 5, 2, (0, 0, 0)), (125, .iconst (-1), 1, (0, 0, 0)), (126, .if_icmp .ne 8, 3, (0, 0, 0))]
theorem K110_16 : zRk 110 B110_16 = true := zRw_ok (by decide +kernel)
noncomputable def B110_17 : List zRow := [(67, .aload_n 0, 1, (0, 0, 0)), (68, .getfield 19, 3, (11, 1, 39)), (71, .iload 7, 2, (0, 0, 0))]
theorem K110_17 : zRk 110 B110_17 = true := zRw_ok (by decide +kernel)
noncomputable def B110_18 : List zRow := [(79, .aload_n 0, 1, (0, 0, 0)), (80, .iload_n 1, 1, (0, 0, 0)), (81, .iload 7, 2, (0, 0, 0)), (83, .iload_n 3, 1, (0, 0, 0)), (84, .iload 4, 2, (0, 0, 0))]
theorem K110_18 : zRk 110 B110_18 = true := zRw_ok (by decide +kernel)
noncomputable def B110_19 : List zRow := [(89, .aload_n 0, 1, (0, 0, 0)), (90, .getfield 60, 3, (11, 7, 135)), (93, .iconst 0, 1, (0, 0, 0)), (94, .iconst 5, 1, (0, 0, 0))]
theorem K110_19 : zRk 110 B110_19 = true := zRw_ok (by decide +kernel)
noncomputable def B110_20 : List zRow := [(114, .iinc 6 1, 3, (0, 0, 0))]
theorem K110_20 : zRk 110 B110_20 = true := zRw_ok (by decide +kernel)
noncomputable def B110_21 : List zRow := [(111, .iload 7, 2, (0, 0, 0))]
theorem K110_21 : zRk 110 B110_21 = true := zRw_ok (by decide +kernel)
noncomputable def B110_22 : List zRow := [(104, .iload 6, 2, (0, 0, 0)), (106, .iload 5, 2, (0, 0, 0)), (108, .if_icmp .ne 6, 3, (0, 0, 0))]
theorem K110_22 : zRk 110 B110_22 = true := zRw_ok (by decide +kernel)
noncomputable def B110_23 : List zRow := [(98, .iconst 1, 1, (0, 0, 0)), (99, .iload_n 2, 1, (0, 0, 0)), (100, .ishl, 1, (0, 0, 0)), (101, .if_icmp .ne 16, 3, (0, 0, 0))]
theorem K110_23 : zRk 110 B110_23 = true := zRw_ok (by decide +kernel)
noncomputable def B110_24 : List zRow := [(76, .ifCond .eq 41, 3, (0, 0, 0))]
theorem K110_24 : zRk 110 B110_24 = true := zRw_ok (by decide +kernel)
noncomputable def B110_25 : List zRow := [(60, .iload 7, 2, (0, 0, 0)), (62, .bipush 100, 2, (0, 0, 0)), (64, .if_icmp .ge 59, 3, (0, 0, 0))]
theorem K110_25 : zRk 110 B110_25 = true := zRw_ok (by decide +kernel)
noncomputable def B110_26 : List zRow := [(117, .iinc 7 1, 3, (0, 0, 0)), (120, .goto (-60), 3, (0, 0, 0))]
theorem K110_26 : zRk 110 B110_26 = true := zRw_ok (by decide +kernel)
def F110_1 (k0 : Int → Int → Int → Int → Int → Int → Int → zHC → Option (Int × zHC)) (v1 : Int) (v2 : Int) (v3 : Int) (v4 : Int) (v5 : Int) (v6 : Int) (v7 : Int) (h : zHC) : Option (Int × zHC) := k0 v1 v2 v3 v4 v5 v6 (wadd v7 1) h
set_option maxRecDepth 100000 in
theorem T110_1 {spec : zRn zH2} {hm : zHM} {o : Int → Int} {d : Nat} (hd : 7 ≤ d) (k0 : Int → Int → Int → Int → Int → Int → Int → zHC → Option (Int × zHC)) (hk0 : ∀ (v1 : Int) (v2 : Int) (v3 : Int) (v4 : Int) (v5 : Int) (v6 : Int) (v7 : Int) (h : zHC) (v : (Int × zHC)), k0 v1 v2 v3 v4 v5 v6 v7 h = some v → zFin 0 (fun _ => 0) (zRu2 spec d) 110 (some (0, v.1)) (v.2, hm, o) (60, [some (21, 0), some (0, v1), some (0, v2), some (0, v3), some (0, v4), some (0, v5), some (0, v6), some (0, v7)], [], (h, hm, o))) (v1 : Int) (v2 : Int) (v3 : Int) (v4 : Int) (v5 : Int) (v6 : Int) (v7 : Int) (h : zHC) (v : (Int × zHC)) (e : F110_1 k0 v1 v2 v3 v4 v5 v6 v7 h = some v) : zFin 0 (fun _ => 0) (zRu2 spec d) 110 (some (0, v.1)) (v.2, hm, o) (117, [some (21, 0), some (0, v1), some (0, v2), some (0, v3), some (0, v4), some (0, v5), some (0, v6), some (0, v7)], [], (h, hm, o)) := by
  unfold F110_1 at e
  refine zF_blk (m := []) (d := 0) (b := B110_26) (gs := []) (c' := (60, [some (21, 0), some (0, v1), some (0, v2), some (0, v3), some (0, v4), some (0, v5), some (0, v6), some (0, (wadd v7 1))], [], (h, hm, o))) K110_26 rfl trivial ?_
  exact hk0 v1 v2 v3 v4 v5 v6 (wadd v7 1) h _ e
def F110_0 : Nat → Int → Int → Int → Int → Int → Int → Int → zHC → Option (Int × zHC)
  | 0, _, _, _, _, _, _, _, _ => none
  | n + 1, v1, v2, v3, v4, v5, v6, v7, h => if 100 ≤ v7 then if ¬ v5 = (-1) then some ((-1), h) else some (v6, h) else (F69 0 v7 h).bind fun r1 => if r1 = 0 then F110_1 (F110_0 n) v1 v2 v3 v4 v5 v6 v7 h else (F111 v1 v7 v3 v4 h).bind fun r2 => (F63 1 0 5 r2).bind fun r3 => if ¬ r3 = (wshl 1 v2) then F110_1 (F110_0 n) v1 v2 v3 v4 v5 v6 v7 r2 else if ¬ v6 = v5 then F110_1 (F110_0 n) v1 v2 v3 v4 v5 (wadd v6 1) v7 r2 else some (v7, r2)
set_option maxRecDepth 100000 in
theorem T110_0 {spec : zRn zH2} {hm : zHM} {o : Int → Int} {d : Nat} (hd : 7 ≤ d) : ∀ (n : Nat) (v1 : Int) (v2 : Int) (v3 : Int) (v4 : Int) (v5 : Int) (v6 : Int) (v7 : Int) (h : zHC) (v : (Int × zHC)), F110_0 n v1 v2 v3 v4 v5 v6 v7 h = some v → zFin 0 (fun _ => 0) (zRu2 spec d) 110 (some (0, v.1)) (v.2, hm, o) (60, [some (21, 0), some (0, v1), some (0, v2), some (0, v3), some (0, v4), some (0, v5), some (0, v6), some (0, v7)], [], (h, hm, o)) := by
  intro n
  induction n with
  | zero => intro v1 v2 v3 v4 v5 v6 v7 h v e; unfold F110_0 at e; cases e
  | succ n hk0 =>
    intro v1 v2 v3 v4 v5 v6 v7 h v e
    unfold F110_0 at e
    rcases zI_s e with ⟨q1, e⟩ | ⟨q1, e⟩
    · refine zF_blk (m := []) (d := 1) (b := B110_25) (gs := [100 ≤ v7]) (c' := (123, [some (21, 0), some (0, v1), some (0, v2), some (0, v3), some (0, v4), some (0, v5), some (0, v6), some (0, v7)], [], (h, hm, o))) K110_25 rfl ⟨q1, trivial⟩ ?_
      rcases zI_s e with ⟨q2, e⟩ | ⟨q2, e⟩
      · refine zF_blk (m := []) (d := 1) (b := B110_16) (gs := [¬ v5 = (-1)]) (c' := (134, [some (21, 0), some (0, v1), some (0, v2), some (0, v3), some (0, v4), some (0, v5), some (0, v6), some (0, v7)], [], (h, hm, o))) K110_16 rfl ⟨q2, trivial⟩ ?_
        refine zF_blk (m := []) (d := 0) (b := B110_14) (gs := []) (c' := (135, [some (21, 0), some (0, v1), some (0, v2), some (0, v3), some (0, v4), some (0, v5), some (0, v6), some (0, v7)], [(0, (-1))], (h, hm, o))) K110_14 rfl trivial ?_
        exact zF_riC (zRe1_w (by decide +kernel)) e
      · refine zF_blk (m := []) (d := 0) (b := B110_16) (gs := [¬ (¬ v5 = (-1))]) (c' := (129, [some (21, 0), some (0, v1), some (0, v2), some (0, v3), some (0, v4), some (0, v5), some (0, v6), some (0, v7)], [], (h, hm, o))) K110_16 rfl ⟨q2, trivial⟩ ?_
        refine zF_blk (m := []) (d := 0) (b := B110_15) (gs := []) (c' := (135, [some (21, 0), some (0, v1), some (0, v2), some (0, v3), some (0, v4), some (0, v5), some (0, v6), some (0, v7)], [(0, v6)], (h, hm, o))) K110_15 rfl trivial ?_
        exact zF_riC (zRe1_w (by decide +kernel)) e
    · refine zF_blk (m := []) (d := 0) (b := B110_25) (gs := [¬ (100 ≤ v7)]) (c' := (67, [some (21, 0), some (0, v1), some (0, v2), some (0, v3), some (0, v4), some (0, v5), some (0, v6), some (0, v7)], [], (h, hm, o))) K110_25 rfl ⟨q1, trivial⟩ ?_
      obtain ⟨r1, q3, e⟩ := zB_s e
      refine zF_blk (m := []) (d := 0) (b := B110_17) (gs := []) (c' := (73, [some (21, 0), some (0, v1), some (0, v2), some (0, v3), some (0, v4), some (0, v5), some (0, v6), some (0, v7)], [(0, v7), (19, 0)], (h, hm, o))) K110_17 rfl trivial ?_
      refine zF_call (k := 69) (cl := 9) (n := 2) (i := .invokevirtual 214) (args := [(19, 0), (0, v7)]) (rest := []) (g1 := (h, hm, o)) (r1 := some (0, r1)) (zCk1_w (by decide +kernel)) rfl rfl rfl (st' := [(0, r1)]) rfl (S69 (Nat.le_trans (by decide) hd) 0 v7 h _ q3) ?_
      rcases zI_s e with ⟨q4, e⟩ | ⟨q4, e⟩
      · refine zF_blk (m := []) (d := 1) (b := B110_24) (gs := [r1 = 0]) (c' := (117, [some (21, 0), some (0, v1), some (0, v2), some (0, v3), some (0, v4), some (0, v5), some (0, v6), some (0, v7)], [], (h, hm, o))) K110_24 rfl ⟨q4, trivial⟩ ?_
        exact T110_1 hd (F110_0 n) hk0 v1 v2 v3 v4 v5 v6 v7 h _ e
      · refine zF_blk (m := []) (d := 0) (b := B110_24) (gs := [¬ (r1 = 0)]) (c' := (79, [some (21, 0), some (0, v1), some (0, v2), some (0, v3), some (0, v4), some (0, v5), some (0, v6), some (0, v7)], [], (h, hm, o))) K110_24 rfl ⟨q4, trivial⟩ ?_
        obtain ⟨r2, q5, e⟩ := zB_s e
        refine zF_blk (m := []) (d := 0) (b := B110_18) (gs := []) (c' := (86, [some (21, 0), some (0, v1), some (0, v2), some (0, v3), some (0, v4), some (0, v5), some (0, v6), some (0, v7)], [(0, v4), (0, v3), (0, v7), (0, v1), (21, 0)], (h, hm, o))) K110_18 rfl trivial ?_
        refine zF_call (k := 111) (cl := 11) (n := 5) (i := .invokevirtual 262) (args := [(21, 0), (0, v1), (0, v7), (0, v3), (0, v4)]) (rest := []) (g1 := (r2, hm, o)) (r1 := none) (zCk1_w (by decide +kernel)) rfl rfl rfl (st' := []) rfl (S111 (Nat.le_trans (by decide) hd) v1 v7 v3 v4 h _ q5) ?_
        obtain ⟨r3, q6, e⟩ := zB_s e
        refine zF_blk (m := []) (d := 0) (b := B110_19) (gs := []) (c' := (95, [some (21, 0), some (0, v1), some (0, v2), some (0, v3), some (0, v4), some (0, v5), some (0, v6), some (0, v7)], [(0, 5), (0, 0), (11, 1)], (r2, hm, o))) K110_19 rfl trivial ?_
        refine zF_call (k := 63) (cl := 1) (n := 3) (i := .invokevirtual 196) (args := [(11, 1), (0, 0), (0, 5)]) (rest := []) (g1 := (r2, hm, o)) (r1 := some (0, r3)) (zCk1_w (by decide +kernel)) rfl rfl rfl (st' := [(0, r3)]) rfl (S63 (Nat.le_trans (by decide) hd) 1 0 5 r2 _ q6) ?_
        rcases zI_s e with ⟨q7, e⟩ | ⟨q7, e⟩
        · refine zF_blk (m := []) (d := 1) (b := B110_23) (gs := [¬ r3 = (wshl 1 v2)]) (c' := (117, [some (21, 0), some (0, v1), some (0, v2), some (0, v3), some (0, v4), some (0, v5), some (0, v6), some (0, v7)], [], (r2, hm, o))) K110_23 rfl ⟨q7, trivial⟩ ?_
          exact T110_1 hd (F110_0 n) hk0 v1 v2 v3 v4 v5 v6 v7 r2 _ e
        · refine zF_blk (m := []) (d := 0) (b := B110_23) (gs := [¬ (¬ r3 = (wshl 1 v2))]) (c' := (104, [some (21, 0), some (0, v1), some (0, v2), some (0, v3), some (0, v4), some (0, v5), some (0, v6), some (0, v7)], [], (r2, hm, o))) K110_23 rfl ⟨q7, trivial⟩ ?_
          rcases zI_s e with ⟨q8, e⟩ | ⟨q8, e⟩
          · refine zF_blk (m := []) (d := 1) (b := B110_22) (gs := [¬ v6 = v5]) (c' := (114, [some (21, 0), some (0, v1), some (0, v2), some (0, v3), some (0, v4), some (0, v5), some (0, v6), some (0, v7)], [], (r2, hm, o))) K110_22 rfl ⟨q8, trivial⟩ ?_
            refine zF_blk (m := []) (d := 0) (b := B110_20) (gs := []) (c' := (117, [some (21, 0), some (0, v1), some (0, v2), some (0, v3), some (0, v4), some (0, v5), some (0, (wadd v6 1)), some (0, v7)], [], (r2, hm, o))) K110_20 rfl trivial ?_
            exact T110_1 hd (F110_0 n) hk0 v1 v2 v3 v4 v5 (wadd v6 1) v7 r2 _ e
          · refine zF_blk (m := []) (d := 0) (b := B110_22) (gs := [¬ (¬ v6 = v5)]) (c' := (111, [some (21, 0), some (0, v1), some (0, v2), some (0, v3), some (0, v4), some (0, v5), some (0, v6), some (0, v7)], [], (r2, hm, o))) K110_22 rfl ⟨q8, trivial⟩ ?_
            refine zF_blk (m := []) (d := 0) (b := B110_21) (gs := []) (c' := (113, [some (21, 0), some (0, v1), some (0, v2), some (0, v3), some (0, v4), some (0, v5), some (0, v6), some (0, v7)], [(0, v7)], (r2, hm, o))) K110_21 rfl trivial ?_
            exact zF_riC (zRe1_w (by decide +kernel)) e
/-- EchoVale.tells(IIIII)I -/
def F110 (v1 : Int) (v2 : Int) (v3 : Int) (v4 : Int) (v5 : Int) (h : zHC) : Option (Int × zHC) := (F61 v1 h).bind fun r1 => if r1 = 0 then some ((-1), h) else (F61 v2 h).bind fun r2 => if r2 = 0 then some ((-1), h) else if v1 = v2 then some ((-1), h) else (F74 v3).bind fun r3 => if r3 = 0 then some ((-1), h) else (F99 v4).bind fun r4 => if r4 = 0 then some ((-1), h) else if v5 < (-1) then some ((-1), h) else (F75 0 h).bind fun r5 => if r5 = 0 then F110_0 zFu v1 v2 v3 v4 v5 0 0 h else some ((-1), h)
set_option maxRecDepth 100000 in
theorem S110 {spec : zRn zH2} {hm : zHM} {o : Int → Int} {d : Nat} (hd : 8 ≤ d) (v1 : Int) (v2 : Int) (v3 : Int) (v4 : Int) (v5 : Int) (h : zHC) (v : (Int × zHC)) (e : F110 v1 v2 v3 v4 v5 h = some v) : zRu2 spec d 110 [(21, 0), (0, v1), (0, v2), (0, v3), (0, v4), (0, v5)] (h, hm, o) (some (0, v.1)) (v.2, hm, o) := by
  refine zF_in (D := 7) (mx := 8) (L := [some (21, 0), some (0, v1), some (0, v2), some (0, v3), some (0, v4), some (0, v5), none, none]) (by decide +kernel) rfl rfl hd (fun d hd => ?_)
  unfold F110 at e
  obtain ⟨r1, q1, e⟩ := zB_s e
  refine zF_blk (m := []) (d := 0) (b := B110_0) (gs := []) (c' := (2, [some (21, 0), some (0, v1), some (0, v2), some (0, v3), some (0, v4), some (0, v5), none, none], [(0, v1), (21, 0)], (h, hm, o))) K110_0 rfl trivial ?_
  refine zF_call (k := 61) (cl := 11) (n := 2) (i := .invokevirtual 172) (args := [(21, 0), (0, v1)]) (rest := []) (g1 := (h, hm, o)) (r1 := some (0, r1)) (zCk1_w (by decide +kernel)) rfl rfl rfl (st' := [(0, r1)]) rfl (S61 (Nat.le_trans (by decide) hd) v1 h _ q1) ?_
  rcases zI_s e with ⟨q2, e⟩ | ⟨q2, e⟩
  · refine zF_blk (m := []) (d := 1) (b := B110_13) (gs := [r1 = 0]) (c' := (52, [some (21, 0), some (0, v1), some (0, v2), some (0, v3), some (0, v4), some (0, v5), none, none], [], (h, hm, o))) K110_13 rfl ⟨q2, trivial⟩ ?_
    refine zF_blk (m := []) (d := 0) (b := B110_1) (gs := []) (c' := (53, [some (21, 0), some (0, v1), some (0, v2), some (0, v3), some (0, v4), some (0, v5), none, none], [(0, (-1))], (h, hm, o))) K110_1 rfl trivial ?_
    exact zF_riC (zRe1_w (by decide +kernel)) e
  · refine zF_blk (m := []) (d := 0) (b := B110_13) (gs := [¬ (r1 = 0)]) (c' := (8, [some (21, 0), some (0, v1), some (0, v2), some (0, v3), some (0, v4), some (0, v5), none, none], [], (h, hm, o))) K110_13 rfl ⟨q2, trivial⟩ ?_
    obtain ⟨r2, q3, e⟩ := zB_s e
    refine zF_blk (m := []) (d := 0) (b := B110_2) (gs := []) (c' := (10, [some (21, 0), some (0, v1), some (0, v2), some (0, v3), some (0, v4), some (0, v5), none, none], [(0, v2), (21, 0)], (h, hm, o))) K110_2 rfl trivial ?_
    refine zF_call (k := 61) (cl := 11) (n := 2) (i := .invokevirtual 172) (args := [(21, 0), (0, v2)]) (rest := []) (g1 := (h, hm, o)) (r1 := some (0, r2)) (zCk1_w (by decide +kernel)) rfl rfl rfl (st' := [(0, r2)]) rfl (S61 (Nat.le_trans (by decide) hd) v2 h _ q3) ?_
    rcases zI_s e with ⟨q4, e⟩ | ⟨q4, e⟩
    · refine zF_blk (m := []) (d := 1) (b := B110_12) (gs := [r2 = 0]) (c' := (52, [some (21, 0), some (0, v1), some (0, v2), some (0, v3), some (0, v4), some (0, v5), none, none], [], (h, hm, o))) K110_12 rfl ⟨q4, trivial⟩ ?_
      refine zF_blk (m := []) (d := 0) (b := B110_1) (gs := []) (c' := (53, [some (21, 0), some (0, v1), some (0, v2), some (0, v3), some (0, v4), some (0, v5), none, none], [(0, (-1))], (h, hm, o))) K110_1 rfl trivial ?_
      exact zF_riC (zRe1_w (by decide +kernel)) e
    · refine zF_blk (m := []) (d := 0) (b := B110_12) (gs := [¬ (r2 = 0)]) (c' := (16, [some (21, 0), some (0, v1), some (0, v2), some (0, v3), some (0, v4), some (0, v5), none, none], [], (h, hm, o))) K110_12 rfl ⟨q4, trivial⟩ ?_
      rcases zI_s e with ⟨q5, e⟩ | ⟨q5, e⟩
      · refine zF_blk (m := []) (d := 1) (b := B110_11) (gs := [v1 = v2]) (c' := (52, [some (21, 0), some (0, v1), some (0, v2), some (0, v3), some (0, v4), some (0, v5), none, none], [], (h, hm, o))) K110_11 rfl ⟨q5, trivial⟩ ?_
        refine zF_blk (m := []) (d := 0) (b := B110_1) (gs := []) (c' := (53, [some (21, 0), some (0, v1), some (0, v2), some (0, v3), some (0, v4), some (0, v5), none, none], [(0, (-1))], (h, hm, o))) K110_1 rfl trivial ?_
        exact zF_riC (zRe1_w (by decide +kernel)) e
      · refine zF_blk (m := []) (d := 0) (b := B110_11) (gs := [¬ (v1 = v2)]) (c' := (21, [some (21, 0), some (0, v1), some (0, v2), some (0, v3), some (0, v4), some (0, v5), none, none], [], (h, hm, o))) K110_11 rfl ⟨q5, trivial⟩ ?_
        obtain ⟨r3, q6, e⟩ := zB_s e
        refine zF_blk (m := []) (d := 0) (b := B110_3) (gs := []) (c' := (22, [some (21, 0), some (0, v1), some (0, v2), some (0, v3), some (0, v4), some (0, v5), none, none], [(0, v3)], (h, hm, o))) K110_3 rfl trivial ?_
        refine zF_call (k := 74) (cl := 11) (n := 1) (i := .invokestatic 221) (args := [(0, v3)]) (rest := []) (g1 := (h, hm, o)) (r1 := some (0, r3)) (zCk1_w (by decide +kernel)) rfl rfl rfl (st' := [(0, r3)]) rfl (S74 (Nat.le_trans (by decide) hd) v3 h _ q6) ?_
        rcases zI_s e with ⟨q7, e⟩ | ⟨q7, e⟩
        · refine zF_blk (m := []) (d := 1) (b := B110_10) (gs := [r3 = 0]) (c' := (52, [some (21, 0), some (0, v1), some (0, v2), some (0, v3), some (0, v4), some (0, v5), none, none], [], (h, hm, o))) K110_10 rfl ⟨q7, trivial⟩ ?_
          refine zF_blk (m := []) (d := 0) (b := B110_1) (gs := []) (c' := (53, [some (21, 0), some (0, v1), some (0, v2), some (0, v3), some (0, v4), some (0, v5), none, none], [(0, (-1))], (h, hm, o))) K110_1 rfl trivial ?_
          exact zF_riC (zRe1_w (by decide +kernel)) e
        · refine zF_blk (m := []) (d := 0) (b := B110_10) (gs := [¬ (r3 = 0)]) (c' := (28, [some (21, 0), some (0, v1), some (0, v2), some (0, v3), some (0, v4), some (0, v5), none, none], [], (h, hm, o))) K110_10 rfl ⟨q7, trivial⟩ ?_
          obtain ⟨r4, q8, e⟩ := zB_s e
          refine zF_blk (m := []) (d := 0) (b := B110_4) (gs := []) (c' := (30, [some (21, 0), some (0, v1), some (0, v2), some (0, v3), some (0, v4), some (0, v5), none, none], [(0, v4)], (h, hm, o))) K110_4 rfl trivial ?_
          refine zF_call (k := 99) (cl := 11) (n := 1) (i := .invokestatic 242) (args := [(0, v4)]) (rest := []) (g1 := (h, hm, o)) (r1 := some (0, r4)) (zCk1_w (by decide +kernel)) rfl rfl rfl (st' := [(0, r4)]) rfl (S99 (Nat.le_trans (by decide) hd) v4 h _ q8) ?_
          rcases zI_s e with ⟨q9, e⟩ | ⟨q9, e⟩
          · refine zF_blk (m := []) (d := 1) (b := B110_9) (gs := [r4 = 0]) (c' := (52, [some (21, 0), some (0, v1), some (0, v2), some (0, v3), some (0, v4), some (0, v5), none, none], [], (h, hm, o))) K110_9 rfl ⟨q9, trivial⟩ ?_
            refine zF_blk (m := []) (d := 0) (b := B110_1) (gs := []) (c' := (53, [some (21, 0), some (0, v1), some (0, v2), some (0, v3), some (0, v4), some (0, v5), none, none], [(0, (-1))], (h, hm, o))) K110_1 rfl trivial ?_
            exact zF_riC (zRe1_w (by decide +kernel)) e
          · refine zF_blk (m := []) (d := 0) (b := B110_9) (gs := [¬ (r4 = 0)]) (c' := (36, [some (21, 0), some (0, v1), some (0, v2), some (0, v3), some (0, v4), some (0, v5), none, none], [], (h, hm, o))) K110_9 rfl ⟨q9, trivial⟩ ?_
            rcases zI_s e with ⟨q10, e⟩ | ⟨q10, e⟩
            · refine zF_blk (m := []) (d := 1) (b := B110_8) (gs := [v5 < (-1)]) (c' := (52, [some (21, 0), some (0, v1), some (0, v2), some (0, v3), some (0, v4), some (0, v5), none, none], [], (h, hm, o))) K110_8 rfl ⟨q10, trivial⟩ ?_
              refine zF_blk (m := []) (d := 0) (b := B110_1) (gs := []) (c' := (53, [some (21, 0), some (0, v1), some (0, v2), some (0, v3), some (0, v4), some (0, v5), none, none], [(0, (-1))], (h, hm, o))) K110_1 rfl trivial ?_
              exact zF_riC (zRe1_w (by decide +kernel)) e
            · refine zF_blk (m := []) (d := 0) (b := B110_8) (gs := [¬ (v5 < (-1))]) (c' := (42, [some (21, 0), some (0, v1), some (0, v2), some (0, v3), some (0, v4), some (0, v5), none, none], [], (h, hm, o))) K110_8 rfl ⟨q10, trivial⟩ ?_
              obtain ⟨r5, q11, e⟩ := zB_s e
              refine zF_blk (m := []) (d := 0) (b := B110_5) (gs := []) (c' := (46, [some (21, 0), some (0, v1), some (0, v2), some (0, v3), some (0, v4), some (0, v5), none, none], [(11, 0)], (h, hm, o))) K110_5 rfl trivial ?_
              refine zF_call (k := 75) (cl := 1) (n := 1) (i := .invokevirtual 224) (args := [(11, 0)]) (rest := []) (g1 := (h, hm, o)) (r1 := some (0, r5)) (zCk1_w (by decide +kernel)) rfl rfl rfl (st' := [(0, r5)]) rfl (S75 (Nat.le_trans (by decide) hd) 0 h _ q11) ?_
              rcases zI_s e with ⟨q12, e⟩ | ⟨q12, e⟩
              · refine zF_blk (m := []) (d := 1) (b := B110_7) (gs := [r5 = 0]) (c' := (54, [some (21, 0), some (0, v1), some (0, v2), some (0, v3), some (0, v4), some (0, v5), none, none], [], (h, hm, o))) K110_7 rfl ⟨q12, trivial⟩ ?_
                refine zF_blk (m := []) (d := 0) (b := B110_6) (gs := []) (c' := (60, [some (21, 0), some (0, v1), some (0, v2), some (0, v3), some (0, v4), some (0, v5), some (0, 0), some (0, 0)], [], (h, hm, o))) K110_6 rfl trivial ?_
                exact T110_0 hd zFu v1 v2 v3 v4 v5 0 0 h _ e
              · refine zF_blk (m := []) (d := 0) (b := B110_7) (gs := [¬ (r5 = 0)]) (c' := (52, [some (21, 0), some (0, v1), some (0, v2), some (0, v3), some (0, v4), some (0, v5), none, none], [], (h, hm, o))) K110_7 rfl ⟨q12, trivial⟩ ?_
                refine zF_blk (m := []) (d := 0) (b := B110_1) (gs := []) (c' := (53, [some (21, 0), some (0, v1), some (0, v2), some (0, v3), some (0, v4), some (0, v5), none, none], [(0, (-1))], (h, hm, o))) K110_1 rfl trivial ?_
                exact zF_riC (zRe1_w (by decide +kernel)) e
noncomputable def B252_0 : List zRow := [(0, .aload_n 0, 1, (0, 0, 0)), (1, .iconst 0, 1, (0, 0, 0)), (2, .putfield 81, 3, (12, 0, 0)), (5, .aload_n 0, 1, (0, 0, 0)), (6, .iload_n 1, 1, (0, 0, 0))]
theorem K252_0 : zRk 252 B252_0 = true := zRw_ok (by decide +kernel)
noncomputable def B252_1 : List zRow := [(57, .iconst (-1), 1, (0, 0, 0))]
theorem K252_1 : zRk 252 B252_1 = true := zRw_ok (by decide +kernel)
noncomputable def B252_2 : List zRow := [(13, .aload_n 0, 1, (0, 0, 0)), (14, .iload_n 2, 1, (0, 0, 0))]
theorem K252_2 : zRk 252 B252_2 = true := zRw_ok (by decide +kernel)
noncomputable def B252_3 : List zRow := [(26, .iload_n 3, 1, (0, 0, 0)), (27, .iconst 1, 1, (0, 0, 0)), (28, .bipush 9, 2, (0, 0, 0))]
theorem K252_3 : zRk 252 B252_3 = true := zRw_ok (by decide +kernel)
noncomputable def B252_4 : List zRow := [(36, .iload 4, 2, (0, 0, 0))]
theorem K252_4 : zRk 252 B252_4 = true := zRw_ok (by decide +kernel)
noncomputable def B252_5 : List zRow := [(59, .iconst 0, 1, (0, 0, 0)), (60, .istore 6, 2, (0, 0, 0)), (62, .iconst 0, 1, (0, 0, 0)), (63, .istore 7, 2, (0, 0, 0))]
theorem K252_5 : zRk 252 B252_5 = true := zRw_ok (by decide +kernel)
noncomputable def B252_6 : List zRow := [(44, .aload_n 0, 1, (0, 0, 0)), (45, .getfield 13, 3, (12, 14, 5251442)), (48, .sipush 216, 3, (0, 0, 0)), (51, .iaload, 1, (0, 0, 0)), (52, .bipush 30, 2, (0, 0, 0)), (54, .if_icmp .ne 5, 3, (0, 0, 0))]
theorem K252_6 : zRk 252 B252_6 = true := zRw_ok (by decide +kernel)
noncomputable def B252_7 : List zRow := [(41, .ifCond .eq 16, 3, (0, 0, 0))]
theorem K252_7 : zRk 252 B252_7 = true := zRw_ok (by decide +kernel)
noncomputable def B252_8 : List zRow := [(33, .ifCond .eq 24, 3, (0, 0, 0))]
theorem K252_8 : zRk 252 B252_8 = true := zRw_ok (by decide +kernel)
noncomputable def B252_9 : List zRow := [(21, .iload_n 1, 1, (0, 0, 0)), (22, .iload_n 2, 1, (0, 0, 0)), (23, .if_icmp .eq 34, 3, (0, 0, 0))]
theorem K252_9 : zRk 252 B252_9 = true := zRw_ok (by decide +kernel)
noncomputable def B252_10 : List zRow := [(18, .ifCond .eq 39, 3, (0, 0, 0))]
theorem K252_10 : zRk 252 B252_10 = true := zRw_ok (by decide +kernel)
noncomputable def B252_11 : List zRow := [(10, .ifCond .eq 47, 3, (0, 0, 0))]
theorem K252_11 : zRk 252 B252_11 = true := zRw_ok (by decide +kernel)
noncomputable def B252_12 : List zRow := [(178, .iconst (-1), 1, (0, 0, 0))]
theorem K252_12 : zRk 252 B252_12 = true := zRw_ok (by decide +kernel)
noncomputable def B252_13 : List zRow := [(173, .iload 6, 2, (0, 0, 0)), (175, .goto 4, 3, (0, 0, 0))]
theorem K252_13 : zRk 252 B252_13 = true := zRw_ok (by decide +kernel)
noncomputable def B252_14 : List zRow := [(167, .iload 5, 2, (0, 0, 0)), (169, .iconst (-1), 1, (0, 0, 0)), (170, .if_icmp .ne 8, 3, (0, 0, 0))]
theorem K252_14 : zRk 252 B252_14 = true := zRw_ok (by decide +kernel)
noncomputable def B252_15 : List zRow := [(72, .aload_n 0, 1, (0, 0, 0)), (73, .iload 7, 2, (0, 0, 0))]
theorem K252_15 : zRk 252 B252_15 = true := zRw_ok (by decide +kernel)
noncomputable def B252_16 : List zRow := [(84, .aload_n 0, 1, (0, 0, 0))]
theorem K252_16 : zRk 252 B252_16 = true := zRw_ok (by decide +kernel)
noncomputable def B252_17 : List zRow := [(88, .aload_n 0, 1, (0, 0, 0)), (89, .getfield 13, 3, (12, 14, 5251442)), (92, .sipush 210, 3, (0, 0, 0)), (95, .iload_n 1, 1, (0, 0, 0))]
theorem K252_17 : zRk 252 B252_17 = true := zRw_ok (by decide +kernel)
noncomputable def B252_18 : List zRow := [(96, .iadd, 1, (0, 0, 0)), (97, .iload 7, 2, (0, 0, 0)), (99, .iastore, 1, (0, 0, 0)), (100, .aload_n 0, 1, (0, 0, 0)), (101, .iload_n 1, 1, (0, 0, 0)), (102, .iconst 1, 1, (0, 0, 0)), (103, .iload_n 3, 1, (0, 0, 0))]
theorem K252_18 : zRk 252 B252_18 = true := zRw_ok (by decide +kernel)
noncomputable def B252_19 : List zRow := [(107, .istore 8, 2, (0, 0, 0)), (109, .aload_n 0, 1, (0, 0, 0)), (110, .iload 4, 2, (0, 0, 0))]
theorem K252_19 : zRk 252 B252_19 = true := zRw_ok (by decide +kernel)
noncomputable def B252_20 : List zRow := [(115, .pop, 1, (0, 0, 0)), (116, .aload_n 0, 1, (0, 0, 0)), (117, .iload 8, 2, (0, 0, 0)), (119, .iconst 5, 1, (0, 0, 0))]
theorem K252_20 : zRk 252 B252_20 = true := zRw_ok (by decide +kernel)
noncomputable def B252_21 : List zRow := [(133, .iconst 0, 1, (0, 0, 0))]
theorem K252_21 : zRk 252 B252_21 = true := zRw_ok (by decide +kernel)
noncomputable def B252_22 : List zRow := [(129, .iconst 1, 1, (0, 0, 0)), (130, .goto 4, 3, (0, 0, 0))]
theorem K252_22 : zRk 252 B252_22 = true := zRw_ok (by decide +kernel)
noncomputable def B252_23 : List zRow := [(123, .iconst 1, 1, (0, 0, 0)), (124, .iload_n 2, 1, (0, 0, 0)), (125, .ishl, 1, (0, 0, 0)), (126, .if_icmp .ne 7, 3, (0, 0, 0))]
theorem K252_23 : zRk 252 B252_23 = true := zRw_ok (by decide +kernel)
noncomputable def B252_24 : List zRow := [(81, .goto 80, 3, (0, 0, 0))]
theorem K252_24 : zRk 252 B252_24 = true := zRw_ok (by decide +kernel)
noncomputable def B252_25 : List zRow := [(78, .ifCond .ne 6, 3, (0, 0, 0))]
theorem K252_25 : zRk 252 B252_25 = true := zRw_ok (by decide +kernel)
noncomputable def B252_26 : List zRow := [(65, .iload 7, 2, (0, 0, 0)), (67, .bipush 100, 2, (0, 0, 0)), (69, .if_icmp .ge 98, 3, (0, 0, 0))]
theorem K252_26 : zRk 252 B252_26 = true := zRw_ok (by decide +kernel)
noncomputable def B252_27 : List zRow := [(161, .iinc 7 1, 3, (0, 0, 0)), (164, .goto (-99), 3, (0, 0, 0))]
theorem K252_27 : zRk 252 B252_27 = true := zRw_ok (by decide +kernel)
noncomputable def B252_28 : List zRow := [(134, .istore 9, 2, (0, 0, 0)), (136, .aload_n 0, 1, (0, 0, 0))]
theorem K252_28 : zRk 252 B252_28 = true := zRw_ok (by decide +kernel)
noncomputable def B252_29 : List zRow := [(158, .iinc 6 1, 3, (0, 0, 0))]
theorem K252_29 : zRk 252 B252_29 = true := zRw_ok (by decide +kernel)
noncomputable def B252_30 : List zRow := [(155, .iload 7, 2, (0, 0, 0))]
theorem K252_30 : zRk 252 B252_30 = true := zRw_ok (by decide +kernel)
noncomputable def B252_31 : List zRow := [(148, .iload 6, 2, (0, 0, 0)), (150, .iload 5, 2, (0, 0, 0)), (152, .if_icmp .ne 6, 3, (0, 0, 0))]
theorem K252_31 : zRk 252 B252_31 = true := zRw_ok (by decide +kernel)
noncomputable def B252_32 : List zRow := [(145, .goto 16, 3, (0, 0, 0))]
theorem K252_32 : zRk 252 B252_32 = true := zRw_ok (by decide +kernel)
noncomputable def B252_33 : List zRow := [(140, .iload 9, 2, (0, 0, 0)), (142, .ifCond .ne 6, 3, (0, 0, 0))]
theorem K252_33 : zRk 252 B252_33 = true := zRw_ok (by decide +kernel)
def F252_2 (k0 : Int → Int → Int → Int → Int → Int → Int → zHM → Option (Int × zHM)) (v1 : Int) (v2 : Int) (v3 : Int) (v4 : Int) (v5 : Int) (v6 : Int) (v7 : Int) (h : zHM) : Option (Int × zHM) := k0 v1 v2 v3 v4 v5 v6 (wadd v7 1) h
set_option maxRecDepth 100000 in
theorem T252_2 {spec : zRn zH2} {hc : zHC} {o : Int → Int} {d : Nat} (hd : 6 ≤ d) (k0 : Int → Int → Int → Int → Int → Int → Int → zHM → Option (Int × zHM)) (hk0 : ∀ (v1 : Int) (v2 : Int) (v3 : Int) (v4 : Int) (v5 : Int) (v6 : Int) (v7 : Int) (h : zHM) (v : (Int × zHM)), k0 v1 v2 v3 v4 v5 v6 v7 h = some v → zFin 0 (fun _ => 0) (zRu2 spec d) 252 (some (0, v.1)) (hc, v.2, o) (65, [some (22, 0), some (0, v1), some (0, v2), some (0, v3), some (0, v4), some (0, v5), some (0, v6), some (0, v7), none, none], [], (hc, h, o))) (v1 : Int) (v2 : Int) (v3 : Int) (v4 : Int) (v5 : Int) (v6 : Int) (v7 : Int) (h : zHM) (v : (Int × zHM)) (e : F252_2 k0 v1 v2 v3 v4 v5 v6 v7 h = some v) : zFin 0 (fun _ => 0) (zRu2 spec d) 252 (some (0, v.1)) (hc, v.2, o) (161, [some (22, 0), some (0, v1), some (0, v2), some (0, v3), some (0, v4), some (0, v5), some (0, v6), some (0, v7), none, none], [], (hc, h, o)) := by
  unfold F252_2 at e
  refine zF_blk (m := []) (d := 0) (b := B252_27) (gs := []) (c' := (65, [some (22, 0), some (0, v1), some (0, v2), some (0, v3), some (0, v4), some (0, v5), some (0, v6), some (0, (wadd v7 1)), none, none], [], (hc, h, o))) K252_27 rfl trivial ?_
  exact hk0 v1 v2 v3 v4 v5 v6 (wadd v7 1) h _ e
def F252_1 (k0 : Int → Int → Int → Int → Int → Int → Int → zHM → Option (Int × zHM)) (v1 : Int) (v2 : Int) (v3 : Int) (v4 : Int) (v5 : Int) (v6 : Int) (v7 : Int) (s0 : Int) (h : zHM) : Option (Int × zHM) := (F245 h).bind fun r1 => if ¬ s0 = 0 then if ¬ v6 = v5 then F252_2 k0 v1 v2 v3 v4 v5 (wadd v6 1) v7 r1 else some (v7, r1) else F252_2 k0 v1 v2 v3 v4 v5 v6 v7 r1
set_option maxRecDepth 100000 in
theorem T252_1 {spec : zRn zH2} {hc : zHC} {o : Int → Int} {d : Nat} (hd : 6 ≤ d) (k0 : Int → Int → Int → Int → Int → Int → Int → zHM → Option (Int × zHM)) (hk0 : ∀ (v1 : Int) (v2 : Int) (v3 : Int) (v4 : Int) (v5 : Int) (v6 : Int) (v7 : Int) (h : zHM) (v : (Int × zHM)), k0 v1 v2 v3 v4 v5 v6 v7 h = some v → zFin 0 (fun _ => 0) (zRu2 spec d) 252 (some (0, v.1)) (hc, v.2, o) (65, [some (22, 0), some (0, v1), some (0, v2), some (0, v3), some (0, v4), some (0, v5), some (0, v6), some (0, v7), none, none], [], (hc, h, o))) (v1 : Int) (v2 : Int) (v3 : Int) (v4 : Int) (v5 : Int) (v6 : Int) (v7 : Int) (s0 : Int) (h : zHM) (v : (Int × zHM)) (e : F252_1 k0 v1 v2 v3 v4 v5 v6 v7 s0 h = some v) : zFin 0 (fun _ => 0) (zRu2 spec d) 252 (some (0, v.1)) (hc, v.2, o) (134, [some (22, 0), some (0, v1), some (0, v2), some (0, v3), some (0, v4), some (0, v5), some (0, v6), some (0, v7), none, none], [(0, s0)], (hc, h, o)) := by
  unfold F252_1 at e
  obtain ⟨r1, q1, e⟩ := zB_s e
  refine zF_blk (m := []) (d := 0) (b := B252_28) (gs := []) (c' := (137, [some (22, 0), some (0, v1), some (0, v2), some (0, v3), some (0, v4), some (0, v5), some (0, v6), some (0, v7), none, some (0, s0)], [(22, 0)], (hc, h, o))) K252_28 rfl trivial ?_
  refine zF_call (k := 245) (cl := 12) (n := 1) (i := .invokevirtual 320) (args := [(22, 0)]) (rest := []) (g1 := (hc, r1, o)) (r1 := none) (zCk1_w (by decide +kernel)) rfl rfl rfl (st' := []) rfl (S245 (Nat.le_trans (by decide) hd)  h _ q1) ?_
  rcases zI_s e with ⟨q2, e⟩ | ⟨q2, e⟩
  · refine zF_blk (m := []) (d := 1) (b := B252_33) (gs := [¬ s0 = 0]) (c' := (148, [some (22, 0), some (0, v1), some (0, v2), some (0, v3), some (0, v4), some (0, v5), some (0, v6), some (0, v7), none, some (0, s0)], [], (hc, r1, o))) K252_33 rfl ⟨q2, trivial⟩ ?_
    rcases zI_s e with ⟨q3, e⟩ | ⟨q3, e⟩
    · refine zF_blk (m := []) (d := 1) (b := B252_31) (gs := [¬ v6 = v5]) (c' := (158, [some (22, 0), some (0, v1), some (0, v2), some (0, v3), some (0, v4), some (0, v5), some (0, v6), some (0, v7), none, some (0, s0)], [], (hc, r1, o))) K252_31 rfl ⟨q3, trivial⟩ ?_
      refine zF_blk (m := []) (d := 0) (b := B252_29) (gs := []) (c' := (161, [some (22, 0), some (0, v1), some (0, v2), some (0, v3), some (0, v4), some (0, v5), some (0, (wadd v6 1)), some (0, v7), none, some (0, s0)], [], (hc, r1, o))) K252_29 rfl trivial ?_
      refine zF_blk (m := [true, true, true, true, true, true, true, true, false, false]) (d := 0) (b := []) (gs := []) (c' := (161, [some (22, 0), some (0, v1), some (0, v2), some (0, v3), some (0, v4), some (0, v5), some (0, (wadd v6 1)), some (0, v7), none, none], [], (hc, r1, o))) rfl rfl trivial ?_
      exact T252_2 hd k0 hk0 v1 v2 v3 v4 v5 (wadd v6 1) v7 r1 _ e
    · refine zF_blk (m := []) (d := 0) (b := B252_31) (gs := [¬ (¬ v6 = v5)]) (c' := (155, [some (22, 0), some (0, v1), some (0, v2), some (0, v3), some (0, v4), some (0, v5), some (0, v6), some (0, v7), none, some (0, s0)], [], (hc, r1, o))) K252_31 rfl ⟨q3, trivial⟩ ?_
      refine zF_blk (m := []) (d := 0) (b := B252_30) (gs := []) (c' := (157, [some (22, 0), some (0, v1), some (0, v2), some (0, v3), some (0, v4), some (0, v5), some (0, v6), some (0, v7), none, some (0, s0)], [(0, v7)], (hc, r1, o))) K252_30 rfl trivial ?_
      exact zF_riM (zRe1_w (by decide +kernel)) e
  · refine zF_blk (m := []) (d := 0) (b := B252_33) (gs := [¬ (¬ s0 = 0)]) (c' := (145, [some (22, 0), some (0, v1), some (0, v2), some (0, v3), some (0, v4), some (0, v5), some (0, v6), some (0, v7), none, some (0, s0)], [], (hc, r1, o))) K252_33 rfl ⟨q2, trivial⟩ ?_
    refine zF_blk (m := []) (d := 0) (b := B252_32) (gs := []) (c' := (161, [some (22, 0), some (0, v1), some (0, v2), some (0, v3), some (0, v4), some (0, v5), some (0, v6), some (0, v7), none, some (0, s0)], [], (hc, r1, o))) K252_32 rfl trivial ?_
    refine zF_blk (m := [true, true, true, true, true, true, true, true, false, false]) (d := 0) (b := []) (gs := []) (c' := (161, [some (22, 0), some (0, v1), some (0, v2), some (0, v3), some (0, v4), some (0, v5), some (0, v6), some (0, v7), none, none], [], (hc, r1, o))) rfl rfl trivial ?_
    exact T252_2 hd k0 hk0 v1 v2 v3 v4 v5 v6 v7 r1 _ e
def F252_0 : Nat → Int → Int → Int → Int → Int → Int → Int → zHM → Option (Int × zHM)
  | 0, _, _, _, _, _, _, _, _ => none
  | n + 1, v1, v2, v3, v4, v5, v6, v7, h => if 100 ≤ v7 then if ¬ v5 = (-1) then some ((-1), h) else some (v6, h) else (F224 v7 h).bind fun r1 => if ¬ r1 = 0 then (F244 h).bind fun r2 => zG (0 ≤ (wadd 210 v1) ∧ (wadd 210 v1) < 2140) ((F227 v1 1 v3 (mset r2 14 (wadd 210 v1) v7)).bind fun r3 => (F235 v4 r3.2).bind fun r4 => (F213 r3.1 5 r4.2).bind fun r5 => if ¬ r5 = (wshl 1 v2) then F252_1 (F252_0 n) v1 v2 v3 v4 v5 v6 v7 0 r4.2 else F252_1 (F252_0 n) v1 v2 v3 v4 v5 v6 v7 1 r4.2) else F252_2 (F252_0 n) v1 v2 v3 v4 v5 v6 v7 h
set_option maxRecDepth 100000 in
theorem T252_0 {spec : zRn zH2} {hc : zHC} {o : Int → Int} {d : Nat} (hd : 6 ≤ d) : ∀ (n : Nat) (v1 : Int) (v2 : Int) (v3 : Int) (v4 : Int) (v5 : Int) (v6 : Int) (v7 : Int) (h : zHM) (v : (Int × zHM)), F252_0 n v1 v2 v3 v4 v5 v6 v7 h = some v → zFin 0 (fun _ => 0) (zRu2 spec d) 252 (some (0, v.1)) (hc, v.2, o) (65, [some (22, 0), some (0, v1), some (0, v2), some (0, v3), some (0, v4), some (0, v5), some (0, v6), some (0, v7), none, none], [], (hc, h, o)) := by
  intro n
  induction n with
  | zero => intro v1 v2 v3 v4 v5 v6 v7 h v e; unfold F252_0 at e; cases e
  | succ n hk0 =>
    intro v1 v2 v3 v4 v5 v6 v7 h v e
    unfold F252_0 at e
    rcases zI_s e with ⟨q1, e⟩ | ⟨q1, e⟩
    · refine zF_blk (m := []) (d := 1) (b := B252_26) (gs := [100 ≤ v7]) (c' := (167, [some (22, 0), some (0, v1), some (0, v2), some (0, v3), some (0, v4), some (0, v5), some (0, v6), some (0, v7), none, none], [], (hc, h, o))) K252_26 rfl ⟨q1, trivial⟩ ?_
      rcases zI_s e with ⟨q2, e⟩ | ⟨q2, e⟩
      · refine zF_blk (m := []) (d := 1) (b := B252_14) (gs := [¬ v5 = (-1)]) (c' := (178, [some (22, 0), some (0, v1), some (0, v2), some (0, v3), some (0, v4), some (0, v5), some (0, v6), some (0, v7), none, none], [], (hc, h, o))) K252_14 rfl ⟨q2, trivial⟩ ?_
        refine zF_blk (m := []) (d := 0) (b := B252_12) (gs := []) (c' := (179, [some (22, 0), some (0, v1), some (0, v2), some (0, v3), some (0, v4), some (0, v5), some (0, v6), some (0, v7), none, none], [(0, (-1))], (hc, h, o))) K252_12 rfl trivial ?_
        exact zF_riM (zRe1_w (by decide +kernel)) e
      · refine zF_blk (m := []) (d := 0) (b := B252_14) (gs := [¬ (¬ v5 = (-1))]) (c' := (173, [some (22, 0), some (0, v1), some (0, v2), some (0, v3), some (0, v4), some (0, v5), some (0, v6), some (0, v7), none, none], [], (hc, h, o))) K252_14 rfl ⟨q2, trivial⟩ ?_
        refine zF_blk (m := []) (d := 0) (b := B252_13) (gs := []) (c' := (179, [some (22, 0), some (0, v1), some (0, v2), some (0, v3), some (0, v4), some (0, v5), some (0, v6), some (0, v7), none, none], [(0, v6)], (hc, h, o))) K252_13 rfl trivial ?_
        exact zF_riM (zRe1_w (by decide +kernel)) e
    · refine zF_blk (m := []) (d := 0) (b := B252_26) (gs := [¬ (100 ≤ v7)]) (c' := (72, [some (22, 0), some (0, v1), some (0, v2), some (0, v3), some (0, v4), some (0, v5), some (0, v6), some (0, v7), none, none], [], (hc, h, o))) K252_26 rfl ⟨q1, trivial⟩ ?_
      obtain ⟨r1, q3, e⟩ := zB_s e
      refine zF_blk (m := []) (d := 0) (b := B252_15) (gs := []) (c' := (75, [some (22, 0), some (0, v1), some (0, v2), some (0, v3), some (0, v4), some (0, v5), some (0, v6), some (0, v7), none, none], [(0, v7), (22, 0)], (hc, h, o))) K252_15 rfl trivial ?_
      refine zF_call (k := 224) (cl := 12) (n := 2) (i := .invokevirtual 305) (args := [(22, 0), (0, v7)]) (rest := []) (g1 := (hc, h, o)) (r1 := some (0, r1)) (zCk1_w (by decide +kernel)) rfl rfl rfl (st' := [(0, r1)]) rfl (S224 (Nat.le_trans (by decide) hd) v7 h _ q3) ?_
      rcases zI_s e with ⟨q4, e⟩ | ⟨q4, e⟩
      · refine zF_blk (m := []) (d := 1) (b := B252_25) (gs := [¬ r1 = 0]) (c' := (84, [some (22, 0), some (0, v1), some (0, v2), some (0, v3), some (0, v4), some (0, v5), some (0, v6), some (0, v7), none, none], [], (hc, h, o))) K252_25 rfl ⟨q4, trivial⟩ ?_
        obtain ⟨r2, q5, e⟩ := zB_s e
        refine zF_blk (m := []) (d := 0) (b := B252_16) (gs := []) (c' := (85, [some (22, 0), some (0, v1), some (0, v2), some (0, v3), some (0, v4), some (0, v5), some (0, v6), some (0, v7), none, none], [(22, 0)], (hc, h, o))) K252_16 rfl trivial ?_
        refine zF_call (k := 244) (cl := 12) (n := 1) (i := .invokevirtual 317) (args := [(22, 0)]) (rest := []) (g1 := (hc, r2, o)) (r1 := none) (zCk1_w (by decide +kernel)) rfl rfl rfl (st' := []) rfl (S244 (Nat.le_trans (by decide) hd)  h _ q5) ?_
        obtain ⟨q6, e⟩ := zG_s e
        refine zF_blk (m := []) (d := 0) (b := B252_17) (gs := []) (c' := (96, [some (22, 0), some (0, v1), some (0, v2), some (0, v3), some (0, v4), some (0, v5), some (0, v6), some (0, v7), none, none], [(0, v1), (0, 210), (1344370422, 0)], (hc, r2, o))) K252_17 rfl trivial ?_
        obtain ⟨r3, q7, e⟩ := zB_s e
        refine zF_blk (m := []) (d := 0) (b := B252_18) (gs := [0 ≤ (wadd 210 v1) ∧ (wadd 210 v1) < 2140]) (c' := (104, [some (22, 0), some (0, v1), some (0, v2), some (0, v3), some (0, v4), some (0, v5), some (0, v6), some (0, v7), none, none], [(0, v3), (0, 1), (0, v1), (22, 0)], (hc, (mset r2 14 (wadd 210 v1) v7), o))) K252_18 rfl ⟨q6, trivial⟩ ?_
        refine zF_call (k := 227) (cl := 12) (n := 4) (i := .invokevirtual 311) (args := [(22, 0), (0, v1), (0, 1), (0, v3)]) (rest := []) (g1 := (hc, r3.2, o)) (r1 := some (0, r3.1)) (zCk1_w (by decide +kernel)) rfl rfl rfl (st' := [(0, r3.1)]) rfl (S227 (Nat.le_trans (by decide) hd) v1 1 v3 (mset r2 14 (wadd 210 v1) v7) _ q7) ?_
        obtain ⟨r4, q8, e⟩ := zB_s e
        refine zF_blk (m := []) (d := 0) (b := B252_19) (gs := []) (c' := (112, [some (22, 0), some (0, v1), some (0, v2), some (0, v3), some (0, v4), some (0, v5), some (0, v6), some (0, v7), some (0, r3.1), none], [(0, v4), (22, 0)], (hc, r3.2, o))) K252_19 rfl trivial ?_
        refine zF_call (k := 235) (cl := 12) (n := 2) (i := .invokevirtual 314) (args := [(22, 0), (0, v4)]) (rest := []) (g1 := (hc, r4.2, o)) (r1 := some (0, r4.1)) (zCk1_w (by decide +kernel)) rfl rfl rfl (st' := [(0, r4.1)]) rfl (S235 (Nat.le_trans (by decide) hd) v4 r3.2 _ q8) ?_
        obtain ⟨r5, q9, e⟩ := zB_s e
        refine zF_blk (m := []) (d := 0) (b := B252_20) (gs := []) (c' := (120, [some (22, 0), some (0, v1), some (0, v2), some (0, v3), some (0, v4), some (0, v5), some (0, v6), some (0, v7), some (0, r3.1), none], [(0, 5), (0, r3.1), (22, 0)], (hc, r4.2, o))) K252_20 rfl trivial ?_
        refine zF_call (k := 213) (cl := 12) (n := 3) (i := .invokevirtual 247) (args := [(22, 0), (0, r3.1), (0, 5)]) (rest := []) (g1 := (hc, r4.2, o)) (r1 := some (0, r5)) (zCk1_w (by decide +kernel)) rfl rfl rfl (st' := [(0, r5)]) rfl (S213 (Nat.le_trans (by decide) hd) r3.1 5 r4.2 _ q9) ?_
        rcases zI_s e with ⟨q10, e⟩ | ⟨q10, e⟩
        · refine zF_blk (m := []) (d := 1) (b := B252_23) (gs := [¬ r5 = (wshl 1 v2)]) (c' := (133, [some (22, 0), some (0, v1), some (0, v2), some (0, v3), some (0, v4), some (0, v5), some (0, v6), some (0, v7), some (0, r3.1), none], [], (hc, r4.2, o))) K252_23 rfl ⟨q10, trivial⟩ ?_
          refine zF_blk (m := []) (d := 0) (b := B252_21) (gs := []) (c' := (134, [some (22, 0), some (0, v1), some (0, v2), some (0, v3), some (0, v4), some (0, v5), some (0, v6), some (0, v7), some (0, r3.1), none], [(0, 0)], (hc, r4.2, o))) K252_21 rfl trivial ?_
          refine zF_blk (m := [true, true, true, true, true, true, true, true, false, false]) (d := 0) (b := []) (gs := []) (c' := (134, [some (22, 0), some (0, v1), some (0, v2), some (0, v3), some (0, v4), some (0, v5), some (0, v6), some (0, v7), none, none], [(0, 0)], (hc, r4.2, o))) rfl rfl trivial ?_
          exact T252_1 hd (F252_0 n) hk0 v1 v2 v3 v4 v5 v6 v7 0 r4.2 _ e
        · refine zF_blk (m := []) (d := 0) (b := B252_23) (gs := [¬ (¬ r5 = (wshl 1 v2))]) (c' := (129, [some (22, 0), some (0, v1), some (0, v2), some (0, v3), some (0, v4), some (0, v5), some (0, v6), some (0, v7), some (0, r3.1), none], [], (hc, r4.2, o))) K252_23 rfl ⟨q10, trivial⟩ ?_
          refine zF_blk (m := []) (d := 0) (b := B252_22) (gs := []) (c' := (134, [some (22, 0), some (0, v1), some (0, v2), some (0, v3), some (0, v4), some (0, v5), some (0, v6), some (0, v7), some (0, r3.1), none], [(0, 1)], (hc, r4.2, o))) K252_22 rfl trivial ?_
          refine zF_blk (m := [true, true, true, true, true, true, true, true, false, false]) (d := 0) (b := []) (gs := []) (c' := (134, [some (22, 0), some (0, v1), some (0, v2), some (0, v3), some (0, v4), some (0, v5), some (0, v6), some (0, v7), none, none], [(0, 1)], (hc, r4.2, o))) rfl rfl trivial ?_
          exact T252_1 hd (F252_0 n) hk0 v1 v2 v3 v4 v5 v6 v7 1 r4.2 _ e
      · refine zF_blk (m := []) (d := 0) (b := B252_25) (gs := [¬ (¬ r1 = 0)]) (c' := (81, [some (22, 0), some (0, v1), some (0, v2), some (0, v3), some (0, v4), some (0, v5), some (0, v6), some (0, v7), none, none], [], (hc, h, o))) K252_25 rfl ⟨q4, trivial⟩ ?_
        refine zF_blk (m := []) (d := 0) (b := B252_24) (gs := []) (c' := (161, [some (22, 0), some (0, v1), some (0, v2), some (0, v3), some (0, v4), some (0, v5), some (0, v6), some (0, v7), none, none], [], (hc, h, o))) K252_24 rfl trivial ?_
        exact T252_2 hd (F252_0 n) hk0 v1 v2 v3 v4 v5 v6 v7 h _ e
/-- EchoValeModel.tells(IIIII)I -/
def F252 (v1 : Int) (v2 : Int) (v3 : Int) (v4 : Int) (v5 : Int) (h : zHM) : Option (Int × zHM) := (F210 v1 (mset h 0 0 0)).bind fun r1 => if r1 = 0 then some ((-1), (mset h 0 0 0)) else (F210 v2 (mset h 0 0 0)).bind fun r2 => if r2 = 0 then some ((-1), (mset h 0 0 0)) else if v1 = v2 then some ((-1), (mset h 0 0 0)) else (F188 v3 1 9).bind fun r3 => if r3 = 0 then some ((-1), (mset h 0 0 0)) else (F242 v4).bind fun r4 => if r4 = 0 then some ((-1), (mset h 0 0 0)) else if ¬ (h 14 216) = 30 then F252_0 zFu v1 v2 v3 v4 v5 0 0 (mset h 0 0 0) else some ((-1), (mset h 0 0 0))
set_option maxRecDepth 100000 in
theorem S252 {spec : zRn zH2} {hc : zHC} {o : Int → Int} {d : Nat} (hd : 7 ≤ d) (v1 : Int) (v2 : Int) (v3 : Int) (v4 : Int) (v5 : Int) (h : zHM) (v : (Int × zHM)) (e : F252 v1 v2 v3 v4 v5 h = some v) : zRu2 spec d 252 [(22, 0), (0, v1), (0, v2), (0, v3), (0, v4), (0, v5)] (hc, h, o) (some (0, v.1)) (hc, v.2, o) := by
  refine zF_in (D := 6) (mx := 10) (L := [some (22, 0), some (0, v1), some (0, v2), some (0, v3), some (0, v4), some (0, v5), none, none, none, none]) (by decide +kernel) rfl rfl hd (fun d hd => ?_)
  unfold F252 at e
  obtain ⟨r1, q1, e⟩ := zB_s e
  refine zF_blk (m := []) (d := 0) (b := B252_0) (gs := []) (c' := (7, [some (22, 0), some (0, v1), some (0, v2), some (0, v3), some (0, v4), some (0, v5), none, none, none, none], [(0, v1), (22, 0)], (hc, (mset h 0 0 0), o))) K252_0 rfl trivial ?_
  refine zF_call (k := 210) (cl := 12) (n := 2) (i := .invokevirtual 260) (args := [(22, 0), (0, v1)]) (rest := []) (g1 := (hc, (mset h 0 0 0), o)) (r1 := some (0, r1)) (zCk1_w (by decide +kernel)) rfl rfl rfl (st' := [(0, r1)]) rfl (S210 (Nat.le_trans (by decide) hd) v1 (mset h 0 0 0) _ q1) ?_
  rcases zI_s e with ⟨q2, e⟩ | ⟨q2, e⟩
  · refine zF_blk (m := []) (d := 1) (b := B252_11) (gs := [r1 = 0]) (c' := (57, [some (22, 0), some (0, v1), some (0, v2), some (0, v3), some (0, v4), some (0, v5), none, none, none, none], [], (hc, (mset h 0 0 0), o))) K252_11 rfl ⟨q2, trivial⟩ ?_
    refine zF_blk (m := []) (d := 0) (b := B252_1) (gs := []) (c' := (58, [some (22, 0), some (0, v1), some (0, v2), some (0, v3), some (0, v4), some (0, v5), none, none, none, none], [(0, (-1))], (hc, (mset h 0 0 0), o))) K252_1 rfl trivial ?_
    exact zF_riM (zRe1_w (by decide +kernel)) e
  · refine zF_blk (m := []) (d := 0) (b := B252_11) (gs := [¬ (r1 = 0)]) (c' := (13, [some (22, 0), some (0, v1), some (0, v2), some (0, v3), some (0, v4), some (0, v5), none, none, none, none], [], (hc, (mset h 0 0 0), o))) K252_11 rfl ⟨q2, trivial⟩ ?_
    obtain ⟨r2, q3, e⟩ := zB_s e
    refine zF_blk (m := []) (d := 0) (b := B252_2) (gs := []) (c' := (15, [some (22, 0), some (0, v1), some (0, v2), some (0, v3), some (0, v4), some (0, v5), none, none, none, none], [(0, v2), (22, 0)], (hc, (mset h 0 0 0), o))) K252_2 rfl trivial ?_
    refine zF_call (k := 210) (cl := 12) (n := 2) (i := .invokevirtual 260) (args := [(22, 0), (0, v2)]) (rest := []) (g1 := (hc, (mset h 0 0 0), o)) (r1 := some (0, r2)) (zCk1_w (by decide +kernel)) rfl rfl rfl (st' := [(0, r2)]) rfl (S210 (Nat.le_trans (by decide) hd) v2 (mset h 0 0 0) _ q3) ?_
    rcases zI_s e with ⟨q4, e⟩ | ⟨q4, e⟩
    · refine zF_blk (m := []) (d := 1) (b := B252_10) (gs := [r2 = 0]) (c' := (57, [some (22, 0), some (0, v1), some (0, v2), some (0, v3), some (0, v4), some (0, v5), none, none, none, none], [], (hc, (mset h 0 0 0), o))) K252_10 rfl ⟨q4, trivial⟩ ?_
      refine zF_blk (m := []) (d := 0) (b := B252_1) (gs := []) (c' := (58, [some (22, 0), some (0, v1), some (0, v2), some (0, v3), some (0, v4), some (0, v5), none, none, none, none], [(0, (-1))], (hc, (mset h 0 0 0), o))) K252_1 rfl trivial ?_
      exact zF_riM (zRe1_w (by decide +kernel)) e
    · refine zF_blk (m := []) (d := 0) (b := B252_10) (gs := [¬ (r2 = 0)]) (c' := (21, [some (22, 0), some (0, v1), some (0, v2), some (0, v3), some (0, v4), some (0, v5), none, none, none, none], [], (hc, (mset h 0 0 0), o))) K252_10 rfl ⟨q4, trivial⟩ ?_
      rcases zI_s e with ⟨q5, e⟩ | ⟨q5, e⟩
      · refine zF_blk (m := []) (d := 1) (b := B252_9) (gs := [v1 = v2]) (c' := (57, [some (22, 0), some (0, v1), some (0, v2), some (0, v3), some (0, v4), some (0, v5), none, none, none, none], [], (hc, (mset h 0 0 0), o))) K252_9 rfl ⟨q5, trivial⟩ ?_
        refine zF_blk (m := []) (d := 0) (b := B252_1) (gs := []) (c' := (58, [some (22, 0), some (0, v1), some (0, v2), some (0, v3), some (0, v4), some (0, v5), none, none, none, none], [(0, (-1))], (hc, (mset h 0 0 0), o))) K252_1 rfl trivial ?_
        exact zF_riM (zRe1_w (by decide +kernel)) e
      · refine zF_blk (m := []) (d := 0) (b := B252_9) (gs := [¬ (v1 = v2)]) (c' := (26, [some (22, 0), some (0, v1), some (0, v2), some (0, v3), some (0, v4), some (0, v5), none, none, none, none], [], (hc, (mset h 0 0 0), o))) K252_9 rfl ⟨q5, trivial⟩ ?_
        obtain ⟨r3, q6, e⟩ := zB_s e
        refine zF_blk (m := []) (d := 0) (b := B252_3) (gs := []) (c' := (30, [some (22, 0), some (0, v1), some (0, v2), some (0, v3), some (0, v4), some (0, v5), none, none, none, none], [(0, 9), (0, 1), (0, v3)], (hc, (mset h 0 0 0), o))) K252_3 rfl trivial ?_
        refine zF_call (k := 188) (cl := 12) (n := 3) (i := .invokestatic 151) (args := [(0, v3), (0, 1), (0, 9)]) (rest := []) (g1 := (hc, (mset h 0 0 0), o)) (r1 := some (0, r3)) (zCk1_w (by decide +kernel)) rfl rfl rfl (st' := [(0, r3)]) rfl (S188 (Nat.le_trans (by decide) hd) v3 1 9 (mset h 0 0 0) _ q6) ?_
        rcases zI_s e with ⟨q7, e⟩ | ⟨q7, e⟩
        · refine zF_blk (m := []) (d := 1) (b := B252_8) (gs := [r3 = 0]) (c' := (57, [some (22, 0), some (0, v1), some (0, v2), some (0, v3), some (0, v4), some (0, v5), none, none, none, none], [], (hc, (mset h 0 0 0), o))) K252_8 rfl ⟨q7, trivial⟩ ?_
          refine zF_blk (m := []) (d := 0) (b := B252_1) (gs := []) (c' := (58, [some (22, 0), some (0, v1), some (0, v2), some (0, v3), some (0, v4), some (0, v5), none, none, none, none], [(0, (-1))], (hc, (mset h 0 0 0), o))) K252_1 rfl trivial ?_
          exact zF_riM (zRe1_w (by decide +kernel)) e
        · refine zF_blk (m := []) (d := 0) (b := B252_8) (gs := [¬ (r3 = 0)]) (c' := (36, [some (22, 0), some (0, v1), some (0, v2), some (0, v3), some (0, v4), some (0, v5), none, none, none, none], [], (hc, (mset h 0 0 0), o))) K252_8 rfl ⟨q7, trivial⟩ ?_
          obtain ⟨r4, q8, e⟩ := zB_s e
          refine zF_blk (m := []) (d := 0) (b := B252_4) (gs := []) (c' := (38, [some (22, 0), some (0, v1), some (0, v2), some (0, v3), some (0, v4), some (0, v5), none, none, none, none], [(0, v4)], (hc, (mset h 0 0 0), o))) K252_4 rfl trivial ?_
          refine zF_call (k := 242) (cl := 12) (n := 1) (i := .invokestatic 323) (args := [(0, v4)]) (rest := []) (g1 := (hc, (mset h 0 0 0), o)) (r1 := some (0, r4)) (zCk1_w (by decide +kernel)) rfl rfl rfl (st' := [(0, r4)]) rfl (S242 (Nat.le_trans (by decide) hd) v4 (mset h 0 0 0) _ q8) ?_
          rcases zI_s e with ⟨q9, e⟩ | ⟨q9, e⟩
          · refine zF_blk (m := []) (d := 1) (b := B252_7) (gs := [r4 = 0]) (c' := (57, [some (22, 0), some (0, v1), some (0, v2), some (0, v3), some (0, v4), some (0, v5), none, none, none, none], [], (hc, (mset h 0 0 0), o))) K252_7 rfl ⟨q9, trivial⟩ ?_
            refine zF_blk (m := []) (d := 0) (b := B252_1) (gs := []) (c' := (58, [some (22, 0), some (0, v1), some (0, v2), some (0, v3), some (0, v4), some (0, v5), none, none, none, none], [(0, (-1))], (hc, (mset h 0 0 0), o))) K252_1 rfl trivial ?_
            exact zF_riM (zRe1_w (by decide +kernel)) e
          · refine zF_blk (m := []) (d := 0) (b := B252_7) (gs := [¬ (r4 = 0)]) (c' := (44, [some (22, 0), some (0, v1), some (0, v2), some (0, v3), some (0, v4), some (0, v5), none, none, none, none], [], (hc, (mset h 0 0 0), o))) K252_7 rfl ⟨q9, trivial⟩ ?_
            rcases zI_s e with ⟨q10, e⟩ | ⟨q10, e⟩
            · refine zF_blk (m := []) (d := 1) (b := B252_6) (gs := [0 ≤ 216 ∧ 216 < 2140, ¬ (h 14 216) = 30]) (c' := (59, [some (22, 0), some (0, v1), some (0, v2), some (0, v3), some (0, v4), some (0, v5), none, none, none, none], [], (hc, (mset h 0 0 0), o))) K252_6 rfl ⟨by decide, q10, trivial⟩ ?_
              refine zF_blk (m := []) (d := 0) (b := B252_5) (gs := []) (c' := (65, [some (22, 0), some (0, v1), some (0, v2), some (0, v3), some (0, v4), some (0, v5), some (0, 0), some (0, 0), none, none], [], (hc, (mset h 0 0 0), o))) K252_5 rfl trivial ?_
              exact T252_0 hd zFu v1 v2 v3 v4 v5 0 0 (mset h 0 0 0) _ e
            · refine zF_blk (m := []) (d := 0) (b := B252_6) (gs := [0 ≤ 216 ∧ 216 < 2140, ¬ (¬ (h 14 216) = 30)]) (c' := (57, [some (22, 0), some (0, v1), some (0, v2), some (0, v3), some (0, v4), some (0, v5), none, none, none, none], [], (hc, (mset h 0 0 0), o))) K252_6 rfl ⟨by decide, q10, trivial⟩ ?_
              refine zF_blk (m := []) (d := 0) (b := B252_1) (gs := []) (c' := (58, [some (22, 0), some (0, v1), some (0, v2), some (0, v3), some (0, v4), some (0, v5), none, none, none, none], [(0, (-1))], (hc, (mset h 0 0 0), o))) K252_1 rfl trivial ?_
              exact zF_riM (zRe1_w (by decide +kernel)) e
noncomputable def B112_0 : List zRow := [(0, .aload_n 0, 1, (0, 0, 0)), (1, .iload_n 1, 1, (0, 0, 0))]
theorem K112_0 : zRk 112 B112_0 = true := zRw_ok (by decide +kernel)
noncomputable def B112_1 : List zRow := [(25, .iconst (-1), 1, (0, 0, 0))]
theorem K112_1 : zRk 112 B112_1 = true := zRw_ok (by decide +kernel)
noncomputable def B112_2 : List zRow := [(8, .iload_n 2, 1, (0, 0, 0))]
theorem K112_2 : zRk 112 B112_2 = true := zRw_ok (by decide +kernel)
noncomputable def B112_3 : List zRow := [(15, .aload_n 0, 1, (0, 0, 0)), (16, .getfield 56, 3, (11, 6, 7))]
theorem K112_3 : zRk 112 B112_3 = true := zRw_ok (by decide +kernel)
noncomputable def B112_4 : List zRow := [(27, .bipush 9, 2, (0, 0, 0)), (29, .istore_n 3, 1, (0, 0, 0))]
theorem K112_4 : zRk 112 B112_4 = true := zRw_ok (by decide +kernel)
noncomputable def B112_5 : List zRow := [(22, .ifCond .eq 5, 3, (0, 0, 0))]
theorem K112_5 : zRk 112 B112_5 = true := zRw_ok (by decide +kernel)
noncomputable def B112_6 : List zRow := [(12, .ifCond .eq 13, 3, (0, 0, 0))]
theorem K112_6 : zRk 112 B112_6 = true := zRw_ok (by decide +kernel)
noncomputable def B112_7 : List zRow := [(5, .ifCond .eq 20, 3, (0, 0, 0))]
theorem K112_7 : zRk 112 B112_7 = true := zRw_ok (by decide +kernel)
noncomputable def B112_8 : List zRow := [(71, .iconst 0, 1, (0, 0, 0))]
theorem K112_8 : zRk 112 B112_8 = true := zRw_ok (by decide +kernel)
noncomputable def B112_9 : List zRow := [(34, .aload_n 0, 1, (0, 0, 0)), (35, .iload_n 1, 1, (0, 0, 0)), (36, .aload_n 0, 1, (0, 0, 0)), (37, .getfield 56, 3, (11, 6, 7)), (40, .getfield 177, 3, (1, 3, 5242906)), (43, .iload_n 1, 1, (0, 0, 0)), (44, .iaload, 1, (0, 0, 0)), (45, .iload_n 3, 1, (0, 0, 0)), (46, .iload_n 2, 1, (0, 0, 0))]
theorem K112_9 : zRk 112 B112_9 = true := zRw_ok (by decide +kernel)
noncomputable def B112_10 : List zRow := [(50, .aload_n 0, 1, (0, 0, 0)), (51, .getfield 60, 3, (11, 7, 135)), (54, .iconst 0, 1, (0, 0, 0)), (55, .bipush 7, 2, (0, 0, 0))]
theorem K112_10 : zRk 112 B112_10 = true := zRw_ok (by decide +kernel)
noncomputable def B112_11 : List zRow := [(65, .iinc 3 (-1), 3, (0, 0, 0)), (68, .goto (-38), 3, (0, 0, 0))]
theorem K112_11 : zRk 112 B112_11 = true := zRw_ok (by decide +kernel)
noncomputable def B112_12 : List zRow := [(63, .iload_n 3, 1, (0, 0, 0))]
theorem K112_12 : zRk 112 B112_12 = true := zRw_ok (by decide +kernel)
noncomputable def B112_13 : List zRow := [(60, .ifCond .ne 5, 3, (0, 0, 0))]
theorem K112_13 : zRk 112 B112_13 = true := zRw_ok (by decide +kernel)
noncomputable def B112_14 : List zRow := [(30, .iload_n 3, 1, (0, 0, 0)), (31, .ifCond .le 40, 3, (0, 0, 0))]
theorem K112_14 : zRk 112 B112_14 = true := zRw_ok (by decide +kernel)
def F112_0 : Nat → Int → Int → Int → zHC → Option (Int × zHC)
  | 0, _, _, _, _ => none
  | n + 1, v1, v2, v3, h => if v3 ≤ 0 then some (0, h) else zG (0 ≤ v1 ∧ v1 < 6) ((F111 v1 (h 67 0 v1) v3 v2 h).bind fun r1 => (F63 1 0 7 r1).bind fun r2 => if ¬ r2 = 0 then (F112_0 n) v1 v2 (wadd v3 (-1)) r1 else some (v3, r1))
set_option maxRecDepth 100000 in
theorem T112_0 {spec : zRn zH2} {hm : zHM} {o : Int → Int} {d : Nat} (hd : 7 ≤ d) : ∀ (n : Nat) (v1 : Int) (v2 : Int) (v3 : Int) (h : zHC) (v : (Int × zHC)), F112_0 n v1 v2 v3 h = some v → zFin 0 (fun _ => 0) (zRu2 spec d) 112 (some (0, v.1)) (v.2, hm, o) (30, [some (21, 0), some (0, v1), some (0, v2), some (0, v3)], [], (h, hm, o)) := by
  intro n
  induction n with
  | zero => intro v1 v2 v3 h v e; unfold F112_0 at e; cases e
  | succ n hk0 =>
    intro v1 v2 v3 h v e
    unfold F112_0 at e
    rcases zI_s e with ⟨q1, e⟩ | ⟨q1, e⟩
    · refine zF_blk (m := []) (d := 1) (b := B112_14) (gs := [v3 ≤ 0]) (c' := (71, [some (21, 0), some (0, v1), some (0, v2), some (0, v3)], [], (h, hm, o))) K112_14 rfl ⟨q1, trivial⟩ ?_
      refine zF_blk (m := []) (d := 0) (b := B112_8) (gs := []) (c' := (72, [some (21, 0), some (0, v1), some (0, v2), some (0, v3)], [(0, 0)], (h, hm, o))) K112_8 rfl trivial ?_
      exact zF_riC (zRe1_w (by decide +kernel)) e
    · refine zF_blk (m := []) (d := 0) (b := B112_14) (gs := [¬ (v3 ≤ 0)]) (c' := (34, [some (21, 0), some (0, v1), some (0, v2), some (0, v3)], [], (h, hm, o))) K112_14 rfl ⟨q1, trivial⟩ ?_
      obtain ⟨q2, e⟩ := zG_s e
      obtain ⟨r1, q3, e⟩ := zB_s e
      refine zF_blk (m := []) (d := 0) (b := B112_9) (gs := [0 ≤ v1 ∧ v1 < 6]) (c' := (47, [some (21, 0), some (0, v1), some (0, v2), some (0, v3)], [(0, v2), (0, v3), (0, (h 67 0 v1)), (0, v1), (21, 0)], (h, hm, o))) K112_9 rfl ⟨q2, trivial⟩ ?_
      refine zF_call (k := 111) (cl := 11) (n := 5) (i := .invokevirtual 262) (args := [(21, 0), (0, v1), (0, (h 67 0 v1)), (0, v3), (0, v2)]) (rest := []) (g1 := (r1, hm, o)) (r1 := none) (zCk1_w (by decide +kernel)) rfl rfl rfl (st' := []) rfl (S111 (Nat.le_trans (by decide) hd) v1 (h 67 0 v1) v3 v2 h _ q3) ?_
      obtain ⟨r2, q4, e⟩ := zB_s e
      refine zF_blk (m := []) (d := 0) (b := B112_10) (gs := []) (c' := (57, [some (21, 0), some (0, v1), some (0, v2), some (0, v3)], [(0, 7), (0, 0), (11, 1)], (r1, hm, o))) K112_10 rfl trivial ?_
      refine zF_call (k := 63) (cl := 1) (n := 3) (i := .invokevirtual 196) (args := [(11, 1), (0, 0), (0, 7)]) (rest := []) (g1 := (r1, hm, o)) (r1 := some (0, r2)) (zCk1_w (by decide +kernel)) rfl rfl rfl (st' := [(0, r2)]) rfl (S63 (Nat.le_trans (by decide) hd) 1 0 7 r1 _ q4) ?_
      rcases zI_s e with ⟨q5, e⟩ | ⟨q5, e⟩
      · refine zF_blk (m := []) (d := 1) (b := B112_13) (gs := [¬ r2 = 0]) (c' := (65, [some (21, 0), some (0, v1), some (0, v2), some (0, v3)], [], (r1, hm, o))) K112_13 rfl ⟨q5, trivial⟩ ?_
        refine zF_blk (m := []) (d := 0) (b := B112_11) (gs := []) (c' := (30, [some (21, 0), some (0, v1), some (0, v2), some (0, (wadd v3 (-1)))], [], (r1, hm, o))) K112_11 rfl trivial ?_
        exact hk0 v1 v2 (wadd v3 (-1)) r1 _ e
      · refine zF_blk (m := []) (d := 0) (b := B112_13) (gs := [¬ (¬ r2 = 0)]) (c' := (63, [some (21, 0), some (0, v1), some (0, v2), some (0, v3)], [], (r1, hm, o))) K112_13 rfl ⟨q5, trivial⟩ ?_
        refine zF_blk (m := []) (d := 0) (b := B112_12) (gs := []) (c' := (64, [some (21, 0), some (0, v1), some (0, v2), some (0, v3)], [(0, v3)], (r1, hm, o))) K112_12 rfl trivial ?_
        exact zF_riC (zRe1_w (by decide +kernel)) e
/-- EchoVale.secret(II)I -/
def F112 (v1 : Int) (v2 : Int) (h : zHC) : Option (Int × zHC) := (F61 v1 h).bind fun r1 => if r1 = 0 then some ((-1), h) else (F99 v2).bind fun r2 => if r2 = 0 then some ((-1), h) else (F75 0 h).bind fun r3 => if r3 = 0 then F112_0 zFu v1 v2 9 h else some ((-1), h)
set_option maxRecDepth 100000 in
theorem S112 {spec : zRn zH2} {hm : zHM} {o : Int → Int} {d : Nat} (hd : 8 ≤ d) (v1 : Int) (v2 : Int) (h : zHC) (v : (Int × zHC)) (e : F112 v1 v2 h = some v) : zRu2 spec d 112 [(21, 0), (0, v1), (0, v2)] (h, hm, o) (some (0, v.1)) (v.2, hm, o) := by
  refine zF_in (D := 7) (mx := 4) (L := [some (21, 0), some (0, v1), some (0, v2), none]) (by decide +kernel) rfl rfl hd (fun d hd => ?_)
  unfold F112 at e
  obtain ⟨r1, q1, e⟩ := zB_s e
  refine zF_blk (m := []) (d := 0) (b := B112_0) (gs := []) (c' := (2, [some (21, 0), some (0, v1), some (0, v2), none], [(0, v1), (21, 0)], (h, hm, o))) K112_0 rfl trivial ?_
  refine zF_call (k := 61) (cl := 11) (n := 2) (i := .invokevirtual 172) (args := [(21, 0), (0, v1)]) (rest := []) (g1 := (h, hm, o)) (r1 := some (0, r1)) (zCk1_w (by decide +kernel)) rfl rfl rfl (st' := [(0, r1)]) rfl (S61 (Nat.le_trans (by decide) hd) v1 h _ q1) ?_
  rcases zI_s e with ⟨q2, e⟩ | ⟨q2, e⟩
  · refine zF_blk (m := []) (d := 1) (b := B112_7) (gs := [r1 = 0]) (c' := (25, [some (21, 0), some (0, v1), some (0, v2), none], [], (h, hm, o))) K112_7 rfl ⟨q2, trivial⟩ ?_
    refine zF_blk (m := []) (d := 0) (b := B112_1) (gs := []) (c' := (26, [some (21, 0), some (0, v1), some (0, v2), none], [(0, (-1))], (h, hm, o))) K112_1 rfl trivial ?_
    exact zF_riC (zRe1_w (by decide +kernel)) e
  · refine zF_blk (m := []) (d := 0) (b := B112_7) (gs := [¬ (r1 = 0)]) (c' := (8, [some (21, 0), some (0, v1), some (0, v2), none], [], (h, hm, o))) K112_7 rfl ⟨q2, trivial⟩ ?_
    obtain ⟨r2, q3, e⟩ := zB_s e
    refine zF_blk (m := []) (d := 0) (b := B112_2) (gs := []) (c' := (9, [some (21, 0), some (0, v1), some (0, v2), none], [(0, v2)], (h, hm, o))) K112_2 rfl trivial ?_
    refine zF_call (k := 99) (cl := 11) (n := 1) (i := .invokestatic 242) (args := [(0, v2)]) (rest := []) (g1 := (h, hm, o)) (r1 := some (0, r2)) (zCk1_w (by decide +kernel)) rfl rfl rfl (st' := [(0, r2)]) rfl (S99 (Nat.le_trans (by decide) hd) v2 h _ q3) ?_
    rcases zI_s e with ⟨q4, e⟩ | ⟨q4, e⟩
    · refine zF_blk (m := []) (d := 1) (b := B112_6) (gs := [r2 = 0]) (c' := (25, [some (21, 0), some (0, v1), some (0, v2), none], [], (h, hm, o))) K112_6 rfl ⟨q4, trivial⟩ ?_
      refine zF_blk (m := []) (d := 0) (b := B112_1) (gs := []) (c' := (26, [some (21, 0), some (0, v1), some (0, v2), none], [(0, (-1))], (h, hm, o))) K112_1 rfl trivial ?_
      exact zF_riC (zRe1_w (by decide +kernel)) e
    · refine zF_blk (m := []) (d := 0) (b := B112_6) (gs := [¬ (r2 = 0)]) (c' := (15, [some (21, 0), some (0, v1), some (0, v2), none], [], (h, hm, o))) K112_6 rfl ⟨q4, trivial⟩ ?_
      obtain ⟨r3, q5, e⟩ := zB_s e
      refine zF_blk (m := []) (d := 0) (b := B112_3) (gs := []) (c' := (19, [some (21, 0), some (0, v1), some (0, v2), none], [(11, 0)], (h, hm, o))) K112_3 rfl trivial ?_
      refine zF_call (k := 75) (cl := 1) (n := 1) (i := .invokevirtual 224) (args := [(11, 0)]) (rest := []) (g1 := (h, hm, o)) (r1 := some (0, r3)) (zCk1_w (by decide +kernel)) rfl rfl rfl (st' := [(0, r3)]) rfl (S75 (Nat.le_trans (by decide) hd) 0 h _ q5) ?_
      rcases zI_s e with ⟨q6, e⟩ | ⟨q6, e⟩
      · refine zF_blk (m := []) (d := 1) (b := B112_5) (gs := [r3 = 0]) (c' := (27, [some (21, 0), some (0, v1), some (0, v2), none], [], (h, hm, o))) K112_5 rfl ⟨q6, trivial⟩ ?_
        refine zF_blk (m := []) (d := 0) (b := B112_4) (gs := []) (c' := (30, [some (21, 0), some (0, v1), some (0, v2), some (0, 9)], [], (h, hm, o))) K112_4 rfl trivial ?_
        exact T112_0 hd zFu v1 v2 9 h _ e
      · refine zF_blk (m := []) (d := 0) (b := B112_5) (gs := [¬ (r3 = 0)]) (c' := (25, [some (21, 0), some (0, v1), some (0, v2), none], [], (h, hm, o))) K112_5 rfl ⟨q6, trivial⟩ ?_
        refine zF_blk (m := []) (d := 0) (b := B112_1) (gs := []) (c' := (26, [some (21, 0), some (0, v1), some (0, v2), none], [(0, (-1))], (h, hm, o))) K112_1 rfl trivial ?_
        exact zF_riC (zRe1_w (by decide +kernel)) e
noncomputable def B253_0 : List zRow := [(0, .aload_n 0, 1, (0, 0, 0)), (1, .iconst 0, 1, (0, 0, 0)), (2, .putfield 81, 3, (12, 0, 0)), (5, .aload_n 0, 1, (0, 0, 0)), (6, .iload_n 1, 1, (0, 0, 0))]
theorem K253_0 : zRk 253 B253_0 = true := zRw_ok (by decide +kernel)
noncomputable def B253_1 : List zRow := [(33, .iconst (-1), 1, (0, 0, 0))]
theorem K253_1 : zRk 253 B253_1 = true := zRw_ok (by decide +kernel)
noncomputable def B253_2 : List zRow := [(13, .iload_n 2, 1, (0, 0, 0))]
theorem K253_2 : zRk 253 B253_2 = true := zRw_ok (by decide +kernel)
noncomputable def B253_3 : List zRow := [(35, .bipush 9, 2, (0, 0, 0)), (37, .istore_n 3, 1, (0, 0, 0))]
theorem K253_3 : zRk 253 B253_3 = true := zRw_ok (by decide +kernel)
noncomputable def B253_4 : List zRow := [(20, .aload_n 0, 1, (0, 0, 0)), (21, .getfield 13, 3, (12, 14, 5251442)), (24, .sipush 216, 3, (0, 0, 0)), (27, .iaload, 1, (0, 0, 0)), (28, .bipush 30, 2, (0, 0, 0)), (30, .if_icmp .ne 5, 3, (0, 0, 0))]
theorem K253_4 : zRk 253 B253_4 = true := zRw_ok (by decide +kernel)
noncomputable def B253_5 : List zRow := [(17, .ifCond .eq 16, 3, (0, 0, 0))]
theorem K253_5 : zRk 253 B253_5 = true := zRw_ok (by decide +kernel)
noncomputable def B253_6 : List zRow := [(10, .ifCond .eq 23, 3, (0, 0, 0))]
theorem K253_6 : zRk 253 B253_6 = true := zRw_ok (by decide +kernel)
noncomputable def B253_7 : List zRow := [(96, .iconst 0, 1, (0, 0, 0))]
theorem K253_7 : zRk 253 B253_7 = true := zRw_ok (by decide +kernel)
noncomputable def B253_8 : List zRow := [(42, .aload_n 0, 1, (0, 0, 0))]
theorem K253_8 : zRk 253 B253_8 = true := zRw_ok (by decide +kernel)
noncomputable def B253_9 : List zRow := [(46, .aload_n 0, 1, (0, 0, 0)), (47, .iload_n 1, 1, (0, 0, 0)), (48, .iconst 1, 1, (0, 0, 0)), (49, .iload_n 3, 1, (0, 0, 0))]
theorem K253_9 : zRk 253 B253_9 = true := zRw_ok (by decide +kernel)
noncomputable def B253_10 : List zRow := [(53, .istore 4, 2, (0, 0, 0)), (55, .aload_n 0, 1, (0, 0, 0)), (56, .iload_n 2, 1, (0, 0, 0))]
theorem K253_10 : zRk 253 B253_10 = true := zRw_ok (by decide +kernel)
noncomputable def B253_11 : List zRow := [(60, .pop, 1, (0, 0, 0)), (61, .aload_n 0, 1, (0, 0, 0)), (62, .iload 4, 2, (0, 0, 0)), (64, .bipush 7, 2, (0, 0, 0))]
theorem K253_11 : zRk 253 B253_11 = true := zRw_ok (by decide +kernel)
noncomputable def B253_12 : List zRow := [(76, .iconst 0, 1, (0, 0, 0))]
theorem K253_12 : zRk 253 B253_12 = true := zRw_ok (by decide +kernel)
noncomputable def B253_13 : List zRow := [(72, .iconst 1, 1, (0, 0, 0)), (73, .goto 4, 3, (0, 0, 0))]
theorem K253_13 : zRk 253 B253_13 = true := zRw_ok (by decide +kernel)
noncomputable def B253_14 : List zRow := [(69, .ifCond .ne 7, 3, (0, 0, 0))]
theorem K253_14 : zRk 253 B253_14 = true := zRw_ok (by decide +kernel)
noncomputable def B253_15 : List zRow := [(38, .iload_n 3, 1, (0, 0, 0)), (39, .ifCond .le 57, 3, (0, 0, 0))]
theorem K253_15 : zRk 253 B253_15 = true := zRw_ok (by decide +kernel)
noncomputable def B253_16 : List zRow := [(77, .istore 5, 2, (0, 0, 0)), (79, .aload_n 0, 1, (0, 0, 0))]
theorem K253_16 : zRk 253 B253_16 = true := zRw_ok (by decide +kernel)
noncomputable def B253_17 : List zRow := [(90, .iinc 3 (-1), 3, (0, 0, 0)), (93, .goto (-55), 3, (0, 0, 0))]
theorem K253_17 : zRk 253 B253_17 = true := zRw_ok (by decide +kernel)
noncomputable def B253_18 : List zRow := [(88, .iload_n 3, 1, (0, 0, 0))]
theorem K253_18 : zRk 253 B253_18 = true := zRw_ok (by decide +kernel)
noncomputable def B253_19 : List zRow := [(83, .iload 5, 2, (0, 0, 0)), (85, .ifCond .eq 5, 3, (0, 0, 0))]
theorem K253_19 : zRk 253 B253_19 = true := zRw_ok (by decide +kernel)
def F253_1 (k0 : Int → Int → Int → zHM → Option (Int × zHM)) (v1 : Int) (v2 : Int) (v3 : Int) (s0 : Int) (h : zHM) : Option (Int × zHM) := (F245 h).bind fun r1 => if s0 = 0 then k0 v1 v2 (wadd v3 (-1)) r1 else some (v3, r1)
set_option maxRecDepth 100000 in
theorem T253_1 {spec : zRn zH2} {hc : zHC} {o : Int → Int} {d : Nat} (hd : 6 ≤ d) (k0 : Int → Int → Int → zHM → Option (Int × zHM)) (hk0 : ∀ (v1 : Int) (v2 : Int) (v3 : Int) (h : zHM) (v : (Int × zHM)), k0 v1 v2 v3 h = some v → zFin 0 (fun _ => 0) (zRu2 spec d) 253 (some (0, v.1)) (hc, v.2, o) (38, [some (22, 0), some (0, v1), some (0, v2), some (0, v3), none, none], [], (hc, h, o))) (v1 : Int) (v2 : Int) (v3 : Int) (s0 : Int) (h : zHM) (v : (Int × zHM)) (e : F253_1 k0 v1 v2 v3 s0 h = some v) : zFin 0 (fun _ => 0) (zRu2 spec d) 253 (some (0, v.1)) (hc, v.2, o) (77, [some (22, 0), some (0, v1), some (0, v2), some (0, v3), none, none], [(0, s0)], (hc, h, o)) := by
  unfold F253_1 at e
  obtain ⟨r1, q1, e⟩ := zB_s e
  refine zF_blk (m := []) (d := 0) (b := B253_16) (gs := []) (c' := (80, [some (22, 0), some (0, v1), some (0, v2), some (0, v3), none, some (0, s0)], [(22, 0)], (hc, h, o))) K253_16 rfl trivial ?_
  refine zF_call (k := 245) (cl := 12) (n := 1) (i := .invokevirtual 320) (args := [(22, 0)]) (rest := []) (g1 := (hc, r1, o)) (r1 := none) (zCk1_w (by decide +kernel)) rfl rfl rfl (st' := []) rfl (S245 (Nat.le_trans (by decide) hd)  h _ q1) ?_
  rcases zI_s e with ⟨q2, e⟩ | ⟨q2, e⟩
  · refine zF_blk (m := []) (d := 1) (b := B253_19) (gs := [s0 = 0]) (c' := (90, [some (22, 0), some (0, v1), some (0, v2), some (0, v3), none, some (0, s0)], [], (hc, r1, o))) K253_19 rfl ⟨q2, trivial⟩ ?_
    refine zF_blk (m := []) (d := 0) (b := B253_17) (gs := []) (c' := (38, [some (22, 0), some (0, v1), some (0, v2), some (0, (wadd v3 (-1))), none, some (0, s0)], [], (hc, r1, o))) K253_17 rfl trivial ?_
    refine zF_blk (m := [true, true, true, true, false, false]) (d := 0) (b := []) (gs := []) (c' := (38, [some (22, 0), some (0, v1), some (0, v2), some (0, (wadd v3 (-1))), none, none], [], (hc, r1, o))) rfl rfl trivial ?_
    exact hk0 v1 v2 (wadd v3 (-1)) r1 _ e
  · refine zF_blk (m := []) (d := 0) (b := B253_19) (gs := [¬ (s0 = 0)]) (c' := (88, [some (22, 0), some (0, v1), some (0, v2), some (0, v3), none, some (0, s0)], [], (hc, r1, o))) K253_19 rfl ⟨q2, trivial⟩ ?_
    refine zF_blk (m := []) (d := 0) (b := B253_18) (gs := []) (c' := (89, [some (22, 0), some (0, v1), some (0, v2), some (0, v3), none, some (0, s0)], [(0, v3)], (hc, r1, o))) K253_18 rfl trivial ?_
    exact zF_riM (zRe1_w (by decide +kernel)) e
def F253_0 : Nat → Int → Int → Int → zHM → Option (Int × zHM)
  | 0, _, _, _, _ => none
  | n + 1, v1, v2, v3, h => if v3 ≤ 0 then some (0, h) else (F244 h).bind fun r1 => (F227 v1 1 v3 r1).bind fun r2 => (F235 v2 r2.2).bind fun r3 => (F213 r2.1 7 r3.2).bind fun r4 => if ¬ r4 = 0 then F253_1 (F253_0 n) v1 v2 v3 0 r3.2 else F253_1 (F253_0 n) v1 v2 v3 1 r3.2
set_option maxRecDepth 100000 in
theorem T253_0 {spec : zRn zH2} {hc : zHC} {o : Int → Int} {d : Nat} (hd : 6 ≤ d) : ∀ (n : Nat) (v1 : Int) (v2 : Int) (v3 : Int) (h : zHM) (v : (Int × zHM)), F253_0 n v1 v2 v3 h = some v → zFin 0 (fun _ => 0) (zRu2 spec d) 253 (some (0, v.1)) (hc, v.2, o) (38, [some (22, 0), some (0, v1), some (0, v2), some (0, v3), none, none], [], (hc, h, o)) := by
  intro n
  induction n with
  | zero => intro v1 v2 v3 h v e; unfold F253_0 at e; cases e
  | succ n hk0 =>
    intro v1 v2 v3 h v e
    unfold F253_0 at e
    rcases zI_s e with ⟨q1, e⟩ | ⟨q1, e⟩
    · refine zF_blk (m := []) (d := 1) (b := B253_15) (gs := [v3 ≤ 0]) (c' := (96, [some (22, 0), some (0, v1), some (0, v2), some (0, v3), none, none], [], (hc, h, o))) K253_15 rfl ⟨q1, trivial⟩ ?_
      refine zF_blk (m := []) (d := 0) (b := B253_7) (gs := []) (c' := (97, [some (22, 0), some (0, v1), some (0, v2), some (0, v3), none, none], [(0, 0)], (hc, h, o))) K253_7 rfl trivial ?_
      exact zF_riM (zRe1_w (by decide +kernel)) e
    · refine zF_blk (m := []) (d := 0) (b := B253_15) (gs := [¬ (v3 ≤ 0)]) (c' := (42, [some (22, 0), some (0, v1), some (0, v2), some (0, v3), none, none], [], (hc, h, o))) K253_15 rfl ⟨q1, trivial⟩ ?_
      obtain ⟨r1, q2, e⟩ := zB_s e
      refine zF_blk (m := []) (d := 0) (b := B253_8) (gs := []) (c' := (43, [some (22, 0), some (0, v1), some (0, v2), some (0, v3), none, none], [(22, 0)], (hc, h, o))) K253_8 rfl trivial ?_
      refine zF_call (k := 244) (cl := 12) (n := 1) (i := .invokevirtual 317) (args := [(22, 0)]) (rest := []) (g1 := (hc, r1, o)) (r1 := none) (zCk1_w (by decide +kernel)) rfl rfl rfl (st' := []) rfl (S244 (Nat.le_trans (by decide) hd)  h _ q2) ?_
      obtain ⟨r2, q3, e⟩ := zB_s e
      refine zF_blk (m := []) (d := 0) (b := B253_9) (gs := []) (c' := (50, [some (22, 0), some (0, v1), some (0, v2), some (0, v3), none, none], [(0, v3), (0, 1), (0, v1), (22, 0)], (hc, r1, o))) K253_9 rfl trivial ?_
      refine zF_call (k := 227) (cl := 12) (n := 4) (i := .invokevirtual 311) (args := [(22, 0), (0, v1), (0, 1), (0, v3)]) (rest := []) (g1 := (hc, r2.2, o)) (r1 := some (0, r2.1)) (zCk1_w (by decide +kernel)) rfl rfl rfl (st' := [(0, r2.1)]) rfl (S227 (Nat.le_trans (by decide) hd) v1 1 v3 r1 _ q3) ?_
      obtain ⟨r3, q4, e⟩ := zB_s e
      refine zF_blk (m := []) (d := 0) (b := B253_10) (gs := []) (c' := (57, [some (22, 0), some (0, v1), some (0, v2), some (0, v3), some (0, r2.1), none], [(0, v2), (22, 0)], (hc, r2.2, o))) K253_10 rfl trivial ?_
      refine zF_call (k := 235) (cl := 12) (n := 2) (i := .invokevirtual 314) (args := [(22, 0), (0, v2)]) (rest := []) (g1 := (hc, r3.2, o)) (r1 := some (0, r3.1)) (zCk1_w (by decide +kernel)) rfl rfl rfl (st' := [(0, r3.1)]) rfl (S235 (Nat.le_trans (by decide) hd) v2 r2.2 _ q4) ?_
      obtain ⟨r4, q5, e⟩ := zB_s e
      refine zF_blk (m := []) (d := 0) (b := B253_11) (gs := []) (c' := (66, [some (22, 0), some (0, v1), some (0, v2), some (0, v3), some (0, r2.1), none], [(0, 7), (0, r2.1), (22, 0)], (hc, r3.2, o))) K253_11 rfl trivial ?_
      refine zF_call (k := 213) (cl := 12) (n := 3) (i := .invokevirtual 247) (args := [(22, 0), (0, r2.1), (0, 7)]) (rest := []) (g1 := (hc, r3.2, o)) (r1 := some (0, r4)) (zCk1_w (by decide +kernel)) rfl rfl rfl (st' := [(0, r4)]) rfl (S213 (Nat.le_trans (by decide) hd) r2.1 7 r3.2 _ q5) ?_
      rcases zI_s e with ⟨q6, e⟩ | ⟨q6, e⟩
      · refine zF_blk (m := []) (d := 1) (b := B253_14) (gs := [¬ r4 = 0]) (c' := (76, [some (22, 0), some (0, v1), some (0, v2), some (0, v3), some (0, r2.1), none], [], (hc, r3.2, o))) K253_14 rfl ⟨q6, trivial⟩ ?_
        refine zF_blk (m := []) (d := 0) (b := B253_12) (gs := []) (c' := (77, [some (22, 0), some (0, v1), some (0, v2), some (0, v3), some (0, r2.1), none], [(0, 0)], (hc, r3.2, o))) K253_12 rfl trivial ?_
        refine zF_blk (m := [true, true, true, true, false, false]) (d := 0) (b := []) (gs := []) (c' := (77, [some (22, 0), some (0, v1), some (0, v2), some (0, v3), none, none], [(0, 0)], (hc, r3.2, o))) rfl rfl trivial ?_
        exact T253_1 hd (F253_0 n) hk0 v1 v2 v3 0 r3.2 _ e
      · refine zF_blk (m := []) (d := 0) (b := B253_14) (gs := [¬ (¬ r4 = 0)]) (c' := (72, [some (22, 0), some (0, v1), some (0, v2), some (0, v3), some (0, r2.1), none], [], (hc, r3.2, o))) K253_14 rfl ⟨q6, trivial⟩ ?_
        refine zF_blk (m := []) (d := 0) (b := B253_13) (gs := []) (c' := (77, [some (22, 0), some (0, v1), some (0, v2), some (0, v3), some (0, r2.1), none], [(0, 1)], (hc, r3.2, o))) K253_13 rfl trivial ?_
        refine zF_blk (m := [true, true, true, true, false, false]) (d := 0) (b := []) (gs := []) (c' := (77, [some (22, 0), some (0, v1), some (0, v2), some (0, v3), none, none], [(0, 1)], (hc, r3.2, o))) rfl rfl trivial ?_
        exact T253_1 hd (F253_0 n) hk0 v1 v2 v3 1 r3.2 _ e
/-- EchoValeModel.secret(II)I -/
def F253 (v1 : Int) (v2 : Int) (h : zHM) : Option (Int × zHM) := (F210 v1 (mset h 0 0 0)).bind fun r1 => if r1 = 0 then some ((-1), (mset h 0 0 0)) else (F242 v2).bind fun r2 => if r2 = 0 then some ((-1), (mset h 0 0 0)) else if ¬ (h 14 216) = 30 then F253_0 zFu v1 v2 9 (mset h 0 0 0) else some ((-1), (mset h 0 0 0))
set_option maxRecDepth 100000 in
theorem S253 {spec : zRn zH2} {hc : zHC} {o : Int → Int} {d : Nat} (hd : 7 ≤ d) (v1 : Int) (v2 : Int) (h : zHM) (v : (Int × zHM)) (e : F253 v1 v2 h = some v) : zRu2 spec d 253 [(22, 0), (0, v1), (0, v2)] (hc, h, o) (some (0, v.1)) (hc, v.2, o) := by
  refine zF_in (D := 6) (mx := 6) (L := [some (22, 0), some (0, v1), some (0, v2), none, none, none]) (by decide +kernel) rfl rfl hd (fun d hd => ?_)
  unfold F253 at e
  obtain ⟨r1, q1, e⟩ := zB_s e
  refine zF_blk (m := []) (d := 0) (b := B253_0) (gs := []) (c' := (7, [some (22, 0), some (0, v1), some (0, v2), none, none, none], [(0, v1), (22, 0)], (hc, (mset h 0 0 0), o))) K253_0 rfl trivial ?_
  refine zF_call (k := 210) (cl := 12) (n := 2) (i := .invokevirtual 260) (args := [(22, 0), (0, v1)]) (rest := []) (g1 := (hc, (mset h 0 0 0), o)) (r1 := some (0, r1)) (zCk1_w (by decide +kernel)) rfl rfl rfl (st' := [(0, r1)]) rfl (S210 (Nat.le_trans (by decide) hd) v1 (mset h 0 0 0) _ q1) ?_
  rcases zI_s e with ⟨q2, e⟩ | ⟨q2, e⟩
  · refine zF_blk (m := []) (d := 1) (b := B253_6) (gs := [r1 = 0]) (c' := (33, [some (22, 0), some (0, v1), some (0, v2), none, none, none], [], (hc, (mset h 0 0 0), o))) K253_6 rfl ⟨q2, trivial⟩ ?_
    refine zF_blk (m := []) (d := 0) (b := B253_1) (gs := []) (c' := (34, [some (22, 0), some (0, v1), some (0, v2), none, none, none], [(0, (-1))], (hc, (mset h 0 0 0), o))) K253_1 rfl trivial ?_
    exact zF_riM (zRe1_w (by decide +kernel)) e
  · refine zF_blk (m := []) (d := 0) (b := B253_6) (gs := [¬ (r1 = 0)]) (c' := (13, [some (22, 0), some (0, v1), some (0, v2), none, none, none], [], (hc, (mset h 0 0 0), o))) K253_6 rfl ⟨q2, trivial⟩ ?_
    obtain ⟨r2, q3, e⟩ := zB_s e
    refine zF_blk (m := []) (d := 0) (b := B253_2) (gs := []) (c' := (14, [some (22, 0), some (0, v1), some (0, v2), none, none, none], [(0, v2)], (hc, (mset h 0 0 0), o))) K253_2 rfl trivial ?_
    refine zF_call (k := 242) (cl := 12) (n := 1) (i := .invokestatic 323) (args := [(0, v2)]) (rest := []) (g1 := (hc, (mset h 0 0 0), o)) (r1 := some (0, r2)) (zCk1_w (by decide +kernel)) rfl rfl rfl (st' := [(0, r2)]) rfl (S242 (Nat.le_trans (by decide) hd) v2 (mset h 0 0 0) _ q3) ?_
    rcases zI_s e with ⟨q4, e⟩ | ⟨q4, e⟩
    · refine zF_blk (m := []) (d := 1) (b := B253_5) (gs := [r2 = 0]) (c' := (33, [some (22, 0), some (0, v1), some (0, v2), none, none, none], [], (hc, (mset h 0 0 0), o))) K253_5 rfl ⟨q4, trivial⟩ ?_
      refine zF_blk (m := []) (d := 0) (b := B253_1) (gs := []) (c' := (34, [some (22, 0), some (0, v1), some (0, v2), none, none, none], [(0, (-1))], (hc, (mset h 0 0 0), o))) K253_1 rfl trivial ?_
      exact zF_riM (zRe1_w (by decide +kernel)) e
    · refine zF_blk (m := []) (d := 0) (b := B253_5) (gs := [¬ (r2 = 0)]) (c' := (20, [some (22, 0), some (0, v1), some (0, v2), none, none, none], [], (hc, (mset h 0 0 0), o))) K253_5 rfl ⟨q4, trivial⟩ ?_
      rcases zI_s e with ⟨q5, e⟩ | ⟨q5, e⟩
      · refine zF_blk (m := []) (d := 1) (b := B253_4) (gs := [0 ≤ 216 ∧ 216 < 2140, ¬ (h 14 216) = 30]) (c' := (35, [some (22, 0), some (0, v1), some (0, v2), none, none, none], [], (hc, (mset h 0 0 0), o))) K253_4 rfl ⟨by decide, q5, trivial⟩ ?_
        refine zF_blk (m := []) (d := 0) (b := B253_3) (gs := []) (c' := (38, [some (22, 0), some (0, v1), some (0, v2), some (0, 9), none, none], [], (hc, (mset h 0 0 0), o))) K253_3 rfl trivial ?_
        exact T253_0 hd zFu v1 v2 9 (mset h 0 0 0) _ e
      · refine zF_blk (m := []) (d := 0) (b := B253_4) (gs := [0 ≤ 216 ∧ 216 < 2140, ¬ (¬ (h 14 216) = 30)]) (c' := (33, [some (22, 0), some (0, v1), some (0, v2), none, none, none], [], (hc, (mset h 0 0 0), o))) K253_4 rfl ⟨by decide, q5, trivial⟩ ?_
        refine zF_blk (m := []) (d := 0) (b := B253_1) (gs := []) (c' := (34, [some (22, 0), some (0, v1), some (0, v2), none, none, none], [(0, (-1))], (hc, (mset h 0 0 0), o))) K253_1 rfl trivial ?_
        exact zF_riM (zRe1_w (by decide +kernel)) e
noncomputable def B113_0 : List zRow := [(11, .iconst (-1), 1, (0, 0, 0))]
theorem K113_0 : zRk 113 B113_0 = true := zRw_ok (by decide +kernel)
noncomputable def B113_1 : List zRow := [(13, .aload_n 0, 1, (0, 0, 0)), (14, .getfield 60, 3, (11, 7, 135)), (17, .aload_n 0, 1, (0, 0, 0)), (18, .getfield 56, 3, (11, 6, 7))]
theorem K113_1 : zRk 113 B113_1 = true := zRw_ok (by decide +kernel)
noncomputable def B113_2 : List zRow := [(24, .iconst 0, 1, (0, 0, 0)), (25, .istore_n 2, 1, (0, 0, 0))]
theorem K113_2 : zRk 113 B113_2 = true := zRw_ok (by decide +kernel)
noncomputable def B113_3 : List zRow := [(5, .iload_n 1, 1, (0, 0, 0)), (6, .bipush 100, 2, (0, 0, 0)), (8, .if_icmp .le 5, 3, (0, 0, 0))]
theorem K113_3 : zRk 113 B113_3 = true := zRw_ok (by decide +kernel)
noncomputable def B113_4 : List zRow := [(0, .iload_n 1, 1, (0, 0, 0)), (1, .iconst 1, 1, (0, 0, 0)), (2, .if_icmp .lt 9, 3, (0, 0, 0))]
theorem K113_4 : zRk 113 B113_4 = true := zRw_ok (by decide +kernel)
noncomputable def B113_5 : List zRow := [(87, .iconst (-1), 1, (0, 0, 0))]
theorem K113_5 : zRk 113 B113_5 = true := zRw_ok (by decide +kernel)
noncomputable def B113_6 : List zRow := [(44, .aload_n 0, 1, (0, 0, 0)), (45, .getfield 60, 3, (11, 7, 135)), (48, .aload_n 0, 1, (0, 0, 0)), (49, .getfield 19, 3, (11, 1, 39)), (52, .iconst 0, 1, (0, 0, 0))]
theorem K113_6 : zRk 113 B113_6 = true := zRw_ok (by decide +kernel)
noncomputable def B113_7 : List zRow := [(81, .iinc 2 1, 3, (0, 0, 0)), (84, .goto (-58), 3, (0, 0, 0))]
theorem K113_7 : zRk 113 B113_7 = true := zRw_ok (by decide +kernel)
noncomputable def B113_8 : List zRow := [(73, .aload_n 0, 1, (0, 0, 0)), (74, .getfield 60, 3, (11, 7, 135)), (77, .getfield 159, 3, (1, 0, 0))]
theorem K113_8 : zRk 113 B113_8 = true := zRw_ok (by decide +kernel)
noncomputable def B113_9 : List zRow := [(56, .aload_n 0, 1, (0, 0, 0)), (57, .getfield 60, 3, (11, 7, 135)), (60, .getfield 208, 3, (1, 2, 0)), (63, .aload_n 0, 1, (0, 0, 0)), (64, .getfield 56, 3, (11, 6, 7)), (67, .getfield 208, 3, (1, 2, 0)), (70, .if_icmp .le 11, 3, (0, 0, 0))]
theorem K113_9 : zRk 113 B113_9 = true := zRw_ok (by decide +kernel)
noncomputable def B113_10 : List zRow := [(31, .aload_n 0, 1, (0, 0, 0)), (32, .getfield 60, 3, (11, 7, 135)), (35, .getfield 159, 3, (1, 0, 0)), (38, .sipush 400, 3, (0, 0, 0)), (41, .if_icmp .ge 46, 3, (0, 0, 0))]
theorem K113_10 : zRk 113 B113_10 = true := zRw_ok (by decide +kernel)
noncomputable def B113_11 : List zRow := [(26, .iload_n 2, 1, (0, 0, 0)), (27, .iload_n 1, 1, (0, 0, 0)), (28, .if_icmp .ge 59, 3, (0, 0, 0))]
theorem K113_11 : zRk 113 B113_11 = true := zRw_ok (by decide +kernel)
def F113_0 : Nat → Int → Int → zHC → Option (Int × zHC)
  | 0, _, _, _ => none
  | n + 1, v1, v2, h => if v1 ≤ v2 then some ((-1), h) else if 400 ≤ (h 64 1 0) then some ((-1), h) else (F89 1 0 0 h).bind fun r1 => if (r1 66 1 0) ≤ (r1 66 0 0) then (F113_0 n) v1 (wadd v2 1) r1 else some ((r1 64 1 0), r1)
set_option maxRecDepth 100000 in
theorem T113_0 {spec : zRn zH2} {hm : zHM} {o : Int → Int} {d : Nat} (hd : 5 ≤ d) : ∀ (n : Nat) (v1 : Int) (v2 : Int) (h : zHC) (v : (Int × zHC)), F113_0 n v1 v2 h = some v → zFin 0 (fun _ => 0) (zRu2 spec d) 113 (some (0, v.1)) (v.2, hm, o) (26, [some (21, 0), some (0, v1), some (0, v2)], [], (h, hm, o)) := by
  intro n
  induction n with
  | zero => intro v1 v2 h v e; unfold F113_0 at e; cases e
  | succ n hk0 =>
    intro v1 v2 h v e
    unfold F113_0 at e
    rcases zI_s e with ⟨q1, e⟩ | ⟨q1, e⟩
    · refine zF_blk (m := []) (d := 1) (b := B113_11) (gs := [v1 ≤ v2]) (c' := (87, [some (21, 0), some (0, v1), some (0, v2)], [], (h, hm, o))) K113_11 rfl ⟨q1, trivial⟩ ?_
      refine zF_blk (m := []) (d := 0) (b := B113_5) (gs := []) (c' := (88, [some (21, 0), some (0, v1), some (0, v2)], [(0, (-1))], (h, hm, o))) K113_5 rfl trivial ?_
      exact zF_riC (zRe1_w (by decide +kernel)) e
    · refine zF_blk (m := []) (d := 0) (b := B113_11) (gs := [¬ (v1 ≤ v2)]) (c' := (31, [some (21, 0), some (0, v1), some (0, v2)], [], (h, hm, o))) K113_11 rfl ⟨q1, trivial⟩ ?_
      rcases zI_s e with ⟨q2, e⟩ | ⟨q2, e⟩
      · refine zF_blk (m := []) (d := 1) (b := B113_10) (gs := [400 ≤ (h 64 1 0)]) (c' := (87, [some (21, 0), some (0, v1), some (0, v2)], [], (h, hm, o))) K113_10 rfl ⟨q2, trivial⟩ ?_
        refine zF_blk (m := []) (d := 0) (b := B113_5) (gs := []) (c' := (88, [some (21, 0), some (0, v1), some (0, v2)], [(0, (-1))], (h, hm, o))) K113_5 rfl trivial ?_
        exact zF_riC (zRe1_w (by decide +kernel)) e
      · refine zF_blk (m := []) (d := 0) (b := B113_10) (gs := [¬ (400 ≤ (h 64 1 0))]) (c' := (44, [some (21, 0), some (0, v1), some (0, v2)], [], (h, hm, o))) K113_10 rfl ⟨q2, trivial⟩ ?_
        obtain ⟨r1, q3, e⟩ := zB_s e
        refine zF_blk (m := []) (d := 0) (b := B113_6) (gs := []) (c' := (53, [some (21, 0), some (0, v1), some (0, v2)], [(0, 0), (19, 0), (11, 1)], (h, hm, o))) K113_6 rfl trivial ?_
        refine zF_call (k := 89) (cl := 1) (n := 3) (i := .invokevirtual 268) (args := [(11, 1), (19, 0), (0, 0)]) (rest := []) (g1 := (r1, hm, o)) (r1 := none) (zCk1_w (by decide +kernel)) rfl rfl rfl (st' := []) rfl (S89 (Nat.le_trans (by decide) hd) 1 0 0 h _ q3) ?_
        rcases zI_s e with ⟨q4, e⟩ | ⟨q4, e⟩
        · refine zF_blk (m := []) (d := 1) (b := B113_9) (gs := [(r1 66 1 0) ≤ (r1 66 0 0)]) (c' := (81, [some (21, 0), some (0, v1), some (0, v2)], [], (r1, hm, o))) K113_9 rfl ⟨q4, trivial⟩ ?_
          refine zF_blk (m := []) (d := 0) (b := B113_7) (gs := []) (c' := (26, [some (21, 0), some (0, v1), some (0, (wadd v2 1))], [], (r1, hm, o))) K113_7 rfl trivial ?_
          exact hk0 v1 (wadd v2 1) r1 _ e
        · refine zF_blk (m := []) (d := 0) (b := B113_9) (gs := [¬ ((r1 66 1 0) ≤ (r1 66 0 0))]) (c' := (73, [some (21, 0), some (0, v1), some (0, v2)], [], (r1, hm, o))) K113_9 rfl ⟨q4, trivial⟩ ?_
          refine zF_blk (m := []) (d := 0) (b := B113_8) (gs := []) (c' := (80, [some (21, 0), some (0, v1), some (0, v2)], [(0, (r1 64 1 0))], (r1, hm, o))) K113_8 rfl trivial ?_
          exact zF_riC (zRe1_w (by decide +kernel)) e
/-- EchoVale.next(I)I -/
def F113 (v1 : Int) (h : zHC) : Option (Int × zHC) := if v1 < 1 then some ((-1), h) else if v1 ≤ 100 then (F71 1 0 h).bind fun r1 => F113_0 zFu v1 0 r1 else some ((-1), h)
set_option maxRecDepth 100000 in
theorem S113 {spec : zRn zH2} {hm : zHM} {o : Int → Int} {d : Nat} (hd : 6 ≤ d) (v1 : Int) (h : zHC) (v : (Int × zHC)) (e : F113 v1 h = some v) : zRu2 spec d 113 [(21, 0), (0, v1)] (h, hm, o) (some (0, v.1)) (v.2, hm, o) := by
  refine zF_in (D := 5) (mx := 3) (L := [some (21, 0), some (0, v1), none]) (by decide +kernel) rfl rfl hd (fun d hd => ?_)
  unfold F113 at e
  rcases zI_s e with ⟨q1, e⟩ | ⟨q1, e⟩
  · refine zF_blk (m := []) (d := 1) (b := B113_4) (gs := [v1 < 1]) (c' := (11, [some (21, 0), some (0, v1), none], [], (h, hm, o))) K113_4 rfl ⟨q1, trivial⟩ ?_
    refine zF_blk (m := []) (d := 0) (b := B113_0) (gs := []) (c' := (12, [some (21, 0), some (0, v1), none], [(0, (-1))], (h, hm, o))) K113_0 rfl trivial ?_
    exact zF_riC (zRe1_w (by decide +kernel)) e
  · refine zF_blk (m := []) (d := 0) (b := B113_4) (gs := [¬ (v1 < 1)]) (c' := (5, [some (21, 0), some (0, v1), none], [], (h, hm, o))) K113_4 rfl ⟨q1, trivial⟩ ?_
    rcases zI_s e with ⟨q2, e⟩ | ⟨q2, e⟩
    · refine zF_blk (m := []) (d := 1) (b := B113_3) (gs := [v1 ≤ 100]) (c' := (13, [some (21, 0), some (0, v1), none], [], (h, hm, o))) K113_3 rfl ⟨q2, trivial⟩ ?_
      obtain ⟨r1, q3, e⟩ := zB_s e
      refine zF_blk (m := []) (d := 0) (b := B113_1) (gs := []) (c' := (21, [some (21, 0), some (0, v1), none], [(11, 0), (11, 1)], (h, hm, o))) K113_1 rfl trivial ?_
      refine zF_call (k := 71) (cl := 1) (n := 2) (i := .invokevirtual 266) (args := [(11, 1), (11, 0)]) (rest := []) (g1 := (r1, hm, o)) (r1 := none) (zCk1_w (by decide +kernel)) rfl rfl rfl (st' := []) rfl (S71 (Nat.le_trans (by decide) hd) 1 0 h _ q3) ?_
      refine zF_blk (m := []) (d := 0) (b := B113_2) (gs := []) (c' := (26, [some (21, 0), some (0, v1), some (0, 0)], [], (r1, hm, o))) K113_2 rfl trivial ?_
      exact T113_0 hd zFu v1 0 r1 _ e
    · refine zF_blk (m := []) (d := 0) (b := B113_3) (gs := [¬ (v1 ≤ 100)]) (c' := (11, [some (21, 0), some (0, v1), none], [], (h, hm, o))) K113_3 rfl ⟨q2, trivial⟩ ?_
      refine zF_blk (m := []) (d := 0) (b := B113_0) (gs := []) (c' := (12, [some (21, 0), some (0, v1), none], [(0, (-1))], (h, hm, o))) K113_0 rfl trivial ?_
      exact zF_riC (zRe1_w (by decide +kernel)) e
noncomputable def B254_0 : List zRow := [(0, .aload_n 0, 1, (0, 0, 0)), (1, .iconst 0, 1, (0, 0, 0)), (2, .putfield 81, 3, (12, 0, 0)), (5, .iload_n 1, 1, (0, 0, 0)), (6, .iconst 1, 1, (0, 0, 0)), (7, .bipush 100, 2, (0, 0, 0))]
theorem K254_0 : zRk 254 B254_0 = true := zRw_ok (by decide +kernel)
noncomputable def B254_1 : List zRow := [(17, .aload_n 0, 1, (0, 0, 0))]
theorem K254_1 : zRk 254 B254_1 = true := zRw_ok (by decide +kernel)
noncomputable def B254_2 : List zRow := [(21, .aload_n 0, 1, (0, 0, 0)), (22, .getfield 13, 3, (12, 14, 5251442)), (25, .sipush 997, 3, (0, 0, 0)), (28, .iaload, 1, (0, 0, 0)), (29, .istore_n 2, 1, (0, 0, 0)), (30, .aload_n 0, 1, (0, 0, 0)), (31, .iload_n 1, 1, (0, 0, 0))]
theorem K254_2 : zRk 254 B254_2 = true := zRw_ok (by decide +kernel)
noncomputable def B254_3 : List zRow := [(65, .iconst (-1), 1, (0, 0, 0))]
theorem K254_3 : zRk 254 B254_3 = true := zRw_ok (by decide +kernel)
noncomputable def B254_4 : List zRow := [(48, .aload_n 0, 1, (0, 0, 0)), (49, .getfield 13, 3, (12, 14, 5251442)), (52, .sipush 998, 3, (0, 0, 0)), (55, .iconst 5, 1, (0, 0, 0)), (56, .iload_n 2, 1, (0, 0, 0))]
theorem K254_4 : zRk 254 B254_4 = true := zRw_ok (by decide +kernel)
noncomputable def B254_5 : List zRow := [(57, .imul, 1, (0, 0, 0))]
theorem K254_5 : zRk 254 B254_5 = true := zRw_ok (by decide +kernel)
noncomputable def B254_6 : List zRow := [(58, .iadd, 1, (0, 0, 0)), (59, .iconst 2, 1, (0, 0, 0)), (60, .iadd, 1, (0, 0, 0)), (61, .iaload, 1, (0, 0, 0)), (62, .goto 4, 3, (0, 0, 0))]
theorem K254_6 : zRk 254 B254_6 = true := zRw_ok (by decide +kernel)
noncomputable def B254_7 : List zRow := [(35, .pop, 1, (0, 0, 0)), (36, .aload_n 0, 1, (0, 0, 0)), (37, .getfield 13, 3, (12, 14, 5251442)), (40, .sipush 997, 3, (0, 0, 0)), (43, .iaload, 1, (0, 0, 0)), (44, .iload_n 2, 1, (0, 0, 0)), (45, .if_icmp .le 20, 3, (0, 0, 0))]
theorem K254_7 : zRk 254 B254_7 = true := zRw_ok (by decide +kernel)
noncomputable def B254_8 : List zRow := [(15, .iconst (-1), 1, (0, 0, 0))]
theorem K254_8 : zRk 254 B254_8 = true := zRw_ok (by decide +kernel)
noncomputable def B254_9 : List zRow := [(12, .ifCond .ne 5, 3, (0, 0, 0))]
theorem K254_9 : zRk 254 B254_9 = true := zRw_ok (by decide +kernel)
noncomputable def B254_10 : List zRow := [(66, .istore_n 3, 1, (0, 0, 0)), (67, .aload_n 0, 1, (0, 0, 0))]
theorem K254_10 : zRk 254 B254_10 = true := zRw_ok (by decide +kernel)
noncomputable def B254_11 : List zRow := [(71, .iload_n 3, 1, (0, 0, 0))]
theorem K254_11 : zRk 254 B254_11 = true := zRw_ok (by decide +kernel)
def F254_0 (s0 : Int) (h : zHM) : Option (Int × zHM) := (F245 h).bind fun r1 => some (s0, r1)
set_option maxRecDepth 100000 in
theorem T254_0 {spec : zRn zH2} {hc : zHC} {o : Int → Int} {d : Nat} (hd : 6 ≤ d) (s0 : Int) (h : zHM) (v : (Int × zHM)) (e : F254_0 s0 h = some v) : zFin 0 (fun _ => 0) (zRu2 spec d) 254 (some (0, v.1)) (hc, v.2, o) (66, [some (22, 0), none, none, none], [(0, s0)], (hc, h, o)) := by
  unfold F254_0 at e
  obtain ⟨r1, q1, e⟩ := zB_s e
  refine zF_blk (m := []) (d := 0) (b := B254_10) (gs := []) (c' := (68, [some (22, 0), none, none, some (0, s0)], [(22, 0)], (hc, h, o))) K254_10 rfl trivial ?_
  refine zF_call (k := 245) (cl := 12) (n := 1) (i := .invokevirtual 320) (args := [(22, 0)]) (rest := []) (g1 := (hc, r1, o)) (r1 := none) (zCk1_w (by decide +kernel)) rfl rfl rfl (st' := []) rfl (S245 (Nat.le_trans (by decide) hd)  h _ q1) ?_
  refine zF_blk (m := []) (d := 0) (b := B254_11) (gs := []) (c' := (72, [some (22, 0), none, none, some (0, s0)], [(0, s0)], (hc, r1, o))) K254_11 rfl trivial ?_
  exact zF_riM (zRe1_w (by decide +kernel)) e
/-- EchoValeModel.next(I)I -/
def F254 (v1 : Int) (h : zHM) : Option (Int × zHM) := (F188 v1 1 100).bind fun r1 => if ¬ r1 = 0 then (F244 (mset h 0 0 0)).bind fun r2 => (F235 v1 r2).bind fun r3 => if (r3.2 14 997) ≤ (r2 14 997) then F254_0 (-1) r3.2 else zG (0 ≤ (wadd (wadd 998 (wmul 5 (r2 14 997))) 2) ∧ (wadd (wadd 998 (wmul 5 (r2 14 997))) 2) < 2140) (F254_0 (r3.2 14 (wadd (wadd 998 (wmul 5 (r2 14 997))) 2)) r3.2) else some ((-1), (mset h 0 0 0))
set_option maxRecDepth 100000 in
theorem S254 {spec : zRn zH2} {hc : zHC} {o : Int → Int} {d : Nat} (hd : 7 ≤ d) (v1 : Int) (h : zHM) (v : (Int × zHM)) (e : F254 v1 h = some v) : zRu2 spec d 254 [(22, 0), (0, v1)] (hc, h, o) (some (0, v.1)) (hc, v.2, o) := by
  refine zF_in (D := 6) (mx := 4) (L := [some (22, 0), some (0, v1), none, none]) (by decide +kernel) rfl rfl hd (fun d hd => ?_)
  unfold F254 at e
  obtain ⟨r1, q1, e⟩ := zB_s e
  refine zF_blk (m := []) (d := 0) (b := B254_0) (gs := []) (c' := (9, [some (22, 0), some (0, v1), none, none], [(0, 100), (0, 1), (0, v1)], (hc, (mset h 0 0 0), o))) K254_0 rfl trivial ?_
  refine zF_call (k := 188) (cl := 12) (n := 3) (i := .invokestatic 151) (args := [(0, v1), (0, 1), (0, 100)]) (rest := []) (g1 := (hc, (mset h 0 0 0), o)) (r1 := some (0, r1)) (zCk1_w (by decide +kernel)) rfl rfl rfl (st' := [(0, r1)]) rfl (S188 (Nat.le_trans (by decide) hd) v1 1 100 (mset h 0 0 0) _ q1) ?_
  rcases zI_s e with ⟨q2, e⟩ | ⟨q2, e⟩
  · refine zF_blk (m := []) (d := 1) (b := B254_9) (gs := [¬ r1 = 0]) (c' := (17, [some (22, 0), some (0, v1), none, none], [], (hc, (mset h 0 0 0), o))) K254_9 rfl ⟨q2, trivial⟩ ?_
    obtain ⟨r2, q3, e⟩ := zB_s e
    refine zF_blk (m := []) (d := 0) (b := B254_1) (gs := []) (c' := (18, [some (22, 0), some (0, v1), none, none], [(22, 0)], (hc, (mset h 0 0 0), o))) K254_1 rfl trivial ?_
    refine zF_call (k := 244) (cl := 12) (n := 1) (i := .invokevirtual 317) (args := [(22, 0)]) (rest := []) (g1 := (hc, r2, o)) (r1 := none) (zCk1_w (by decide +kernel)) rfl rfl rfl (st' := []) rfl (S244 (Nat.le_trans (by decide) hd)  (mset h 0 0 0) _ q3) ?_
    obtain ⟨r3, q4, e⟩ := zB_s e
    refine zF_blk (m := []) (d := 0) (b := B254_2) (gs := [0 ≤ 997 ∧ 997 < 2140]) (c' := (32, [some (22, 0), some (0, v1), some (0, (r2 14 997)), none], [(0, v1), (22, 0)], (hc, r2, o))) K254_2 rfl ⟨by decide, trivial⟩ ?_
    refine zF_call (k := 235) (cl := 12) (n := 2) (i := .invokevirtual 314) (args := [(22, 0), (0, v1)]) (rest := []) (g1 := (hc, r3.2, o)) (r1 := some (0, r3.1)) (zCk1_w (by decide +kernel)) rfl rfl rfl (st' := [(0, r3.1)]) rfl (S235 (Nat.le_trans (by decide) hd) v1 r2 _ q4) ?_
    rcases zI_s e with ⟨q5, e⟩ | ⟨q5, e⟩
    · refine zF_blk (m := []) (d := 1) (b := B254_7) (gs := [0 ≤ 997 ∧ 997 < 2140, (r3.2 14 997) ≤ (r2 14 997)]) (c' := (65, [some (22, 0), some (0, v1), some (0, (r2 14 997)), none], [], (hc, r3.2, o))) K254_7 rfl ⟨by decide, q5, trivial⟩ ?_
      refine zF_blk (m := []) (d := 0) (b := B254_3) (gs := []) (c' := (66, [some (22, 0), some (0, v1), some (0, (r2 14 997)), none], [(0, (-1))], (hc, r3.2, o))) K254_3 rfl trivial ?_
      refine zF_blk (m := [true, false, false, false]) (d := 0) (b := []) (gs := []) (c' := (66, [some (22, 0), none, none, none], [(0, (-1))], (hc, r3.2, o))) rfl rfl trivial ?_
      exact T254_0 hd (-1) r3.2 _ e
    · refine zF_blk (m := []) (d := 0) (b := B254_7) (gs := [0 ≤ 997 ∧ 997 < 2140, ¬ ((r3.2 14 997) ≤ (r2 14 997))]) (c' := (48, [some (22, 0), some (0, v1), some (0, (r2 14 997)), none], [], (hc, r3.2, o))) K254_7 rfl ⟨by decide, q5, trivial⟩ ?_
      obtain ⟨q6, e⟩ := zG_s e
      refine zF_blk (m := []) (d := 0) (b := B254_4) (gs := []) (c' := (57, [some (22, 0), some (0, v1), some (0, (r2 14 997)), none], [(0, (r2 14 997)), (0, 5), (0, 998), (1344370422, 0)], (hc, r3.2, o))) K254_4 rfl trivial ?_
      refine zF_blk (m := []) (d := 0) (b := B254_5) (gs := []) (c' := (58, [some (22, 0), some (0, v1), some (0, (r2 14 997)), none], [(0, (wmul 5 (r2 14 997))), (0, 998), (1344370422, 0)], (hc, r3.2, o))) K254_5 rfl trivial ?_
      refine zF_blk (m := []) (d := 0) (b := B254_6) (gs := [0 ≤ (wadd (wadd 998 (wmul 5 (r2 14 997))) 2) ∧ (wadd (wadd 998 (wmul 5 (r2 14 997))) 2) < 2140]) (c' := (66, [some (22, 0), some (0, v1), some (0, (r2 14 997)), none], [(0, (r3.2 14 (wadd (wadd 998 (wmul 5 (r2 14 997))) 2)))], (hc, r3.2, o))) K254_6 rfl ⟨q6, trivial⟩ ?_
      refine zF_blk (m := [true, false, false, false]) (d := 0) (b := []) (gs := []) (c' := (66, [some (22, 0), none, none, none], [(0, (r3.2 14 (wadd (wadd 998 (wmul 5 (r2 14 997))) 2)))], (hc, r3.2, o))) rfl rfl trivial ?_
      exact T254_0 hd (r3.2 14 (wadd (wadd 998 (wmul 5 (r2 14 997))) 2)) r3.2 _ e
  · refine zF_blk (m := []) (d := 0) (b := B254_9) (gs := [¬ (¬ r1 = 0)]) (c' := (15, [some (22, 0), some (0, v1), none, none], [], (hc, (mset h 0 0 0), o))) K254_9 rfl ⟨q2, trivial⟩ ?_
    refine zF_blk (m := []) (d := 0) (b := B254_8) (gs := []) (c' := (16, [some (22, 0), some (0, v1), none, none], [(0, (-1))], (hc, (mset h 0 0 0), o))) K254_8 rfl trivial ?_
    exact zF_riM (zRe1_w (by decide +kernel)) e
