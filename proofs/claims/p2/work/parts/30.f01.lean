/-! Functions of the methods, by wip/gen/lift.py. -/
def zFu : Nat := 1048576
theorem zF_riC {run : zRn zH2} {mi pc : Nat} {L : zLo} {x : Int} {g : zHC} {hm : zHM} {o : Int → Int} {v : Int × zHC} (hk : zRe1 mi pc .ireturn (some .int) = true) (e : some (x, g) = some v) : zFin 0 (fun _ => 0) run mi (some (0, v.1)) (v.2, hm, o) (pc, L, [(0, x)], (g, hm, o)) := by
  have q := Option.some.inj e
  subst q
  exact zF_ri hk
theorem zF_rbC {run : zRn zH2} {mi pc : Nat} {L : zLo} {x : Int} {g : zHC} {hm : zHM} {o : Int → Int} {v : Int × zHC} (hk : zRe1 mi pc .ireturn (some .boolean) = true) (hv : x = 0 ∨ x = 1) (e : some (x, g) = some v) : zFin 0 (fun _ => 0) run mi (some (0, v.1)) (v.2, hm, o) (pc, L, [(0, x)], (g, hm, o)) := by
  have q := Option.some.inj e
  subst q
  exact zF_rb hk hv
theorem zF_rlC {run : zRn zH2} {mi pc : Nat} {L : zLo} {x : Int} {g : zHC} {hm : zHM} {o : Int → Int} {v : Int × zHC} (hk : zRe1 mi pc .lreturn (some .long) = true) (e : some (x, g) = some v) : zFin 0 (fun _ => 0) run mi (some (1, v.1)) (v.2, hm, o) (pc, L, [(1, x)], (g, hm, o)) := by
  have q := Option.some.inj e
  subst q
  exact zF_rl hk
theorem zF_riM {run : zRn zH2} {mi pc : Nat} {L : zLo} {x : Int} {g : zHM} {hc : zHC} {o : Int → Int} {v : Int × zHM} (hk : zRe1 mi pc .ireturn (some .int) = true) (e : some (x, g) = some v) : zFin 0 (fun _ => 0) run mi (some (0, v.1)) (hc, v.2, o) (pc, L, [(0, x)], (hc, g, o)) := by
  have q := Option.some.inj e
  subst q
  exact zF_ri hk
theorem zF_rbM {run : zRn zH2} {mi pc : Nat} {L : zLo} {x : Int} {g : zHM} {hc : zHC} {o : Int → Int} {v : Int × zHM} (hk : zRe1 mi pc .ireturn (some .boolean) = true) (hv : x = 0 ∨ x = 1) (e : some (x, g) = some v) : zFin 0 (fun _ => 0) run mi (some (0, v.1)) (hc, v.2, o) (pc, L, [(0, x)], (hc, g, o)) := by
  have q := Option.some.inj e
  subst q
  exact zF_rb hk hv
theorem zF_rlM {run : zRn zH2} {mi pc : Nat} {L : zLo} {x : Int} {g : zHM} {hc : zHC} {o : Int → Int} {v : Int × zHM} (hk : zRe1 mi pc .lreturn (some .long) = true) (e : some (x, g) = some v) : zFin 0 (fun _ => 0) run mi (some (1, v.1)) (hc, v.2, o) (pc, L, [(1, x)], (hc, g, o)) := by
  have q := Option.some.inj e
  subst q
  exact zF_rl hk
def B15_0 : List zRow := [(0, .bipush 24, 2, (0, 0, 0)), (2, .istore_n 2, 1, (0, 0, 0))]
theorem K15_0 : zRk 15 B15_0 = true := by decide +kernel
def B15_1 : List zRow := [(17, .aload_n 0, 1, (0, 0, 0)), (18, .getfield 9, 3, (5, 0, 5246642)), (21, .aload_n 0, 1, (0, 0, 0)), (22, .getfield 39, 3, (5, 1, 0)), (25, .iload_n 1, 1, (0, 0, 0)), (26, .iload_n 2, 1, (0, 0, 0)), (27, .iushr, 1, (0, 0, 0)), (28, .sipush 255, 3, (0, 0, 0)), (31, .iand, 1, (0, 0, 0)), (32, .iastore, 1, (0, 0, 0)), (33, .aload_n 0, 1, (0, 0, 0)), (34, .dup, 1, (0, 0, 0)), (35, .getfield 39, 3, (5, 1, 0)), (38, .iconst 1, 1, (0, 0, 0)), (39, .iadd, 1, (0, 0, 0)), (40, .putfield 39, 3, (5, 1, 0)), (43, .iinc 2 (-8), 3, (0, 0, 0)), (46, .goto (-43), 3, (0, 0, 0))]
theorem K15_1 : zRk 15 B15_1 = true := by decide +kernel
def B15_2 : List zRow := [(7, .aload_n 0, 1, (0, 0, 0)), (8, .getfield 39, 3, (5, 1, 0)), (11, .sipush 940, 3, (0, 0, 0)), (14, .if_icmp .ge 35, 3, (0, 0, 0))]
theorem K15_2 : zRk 15 B15_2 = true := by decide +kernel
def B15_3 : List zRow := [(3, .iload_n 2, 1, (0, 0, 0)), (4, .ifCond .lt 45, 3, (0, 0, 0))]
theorem K15_3 : zRk 15 B15_3 = true := by decide +kernel
def F15_0 : Nat → Int → Int → zHC → Option zHC
  | 0, _, _, _ => none
  | n + 1, v1, v2, h => if v2 < 0 then some h else if 940 ≤ (h 321 0 0) then some h else zG (0 ≤ (h 321 0 0) ∧ (h 321 0 0) < 940) ((F15_0 n) v1 (wadd v2 (-8)) (hset (hset h 320 0 (h 321 0 0) (wand (wushr v1 v2) 255)) 321 0 0 (wadd (h 321 0 0) 1)))
set_option maxRecDepth 100000 in
theorem T15_0 {spec : zRn zH2} {hm : zHM} {o : Int → Int} {d : Nat} (hd : 0 ≤ d) : ∀ (n : Nat) (v1 : Int) (v2 : Int) (h : zHC) (v : zHC), F15_0 n v1 v2 h = some v → zFin 0 (fun _ => 0) (zRu2 spec d) 15 none (v, hm, o) (3, [some (15, 0), some (0, v1), some (0, v2)], [], (h, hm, o)) := by
  intro n
  induction n with
  | zero => intro v1 v2 h v e; unfold F15_0 at e; cases e
  | succ n hk0 =>
    intro v1 v2 h v e
    unfold F15_0 at e
    rcases zI_s e with ⟨q1, e⟩ | ⟨q1, e⟩
    · refine zF_blk (m := []) (d := 1) (b := B15_3) (gs := [v2 < 0]) (c' := (49, [some (15, 0), some (0, v1), some (0, v2)], [], (h, hm, o))) K15_3 rfl ⟨q1, trivial⟩ ?_
      obtain rfl := Option.some.inj e
      exact zF_rv (by decide +kernel)
    · refine zF_blk (m := []) (d := 0) (b := B15_3) (gs := [¬ (v2 < 0)]) (c' := (7, [some (15, 0), some (0, v1), some (0, v2)], [], (h, hm, o))) K15_3 rfl ⟨q1, trivial⟩ ?_
      rcases zI_s e with ⟨q2, e⟩ | ⟨q2, e⟩
      · refine zF_blk (m := []) (d := 1) (b := B15_2) (gs := [940 ≤ (h 321 0 0)]) (c' := (49, [some (15, 0), some (0, v1), some (0, v2)], [], (h, hm, o))) K15_2 rfl ⟨q2, trivial⟩ ?_
        obtain rfl := Option.some.inj e
        exact zF_rv (by decide +kernel)
      · refine zF_blk (m := []) (d := 0) (b := B15_2) (gs := [¬ (940 ≤ (h 321 0 0))]) (c' := (17, [some (15, 0), some (0, v1), some (0, v2)], [], (h, hm, o))) K15_2 rfl ⟨q2, trivial⟩ ?_
        obtain ⟨q3, e⟩ := zG_s e
        refine zF_blk (m := []) (d := 0) (b := B15_1) (gs := [0 ≤ (h 321 0 0) ∧ (h 321 0 0) < 940]) (c' := (3, [some (15, 0), some (0, v1), some (0, (wadd v2 (-8)))], [], ((hset (hset h 320 0 (h 321 0 0) (wand (wushr v1 v2) 255)) 321 0 0 (wadd (h 321 0 0) 1)), hm, o))) K15_1 rfl ⟨q3, trivial⟩ ?_
        exact hk0 v1 (wadd v2 (-8)) (hset (hset h 320 0 (h 321 0 0) (wand (wushr v1 v2) 255)) 321 0 0 (wadd (h 321 0 0) 1)) _ e
/-- EchoVale$Reader.addBytes(I)V -/
def F15 (v1 : Int) (h : zHC) : Option zHC := F15_0 zFu v1 24 h
set_option maxRecDepth 100000 in
theorem S15 {spec : zRn zH2} {hm : zHM} {o : Int → Int} {d : Nat} (hd : 1 ≤ d) (v1 : Int) (h : zHC) (v : zHC) (e : F15 v1 h = some v) : zRu2 spec d 15 [(15, 0), (0, v1)] (h, hm, o) none (v, hm, o) := by
  refine zF_in (D := 0) (mx := 3) (L := [some (15, 0), some (0, v1), none]) (by decide +kernel) rfl rfl hd (fun d hd => ?_)
  unfold F15 at e
  refine zF_blk (m := []) (d := 0) (b := B15_0) (gs := []) (c' := (3, [some (15, 0), some (0, v1), some (0, 24)], [], (h, hm, o))) K15_0 rfl trivial ?_
  exact T15_0 hd zFu v1 24 h _ e
def B14_0 : List zRow := [(18, .aload_n 0, 1, (0, 0, 0)), (19, .getfield 12, 3, (11, 0, 23)), (22, .iload_n 1, 1, (0, 0, 0))]
theorem K14_0 : zRk 14 B14_0 = true := by decide +kernel
def B14_1 : List zRow := [(26, .aload_n 0, 1, (0, 0, 0)), (27, .getfield 12, 3, (11, 0, 23)), (30, .iload_n 2, 1, (0, 0, 0))]
theorem K14_1 : zRk 14 B14_1 = true := by decide +kernel
def B14_2 : List zRow := [(34, .aload_n 0, 1, (0, 0, 0)), (35, .getfield 12, 3, (11, 0, 23)), (38, .iload_n 3, 1, (0, 0, 0))]
theorem K14_2 : zRk 14 B14_2 = true := by decide +kernel
def B14_3 : List zRow := [(42, .aload_n 0, 1, (0, 0, 0)), (43, .getfield 12, 3, (11, 0, 23)), (46, .iload 4, 2, (0, 0, 0))]
theorem K14_3 : zRk 14 B14_3 = true := by decide +kernel
def B14_4 : List zRow := [(51, .aload_n 0, 1, (0, 0, 0)), (52, .getfield 12, 3, (11, 0, 23)), (55, .iload 5, 2, (0, 0, 0))]
theorem K14_4 : zRk 14 B14_4 = true := by decide +kernel
def B14_5 : List zRow := [(60, .aload_n 0, 1, (0, 0, 0)), (61, .getfield 12, 3, (11, 0, 23)), (64, .getfield 105, 3, (5, 1, 0))]
theorem K14_5 : zRk 14 B14_5 = true := by decide +kernel
def B14_6 : List zRow := [(16, .iconst (-1), 1, (0, 0, 0))]
theorem K14_6 : zRk 14 B14_6 = true := by decide +kernel
def B14_7 : List zRow := [(0, .aload_n 0, 1, (0, 0, 0)), (1, .getfield 12, 3, (11, 0, 23)), (4, .getfield 105, 3, (5, 1, 0)), (7, .bipush 20, 2, (0, 0, 0)), (9, .iadd, 1, (0, 0, 0)), (10, .sipush 940, 3, (0, 0, 0)), (13, .if_icmp .le 5, 3, (0, 0, 0))]
theorem K14_7 : zRk 14 B14_7 = true := by decide +kernel
/-- EchoVale.feed(IIIII)I -/
def F14 (v1 : Int) (v2 : Int) (v3 : Int) (v4 : Int) (v5 : Int) (h : zHC) : Option (Int × zHC) := if (wadd (h 321 0 0) 20) ≤ 940 then (F15 v1 h).bind fun r1 => (F15 v2 r1).bind fun r2 => (F15 v3 r2).bind fun r3 => (F15 v4 r3).bind fun r4 => (F15 v5 r4).bind fun r5 => some ((r5 321 0 0), r5) else some ((-1), h)
set_option maxRecDepth 100000 in
theorem S14 {spec : zRn zH2} {hm : zHM} {o : Int → Int} {d : Nat} (hd : 2 ≤ d) (v1 : Int) (v2 : Int) (v3 : Int) (v4 : Int) (v5 : Int) (h : zHC) (v : (Int × zHC)) (e : F14 v1 v2 v3 v4 v5 h = some v) : zRu2 spec d 14 [(21, 0), (0, v1), (0, v2), (0, v3), (0, v4), (0, v5)] (h, hm, o) (some (0, v.1)) (v.2, hm, o) := by
  refine zF_in (D := 1) (mx := 6) (L := [some (21, 0), some (0, v1), some (0, v2), some (0, v3), some (0, v4), some (0, v5)]) (by decide +kernel) rfl rfl hd (fun d hd => ?_)
  unfold F14 at e
  rcases zI_s e with ⟨q1, e⟩ | ⟨q1, e⟩
  · refine zF_blk (m := []) (d := 1) (b := B14_7) (gs := [(wadd (h 321 0 0) 20) ≤ 940]) (c' := (18, [some (21, 0), some (0, v1), some (0, v2), some (0, v3), some (0, v4), some (0, v5)], [], (h, hm, o))) K14_7 rfl ⟨q1, trivial⟩ ?_
    obtain ⟨r1, q2, e⟩ := zB_s e
    refine zF_blk (m := []) (d := 0) (b := B14_0) (gs := []) (c' := (23, [some (21, 0), some (0, v1), some (0, v2), some (0, v3), some (0, v4), some (0, v5)], [(0, v1), (15, 0)], (h, hm, o))) K14_0 rfl trivial ?_
    refine zF_call (k := 15) (cl := 5) (n := 2) (i := .invokevirtual 108) (args := [(15, 0), (0, v1)]) (rest := []) (g1 := (r1, hm, o)) (r1 := none) (by decide +kernel) rfl rfl rfl (st' := []) rfl (S15 (Nat.le_trans (by decide) hd) v1 h _ q2) ?_
    obtain ⟨r2, q3, e⟩ := zB_s e
    refine zF_blk (m := []) (d := 0) (b := B14_1) (gs := []) (c' := (31, [some (21, 0), some (0, v1), some (0, v2), some (0, v3), some (0, v4), some (0, v5)], [(0, v2), (15, 0)], (r1, hm, o))) K14_1 rfl trivial ?_
    refine zF_call (k := 15) (cl := 5) (n := 2) (i := .invokevirtual 108) (args := [(15, 0), (0, v2)]) (rest := []) (g1 := (r2, hm, o)) (r1 := none) (by decide +kernel) rfl rfl rfl (st' := []) rfl (S15 (Nat.le_trans (by decide) hd) v2 r1 _ q3) ?_
    obtain ⟨r3, q4, e⟩ := zB_s e
    refine zF_blk (m := []) (d := 0) (b := B14_2) (gs := []) (c' := (39, [some (21, 0), some (0, v1), some (0, v2), some (0, v3), some (0, v4), some (0, v5)], [(0, v3), (15, 0)], (r2, hm, o))) K14_2 rfl trivial ?_
    refine zF_call (k := 15) (cl := 5) (n := 2) (i := .invokevirtual 108) (args := [(15, 0), (0, v3)]) (rest := []) (g1 := (r3, hm, o)) (r1 := none) (by decide +kernel) rfl rfl rfl (st' := []) rfl (S15 (Nat.le_trans (by decide) hd) v3 r2 _ q4) ?_
    obtain ⟨r4, q5, e⟩ := zB_s e
    refine zF_blk (m := []) (d := 0) (b := B14_3) (gs := []) (c' := (48, [some (21, 0), some (0, v1), some (0, v2), some (0, v3), some (0, v4), some (0, v5)], [(0, v4), (15, 0)], (r3, hm, o))) K14_3 rfl trivial ?_
    refine zF_call (k := 15) (cl := 5) (n := 2) (i := .invokevirtual 108) (args := [(15, 0), (0, v4)]) (rest := []) (g1 := (r4, hm, o)) (r1 := none) (by decide +kernel) rfl rfl rfl (st' := []) rfl (S15 (Nat.le_trans (by decide) hd) v4 r3 _ q5) ?_
    obtain ⟨r5, q6, e⟩ := zB_s e
    refine zF_blk (m := []) (d := 0) (b := B14_4) (gs := []) (c' := (57, [some (21, 0), some (0, v1), some (0, v2), some (0, v3), some (0, v4), some (0, v5)], [(0, v5), (15, 0)], (r4, hm, o))) K14_4 rfl trivial ?_
    refine zF_call (k := 15) (cl := 5) (n := 2) (i := .invokevirtual 108) (args := [(15, 0), (0, v5)]) (rest := []) (g1 := (r5, hm, o)) (r1 := none) (by decide +kernel) rfl rfl rfl (st' := []) rfl (S15 (Nat.le_trans (by decide) hd) v5 r4 _ q6) ?_
    refine zF_blk (m := []) (d := 0) (b := B14_5) (gs := []) (c' := (67, [some (21, 0), some (0, v1), some (0, v2), some (0, v3), some (0, v4), some (0, v5)], [(0, (r5 321 0 0))], (r5, hm, o))) K14_5 rfl trivial ?_
    exact zF_riC (by decide +kernel) e
  · refine zF_blk (m := []) (d := 0) (b := B14_7) (gs := [¬ ((wadd (h 321 0 0) 20) ≤ 940)]) (c' := (16, [some (21, 0), some (0, v1), some (0, v2), some (0, v3), some (0, v4), some (0, v5)], [], (h, hm, o))) K14_7 rfl ⟨q1, trivial⟩ ?_
    refine zF_blk (m := []) (d := 0) (b := B14_6) (gs := []) (c' := (17, [some (21, 0), some (0, v1), some (0, v2), some (0, v3), some (0, v4), some (0, v5)], [(0, (-1))], (h, hm, o))) K14_6 rfl trivial ?_
    exact zF_riC (by decide +kernel) e
def B171_0 : List zRow := [(0, .bipush 24, 2, (0, 0, 0)), (2, .istore_n 2, 1, (0, 0, 0))]
theorem K171_0 : zRk 171 B171_0 = true := by decide +kernel
def B171_1 : List zRow := [(7, .aload_n 0, 1, (0, 0, 0)), (8, .getfield 7, 3, (12, 1, 5246642)), (11, .aload_n 0, 1, (0, 0, 0)), (12, .getfield 85, 3, (12, 2, 0)), (15, .iload_n 1, 1, (0, 0, 0)), (16, .iload_n 2, 1, (0, 0, 0)), (17, .iushr, 1, (0, 0, 0)), (18, .sipush 255, 3, (0, 0, 0)), (21, .iand, 1, (0, 0, 0)), (22, .iastore, 1, (0, 0, 0)), (23, .aload_n 0, 1, (0, 0, 0)), (24, .dup, 1, (0, 0, 0)), (25, .getfield 85, 3, (12, 2, 0)), (28, .iconst 1, 1, (0, 0, 0)), (29, .iadd, 1, (0, 0, 0)), (30, .putfield 85, 3, (12, 2, 0)), (33, .iinc 2 (-8), 3, (0, 0, 0)), (36, .goto (-33), 3, (0, 0, 0))]
theorem K171_1 : zRk 171 B171_1 = true := by decide +kernel
def B171_2 : List zRow := [(3, .iload_n 2, 1, (0, 0, 0)), (4, .ifCond .lt 35, 3, (0, 0, 0))]
theorem K171_2 : zRk 171 B171_2 = true := by decide +kernel
def F171_0 : Nat → Int → Int → zHM → Option zHM
  | 0, _, _, _ => none
  | n + 1, v1, v2, h => if v2 < 0 then some h else zG (0 ≤ (h 2 0) ∧ (h 2 0) < 940) ((F171_0 n) v1 (wadd v2 (-8)) (mset (mset h 1 (h 2 0) (wand (wushr v1 v2) 255)) 2 0 (wadd (h 2 0) 1)))
set_option maxRecDepth 100000 in
theorem T171_0 {spec : zRn zH2} {hc : zHC} {o : Int → Int} {d : Nat} (hd : 0 ≤ d) : ∀ (n : Nat) (v1 : Int) (v2 : Int) (h : zHM) (v : zHM), F171_0 n v1 v2 h = some v → zFin 0 (fun _ => 0) (zRu2 spec d) 171 none (hc, v, o) (3, [some (22, 0), some (0, v1), some (0, v2)], [], (hc, h, o)) := by
  intro n
  induction n with
  | zero => intro v1 v2 h v e; unfold F171_0 at e; cases e
  | succ n hk0 =>
    intro v1 v2 h v e
    unfold F171_0 at e
    rcases zI_s e with ⟨q1, e⟩ | ⟨q1, e⟩
    · refine zF_blk (m := []) (d := 1) (b := B171_2) (gs := [v2 < 0]) (c' := (39, [some (22, 0), some (0, v1), some (0, v2)], [], (hc, h, o))) K171_2 rfl ⟨q1, trivial⟩ ?_
      obtain rfl := Option.some.inj e
      exact zF_rv (by decide +kernel)
    · refine zF_blk (m := []) (d := 0) (b := B171_2) (gs := [¬ (v2 < 0)]) (c' := (7, [some (22, 0), some (0, v1), some (0, v2)], [], (hc, h, o))) K171_2 rfl ⟨q1, trivial⟩ ?_
      obtain ⟨q2, e⟩ := zG_s e
      refine zF_blk (m := []) (d := 0) (b := B171_1) (gs := [0 ≤ (h 2 0) ∧ (h 2 0) < 940]) (c' := (3, [some (22, 0), some (0, v1), some (0, (wadd v2 (-8)))], [], (hc, (mset (mset h 1 (h 2 0) (wand (wushr v1 v2) 255)) 2 0 (wadd (h 2 0) 1)), o))) K171_1 rfl ⟨q2, trivial⟩ ?_
      exact hk0 v1 (wadd v2 (-8)) (mset (mset h 1 (h 2 0) (wand (wushr v1 v2) 255)) 2 0 (wadd (h 2 0) 1)) _ e
/-- EchoValeModel.come(I)V -/
def F171 (v1 : Int) (h : zHM) : Option zHM := F171_0 zFu v1 24 h
set_option maxRecDepth 100000 in
theorem S171 {spec : zRn zH2} {hc : zHC} {o : Int → Int} {d : Nat} (hd : 1 ≤ d) (v1 : Int) (h : zHM) (v : zHM) (e : F171 v1 h = some v) : zRu2 spec d 171 [(22, 0), (0, v1)] (hc, h, o) none (hc, v, o) := by
  refine zF_in (D := 0) (mx := 3) (L := [some (22, 0), some (0, v1), none]) (by decide +kernel) rfl rfl hd (fun d hd => ?_)
  unfold F171 at e
  refine zF_blk (m := []) (d := 0) (b := B171_0) (gs := []) (c' := (3, [some (22, 0), some (0, v1), some (0, 24)], [], (hc, h, o))) K171_0 rfl trivial ?_
  exact T171_0 hd zFu v1 24 h _ e
def B170_0 : List zRow := [(20, .aload_n 0, 1, (0, 0, 0)), (21, .iload_n 1, 1, (0, 0, 0))]
theorem K170_0 : zRk 170 B170_0 = true := by decide +kernel
def B170_1 : List zRow := [(25, .aload_n 0, 1, (0, 0, 0)), (26, .iload_n 2, 1, (0, 0, 0))]
theorem K170_1 : zRk 170 B170_1 = true := by decide +kernel
def B170_2 : List zRow := [(30, .aload_n 0, 1, (0, 0, 0)), (31, .iload_n 3, 1, (0, 0, 0))]
theorem K170_2 : zRk 170 B170_2 = true := by decide +kernel
def B170_3 : List zRow := [(35, .aload_n 0, 1, (0, 0, 0)), (36, .iload 4, 2, (0, 0, 0))]
theorem K170_3 : zRk 170 B170_3 = true := by decide +kernel
def B170_4 : List zRow := [(41, .aload_n 0, 1, (0, 0, 0)), (42, .iload 5, 2, (0, 0, 0))]
theorem K170_4 : zRk 170 B170_4 = true := by decide +kernel
def B170_5 : List zRow := [(47, .aload_n 0, 1, (0, 0, 0)), (48, .getfield 85, 3, (12, 2, 0))]
theorem K170_5 : zRk 170 B170_5 = true := by decide +kernel
def B170_6 : List zRow := [(18, .iconst (-1), 1, (0, 0, 0))]
theorem K170_6 : zRk 170 B170_6 = true := by decide +kernel
def B170_7 : List zRow := [(0, .aload_n 0, 1, (0, 0, 0)), (1, .iconst 0, 1, (0, 0, 0)), (2, .putfield 81, 3, (12, 0, 0)), (5, .aload_n 0, 1, (0, 0, 0)), (6, .getfield 85, 3, (12, 2, 0)), (9, .bipush 20, 2, (0, 0, 0)), (11, .iadd, 1, (0, 0, 0)), (12, .sipush 940, 3, (0, 0, 0)), (15, .if_icmp .le 5, 3, (0, 0, 0))]
theorem K170_7 : zRk 170 B170_7 = true := by decide +kernel
/-- EchoValeModel.feed(IIIII)I -/
def F170 (v1 : Int) (v2 : Int) (v3 : Int) (v4 : Int) (v5 : Int) (h : zHM) : Option (Int × zHM) := if (wadd (h 2 0) 20) ≤ 940 then (F171 v1 (mset h 0 0 0)).bind fun r1 => (F171 v2 r1).bind fun r2 => (F171 v3 r2).bind fun r3 => (F171 v4 r3).bind fun r4 => (F171 v5 r4).bind fun r5 => some ((r5 2 0), r5) else some ((-1), (mset h 0 0 0))
set_option maxRecDepth 100000 in
theorem S170 {spec : zRn zH2} {hc : zHC} {o : Int → Int} {d : Nat} (hd : 2 ≤ d) (v1 : Int) (v2 : Int) (v3 : Int) (v4 : Int) (v5 : Int) (h : zHM) (v : (Int × zHM)) (e : F170 v1 v2 v3 v4 v5 h = some v) : zRu2 spec d 170 [(22, 0), (0, v1), (0, v2), (0, v3), (0, v4), (0, v5)] (hc, h, o) (some (0, v.1)) (hc, v.2, o) := by
  refine zF_in (D := 1) (mx := 6) (L := [some (22, 0), some (0, v1), some (0, v2), some (0, v3), some (0, v4), some (0, v5)]) (by decide +kernel) rfl rfl hd (fun d hd => ?_)
  unfold F170 at e
  rcases zI_s e with ⟨q1, e⟩ | ⟨q1, e⟩
  · refine zF_blk (m := []) (d := 1) (b := B170_7) (gs := [(wadd (h 2 0) 20) ≤ 940]) (c' := (20, [some (22, 0), some (0, v1), some (0, v2), some (0, v3), some (0, v4), some (0, v5)], [], (hc, (mset h 0 0 0), o))) K170_7 rfl ⟨q1, trivial⟩ ?_
    obtain ⟨r1, q2, e⟩ := zB_s e
    refine zF_blk (m := []) (d := 0) (b := B170_0) (gs := []) (c' := (22, [some (22, 0), some (0, v1), some (0, v2), some (0, v3), some (0, v4), some (0, v5)], [(0, v1), (22, 0)], (hc, (mset h 0 0 0), o))) K170_0 rfl trivial ?_
    refine zF_call (k := 171) (cl := 12) (n := 2) (i := .invokevirtual 88) (args := [(22, 0), (0, v1)]) (rest := []) (g1 := (hc, r1, o)) (r1 := none) (by decide +kernel) rfl rfl rfl (st' := []) rfl (S171 (Nat.le_trans (by decide) hd) v1 (mset h 0 0 0) _ q2) ?_
    obtain ⟨r2, q3, e⟩ := zB_s e
    refine zF_blk (m := []) (d := 0) (b := B170_1) (gs := []) (c' := (27, [some (22, 0), some (0, v1), some (0, v2), some (0, v3), some (0, v4), some (0, v5)], [(0, v2), (22, 0)], (hc, r1, o))) K170_1 rfl trivial ?_
    refine zF_call (k := 171) (cl := 12) (n := 2) (i := .invokevirtual 88) (args := [(22, 0), (0, v2)]) (rest := []) (g1 := (hc, r2, o)) (r1 := none) (by decide +kernel) rfl rfl rfl (st' := []) rfl (S171 (Nat.le_trans (by decide) hd) v2 r1 _ q3) ?_
    obtain ⟨r3, q4, e⟩ := zB_s e
    refine zF_blk (m := []) (d := 0) (b := B170_2) (gs := []) (c' := (32, [some (22, 0), some (0, v1), some (0, v2), some (0, v3), some (0, v4), some (0, v5)], [(0, v3), (22, 0)], (hc, r2, o))) K170_2 rfl trivial ?_
    refine zF_call (k := 171) (cl := 12) (n := 2) (i := .invokevirtual 88) (args := [(22, 0), (0, v3)]) (rest := []) (g1 := (hc, r3, o)) (r1 := none) (by decide +kernel) rfl rfl rfl (st' := []) rfl (S171 (Nat.le_trans (by decide) hd) v3 r2 _ q4) ?_
    obtain ⟨r4, q5, e⟩ := zB_s e
    refine zF_blk (m := []) (d := 0) (b := B170_3) (gs := []) (c' := (38, [some (22, 0), some (0, v1), some (0, v2), some (0, v3), some (0, v4), some (0, v5)], [(0, v4), (22, 0)], (hc, r3, o))) K170_3 rfl trivial ?_
    refine zF_call (k := 171) (cl := 12) (n := 2) (i := .invokevirtual 88) (args := [(22, 0), (0, v4)]) (rest := []) (g1 := (hc, r4, o)) (r1 := none) (by decide +kernel) rfl rfl rfl (st' := []) rfl (S171 (Nat.le_trans (by decide) hd) v4 r3 _ q5) ?_
    obtain ⟨r5, q6, e⟩ := zB_s e
    refine zF_blk (m := []) (d := 0) (b := B170_4) (gs := []) (c' := (44, [some (22, 0), some (0, v1), some (0, v2), some (0, v3), some (0, v4), some (0, v5)], [(0, v5), (22, 0)], (hc, r4, o))) K170_4 rfl trivial ?_
    refine zF_call (k := 171) (cl := 12) (n := 2) (i := .invokevirtual 88) (args := [(22, 0), (0, v5)]) (rest := []) (g1 := (hc, r5, o)) (r1 := none) (by decide +kernel) rfl rfl rfl (st' := []) rfl (S171 (Nat.le_trans (by decide) hd) v5 r4 _ q6) ?_
    refine zF_blk (m := []) (d := 0) (b := B170_5) (gs := []) (c' := (51, [some (22, 0), some (0, v1), some (0, v2), some (0, v3), some (0, v4), some (0, v5)], [(0, (r5 2 0))], (hc, r5, o))) K170_5 rfl trivial ?_
    exact zF_riM (by decide +kernel) e
  · refine zF_blk (m := []) (d := 0) (b := B170_7) (gs := [¬ ((wadd (h 2 0) 20) ≤ 940)]) (c' := (18, [some (22, 0), some (0, v1), some (0, v2), some (0, v3), some (0, v4), some (0, v5)], [], (hc, (mset h 0 0 0), o))) K170_7 rfl ⟨q1, trivial⟩ ?_
    refine zF_blk (m := []) (d := 0) (b := B170_6) (gs := []) (c' := (19, [some (22, 0), some (0, v1), some (0, v2), some (0, v3), some (0, v4), some (0, v5)], [(0, (-1))], (hc, (mset h 0 0 0), o))) K170_6 rfl trivial ?_
    exact zF_riM (by decide +kernel) e
def B16_0 : List zRow := [(15, .iconst 0, 1, (0, 0, 0))]
theorem K16_0 : zRk 16 B16_0 = true := by decide +kernel
def B16_1 : List zRow := [(17, .aload_n 0, 1, (0, 0, 0)), (18, .getfield 12, 3, (11, 0, 23)), (21, .iload_n 1, 1, (0, 0, 0)), (22, .putfield 105, 3, (5, 1, 0)), (25, .iconst 1, 1, (0, 0, 0))]
theorem K16_1 : zRk 16 B16_1 = true := by decide +kernel
def B16_2 : List zRow := [(4, .iload_n 1, 1, (0, 0, 0)), (5, .aload_n 0, 1, (0, 0, 0)), (6, .getfield 12, 3, (11, 0, 23)), (9, .getfield 105, 3, (5, 1, 0)), (12, .if_icmp .le 5, 3, (0, 0, 0))]
theorem K16_2 : zRk 16 B16_2 = true := by decide +kernel
def B16_3 : List zRow := [(0, .iload_n 1, 1, (0, 0, 0)), (1, .ifCond .lt 14, 3, (0, 0, 0))]
theorem K16_3 : zRk 16 B16_3 = true := by decide +kernel
/-- EchoVale.end(I)Z -/
def F16 (v1 : Int) (h : zHC) : Option (Int × zHC) := if v1 < 0 then some (0, h) else if v1 ≤ (h 321 0 0) then some (1, (hset h 321 0 0 v1)) else some (0, h)
set_option maxRecDepth 100000 in
theorem S16 {spec : zRn zH2} {hm : zHM} {o : Int → Int} {d : Nat} (hd : 1 ≤ d) (v1 : Int) (h : zHC) (v : (Int × zHC)) (e : F16 v1 h = some v) : zRu2 spec d 16 [(21, 0), (0, v1)] (h, hm, o) (some (0, v.1)) (v.2, hm, o) := by
  refine zF_in (D := 0) (mx := 2) (L := [some (21, 0), some (0, v1)]) (by decide +kernel) rfl rfl hd (fun d hd => ?_)
  unfold F16 at e
  rcases zI_s e with ⟨q1, e⟩ | ⟨q1, e⟩
  · refine zF_blk (m := []) (d := 1) (b := B16_3) (gs := [v1 < 0]) (c' := (15, [some (21, 0), some (0, v1)], [], (h, hm, o))) K16_3 rfl ⟨q1, trivial⟩ ?_
    refine zF_blk (m := []) (d := 0) (b := B16_0) (gs := []) (c' := (16, [some (21, 0), some (0, v1)], [(0, 0)], (h, hm, o))) K16_0 rfl trivial ?_
    exact zF_rbC (by decide +kernel) (Or.inl rfl) e
  · refine zF_blk (m := []) (d := 0) (b := B16_3) (gs := [¬ (v1 < 0)]) (c' := (4, [some (21, 0), some (0, v1)], [], (h, hm, o))) K16_3 rfl ⟨q1, trivial⟩ ?_
    rcases zI_s e with ⟨q2, e⟩ | ⟨q2, e⟩
    · refine zF_blk (m := []) (d := 1) (b := B16_2) (gs := [v1 ≤ (h 321 0 0)]) (c' := (17, [some (21, 0), some (0, v1)], [], (h, hm, o))) K16_2 rfl ⟨q2, trivial⟩ ?_
      refine zF_blk (m := []) (d := 0) (b := B16_1) (gs := []) (c' := (26, [some (21, 0), some (0, v1)], [(0, 1)], ((hset h 321 0 0 v1), hm, o))) K16_1 rfl trivial ?_
      exact zF_rbC (by decide +kernel) (Or.inr rfl) e
    · refine zF_blk (m := []) (d := 0) (b := B16_2) (gs := [¬ (v1 ≤ (h 321 0 0))]) (c' := (15, [some (21, 0), some (0, v1)], [], (h, hm, o))) K16_2 rfl ⟨q2, trivial⟩ ?_
      refine zF_blk (m := []) (d := 0) (b := B16_0) (gs := []) (c' := (16, [some (21, 0), some (0, v1)], [(0, 0)], (h, hm, o))) K16_0 rfl trivial ?_
      exact zF_rbC (by decide +kernel) (Or.inl rfl) e
def B172_0 : List zRow := [(17, .iconst 0, 1, (0, 0, 0))]
theorem K172_0 : zRk 172 B172_0 = true := by decide +kernel
def B172_1 : List zRow := [(19, .aload_n 0, 1, (0, 0, 0)), (20, .iload_n 1, 1, (0, 0, 0)), (21, .putfield 85, 3, (12, 2, 0)), (24, .iconst 1, 1, (0, 0, 0))]
theorem K172_1 : zRk 172 B172_1 = true := by decide +kernel
def B172_2 : List zRow := [(9, .iload_n 1, 1, (0, 0, 0)), (10, .aload_n 0, 1, (0, 0, 0)), (11, .getfield 85, 3, (12, 2, 0)), (14, .if_icmp .le 5, 3, (0, 0, 0))]
theorem K172_2 : zRk 172 B172_2 = true := by decide +kernel
def B172_3 : List zRow := [(0, .aload_n 0, 1, (0, 0, 0)), (1, .iconst 0, 1, (0, 0, 0)), (2, .putfield 81, 3, (12, 0, 0)), (5, .iload_n 1, 1, (0, 0, 0)), (6, .ifCond .lt 11, 3, (0, 0, 0))]
theorem K172_3 : zRk 172 B172_3 = true := by decide +kernel
/-- EchoValeModel.end(I)Z -/
def F172 (v1 : Int) (h : zHM) : Option (Int × zHM) := if v1 < 0 then some (0, (mset h 0 0 0)) else if v1 ≤ (h 2 0) then some (1, (mset (mset h 0 0 0) 2 0 v1)) else some (0, (mset h 0 0 0))
set_option maxRecDepth 100000 in
theorem S172 {spec : zRn zH2} {hc : zHC} {o : Int → Int} {d : Nat} (hd : 1 ≤ d) (v1 : Int) (h : zHM) (v : (Int × zHM)) (e : F172 v1 h = some v) : zRu2 spec d 172 [(22, 0), (0, v1)] (hc, h, o) (some (0, v.1)) (hc, v.2, o) := by
  refine zF_in (D := 0) (mx := 2) (L := [some (22, 0), some (0, v1)]) (by decide +kernel) rfl rfl hd (fun d hd => ?_)
  unfold F172 at e
  rcases zI_s e with ⟨q1, e⟩ | ⟨q1, e⟩
  · refine zF_blk (m := []) (d := 1) (b := B172_3) (gs := [v1 < 0]) (c' := (17, [some (22, 0), some (0, v1)], [], (hc, (mset h 0 0 0), o))) K172_3 rfl ⟨q1, trivial⟩ ?_
    refine zF_blk (m := []) (d := 0) (b := B172_0) (gs := []) (c' := (18, [some (22, 0), some (0, v1)], [(0, 0)], (hc, (mset h 0 0 0), o))) K172_0 rfl trivial ?_
    exact zF_rbM (by decide +kernel) (Or.inl rfl) e
  · refine zF_blk (m := []) (d := 0) (b := B172_3) (gs := [¬ (v1 < 0)]) (c' := (9, [some (22, 0), some (0, v1)], [], (hc, (mset h 0 0 0), o))) K172_3 rfl ⟨q1, trivial⟩ ?_
    rcases zI_s e with ⟨q2, e⟩ | ⟨q2, e⟩
    · refine zF_blk (m := []) (d := 1) (b := B172_2) (gs := [v1 ≤ (h 2 0)]) (c' := (19, [some (22, 0), some (0, v1)], [], (hc, (mset h 0 0 0), o))) K172_2 rfl ⟨q2, trivial⟩ ?_
      refine zF_blk (m := []) (d := 0) (b := B172_1) (gs := []) (c' := (25, [some (22, 0), some (0, v1)], [(0, 1)], (hc, (mset (mset h 0 0 0) 2 0 v1), o))) K172_1 rfl trivial ?_
      exact zF_rbM (by decide +kernel) (Or.inr rfl) e
    · refine zF_blk (m := []) (d := 0) (b := B172_2) (gs := [¬ (v1 ≤ (h 2 0))]) (c' := (17, [some (22, 0), some (0, v1)], [], (hc, (mset h 0 0 0), o))) K172_2 rfl ⟨q2, trivial⟩ ?_
      refine zF_blk (m := []) (d := 0) (b := B172_0) (gs := []) (c' := (18, [some (22, 0), some (0, v1)], [(0, 0)], (hc, (mset h 0 0 0), o))) K172_0 rfl trivial ?_
      exact zF_rbM (by decide +kernel) (Or.inl rfl) e
def B19_0 : List zRow := [(0, .aload_n 0, 1, (0, 0, 0)), (1, .iconst 0, 1, (0, 0, 0)), (2, .putfield 52, 3, (9, 0, 0)), (5, .aload_n 0, 1, (0, 0, 0)), (6, .iconst 0, 1, (0, 0, 0)), (7, .putfield 56, 3, (9, 1, 0)), (10, .aload_n 0, 1, (0, 0, 0)), (11, .iconst 0, 1, (0, 0, 0)), (12, .putfield 59, 3, (9, 2, 0)), (15, .aload_n 0, 1, (0, 0, 0)), (16, .iconst 0, 1, (0, 0, 0)), (17, .putfield 62, 3, (9, 3, 0)), (20, .aload_n 0, 1, (0, 0, 0)), (21, .iconst 0, 1, (0, 0, 0)), (22, .putfield 65, 3, (9, 4, 0)), (25, .aload_n 0, 1, (0, 0, 0)), (26, .iconst 0, 1, (0, 0, 0)), (27, .putfield 68, 3, (9, 5, 0)), (30, .aload_n 0, 1, (0, 0, 0)), (31, .iconst 0, 1, (0, 0, 0)), (32, .putfield 71, 3, (9, 6, 0))]
theorem K19_0 : zRk 19 B19_0 = true := by decide +kernel
/-- EchoVale$Valley.clear()V -/
def F19 (v0 : Int) (h : zHC) : Option zHC := some (hset (hset (hset (hset (hset (hset (hset h 576 v0 0 0) 577 v0 0 0) 578 v0 0 0) 579 v0 0 0) 580 v0 0 0) 581 v0 0 0) 582 v0 0 0)
set_option maxRecDepth 100000 in
theorem S19 {spec : zRn zH2} {hm : zHM} {o : Int → Int} {d : Nat} (hd : 1 ≤ d) (v0 : Int) (h : zHC) (v : zHC) (e : F19 v0 h = some v) : zRu2 spec d 19 [(19, v0)] (h, hm, o) none (v, hm, o) := by
  refine zF_in (D := 0) (mx := 1) (L := [some (19, v0)]) (by decide +kernel) rfl rfl hd (fun d hd => ?_)
  unfold F19 at e
  refine zF_blk (m := []) (d := 0) (b := B19_0) (gs := []) (c' := (35, [some (19, v0)], [], ((hset (hset (hset (hset (hset (hset (hset h 576 v0 0 0) 577 v0 0 0) 578 v0 0 0) 579 v0 0 0) 580 v0 0 0) 581 v0 0 0) 582 v0 0 0), hm, o))) K19_0 rfl trivial ?_
  obtain rfl := Option.some.inj e
  exact zF_rv (by decide +kernel)
def B23_0 : List zRow := [(16, .iconst 0, 1, (0, 0, 0))]
theorem K23_0 : zRk 23 B23_0 = true := by decide +kernel
def B23_1 : List zRow := [(6, .iload_n 0, 1, (0, 0, 0)), (7, .bipush 10, 2, (0, 0, 0)), (9, .if_icmp .ne 7, 3, (0, 0, 0))]
theorem K23_1 : zRk 23 B23_1 = true := by decide +kernel
def B23_2 : List zRow := [(0, .iload_n 0, 1, (0, 0, 0)), (1, .bipush 32, 2, (0, 0, 0)), (3, .if_icmp .eq 9, 3, (0, 0, 0))]
theorem K23_2 : zRk 23 B23_2 = true := by decide +kernel
def B23_3 : List zRow := [(12, .iconst 1, 1, (0, 0, 0)), (13, .goto 4, 3, (0, 0, 0))]
theorem K23_3 : zRk 23 B23_3 = true := by decide +kernel
def F23_0 : Option Int := some 1
set_option maxRecDepth 100000 in
theorem T23_0 {spec : zRn zH2} {hm : zHM} {o : Int → Int} {d : Nat} (hd : 0 ≤ d) (h : zHC) (v : Int) (e : F23_0 = some v) : zFin 0 (fun _ => 0) (zRu2 spec d) 23 (some (0, v)) (h, hm, o) (12, [none], [], (h, hm, o)) := by
  unfold F23_0 at e
  refine zF_blk (m := []) (d := 0) (b := B23_3) (gs := []) (c' := (17, [none], [(0, 1)], (h, hm, o))) K23_3 rfl trivial ?_
  obtain rfl := Option.some.inj e
  exact zF_rb (by decide +kernel) (Or.inr rfl)
/-- EchoVale$Reader.isBlank(I)Z -/
def F23 (v0 : Int) : Option Int := if v0 = 32 then F23_0 else if ¬ v0 = 10 then some 0 else F23_0
set_option maxRecDepth 100000 in
theorem S23 {spec : zRn zH2} {hm : zHM} {o : Int → Int} {d : Nat} (hd : 1 ≤ d) (v0 : Int) (h : zHC) (v : Int) (e : F23 v0 = some v) : zRu2 spec d 23 [(0, v0)] (h, hm, o) (some (0, v)) (h, hm, o) := by
  refine zF_in (D := 0) (mx := 1) (L := [some (0, v0)]) (by decide +kernel) rfl rfl hd (fun d hd => ?_)
  unfold F23 at e
  rcases zI_s e with ⟨q1, e⟩ | ⟨q1, e⟩
  · refine zF_blk (m := []) (d := 1) (b := B23_2) (gs := [v0 = 32]) (c' := (12, [some (0, v0)], [], (h, hm, o))) K23_2 rfl ⟨q1, trivial⟩ ?_
    refine zF_blk (m := [false]) (d := 0) (b := []) (gs := []) (c' := (12, [none], [], (h, hm, o))) rfl rfl trivial ?_
    exact T23_0 hd h _ e
  · refine zF_blk (m := []) (d := 0) (b := B23_2) (gs := [¬ (v0 = 32)]) (c' := (6, [some (0, v0)], [], (h, hm, o))) K23_2 rfl ⟨q1, trivial⟩ ?_
    rcases zI_s e with ⟨q2, e⟩ | ⟨q2, e⟩
    · refine zF_blk (m := []) (d := 1) (b := B23_1) (gs := [¬ v0 = 10]) (c' := (16, [some (0, v0)], [], (h, hm, o))) K23_1 rfl ⟨q2, trivial⟩ ?_
      refine zF_blk (m := []) (d := 0) (b := B23_0) (gs := []) (c' := (17, [some (0, v0)], [(0, 0)], (h, hm, o))) K23_0 rfl trivial ?_
      obtain rfl := Option.some.inj e
      exact zF_rb (by decide +kernel) (Or.inl rfl)
    · refine zF_blk (m := []) (d := 0) (b := B23_1) (gs := [¬ (¬ v0 = 10)]) (c' := (12, [some (0, v0)], [], (h, hm, o))) K23_1 rfl ⟨q2, trivial⟩ ?_
      refine zF_blk (m := [false]) (d := 0) (b := []) (gs := []) (c' := (12, [none], [], (h, hm, o))) rfl rfl trivial ?_
      exact T23_0 hd h _ e
def B24_0 : List zRow := [(16, .iconst 0, 1, (0, 0, 0))]
theorem K24_0 : zRk 24 B24_0 = true := by decide +kernel
def B24_1 : List zRow := [(12, .iconst 1, 1, (0, 0, 0)), (13, .goto 4, 3, (0, 0, 0))]
theorem K24_1 : zRk 24 B24_1 = true := by decide +kernel
def B24_2 : List zRow := [(6, .iload_n 0, 1, (0, 0, 0)), (7, .bipush 122, 2, (0, 0, 0)), (9, .if_icmp .gt 7, 3, (0, 0, 0))]
theorem K24_2 : zRk 24 B24_2 = true := by decide +kernel
def B24_3 : List zRow := [(0, .iload_n 0, 1, (0, 0, 0)), (1, .bipush 97, 2, (0, 0, 0)), (3, .if_icmp .lt 13, 3, (0, 0, 0))]
theorem K24_3 : zRk 24 B24_3 = true := by decide +kernel
/-- EchoVale$Reader.isLetter(I)Z -/
def F24 (v0 : Int) : Option Int := if v0 < 97 then some 0 else if 122 < v0 then some 0 else some 1
set_option maxRecDepth 100000 in
theorem S24 {spec : zRn zH2} {hm : zHM} {o : Int → Int} {d : Nat} (hd : 1 ≤ d) (v0 : Int) (h : zHC) (v : Int) (e : F24 v0 = some v) : zRu2 spec d 24 [(0, v0)] (h, hm, o) (some (0, v)) (h, hm, o) := by
  refine zF_in (D := 0) (mx := 1) (L := [some (0, v0)]) (by decide +kernel) rfl rfl hd (fun d hd => ?_)
  unfold F24 at e
  rcases zI_s e with ⟨q1, e⟩ | ⟨q1, e⟩
  · refine zF_blk (m := []) (d := 1) (b := B24_3) (gs := [v0 < 97]) (c' := (16, [some (0, v0)], [], (h, hm, o))) K24_3 rfl ⟨q1, trivial⟩ ?_
    refine zF_blk (m := []) (d := 0) (b := B24_0) (gs := []) (c' := (17, [some (0, v0)], [(0, 0)], (h, hm, o))) K24_0 rfl trivial ?_
    obtain rfl := Option.some.inj e
    exact zF_rb (by decide +kernel) (Or.inl rfl)
  · refine zF_blk (m := []) (d := 0) (b := B24_3) (gs := [¬ (v0 < 97)]) (c' := (6, [some (0, v0)], [], (h, hm, o))) K24_3 rfl ⟨q1, trivial⟩ ?_
    rcases zI_s e with ⟨q2, e⟩ | ⟨q2, e⟩
    · refine zF_blk (m := []) (d := 1) (b := B24_2) (gs := [122 < v0]) (c' := (16, [some (0, v0)], [], (h, hm, o))) K24_2 rfl ⟨q2, trivial⟩ ?_
      refine zF_blk (m := []) (d := 0) (b := B24_0) (gs := []) (c' := (17, [some (0, v0)], [(0, 0)], (h, hm, o))) K24_0 rfl trivial ?_
      obtain rfl := Option.some.inj e
      exact zF_rb (by decide +kernel) (Or.inl rfl)
    · refine zF_blk (m := []) (d := 0) (b := B24_2) (gs := [¬ (122 < v0)]) (c' := (12, [some (0, v0)], [], (h, hm, o))) K24_2 rfl ⟨q2, trivial⟩ ?_
      refine zF_blk (m := []) (d := 0) (b := B24_1) (gs := []) (c' := (17, [some (0, v0)], [(0, 1)], (h, hm, o))) K24_1 rfl trivial ?_
      obtain rfl := Option.some.inj e
      exact zF_rb (by decide +kernel) (Or.inr rfl)
