/-! Functions of the methods, by wip/gen/lift.py. -/
def B45_0 : List zRow := [(0, .aload_n 0, 1, (0, 0, 0)), (1, .getfield 18, 3, (10, 2, 23))]
theorem K45_0 : zRk 45 B45_0 = true := by decide +kernel
def B45_1 : List zRow := [(7, .aload_n 0, 1, (0, 0, 0)), (8, .getfield 18, 3, (10, 2, 23)), (11, .aload_n 0, 1, (0, 0, 0)), (12, .getfield 12, 3, (10, 0, 167))]
theorem K45_1 : zRk 45 B45_1 = true := by decide +kernel
def B45_2 : List zRow := [(48, .aload_n 0, 1, (0, 0, 0)), (49, .getfield 18, 3, (10, 2, 23))]
theorem K45_2 : zRk 45 B45_2 = true := by decide +kernel
def B45_3 : List zRow := [(55, .aload_n 0, 1, (0, 0, 0))]
theorem K45_3 : zRk 45 B45_3 = true := by decide +kernel
def B45_4 : List zRow := [(67, .aload_n 0, 1, (0, 0, 0)), (68, .getfield 12, 3, (10, 0, 167)), (71, .getfield 129, 3, (9, 13, 5242906)), (74, .iload_n 1, 1, (0, 0, 0)), (75, .iload_n 2, 1, (0, 0, 0)), (76, .iastore, 1, (0, 0, 0)), (77, .aload_n 0, 1, (0, 0, 0)), (78, .getfield 18, 3, (10, 2, 23))]
theorem K45_4 : zRk 45 B45_4 = true := by decide +kernel
def B45_5 : List zRow := [(84, .iconst 1, 1, (0, 0, 0))]
theorem K45_5 : zRk 45 B45_5 = true := by decide +kernel
def B45_6 : List zRow := [(65, .iconst 0, 1, (0, 0, 0))]
theorem K45_6 : zRk 45 B45_6 = true := by decide +kernel
def B45_7 : List zRow := [(59, .istore_n 2, 1, (0, 0, 0)), (60, .iload_n 2, 1, (0, 0, 0)), (61, .iconst (-1), 1, (0, 0, 0)), (62, .if_icmp .ne 5, 3, (0, 0, 0))]
theorem K45_7 : zRk 45 B45_7 = true := by decide +kernel
def B45_8 : List zRow := [(39, .aload_n 0, 1, (0, 0, 0)), (40, .getfield 18, 3, (10, 2, 23)), (43, .iconst 3, 1, (0, 0, 0))]
theorem K45_8 : zRk 45 B45_8 = true := by decide +kernel
def B45_9 : List zRow := [(26, .aload_n 0, 1, (0, 0, 0)), (27, .getfield 12, 3, (10, 0, 167)), (30, .getfield 129, 3, (9, 13, 5242906)), (33, .iload_n 1, 1, (0, 0, 0)), (34, .iaload, 1, (0, 0, 0)), (35, .iconst (-1), 1, (0, 0, 0)), (36, .if_icmp .eq 12, 3, (0, 0, 0))]
theorem K45_9 : zRk 45 B45_9 = true := by decide +kernel
def B45_10 : List zRow := [(24, .iconst 0, 1, (0, 0, 0))]
theorem K45_10 : zRk 45 B45_10 = true := by decide +kernel
def B45_11 : List zRow := [(18, .istore_n 1, 1, (0, 0, 0)), (19, .iload_n 1, 1, (0, 0, 0)), (20, .iconst (-1), 1, (0, 0, 0)), (21, .if_icmp .ne 5, 3, (0, 0, 0))]
theorem K45_11 : zRk 45 B45_11 = true := by decide +kernel
/-- EchoVale$ValleyText.readCamp()Z -/
def F45 (h : zHC) : Option (Int × zHC) := (F21 h).bind fun r1 => (F43 1 r1).bind fun r2 => if ¬ r2.1 = (-1) then zG (0 ≤ r2.1 ∧ r2.1 < 6) (if (r2.2 589 1 r2.1) = (-1) then (F21 r2.2).bind fun r3 => (F39 r3).bind fun r4 => if ¬ r4.1 = (-1) then zG (0 ≤ r2.1 ∧ r2.1 < 6) ((F21 (hset r4.2 589 1 r2.1 r4.1)).bind fun r5 => some (1, r5)) else some (0, r4.2) else (F31 3 r2.2).bind fun r6 => zG (r6.1 = 0 ∨ r6.1 = 1) (some (r6.1, r6.2))) else some (0, r2.2)
set_option maxRecDepth 100000 in
theorem S45 {spec : zRn zH2} {hm : zHM} {o : Int → Int} {d : Nat} (hd : 5 ≤ d) (h : zHC) (v : (Int × zHC)) (e : F45 h = some v) : zRu2 spec d 45 [(20, 0)] (h, hm, o) (some (0, v.1)) (v.2, hm, o) := by
  refine zF_in (D := 4) (mx := 3) (L := [some (20, 0), none, none]) (by decide +kernel) rfl rfl hd (fun d hd => ?_)
  unfold F45 at e
  obtain ⟨r1, q1, e⟩ := zB_s e
  refine zF_blk (m := []) (d := 0) (b := B45_0) (gs := []) (c' := (4, [some (20, 0), none, none], [(15, 0)], (h, hm, o))) K45_0 rfl trivial ?_
  refine zF_call (k := 21) (cl := 5) (n := 1) (i := .invokevirtual 79) (args := [(15, 0)]) (rest := []) (g1 := (r1, hm, o)) (r1 := none) (by decide +kernel) rfl rfl rfl (st' := []) rfl (S21 (Nat.le_trans (by decide) hd)  h _ q1) ?_
  obtain ⟨r2, q2, e⟩ := zB_s e
  refine zF_blk (m := []) (d := 0) (b := B45_1) (gs := []) (c' := (15, [some (20, 0), none, none], [(19, 1), (15, 0)], (r1, hm, o))) K45_1 rfl trivial ?_
  refine zF_call (k := 43) (cl := 5) (n := 2) (i := .invokevirtual 135) (args := [(15, 0), (19, 1)]) (rest := []) (g1 := (r2.2, hm, o)) (r1 := some (0, r2.1)) (by decide +kernel) rfl rfl rfl (st' := [(0, r2.1)]) rfl (S43 (Nat.le_trans (by decide) hd) 1 r1 _ q2) ?_
  rcases zI_s e with ⟨q3, e⟩ | ⟨q3, e⟩
  · refine zF_blk (m := []) (d := 1) (b := B45_11) (gs := [¬ r2.1 = (-1)]) (c' := (26, [some (20, 0), some (0, r2.1), none], [], (r2.2, hm, o))) K45_11 rfl ⟨q3, trivial⟩ ?_
    obtain ⟨q4, e⟩ := zG_s e
    rcases zI_s e with ⟨q5, e⟩ | ⟨q5, e⟩
    · refine zF_blk (m := []) (d := 1) (b := B45_9) (gs := [0 ≤ r2.1 ∧ r2.1 < 6, (r2.2 589 1 r2.1) = (-1)]) (c' := (48, [some (20, 0), some (0, r2.1), none], [], (r2.2, hm, o))) K45_9 rfl ⟨q4, q5, trivial⟩ ?_
      obtain ⟨r3, q6, e⟩ := zB_s e
      refine zF_blk (m := []) (d := 0) (b := B45_2) (gs := []) (c' := (52, [some (20, 0), some (0, r2.1), none], [(15, 0)], (r2.2, hm, o))) K45_2 rfl trivial ?_
      refine zF_call (k := 21) (cl := 5) (n := 1) (i := .invokevirtual 79) (args := [(15, 0)]) (rest := []) (g1 := (r3, hm, o)) (r1 := none) (by decide +kernel) rfl rfl rfl (st' := []) rfl (S21 (Nat.le_trans (by decide) hd)  r2.2 _ q6) ?_
      obtain ⟨r4, q7, e⟩ := zB_s e
      refine zF_blk (m := []) (d := 0) (b := B45_3) (gs := []) (c' := (56, [some (20, 0), some (0, r2.1), none], [(20, 0)], (r3, hm, o))) K45_3 rfl trivial ?_
      refine zF_call (k := 39) (cl := 10) (n := 1) (i := .invokevirtual 99) (args := [(20, 0)]) (rest := []) (g1 := (r4.2, hm, o)) (r1 := some (0, r4.1)) (by decide +kernel) rfl rfl rfl (st' := [(0, r4.1)]) rfl (S39 (Nat.le_trans (by decide) hd)  r3 _ q7) ?_
      rcases zI_s e with ⟨q8, e⟩ | ⟨q8, e⟩
      · refine zF_blk (m := []) (d := 1) (b := B45_7) (gs := [¬ r4.1 = (-1)]) (c' := (67, [some (20, 0), some (0, r2.1), some (0, r4.1)], [], (r4.2, hm, o))) K45_7 rfl ⟨q8, trivial⟩ ?_
        obtain ⟨q9, e⟩ := zG_s e
        obtain ⟨r5, q10, e⟩ := zB_s e
        refine zF_blk (m := []) (d := 0) (b := B45_4) (gs := [0 ≤ r2.1 ∧ r2.1 < 6]) (c' := (81, [some (20, 0), some (0, r2.1), some (0, r4.1)], [(15, 0)], ((hset r4.2 589 1 r2.1 r4.1), hm, o))) K45_4 rfl ⟨q9, trivial⟩ ?_
        refine zF_call (k := 21) (cl := 5) (n := 1) (i := .invokevirtual 79) (args := [(15, 0)]) (rest := []) (g1 := (r5, hm, o)) (r1 := none) (by decide +kernel) rfl rfl rfl (st' := []) rfl (S21 (Nat.le_trans (by decide) hd)  (hset r4.2 589 1 r2.1 r4.1) _ q10) ?_
        refine zF_blk (m := []) (d := 0) (b := B45_5) (gs := []) (c' := (85, [some (20, 0), some (0, r2.1), some (0, r4.1)], [(0, 1)], (r5, hm, o))) K45_5 rfl trivial ?_
        exact zF_rbC (by decide +kernel) (Or.inr rfl) e
      · refine zF_blk (m := []) (d := 0) (b := B45_7) (gs := [¬ (¬ r4.1 = (-1))]) (c' := (65, [some (20, 0), some (0, r2.1), some (0, r4.1)], [], (r4.2, hm, o))) K45_7 rfl ⟨q8, trivial⟩ ?_
        refine zF_blk (m := []) (d := 0) (b := B45_6) (gs := []) (c' := (66, [some (20, 0), some (0, r2.1), some (0, r4.1)], [(0, 0)], (r4.2, hm, o))) K45_6 rfl trivial ?_
        exact zF_rbC (by decide +kernel) (Or.inl rfl) e
    · refine zF_blk (m := []) (d := 0) (b := B45_9) (gs := [0 ≤ r2.1 ∧ r2.1 < 6, ¬ ((r2.2 589 1 r2.1) = (-1))]) (c' := (39, [some (20, 0), some (0, r2.1), none], [], (r2.2, hm, o))) K45_9 rfl ⟨q4, q5, trivial⟩ ?_
      obtain ⟨r6, q11, e⟩ := zB_s e
      refine zF_blk (m := []) (d := 0) (b := B45_8) (gs := []) (c' := (44, [some (20, 0), some (0, r2.1), none], [(0, 3), (15, 0)], (r2.2, hm, o))) K45_8 rfl trivial ?_
      refine zF_call (k := 31) (cl := 5) (n := 2) (i := .invokevirtual 49) (args := [(15, 0), (0, 3)]) (rest := []) (g1 := (r6.2, hm, o)) (r1 := some (0, r6.1)) (by decide +kernel) rfl rfl rfl (st' := [(0, r6.1)]) rfl (S31 (Nat.le_trans (by decide) hd) 3 r2.2 _ q11) ?_
      obtain ⟨q12, e⟩ := zG_s e
      exact zF_rbC (by decide +kernel) q12 e
  · refine zF_blk (m := []) (d := 0) (b := B45_11) (gs := [¬ (¬ r2.1 = (-1))]) (c' := (24, [some (20, 0), some (0, r2.1), none], [], (r2.2, hm, o))) K45_11 rfl ⟨q3, trivial⟩ ?_
    refine zF_blk (m := []) (d := 0) (b := B45_10) (gs := []) (c' := (25, [some (20, 0), some (0, r2.1), none], [(0, 0)], (r2.2, hm, o))) K45_10 rfl trivial ?_
    exact zF_rbC (by decide +kernel) (Or.inl rfl) e
def B47_0 : List zRow := [(0, .iconst 0, 1, (0, 0, 0)), (1, .istore_n 2, 1, (0, 0, 0))]
theorem K47_0 : zRk 47 B47_0 = true := by decide +kernel
def B47_1 : List zRow := [(28, .iconst 0, 1, (0, 0, 0))]
theorem K47_1 : zRk 47 B47_1 = true := by decide +kernel
def B47_2 : List zRow := [(22, .iinc 2 1, 3, (0, 0, 0)), (25, .goto (-23), 3, (0, 0, 0))]
theorem K47_2 : zRk 47 B47_2 = true := by decide +kernel
def B47_3 : List zRow := [(20, .iconst 1, 1, (0, 0, 0))]
theorem K47_3 : zRk 47 B47_3 = true := by decide +kernel
def B47_4 : List zRow := [(10, .aload_n 0, 1, (0, 0, 0)), (11, .getfield 43, 3, (9, 17, 5242914)), (14, .iload_n 2, 1, (0, 0, 0)), (15, .iaload, 1, (0, 0, 0)), (16, .iload_n 1, 1, (0, 0, 0)), (17, .if_icmp .ne 5, 3, (0, 0, 0))]
theorem K47_4 : zRk 47 B47_4 = true := by decide +kernel
def B47_5 : List zRow := [(2, .iload_n 2, 1, (0, 0, 0)), (3, .aload_n 0, 1, (0, 0, 0)), (4, .getfield 68, 3, (9, 5, 0)), (7, .if_icmp .ge 21, 3, (0, 0, 0))]
theorem K47_5 : zRk 47 B47_5 = true := by decide +kernel
def F47_0 (h : zHC) : Nat → Int → Int → Int → Option Int
  | 0, _, _, _ => none
  | n + 1, v0, v1, v2 => if (h 581 v0 0) ≤ v2 then some 0 else zG (0 ≤ v2 ∧ v2 < 8) (if ¬ (h 593 v0 v2) = v1 then (F47_0 h n) v0 v1 (wadd v2 1) else some 1)
set_option maxRecDepth 100000 in
theorem T47_0 {spec : zRn zH2} {hm : zHM} {o : Int → Int} {d : Nat} (hd : 0 ≤ d) (h : zHC) : ∀ (n : Nat) (v0 : Int) (v1 : Int) (v2 : Int) (v : Int), F47_0 h n v0 v1 v2 = some v → zFin 0 (fun _ => 0) (zRu2 spec d) 47 (some (0, v)) (h, hm, o) (2, [some (19, v0), some (0, v1), some (0, v2)], [], (h, hm, o)) := by
  intro n
  induction n with
  | zero => intro v0 v1 v2 v e; unfold F47_0 at e; cases e
  | succ n hk0 =>
    intro v0 v1 v2 v e
    unfold F47_0 at e
    rcases zI_s e with ⟨q1, e⟩ | ⟨q1, e⟩
    · refine zF_blk (m := []) (d := 1) (b := B47_5) (gs := [(h 581 v0 0) ≤ v2]) (c' := (28, [some (19, v0), some (0, v1), some (0, v2)], [], (h, hm, o))) K47_5 rfl ⟨q1, trivial⟩ ?_
      refine zF_blk (m := []) (d := 0) (b := B47_1) (gs := []) (c' := (29, [some (19, v0), some (0, v1), some (0, v2)], [(0, 0)], (h, hm, o))) K47_1 rfl trivial ?_
      obtain rfl := Option.some.inj e
      exact zF_rb (by decide +kernel) (Or.inl rfl)
    · refine zF_blk (m := []) (d := 0) (b := B47_5) (gs := [¬ ((h 581 v0 0) ≤ v2)]) (c' := (10, [some (19, v0), some (0, v1), some (0, v2)], [], (h, hm, o))) K47_5 rfl ⟨q1, trivial⟩ ?_
      obtain ⟨q2, e⟩ := zG_s e
      rcases zI_s e with ⟨q3, e⟩ | ⟨q3, e⟩
      · refine zF_blk (m := []) (d := 1) (b := B47_4) (gs := [0 ≤ v2 ∧ v2 < 8, ¬ (h 593 v0 v2) = v1]) (c' := (22, [some (19, v0), some (0, v1), some (0, v2)], [], (h, hm, o))) K47_4 rfl ⟨q2, q3, trivial⟩ ?_
        refine zF_blk (m := []) (d := 0) (b := B47_2) (gs := []) (c' := (2, [some (19, v0), some (0, v1), some (0, (wadd v2 1))], [], (h, hm, o))) K47_2 rfl trivial ?_
        exact hk0 v0 v1 (wadd v2 1) _ e
      · refine zF_blk (m := []) (d := 0) (b := B47_4) (gs := [0 ≤ v2 ∧ v2 < 8, ¬ (¬ (h 593 v0 v2) = v1)]) (c' := (20, [some (19, v0), some (0, v1), some (0, v2)], [], (h, hm, o))) K47_4 rfl ⟨q2, q3, trivial⟩ ?_
        refine zF_blk (m := []) (d := 0) (b := B47_3) (gs := []) (c' := (21, [some (19, v0), some (0, v1), some (0, v2)], [(0, 1)], (h, hm, o))) K47_3 rfl trivial ?_
        obtain rfl := Option.some.inj e
        exact zF_rb (by decide +kernel) (Or.inr rfl)
/-- EchoVale$Valley.hasFelt(I)Z -/
def F47 (v0 : Int) (v1 : Int) (h : zHC) : Option Int := F47_0 h zFu v0 v1 0
set_option maxRecDepth 100000 in
theorem S47 {spec : zRn zH2} {hm : zHM} {o : Int → Int} {d : Nat} (hd : 1 ≤ d) (v0 : Int) (v1 : Int) (h : zHC) (v : Int) (e : F47 v0 v1 h = some v) : zRu2 spec d 47 [(19, v0), (0, v1)] (h, hm, o) (some (0, v)) (h, hm, o) := by
  refine zF_in (D := 0) (mx := 3) (L := [some (19, v0), some (0, v1), none]) (by decide +kernel) rfl rfl hd (fun d hd => ?_)
  unfold F47 at e
  refine zF_blk (m := []) (d := 0) (b := B47_0) (gs := []) (c' := (2, [some (19, v0), some (0, v1), some (0, 0)], [], (h, hm, o))) K47_0 rfl trivial ?_
  exact T47_0 hd h zFu v0 v1 0 _ e
def B46_0 : List zRow := [(23, .aload_n 0, 1, (0, 0, 0)), (24, .getfield 18, 3, (10, 2, 23))]
theorem K46_0 : zRk 46 B46_0 = true := by decide +kernel
def B46_1 : List zRow := [(30, .aload_n 0, 1, (0, 0, 0))]
theorem K46_1 : zRk 46 B46_1 = true := by decide +kernel
def B46_2 : List zRow := [(42, .aload_n 0, 1, (0, 0, 0)), (43, .getfield 12, 3, (10, 0, 167)), (46, .iload_n 2, 1, (0, 0, 0))]
theorem K46_2 : zRk 46 B46_2 = true := by decide +kernel
def B46_3 : List zRow := [(62, .aload_n 0, 1, (0, 0, 0)), (63, .getfield 12, 3, (10, 0, 167)), (66, .getfield 157, 3, (9, 17, 5242914)), (69, .iload_n 1, 1, (0, 0, 0)), (70, .iload_n 2, 1, (0, 0, 0)), (71, .iastore, 1, (0, 0, 0)), (72, .aload_n 0, 1, (0, 0, 0)), (73, .getfield 12, 3, (10, 0, 167)), (76, .iload_n 1, 1, (0, 0, 0)), (77, .iconst 1, 1, (0, 0, 0)), (78, .iadd, 1, (0, 0, 0)), (79, .putfield 151, 3, (9, 5, 0)), (82, .aload_n 0, 1, (0, 0, 0)), (83, .getfield 18, 3, (10, 2, 23))]
theorem K46_3 : zRk 46 B46_3 = true := by decide +kernel
def B46_4 : List zRow := [(89, .iconst 1, 1, (0, 0, 0))]
theorem K46_4 : zRk 46 B46_4 = true := by decide +kernel
def B46_5 : List zRow := [(53, .aload_n 0, 1, (0, 0, 0)), (54, .getfield 18, 3, (10, 2, 23)), (57, .iconst 3, 1, (0, 0, 0))]
theorem K46_5 : zRk 46 B46_5 = true := by decide +kernel
def B46_6 : List zRow := [(50, .ifCond .eq 12, 3, (0, 0, 0))]
theorem K46_6 : zRk 46 B46_6 = true := by decide +kernel
def B46_7 : List zRow := [(40, .iconst 0, 1, (0, 0, 0))]
theorem K46_7 : zRk 46 B46_7 = true := by decide +kernel
def B46_8 : List zRow := [(34, .istore_n 2, 1, (0, 0, 0)), (35, .iload_n 2, 1, (0, 0, 0)), (36, .iconst (-1), 1, (0, 0, 0)), (37, .if_icmp .ne 5, 3, (0, 0, 0))]
theorem K46_8 : zRk 46 B46_8 = true := by decide +kernel
def B46_9 : List zRow := [(14, .aload_n 0, 1, (0, 0, 0)), (15, .getfield 18, 3, (10, 2, 23)), (18, .iconst 4, 1, (0, 0, 0))]
theorem K46_9 : zRk 46 B46_9 = true := by decide +kernel
def B46_10 : List zRow := [(0, .aload_n 0, 1, (0, 0, 0)), (1, .getfield 12, 3, (10, 0, 167)), (4, .getfield 151, 3, (9, 5, 0)), (7, .istore_n 1, 1, (0, 0, 0)), (8, .iload_n 1, 1, (0, 0, 0)), (9, .bipush 8, 2, (0, 0, 0)), (11, .if_icmp .lt 12, 3, (0, 0, 0))]
theorem K46_10 : zRk 46 B46_10 = true := by decide +kernel
/-- EchoVale$ValleyText.readFelt()Z -/
def F46 (h : zHC) : Option (Int × zHC) := if (h 581 1 0) < 8 then (F21 h).bind fun r1 => (F39 r1).bind fun r2 => if ¬ r2.1 = (-1) then (F47 1 r2.1 r2.2).bind fun r3 => if r3 = 0 then zG (0 ≤ (h 581 1 0) ∧ (h 581 1 0) < 8) ((F21 (hset (hset r2.2 593 1 (h 581 1 0) r2.1) 581 1 0 (wadd (h 581 1 0) 1))).bind fun r4 => some (1, r4)) else (F31 3 r2.2).bind fun r5 => zG (r5.1 = 0 ∨ r5.1 = 1) (some (r5.1, r5.2)) else some (0, r2.2) else (F31 4 h).bind fun r6 => zG (r6.1 = 0 ∨ r6.1 = 1) (some (r6.1, r6.2))
set_option maxRecDepth 100000 in
theorem S46 {spec : zRn zH2} {hm : zHM} {o : Int → Int} {d : Nat} (hd : 5 ≤ d) (h : zHC) (v : (Int × zHC)) (e : F46 h = some v) : zRu2 spec d 46 [(20, 0)] (h, hm, o) (some (0, v.1)) (v.2, hm, o) := by
  refine zF_in (D := 4) (mx := 3) (L := [some (20, 0), none, none]) (by decide +kernel) rfl rfl hd (fun d hd => ?_)
  unfold F46 at e
  rcases zI_s e with ⟨q1, e⟩ | ⟨q1, e⟩
  · refine zF_blk (m := []) (d := 1) (b := B46_10) (gs := [(h 581 1 0) < 8]) (c' := (23, [some (20, 0), some (0, (h 581 1 0)), none], [], (h, hm, o))) K46_10 rfl ⟨q1, trivial⟩ ?_
    obtain ⟨r1, q2, e⟩ := zB_s e
    refine zF_blk (m := []) (d := 0) (b := B46_0) (gs := []) (c' := (27, [some (20, 0), some (0, (h 581 1 0)), none], [(15, 0)], (h, hm, o))) K46_0 rfl trivial ?_
    refine zF_call (k := 21) (cl := 5) (n := 1) (i := .invokevirtual 79) (args := [(15, 0)]) (rest := []) (g1 := (r1, hm, o)) (r1 := none) (by decide +kernel) rfl rfl rfl (st' := []) rfl (S21 (Nat.le_trans (by decide) hd)  h _ q2) ?_
    obtain ⟨r2, q3, e⟩ := zB_s e
    refine zF_blk (m := []) (d := 0) (b := B46_1) (gs := []) (c' := (31, [some (20, 0), some (0, (h 581 1 0)), none], [(20, 0)], (r1, hm, o))) K46_1 rfl trivial ?_
    refine zF_call (k := 39) (cl := 10) (n := 1) (i := .invokevirtual 99) (args := [(20, 0)]) (rest := []) (g1 := (r2.2, hm, o)) (r1 := some (0, r2.1)) (by decide +kernel) rfl rfl rfl (st' := [(0, r2.1)]) rfl (S39 (Nat.le_trans (by decide) hd)  r1 _ q3) ?_
    rcases zI_s e with ⟨q4, e⟩ | ⟨q4, e⟩
    · refine zF_blk (m := []) (d := 1) (b := B46_8) (gs := [¬ r2.1 = (-1)]) (c' := (42, [some (20, 0), some (0, (h 581 1 0)), some (0, r2.1)], [], (r2.2, hm, o))) K46_8 rfl ⟨q4, trivial⟩ ?_
      obtain ⟨r3, q5, e⟩ := zB_s e
      refine zF_blk (m := []) (d := 0) (b := B46_2) (gs := []) (c' := (47, [some (20, 0), some (0, (h 581 1 0)), some (0, r2.1)], [(0, r2.1), (19, 1)], (r2.2, hm, o))) K46_2 rfl trivial ?_
      refine zF_call (k := 47) (cl := 9) (n := 2) (i := .invokevirtual 154) (args := [(19, 1), (0, r2.1)]) (rest := []) (g1 := (r2.2, hm, o)) (r1 := some (0, r3)) (by decide +kernel) rfl rfl rfl (st' := [(0, r3)]) rfl (S47 (Nat.le_trans (by decide) hd) 1 r2.1 r2.2 _ q5) ?_
      rcases zI_s e with ⟨q6, e⟩ | ⟨q6, e⟩
      · refine zF_blk (m := []) (d := 1) (b := B46_6) (gs := [r3 = 0]) (c' := (62, [some (20, 0), some (0, (h 581 1 0)), some (0, r2.1)], [], (r2.2, hm, o))) K46_6 rfl ⟨q6, trivial⟩ ?_
        obtain ⟨q7, e⟩ := zG_s e
        obtain ⟨r4, q8, e⟩ := zB_s e
        refine zF_blk (m := []) (d := 0) (b := B46_3) (gs := [0 ≤ (h 581 1 0) ∧ (h 581 1 0) < 8]) (c' := (86, [some (20, 0), some (0, (h 581 1 0)), some (0, r2.1)], [(15, 0)], ((hset (hset r2.2 593 1 (h 581 1 0) r2.1) 581 1 0 (wadd (h 581 1 0) 1)), hm, o))) K46_3 rfl ⟨q7, trivial⟩ ?_
        refine zF_call (k := 21) (cl := 5) (n := 1) (i := .invokevirtual 79) (args := [(15, 0)]) (rest := []) (g1 := (r4, hm, o)) (r1 := none) (by decide +kernel) rfl rfl rfl (st' := []) rfl (S21 (Nat.le_trans (by decide) hd)  (hset (hset r2.2 593 1 (h 581 1 0) r2.1) 581 1 0 (wadd (h 581 1 0) 1)) _ q8) ?_
        refine zF_blk (m := []) (d := 0) (b := B46_4) (gs := []) (c' := (90, [some (20, 0), some (0, (h 581 1 0)), some (0, r2.1)], [(0, 1)], (r4, hm, o))) K46_4 rfl trivial ?_
        exact zF_rbC (by decide +kernel) (Or.inr rfl) e
      · refine zF_blk (m := []) (d := 0) (b := B46_6) (gs := [¬ (r3 = 0)]) (c' := (53, [some (20, 0), some (0, (h 581 1 0)), some (0, r2.1)], [], (r2.2, hm, o))) K46_6 rfl ⟨q6, trivial⟩ ?_
        obtain ⟨r5, q9, e⟩ := zB_s e
        refine zF_blk (m := []) (d := 0) (b := B46_5) (gs := []) (c' := (58, [some (20, 0), some (0, (h 581 1 0)), some (0, r2.1)], [(0, 3), (15, 0)], (r2.2, hm, o))) K46_5 rfl trivial ?_
        refine zF_call (k := 31) (cl := 5) (n := 2) (i := .invokevirtual 49) (args := [(15, 0), (0, 3)]) (rest := []) (g1 := (r5.2, hm, o)) (r1 := some (0, r5.1)) (by decide +kernel) rfl rfl rfl (st' := [(0, r5.1)]) rfl (S31 (Nat.le_trans (by decide) hd) 3 r2.2 _ q9) ?_
        obtain ⟨q10, e⟩ := zG_s e
        exact zF_rbC (by decide +kernel) q10 e
    · refine zF_blk (m := []) (d := 0) (b := B46_8) (gs := [¬ (¬ r2.1 = (-1))]) (c' := (40, [some (20, 0), some (0, (h 581 1 0)), some (0, r2.1)], [], (r2.2, hm, o))) K46_8 rfl ⟨q4, trivial⟩ ?_
      refine zF_blk (m := []) (d := 0) (b := B46_7) (gs := []) (c' := (41, [some (20, 0), some (0, (h 581 1 0)), some (0, r2.1)], [(0, 0)], (r2.2, hm, o))) K46_7 rfl trivial ?_
      exact zF_rbC (by decide +kernel) (Or.inl rfl) e
  · refine zF_blk (m := []) (d := 0) (b := B46_10) (gs := [¬ ((h 581 1 0) < 8)]) (c' := (14, [some (20, 0), some (0, (h 581 1 0)), none], [], (h, hm, o))) K46_10 rfl ⟨q1, trivial⟩ ?_
    obtain ⟨r6, q11, e⟩ := zB_s e
    refine zF_blk (m := []) (d := 0) (b := B46_9) (gs := []) (c' := (19, [some (20, 0), some (0, (h 581 1 0)), none], [(0, 4), (15, 0)], (h, hm, o))) K46_9 rfl trivial ?_
    refine zF_call (k := 31) (cl := 5) (n := 2) (i := .invokevirtual 49) (args := [(15, 0), (0, 4)]) (rest := []) (g1 := (r6.2, hm, o)) (r1 := some (0, r6.1)) (by decide +kernel) rfl rfl rfl (st' := [(0, r6.1)]) rfl (S31 (Nat.le_trans (by decide) hd) 4 h _ q11) ?_
    obtain ⟨q12, e⟩ := zG_s e
    exact zF_rbC (by decide +kernel) q12 e
def B49_0 : List zRow := [(0, .iconst 0, 1, (0, 0, 0)), (1, .istore_n 2, 1, (0, 0, 0))]
theorem K49_0 : zRk 49 B49_0 = true := by decide +kernel
def B49_1 : List zRow := [(28, .iconst 0, 1, (0, 0, 0))]
theorem K49_1 : zRk 49 B49_1 = true := by decide +kernel
def B49_2 : List zRow := [(22, .iinc 2 1, 3, (0, 0, 0)), (25, .goto (-23), 3, (0, 0, 0))]
theorem K49_2 : zRk 49 B49_2 = true := by decide +kernel
def B49_3 : List zRow := [(20, .iconst 1, 1, (0, 0, 0))]
theorem K49_3 : zRk 49 B49_3 = true := by decide +kernel
def B49_4 : List zRow := [(10, .aload_n 0, 1, (0, 0, 0)), (11, .getfield 46, 3, (9, 18, 5242906)), (14, .iload_n 2, 1, (0, 0, 0)), (15, .iaload, 1, (0, 0, 0)), (16, .iload_n 1, 1, (0, 0, 0)), (17, .if_icmp .ne 5, 3, (0, 0, 0))]
theorem K49_4 : zRk 49 B49_4 = true := by decide +kernel
def B49_5 : List zRow := [(2, .iload_n 2, 1, (0, 0, 0)), (3, .aload_n 0, 1, (0, 0, 0)), (4, .getfield 71, 3, (9, 6, 0)), (7, .if_icmp .ge 21, 3, (0, 0, 0))]
theorem K49_5 : zRk 49 B49_5 = true := by decide +kernel
def F49_0 (h : zHC) : Nat → Int → Int → Int → Option Int
  | 0, _, _, _ => none
  | n + 1, v0, v1, v2 => if (h 582 v0 0) ≤ v2 then some 0 else zG (0 ≤ v2 ∧ v2 < 6) (if ¬ (h 594 v0 v2) = v1 then (F49_0 h n) v0 v1 (wadd v2 1) else some 1)
set_option maxRecDepth 100000 in
theorem T49_0 {spec : zRn zH2} {hm : zHM} {o : Int → Int} {d : Nat} (hd : 0 ≤ d) (h : zHC) : ∀ (n : Nat) (v0 : Int) (v1 : Int) (v2 : Int) (v : Int), F49_0 h n v0 v1 v2 = some v → zFin 0 (fun _ => 0) (zRu2 spec d) 49 (some (0, v)) (h, hm, o) (2, [some (19, v0), some (0, v1), some (0, v2)], [], (h, hm, o)) := by
  intro n
  induction n with
  | zero => intro v0 v1 v2 v e; unfold F49_0 at e; cases e
  | succ n hk0 =>
    intro v0 v1 v2 v e
    unfold F49_0 at e
    rcases zI_s e with ⟨q1, e⟩ | ⟨q1, e⟩
    · refine zF_blk (m := []) (d := 1) (b := B49_5) (gs := [(h 582 v0 0) ≤ v2]) (c' := (28, [some (19, v0), some (0, v1), some (0, v2)], [], (h, hm, o))) K49_5 rfl ⟨q1, trivial⟩ ?_
      refine zF_blk (m := []) (d := 0) (b := B49_1) (gs := []) (c' := (29, [some (19, v0), some (0, v1), some (0, v2)], [(0, 0)], (h, hm, o))) K49_1 rfl trivial ?_
      obtain rfl := Option.some.inj e
      exact zF_rb (by decide +kernel) (Or.inl rfl)
    · refine zF_blk (m := []) (d := 0) (b := B49_5) (gs := [¬ ((h 582 v0 0) ≤ v2)]) (c' := (10, [some (19, v0), some (0, v1), some (0, v2)], [], (h, hm, o))) K49_5 rfl ⟨q1, trivial⟩ ?_
      obtain ⟨q2, e⟩ := zG_s e
      rcases zI_s e with ⟨q3, e⟩ | ⟨q3, e⟩
      · refine zF_blk (m := []) (d := 1) (b := B49_4) (gs := [0 ≤ v2 ∧ v2 < 6, ¬ (h 594 v0 v2) = v1]) (c' := (22, [some (19, v0), some (0, v1), some (0, v2)], [], (h, hm, o))) K49_4 rfl ⟨q2, q3, trivial⟩ ?_
        refine zF_blk (m := []) (d := 0) (b := B49_2) (gs := []) (c' := (2, [some (19, v0), some (0, v1), some (0, (wadd v2 1))], [], (h, hm, o))) K49_2 rfl trivial ?_
        exact hk0 v0 v1 (wadd v2 1) _ e
      · refine zF_blk (m := []) (d := 0) (b := B49_4) (gs := [0 ≤ v2 ∧ v2 < 6, ¬ (¬ (h 594 v0 v2) = v1)]) (c' := (20, [some (19, v0), some (0, v1), some (0, v2)], [], (h, hm, o))) K49_4 rfl ⟨q2, q3, trivial⟩ ?_
        refine zF_blk (m := []) (d := 0) (b := B49_3) (gs := []) (c' := (21, [some (19, v0), some (0, v1), some (0, v2)], [(0, 1)], (h, hm, o))) K49_3 rfl trivial ?_
        obtain rfl := Option.some.inj e
        exact zF_rb (by decide +kernel) (Or.inr rfl)
/-- EchoVale$Valley.hasSnow(I)Z -/
def F49 (v0 : Int) (v1 : Int) (h : zHC) : Option Int := F49_0 h zFu v0 v1 0
set_option maxRecDepth 100000 in
theorem S49 {spec : zRn zH2} {hm : zHM} {o : Int → Int} {d : Nat} (hd : 1 ≤ d) (v0 : Int) (v1 : Int) (h : zHC) (v : Int) (e : F49 v0 v1 h = some v) : zRu2 spec d 49 [(19, v0), (0, v1)] (h, hm, o) (some (0, v)) (h, hm, o) := by
  refine zF_in (D := 0) (mx := 3) (L := [some (19, v0), some (0, v1), none]) (by decide +kernel) rfl rfl hd (fun d hd => ?_)
  unfold F49 at e
  refine zF_blk (m := []) (d := 0) (b := B49_0) (gs := []) (c' := (2, [some (19, v0), some (0, v1), some (0, 0)], [], (h, hm, o))) K49_0 rfl trivial ?_
  exact T49_0 hd h zFu v0 v1 0 _ e
def B48_0 : List zRow := [(23, .aload_n 0, 1, (0, 0, 0)), (24, .getfield 18, 3, (10, 2, 23))]
theorem K48_0 : zRk 48 B48_0 = true := by decide +kernel
def B48_1 : List zRow := [(30, .aload_n 0, 1, (0, 0, 0)), (31, .getfield 18, 3, (10, 2, 23)), (34, .iconst 0, 1, (0, 0, 0)), (35, .sipush 200, 3, (0, 0, 0))]
theorem K48_1 : zRk 48 B48_1 = true := by decide +kernel
def B48_2 : List zRow := [(46, .aload_n 0, 1, (0, 0, 0)), (47, .getfield 18, 3, (10, 2, 23)), (50, .getfield 52, 3, (5, 6, 0)), (53, .istore_n 2, 1, (0, 0, 0)), (54, .aload_n 0, 1, (0, 0, 0)), (55, .getfield 12, 3, (10, 0, 167)), (58, .iload_n 2, 1, (0, 0, 0))]
theorem K48_2 : zRk 48 B48_2 = true := by decide +kernel
def B48_3 : List zRow := [(74, .aload_n 0, 1, (0, 0, 0)), (75, .getfield 18, 3, (10, 2, 23))]
theorem K48_3 : zRk 48 B48_3 = true := by decide +kernel
def B48_4 : List zRow := [(81, .aload_n 0, 1, (0, 0, 0)), (82, .getfield 18, 3, (10, 2, 23)), (85, .iconst 0, 1, (0, 0, 0)), (86, .bipush 9, 2, (0, 0, 0))]
theorem K48_4 : zRk 48 B48_4 = true := by decide +kernel
def B48_5 : List zRow := [(96, .aload_n 0, 1, (0, 0, 0)), (97, .getfield 12, 3, (10, 0, 167)), (100, .getfield 166, 3, (9, 18, 5242906)), (103, .iload_n 1, 1, (0, 0, 0)), (104, .iload_n 2, 1, (0, 0, 0)), (105, .iastore, 1, (0, 0, 0)), (106, .aload_n 0, 1, (0, 0, 0)), (107, .getfield 12, 3, (10, 0, 167)), (110, .getfield 169, 3, (9, 19, 5242906)), (113, .iload_n 1, 1, (0, 0, 0)), (114, .aload_n 0, 1, (0, 0, 0)), (115, .getfield 18, 3, (10, 2, 23)), (118, .getfield 52, 3, (5, 6, 0)), (121, .iastore, 1, (0, 0, 0)), (122, .aload_n 0, 1, (0, 0, 0)), (123, .getfield 12, 3, (10, 0, 167)), (126, .iload_n 1, 1, (0, 0, 0)), (127, .iconst 1, 1, (0, 0, 0)), (128, .iadd, 1, (0, 0, 0)), (129, .putfield 160, 3, (9, 6, 0)), (132, .aload_n 0, 1, (0, 0, 0)), (133, .getfield 18, 3, (10, 2, 23))]
theorem K48_5 : zRk 48 B48_5 = true := by decide +kernel
def B48_6 : List zRow := [(139, .iconst 1, 1, (0, 0, 0))]
theorem K48_6 : zRk 48 B48_6 = true := by decide +kernel
def B48_7 : List zRow := [(94, .iconst 0, 1, (0, 0, 0))]
theorem K48_7 : zRk 48 B48_7 = true := by decide +kernel
def B48_8 : List zRow := [(91, .ifCond .ne 5, 3, (0, 0, 0))]
theorem K48_8 : zRk 48 B48_8 = true := by decide +kernel
def B48_9 : List zRow := [(65, .aload_n 0, 1, (0, 0, 0)), (66, .getfield 18, 3, (10, 2, 23)), (69, .iconst 3, 1, (0, 0, 0))]
theorem K48_9 : zRk 48 B48_9 = true := by decide +kernel
def B48_10 : List zRow := [(62, .ifCond .eq 12, 3, (0, 0, 0))]
theorem K48_10 : zRk 48 B48_10 = true := by decide +kernel
def B48_11 : List zRow := [(44, .iconst 0, 1, (0, 0, 0))]
theorem K48_11 : zRk 48 B48_11 = true := by decide +kernel
def B48_12 : List zRow := [(41, .ifCond .ne 5, 3, (0, 0, 0))]
theorem K48_12 : zRk 48 B48_12 = true := by decide +kernel
def B48_13 : List zRow := [(14, .aload_n 0, 1, (0, 0, 0)), (15, .getfield 18, 3, (10, 2, 23)), (18, .iconst 4, 1, (0, 0, 0))]
theorem K48_13 : zRk 48 B48_13 = true := by decide +kernel
def B48_14 : List zRow := [(0, .aload_n 0, 1, (0, 0, 0)), (1, .getfield 12, 3, (10, 0, 167)), (4, .getfield 160, 3, (9, 6, 0)), (7, .istore_n 1, 1, (0, 0, 0)), (8, .iload_n 1, 1, (0, 0, 0)), (9, .bipush 6, 2, (0, 0, 0)), (11, .if_icmp .lt 12, 3, (0, 0, 0))]
theorem K48_14 : zRk 48 B48_14 = true := by decide +kernel
/-- EchoVale$ValleyText.readSnow()Z -/
def F48 (h : zHC) : Option (Int × zHC) := if (h 582 1 0) < 6 then (F21 h).bind fun r1 => (F33 0 200 r1).bind fun r2 => if ¬ r2.1 = 0 then (F49 1 (r2.2 326 0 0) r2.2).bind fun r3 => if r3 = 0 then (F21 r2.2).bind fun r4 => (F33 0 9 r4).bind fun r5 => if ¬ r5.1 = 0 then zG (0 ≤ (h 582 1 0) ∧ (h 582 1 0) < 6) (zG (0 ≤ (h 582 1 0) ∧ (h 582 1 0) < 6) ((F21 (hset (hset (hset r5.2 594 1 (h 582 1 0) (r2.2 326 0 0)) 595 1 (h 582 1 0) (r5.2 326 0 0)) 582 1 0 (wadd (h 582 1 0) 1))).bind fun r6 => some (1, r6))) else some (0, r5.2) else (F31 3 r2.2).bind fun r7 => zG (r7.1 = 0 ∨ r7.1 = 1) (some (r7.1, r7.2)) else some (0, r2.2) else (F31 4 h).bind fun r8 => zG (r8.1 = 0 ∨ r8.1 = 1) (some (r8.1, r8.2))
set_option maxRecDepth 100000 in
theorem S48 {spec : zRn zH2} {hm : zHM} {o : Int → Int} {d : Nat} (hd : 4 ≤ d) (h : zHC) (v : (Int × zHC)) (e : F48 h = some v) : zRu2 spec d 48 [(20, 0)] (h, hm, o) (some (0, v.1)) (v.2, hm, o) := by
  refine zF_in (D := 3) (mx := 3) (L := [some (20, 0), none, none]) (by decide +kernel) rfl rfl hd (fun d hd => ?_)
  unfold F48 at e
  rcases zI_s e with ⟨q1, e⟩ | ⟨q1, e⟩
  · refine zF_blk (m := []) (d := 1) (b := B48_14) (gs := [(h 582 1 0) < 6]) (c' := (23, [some (20, 0), some (0, (h 582 1 0)), none], [], (h, hm, o))) K48_14 rfl ⟨q1, trivial⟩ ?_
    obtain ⟨r1, q2, e⟩ := zB_s e
    refine zF_blk (m := []) (d := 0) (b := B48_0) (gs := []) (c' := (27, [some (20, 0), some (0, (h 582 1 0)), none], [(15, 0)], (h, hm, o))) K48_0 rfl trivial ?_
    refine zF_call (k := 21) (cl := 5) (n := 1) (i := .invokevirtual 79) (args := [(15, 0)]) (rest := []) (g1 := (r1, hm, o)) (r1 := none) (by decide +kernel) rfl rfl rfl (st' := []) rfl (S21 (Nat.le_trans (by decide) hd)  h _ q2) ?_
    obtain ⟨r2, q3, e⟩ := zB_s e
    refine zF_blk (m := []) (d := 0) (b := B48_1) (gs := []) (c' := (38, [some (20, 0), some (0, (h 582 1 0)), none], [(0, 200), (0, 0), (15, 0)], (r1, hm, o))) K48_1 rfl trivial ?_
    refine zF_call (k := 33) (cl := 5) (n := 3) (i := .invokevirtual 82) (args := [(15, 0), (0, 0), (0, 200)]) (rest := []) (g1 := (r2.2, hm, o)) (r1 := some (0, r2.1)) (by decide +kernel) rfl rfl rfl (st' := [(0, r2.1)]) rfl (S33 (Nat.le_trans (by decide) hd) 0 200 r1 _ q3) ?_
    rcases zI_s e with ⟨q4, e⟩ | ⟨q4, e⟩
    · refine zF_blk (m := []) (d := 1) (b := B48_12) (gs := [¬ r2.1 = 0]) (c' := (46, [some (20, 0), some (0, (h 582 1 0)), none], [], (r2.2, hm, o))) K48_12 rfl ⟨q4, trivial⟩ ?_
      obtain ⟨r3, q5, e⟩ := zB_s e
      refine zF_blk (m := []) (d := 0) (b := B48_2) (gs := []) (c' := (59, [some (20, 0), some (0, (h 582 1 0)), some (0, (r2.2 326 0 0))], [(0, (r2.2 326 0 0)), (19, 1)], (r2.2, hm, o))) K48_2 rfl trivial ?_
      refine zF_call (k := 49) (cl := 9) (n := 2) (i := .invokevirtual 163) (args := [(19, 1), (0, (r2.2 326 0 0))]) (rest := []) (g1 := (r2.2, hm, o)) (r1 := some (0, r3)) (by decide +kernel) rfl rfl rfl (st' := [(0, r3)]) rfl (S49 (Nat.le_trans (by decide) hd) 1 (r2.2 326 0 0) r2.2 _ q5) ?_
      rcases zI_s e with ⟨q6, e⟩ | ⟨q6, e⟩
      · refine zF_blk (m := []) (d := 1) (b := B48_10) (gs := [r3 = 0]) (c' := (74, [some (20, 0), some (0, (h 582 1 0)), some (0, (r2.2 326 0 0))], [], (r2.2, hm, o))) K48_10 rfl ⟨q6, trivial⟩ ?_
        obtain ⟨r4, q7, e⟩ := zB_s e
        refine zF_blk (m := []) (d := 0) (b := B48_3) (gs := []) (c' := (78, [some (20, 0), some (0, (h 582 1 0)), some (0, (r2.2 326 0 0))], [(15, 0)], (r2.2, hm, o))) K48_3 rfl trivial ?_
        refine zF_call (k := 21) (cl := 5) (n := 1) (i := .invokevirtual 79) (args := [(15, 0)]) (rest := []) (g1 := (r4, hm, o)) (r1 := none) (by decide +kernel) rfl rfl rfl (st' := []) rfl (S21 (Nat.le_trans (by decide) hd)  r2.2 _ q7) ?_
        obtain ⟨r5, q8, e⟩ := zB_s e
        refine zF_blk (m := []) (d := 0) (b := B48_4) (gs := []) (c' := (88, [some (20, 0), some (0, (h 582 1 0)), some (0, (r2.2 326 0 0))], [(0, 9), (0, 0), (15, 0)], (r4, hm, o))) K48_4 rfl trivial ?_
        refine zF_call (k := 33) (cl := 5) (n := 3) (i := .invokevirtual 82) (args := [(15, 0), (0, 0), (0, 9)]) (rest := []) (g1 := (r5.2, hm, o)) (r1 := some (0, r5.1)) (by decide +kernel) rfl rfl rfl (st' := [(0, r5.1)]) rfl (S33 (Nat.le_trans (by decide) hd) 0 9 r4 _ q8) ?_
        rcases zI_s e with ⟨q9, e⟩ | ⟨q9, e⟩
        · refine zF_blk (m := []) (d := 1) (b := B48_8) (gs := [¬ r5.1 = 0]) (c' := (96, [some (20, 0), some (0, (h 582 1 0)), some (0, (r2.2 326 0 0))], [], (r5.2, hm, o))) K48_8 rfl ⟨q9, trivial⟩ ?_
          obtain ⟨q10, e⟩ := zG_s e
          obtain ⟨q10, e⟩ := zG_s e
          obtain ⟨r6, q11, e⟩ := zB_s e
          refine zF_blk (m := []) (d := 0) (b := B48_5) (gs := [0 ≤ (h 582 1 0) ∧ (h 582 1 0) < 6, 0 ≤ (h 582 1 0) ∧ (h 582 1 0) < 6]) (c' := (136, [some (20, 0), some (0, (h 582 1 0)), some (0, (r2.2 326 0 0))], [(15, 0)], ((hset (hset (hset r5.2 594 1 (h 582 1 0) (r2.2 326 0 0)) 595 1 (h 582 1 0) (r5.2 326 0 0)) 582 1 0 (wadd (h 582 1 0) 1)), hm, o))) K48_5 rfl ⟨q10, q10, trivial⟩ ?_
          refine zF_call (k := 21) (cl := 5) (n := 1) (i := .invokevirtual 79) (args := [(15, 0)]) (rest := []) (g1 := (r6, hm, o)) (r1 := none) (by decide +kernel) rfl rfl rfl (st' := []) rfl (S21 (Nat.le_trans (by decide) hd)  (hset (hset (hset r5.2 594 1 (h 582 1 0) (r2.2 326 0 0)) 595 1 (h 582 1 0) (r5.2 326 0 0)) 582 1 0 (wadd (h 582 1 0) 1)) _ q11) ?_
          refine zF_blk (m := []) (d := 0) (b := B48_6) (gs := []) (c' := (140, [some (20, 0), some (0, (h 582 1 0)), some (0, (r2.2 326 0 0))], [(0, 1)], (r6, hm, o))) K48_6 rfl trivial ?_
          exact zF_rbC (by decide +kernel) (Or.inr rfl) e
        · refine zF_blk (m := []) (d := 0) (b := B48_8) (gs := [¬ (¬ r5.1 = 0)]) (c' := (94, [some (20, 0), some (0, (h 582 1 0)), some (0, (r2.2 326 0 0))], [], (r5.2, hm, o))) K48_8 rfl ⟨q9, trivial⟩ ?_
          refine zF_blk (m := []) (d := 0) (b := B48_7) (gs := []) (c' := (95, [some (20, 0), some (0, (h 582 1 0)), some (0, (r2.2 326 0 0))], [(0, 0)], (r5.2, hm, o))) K48_7 rfl trivial ?_
          exact zF_rbC (by decide +kernel) (Or.inl rfl) e
      · refine zF_blk (m := []) (d := 0) (b := B48_10) (gs := [¬ (r3 = 0)]) (c' := (65, [some (20, 0), some (0, (h 582 1 0)), some (0, (r2.2 326 0 0))], [], (r2.2, hm, o))) K48_10 rfl ⟨q6, trivial⟩ ?_
        obtain ⟨r7, q12, e⟩ := zB_s e
        refine zF_blk (m := []) (d := 0) (b := B48_9) (gs := []) (c' := (70, [some (20, 0), some (0, (h 582 1 0)), some (0, (r2.2 326 0 0))], [(0, 3), (15, 0)], (r2.2, hm, o))) K48_9 rfl trivial ?_
        refine zF_call (k := 31) (cl := 5) (n := 2) (i := .invokevirtual 49) (args := [(15, 0), (0, 3)]) (rest := []) (g1 := (r7.2, hm, o)) (r1 := some (0, r7.1)) (by decide +kernel) rfl rfl rfl (st' := [(0, r7.1)]) rfl (S31 (Nat.le_trans (by decide) hd) 3 r2.2 _ q12) ?_
        obtain ⟨q13, e⟩ := zG_s e
        exact zF_rbC (by decide +kernel) q13 e
    · refine zF_blk (m := []) (d := 0) (b := B48_12) (gs := [¬ (¬ r2.1 = 0)]) (c' := (44, [some (20, 0), some (0, (h 582 1 0)), none], [], (r2.2, hm, o))) K48_12 rfl ⟨q4, trivial⟩ ?_
      refine zF_blk (m := []) (d := 0) (b := B48_11) (gs := []) (c' := (45, [some (20, 0), some (0, (h 582 1 0)), none], [(0, 0)], (r2.2, hm, o))) K48_11 rfl trivial ?_
      exact zF_rbC (by decide +kernel) (Or.inl rfl) e
  · refine zF_blk (m := []) (d := 0) (b := B48_14) (gs := [¬ ((h 582 1 0) < 6)]) (c' := (14, [some (20, 0), some (0, (h 582 1 0)), none], [], (h, hm, o))) K48_14 rfl ⟨q1, trivial⟩ ?_
    obtain ⟨r8, q14, e⟩ := zB_s e
    refine zF_blk (m := []) (d := 0) (b := B48_13) (gs := []) (c' := (19, [some (20, 0), some (0, (h 582 1 0)), none], [(0, 4), (15, 0)], (h, hm, o))) K48_13 rfl trivial ?_
    refine zF_call (k := 31) (cl := 5) (n := 2) (i := .invokevirtual 49) (args := [(15, 0), (0, 4)]) (rest := []) (g1 := (r8.2, hm, o)) (r1 := some (0, r8.1)) (by decide +kernel) rfl rfl rfl (st' := [(0, r8.1)]) rfl (S31 (Nat.le_trans (by decide) hd) 4 h _ q14) ?_
    obtain ⟨q15, e⟩ := zG_s e
    exact zF_rbC (by decide +kernel) q15 e
