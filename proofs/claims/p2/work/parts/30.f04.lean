/-! Functions of the methods, by wip/gen/lift.py. -/
def B37_0 : List zRow := [(0, .iconst 0, 1, (0, 0, 0)), (1, .istore_n 3, 1, (0, 0, 0))]
theorem K37_0 : zRk 37 B37_0 = true := by decide +kernel
def B37_1 : List zRow := [(29, .iconst (-1), 1, (0, 0, 0))]
theorem K37_1 : zRk 37 B37_1 = true := by decide +kernel
def B37_2 : List zRow := [(23, .iinc 3 1, 3, (0, 0, 0)), (26, .goto (-24), 3, (0, 0, 0))]
theorem K37_2 : zRk 37 B37_2 = true := by decide +kernel
def B37_3 : List zRow := [(21, .iload_n 3, 1, (0, 0, 0))]
theorem K37_3 : zRk 37 B37_3 = true := by decide +kernel
def B37_4 : List zRow := [(10, .aload_n 0, 1, (0, 0, 0)), (11, .getfield 9, 3, (9, 7, 5505050)), (14, .iload_n 3, 1, (0, 0, 0)), (15, .laload, 1, (0, 0, 0)), (16, .lload_n 1, 1, (0, 0, 0)), (17, .lcmp, 1, (0, 0, 0)), (18, .ifCond .ne 5, 3, (0, 0, 0))]
theorem K37_4 : zRk 37 B37_4 = true := by decide +kernel
def B37_5 : List zRow := [(2, .iload_n 3, 1, (0, 0, 0)), (3, .aload_n 0, 1, (0, 0, 0)), (4, .getfield 59, 3, (9, 2, 0)), (7, .if_icmp .ge 22, 3, (0, 0, 0))]
theorem K37_5 : zRk 37 B37_5 = true := by decide +kernel
def F37_0 (h : zHC) : Nat → Int → Int → Int → Option Int
  | 0, _, _, _ => none
  | n + 1, v0, v1, v3 => if (h 578 v0 0) ≤ v3 then some (-1) else zG (0 ≤ v3 ∧ v3 < 6) (if ¬ (qcmp (h 583 v0 v3) v1) = 0 then (F37_0 h n) v0 v1 (wadd v3 1) else some v3)
set_option maxRecDepth 100000 in
theorem T37_0 {spec : zRn zH2} {hm : zHM} {o : Int → Int} {d : Nat} (hd : 0 ≤ d) (h : zHC) : ∀ (n : Nat) (v0 : Int) (v1 : Int) (v3 : Int) (v : Int), F37_0 h n v0 v1 v3 = some v → zFin 0 (fun _ => 0) (zRu2 spec d) 37 (some (0, v)) (h, hm, o) (2, [some (19, v0), some (1, v1), none, some (0, v3)], [], (h, hm, o)) := by
  intro n
  induction n with
  | zero => intro v0 v1 v3 v e; unfold F37_0 at e; cases e
  | succ n hk0 =>
    intro v0 v1 v3 v e
    unfold F37_0 at e
    rcases zI_s e with ⟨q1, e⟩ | ⟨q1, e⟩
    · refine zF_blk (m := []) (d := 1) (b := B37_5) (gs := [(h 578 v0 0) ≤ v3]) (c' := (29, [some (19, v0), some (1, v1), none, some (0, v3)], [], (h, hm, o))) K37_5 rfl ⟨q1, trivial⟩ ?_
      refine zF_blk (m := []) (d := 0) (b := B37_1) (gs := []) (c' := (30, [some (19, v0), some (1, v1), none, some (0, v3)], [(0, (-1))], (h, hm, o))) K37_1 rfl trivial ?_
      obtain rfl := Option.some.inj e
      exact zF_ri (by decide +kernel)
    · refine zF_blk (m := []) (d := 0) (b := B37_5) (gs := [¬ ((h 578 v0 0) ≤ v3)]) (c' := (10, [some (19, v0), some (1, v1), none, some (0, v3)], [], (h, hm, o))) K37_5 rfl ⟨q1, trivial⟩ ?_
      obtain ⟨q2, e⟩ := zG_s e
      rcases zI_s e with ⟨q3, e⟩ | ⟨q3, e⟩
      · refine zF_blk (m := []) (d := 1) (b := B37_4) (gs := [0 ≤ v3 ∧ v3 < 6, ¬ (qcmp (h 583 v0 v3) v1) = 0]) (c' := (23, [some (19, v0), some (1, v1), none, some (0, v3)], [], (h, hm, o))) K37_4 rfl ⟨q2, q3, trivial⟩ ?_
        refine zF_blk (m := []) (d := 0) (b := B37_2) (gs := []) (c' := (2, [some (19, v0), some (1, v1), none, some (0, (wadd v3 1))], [], (h, hm, o))) K37_2 rfl trivial ?_
        exact hk0 v0 v1 (wadd v3 1) _ e
      · refine zF_blk (m := []) (d := 0) (b := B37_4) (gs := [0 ≤ v3 ∧ v3 < 6, ¬ (¬ (qcmp (h 583 v0 v3) v1) = 0)]) (c' := (21, [some (19, v0), some (1, v1), none, some (0, v3)], [], (h, hm, o))) K37_4 rfl ⟨q2, q3, trivial⟩ ?_
        refine zF_blk (m := []) (d := 0) (b := B37_3) (gs := []) (c' := (22, [some (19, v0), some (1, v1), none, some (0, v3)], [(0, v3)], (h, hm, o))) K37_3 rfl trivial ?_
        obtain rfl := Option.some.inj e
        exact zF_ri (by decide +kernel)
/-- EchoVale$Valley.cliffNamed(J)I -/
def F37 (v0 : Int) (v1 : Int) (h : zHC) : Option Int := F37_0 h zFu v0 v1 0
set_option maxRecDepth 100000 in
theorem S37 {spec : zRn zH2} {hm : zHM} {o : Int → Int} {d : Nat} (hd : 1 ≤ d) (v0 : Int) (v1 : Int) (h : zHC) (v : Int) (e : F37 v0 v1 h = some v) : zRu2 spec d 37 [(19, v0), (1, v1)] (h, hm, o) (some (0, v)) (h, hm, o) := by
  refine zF_in (D := 0) (mx := 4) (L := [some (19, v0), some (1, v1), none, none]) (by decide +kernel) rfl rfl hd (fun d hd => ?_)
  unfold F37 at e
  refine zF_blk (m := []) (d := 0) (b := B37_0) (gs := []) (c' := (2, [some (19, v0), some (1, v1), none, some (0, 0)], [], (h, hm, o))) K37_0 rfl trivial ?_
  exact T37_0 hd h zFu v0 v1 0 _ e
def B38_0 : List zRow := [(0, .iconst 0, 1, (0, 0, 0)), (1, .istore_n 3, 1, (0, 0, 0))]
theorem K38_0 : zRk 38 B38_0 = true := by decide +kernel
def B38_1 : List zRow := [(29, .iconst (-1), 1, (0, 0, 0))]
theorem K38_1 : zRk 38 B38_1 = true := by decide +kernel
def B38_2 : List zRow := [(23, .iinc 3 1, 3, (0, 0, 0)), (26, .goto (-24), 3, (0, 0, 0))]
theorem K38_2 : zRk 38 B38_2 = true := by decide +kernel
def B38_3 : List zRow := [(21, .iload_n 3, 1, (0, 0, 0))]
theorem K38_3 : zRk 38 B38_3 = true := by decide +kernel
def B38_4 : List zRow := [(10, .aload_n 0, 1, (0, 0, 0)), (11, .getfield 25, 3, (9, 11, 5505050)), (14, .iload_n 3, 1, (0, 0, 0)), (15, .laload, 1, (0, 0, 0)), (16, .lload_n 1, 1, (0, 0, 0)), (17, .lcmp, 1, (0, 0, 0)), (18, .ifCond .ne 5, 3, (0, 0, 0))]
theorem K38_4 : zRk 38 B38_4 = true := by decide +kernel
def B38_5 : List zRow := [(2, .iload_n 3, 1, (0, 0, 0)), (3, .aload_n 0, 1, (0, 0, 0)), (4, .getfield 62, 3, (9, 3, 0)), (7, .if_icmp .ge 22, 3, (0, 0, 0))]
theorem K38_5 : zRk 38 B38_5 = true := by decide +kernel
def F38_0 (h : zHC) : Nat → Int → Int → Int → Option Int
  | 0, _, _, _ => none
  | n + 1, v0, v1, v3 => if (h 579 v0 0) ≤ v3 then some (-1) else zG (0 ≤ v3 ∧ v3 < 6) (if ¬ (qcmp (h 587 v0 v3) v1) = 0 then (F38_0 h n) v0 v1 (wadd v3 1) else some v3)
set_option maxRecDepth 100000 in
theorem T38_0 {spec : zRn zH2} {hm : zHM} {o : Int → Int} {d : Nat} (hd : 0 ≤ d) (h : zHC) : ∀ (n : Nat) (v0 : Int) (v1 : Int) (v3 : Int) (v : Int), F38_0 h n v0 v1 v3 = some v → zFin 0 (fun _ => 0) (zRu2 spec d) 38 (some (0, v)) (h, hm, o) (2, [some (19, v0), some (1, v1), none, some (0, v3)], [], (h, hm, o)) := by
  intro n
  induction n with
  | zero => intro v0 v1 v3 v e; unfold F38_0 at e; cases e
  | succ n hk0 =>
    intro v0 v1 v3 v e
    unfold F38_0 at e
    rcases zI_s e with ⟨q1, e⟩ | ⟨q1, e⟩
    · refine zF_blk (m := []) (d := 1) (b := B38_5) (gs := [(h 579 v0 0) ≤ v3]) (c' := (29, [some (19, v0), some (1, v1), none, some (0, v3)], [], (h, hm, o))) K38_5 rfl ⟨q1, trivial⟩ ?_
      refine zF_blk (m := []) (d := 0) (b := B38_1) (gs := []) (c' := (30, [some (19, v0), some (1, v1), none, some (0, v3)], [(0, (-1))], (h, hm, o))) K38_1 rfl trivial ?_
      obtain rfl := Option.some.inj e
      exact zF_ri (by decide +kernel)
    · refine zF_blk (m := []) (d := 0) (b := B38_5) (gs := [¬ ((h 579 v0 0) ≤ v3)]) (c' := (10, [some (19, v0), some (1, v1), none, some (0, v3)], [], (h, hm, o))) K38_5 rfl ⟨q1, trivial⟩ ?_
      obtain ⟨q2, e⟩ := zG_s e
      rcases zI_s e with ⟨q3, e⟩ | ⟨q3, e⟩
      · refine zF_blk (m := []) (d := 1) (b := B38_4) (gs := [0 ≤ v3 ∧ v3 < 6, ¬ (qcmp (h 587 v0 v3) v1) = 0]) (c' := (23, [some (19, v0), some (1, v1), none, some (0, v3)], [], (h, hm, o))) K38_4 rfl ⟨q2, q3, trivial⟩ ?_
        refine zF_blk (m := []) (d := 0) (b := B38_2) (gs := []) (c' := (2, [some (19, v0), some (1, v1), none, some (0, (wadd v3 1))], [], (h, hm, o))) K38_2 rfl trivial ?_
        exact hk0 v0 v1 (wadd v3 1) _ e
      · refine zF_blk (m := []) (d := 0) (b := B38_4) (gs := [0 ≤ v3 ∧ v3 < 6, ¬ (¬ (qcmp (h 587 v0 v3) v1) = 0)]) (c' := (21, [some (19, v0), some (1, v1), none, some (0, v3)], [], (h, hm, o))) K38_4 rfl ⟨q2, q3, trivial⟩ ?_
        refine zF_blk (m := []) (d := 0) (b := B38_3) (gs := []) (c' := (22, [some (19, v0), some (1, v1), none, some (0, v3)], [(0, v3)], (h, hm, o))) K38_3 rfl trivial ?_
        obtain rfl := Option.some.inj e
        exact zF_ri (by decide +kernel)
/-- EchoVale$Valley.personNamed(J)I -/
def F38 (v0 : Int) (v1 : Int) (h : zHC) : Option Int := F38_0 h zFu v0 v1 0
set_option maxRecDepth 100000 in
theorem S38 {spec : zRn zH2} {hm : zHM} {o : Int → Int} {d : Nat} (hd : 1 ≤ d) (v0 : Int) (v1 : Int) (h : zHC) (v : Int) (e : F38 v0 v1 h = some v) : zRu2 spec d 38 [(19, v0), (1, v1)] (h, hm, o) (some (0, v)) (h, hm, o) := by
  refine zF_in (D := 0) (mx := 4) (L := [some (19, v0), some (1, v1), none, none]) (by decide +kernel) rfl rfl hd (fun d hd => ?_)
  unfold F38 at e
  refine zF_blk (m := []) (d := 0) (b := B38_0) (gs := []) (c' := (2, [some (19, v0), some (1, v1), none, some (0, 0)], [], (h, hm, o))) K38_0 rfl trivial ?_
  exact T38_0 hd h zFu v0 v1 0 _ e
def B36_0 : List zRow := [(0, .aload_n 0, 1, (0, 0, 0)), (1, .lload_n 1, 1, (0, 0, 0))]
theorem K36_0 : zRk 36 B36_0 = true := by decide +kernel
def B36_1 : List zRow := [(9, .aload_n 0, 1, (0, 0, 0)), (10, .lload_n 1, 1, (0, 0, 0))]
theorem K36_1 : zRk 36 B36_1 = true := by decide +kernel
def B36_2 : List zRow := [(22, .iconst 0, 1, (0, 0, 0))]
theorem K36_2 : zRk 36 B36_2 = true := by decide +kernel
def B36_3 : List zRow := [(14, .iconst (-1), 1, (0, 0, 0)), (15, .if_icmp .eq 7, 3, (0, 0, 0))]
theorem K36_3 : zRk 36 B36_3 = true := by decide +kernel
def B36_4 : List zRow := [(5, .iconst (-1), 1, (0, 0, 0)), (6, .if_icmp .ne 12, 3, (0, 0, 0))]
theorem K36_4 : zRk 36 B36_4 = true := by decide +kernel
def B36_5 : List zRow := [(18, .iconst 1, 1, (0, 0, 0)), (19, .goto 4, 3, (0, 0, 0))]
theorem K36_5 : zRk 36 B36_5 = true := by decide +kernel
def F36_0 (h : zHC) : Option Int := some 1
set_option maxRecDepth 100000 in
theorem T36_0 {spec : zRn zH2} {hm : zHM} {o : Int → Int} {d : Nat} (hd : 1 ≤ d) (h : zHC) (v : Int) (e : F36_0 h = some v) : zFin 0 (fun _ => 0) (zRu2 spec d) 36 (some (0, v)) (h, hm, o) (18, [none, none, none], [], (h, hm, o)) := by
  unfold F36_0 at e
  refine zF_blk (m := []) (d := 0) (b := B36_5) (gs := []) (c' := (23, [none, none, none], [(0, 1)], (h, hm, o))) K36_5 rfl trivial ?_
  obtain rfl := Option.some.inj e
  exact zF_rb (by decide +kernel) (Or.inr rfl)
/-- EchoVale$Valley.isTaken(J)Z -/
def F36 (v0 : Int) (v1 : Int) (h : zHC) : Option Int := (F37 v0 v1 h).bind fun r1 => if ¬ r1 = (-1) then F36_0 h else (F38 v0 v1 h).bind fun r2 => if r2 = (-1) then some 0 else F36_0 h
set_option maxRecDepth 100000 in
theorem S36 {spec : zRn zH2} {hm : zHM} {o : Int → Int} {d : Nat} (hd : 2 ≤ d) (v0 : Int) (v1 : Int) (h : zHC) (v : Int) (e : F36 v0 v1 h = some v) : zRu2 spec d 36 [(19, v0), (1, v1)] (h, hm, o) (some (0, v)) (h, hm, o) := by
  refine zF_in (D := 1) (mx := 3) (L := [some (19, v0), some (1, v1), none]) (by decide +kernel) rfl rfl hd (fun d hd => ?_)
  unfold F36 at e
  obtain ⟨r1, q1, e⟩ := zB_s e
  refine zF_blk (m := []) (d := 0) (b := B36_0) (gs := []) (c' := (2, [some (19, v0), some (1, v1), none], [(1, v1), (19, v0)], (h, hm, o))) K36_0 rfl trivial ?_
  refine zF_call (k := 37) (cl := 9) (n := 2) (i := .invokevirtual 86) (args := [(19, v0), (1, v1)]) (rest := []) (g1 := (h, hm, o)) (r1 := some (0, r1)) (by decide +kernel) rfl rfl rfl (st' := [(0, r1)]) rfl (S37 (Nat.le_trans (by decide) hd) v0 v1 h _ q1) ?_
  rcases zI_s e with ⟨q2, e⟩ | ⟨q2, e⟩
  · refine zF_blk (m := []) (d := 1) (b := B36_4) (gs := [¬ r1 = (-1)]) (c' := (18, [some (19, v0), some (1, v1), none], [], (h, hm, o))) K36_4 rfl ⟨q2, trivial⟩ ?_
    refine zF_blk (m := [false, false, false]) (d := 0) (b := []) (gs := []) (c' := (18, [none, none, none], [], (h, hm, o))) rfl rfl trivial ?_
    exact T36_0 hd h _ e
  · refine zF_blk (m := []) (d := 0) (b := B36_4) (gs := [¬ (¬ r1 = (-1))]) (c' := (9, [some (19, v0), some (1, v1), none], [], (h, hm, o))) K36_4 rfl ⟨q2, trivial⟩ ?_
    obtain ⟨r2, q3, e⟩ := zB_s e
    refine zF_blk (m := []) (d := 0) (b := B36_1) (gs := []) (c' := (11, [some (19, v0), some (1, v1), none], [(1, v1), (19, v0)], (h, hm, o))) K36_1 rfl trivial ?_
    refine zF_call (k := 38) (cl := 9) (n := 2) (i := .invokevirtual 90) (args := [(19, v0), (1, v1)]) (rest := []) (g1 := (h, hm, o)) (r1 := some (0, r2)) (by decide +kernel) rfl rfl rfl (st' := [(0, r2)]) rfl (S38 (Nat.le_trans (by decide) hd) v0 v1 h _ q3) ?_
    rcases zI_s e with ⟨q4, e⟩ | ⟨q4, e⟩
    · refine zF_blk (m := []) (d := 1) (b := B36_3) (gs := [r2 = (-1)]) (c' := (22, [some (19, v0), some (1, v1), none], [], (h, hm, o))) K36_3 rfl ⟨q4, trivial⟩ ?_
      refine zF_blk (m := []) (d := 0) (b := B36_2) (gs := []) (c' := (23, [some (19, v0), some (1, v1), none], [(0, 0)], (h, hm, o))) K36_2 rfl trivial ?_
      obtain rfl := Option.some.inj e
      exact zF_rb (by decide +kernel) (Or.inl rfl)
    · refine zF_blk (m := []) (d := 0) (b := B36_3) (gs := [¬ (r2 = (-1))]) (c' := (18, [some (19, v0), some (1, v1), none], [], (h, hm, o))) K36_3 rfl ⟨q4, trivial⟩ ?_
      refine zF_blk (m := [false, false, false]) (d := 0) (b := []) (gs := []) (c' := (18, [none, none, none], [], (h, hm, o))) rfl rfl trivial ?_
      exact T36_0 hd h _ e
def B35_0 : List zRow := [(20, .aload_n 0, 1, (0, 0, 0)), (21, .getfield 12, 3, (10, 0, 167)), (24, .aload_n 0, 1, (0, 0, 0)), (25, .getfield 18, 3, (10, 2, 23)), (28, .getfield 95, 3, (5, 7, 1))]
theorem K35_0 : zRk 35 B35_0 = true := by decide +kernel
def B35_1 : List zRow := [(37, .aload_n 0, 1, (0, 0, 0)), (38, .getfield 18, 3, (10, 2, 23)), (41, .iconst 3, 1, (0, 0, 0))]
theorem K35_1 : zRk 35 B35_1 = true := by decide +kernel
def B35_2 : List zRow := [(52, .iconst 0, 1, (0, 0, 0))]
theorem K35_2 : zRk 35 B35_2 = true := by decide +kernel
def B35_3 : List zRow := [(45, .ifCond .eq 7, 3, (0, 0, 0))]
theorem K35_3 : zRk 35 B35_3 = true := by decide +kernel
def B35_4 : List zRow := [(34, .ifCond .eq 14, 3, (0, 0, 0))]
theorem K35_4 : zRk 35 B35_4 = true := by decide +kernel
def B35_5 : List zRow := [(11, .aload_n 0, 1, (0, 0, 0)), (12, .getfield 18, 3, (10, 2, 23)), (15, .iconst 1, 1, (0, 0, 0))]
theorem K35_5 : zRk 35 B35_5 = true := by decide +kernel
def B35_6 : List zRow := [(0, .aload_n 0, 1, (0, 0, 0)), (1, .getfield 18, 3, (10, 2, 23)), (4, .getfield 46, 3, (5, 4, 0)), (7, .iconst 2, 1, (0, 0, 0)), (8, .if_icmp .eq 12, 3, (0, 0, 0))]
theorem K35_6 : zRk 35 B35_6 = true := by decide +kernel
def B35_7 : List zRow := [(48, .iconst 1, 1, (0, 0, 0)), (49, .goto 4, 3, (0, 0, 0))]
theorem K35_7 : zRk 35 B35_7 = true := by decide +kernel
def F35_0 (h : zHC) : Option (Int × zHC) := some (1, h)
set_option maxRecDepth 100000 in
theorem T35_0 {spec : zRn zH2} {hm : zHM} {o : Int → Int} {d : Nat} (hd : 2 ≤ d) (h : zHC) (v : (Int × zHC)) (e : F35_0 h = some v) : zFin 0 (fun _ => 0) (zRu2 spec d) 35 (some (0, v.1)) (v.2, hm, o) (48, [none], [], (h, hm, o)) := by
  unfold F35_0 at e
  refine zF_blk (m := []) (d := 0) (b := B35_7) (gs := []) (c' := (53, [none], [(0, 1)], (h, hm, o))) K35_7 rfl trivial ?_
  exact zF_rbC (by decide +kernel) (Or.inr rfl) e
/-- EchoVale$ValleyText.isNewName()Z -/
def F35 (h : zHC) : Option (Int × zHC) := if (h 324 0 0) = 2 then (F36 1 (h 327 0 0) h).bind fun r1 => if r1 = 0 then F35_0 h else (F31 3 h).bind fun r2 => if r2.1 = 0 then some (0, r2.2) else F35_0 r2.2 else (F31 1 h).bind fun r3 => zG (r3.1 = 0 ∨ r3.1 = 1) (some (r3.1, r3.2))
set_option maxRecDepth 100000 in
theorem S35 {spec : zRn zH2} {hm : zHM} {o : Int → Int} {d : Nat} (hd : 3 ≤ d) (h : zHC) (v : (Int × zHC)) (e : F35 h = some v) : zRu2 spec d 35 [(20, 0)] (h, hm, o) (some (0, v.1)) (v.2, hm, o) := by
  refine zF_in (D := 2) (mx := 1) (L := [some (20, 0)]) (by decide +kernel) rfl rfl hd (fun d hd => ?_)
  unfold F35 at e
  rcases zI_s e with ⟨q1, e⟩ | ⟨q1, e⟩
  · refine zF_blk (m := []) (d := 1) (b := B35_6) (gs := [(h 324 0 0) = 2]) (c' := (20, [some (20, 0)], [], (h, hm, o))) K35_6 rfl ⟨q1, trivial⟩ ?_
    obtain ⟨r1, q2, e⟩ := zB_s e
    refine zF_blk (m := []) (d := 0) (b := B35_0) (gs := []) (c' := (31, [some (20, 0)], [(1, (h 327 0 0)), (19, 1)], (h, hm, o))) K35_0 rfl trivial ?_
    refine zF_call (k := 36) (cl := 9) (n := 2) (i := .invokevirtual 172) (args := [(19, 1), (1, (h 327 0 0))]) (rest := []) (g1 := (h, hm, o)) (r1 := some (0, r1)) (by decide +kernel) rfl rfl rfl (st' := [(0, r1)]) rfl (S36 (Nat.le_trans (by decide) hd) 1 (h 327 0 0) h _ q2) ?_
    rcases zI_s e with ⟨q3, e⟩ | ⟨q3, e⟩
    · refine zF_blk (m := []) (d := 1) (b := B35_4) (gs := [r1 = 0]) (c' := (48, [some (20, 0)], [], (h, hm, o))) K35_4 rfl ⟨q3, trivial⟩ ?_
      refine zF_blk (m := [false]) (d := 0) (b := []) (gs := []) (c' := (48, [none], [], (h, hm, o))) rfl rfl trivial ?_
      exact T35_0 hd h _ e
    · refine zF_blk (m := []) (d := 0) (b := B35_4) (gs := [¬ (r1 = 0)]) (c' := (37, [some (20, 0)], [], (h, hm, o))) K35_4 rfl ⟨q3, trivial⟩ ?_
      obtain ⟨r2, q4, e⟩ := zB_s e
      refine zF_blk (m := []) (d := 0) (b := B35_1) (gs := []) (c' := (42, [some (20, 0)], [(0, 3), (15, 0)], (h, hm, o))) K35_1 rfl trivial ?_
      refine zF_call (k := 31) (cl := 5) (n := 2) (i := .invokevirtual 49) (args := [(15, 0), (0, 3)]) (rest := []) (g1 := (r2.2, hm, o)) (r1 := some (0, r2.1)) (by decide +kernel) rfl rfl rfl (st' := [(0, r2.1)]) rfl (S31 (Nat.le_trans (by decide) hd) 3 h _ q4) ?_
      rcases zI_s e with ⟨q5, e⟩ | ⟨q5, e⟩
      · refine zF_blk (m := []) (d := 1) (b := B35_3) (gs := [r2.1 = 0]) (c' := (52, [some (20, 0)], [], (r2.2, hm, o))) K35_3 rfl ⟨q5, trivial⟩ ?_
        refine zF_blk (m := []) (d := 0) (b := B35_2) (gs := []) (c' := (53, [some (20, 0)], [(0, 0)], (r2.2, hm, o))) K35_2 rfl trivial ?_
        exact zF_rbC (by decide +kernel) (Or.inl rfl) e
      · refine zF_blk (m := []) (d := 0) (b := B35_3) (gs := [¬ (r2.1 = 0)]) (c' := (48, [some (20, 0)], [], (r2.2, hm, o))) K35_3 rfl ⟨q5, trivial⟩ ?_
        refine zF_blk (m := [false]) (d := 0) (b := []) (gs := []) (c' := (48, [none], [], (r2.2, hm, o))) rfl rfl trivial ?_
        exact T35_0 hd r2.2 _ e
  · refine zF_blk (m := []) (d := 0) (b := B35_6) (gs := [¬ ((h 324 0 0) = 2)]) (c' := (11, [some (20, 0)], [], (h, hm, o))) K35_6 rfl ⟨q1, trivial⟩ ?_
    obtain ⟨r3, q6, e⟩ := zB_s e
    refine zF_blk (m := []) (d := 0) (b := B35_5) (gs := []) (c' := (16, [some (20, 0)], [(0, 1), (15, 0)], (h, hm, o))) K35_5 rfl trivial ?_
    refine zF_call (k := 31) (cl := 5) (n := 2) (i := .invokevirtual 49) (args := [(15, 0), (0, 1)]) (rest := []) (g1 := (r3.2, hm, o)) (r1 := some (0, r3.1)) (by decide +kernel) rfl rfl rfl (st' := [(0, r3.1)]) rfl (S31 (Nat.le_trans (by decide) hd) 1 h _ q6) ?_
    obtain ⟨q7, e⟩ := zG_s e
    exact zF_rbC (by decide +kernel) q7 e
def B39_0 : List zRow := [(0, .aload_n 0, 1, (0, 0, 0)), (1, .getfield 18, 3, (10, 2, 23)), (4, .iconst 0, 1, (0, 0, 0)), (5, .aload_n 0, 1, (0, 0, 0)), (6, .getfield 12, 3, (10, 0, 167)), (9, .getfield 76, 3, (9, 0, 0)), (12, .iconst 1, 1, (0, 0, 0)), (13, .isub, 1, (0, 0, 0))]
theorem K39_0 : zRk 39 B39_0 = true := by decide +kernel
def B39_1 : List zRow := [(22, .aload_n 0, 1, (0, 0, 0)), (23, .getfield 18, 3, (10, 2, 23)), (26, .getfield 52, 3, (5, 6, 0)), (29, .istore_n 1, 1, (0, 0, 0)), (30, .aload_n 0, 1, (0, 0, 0)), (31, .getfield 18, 3, (10, 2, 23))]
theorem K39_1 : zRk 39 B39_1 = true := by decide +kernel
def B39_2 : List zRow := [(37, .aload_n 0, 1, (0, 0, 0)), (38, .getfield 18, 3, (10, 2, 23)), (41, .iconst 0, 1, (0, 0, 0)), (42, .aload_n 0, 1, (0, 0, 0)), (43, .getfield 12, 3, (10, 0, 167)), (46, .getfield 86, 3, (9, 1, 0)), (49, .iconst 1, 1, (0, 0, 0)), (50, .isub, 1, (0, 0, 0))]
theorem K39_2 : zRk 39 B39_2 = true := by decide +kernel
def B39_3 : List zRow := [(72, .iconst (-1), 1, (0, 0, 0))]
theorem K39_3 : zRk 39 B39_3 = true := by decide +kernel
def B39_4 : List zRow := [(57, .aload_n 0, 1, (0, 0, 0)), (58, .getfield 18, 3, (10, 2, 23)), (61, .getfield 52, 3, (5, 6, 0)), (64, .bipush 10, 2, (0, 0, 0)), (66, .imul, 1, (0, 0, 0)), (67, .iload_n 1, 1, (0, 0, 0)), (68, .iadd, 1, (0, 0, 0)), (69, .goto 4, 3, (0, 0, 0))]
theorem K39_4 : zRk 39 B39_4 = true := by decide +kernel
def B39_5 : List zRow := [(54, .ifCond .eq 18, 3, (0, 0, 0))]
theorem K39_5 : zRk 39 B39_5 = true := by decide +kernel
def B39_6 : List zRow := [(20, .iconst (-1), 1, (0, 0, 0))]
theorem K39_6 : zRk 39 B39_6 = true := by decide +kernel
def B39_7 : List zRow := [(17, .ifCond .ne 5, 3, (0, 0, 0))]
theorem K39_7 : zRk 39 B39_7 = true := by decide +kernel
/-- EchoVale$ValleyText.cellHere()I -/
def F39 (h : zHC) : Option (Int × zHC) := (F33 0 (wsub (h 576 1 0) 1) h).bind fun r1 => if ¬ r1.1 = 0 then (F21 r1.2).bind fun r2 => (F33 0 (wsub (r2 577 1 0) 1) r2).bind fun r3 => if r3.1 = 0 then some ((-1), r3.2) else some ((wadd (wmul (r3.2 326 0 0) 10) (r1.2 326 0 0)), r3.2) else some ((-1), r1.2)
set_option maxRecDepth 100000 in
theorem S39 {spec : zRn zH2} {hm : zHM} {o : Int → Int} {d : Nat} (hd : 4 ≤ d) (h : zHC) (v : (Int × zHC)) (e : F39 h = some v) : zRu2 spec d 39 [(20, 0)] (h, hm, o) (some (0, v.1)) (v.2, hm, o) := by
  refine zF_in (D := 3) (mx := 2) (L := [some (20, 0), none]) (by decide +kernel) rfl rfl hd (fun d hd => ?_)
  unfold F39 at e
  obtain ⟨r1, q1, e⟩ := zB_s e
  refine zF_blk (m := []) (d := 0) (b := B39_0) (gs := []) (c' := (14, [some (20, 0), none], [(0, (wsub (h 576 1 0) 1)), (0, 0), (15, 0)], (h, hm, o))) K39_0 rfl trivial ?_
  refine zF_call (k := 33) (cl := 5) (n := 3) (i := .invokevirtual 82) (args := [(15, 0), (0, 0), (0, (wsub (h 576 1 0) 1))]) (rest := []) (g1 := (r1.2, hm, o)) (r1 := some (0, r1.1)) (by decide +kernel) rfl rfl rfl (st' := [(0, r1.1)]) rfl (S33 (Nat.le_trans (by decide) hd) 0 (wsub (h 576 1 0) 1) h _ q1) ?_
  rcases zI_s e with ⟨q2, e⟩ | ⟨q2, e⟩
  · refine zF_blk (m := []) (d := 1) (b := B39_7) (gs := [¬ r1.1 = 0]) (c' := (22, [some (20, 0), none], [], (r1.2, hm, o))) K39_7 rfl ⟨q2, trivial⟩ ?_
    obtain ⟨r2, q3, e⟩ := zB_s e
    refine zF_blk (m := []) (d := 0) (b := B39_1) (gs := []) (c' := (34, [some (20, 0), some (0, (r1.2 326 0 0))], [(15, 0)], (r1.2, hm, o))) K39_1 rfl trivial ?_
    refine zF_call (k := 21) (cl := 5) (n := 1) (i := .invokevirtual 79) (args := [(15, 0)]) (rest := []) (g1 := (r2, hm, o)) (r1 := none) (by decide +kernel) rfl rfl rfl (st' := []) rfl (S21 (Nat.le_trans (by decide) hd)  r1.2 _ q3) ?_
    obtain ⟨r3, q4, e⟩ := zB_s e
    refine zF_blk (m := []) (d := 0) (b := B39_2) (gs := []) (c' := (51, [some (20, 0), some (0, (r1.2 326 0 0))], [(0, (wsub (r2 577 1 0) 1)), (0, 0), (15, 0)], (r2, hm, o))) K39_2 rfl trivial ?_
    refine zF_call (k := 33) (cl := 5) (n := 3) (i := .invokevirtual 82) (args := [(15, 0), (0, 0), (0, (wsub (r2 577 1 0) 1))]) (rest := []) (g1 := (r3.2, hm, o)) (r1 := some (0, r3.1)) (by decide +kernel) rfl rfl rfl (st' := [(0, r3.1)]) rfl (S33 (Nat.le_trans (by decide) hd) 0 (wsub (r2 577 1 0) 1) r2 _ q4) ?_
    rcases zI_s e with ⟨q5, e⟩ | ⟨q5, e⟩
    · refine zF_blk (m := []) (d := 1) (b := B39_5) (gs := [r3.1 = 0]) (c' := (72, [some (20, 0), some (0, (r1.2 326 0 0))], [], (r3.2, hm, o))) K39_5 rfl ⟨q5, trivial⟩ ?_
      refine zF_blk (m := []) (d := 0) (b := B39_3) (gs := []) (c' := (73, [some (20, 0), some (0, (r1.2 326 0 0))], [(0, (-1))], (r3.2, hm, o))) K39_3 rfl trivial ?_
      exact zF_riC (by decide +kernel) e
    · refine zF_blk (m := []) (d := 0) (b := B39_5) (gs := [¬ (r3.1 = 0)]) (c' := (57, [some (20, 0), some (0, (r1.2 326 0 0))], [], (r3.2, hm, o))) K39_5 rfl ⟨q5, trivial⟩ ?_
      refine zF_blk (m := []) (d := 0) (b := B39_4) (gs := []) (c' := (73, [some (20, 0), some (0, (r1.2 326 0 0))], [(0, (wadd (wmul (r3.2 326 0 0) 10) (r1.2 326 0 0)))], (r3.2, hm, o))) K39_4 rfl trivial ?_
      exact zF_riC (by decide +kernel) e
  · refine zF_blk (m := []) (d := 0) (b := B39_7) (gs := [¬ (¬ r1.1 = 0)]) (c' := (20, [some (20, 0), none], [], (r1.2, hm, o))) K39_7 rfl ⟨q2, trivial⟩ ?_
    refine zF_blk (m := []) (d := 0) (b := B39_6) (gs := []) (c' := (21, [some (20, 0), none], [(0, (-1))], (r1.2, hm, o))) K39_6 rfl trivial ?_
    exact zF_riC (by decide +kernel) e
def B40_0 : List zRow := [(0, .iconst 0, 1, (0, 0, 0)), (1, .istore_n 2, 1, (0, 0, 0))]
theorem K40_0 : zRk 40 B40_0 = true := by decide +kernel
def B40_1 : List zRow := [(28, .iconst 0, 1, (0, 0, 0))]
theorem K40_1 : zRk 40 B40_1 = true := by decide +kernel
def B40_2 : List zRow := [(22, .iinc 2 1, 3, (0, 0, 0)), (25, .goto (-23), 3, (0, 0, 0))]
theorem K40_2 : zRk 40 B40_2 = true := by decide +kernel
def B40_3 : List zRow := [(20, .iconst 1, 1, (0, 0, 0))]
theorem K40_3 : zRk 40 B40_3 = true := by decide +kernel
def B40_4 : List zRow := [(10, .aload_n 0, 1, (0, 0, 0)), (11, .getfield 15, 3, (9, 8, 5242906)), (14, .iload_n 2, 1, (0, 0, 0)), (15, .iaload, 1, (0, 0, 0)), (16, .iload_n 1, 1, (0, 0, 0)), (17, .if_icmp .ne 5, 3, (0, 0, 0))]
theorem K40_4 : zRk 40 B40_4 = true := by decide +kernel
def B40_5 : List zRow := [(2, .iload_n 2, 1, (0, 0, 0)), (3, .aload_n 0, 1, (0, 0, 0)), (4, .getfield 59, 3, (9, 2, 0)), (7, .if_icmp .ge 21, 3, (0, 0, 0))]
theorem K40_5 : zRk 40 B40_5 = true := by decide +kernel
def F40_0 (h : zHC) : Nat → Int → Int → Int → Option Int
  | 0, _, _, _ => none
  | n + 1, v0, v1, v2 => if (h 578 v0 0) ≤ v2 then some 0 else zG (0 ≤ v2 ∧ v2 < 6) (if ¬ (h 584 v0 v2) = v1 then (F40_0 h n) v0 v1 (wadd v2 1) else some 1)
set_option maxRecDepth 100000 in
theorem T40_0 {spec : zRn zH2} {hm : zHM} {o : Int → Int} {d : Nat} (hd : 0 ≤ d) (h : zHC) : ∀ (n : Nat) (v0 : Int) (v1 : Int) (v2 : Int) (v : Int), F40_0 h n v0 v1 v2 = some v → zFin 0 (fun _ => 0) (zRu2 spec d) 40 (some (0, v)) (h, hm, o) (2, [some (19, v0), some (0, v1), some (0, v2)], [], (h, hm, o)) := by
  intro n
  induction n with
  | zero => intro v0 v1 v2 v e; unfold F40_0 at e; cases e
  | succ n hk0 =>
    intro v0 v1 v2 v e
    unfold F40_0 at e
    rcases zI_s e with ⟨q1, e⟩ | ⟨q1, e⟩
    · refine zF_blk (m := []) (d := 1) (b := B40_5) (gs := [(h 578 v0 0) ≤ v2]) (c' := (28, [some (19, v0), some (0, v1), some (0, v2)], [], (h, hm, o))) K40_5 rfl ⟨q1, trivial⟩ ?_
      refine zF_blk (m := []) (d := 0) (b := B40_1) (gs := []) (c' := (29, [some (19, v0), some (0, v1), some (0, v2)], [(0, 0)], (h, hm, o))) K40_1 rfl trivial ?_
      obtain rfl := Option.some.inj e
      exact zF_rb (by decide +kernel) (Or.inl rfl)
    · refine zF_blk (m := []) (d := 0) (b := B40_5) (gs := [¬ ((h 578 v0 0) ≤ v2)]) (c' := (10, [some (19, v0), some (0, v1), some (0, v2)], [], (h, hm, o))) K40_5 rfl ⟨q1, trivial⟩ ?_
      obtain ⟨q2, e⟩ := zG_s e
      rcases zI_s e with ⟨q3, e⟩ | ⟨q3, e⟩
      · refine zF_blk (m := []) (d := 1) (b := B40_4) (gs := [0 ≤ v2 ∧ v2 < 6, ¬ (h 584 v0 v2) = v1]) (c' := (22, [some (19, v0), some (0, v1), some (0, v2)], [], (h, hm, o))) K40_4 rfl ⟨q2, q3, trivial⟩ ?_
        refine zF_blk (m := []) (d := 0) (b := B40_2) (gs := []) (c' := (2, [some (19, v0), some (0, v1), some (0, (wadd v2 1))], [], (h, hm, o))) K40_2 rfl trivial ?_
        exact hk0 v0 v1 (wadd v2 1) _ e
      · refine zF_blk (m := []) (d := 0) (b := B40_4) (gs := [0 ≤ v2 ∧ v2 < 6, ¬ (¬ (h 584 v0 v2) = v1)]) (c' := (20, [some (19, v0), some (0, v1), some (0, v2)], [], (h, hm, o))) K40_4 rfl ⟨q2, q3, trivial⟩ ?_
        refine zF_blk (m := []) (d := 0) (b := B40_3) (gs := []) (c' := (21, [some (19, v0), some (0, v1), some (0, v2)], [(0, 1)], (h, hm, o))) K40_3 rfl trivial ?_
        obtain rfl := Option.some.inj e
        exact zF_rb (by decide +kernel) (Or.inr rfl)
/-- EchoVale$Valley.hasCliff(I)Z -/
def F40 (v0 : Int) (v1 : Int) (h : zHC) : Option Int := F40_0 h zFu v0 v1 0
set_option maxRecDepth 100000 in
theorem S40 {spec : zRn zH2} {hm : zHM} {o : Int → Int} {d : Nat} (hd : 1 ≤ d) (v0 : Int) (v1 : Int) (h : zHC) (v : Int) (e : F40 v0 v1 h = some v) : zRu2 spec d 40 [(19, v0), (0, v1)] (h, hm, o) (some (0, v)) (h, hm, o) := by
  refine zF_in (D := 0) (mx := 3) (L := [some (19, v0), some (0, v1), none]) (by decide +kernel) rfl rfl hd (fun d hd => ?_)
  unfold F40 at e
  refine zF_blk (m := []) (d := 0) (b := B40_0) (gs := []) (c' := (2, [some (19, v0), some (0, v1), some (0, 0)], [], (h, hm, o))) K40_0 rfl trivial ?_
  exact T40_0 hd h zFu v0 v1 0 _ e
def B34_0 : List zRow := [(23, .aload_n 0, 1, (0, 0, 0)), (24, .getfield 18, 3, (10, 2, 23))]
theorem K34_0 : zRk 34 B34_0 = true := by decide +kernel
def B34_1 : List zRow := [(30, .aload_n 0, 1, (0, 0, 0))]
theorem K34_1 : zRk 34 B34_1 = true := by decide +kernel
def B34_2 : List zRow := [(39, .aload_n 0, 1, (0, 0, 0)), (40, .getfield 18, 3, (10, 2, 23)), (43, .getfield 95, 3, (5, 7, 1)), (46, .lstore_n 2, 1, (0, 0, 0)), (47, .aload_n 0, 1, (0, 0, 0)), (48, .getfield 18, 3, (10, 2, 23))]
theorem K34_2 : zRk 34 B34_2 = true := by decide +kernel
def B34_3 : List zRow := [(54, .aload_n 0, 1, (0, 0, 0))]
theorem K34_3 : zRk 34 B34_3 = true := by decide +kernel
def B34_4 : List zRow := [(68, .aload_n 0, 1, (0, 0, 0)), (69, .getfield 12, 3, (10, 0, 167)), (72, .iload 4, 2, (0, 0, 0))]
theorem K34_4 : zRk 34 B34_4 = true := by decide +kernel
def B34_5 : List zRow := [(89, .aload_n 0, 1, (0, 0, 0)), (90, .getfield 18, 3, (10, 2, 23))]
theorem K34_5 : zRk 34 B34_5 = true := by decide +kernel
def B34_6 : List zRow := [(96, .aload_n 0, 1, (0, 0, 0)), (97, .getfield 18, 3, (10, 2, 23)), (100, .iconst 1, 1, (0, 0, 0)), (101, .bipush 40, 2, (0, 0, 0))]
theorem K34_6 : zRk 34 B34_6 = true := by decide +kernel
def B34_7 : List zRow := [(111, .aload_n 0, 1, (0, 0, 0)), (112, .getfield 18, 3, (10, 2, 23)), (115, .getfield 52, 3, (5, 6, 0)), (118, .istore 5, 2, (0, 0, 0)), (120, .aload_n 0, 1, (0, 0, 0)), (121, .getfield 18, 3, (10, 2, 23))]
theorem K34_7 : zRk 34 B34_7 = true := by decide +kernel
def B34_8 : List zRow := [(127, .aload_n 0, 1, (0, 0, 0)), (128, .getfield 18, 3, (10, 2, 23)), (131, .iconst 1, 1, (0, 0, 0)), (132, .bipush 9, 2, (0, 0, 0))]
theorem K34_8 : zRk 34 B34_8 = true := by decide +kernel
def B34_9 : List zRow := [(142, .aload_n 0, 1, (0, 0, 0)), (143, .getfield 12, 3, (10, 0, 167)), (146, .getfield 106, 3, (9, 7, 5505050)), (149, .iload_n 1, 1, (0, 0, 0)), (150, .lload_n 2, 1, (0, 0, 0)), (151, .lastore, 1, (0, 0, 0)), (152, .aload_n 0, 1, (0, 0, 0)), (153, .getfield 12, 3, (10, 0, 167)), (156, .getfield 110, 3, (9, 8, 5242906)), (159, .iload_n 1, 1, (0, 0, 0)), (160, .iload 4, 2, (0, 0, 0)), (162, .iastore, 1, (0, 0, 0)), (163, .aload_n 0, 1, (0, 0, 0)), (164, .getfield 12, 3, (10, 0, 167)), (167, .getfield 114, 3, (9, 9, 5242906)), (170, .iload_n 1, 1, (0, 0, 0)), (171, .iload 5, 2, (0, 0, 0)), (173, .iastore, 1, (0, 0, 0)), (174, .aload_n 0, 1, (0, 0, 0)), (175, .getfield 12, 3, (10, 0, 167)), (178, .getfield 117, 3, (9, 10, 5242906)), (181, .iload_n 1, 1, (0, 0, 0)), (182, .aload_n 0, 1, (0, 0, 0)), (183, .getfield 18, 3, (10, 2, 23)), (186, .getfield 52, 3, (5, 6, 0)), (189, .iastore, 1, (0, 0, 0)), (190, .aload_n 0, 1, (0, 0, 0)), (191, .getfield 12, 3, (10, 0, 167)), (194, .iload_n 1, 1, (0, 0, 0)), (195, .iconst 1, 1, (0, 0, 0)), (196, .iadd, 1, (0, 0, 0)), (197, .putfield 89, 3, (9, 2, 0)), (200, .aload_n 0, 1, (0, 0, 0)), (201, .getfield 18, 3, (10, 2, 23))]
theorem K34_9 : zRk 34 B34_9 = true := by decide +kernel
def B34_10 : List zRow := [(207, .iconst 1, 1, (0, 0, 0))]
theorem K34_10 : zRk 34 B34_10 = true := by decide +kernel
def B34_11 : List zRow := [(140, .iconst 0, 1, (0, 0, 0))]
theorem K34_11 : zRk 34 B34_11 = true := by decide +kernel
def B34_12 : List zRow := [(137, .ifCond .ne 5, 3, (0, 0, 0))]
theorem K34_12 : zRk 34 B34_12 = true := by decide +kernel
def B34_13 : List zRow := [(109, .iconst 0, 1, (0, 0, 0))]
theorem K34_13 : zRk 34 B34_13 = true := by decide +kernel
def B34_14 : List zRow := [(106, .ifCond .ne 5, 3, (0, 0, 0))]
theorem K34_14 : zRk 34 B34_14 = true := by decide +kernel
def B34_15 : List zRow := [(80, .aload_n 0, 1, (0, 0, 0)), (81, .getfield 18, 3, (10, 2, 23)), (84, .iconst 3, 1, (0, 0, 0))]
theorem K34_15 : zRk 34 B34_15 = true := by decide +kernel
def B34_16 : List zRow := [(77, .ifCond .eq 12, 3, (0, 0, 0))]
theorem K34_16 : zRk 34 B34_16 = true := by decide +kernel
def B34_17 : List zRow := [(66, .iconst 0, 1, (0, 0, 0))]
theorem K34_17 : zRk 34 B34_17 = true := by decide +kernel
def B34_18 : List zRow := [(58, .istore 4, 2, (0, 0, 0)), (60, .iload 4, 2, (0, 0, 0)), (62, .iconst (-1), 1, (0, 0, 0)), (63, .if_icmp .ne 5, 3, (0, 0, 0))]
theorem K34_18 : zRk 34 B34_18 = true := by decide +kernel
def B34_19 : List zRow := [(37, .iconst 0, 1, (0, 0, 0))]
theorem K34_19 : zRk 34 B34_19 = true := by decide +kernel
def B34_20 : List zRow := [(34, .ifCond .ne 5, 3, (0, 0, 0))]
theorem K34_20 : zRk 34 B34_20 = true := by decide +kernel
def B34_21 : List zRow := [(14, .aload_n 0, 1, (0, 0, 0)), (15, .getfield 18, 3, (10, 2, 23)), (18, .iconst 4, 1, (0, 0, 0))]
theorem K34_21 : zRk 34 B34_21 = true := by decide +kernel
def B34_22 : List zRow := [(0, .aload_n 0, 1, (0, 0, 0)), (1, .getfield 12, 3, (10, 0, 167)), (4, .getfield 89, 3, (9, 2, 0)), (7, .istore_n 1, 1, (0, 0, 0)), (8, .iload_n 1, 1, (0, 0, 0)), (9, .bipush 6, 2, (0, 0, 0)), (11, .if_icmp .lt 12, 3, (0, 0, 0))]
theorem K34_22 : zRk 34 B34_22 = true := by decide +kernel
/-- EchoVale$ValleyText.readCliff()Z -/
def F34 (h : zHC) : Option (Int × zHC) := if (h 578 1 0) < 6 then (F21 h).bind fun r1 => (F35 r1).bind fun r2 => if ¬ r2.1 = 0 then (F21 r2.2).bind fun r3 => (F39 r3).bind fun r4 => if ¬ r4.1 = (-1) then (F40 1 r4.1 r4.2).bind fun r5 => if r5 = 0 then (F21 r4.2).bind fun r6 => (F33 1 40 r6).bind fun r7 => if ¬ r7.1 = 0 then (F21 r7.2).bind fun r8 => (F33 1 9 r8).bind fun r9 => if ¬ r9.1 = 0 then zG (0 ≤ (h 578 1 0) ∧ (h 578 1 0) < 6) (zG (0 ≤ (h 578 1 0) ∧ (h 578 1 0) < 6) (zG (0 ≤ (h 578 1 0) ∧ (h 578 1 0) < 6) (zG (0 ≤ (h 578 1 0) ∧ (h 578 1 0) < 6) ((F21 (hset (hset (hset (hset (hset r9.2 583 1 (h 578 1 0) (r2.2 327 0 0)) 584 1 (h 578 1 0) r4.1) 585 1 (h 578 1 0) (r7.2 326 0 0)) 586 1 (h 578 1 0) (r9.2 326 0 0)) 578 1 0 (wadd (h 578 1 0) 1))).bind fun r10 => some (1, r10))))) else some (0, r9.2) else some (0, r7.2) else (F31 3 r4.2).bind fun r11 => zG (r11.1 = 0 ∨ r11.1 = 1) (some (r11.1, r11.2)) else some (0, r4.2) else some (0, r2.2) else (F31 4 h).bind fun r12 => zG (r12.1 = 0 ∨ r12.1 = 1) (some (r12.1, r12.2))
set_option maxRecDepth 100000 in
theorem S34 {spec : zRn zH2} {hm : zHM} {o : Int → Int} {d : Nat} (hd : 5 ≤ d) (h : zHC) (v : (Int × zHC)) (e : F34 h = some v) : zRu2 spec d 34 [(20, 0)] (h, hm, o) (some (0, v.1)) (v.2, hm, o) := by
  refine zF_in (D := 4) (mx := 6) (L := [some (20, 0), none, none, none, none, none]) (by decide +kernel) rfl rfl hd (fun d hd => ?_)
  unfold F34 at e
  rcases zI_s e with ⟨q1, e⟩ | ⟨q1, e⟩
  · refine zF_blk (m := []) (d := 1) (b := B34_22) (gs := [(h 578 1 0) < 6]) (c' := (23, [some (20, 0), some (0, (h 578 1 0)), none, none, none, none], [], (h, hm, o))) K34_22 rfl ⟨q1, trivial⟩ ?_
    obtain ⟨r1, q2, e⟩ := zB_s e
    refine zF_blk (m := []) (d := 0) (b := B34_0) (gs := []) (c' := (27, [some (20, 0), some (0, (h 578 1 0)), none, none, none, none], [(15, 0)], (h, hm, o))) K34_0 rfl trivial ?_
    refine zF_call (k := 21) (cl := 5) (n := 1) (i := .invokevirtual 79) (args := [(15, 0)]) (rest := []) (g1 := (r1, hm, o)) (r1 := none) (by decide +kernel) rfl rfl rfl (st' := []) rfl (S21 (Nat.le_trans (by decide) hd)  h _ q2) ?_
    obtain ⟨r2, q3, e⟩ := zB_s e
    refine zF_blk (m := []) (d := 0) (b := B34_1) (gs := []) (c' := (31, [some (20, 0), some (0, (h 578 1 0)), none, none, none, none], [(20, 0)], (r1, hm, o))) K34_1 rfl trivial ?_
    refine zF_call (k := 35) (cl := 10) (n := 1) (i := .invokevirtual 92) (args := [(20, 0)]) (rest := []) (g1 := (r2.2, hm, o)) (r1 := some (0, r2.1)) (by decide +kernel) rfl rfl rfl (st' := [(0, r2.1)]) rfl (S35 (Nat.le_trans (by decide) hd)  r1 _ q3) ?_
    rcases zI_s e with ⟨q4, e⟩ | ⟨q4, e⟩
    · refine zF_blk (m := []) (d := 1) (b := B34_20) (gs := [¬ r2.1 = 0]) (c' := (39, [some (20, 0), some (0, (h 578 1 0)), none, none, none, none], [], (r2.2, hm, o))) K34_20 rfl ⟨q4, trivial⟩ ?_
      obtain ⟨r3, q5, e⟩ := zB_s e
      refine zF_blk (m := []) (d := 0) (b := B34_2) (gs := []) (c' := (51, [some (20, 0), some (0, (h 578 1 0)), some (1, (r2.2 327 0 0)), none, none, none], [(15, 0)], (r2.2, hm, o))) K34_2 rfl trivial ?_
      refine zF_call (k := 21) (cl := 5) (n := 1) (i := .invokevirtual 79) (args := [(15, 0)]) (rest := []) (g1 := (r3, hm, o)) (r1 := none) (by decide +kernel) rfl rfl rfl (st' := []) rfl (S21 (Nat.le_trans (by decide) hd)  r2.2 _ q5) ?_
      obtain ⟨r4, q6, e⟩ := zB_s e
      refine zF_blk (m := []) (d := 0) (b := B34_3) (gs := []) (c' := (55, [some (20, 0), some (0, (h 578 1 0)), some (1, (r2.2 327 0 0)), none, none, none], [(20, 0)], (r3, hm, o))) K34_3 rfl trivial ?_
      refine zF_call (k := 39) (cl := 10) (n := 1) (i := .invokevirtual 99) (args := [(20, 0)]) (rest := []) (g1 := (r4.2, hm, o)) (r1 := some (0, r4.1)) (by decide +kernel) rfl rfl rfl (st' := [(0, r4.1)]) rfl (S39 (Nat.le_trans (by decide) hd)  r3 _ q6) ?_
      rcases zI_s e with ⟨q7, e⟩ | ⟨q7, e⟩
      · refine zF_blk (m := []) (d := 1) (b := B34_18) (gs := [¬ r4.1 = (-1)]) (c' := (68, [some (20, 0), some (0, (h 578 1 0)), some (1, (r2.2 327 0 0)), none, some (0, r4.1), none], [], (r4.2, hm, o))) K34_18 rfl ⟨q7, trivial⟩ ?_
        obtain ⟨r5, q8, e⟩ := zB_s e
        refine zF_blk (m := []) (d := 0) (b := B34_4) (gs := []) (c' := (74, [some (20, 0), some (0, (h 578 1 0)), some (1, (r2.2 327 0 0)), none, some (0, r4.1), none], [(0, r4.1), (19, 1)], (r4.2, hm, o))) K34_4 rfl trivial ?_
        refine zF_call (k := 40) (cl := 9) (n := 2) (i := .invokevirtual 103) (args := [(19, 1), (0, r4.1)]) (rest := []) (g1 := (r4.2, hm, o)) (r1 := some (0, r5)) (by decide +kernel) rfl rfl rfl (st' := [(0, r5)]) rfl (S40 (Nat.le_trans (by decide) hd) 1 r4.1 r4.2 _ q8) ?_
        rcases zI_s e with ⟨q9, e⟩ | ⟨q9, e⟩
        · refine zF_blk (m := []) (d := 1) (b := B34_16) (gs := [r5 = 0]) (c' := (89, [some (20, 0), some (0, (h 578 1 0)), some (1, (r2.2 327 0 0)), none, some (0, r4.1), none], [], (r4.2, hm, o))) K34_16 rfl ⟨q9, trivial⟩ ?_
          obtain ⟨r6, q10, e⟩ := zB_s e
          refine zF_blk (m := []) (d := 0) (b := B34_5) (gs := []) (c' := (93, [some (20, 0), some (0, (h 578 1 0)), some (1, (r2.2 327 0 0)), none, some (0, r4.1), none], [(15, 0)], (r4.2, hm, o))) K34_5 rfl trivial ?_
          refine zF_call (k := 21) (cl := 5) (n := 1) (i := .invokevirtual 79) (args := [(15, 0)]) (rest := []) (g1 := (r6, hm, o)) (r1 := none) (by decide +kernel) rfl rfl rfl (st' := []) rfl (S21 (Nat.le_trans (by decide) hd)  r4.2 _ q10) ?_
          obtain ⟨r7, q11, e⟩ := zB_s e
          refine zF_blk (m := []) (d := 0) (b := B34_6) (gs := []) (c' := (103, [some (20, 0), some (0, (h 578 1 0)), some (1, (r2.2 327 0 0)), none, some (0, r4.1), none], [(0, 40), (0, 1), (15, 0)], (r6, hm, o))) K34_6 rfl trivial ?_
          refine zF_call (k := 33) (cl := 5) (n := 3) (i := .invokevirtual 82) (args := [(15, 0), (0, 1), (0, 40)]) (rest := []) (g1 := (r7.2, hm, o)) (r1 := some (0, r7.1)) (by decide +kernel) rfl rfl rfl (st' := [(0, r7.1)]) rfl (S33 (Nat.le_trans (by decide) hd) 1 40 r6 _ q11) ?_
          rcases zI_s e with ⟨q12, e⟩ | ⟨q12, e⟩
          · refine zF_blk (m := []) (d := 1) (b := B34_14) (gs := [¬ r7.1 = 0]) (c' := (111, [some (20, 0), some (0, (h 578 1 0)), some (1, (r2.2 327 0 0)), none, some (0, r4.1), none], [], (r7.2, hm, o))) K34_14 rfl ⟨q12, trivial⟩ ?_
            obtain ⟨r8, q13, e⟩ := zB_s e
            refine zF_blk (m := []) (d := 0) (b := B34_7) (gs := []) (c' := (124, [some (20, 0), some (0, (h 578 1 0)), some (1, (r2.2 327 0 0)), none, some (0, r4.1), some (0, (r7.2 326 0 0))], [(15, 0)], (r7.2, hm, o))) K34_7 rfl trivial ?_
            refine zF_call (k := 21) (cl := 5) (n := 1) (i := .invokevirtual 79) (args := [(15, 0)]) (rest := []) (g1 := (r8, hm, o)) (r1 := none) (by decide +kernel) rfl rfl rfl (st' := []) rfl (S21 (Nat.le_trans (by decide) hd)  r7.2 _ q13) ?_
            obtain ⟨r9, q14, e⟩ := zB_s e
            refine zF_blk (m := []) (d := 0) (b := B34_8) (gs := []) (c' := (134, [some (20, 0), some (0, (h 578 1 0)), some (1, (r2.2 327 0 0)), none, some (0, r4.1), some (0, (r7.2 326 0 0))], [(0, 9), (0, 1), (15, 0)], (r8, hm, o))) K34_8 rfl trivial ?_
            refine zF_call (k := 33) (cl := 5) (n := 3) (i := .invokevirtual 82) (args := [(15, 0), (0, 1), (0, 9)]) (rest := []) (g1 := (r9.2, hm, o)) (r1 := some (0, r9.1)) (by decide +kernel) rfl rfl rfl (st' := [(0, r9.1)]) rfl (S33 (Nat.le_trans (by decide) hd) 1 9 r8 _ q14) ?_
            rcases zI_s e with ⟨q15, e⟩ | ⟨q15, e⟩
            · refine zF_blk (m := []) (d := 1) (b := B34_12) (gs := [¬ r9.1 = 0]) (c' := (142, [some (20, 0), some (0, (h 578 1 0)), some (1, (r2.2 327 0 0)), none, some (0, r4.1), some (0, (r7.2 326 0 0))], [], (r9.2, hm, o))) K34_12 rfl ⟨q15, trivial⟩ ?_
              obtain ⟨q16, e⟩ := zG_s e
              obtain ⟨q16, e⟩ := zG_s e
              obtain ⟨q16, e⟩ := zG_s e
              obtain ⟨q16, e⟩ := zG_s e
              obtain ⟨r10, q17, e⟩ := zB_s e
              refine zF_blk (m := []) (d := 0) (b := B34_9) (gs := [0 ≤ (h 578 1 0) ∧ (h 578 1 0) < 6, 0 ≤ (h 578 1 0) ∧ (h 578 1 0) < 6, 0 ≤ (h 578 1 0) ∧ (h 578 1 0) < 6, 0 ≤ (h 578 1 0) ∧ (h 578 1 0) < 6]) (c' := (204, [some (20, 0), some (0, (h 578 1 0)), some (1, (r2.2 327 0 0)), none, some (0, r4.1), some (0, (r7.2 326 0 0))], [(15, 0)], ((hset (hset (hset (hset (hset r9.2 583 1 (h 578 1 0) (r2.2 327 0 0)) 584 1 (h 578 1 0) r4.1) 585 1 (h 578 1 0) (r7.2 326 0 0)) 586 1 (h 578 1 0) (r9.2 326 0 0)) 578 1 0 (wadd (h 578 1 0) 1)), hm, o))) K34_9 rfl ⟨q16, q16, q16, q16, trivial⟩ ?_
              refine zF_call (k := 21) (cl := 5) (n := 1) (i := .invokevirtual 79) (args := [(15, 0)]) (rest := []) (g1 := (r10, hm, o)) (r1 := none) (by decide +kernel) rfl rfl rfl (st' := []) rfl (S21 (Nat.le_trans (by decide) hd)  (hset (hset (hset (hset (hset r9.2 583 1 (h 578 1 0) (r2.2 327 0 0)) 584 1 (h 578 1 0) r4.1) 585 1 (h 578 1 0) (r7.2 326 0 0)) 586 1 (h 578 1 0) (r9.2 326 0 0)) 578 1 0 (wadd (h 578 1 0) 1)) _ q17) ?_
              refine zF_blk (m := []) (d := 0) (b := B34_10) (gs := []) (c' := (208, [some (20, 0), some (0, (h 578 1 0)), some (1, (r2.2 327 0 0)), none, some (0, r4.1), some (0, (r7.2 326 0 0))], [(0, 1)], (r10, hm, o))) K34_10 rfl trivial ?_
              exact zF_rbC (by decide +kernel) (Or.inr rfl) e
            · refine zF_blk (m := []) (d := 0) (b := B34_12) (gs := [¬ (¬ r9.1 = 0)]) (c' := (140, [some (20, 0), some (0, (h 578 1 0)), some (1, (r2.2 327 0 0)), none, some (0, r4.1), some (0, (r7.2 326 0 0))], [], (r9.2, hm, o))) K34_12 rfl ⟨q15, trivial⟩ ?_
              refine zF_blk (m := []) (d := 0) (b := B34_11) (gs := []) (c' := (141, [some (20, 0), some (0, (h 578 1 0)), some (1, (r2.2 327 0 0)), none, some (0, r4.1), some (0, (r7.2 326 0 0))], [(0, 0)], (r9.2, hm, o))) K34_11 rfl trivial ?_
              exact zF_rbC (by decide +kernel) (Or.inl rfl) e
          · refine zF_blk (m := []) (d := 0) (b := B34_14) (gs := [¬ (¬ r7.1 = 0)]) (c' := (109, [some (20, 0), some (0, (h 578 1 0)), some (1, (r2.2 327 0 0)), none, some (0, r4.1), none], [], (r7.2, hm, o))) K34_14 rfl ⟨q12, trivial⟩ ?_
            refine zF_blk (m := []) (d := 0) (b := B34_13) (gs := []) (c' := (110, [some (20, 0), some (0, (h 578 1 0)), some (1, (r2.2 327 0 0)), none, some (0, r4.1), none], [(0, 0)], (r7.2, hm, o))) K34_13 rfl trivial ?_
            exact zF_rbC (by decide +kernel) (Or.inl rfl) e
        · refine zF_blk (m := []) (d := 0) (b := B34_16) (gs := [¬ (r5 = 0)]) (c' := (80, [some (20, 0), some (0, (h 578 1 0)), some (1, (r2.2 327 0 0)), none, some (0, r4.1), none], [], (r4.2, hm, o))) K34_16 rfl ⟨q9, trivial⟩ ?_
          obtain ⟨r11, q18, e⟩ := zB_s e
          refine zF_blk (m := []) (d := 0) (b := B34_15) (gs := []) (c' := (85, [some (20, 0), some (0, (h 578 1 0)), some (1, (r2.2 327 0 0)), none, some (0, r4.1), none], [(0, 3), (15, 0)], (r4.2, hm, o))) K34_15 rfl trivial ?_
          refine zF_call (k := 31) (cl := 5) (n := 2) (i := .invokevirtual 49) (args := [(15, 0), (0, 3)]) (rest := []) (g1 := (r11.2, hm, o)) (r1 := some (0, r11.1)) (by decide +kernel) rfl rfl rfl (st' := [(0, r11.1)]) rfl (S31 (Nat.le_trans (by decide) hd) 3 r4.2 _ q18) ?_
          obtain ⟨q19, e⟩ := zG_s e
          exact zF_rbC (by decide +kernel) q19 e
      · refine zF_blk (m := []) (d := 0) (b := B34_18) (gs := [¬ (¬ r4.1 = (-1))]) (c' := (66, [some (20, 0), some (0, (h 578 1 0)), some (1, (r2.2 327 0 0)), none, some (0, r4.1), none], [], (r4.2, hm, o))) K34_18 rfl ⟨q7, trivial⟩ ?_
        refine zF_blk (m := []) (d := 0) (b := B34_17) (gs := []) (c' := (67, [some (20, 0), some (0, (h 578 1 0)), some (1, (r2.2 327 0 0)), none, some (0, r4.1), none], [(0, 0)], (r4.2, hm, o))) K34_17 rfl trivial ?_
        exact zF_rbC (by decide +kernel) (Or.inl rfl) e
    · refine zF_blk (m := []) (d := 0) (b := B34_20) (gs := [¬ (¬ r2.1 = 0)]) (c' := (37, [some (20, 0), some (0, (h 578 1 0)), none, none, none, none], [], (r2.2, hm, o))) K34_20 rfl ⟨q4, trivial⟩ ?_
      refine zF_blk (m := []) (d := 0) (b := B34_19) (gs := []) (c' := (38, [some (20, 0), some (0, (h 578 1 0)), none, none, none, none], [(0, 0)], (r2.2, hm, o))) K34_19 rfl trivial ?_
      exact zF_rbC (by decide +kernel) (Or.inl rfl) e
  · refine zF_blk (m := []) (d := 0) (b := B34_22) (gs := [¬ ((h 578 1 0) < 6)]) (c' := (14, [some (20, 0), some (0, (h 578 1 0)), none, none, none, none], [], (h, hm, o))) K34_22 rfl ⟨q1, trivial⟩ ?_
    obtain ⟨r12, q20, e⟩ := zB_s e
    refine zF_blk (m := []) (d := 0) (b := B34_21) (gs := []) (c' := (19, [some (20, 0), some (0, (h 578 1 0)), none, none, none, none], [(0, 4), (15, 0)], (h, hm, o))) K34_21 rfl trivial ?_
    refine zF_call (k := 31) (cl := 5) (n := 2) (i := .invokevirtual 49) (args := [(15, 0), (0, 4)]) (rest := []) (g1 := (r12.2, hm, o)) (r1 := some (0, r12.1)) (by decide +kernel) rfl rfl rfl (st' := [(0, r12.1)]) rfl (S31 (Nat.le_trans (by decide) hd) 4 h _ q20) ?_
    obtain ⟨q21, e⟩ := zG_s e
    exact zF_rbC (by decide +kernel) q21 e
