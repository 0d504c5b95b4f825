/-! Functions of the methods, by wip/gen/lift.py. -/
def B97_0 : List zRow := [(9, .aload_n 0, 1, (0, 0, 0)), (10, .dup, 1, (0, 0, 0)), (11, .getfield 18, 3, (8, 0, 0)), (14, .iconst 1, 1, (0, 0, 0)), (15, .isub, 1, (0, 0, 0)), (16, .putfield 18, 3, (8, 0, 0)), (19, .aload_n 1, 1, (0, 0, 0)), (20, .aload_n 0, 1, (0, 0, 0)), (21, .getfield 11, 3, (8, 2, 6029346)), (24, .aload_n 0, 1, (0, 0, 0)), (25, .getfield 22, 3, (8, 1, 0)), (28, .aload_n 0, 1, (0, 0, 0)), (29, .getfield 18, 3, (8, 0, 0)), (32, .iadd, 1, (0, 0, 0)), (33, .bipush 8, 2, (0, 0, 0)), (35, .irem, 1, (0, 0, 0)), (36, .aaload, 1, (23, 0, 0))]
theorem K97_0 : zRk 97 B97_0 = true := by decide +kernel
def B97_1 : List zRow := [(40, .iconst 1, 1, (0, 0, 0))]
theorem K97_1 : zRk 97 B97_1 = true := by decide +kernel
def B97_2 : List zRow := [(7, .iconst 0, 1, (0, 0, 0))]
theorem K97_2 : zRk 97 B97_2 = true := by decide +kernel
def B97_3 : List zRow := [(0, .aload_n 0, 1, (0, 0, 0)), (1, .getfield 18, 3, (8, 0, 0)), (4, .ifCond .ne 5, 3, (0, 0, 0))]
theorem K97_3 : zRk 97 B97_3 = true := by decide +kernel
/-- EchoVale$Undo.takeBack(LEchoVale$Course;)Z -/
def F97 (v1 : Int) (h : zHC) : Option (Int × zHC) := if ¬ (h 512 0 0) = 0 then zG (0 ≤ (wrem (wadd (h 513 0 0) (wsub (h 512 0 0) 1)) 8) ∧ (wrem (wadd (h 513 0 0) (wsub (h 512 0 0) 1)) 8) < 8) ((F71 v1 (2 + (wrem (wadd (h 513 0 0) (wsub (h 512 0 0) 1)) 8)) (hset h 512 0 0 (wsub (h 512 0 0) 1))).bind fun r1 => some (1, r1)) else some (0, h)
set_option maxRecDepth 100000 in
theorem S97 {spec : zRn zH2} {hm : zHM} {o : Int → Int} {d : Nat} (hd : 3 ≤ d) (v1 : Int) (h : zHC) (v : (Int × zHC)) (e : F97 v1 h = some v) : zRu2 spec d 97 [(18, 0), (11, v1)] (h, hm, o) (some (0, v.1)) (v.2, hm, o) := by
  refine zF_in (D := 2) (mx := 2) (L := [some (18, 0), some (11, v1)]) (by decide +kernel) rfl rfl hd (fun d hd => ?_)
  unfold F97 at e
  rcases zI_s e with ⟨q1, e⟩ | ⟨q1, e⟩
  · refine zF_blk (m := []) (d := 1) (b := B97_3) (gs := [¬ (h 512 0 0) = 0]) (c' := (9, [some (18, 0), some (11, v1)], [], (h, hm, o))) K97_3 rfl ⟨q1, trivial⟩ ?_
    obtain ⟨q2, e⟩ := zG_s e
    obtain ⟨r1, q3, e⟩ := zB_s e
    refine zF_blk (m := []) (d := 0) (b := B97_0) (gs := [¬ 8 = 0, 0 ≤ (wrem (wadd (h 513 0 0) (wsub (h 512 0 0) 1)) 8) ∧ (wrem (wadd (h 513 0 0) (wsub (h 512 0 0) 1)) 8) < 8]) (c' := (37, [some (18, 0), some (11, v1)], [(11, (2 + (wrem (wadd (h 513 0 0) (wsub (h 512 0 0) 1)) 8))), (11, v1)], ((hset h 512 0 0 (wsub (h 512 0 0) 1)), hm, o))) K97_0 rfl ⟨by decide, q2, trivial⟩ ?_
    refine zF_call (k := 71) (cl := 1) (n := 2) (i := .invokevirtual 25) (args := [(11, v1), (11, (2 + (wrem (wadd (h 513 0 0) (wsub (h 512 0 0) 1)) 8)))]) (rest := []) (g1 := (r1, hm, o)) (r1 := none) (by decide +kernel) rfl rfl rfl (st' := []) rfl (S71 (Nat.le_trans (by decide) hd) v1 (2 + (wrem (wadd (h 513 0 0) (wsub (h 512 0 0) 1)) 8)) (hset h 512 0 0 (wsub (h 512 0 0) 1)) _ q3) ?_
    refine zF_blk (m := []) (d := 0) (b := B97_1) (gs := []) (c' := (41, [some (18, 0), some (11, v1)], [(0, 1)], (r1, hm, o))) K97_1 rfl trivial ?_
    exact zF_rbC (by decide +kernel) (Or.inr rfl) e
  · refine zF_blk (m := []) (d := 0) (b := B97_3) (gs := [¬ (¬ (h 512 0 0) = 0)]) (c' := (7, [some (18, 0), some (11, v1)], [], (h, hm, o))) K97_3 rfl ⟨q1, trivial⟩ ?_
    refine zF_blk (m := []) (d := 0) (b := B97_2) (gs := []) (c' := (8, [some (18, 0), some (11, v1)], [(0, 0)], (h, hm, o))) K97_2 rfl trivial ?_
    exact zF_rbC (by decide +kernel) (Or.inl rfl) e
def B96_0 : List zRow := [(0, .aload_n 0, 1, (0, 0, 0)), (1, .getfield 66, 3, (11, 8, 35)), (4, .aload_n 0, 1, (0, 0, 0)), (5, .getfield 56, 3, (11, 6, 7))]
theorem K96_0 : zRk 96 B96_0 = true := by decide +kernel
def B96_1 : List zRow := [(24, .iconst (-1), 1, (0, 0, 0))]
theorem K96_1 : zRk 96 B96_1 = true := by decide +kernel
def B96_2 : List zRow := [(14, .aload_n 0, 1, (0, 0, 0)), (15, .getfield 66, 3, (11, 8, 35)), (18, .getfield 239, 3, (8, 0, 0)), (21, .goto 4, 3, (0, 0, 0))]
theorem K96_2 : zRk 96 B96_2 = true := by decide +kernel
def B96_3 : List zRow := [(11, .ifCond .eq 13, 3, (0, 0, 0))]
theorem K96_3 : zRk 96 B96_3 = true := by decide +kernel
/-- EchoVale.undo()I -/
def F96 (h : zHC) : Option (Int × zHC) := (F97 0 h).bind fun r1 => if r1.1 = 0 then some ((-1), r1.2) else some ((r1.2 512 0 0), r1.2)
set_option maxRecDepth 100000 in
theorem S96 {spec : zRn zH2} {hm : zHM} {o : Int → Int} {d : Nat} (hd : 4 ≤ d) (h : zHC) (v : (Int × zHC)) (e : F96 h = some v) : zRu2 spec d 96 [(21, 0)] (h, hm, o) (some (0, v.1)) (v.2, hm, o) := by
  refine zF_in (D := 3) (mx := 1) (L := [some (21, 0)]) (by decide +kernel) rfl rfl hd (fun d hd => ?_)
  unfold F96 at e
  obtain ⟨r1, q1, e⟩ := zB_s e
  refine zF_blk (m := []) (d := 0) (b := B96_0) (gs := []) (c' := (8, [some (21, 0)], [(11, 0), (18, 0)], (h, hm, o))) K96_0 rfl trivial ?_
  refine zF_call (k := 97) (cl := 8) (n := 2) (i := .invokevirtual 235) (args := [(18, 0), (11, 0)]) (rest := []) (g1 := (r1.2, hm, o)) (r1 := some (0, r1.1)) (by decide +kernel) rfl rfl rfl (st' := [(0, r1.1)]) rfl (S97 (Nat.le_trans (by decide) hd) 0 h _ q1) ?_
  rcases zI_s e with ⟨q2, e⟩ | ⟨q2, e⟩
  · refine zF_blk (m := []) (d := 1) (b := B96_3) (gs := [r1.1 = 0]) (c' := (24, [some (21, 0)], [], (r1.2, hm, o))) K96_3 rfl ⟨q2, trivial⟩ ?_
    refine zF_blk (m := []) (d := 0) (b := B96_1) (gs := []) (c' := (25, [some (21, 0)], [(0, (-1))], (r1.2, hm, o))) K96_1 rfl trivial ?_
    exact zF_riC (by decide +kernel) e
  · refine zF_blk (m := []) (d := 0) (b := B96_3) (gs := [¬ (r1.1 = 0)]) (c' := (14, [some (21, 0)], [], (r1.2, hm, o))) K96_3 rfl ⟨q2, trivial⟩ ?_
    refine zF_blk (m := []) (d := 0) (b := B96_2) (gs := []) (c' := (25, [some (21, 0)], [(0, (r1.2 512 0 0))], (r1.2, hm, o))) K96_2 rfl trivial ?_
    exact zF_riC (by decide +kernel) e
def B222_0 : List zRow := [(14, .aload_n 0, 1, (0, 0, 0)), (15, .dup, 1, (0, 0, 0)), (16, .getfield 232, 3, (12, 23, 0)), (19, .iconst 1, 1, (0, 0, 0)), (20, .isub, 1, (0, 0, 0)), (21, .putfield 232, 3, (12, 23, 0)), (24, .iconst 0, 1, (0, 0, 0)), (25, .istore_n 1, 1, (0, 0, 0))]
theorem K222_0 : zRk 222 B222_0 = true := by decide +kernel
def B222_1 : List zRow := [(12, .iconst (-1), 1, (0, 0, 0))]
theorem K222_1 : zRk 222 B222_1 = true := by decide +kernel
def B222_2 : List zRow := [(0, .aload_n 0, 1, (0, 0, 0)), (1, .iconst 0, 1, (0, 0, 0)), (2, .putfield 81, 3, (12, 0, 0)), (5, .aload_n 0, 1, (0, 0, 0)), (6, .getfield 232, 3, (12, 23, 0)), (9, .ifCond .ne 5, 3, (0, 0, 0))]
theorem K222_2 : zRk 222 B222_2 = true := by decide +kernel
def B222_3 : List zRow := [(64, .aload_n 0, 1, (0, 0, 0)), (65, .getfield 232, 3, (12, 23, 0))]
theorem K222_3 : zRk 222 B222_3 = true := by decide +kernel
def B222_4 : List zRow := [(33, .aload_n 0, 1, (0, 0, 0)), (34, .getfield 13, 3, (12, 14, 5251442)), (37, .sipush 209, 3, (0, 0, 0)), (40, .iload_n 1, 1, (0, 0, 0))]
theorem K222_4 : zRk 222 B222_4 = true := by decide +kernel
def B222_5 : List zRow := [(41, .iadd, 1, (0, 0, 0)), (42, .aload_n 0, 1, (0, 0, 0)), (43, .getfield 22, 3, (12, 17, 5296930)), (46, .sipush 1689, 3, (0, 0, 0)), (49, .aload_n 0, 1, (0, 0, 0)), (50, .getfield 232, 3, (12, 23, 0))]
theorem K222_5 : zRk 222 B222_5 = true := by decide +kernel
def B222_6 : List zRow := [(53, .imul, 1, (0, 0, 0)), (54, .iload_n 1, 1, (0, 0, 0)), (55, .iadd, 1, (0, 0, 0)), (56, .iaload, 1, (0, 0, 0)), (57, .iastore, 1, (0, 0, 0)), (58, .iinc 1 1, 3, (0, 0, 0)), (61, .goto (-35), 3, (0, 0, 0))]
theorem K222_6 : zRk 222 B222_6 = true := by decide +kernel
def B222_7 : List zRow := [(26, .iload_n 1, 1, (0, 0, 0)), (27, .sipush 1689, 3, (0, 0, 0)), (30, .if_icmp .ge 34, 3, (0, 0, 0))]
theorem K222_7 : zRk 222 B222_7 = true := by decide +kernel
def F222_0 : Nat → Int → zHM → Option (Int × zHM)
  | 0, _, _ => none
  | n + 1, v1, h => if 1689 ≤ v1 then some ((h 23 0), h) else zG (0 ≤ (wadd (wmul 1689 (h 23 0)) v1) ∧ (wadd (wmul 1689 (h 23 0)) v1) < 13512) (zG (0 ≤ (wadd 209 v1) ∧ (wadd 209 v1) < 2140) ((F222_0 n) (wadd v1 1) (mset h 14 (wadd 209 v1) (h 17 (wadd (wmul 1689 (h 23 0)) v1)))))
set_option maxRecDepth 100000 in
theorem T222_0 {spec : zRn zH2} {hc : zHC} {o : Int → Int} {d : Nat} (hd : 0 ≤ d) : ∀ (n : Nat) (v1 : Int) (h : zHM) (v : (Int × zHM)), F222_0 n v1 h = some v → zFin 0 (fun _ => 0) (zRu2 spec d) 222 (some (0, v.1)) (hc, v.2, o) (26, [some (22, 0), some (0, v1)], [], (hc, h, o)) := by
  intro n
  induction n with
  | zero => intro v1 h v e; unfold F222_0 at e; cases e
  | succ n hk0 =>
    intro v1 h v e
    unfold F222_0 at e
    rcases zI_s e with ⟨q1, e⟩ | ⟨q1, e⟩
    · refine zF_blk (m := []) (d := 1) (b := B222_7) (gs := [1689 ≤ v1]) (c' := (64, [some (22, 0), some (0, v1)], [], (hc, h, o))) K222_7 rfl ⟨q1, trivial⟩ ?_
      refine zF_blk (m := []) (d := 0) (b := B222_3) (gs := []) (c' := (68, [some (22, 0), some (0, v1)], [(0, (h 23 0))], (hc, h, o))) K222_3 rfl trivial ?_
      exact zF_riM (by decide +kernel) e
    · refine zF_blk (m := []) (d := 0) (b := B222_7) (gs := [¬ (1689 ≤ v1)]) (c' := (33, [some (22, 0), some (0, v1)], [], (hc, h, o))) K222_7 rfl ⟨q1, trivial⟩ ?_
      obtain ⟨q2, e⟩ := zG_s e
      obtain ⟨q3, e⟩ := zG_s e
      refine zF_blk (m := []) (d := 0) (b := B222_4) (gs := []) (c' := (41, [some (22, 0), some (0, v1)], [(0, v1), (0, 209), (1344370422, 0)], (hc, h, o))) K222_4 rfl trivial ?_
      refine zF_blk (m := []) (d := 0) (b := B222_5) (gs := []) (c' := (53, [some (22, 0), some (0, v1)], [(0, (h 23 0)), (0, 1689), (1356015353, 0), (0, (wadd 209 v1)), (1344370422, 0)], (hc, h, o))) K222_5 rfl trivial ?_
      refine zF_blk (m := []) (d := 0) (b := B222_6) (gs := [0 ≤ (wadd (wmul 1689 (h 23 0)) v1) ∧ (wadd (wmul 1689 (h 23 0)) v1) < 13512, 0 ≤ (wadd 209 v1) ∧ (wadd 209 v1) < 2140]) (c' := (26, [some (22, 0), some (0, (wadd v1 1))], [], (hc, (mset h 14 (wadd 209 v1) (h 17 (wadd (wmul 1689 (h 23 0)) v1))), o))) K222_6 rfl ⟨q2, q3, trivial⟩ ?_
      exact hk0 (wadd v1 1) (mset h 14 (wadd 209 v1) (h 17 (wadd (wmul 1689 (h 23 0)) v1))) _ e
/-- EchoValeModel.undo()I -/
def F222 (h : zHM) : Option (Int × zHM) := if ¬ (h 23 0) = 0 then F222_0 zFu 0 (mset (mset h 0 0 0) 23 0 (wsub (h 23 0) 1)) else some ((-1), (mset h 0 0 0))
set_option maxRecDepth 100000 in
theorem S222 {spec : zRn zH2} {hc : zHC} {o : Int → Int} {d : Nat} (hd : 1 ≤ d) (h : zHM) (v : (Int × zHM)) (e : F222 h = some v) : zRu2 spec d 222 [(22, 0)] (hc, h, o) (some (0, v.1)) (hc, v.2, o) := by
  refine zF_in (D := 0) (mx := 2) (L := [some (22, 0), none]) (by decide +kernel) rfl rfl hd (fun d hd => ?_)
  unfold F222 at e
  rcases zI_s e with ⟨q1, e⟩ | ⟨q1, e⟩
  · refine zF_blk (m := []) (d := 1) (b := B222_2) (gs := [¬ (h 23 0) = 0]) (c' := (14, [some (22, 0), none], [], (hc, (mset h 0 0 0), o))) K222_2 rfl ⟨q1, trivial⟩ ?_
    refine zF_blk (m := []) (d := 0) (b := B222_0) (gs := []) (c' := (26, [some (22, 0), some (0, 0)], [], (hc, (mset (mset h 0 0 0) 23 0 (wsub (h 23 0) 1)), o))) K222_0 rfl trivial ?_
    exact T222_0 hd zFu 0 (mset (mset h 0 0 0) 23 0 (wsub (h 23 0) 1)) _ e
  · refine zF_blk (m := []) (d := 0) (b := B222_2) (gs := [¬ (¬ (h 23 0) = 0)]) (c' := (12, [some (22, 0), none], [], (hc, (mset h 0 0 0), o))) K222_2 rfl ⟨q1, trivial⟩ ?_
    refine zF_blk (m := []) (d := 0) (b := B222_1) (gs := []) (c' := (13, [some (22, 0), none], [(0, (-1))], (hc, (mset h 0 0 0), o))) K222_1 rfl trivial ?_
    exact zF_riM (by decide +kernel) e
def B99_0 : List zRow := [(15, .iconst 0, 1, (0, 0, 0))]
theorem K99_0 : zRk 99 B99_0 = true := by decide +kernel
def B99_1 : List zRow := [(11, .iconst 1, 1, (0, 0, 0)), (12, .goto 4, 3, (0, 0, 0))]
theorem K99_1 : zRk 99 B99_1 = true := by decide +kernel
def B99_2 : List zRow := [(5, .iload_n 0, 1, (0, 0, 0)), (6, .bipush 60, 2, (0, 0, 0)), (8, .if_icmp .gt 7, 3, (0, 0, 0))]
theorem K99_2 : zRk 99 B99_2 = true := by decide +kernel
def B99_3 : List zRow := [(0, .iload_n 0, 1, (0, 0, 0)), (1, .iconst 1, 1, (0, 0, 0)), (2, .if_icmp .lt 13, 3, (0, 0, 0))]
theorem K99_3 : zRk 99 B99_3 = true := by decide +kernel
/-- EchoVale.isAhead(I)Z -/
def F99 (v0 : Int) : Option Int := if v0 < 1 then some 0 else if 60 < v0 then some 0 else some 1
set_option maxRecDepth 100000 in
theorem S99 {spec : zRn zH2} {hm : zHM} {o : Int → Int} {d : Nat} (hd : 1 ≤ d) (v0 : Int) (h : zHC) (v : Int) (e : F99 v0 = some v) : zRu2 spec d 99 [(0, v0)] (h, hm, o) (some (0, v)) (h, hm, o) := by
  refine zF_in (D := 0) (mx := 1) (L := [some (0, v0)]) (by decide +kernel) rfl rfl hd (fun d hd => ?_)
  unfold F99 at e
  rcases zI_s e with ⟨q1, e⟩ | ⟨q1, e⟩
  · refine zF_blk (m := []) (d := 1) (b := B99_3) (gs := [v0 < 1]) (c' := (15, [some (0, v0)], [], (h, hm, o))) K99_3 rfl ⟨q1, trivial⟩ ?_
    refine zF_blk (m := []) (d := 0) (b := B99_0) (gs := []) (c' := (16, [some (0, v0)], [(0, 0)], (h, hm, o))) K99_0 rfl trivial ?_
    obtain rfl := Option.some.inj e
    exact zF_rb (by decide +kernel) (Or.inl rfl)
  · refine zF_blk (m := []) (d := 0) (b := B99_3) (gs := [¬ (v0 < 1)]) (c' := (5, [some (0, v0)], [], (h, hm, o))) K99_3 rfl ⟨q1, trivial⟩ ?_
    rcases zI_s e with ⟨q2, e⟩ | ⟨q2, e⟩
    · refine zF_blk (m := []) (d := 1) (b := B99_2) (gs := [60 < v0]) (c' := (15, [some (0, v0)], [], (h, hm, o))) K99_2 rfl ⟨q2, trivial⟩ ?_
      refine zF_blk (m := []) (d := 0) (b := B99_0) (gs := []) (c' := (16, [some (0, v0)], [(0, 0)], (h, hm, o))) K99_0 rfl trivial ?_
      obtain rfl := Option.some.inj e
      exact zF_rb (by decide +kernel) (Or.inl rfl)
    · refine zF_blk (m := []) (d := 0) (b := B99_2) (gs := [¬ (60 < v0)]) (c' := (11, [some (0, v0)], [], (h, hm, o))) K99_2 rfl ⟨q2, trivial⟩ ?_
      refine zF_blk (m := []) (d := 0) (b := B99_1) (gs := []) (c' := (16, [some (0, v0)], [(0, 1)], (h, hm, o))) K99_1 rfl trivial ?_
      obtain rfl := Option.some.inj e
      exact zF_rb (by decide +kernel) (Or.inr rfl)
def B101_0 : List zRow := [(0, .iconst 0, 1, (0, 0, 0)), (1, .istore_n 2, 1, (0, 0, 0)), (2, .iconst 0, 1, (0, 0, 0)), (3, .istore_n 3, 1, (0, 0, 0))]
theorem K101_0 : zRk 101 B101_0 = true := by decide +kernel
def B101_1 : List zRow := [(27, .iload_n 2, 1, (0, 0, 0))]
theorem K101_1 : zRk 101 B101_1 = true := by decide +kernel
def B101_2 : List zRow := [(12, .iload_n 2, 1, (0, 0, 0)), (13, .aload_n 0, 1, (0, 0, 0)), (14, .iload_n 1, 1, (0, 0, 0)), (15, .iload_n 3, 1, (0, 0, 0))]
theorem K101_2 : zRk 101 B101_2 = true := by decide +kernel
def B101_3 : List zRow := [(19, .iadd, 1, (0, 0, 0)), (20, .istore_n 2, 1, (0, 0, 0)), (21, .iinc 3 1, 3, (0, 0, 0)), (24, .goto (-20), 3, (0, 0, 0))]
theorem K101_3 : zRk 101 B101_3 = true := by decide +kernel
def B101_4 : List zRow := [(4, .iload_n 3, 1, (0, 0, 0)), (5, .aload_n 0, 1, (0, 0, 0)), (6, .getfield 34, 3, (1, 1, 0)), (9, .if_icmp .ge 18, 3, (0, 0, 0))]
theorem K101_4 : zRk 101 B101_4 = true := by decide +kernel
def F101_0 (h : zHC) : Nat → Int → Int → Int → Int → Option Int
  | 0, _, _, _, _ => none
  | n + 1, v0, v1, v2, v3 => if (h 65 v0 0) ≤ v3 then some v2 else (F62 v0 v1 v3 h).bind fun r1 => (F101_0 h n) v0 v1 (wadd v2 r1) (wadd v3 1)
set_option maxRecDepth 100000 in
theorem T101_0 {spec : zRn zH2} {hm : zHM} {o : Int → Int} {d : Nat} (hd : 2 ≤ d) (h : zHC) : ∀ (n : Nat) (v0 : Int) (v1 : Int) (v2 : Int) (v3 : Int) (v : Int), F101_0 h n v0 v1 v2 v3 = some v → zFin 0 (fun _ => 0) (zRu2 spec d) 101 (some (0, v)) (h, hm, o) (4, [some (11, v0), some (0, v1), some (0, v2), some (0, v3)], [], (h, hm, o)) := by
  intro n
  induction n with
  | zero => intro v0 v1 v2 v3 v e; unfold F101_0 at e; cases e
  | succ n hk0 =>
    intro v0 v1 v2 v3 v e
    unfold F101_0 at e
    rcases zI_s e with ⟨q1, e⟩ | ⟨q1, e⟩
    · refine zF_blk (m := []) (d := 1) (b := B101_4) (gs := [(h 65 v0 0) ≤ v3]) (c' := (27, [some (11, v0), some (0, v1), some (0, v2), some (0, v3)], [], (h, hm, o))) K101_4 rfl ⟨q1, trivial⟩ ?_
      refine zF_blk (m := []) (d := 0) (b := B101_1) (gs := []) (c' := (28, [some (11, v0), some (0, v1), some (0, v2), some (0, v3)], [(0, v2)], (h, hm, o))) K101_1 rfl trivial ?_
      obtain rfl := Option.some.inj e
      exact zF_ri (by decide +kernel)
    · refine zF_blk (m := []) (d := 0) (b := B101_4) (gs := [¬ ((h 65 v0 0) ≤ v3)]) (c' := (12, [some (11, v0), some (0, v1), some (0, v2), some (0, v3)], [], (h, hm, o))) K101_4 rfl ⟨q1, trivial⟩ ?_
      obtain ⟨r1, q2, e⟩ := zB_s e
      refine zF_blk (m := []) (d := 0) (b := B101_2) (gs := []) (c' := (16, [some (11, v0), some (0, v1), some (0, v2), some (0, v3)], [(0, v3), (0, v1), (11, v0), (0, v2)], (h, hm, o))) K101_2 rfl trivial ?_
      refine zF_call (k := 62) (cl := 1) (n := 3) (i := .invokevirtual 150) (args := [(11, v0), (0, v1), (0, v3)]) (rest := [(0, v2)]) (g1 := (h, hm, o)) (r1 := some (0, r1)) (by decide +kernel) rfl rfl rfl (st' := [(0, r1), (0, v2)]) rfl (S62 (Nat.le_trans (by decide) hd) v0 v1 v3 h _ q2) ?_
      refine zF_blk (m := []) (d := 0) (b := B101_3) (gs := []) (c' := (4, [some (11, v0), some (0, v1), some (0, (wadd v2 r1)), some (0, (wadd v3 1))], [], (h, hm, o))) K101_3 rfl trivial ?_
      exact hk0 v0 v1 (wadd v2 r1) (wadd v3 1) _ e
/-- EchoVale$Course.wealth(I)I -/
def F101 (v0 : Int) (v1 : Int) (h : zHC) : Option Int := F101_0 h zFu v0 v1 0 0
set_option maxRecDepth 100000 in
theorem S101 {spec : zRn zH2} {hm : zHM} {o : Int → Int} {d : Nat} (hd : 3 ≤ d) (v0 : Int) (v1 : Int) (h : zHC) (v : Int) (e : F101 v0 v1 h = some v) : zRu2 spec d 101 [(11, v0), (0, v1)] (h, hm, o) (some (0, v)) (h, hm, o) := by
  refine zF_in (D := 2) (mx := 4) (L := [some (11, v0), some (0, v1), none, none]) (by decide +kernel) rfl rfl hd (fun d hd => ?_)
  unfold F101 at e
  refine zF_blk (m := []) (d := 0) (b := B101_0) (gs := []) (c' := (4, [some (11, v0), some (0, v1), some (0, 0), some (0, 0)], [], (h, hm, o))) K101_0 rfl trivial ?_
  exact T101_0 hd h zFu v0 v1 0 0 _ e
def B100_0 : List zRow := [(0, .aload_n 0, 1, (0, 0, 0)), (1, .getfield 60, 3, (11, 7, 135)), (4, .aload_n 0, 1, (0, 0, 0)), (5, .getfield 56, 3, (11, 6, 7))]
theorem K100_0 : zRk 100 B100_0 = true := by decide +kernel
def B100_1 : List zRow := [(11, .aload_n 0, 1, (0, 0, 0)), (12, .getfield 60, 3, (11, 7, 135)), (15, .getfield 177, 3, (1, 3, 5242906)), (18, .iload_n 1, 1, (0, 0, 0)), (19, .iload_n 2, 1, (0, 0, 0)), (20, .iastore, 1, (0, 0, 0)), (21, .aload_n 0, 1, (0, 0, 0)), (22, .getfield 60, 3, (11, 7, 135)), (25, .aload_n 0, 1, (0, 0, 0)), (26, .getfield 19, 3, (11, 1, 39)), (29, .iload_n 3, 1, (0, 0, 0))]
theorem K100_1 : zRk 100 B100_1 = true := by decide +kernel
def B100_2 : List zRow := [(33, .pop, 1, (0, 0, 0)), (34, .aload_n 0, 1, (0, 0, 0)), (35, .getfield 60, 3, (11, 7, 135)), (38, .iload_n 1, 1, (0, 0, 0))]
theorem K100_2 : zRk 100 B100_2 = true := by decide +kernel
/-- EchoVale.wealthByCamping(III)I -/
def F100 (v1 : Int) (v2 : Int) (v3 : Int) (h : zHC) : Option (Int × zHC) := (F71 1 0 h).bind fun r1 => zG (0 ≤ v1 ∧ v1 < 6) ((F88 1 0 v3 (hset r1 67 1 v1 v2)).bind fun r2 => (F101 1 v1 r2.2).bind fun r3 => some (r3, r2.2))
set_option maxRecDepth 100000 in
theorem S100 {spec : zRn zH2} {hm : zHM} {o : Int → Int} {d : Nat} (hd : 7 ≤ d) (v1 : Int) (v2 : Int) (v3 : Int) (h : zHC) (v : (Int × zHC)) (e : F100 v1 v2 v3 h = some v) : zRu2 spec d 100 [(21, 0), (0, v1), (0, v2), (0, v3)] (h, hm, o) (some (0, v.1)) (v.2, hm, o) := by
  refine zF_in (D := 6) (mx := 4) (L := [some (21, 0), some (0, v1), some (0, v2), some (0, v3)]) (by decide +kernel) rfl rfl hd (fun d hd => ?_)
  unfold F100 at e
  obtain ⟨r1, q1, e⟩ := zB_s e
  refine zF_blk (m := []) (d := 0) (b := B100_0) (gs := []) (c' := (8, [some (21, 0), some (0, v1), some (0, v2), some (0, v3)], [(11, 0), (11, 1)], (h, hm, o))) K100_0 rfl trivial ?_
  refine zF_call (k := 71) (cl := 1) (n := 2) (i := .invokevirtual 266) (args := [(11, 1), (11, 0)]) (rest := []) (g1 := (r1, hm, o)) (r1 := none) (by decide +kernel) rfl rfl rfl (st' := []) rfl (S71 (Nat.le_trans (by decide) hd) 1 0 h _ q1) ?_
  obtain ⟨q2, e⟩ := zG_s e
  obtain ⟨r2, q3, e⟩ := zB_s e
  refine zF_blk (m := []) (d := 0) (b := B100_1) (gs := [0 ≤ v1 ∧ v1 < 6]) (c' := (30, [some (21, 0), some (0, v1), some (0, v2), some (0, v3)], [(0, v3), (19, 0), (11, 1)], ((hset r1 67 1 v1 v2), hm, o))) K100_1 rfl ⟨q2, trivial⟩ ?_
  refine zF_call (k := 88) (cl := 1) (n := 3) (i := .invokevirtual 231) (args := [(11, 1), (19, 0), (0, v3)]) (rest := []) (g1 := (r2.2, hm, o)) (r1 := some (0, r2.1)) (by decide +kernel) rfl rfl rfl (st' := [(0, r2.1)]) rfl (S88 (Nat.le_trans (by decide) hd) 1 0 v3 (hset r1 67 1 v1 v2) _ q3) ?_
  obtain ⟨r3, q4, e⟩ := zB_s e
  refine zF_blk (m := []) (d := 0) (b := B100_2) (gs := []) (c' := (39, [some (21, 0), some (0, v1), some (0, v2), some (0, v3)], [(0, v1), (11, 1)], (r2.2, hm, o))) K100_2 rfl trivial ?_
  refine zF_call (k := 101) (cl := 1) (n := 2) (i := .invokevirtual 179) (args := [(11, 1), (0, v1)]) (rest := []) (g1 := (r2.2, hm, o)) (r1 := some (0, r3)) (by decide +kernel) rfl rfl rfl (st' := [(0, r3)]) rfl (S101 (Nat.le_trans (by decide) hd) 1 v1 r2.2 _ q4) ?_
  exact zF_riC (by decide +kernel) e
def B98_0 : List zRow := [(0, .aload_n 0, 1, (0, 0, 0)), (1, .iload_n 1, 1, (0, 0, 0))]
theorem K98_0 : zRk 98 B98_0 = true := by decide +kernel
def B98_1 : List zRow := [(15, .iconst (-1), 1, (0, 0, 0))]
theorem K98_1 : zRk 98 B98_1 = true := by decide +kernel
def B98_2 : List zRow := [(8, .iload_n 2, 1, (0, 0, 0))]
theorem K98_2 : zRk 98 B98_2 = true := by decide +kernel
def B98_3 : List zRow := [(17, .iconst (-1), 1, (0, 0, 0)), (18, .istore_n 3, 1, (0, 0, 0)), (19, .iconst (-1), 1, (0, 0, 0)), (20, .istore 4, 2, (0, 0, 0)), (22, .iconst 0, 1, (0, 0, 0)), (23, .istore 5, 2, (0, 0, 0))]
theorem K98_3 : zRk 98 B98_3 = true := by decide +kernel
def B98_4 : List zRow := [(12, .ifCond .ne 5, 3, (0, 0, 0))]
theorem K98_4 : zRk 98 B98_4 = true := by decide +kernel
def B98_5 : List zRow := [(5, .ifCond .eq 10, 3, (0, 0, 0))]
theorem K98_5 : zRk 98 B98_5 = true := by decide +kernel
def B98_6 : List zRow := [(78, .iload_n 3, 1, (0, 0, 0))]
theorem K98_6 : zRk 98 B98_6 = true := by decide +kernel
def B98_7 : List zRow := [(32, .aload_n 0, 1, (0, 0, 0)), (33, .getfield 19, 3, (11, 1, 39)), (36, .iload 5, 2, (0, 0, 0))]
theorem K98_7 : zRk 98 B98_7 = true := by decide +kernel
def B98_8 : List zRow := [(55, .iconst (-1), 1, (0, 0, 0))]
theorem K98_8 : zRk 98 B98_8 = true := by decide +kernel
def B98_9 : List zRow := [(44, .aload_n 0, 1, (0, 0, 0)), (45, .iload_n 1, 1, (0, 0, 0)), (46, .iload 5, 2, (0, 0, 0)), (48, .iload_n 2, 1, (0, 0, 0))]
theorem K98_9 : zRk 98 B98_9 = true := by decide +kernel
def B98_10 : List zRow := [(52, .goto 4, 3, (0, 0, 0))]
theorem K98_10 : zRk 98 B98_10 = true := by decide +kernel
def B98_11 : List zRow := [(41, .ifCond .eq 14, 3, (0, 0, 0))]
theorem K98_11 : zRk 98 B98_11 = true := by decide +kernel
def B98_12 : List zRow := [(25, .iload 5, 2, (0, 0, 0)), (27, .bipush 100, 2, (0, 0, 0)), (29, .if_icmp .ge 49, 3, (0, 0, 0))]
theorem K98_12 : zRk 98 B98_12 = true := by decide +kernel
def B98_13 : List zRow := [(65, .iload 6, 2, (0, 0, 0)), (67, .istore 4, 2, (0, 0, 0)), (69, .iload 5, 2, (0, 0, 0)), (71, .istore_n 3, 1, (0, 0, 0))]
theorem K98_13 : zRk 98 B98_13 = true := by decide +kernel
def B98_14 : List zRow := [(56, .istore 6, 2, (0, 0, 0)), (58, .iload 6, 2, (0, 0, 0)), (60, .iload 4, 2, (0, 0, 0)), (62, .if_icmp .le 10, 3, (0, 0, 0))]
theorem K98_14 : zRk 98 B98_14 = true := by decide +kernel
def B98_15 : List zRow := [(72, .iinc 5 1, 3, (0, 0, 0)), (75, .goto (-50), 3, (0, 0, 0))]
theorem K98_15 : zRk 98 B98_15 = true := by decide +kernel
def F98_2 (k0 : Int → Int → Int → Int → Int → zHC → Option (Int × zHC)) (v1 : Int) (v2 : Int) (v3 : Int) (v4 : Int) (v5 : Int) (h : zHC) : Option (Int × zHC) := k0 v1 v2 v3 v4 (wadd v5 1) h
set_option maxRecDepth 100000 in
theorem T98_2 {spec : zRn zH2} {hm : zHM} {o : Int → Int} {d : Nat} (hd : 7 ≤ d) (k0 : Int → Int → Int → Int → Int → zHC → Option (Int × zHC)) (hk0 : ∀ (v1 : Int) (v2 : Int) (v3 : Int) (v4 : Int) (v5 : Int) (h : zHC) (v : (Int × zHC)), k0 v1 v2 v3 v4 v5 h = some v → zFin 0 (fun _ => 0) (zRu2 spec d) 98 (some (0, v.1)) (v.2, hm, o) (25, [some (21, 0), some (0, v1), some (0, v2), some (0, v3), some (0, v4), some (0, v5), none], [], (h, hm, o))) (v1 : Int) (v2 : Int) (v3 : Int) (v4 : Int) (v5 : Int) (h : zHC) (v : (Int × zHC)) (e : F98_2 k0 v1 v2 v3 v4 v5 h = some v) : zFin 0 (fun _ => 0) (zRu2 spec d) 98 (some (0, v.1)) (v.2, hm, o) (72, [some (21, 0), some (0, v1), some (0, v2), some (0, v3), some (0, v4), some (0, v5), none], [], (h, hm, o)) := by
  unfold F98_2 at e
  refine zF_blk (m := []) (d := 0) (b := B98_15) (gs := []) (c' := (25, [some (21, 0), some (0, v1), some (0, v2), some (0, v3), some (0, v4), some (0, (wadd v5 1)), none], [], (h, hm, o))) K98_15 rfl trivial ?_
  exact hk0 v1 v2 v3 v4 (wadd v5 1) h _ e
def F98_1 (k0 : Int → Int → Int → Int → Int → zHC → Option (Int × zHC)) (v1 : Int) (v2 : Int) (v3 : Int) (v4 : Int) (v5 : Int) (s0 : Int) (h : zHC) : Option (Int × zHC) := if s0 ≤ v4 then F98_2 k0 v1 v2 v3 v4 v5 h else F98_2 k0 v1 v2 v5 s0 v5 h
set_option maxRecDepth 100000 in
theorem T98_1 {spec : zRn zH2} {hm : zHM} {o : Int → Int} {d : Nat} (hd : 7 ≤ d) (k0 : Int → Int → Int → Int → Int → zHC → Option (Int × zHC)) (hk0 : ∀ (v1 : Int) (v2 : Int) (v3 : Int) (v4 : Int) (v5 : Int) (h : zHC) (v : (Int × zHC)), k0 v1 v2 v3 v4 v5 h = some v → zFin 0 (fun _ => 0) (zRu2 spec d) 98 (some (0, v.1)) (v.2, hm, o) (25, [some (21, 0), some (0, v1), some (0, v2), some (0, v3), some (0, v4), some (0, v5), none], [], (h, hm, o))) (v1 : Int) (v2 : Int) (v3 : Int) (v4 : Int) (v5 : Int) (s0 : Int) (h : zHC) (v : (Int × zHC)) (e : F98_1 k0 v1 v2 v3 v4 v5 s0 h = some v) : zFin 0 (fun _ => 0) (zRu2 spec d) 98 (some (0, v.1)) (v.2, hm, o) (56, [some (21, 0), some (0, v1), some (0, v2), some (0, v3), some (0, v4), some (0, v5), none], [(0, s0)], (h, hm, o)) := by
  unfold F98_1 at e
  rcases zI_s e with ⟨q1, e⟩ | ⟨q1, e⟩
  · refine zF_blk (m := []) (d := 1) (b := B98_14) (gs := [s0 ≤ v4]) (c' := (72, [some (21, 0), some (0, v1), some (0, v2), some (0, v3), some (0, v4), some (0, v5), some (0, s0)], [], (h, hm, o))) K98_14 rfl ⟨q1, trivial⟩ ?_
    refine zF_blk (m := [true, true, true, true, true, true, false]) (d := 0) (b := []) (gs := []) (c' := (72, [some (21, 0), some (0, v1), some (0, v2), some (0, v3), some (0, v4), some (0, v5), none], [], (h, hm, o))) rfl rfl trivial ?_
    exact T98_2 hd k0 hk0 v1 v2 v3 v4 v5 h _ e
  · refine zF_blk (m := []) (d := 0) (b := B98_14) (gs := [¬ (s0 ≤ v4)]) (c' := (65, [some (21, 0), some (0, v1), some (0, v2), some (0, v3), some (0, v4), some (0, v5), some (0, s0)], [], (h, hm, o))) K98_14 rfl ⟨q1, trivial⟩ ?_
    refine zF_blk (m := []) (d := 0) (b := B98_13) (gs := []) (c' := (72, [some (21, 0), some (0, v1), some (0, v2), some (0, v5), some (0, s0), some (0, v5), some (0, s0)], [], (h, hm, o))) K98_13 rfl trivial ?_
    refine zF_blk (m := [true, true, true, true, true, true, false]) (d := 0) (b := []) (gs := []) (c' := (72, [some (21, 0), some (0, v1), some (0, v2), some (0, v5), some (0, s0), some (0, v5), none], [], (h, hm, o))) rfl rfl trivial ?_
    exact T98_2 hd k0 hk0 v1 v2 v5 s0 v5 h _ e
def F98_0 : Nat → Int → Int → Int → Int → Int → zHC → Option (Int × zHC)
  | 0, _, _, _, _, _, _ => none
  | n + 1, v1, v2, v3, v4, v5, h => if 100 ≤ v5 then some (v3, h) else (F69 0 v5 h).bind fun r1 => if r1 = 0 then F98_1 (F98_0 n) v1 v2 v3 v4 v5 (-1) h else (F100 v1 v5 v2 h).bind fun r2 => F98_1 (F98_0 n) v1 v2 v3 v4 v5 r2.1 r2.2
set_option maxRecDepth 100000 in
theorem T98_0 {spec : zRn zH2} {hm : zHM} {o : Int → Int} {d : Nat} (hd : 7 ≤ d) : ∀ (n : Nat) (v1 : Int) (v2 : Int) (v3 : Int) (v4 : Int) (v5 : Int) (h : zHC) (v : (Int × zHC)), F98_0 n v1 v2 v3 v4 v5 h = some v → zFin 0 (fun _ => 0) (zRu2 spec d) 98 (some (0, v.1)) (v.2, hm, o) (25, [some (21, 0), some (0, v1), some (0, v2), some (0, v3), some (0, v4), some (0, v5), none], [], (h, hm, o)) := by
  intro n
  induction n with
  | zero => intro v1 v2 v3 v4 v5 h v e; unfold F98_0 at e; cases e
  | succ n hk0 =>
    intro v1 v2 v3 v4 v5 h v e
    unfold F98_0 at e
    rcases zI_s e with ⟨q1, e⟩ | ⟨q1, e⟩
    · refine zF_blk (m := []) (d := 1) (b := B98_12) (gs := [100 ≤ v5]) (c' := (78, [some (21, 0), some (0, v1), some (0, v2), some (0, v3), some (0, v4), some (0, v5), none], [], (h, hm, o))) K98_12 rfl ⟨q1, trivial⟩ ?_
      refine zF_blk (m := []) (d := 0) (b := B98_6) (gs := []) (c' := (79, [some (21, 0), some (0, v1), some (0, v2), some (0, v3), some (0, v4), some (0, v5), none], [(0, v3)], (h, hm, o))) K98_6 rfl trivial ?_
      exact zF_riC (by decide +kernel) e
    · refine zF_blk (m := []) (d := 0) (b := B98_12) (gs := [¬ (100 ≤ v5)]) (c' := (32, [some (21, 0), some (0, v1), some (0, v2), some (0, v3), some (0, v4), some (0, v5), none], [], (h, hm, o))) K98_12 rfl ⟨q1, trivial⟩ ?_
      obtain ⟨r1, q2, e⟩ := zB_s e
      refine zF_blk (m := []) (d := 0) (b := B98_7) (gs := []) (c' := (38, [some (21, 0), some (0, v1), some (0, v2), some (0, v3), some (0, v4), some (0, v5), none], [(0, v5), (19, 0)], (h, hm, o))) K98_7 rfl trivial ?_
      refine zF_call (k := 69) (cl := 9) (n := 2) (i := .invokevirtual 214) (args := [(19, 0), (0, v5)]) (rest := []) (g1 := (h, hm, o)) (r1 := some (0, r1)) (by decide +kernel) rfl rfl rfl (st' := [(0, r1)]) rfl (S69 (Nat.le_trans (by decide) hd) 0 v5 h _ q2) ?_
      rcases zI_s e with ⟨q3, e⟩ | ⟨q3, e⟩
      · refine zF_blk (m := []) (d := 1) (b := B98_11) (gs := [r1 = 0]) (c' := (55, [some (21, 0), some (0, v1), some (0, v2), some (0, v3), some (0, v4), some (0, v5), none], [], (h, hm, o))) K98_11 rfl ⟨q3, trivial⟩ ?_
        refine zF_blk (m := []) (d := 0) (b := B98_8) (gs := []) (c' := (56, [some (21, 0), some (0, v1), some (0, v2), some (0, v3), some (0, v4), some (0, v5), none], [(0, (-1))], (h, hm, o))) K98_8 rfl trivial ?_
        exact T98_1 hd (F98_0 n) hk0 v1 v2 v3 v4 v5 (-1) h _ e
      · refine zF_blk (m := []) (d := 0) (b := B98_11) (gs := [¬ (r1 = 0)]) (c' := (44, [some (21, 0), some (0, v1), some (0, v2), some (0, v3), some (0, v4), some (0, v5), none], [], (h, hm, o))) K98_11 rfl ⟨q3, trivial⟩ ?_
        obtain ⟨r2, q4, e⟩ := zB_s e
        refine zF_blk (m := []) (d := 0) (b := B98_9) (gs := []) (c' := (49, [some (21, 0), some (0, v1), some (0, v2), some (0, v3), some (0, v4), some (0, v5), none], [(0, v2), (0, v5), (0, v1), (21, 0)], (h, hm, o))) K98_9 rfl trivial ?_
        refine zF_call (k := 100) (cl := 11) (n := 4) (i := .invokevirtual 245) (args := [(21, 0), (0, v1), (0, v5), (0, v2)]) (rest := []) (g1 := (r2.2, hm, o)) (r1 := some (0, r2.1)) (by decide +kernel) rfl rfl rfl (st' := [(0, r2.1)]) rfl (S100 (Nat.le_trans (by decide) hd) v1 v5 v2 h _ q4) ?_
        refine zF_blk (m := []) (d := 0) (b := B98_10) (gs := []) (c' := (56, [some (21, 0), some (0, v1), some (0, v2), some (0, v3), some (0, v4), some (0, v5), none], [(0, r2.1)], (r2.2, hm, o))) K98_10 rfl trivial ?_
        exact T98_1 hd (F98_0 n) hk0 v1 v2 v3 v4 v5 r2.1 r2.2 _ e
/-- EchoVale.camp(II)I -/
def F98 (v1 : Int) (v2 : Int) (h : zHC) : Option (Int × zHC) := (F61 v1 h).bind fun r1 => if r1 = 0 then some ((-1), h) else (F99 v2).bind fun r2 => if ¬ r2 = 0 then F98_0 zFu v1 v2 (-1) (-1) 0 h else some ((-1), h)
set_option maxRecDepth 100000 in
theorem S98 {spec : zRn zH2} {hm : zHM} {o : Int → Int} {d : Nat} (hd : 8 ≤ d) (v1 : Int) (v2 : Int) (h : zHC) (v : (Int × zHC)) (e : F98 v1 v2 h = some v) : zRu2 spec d 98 [(21, 0), (0, v1), (0, v2)] (h, hm, o) (some (0, v.1)) (v.2, hm, o) := by
  refine zF_in (D := 7) (mx := 7) (L := [some (21, 0), some (0, v1), some (0, v2), none, none, none, none]) (by decide +kernel) rfl rfl hd (fun d hd => ?_)
  unfold F98 at e
  obtain ⟨r1, q1, e⟩ := zB_s e
  refine zF_blk (m := []) (d := 0) (b := B98_0) (gs := []) (c' := (2, [some (21, 0), some (0, v1), some (0, v2), none, none, none, none], [(0, v1), (21, 0)], (h, hm, o))) K98_0 rfl trivial ?_
  refine zF_call (k := 61) (cl := 11) (n := 2) (i := .invokevirtual 172) (args := [(21, 0), (0, v1)]) (rest := []) (g1 := (h, hm, o)) (r1 := some (0, r1)) (by decide +kernel) rfl rfl rfl (st' := [(0, r1)]) rfl (S61 (Nat.le_trans (by decide) hd) v1 h _ q1) ?_
  rcases zI_s e with ⟨q2, e⟩ | ⟨q2, e⟩
  · refine zF_blk (m := []) (d := 1) (b := B98_5) (gs := [r1 = 0]) (c' := (15, [some (21, 0), some (0, v1), some (0, v2), none, none, none, none], [], (h, hm, o))) K98_5 rfl ⟨q2, trivial⟩ ?_
    refine zF_blk (m := []) (d := 0) (b := B98_1) (gs := []) (c' := (16, [some (21, 0), some (0, v1), some (0, v2), none, none, none, none], [(0, (-1))], (h, hm, o))) K98_1 rfl trivial ?_
    exact zF_riC (by decide +kernel) e
  · refine zF_blk (m := []) (d := 0) (b := B98_5) (gs := [¬ (r1 = 0)]) (c' := (8, [some (21, 0), some (0, v1), some (0, v2), none, none, none, none], [], (h, hm, o))) K98_5 rfl ⟨q2, trivial⟩ ?_
    obtain ⟨r2, q3, e⟩ := zB_s e
    refine zF_blk (m := []) (d := 0) (b := B98_2) (gs := []) (c' := (9, [some (21, 0), some (0, v1), some (0, v2), none, none, none, none], [(0, v2)], (h, hm, o))) K98_2 rfl trivial ?_
    refine zF_call (k := 99) (cl := 11) (n := 1) (i := .invokestatic 242) (args := [(0, v2)]) (rest := []) (g1 := (h, hm, o)) (r1 := some (0, r2)) (by decide +kernel) rfl rfl rfl (st' := [(0, r2)]) rfl (S99 (Nat.le_trans (by decide) hd) v2 h _ q3) ?_
    rcases zI_s e with ⟨q4, e⟩ | ⟨q4, e⟩
    · refine zF_blk (m := []) (d := 1) (b := B98_4) (gs := [¬ r2 = 0]) (c' := (17, [some (21, 0), some (0, v1), some (0, v2), none, none, none, none], [], (h, hm, o))) K98_4 rfl ⟨q4, trivial⟩ ?_
      refine zF_blk (m := []) (d := 0) (b := B98_3) (gs := []) (c' := (25, [some (21, 0), some (0, v1), some (0, v2), some (0, (-1)), some (0, (-1)), some (0, 0), none], [], (h, hm, o))) K98_3 rfl trivial ?_
      exact T98_0 hd zFu v1 v2 (-1) (-1) 0 h _ e
    · refine zF_blk (m := []) (d := 0) (b := B98_4) (gs := [¬ (¬ r2 = 0)]) (c' := (15, [some (21, 0), some (0, v1), some (0, v2), none, none, none, none], [], (h, hm, o))) K98_4 rfl ⟨q4, trivial⟩ ?_
      refine zF_blk (m := []) (d := 0) (b := B98_1) (gs := []) (c' := (16, [some (21, 0), some (0, v1), some (0, v2), none, none, none, none], [(0, (-1))], (h, hm, o))) K98_1 rfl trivial ?_
      exact zF_riC (by decide +kernel) e
