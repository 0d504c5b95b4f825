/-! Functions of the methods, by wip/gen/lift.py. -/
def B165_0 : List zRow := [(0, .iconst 0, 1, (0, 0, 0)), (1, .istore_n 3, 1, (0, 0, 0)), (2, .iconst 0, 1, (0, 0, 0)), (3, .istore 4, 2, (0, 0, 0))]
theorem K165_0 : zRk 165 B165_0 = true := by decide +kernel
def B165_1 : List zRow := [(37, .iload_n 3, 1, (0, 0, 0))]
theorem K165_1 : zRk 165 B165_1 = true := by decide +kernel
def B165_2 : List zRow := [(14, .aload_n 0, 1, (0, 0, 0)), (15, .iload 4, 2, (0, 0, 0)), (17, .iload_n 1, 1, (0, 0, 0))]
theorem K165_2 : zRk 165 B165_2 = true := by decide +kernel
def B165_3 : List zRow := [(21, .iload_n 2, 1, (0, 0, 0))]
theorem K165_3 : zRk 165 B165_3 = true := by decide +kernel
def B165_4 : List zRow := [(28, .iinc 3 1, 3, (0, 0, 0))]
theorem K165_4 : zRk 165 B165_4 = true := by decide +kernel
def B165_5 : List zRow := [(25, .ifCond .eq 6, 3, (0, 0, 0))]
theorem K165_5 : zRk 165 B165_5 = true := by decide +kernel
def B165_6 : List zRow := [(5, .iload 4, 2, (0, 0, 0)), (7, .aload_n 0, 1, (0, 0, 0)), (8, .getfield 34, 3, (1, 1, 0)), (11, .if_icmp .ge 26, 3, (0, 0, 0))]
theorem K165_6 : zRk 165 B165_6 = true := by decide +kernel
def B165_7 : List zRow := [(31, .iinc 4 1, 3, (0, 0, 0)), (34, .goto (-29), 3, (0, 0, 0))]
theorem K165_7 : zRk 165 B165_7 = true := by decide +kernel
def F165_1 (k0 : Int → Int → Int → Int → Int → Option Int) (h : zHC) (v0 : Int) (v1 : Int) (v2 : Int) (v3 : Int) (v4 : Int) : Option Int := k0 v0 v1 v2 v3 (wadd v4 1)
set_option maxRecDepth 100000 in
theorem T165_1 {spec : zRn zH2} {hm : zHM} {o : Int → Int} {d : Nat} (hd : 1 ≤ d) (h : zHC) (k0 : Int → Int → Int → Int → Int → Option Int) (hk0 : ∀ (v0 : Int) (v1 : Int) (v2 : Int) (v3 : Int) (v4 : Int) (v : Int), k0 v0 v1 v2 v3 v4 = some v → zFin 0 (fun _ => 0) (zRu2 spec d) 165 (some (0, v)) (h, hm, o) (5, [some (11, v0), some (0, v1), some (0, v2), some (0, v3), some (0, v4)], [], (h, hm, o))) (v0 : Int) (v1 : Int) (v2 : Int) (v3 : Int) (v4 : Int) (v : Int) (e : F165_1 k0 h v0 v1 v2 v3 v4 = some v) : zFin 0 (fun _ => 0) (zRu2 spec d) 165 (some (0, v)) (h, hm, o) (31, [some (11, v0), some (0, v1), some (0, v2), some (0, v3), some (0, v4)], [], (h, hm, o)) := by
  unfold F165_1 at e
  refine zF_blk (m := []) (d := 0) (b := B165_7) (gs := []) (c' := (5, [some (11, v0), some (0, v1), some (0, v2), some (0, v3), some (0, (wadd v4 1))], [], (h, hm, o))) K165_7 rfl trivial ?_
  exact hk0 v0 v1 v2 v3 (wadd v4 1) _ e
def F165_0 (h : zHC) : Nat → Int → Int → Int → Int → Int → Option Int
  | 0, _, _, _, _, _ => none
  | n + 1, v0, v1, v2, v3, v4 => if (h 65 v0 0) ≤ v4 then some v3 else (F63 v0 v4 v1 h).bind fun r1 => (F65 r1 v2).bind fun r2 => if r2 = 0 then F165_1 (F165_0 h n) h v0 v1 v2 v3 v4 else F165_1 (F165_0 h n) h v0 v1 v2 (wadd v3 1) v4
set_option maxRecDepth 100000 in
theorem T165_0 {spec : zRn zH2} {hm : zHM} {o : Int → Int} {d : Nat} (hd : 1 ≤ d) (h : zHC) : ∀ (n : Nat) (v0 : Int) (v1 : Int) (v2 : Int) (v3 : Int) (v4 : Int) (v : Int), F165_0 h n v0 v1 v2 v3 v4 = some v → zFin 0 (fun _ => 0) (zRu2 spec d) 165 (some (0, v)) (h, hm, o) (5, [some (11, v0), some (0, v1), some (0, v2), some (0, v3), some (0, v4)], [], (h, hm, o)) := by
  intro n
  induction n with
  | zero => intro v0 v1 v2 v3 v4 v e; unfold F165_0 at e; cases e
  | succ n hk0 =>
    intro v0 v1 v2 v3 v4 v e
    unfold F165_0 at e
    rcases zI_s e with ⟨q1, e⟩ | ⟨q1, e⟩
    · refine zF_blk (m := []) (d := 1) (b := B165_6) (gs := [(h 65 v0 0) ≤ v4]) (c' := (37, [some (11, v0), some (0, v1), some (0, v2), some (0, v3), some (0, v4)], [], (h, hm, o))) K165_6 rfl ⟨q1, trivial⟩ ?_
      refine zF_blk (m := []) (d := 0) (b := B165_1) (gs := []) (c' := (38, [some (11, v0), some (0, v1), some (0, v2), some (0, v3), some (0, v4)], [(0, v3)], (h, hm, o))) K165_1 rfl trivial ?_
      obtain rfl := Option.some.inj e
      exact zF_ri (by decide +kernel)
    · refine zF_blk (m := []) (d := 0) (b := B165_6) (gs := [¬ ((h 65 v0 0) ≤ v4)]) (c' := (14, [some (11, v0), some (0, v1), some (0, v2), some (0, v3), some (0, v4)], [], (h, hm, o))) K165_6 rfl ⟨q1, trivial⟩ ?_
      obtain ⟨r1, q2, e⟩ := zB_s e
      refine zF_blk (m := []) (d := 0) (b := B165_2) (gs := []) (c' := (18, [some (11, v0), some (0, v1), some (0, v2), some (0, v3), some (0, v4)], [(0, v1), (0, v4), (11, v0)], (h, hm, o))) K165_2 rfl trivial ?_
      refine zF_call (k := 63) (cl := 1) (n := 3) (i := .invokevirtual 138) (args := [(11, v0), (0, v4), (0, v1)]) (rest := []) (g1 := (h, hm, o)) (r1 := some (0, r1)) (by decide +kernel) rfl rfl rfl (st' := [(0, r1)]) rfl (S63 (Nat.le_trans (by decide) hd) v0 v4 v1 h _ q2) ?_
      obtain ⟨r2, q3, e⟩ := zB_s e
      refine zF_blk (m := []) (d := 0) (b := B165_3) (gs := []) (c' := (22, [some (11, v0), some (0, v1), some (0, v2), some (0, v3), some (0, v4)], [(0, v2), (0, r1)], (h, hm, o))) K165_3 rfl trivial ?_
      refine zF_call (k := 65) (cl := 11) (n := 2) (i := .invokestatic 146) (args := [(0, r1), (0, v2)]) (rest := []) (g1 := (h, hm, o)) (r1 := some (0, r2)) (by decide +kernel) rfl rfl rfl (st' := [(0, r2)]) rfl (S65 (Nat.le_trans (by decide) hd) r1 v2 h _ q3) ?_
      rcases zI_s e with ⟨q4, e⟩ | ⟨q4, e⟩
      · refine zF_blk (m := []) (d := 1) (b := B165_5) (gs := [r2 = 0]) (c' := (31, [some (11, v0), some (0, v1), some (0, v2), some (0, v3), some (0, v4)], [], (h, hm, o))) K165_5 rfl ⟨q4, trivial⟩ ?_
        exact T165_1 hd h (F165_0 h n) hk0 v0 v1 v2 v3 v4 _ e
      · refine zF_blk (m := []) (d := 0) (b := B165_5) (gs := [¬ (r2 = 0)]) (c' := (28, [some (11, v0), some (0, v1), some (0, v2), some (0, v3), some (0, v4)], [], (h, hm, o))) K165_5 rfl ⟨q4, trivial⟩ ?_
        refine zF_blk (m := []) (d := 0) (b := B165_4) (gs := []) (c' := (31, [some (11, v0), some (0, v1), some (0, v2), some (0, (wadd v3 1)), some (0, v4)], [], (h, hm, o))) K165_4 rfl trivial ?_
        exact T165_1 hd h (F165_0 h n) hk0 v0 v1 v2 (wadd v3 1) v4 _ e
/-- EchoVale$Course.countWith(II)I -/
def F165 (v0 : Int) (v1 : Int) (v2 : Int) (h : zHC) : Option Int := F165_0 h zFu v0 v1 v2 0 0
set_option maxRecDepth 100000 in
theorem S165 {spec : zRn zH2} {hm : zHM} {o : Int → Int} {d : Nat} (hd : 2 ≤ d) (v0 : Int) (v1 : Int) (v2 : Int) (h : zHC) (v : Int) (e : F165 v0 v1 v2 h = some v) : zRu2 spec d 165 [(11, v0), (0, v1), (0, v2)] (h, hm, o) (some (0, v)) (h, hm, o) := by
  refine zF_in (D := 1) (mx := 5) (L := [some (11, v0), some (0, v1), some (0, v2), none, none]) (by decide +kernel) rfl rfl hd (fun d hd => ?_)
  unfold F165 at e
  refine zF_blk (m := []) (d := 0) (b := B165_0) (gs := []) (c' := (5, [some (11, v0), some (0, v1), some (0, v2), some (0, 0), some (0, 0)], [], (h, hm, o))) K165_0 rfl trivial ?_
  exact T165_0 hd h zFu v0 v1 v2 0 0 _ e
def B166_0 : List zRow := [(0, .iconst 0, 1, (0, 0, 0)), (1, .istore_n 2, 1, (0, 0, 0)), (2, .iconst 0, 1, (0, 0, 0)), (3, .istore_n 3, 1, (0, 0, 0))]
theorem K166_0 : zRk 166 B166_0 = true := by decide +kernel
def B166_1 : List zRow := [(31, .iload_n 2, 1, (0, 0, 0))]
theorem K166_1 : zRk 166 B166_1 = true := by decide +kernel
def B166_2 : List zRow := [(12, .aload_n 0, 1, (0, 0, 0)), (13, .iload_n 3, 1, (0, 0, 0)), (14, .iconst 1, 1, (0, 0, 0))]
theorem K166_2 : zRk 166 B166_2 = true := by decide +kernel
def B166_3 : List zRow := [(22, .iinc 2 1, 3, (0, 0, 0))]
theorem K166_3 : zRk 166 B166_3 = true := by decide +kernel
def B166_4 : List zRow := [(18, .iload_n 1, 1, (0, 0, 0)), (19, .if_icmp .ne 6, 3, (0, 0, 0))]
theorem K166_4 : zRk 166 B166_4 = true := by decide +kernel
def B166_5 : List zRow := [(4, .iload_n 3, 1, (0, 0, 0)), (5, .aload_n 0, 1, (0, 0, 0)), (6, .getfield 34, 3, (1, 1, 0)), (9, .if_icmp .ge 22, 3, (0, 0, 0))]
theorem K166_5 : zRk 166 B166_5 = true := by decide +kernel
def B166_6 : List zRow := [(25, .iinc 3 1, 3, (0, 0, 0)), (28, .goto (-24), 3, (0, 0, 0))]
theorem K166_6 : zRk 166 B166_6 = true := by decide +kernel
def F166_1 (k0 : Int → Int → Int → Int → Option Int) (h : zHC) (v0 : Int) (v1 : Int) (v2 : Int) (v3 : Int) : Option Int := k0 v0 v1 v2 (wadd v3 1)
set_option maxRecDepth 100000 in
theorem T166_1 {spec : zRn zH2} {hm : zHM} {o : Int → Int} {d : Nat} (hd : 1 ≤ d) (h : zHC) (k0 : Int → Int → Int → Int → Option Int) (hk0 : ∀ (v0 : Int) (v1 : Int) (v2 : Int) (v3 : Int) (v : Int), k0 v0 v1 v2 v3 = some v → zFin 0 (fun _ => 0) (zRu2 spec d) 166 (some (0, v)) (h, hm, o) (4, [some (11, v0), some (0, v1), some (0, v2), some (0, v3)], [], (h, hm, o))) (v0 : Int) (v1 : Int) (v2 : Int) (v3 : Int) (v : Int) (e : F166_1 k0 h v0 v1 v2 v3 = some v) : zFin 0 (fun _ => 0) (zRu2 spec d) 166 (some (0, v)) (h, hm, o) (25, [some (11, v0), some (0, v1), some (0, v2), some (0, v3)], [], (h, hm, o)) := by
  unfold F166_1 at e
  refine zF_blk (m := []) (d := 0) (b := B166_6) (gs := []) (c' := (4, [some (11, v0), some (0, v1), some (0, v2), some (0, (wadd v3 1))], [], (h, hm, o))) K166_6 rfl trivial ?_
  exact hk0 v0 v1 v2 (wadd v3 1) _ e
def F166_0 (h : zHC) : Nat → Int → Int → Int → Int → Option Int
  | 0, _, _, _, _ => none
  | n + 1, v0, v1, v2, v3 => if (h 65 v0 0) ≤ v3 then some v2 else (F63 v0 v3 1 h).bind fun r1 => if ¬ r1 = v1 then F166_1 (F166_0 h n) h v0 v1 v2 v3 else F166_1 (F166_0 h n) h v0 v1 (wadd v2 1) v3
set_option maxRecDepth 100000 in
theorem T166_0 {spec : zRn zH2} {hm : zHM} {o : Int → Int} {d : Nat} (hd : 1 ≤ d) (h : zHC) : ∀ (n : Nat) (v0 : Int) (v1 : Int) (v2 : Int) (v3 : Int) (v : Int), F166_0 h n v0 v1 v2 v3 = some v → zFin 0 (fun _ => 0) (zRu2 spec d) 166 (some (0, v)) (h, hm, o) (4, [some (11, v0), some (0, v1), some (0, v2), some (0, v3)], [], (h, hm, o)) := by
  intro n
  induction n with
  | zero => intro v0 v1 v2 v3 v e; unfold F166_0 at e; cases e
  | succ n hk0 =>
    intro v0 v1 v2 v3 v e
    unfold F166_0 at e
    rcases zI_s e with ⟨q1, e⟩ | ⟨q1, e⟩
    · refine zF_blk (m := []) (d := 1) (b := B166_5) (gs := [(h 65 v0 0) ≤ v3]) (c' := (31, [some (11, v0), some (0, v1), some (0, v2), some (0, v3)], [], (h, hm, o))) K166_5 rfl ⟨q1, trivial⟩ ?_
      refine zF_blk (m := []) (d := 0) (b := B166_1) (gs := []) (c' := (32, [some (11, v0), some (0, v1), some (0, v2), some (0, v3)], [(0, v2)], (h, hm, o))) K166_1 rfl trivial ?_
      obtain rfl := Option.some.inj e
      exact zF_ri (by decide +kernel)
    · refine zF_blk (m := []) (d := 0) (b := B166_5) (gs := [¬ ((h 65 v0 0) ≤ v3)]) (c' := (12, [some (11, v0), some (0, v1), some (0, v2), some (0, v3)], [], (h, hm, o))) K166_5 rfl ⟨q1, trivial⟩ ?_
      obtain ⟨r1, q2, e⟩ := zB_s e
      refine zF_blk (m := []) (d := 0) (b := B166_2) (gs := []) (c' := (15, [some (11, v0), some (0, v1), some (0, v2), some (0, v3)], [(0, 1), (0, v3), (11, v0)], (h, hm, o))) K166_2 rfl trivial ?_
      refine zF_call (k := 63) (cl := 1) (n := 3) (i := .invokevirtual 138) (args := [(11, v0), (0, v3), (0, 1)]) (rest := []) (g1 := (h, hm, o)) (r1 := some (0, r1)) (by decide +kernel) rfl rfl rfl (st' := [(0, r1)]) rfl (S63 (Nat.le_trans (by decide) hd) v0 v3 1 h _ q2) ?_
      rcases zI_s e with ⟨q3, e⟩ | ⟨q3, e⟩
      · refine zF_blk (m := []) (d := 1) (b := B166_4) (gs := [¬ r1 = v1]) (c' := (25, [some (11, v0), some (0, v1), some (0, v2), some (0, v3)], [], (h, hm, o))) K166_4 rfl ⟨q3, trivial⟩ ?_
        exact T166_1 hd h (F166_0 h n) hk0 v0 v1 v2 v3 _ e
      · refine zF_blk (m := []) (d := 0) (b := B166_4) (gs := [¬ (¬ r1 = v1)]) (c' := (22, [some (11, v0), some (0, v1), some (0, v2), some (0, v3)], [], (h, hm, o))) K166_4 rfl ⟨q3, trivial⟩ ?_
        refine zF_blk (m := []) (d := 0) (b := B166_3) (gs := []) (c' := (25, [some (11, v0), some (0, v1), some (0, (wadd v2 1)), some (0, v3)], [], (h, hm, o))) K166_3 rfl trivial ?_
        exact T166_1 hd h (F166_0 h n) hk0 v0 v1 (wadd v2 1) v3 _ e
/-- EchoVale$Course.countBy(I)I -/
def F166 (v0 : Int) (v1 : Int) (h : zHC) : Option Int := F166_0 h zFu v0 v1 0 0
set_option maxRecDepth 100000 in
theorem S166 {spec : zRn zH2} {hm : zHM} {o : Int → Int} {d : Nat} (hd : 2 ≤ d) (v0 : Int) (v1 : Int) (h : zHC) (v : Int) (e : F166 v0 v1 h = some v) : zRu2 spec d 166 [(11, v0), (0, v1)] (h, hm, o) (some (0, v)) (h, hm, o) := by
  refine zF_in (D := 1) (mx := 4) (L := [some (11, v0), some (0, v1), none, none]) (by decide +kernel) rfl rfl hd (fun d hd => ?_)
  unfold F166 at e
  refine zF_blk (m := []) (d := 0) (b := B166_0) (gs := []) (c' := (4, [some (11, v0), some (0, v1), some (0, 0), some (0, 0)], [], (h, hm, o))) K166_0 rfl trivial ?_
  exact T166_0 hd h zFu v0 v1 0 0 _ e
def B164_0 : List zRow := [(0, .aload_n 0, 1, (0, 0, 0)), (1, .iload_n 1, 1, (0, 0, 0))]
theorem K164_0 : zRk 164 B164_0 = true := by decide +kernel
def B164_1 : List zRow := [(64, .aload_n 0, 1, (0, 0, 0)), (65, .getfield 56, 3, (11, 6, 7)), (68, .getfield 177, 3, (1, 3, 5242906)), (71, .iload_n 1, 1, (0, 0, 0)), (72, .iaload, 1, (0, 0, 0))]
theorem K164_1 : zRk 164 B164_1 = true := by decide +kernel
def B164_2 : List zRow := [(27, .iload_n 2, 1, (0, 0, 0)), (28, .tableswitch 85 0 4 #[36, 46, 55, 65, 74], 36, (0, 0, 0))]
theorem K164_2 : zRk 164 B164_2 = true := by decide +kernel
def B164_3 : List zRow := [(74, .aload_n 0, 1, (0, 0, 0)), (75, .getfield 56, 3, (11, 6, 7)), (78, .iload_n 1, 1, (0, 0, 0))]
theorem K164_3 : zRk 164 B164_3 = true := by decide +kernel
def B164_4 : List zRow := [(83, .aload_n 0, 1, (0, 0, 0)), (84, .getfield 56, 3, (11, 6, 7)), (87, .iconst 5, 1, (0, 0, 0)), (88, .iload_n 1, 1, (0, 0, 0))]
theorem K164_4 : zRk 164 B164_4 = true := by decide +kernel
def B164_5 : List zRow := [(93, .aload_n 0, 1, (0, 0, 0)), (94, .getfield 56, 3, (11, 6, 7)), (97, .iload_n 1, 1, (0, 0, 0))]
theorem K164_5 : zRk 164 B164_5 = true := by decide +kernel
def B164_6 : List zRow := [(102, .aload_n 0, 1, (0, 0, 0)), (103, .getfield 56, 3, (11, 6, 7)), (106, .bipush 7, 2, (0, 0, 0)), (108, .iload_n 1, 1, (0, 0, 0))]
theorem K164_6 : zRk 164 B164_6 = true := by decide +kernel
def B164_7 : List zRow := [(113, .aload_n 0, 1, (0, 0, 0)), (114, .getfield 19, 3, (11, 1, 39)), (117, .getfield 188, 3, (9, 13, 5242906)), (120, .iload_n 1, 1, (0, 0, 0)), (121, .iaload, 1, (0, 0, 0))]
theorem K164_7 : zRk 164 B164_7 = true := by decide +kernel
def B164_8 : List zRow := [(12, .iload_n 2, 1, (0, 0, 0)), (13, .iconst 5, 1, (0, 0, 0)), (14, .if_icmp .le 13, 3, (0, 0, 0))]
theorem K164_8 : zRk 164 B164_8 = true := by decide +kernel
def B164_9 : List zRow := [(8, .iload_n 2, 1, (0, 0, 0)), (9, .ifCond .lt 8, 3, (0, 0, 0))]
theorem K164_9 : zRk 164 B164_9 = true := by decide +kernel
def B164_10 : List zRow := [(5, .ifCond .eq 12, 3, (0, 0, 0))]
theorem K164_10 : zRk 164 B164_10 = true := by decide +kernel
def F164_0 (h : zHC) : Option Int := none
set_option maxRecDepth 100000 in
theorem T164_0 {spec : zRn zH2} {hm : zHM} {o : Int → Int} {d : Nat} (hd : 3 ≤ d) (h : zHC) (v : Int) (e : F164_0 h = some v) : zFin 0 (fun _ => 0) (zRu2 spec d) 164 (some (0, v)) (h, hm, o) (17, [none, none, none], [], (h, hm, o)) := by
  unfold F164_0 at e
  cases e
/-- EchoVale.person(II)I -/
def F164 (v1 : Int) (v2 : Int) (h : zHC) : Option Int := (F61 v1 h).bind fun r1 => if r1 = 0 then F164_0 h else if v2 < 0 then F164_0 h else if v2 ≤ 5 then if v2 = 0 then zG (0 ≤ v1 ∧ v1 < 6) (some (h 67 0 v1)) else if v2 = 1 then (F101 0 v1 h).bind fun r2 => some r2 else if v2 = 2 then (F165 0 5 v1 h).bind fun r3 => some r3 else if v2 = 3 then (F166 0 v1 h).bind fun r4 => some r4 else if v2 = 4 then (F165 0 7 v1 h).bind fun r5 => some r5 else zG (v2 < 0 ∨ 4 < v2) (zG (0 ≤ v1 ∧ v1 < 6) (some (h 589 0 v1))) else F164_0 h
set_option maxRecDepth 100000 in
theorem S164 {spec : zRn zH2} {hm : zHM} {o : Int → Int} {d : Nat} (hd : 4 ≤ d) (v1 : Int) (v2 : Int) (h : zHC) (v : Int) (e : F164 v1 v2 h = some v) : zRu2 spec d 164 [(21, 0), (0, v1), (0, v2)] (h, hm, o) (some (0, v)) (h, hm, o) := by
  refine zF_in (D := 3) (mx := 3) (L := [some (21, 0), some (0, v1), some (0, v2)]) (by decide +kernel) rfl rfl hd (fun d hd => ?_)
  unfold F164 at e
  obtain ⟨r1, q1, e⟩ := zB_s e
  refine zF_blk (m := []) (d := 0) (b := B164_0) (gs := []) (c' := (2, [some (21, 0), some (0, v1), some (0, v2)], [(0, v1), (21, 0)], (h, hm, o))) K164_0 rfl trivial ?_
  refine zF_call (k := 61) (cl := 11) (n := 2) (i := .invokevirtual 172) (args := [(21, 0), (0, v1)]) (rest := []) (g1 := (h, hm, o)) (r1 := some (0, r1)) (by decide +kernel) rfl rfl rfl (st' := [(0, r1)]) rfl (S61 (Nat.le_trans (by decide) hd) v1 h _ q1) ?_
  rcases zI_s e with ⟨q2, e⟩ | ⟨q2, e⟩
  · refine zF_blk (m := []) (d := 1) (b := B164_10) (gs := [r1 = 0]) (c' := (17, [some (21, 0), some (0, v1), some (0, v2)], [], (h, hm, o))) K164_10 rfl ⟨q2, trivial⟩ ?_
    refine zF_blk (m := [false, false, false]) (d := 0) (b := []) (gs := []) (c' := (17, [none, none, none], [], (h, hm, o))) rfl rfl trivial ?_
    exact T164_0 hd h _ e
  · refine zF_blk (m := []) (d := 0) (b := B164_10) (gs := [¬ (r1 = 0)]) (c' := (8, [some (21, 0), some (0, v1), some (0, v2)], [], (h, hm, o))) K164_10 rfl ⟨q2, trivial⟩ ?_
    rcases zI_s e with ⟨q3, e⟩ | ⟨q3, e⟩
    · refine zF_blk (m := []) (d := 1) (b := B164_9) (gs := [v2 < 0]) (c' := (17, [some (21, 0), some (0, v1), some (0, v2)], [], (h, hm, o))) K164_9 rfl ⟨q3, trivial⟩ ?_
      refine zF_blk (m := [false, false, false]) (d := 0) (b := []) (gs := []) (c' := (17, [none, none, none], [], (h, hm, o))) rfl rfl trivial ?_
      exact T164_0 hd h _ e
    · refine zF_blk (m := []) (d := 0) (b := B164_9) (gs := [¬ (v2 < 0)]) (c' := (12, [some (21, 0), some (0, v1), some (0, v2)], [], (h, hm, o))) K164_9 rfl ⟨q3, trivial⟩ ?_
      rcases zI_s e with ⟨q4, e⟩ | ⟨q4, e⟩
      · refine zF_blk (m := []) (d := 1) (b := B164_8) (gs := [v2 ≤ 5]) (c' := (27, [some (21, 0), some (0, v1), some (0, v2)], [], (h, hm, o))) K164_8 rfl ⟨q4, trivial⟩ ?_
        rcases zI_s e with ⟨q5, e⟩ | ⟨q5, e⟩
        · refine zF_blk (m := []) (d := 0) (b := B164_2) (gs := [v2 = 0]) (c' := (64, [some (21, 0), some (0, v1), some (0, v2)], [], (h, hm, o))) K164_2 rfl ⟨q5, trivial⟩ ?_
          obtain ⟨q6, e⟩ := zG_s e
          refine zF_blk (m := []) (d := 0) (b := B164_1) (gs := [0 ≤ v1 ∧ v1 < 6]) (c' := (73, [some (21, 0), some (0, v1), some (0, v2)], [(0, (h 67 0 v1))], (h, hm, o))) K164_1 rfl ⟨q6, trivial⟩ ?_
          obtain rfl := Option.some.inj e
          exact zF_ri (by decide +kernel)
        rcases zI_s e with ⟨q7, e⟩ | ⟨q7, e⟩
        · refine zF_blk (m := []) (d := 1) (b := B164_2) (gs := [v2 = 1]) (c' := (74, [some (21, 0), some (0, v1), some (0, v2)], [], (h, hm, o))) K164_2 rfl ⟨q7, trivial⟩ ?_
          obtain ⟨r2, q8, e⟩ := zB_s e
          refine zF_blk (m := []) (d := 0) (b := B164_3) (gs := []) (c' := (79, [some (21, 0), some (0, v1), some (0, v2)], [(0, v1), (11, 0)], (h, hm, o))) K164_3 rfl trivial ?_
          refine zF_call (k := 101) (cl := 1) (n := 2) (i := .invokevirtual 179) (args := [(11, 0), (0, v1)]) (rest := []) (g1 := (h, hm, o)) (r1 := some (0, r2)) (by decide +kernel) rfl rfl rfl (st' := [(0, r2)]) rfl (S101 (Nat.le_trans (by decide) hd) 0 v1 h _ q8) ?_
          obtain rfl := Option.some.inj e
          exact zF_ri (by decide +kernel)
        rcases zI_s e with ⟨q9, e⟩ | ⟨q9, e⟩
        · refine zF_blk (m := []) (d := 2) (b := B164_2) (gs := [v2 = 2]) (c' := (83, [some (21, 0), some (0, v1), some (0, v2)], [], (h, hm, o))) K164_2 rfl ⟨q9, trivial⟩ ?_
          obtain ⟨r3, q10, e⟩ := zB_s e
          refine zF_blk (m := []) (d := 0) (b := B164_4) (gs := []) (c' := (89, [some (21, 0), some (0, v1), some (0, v2)], [(0, v1), (0, 5), (11, 0)], (h, hm, o))) K164_4 rfl trivial ?_
          refine zF_call (k := 165) (cl := 1) (n := 3) (i := .invokevirtual 182) (args := [(11, 0), (0, 5), (0, v1)]) (rest := []) (g1 := (h, hm, o)) (r1 := some (0, r3)) (by decide +kernel) rfl rfl rfl (st' := [(0, r3)]) rfl (S165 (Nat.le_trans (by decide) hd) 0 5 v1 h _ q10) ?_
          obtain rfl := Option.some.inj e
          exact zF_ri (by decide +kernel)
        rcases zI_s e with ⟨q11, e⟩ | ⟨q11, e⟩
        · refine zF_blk (m := []) (d := 3) (b := B164_2) (gs := [v2 = 3]) (c' := (93, [some (21, 0), some (0, v1), some (0, v2)], [], (h, hm, o))) K164_2 rfl ⟨q11, trivial⟩ ?_
          obtain ⟨r4, q12, e⟩ := zB_s e
          refine zF_blk (m := []) (d := 0) (b := B164_5) (gs := []) (c' := (98, [some (21, 0), some (0, v1), some (0, v2)], [(0, v1), (11, 0)], (h, hm, o))) K164_5 rfl trivial ?_
          refine zF_call (k := 166) (cl := 1) (n := 2) (i := .invokevirtual 185) (args := [(11, 0), (0, v1)]) (rest := []) (g1 := (h, hm, o)) (r1 := some (0, r4)) (by decide +kernel) rfl rfl rfl (st' := [(0, r4)]) rfl (S166 (Nat.le_trans (by decide) hd) 0 v1 h _ q12) ?_
          obtain rfl := Option.some.inj e
          exact zF_ri (by decide +kernel)
        rcases zI_s e with ⟨q13, e⟩ | ⟨q13, e⟩
        · refine zF_blk (m := []) (d := 4) (b := B164_2) (gs := [v2 = 4]) (c' := (102, [some (21, 0), some (0, v1), some (0, v2)], [], (h, hm, o))) K164_2 rfl ⟨q13, trivial⟩ ?_
          obtain ⟨r5, q14, e⟩ := zB_s e
          refine zF_blk (m := []) (d := 0) (b := B164_6) (gs := []) (c' := (109, [some (21, 0), some (0, v1), some (0, v2)], [(0, v1), (0, 7), (11, 0)], (h, hm, o))) K164_6 rfl trivial ?_
          refine zF_call (k := 165) (cl := 1) (n := 3) (i := .invokevirtual 182) (args := [(11, 0), (0, 7), (0, v1)]) (rest := []) (g1 := (h, hm, o)) (r1 := some (0, r5)) (by decide +kernel) rfl rfl rfl (st' := [(0, r5)]) rfl (S165 (Nat.le_trans (by decide) hd) 0 7 v1 h _ q14) ?_
          obtain rfl := Option.some.inj e
          exact zF_ri (by decide +kernel)
        obtain ⟨q16, e⟩ := zG_s e
        refine zF_blk (m := []) (d := 5) (b := B164_2) (gs := [v2 < 0 ∨ 4 < v2]) (c' := (113, [some (21, 0), some (0, v1), some (0, v2)], [], (h, hm, o))) K164_2 rfl ⟨q16, trivial⟩ ?_
        obtain ⟨q15, e⟩ := zG_s e
        refine zF_blk (m := []) (d := 0) (b := B164_7) (gs := [0 ≤ v1 ∧ v1 < 6]) (c' := (122, [some (21, 0), some (0, v1), some (0, v2)], [(0, (h 589 0 v1))], (h, hm, o))) K164_7 rfl ⟨q15, trivial⟩ ?_
        obtain rfl := Option.some.inj e
        exact zF_ri (by decide +kernel)
      · refine zF_blk (m := []) (d := 0) (b := B164_8) (gs := [¬ (v2 ≤ 5)]) (c' := (17, [some (21, 0), some (0, v1), some (0, v2)], [], (h, hm, o))) K164_8 rfl ⟨q4, trivial⟩ ?_
        refine zF_blk (m := [false, false, false]) (d := 0) (b := []) (gs := []) (c' := (17, [none, none, none], [], (h, hm, o))) rfl rfl trivial ?_
        exact T164_0 hd h _ e
def B167_0 : List zRow := [(0, .aload_n 0, 1, (0, 0, 0)), (1, .iload_n 1, 1, (0, 0, 0))]
theorem K167_0 : zRk 167 B167_0 = true := by decide +kernel
def B167_1 : List zRow := [(28, .aload_n 0, 1, (0, 0, 0)), (29, .getfield 56, 3, (11, 6, 7)), (32, .iload_n 1, 1, (0, 0, 0)), (33, .iload_n 2, 1, (0, 0, 0))]
theorem K167_1 : zRk 167 B167_1 = true := by decide +kernel
def B167_2 : List zRow := [(12, .iload_n 2, 1, (0, 0, 0)), (13, .bipush 8, 2, (0, 0, 0)), (15, .if_icmp .lt 13, 3, (0, 0, 0))]
theorem K167_2 : zRk 167 B167_2 = true := by decide +kernel
def B167_3 : List zRow := [(8, .iload_n 2, 1, (0, 0, 0)), (9, .ifCond .lt 9, 3, (0, 0, 0))]
theorem K167_3 : zRk 167 B167_3 = true := by decide +kernel
def B167_4 : List zRow := [(5, .ifCond .eq 13, 3, (0, 0, 0))]
theorem K167_4 : zRk 167 B167_4 = true := by decide +kernel
def F167_0 (h : zHC) : Option Int := none
set_option maxRecDepth 100000 in
theorem T167_0 {spec : zRn zH2} {hm : zHM} {o : Int → Int} {d : Nat} (hd : 1 ≤ d) (h : zHC) (v : Int) (e : F167_0 h = some v) : zFin 0 (fun _ => 0) (zRu2 spec d) 167 (some (0, v)) (h, hm, o) (18, [none, none, none], [], (h, hm, o)) := by
  unfold F167_0 at e
  cases e
/-- EchoVale.saying(II)I -/
def F167 (v1 : Int) (v2 : Int) (h : zHC) : Option Int := (F58 v1 h).bind fun r1 => if r1 = 0 then F167_0 h else if v2 < 0 then F167_0 h else if v2 < 8 then (F63 0 v1 v2 h).bind fun r2 => some r2 else F167_0 h
set_option maxRecDepth 100000 in
theorem S167 {spec : zRn zH2} {hm : zHM} {o : Int → Int} {d : Nat} (hd : 2 ≤ d) (v1 : Int) (v2 : Int) (h : zHC) (v : Int) (e : F167 v1 v2 h = some v) : zRu2 spec d 167 [(21, 0), (0, v1), (0, v2)] (h, hm, o) (some (0, v)) (h, hm, o) := by
  refine zF_in (D := 1) (mx := 3) (L := [some (21, 0), some (0, v1), some (0, v2)]) (by decide +kernel) rfl rfl hd (fun d hd => ?_)
  unfold F167 at e
  obtain ⟨r1, q1, e⟩ := zB_s e
  refine zF_blk (m := []) (d := 0) (b := B167_0) (gs := []) (c' := (2, [some (21, 0), some (0, v1), some (0, v2)], [(0, v1), (21, 0)], (h, hm, o))) K167_0 rfl trivial ?_
  refine zF_call (k := 58) (cl := 11) (n := 2) (i := .invokevirtual 191) (args := [(21, 0), (0, v1)]) (rest := []) (g1 := (h, hm, o)) (r1 := some (0, r1)) (by decide +kernel) rfl rfl rfl (st' := [(0, r1)]) rfl (S58 (Nat.le_trans (by decide) hd) v1 h _ q1) ?_
  rcases zI_s e with ⟨q2, e⟩ | ⟨q2, e⟩
  · refine zF_blk (m := []) (d := 1) (b := B167_4) (gs := [r1 = 0]) (c' := (18, [some (21, 0), some (0, v1), some (0, v2)], [], (h, hm, o))) K167_4 rfl ⟨q2, trivial⟩ ?_
    refine zF_blk (m := [false, false, false]) (d := 0) (b := []) (gs := []) (c' := (18, [none, none, none], [], (h, hm, o))) rfl rfl trivial ?_
    exact T167_0 hd h _ e
  · refine zF_blk (m := []) (d := 0) (b := B167_4) (gs := [¬ (r1 = 0)]) (c' := (8, [some (21, 0), some (0, v1), some (0, v2)], [], (h, hm, o))) K167_4 rfl ⟨q2, trivial⟩ ?_
    rcases zI_s e with ⟨q3, e⟩ | ⟨q3, e⟩
    · refine zF_blk (m := []) (d := 1) (b := B167_3) (gs := [v2 < 0]) (c' := (18, [some (21, 0), some (0, v1), some (0, v2)], [], (h, hm, o))) K167_3 rfl ⟨q3, trivial⟩ ?_
      refine zF_blk (m := [false, false, false]) (d := 0) (b := []) (gs := []) (c' := (18, [none, none, none], [], (h, hm, o))) rfl rfl trivial ?_
      exact T167_0 hd h _ e
    · refine zF_blk (m := []) (d := 0) (b := B167_3) (gs := [¬ (v2 < 0)]) (c' := (12, [some (21, 0), some (0, v1), some (0, v2)], [], (h, hm, o))) K167_3 rfl ⟨q3, trivial⟩ ?_
      rcases zI_s e with ⟨q4, e⟩ | ⟨q4, e⟩
      · refine zF_blk (m := []) (d := 1) (b := B167_2) (gs := [v2 < 8]) (c' := (28, [some (21, 0), some (0, v1), some (0, v2)], [], (h, hm, o))) K167_2 rfl ⟨q4, trivial⟩ ?_
        obtain ⟨r2, q5, e⟩ := zB_s e
        refine zF_blk (m := []) (d := 0) (b := B167_1) (gs := []) (c' := (34, [some (21, 0), some (0, v1), some (0, v2)], [(0, v2), (0, v1), (11, 0)], (h, hm, o))) K167_1 rfl trivial ?_
        refine zF_call (k := 63) (cl := 1) (n := 3) (i := .invokevirtual 196) (args := [(11, 0), (0, v1), (0, v2)]) (rest := []) (g1 := (h, hm, o)) (r1 := some (0, r2)) (by decide +kernel) rfl rfl rfl (st' := [(0, r2)]) rfl (S63 (Nat.le_trans (by decide) hd) 0 v1 v2 h _ q5) ?_
        obtain rfl := Option.some.inj e
        exact zF_ri (by decide +kernel)
      · refine zF_blk (m := []) (d := 0) (b := B167_2) (gs := [¬ (v2 < 8)]) (c' := (18, [some (21, 0), some (0, v1), some (0, v2)], [], (h, hm, o))) K167_2 rfl ⟨q4, trivial⟩ ?_
        refine zF_blk (m := [false, false, false]) (d := 0) (b := []) (gs := []) (c' := (18, [none, none, none], [], (h, hm, o))) rfl rfl trivial ?_
        exact T167_0 hd h _ e
