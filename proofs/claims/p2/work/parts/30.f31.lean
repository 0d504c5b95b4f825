/-! Functions of the methods, by wip/gen/lift.py. -/
def B246_0 : List zRow := [(0, .aload_n 0, 1, (0, 0, 0)), (1, .iconst 0, 1, (0, 0, 0)), (2, .putfield 81, 3, (12, 0, 0)), (5, .aload_n 0, 1, (0, 0, 0)), (6, .iload_n 1, 1, (0, 0, 0))]
theorem K246_0 : zRk 246 B246_0 = true := by decide +kernel
def B246_1 : List zRow := [(38, .iconst (-1), 1, (0, 0, 0))]
theorem K246_1 : zRk 246 B246_1 = true := by decide +kernel
def B246_2 : List zRow := [(13, .aload_n 0, 1, (0, 0, 0)), (14, .iload_n 2, 1, (0, 0, 0))]
theorem K246_2 : zRk 246 B246_2 = true := by decide +kernel
def B246_3 : List zRow := [(21, .iload_n 3, 1, (0, 0, 0))]
theorem K246_3 : zRk 246 B246_3 = true := by decide +kernel
def B246_4 : List zRow := [(28, .aload_n 0, 1, (0, 0, 0)), (29, .iload_n 1, 1, (0, 0, 0)), (30, .iload_n 2, 1, (0, 0, 0)), (31, .iload_n 3, 1, (0, 0, 0))]
theorem K246_4 : zRk 246 B246_4 = true := by decide +kernel
def B246_5 : List zRow := [(35, .goto 4, 3, (0, 0, 0))]
theorem K246_5 : zRk 246 B246_5 = true := by decide +kernel
def B246_6 : List zRow := [(25, .ifCond .eq 13, 3, (0, 0, 0))]
theorem K246_6 : zRk 246 B246_6 = true := by decide +kernel
def B246_7 : List zRow := [(18, .ifCond .eq 20, 3, (0, 0, 0))]
theorem K246_7 : zRk 246 B246_7 = true := by decide +kernel
def B246_8 : List zRow := [(10, .ifCond .eq 28, 3, (0, 0, 0))]
theorem K246_8 : zRk 246 B246_8 = true := by decide +kernel
/-- EchoValeModel.camping(III)I -/
def F246 (v1 : Int) (v2 : Int) (v3 : Int) (h : zHM) : Option (Int × zHM) := (F210 v1 (mset h 0 0 0)).bind fun r1 => if r1 = 0 then some ((-1), (mset h 0 0 0)) else (F224 v2 (mset h 0 0 0)).bind fun r2 => if r2 = 0 then some ((-1), (mset h 0 0 0)) else (F242 v3).bind fun r3 => if r3 = 0 then some ((-1), (mset h 0 0 0)) else (F243 v1 v2 v3 (mset h 0 0 0)).bind fun r4 => some (r4.1, r4.2)
set_option maxRecDepth 100000 in
theorem S246 {spec : zRn zH2} {hc : zHC} {o : Int → Int} {d : Nat} (hd : 8 ≤ d) (v1 : Int) (v2 : Int) (v3 : Int) (h : zHM) (v : (Int × zHM)) (e : F246 v1 v2 v3 h = some v) : zRu2 spec d 246 [(22, 0), (0, v1), (0, v2), (0, v3)] (hc, h, o) (some (0, v.1)) (hc, v.2, o) := by
  refine zF_in (D := 7) (mx := 4) (L := [some (22, 0), some (0, v1), some (0, v2), some (0, v3)]) (by decide +kernel) rfl rfl hd (fun d hd => ?_)
  unfold F246 at e
  obtain ⟨r1, q1, e⟩ := zB_s e
  refine zF_blk (m := []) (d := 0) (b := B246_0) (gs := []) (c' := (7, [some (22, 0), some (0, v1), some (0, v2), some (0, v3)], [(0, v1), (22, 0)], (hc, (mset h 0 0 0), o))) K246_0 rfl trivial ?_
  refine zF_call (k := 210) (cl := 12) (n := 2) (i := .invokevirtual 260) (args := [(22, 0), (0, v1)]) (rest := []) (g1 := (hc, (mset h 0 0 0), o)) (r1 := some (0, r1)) (by decide +kernel) rfl rfl rfl (st' := [(0, r1)]) rfl (S210 (Nat.le_trans (by decide) hd) v1 (mset h 0 0 0) _ q1) ?_
  rcases zI_s e with ⟨q2, e⟩ | ⟨q2, e⟩
  · refine zF_blk (m := []) (d := 1) (b := B246_8) (gs := [r1 = 0]) (c' := (38, [some (22, 0), some (0, v1), some (0, v2), some (0, v3)], [], (hc, (mset h 0 0 0), o))) K246_8 rfl ⟨q2, trivial⟩ ?_
    refine zF_blk (m := []) (d := 0) (b := B246_1) (gs := []) (c' := (39, [some (22, 0), some (0, v1), some (0, v2), some (0, v3)], [(0, (-1))], (hc, (mset h 0 0 0), o))) K246_1 rfl trivial ?_
    exact zF_riM (by decide +kernel) e
  · refine zF_blk (m := []) (d := 0) (b := B246_8) (gs := [¬ (r1 = 0)]) (c' := (13, [some (22, 0), some (0, v1), some (0, v2), some (0, v3)], [], (hc, (mset h 0 0 0), o))) K246_8 rfl ⟨q2, trivial⟩ ?_
    obtain ⟨r2, q3, e⟩ := zB_s e
    refine zF_blk (m := []) (d := 0) (b := B246_2) (gs := []) (c' := (15, [some (22, 0), some (0, v1), some (0, v2), some (0, v3)], [(0, v2), (22, 0)], (hc, (mset h 0 0 0), o))) K246_2 rfl trivial ?_
    refine zF_call (k := 224) (cl := 12) (n := 2) (i := .invokevirtual 305) (args := [(22, 0), (0, v2)]) (rest := []) (g1 := (hc, (mset h 0 0 0), o)) (r1 := some (0, r2)) (by decide +kernel) rfl rfl rfl (st' := [(0, r2)]) rfl (S224 (Nat.le_trans (by decide) hd) v2 (mset h 0 0 0) _ q3) ?_
    rcases zI_s e with ⟨q4, e⟩ | ⟨q4, e⟩
    · refine zF_blk (m := []) (d := 1) (b := B246_7) (gs := [r2 = 0]) (c' := (38, [some (22, 0), some (0, v1), some (0, v2), some (0, v3)], [], (hc, (mset h 0 0 0), o))) K246_7 rfl ⟨q4, trivial⟩ ?_
      refine zF_blk (m := []) (d := 0) (b := B246_1) (gs := []) (c' := (39, [some (22, 0), some (0, v1), some (0, v2), some (0, v3)], [(0, (-1))], (hc, (mset h 0 0 0), o))) K246_1 rfl trivial ?_
      exact zF_riM (by decide +kernel) e
    · refine zF_blk (m := []) (d := 0) (b := B246_7) (gs := [¬ (r2 = 0)]) (c' := (21, [some (22, 0), some (0, v1), some (0, v2), some (0, v3)], [], (hc, (mset h 0 0 0), o))) K246_7 rfl ⟨q4, trivial⟩ ?_
      obtain ⟨r3, q5, e⟩ := zB_s e
      refine zF_blk (m := []) (d := 0) (b := B246_3) (gs := []) (c' := (22, [some (22, 0), some (0, v1), some (0, v2), some (0, v3)], [(0, v3)], (hc, (mset h 0 0 0), o))) K246_3 rfl trivial ?_
      refine zF_call (k := 242) (cl := 12) (n := 1) (i := .invokestatic 323) (args := [(0, v3)]) (rest := []) (g1 := (hc, (mset h 0 0 0), o)) (r1 := some (0, r3)) (by decide +kernel) rfl rfl rfl (st' := [(0, r3)]) rfl (S242 (Nat.le_trans (by decide) hd) v3 (mset h 0 0 0) _ q5) ?_
      rcases zI_s e with ⟨q6, e⟩ | ⟨q6, e⟩
      · refine zF_blk (m := []) (d := 1) (b := B246_6) (gs := [r3 = 0]) (c' := (38, [some (22, 0), some (0, v1), some (0, v2), some (0, v3)], [], (hc, (mset h 0 0 0), o))) K246_6 rfl ⟨q6, trivial⟩ ?_
        refine zF_blk (m := []) (d := 0) (b := B246_1) (gs := []) (c' := (39, [some (22, 0), some (0, v1), some (0, v2), some (0, v3)], [(0, (-1))], (hc, (mset h 0 0 0), o))) K246_1 rfl trivial ?_
        exact zF_riM (by decide +kernel) e
      · refine zF_blk (m := []) (d := 0) (b := B246_6) (gs := [¬ (r3 = 0)]) (c' := (28, [some (22, 0), some (0, v1), some (0, v2), some (0, v3)], [], (hc, (mset h 0 0 0), o))) K246_6 rfl ⟨q6, trivial⟩ ?_
        obtain ⟨r4, q7, e⟩ := zB_s e
        refine zF_blk (m := []) (d := 0) (b := B246_4) (gs := []) (c' := (32, [some (22, 0), some (0, v1), some (0, v2), some (0, v3)], [(0, v3), (0, v2), (0, v1), (22, 0)], (hc, (mset h 0 0 0), o))) K246_4 rfl trivial ?_
        refine zF_call (k := 243) (cl := 12) (n := 4) (i := .invokevirtual 326) (args := [(22, 0), (0, v1), (0, v2), (0, v3)]) (rest := []) (g1 := (hc, r4.2, o)) (r1 := some (0, r4.1)) (by decide +kernel) rfl rfl rfl (st' := [(0, r4.1)]) rfl (S243 (Nat.le_trans (by decide) hd) v1 v2 v3 (mset h 0 0 0) _ q7) ?_
        refine zF_blk (m := []) (d := 0) (b := B246_5) (gs := []) (c' := (39, [some (22, 0), some (0, v1), some (0, v2), some (0, v3)], [(0, r4.1)], (hc, r4.2, o))) K246_5 rfl trivial ?_
        exact zF_riM (by decide +kernel) e
def B105_0 : List zRow := [(0, .iconst 0, 1, (0, 0, 0)), (1, .istore_n 1, 1, (0, 0, 0)), (2, .iconst 0, 1, (0, 0, 0)), (3, .istore_n 2, 1, (0, 0, 0))]
theorem K105_0 : zRk 105 B105_0 = true := by decide +kernel
def B105_1 : List zRow := [(34, .iload_n 1, 1, (0, 0, 0))]
theorem K105_1 : zRk 105 B105_1 = true := by decide +kernel
def B105_2 : List zRow := [(22, .iload_n 1, 1, (0, 0, 0)), (23, .iconst 1, 1, (0, 0, 0)), (24, .iload_n 2, 1, (0, 0, 0)), (25, .ishl, 1, (0, 0, 0)), (26, .ior, 1, (0, 0, 0)), (27, .istore_n 1, 1, (0, 0, 0))]
theorem K105_2 : zRk 105 B105_2 = true := by decide +kernel
def B105_3 : List zRow := [(12, .aload_n 0, 1, (0, 0, 0)), (13, .getfield 31, 3, (9, 13, 5242906)), (16, .iload_n 2, 1, (0, 0, 0)), (17, .iaload, 1, (0, 0, 0)), (18, .iconst (-1), 1, (0, 0, 0)), (19, .if_icmp .eq 9, 3, (0, 0, 0))]
theorem K105_3 : zRk 105 B105_3 = true := by decide +kernel
def B105_4 : List zRow := [(4, .iload_n 2, 1, (0, 0, 0)), (5, .aload_n 0, 1, (0, 0, 0)), (6, .getfield 62, 3, (9, 3, 0)), (9, .if_icmp .ge 25, 3, (0, 0, 0))]
theorem K105_4 : zRk 105 B105_4 = true := by decide +kernel
def B105_5 : List zRow := [(28, .iinc 2 1, 3, (0, 0, 0)), (31, .goto (-27), 3, (0, 0, 0))]
theorem K105_5 : zRk 105 B105_5 = true := by decide +kernel
def F105_1 (k0 : Int → Int → Int → Option Int) (h : zHC) (v0 : Int) (v1 : Int) (v2 : Int) : Option Int := k0 v0 v1 (wadd v2 1)
set_option maxRecDepth 100000 in
theorem T105_1 {spec : zRn zH2} {hm : zHM} {o : Int → Int} {d : Nat} (hd : 0 ≤ d) (h : zHC) (k0 : Int → Int → Int → Option Int) (hk0 : ∀ (v0 : Int) (v1 : Int) (v2 : Int) (v : Int), k0 v0 v1 v2 = some v → zFin 0 (fun _ => 0) (zRu2 spec d) 105 (some (0, v)) (h, hm, o) (4, [some (19, v0), some (0, v1), some (0, v2)], [], (h, hm, o))) (v0 : Int) (v1 : Int) (v2 : Int) (v : Int) (e : F105_1 k0 h v0 v1 v2 = some v) : zFin 0 (fun _ => 0) (zRu2 spec d) 105 (some (0, v)) (h, hm, o) (28, [some (19, v0), some (0, v1), some (0, v2)], [], (h, hm, o)) := by
  unfold F105_1 at e
  refine zF_blk (m := []) (d := 0) (b := B105_5) (gs := []) (c' := (4, [some (19, v0), some (0, v1), some (0, (wadd v2 1))], [], (h, hm, o))) K105_5 rfl trivial ?_
  exact hk0 v0 v1 (wadd v2 1) _ e
def F105_0 (h : zHC) : Nat → Int → Int → Int → Option Int
  | 0, _, _, _ => none
  | n + 1, v0, v1, v2 => if (h 579 v0 0) ≤ v2 then some v1 else zG (0 ≤ v2 ∧ v2 < 6) (if (h 589 v0 v2) = (-1) then F105_1 (F105_0 h n) h v0 v1 v2 else F105_1 (F105_0 h n) h v0 (wor v1 (wshl 1 v2)) v2)
set_option maxRecDepth 100000 in
theorem T105_0 {spec : zRn zH2} {hm : zHM} {o : Int → Int} {d : Nat} (hd : 0 ≤ d) (h : zHC) : ∀ (n : Nat) (v0 : Int) (v1 : Int) (v2 : Int) (v : Int), F105_0 h n v0 v1 v2 = some v → zFin 0 (fun _ => 0) (zRu2 spec d) 105 (some (0, v)) (h, hm, o) (4, [some (19, v0), some (0, v1), some (0, v2)], [], (h, hm, o)) := by
  intro n
  induction n with
  | zero => intro v0 v1 v2 v e; unfold F105_0 at e; cases e
  | succ n hk0 =>
    intro v0 v1 v2 v e
    unfold F105_0 at e
    rcases zI_s e with ⟨q1, e⟩ | ⟨q1, e⟩
    · refine zF_blk (m := []) (d := 1) (b := B105_4) (gs := [(h 579 v0 0) ≤ v2]) (c' := (34, [some (19, v0), some (0, v1), some (0, v2)], [], (h, hm, o))) K105_4 rfl ⟨q1, trivial⟩ ?_
      refine zF_blk (m := []) (d := 0) (b := B105_1) (gs := []) (c' := (35, [some (19, v0), some (0, v1), some (0, v2)], [(0, v1)], (h, hm, o))) K105_1 rfl trivial ?_
      obtain rfl := Option.some.inj e
      exact zF_ri (by decide +kernel)
    · refine zF_blk (m := []) (d := 0) (b := B105_4) (gs := [¬ ((h 579 v0 0) ≤ v2)]) (c' := (12, [some (19, v0), some (0, v1), some (0, v2)], [], (h, hm, o))) K105_4 rfl ⟨q1, trivial⟩ ?_
      obtain ⟨q2, e⟩ := zG_s e
      rcases zI_s e with ⟨q3, e⟩ | ⟨q3, e⟩
      · refine zF_blk (m := []) (d := 1) (b := B105_3) (gs := [0 ≤ v2 ∧ v2 < 6, (h 589 v0 v2) = (-1)]) (c' := (28, [some (19, v0), some (0, v1), some (0, v2)], [], (h, hm, o))) K105_3 rfl ⟨q2, q3, trivial⟩ ?_
        exact T105_1 hd h (F105_0 h n) hk0 v0 v1 v2 _ e
      · refine zF_blk (m := []) (d := 0) (b := B105_3) (gs := [0 ≤ v2 ∧ v2 < 6, ¬ ((h 589 v0 v2) = (-1))]) (c' := (22, [some (19, v0), some (0, v1), some (0, v2)], [], (h, hm, o))) K105_3 rfl ⟨q2, q3, trivial⟩ ?_
        refine zF_blk (m := []) (d := 0) (b := B105_2) (gs := []) (c' := (28, [some (19, v0), some (0, (wor v1 (wshl 1 v2))), some (0, v2)], [], (h, hm, o))) K105_2 rfl trivial ?_
        exact T105_1 hd h (F105_0 h n) hk0 v0 (wor v1 (wshl 1 v2)) v2 _ e
/-- EchoVale$Valley.campers()I -/
def F105 (v0 : Int) (h : zHC) : Option Int := F105_0 h zFu v0 0 0
set_option maxRecDepth 100000 in
theorem S105 {spec : zRn zH2} {hm : zHM} {o : Int → Int} {d : Nat} (hd : 1 ≤ d) (v0 : Int) (h : zHC) (v : Int) (e : F105 v0 h = some v) : zRu2 spec d 105 [(19, v0)] (h, hm, o) (some (0, v)) (h, hm, o) := by
  refine zF_in (D := 0) (mx := 3) (L := [some (19, v0), none, none]) (by decide +kernel) rfl rfl hd (fun d hd => ?_)
  unfold F105 at e
  refine zF_blk (m := []) (d := 0) (b := B105_0) (gs := []) (c' := (4, [some (19, v0), some (0, 0), some (0, 0)], [], (h, hm, o))) K105_0 rfl trivial ?_
  exact T105_0 hd h zFu v0 0 0 _ e
def B104_0 : List zRow := [(0, .iload_n 1, 1, (0, 0, 0)), (1, .aload_n 0, 1, (0, 0, 0)), (2, .getfield 19, 3, (11, 1, 39))]
theorem K104_0 : zRk 104 B104_0 = true := by decide +kernel
def B104_1 : List zRow := [(18, .iconst 0, 1, (0, 0, 0))]
theorem K104_1 : zRk 104 B104_1 = true := by decide +kernel
def B104_2 : List zRow := [(14, .iconst 1, 1, (0, 0, 0)), (15, .goto 4, 3, (0, 0, 0))]
theorem K104_2 : zRk 104 B104_2 = true := by decide +kernel
def B104_3 : List zRow := [(8, .iconst (-1), 1, (0, 0, 0)), (9, .ixor, 1, (0, 0, 0)), (10, .iand, 1, (0, 0, 0)), (11, .ifCond .ne 7, 3, (0, 0, 0))]
theorem K104_3 : zRk 104 B104_3 = true := by decide +kernel
/-- EchoVale.areCamps(I)Z -/
def F104 (v1 : Int) (h : zHC) : Option Int := (F105 0 h).bind fun r1 => if ¬ (wand v1 (wxor r1 (-1))) = 0 then some 0 else some 1
set_option maxRecDepth 100000 in
theorem S104 {spec : zRn zH2} {hm : zHM} {o : Int → Int} {d : Nat} (hd : 2 ≤ d) (v1 : Int) (h : zHC) (v : Int) (e : F104 v1 h = some v) : zRu2 spec d 104 [(21, 0), (0, v1)] (h, hm, o) (some (0, v)) (h, hm, o) := by
  refine zF_in (D := 1) (mx := 2) (L := [some (21, 0), some (0, v1)]) (by decide +kernel) rfl rfl hd (fun d hd => ?_)
  unfold F104 at e
  obtain ⟨r1, q1, e⟩ := zB_s e
  refine zF_blk (m := []) (d := 0) (b := B104_0) (gs := []) (c' := (5, [some (21, 0), some (0, v1)], [(19, 0), (0, v1)], (h, hm, o))) K104_0 rfl trivial ?_
  refine zF_call (k := 105) (cl := 9) (n := 1) (i := .invokevirtual 371) (args := [(19, 0)]) (rest := [(0, v1)]) (g1 := (h, hm, o)) (r1 := some (0, r1)) (by decide +kernel) rfl rfl rfl (st' := [(0, r1), (0, v1)]) rfl (S105 (Nat.le_trans (by decide) hd) 0 h _ q1) ?_
  rcases zI_s e with ⟨q2, e⟩ | ⟨q2, e⟩
  · refine zF_blk (m := []) (d := 1) (b := B104_3) (gs := [¬ (wand v1 (wxor r1 (-1))) = 0]) (c' := (18, [some (21, 0), some (0, v1)], [], (h, hm, o))) K104_3 rfl ⟨q2, trivial⟩ ?_
    refine zF_blk (m := []) (d := 0) (b := B104_1) (gs := []) (c' := (19, [some (21, 0), some (0, v1)], [(0, 0)], (h, hm, o))) K104_1 rfl trivial ?_
    obtain rfl := Option.some.inj e
    exact zF_rb (by decide +kernel) (Or.inl rfl)
  · refine zF_blk (m := []) (d := 0) (b := B104_3) (gs := [¬ (¬ (wand v1 (wxor r1 (-1))) = 0)]) (c' := (14, [some (21, 0), some (0, v1)], [], (h, hm, o))) K104_3 rfl ⟨q2, trivial⟩ ?_
    refine zF_blk (m := []) (d := 0) (b := B104_2) (gs := []) (c' := (19, [some (21, 0), some (0, v1)], [(0, 1)], (h, hm, o))) K104_2 rfl trivial ?_
    obtain rfl := Option.some.inj e
    exact zF_rb (by decide +kernel) (Or.inr rfl)
def B106_0 : List zRow := [(0, .aload_n 0, 1, (0, 0, 0)), (1, .getfield 60, 3, (11, 7, 135)), (4, .aload_n 0, 1, (0, 0, 0)), (5, .getfield 56, 3, (11, 6, 7))]
theorem K106_0 : zRk 106 B106_0 = true := by decide +kernel
def B106_1 : List zRow := [(11, .iconst 0, 1, (0, 0, 0)), (12, .istore_n 3, 1, (0, 0, 0))]
theorem K106_1 : zRk 106 B106_1 = true := by decide +kernel
def B106_2 : List zRow := [(56, .aload_n 0, 1, (0, 0, 0)), (57, .getfield 60, 3, (11, 7, 135)), (60, .aload_n 0, 1, (0, 0, 0)), (61, .getfield 19, 3, (11, 1, 39)), (64, .iload_n 2, 1, (0, 0, 0))]
theorem K106_2 : zRk 106 B106_2 = true := by decide +kernel
def B106_3 : List zRow := [(68, .pop, 1, (0, 0, 0))]
theorem K106_3 : zRk 106 B106_3 = true := by decide +kernel
def B106_4 : List zRow := [(24, .iload_n 1, 1, (0, 0, 0)), (25, .iload_n 3, 1, (0, 0, 0))]
theorem K106_4 : zRk 106 B106_4 = true := by decide +kernel
def B106_5 : List zRow := [(32, .aload_n 0, 1, (0, 0, 0)), (33, .getfield 60, 3, (11, 7, 135)), (36, .getfield 177, 3, (1, 3, 5242906)), (39, .iload_n 3, 1, (0, 0, 0)), (40, .aload_n 0, 1, (0, 0, 0)), (41, .getfield 19, 3, (11, 1, 39)), (44, .getfield 188, 3, (9, 13, 5242906)), (47, .iload_n 3, 1, (0, 0, 0)), (48, .iaload, 1, (0, 0, 0)), (49, .iastore, 1, (0, 0, 0))]
theorem K106_5 : zRk 106 B106_5 = true := by decide +kernel
def B106_6 : List zRow := [(29, .ifCond .eq 21, 3, (0, 0, 0))]
theorem K106_6 : zRk 106 B106_6 = true := by decide +kernel
def B106_7 : List zRow := [(13, .iload_n 3, 1, (0, 0, 0)), (14, .aload_n 0, 1, (0, 0, 0)), (15, .getfield 19, 3, (11, 1, 39)), (18, .getfield 311, 3, (9, 3, 0)), (21, .if_icmp .ge 35, 3, (0, 0, 0))]
theorem K106_7 : zRk 106 B106_7 = true := by decide +kernel
def B106_8 : List zRow := [(50, .iinc 3 1, 3, (0, 0, 0)), (53, .goto (-40), 3, (0, 0, 0))]
theorem K106_8 : zRk 106 B106_8 = true := by decide +kernel
def F106_1 (k0 : Int → Int → Int → zHC → Option zHC) (v1 : Int) (v2 : Int) (v3 : Int) (h : zHC) : Option zHC := k0 v1 v2 (wadd v3 1) h
set_option maxRecDepth 100000 in
theorem T106_1 {spec : zRn zH2} {hm : zHM} {o : Int → Int} {d : Nat} (hd : 6 ≤ d) (k0 : Int → Int → Int → zHC → Option zHC) (hk0 : ∀ (v1 : Int) (v2 : Int) (v3 : Int) (h : zHC) (v : zHC), k0 v1 v2 v3 h = some v → zFin 0 (fun _ => 0) (zRu2 spec d) 106 none (v, hm, o) (13, [some (21, 0), some (0, v1), some (0, v2), some (0, v3)], [], (h, hm, o))) (v1 : Int) (v2 : Int) (v3 : Int) (h : zHC) (v : zHC) (e : F106_1 k0 v1 v2 v3 h = some v) : zFin 0 (fun _ => 0) (zRu2 spec d) 106 none (v, hm, o) (50, [some (21, 0), some (0, v1), some (0, v2), some (0, v3)], [], (h, hm, o)) := by
  unfold F106_1 at e
  refine zF_blk (m := []) (d := 0) (b := B106_8) (gs := []) (c' := (13, [some (21, 0), some (0, v1), some (0, v2), some (0, (wadd v3 1))], [], (h, hm, o))) K106_8 rfl trivial ?_
  exact hk0 v1 v2 (wadd v3 1) h _ e
def F106_0 : Nat → Int → Int → Int → zHC → Option zHC
  | 0, _, _, _, _ => none
  | n + 1, v1, v2, v3, h => if (h 579 0 0) ≤ v3 then (F88 1 0 v2 h).bind fun r1 => some r1.2 else (F65 v1 v3).bind fun r2 => if r2 = 0 then F106_1 (F106_0 n) v1 v2 v3 h else zG (0 ≤ v3 ∧ v3 < 6) (zG (0 ≤ v3 ∧ v3 < 6) (F106_1 (F106_0 n) v1 v2 v3 (hset h 67 1 v3 (h 589 0 v3))))
set_option maxRecDepth 100000 in
theorem T106_0 {spec : zRn zH2} {hm : zHM} {o : Int → Int} {d : Nat} (hd : 6 ≤ d) : ∀ (n : Nat) (v1 : Int) (v2 : Int) (v3 : Int) (h : zHC) (v : zHC), F106_0 n v1 v2 v3 h = some v → zFin 0 (fun _ => 0) (zRu2 spec d) 106 none (v, hm, o) (13, [some (21, 0), some (0, v1), some (0, v2), some (0, v3)], [], (h, hm, o)) := by
  intro n
  induction n with
  | zero => intro v1 v2 v3 h v e; unfold F106_0 at e; cases e
  | succ n hk0 =>
    intro v1 v2 v3 h v e
    unfold F106_0 at e
    rcases zI_s e with ⟨q1, e⟩ | ⟨q1, e⟩
    · refine zF_blk (m := []) (d := 1) (b := B106_7) (gs := [(h 579 0 0) ≤ v3]) (c' := (56, [some (21, 0), some (0, v1), some (0, v2), some (0, v3)], [], (h, hm, o))) K106_7 rfl ⟨q1, trivial⟩ ?_
      obtain ⟨r1, q2, e⟩ := zB_s e
      refine zF_blk (m := []) (d := 0) (b := B106_2) (gs := []) (c' := (65, [some (21, 0), some (0, v1), some (0, v2), some (0, v3)], [(0, v2), (19, 0), (11, 1)], (h, hm, o))) K106_2 rfl trivial ?_
      refine zF_call (k := 88) (cl := 1) (n := 3) (i := .invokevirtual 231) (args := [(11, 1), (19, 0), (0, v2)]) (rest := []) (g1 := (r1.2, hm, o)) (r1 := some (0, r1.1)) (by decide +kernel) rfl rfl rfl (st' := [(0, r1.1)]) rfl (S88 (Nat.le_trans (by decide) hd) 1 0 v2 h _ q2) ?_
      refine zF_blk (m := []) (d := 0) (b := B106_3) (gs := []) (c' := (69, [some (21, 0), some (0, v1), some (0, v2), some (0, v3)], [], (r1.2, hm, o))) K106_3 rfl trivial ?_
      obtain rfl := Option.some.inj e
      exact zF_rv (by decide +kernel)
    · refine zF_blk (m := []) (d := 0) (b := B106_7) (gs := [¬ ((h 579 0 0) ≤ v3)]) (c' := (24, [some (21, 0), some (0, v1), some (0, v2), some (0, v3)], [], (h, hm, o))) K106_7 rfl ⟨q1, trivial⟩ ?_
      obtain ⟨r2, q3, e⟩ := zB_s e
      refine zF_blk (m := []) (d := 0) (b := B106_4) (gs := []) (c' := (26, [some (21, 0), some (0, v1), some (0, v2), some (0, v3)], [(0, v3), (0, v1)], (h, hm, o))) K106_4 rfl trivial ?_
      refine zF_call (k := 65) (cl := 11) (n := 2) (i := .invokestatic 272) (args := [(0, v1), (0, v3)]) (rest := []) (g1 := (h, hm, o)) (r1 := some (0, r2)) (by decide +kernel) rfl rfl rfl (st' := [(0, r2)]) rfl (S65 (Nat.le_trans (by decide) hd) v1 v3 h _ q3) ?_
      rcases zI_s e with ⟨q4, e⟩ | ⟨q4, e⟩
      · refine zF_blk (m := []) (d := 1) (b := B106_6) (gs := [r2 = 0]) (c' := (50, [some (21, 0), some (0, v1), some (0, v2), some (0, v3)], [], (h, hm, o))) K106_6 rfl ⟨q4, trivial⟩ ?_
        exact T106_1 hd (F106_0 n) hk0 v1 v2 v3 h _ e
      · refine zF_blk (m := []) (d := 0) (b := B106_6) (gs := [¬ (r2 = 0)]) (c' := (32, [some (21, 0), some (0, v1), some (0, v2), some (0, v3)], [], (h, hm, o))) K106_6 rfl ⟨q4, trivial⟩ ?_
        obtain ⟨q5, e⟩ := zG_s e
        obtain ⟨q5, e⟩ := zG_s e
        refine zF_blk (m := []) (d := 0) (b := B106_5) (gs := [0 ≤ v3 ∧ v3 < 6, 0 ≤ v3 ∧ v3 < 6]) (c' := (50, [some (21, 0), some (0, v1), some (0, v2), some (0, v3)], [], ((hset h 67 1 v3 (h 589 0 v3)), hm, o))) K106_5 rfl ⟨q5, q5, trivial⟩ ?_
        exact T106_1 hd (F106_0 n) hk0 v1 v2 v3 (hset h 67 1 v3 (h 589 0 v3)) _ e
/-- EchoVale.passByCamps(II)V -/
def F106 (v1 : Int) (v2 : Int) (h : zHC) : Option zHC := (F71 1 0 h).bind fun r1 => F106_0 zFu v1 v2 0 r1
set_option maxRecDepth 100000 in
theorem S106 {spec : zRn zH2} {hm : zHM} {o : Int → Int} {d : Nat} (hd : 7 ≤ d) (v1 : Int) (v2 : Int) (h : zHC) (v : zHC) (e : F106 v1 v2 h = some v) : zRu2 spec d 106 [(21, 0), (0, v1), (0, v2)] (h, hm, o) none (v, hm, o) := by
  refine zF_in (D := 6) (mx := 4) (L := [some (21, 0), some (0, v1), some (0, v2), none]) (by decide +kernel) rfl rfl hd (fun d hd => ?_)
  unfold F106 at e
  obtain ⟨r1, q1, e⟩ := zB_s e
  refine zF_blk (m := []) (d := 0) (b := B106_0) (gs := []) (c' := (8, [some (21, 0), some (0, v1), some (0, v2), none], [(11, 0), (11, 1)], (h, hm, o))) K106_0 rfl trivial ?_
  refine zF_call (k := 71) (cl := 1) (n := 2) (i := .invokevirtual 266) (args := [(11, 1), (11, 0)]) (rest := []) (g1 := (r1, hm, o)) (r1 := none) (by decide +kernel) rfl rfl rfl (st' := []) rfl (S71 (Nat.le_trans (by decide) hd) 1 0 h _ q1) ?_
  refine zF_blk (m := []) (d := 0) (b := B106_1) (gs := []) (c' := (13, [some (21, 0), some (0, v1), some (0, v2), some (0, 0)], [], (r1, hm, o))) K106_1 rfl trivial ?_
  exact T106_0 hd zFu v1 v2 0 r1 _ e
def B103_0 : List zRow := [(0, .aload_n 0, 1, (0, 0, 0)), (1, .iload_n 1, 1, (0, 0, 0))]
theorem K103_0 : zRk 103 B103_0 = true := by decide +kernel
def B103_1 : List zRow := [(23, .iconst (-1), 1, (0, 0, 0))]
theorem K103_1 : zRk 103 B103_1 = true := by decide +kernel
def B103_2 : List zRow := [(8, .iload_n 3, 1, (0, 0, 0))]
theorem K103_2 : zRk 103 B103_2 = true := by decide +kernel
def B103_3 : List zRow := [(15, .aload_n 0, 1, (0, 0, 0)), (16, .iload_n 2, 1, (0, 0, 0))]
theorem K103_3 : zRk 103 B103_3 = true := by decide +kernel
def B103_4 : List zRow := [(25, .aload_n 0, 1, (0, 0, 0)), (26, .iload_n 2, 1, (0, 0, 0)), (27, .iload_n 3, 1, (0, 0, 0))]
theorem K103_4 : zRk 103 B103_4 = true := by decide +kernel
def B103_5 : List zRow := [(31, .aload_n 0, 1, (0, 0, 0)), (32, .getfield 60, 3, (11, 7, 135)), (35, .iload_n 1, 1, (0, 0, 0))]
theorem K103_5 : zRk 103 B103_5 = true := by decide +kernel
def B103_6 : List zRow := [(20, .ifCond .ne 5, 3, (0, 0, 0))]
theorem K103_6 : zRk 103 B103_6 = true := by decide +kernel
def B103_7 : List zRow := [(12, .ifCond .eq 11, 3, (0, 0, 0))]
theorem K103_7 : zRk 103 B103_7 = true := by decide +kernel
def B103_8 : List zRow := [(5, .ifCond .eq 18, 3, (0, 0, 0))]
theorem K103_8 : zRk 103 B103_8 = true := by decide +kernel
/-- EchoVale.has(III)I -/
def F103 (v1 : Int) (v2 : Int) (v3 : Int) (h : zHC) : Option (Int × zHC) := (F61 v1 h).bind fun r1 => if r1 = 0 then some ((-1), h) else (F99 v3).bind fun r2 => if r2 = 0 then some ((-1), h) else (F104 v2 h).bind fun r3 => if ¬ r3 = 0 then (F106 v2 v3 h).bind fun r4 => (F101 1 v1 r4).bind fun r5 => some (r5, r4) else some ((-1), h)
set_option maxRecDepth 100000 in
theorem S103 {spec : zRn zH2} {hm : zHM} {o : Int → Int} {d : Nat} (hd : 8 ≤ d) (v1 : Int) (v2 : Int) (v3 : Int) (h : zHC) (v : (Int × zHC)) (e : F103 v1 v2 v3 h = some v) : zRu2 spec d 103 [(21, 0), (0, v1), (0, v2), (0, v3)] (h, hm, o) (some (0, v.1)) (v.2, hm, o) := by
  refine zF_in (D := 7) (mx := 4) (L := [some (21, 0), some (0, v1), some (0, v2), some (0, v3)]) (by decide +kernel) rfl rfl hd (fun d hd => ?_)
  unfold F103 at e
  obtain ⟨r1, q1, e⟩ := zB_s e
  refine zF_blk (m := []) (d := 0) (b := B103_0) (gs := []) (c' := (2, [some (21, 0), some (0, v1), some (0, v2), some (0, v3)], [(0, v1), (21, 0)], (h, hm, o))) K103_0 rfl trivial ?_
  refine zF_call (k := 61) (cl := 11) (n := 2) (i := .invokevirtual 172) (args := [(21, 0), (0, v1)]) (rest := []) (g1 := (h, hm, o)) (r1 := some (0, r1)) (by decide +kernel) rfl rfl rfl (st' := [(0, r1)]) rfl (S61 (Nat.le_trans (by decide) hd) v1 h _ q1) ?_
  rcases zI_s e with ⟨q2, e⟩ | ⟨q2, e⟩
  · refine zF_blk (m := []) (d := 1) (b := B103_8) (gs := [r1 = 0]) (c' := (23, [some (21, 0), some (0, v1), some (0, v2), some (0, v3)], [], (h, hm, o))) K103_8 rfl ⟨q2, trivial⟩ ?_
    refine zF_blk (m := []) (d := 0) (b := B103_1) (gs := []) (c' := (24, [some (21, 0), some (0, v1), some (0, v2), some (0, v3)], [(0, (-1))], (h, hm, o))) K103_1 rfl trivial ?_
    exact zF_riC (by decide +kernel) e
  · refine zF_blk (m := []) (d := 0) (b := B103_8) (gs := [¬ (r1 = 0)]) (c' := (8, [some (21, 0), some (0, v1), some (0, v2), some (0, v3)], [], (h, hm, o))) K103_8 rfl ⟨q2, trivial⟩ ?_
    obtain ⟨r2, q3, e⟩ := zB_s e
    refine zF_blk (m := []) (d := 0) (b := B103_2) (gs := []) (c' := (9, [some (21, 0), some (0, v1), some (0, v2), some (0, v3)], [(0, v3)], (h, hm, o))) K103_2 rfl trivial ?_
    refine zF_call (k := 99) (cl := 11) (n := 1) (i := .invokestatic 242) (args := [(0, v3)]) (rest := []) (g1 := (h, hm, o)) (r1 := some (0, r2)) (by decide +kernel) rfl rfl rfl (st' := [(0, r2)]) rfl (S99 (Nat.le_trans (by decide) hd) v3 h _ q3) ?_
    rcases zI_s e with ⟨q4, e⟩ | ⟨q4, e⟩
    · refine zF_blk (m := []) (d := 1) (b := B103_7) (gs := [r2 = 0]) (c' := (23, [some (21, 0), some (0, v1), some (0, v2), some (0, v3)], [], (h, hm, o))) K103_7 rfl ⟨q4, trivial⟩ ?_
      refine zF_blk (m := []) (d := 0) (b := B103_1) (gs := []) (c' := (24, [some (21, 0), some (0, v1), some (0, v2), some (0, v3)], [(0, (-1))], (h, hm, o))) K103_1 rfl trivial ?_
      exact zF_riC (by decide +kernel) e
    · refine zF_blk (m := []) (d := 0) (b := B103_7) (gs := [¬ (r2 = 0)]) (c' := (15, [some (21, 0), some (0, v1), some (0, v2), some (0, v3)], [], (h, hm, o))) K103_7 rfl ⟨q4, trivial⟩ ?_
      obtain ⟨r3, q5, e⟩ := zB_s e
      refine zF_blk (m := []) (d := 0) (b := B103_3) (gs := []) (c' := (17, [some (21, 0), some (0, v1), some (0, v2), some (0, v3)], [(0, v2), (21, 0)], (h, hm, o))) K103_3 rfl trivial ?_
      refine zF_call (k := 104) (cl := 11) (n := 2) (i := .invokevirtual 249) (args := [(21, 0), (0, v2)]) (rest := []) (g1 := (h, hm, o)) (r1 := some (0, r3)) (by decide +kernel) rfl rfl rfl (st' := [(0, r3)]) rfl (S104 (Nat.le_trans (by decide) hd) v2 h _ q5) ?_
      rcases zI_s e with ⟨q6, e⟩ | ⟨q6, e⟩
      · refine zF_blk (m := []) (d := 1) (b := B103_6) (gs := [¬ r3 = 0]) (c' := (25, [some (21, 0), some (0, v1), some (0, v2), some (0, v3)], [], (h, hm, o))) K103_6 rfl ⟨q6, trivial⟩ ?_
        obtain ⟨r4, q7, e⟩ := zB_s e
        refine zF_blk (m := []) (d := 0) (b := B103_4) (gs := []) (c' := (28, [some (21, 0), some (0, v1), some (0, v2), some (0, v3)], [(0, v3), (0, v2), (21, 0)], (h, hm, o))) K103_4 rfl trivial ?_
        refine zF_call (k := 106) (cl := 11) (n := 3) (i := .invokevirtual 252) (args := [(21, 0), (0, v2), (0, v3)]) (rest := []) (g1 := (r4, hm, o)) (r1 := none) (by decide +kernel) rfl rfl rfl (st' := []) rfl (S106 (Nat.le_trans (by decide) hd) v2 v3 h _ q7) ?_
        obtain ⟨r5, q8, e⟩ := zB_s e
        refine zF_blk (m := []) (d := 0) (b := B103_5) (gs := []) (c' := (36, [some (21, 0), some (0, v1), some (0, v2), some (0, v3)], [(0, v1), (11, 1)], (r4, hm, o))) K103_5 rfl trivial ?_
        refine zF_call (k := 101) (cl := 1) (n := 2) (i := .invokevirtual 179) (args := [(11, 1), (0, v1)]) (rest := []) (g1 := (r4, hm, o)) (r1 := some (0, r5)) (by decide +kernel) rfl rfl rfl (st' := [(0, r5)]) rfl (S101 (Nat.le_trans (by decide) hd) 1 v1 r4 _ q8) ?_
        exact zF_riC (by decide +kernel) e
      · refine zF_blk (m := []) (d := 0) (b := B103_6) (gs := [¬ (¬ r3 = 0)]) (c' := (23, [some (21, 0), some (0, v1), some (0, v2), some (0, v3)], [], (h, hm, o))) K103_6 rfl ⟨q6, trivial⟩ ?_
        refine zF_blk (m := []) (d := 0) (b := B103_1) (gs := []) (c' := (24, [some (21, 0), some (0, v1), some (0, v2), some (0, v3)], [(0, (-1))], (h, hm, o))) K103_1 rfl trivial ?_
        exact zF_riC (by decide +kernel) e
def B248_0 : List zRow := [(0, .iconst 0, 1, (0, 0, 0)), (1, .istore_n 1, 1, (0, 0, 0)), (2, .iconst 0, 1, (0, 0, 0)), (3, .istore_n 2, 1, (0, 0, 0))]
theorem K248_0 : zRk 248 B248_0 = true := by decide +kernel
def B248_1 : List zRow := [(43, .iload_n 1, 1, (0, 0, 0))]
theorem K248_1 : zRk 248 B248_1 = true := by decide +kernel
def B248_2 : List zRow := [(14, .aload_n 0, 1, (0, 0, 0)), (15, .getfield 13, 3, (12, 14, 5251442)), (18, .bipush 25, 2, (0, 0, 0)), (20, .iconst 2, 1, (0, 0, 0)), (21, .iload_n 2, 1, (0, 0, 0))]
theorem K248_2 : zRk 248 B248_2 = true := by decide +kernel
def B248_3 : List zRow := [(22, .imul, 1, (0, 0, 0))]
theorem K248_3 : zRk 248 B248_3 = true := by decide +kernel
def B248_4 : List zRow := [(31, .iload_n 1, 1, (0, 0, 0)), (32, .iconst 1, 1, (0, 0, 0)), (33, .iload_n 2, 1, (0, 0, 0)), (34, .ishl, 1, (0, 0, 0)), (35, .ior, 1, (0, 0, 0)), (36, .istore_n 1, 1, (0, 0, 0))]
theorem K248_4 : zRk 248 B248_4 = true := by decide +kernel
def B248_5 : List zRow := [(23, .iadd, 1, (0, 0, 0)), (24, .iconst 1, 1, (0, 0, 0)), (25, .iadd, 1, (0, 0, 0)), (26, .iaload, 1, (0, 0, 0)), (27, .iconst (-1), 1, (0, 0, 0)), (28, .if_icmp .eq 9, 3, (0, 0, 0))]
theorem K248_5 : zRk 248 B248_5 = true := by decide +kernel
def B248_6 : List zRow := [(4, .iload_n 2, 1, (0, 0, 0)), (5, .aload_n 0, 1, (0, 0, 0)), (6, .getfield 13, 3, (12, 14, 5251442)), (9, .iconst 3, 1, (0, 0, 0)), (10, .iaload, 1, (0, 0, 0)), (11, .if_icmp .ge 32, 3, (0, 0, 0))]
theorem K248_6 : zRk 248 B248_6 = true := by decide +kernel
def B248_7 : List zRow := [(37, .iinc 2 1, 3, (0, 0, 0)), (40, .goto (-36), 3, (0, 0, 0))]
theorem K248_7 : zRk 248 B248_7 = true := by decide +kernel
def F248_1 (k0 : Int → Int → Option Int) (h : zHM) (v1 : Int) (v2 : Int) : Option Int := k0 v1 (wadd v2 1)
set_option maxRecDepth 100000 in
theorem T248_1 {spec : zRn zH2} {hc : zHC} {o : Int → Int} {d : Nat} (hd : 0 ≤ d) (h : zHM) (k0 : Int → Int → Option Int) (hk0 : ∀ (v1 : Int) (v2 : Int) (v : Int), k0 v1 v2 = some v → zFin 0 (fun _ => 0) (zRu2 spec d) 248 (some (0, v)) (hc, h, o) (4, [some (22, 0), some (0, v1), some (0, v2)], [], (hc, h, o))) (v1 : Int) (v2 : Int) (v : Int) (e : F248_1 k0 h v1 v2 = some v) : zFin 0 (fun _ => 0) (zRu2 spec d) 248 (some (0, v)) (hc, h, o) (37, [some (22, 0), some (0, v1), some (0, v2)], [], (hc, h, o)) := by
  unfold F248_1 at e
  refine zF_blk (m := []) (d := 0) (b := B248_7) (gs := []) (c' := (4, [some (22, 0), some (0, v1), some (0, (wadd v2 1))], [], (hc, h, o))) K248_7 rfl trivial ?_
  exact hk0 v1 (wadd v2 1) _ e
def F248_0 (h : zHM) : Nat → Int → Int → Option Int
  | 0, _, _ => none
  | n + 1, v1, v2 => if (h 14 3) ≤ v2 then some v1 else zG (0 ≤ (wadd (wadd 25 (wmul 2 v2)) 1) ∧ (wadd (wadd 25 (wmul 2 v2)) 1) < 2140) (if (h 14 (wadd (wadd 25 (wmul 2 v2)) 1)) = (-1) then F248_1 (F248_0 h n) h v1 v2 else F248_1 (F248_0 h n) h (wor v1 (wshl 1 v2)) v2)
set_option maxRecDepth 100000 in
theorem T248_0 {spec : zRn zH2} {hc : zHC} {o : Int → Int} {d : Nat} (hd : 0 ≤ d) (h : zHM) : ∀ (n : Nat) (v1 : Int) (v2 : Int) (v : Int), F248_0 h n v1 v2 = some v → zFin 0 (fun _ => 0) (zRu2 spec d) 248 (some (0, v)) (hc, h, o) (4, [some (22, 0), some (0, v1), some (0, v2)], [], (hc, h, o)) := by
  intro n
  induction n with
  | zero => intro v1 v2 v e; unfold F248_0 at e; cases e
  | succ n hk0 =>
    intro v1 v2 v e
    unfold F248_0 at e
    rcases zI_s e with ⟨q1, e⟩ | ⟨q1, e⟩
    · refine zF_blk (m := []) (d := 1) (b := B248_6) (gs := [0 ≤ 3 ∧ 3 < 2140, (h 14 3) ≤ v2]) (c' := (43, [some (22, 0), some (0, v1), some (0, v2)], [], (hc, h, o))) K248_6 rfl ⟨by decide, q1, trivial⟩ ?_
      refine zF_blk (m := []) (d := 0) (b := B248_1) (gs := []) (c' := (44, [some (22, 0), some (0, v1), some (0, v2)], [(0, v1)], (hc, h, o))) K248_1 rfl trivial ?_
      obtain rfl := Option.some.inj e
      exact zF_ri (by decide +kernel)
    · refine zF_blk (m := []) (d := 0) (b := B248_6) (gs := [0 ≤ 3 ∧ 3 < 2140, ¬ ((h 14 3) ≤ v2)]) (c' := (14, [some (22, 0), some (0, v1), some (0, v2)], [], (hc, h, o))) K248_6 rfl ⟨by decide, q1, trivial⟩ ?_
      obtain ⟨q2, e⟩ := zG_s e
      refine zF_blk (m := []) (d := 0) (b := B248_2) (gs := []) (c' := (22, [some (22, 0), some (0, v1), some (0, v2)], [(0, v2), (0, 2), (0, 25), (1344370422, 0)], (hc, h, o))) K248_2 rfl trivial ?_
      refine zF_blk (m := []) (d := 0) (b := B248_3) (gs := []) (c' := (23, [some (22, 0), some (0, v1), some (0, v2)], [(0, (wmul 2 v2)), (0, 25), (1344370422, 0)], (hc, h, o))) K248_3 rfl trivial ?_
      rcases zI_s e with ⟨q3, e⟩ | ⟨q3, e⟩
      · refine zF_blk (m := []) (d := 1) (b := B248_5) (gs := [0 ≤ (wadd (wadd 25 (wmul 2 v2)) 1) ∧ (wadd (wadd 25 (wmul 2 v2)) 1) < 2140, (h 14 (wadd (wadd 25 (wmul 2 v2)) 1)) = (-1)]) (c' := (37, [some (22, 0), some (0, v1), some (0, v2)], [], (hc, h, o))) K248_5 rfl ⟨q2, q3, trivial⟩ ?_
        exact T248_1 hd h (F248_0 h n) hk0 v1 v2 _ e
      · refine zF_blk (m := []) (d := 0) (b := B248_5) (gs := [0 ≤ (wadd (wadd 25 (wmul 2 v2)) 1) ∧ (wadd (wadd 25 (wmul 2 v2)) 1) < 2140, ¬ ((h 14 (wadd (wadd 25 (wmul 2 v2)) 1)) = (-1))]) (c' := (31, [some (22, 0), some (0, v1), some (0, v2)], [], (hc, h, o))) K248_5 rfl ⟨q2, q3, trivial⟩ ?_
        refine zF_blk (m := []) (d := 0) (b := B248_4) (gs := []) (c' := (37, [some (22, 0), some (0, (wor v1 (wshl 1 v2))), some (0, v2)], [], (hc, h, o))) K248_4 rfl trivial ?_
        exact T248_1 hd h (F248_0 h n) hk0 (wor v1 (wshl 1 v2)) v2 _ e
/-- EchoValeModel.campers()I -/
def F248 (h : zHM) : Option Int := F248_0 h zFu 0 0
set_option maxRecDepth 100000 in
theorem S248 {spec : zRn zH2} {hc : zHC} {o : Int → Int} {d : Nat} (hd : 1 ≤ d) (h : zHM) (v : Int) (e : F248 h = some v) : zRu2 spec d 248 [(22, 0)] (hc, h, o) (some (0, v)) (hc, h, o) := by
  refine zF_in (D := 0) (mx := 3) (L := [some (22, 0), none, none]) (by decide +kernel) rfl rfl hd (fun d hd => ?_)
  unfold F248 at e
  refine zF_blk (m := []) (d := 0) (b := B248_0) (gs := []) (c' := (4, [some (22, 0), some (0, 0), some (0, 0)], [], (hc, h, o))) K248_0 rfl trivial ?_
  exact T248_0 hd h zFu 0 0 _ e
