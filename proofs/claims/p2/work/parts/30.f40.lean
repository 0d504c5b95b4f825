/-! Functions of the methods, by wip/gen/lift.py. -/
def B121_0 : List zRow := [(0, .iconst 0, 1, (0, 0, 0)), (1, .istore_n 3, 1, (0, 0, 0))]
theorem K121_0 : zRk 121 B121_0 = true := by decide +kernel
def B121_1 : List zRow := [(39, .iconst 1, 1, (0, 0, 0))]
theorem K121_1 : zRk 121 B121_1 = true := by decide +kernel
def B121_2 : List zRow := [(10, .aload_n 1, 1, (0, 0, 0)), (11, .aload_n 0, 1, (0, 0, 0)), (12, .getfield 15, 3, (4, 3, 5242906)), (15, .iload_n 3, 1, (0, 0, 0)), (16, .iaload, 1, (0, 0, 0)), (17, .aload_n 0, 1, (0, 0, 0)), (18, .getfield 18, 3, (4, 4, 5242906)), (21, .iload_n 3, 1, (0, 0, 0)), (22, .iaload, 1, (0, 0, 0)), (23, .iload_n 2, 1, (0, 0, 0)), (24, .isub, 1, (0, 0, 0))]
theorem K121_2 : zRk 121 B121_2 = true := by decide +kernel
def B121_3 : List zRow := [(33, .iinc 3 1, 3, (0, 0, 0)), (36, .goto (-34), 3, (0, 0, 0))]
theorem K121_3 : zRk 121 B121_3 = true := by decide +kernel
def B121_4 : List zRow := [(31, .iconst 0, 1, (0, 0, 0))]
theorem K121_4 : zRk 121 B121_4 = true := by decide +kernel
def B121_5 : List zRow := [(28, .ifCond .ne 5, 3, (0, 0, 0))]
theorem K121_5 : zRk 121 B121_5 = true := by decide +kernel
def B121_6 : List zRow := [(2, .iload_n 3, 1, (0, 0, 0)), (3, .aload_n 0, 1, (0, 0, 0)), (4, .getfield 42, 3, (4, 2, 0)), (7, .if_icmp .ge 32, 3, (0, 0, 0))]
theorem K121_6 : zRk 121 B121_6 = true := by decide +kernel
def F121_0 (h : zHC) : Nat → Int → Int → Int → Option Int
  | 0, _, _, _ => none
  | n + 1, v1, v2, v3 => if (h 258 0 0) ≤ v3 then some 1 else zG (0 ≤ v3 ∧ v3 < 6) (zG (0 ≤ v3 ∧ v3 < 6) ((F122 v1 (h 259 0 v3) (wsub (h 260 0 v3) v2) h).bind fun r1 => if ¬ r1 = 0 then (F121_0 h n) v1 v2 (wadd v3 1) else some 0))
set_option maxRecDepth 100000 in
theorem T121_0 {spec : zRn zH2} {hm : zHM} {o : Int → Int} {d : Nat} (hd : 2 ≤ d) (h : zHC) : ∀ (n : Nat) (v1 : Int) (v2 : Int) (v3 : Int) (v : Int), F121_0 h n v1 v2 v3 = some v → zFin 0 (fun _ => 0) (zRu2 spec d) 121 (some (0, v)) (h, hm, o) (2, [some (14, 0), some (19, v1), some (0, v2), some (0, v3)], [], (h, hm, o)) := by
  intro n
  induction n with
  | zero => intro v1 v2 v3 v e; unfold F121_0 at e; cases e
  | succ n hk0 =>
    intro v1 v2 v3 v e
    unfold F121_0 at e
    rcases zI_s e with ⟨q1, e⟩ | ⟨q1, e⟩
    · refine zF_blk (m := []) (d := 1) (b := B121_6) (gs := [(h 258 0 0) ≤ v3]) (c' := (39, [some (14, 0), some (19, v1), some (0, v2), some (0, v3)], [], (h, hm, o))) K121_6 rfl ⟨q1, trivial⟩ ?_
      refine zF_blk (m := []) (d := 0) (b := B121_1) (gs := []) (c' := (40, [some (14, 0), some (19, v1), some (0, v2), some (0, v3)], [(0, 1)], (h, hm, o))) K121_1 rfl trivial ?_
      obtain rfl := Option.some.inj e
      exact zF_rb (by decide +kernel) (Or.inr rfl)
    · refine zF_blk (m := []) (d := 0) (b := B121_6) (gs := [¬ ((h 258 0 0) ≤ v3)]) (c' := (10, [some (14, 0), some (19, v1), some (0, v2), some (0, v3)], [], (h, hm, o))) K121_6 rfl ⟨q1, trivial⟩ ?_
      obtain ⟨q2, e⟩ := zG_s e
      obtain ⟨q2, e⟩ := zG_s e
      obtain ⟨r1, q3, e⟩ := zB_s e
      refine zF_blk (m := []) (d := 0) (b := B121_2) (gs := [0 ≤ v3 ∧ v3 < 6, 0 ≤ v3 ∧ v3 < 6]) (c' := (25, [some (14, 0), some (19, v1), some (0, v2), some (0, v3)], [(0, (wsub (h 260 0 v3) v2)), (0, (h 259 0 v3)), (19, v1)], (h, hm, o))) K121_2 rfl ⟨q2, q2, trivial⟩ ?_
      refine zF_call (k := 122) (cl := 4) (n := 3) (i := .invokestatic 63) (args := [(19, v1), (0, (h 259 0 v3)), (0, (wsub (h 260 0 v3) v2))]) (rest := []) (g1 := (h, hm, o)) (r1 := some (0, r1)) (by decide +kernel) rfl rfl rfl (st' := [(0, r1)]) rfl (S122 (Nat.le_trans (by decide) hd) v1 (h 259 0 v3) (wsub (h 260 0 v3) v2) h _ q3) ?_
      rcases zI_s e with ⟨q4, e⟩ | ⟨q4, e⟩
      · refine zF_blk (m := []) (d := 1) (b := B121_5) (gs := [¬ r1 = 0]) (c' := (33, [some (14, 0), some (19, v1), some (0, v2), some (0, v3)], [], (h, hm, o))) K121_5 rfl ⟨q4, trivial⟩ ?_
        refine zF_blk (m := []) (d := 0) (b := B121_3) (gs := []) (c' := (2, [some (14, 0), some (19, v1), some (0, v2), some (0, (wadd v3 1))], [], (h, hm, o))) K121_3 rfl trivial ?_
        exact hk0 v1 v2 (wadd v3 1) _ e
      · refine zF_blk (m := []) (d := 0) (b := B121_5) (gs := [¬ (¬ r1 = 0)]) (c' := (31, [some (14, 0), some (19, v1), some (0, v2), some (0, v3)], [], (h, hm, o))) K121_5 rfl ⟨q4, trivial⟩ ?_
        refine zF_blk (m := []) (d := 0) (b := B121_4) (gs := []) (c' := (32, [some (14, 0), some (19, v1), some (0, v2), some (0, v3)], [(0, 0)], (h, hm, o))) K121_4 rfl trivial ?_
        obtain rfl := Option.some.inj e
        exact zF_rb (by decide +kernel) (Or.inl rfl)
/-- EchoVale$Pieces.canBegin(LEchoVale$Valley;I)Z -/
def F121 (v1 : Int) (v2 : Int) (h : zHC) : Option Int := F121_0 h zFu v1 v2 0
set_option maxRecDepth 100000 in
theorem S121 {spec : zRn zH2} {hm : zHM} {o : Int → Int} {d : Nat} (hd : 3 ≤ d) (v1 : Int) (v2 : Int) (h : zHC) (v : Int) (e : F121 v1 v2 h = some v) : zRu2 spec d 121 [(14, 0), (19, v1), (0, v2)] (h, hm, o) (some (0, v)) (h, hm, o) := by
  refine zF_in (D := 2) (mx := 4) (L := [some (14, 0), some (19, v1), some (0, v2), none]) (by decide +kernel) rfl rfl hd (fun d hd => ?_)
  unfold F121 at e
  refine zF_blk (m := []) (d := 0) (b := B121_0) (gs := []) (c' := (2, [some (14, 0), some (19, v1), some (0, v2), some (0, 0)], [], (h, hm, o))) K121_0 rfl trivial ?_
  exact T121_0 hd h zFu v1 v2 0 _ e
def B125_0 : List zRow := [(15, .iconst 0, 1, (0, 0, 0))]
theorem K125_0 : zRk 125 B125_0 = true := by decide +kernel
def B125_1 : List zRow := [(11, .iconst 1, 1, (0, 0, 0)), (12, .goto 4, 3, (0, 0, 0))]
theorem K125_1 : zRk 125 B125_1 = true := by decide +kernel
def B125_2 : List zRow := [(0, .aload_n 0, 1, (0, 0, 0)), (1, .getfield 27, 3, (1, 8, 5243002)), (4, .iload_n 1, 1, (0, 0, 0)), (5, .iaload, 1, (0, 0, 0)), (6, .ldc 87, 2, (0, 0, 1000000)), (8, .if_icmp .eq 7, 3, (0, 0, 0))]
theorem K125_2 : zRk 125 B125_2 = true := by decide +kernel
/-- EchoVale$Course.isPending(I)Z -/
def F125 (v0 : Int) (v1 : Int) (h : zHC) : Option Int := zG (0 ≤ v1 ∧ v1 < 30) (if (h 72 v0 v1) = 1000000 then some 0 else some 1)
set_option maxRecDepth 100000 in
theorem S125 {spec : zRn zH2} {hm : zHM} {o : Int → Int} {d : Nat} (hd : 1 ≤ d) (v0 : Int) (v1 : Int) (h : zHC) (v : Int) (e : F125 v0 v1 h = some v) : zRu2 spec d 125 [(11, v0), (0, v1)] (h, hm, o) (some (0, v)) (h, hm, o) := by
  refine zF_in (D := 0) (mx := 2) (L := [some (11, v0), some (0, v1)]) (by decide +kernel) rfl rfl hd (fun d hd => ?_)
  unfold F125 at e
  obtain ⟨q1, e⟩ := zG_s e
  rcases zI_s e with ⟨q2, e⟩ | ⟨q2, e⟩
  · refine zF_blk (m := []) (d := 1) (b := B125_2) (gs := [0 ≤ v1 ∧ v1 < 30, (h 72 v0 v1) = 1000000]) (c' := (15, [some (11, v0), some (0, v1)], [], (h, hm, o))) K125_2 rfl ⟨q1, q2, trivial⟩ ?_
    refine zF_blk (m := []) (d := 0) (b := B125_0) (gs := []) (c' := (16, [some (11, v0), some (0, v1)], [(0, 0)], (h, hm, o))) K125_0 rfl trivial ?_
    obtain rfl := Option.some.inj e
    exact zF_rb (by decide +kernel) (Or.inl rfl)
  · refine zF_blk (m := []) (d := 0) (b := B125_2) (gs := [0 ≤ v1 ∧ v1 < 30, ¬ ((h 72 v0 v1) = 1000000)]) (c' := (11, [some (11, v0), some (0, v1)], [], (h, hm, o))) K125_2 rfl ⟨q1, q2, trivial⟩ ?_
    refine zF_blk (m := []) (d := 0) (b := B125_1) (gs := []) (c' := (16, [some (11, v0), some (0, v1)], [(0, 1)], (h, hm, o))) K125_1 rfl trivial ?_
    obtain rfl := Option.some.inj e
    exact zF_rb (by decide +kernel) (Or.inr rfl)
def B124_0 : List zRow := [(0, .aload_n 0, 1, (0, 0, 0)), (1, .iload_n 2, 1, (0, 0, 0))]
theorem K124_0 : zRk 124 B124_0 = true := by decide +kernel
def B124_1 : List zRow := [(10, .aload_n 0, 1, (0, 0, 0)), (11, .aload_n 0, 1, (0, 0, 0)), (12, .getfield 27, 3, (1, 8, 5243002)), (15, .iload_n 2, 1, (0, 0, 0)), (16, .iaload, 1, (0, 0, 0)), (17, .putfield 30, 3, (1, 0, 0)), (20, .aload_n 0, 1, (0, 0, 0)), (21, .aload_n 1, 1, (0, 0, 0)), (22, .iload_n 2, 1, (0, 0, 0)), (23, .iconst 0, 1, (0, 0, 0))]
theorem K124_1 : zRk 124 B124_1 = true := by decide +kernel
def B124_2 : List zRow := [(27, .iconst 1, 1, (0, 0, 0))]
theorem K124_2 : zRk 124 B124_2 = true := by decide +kernel
def B124_3 : List zRow := [(8, .iconst 0, 1, (0, 0, 0))]
theorem K124_3 : zRk 124 B124_3 = true := by decide +kernel
def B124_4 : List zRow := [(5, .ifCond .ne 5, 3, (0, 0, 0))]
theorem K124_4 : zRk 124 B124_4 = true := by decide +kernel
/-- EchoVale$Course.leap(LEchoVale$Valley;I)Z -/
def F124 (v0 : Int) (v1 : Int) (v2 : Int) (h : zHC) : Option (Int × zHC) := (F125 v0 v2 h).bind fun r1 => if ¬ r1 = 0 then zG (0 ≤ v2 ∧ v2 < 30) ((F90 v0 v1 v2 0 (hset h 64 v0 0 (h 72 v0 v2))).bind fun r2 => some (1, r2)) else some (0, h)
set_option maxRecDepth 100000 in
theorem S124 {spec : zRn zH2} {hm : zHM} {o : Int → Int} {d : Nat} (hd : 5 ≤ d) (v0 : Int) (v1 : Int) (v2 : Int) (h : zHC) (v : (Int × zHC)) (e : F124 v0 v1 v2 h = some v) : zRu2 spec d 124 [(11, v0), (19, v1), (0, v2)] (h, hm, o) (some (0, v.1)) (v.2, hm, o) := by
  refine zF_in (D := 4) (mx := 3) (L := [some (11, v0), some (19, v1), some (0, v2)]) (by decide +kernel) rfl rfl hd (fun d hd => ?_)
  unfold F124 at e
  obtain ⟨r1, q1, e⟩ := zB_s e
  refine zF_blk (m := []) (d := 0) (b := B124_0) (gs := []) (c' := (2, [some (11, v0), some (19, v1), some (0, v2)], [(0, v2), (11, v0)], (h, hm, o))) K124_0 rfl trivial ?_
  refine zF_call (k := 125) (cl := 1) (n := 2) (i := .invokevirtual 108) (args := [(11, v0), (0, v2)]) (rest := []) (g1 := (h, hm, o)) (r1 := some (0, r1)) (by decide +kernel) rfl rfl rfl (st' := [(0, r1)]) rfl (S125 (Nat.le_trans (by decide) hd) v0 v2 h _ q1) ?_
  rcases zI_s e with ⟨q2, e⟩ | ⟨q2, e⟩
  · refine zF_blk (m := []) (d := 1) (b := B124_4) (gs := [¬ r1 = 0]) (c' := (10, [some (11, v0), some (19, v1), some (0, v2)], [], (h, hm, o))) K124_4 rfl ⟨q2, trivial⟩ ?_
    obtain ⟨q3, e⟩ := zG_s e
    obtain ⟨r2, q4, e⟩ := zB_s e
    refine zF_blk (m := []) (d := 0) (b := B124_1) (gs := [0 ≤ v2 ∧ v2 < 30]) (c' := (24, [some (11, v0), some (19, v1), some (0, v2)], [(0, 0), (0, v2), (19, v1), (11, v0)], ((hset h 64 v0 0 (h 72 v0 v2)), hm, o))) K124_1 rfl ⟨q3, trivial⟩ ?_
    refine zF_call (k := 90) (cl := 1) (n := 4) (i := .invokevirtual 104) (args := [(11, v0), (19, v1), (0, v2), (0, 0)]) (rest := []) (g1 := (r2, hm, o)) (r1 := none) (by decide +kernel) rfl rfl rfl (st' := []) rfl (S90 (Nat.le_trans (by decide) hd) v0 v1 v2 0 (hset h 64 v0 0 (h 72 v0 v2)) _ q4) ?_
    refine zF_blk (m := []) (d := 0) (b := B124_2) (gs := []) (c' := (28, [some (11, v0), some (19, v1), some (0, v2)], [(0, 1)], (r2, hm, o))) K124_2 rfl trivial ?_
    exact zF_rbC (by decide +kernel) (Or.inr rfl) e
  · refine zF_blk (m := []) (d := 0) (b := B124_4) (gs := [¬ (¬ r1 = 0)]) (c' := (8, [some (11, v0), some (19, v1), some (0, v2)], [], (h, hm, o))) K124_4 rfl ⟨q2, trivial⟩ ?_
    refine zF_blk (m := []) (d := 0) (b := B124_3) (gs := []) (c' := (9, [some (11, v0), some (19, v1), some (0, v2)], [(0, 0)], (h, hm, o))) K124_3 rfl trivial ?_
    exact zF_rbC (by decide +kernel) (Or.inl rfl) e
def B126_0 : List zRow := [(0, .iconst 0, 1, (0, 0, 0)), (1, .istore_n 3, 1, (0, 0, 0))]
theorem K126_0 : zRk 126 B126_0 = true := by decide +kernel
def B126_1 : List zRow := [(63, .iconst 0, 1, (0, 0, 0))]
theorem K126_1 : zRk 126 B126_1 = true := by decide +kernel
def B126_2 : List zRow := [(10, .aload_n 1, 1, (0, 0, 0)), (11, .iload_n 3, 1, (0, 0, 0)), (12, .iconst 1, 1, (0, 0, 0))]
theorem K126_2 : zRk 126 B126_2 = true := by decide +kernel
def B126_3 : List zRow := [(25, .aload_n 1, 1, (0, 0, 0)), (26, .iload_n 3, 1, (0, 0, 0)), (27, .iconst 2, 1, (0, 0, 0))]
theorem K126_3 : zRk 126 B126_3 = true := by decide +kernel
def B126_4 : List zRow := [(40, .aload_n 1, 1, (0, 0, 0)), (41, .iload_n 3, 1, (0, 0, 0)), (42, .iconst 3, 1, (0, 0, 0))]
theorem K126_4 : zRk 126 B126_4 = true := by decide +kernel
def B126_5 : List zRow := [(55, .iconst 1, 1, (0, 0, 0))]
theorem K126_5 : zRk 126 B126_5 = true := by decide +kernel
def B126_6 : List zRow := [(46, .aload_n 0, 1, (0, 0, 0)), (47, .getfield 21, 3, (4, 5, 5242906)), (50, .iload_n 2, 1, (0, 0, 0)), (51, .iaload, 1, (0, 0, 0)), (52, .if_icmp .ne 5, 3, (0, 0, 0))]
theorem K126_6 : zRk 126 B126_6 = true := by decide +kernel
def B126_7 : List zRow := [(31, .aload_n 0, 1, (0, 0, 0)), (32, .getfield 18, 3, (4, 4, 5242906)), (35, .iload_n 2, 1, (0, 0, 0)), (36, .iaload, 1, (0, 0, 0)), (37, .if_icmp .ne 20, 3, (0, 0, 0))]
theorem K126_7 : zRk 126 B126_7 = true := by decide +kernel
def B126_8 : List zRow := [(16, .aload_n 0, 1, (0, 0, 0)), (17, .getfield 15, 3, (4, 3, 5242906)), (20, .iload_n 2, 1, (0, 0, 0)), (21, .iaload, 1, (0, 0, 0)), (22, .if_icmp .ne 35, 3, (0, 0, 0))]
theorem K126_8 : zRk 126 B126_8 = true := by decide +kernel
def B126_9 : List zRow := [(2, .iload_n 3, 1, (0, 0, 0)), (3, .aload_n 1, 1, (0, 0, 0)), (4, .getfield 81, 3, (1, 2, 0)), (7, .if_icmp .ge 56, 3, (0, 0, 0))]
theorem K126_9 : zRk 126 B126_9 = true := by decide +kernel
def B126_10 : List zRow := [(57, .iinc 3 1, 3, (0, 0, 0)), (60, .goto (-58), 3, (0, 0, 0))]
theorem K126_10 : zRk 126 B126_10 = true := by decide +kernel
def F126_1 (k0 : Int → Int → Int → Option Int) (h : zHC) (v1 : Int) (v2 : Int) (v3 : Int) : Option Int := k0 v1 v2 (wadd v3 1)
set_option maxRecDepth 100000 in
theorem T126_1 {spec : zRn zH2} {hm : zHM} {o : Int → Int} {d : Nat} (hd : 1 ≤ d) (h : zHC) (k0 : Int → Int → Int → Option Int) (hk0 : ∀ (v1 : Int) (v2 : Int) (v3 : Int) (v : Int), k0 v1 v2 v3 = some v → zFin 0 (fun _ => 0) (zRu2 spec d) 126 (some (0, v)) (h, hm, o) (2, [some (14, 0), some (11, v1), some (0, v2), some (0, v3)], [], (h, hm, o))) (v1 : Int) (v2 : Int) (v3 : Int) (v : Int) (e : F126_1 k0 h v1 v2 v3 = some v) : zFin 0 (fun _ => 0) (zRu2 spec d) 126 (some (0, v)) (h, hm, o) (57, [some (14, 0), some (11, v1), some (0, v2), some (0, v3)], [], (h, hm, o)) := by
  unfold F126_1 at e
  refine zF_blk (m := []) (d := 0) (b := B126_10) (gs := []) (c' := (2, [some (14, 0), some (11, v1), some (0, v2), some (0, (wadd v3 1))], [], (h, hm, o))) K126_10 rfl trivial ?_
  exact hk0 v1 v2 (wadd v3 1) _ e
def F126_0 (h : zHC) : Nat → Int → Int → Int → Option Int
  | 0, _, _, _ => none
  | n + 1, v1, v2, v3 => if (h 66 v1 0) ≤ v3 then some 0 else (F67 v1 v3 1 h).bind fun r1 => zG (0 ≤ v2 ∧ v2 < 6) (if ¬ r1 = (h 259 0 v2) then F126_1 (F126_0 h n) h v1 v2 v3 else (F67 v1 v3 2 h).bind fun r2 => zG (0 ≤ v2 ∧ v2 < 6) (if ¬ r2 = (h 260 0 v2) then F126_1 (F126_0 h n) h v1 v2 v3 else (F67 v1 v3 3 h).bind fun r3 => zG (0 ≤ v2 ∧ v2 < 6) (if ¬ r3 = (h 261 0 v2) then F126_1 (F126_0 h n) h v1 v2 v3 else some 1)))
set_option maxRecDepth 100000 in
theorem T126_0 {spec : zRn zH2} {hm : zHM} {o : Int → Int} {d : Nat} (hd : 1 ≤ d) (h : zHC) : ∀ (n : Nat) (v1 : Int) (v2 : Int) (v3 : Int) (v : Int), F126_0 h n v1 v2 v3 = some v → zFin 0 (fun _ => 0) (zRu2 spec d) 126 (some (0, v)) (h, hm, o) (2, [some (14, 0), some (11, v1), some (0, v2), some (0, v3)], [], (h, hm, o)) := by
  intro n
  induction n with
  | zero => intro v1 v2 v3 v e; unfold F126_0 at e; cases e
  | succ n hk0 =>
    intro v1 v2 v3 v e
    unfold F126_0 at e
    rcases zI_s e with ⟨q1, e⟩ | ⟨q1, e⟩
    · refine zF_blk (m := []) (d := 1) (b := B126_9) (gs := [(h 66 v1 0) ≤ v3]) (c' := (63, [some (14, 0), some (11, v1), some (0, v2), some (0, v3)], [], (h, hm, o))) K126_9 rfl ⟨q1, trivial⟩ ?_
      refine zF_blk (m := []) (d := 0) (b := B126_1) (gs := []) (c' := (64, [some (14, 0), some (11, v1), some (0, v2), some (0, v3)], [(0, 0)], (h, hm, o))) K126_1 rfl trivial ?_
      obtain rfl := Option.some.inj e
      exact zF_rb (by decide +kernel) (Or.inl rfl)
    · refine zF_blk (m := []) (d := 0) (b := B126_9) (gs := [¬ ((h 66 v1 0) ≤ v3)]) (c' := (10, [some (14, 0), some (11, v1), some (0, v2), some (0, v3)], [], (h, hm, o))) K126_9 rfl ⟨q1, trivial⟩ ?_
      obtain ⟨r1, q2, e⟩ := zB_s e
      refine zF_blk (m := []) (d := 0) (b := B126_2) (gs := []) (c' := (13, [some (14, 0), some (11, v1), some (0, v2), some (0, v3)], [(0, 1), (0, v3), (11, v1)], (h, hm, o))) K126_2 rfl trivial ?_
      refine zF_call (k := 67) (cl := 1) (n := 3) (i := .invokevirtual 95) (args := [(11, v1), (0, v3), (0, 1)]) (rest := []) (g1 := (h, hm, o)) (r1 := some (0, r1)) (by decide +kernel) rfl rfl rfl (st' := [(0, r1)]) rfl (S67 (Nat.le_trans (by decide) hd) v1 v3 1 h _ q2) ?_
      obtain ⟨q3, e⟩ := zG_s e
      rcases zI_s e with ⟨q4, e⟩ | ⟨q4, e⟩
      · refine zF_blk (m := []) (d := 1) (b := B126_8) (gs := [0 ≤ v2 ∧ v2 < 6, ¬ r1 = (h 259 0 v2)]) (c' := (57, [some (14, 0), some (11, v1), some (0, v2), some (0, v3)], [], (h, hm, o))) K126_8 rfl ⟨q3, q4, trivial⟩ ?_
        exact T126_1 hd h (F126_0 h n) hk0 v1 v2 v3 _ e
      · refine zF_blk (m := []) (d := 0) (b := B126_8) (gs := [0 ≤ v2 ∧ v2 < 6, ¬ (¬ r1 = (h 259 0 v2))]) (c' := (25, [some (14, 0), some (11, v1), some (0, v2), some (0, v3)], [], (h, hm, o))) K126_8 rfl ⟨q3, q4, trivial⟩ ?_
        obtain ⟨r2, q5, e⟩ := zB_s e
        refine zF_blk (m := []) (d := 0) (b := B126_3) (gs := []) (c' := (28, [some (14, 0), some (11, v1), some (0, v2), some (0, v3)], [(0, 2), (0, v3), (11, v1)], (h, hm, o))) K126_3 rfl trivial ?_
        refine zF_call (k := 67) (cl := 1) (n := 3) (i := .invokevirtual 95) (args := [(11, v1), (0, v3), (0, 2)]) (rest := []) (g1 := (h, hm, o)) (r1 := some (0, r2)) (by decide +kernel) rfl rfl rfl (st' := [(0, r2)]) rfl (S67 (Nat.le_trans (by decide) hd) v1 v3 2 h _ q5) ?_
        obtain ⟨q6, e⟩ := zG_s e
        rcases zI_s e with ⟨q7, e⟩ | ⟨q7, e⟩
        · refine zF_blk (m := []) (d := 1) (b := B126_7) (gs := [0 ≤ v2 ∧ v2 < 6, ¬ r2 = (h 260 0 v2)]) (c' := (57, [some (14, 0), some (11, v1), some (0, v2), some (0, v3)], [], (h, hm, o))) K126_7 rfl ⟨q6, q7, trivial⟩ ?_
          exact T126_1 hd h (F126_0 h n) hk0 v1 v2 v3 _ e
        · refine zF_blk (m := []) (d := 0) (b := B126_7) (gs := [0 ≤ v2 ∧ v2 < 6, ¬ (¬ r2 = (h 260 0 v2))]) (c' := (40, [some (14, 0), some (11, v1), some (0, v2), some (0, v3)], [], (h, hm, o))) K126_7 rfl ⟨q6, q7, trivial⟩ ?_
          obtain ⟨r3, q8, e⟩ := zB_s e
          refine zF_blk (m := []) (d := 0) (b := B126_4) (gs := []) (c' := (43, [some (14, 0), some (11, v1), some (0, v2), some (0, v3)], [(0, 3), (0, v3), (11, v1)], (h, hm, o))) K126_4 rfl trivial ?_
          refine zF_call (k := 67) (cl := 1) (n := 3) (i := .invokevirtual 95) (args := [(11, v1), (0, v3), (0, 3)]) (rest := []) (g1 := (h, hm, o)) (r1 := some (0, r3)) (by decide +kernel) rfl rfl rfl (st' := [(0, r3)]) rfl (S67 (Nat.le_trans (by decide) hd) v1 v3 3 h _ q8) ?_
          obtain ⟨q9, e⟩ := zG_s e
          rcases zI_s e with ⟨q10, e⟩ | ⟨q10, e⟩
          · refine zF_blk (m := []) (d := 1) (b := B126_6) (gs := [0 ≤ v2 ∧ v2 < 6, ¬ r3 = (h 261 0 v2)]) (c' := (57, [some (14, 0), some (11, v1), some (0, v2), some (0, v3)], [], (h, hm, o))) K126_6 rfl ⟨q9, q10, trivial⟩ ?_
            exact T126_1 hd h (F126_0 h n) hk0 v1 v2 v3 _ e
          · refine zF_blk (m := []) (d := 0) (b := B126_6) (gs := [0 ≤ v2 ∧ v2 < 6, ¬ (¬ r3 = (h 261 0 v2))]) (c' := (55, [some (14, 0), some (11, v1), some (0, v2), some (0, v3)], [], (h, hm, o))) K126_6 rfl ⟨q9, q10, trivial⟩ ?_
            refine zF_blk (m := []) (d := 0) (b := B126_5) (gs := []) (c' := (56, [some (14, 0), some (11, v1), some (0, v2), some (0, v3)], [(0, 1)], (h, hm, o))) K126_5 rfl trivial ?_
            obtain rfl := Option.some.inj e
            exact zF_rb (by decide +kernel) (Or.inr rfl)
/-- EchoVale$Pieces.isLogged(LEchoVale$Course;I)Z -/
def F126 (v1 : Int) (v2 : Int) (h : zHC) : Option Int := F126_0 h zFu v1 v2 0
set_option maxRecDepth 100000 in
theorem S126 {spec : zRn zH2} {hm : zHM} {o : Int → Int} {d : Nat} (hd : 2 ≤ d) (v1 : Int) (v2 : Int) (h : zHC) (v : Int) (e : F126 v1 v2 h = some v) : zRu2 spec d 126 [(14, 0), (11, v1), (0, v2)] (h, hm, o) (some (0, v)) (h, hm, o) := by
  refine zF_in (D := 1) (mx := 4) (L := [some (14, 0), some (11, v1), some (0, v2), none]) (by decide +kernel) rfl rfl hd (fun d hd => ?_)
  unfold F126 at e
  refine zF_blk (m := []) (d := 0) (b := B126_0) (gs := []) (c' := (2, [some (14, 0), some (11, v1), some (0, v2), some (0, 0)], [], (h, hm, o))) K126_0 rfl trivial ?_
  exact T126_0 hd h zFu v1 v2 0 _ e
def B123_0 : List zRow := [(0, .aload_n 2, 1, (0, 0, 0)), (1, .iload_n 3, 1, (0, 0, 0)), (2, .putfield 74, 3, (1, 0, 0)), (5, .aload_n 2, 1, (0, 0, 0)), (6, .iconst 0, 1, (0, 0, 0)), (7, .putfield 78, 3, (1, 1, 0)), (10, .aload_n 2, 1, (0, 0, 0)), (11, .iconst 0, 1, (0, 0, 0)), (12, .putfield 81, 3, (1, 2, 0)), (15, .aload_n 2, 1, (0, 0, 0)), (16, .aload_n 1, 1, (0, 0, 0)), (17, .iconst 0, 1, (0, 0, 0)), (18, .iload 4, 2, (0, 0, 0)), (20, .iconst 1, 1, (0, 0, 0)), (21, .iload 5, 2, (0, 0, 0))]
theorem K123_0 : zRk 123 B123_0 = true := by decide +kernel
def B123_1 : List zRow := [(38, .iconst 0, 1, (0, 0, 0))]
theorem K123_1 : zRk 123 B123_1 = true := by decide +kernel
def B123_2 : List zRow := [(34, .iconst 1, 1, (0, 0, 0)), (35, .goto 4, 3, (0, 0, 0))]
theorem K123_2 : zRk 123 B123_2 = true := by decide +kernel
def B123_3 : List zRow := [(26, .istore 6, 2, (0, 0, 0)), (28, .iload 6, 2, (0, 0, 0)), (30, .iconst (-1), 1, (0, 0, 0)), (31, .if_icmp .eq 7, 3, (0, 0, 0))]
theorem K123_3 : zRk 123 B123_3 = true := by decide +kernel
def B123_4 : List zRow := [(39, .istore 7, 2, (0, 0, 0)), (41, .iconst 0, 1, (0, 0, 0)), (42, .istore 8, 2, (0, 0, 0))]
theorem K123_4 : zRk 123 B123_4 = true := by decide +kernel
def B123_5 : List zRow := [(56, .aload_n 2, 1, (0, 0, 0)), (57, .aload_n 1, 1, (0, 0, 0)), (58, .iload 6, 2, (0, 0, 0))]
theorem K123_5 : zRk 123 B123_5 = true := by decide +kernel
def B123_6 : List zRow := [(63, .istore 7, 2, (0, 0, 0)), (65, .iinc 8 1, 3, (0, 0, 0)), (68, .goto (-24), 3, (0, 0, 0))]
theorem K123_6 : zRk 123 B123_6 = true := by decide +kernel
def B123_7 : List zRow := [(51, .iload 7, 2, (0, 0, 0)), (53, .ifCond .eq 18, 3, (0, 0, 0))]
theorem K123_7 : zRk 123 B123_7 = true := by decide +kernel
def B123_8 : List zRow := [(44, .iload 8, 2, (0, 0, 0)), (46, .bipush 6, 2, (0, 0, 0)), (48, .if_icmp .ge 23, 3, (0, 0, 0))]
theorem K123_8 : zRk 123 B123_8 = true := by decide +kernel
def B123_9 : List zRow := [(71, .iconst 0, 1, (0, 0, 0)), (72, .istore 8, 2, (0, 0, 0))]
theorem K123_9 : zRk 123 B123_9 = true := by decide +kernel
def B123_10 : List zRow := [(101, .iconst 1, 1, (0, 0, 0))]
theorem K123_10 : zRk 123 B123_10 = true := by decide +kernel
def B123_11 : List zRow := [(83, .aload_n 0, 1, (0, 0, 0)), (84, .aload_n 2, 1, (0, 0, 0)), (85, .iload 8, 2, (0, 0, 0))]
theorem K123_11 : zRk 123 B123_11 = true := by decide +kernel
def B123_12 : List zRow := [(95, .iinc 8 1, 3, (0, 0, 0)), (98, .goto (-24), 3, (0, 0, 0))]
theorem K123_12 : zRk 123 B123_12 = true := by decide +kernel
def B123_13 : List zRow := [(93, .iconst 0, 1, (0, 0, 0))]
theorem K123_13 : zRk 123 B123_13 = true := by decide +kernel
def B123_14 : List zRow := [(90, .ifCond .ne 5, 3, (0, 0, 0))]
theorem K123_14 : zRk 123 B123_14 = true := by decide +kernel
def B123_15 : List zRow := [(74, .iload 8, 2, (0, 0, 0)), (76, .aload_n 0, 1, (0, 0, 0)), (77, .getfield 42, 3, (4, 2, 0)), (80, .if_icmp .ge 21, 3, (0, 0, 0))]
theorem K123_15 : zRk 123 B123_15 = true := by decide +kernel
def F123_3 : Nat → Int → Int → zHC → Option (Int × zHC)
  | 0, _, _, _ => none
  | n + 1, v2, v8, h => if (h 258 0 0) ≤ v8 then some (1, h) else (F126 v2 v8 h).bind fun r1 => if ¬ r1 = 0 then (F123_3 n) v2 (wadd v8 1) h else some (0, h)
set_option maxRecDepth 100000 in
theorem T123_3 {spec : zRn zH2} {hm : zHM} {o : Int → Int} {d : Nat} (hd : 5 ≤ d) : ∀ (n : Nat) (v2 : Int) (v8 : Int) (h : zHC) (v : (Int × zHC)), F123_3 n v2 v8 h = some v → zFin 0 (fun _ => 0) (zRu2 spec d) 123 (some (0, v.1)) (v.2, hm, o) (74, [some (14, 0), none, some (11, v2), none, none, none, none, none, some (0, v8)], [], (h, hm, o)) := by
  intro n
  induction n with
  | zero => intro v2 v8 h v e; unfold F123_3 at e; cases e
  | succ n hk0 =>
    intro v2 v8 h v e
    unfold F123_3 at e
    rcases zI_s e with ⟨q1, e⟩ | ⟨q1, e⟩
    · refine zF_blk (m := []) (d := 1) (b := B123_15) (gs := [(h 258 0 0) ≤ v8]) (c' := (101, [some (14, 0), none, some (11, v2), none, none, none, none, none, some (0, v8)], [], (h, hm, o))) K123_15 rfl ⟨q1, trivial⟩ ?_
      refine zF_blk (m := []) (d := 0) (b := B123_10) (gs := []) (c' := (102, [some (14, 0), none, some (11, v2), none, none, none, none, none, some (0, v8)], [(0, 1)], (h, hm, o))) K123_10 rfl trivial ?_
      exact zF_rbC (by decide +kernel) (Or.inr rfl) e
    · refine zF_blk (m := []) (d := 0) (b := B123_15) (gs := [¬ ((h 258 0 0) ≤ v8)]) (c' := (83, [some (14, 0), none, some (11, v2), none, none, none, none, none, some (0, v8)], [], (h, hm, o))) K123_15 rfl ⟨q1, trivial⟩ ?_
      obtain ⟨r1, q2, e⟩ := zB_s e
      refine zF_blk (m := []) (d := 0) (b := B123_11) (gs := []) (c' := (87, [some (14, 0), none, some (11, v2), none, none, none, none, none, some (0, v8)], [(0, v8), (11, v2), (14, 0)], (h, hm, o))) K123_11 rfl trivial ?_
      refine zF_call (k := 126) (cl := 4) (n := 3) (i := .invokevirtual 91) (args := [(14, 0), (11, v2), (0, v8)]) (rest := []) (g1 := (h, hm, o)) (r1 := some (0, r1)) (by decide +kernel) rfl rfl rfl (st' := [(0, r1)]) rfl (S126 (Nat.le_trans (by decide) hd) v2 v8 h _ q2) ?_
      rcases zI_s e with ⟨q3, e⟩ | ⟨q3, e⟩
      · refine zF_blk (m := []) (d := 1) (b := B123_14) (gs := [¬ r1 = 0]) (c' := (95, [some (14, 0), none, some (11, v2), none, none, none, none, none, some (0, v8)], [], (h, hm, o))) K123_14 rfl ⟨q3, trivial⟩ ?_
        refine zF_blk (m := []) (d := 0) (b := B123_12) (gs := []) (c' := (74, [some (14, 0), none, some (11, v2), none, none, none, none, none, some (0, (wadd v8 1))], [], (h, hm, o))) K123_12 rfl trivial ?_
        exact hk0 v2 (wadd v8 1) h _ e
      · refine zF_blk (m := []) (d := 0) (b := B123_14) (gs := [¬ (¬ r1 = 0)]) (c' := (93, [some (14, 0), none, some (11, v2), none, none, none, none, none, some (0, v8)], [], (h, hm, o))) K123_14 rfl ⟨q3, trivial⟩ ?_
        refine zF_blk (m := []) (d := 0) (b := B123_13) (gs := []) (c' := (94, [some (14, 0), none, some (11, v2), none, none, none, none, none, some (0, v8)], [(0, 0)], (h, hm, o))) K123_13 rfl trivial ?_
        exact zF_rbC (by decide +kernel) (Or.inl rfl) e
def F123_2 (v2 : Int) (h : zHC) : Option (Int × zHC) := F123_3 zFu v2 0 h
set_option maxRecDepth 100000 in
theorem T123_2 {spec : zRn zH2} {hm : zHM} {o : Int → Int} {d : Nat} (hd : 5 ≤ d) (v2 : Int) (h : zHC) (v : (Int × zHC)) (e : F123_2 v2 h = some v) : zFin 0 (fun _ => 0) (zRu2 spec d) 123 (some (0, v.1)) (v.2, hm, o) (71, [some (14, 0), none, some (11, v2), none, none, none, none, none, none], [], (h, hm, o)) := by
  unfold F123_2 at e
  refine zF_blk (m := []) (d := 0) (b := B123_9) (gs := []) (c' := (74, [some (14, 0), none, some (11, v2), none, none, none, none, none, some (0, 0)], [], (h, hm, o))) K123_9 rfl trivial ?_
  exact T123_3 hd zFu v2 0 h _ e
def F123_1 : Nat → Int → Int → Int → Int → Int → zHC → Option (Int × zHC)
  | 0, _, _, _, _, _, _ => none
  | n + 1, v1, v2, v6, v7, v8, h => if 6 ≤ v8 then F123_2 v2 h else if v7 = 0 then F123_2 v2 h else (F124 v2 v1 v6 h).bind fun r1 => (F123_1 n) v1 v2 v6 r1.1 (wadd v8 1) r1.2
set_option maxRecDepth 100000 in
theorem T123_1 {spec : zRn zH2} {hm : zHM} {o : Int → Int} {d : Nat} (hd : 5 ≤ d) : ∀ (n : Nat) (v1 : Int) (v2 : Int) (v6 : Int) (v7 : Int) (v8 : Int) (h : zHC) (v : (Int × zHC)), F123_1 n v1 v2 v6 v7 v8 h = some v → zFin 0 (fun _ => 0) (zRu2 spec d) 123 (some (0, v.1)) (v.2, hm, o) (44, [some (14, 0), some (19, v1), some (11, v2), none, none, none, some (0, v6), some (0, v7), some (0, v8)], [], (h, hm, o)) := by
  intro n
  induction n with
  | zero => intro v1 v2 v6 v7 v8 h v e; unfold F123_1 at e; cases e
  | succ n hk0 =>
    intro v1 v2 v6 v7 v8 h v e
    unfold F123_1 at e
    rcases zI_s e with ⟨q1, e⟩ | ⟨q1, e⟩
    · refine zF_blk (m := []) (d := 1) (b := B123_8) (gs := [6 ≤ v8]) (c' := (71, [some (14, 0), some (19, v1), some (11, v2), none, none, none, some (0, v6), some (0, v7), some (0, v8)], [], (h, hm, o))) K123_8 rfl ⟨q1, trivial⟩ ?_
      refine zF_blk (m := [true, false, true, false, false, false, false, false, false]) (d := 0) (b := []) (gs := []) (c' := (71, [some (14, 0), none, some (11, v2), none, none, none, none, none, none], [], (h, hm, o))) rfl rfl trivial ?_
      exact T123_2 hd v2 h _ e
    · refine zF_blk (m := []) (d := 0) (b := B123_8) (gs := [¬ (6 ≤ v8)]) (c' := (51, [some (14, 0), some (19, v1), some (11, v2), none, none, none, some (0, v6), some (0, v7), some (0, v8)], [], (h, hm, o))) K123_8 rfl ⟨q1, trivial⟩ ?_
      rcases zI_s e with ⟨q2, e⟩ | ⟨q2, e⟩
      · refine zF_blk (m := []) (d := 1) (b := B123_7) (gs := [v7 = 0]) (c' := (71, [some (14, 0), some (19, v1), some (11, v2), none, none, none, some (0, v6), some (0, v7), some (0, v8)], [], (h, hm, o))) K123_7 rfl ⟨q2, trivial⟩ ?_
        refine zF_blk (m := [true, false, true, false, false, false, false, false, false]) (d := 0) (b := []) (gs := []) (c' := (71, [some (14, 0), none, some (11, v2), none, none, none, none, none, none], [], (h, hm, o))) rfl rfl trivial ?_
        exact T123_2 hd v2 h _ e
      · refine zF_blk (m := []) (d := 0) (b := B123_7) (gs := [¬ (v7 = 0)]) (c' := (56, [some (14, 0), some (19, v1), some (11, v2), none, none, none, some (0, v6), some (0, v7), some (0, v8)], [], (h, hm, o))) K123_7 rfl ⟨q2, trivial⟩ ?_
        obtain ⟨r1, q3, e⟩ := zB_s e
        refine zF_blk (m := []) (d := 0) (b := B123_5) (gs := []) (c' := (60, [some (14, 0), some (19, v1), some (11, v2), none, none, none, some (0, v6), some (0, v7), some (0, v8)], [(0, v6), (19, v1), (11, v2)], (h, hm, o))) K123_5 rfl trivial ?_
        refine zF_call (k := 124) (cl := 1) (n := 3) (i := .invokevirtual 88) (args := [(11, v2), (19, v1), (0, v6)]) (rest := []) (g1 := (r1.2, hm, o)) (r1 := some (0, r1.1)) (by decide +kernel) rfl rfl rfl (st' := [(0, r1.1)]) rfl (S124 (Nat.le_trans (by decide) hd) v2 v1 v6 h _ q3) ?_
        refine zF_blk (m := []) (d := 0) (b := B123_6) (gs := []) (c' := (44, [some (14, 0), some (19, v1), some (11, v2), none, none, none, some (0, v6), some (0, r1.1), some (0, (wadd v8 1))], [], (r1.2, hm, o))) K123_6 rfl trivial ?_
        exact hk0 v1 v2 v6 r1.1 (wadd v8 1) r1.2 _ e
def F123_0 (v1 : Int) (v2 : Int) (v6 : Int) (s0 : Int) (h : zHC) : Option (Int × zHC) := F123_1 zFu v1 v2 v6 s0 0 h
set_option maxRecDepth 100000 in
theorem T123_0 {spec : zRn zH2} {hm : zHM} {o : Int → Int} {d : Nat} (hd : 5 ≤ d) (v1 : Int) (v2 : Int) (v6 : Int) (s0 : Int) (h : zHC) (v : (Int × zHC)) (e : F123_0 v1 v2 v6 s0 h = some v) : zFin 0 (fun _ => 0) (zRu2 spec d) 123 (some (0, v.1)) (v.2, hm, o) (39, [some (14, 0), some (19, v1), some (11, v2), none, none, none, some (0, v6), none, none], [(0, s0)], (h, hm, o)) := by
  unfold F123_0 at e
  refine zF_blk (m := []) (d := 0) (b := B123_4) (gs := []) (c' := (44, [some (14, 0), some (19, v1), some (11, v2), none, none, none, some (0, v6), some (0, s0), some (0, 0)], [], (h, hm, o))) K123_4 rfl trivial ?_
  exact T123_1 hd zFu v1 v2 v6 s0 0 h _ e
/-- EchoVale$Pieces.isWay(LEchoVale$Valley;LEchoVale$Course;III)Z -/
def F123 (v1 : Int) (v2 : Int) (v3 : Int) (v4 : Int) (v5 : Int) (h : zHC) : Option (Int × zHC) := (F79 v2 v1 0 v4 1 v5 (hset (hset (hset h 64 v2 0 v3) 65 v2 0 0) 66 v2 0 0)).bind fun r1 => if r1.1 = (-1) then F123_0 v1 v2 r1.1 0 r1.2 else F123_0 v1 v2 r1.1 1 r1.2
set_option maxRecDepth 100000 in
theorem S123 {spec : zRn zH2} {hm : zHM} {o : Int → Int} {d : Nat} (hd : 6 ≤ d) (v1 : Int) (v2 : Int) (v3 : Int) (v4 : Int) (v5 : Int) (h : zHC) (v : (Int × zHC)) (e : F123 v1 v2 v3 v4 v5 h = some v) : zRu2 spec d 123 [(14, 0), (19, v1), (11, v2), (0, v3), (0, v4), (0, v5)] (h, hm, o) (some (0, v.1)) (v.2, hm, o) := by
  refine zF_in (D := 5) (mx := 9) (L := [some (14, 0), some (19, v1), some (11, v2), some (0, v3), some (0, v4), some (0, v5), none, none, none]) (by decide +kernel) rfl rfl hd (fun d hd => ?_)
  unfold F123 at e
  obtain ⟨r1, q1, e⟩ := zB_s e
  refine zF_blk (m := []) (d := 0) (b := B123_0) (gs := []) (c' := (23, [some (14, 0), some (19, v1), some (11, v2), some (0, v3), some (0, v4), some (0, v5), none, none, none], [(0, v5), (0, 1), (0, v4), (0, 0), (19, v1), (11, v2)], ((hset (hset (hset h 64 v2 0 v3) 65 v2 0 0) 66 v2 0 0), hm, o))) K123_0 rfl trivial ?_
  refine zF_call (k := 79) (cl := 1) (n := 6) (i := .invokevirtual 84) (args := [(11, v2), (19, v1), (0, 0), (0, v4), (0, 1), (0, v5)]) (rest := []) (g1 := (r1.2, hm, o)) (r1 := some (0, r1.1)) (by decide +kernel) rfl rfl rfl (st' := [(0, r1.1)]) rfl (S79 (Nat.le_trans (by decide) hd) v2 v1 0 v4 1 v5 (hset (hset (hset h 64 v2 0 v3) 65 v2 0 0) 66 v2 0 0) _ q1) ?_
  rcases zI_s e with ⟨q2, e⟩ | ⟨q2, e⟩
  · refine zF_blk (m := []) (d := 1) (b := B123_3) (gs := [r1.1 = (-1)]) (c' := (38, [some (14, 0), some (19, v1), some (11, v2), some (0, v3), some (0, v4), some (0, v5), some (0, r1.1), none, none], [], (r1.2, hm, o))) K123_3 rfl ⟨q2, trivial⟩ ?_
    refine zF_blk (m := []) (d := 0) (b := B123_1) (gs := []) (c' := (39, [some (14, 0), some (19, v1), some (11, v2), some (0, v3), some (0, v4), some (0, v5), some (0, r1.1), none, none], [(0, 0)], (r1.2, hm, o))) K123_1 rfl trivial ?_
    refine zF_blk (m := [true, true, true, false, false, false, true, false, false]) (d := 0) (b := []) (gs := []) (c' := (39, [some (14, 0), some (19, v1), some (11, v2), none, none, none, some (0, r1.1), none, none], [(0, 0)], (r1.2, hm, o))) rfl rfl trivial ?_
    exact T123_0 hd v1 v2 r1.1 0 r1.2 _ e
  · refine zF_blk (m := []) (d := 0) (b := B123_3) (gs := [¬ (r1.1 = (-1))]) (c' := (34, [some (14, 0), some (19, v1), some (11, v2), some (0, v3), some (0, v4), some (0, v5), some (0, r1.1), none, none], [], (r1.2, hm, o))) K123_3 rfl ⟨q2, trivial⟩ ?_
    refine zF_blk (m := []) (d := 0) (b := B123_2) (gs := []) (c' := (39, [some (14, 0), some (19, v1), some (11, v2), some (0, v3), some (0, v4), some (0, v5), some (0, r1.1), none, none], [(0, 1)], (r1.2, hm, o))) K123_2 rfl trivial ?_
    refine zF_blk (m := [true, true, true, false, false, false, true, false, false]) (d := 0) (b := []) (gs := []) (c' := (39, [some (14, 0), some (19, v1), some (11, v2), none, none, none, some (0, r1.1), none, none], [(0, 1)], (r1.2, hm, o))) rfl rfl trivial ?_
    exact T123_0 hd v1 v2 r1.1 1 r1.2 _ e
