/-! Functions of the methods, by wip/gen/lift.py. -/
def B102_0 : List zRow := [(0, .aload_n 0, 1, (0, 0, 0)), (1, .iload_n 1, 1, (0, 0, 0))]
theorem K102_0 : zRk 102 B102_0 = true := by decide +kernel
def B102_1 : List zRow := [(26, .iconst (-1), 1, (0, 0, 0))]
theorem K102_1 : zRk 102 B102_1 = true := by decide +kernel
def B102_2 : List zRow := [(8, .aload_n 0, 1, (0, 0, 0)), (9, .getfield 19, 3, (11, 1, 39)), (12, .iload_n 2, 1, (0, 0, 0))]
theorem K102_2 : zRk 102 B102_2 = true := by decide +kernel
def B102_3 : List zRow := [(19, .iload_n 3, 1, (0, 0, 0))]
theorem K102_3 : zRk 102 B102_3 = true := by decide +kernel
def B102_4 : List zRow := [(28, .aload_n 0, 1, (0, 0, 0)), (29, .iload_n 1, 1, (0, 0, 0)), (30, .iload_n 2, 1, (0, 0, 0)), (31, .iload_n 3, 1, (0, 0, 0))]
theorem K102_4 : zRk 102 B102_4 = true := by decide +kernel
def B102_5 : List zRow := [(23, .ifCond .ne 5, 3, (0, 0, 0))]
theorem K102_5 : zRk 102 B102_5 = true := by decide +kernel
def B102_6 : List zRow := [(16, .ifCond .eq 10, 3, (0, 0, 0))]
theorem K102_6 : zRk 102 B102_6 = true := by decide +kernel
def B102_7 : List zRow := [(5, .ifCond .eq 21, 3, (0, 0, 0))]
theorem K102_7 : zRk 102 B102_7 = true := by decide +kernel
/-- EchoVale.camping(III)I -/
def F102 (v1 : Int) (v2 : Int) (v3 : Int) (h : zHC) : Option (Int × zHC) := (F61 v1 h).bind fun r1 => if r1 = 0 then some ((-1), h) else (F69 v2 h).bind fun r2 => if r2 = 0 then some ((-1), h) else (F99 v3).bind fun r3 => if ¬ r3 = 0 then (F100 v1 v2 v3 h).bind fun r4 => some (r4.1, r4.2) else some ((-1), h)
set_option maxRecDepth 100000 in
theorem S102 {spec : zRn zH2} {hm : zHM} {o : Int → Int} {d : Nat} (hd : 8 ≤ d) (v1 : Int) (v2 : Int) (v3 : Int) (h : zHC) (v : (Int × zHC)) (e : F102 v1 v2 v3 h = some v) : zRu2 spec d 102 [(21, 0), (0, v1), (0, v2), (0, v3)] (h, hm, o) (some (0, v.1)) (v.2, hm, o) := by
  refine zF_in (D := 7) (mx := 4) (L := [some (21, 0), some (0, v1), some (0, v2), some (0, v3)]) (by decide +kernel) rfl rfl hd (fun d hd => ?_)
  unfold F102 at e
  obtain ⟨r1, q1, e⟩ := zB_s e
  refine zF_blk (m := []) (d := 0) (b := B102_0) (gs := []) (c' := (2, [some (21, 0), some (0, v1), some (0, v2), some (0, v3)], [(0, v1), (21, 0)], (h, hm, o))) K102_0 rfl trivial ?_
  refine zF_call (k := 61) (cl := 11) (n := 2) (i := .invokevirtual 172) (args := [(21, 0), (0, v1)]) (rest := []) (g1 := (h, hm, o)) (r1 := some (0, r1)) (by decide +kernel) rfl rfl rfl (st' := [(0, r1)]) rfl (S61 (Nat.le_trans (by decide) hd) v1 h _ q1) ?_
  rcases zI_s e with ⟨q2, e⟩ | ⟨q2, e⟩
  · refine zF_blk (m := []) (d := 1) (b := B102_7) (gs := [r1 = 0]) (c' := (26, [some (21, 0), some (0, v1), some (0, v2), some (0, v3)], [], (h, hm, o))) K102_7 rfl ⟨q2, trivial⟩ ?_
    refine zF_blk (m := []) (d := 0) (b := B102_1) (gs := []) (c' := (27, [some (21, 0), some (0, v1), some (0, v2), some (0, v3)], [(0, (-1))], (h, hm, o))) K102_1 rfl trivial ?_
    exact zF_riC (by decide +kernel) e
  · refine zF_blk (m := []) (d := 0) (b := B102_7) (gs := [¬ (r1 = 0)]) (c' := (8, [some (21, 0), some (0, v1), some (0, v2), some (0, v3)], [], (h, hm, o))) K102_7 rfl ⟨q2, trivial⟩ ?_
    obtain ⟨r2, q3, e⟩ := zB_s e
    refine zF_blk (m := []) (d := 0) (b := B102_2) (gs := []) (c' := (13, [some (21, 0), some (0, v1), some (0, v2), some (0, v3)], [(0, v2), (19, 0)], (h, hm, o))) K102_2 rfl trivial ?_
    refine zF_call (k := 69) (cl := 9) (n := 2) (i := .invokevirtual 214) (args := [(19, 0), (0, v2)]) (rest := []) (g1 := (h, hm, o)) (r1 := some (0, r2)) (by decide +kernel) rfl rfl rfl (st' := [(0, r2)]) rfl (S69 (Nat.le_trans (by decide) hd) v2 h _ q3) ?_
    rcases zI_s e with ⟨q4, e⟩ | ⟨q4, e⟩
    · refine zF_blk (m := []) (d := 1) (b := B102_6) (gs := [r2 = 0]) (c' := (26, [some (21, 0), some (0, v1), some (0, v2), some (0, v3)], [], (h, hm, o))) K102_6 rfl ⟨q4, trivial⟩ ?_
      refine zF_blk (m := []) (d := 0) (b := B102_1) (gs := []) (c' := (27, [some (21, 0), some (0, v1), some (0, v2), some (0, v3)], [(0, (-1))], (h, hm, o))) K102_1 rfl trivial ?_
      exact zF_riC (by decide +kernel) e
    · refine zF_blk (m := []) (d := 0) (b := B102_6) (gs := [¬ (r2 = 0)]) (c' := (19, [some (21, 0), some (0, v1), some (0, v2), some (0, v3)], [], (h, hm, o))) K102_6 rfl ⟨q4, trivial⟩ ?_
      obtain ⟨r3, q5, e⟩ := zB_s e
      refine zF_blk (m := []) (d := 0) (b := B102_3) (gs := []) (c' := (20, [some (21, 0), some (0, v1), some (0, v2), some (0, v3)], [(0, v3)], (h, hm, o))) K102_3 rfl trivial ?_
      refine zF_call (k := 99) (cl := 11) (n := 1) (i := .invokestatic 242) (args := [(0, v3)]) (rest := []) (g1 := (h, hm, o)) (r1 := some (0, r3)) (by decide +kernel) rfl rfl rfl (st' := [(0, r3)]) rfl (S99 (Nat.le_trans (by decide) hd) v3 h _ q5) ?_
      rcases zI_s e with ⟨q6, e⟩ | ⟨q6, e⟩
      · refine zF_blk (m := []) (d := 1) (b := B102_5) (gs := [¬ r3 = 0]) (c' := (28, [some (21, 0), some (0, v1), some (0, v2), some (0, v3)], [], (h, hm, o))) K102_5 rfl ⟨q6, trivial⟩ ?_
        obtain ⟨r4, q7, e⟩ := zB_s e
        refine zF_blk (m := []) (d := 0) (b := B102_4) (gs := []) (c' := (32, [some (21, 0), some (0, v1), some (0, v2), some (0, v3)], [(0, v3), (0, v2), (0, v1), (21, 0)], (h, hm, o))) K102_4 rfl trivial ?_
        refine zF_call (k := 100) (cl := 11) (n := 4) (i := .invokevirtual 245) (args := [(21, 0), (0, v1), (0, v2), (0, v3)]) (rest := []) (g1 := (r4.2, hm, o)) (r1 := some (0, r4.1)) (by decide +kernel) rfl rfl rfl (st' := [(0, r4.1)]) rfl (S100 (Nat.le_trans (by decide) hd) v1 v2 v3 h _ q7) ?_
        exact zF_riC (by decide +kernel) e
      · refine zF_blk (m := []) (d := 0) (b := B102_5) (gs := [¬ (¬ r3 = 0)]) (c' := (26, [some (21, 0), some (0, v1), some (0, v2), some (0, v3)], [], (h, hm, o))) K102_5 rfl ⟨q6, trivial⟩ ?_
        refine zF_blk (m := []) (d := 0) (b := B102_1) (gs := []) (c' := (27, [some (21, 0), some (0, v1), some (0, v2), some (0, v3)], [(0, (-1))], (h, hm, o))) K102_1 rfl trivial ?_
        exact zF_riC (by decide +kernel) e
def B246_0 : List zRow := [(0, .aload_n 0, 1, (0, 0, 0)), (1, .iconst 0, 1, (0, 0, 0)), (2, .putfield 81, 3, (12, 0, 0)), (5, .aload_n 0, 1, (0, 0, 0)), (6, .iload_n 1, 1, (0, 0, 0))]
theorem K246_0 : zRk 246 B246_0 = true := by decide +kernel
def B246_1 : List zRow := [(38, .iconst (-1), 1, (0, 0, 0))]
theorem K246_1 : zRk 246 B246_1 = true := by decide +kernel
def B246_2 : List zRow := [(13, .aload_n 0, 1, (0, 0, 0)), (14, .iload_n 2, 1, (0, 0, 0))]
theorem K246_2 : zRk 246 B246_2 = true := by decide +kernel
def B246_3 : List zRow := [(21, .iload_n 3, 1, (0, 0, 0))]
theorem K246_3 : zRk 246 B246_3 = true := by decide +kernel
def B246_4 : List zRow := [(28, .aload_n 0, 1, (0, 0, 0)), (29, .iload_n 1, 1, (0, 0, 0)), (30, .iload_n 2, 1, (0, 0, 0)), (31, .iload_n 3, 1, (0, 0, 0))]
theorem K246_4 : zRk 246 B246_4 = true := by decide +kernel
def B246_5 : List zRow := [(35, .goto 4, 3, (0, 0, 0))]
theorem K246_5 : zRk 246 B246_5 = true := by decide +kernel
def B246_6 : List zRow := [(25, .ifCond .eq 13, 3, (0, 0, 0))]
theorem K246_6 : zRk 246 B246_6 = true := by decide +kernel
def B246_7 : List zRow := [(18, .ifCond .eq 20, 3, (0, 0, 0))]
theorem K246_7 : zRk 246 B246_7 = true := by decide +kernel
def B246_8 : List zRow := [(10, .ifCond .eq 28, 3, (0, 0, 0))]
theorem K246_8 : zRk 246 B246_8 = true := by decide +kernel
/-- EchoValeModel.camping(III)I -/
def F246 (v1 : Int) (v2 : Int) (v3 : Int) (h : zHM) : Option (Int × zHM) := (F210 v1 (mset h 0 0 0)).bind fun r1 => if r1 = 0 then some ((-1), (mset h 0 0 0)) else (F224 v2 (mset h 0 0 0)).bind fun r2 => if r2 = 0 then some ((-1), (mset h 0 0 0)) else (F242 v3).bind fun r3 => if r3 = 0 then some ((-1), (mset h 0 0 0)) else (F243 v1 v2 v3 (mset h 0 0 0)).bind fun r4 => some (r4.1, r4.2)
set_option maxRecDepth 100000 in
theorem S246 {spec : zRn zH2} {hc : zHC} {o : Int → Int} {d : Nat} (hd : 8 ≤ d) (v1 : Int) (v2 : Int) (v3 : Int) (h : zHM) (v : (Int × zHM)) (e : F246 v1 v2 v3 h = some v) : zRu2 spec d 246 [(22, 0), (0, v1), (0, v2), (0, v3)] (hc, h, o) (some (0, v.1)) (hc, v.2, o) := by
  refine zF_in (D := 7) (mx := 4) (L := [some (22, 0), some (0, v1), some (0, v2), some (0, v3)]) (by decide +kernel) rfl rfl hd (fun d hd => ?_)
  unfold F246 at e
  obtain ⟨r1, q1, e⟩ := zB_s e
  refine zF_blk (m := []) (d := 0) (b := B246_0) (gs := []) (c' := (7, [some (22, 0), some (0, v1), some (0, v2), some (0, v3)], [(0, v1), (22, 0)], (hc, (mset h 0 0 0), o))) K246_0 rfl trivial ?_
  refine zF_call (k := 210) (cl := 12) (n := 2) (i := .invokevirtual 260) (args := [(22, 0), (0, v1)]) (rest := []) (g1 := (hc, (mset h 0 0 0), o)) (r1 := some (0, r1)) (by decide +kernel) rfl rfl rfl (st' := [(0, r1)]) rfl (S210 (Nat.le_trans (by decide) hd) v1 (mset h 0 0 0) _ q1) ?_
  rcases zI_s e with ⟨q2, e⟩ | ⟨q2, e⟩
  · refine zF_blk (m := []) (d := 1) (b := B246_8) (gs := [r1 = 0]) (c' := (38, [some (22, 0), some (0, v1), some (0, v2), some (0, v3)], [], (hc, (mset h 0 0 0), o))) K246_8 rfl ⟨q2, trivial⟩ ?_
    refine zF_blk (m := []) (d := 0) (b := B246_1) (gs := []) (c' := (39, [some (22, 0), some (0, v1), some (0, v2), some (0, v3)], [(0, (-1))], (hc, (mset h 0 0 0), o))) K246_1 rfl trivial ?_
    exact zF_riM (by decide +kernel) e
  · refine zF_blk (m := []) (d := 0) (b := B246_8) (gs := [¬ (r1 = 0)]) (c' := (13, [some (22, 0), some (0, v1), some (0, v2), some (0, v3)], [], (hc, (mset h 0 0 0), o))) K246_8 rfl ⟨q2, trivial⟩ ?_
    obtain ⟨r2, q3, e⟩ := zB_s e
    refine zF_blk (m := []) (d := 0) (b := B246_2) (gs := []) (c' := (15, [some (22, 0), some (0, v1), some (0, v2), some (0, v3)], [(0, v2), (22, 0)], (hc, (mset h 0 0 0), o))) K246_2 rfl trivial ?_
    refine zF_call (k := 224) (cl := 12) (n := 2) (i := .invokevirtual 305) (args := [(22, 0), (0, v2)]) (rest := []) (g1 := (hc, (mset h 0 0 0), o)) (r1 := some (0, r2)) (by decide +kernel) rfl rfl rfl (st' := [(0, r2)]) rfl (S224 (Nat.le_trans (by decide) hd) v2 (mset h 0 0 0) _ q3) ?_
    rcases zI_s e with ⟨q4, e⟩ | ⟨q4, e⟩
    · refine zF_blk (m := []) (d := 1) (b := B246_7) (gs := [r2 = 0]) (c' := (38, [some (22, 0), some (0, v1), some (0, v2), some (0, v3)], [], (hc, (mset h 0 0 0), o))) K246_7 rfl ⟨q4, trivial⟩ ?_
      refine zF_blk (m := []) (d := 0) (b := B246_1) (gs := []) (c' := (39, [some (22, 0), some (0, v1), some (0, v2), some (0, v3)], [(0, (-1))], (hc, (mset h 0 0 0), o))) K246_1 rfl trivial ?_
      exact zF_riM (by decide +kernel) e
    · refine zF_blk (m := []) (d := 0) (b := B246_7) (gs := [¬ (r2 = 0)]) (c' := (21, [some (22, 0), some (0, v1), some (0, v2), some (0, v3)], [], (hc, (mset h 0 0 0), o))) K246_7 rfl ⟨q4, trivial⟩ ?_
      obtain ⟨r3, q5, e⟩ := zB_s e
      refine zF_blk (m := []) (d := 0) (b := B246_3) (gs := []) (c' := (22, [some (22, 0), some (0, v1), some (0, v2), some (0, v3)], [(0, v3)], (hc, (mset h 0 0 0), o))) K246_3 rfl trivial ?_
      refine zF_call (k := 242) (cl := 12) (n := 1) (i := .invokestatic 323) (args := [(0, v3)]) (rest := []) (g1 := (hc, (mset h 0 0 0), o)) (r1 := some (0, r3)) (by decide +kernel) rfl rfl rfl (st' := [(0, r3)]) rfl (S242 (Nat.le_trans (by decide) hd) v3 (mset h 0 0 0) _ q5) ?_
      rcases zI_s e with ⟨q6, e⟩ | ⟨q6, e⟩
      · refine zF_blk (m := []) (d := 1) (b := B246_6) (gs := [r3 = 0]) (c' := (38, [some (22, 0), some (0, v1), some (0, v2), some (0, v3)], [], (hc, (mset h 0 0 0), o))) K246_6 rfl ⟨q6, trivial⟩ ?_
        refine zF_blk (m := []) (d := 0) (b := B246_1) (gs := []) (c' := (39, [some (22, 0), some (0, v1), some (0, v2), some (0, v3)], [(0, (-1))], (hc, (mset h 0 0 0), o))) K246_1 rfl trivial ?_
        exact zF_riM (by decide +kernel) e
      · refine zF_blk (m := []) (d := 0) (b := B246_6) (gs := [¬ (r3 = 0)]) (c' := (28, [some (22, 0), some (0, v1), some (0, v2), some (0, v3)], [], (hc, (mset h 0 0 0), o))) K246_6 rfl ⟨q6, trivial⟩ ?_
        obtain ⟨r4, q7, e⟩ := zB_s e
        refine zF_blk (m := []) (d := 0) (b := B246_4) (gs := []) (c' := (32, [some (22, 0), some (0, v1), some (0, v2), some (0, v3)], [(0, v3), (0, v2), (0, v1), (22, 0)], (hc, (mset h 0 0 0), o))) K246_4 rfl trivial ?_
        refine zF_call (k := 243) (cl := 12) (n := 4) (i := .invokevirtual 326) (args := [(22, 0), (0, v1), (0, v2), (0, v3)]) (rest := []) (g1 := (hc, r4.2, o)) (r1 := some (0, r4.1)) (by decide +kernel) rfl rfl rfl (st' := [(0, r4.1)]) rfl (S243 (Nat.le_trans (by decide) hd) v1 v2 v3 (mset h 0 0 0) _ q7) ?_
        refine zF_blk (m := []) (d := 0) (b := B246_5) (gs := []) (c' := (39, [some (22, 0), some (0, v1), some (0, v2), some (0, v3)], [(0, r4.1)], (hc, r4.2, o))) K246_5 rfl trivial ?_
        exact zF_riM (by decide +kernel) e
def B105_0 : List zRow := [(0, .iconst 0, 1, (0, 0, 0)), (1, .istore_n 1, 1, (0, 0, 0)), (2, .iconst 0, 1, (0, 0, 0)), (3, .istore_n 2, 1, (0, 0, 0))]
theorem K105_0 : zRk 105 B105_0 = true := by decide +kernel
def B105_1 : List zRow := [(34, .iload_n 1, 1, (0, 0, 0))]
theorem K105_1 : zRk 105 B105_1 = true := by decide +kernel
def B105_2 : List zRow := [(22, .iload_n 1, 1, (0, 0, 0)), (23, .iconst 1, 1, (0, 0, 0)), (24, .iload_n 2, 1, (0, 0, 0)), (25, .ishl, 1, (0, 0, 0)), (26, .ior, 1, (0, 0, 0)), (27, .istore_n 1, 1, (0, 0, 0))]
theorem K105_2 : zRk 105 B105_2 = true := by decide +kernel
def B105_3 : List zRow := [(12, .aload_n 0, 1, (0, 0, 0)), (13, .getfield 31, 3, (9, 13, 5242906)), (16, .iload_n 2, 1, (0, 0, 0)), (17, .iaload, 1, (0, 0, 0)), (18, .iconst (-1), 1, (0, 0, 0)), (19, .if_icmp .eq 9, 3, (0, 0, 0))]
theorem K105_3 : zRk 105 B105_3 = true := by decide +kernel
def B105_4 : List zRow := [(4, .iload_n 2, 1, (0, 0, 0)), (5, .aload_n 0, 1, (0, 0, 0)), (6, .getfield 62, 3, (9, 3, 0)), (9, .if_icmp .ge 25, 3, (0, 0, 0))]
theorem K105_4 : zRk 105 B105_4 = true := by decide +kernel
def B105_5 : List zRow := [(28, .iinc 2 1, 3, (0, 0, 0)), (31, .goto (-27), 3, (0, 0, 0))]
theorem K105_5 : zRk 105 B105_5 = true := by decide +kernel
def F105_1 (k0 : Int → Int → Option Int) (h : zHC) (v1 : Int) (v2 : Int) : Option Int := k0 v1 (wadd v2 1)
set_option maxRecDepth 100000 in
theorem T105_1 {spec : zRn zH2} {hm : zHM} {o : Int → Int} {d : Nat} (hd : 0 ≤ d) (h : zHC) (k0 : Int → Int → Option Int) (hk0 : ∀ (v1 : Int) (v2 : Int) (v : Int), k0 v1 v2 = some v → zFin 0 (fun _ => 0) (zRu2 spec d) 105 (some (0, v)) (h, hm, o) (4, [some (19, 0), some (0, v1), some (0, v2)], [], (h, hm, o))) (v1 : Int) (v2 : Int) (v : Int) (e : F105_1 k0 h v1 v2 = some v) : zFin 0 (fun _ => 0) (zRu2 spec d) 105 (some (0, v)) (h, hm, o) (28, [some (19, 0), some (0, v1), some (0, v2)], [], (h, hm, o)) := by
  unfold F105_1 at e
  refine zF_blk (m := []) (d := 0) (b := B105_5) (gs := []) (c' := (4, [some (19, 0), some (0, v1), some (0, (wadd v2 1))], [], (h, hm, o))) K105_5 rfl trivial ?_
  exact hk0 v1 (wadd v2 1) _ e
def F105_0 (h : zHC) : Nat → Int → Int → Option Int
  | 0, _, _ => none
  | n + 1, v1, v2 => if (h 579 0 0) ≤ v2 then some v1 else zG (0 ≤ v2 ∧ v2 < 6) (if (h 589 0 v2) = (-1) then F105_1 (F105_0 h n) h v1 v2 else F105_1 (F105_0 h n) h (wor v1 (wshl 1 v2)) v2)
set_option maxRecDepth 100000 in
theorem T105_0 {spec : zRn zH2} {hm : zHM} {o : Int → Int} {d : Nat} (hd : 0 ≤ d) (h : zHC) : ∀ (n : Nat) (v1 : Int) (v2 : Int) (v : Int), F105_0 h n v1 v2 = some v → zFin 0 (fun _ => 0) (zRu2 spec d) 105 (some (0, v)) (h, hm, o) (4, [some (19, 0), some (0, v1), some (0, v2)], [], (h, hm, o)) := by
  intro n
  induction n with
  | zero => intro v1 v2 v e; unfold F105_0 at e; cases e
  | succ n hk0 =>
    intro v1 v2 v e
    unfold F105_0 at e
    rcases zI_s e with ⟨q1, e⟩ | ⟨q1, e⟩
    · refine zF_blk (m := []) (d := 1) (b := B105_4) (gs := [(h 579 0 0) ≤ v2]) (c' := (34, [some (19, 0), some (0, v1), some (0, v2)], [], (h, hm, o))) K105_4 rfl ⟨q1, trivial⟩ ?_
      refine zF_blk (m := []) (d := 0) (b := B105_1) (gs := []) (c' := (35, [some (19, 0), some (0, v1), some (0, v2)], [(0, v1)], (h, hm, o))) K105_1 rfl trivial ?_
      obtain rfl := Option.some.inj e
      exact zF_ri (by decide +kernel)
    · refine zF_blk (m := []) (d := 0) (b := B105_4) (gs := [¬ ((h 579 0 0) ≤ v2)]) (c' := (12, [some (19, 0), some (0, v1), some (0, v2)], [], (h, hm, o))) K105_4 rfl ⟨q1, trivial⟩ ?_
      obtain ⟨q2, e⟩ := zG_s e
      rcases zI_s e with ⟨q3, e⟩ | ⟨q3, e⟩
      · refine zF_blk (m := []) (d := 1) (b := B105_3) (gs := [0 ≤ v2 ∧ v2 < 6, (h 589 0 v2) = (-1)]) (c' := (28, [some (19, 0), some (0, v1), some (0, v2)], [], (h, hm, o))) K105_3 rfl ⟨q2, q3, trivial⟩ ?_
        exact T105_1 hd h (F105_0 h n) hk0 v1 v2 _ e
      · refine zF_blk (m := []) (d := 0) (b := B105_3) (gs := [0 ≤ v2 ∧ v2 < 6, ¬ ((h 589 0 v2) = (-1))]) (c' := (22, [some (19, 0), some (0, v1), some (0, v2)], [], (h, hm, o))) K105_3 rfl ⟨q2, q3, trivial⟩ ?_
        refine zF_blk (m := []) (d := 0) (b := B105_2) (gs := []) (c' := (28, [some (19, 0), some (0, (wor v1 (wshl 1 v2))), some (0, v2)], [], (h, hm, o))) K105_2 rfl trivial ?_
        exact T105_1 hd h (F105_0 h n) hk0 (wor v1 (wshl 1 v2)) v2 _ e
/-- EchoVale$Valley.campers()I -/
def F105 (h : zHC) : Option Int := F105_0 h zFu 0 0
set_option maxRecDepth 100000 in
theorem S105 {spec : zRn zH2} {hm : zHM} {o : Int → Int} {d : Nat} (hd : 1 ≤ d) (h : zHC) (v : Int) (e : F105 h = some v) : zRu2 spec d 105 [(19, 0)] (h, hm, o) (some (0, v)) (h, hm, o) := by
  refine zF_in (D := 0) (mx := 3) (L := [some (19, 0), none, none]) (by decide +kernel) rfl rfl hd (fun d hd => ?_)
  unfold F105 at e
  refine zF_blk (m := []) (d := 0) (b := B105_0) (gs := []) (c' := (4, [some (19, 0), some (0, 0), some (0, 0)], [], (h, hm, o))) K105_0 rfl trivial ?_
  exact T105_0 hd h zFu 0 0 _ e
def B104_0 : List zRow := [(0, .iload_n 1, 1, (0, 0, 0)), (1, .aload_n 0, 1, (0, 0, 0)), (2, .getfield 19, 3, (11, 1, 39))]
theorem K104_0 : zRk 104 B104_0 = true := by decide +kernel
def B104_1 : List zRow := [(18, .iconst 0, 1, (0, 0, 0))]
theorem K104_1 : zRk 104 B104_1 = true := by decide +kernel
def B104_2 : List zRow := [(14, .iconst 1, 1, (0, 0, 0)), (15, .goto 4, 3, (0, 0, 0))]
theorem K104_2 : zRk 104 B104_2 = true := by decide +kernel
def B104_3 : List zRow := [(8, .iconst (-1), 1, (0, 0, 0)), (9, .ixor, 1, (0, 0, 0)), (10, .iand, 1, (0, 0, 0)), (11, .ifCond .ne 7, 3, (0, 0, 0))]
theorem K104_3 : zRk 104 B104_3 = true := by decide +kernel
/-- EchoVale.areCamps(I)Z -/
def F104 (v1 : Int) (h : zHC) : Option Int := (F105 h).bind fun r1 => if ¬ (wand v1 (wxor r1 (-1))) = 0 then some 0 else some 1
set_option maxRecDepth 100000 in
theorem S104 {spec : zRn zH2} {hm : zHM} {o : Int → Int} {d : Nat} (hd : 2 ≤ d) (v1 : Int) (h : zHC) (v : Int) (e : F104 v1 h = some v) : zRu2 spec d 104 [(21, 0), (0, v1)] (h, hm, o) (some (0, v)) (h, hm, o) := by
  refine zF_in (D := 1) (mx := 2) (L := [some (21, 0), some (0, v1)]) (by decide +kernel) rfl rfl hd (fun d hd => ?_)
  unfold F104 at e
  obtain ⟨r1, q1, e⟩ := zB_s e
  refine zF_blk (m := []) (d := 0) (b := B104_0) (gs := []) (c' := (5, [some (21, 0), some (0, v1)], [(19, 0), (0, v1)], (h, hm, o))) K104_0 rfl trivial ?_
  refine zF_call (k := 105) (cl := 9) (n := 1) (i := .invokevirtual 371) (args := [(19, 0)]) (rest := [(0, v1)]) (g1 := (h, hm, o)) (r1 := some (0, r1)) (by decide +kernel) rfl rfl rfl (st' := [(0, r1), (0, v1)]) rfl (S105 (Nat.le_trans (by decide) hd)  h _ q1) ?_
  rcases zI_s e with ⟨q2, e⟩ | ⟨q2, e⟩
  · refine zF_blk (m := []) (d := 1) (b := B104_3) (gs := [¬ (wand v1 (wxor r1 (-1))) = 0]) (c' := (18, [some (21, 0), some (0, v1)], [], (h, hm, o))) K104_3 rfl ⟨q2, trivial⟩ ?_
    refine zF_blk (m := []) (d := 0) (b := B104_1) (gs := []) (c' := (19, [some (21, 0), some (0, v1)], [(0, 0)], (h, hm, o))) K104_1 rfl trivial ?_
    obtain rfl := Option.some.inj e
    exact zF_rb (by decide +kernel) (Or.inl rfl)
  · refine zF_blk (m := []) (d := 0) (b := B104_3) (gs := [¬ (¬ (wand v1 (wxor r1 (-1))) = 0)]) (c' := (14, [some (21, 0), some (0, v1)], [], (h, hm, o))) K104_3 rfl ⟨q2, trivial⟩ ?_
    refine zF_blk (m := []) (d := 0) (b := B104_2) (gs := []) (c' := (19, [some (21, 0), some (0, v1)], [(0, 1)], (h, hm, o))) K104_2 rfl trivial ?_
    obtain rfl := Option.some.inj e
    exact zF_rb (by decide +kernel) (Or.inr rfl)
def B106_0 : List zRow := [(0, .aload_n 0, 1, (0, 0, 0)), (1, .getfield 60, 3, (11, 7, 135)), (4, .aload_n 0, 1, (0, 0, 0)), (5, .getfield 56, 3, (11, 6, 7))]
theorem K106_0 : zRk 106 B106_0 = true := by decide +kernel
def B106_1 : List zRow := [(11, .iconst 0, 1, (0, 0, 0)), (12, .istore_n 3, 1, (0, 0, 0))]
theorem K106_1 : zRk 106 B106_1 = true := by decide +kernel
def B106_2 : List zRow := [(56, .aload_n 0, 1, (0, 0, 0)), (57, .getfield 60, 3, (11, 7, 135)), (60, .aload_n 0, 1, (0, 0, 0)), (61, .getfield 19, 3, (11, 1, 39)), (64, .iload_n 2, 1, (0, 0, 0))]
theorem K106_2 : zRk 106 B106_2 = true := by decide +kernel
def B106_3 : List zRow := [(68, .pop, 1, (0, 0, 0))]
theorem K106_3 : zRk 106 B106_3 = true := by decide +kernel
def B106_4 : List zRow := [(24, .iload_n 1, 1, (0, 0, 0)), (25, .iload_n 3, 1, (0, 0, 0))]
theorem K106_4 : zRk 106 B106_4 = true := by decide +kernel
def B106_5 : List zRow := [(32, .aload_n 0, 1, (0, 0, 0)), (33, .getfield 60, 3, (11, 7, 135)), (36, .getfield 177, 3, (1, 3, 5242906)), (39, .iload_n 3, 1, (0, 0, 0)), (40, .aload_n 0, 1, (0, 0, 0)), (41, .getfield 19, 3, (11, 1, 39)), (44, .getfield 188, 3, (9, 13, 5242906)), (47, .iload_n 3, 1, (0, 0, 0)), (48, .iaload, 1, (0, 0, 0)), (49, .iastore, 1, (0, 0, 0))]
theorem K106_5 : zRk 106 B106_5 = true := by decide +kernel
def B106_6 : List zRow := [(29, .ifCond .eq 21, 3, (0, 0, 0))]
theorem K106_6 : zRk 106 B106_6 = true := by decide +kernel
def B106_7 : List zRow := [(13, .iload_n 3, 1, (0, 0, 0)), (14, .aload_n 0, 1, (0, 0, 0)), (15, .getfield 19, 3, (11, 1, 39)), (18, .getfield 311, 3, (9, 3, 0)), (21, .if_icmp .ge 35, 3, (0, 0, 0))]
theorem K106_7 : zRk 106 B106_7 = true := by decide +kernel
def B106_8 : List zRow := [(50, .iinc 3 1, 3, (0, 0, 0)), (53, .goto (-40), 3, (0, 0, 0))]
theorem K106_8 : zRk 106 B106_8 = true := by decide +kernel
def F106_1 (k0 : Int → Int → Int → zHC → Option zHC) (v1 : Int) (v2 : Int) (v3 : Int) (h : zHC) : Option zHC := k0 v1 v2 (wadd v3 1) h
set_option maxRecDepth 100000 in
theorem T106_1 {spec : zRn zH2} {hm : zHM} {o : Int → Int} {d : Nat} (hd : 6 ≤ d) (k0 : Int → Int → Int → zHC → Option zHC) (hk0 : ∀ (v1 : Int) (v2 : Int) (v3 : Int) (h : zHC) (v : zHC), k0 v1 v2 v3 h = some v → zFin 0 (fun _ => 0) (zRu2 spec d) 106 none (v, hm, o) (13, [some (21, 0), some (0, v1), some (0, v2), some (0, v3)], [], (h, hm, o))) (v1 : Int) (v2 : Int) (v3 : Int) (h : zHC) (v : zHC) (e : F106_1 k0 v1 v2 v3 h = some v) : zFin 0 (fun _ => 0) (zRu2 spec d) 106 none (v, hm, o) (50, [some (21, 0), some (0, v1), some (0, v2), some (0, v3)], [], (h, hm, o)) := by
  unfold F106_1 at e
  refine zF_blk (m := []) (d := 0) (b := B106_8) (gs := []) (c' := (13, [some (21, 0), some (0, v1), some (0, v2), some (0, (wadd v3 1))], [], (h, hm, o))) K106_8 rfl trivial ?_
  exact hk0 v1 v2 (wadd v3 1) h _ e
def F106_0 : Nat → Int → Int → Int → zHC → Option zHC
  | 0, _, _, _, _ => none
  | n + 1, v1, v2, v3, h => if (h 579 0 0) ≤ v3 then (F88b v2 h).bind fun r1 => some r1.2 else (F65 v1 v3).bind fun r2 => if r2 = 0 then F106_1 (F106_0 n) v1 v2 v3 h else zG (0 ≤ v3 ∧ v3 < 6) (zG (0 ≤ v3 ∧ v3 < 6) (F106_1 (F106_0 n) v1 v2 v3 (hset h 67 1 v3 (h 589 0 v3))))
set_option maxRecDepth 100000 in
theorem T106_0 {spec : zRn zH2} {hm : zHM} {o : Int → Int} {d : Nat} (hd : 6 ≤ d) : ∀ (n : Nat) (v1 : Int) (v2 : Int) (v3 : Int) (h : zHC) (v : zHC), F106_0 n v1 v2 v3 h = some v → zFin 0 (fun _ => 0) (zRu2 spec d) 106 none (v, hm, o) (13, [some (21, 0), some (0, v1), some (0, v2), some (0, v3)], [], (h, hm, o)) := by
  intro n
  induction n with
  | zero => intro v1 v2 v3 h v e; unfold F106_0 at e; cases e
  | succ n hk0 =>
    intro v1 v2 v3 h v e
    unfold F106_0 at e
    rcases zI_s e with ⟨q1, e⟩ | ⟨q1, e⟩
    · refine zF_blk (m := []) (d := 1) (b := B106_7) (gs := [(h 579 0 0) ≤ v3]) (c' := (56, [some (21, 0), some (0, v1), some (0, v2), some (0, v3)], [], (h, hm, o))) K106_7 rfl ⟨q1, trivial⟩ ?_
      obtain ⟨r1, q2, e⟩ := zB_s e
      refine zF_blk (m := []) (d := 0) (b := B106_2) (gs := []) (c' := (65, [some (21, 0), some (0, v1), some (0, v2), some (0, v3)], [(0, v2), (19, 0), (11, 1)], (h, hm, o))) K106_2 rfl trivial ?_
      refine zF_call (k := 88) (cl := 1) (n := 3) (i := .invokevirtual 231) (args := [(11, 1), (19, 0), (0, v2)]) (rest := []) (g1 := (r1.2, hm, o)) (r1 := some (0, r1.1)) (by decide +kernel) rfl rfl rfl (st' := [(0, r1.1)]) rfl (S88b (Nat.le_trans (by decide) hd) v2 h _ q2) ?_
      refine zF_blk (m := []) (d := 0) (b := B106_3) (gs := []) (c' := (69, [some (21, 0), some (0, v1), some (0, v2), some (0, v3)], [], (r1.2, hm, o))) K106_3 rfl trivial ?_
      obtain rfl := Option.some.inj e
      exact zF_rv (by decide +kernel)
    · refine zF_blk (m := []) (d := 0) (b := B106_7) (gs := [¬ ((h 579 0 0) ≤ v3)]) (c' := (24, [some (21, 0), some (0, v1), some (0, v2), some (0, v3)], [], (h, hm, o))) K106_7 rfl ⟨q1, trivial⟩ ?_
      obtain ⟨r2, q3, e⟩ := zB_s e
      refine zF_blk (m := []) (d := 0) (b := B106_4) (gs := []) (c' := (26, [some (21, 0), some (0, v1), some (0, v2), some (0, v3)], [(0, v3), (0, v1)], (h, hm, o))) K106_4 rfl trivial ?_
      refine zF_call (k := 65) (cl := 11) (n := 2) (i := .invokestatic 272) (args := [(0, v1), (0, v3)]) (rest := []) (g1 := (h, hm, o)) (r1 := some (0, r2)) (by decide +kernel) rfl rfl rfl (st' := [(0, r2)]) rfl (S65 (Nat.le_trans (by decide) hd) v1 v3 h _ q3) ?_
      rcases zI_s e with ⟨q4, e⟩ | ⟨q4, e⟩
      · refine zF_blk (m := []) (d := 1) (b := B106_6) (gs := [r2 = 0]) (c' := (50, [some (21, 0), some (0, v1), some (0, v2), some (0, v3)], [], (h, hm, o))) K106_6 rfl ⟨q4, trivial⟩ ?_
        exact T106_1 hd (F106_0 n) hk0 v1 v2 v3 h _ e
      · refine zF_blk (m := []) (d := 0) (b := B106_6) (gs := [¬ (r2 = 0)]) (c' := (32, [some (21, 0), some (0, v1), some (0, v2), some (0, v3)], [], (h, hm, o))) K106_6 rfl ⟨q4, trivial⟩ ?_
        obtain ⟨q5, e⟩ := zG_s e
        obtain ⟨q5, e⟩ := zG_s e
        refine zF_blk (m := []) (d := 0) (b := B106_5) (gs := [0 ≤ v3 ∧ v3 < 6, 0 ≤ v3 ∧ v3 < 6]) (c' := (50, [some (21, 0), some (0, v1), some (0, v2), some (0, v3)], [], ((hset h 67 1 v3 (h 589 0 v3)), hm, o))) K106_5 rfl ⟨q5, q5, trivial⟩ ?_
        exact T106_1 hd (F106_0 n) hk0 v1 v2 v3 (hset h 67 1 v3 (h 589 0 v3)) _ e
/-- EchoVale.passByCamps(II)V -/
def F106 (v1 : Int) (v2 : Int) (h : zHC) : Option zHC := (F71c h).bind fun r1 => F106_0 zFu v1 v2 0 r1
set_option maxRecDepth 100000 in
theorem S106 {spec : zRn zH2} {hm : zHM} {o : Int → Int} {d : Nat} (hd : 7 ≤ d) (v1 : Int) (v2 : Int) (h : zHC) (v : zHC) (e : F106 v1 v2 h = some v) : zRu2 spec d 106 [(21, 0), (0, v1), (0, v2)] (h, hm, o) none (v, hm, o) := by
  refine zF_in (D := 6) (mx := 4) (L := [some (21, 0), some (0, v1), some (0, v2), none]) (by decide +kernel) rfl rfl hd (fun d hd => ?_)
  unfold F106 at e
  obtain ⟨r1, q1, e⟩ := zB_s e
  refine zF_blk (m := []) (d := 0) (b := B106_0) (gs := []) (c' := (8, [some (21, 0), some (0, v1), some (0, v2), none], [(11, 0), (11, 1)], (h, hm, o))) K106_0 rfl trivial ?_
  refine zF_call (k := 71) (cl := 1) (n := 2) (i := .invokevirtual 266) (args := [(11, 1), (11, 0)]) (rest := []) (g1 := (r1, hm, o)) (r1 := none) (by decide +kernel) rfl rfl rfl (st' := []) rfl (S71c (Nat.le_trans (by decide) hd)  h _ q1) ?_
  refine zF_blk (m := []) (d := 0) (b := B106_1) (gs := []) (c' := (13, [some (21, 0), some (0, v1), some (0, v2), some (0, 0)], [], (r1, hm, o))) K106_1 rfl trivial ?_
  exact T106_0 hd zFu v1 v2 0 r1 _ e
def B103_0 : List zRow := [(0, .aload_n 0, 1, (0, 0, 0)), (1, .iload_n 1, 1, (0, 0, 0))]
theorem K103_0 : zRk 103 B103_0 = true := by decide +kernel
def B103_1 : List zRow := [(23, .iconst (-1), 1, (0, 0, 0))]
theorem K103_1 : zRk 103 B103_1 = true := by decide +kernel
def B103_2 : List zRow := [(8, .iload_n 3, 1, (0, 0, 0))]
theorem K103_2 : zRk 103 B103_2 = true := by decide +kernel
def B103_3 : List zRow := [(15, .aload_n 0, 1, (0, 0, 0)), (16, .iload_n 2, 1, (0, 0, 0))]
theorem K103_3 : zRk 103 B103_3 = true := by decide +kernel
def B103_4 : List zRow := [(25, .aload_n 0, 1, (0, 0, 0)), (26, .iload_n 2, 1, (0, 0, 0)), (27, .iload_n 3, 1, (0, 0, 0))]
theorem K103_4 : zRk 103 B103_4 = true := by decide +kernel
def B103_5 : List zRow := [(31, .aload_n 0, 1, (0, 0, 0)), (32, .getfield 60, 3, (11, 7, 135)), (35, .iload_n 1, 1, (0, 0, 0))]
theorem K103_5 : zRk 103 B103_5 = true := by decide +kernel
def B103_6 : List zRow := [(20, .ifCond .ne 5, 3, (0, 0, 0))]
theorem K103_6 : zRk 103 B103_6 = true := by decide +kernel
def B103_7 : List zRow := [(12, .ifCond .eq 11, 3, (0, 0, 0))]
theorem K103_7 : zRk 103 B103_7 = true := by decide +kernel
def B103_8 : List zRow := [(5, .ifCond .eq 18, 3, (0, 0, 0))]
theorem K103_8 : zRk 103 B103_8 = true := by decide +kernel
/-- EchoVale.has(III)I -/
def F103 (v1 : Int) (v2 : Int) (v3 : Int) (h : zHC) : Option (Int × zHC) := (F61 v1 h).bind fun r1 => if r1 = 0 then some ((-1), h) else (F99 v3).bind fun r2 => if r2 = 0 then some ((-1), h) else (F104 v2 h).bind fun r3 => if ¬ r3 = 0 then (F106 v2 v3 h).bind fun r4 => (F101 v1 r4).bind fun r5 => some (r5, r4) else some ((-1), h)
set_option maxRecDepth 100000 in
theorem S103 {spec : zRn zH2} {hm : zHM} {o : Int → Int} {d : Nat} (hd : 8 ≤ d) (v1 : Int) (v2 : Int) (v3 : Int) (h : zHC) (v : (Int × zHC)) (e : F103 v1 v2 v3 h = some v) : zRu2 spec d 103 [(21, 0), (0, v1), (0, v2), (0, v3)] (h, hm, o) (some (0, v.1)) (v.2, hm, o) := by
  refine zF_in (D := 7) (mx := 4) (L := [some (21, 0), some (0, v1), some (0, v2), some (0, v3)]) (by decide +kernel) rfl rfl hd (fun d hd => ?_)
  unfold F103 at e
  obtain ⟨r1, q1, e⟩ := zB_s e
  refine zF_blk (m := []) (d := 0) (b := B103_0) (gs := []) (c' := (2, [some (21, 0), some (0, v1), some (0, v2), some (0, v3)], [(0, v1), (21, 0)], (h, hm, o))) K103_0 rfl trivial ?_
  refine zF_call (k := 61) (cl := 11) (n := 2) (i := .invokevirtual 172) (args := [(21, 0), (0, v1)]) (rest := []) (g1 := (h, hm, o)) (r1 := some (0, r1)) (by decide +kernel) rfl rfl rfl (st' := [(0, r1)]) rfl (S61 (Nat.le_trans (by decide) hd) v1 h _ q1) ?_
  rcases zI_s e with ⟨q2, e⟩ | ⟨q2, e⟩
  · refine zF_blk (m := []) (d := 1) (b := B103_8) (gs := [r1 = 0]) (c' := (23, [some (21, 0), some (0, v1), some (0, v2), some (0, v3)], [], (h, hm, o))) K103_8 rfl ⟨q2, trivial⟩ ?_
    refine zF_blk (m := []) (d := 0) (b := B103_1) (gs := []) (c' := (24, [some (21, 0), some (0, v1), some (0, v2), some (0, v3)], [(0, (-1))], (h, hm, o))) K103_1 rfl trivial ?_
    exact zF_riC (by decide +kernel) e
  · refine zF_blk (m := []) (d := 0) (b := B103_8) (gs := [¬ (r1 = 0)]) (c' := (8, [some (21, 0), some (0, v1), some (0, v2), some (0, v3)], [], (h, hm, o))) K103_8 rfl ⟨q2, trivial⟩ ?_
    obtain ⟨r2, q3, e⟩ := zB_s e
    refine zF_blk (m := []) (d := 0) (b := B103_2) (gs := []) (c' := (9, [some (21, 0), some (0, v1), some (0, v2), some (0, v3)], [(0, v3)], (h, hm, o))) K103_2 rfl trivial ?_
    refine zF_call (k := 99) (cl := 11) (n := 1) (i := .invokestatic 242) (args := [(0, v3)]) (rest := []) (g1 := (h, hm, o)) (r1 := some (0, r2)) (by decide +kernel) rfl rfl rfl (st' := [(0, r2)]) rfl (S99 (Nat.le_trans (by decide) hd) v3 h _ q3) ?_
    rcases zI_s e with ⟨q4, e⟩ | ⟨q4, e⟩
    · refine zF_blk (m := []) (d := 1) (b := B103_7) (gs := [r2 = 0]) (c' := (23, [some (21, 0), some (0, v1), some (0, v2), some (0, v3)], [], (h, hm, o))) K103_7 rfl ⟨q4, trivial⟩ ?_
      refine zF_blk (m := []) (d := 0) (b := B103_1) (gs := []) (c' := (24, [some (21, 0), some (0, v1), some (0, v2), some (0, v3)], [(0, (-1))], (h, hm, o))) K103_1 rfl trivial ?_
      exact zF_riC (by decide +kernel) e
    · refine zF_blk (m := []) (d := 0) (b := B103_7) (gs := [¬ (r2 = 0)]) (c' := (15, [some (21, 0), some (0, v1), some (0, v2), some (0, v3)], [], (h, hm, o))) K103_7 rfl ⟨q4, trivial⟩ ?_
      obtain ⟨r3, q5, e⟩ := zB_s e
      refine zF_blk (m := []) (d := 0) (b := B103_3) (gs := []) (c' := (17, [some (21, 0), some (0, v1), some (0, v2), some (0, v3)], [(0, v2), (21, 0)], (h, hm, o))) K103_3 rfl trivial ?_
      refine zF_call (k := 104) (cl := 11) (n := 2) (i := .invokevirtual 249) (args := [(21, 0), (0, v2)]) (rest := []) (g1 := (h, hm, o)) (r1 := some (0, r3)) (by decide +kernel) rfl rfl rfl (st' := [(0, r3)]) rfl (S104 (Nat.le_trans (by decide) hd) v2 h _ q5) ?_
      rcases zI_s e with ⟨q6, e⟩ | ⟨q6, e⟩
      · refine zF_blk (m := []) (d := 1) (b := B103_6) (gs := [¬ r3 = 0]) (c' := (25, [some (21, 0), some (0, v1), some (0, v2), some (0, v3)], [], (h, hm, o))) K103_6 rfl ⟨q6, trivial⟩ ?_
        obtain ⟨r4, q7, e⟩ := zB_s e
        refine zF_blk (m := []) (d := 0) (b := B103_4) (gs := []) (c' := (28, [some (21, 0), some (0, v1), some (0, v2), some (0, v3)], [(0, v3), (0, v2), (21, 0)], (h, hm, o))) K103_4 rfl trivial ?_
        refine zF_call (k := 106) (cl := 11) (n := 3) (i := .invokevirtual 252) (args := [(21, 0), (0, v2), (0, v3)]) (rest := []) (g1 := (r4, hm, o)) (r1 := none) (by decide +kernel) rfl rfl rfl (st' := []) rfl (S106 (Nat.le_trans (by decide) hd) v2 v3 h _ q7) ?_
        obtain ⟨r5, q8, e⟩ := zB_s e
        refine zF_blk (m := []) (d := 0) (b := B103_5) (gs := []) (c' := (36, [some (21, 0), some (0, v1), some (0, v2), some (0, v3)], [(0, v1), (11, 1)], (r4, hm, o))) K103_5 rfl trivial ?_
        refine zF_call (k := 101) (cl := 1) (n := 2) (i := .invokevirtual 179) (args := [(11, 1), (0, v1)]) (rest := []) (g1 := (r4, hm, o)) (r1 := some (0, r5)) (by decide +kernel) rfl rfl rfl (st' := [(0, r5)]) rfl (S101 (Nat.le_trans (by decide) hd) v1 r4 _ q8) ?_
        exact zF_riC (by decide +kernel) e
      · refine zF_blk (m := []) (d := 0) (b := B103_6) (gs := [¬ (¬ r3 = 0)]) (c' := (23, [some (21, 0), some (0, v1), some (0, v2), some (0, v3)], [], (h, hm, o))) K103_6 rfl ⟨q6, trivial⟩ ?_
        refine zF_blk (m := []) (d := 0) (b := B103_1) (gs := []) (c' := (24, [some (21, 0), some (0, v1), some (0, v2), some (0, v3)], [(0, (-1))], (h, hm, o))) K103_1 rfl trivial ?_
        exact zF_riC (by decide +kernel) e
def B248_0 : List zRow := [(0, .iconst 0, 1, (0, 0, 0)), (1, .istore_n 1, 1, (0, 0, 0)), (2, .iconst 0, 1, (0, 0, 0)), (3, .istore_n 2, 1, (0, 0, 0))]
theorem K248_0 : zRk 248 B248_0 = true := by decide +kernel
def B248_1 : List zRow := [(43, .iload_n 1, 1, (0, 0, 0))]
theorem K248_1 : zRk 248 B248_1 = true := by decide +kernel
def B248_2 : List zRow := [(14, .aload_n 0, 1, (0, 0, 0)), (15, .getfield 13, 3, (12, 14, 5251442)), (18, .bipush 25, 2, (0, 0, 0)), (20, .iconst 2, 1, (0, 0, 0)), (21, .iload_n 2, 1, (0, 0, 0))]
theorem K248_2 : zRk 248 B248_2 = true := by decide +kernel
def B248_3 : List zRow := [(22, .imul, 1, (0, 0, 0))]
theorem K248_3 : zRk 248 B248_3 = true := by decide +kernel
def B248_4 : List zRow := [(31, .iload_n 1, 1, (0, 0, 0)), (32, .iconst 1, 1, (0, 0, 0)), (33, .iload_n 2, 1, (0, 0, 0)), (34, .ishl, 1, (0, 0, 0)), (35, .ior, 1, (0, 0, 0)), (36, .istore_n 1, 1, (0, 0, 0))]
theorem K248_4 : zRk 248 B248_4 = true := by decide +kernel
def B248_5 : List zRow := [(23, .iadd, 1, (0, 0, 0)), (24, .iconst 1, 1, (0, 0, 0)), (25, .iadd, 1, (0, 0, 0)), (26, .iaload, 1, (0, 0, 0)), (27, .iconst (-1), 1, (0, 0, 0)), (28, .if_icmp .eq 9, 3, (0, 0, 0))]
theorem K248_5 : zRk 248 B248_5 = true := by decide +kernel
def B248_6 : List zRow := [(4, .iload_n 2, 1, (0, 0, 0)), (5, .aload_n 0, 1, (0, 0, 0)), (6, .getfield 13, 3, (12, 14, 5251442)), (9, .iconst 3, 1, (0, 0, 0)), (10, .iaload, 1, (0, 0, 0)), (11, .if_icmp .ge 32, 3, (0, 0, 0))]
theorem K248_6 : zRk 248 B248_6 = true := by decide +kernel
def B248_7 : List zRow := [(37, .iinc 2 1, 3, (0, 0, 0)), (40, .goto (-36), 3, (0, 0, 0))]
theorem K248_7 : zRk 248 B248_7 = true := by decide +kernel
def F248_1 (k0 : Int → Int → Option Int) (h : zHM) (v1 : Int) (v2 : Int) : Option Int := k0 v1 (wadd v2 1)
set_option maxRecDepth 100000 in
theorem T248_1 {spec : zRn zH2} {hc : zHC} {o : Int → Int} {d : Nat} (hd : 0 ≤ d) (h : zHM) (k0 : Int → Int → Option Int) (hk0 : ∀ (v1 : Int) (v2 : Int) (v : Int), k0 v1 v2 = some v → zFin 0 (fun _ => 0) (zRu2 spec d) 248 (some (0, v)) (hc, h, o) (4, [some (22, 0), some (0, v1), some (0, v2)], [], (hc, h, o))) (v1 : Int) (v2 : Int) (v : Int) (e : F248_1 k0 h v1 v2 = some v) : zFin 0 (fun _ => 0) (zRu2 spec d) 248 (some (0, v)) (hc, h, o) (37, [some (22, 0), some (0, v1), some (0, v2)], [], (hc, h, o)) := by
  unfold F248_1 at e
  refine zF_blk (m := []) (d := 0) (b := B248_7) (gs := []) (c' := (4, [some (22, 0), some (0, v1), some (0, (wadd v2 1))], [], (hc, h, o))) K248_7 rfl trivial ?_
  exact hk0 v1 (wadd v2 1) _ e
def F248_0 (h : zHM) : Nat → Int → Int → Option Int
  | 0, _, _ => none
  | n + 1, v1, v2 => if (h 14 3) ≤ v2 then some v1 else zG (0 ≤ (wadd (wadd 25 (wmul 2 v2)) 1) ∧ (wadd (wadd 25 (wmul 2 v2)) 1) < 2140) (if (h 14 (wadd (wadd 25 (wmul 2 v2)) 1)) = (-1) then F248_1 (F248_0 h n) h v1 v2 else F248_1 (F248_0 h n) h (wor v1 (wshl 1 v2)) v2)
set_option maxRecDepth 100000 in
theorem T248_0 {spec : zRn zH2} {hc : zHC} {o : Int → Int} {d : Nat} (hd : 0 ≤ d) (h : zHM) : ∀ (n : Nat) (v1 : Int) (v2 : Int) (v : Int), F248_0 h n v1 v2 = some v → zFin 0 (fun _ => 0) (zRu2 spec d) 248 (some (0, v)) (hc, h, o) (4, [some (22, 0), some (0, v1), some (0, v2)], [], (hc, h, o)) := by
  intro n
  induction n with
  | zero => intro v1 v2 v e; unfold F248_0 at e; cases e
  | succ n hk0 =>
    intro v1 v2 v e
    unfold F248_0 at e
    rcases zI_s e with ⟨q1, e⟩ | ⟨q1, e⟩
    · refine zF_blk (m := []) (d := 1) (b := B248_6) (gs := [0 ≤ 3 ∧ 3 < 2140, (h 14 3) ≤ v2]) (c' := (43, [some (22, 0), some (0, v1), some (0, v2)], [], (hc, h, o))) K248_6 rfl ⟨by decide, q1, trivial⟩ ?_
      refine zF_blk (m := []) (d := 0) (b := B248_1) (gs := []) (c' := (44, [some (22, 0), some (0, v1), some (0, v2)], [(0, v1)], (hc, h, o))) K248_1 rfl trivial ?_
      obtain rfl := Option.some.inj e
      exact zF_ri (by decide +kernel)
    · refine zF_blk (m := []) (d := 0) (b := B248_6) (gs := [0 ≤ 3 ∧ 3 < 2140, ¬ ((h 14 3) ≤ v2)]) (c' := (14, [some (22, 0), some (0, v1), some (0, v2)], [], (hc, h, o))) K248_6 rfl ⟨by decide, q1, trivial⟩ ?_
      obtain ⟨q2, e⟩ := zG_s e
      refine zF_blk (m := []) (d := 0) (b := B248_2) (gs := []) (c' := (22, [some (22, 0), some (0, v1), some (0, v2)], [(0, v2), (0, 2), (0, 25), (1344370422, 0)], (hc, h, o))) K248_2 rfl trivial ?_
      refine zF_blk (m := []) (d := 0) (b := B248_3) (gs := []) (c' := (23, [some (22, 0), some (0, v1), some (0, v2)], [(0, (wmul 2 v2)), (0, 25), (1344370422, 0)], (hc, h, o))) K248_3 rfl trivial ?_
      rcases zI_s e with ⟨q3, e⟩ | ⟨q3, e⟩
      · refine zF_blk (m := []) (d := 1) (b := B248_5) (gs := [0 ≤ (wadd (wadd 25 (wmul 2 v2)) 1) ∧ (wadd (wadd 25 (wmul 2 v2)) 1) < 2140, (h 14 (wadd (wadd 25 (wmul 2 v2)) 1)) = (-1)]) (c' := (37, [some (22, 0), some (0, v1), some (0, v2)], [], (hc, h, o))) K248_5 rfl ⟨q2, q3, trivial⟩ ?_
        exact T248_1 hd h (F248_0 h n) hk0 v1 v2 _ e
      · refine zF_blk (m := []) (d := 0) (b := B248_5) (gs := [0 ≤ (wadd (wadd 25 (wmul 2 v2)) 1) ∧ (wadd (wadd 25 (wmul 2 v2)) 1) < 2140, ¬ ((h 14 (wadd (wadd 25 (wmul 2 v2)) 1)) = (-1))]) (c' := (31, [some (22, 0), some (0, v1), some (0, v2)], [], (hc, h, o))) K248_5 rfl ⟨q2, q3, trivial⟩ ?_
        refine zF_blk (m := []) (d := 0) (b := B248_4) (gs := []) (c' := (37, [some (22, 0), some (0, (wor v1 (wshl 1 v2))), some (0, v2)], [], (hc, h, o))) K248_4 rfl trivial ?_
        exact T248_1 hd h (F248_0 h n) hk0 (wor v1 (wshl 1 v2)) v2 _ e
/-- EchoValeModel.campers()I -/
def F248 (h : zHM) : Option Int := F248_0 h zFu 0 0
set_option maxRecDepth 100000 in
theorem S248 {spec : zRn zH2} {hc : zHC} {o : Int → Int} {d : Nat} (hd : 1 ≤ d) (h : zHM) (v : Int) (e : F248 h = some v) : zRu2 spec d 248 [(22, 0)] (hc, h, o) (some (0, v)) (hc, h, o) := by
  refine zF_in (D := 0) (mx := 3) (L := [some (22, 0), none, none]) (by decide +kernel) rfl rfl hd (fun d hd => ?_)
  unfold F248 at e
  refine zF_blk (m := []) (d := 0) (b := B248_0) (gs := []) (c' := (4, [some (22, 0), some (0, 0), some (0, 0)], [], (hc, h, o))) K248_0 rfl trivial ?_
  exact T248_0 hd h zFu 0 0 _ e
def B249_0 : List zRow := [(0, .aload_n 0, 1, (0, 0, 0))]
theorem K249_0 : zRk 249 B249_0 = true := by decide +kernel
def B249_1 : List zRow := [(4, .iconst 0, 1, (0, 0, 0)), (5, .istore_n 3, 1, (0, 0, 0))]
theorem K249_1 : zRk 249 B249_1 = true := by decide +kernel
def B249_2 : List zRow := [(53, .aload_n 0, 1, (0, 0, 0)), (54, .iload_n 2, 1, (0, 0, 0))]
theorem K249_2 : zRk 249 B249_2 = true := by decide +kernel
def B249_3 : List zRow := [(58, .pop, 1, (0, 0, 0)), (59, .iconst 0, 1, (0, 0, 0)), (60, .istore_n 3, 1, (0, 0, 0))]
theorem K249_3 : zRk 249 B249_3 = true := by decide +kernel
def B249_4 : List zRow := [(16, .iload_n 1, 1, (0, 0, 0)), (17, .iload_n 3, 1, (0, 0, 0))]
theorem K249_4 : zRk 249 B249_4 = true := by decide +kernel
def B249_5 : List zRow := [(24, .aload_n 0, 1, (0, 0, 0)), (25, .getfield 13, 3, (12, 14, 5251442)), (28, .sipush 210, 3, (0, 0, 0)), (31, .iload_n 3, 1, (0, 0, 0))]
theorem K249_5 : zRk 249 B249_5 = true := by decide +kernel
def B249_6 : List zRow := [(32, .iadd, 1, (0, 0, 0)), (33, .aload_n 0, 1, (0, 0, 0)), (34, .getfield 13, 3, (12, 14, 5251442)), (37, .bipush 25, 2, (0, 0, 0)), (39, .iconst 2, 1, (0, 0, 0)), (40, .iload_n 3, 1, (0, 0, 0))]
theorem K249_6 : zRk 249 B249_6 = true := by decide +kernel
def B249_7 : List zRow := [(41, .imul, 1, (0, 0, 0))]
theorem K249_7 : zRk 249 B249_7 = true := by decide +kernel
def B249_8 : List zRow := [(42, .iadd, 1, (0, 0, 0)), (43, .iconst 1, 1, (0, 0, 0)), (44, .iadd, 1, (0, 0, 0)), (45, .iaload, 1, (0, 0, 0)), (46, .iastore, 1, (0, 0, 0))]
theorem K249_8 : zRk 249 B249_8 = true := by decide +kernel
def B249_9 : List zRow := [(21, .ifCond .eq 26, 3, (0, 0, 0))]
theorem K249_9 : zRk 249 B249_9 = true := by decide +kernel
def B249_10 : List zRow := [(6, .iload_n 3, 1, (0, 0, 0)), (7, .aload_n 0, 1, (0, 0, 0)), (8, .getfield 13, 3, (12, 14, 5251442)), (11, .iconst 3, 1, (0, 0, 0)), (12, .iaload, 1, (0, 0, 0)), (13, .if_icmp .ge 40, 3, (0, 0, 0))]
theorem K249_10 : zRk 249 B249_10 = true := by decide +kernel
def B249_11 : List zRow := [(47, .iinc 3 1, 3, (0, 0, 0)), (50, .goto (-44), 3, (0, 0, 0))]
theorem K249_11 : zRk 249 B249_11 = true := by decide +kernel
def B249_12 : List zRow := [(93, .aload_n 0, 1, (0, 0, 0))]
theorem K249_12 : zRk 249 B249_12 = true := by decide +kernel
def B249_13 : List zRow := [(71, .aload_n 0, 1, (0, 0, 0)), (72, .getfield 42, 3, (12, 25, 5244418)), (75, .bipush 6, 2, (0, 0, 0)), (77, .iload_n 1, 1, (0, 0, 0))]
theorem K249_13 : zRk 249 B249_13 = true := by decide +kernel
def B249_14 : List zRow := [(78, .imul, 1, (0, 0, 0)), (79, .iload_n 3, 1, (0, 0, 0)), (80, .iadd, 1, (0, 0, 0)), (81, .aload_n 0, 1, (0, 0, 0)), (82, .iload_n 3, 1, (0, 0, 0))]
theorem K249_14 : zRk 249 B249_14 = true := by decide +kernel
def B249_15 : List zRow := [(86, .iastore, 1, (0, 0, 0)), (87, .iinc 3 1, 3, (0, 0, 0)), (90, .goto (-29), 3, (0, 0, 0))]
theorem K249_15 : zRk 249 B249_15 = true := by decide +kernel
def B249_16 : List zRow := [(61, .iload_n 3, 1, (0, 0, 0)), (62, .aload_n 0, 1, (0, 0, 0)), (63, .getfield 13, 3, (12, 14, 5251442)), (66, .iconst 3, 1, (0, 0, 0)), (67, .iaload, 1, (0, 0, 0)), (68, .if_icmp .ge 25, 3, (0, 0, 0))]
theorem K249_16 : zRk 249 B249_16 = true := by decide +kernel
def F249_1 : Nat → Int → Int → zHM → Option zHM
  | 0, _, _, _ => none
  | n + 1, v1, v3, h => if (h 14 3) ≤ v3 then (F245 h).bind fun r1 => some r1 else (F211 v3 h).bind fun r2 => zG (0 ≤ (wadd (wmul 6 v1) v3) ∧ (wadd (wmul 6 v1) v3) < 384) ((F249_1 n) v1 (wadd v3 1) (mset h 25 (wadd (wmul 6 v1) v3) r2))
set_option maxRecDepth 100000 in
theorem T249_1 {spec : zRn zH2} {hc : zHC} {o : Int → Int} {d : Nat} (hd : 6 ≤ d) : ∀ (n : Nat) (v1 : Int) (v3 : Int) (h : zHM) (v : zHM), F249_1 n v1 v3 h = some v → zFin 0 (fun _ => 0) (zRu2 spec d) 249 none (hc, v, o) (61, [some (22, 0), some (0, v1), none, some (0, v3)], [], (hc, h, o)) := by
  intro n
  induction n with
  | zero => intro v1 v3 h v e; unfold F249_1 at e; cases e
  | succ n hk0 =>
    intro v1 v3 h v e
    unfold F249_1 at e
    rcases zI_s e with ⟨q1, e⟩ | ⟨q1, e⟩
    · refine zF_blk (m := []) (d := 1) (b := B249_16) (gs := [0 ≤ 3 ∧ 3 < 2140, (h 14 3) ≤ v3]) (c' := (93, [some (22, 0), some (0, v1), none, some (0, v3)], [], (hc, h, o))) K249_16 rfl ⟨by decide, q1, trivial⟩ ?_
      obtain ⟨r1, q2, e⟩ := zB_s e
      refine zF_blk (m := []) (d := 0) (b := B249_12) (gs := []) (c' := (94, [some (22, 0), some (0, v1), none, some (0, v3)], [(22, 0)], (hc, h, o))) K249_12 rfl trivial ?_
      refine zF_call (k := 245) (cl := 12) (n := 1) (i := .invokevirtual 320) (args := [(22, 0)]) (rest := []) (g1 := (hc, r1, o)) (r1 := none) (by decide +kernel) rfl rfl rfl (st' := []) rfl (S245 (Nat.le_trans (by decide) hd)  h _ q2) ?_
      obtain rfl := Option.some.inj e
      exact zF_rv (by decide +kernel)
    · refine zF_blk (m := []) (d := 0) (b := B249_16) (gs := [0 ≤ 3 ∧ 3 < 2140, ¬ ((h 14 3) ≤ v3)]) (c' := (71, [some (22, 0), some (0, v1), none, some (0, v3)], [], (hc, h, o))) K249_16 rfl ⟨by decide, q1, trivial⟩ ?_
      refine zF_blk (m := []) (d := 0) (b := B249_13) (gs := []) (c' := (78, [some (22, 0), some (0, v1), none, some (0, v3)], [(0, v1), (0, 6), (1342572289, 0)], (hc, h, o))) K249_13 rfl trivial ?_
      obtain ⟨r2, q3, e⟩ := zB_s e
      refine zF_blk (m := []) (d := 0) (b := B249_14) (gs := []) (c' := (83, [some (22, 0), some (0, v1), none, some (0, v3)], [(0, v3), (22, 0), (0, (wadd (wmul 6 v1) v3)), (1342572289, 0)], (hc, h, o))) K249_14 rfl trivial ?_
      refine zF_call (k := 211) (cl := 12) (n := 2) (i := .invokevirtual 263) (args := [(22, 0), (0, v3)]) (rest := [(0, (wadd (wmul 6 v1) v3)), (1342572289, 0)]) (g1 := (hc, h, o)) (r1 := some (0, r2)) (by decide +kernel) rfl rfl rfl (st' := [(0, r2), (0, (wadd (wmul 6 v1) v3)), (1342572289, 0)]) rfl (S211 (Nat.le_trans (by decide) hd) v3 h _ q3) ?_
      obtain ⟨q4, e⟩ := zG_s e
      refine zF_blk (m := []) (d := 0) (b := B249_15) (gs := [0 ≤ (wadd (wmul 6 v1) v3) ∧ (wadd (wmul 6 v1) v3) < 384]) (c' := (61, [some (22, 0), some (0, v1), none, some (0, (wadd v3 1))], [], (hc, (mset h 25 (wadd (wmul 6 v1) v3) r2), o))) K249_15 rfl ⟨q4, trivial⟩ ?_
      exact hk0 v1 (wadd v3 1) (mset h 25 (wadd (wmul 6 v1) v3) r2) _ e
def F249_2 (k0 : Int → Int → Int → zHM → Option zHM) (v1 : Int) (v2 : Int) (v3 : Int) (h : zHM) : Option zHM := k0 v1 v2 (wadd v3 1) h
set_option maxRecDepth 100000 in
theorem T249_2 {spec : zRn zH2} {hc : zHC} {o : Int → Int} {d : Nat} (hd : 6 ≤ d) (k0 : Int → Int → Int → zHM → Option zHM) (hk0 : ∀ (v1 : Int) (v2 : Int) (v3 : Int) (h : zHM) (v : zHM), k0 v1 v2 v3 h = some v → zFin 0 (fun _ => 0) (zRu2 spec d) 249 none (hc, v, o) (6, [some (22, 0), some (0, v1), some (0, v2), some (0, v3)], [], (hc, h, o))) (v1 : Int) (v2 : Int) (v3 : Int) (h : zHM) (v : zHM) (e : F249_2 k0 v1 v2 v3 h = some v) : zFin 0 (fun _ => 0) (zRu2 spec d) 249 none (hc, v, o) (47, [some (22, 0), some (0, v1), some (0, v2), some (0, v3)], [], (hc, h, o)) := by
  unfold F249_2 at e
  refine zF_blk (m := []) (d := 0) (b := B249_11) (gs := []) (c' := (6, [some (22, 0), some (0, v1), some (0, v2), some (0, (wadd v3 1))], [], (hc, h, o))) K249_11 rfl trivial ?_
  exact hk0 v1 v2 (wadd v3 1) h _ e
def F249_0 : Nat → Int → Int → Int → zHM → Option zHM
  | 0, _, _, _, _ => none
  | n + 1, v1, v2, v3, h => if (h 14 3) ≤ v3 then (F235 v2 h).bind fun r1 => F249_1 zFu v1 0 r1.2 else (F214 v1 v3).bind fun r2 => if r2 = 0 then F249_2 (F249_0 n) v1 v2 v3 h else zG (0 ≤ (wadd (wadd 25 (wmul 2 v3)) 1) ∧ (wadd (wadd 25 (wmul 2 v3)) 1) < 2140) (zG (0 ≤ (wadd 210 v3) ∧ (wadd 210 v3) < 2140) (F249_2 (F249_0 n) v1 v2 v3 (mset h 14 (wadd 210 v3) (h 14 (wadd (wadd 25 (wmul 2 v3)) 1)))))
set_option maxRecDepth 100000 in
theorem T249_0 {spec : zRn zH2} {hc : zHC} {o : Int → Int} {d : Nat} (hd : 6 ≤ d) : ∀ (n : Nat) (v1 : Int) (v2 : Int) (v3 : Int) (h : zHM) (v : zHM), F249_0 n v1 v2 v3 h = some v → zFin 0 (fun _ => 0) (zRu2 spec d) 249 none (hc, v, o) (6, [some (22, 0), some (0, v1), some (0, v2), some (0, v3)], [], (hc, h, o)) := by
  intro n
  induction n with
  | zero => intro v1 v2 v3 h v e; unfold F249_0 at e; cases e
  | succ n hk0 =>
    intro v1 v2 v3 h v e
    unfold F249_0 at e
    rcases zI_s e with ⟨q1, e⟩ | ⟨q1, e⟩
    · refine zF_blk (m := []) (d := 1) (b := B249_10) (gs := [0 ≤ 3 ∧ 3 < 2140, (h 14 3) ≤ v3]) (c' := (53, [some (22, 0), some (0, v1), some (0, v2), some (0, v3)], [], (hc, h, o))) K249_10 rfl ⟨by decide, q1, trivial⟩ ?_
      obtain ⟨r1, q2, e⟩ := zB_s e
      refine zF_blk (m := []) (d := 0) (b := B249_2) (gs := []) (c' := (55, [some (22, 0), some (0, v1), some (0, v2), some (0, v3)], [(0, v2), (22, 0)], (hc, h, o))) K249_2 rfl trivial ?_
      refine zF_call (k := 235) (cl := 12) (n := 2) (i := .invokevirtual 314) (args := [(22, 0), (0, v2)]) (rest := []) (g1 := (hc, r1.2, o)) (r1 := some (0, r1.1)) (by decide +kernel) rfl rfl rfl (st' := [(0, r1.1)]) rfl (S235 (Nat.le_trans (by decide) hd) v2 h _ q2) ?_
      refine zF_blk (m := []) (d := 0) (b := B249_3) (gs := []) (c' := (61, [some (22, 0), some (0, v1), some (0, v2), some (0, 0)], [], (hc, r1.2, o))) K249_3 rfl trivial ?_
      refine zF_blk (m := [true, true, false, true]) (d := 0) (b := []) (gs := []) (c' := (61, [some (22, 0), some (0, v1), none, some (0, 0)], [], (hc, r1.2, o))) rfl rfl trivial ?_
      exact T249_1 hd zFu v1 0 r1.2 _ e
    · refine zF_blk (m := []) (d := 0) (b := B249_10) (gs := [0 ≤ 3 ∧ 3 < 2140, ¬ ((h 14 3) ≤ v3)]) (c' := (16, [some (22, 0), some (0, v1), some (0, v2), some (0, v3)], [], (hc, h, o))) K249_10 rfl ⟨by decide, q1, trivial⟩ ?_
      obtain ⟨r2, q3, e⟩ := zB_s e
      refine zF_blk (m := []) (d := 0) (b := B249_4) (gs := []) (c' := (18, [some (22, 0), some (0, v1), some (0, v2), some (0, v3)], [(0, v3), (0, v1)], (hc, h, o))) K249_4 rfl trivial ?_
      refine zF_call (k := 214) (cl := 12) (n := 2) (i := .invokestatic 251) (args := [(0, v1), (0, v3)]) (rest := []) (g1 := (hc, h, o)) (r1 := some (0, r2)) (by decide +kernel) rfl rfl rfl (st' := [(0, r2)]) rfl (S214 (Nat.le_trans (by decide) hd) v1 v3 h _ q3) ?_
      rcases zI_s e with ⟨q4, e⟩ | ⟨q4, e⟩
      · refine zF_blk (m := []) (d := 1) (b := B249_9) (gs := [r2 = 0]) (c' := (47, [some (22, 0), some (0, v1), some (0, v2), some (0, v3)], [], (hc, h, o))) K249_9 rfl ⟨q4, trivial⟩ ?_
        exact T249_2 hd (F249_0 n) hk0 v1 v2 v3 h _ e
      · refine zF_blk (m := []) (d := 0) (b := B249_9) (gs := [¬ (r2 = 0)]) (c' := (24, [some (22, 0), some (0, v1), some (0, v2), some (0, v3)], [], (hc, h, o))) K249_9 rfl ⟨q4, trivial⟩ ?_
        obtain ⟨q5, e⟩ := zG_s e
        obtain ⟨q6, e⟩ := zG_s e
        refine zF_blk (m := []) (d := 0) (b := B249_5) (gs := []) (c' := (32, [some (22, 0), some (0, v1), some (0, v2), some (0, v3)], [(0, v3), (0, 210), (1344370422, 0)], (hc, h, o))) K249_5 rfl trivial ?_
        refine zF_blk (m := []) (d := 0) (b := B249_6) (gs := []) (c' := (41, [some (22, 0), some (0, v1), some (0, v2), some (0, v3)], [(0, v3), (0, 2), (0, 25), (1344370422, 0), (0, (wadd 210 v3)), (1344370422, 0)], (hc, h, o))) K249_6 rfl trivial ?_
        refine zF_blk (m := []) (d := 0) (b := B249_7) (gs := []) (c' := (42, [some (22, 0), some (0, v1), some (0, v2), some (0, v3)], [(0, (wmul 2 v3)), (0, 25), (1344370422, 0), (0, (wadd 210 v3)), (1344370422, 0)], (hc, h, o))) K249_7 rfl trivial ?_
        refine zF_blk (m := []) (d := 0) (b := B249_8) (gs := [0 ≤ (wadd (wadd 25 (wmul 2 v3)) 1) ∧ (wadd (wadd 25 (wmul 2 v3)) 1) < 2140, 0 ≤ (wadd 210 v3) ∧ (wadd 210 v3) < 2140]) (c' := (47, [some (22, 0), some (0, v1), some (0, v2), some (0, v3)], [], (hc, (mset h 14 (wadd 210 v3) (h 14 (wadd (wadd 25 (wmul 2 v3)) 1))), o))) K249_8 rfl ⟨q5, q6, trivial⟩ ?_
        exact T249_2 hd (F249_0 n) hk0 v1 v2 v3 (mset h 14 (wadd 210 v3) (h 14 (wadd (wadd 25 (wmul 2 v3)) 1))) _ e
/-- EchoValeModel.layHas(II)V -/
def F249 (v1 : Int) (v2 : Int) (h : zHM) : Option zHM := (F244 h).bind fun r1 => F249_0 zFu v1 v2 0 r1
set_option maxRecDepth 100000 in
theorem S249 {spec : zRn zH2} {hc : zHC} {o : Int → Int} {d : Nat} (hd : 7 ≤ d) (v1 : Int) (v2 : Int) (h : zHM) (v : zHM) (e : F249 v1 v2 h = some v) : zRu2 spec d 249 [(22, 0), (0, v1), (0, v2)] (hc, h, o) none (hc, v, o) := by
  refine zF_in (D := 6) (mx := 4) (L := [some (22, 0), some (0, v1), some (0, v2), none]) (by decide +kernel) rfl rfl hd (fun d hd => ?_)
  unfold F249 at e
  obtain ⟨r1, q1, e⟩ := zB_s e
  refine zF_blk (m := []) (d := 0) (b := B249_0) (gs := []) (c' := (1, [some (22, 0), some (0, v1), some (0, v2), none], [(22, 0)], (hc, h, o))) K249_0 rfl trivial ?_
  refine zF_call (k := 244) (cl := 12) (n := 1) (i := .invokevirtual 317) (args := [(22, 0)]) (rest := []) (g1 := (hc, r1, o)) (r1 := none) (by decide +kernel) rfl rfl rfl (st' := []) rfl (S244 (Nat.le_trans (by decide) hd)  h _ q1) ?_
  refine zF_blk (m := []) (d := 0) (b := B249_1) (gs := []) (c' := (6, [some (22, 0), some (0, v1), some (0, v2), some (0, 0)], [], (hc, r1, o))) K249_1 rfl trivial ?_
  exact T249_0 hd zFu v1 v2 0 r1 _ e
def B247_0 : List zRow := [(0, .aload_n 0, 1, (0, 0, 0)), (1, .iconst 0, 1, (0, 0, 0)), (2, .putfield 81, 3, (12, 0, 0)), (5, .aload_n 0, 1, (0, 0, 0)), (6, .iload_n 1, 1, (0, 0, 0))]
theorem K247_0 : zRk 247 B247_0 = true := by decide +kernel
def B247_1 : List zRow := [(35, .iconst (-1), 1, (0, 0, 0))]
theorem K247_1 : zRk 247 B247_1 = true := by decide +kernel
def B247_2 : List zRow := [(17, .iload_n 2, 1, (0, 0, 0)), (18, .aload_n 0, 1, (0, 0, 0))]
theorem K247_2 : zRk 247 B247_2 = true := by decide +kernel
def B247_3 : List zRow := [(28, .iload_n 3, 1, (0, 0, 0))]
theorem K247_3 : zRk 247 B247_3 = true := by decide +kernel
def B247_4 : List zRow := [(37, .aload_n 0, 1, (0, 0, 0)), (38, .iload_n 2, 1, (0, 0, 0)), (39, .iload_n 3, 1, (0, 0, 0))]
theorem K247_4 : zRk 247 B247_4 = true := by decide +kernel
def B247_5 : List zRow := [(43, .aload_n 0, 1, (0, 0, 0)), (44, .getfield 42, 3, (12, 25, 5244418)), (47, .bipush 6, 2, (0, 0, 0)), (49, .iload_n 2, 1, (0, 0, 0))]
theorem K247_5 : zRk 247 B247_5 = true := by decide +kernel
def B247_6 : List zRow := [(50, .imul, 1, (0, 0, 0)), (51, .iload_n 1, 1, (0, 0, 0)), (52, .iadd, 1, (0, 0, 0)), (53, .iaload, 1, (0, 0, 0))]
theorem K247_6 : zRk 247 B247_6 = true := by decide +kernel
def B247_7 : List zRow := [(32, .ifCond .ne 5, 3, (0, 0, 0))]
theorem K247_7 : zRk 247 B247_7 = true := by decide +kernel
def B247_8 : List zRow := [(22, .iconst (-1), 1, (0, 0, 0)), (23, .ixor, 1, (0, 0, 0)), (24, .iand, 1, (0, 0, 0)), (25, .ifCond .ne 10, 3, (0, 0, 0))]
theorem K247_8 : zRk 247 B247_8 = true := by decide +kernel
def B247_9 : List zRow := [(13, .iload_n 2, 1, (0, 0, 0)), (14, .ifCond .lt 21, 3, (0, 0, 0))]
theorem K247_9 : zRk 247 B247_9 = true := by decide +kernel
def B247_10 : List zRow := [(10, .ifCond .eq 25, 3, (0, 0, 0))]
theorem K247_10 : zRk 247 B247_10 = true := by decide +kernel
/-- EchoValeModel.has(III)I -/
def F247 (v1 : Int) (v2 : Int) (v3 : Int) (h : zHM) : Option (Int × zHM) := (F210 v1 (mset h 0 0 0)).bind fun r1 => if r1 = 0 then some ((-1), (mset h 0 0 0)) else if v2 < 0 then some ((-1), (mset h 0 0 0)) else (F248 (mset h 0 0 0)).bind fun r2 => if ¬ (wand v2 (wxor r2 (-1))) = 0 then some ((-1), (mset h 0 0 0)) else (F242 v3).bind fun r3 => if ¬ r3 = 0 then (F249 v2 v3 (mset h 0 0 0)).bind fun r4 => zG (0 ≤ (wadd (wmul 6 v2) v1) ∧ (wadd (wmul 6 v2) v1) < 384) (some ((r4 25 (wadd (wmul 6 v2) v1)), r4)) else some ((-1), (mset h 0 0 0))
set_option maxRecDepth 100000 in
theorem S247 {spec : zRn zH2} {hc : zHC} {o : Int → Int} {d : Nat} (hd : 8 ≤ d) (v1 : Int) (v2 : Int) (v3 : Int) (h : zHM) (v : (Int × zHM)) (e : F247 v1 v2 v3 h = some v) : zRu2 spec d 247 [(22, 0), (0, v1), (0, v2), (0, v3)] (hc, h, o) (some (0, v.1)) (hc, v.2, o) := by
  refine zF_in (D := 7) (mx := 4) (L := [some (22, 0), some (0, v1), some (0, v2), some (0, v3)]) (by decide +kernel) rfl rfl hd (fun d hd => ?_)
  unfold F247 at e
  obtain ⟨r1, q1, e⟩ := zB_s e
  refine zF_blk (m := []) (d := 0) (b := B247_0) (gs := []) (c' := (7, [some (22, 0), some (0, v1), some (0, v2), some (0, v3)], [(0, v1), (22, 0)], (hc, (mset h 0 0 0), o))) K247_0 rfl trivial ?_
  refine zF_call (k := 210) (cl := 12) (n := 2) (i := .invokevirtual 260) (args := [(22, 0), (0, v1)]) (rest := []) (g1 := (hc, (mset h 0 0 0), o)) (r1 := some (0, r1)) (by decide +kernel) rfl rfl rfl (st' := [(0, r1)]) rfl (S210 (Nat.le_trans (by decide) hd) v1 (mset h 0 0 0) _ q1) ?_
  rcases zI_s e with ⟨q2, e⟩ | ⟨q2, e⟩
  · refine zF_blk (m := []) (d := 1) (b := B247_10) (gs := [r1 = 0]) (c' := (35, [some (22, 0), some (0, v1), some (0, v2), some (0, v3)], [], (hc, (mset h 0 0 0), o))) K247_10 rfl ⟨q2, trivial⟩ ?_
    refine zF_blk (m := []) (d := 0) (b := B247_1) (gs := []) (c' := (36, [some (22, 0), some (0, v1), some (0, v2), some (0, v3)], [(0, (-1))], (hc, (mset h 0 0 0), o))) K247_1 rfl trivial ?_
    exact zF_riM (by decide +kernel) e
  · refine zF_blk (m := []) (d := 0) (b := B247_10) (gs := [¬ (r1 = 0)]) (c' := (13, [some (22, 0), some (0, v1), some (0, v2), some (0, v3)], [], (hc, (mset h 0 0 0), o))) K247_10 rfl ⟨q2, trivial⟩ ?_
    rcases zI_s e with ⟨q3, e⟩ | ⟨q3, e⟩
    · refine zF_blk (m := []) (d := 1) (b := B247_9) (gs := [v2 < 0]) (c' := (35, [some (22, 0), some (0, v1), some (0, v2), some (0, v3)], [], (hc, (mset h 0 0 0), o))) K247_9 rfl ⟨q3, trivial⟩ ?_
      refine zF_blk (m := []) (d := 0) (b := B247_1) (gs := []) (c' := (36, [some (22, 0), some (0, v1), some (0, v2), some (0, v3)], [(0, (-1))], (hc, (mset h 0 0 0), o))) K247_1 rfl trivial ?_
      exact zF_riM (by decide +kernel) e
    · refine zF_blk (m := []) (d := 0) (b := B247_9) (gs := [¬ (v2 < 0)]) (c' := (17, [some (22, 0), some (0, v1), some (0, v2), some (0, v3)], [], (hc, (mset h 0 0 0), o))) K247_9 rfl ⟨q3, trivial⟩ ?_
      obtain ⟨r2, q4, e⟩ := zB_s e
      refine zF_blk (m := []) (d := 0) (b := B247_2) (gs := []) (c' := (19, [some (22, 0), some (0, v1), some (0, v2), some (0, v3)], [(22, 0), (0, v2)], (hc, (mset h 0 0 0), o))) K247_2 rfl trivial ?_
      refine zF_call (k := 248) (cl := 12) (n := 1) (i := .invokevirtual 329) (args := [(22, 0)]) (rest := [(0, v2)]) (g1 := (hc, (mset h 0 0 0), o)) (r1 := some (0, r2)) (by decide +kernel) rfl rfl rfl (st' := [(0, r2), (0, v2)]) rfl (S248 (Nat.le_trans (by decide) hd)  (mset h 0 0 0) _ q4) ?_
      rcases zI_s e with ⟨q5, e⟩ | ⟨q5, e⟩
      · refine zF_blk (m := []) (d := 1) (b := B247_8) (gs := [¬ (wand v2 (wxor r2 (-1))) = 0]) (c' := (35, [some (22, 0), some (0, v1), some (0, v2), some (0, v3)], [], (hc, (mset h 0 0 0), o))) K247_8 rfl ⟨q5, trivial⟩ ?_
        refine zF_blk (m := []) (d := 0) (b := B247_1) (gs := []) (c' := (36, [some (22, 0), some (0, v1), some (0, v2), some (0, v3)], [(0, (-1))], (hc, (mset h 0 0 0), o))) K247_1 rfl trivial ?_
        exact zF_riM (by decide +kernel) e
      · refine zF_blk (m := []) (d := 0) (b := B247_8) (gs := [¬ (¬ (wand v2 (wxor r2 (-1))) = 0)]) (c' := (28, [some (22, 0), some (0, v1), some (0, v2), some (0, v3)], [], (hc, (mset h 0 0 0), o))) K247_8 rfl ⟨q5, trivial⟩ ?_
        obtain ⟨r3, q6, e⟩ := zB_s e
        refine zF_blk (m := []) (d := 0) (b := B247_3) (gs := []) (c' := (29, [some (22, 0), some (0, v1), some (0, v2), some (0, v3)], [(0, v3)], (hc, (mset h 0 0 0), o))) K247_3 rfl trivial ?_
        refine zF_call (k := 242) (cl := 12) (n := 1) (i := .invokestatic 323) (args := [(0, v3)]) (rest := []) (g1 := (hc, (mset h 0 0 0), o)) (r1 := some (0, r3)) (by decide +kernel) rfl rfl rfl (st' := [(0, r3)]) rfl (S242 (Nat.le_trans (by decide) hd) v3 (mset h 0 0 0) _ q6) ?_
        rcases zI_s e with ⟨q7, e⟩ | ⟨q7, e⟩
        · refine zF_blk (m := []) (d := 1) (b := B247_7) (gs := [¬ r3 = 0]) (c' := (37, [some (22, 0), some (0, v1), some (0, v2), some (0, v3)], [], (hc, (mset h 0 0 0), o))) K247_7 rfl ⟨q7, trivial⟩ ?_
          obtain ⟨r4, q8, e⟩ := zB_s e
          refine zF_blk (m := []) (d := 0) (b := B247_4) (gs := []) (c' := (40, [some (22, 0), some (0, v1), some (0, v2), some (0, v3)], [(0, v3), (0, v2), (22, 0)], (hc, (mset h 0 0 0), o))) K247_4 rfl trivial ?_
          refine zF_call (k := 249) (cl := 12) (n := 3) (i := .invokevirtual 332) (args := [(22, 0), (0, v2), (0, v3)]) (rest := []) (g1 := (hc, r4, o)) (r1 := none) (by decide +kernel) rfl rfl rfl (st' := []) rfl (S249 (Nat.le_trans (by decide) hd) v2 v3 (mset h 0 0 0) _ q8) ?_
          obtain ⟨q9, e⟩ := zG_s e
          refine zF_blk (m := []) (d := 0) (b := B247_5) (gs := []) (c' := (50, [some (22, 0), some (0, v1), some (0, v2), some (0, v3)], [(0, v2), (0, 6), (1342572289, 0)], (hc, r4, o))) K247_5 rfl trivial ?_
          refine zF_blk (m := []) (d := 0) (b := B247_6) (gs := [0 ≤ (wadd (wmul 6 v2) v1) ∧ (wadd (wmul 6 v2) v1) < 384]) (c' := (54, [some (22, 0), some (0, v1), some (0, v2), some (0, v3)], [(0, (r4 25 (wadd (wmul 6 v2) v1)))], (hc, r4, o))) K247_6 rfl ⟨q9, trivial⟩ ?_
          exact zF_riM (by decide +kernel) e
        · refine zF_blk (m := []) (d := 0) (b := B247_7) (gs := [¬ (¬ r3 = 0)]) (c' := (35, [some (22, 0), some (0, v1), some (0, v2), some (0, v3)], [], (hc, (mset h 0 0 0), o))) K247_7 rfl ⟨q7, trivial⟩ ?_
          refine zF_blk (m := []) (d := 0) (b := B247_1) (gs := []) (c' := (36, [some (22, 0), some (0, v1), some (0, v2), some (0, v3)], [(0, (-1))], (hc, (mset h 0 0 0), o))) K247_1 rfl trivial ?_
          exact zF_riM (by decide +kernel) e
def B108_0 : List zRow := [(0, .iconst 0, 1, (0, 0, 0)), (1, .istore_n 2, 1, (0, 0, 0))]
theorem K108_0 : zRk 108 B108_0 = true := by decide +kernel
def B108_1 : List zRow := [(13, .aload_n 0, 1, (0, 0, 0)), (14, .getfield 91, 3, (11, 12, 5244418)), (17, .iload_n 1, 1, (0, 0, 0)), (18, .bipush 6, 2, (0, 0, 0)), (20, .imul, 1, (0, 0, 0)), (21, .iload_n 2, 1, (0, 0, 0)), (22, .iadd, 1, (0, 0, 0)), (23, .aload_n 0, 1, (0, 0, 0)), (24, .getfield 60, 3, (11, 7, 135)), (27, .iload_n 2, 1, (0, 0, 0))]
theorem K108_1 : zRk 108 B108_1 = true := by decide +kernel
def B108_2 : List zRow := [(31, .iastore, 1, (0, 0, 0)), (32, .iinc 2 1, 3, (0, 0, 0)), (35, .goto (-33), 3, (0, 0, 0))]
theorem K108_2 : zRk 108 B108_2 = true := by decide +kernel
def B108_3 : List zRow := [(2, .iload_n 2, 1, (0, 0, 0)), (3, .aload_n 0, 1, (0, 0, 0)), (4, .getfield 19, 3, (11, 1, 39)), (7, .getfield 311, 3, (9, 3, 0)), (10, .if_icmp .ge 28, 3, (0, 0, 0))]
theorem K108_3 : zRk 108 B108_3 = true := by decide +kernel
def F108_0 : Nat → Int → Int → zHC → Option zHC
  | 0, _, _, _ => none
  | n + 1, v1, v2, h => if (h 579 0 0) ≤ v2 then some h else (F101 v2 h).bind fun r1 => zG (0 ≤ (wadd (wmul v1 6) v2) ∧ (wadd (wmul v1 6) v2) < 384) ((F108_0 n) v1 (wadd v2 1) (hset h 716 0 (wadd (wmul v1 6) v2) r1))
set_option maxRecDepth 100000 in
theorem T108_0 {spec : zRn zH2} {hm : zHM} {o : Int → Int} {d : Nat} (hd : 3 ≤ d) : ∀ (n : Nat) (v1 : Int) (v2 : Int) (h : zHC) (v : zHC), F108_0 n v1 v2 h = some v → zFin 0 (fun _ => 0) (zRu2 spec d) 108 none (v, hm, o) (2, [some (21, 0), some (0, v1), some (0, v2)], [], (h, hm, o)) := by
  intro n
  induction n with
  | zero => intro v1 v2 h v e; unfold F108_0 at e; cases e
  | succ n hk0 =>
    intro v1 v2 h v e
    unfold F108_0 at e
    rcases zI_s e with ⟨q1, e⟩ | ⟨q1, e⟩
    · refine zF_blk (m := []) (d := 1) (b := B108_3) (gs := [(h 579 0 0) ≤ v2]) (c' := (38, [some (21, 0), some (0, v1), some (0, v2)], [], (h, hm, o))) K108_3 rfl ⟨q1, trivial⟩ ?_
      obtain rfl := Option.some.inj e
      exact zF_rv (by decide +kernel)
    · refine zF_blk (m := []) (d := 0) (b := B108_3) (gs := [¬ ((h 579 0 0) ≤ v2)]) (c' := (13, [some (21, 0), some (0, v1), some (0, v2)], [], (h, hm, o))) K108_3 rfl ⟨q1, trivial⟩ ?_
      obtain ⟨r1, q2, e⟩ := zB_s e
      refine zF_blk (m := []) (d := 0) (b := B108_1) (gs := []) (c' := (28, [some (21, 0), some (0, v1), some (0, v2)], [(0, v2), (11, 1), (0, (wadd (wmul v1 6) v2)), (1342572212, 0)], (h, hm, o))) K108_1 rfl trivial ?_
      refine zF_call (k := 101) (cl := 1) (n := 2) (i := .invokevirtual 179) (args := [(11, 1), (0, v2)]) (rest := [(0, (wadd (wmul v1 6) v2)), (1342572212, 0)]) (g1 := (h, hm, o)) (r1 := some (0, r1)) (by decide +kernel) rfl rfl rfl (st' := [(0, r1), (0, (wadd (wmul v1 6) v2)), (1342572212, 0)]) rfl (S101 (Nat.le_trans (by decide) hd) v2 h _ q2) ?_
      obtain ⟨q3, e⟩ := zG_s e
      refine zF_blk (m := []) (d := 0) (b := B108_2) (gs := [0 ≤ (wadd (wmul v1 6) v2) ∧ (wadd (wmul v1 6) v2) < 384]) (c' := (2, [some (21, 0), some (0, v1), some (0, (wadd v2 1))], [], ((hset h 716 0 (wadd (wmul v1 6) v2) r1), hm, o))) K108_2 rfl ⟨q3, trivial⟩ ?_
      exact hk0 v1 (wadd v2 1) (hset h 716 0 (wadd (wmul v1 6) v2) r1) _ e
/-- EchoVale.keepOutcome(I)V -/
def F108 (v1 : Int) (h : zHC) : Option zHC := F108_0 zFu v1 0 h
set_option maxRecDepth 100000 in
theorem S108 {spec : zRn zH2} {hm : zHM} {o : Int → Int} {d : Nat} (hd : 4 ≤ d) (v1 : Int) (h : zHC) (v : zHC) (e : F108 v1 h = some v) : zRu2 spec d 108 [(21, 0), (0, v1)] (h, hm, o) none (v, hm, o) := by
  refine zF_in (D := 3) (mx := 3) (L := [some (21, 0), some (0, v1), none]) (by decide +kernel) rfl rfl hd (fun d hd => ?_)
  unfold F108 at e
  refine zF_blk (m := []) (d := 0) (b := B108_0) (gs := []) (c' := (2, [some (21, 0), some (0, v1), some (0, 0)], [], (h, hm, o))) K108_0 rfl trivial ?_
  exact T108_0 hd zFu v1 0 h _ e
def B109_0 : List zRow := [(0, .aload_n 0, 1, (0, 0, 0)), (1, .getfield 19, 3, (11, 1, 39))]
theorem K109_0 : zRk 109 B109_0 = true := by decide +kernel
def B109_1 : List zRow := [(7, .istore_n 2, 1, (0, 0, 0)), (8, .iconst 0, 1, (0, 0, 0)), (9, .istore_n 3, 1, (0, 0, 0))]
theorem K109_1 : zRk 109 B109_1 = true := by decide +kernel
def B109_2 : List zRow := [(70, .iconst 1, 1, (0, 0, 0))]
theorem K109_2 : zRk 109 B109_2 = true := by decide +kernel
def B109_3 : List zRow := [(21, .iload_n 1, 1, (0, 0, 0)), (22, .iconst 1, 1, (0, 0, 0)), (23, .iload_n 3, 1, (0, 0, 0)), (24, .ishl, 1, (0, 0, 0)), (25, .ixor, 1, (0, 0, 0)), (26, .istore 4, 2, (0, 0, 0)), (28, .iload_n 2, 1, (0, 0, 0)), (29, .iload_n 3, 1, (0, 0, 0))]
theorem K109_3 : zRk 109 B109_3 = true := by decide +kernel
def B109_4 : List zRow := [(62, .iconst 0, 1, (0, 0, 0))]
theorem K109_4 : zRk 109 B109_4 = true := by decide +kernel
def B109_5 : List zRow := [(36, .aload_n 0, 1, (0, 0, 0)), (37, .getfield 91, 3, (11, 12, 5244418)), (40, .iload 4, 2, (0, 0, 0)), (42, .bipush 6, 2, (0, 0, 0)), (44, .imul, 1, (0, 0, 0)), (45, .iload_n 3, 1, (0, 0, 0)), (46, .iadd, 1, (0, 0, 0)), (47, .iaload, 1, (0, 0, 0)), (48, .aload_n 0, 1, (0, 0, 0)), (49, .getfield 91, 3, (11, 12, 5244418)), (52, .iload_n 1, 1, (0, 0, 0)), (53, .bipush 6, 2, (0, 0, 0)), (55, .imul, 1, (0, 0, 0)), (56, .iload_n 3, 1, (0, 0, 0)), (57, .iadd, 1, (0, 0, 0)), (58, .iaload, 1, (0, 0, 0)), (59, .if_icmp .le 5, 3, (0, 0, 0))]
theorem K109_5 : zRk 109 B109_5 = true := by decide +kernel
def B109_6 : List zRow := [(33, .ifCond .eq 31, 3, (0, 0, 0))]
theorem K109_6 : zRk 109 B109_6 = true := by decide +kernel
def B109_7 : List zRow := [(10, .iload_n 3, 1, (0, 0, 0)), (11, .aload_n 0, 1, (0, 0, 0)), (12, .getfield 19, 3, (11, 1, 39)), (15, .getfield 311, 3, (9, 3, 0)), (18, .if_icmp .ge 52, 3, (0, 0, 0))]
theorem K109_7 : zRk 109 B109_7 = true := by decide +kernel
def B109_8 : List zRow := [(64, .iinc 3 1, 3, (0, 0, 0)), (67, .goto (-57), 3, (0, 0, 0))]
theorem K109_8 : zRk 109 B109_8 = true := by decide +kernel
def F109_1 (k0 : Int → Int → Int → Option Int) (h : zHC) (v1 : Int) (v2 : Int) (v3 : Int) : Option Int := k0 v1 v2 (wadd v3 1)
set_option maxRecDepth 100000 in
theorem T109_1 {spec : zRn zH2} {hm : zHM} {o : Int → Int} {d : Nat} (hd : 1 ≤ d) (h : zHC) (k0 : Int → Int → Int → Option Int) (hk0 : ∀ (v1 : Int) (v2 : Int) (v3 : Int) (v : Int), k0 v1 v2 v3 = some v → zFin 0 (fun _ => 0) (zRu2 spec d) 109 (some (0, v)) (h, hm, o) (10, [some (21, 0), some (0, v1), some (0, v2), some (0, v3), none], [], (h, hm, o))) (v1 : Int) (v2 : Int) (v3 : Int) (v : Int) (e : F109_1 k0 h v1 v2 v3 = some v) : zFin 0 (fun _ => 0) (zRu2 spec d) 109 (some (0, v)) (h, hm, o) (64, [some (21, 0), some (0, v1), some (0, v2), some (0, v3), none], [], (h, hm, o)) := by
  unfold F109_1 at e
  refine zF_blk (m := []) (d := 0) (b := B109_8) (gs := []) (c' := (10, [some (21, 0), some (0, v1), some (0, v2), some (0, (wadd v3 1)), none], [], (h, hm, o))) K109_8 rfl trivial ?_
  exact hk0 v1 v2 (wadd v3 1) _ e
def F109_0 (h : zHC) : Nat → Int → Int → Int → Option Int
  | 0, _, _, _ => none
  | n + 1, v1, v2, v3 => if (h 579 0 0) ≤ v3 then some 1 else (F65 v2 v3).bind fun r1 => if r1 = 0 then F109_1 (F109_0 h n) h v1 v2 v3 else zG (0 ≤ (wadd (wmul (wxor v1 (wshl 1 v3)) 6) v3) ∧ (wadd (wmul (wxor v1 (wshl 1 v3)) 6) v3) < 384) (zG (0 ≤ (wadd (wmul v1 6) v3) ∧ (wadd (wmul v1 6) v3) < 384) (if (h 716 0 (wadd (wmul (wxor v1 (wshl 1 v3)) 6) v3)) ≤ (h 716 0 (wadd (wmul v1 6) v3)) then F109_1 (F109_0 h n) h v1 v2 v3 else some 0))
set_option maxRecDepth 100000 in
theorem T109_0 {spec : zRn zH2} {hm : zHM} {o : Int → Int} {d : Nat} (hd : 1 ≤ d) (h : zHC) : ∀ (n : Nat) (v1 : Int) (v2 : Int) (v3 : Int) (v : Int), F109_0 h n v1 v2 v3 = some v → zFin 0 (fun _ => 0) (zRu2 spec d) 109 (some (0, v)) (h, hm, o) (10, [some (21, 0), some (0, v1), some (0, v2), some (0, v3), none], [], (h, hm, o)) := by
  intro n
  induction n with
  | zero => intro v1 v2 v3 v e; unfold F109_0 at e; cases e
  | succ n hk0 =>
    intro v1 v2 v3 v e
    unfold F109_0 at e
    rcases zI_s e with ⟨q1, e⟩ | ⟨q1, e⟩
    · refine zF_blk (m := []) (d := 1) (b := B109_7) (gs := [(h 579 0 0) ≤ v3]) (c' := (70, [some (21, 0), some (0, v1), some (0, v2), some (0, v3), none], [], (h, hm, o))) K109_7 rfl ⟨q1, trivial⟩ ?_
      refine zF_blk (m := []) (d := 0) (b := B109_2) (gs := []) (c' := (71, [some (21, 0), some (0, v1), some (0, v2), some (0, v3), none], [(0, 1)], (h, hm, o))) K109_2 rfl trivial ?_
      obtain rfl := Option.some.inj e
      exact zF_rb (by decide +kernel) (Or.inr rfl)
    · refine zF_blk (m := []) (d := 0) (b := B109_7) (gs := [¬ ((h 579 0 0) ≤ v3)]) (c' := (21, [some (21, 0), some (0, v1), some (0, v2), some (0, v3), none], [], (h, hm, o))) K109_7 rfl ⟨q1, trivial⟩ ?_
      obtain ⟨r1, q2, e⟩ := zB_s e
      refine zF_blk (m := []) (d := 0) (b := B109_3) (gs := []) (c' := (30, [some (21, 0), some (0, v1), some (0, v2), some (0, v3), some (0, (wxor v1 (wshl 1 v3)))], [(0, v3), (0, v2)], (h, hm, o))) K109_3 rfl trivial ?_
      refine zF_call (k := 65) (cl := 11) (n := 2) (i := .invokestatic 272) (args := [(0, v2), (0, v3)]) (rest := []) (g1 := (h, hm, o)) (r1 := some (0, r1)) (by decide +kernel) rfl rfl rfl (st' := [(0, r1)]) rfl (S65 (Nat.le_trans (by decide) hd) v2 v3 h _ q2) ?_
      rcases zI_s e with ⟨q3, e⟩ | ⟨q3, e⟩
      · refine zF_blk (m := []) (d := 1) (b := B109_6) (gs := [r1 = 0]) (c' := (64, [some (21, 0), some (0, v1), some (0, v2), some (0, v3), some (0, (wxor v1 (wshl 1 v3)))], [], (h, hm, o))) K109_6 rfl ⟨q3, trivial⟩ ?_
        refine zF_blk (m := [true, true, true, true, false]) (d := 0) (b := []) (gs := []) (c' := (64, [some (21, 0), some (0, v1), some (0, v2), some (0, v3), none], [], (h, hm, o))) rfl rfl trivial ?_
        exact T109_1 hd h (F109_0 h n) hk0 v1 v2 v3 _ e
      · refine zF_blk (m := []) (d := 0) (b := B109_6) (gs := [¬ (r1 = 0)]) (c' := (36, [some (21, 0), some (0, v1), some (0, v2), some (0, v3), some (0, (wxor v1 (wshl 1 v3)))], [], (h, hm, o))) K109_6 rfl ⟨q3, trivial⟩ ?_
        obtain ⟨q4, e⟩ := zG_s e
        obtain ⟨q5, e⟩ := zG_s e
        rcases zI_s e with ⟨q6, e⟩ | ⟨q6, e⟩
        · refine zF_blk (m := []) (d := 1) (b := B109_5) (gs := [0 ≤ (wadd (wmul (wxor v1 (wshl 1 v3)) 6) v3) ∧ (wadd (wmul (wxor v1 (wshl 1 v3)) 6) v3) < 384, 0 ≤ (wadd (wmul v1 6) v3) ∧ (wadd (wmul v1 6) v3) < 384, (h 716 0 (wadd (wmul (wxor v1 (wshl 1 v3)) 6) v3)) ≤ (h 716 0 (wadd (wmul v1 6) v3))]) (c' := (64, [some (21, 0), some (0, v1), some (0, v2), some (0, v3), some (0, (wxor v1 (wshl 1 v3)))], [], (h, hm, o))) K109_5 rfl ⟨q4, q5, q6, trivial⟩ ?_
          refine zF_blk (m := [true, true, true, true, false]) (d := 0) (b := []) (gs := []) (c' := (64, [some (21, 0), some (0, v1), some (0, v2), some (0, v3), none], [], (h, hm, o))) rfl rfl trivial ?_
          exact T109_1 hd h (F109_0 h n) hk0 v1 v2 v3 _ e
        · refine zF_blk (m := []) (d := 0) (b := B109_5) (gs := [0 ≤ (wadd (wmul (wxor v1 (wshl 1 v3)) 6) v3) ∧ (wadd (wmul (wxor v1 (wshl 1 v3)) 6) v3) < 384, 0 ≤ (wadd (wmul v1 6) v3) ∧ (wadd (wmul v1 6) v3) < 384, ¬ ((h 716 0 (wadd (wmul (wxor v1 (wshl 1 v3)) 6) v3)) ≤ (h 716 0 (wadd (wmul v1 6) v3)))]) (c' := (62, [some (21, 0), some (0, v1), some (0, v2), some (0, v3), some (0, (wxor v1 (wshl 1 v3)))], [], (h, hm, o))) K109_5 rfl ⟨q4, q5, q6, trivial⟩ ?_
          refine zF_blk (m := []) (d := 0) (b := B109_4) (gs := []) (c' := (63, [some (21, 0), some (0, v1), some (0, v2), some (0, v3), some (0, (wxor v1 (wshl 1 v3)))], [(0, 0)], (h, hm, o))) K109_4 rfl trivial ?_
          obtain rfl := Option.some.inj e
          exact zF_rb (by decide +kernel) (Or.inl rfl)
/-- EchoVale.isRest(I)Z -/
def F109 (v1 : Int) (h : zHC) : Option Int := (F105 h).bind fun r1 => F109_0 h zFu v1 r1 0
set_option maxRecDepth 100000 in
theorem S109 {spec : zRn zH2} {hm : zHM} {o : Int → Int} {d : Nat} (hd : 2 ≤ d) (v1 : Int) (h : zHC) (v : Int) (e : F109 v1 h = some v) : zRu2 spec d 109 [(21, 0), (0, v1)] (h, hm, o) (some (0, v)) (h, hm, o) := by
  refine zF_in (D := 1) (mx := 5) (L := [some (21, 0), some (0, v1), none, none, none]) (by decide +kernel) rfl rfl hd (fun d hd => ?_)
  unfold F109 at e
  obtain ⟨r1, q1, e⟩ := zB_s e
  refine zF_blk (m := []) (d := 0) (b := B109_0) (gs := []) (c' := (4, [some (21, 0), some (0, v1), none, none, none], [(19, 0)], (h, hm, o))) K109_0 rfl trivial ?_
  refine zF_call (k := 105) (cl := 9) (n := 1) (i := .invokevirtual 371) (args := [(19, 0)]) (rest := []) (g1 := (h, hm, o)) (r1 := some (0, r1)) (by decide +kernel) rfl rfl rfl (st' := [(0, r1)]) rfl (S105 (Nat.le_trans (by decide) hd)  h _ q1) ?_
  refine zF_blk (m := []) (d := 0) (b := B109_1) (gs := []) (c' := (10, [some (21, 0), some (0, v1), some (0, r1), some (0, 0), none], [], (h, hm, o))) K109_1 rfl trivial ?_
  exact T109_0 hd h zFu v1 r1 0 _ e
def B107_0 : List zRow := [(0, .iload_n 1, 1, (0, 0, 0))]
theorem K107_0 : zRk 107 B107_0 = true := by decide +kernel
def B107_1 : List zRow := [(12, .iconst (-1), 1, (0, 0, 0))]
theorem K107_1 : zRk 107 B107_1 = true := by decide +kernel
def B107_2 : List zRow := [(14, .iconst 0, 1, (0, 0, 0)), (15, .istore_n 3, 1, (0, 0, 0))]
theorem K107_2 : zRk 107 B107_2 = true := by decide +kernel
def B107_3 : List zRow := [(7, .iload_n 2, 1, (0, 0, 0)), (8, .iconst (-1), 1, (0, 0, 0)), (9, .if_icmp .ge 5, 3, (0, 0, 0))]
theorem K107_3 : zRk 107 B107_3 = true := by decide +kernel
def B107_4 : List zRow := [(4, .ifCond .eq 8, 3, (0, 0, 0))]
theorem K107_4 : zRk 107 B107_4 = true := by decide +kernel
def B107_5 : List zRow := [(47, .iconst 0, 1, (0, 0, 0)), (48, .istore_n 3, 1, (0, 0, 0)), (49, .iconst 0, 1, (0, 0, 0)), (50, .istore 4, 2, (0, 0, 0))]
theorem K107_5 : zRk 107 B107_5 = true := by decide +kernel
def B107_6 : List zRow := [(22, .aload_n 0, 1, (0, 0, 0)), (23, .iload_n 3, 1, (0, 0, 0))]
theorem K107_6 : zRk 107 B107_6 = true := by decide +kernel
def B107_7 : List zRow := [(30, .aload_n 0, 1, (0, 0, 0)), (31, .iload_n 3, 1, (0, 0, 0)), (32, .iload_n 1, 1, (0, 0, 0))]
theorem K107_7 : zRk 107 B107_7 = true := by decide +kernel
def B107_8 : List zRow := [(36, .aload_n 0, 1, (0, 0, 0)), (37, .iload_n 3, 1, (0, 0, 0))]
theorem K107_8 : zRk 107 B107_8 = true := by decide +kernel
def B107_9 : List zRow := [(27, .ifCond .eq 14, 3, (0, 0, 0))]
theorem K107_9 : zRk 107 B107_9 = true := by decide +kernel
def B107_10 : List zRow := [(16, .iload_n 3, 1, (0, 0, 0)), (17, .bipush 64, 2, (0, 0, 0)), (19, .if_icmp .ge 28, 3, (0, 0, 0))]
theorem K107_10 : zRk 107 B107_10 = true := by decide +kernel
def B107_11 : List zRow := [(41, .iinc 3 1, 3, (0, 0, 0)), (44, .goto (-28), 3, (0, 0, 0))]
theorem K107_11 : zRk 107 B107_11 = true := by decide +kernel
def B107_12 : List zRow := [(103, .iconst (-1), 1, (0, 0, 0))]
theorem K107_12 : zRk 107 B107_12 = true := by decide +kernel
def B107_13 : List zRow := [(99, .iload_n 3, 1, (0, 0, 0)), (100, .goto 4, 3, (0, 0, 0))]
theorem K107_13 : zRk 107 B107_13 = true := by decide +kernel
def B107_14 : List zRow := [(94, .iload_n 2, 1, (0, 0, 0)), (95, .iconst (-1), 1, (0, 0, 0)), (96, .if_icmp .ne 7, 3, (0, 0, 0))]
theorem K107_14 : zRk 107 B107_14 = true := by decide +kernel
def B107_15 : List zRow := [(59, .aload_n 0, 1, (0, 0, 0)), (60, .iload 4, 2, (0, 0, 0))]
theorem K107_15 : zRk 107 B107_15 = true := by decide +kernel
def B107_16 : List zRow := [(68, .aload_n 0, 1, (0, 0, 0)), (69, .iload 4, 2, (0, 0, 0))]
theorem K107_16 : zRk 107 B107_16 = true := by decide +kernel
def B107_17 : List zRow := [(85, .iinc 3 1, 3, (0, 0, 0))]
theorem K107_17 : zRk 107 B107_17 = true := by decide +kernel
def B107_18 : List zRow := [(82, .iload 4, 2, (0, 0, 0))]
theorem K107_18 : zRk 107 B107_18 = true := by decide +kernel
def B107_19 : List zRow := [(77, .iload_n 3, 1, (0, 0, 0)), (78, .iload_n 2, 1, (0, 0, 0)), (79, .if_icmp .ne 6, 3, (0, 0, 0))]
theorem K107_19 : zRk 107 B107_19 = true := by decide +kernel
def B107_20 : List zRow := [(74, .ifCond .eq 14, 3, (0, 0, 0))]
theorem K107_20 : zRk 107 B107_20 = true := by decide +kernel
def B107_21 : List zRow := [(65, .ifCond .eq 23, 3, (0, 0, 0))]
theorem K107_21 : zRk 107 B107_21 = true := by decide +kernel
def B107_22 : List zRow := [(52, .iload 4, 2, (0, 0, 0)), (54, .bipush 64, 2, (0, 0, 0)), (56, .if_icmp .ge 38, 3, (0, 0, 0))]
theorem K107_22 : zRk 107 B107_22 = true := by decide +kernel
def B107_23 : List zRow := [(88, .iinc 4 1, 3, (0, 0, 0)), (91, .goto (-39), 3, (0, 0, 0))]
theorem K107_23 : zRk 107 B107_23 = true := by decide +kernel
def F107_3 (k0 : Int → Int → Int → zHC → Option (Int × zHC)) (v2 : Int) (v3 : Int) (v4 : Int) (h : zHC) : Option (Int × zHC) := k0 v2 v3 (wadd v4 1) h
set_option maxRecDepth 100000 in
theorem T107_3 {spec : zRn zH2} {hm : zHM} {o : Int → Int} {d : Nat} (hd : 7 ≤ d) (k0 : Int → Int → Int → zHC → Option (Int × zHC)) (hk0 : ∀ (v2 : Int) (v3 : Int) (v4 : Int) (h : zHC) (v : (Int × zHC)), k0 v2 v3 v4 h = some v → zFin 0 (fun _ => 0) (zRu2 spec d) 107 (some (0, v.1)) (v.2, hm, o) (52, [some (21, 0), none, some (0, v2), some (0, v3), some (0, v4)], [], (h, hm, o))) (v2 : Int) (v3 : Int) (v4 : Int) (h : zHC) (v : (Int × zHC)) (e : F107_3 k0 v2 v3 v4 h = some v) : zFin 0 (fun _ => 0) (zRu2 spec d) 107 (some (0, v.1)) (v.2, hm, o) (88, [some (21, 0), none, some (0, v2), some (0, v3), some (0, v4)], [], (h, hm, o)) := by
  unfold F107_3 at e
  refine zF_blk (m := []) (d := 0) (b := B107_23) (gs := []) (c' := (52, [some (21, 0), none, some (0, v2), some (0, v3), some (0, (wadd v4 1))], [], (h, hm, o))) K107_23 rfl trivial ?_
  exact hk0 v2 v3 (wadd v4 1) h _ e
def F107_1 : Nat → Int → Int → Int → zHC → Option (Int × zHC)
  | 0, _, _, _, _ => none
  | n + 1, v2, v3, v4, h => if 64 ≤ v4 then if ¬ v2 = (-1) then some ((-1), h) else some (v3, h) else (F104 v4 h).bind fun r1 => if r1 = 0 then F107_3 (F107_1 n) v2 v3 v4 h else (F109 v4 h).bind fun r2 => if r2 = 0 then F107_3 (F107_1 n) v2 v3 v4 h else if ¬ v3 = v2 then F107_3 (F107_1 n) v2 (wadd v3 1) v4 h else some (v4, h)
set_option maxRecDepth 100000 in
theorem T107_1 {spec : zRn zH2} {hm : zHM} {o : Int → Int} {d : Nat} (hd : 7 ≤ d) : ∀ (n : Nat) (v2 : Int) (v3 : Int) (v4 : Int) (h : zHC) (v : (Int × zHC)), F107_1 n v2 v3 v4 h = some v → zFin 0 (fun _ => 0) (zRu2 spec d) 107 (some (0, v.1)) (v.2, hm, o) (52, [some (21, 0), none, some (0, v2), some (0, v3), some (0, v4)], [], (h, hm, o)) := by
  intro n
  induction n with
  | zero => intro v2 v3 v4 h v e; unfold F107_1 at e; cases e
  | succ n hk0 =>
    intro v2 v3 v4 h v e
    unfold F107_1 at e
    rcases zI_s e with ⟨q1, e⟩ | ⟨q1, e⟩
    · refine zF_blk (m := []) (d := 1) (b := B107_22) (gs := [64 ≤ v4]) (c' := (94, [some (21, 0), none, some (0, v2), some (0, v3), some (0, v4)], [], (h, hm, o))) K107_22 rfl ⟨q1, trivial⟩ ?_
      rcases zI_s e with ⟨q2, e⟩ | ⟨q2, e⟩
      · refine zF_blk (m := []) (d := 1) (b := B107_14) (gs := [¬ v2 = (-1)]) (c' := (103, [some (21, 0), none, some (0, v2), some (0, v3), some (0, v4)], [], (h, hm, o))) K107_14 rfl ⟨q2, trivial⟩ ?_
        refine zF_blk (m := []) (d := 0) (b := B107_12) (gs := []) (c' := (104, [some (21, 0), none, some (0, v2), some (0, v3), some (0, v4)], [(0, (-1))], (h, hm, o))) K107_12 rfl trivial ?_
        exact zF_riC (by decide +kernel) e
      · refine zF_blk (m := []) (d := 0) (b := B107_14) (gs := [¬ (¬ v2 = (-1))]) (c' := (99, [some (21, 0), none, some (0, v2), some (0, v3), some (0, v4)], [], (h, hm, o))) K107_14 rfl ⟨q2, trivial⟩ ?_
        refine zF_blk (m := []) (d := 0) (b := B107_13) (gs := []) (c' := (104, [some (21, 0), none, some (0, v2), some (0, v3), some (0, v4)], [(0, v3)], (h, hm, o))) K107_13 rfl trivial ?_
        exact zF_riC (by decide +kernel) e
    · refine zF_blk (m := []) (d := 0) (b := B107_22) (gs := [¬ (64 ≤ v4)]) (c' := (59, [some (21, 0), none, some (0, v2), some (0, v3), some (0, v4)], [], (h, hm, o))) K107_22 rfl ⟨q1, trivial⟩ ?_
      obtain ⟨r1, q3, e⟩ := zB_s e
      refine zF_blk (m := []) (d := 0) (b := B107_15) (gs := []) (c' := (62, [some (21, 0), none, some (0, v2), some (0, v3), some (0, v4)], [(0, v4), (21, 0)], (h, hm, o))) K107_15 rfl trivial ?_
      refine zF_call (k := 104) (cl := 11) (n := 2) (i := .invokevirtual 249) (args := [(21, 0), (0, v4)]) (rest := []) (g1 := (h, hm, o)) (r1 := some (0, r1)) (by decide +kernel) rfl rfl rfl (st' := [(0, r1)]) rfl (S104 (Nat.le_trans (by decide) hd) v4 h _ q3) ?_
      rcases zI_s e with ⟨q4, e⟩ | ⟨q4, e⟩
      · refine zF_blk (m := []) (d := 1) (b := B107_21) (gs := [r1 = 0]) (c' := (88, [some (21, 0), none, some (0, v2), some (0, v3), some (0, v4)], [], (h, hm, o))) K107_21 rfl ⟨q4, trivial⟩ ?_
        exact T107_3 hd (F107_1 n) hk0 v2 v3 v4 h _ e
      · refine zF_blk (m := []) (d := 0) (b := B107_21) (gs := [¬ (r1 = 0)]) (c' := (68, [some (21, 0), none, some (0, v2), some (0, v3), some (0, v4)], [], (h, hm, o))) K107_21 rfl ⟨q4, trivial⟩ ?_
        obtain ⟨r2, q5, e⟩ := zB_s e
        refine zF_blk (m := []) (d := 0) (b := B107_16) (gs := []) (c' := (71, [some (21, 0), none, some (0, v2), some (0, v3), some (0, v4)], [(0, v4), (21, 0)], (h, hm, o))) K107_16 rfl trivial ?_
        refine zF_call (k := 109) (cl := 11) (n := 2) (i := .invokevirtual 259) (args := [(21, 0), (0, v4)]) (rest := []) (g1 := (h, hm, o)) (r1 := some (0, r2)) (by decide +kernel) rfl rfl rfl (st' := [(0, r2)]) rfl (S109 (Nat.le_trans (by decide) hd) v4 h _ q5) ?_
        rcases zI_s e with ⟨q6, e⟩ | ⟨q6, e⟩
        · refine zF_blk (m := []) (d := 1) (b := B107_20) (gs := [r2 = 0]) (c' := (88, [some (21, 0), none, some (0, v2), some (0, v3), some (0, v4)], [], (h, hm, o))) K107_20 rfl ⟨q6, trivial⟩ ?_
          exact T107_3 hd (F107_1 n) hk0 v2 v3 v4 h _ e
        · refine zF_blk (m := []) (d := 0) (b := B107_20) (gs := [¬ (r2 = 0)]) (c' := (77, [some (21, 0), none, some (0, v2), some (0, v3), some (0, v4)], [], (h, hm, o))) K107_20 rfl ⟨q6, trivial⟩ ?_
          rcases zI_s e with ⟨q7, e⟩ | ⟨q7, e⟩
          · refine zF_blk (m := []) (d := 1) (b := B107_19) (gs := [¬ v3 = v2]) (c' := (85, [some (21, 0), none, some (0, v2), some (0, v3), some (0, v4)], [], (h, hm, o))) K107_19 rfl ⟨q7, trivial⟩ ?_
            refine zF_blk (m := []) (d := 0) (b := B107_17) (gs := []) (c' := (88, [some (21, 0), none, some (0, v2), some (0, (wadd v3 1)), some (0, v4)], [], (h, hm, o))) K107_17 rfl trivial ?_
            exact T107_3 hd (F107_1 n) hk0 v2 (wadd v3 1) v4 h _ e
          · refine zF_blk (m := []) (d := 0) (b := B107_19) (gs := [¬ (¬ v3 = v2)]) (c' := (82, [some (21, 0), none, some (0, v2), some (0, v3), some (0, v4)], [], (h, hm, o))) K107_19 rfl ⟨q7, trivial⟩ ?_
            refine zF_blk (m := []) (d := 0) (b := B107_18) (gs := []) (c' := (84, [some (21, 0), none, some (0, v2), some (0, v3), some (0, v4)], [(0, v4)], (h, hm, o))) K107_18 rfl trivial ?_
            exact zF_riC (by decide +kernel) e
def F107_2 (k0 : Int → Int → Int → zHC → Option (Int × zHC)) (v1 : Int) (v2 : Int) (v3 : Int) (h : zHC) : Option (Int × zHC) := k0 v1 v2 (wadd v3 1) h
set_option maxRecDepth 100000 in
theorem T107_2 {spec : zRn zH2} {hm : zHM} {o : Int → Int} {d : Nat} (hd : 7 ≤ d) (k0 : Int → Int → Int → zHC → Option (Int × zHC)) (hk0 : ∀ (v1 : Int) (v2 : Int) (v3 : Int) (h : zHC) (v : (Int × zHC)), k0 v1 v2 v3 h = some v → zFin 0 (fun _ => 0) (zRu2 spec d) 107 (some (0, v.1)) (v.2, hm, o) (16, [some (21, 0), some (0, v1), some (0, v2), some (0, v3), none], [], (h, hm, o))) (v1 : Int) (v2 : Int) (v3 : Int) (h : zHC) (v : (Int × zHC)) (e : F107_2 k0 v1 v2 v3 h = some v) : zFin 0 (fun _ => 0) (zRu2 spec d) 107 (some (0, v.1)) (v.2, hm, o) (41, [some (21, 0), some (0, v1), some (0, v2), some (0, v3), none], [], (h, hm, o)) := by
  unfold F107_2 at e
  refine zF_blk (m := []) (d := 0) (b := B107_11) (gs := []) (c' := (16, [some (21, 0), some (0, v1), some (0, v2), some (0, (wadd v3 1)), none], [], (h, hm, o))) K107_11 rfl trivial ?_
  exact hk0 v1 v2 (wadd v3 1) h _ e
def F107_0 : Nat → Int → Int → Int → zHC → Option (Int × zHC)
  | 0, _, _, _, _ => none
  | n + 1, v1, v2, v3, h => if 64 ≤ v3 then F107_1 zFu v2 0 0 h else (F104 v3 h).bind fun r1 => if r1 = 0 then F107_2 (F107_0 n) v1 v2 v3 h else (F106 v3 v1 h).bind fun r2 => (F108 v3 r2).bind fun r3 => F107_2 (F107_0 n) v1 v2 v3 r3
set_option maxRecDepth 100000 in
theorem T107_0 {spec : zRn zH2} {hm : zHM} {o : Int → Int} {d : Nat} (hd : 7 ≤ d) : ∀ (n : Nat) (v1 : Int) (v2 : Int) (v3 : Int) (h : zHC) (v : (Int × zHC)), F107_0 n v1 v2 v3 h = some v → zFin 0 (fun _ => 0) (zRu2 spec d) 107 (some (0, v.1)) (v.2, hm, o) (16, [some (21, 0), some (0, v1), some (0, v2), some (0, v3), none], [], (h, hm, o)) := by
  intro n
  induction n with
  | zero => intro v1 v2 v3 h v e; unfold F107_0 at e; cases e
  | succ n hk0 =>
    intro v1 v2 v3 h v e
    unfold F107_0 at e
    rcases zI_s e with ⟨q1, e⟩ | ⟨q1, e⟩
    · refine zF_blk (m := []) (d := 1) (b := B107_10) (gs := [64 ≤ v3]) (c' := (47, [some (21, 0), some (0, v1), some (0, v2), some (0, v3), none], [], (h, hm, o))) K107_10 rfl ⟨q1, trivial⟩ ?_
      refine zF_blk (m := []) (d := 0) (b := B107_5) (gs := []) (c' := (52, [some (21, 0), some (0, v1), some (0, v2), some (0, 0), some (0, 0)], [], (h, hm, o))) K107_5 rfl trivial ?_
      refine zF_blk (m := [true, false, true, true, true]) (d := 0) (b := []) (gs := []) (c' := (52, [some (21, 0), none, some (0, v2), some (0, 0), some (0, 0)], [], (h, hm, o))) rfl rfl trivial ?_
      exact T107_1 hd zFu v2 0 0 h _ e
    · refine zF_blk (m := []) (d := 0) (b := B107_10) (gs := [¬ (64 ≤ v3)]) (c' := (22, [some (21, 0), some (0, v1), some (0, v2), some (0, v3), none], [], (h, hm, o))) K107_10 rfl ⟨q1, trivial⟩ ?_
      obtain ⟨r1, q2, e⟩ := zB_s e
      refine zF_blk (m := []) (d := 0) (b := B107_6) (gs := []) (c' := (24, [some (21, 0), some (0, v1), some (0, v2), some (0, v3), none], [(0, v3), (21, 0)], (h, hm, o))) K107_6 rfl trivial ?_
      refine zF_call (k := 104) (cl := 11) (n := 2) (i := .invokevirtual 249) (args := [(21, 0), (0, v3)]) (rest := []) (g1 := (h, hm, o)) (r1 := some (0, r1)) (by decide +kernel) rfl rfl rfl (st' := [(0, r1)]) rfl (S104 (Nat.le_trans (by decide) hd) v3 h _ q2) ?_
      rcases zI_s e with ⟨q3, e⟩ | ⟨q3, e⟩
      · refine zF_blk (m := []) (d := 1) (b := B107_9) (gs := [r1 = 0]) (c' := (41, [some (21, 0), some (0, v1), some (0, v2), some (0, v3), none], [], (h, hm, o))) K107_9 rfl ⟨q3, trivial⟩ ?_
        exact T107_2 hd (F107_0 n) hk0 v1 v2 v3 h _ e
      · refine zF_blk (m := []) (d := 0) (b := B107_9) (gs := [¬ (r1 = 0)]) (c' := (30, [some (21, 0), some (0, v1), some (0, v2), some (0, v3), none], [], (h, hm, o))) K107_9 rfl ⟨q3, trivial⟩ ?_
        obtain ⟨r2, q4, e⟩ := zB_s e
        refine zF_blk (m := []) (d := 0) (b := B107_7) (gs := []) (c' := (33, [some (21, 0), some (0, v1), some (0, v2), some (0, v3), none], [(0, v1), (0, v3), (21, 0)], (h, hm, o))) K107_7 rfl trivial ?_
        refine zF_call (k := 106) (cl := 11) (n := 3) (i := .invokevirtual 252) (args := [(21, 0), (0, v3), (0, v1)]) (rest := []) (g1 := (r2, hm, o)) (r1 := none) (by decide +kernel) rfl rfl rfl (st' := []) rfl (S106 (Nat.le_trans (by decide) hd) v3 v1 h _ q4) ?_
        obtain ⟨r3, q5, e⟩ := zB_s e
        refine zF_blk (m := []) (d := 0) (b := B107_8) (gs := []) (c' := (38, [some (21, 0), some (0, v1), some (0, v2), some (0, v3), none], [(0, v3), (21, 0)], (r2, hm, o))) K107_8 rfl trivial ?_
        refine zF_call (k := 108) (cl := 11) (n := 2) (i := .invokevirtual 256) (args := [(21, 0), (0, v3)]) (rest := []) (g1 := (r3, hm, o)) (r1 := none) (by decide +kernel) rfl rfl rfl (st' := []) rfl (S108 (Nat.le_trans (by decide) hd) v3 r2 _ q5) ?_
        exact T107_2 hd (F107_0 n) hk0 v1 v2 v3 r3 _ e
/-- EchoVale.rests(II)I -/
def F107 (v1 : Int) (v2 : Int) (h : zHC) : Option (Int × zHC) := (F99 v1).bind fun r1 => if r1 = 0 then some ((-1), h) else if (-1) ≤ v2 then F107_0 zFu v1 v2 0 h else some ((-1), h)
set_option maxRecDepth 100000 in
theorem S107 {spec : zRn zH2} {hm : zHM} {o : Int → Int} {d : Nat} (hd : 8 ≤ d) (v1 : Int) (v2 : Int) (h : zHC) (v : (Int × zHC)) (e : F107 v1 v2 h = some v) : zRu2 spec d 107 [(21, 0), (0, v1), (0, v2)] (h, hm, o) (some (0, v.1)) (v.2, hm, o) := by
  refine zF_in (D := 7) (mx := 5) (L := [some (21, 0), some (0, v1), some (0, v2), none, none]) (by decide +kernel) rfl rfl hd (fun d hd => ?_)
  unfold F107 at e
  obtain ⟨r1, q1, e⟩ := zB_s e
  refine zF_blk (m := []) (d := 0) (b := B107_0) (gs := []) (c' := (1, [some (21, 0), some (0, v1), some (0, v2), none, none], [(0, v1)], (h, hm, o))) K107_0 rfl trivial ?_
  refine zF_call (k := 99) (cl := 11) (n := 1) (i := .invokestatic 242) (args := [(0, v1)]) (rest := []) (g1 := (h, hm, o)) (r1 := some (0, r1)) (by decide +kernel) rfl rfl rfl (st' := [(0, r1)]) rfl (S99 (Nat.le_trans (by decide) hd) v1 h _ q1) ?_
  rcases zI_s e with ⟨q2, e⟩ | ⟨q2, e⟩
  · refine zF_blk (m := []) (d := 1) (b := B107_4) (gs := [r1 = 0]) (c' := (12, [some (21, 0), some (0, v1), some (0, v2), none, none], [], (h, hm, o))) K107_4 rfl ⟨q2, trivial⟩ ?_
    refine zF_blk (m := []) (d := 0) (b := B107_1) (gs := []) (c' := (13, [some (21, 0), some (0, v1), some (0, v2), none, none], [(0, (-1))], (h, hm, o))) K107_1 rfl trivial ?_
    exact zF_riC (by decide +kernel) e
  · refine zF_blk (m := []) (d := 0) (b := B107_4) (gs := [¬ (r1 = 0)]) (c' := (7, [some (21, 0), some (0, v1), some (0, v2), none, none], [], (h, hm, o))) K107_4 rfl ⟨q2, trivial⟩ ?_
    rcases zI_s e with ⟨q3, e⟩ | ⟨q3, e⟩
    · refine zF_blk (m := []) (d := 1) (b := B107_3) (gs := [(-1) ≤ v2]) (c' := (14, [some (21, 0), some (0, v1), some (0, v2), none, none], [], (h, hm, o))) K107_3 rfl ⟨q3, trivial⟩ ?_
      refine zF_blk (m := []) (d := 0) (b := B107_2) (gs := []) (c' := (16, [some (21, 0), some (0, v1), some (0, v2), some (0, 0), none], [], (h, hm, o))) K107_2 rfl trivial ?_
      exact T107_0 hd zFu v1 v2 0 h _ e
    · refine zF_blk (m := []) (d := 0) (b := B107_3) (gs := [¬ ((-1) ≤ v2)]) (c' := (12, [some (21, 0), some (0, v1), some (0, v2), none, none], [], (h, hm, o))) K107_3 rfl ⟨q3, trivial⟩ ?_
      refine zF_blk (m := []) (d := 0) (b := B107_1) (gs := []) (c' := (13, [some (21, 0), some (0, v1), some (0, v2), none, none], [(0, (-1))], (h, hm, o))) K107_1 rfl trivial ?_
      exact zF_riC (by decide +kernel) e
def B251_0 : List zRow := [(0, .iconst 0, 1, (0, 0, 0)), (1, .istore_n 3, 1, (0, 0, 0))]
theorem K251_0 : zRk 251 B251_0 = true := by decide +kernel
def B251_1 : List zRow := [(57, .iconst 1, 1, (0, 0, 0))]
theorem K251_1 : zRk 251 B251_1 = true := by decide +kernel
def B251_2 : List zRow := [(12, .iload_n 2, 1, (0, 0, 0)), (13, .iload_n 3, 1, (0, 0, 0))]
theorem K251_2 : zRk 251 B251_2 = true := by decide +kernel
def B251_3 : List zRow := [(20, .aload_n 0, 1, (0, 0, 0)), (21, .getfield 42, 3, (12, 25, 5244418)), (24, .bipush 6, 2, (0, 0, 0)), (26, .iload_n 1, 1, (0, 0, 0)), (27, .iconst 1, 1, (0, 0, 0)), (28, .iload_n 3, 1, (0, 0, 0)), (29, .ishl, 1, (0, 0, 0)), (30, .ixor, 1, (0, 0, 0))]
theorem K251_3 : zRk 251 B251_3 = true := by decide +kernel
def B251_4 : List zRow := [(31, .imul, 1, (0, 0, 0)), (32, .iload_n 3, 1, (0, 0, 0)), (33, .iadd, 1, (0, 0, 0)), (34, .iaload, 1, (0, 0, 0)), (35, .aload_n 0, 1, (0, 0, 0)), (36, .getfield 42, 3, (12, 25, 5244418)), (39, .bipush 6, 2, (0, 0, 0)), (41, .iload_n 1, 1, (0, 0, 0))]
theorem K251_4 : zRk 251 B251_4 = true := by decide +kernel
def B251_5 : List zRow := [(49, .iconst 0, 1, (0, 0, 0))]
theorem K251_5 : zRk 251 B251_5 = true := by decide +kernel
def B251_6 : List zRow := [(42, .imul, 1, (0, 0, 0)), (43, .iload_n 3, 1, (0, 0, 0)), (44, .iadd, 1, (0, 0, 0)), (45, .iaload, 1, (0, 0, 0)), (46, .if_icmp .le 5, 3, (0, 0, 0))]
theorem K251_6 : zRk 251 B251_6 = true := by decide +kernel
def B251_7 : List zRow := [(17, .ifCond .eq 34, 3, (0, 0, 0))]
theorem K251_7 : zRk 251 B251_7 = true := by decide +kernel
def B251_8 : List zRow := [(2, .iload_n 3, 1, (0, 0, 0)), (3, .aload_n 0, 1, (0, 0, 0)), (4, .getfield 13, 3, (12, 14, 5251442)), (7, .iconst 3, 1, (0, 0, 0)), (8, .iaload, 1, (0, 0, 0)), (9, .if_icmp .ge 48, 3, (0, 0, 0))]
theorem K251_8 : zRk 251 B251_8 = true := by decide +kernel
def B251_9 : List zRow := [(51, .iinc 3 1, 3, (0, 0, 0)), (54, .goto (-52), 3, (0, 0, 0))]
theorem K251_9 : zRk 251 B251_9 = true := by decide +kernel
def F251_1 (k0 : Int → Int → Int → Option Int) (h : zHM) (v1 : Int) (v2 : Int) (v3 : Int) : Option Int := k0 v1 v2 (wadd v3 1)
set_option maxRecDepth 100000 in
theorem T251_1 {spec : zRn zH2} {hc : zHC} {o : Int → Int} {d : Nat} (hd : 1 ≤ d) (h : zHM) (k0 : Int → Int → Int → Option Int) (hk0 : ∀ (v1 : Int) (v2 : Int) (v3 : Int) (v : Int), k0 v1 v2 v3 = some v → zFin 0 (fun _ => 0) (zRu2 spec d) 251 (some (0, v)) (hc, h, o) (2, [some (22, 0), some (0, v1), some (0, v2), some (0, v3)], [], (hc, h, o))) (v1 : Int) (v2 : Int) (v3 : Int) (v : Int) (e : F251_1 k0 h v1 v2 v3 = some v) : zFin 0 (fun _ => 0) (zRu2 spec d) 251 (some (0, v)) (hc, h, o) (51, [some (22, 0), some (0, v1), some (0, v2), some (0, v3)], [], (hc, h, o)) := by
  unfold F251_1 at e
  refine zF_blk (m := []) (d := 0) (b := B251_9) (gs := []) (c' := (2, [some (22, 0), some (0, v1), some (0, v2), some (0, (wadd v3 1))], [], (hc, h, o))) K251_9 rfl trivial ?_
  exact hk0 v1 v2 (wadd v3 1) _ e
def F251_0 (h : zHM) : Nat → Int → Int → Int → Option Int
  | 0, _, _, _ => none
  | n + 1, v1, v2, v3 => if (h 14 3) ≤ v3 then some 1 else (F214 v2 v3).bind fun r1 => if r1 = 0 then F251_1 (F251_0 h n) h v1 v2 v3 else zG (0 ≤ (wadd (wmul 6 (wxor v1 (wshl 1 v3))) v3) ∧ (wadd (wmul 6 (wxor v1 (wshl 1 v3))) v3) < 384) (zG (0 ≤ (wadd (wmul 6 v1) v3) ∧ (wadd (wmul 6 v1) v3) < 384) (if (h 25 (wadd (wmul 6 (wxor v1 (wshl 1 v3))) v3)) ≤ (h 25 (wadd (wmul 6 v1) v3)) then F251_1 (F251_0 h n) h v1 v2 v3 else some 0))
set_option maxRecDepth 100000 in
theorem T251_0 {spec : zRn zH2} {hc : zHC} {o : Int → Int} {d : Nat} (hd : 1 ≤ d) (h : zHM) : ∀ (n : Nat) (v1 : Int) (v2 : Int) (v3 : Int) (v : Int), F251_0 h n v1 v2 v3 = some v → zFin 0 (fun _ => 0) (zRu2 spec d) 251 (some (0, v)) (hc, h, o) (2, [some (22, 0), some (0, v1), some (0, v2), some (0, v3)], [], (hc, h, o)) := by
  intro n
  induction n with
  | zero => intro v1 v2 v3 v e; unfold F251_0 at e; cases e
  | succ n hk0 =>
    intro v1 v2 v3 v e
    unfold F251_0 at e
    rcases zI_s e with ⟨q1, e⟩ | ⟨q1, e⟩
    · refine zF_blk (m := []) (d := 1) (b := B251_8) (gs := [0 ≤ 3 ∧ 3 < 2140, (h 14 3) ≤ v3]) (c' := (57, [some (22, 0), some (0, v1), some (0, v2), some (0, v3)], [], (hc, h, o))) K251_8 rfl ⟨by decide, q1, trivial⟩ ?_
      refine zF_blk (m := []) (d := 0) (b := B251_1) (gs := []) (c' := (58, [some (22, 0), some (0, v1), some (0, v2), some (0, v3)], [(0, 1)], (hc, h, o))) K251_1 rfl trivial ?_
      obtain rfl := Option.some.inj e
      exact zF_rb (by decide +kernel) (Or.inr rfl)
    · refine zF_blk (m := []) (d := 0) (b := B251_8) (gs := [0 ≤ 3 ∧ 3 < 2140, ¬ ((h 14 3) ≤ v3)]) (c' := (12, [some (22, 0), some (0, v1), some (0, v2), some (0, v3)], [], (hc, h, o))) K251_8 rfl ⟨by decide, q1, trivial⟩ ?_
      obtain ⟨r1, q2, e⟩ := zB_s e
      refine zF_blk (m := []) (d := 0) (b := B251_2) (gs := []) (c' := (14, [some (22, 0), some (0, v1), some (0, v2), some (0, v3)], [(0, v3), (0, v2)], (hc, h, o))) K251_2 rfl trivial ?_
      refine zF_call (k := 214) (cl := 12) (n := 2) (i := .invokestatic 251) (args := [(0, v2), (0, v3)]) (rest := []) (g1 := (hc, h, o)) (r1 := some (0, r1)) (by decide +kernel) rfl rfl rfl (st' := [(0, r1)]) rfl (S214 (Nat.le_trans (by decide) hd) v2 v3 h _ q2) ?_
      rcases zI_s e with ⟨q3, e⟩ | ⟨q3, e⟩
      · refine zF_blk (m := []) (d := 1) (b := B251_7) (gs := [r1 = 0]) (c' := (51, [some (22, 0), some (0, v1), some (0, v2), some (0, v3)], [], (hc, h, o))) K251_7 rfl ⟨q3, trivial⟩ ?_
        exact T251_1 hd h (F251_0 h n) hk0 v1 v2 v3 _ e
      · refine zF_blk (m := []) (d := 0) (b := B251_7) (gs := [¬ (r1 = 0)]) (c' := (20, [some (22, 0), some (0, v1), some (0, v2), some (0, v3)], [], (hc, h, o))) K251_7 rfl ⟨q3, trivial⟩ ?_
        obtain ⟨q4, e⟩ := zG_s e
        obtain ⟨q5, e⟩ := zG_s e
        refine zF_blk (m := []) (d := 0) (b := B251_3) (gs := []) (c' := (31, [some (22, 0), some (0, v1), some (0, v2), some (0, v3)], [(0, (wxor v1 (wshl 1 v3))), (0, 6), (1342572289, 0)], (hc, h, o))) K251_3 rfl trivial ?_
        refine zF_blk (m := []) (d := 0) (b := B251_4) (gs := [0 ≤ (wadd (wmul 6 (wxor v1 (wshl 1 v3))) v3) ∧ (wadd (wmul 6 (wxor v1 (wshl 1 v3))) v3) < 384]) (c' := (42, [some (22, 0), some (0, v1), some (0, v2), some (0, v3)], [(0, v1), (0, 6), (1342572289, 0), (0, (h 25 (wadd (wmul 6 (wxor v1 (wshl 1 v3))) v3)))], (hc, h, o))) K251_4 rfl ⟨q4, trivial⟩ ?_
        rcases zI_s e with ⟨q6, e⟩ | ⟨q6, e⟩
        · refine zF_blk (m := []) (d := 1) (b := B251_6) (gs := [0 ≤ (wadd (wmul 6 v1) v3) ∧ (wadd (wmul 6 v1) v3) < 384, (h 25 (wadd (wmul 6 (wxor v1 (wshl 1 v3))) v3)) ≤ (h 25 (wadd (wmul 6 v1) v3))]) (c' := (51, [some (22, 0), some (0, v1), some (0, v2), some (0, v3)], [], (hc, h, o))) K251_6 rfl ⟨q5, q6, trivial⟩ ?_
          exact T251_1 hd h (F251_0 h n) hk0 v1 v2 v3 _ e
        · refine zF_blk (m := []) (d := 0) (b := B251_6) (gs := [0 ≤ (wadd (wmul 6 v1) v3) ∧ (wadd (wmul 6 v1) v3) < 384, ¬ ((h 25 (wadd (wmul 6 (wxor v1 (wshl 1 v3))) v3)) ≤ (h 25 (wadd (wmul 6 v1) v3)))]) (c' := (49, [some (22, 0), some (0, v1), some (0, v2), some (0, v3)], [], (hc, h, o))) K251_6 rfl ⟨q5, q6, trivial⟩ ?_
          refine zF_blk (m := []) (d := 0) (b := B251_5) (gs := []) (c' := (50, [some (22, 0), some (0, v1), some (0, v2), some (0, v3)], [(0, 0)], (hc, h, o))) K251_5 rfl trivial ?_
          obtain rfl := Option.some.inj e
          exact zF_rb (by decide +kernel) (Or.inl rfl)
/-- EchoValeModel.isRest(II)Z -/
def F251 (v1 : Int) (v2 : Int) (h : zHM) : Option Int := F251_0 h zFu v1 v2 0
set_option maxRecDepth 100000 in
theorem S251 {spec : zRn zH2} {hc : zHC} {o : Int → Int} {d : Nat} (hd : 2 ≤ d) (v1 : Int) (v2 : Int) (h : zHM) (v : Int) (e : F251 v1 v2 h = some v) : zRu2 spec d 251 [(22, 0), (0, v1), (0, v2)] (hc, h, o) (some (0, v)) (hc, h, o) := by
  refine zF_in (D := 1) (mx := 4) (L := [some (22, 0), some (0, v1), some (0, v2), none]) (by decide +kernel) rfl rfl hd (fun d hd => ?_)
  unfold F251 at e
  refine zF_blk (m := []) (d := 0) (b := B251_0) (gs := []) (c' := (2, [some (22, 0), some (0, v1), some (0, v2), some (0, 0)], [], (hc, h, o))) K251_0 rfl trivial ?_
  exact T251_0 hd h zFu v1 v2 0 _ e
def B250_0 : List zRow := [(0, .aload_n 0, 1, (0, 0, 0)), (1, .iconst 0, 1, (0, 0, 0)), (2, .putfield 81, 3, (12, 0, 0)), (5, .iload_n 1, 1, (0, 0, 0))]
theorem K250_0 : zRk 250 B250_0 = true := by decide +kernel
def B250_1 : List zRow := [(14, .aload_n 0, 1, (0, 0, 0))]
theorem K250_1 : zRk 250 B250_1 = true := by decide +kernel
def B250_2 : List zRow := [(18, .istore_n 3, 1, (0, 0, 0)), (19, .iconst 0, 1, (0, 0, 0)), (20, .istore 4, 2, (0, 0, 0))]
theorem K250_2 : zRk 250 B250_2 = true := by decide +kernel
def B250_3 : List zRow := [(12, .iconst (-1), 1, (0, 0, 0))]
theorem K250_3 : zRk 250 B250_3 = true := by decide +kernel
def B250_4 : List zRow := [(9, .ifCond .ne 5, 3, (0, 0, 0))]
theorem K250_4 : zRk 250 B250_4 = true := by decide +kernel
def B250_5 : List zRow := [(50, .iconst 0, 1, (0, 0, 0)), (51, .istore 4, 2, (0, 0, 0)), (53, .iconst 0, 1, (0, 0, 0)), (54, .istore 5, 2, (0, 0, 0))]
theorem K250_5 : zRk 250 B250_5 = true := by decide +kernel
def B250_6 : List zRow := [(37, .aload_n 0, 1, (0, 0, 0)), (38, .iload 4, 2, (0, 0, 0)), (40, .iload_n 1, 1, (0, 0, 0))]
theorem K250_6 : zRk 250 B250_6 = true := by decide +kernel
def B250_7 : List zRow := [(28, .iload 4, 2, (0, 0, 0)), (30, .iload_n 3, 1, (0, 0, 0)), (31, .iconst (-1), 1, (0, 0, 0)), (32, .ixor, 1, (0, 0, 0)), (33, .iand, 1, (0, 0, 0)), (34, .ifCond .ne 10, 3, (0, 0, 0))]
theorem K250_7 : zRk 250 B250_7 = true := by decide +kernel
def B250_8 : List zRow := [(22, .iload 4, 2, (0, 0, 0)), (24, .iload_n 3, 1, (0, 0, 0)), (25, .if_icmp .gt 25, 3, (0, 0, 0))]
theorem K250_8 : zRk 250 B250_8 = true := by decide +kernel
def B250_9 : List zRow := [(44, .iinc 4 1, 3, (0, 0, 0)), (47, .goto (-25), 3, (0, 0, 0))]
theorem K250_9 : zRk 250 B250_9 = true := by decide +kernel
def B250_10 : List zRow := [(112, .iconst (-1), 1, (0, 0, 0))]
theorem K250_10 : zRk 250 B250_10 = true := by decide +kernel
def B250_11 : List zRow := [(107, .iload 4, 2, (0, 0, 0)), (109, .goto 4, 3, (0, 0, 0))]
theorem K250_11 : zRk 250 B250_11 = true := by decide +kernel
def B250_12 : List zRow := [(102, .iload_n 2, 1, (0, 0, 0)), (103, .iconst (-1), 1, (0, 0, 0)), (104, .if_icmp .ne 8, 3, (0, 0, 0))]
theorem K250_12 : zRk 250 B250_12 = true := by decide +kernel
def B250_13 : List zRow := [(71, .aload_n 0, 1, (0, 0, 0)), (72, .iload 5, 2, (0, 0, 0)), (74, .iload_n 3, 1, (0, 0, 0))]
theorem K250_13 : zRk 250 B250_13 = true := by decide +kernel
def B250_14 : List zRow := [(93, .iinc 4 1, 3, (0, 0, 0))]
theorem K250_14 : zRk 250 B250_14 = true := by decide +kernel
def B250_15 : List zRow := [(90, .iload 5, 2, (0, 0, 0))]
theorem K250_15 : zRk 250 B250_15 = true := by decide +kernel
def B250_16 : List zRow := [(84, .iload 4, 2, (0, 0, 0)), (86, .iload_n 2, 1, (0, 0, 0)), (87, .if_icmp .ne 6, 3, (0, 0, 0))]
theorem K250_16 : zRk 250 B250_16 = true := by decide +kernel
def B250_17 : List zRow := [(81, .goto 15, 3, (0, 0, 0))]
theorem K250_17 : zRk 250 B250_17 = true := by decide +kernel
def B250_18 : List zRow := [(78, .ifCond .ne 6, 3, (0, 0, 0))]
theorem K250_18 : zRk 250 B250_18 = true := by decide +kernel
def B250_19 : List zRow := [(62, .iload 5, 2, (0, 0, 0)), (64, .iload_n 3, 1, (0, 0, 0)), (65, .iconst (-1), 1, (0, 0, 0)), (66, .ixor, 1, (0, 0, 0)), (67, .iand, 1, (0, 0, 0)), (68, .ifCond .ne 28, 3, (0, 0, 0))]
theorem K250_19 : zRk 250 B250_19 = true := by decide +kernel
def B250_20 : List zRow := [(56, .iload 5, 2, (0, 0, 0)), (58, .iload_n 3, 1, (0, 0, 0)), (59, .if_icmp .gt 43, 3, (0, 0, 0))]
theorem K250_20 : zRk 250 B250_20 = true := by decide +kernel
def B250_21 : List zRow := [(96, .iinc 5 1, 3, (0, 0, 0)), (99, .goto (-43), 3, (0, 0, 0))]
theorem K250_21 : zRk 250 B250_21 = true := by decide +kernel
def F250_3 (k0 : Int → Int → Int → Int → zHM → Option (Int × zHM)) (v2 : Int) (v3 : Int) (v4 : Int) (v5 : Int) (h : zHM) : Option (Int × zHM) := k0 v2 v3 v4 (wadd v5 1) h
set_option maxRecDepth 100000 in
theorem T250_3 {spec : zRn zH2} {hc : zHC} {o : Int → Int} {d : Nat} (hd : 7 ≤ d) (k0 : Int → Int → Int → Int → zHM → Option (Int × zHM)) (hk0 : ∀ (v2 : Int) (v3 : Int) (v4 : Int) (v5 : Int) (h : zHM) (v : (Int × zHM)), k0 v2 v3 v4 v5 h = some v → zFin 0 (fun _ => 0) (zRu2 spec d) 250 (some (0, v.1)) (hc, v.2, o) (56, [some (22, 0), none, some (0, v2), some (0, v3), some (0, v4), some (0, v5)], [], (hc, h, o))) (v2 : Int) (v3 : Int) (v4 : Int) (v5 : Int) (h : zHM) (v : (Int × zHM)) (e : F250_3 k0 v2 v3 v4 v5 h = some v) : zFin 0 (fun _ => 0) (zRu2 spec d) 250 (some (0, v.1)) (hc, v.2, o) (96, [some (22, 0), none, some (0, v2), some (0, v3), some (0, v4), some (0, v5)], [], (hc, h, o)) := by
  unfold F250_3 at e
  refine zF_blk (m := []) (d := 0) (b := B250_21) (gs := []) (c' := (56, [some (22, 0), none, some (0, v2), some (0, v3), some (0, v4), some (0, (wadd v5 1))], [], (hc, h, o))) K250_21 rfl trivial ?_
  exact hk0 v2 v3 v4 (wadd v5 1) h _ e
def F250_1 : Nat → Int → Int → Int → Int → zHM → Option (Int × zHM)
  | 0, _, _, _, _, _ => none
  | n + 1, v2, v3, v4, v5, h => if v3 < v5 then if ¬ v2 = (-1) then some ((-1), h) else some (v4, h) else if ¬ (wand v5 (wxor v3 (-1))) = 0 then F250_3 (F250_1 n) v2 v3 v4 v5 h else (F251 v5 v3 h).bind fun r1 => if ¬ r1 = 0 then if ¬ v4 = v2 then F250_3 (F250_1 n) v2 v3 (wadd v4 1) v5 h else some (v5, h) else F250_3 (F250_1 n) v2 v3 v4 v5 h
set_option maxRecDepth 100000 in
theorem T250_1 {spec : zRn zH2} {hc : zHC} {o : Int → Int} {d : Nat} (hd : 7 ≤ d) : ∀ (n : Nat) (v2 : Int) (v3 : Int) (v4 : Int) (v5 : Int) (h : zHM) (v : (Int × zHM)), F250_1 n v2 v3 v4 v5 h = some v → zFin 0 (fun _ => 0) (zRu2 spec d) 250 (some (0, v.1)) (hc, v.2, o) (56, [some (22, 0), none, some (0, v2), some (0, v3), some (0, v4), some (0, v5)], [], (hc, h, o)) := by
  intro n
  induction n with
  | zero => intro v2 v3 v4 v5 h v e; unfold F250_1 at e; cases e
  | succ n hk0 =>
    intro v2 v3 v4 v5 h v e
    unfold F250_1 at e
    rcases zI_s e with ⟨q1, e⟩ | ⟨q1, e⟩
    · refine zF_blk (m := []) (d := 1) (b := B250_20) (gs := [v3 < v5]) (c' := (102, [some (22, 0), none, some (0, v2), some (0, v3), some (0, v4), some (0, v5)], [], (hc, h, o))) K250_20 rfl ⟨q1, trivial⟩ ?_
      rcases zI_s e with ⟨q2, e⟩ | ⟨q2, e⟩
      · refine zF_blk (m := []) (d := 1) (b := B250_12) (gs := [¬ v2 = (-1)]) (c' := (112, [some (22, 0), none, some (0, v2), some (0, v3), some (0, v4), some (0, v5)], [], (hc, h, o))) K250_12 rfl ⟨q2, trivial⟩ ?_
        refine zF_blk (m := []) (d := 0) (b := B250_10) (gs := []) (c' := (113, [some (22, 0), none, some (0, v2), some (0, v3), some (0, v4), some (0, v5)], [(0, (-1))], (hc, h, o))) K250_10 rfl trivial ?_
        exact zF_riM (by decide +kernel) e
      · refine zF_blk (m := []) (d := 0) (b := B250_12) (gs := [¬ (¬ v2 = (-1))]) (c' := (107, [some (22, 0), none, some (0, v2), some (0, v3), some (0, v4), some (0, v5)], [], (hc, h, o))) K250_12 rfl ⟨q2, trivial⟩ ?_
        refine zF_blk (m := []) (d := 0) (b := B250_11) (gs := []) (c' := (113, [some (22, 0), none, some (0, v2), some (0, v3), some (0, v4), some (0, v5)], [(0, v4)], (hc, h, o))) K250_11 rfl trivial ?_
        exact zF_riM (by decide +kernel) e
    · refine zF_blk (m := []) (d := 0) (b := B250_20) (gs := [¬ (v3 < v5)]) (c' := (62, [some (22, 0), none, some (0, v2), some (0, v3), some (0, v4), some (0, v5)], [], (hc, h, o))) K250_20 rfl ⟨q1, trivial⟩ ?_
      rcases zI_s e with ⟨q3, e⟩ | ⟨q3, e⟩
      · refine zF_blk (m := []) (d := 1) (b := B250_19) (gs := [¬ (wand v5 (wxor v3 (-1))) = 0]) (c' := (96, [some (22, 0), none, some (0, v2), some (0, v3), some (0, v4), some (0, v5)], [], (hc, h, o))) K250_19 rfl ⟨q3, trivial⟩ ?_
        exact T250_3 hd (F250_1 n) hk0 v2 v3 v4 v5 h _ e
      · refine zF_blk (m := []) (d := 0) (b := B250_19) (gs := [¬ (¬ (wand v5 (wxor v3 (-1))) = 0)]) (c' := (71, [some (22, 0), none, some (0, v2), some (0, v3), some (0, v4), some (0, v5)], [], (hc, h, o))) K250_19 rfl ⟨q3, trivial⟩ ?_
        obtain ⟨r1, q4, e⟩ := zB_s e
        refine zF_blk (m := []) (d := 0) (b := B250_13) (gs := []) (c' := (75, [some (22, 0), none, some (0, v2), some (0, v3), some (0, v4), some (0, v5)], [(0, v3), (0, v5), (22, 0)], (hc, h, o))) K250_13 rfl trivial ?_
        refine zF_call (k := 251) (cl := 12) (n := 3) (i := .invokevirtual 336) (args := [(22, 0), (0, v5), (0, v3)]) (rest := []) (g1 := (hc, h, o)) (r1 := some (0, r1)) (by decide +kernel) rfl rfl rfl (st' := [(0, r1)]) rfl (S251 (Nat.le_trans (by decide) hd) v5 v3 h _ q4) ?_
        rcases zI_s e with ⟨q5, e⟩ | ⟨q5, e⟩
        · refine zF_blk (m := []) (d := 1) (b := B250_18) (gs := [¬ r1 = 0]) (c' := (84, [some (22, 0), none, some (0, v2), some (0, v3), some (0, v4), some (0, v5)], [], (hc, h, o))) K250_18 rfl ⟨q5, trivial⟩ ?_
          rcases zI_s e with ⟨q6, e⟩ | ⟨q6, e⟩
          · refine zF_blk (m := []) (d := 1) (b := B250_16) (gs := [¬ v4 = v2]) (c' := (93, [some (22, 0), none, some (0, v2), some (0, v3), some (0, v4), some (0, v5)], [], (hc, h, o))) K250_16 rfl ⟨q6, trivial⟩ ?_
            refine zF_blk (m := []) (d := 0) (b := B250_14) (gs := []) (c' := (96, [some (22, 0), none, some (0, v2), some (0, v3), some (0, (wadd v4 1)), some (0, v5)], [], (hc, h, o))) K250_14 rfl trivial ?_
            exact T250_3 hd (F250_1 n) hk0 v2 v3 (wadd v4 1) v5 h _ e
          · refine zF_blk (m := []) (d := 0) (b := B250_16) (gs := [¬ (¬ v4 = v2)]) (c' := (90, [some (22, 0), none, some (0, v2), some (0, v3), some (0, v4), some (0, v5)], [], (hc, h, o))) K250_16 rfl ⟨q6, trivial⟩ ?_
            refine zF_blk (m := []) (d := 0) (b := B250_15) (gs := []) (c' := (92, [some (22, 0), none, some (0, v2), some (0, v3), some (0, v4), some (0, v5)], [(0, v5)], (hc, h, o))) K250_15 rfl trivial ?_
            exact zF_riM (by decide +kernel) e
        · refine zF_blk (m := []) (d := 0) (b := B250_18) (gs := [¬ (¬ r1 = 0)]) (c' := (81, [some (22, 0), none, some (0, v2), some (0, v3), some (0, v4), some (0, v5)], [], (hc, h, o))) K250_18 rfl ⟨q5, trivial⟩ ?_
          refine zF_blk (m := []) (d := 0) (b := B250_17) (gs := []) (c' := (96, [some (22, 0), none, some (0, v2), some (0, v3), some (0, v4), some (0, v5)], [], (hc, h, o))) K250_17 rfl trivial ?_
          exact T250_3 hd (F250_1 n) hk0 v2 v3 v4 v5 h _ e
def F250_2 (k0 : Int → Int → Int → Int → zHM → Option (Int × zHM)) (v1 : Int) (v2 : Int) (v3 : Int) (v4 : Int) (h : zHM) : Option (Int × zHM) := k0 v1 v2 v3 (wadd v4 1) h
set_option maxRecDepth 100000 in
theorem T250_2 {spec : zRn zH2} {hc : zHC} {o : Int → Int} {d : Nat} (hd : 7 ≤ d) (k0 : Int → Int → Int → Int → zHM → Option (Int × zHM)) (hk0 : ∀ (v1 : Int) (v2 : Int) (v3 : Int) (v4 : Int) (h : zHM) (v : (Int × zHM)), k0 v1 v2 v3 v4 h = some v → zFin 0 (fun _ => 0) (zRu2 spec d) 250 (some (0, v.1)) (hc, v.2, o) (22, [some (22, 0), some (0, v1), some (0, v2), some (0, v3), some (0, v4), none], [], (hc, h, o))) (v1 : Int) (v2 : Int) (v3 : Int) (v4 : Int) (h : zHM) (v : (Int × zHM)) (e : F250_2 k0 v1 v2 v3 v4 h = some v) : zFin 0 (fun _ => 0) (zRu2 spec d) 250 (some (0, v.1)) (hc, v.2, o) (44, [some (22, 0), some (0, v1), some (0, v2), some (0, v3), some (0, v4), none], [], (hc, h, o)) := by
  unfold F250_2 at e
  refine zF_blk (m := []) (d := 0) (b := B250_9) (gs := []) (c' := (22, [some (22, 0), some (0, v1), some (0, v2), some (0, v3), some (0, (wadd v4 1)), none], [], (hc, h, o))) K250_9 rfl trivial ?_
  exact hk0 v1 v2 v3 (wadd v4 1) h _ e
def F250_0 : Nat → Int → Int → Int → Int → zHM → Option (Int × zHM)
  | 0, _, _, _, _, _ => none
  | n + 1, v1, v2, v3, v4, h => if v3 < v4 then F250_1 zFu v2 v3 0 0 h else if ¬ (wand v4 (wxor v3 (-1))) = 0 then F250_2 (F250_0 n) v1 v2 v3 v4 h else (F249 v4 v1 h).bind fun r1 => F250_2 (F250_0 n) v1 v2 v3 v4 r1
set_option maxRecDepth 100000 in
theorem T250_0 {spec : zRn zH2} {hc : zHC} {o : Int → Int} {d : Nat} (hd : 7 ≤ d) : ∀ (n : Nat) (v1 : Int) (v2 : Int) (v3 : Int) (v4 : Int) (h : zHM) (v : (Int × zHM)), F250_0 n v1 v2 v3 v4 h = some v → zFin 0 (fun _ => 0) (zRu2 spec d) 250 (some (0, v.1)) (hc, v.2, o) (22, [some (22, 0), some (0, v1), some (0, v2), some (0, v3), some (0, v4), none], [], (hc, h, o)) := by
  intro n
  induction n with
  | zero => intro v1 v2 v3 v4 h v e; unfold F250_0 at e; cases e
  | succ n hk0 =>
    intro v1 v2 v3 v4 h v e
    unfold F250_0 at e
    rcases zI_s e with ⟨q1, e⟩ | ⟨q1, e⟩
    · refine zF_blk (m := []) (d := 1) (b := B250_8) (gs := [v3 < v4]) (c' := (50, [some (22, 0), some (0, v1), some (0, v2), some (0, v3), some (0, v4), none], [], (hc, h, o))) K250_8 rfl ⟨q1, trivial⟩ ?_
      refine zF_blk (m := []) (d := 0) (b := B250_5) (gs := []) (c' := (56, [some (22, 0), some (0, v1), some (0, v2), some (0, v3), some (0, 0), some (0, 0)], [], (hc, h, o))) K250_5 rfl trivial ?_
      refine zF_blk (m := [true, false, true, true, true, true]) (d := 0) (b := []) (gs := []) (c' := (56, [some (22, 0), none, some (0, v2), some (0, v3), some (0, 0), some (0, 0)], [], (hc, h, o))) rfl rfl trivial ?_
      exact T250_1 hd zFu v2 v3 0 0 h _ e
    · refine zF_blk (m := []) (d := 0) (b := B250_8) (gs := [¬ (v3 < v4)]) (c' := (28, [some (22, 0), some (0, v1), some (0, v2), some (0, v3), some (0, v4), none], [], (hc, h, o))) K250_8 rfl ⟨q1, trivial⟩ ?_
      rcases zI_s e with ⟨q2, e⟩ | ⟨q2, e⟩
      · refine zF_blk (m := []) (d := 1) (b := B250_7) (gs := [¬ (wand v4 (wxor v3 (-1))) = 0]) (c' := (44, [some (22, 0), some (0, v1), some (0, v2), some (0, v3), some (0, v4), none], [], (hc, h, o))) K250_7 rfl ⟨q2, trivial⟩ ?_
        exact T250_2 hd (F250_0 n) hk0 v1 v2 v3 v4 h _ e
      · refine zF_blk (m := []) (d := 0) (b := B250_7) (gs := [¬ (¬ (wand v4 (wxor v3 (-1))) = 0)]) (c' := (37, [some (22, 0), some (0, v1), some (0, v2), some (0, v3), some (0, v4), none], [], (hc, h, o))) K250_7 rfl ⟨q2, trivial⟩ ?_
        obtain ⟨r1, q3, e⟩ := zB_s e
        refine zF_blk (m := []) (d := 0) (b := B250_6) (gs := []) (c' := (41, [some (22, 0), some (0, v1), some (0, v2), some (0, v3), some (0, v4), none], [(0, v1), (0, v4), (22, 0)], (hc, h, o))) K250_6 rfl trivial ?_
        refine zF_call (k := 249) (cl := 12) (n := 3) (i := .invokevirtual 332) (args := [(22, 0), (0, v4), (0, v1)]) (rest := []) (g1 := (hc, r1, o)) (r1 := none) (by decide +kernel) rfl rfl rfl (st' := []) rfl (S249 (Nat.le_trans (by decide) hd) v4 v1 h _ q3) ?_
        exact T250_2 hd (F250_0 n) hk0 v1 v2 v3 v4 r1 _ e
/-- EchoValeModel.rests(II)I -/
def F250 (v1 : Int) (v2 : Int) (h : zHM) : Option (Int × zHM) := (F242 v1).bind fun r1 => if ¬ r1 = 0 then (F248 (mset h 0 0 0)).bind fun r2 => F250_0 zFu v1 v2 r2 0 (mset h 0 0 0) else some ((-1), (mset h 0 0 0))
set_option maxRecDepth 100000 in
theorem S250 {spec : zRn zH2} {hc : zHC} {o : Int → Int} {d : Nat} (hd : 8 ≤ d) (v1 : Int) (v2 : Int) (h : zHM) (v : (Int × zHM)) (e : F250 v1 v2 h = some v) : zRu2 spec d 250 [(22, 0), (0, v1), (0, v2)] (hc, h, o) (some (0, v.1)) (hc, v.2, o) := by
  refine zF_in (D := 7) (mx := 6) (L := [some (22, 0), some (0, v1), some (0, v2), none, none, none]) (by decide +kernel) rfl rfl hd (fun d hd => ?_)
  unfold F250 at e
  obtain ⟨r1, q1, e⟩ := zB_s e
  refine zF_blk (m := []) (d := 0) (b := B250_0) (gs := []) (c' := (6, [some (22, 0), some (0, v1), some (0, v2), none, none, none], [(0, v1)], (hc, (mset h 0 0 0), o))) K250_0 rfl trivial ?_
  refine zF_call (k := 242) (cl := 12) (n := 1) (i := .invokestatic 323) (args := [(0, v1)]) (rest := []) (g1 := (hc, (mset h 0 0 0), o)) (r1 := some (0, r1)) (by decide +kernel) rfl rfl rfl (st' := [(0, r1)]) rfl (S242 (Nat.le_trans (by decide) hd) v1 (mset h 0 0 0) _ q1) ?_
  rcases zI_s e with ⟨q2, e⟩ | ⟨q2, e⟩
  · refine zF_blk (m := []) (d := 1) (b := B250_4) (gs := [¬ r1 = 0]) (c' := (14, [some (22, 0), some (0, v1), some (0, v2), none, none, none], [], (hc, (mset h 0 0 0), o))) K250_4 rfl ⟨q2, trivial⟩ ?_
    obtain ⟨r2, q3, e⟩ := zB_s e
    refine zF_blk (m := []) (d := 0) (b := B250_1) (gs := []) (c' := (15, [some (22, 0), some (0, v1), some (0, v2), none, none, none], [(22, 0)], (hc, (mset h 0 0 0), o))) K250_1 rfl trivial ?_
    refine zF_call (k := 248) (cl := 12) (n := 1) (i := .invokevirtual 329) (args := [(22, 0)]) (rest := []) (g1 := (hc, (mset h 0 0 0), o)) (r1 := some (0, r2)) (by decide +kernel) rfl rfl rfl (st' := [(0, r2)]) rfl (S248 (Nat.le_trans (by decide) hd)  (mset h 0 0 0) _ q3) ?_
    refine zF_blk (m := []) (d := 0) (b := B250_2) (gs := []) (c' := (22, [some (22, 0), some (0, v1), some (0, v2), some (0, r2), some (0, 0), none], [], (hc, (mset h 0 0 0), o))) K250_2 rfl trivial ?_
    exact T250_0 hd zFu v1 v2 r2 0 (mset h 0 0 0) _ e
  · refine zF_blk (m := []) (d := 0) (b := B250_4) (gs := [¬ (¬ r1 = 0)]) (c' := (12, [some (22, 0), some (0, v1), some (0, v2), none, none, none], [], (hc, (mset h 0 0 0), o))) K250_4 rfl ⟨q2, trivial⟩ ?_
    refine zF_blk (m := []) (d := 0) (b := B250_3) (gs := []) (c' := (13, [some (22, 0), some (0, v1), some (0, v2), none, none, none], [(0, (-1))], (hc, (mset h 0 0 0), o))) K250_3 rfl trivial ?_
    exact zF_riM (by decide +kernel) e
def B80b_0 : List zRow := [(0, .aload_n 0, 1, (0, 0, 0)), (1, .arraylength, 1, (0, 0, 0)), (2, .iload_n 1, 1, (0, 0, 0)), (3, .iload_n 2, 1, (0, 0, 0))]
theorem K80b_0 : zRk 80 B80b_0 = true := by decide +kernel
def B80b_1 : List zRow := [(7, .iload_n 1, 1, (0, 0, 0)), (8, .istore 4, 2, (0, 0, 0))]
theorem K80b_1 : zRk 80 B80b_1 = true := by decide +kernel
def B80b_2 : List zRow := [(16, .aload_n 0, 1, (0, 0, 0)), (17, .iload 4, 2, (0, 0, 0)), (19, .iload_n 3, 1, (0, 0, 0)), (20, .iastore, 1, (0, 0, 0)), (21, .iinc 4 1, 3, (0, 0, 0)), (24, .goto (-14), 3, (0, 0, 0))]
theorem K80b_2 : zRk 80 B80b_2 = true := by decide +kernel
def B80b_3 : List zRow := [(10, .iload 4, 2, (0, 0, 0)), (12, .iload_n 2, 1, (0, 0, 0)), (13, .if_icmp .ge 14, 3, (0, 0, 0))]
theorem K80b_3 : zRk 80 B80b_3 = true := by decide +kernel
def F80b_0 : Nat → Int → Int → Int → zHC → Option zHC
  | 0, _, _, _, _ => none
  | n + 1, v2, v3, v4, h => if v2 ≤ v4 then some h else zG (0 ≤ v4 ∧ v4 < 180) ((F80b_0 n) v2 v3 (wadd v4 1) (hset h 68 1 v4 v3))
set_option maxRecDepth 100000 in
theorem T80b_0 {spec : zRn zH2} {hm : zHM} {o : Int → Int} {d : Nat} (hd : 1 ≤ d) : ∀ (n : Nat) (v2 : Int) (v3 : Int) (v4 : Int) (h : zHC) (v : zHC), F80b_0 n v2 v3 v4 h = some v → zFin 0 (fun _ => 0) (zRu2 spec d) 80 none (v, hm, o) (10, [some (1342362668, 1), none, some (0, v2), some (0, v3), some (0, v4)], [], (h, hm, o)) := by
  intro n
  induction n with
  | zero => intro v2 v3 v4 h v e; unfold F80b_0 at e; cases e
  | succ n hk0 =>
    intro v2 v3 v4 h v e
    unfold F80b_0 at e
    rcases zI_s e with ⟨q1, e⟩ | ⟨q1, e⟩
    · refine zF_blk (m := []) (d := 1) (b := B80b_3) (gs := [v2 ≤ v4]) (c' := (27, [some (1342362668, 1), none, some (0, v2), some (0, v3), some (0, v4)], [], (h, hm, o))) K80b_3 rfl ⟨q1, trivial⟩ ?_
      obtain rfl := Option.some.inj e
      exact zF_rv (by decide +kernel)
    · refine zF_blk (m := []) (d := 0) (b := B80b_3) (gs := [¬ (v2 ≤ v4)]) (c' := (16, [some (1342362668, 1), none, some (0, v2), some (0, v3), some (0, v4)], [], (h, hm, o))) K80b_3 rfl ⟨q1, trivial⟩ ?_
      obtain ⟨q2, e⟩ := zG_s e
      refine zF_blk (m := []) (d := 0) (b := B80b_2) (gs := [0 ≤ v4 ∧ v4 < 180]) (c' := (10, [some (1342362668, 1), none, some (0, v2), some (0, v3), some (0, (wadd v4 1))], [], ((hset h 68 1 v4 v3), hm, o))) K80b_2 rfl ⟨q2, trivial⟩ ?_
      exact hk0 v2 v3 (wadd v4 1) (hset h 68 1 v4 v3) _ e
/-- java/util/Arrays.fill([IIII)V -/
def F80b (v1 : Int) (v2 : Int) (v3 : Int) (h : zHC) : Option zHC := (F81 180 v1 v2 h).bind fun r1 => F80b_0 zFu v2 v3 v1 r1
set_option maxRecDepth 100000 in
theorem S80b {spec : zRn zH2} {hm : zHM} {o : Int → Int} {d : Nat} (hd : 2 ≤ d) (v1 : Int) (v2 : Int) (v3 : Int) (h : zHC) (v : zHC) (e : F80b v1 v2 v3 h = some v) : zRu2 spec d 80 [(1342362668, 1), (0, v1), (0, v2), (0, v3)] (h, hm, o) none (v, hm, o) := by
  refine zF_in (D := 1) (mx := 5) (L := [some (1342362668, 1), some (0, v1), some (0, v2), some (0, v3), none]) (by decide +kernel) rfl rfl hd (fun d hd => ?_)
  unfold F80b at e
  obtain ⟨r1, q1, e⟩ := zB_s e
  refine zF_blk (m := []) (d := 0) (b := B80b_0) (gs := []) (c' := (4, [some (1342362668, 1), some (0, v1), some (0, v2), some (0, v3), none], [(0, v2), (0, v1), (0, 180)], (h, hm, o))) K80b_0 rfl trivial ?_
  refine zF_call (k := 81) (cl := 15) (n := 3) (i := .invokestatic 13) (args := [(0, 180), (0, v1), (0, v2)]) (rest := []) (g1 := (r1, hm, o)) (r1 := none) (by decide +kernel) rfl rfl rfl (st' := []) rfl (S81 (Nat.le_trans (by decide) hd) 180 v1 v2 h _ q1) ?_
  refine zF_blk (m := []) (d := 0) (b := B80b_1) (gs := []) (c' := (10, [some (1342362668, 1), some (0, v1), some (0, v2), some (0, v3), some (0, v1)], [], (r1, hm, o))) K80b_1 rfl trivial ?_
  refine zF_blk (m := [true, false, true, true, true]) (d := 0) (b := []) (gs := []) (c' := (10, [some (1342362668, 1), none, some (0, v2), some (0, v3), some (0, v1)], [], (r1, hm, o))) rfl rfl trivial ?_
  exact T80b_0 hd zFu v2 v3 v1 r1 _ e
def B79b_0 : List zRow := [(15, .iload 6, 2, (0, 0, 0)), (17, .bipush 8, 2, (0, 0, 0)), (19, .imul, 1, (0, 0, 0)), (20, .istore 7, 2, (0, 0, 0)), (22, .aload_n 0, 1, (0, 0, 0)), (23, .getfield 21, 3, (1, 6, 5243842)), (26, .iload 7, 2, (0, 0, 0)), (28, .iconst 0, 1, (0, 0, 0)), (29, .iadd, 1, (0, 0, 0)), (30, .iload 4, 2, (0, 0, 0)), (32, .iastore, 1, (0, 0, 0)), (33, .aload_n 0, 1, (0, 0, 0)), (34, .getfield 21, 3, (1, 6, 5243842)), (37, .iload 7, 2, (0, 0, 0)), (39, .iconst 1, 1, (0, 0, 0)), (40, .iadd, 1, (0, 0, 0)), (41, .iload_n 2, 1, (0, 0, 0)), (42, .iastore, 1, (0, 0, 0)), (43, .aload_n 0, 1, (0, 0, 0)), (44, .getfield 21, 3, (1, 6, 5243842)), (47, .iload 7, 2, (0, 0, 0)), (49, .iconst 2, 1, (0, 0, 0)), (50, .iadd, 1, (0, 0, 0)), (51, .aload_n 0, 1, (0, 0, 0)), (52, .getfield 30, 3, (1, 0, 0)), (55, .iastore, 1, (0, 0, 0)), (56, .aload_n 0, 1, (0, 0, 0)), (57, .getfield 21, 3, (1, 6, 5243842)), (60, .iload 7, 2, (0, 0, 0)), (62, .iconst 3, 1, (0, 0, 0)), (63, .iadd, 1, (0, 0, 0)), (64, .iload_n 3, 1, (0, 0, 0)), (65, .iastore, 1, (0, 0, 0)), (66, .aload_n 0, 1, (0, 0, 0)), (67, .getfield 21, 3, (1, 6, 5243842)), (70, .iload 7, 2, (0, 0, 0)), (72, .iconst 4, 1, (0, 0, 0)), (73, .iadd, 1, (0, 0, 0)), (74, .iload 5, 2, (0, 0, 0)), (76, .iastore, 1, (0, 0, 0)), (77, .aload_n 0, 1, (0, 0, 0)), (78, .getfield 21, 3, (1, 6, 5243842)), (81, .iload 7, 2, (0, 0, 0)), (83, .iconst 5, 1, (0, 0, 0)), (84, .iadd, 1, (0, 0, 0)), (85, .iconst 1, 1, (0, 0, 0)), (86, .iload_n 2, 1, (0, 0, 0)), (87, .ishl, 1, (0, 0, 0)), (88, .iastore, 1, (0, 0, 0)), (89, .aload_n 0, 1, (0, 0, 0)), (90, .getfield 21, 3, (1, 6, 5243842)), (93, .iload 7, 2, (0, 0, 0)), (95, .bipush 6, 2, (0, 0, 0)), (97, .iadd, 1, (0, 0, 0)), (98, .iconst 0, 1, (0, 0, 0)), (99, .iastore, 1, (0, 0, 0)), (100, .aload_n 0, 1, (0, 0, 0)), (101, .getfield 21, 3, (1, 6, 5243842)), (104, .iload 7, 2, (0, 0, 0)), (106, .bipush 7, 2, (0, 0, 0)), (108, .iadd, 1, (0, 0, 0)), (109, .iconst 0, 1, (0, 0, 0)), (110, .iastore, 1, (0, 0, 0)), (111, .aload_n 0, 1, (0, 0, 0)), (112, .getfield 15, 3, (1, 4, 5243602)), (115, .iload 6, 2, (0, 0, 0)), (117, .bipush 6, 2, (0, 0, 0)), (119, .imul, 1, (0, 0, 0)), (120, .iload 6, 2, (0, 0, 0)), (122, .iconst 1, 1, (0, 0, 0)), (123, .iadd, 1, (0, 0, 0)), (124, .bipush 6, 2, (0, 0, 0)), (126, .imul, 1, (0, 0, 0)), (127, .iconst (-1), 1, (0, 0, 0))]
theorem K79b_0 : zRk 79 B79b_0 = true := by decide +kernel
def B79b_1 : List zRow := [(131, .aload_n 0, 1, (0, 0, 0)), (132, .iload 6, 2, (0, 0, 0)), (134, .iconst 1, 1, (0, 0, 0)), (135, .iadd, 1, (0, 0, 0)), (136, .putfield 34, 3, (1, 1, 0)), (139, .iconst 0, 1, (0, 0, 0)), (140, .istore 8, 2, (0, 0, 0))]
theorem K79b_1 : zRk 79 B79b_1 = true := by decide +kernel
def B79b_2 : List zRow := [(13, .iconst (-1), 1, (0, 0, 0))]
theorem K79b_2 : zRk 79 B79b_2 = true := by decide +kernel
def B79b_3 : List zRow := [(0, .aload_n 0, 1, (0, 0, 0)), (1, .getfield 34, 3, (1, 1, 0)), (4, .istore 6, 2, (0, 0, 0)), (6, .iload 6, 2, (0, 0, 0)), (8, .bipush 30, 2, (0, 0, 0)), (10, .if_icmp .lt 5, 3, (0, 0, 0))]
theorem K79b_3 : zRk 79 B79b_3 = true := by decide +kernel
def B79b_4 : List zRow := [(175, .aload_n 0, 1, (0, 0, 0)), (176, .iload 6, 2, (0, 0, 0))]
theorem K79b_4 : zRk 79 B79b_4 = true := by decide +kernel
def B79b_5 : List zRow := [(181, .iload 6, 2, (0, 0, 0))]
theorem K79b_5 : zRk 79 B79b_5 = true := by decide +kernel
def B79b_6 : List zRow := [(151, .aload_n 0, 1, (0, 0, 0)), (152, .aload_n 1, 1, (0, 0, 0)), (153, .iload 6, 2, (0, 0, 0)), (155, .iload 8, 2, (0, 0, 0)), (157, .aload_n 1, 1, (0, 0, 0)), (158, .iload 8, 2, (0, 0, 0)), (160, .iload_n 3, 1, (0, 0, 0)), (161, .iload 5, 2, (0, 0, 0))]
theorem K79b_6 : zRk 79 B79b_6 = true := by decide +kernel
def B79b_7 : List zRow := [(169, .iinc 8 1, 3, (0, 0, 0)), (172, .goto (-30), 3, (0, 0, 0))]
theorem K79b_7 : zRk 79 B79b_7 = true := by decide +kernel
def B79b_8 : List zRow := [(142, .iload 8, 2, (0, 0, 0)), (144, .aload_n 1, 1, (0, 0, 0)), (145, .getfield 69, 3, (9, 2, 0)), (148, .if_icmp .ge 27, 3, (0, 0, 0))]
theorem K79b_8 : zRk 79 B79b_8 = true := by decide +kernel
def F79b_0 : Nat → Int → Int → Int → Int → zHC → Option (Int × zHC)
  | 0, _, _, _, _, _ => none
  | n + 1, v3, v5, v6, v8, h => if (h 578 0 0) ≤ v8 then (F86b v6 h).bind fun r1 => some (v6, r1) else (F82 v8 v3 v5 h).bind fun r2 => (F85b v6 v8 r2 h).bind fun r3 => (F79b_0 n) v3 v5 v6 (wadd v8 1) r3
set_option maxRecDepth 100000 in
theorem T79b_0 {spec : zRn zH2} {hm : zHM} {o : Int → Int} {d : Nat} (hd : 2 ≤ d) : ∀ (n : Nat) (v3 : Int) (v5 : Int) (v6 : Int) (v8 : Int) (h : zHC) (v : (Int × zHC)), F79b_0 n v3 v5 v6 v8 h = some v → zFin 0 (fun _ => 0) (zRu2 spec d) 79 (some (0, v.1)) (v.2, hm, o) (142, [some (11, 1), some (19, 0), none, some (0, v3), none, some (0, v5), some (0, v6), none, some (0, v8)], [], (h, hm, o)) := by
  intro n
  induction n with
  | zero => intro v3 v5 v6 v8 h v e; unfold F79b_0 at e; cases e
  | succ n hk0 =>
    intro v3 v5 v6 v8 h v e
    unfold F79b_0 at e
    rcases zI_s e with ⟨q1, e⟩ | ⟨q1, e⟩
    · refine zF_blk (m := []) (d := 1) (b := B79b_8) (gs := [(h 578 0 0) ≤ v8]) (c' := (175, [some (11, 1), some (19, 0), none, some (0, v3), none, some (0, v5), some (0, v6), none, some (0, v8)], [], (h, hm, o))) K79b_8 rfl ⟨q1, trivial⟩ ?_
      obtain ⟨r1, q2, e⟩ := zB_s e
      refine zF_blk (m := []) (d := 0) (b := B79b_4) (gs := []) (c' := (178, [some (11, 1), some (19, 0), none, some (0, v3), none, some (0, v5), some (0, v6), none, some (0, v8)], [(0, v6), (11, 1)], (h, hm, o))) K79b_4 rfl trivial ?_
      refine zF_call (k := 86) (cl := 1) (n := 2) (i := .invokevirtual 80) (args := [(11, 1), (0, v6)]) (rest := []) (g1 := (r1, hm, o)) (r1 := none) (by decide +kernel) rfl rfl rfl (st' := []) rfl (S86b (Nat.le_trans (by decide) hd) v6 h _ q2) ?_
      refine zF_blk (m := []) (d := 0) (b := B79b_5) (gs := []) (c' := (183, [some (11, 1), some (19, 0), none, some (0, v3), none, some (0, v5), some (0, v6), none, some (0, v8)], [(0, v6)], (r1, hm, o))) K79b_5 rfl trivial ?_
      exact zF_riC (by decide +kernel) e
    · refine zF_blk (m := []) (d := 0) (b := B79b_8) (gs := [¬ ((h 578 0 0) ≤ v8)]) (c' := (151, [some (11, 1), some (19, 0), none, some (0, v3), none, some (0, v5), some (0, v6), none, some (0, v8)], [], (h, hm, o))) K79b_8 rfl ⟨q1, trivial⟩ ?_
      obtain ⟨r2, q3, e⟩ := zB_s e
      refine zF_blk (m := []) (d := 0) (b := B79b_6) (gs := []) (c' := (163, [some (11, 1), some (19, 0), none, some (0, v3), none, some (0, v5), some (0, v6), none, some (0, v8)], [(0, v5), (0, v3), (0, v8), (19, 0), (0, v8), (0, v6), (19, 0), (11, 1)], (h, hm, o))) K79b_6 rfl trivial ?_
      refine zF_call (k := 82) (cl := 9) (n := 4) (i := .invokevirtual 72) (args := [(19, 0), (0, v8), (0, v3), (0, v5)]) (rest := [(0, v8), (0, v6), (19, 0), (11, 1)]) (g1 := (h, hm, o)) (r1 := some (0, r2)) (by decide +kernel) rfl rfl rfl (st' := [(0, r2), (0, v8), (0, v6), (19, 0), (11, 1)]) rfl (S82 (Nat.le_trans (by decide) hd) v8 v3 v5 h _ q3) ?_
      obtain ⟨r3, q4, e⟩ := zB_s e
      refine zF_call (k := 85) (cl := 1) (n := 5) (i := .invokevirtual 76) (args := [(11, 1), (19, 0), (0, v6), (0, v8), (0, r2)]) (rest := []) (g1 := (r3, hm, o)) (r1 := none) (by decide +kernel) rfl rfl rfl (st' := []) rfl (S85b (Nat.le_trans (by decide) hd) v6 v8 r2 h _ q4) ?_
      refine zF_blk (m := []) (d := 0) (b := B79b_7) (gs := []) (c' := (142, [some (11, 1), some (19, 0), none, some (0, v3), none, some (0, v5), some (0, v6), none, some (0, (wadd v8 1))], [], (r3, hm, o))) K79b_7 rfl trivial ?_
      exact hk0 v3 v5 v6 (wadd v8 1) r3 _ e
/-- EchoVale$Course.utter(LEchoVale$Valley;IIII)I -/
def F79b (v2 : Int) (v3 : Int) (v4 : Int) (v5 : Int) (h : zHC) : Option (Int × zHC) := if (h 65 1 0) < 30 then zG (0 ≤ (wadd (wmul (h 65 1 0) 8) 0) ∧ (wadd (wmul (h 65 1 0) 8) 0) < 240) (zG (0 ≤ (wadd (wmul (h 65 1 0) 8) 1) ∧ (wadd (wmul (h 65 1 0) 8) 1) < 240) (zG (0 ≤ (wadd (wmul (h 65 1 0) 8) 2) ∧ (wadd (wmul (h 65 1 0) 8) 2) < 240) (zG (0 ≤ (wadd (wmul (h 65 1 0) 8) 3) ∧ (wadd (wmul (h 65 1 0) 8) 3) < 240) (zG (0 ≤ (wadd (wmul (h 65 1 0) 8) 4) ∧ (wadd (wmul (h 65 1 0) 8) 4) < 240) (zG (0 ≤ (wadd (wmul (h 65 1 0) 8) 5) ∧ (wadd (wmul (h 65 1 0) 8) 5) < 240) (zG (0 ≤ (wadd (wmul (h 65 1 0) 8) 6) ∧ (wadd (wmul (h 65 1 0) 8) 6) < 240) (zG (0 ≤ (wadd (wmul (h 65 1 0) 8) 7) ∧ (wadd (wmul (h 65 1 0) 8) 7) < 240) ((F80b (wmul (h 65 1 0) 6) (wmul (wadd (h 65 1 0) 1) 6) (-1) (hset (hset (hset (hset (hset (hset (hset (hset h 70 1 (wadd (wmul (h 65 1 0) 8) 0) v4) 70 1 (wadd (wmul (h 65 1 0) 8) 1) v2) 70 1 (wadd (wmul (h 65 1 0) 8) 2) ((hset (hset h 70 1 (wadd (wmul (h 65 1 0) 8) 0) v4) 70 1 (wadd (wmul (h 65 1 0) 8) 1) v2) 64 1 0)) 70 1 (wadd (wmul (h 65 1 0) 8) 3) v3) 70 1 (wadd (wmul (h 65 1 0) 8) 4) v5) 70 1 (wadd (wmul (h 65 1 0) 8) 5) (wshl 1 v2)) 70 1 (wadd (wmul (h 65 1 0) 8) 6) 0) 70 1 (wadd (wmul (h 65 1 0) 8) 7) 0)).bind fun r1 => F79b_0 zFu v3 v5 (h 65 1 0) 0 (hset r1 65 1 0 (wadd (h 65 1 0) 1)))))))))) else some ((-1), h)
set_option maxRecDepth 100000 in
theorem S79b {spec : zRn zH2} {hm : zHM} {o : Int → Int} {d : Nat} (hd : 3 ≤ d) (v2 : Int) (v3 : Int) (v4 : Int) (v5 : Int) (h : zHC) (v : (Int × zHC)) (e : F79b v2 v3 v4 v5 h = some v) : zRu2 spec d 79 [(11, 1), (19, 0), (0, v2), (0, v3), (0, v4), (0, v5)] (h, hm, o) (some (0, v.1)) (v.2, hm, o) := by
  refine zF_in (D := 2) (mx := 9) (L := [some (11, 1), some (19, 0), some (0, v2), some (0, v3), some (0, v4), some (0, v5), none, none, none]) (by decide +kernel) rfl rfl hd (fun d hd => ?_)
  unfold F79b at e
  rcases zI_s e with ⟨q1, e⟩ | ⟨q1, e⟩
  · refine zF_blk (m := []) (d := 1) (b := B79b_3) (gs := [(h 65 1 0) < 30]) (c' := (15, [some (11, 1), some (19, 0), some (0, v2), some (0, v3), some (0, v4), some (0, v5), some (0, (h 65 1 0)), none, none], [], (h, hm, o))) K79b_3 rfl ⟨q1, trivial⟩ ?_
    obtain ⟨q2, e⟩ := zG_s e
    obtain ⟨q3, e⟩ := zG_s e
    obtain ⟨q4, e⟩ := zG_s e
    obtain ⟨q5, e⟩ := zG_s e
    obtain ⟨q6, e⟩ := zG_s e
    obtain ⟨q7, e⟩ := zG_s e
    obtain ⟨q8, e⟩ := zG_s e
    obtain ⟨q9, e⟩ := zG_s e
    obtain ⟨r1, q10, e⟩ := zB_s e
    refine zF_blk (m := []) (d := 0) (b := B79b_0) (gs := [0 ≤ (wadd (wmul (h 65 1 0) 8) 0) ∧ (wadd (wmul (h 65 1 0) 8) 0) < 240, 0 ≤ (wadd (wmul (h 65 1 0) 8) 1) ∧ (wadd (wmul (h 65 1 0) 8) 1) < 240, 0 ≤ (wadd (wmul (h 65 1 0) 8) 2) ∧ (wadd (wmul (h 65 1 0) 8) 2) < 240, 0 ≤ (wadd (wmul (h 65 1 0) 8) 3) ∧ (wadd (wmul (h 65 1 0) 8) 3) < 240, 0 ≤ (wadd (wmul (h 65 1 0) 8) 4) ∧ (wadd (wmul (h 65 1 0) 8) 4) < 240, 0 ≤ (wadd (wmul (h 65 1 0) 8) 5) ∧ (wadd (wmul (h 65 1 0) 8) 5) < 240, 0 ≤ (wadd (wmul (h 65 1 0) 8) 6) ∧ (wadd (wmul (h 65 1 0) 8) 6) < 240, 0 ≤ (wadd (wmul (h 65 1 0) 8) 7) ∧ (wadd (wmul (h 65 1 0) 8) 7) < 240]) (c' := (128, [some (11, 1), some (19, 0), some (0, v2), some (0, v3), some (0, v4), some (0, v5), some (0, (h 65 1 0)), some (0, (wmul (h 65 1 0) 8)), none], [(0, (-1)), (0, (wmul (wadd (h 65 1 0) 1) 6)), (0, (wmul (h 65 1 0) 6)), (1342362668, 1)], ((hset (hset (hset (hset (hset (hset (hset (hset h 70 1 (wadd (wmul (h 65 1 0) 8) 0) v4) 70 1 (wadd (wmul (h 65 1 0) 8) 1) v2) 70 1 (wadd (wmul (h 65 1 0) 8) 2) ((hset (hset h 70 1 (wadd (wmul (h 65 1 0) 8) 0) v4) 70 1 (wadd (wmul (h 65 1 0) 8) 1) v2) 64 1 0)) 70 1 (wadd (wmul (h 65 1 0) 8) 3) v3) 70 1 (wadd (wmul (h 65 1 0) 8) 4) v5) 70 1 (wadd (wmul (h 65 1 0) 8) 5) (wshl 1 v2)) 70 1 (wadd (wmul (h 65 1 0) 8) 6) 0) 70 1 (wadd (wmul (h 65 1 0) 8) 7) 0), hm, o))) K79b_0 rfl ⟨q2, q3, q4, q5, q6, q7, q8, q9, trivial⟩ ?_
    refine zF_call (k := 80) (cl := 15) (n := 4) (i := .invokestatic 63) (args := [(1342362668, 1), (0, (wmul (h 65 1 0) 6)), (0, (wmul (wadd (h 65 1 0) 1) 6)), (0, (-1))]) (rest := []) (g1 := (r1, hm, o)) (r1 := none) (by decide +kernel) rfl rfl rfl (st' := []) rfl (S80b (Nat.le_trans (by decide) hd) (wmul (h 65 1 0) 6) (wmul (wadd (h 65 1 0) 1) 6) (-1) (hset (hset (hset (hset (hset (hset (hset (hset h 70 1 (wadd (wmul (h 65 1 0) 8) 0) v4) 70 1 (wadd (wmul (h 65 1 0) 8) 1) v2) 70 1 (wadd (wmul (h 65 1 0) 8) 2) ((hset (hset h 70 1 (wadd (wmul (h 65 1 0) 8) 0) v4) 70 1 (wadd (wmul (h 65 1 0) 8) 1) v2) 64 1 0)) 70 1 (wadd (wmul (h 65 1 0) 8) 3) v3) 70 1 (wadd (wmul (h 65 1 0) 8) 4) v5) 70 1 (wadd (wmul (h 65 1 0) 8) 5) (wshl 1 v2)) 70 1 (wadd (wmul (h 65 1 0) 8) 6) 0) 70 1 (wadd (wmul (h 65 1 0) 8) 7) 0) _ q10) ?_
    refine zF_blk (m := []) (d := 0) (b := B79b_1) (gs := []) (c' := (142, [some (11, 1), some (19, 0), some (0, v2), some (0, v3), some (0, v4), some (0, v5), some (0, (h 65 1 0)), some (0, (wmul (h 65 1 0) 8)), some (0, 0)], [], ((hset r1 65 1 0 (wadd (h 65 1 0) 1)), hm, o))) K79b_1 rfl trivial ?_
    refine zF_blk (m := [true, true, false, true, false, true, true, false, true]) (d := 0) (b := []) (gs := []) (c' := (142, [some (11, 1), some (19, 0), none, some (0, v3), none, some (0, v5), some (0, (h 65 1 0)), none, some (0, 0)], [], ((hset r1 65 1 0 (wadd (h 65 1 0) 1)), hm, o))) rfl rfl trivial ?_
    exact T79b_0 hd zFu v3 v5 (h 65 1 0) 0 (hset r1 65 1 0 (wadd (h 65 1 0) 1)) _ e
  · refine zF_blk (m := []) (d := 0) (b := B79b_3) (gs := [¬ ((h 65 1 0) < 30)]) (c' := (13, [some (11, 1), some (19, 0), some (0, v2), some (0, v3), some (0, v4), some (0, v5), some (0, (h 65 1 0)), none, none], [], (h, hm, o))) K79b_3 rfl ⟨q1, trivial⟩ ?_
    refine zF_blk (m := []) (d := 0) (b := B79b_2) (gs := []) (c' := (14, [some (11, 1), some (19, 0), some (0, v2), some (0, v3), some (0, v4), some (0, v5), some (0, (h 65 1 0)), none, none], [(0, (-1))], (h, hm, o))) K79b_2 rfl trivial ?_
    exact zF_riC (by decide +kernel) e
def B76b_0 : List zRow := [(0, .aload_n 0, 1, (0, 0, 0)), (1, .getfield 9, 3, (1, 3, 5242906)), (4, .iload_n 2, 1, (0, 0, 0)), (5, .iaload, 1, (0, 0, 0)), (6, .istore 5, 2, (0, 0, 0)), (8, .aload_n 0, 1, (0, 0, 0)), (9, .aload_n 1, 1, (0, 0, 0)), (10, .iload_n 2, 1, (0, 0, 0)), (11, .iload 5, 2, (0, 0, 0)), (13, .iload_n 3, 1, (0, 0, 0)), (14, .aload_n 1, 1, (0, 0, 0)), (15, .iload 5, 2, (0, 0, 0)), (17, .iload 4, 2, (0, 0, 0))]
theorem K76b_0 : zRk 76 B76b_0 = true := by decide +kernel
/-- EchoVale$Course.speak(LEchoVale$Valley;III)I -/
def F76b (v2 : Int) (v3 : Int) (v4 : Int) (h : zHC) : Option (Int × zHC) := zG (0 ≤ v2 ∧ v2 < 6) ((F77 (h 67 1 v2) v4 h).bind fun r1 => (F79b v2 (h 67 1 v2) v3 r1 h).bind fun r2 => some (r2.1, r2.2))
set_option maxRecDepth 100000 in
theorem S76b {spec : zRn zH2} {hm : zHM} {o : Int → Int} {d : Nat} (hd : 4 ≤ d) (v2 : Int) (v3 : Int) (v4 : Int) (h : zHC) (v : (Int × zHC)) (e : F76b v2 v3 v4 h = some v) : zRu2 spec d 76 [(11, 1), (19, 0), (0, v2), (0, v3), (0, v4)] (h, hm, o) (some (0, v.1)) (v.2, hm, o) := by
  refine zF_in (D := 3) (mx := 6) (L := [some (11, 1), some (19, 0), some (0, v2), some (0, v3), some (0, v4), none]) (by decide +kernel) rfl rfl hd (fun d hd => ?_)
  unfold F76b at e
  obtain ⟨q1, e⟩ := zG_s e
  obtain ⟨r1, q2, e⟩ := zB_s e
  refine zF_blk (m := []) (d := 0) (b := B76b_0) (gs := [0 ≤ v2 ∧ v2 < 6]) (c' := (19, [some (11, 1), some (19, 0), some (0, v2), some (0, v3), some (0, v4), some (0, (h 67 1 v2))], [(0, v4), (0, (h 67 1 v2)), (19, 0), (0, v3), (0, (h 67 1 v2)), (0, v2), (19, 0), (11, 1)], (h, hm, o))) K76b_0 rfl ⟨q1, trivial⟩ ?_
  refine zF_call (k := 77) (cl := 9) (n := 3) (i := .invokevirtual 55) (args := [(19, 0), (0, (h 67 1 v2)), (0, v4)]) (rest := [(0, v3), (0, (h 67 1 v2)), (0, v2), (19, 0), (11, 1)]) (g1 := (h, hm, o)) (r1 := some (0, r1)) (by decide +kernel) rfl rfl rfl (st' := [(0, r1), (0, v3), (0, (h 67 1 v2)), (0, v2), (19, 0), (11, 1)]) rfl (S77 (Nat.le_trans (by decide) hd) (h 67 1 v2) v4 h _ q2) ?_
  obtain ⟨r2, q3, e⟩ := zB_s e
  refine zF_call (k := 79) (cl := 1) (n := 6) (i := .invokevirtual 59) (args := [(11, 1), (19, 0), (0, v2), (0, (h 67 1 v2)), (0, v3), (0, r1)]) (rest := []) (g1 := (r2.2, hm, o)) (r1 := some (0, r2.1)) (by decide +kernel) rfl rfl rfl (st' := [(0, r2.1)]) rfl (S79b (Nat.le_trans (by decide) hd) v2 (h 67 1 v2) v3 r1 h _ q3) ?_
  exact zF_riC (by decide +kernel) e
def B111_0 : List zRow := [(0, .aload_n 0, 1, (0, 0, 0)), (1, .getfield 60, 3, (11, 7, 135)), (4, .aload_n 0, 1, (0, 0, 0)), (5, .getfield 56, 3, (11, 6, 7))]
theorem K111_0 : zRk 111 B111_0 = true := by decide +kernel
def B111_1 : List zRow := [(11, .aload_n 0, 1, (0, 0, 0)), (12, .getfield 60, 3, (11, 7, 135)), (15, .getfield 177, 3, (1, 3, 5242906)), (18, .iload_n 1, 1, (0, 0, 0)), (19, .iload_n 2, 1, (0, 0, 0)), (20, .iastore, 1, (0, 0, 0)), (21, .aload_n 0, 1, (0, 0, 0)), (22, .getfield 60, 3, (11, 7, 135)), (25, .aload_n 0, 1, (0, 0, 0)), (26, .getfield 19, 3, (11, 1, 39)), (29, .iload_n 1, 1, (0, 0, 0)), (30, .iconst 1, 1, (0, 0, 0)), (31, .iload_n 3, 1, (0, 0, 0))]
theorem K111_1 : zRk 111 B111_1 = true := by decide +kernel
def B111_2 : List zRow := [(35, .pop, 1, (0, 0, 0)), (36, .aload_n 0, 1, (0, 0, 0)), (37, .getfield 60, 3, (11, 7, 135)), (40, .aload_n 0, 1, (0, 0, 0)), (41, .getfield 19, 3, (11, 1, 39)), (44, .iload 4, 2, (0, 0, 0))]
theorem K111_2 : zRk 111 B111_2 = true := by decide +kernel
def B111_3 : List zRow := [(49, .pop, 1, (0, 0, 0))]
theorem K111_3 : zRk 111 B111_3 = true := by decide +kernel
/-- EchoVale.passOneSaying(IIII)V -/
def F111 (v1 : Int) (v2 : Int) (v3 : Int) (v4 : Int) (h : zHC) : Option zHC := (F72c h).bind fun r1 => zG (0 ≤ v1 ∧ v1 < 6) ((F76b v1 1 v3 (hset r1 67 1 v1 v2)).bind fun r2 => (F88b v4 r2.2).bind fun r3 => some r3.2)
set_option maxRecDepth 100000 in
theorem S111 {spec : zRn zH2} {hm : zHM} {o : Int → Int} {d : Nat} (hd : 7 ≤ d) (v1 : Int) (v2 : Int) (v3 : Int) (v4 : Int) (h : zHC) (v : zHC) (e : F111 v1 v2 v3 v4 h = some v) : zRu2 spec d 111 [(21, 0), (0, v1), (0, v2), (0, v3), (0, v4)] (h, hm, o) none (v, hm, o) := by
  refine zF_in (D := 6) (mx := 5) (L := [some (21, 0), some (0, v1), some (0, v2), some (0, v3), some (0, v4)]) (by decide +kernel) rfl rfl hd (fun d hd => ?_)
  unfold F111 at e
  obtain ⟨r1, q1, e⟩ := zB_s e
  refine zF_blk (m := []) (d := 0) (b := B111_0) (gs := []) (c' := (8, [some (21, 0), some (0, v1), some (0, v2), some (0, v3), some (0, v4)], [(11, 0), (11, 1)], (h, hm, o))) K111_0 rfl trivial ?_
  refine zF_call (k := 72) (cl := 1) (n := 2) (i := .invokevirtual 276) (args := [(11, 1), (11, 0)]) (rest := []) (g1 := (r1, hm, o)) (r1 := none) (by decide +kernel) rfl rfl rfl (st' := []) rfl (S72c (Nat.le_trans (by decide) hd)  h _ q1) ?_
  obtain ⟨q2, e⟩ := zG_s e
  obtain ⟨r2, q3, e⟩ := zB_s e
  refine zF_blk (m := []) (d := 0) (b := B111_1) (gs := [0 ≤ v1 ∧ v1 < 6]) (c' := (32, [some (21, 0), some (0, v1), some (0, v2), some (0, v3), some (0, v4)], [(0, v3), (0, 1), (0, v1), (19, 0), (11, 1)], ((hset r1 67 1 v1 v2), hm, o))) K111_1 rfl ⟨q2, trivial⟩ ?_
  refine zF_call (k := 76) (cl := 1) (n := 5) (i := .invokevirtual 227) (args := [(11, 1), (19, 0), (0, v1), (0, 1), (0, v3)]) (rest := []) (g1 := (r2.2, hm, o)) (r1 := some (0, r2.1)) (by decide +kernel) rfl rfl rfl (st' := [(0, r2.1)]) rfl (S76b (Nat.le_trans (by decide) hd) v1 1 v3 (hset r1 67 1 v1 v2) _ q3) ?_
  obtain ⟨r3, q4, e⟩ := zB_s e
  refine zF_blk (m := []) (d := 0) (b := B111_2) (gs := []) (c' := (46, [some (21, 0), some (0, v1), some (0, v2), some (0, v3), some (0, v4)], [(0, v4), (19, 0), (11, 1)], (r2.2, hm, o))) K111_2 rfl trivial ?_
  refine zF_call (k := 88) (cl := 1) (n := 3) (i := .invokevirtual 231) (args := [(11, 1), (19, 0), (0, v4)]) (rest := []) (g1 := (r3.2, hm, o)) (r1 := some (0, r3.1)) (by decide +kernel) rfl rfl rfl (st' := [(0, r3.1)]) rfl (S88b (Nat.le_trans (by decide) hd) v4 r2.2 _ q4) ?_
  refine zF_blk (m := []) (d := 0) (b := B111_3) (gs := []) (c' := (50, [some (21, 0), some (0, v1), some (0, v2), some (0, v3), some (0, v4)], [], (r3.2, hm, o))) K111_3 rfl trivial ?_
  obtain rfl := Option.some.inj e
  exact zF_rv (by decide +kernel)
def B110_0 : List zRow := [(0, .aload_n 0, 1, (0, 0, 0)), (1, .iload_n 1, 1, (0, 0, 0))]
theorem K110_0 : zRk 110 B110_0 = true := by decide +kernel
def B110_1 : List zRow := [(52, .iconst (-1), 1, (0, 0, 0))]
theorem K110_1 : zRk 110 B110_1 = true := by decide +kernel
def B110_2 : List zRow := [(8, .aload_n 0, 1, (0, 0, 0)), (9, .iload_n 2, 1, (0, 0, 0))]
theorem K110_2 : zRk 110 B110_2 = true := by decide +kernel
def B110_3 : List zRow := [(21, .iload_n 3, 1, (0, 0, 0))]
theorem K110_3 : zRk 110 B110_3 = true := by decide +kernel
def B110_4 : List zRow := [(28, .iload 4, 2, (0, 0, 0))]
theorem K110_4 : zRk 110 B110_4 = true := by decide +kernel
def B110_5 : List zRow := [(42, .aload_n 0, 1, (0, 0, 0)), (43, .getfield 56, 3, (11, 6, 7))]
theorem K110_5 : zRk 110 B110_5 = true := by decide +kernel
def B110_6 : List zRow := [(54, .iconst 0, 1, (0, 0, 0)), (55, .istore 6, 2, (0, 0, 0)), (57, .iconst 0, 1, (0, 0, 0)), (58, .istore 7, 2, (0, 0, 0))]
theorem K110_6 : zRk 110 B110_6 = true := by decide +kernel
def B110_7 : List zRow := [(49, .ifCond .eq 5, 3, (0, 0, 0))]
theorem K110_7 : zRk 110 B110_7 = true := by decide +kernel
def B110_8 : List zRow := [(36, .iload 5, 2, (0, 0, 0)), (38, .iconst (-1), 1, (0, 0, 0)), (39, .if_icmp .lt 13, 3, (0, 0, 0))]
theorem K110_8 : zRk 110 B110_8 = true := by decide +kernel
def B110_9 : List zRow := [(33, .ifCond .eq 19, 3, (0, 0, 0))]
theorem K110_9 : zRk 110 B110_9 = true := by decide +kernel
def B110_10 : List zRow := [(25, .ifCond .eq 27, 3, (0, 0, 0))]
theorem K110_10 : zRk 110 B110_10 = true := by decide +kernel
def B110_11 : List zRow := [(16, .iload_n 1, 1, (0, 0, 0)), (17, .iload_n 2, 1, (0, 0, 0)), (18, .if_icmp .eq 34, 3, (0, 0, 0))]
theorem K110_11 : zRk 110 B110_11 = true := by decide +kernel
def B110_12 : List zRow := [(13, .ifCond .eq 39, 3, (0, 0, 0))]
theorem K110_12 : zRk 110 B110_12 = true := by decide +kernel
def B110_13 : List zRow := [(5, .ifCond .eq 47, 3, (0, 0, 0))]
theorem K110_13 : zRk 110 B110_13 = true := by decide +kernel
def B110_14 : List zRow := [(134, .iconst (-1), 1, (0, 0, 0))]
theorem K110_14 : zRk 110 B110_14 = true := by decide +kernel
def B110_15 : List zRow := [(129, .iload 6, 2, (0, 0, 0)), (131, .goto 4, 3, (0, 0, 0))]
theorem K110_15 : zRk 110 B110_15 = true := by decide +kernel
def B110_16 : List zRow := [(123, .iload 5, 2, (0, 0, 0)), (125, .iconst (-1), 1, (0, 0, 0)), (126, .if_icmp .ne 8, 3, (0, 0, 0))]
theorem K110_16 : zRk 110 B110_16 = true := by decide +kernel
def B110_17 : List zRow := [(67, .aload_n 0, 1, (0, 0, 0)), (68, .getfield 19, 3, (11, 1, 39)), (71, .iload 7, 2, (0, 0, 0))]
theorem K110_17 : zRk 110 B110_17 = true := by decide +kernel
def B110_18 : List zRow := [(79, .aload_n 0, 1, (0, 0, 0)), (80, .iload_n 1, 1, (0, 0, 0)), (81, .iload 7, 2, (0, 0, 0)), (83, .iload_n 3, 1, (0, 0, 0)), (84, .iload 4, 2, (0, 0, 0))]
theorem K110_18 : zRk 110 B110_18 = true := by decide +kernel
def B110_19 : List zRow := [(89, .aload_n 0, 1, (0, 0, 0)), (90, .getfield 60, 3, (11, 7, 135)), (93, .iconst 0, 1, (0, 0, 0)), (94, .iconst 5, 1, (0, 0, 0))]
theorem K110_19 : zRk 110 B110_19 = true := by decide +kernel
def B110_20 : List zRow := [(114, .iinc 6 1, 3, (0, 0, 0))]
theorem K110_20 : zRk 110 B110_20 = true := by decide +kernel
def B110_21 : List zRow := [(111, .iload 7, 2, (0, 0, 0))]
theorem K110_21 : zRk 110 B110_21 = true := by decide +kernel
def B110_22 : List zRow := [(104, .iload 6, 2, (0, 0, 0)), (106, .iload 5, 2, (0, 0, 0)), (108, .if_icmp .ne 6, 3, (0, 0, 0))]
theorem K110_22 : zRk 110 B110_22 = true := by decide +kernel
def B110_23 : List zRow := [(98, .iconst 1, 1, (0, 0, 0)), (99, .iload_n 2, 1, (0, 0, 0)), (100, .ishl, 1, (0, 0, 0)), (101, .if_icmp .ne 16, 3, (0, 0, 0))]
theorem K110_23 : zRk 110 B110_23 = true := by decide +kernel
def B110_24 : List zRow := [(76, .ifCond .eq 41, 3, (0, 0, 0))]
theorem K110_24 : zRk 110 B110_24 = true := by decide +kernel
def B110_25 : List zRow := [(60, .iload 7, 2, (0, 0, 0)), (62, .bipush 100, 2, (0, 0, 0)), (64, .if_icmp .ge 59, 3, (0, 0, 0))]
theorem K110_25 : zRk 110 B110_25 = true := by decide +kernel
def B110_26 : List zRow := [(117, .iinc 7 1, 3, (0, 0, 0)), (120, .goto (-60), 3, (0, 0, 0))]
theorem K110_26 : zRk 110 B110_26 = true := by decide +kernel
def F110_1 (k0 : Int → Int → Int → Int → Int → Int → Int → zHC → Option (Int × zHC)) (v1 : Int) (v2 : Int) (v3 : Int) (v4 : Int) (v5 : Int) (v6 : Int) (v7 : Int) (h : zHC) : Option (Int × zHC) := k0 v1 v2 v3 v4 v5 v6 (wadd v7 1) h
set_option maxRecDepth 100000 in
theorem T110_1 {spec : zRn zH2} {hm : zHM} {o : Int → Int} {d : Nat} (hd : 7 ≤ d) (k0 : Int → Int → Int → Int → Int → Int → Int → zHC → Option (Int × zHC)) (hk0 : ∀ (v1 : Int) (v2 : Int) (v3 : Int) (v4 : Int) (v5 : Int) (v6 : Int) (v7 : Int) (h : zHC) (v : (Int × zHC)), k0 v1 v2 v3 v4 v5 v6 v7 h = some v → zFin 0 (fun _ => 0) (zRu2 spec d) 110 (some (0, v.1)) (v.2, hm, o) (60, [some (21, 0), some (0, v1), some (0, v2), some (0, v3), some (0, v4), some (0, v5), some (0, v6), some (0, v7)], [], (h, hm, o))) (v1 : Int) (v2 : Int) (v3 : Int) (v4 : Int) (v5 : Int) (v6 : Int) (v7 : Int) (h : zHC) (v : (Int × zHC)) (e : F110_1 k0 v1 v2 v3 v4 v5 v6 v7 h = some v) : zFin 0 (fun _ => 0) (zRu2 spec d) 110 (some (0, v.1)) (v.2, hm, o) (117, [some (21, 0), some (0, v1), some (0, v2), some (0, v3), some (0, v4), some (0, v5), some (0, v6), some (0, v7)], [], (h, hm, o)) := by
  unfold F110_1 at e
  refine zF_blk (m := []) (d := 0) (b := B110_26) (gs := []) (c' := (60, [some (21, 0), some (0, v1), some (0, v2), some (0, v3), some (0, v4), some (0, v5), some (0, v6), some (0, (wadd v7 1))], [], (h, hm, o))) K110_26 rfl trivial ?_
  exact hk0 v1 v2 v3 v4 v5 v6 (wadd v7 1) h _ e
def F110_0 : Nat → Int → Int → Int → Int → Int → Int → Int → zHC → Option (Int × zHC)
  | 0, _, _, _, _, _, _, _, _ => none
  | n + 1, v1, v2, v3, v4, v5, v6, v7, h => if 100 ≤ v7 then if ¬ v5 = (-1) then some ((-1), h) else some (v6, h) else (F69 v7 h).bind fun r1 => if r1 = 0 then F110_1 (F110_0 n) v1 v2 v3 v4 v5 v6 v7 h else (F111 v1 v7 v3 v4 h).bind fun r2 => (F63b 0 5 r2).bind fun r3 => if ¬ r3 = (wshl 1 v2) then F110_1 (F110_0 n) v1 v2 v3 v4 v5 v6 v7 r2 else if ¬ v6 = v5 then F110_1 (F110_0 n) v1 v2 v3 v4 v5 (wadd v6 1) v7 r2 else some (v7, r2)
set_option maxRecDepth 100000 in
theorem T110_0 {spec : zRn zH2} {hm : zHM} {o : Int → Int} {d : Nat} (hd : 7 ≤ d) : ∀ (n : Nat) (v1 : Int) (v2 : Int) (v3 : Int) (v4 : Int) (v5 : Int) (v6 : Int) (v7 : Int) (h : zHC) (v : (Int × zHC)), F110_0 n v1 v2 v3 v4 v5 v6 v7 h = some v → zFin 0 (fun _ => 0) (zRu2 spec d) 110 (some (0, v.1)) (v.2, hm, o) (60, [some (21, 0), some (0, v1), some (0, v2), some (0, v3), some (0, v4), some (0, v5), some (0, v6), some (0, v7)], [], (h, hm, o)) := by
  intro n
  induction n with
  | zero => intro v1 v2 v3 v4 v5 v6 v7 h v e; unfold F110_0 at e; cases e
  | succ n hk0 =>
    intro v1 v2 v3 v4 v5 v6 v7 h v e
    unfold F110_0 at e
    rcases zI_s e with ⟨q1, e⟩ | ⟨q1, e⟩
    · refine zF_blk (m := []) (d := 1) (b := B110_25) (gs := [100 ≤ v7]) (c' := (123, [some (21, 0), some (0, v1), some (0, v2), some (0, v3), some (0, v4), some (0, v5), some (0, v6), some (0, v7)], [], (h, hm, o))) K110_25 rfl ⟨q1, trivial⟩ ?_
      rcases zI_s e with ⟨q2, e⟩ | ⟨q2, e⟩
      · refine zF_blk (m := []) (d := 1) (b := B110_16) (gs := [¬ v5 = (-1)]) (c' := (134, [some (21, 0), some (0, v1), some (0, v2), some (0, v3), some (0, v4), some (0, v5), some (0, v6), some (0, v7)], [], (h, hm, o))) K110_16 rfl ⟨q2, trivial⟩ ?_
        refine zF_blk (m := []) (d := 0) (b := B110_14) (gs := []) (c' := (135, [some (21, 0), some (0, v1), some (0, v2), some (0, v3), some (0, v4), some (0, v5), some (0, v6), some (0, v7)], [(0, (-1))], (h, hm, o))) K110_14 rfl trivial ?_
        exact zF_riC (by decide +kernel) e
      · refine zF_blk (m := []) (d := 0) (b := B110_16) (gs := [¬ (¬ v5 = (-1))]) (c' := (129, [some (21, 0), some (0, v1), some (0, v2), some (0, v3), some (0, v4), some (0, v5), some (0, v6), some (0, v7)], [], (h, hm, o))) K110_16 rfl ⟨q2, trivial⟩ ?_
        refine zF_blk (m := []) (d := 0) (b := B110_15) (gs := []) (c' := (135, [some (21, 0), some (0, v1), some (0, v2), some (0, v3), some (0, v4), some (0, v5), some (0, v6), some (0, v7)], [(0, v6)], (h, hm, o))) K110_15 rfl trivial ?_
        exact zF_riC (by decide +kernel) e
    · refine zF_blk (m := []) (d := 0) (b := B110_25) (gs := [¬ (100 ≤ v7)]) (c' := (67, [some (21, 0), some (0, v1), some (0, v2), some (0, v3), some (0, v4), some (0, v5), some (0, v6), some (0, v7)], [], (h, hm, o))) K110_25 rfl ⟨q1, trivial⟩ ?_
      obtain ⟨r1, q3, e⟩ := zB_s e
      refine zF_blk (m := []) (d := 0) (b := B110_17) (gs := []) (c' := (73, [some (21, 0), some (0, v1), some (0, v2), some (0, v3), some (0, v4), some (0, v5), some (0, v6), some (0, v7)], [(0, v7), (19, 0)], (h, hm, o))) K110_17 rfl trivial ?_
      refine zF_call (k := 69) (cl := 9) (n := 2) (i := .invokevirtual 214) (args := [(19, 0), (0, v7)]) (rest := []) (g1 := (h, hm, o)) (r1 := some (0, r1)) (by decide +kernel) rfl rfl rfl (st' := [(0, r1)]) rfl (S69 (Nat.le_trans (by decide) hd) v7 h _ q3) ?_
      rcases zI_s e with ⟨q4, e⟩ | ⟨q4, e⟩
      · refine zF_blk (m := []) (d := 1) (b := B110_24) (gs := [r1 = 0]) (c' := (117, [some (21, 0), some (0, v1), some (0, v2), some (0, v3), some (0, v4), some (0, v5), some (0, v6), some (0, v7)], [], (h, hm, o))) K110_24 rfl ⟨q4, trivial⟩ ?_
        exact T110_1 hd (F110_0 n) hk0 v1 v2 v3 v4 v5 v6 v7 h _ e
      · refine zF_blk (m := []) (d := 0) (b := B110_24) (gs := [¬ (r1 = 0)]) (c' := (79, [some (21, 0), some (0, v1), some (0, v2), some (0, v3), some (0, v4), some (0, v5), some (0, v6), some (0, v7)], [], (h, hm, o))) K110_24 rfl ⟨q4, trivial⟩ ?_
        obtain ⟨r2, q5, e⟩ := zB_s e
        refine zF_blk (m := []) (d := 0) (b := B110_18) (gs := []) (c' := (86, [some (21, 0), some (0, v1), some (0, v2), some (0, v3), some (0, v4), some (0, v5), some (0, v6), some (0, v7)], [(0, v4), (0, v3), (0, v7), (0, v1), (21, 0)], (h, hm, o))) K110_18 rfl trivial ?_
        refine zF_call (k := 111) (cl := 11) (n := 5) (i := .invokevirtual 262) (args := [(21, 0), (0, v1), (0, v7), (0, v3), (0, v4)]) (rest := []) (g1 := (r2, hm, o)) (r1 := none) (by decide +kernel) rfl rfl rfl (st' := []) rfl (S111 (Nat.le_trans (by decide) hd) v1 v7 v3 v4 h _ q5) ?_
        obtain ⟨r3, q6, e⟩ := zB_s e
        refine zF_blk (m := []) (d := 0) (b := B110_19) (gs := []) (c' := (95, [some (21, 0), some (0, v1), some (0, v2), some (0, v3), some (0, v4), some (0, v5), some (0, v6), some (0, v7)], [(0, 5), (0, 0), (11, 1)], (r2, hm, o))) K110_19 rfl trivial ?_
        refine zF_call (k := 63) (cl := 1) (n := 3) (i := .invokevirtual 196) (args := [(11, 1), (0, 0), (0, 5)]) (rest := []) (g1 := (r2, hm, o)) (r1 := some (0, r3)) (by decide +kernel) rfl rfl rfl (st' := [(0, r3)]) rfl (S63b (Nat.le_trans (by decide) hd) 0 5 r2 _ q6) ?_
        rcases zI_s e with ⟨q7, e⟩ | ⟨q7, e⟩
        · refine zF_blk (m := []) (d := 1) (b := B110_23) (gs := [¬ r3 = (wshl 1 v2)]) (c' := (117, [some (21, 0), some (0, v1), some (0, v2), some (0, v3), some (0, v4), some (0, v5), some (0, v6), some (0, v7)], [], (r2, hm, o))) K110_23 rfl ⟨q7, trivial⟩ ?_
          exact T110_1 hd (F110_0 n) hk0 v1 v2 v3 v4 v5 v6 v7 r2 _ e
        · refine zF_blk (m := []) (d := 0) (b := B110_23) (gs := [¬ (¬ r3 = (wshl 1 v2))]) (c' := (104, [some (21, 0), some (0, v1), some (0, v2), some (0, v3), some (0, v4), some (0, v5), some (0, v6), some (0, v7)], [], (r2, hm, o))) K110_23 rfl ⟨q7, trivial⟩ ?_
          rcases zI_s e with ⟨q8, e⟩ | ⟨q8, e⟩
          · refine zF_blk (m := []) (d := 1) (b := B110_22) (gs := [¬ v6 = v5]) (c' := (114, [some (21, 0), some (0, v1), some (0, v2), some (0, v3), some (0, v4), some (0, v5), some (0, v6), some (0, v7)], [], (r2, hm, o))) K110_22 rfl ⟨q8, trivial⟩ ?_
            refine zF_blk (m := []) (d := 0) (b := B110_20) (gs := []) (c' := (117, [some (21, 0), some (0, v1), some (0, v2), some (0, v3), some (0, v4), some (0, v5), some (0, (wadd v6 1)), some (0, v7)], [], (r2, hm, o))) K110_20 rfl trivial ?_
            exact T110_1 hd (F110_0 n) hk0 v1 v2 v3 v4 v5 (wadd v6 1) v7 r2 _ e
          · refine zF_blk (m := []) (d := 0) (b := B110_22) (gs := [¬ (¬ v6 = v5)]) (c' := (111, [some (21, 0), some (0, v1), some (0, v2), some (0, v3), some (0, v4), some (0, v5), some (0, v6), some (0, v7)], [], (r2, hm, o))) K110_22 rfl ⟨q8, trivial⟩ ?_
            refine zF_blk (m := []) (d := 0) (b := B110_21) (gs := []) (c' := (113, [some (21, 0), some (0, v1), some (0, v2), some (0, v3), some (0, v4), some (0, v5), some (0, v6), some (0, v7)], [(0, v7)], (r2, hm, o))) K110_21 rfl trivial ?_
            exact zF_riC (by decide +kernel) e
/-- EchoVale.tells(IIIII)I -/
def F110 (v1 : Int) (v2 : Int) (v3 : Int) (v4 : Int) (v5 : Int) (h : zHC) : Option (Int × zHC) := (F61 v1 h).bind fun r1 => if r1 = 0 then some ((-1), h) else (F61 v2 h).bind fun r2 => if r2 = 0 then some ((-1), h) else if v1 = v2 then some ((-1), h) else (F74 v3).bind fun r3 => if r3 = 0 then some ((-1), h) else (F99 v4).bind fun r4 => if r4 = 0 then some ((-1), h) else if v5 < (-1) then some ((-1), h) else (F75 h).bind fun r5 => if r5 = 0 then F110_0 zFu v1 v2 v3 v4 v5 0 0 h else some ((-1), h)
set_option maxRecDepth 100000 in
theorem S110 {spec : zRn zH2} {hm : zHM} {o : Int → Int} {d : Nat} (hd : 8 ≤ d) (v1 : Int) (v2 : Int) (v3 : Int) (v4 : Int) (v5 : Int) (h : zHC) (v : (Int × zHC)) (e : F110 v1 v2 v3 v4 v5 h = some v) : zRu2 spec d 110 [(21, 0), (0, v1), (0, v2), (0, v3), (0, v4), (0, v5)] (h, hm, o) (some (0, v.1)) (v.2, hm, o) := by
  refine zF_in (D := 7) (mx := 8) (L := [some (21, 0), some (0, v1), some (0, v2), some (0, v3), some (0, v4), some (0, v5), none, none]) (by decide +kernel) rfl rfl hd (fun d hd => ?_)
  unfold F110 at e
  obtain ⟨r1, q1, e⟩ := zB_s e
  refine zF_blk (m := []) (d := 0) (b := B110_0) (gs := []) (c' := (2, [some (21, 0), some (0, v1), some (0, v2), some (0, v3), some (0, v4), some (0, v5), none, none], [(0, v1), (21, 0)], (h, hm, o))) K110_0 rfl trivial ?_
  refine zF_call (k := 61) (cl := 11) (n := 2) (i := .invokevirtual 172) (args := [(21, 0), (0, v1)]) (rest := []) (g1 := (h, hm, o)) (r1 := some (0, r1)) (by decide +kernel) rfl rfl rfl (st' := [(0, r1)]) rfl (S61 (Nat.le_trans (by decide) hd) v1 h _ q1) ?_
  rcases zI_s e with ⟨q2, e⟩ | ⟨q2, e⟩
  · refine zF_blk (m := []) (d := 1) (b := B110_13) (gs := [r1 = 0]) (c' := (52, [some (21, 0), some (0, v1), some (0, v2), some (0, v3), some (0, v4), some (0, v5), none, none], [], (h, hm, o))) K110_13 rfl ⟨q2, trivial⟩ ?_
    refine zF_blk (m := []) (d := 0) (b := B110_1) (gs := []) (c' := (53, [some (21, 0), some (0, v1), some (0, v2), some (0, v3), some (0, v4), some (0, v5), none, none], [(0, (-1))], (h, hm, o))) K110_1 rfl trivial ?_
    exact zF_riC (by decide +kernel) e
  · refine zF_blk (m := []) (d := 0) (b := B110_13) (gs := [¬ (r1 = 0)]) (c' := (8, [some (21, 0), some (0, v1), some (0, v2), some (0, v3), some (0, v4), some (0, v5), none, none], [], (h, hm, o))) K110_13 rfl ⟨q2, trivial⟩ ?_
    obtain ⟨r2, q3, e⟩ := zB_s e
    refine zF_blk (m := []) (d := 0) (b := B110_2) (gs := []) (c' := (10, [some (21, 0), some (0, v1), some (0, v2), some (0, v3), some (0, v4), some (0, v5), none, none], [(0, v2), (21, 0)], (h, hm, o))) K110_2 rfl trivial ?_
    refine zF_call (k := 61) (cl := 11) (n := 2) (i := .invokevirtual 172) (args := [(21, 0), (0, v2)]) (rest := []) (g1 := (h, hm, o)) (r1 := some (0, r2)) (by decide +kernel) rfl rfl rfl (st' := [(0, r2)]) rfl (S61 (Nat.le_trans (by decide) hd) v2 h _ q3) ?_
    rcases zI_s e with ⟨q4, e⟩ | ⟨q4, e⟩
    · refine zF_blk (m := []) (d := 1) (b := B110_12) (gs := [r2 = 0]) (c' := (52, [some (21, 0), some (0, v1), some (0, v2), some (0, v3), some (0, v4), some (0, v5), none, none], [], (h, hm, o))) K110_12 rfl ⟨q4, trivial⟩ ?_
      refine zF_blk (m := []) (d := 0) (b := B110_1) (gs := []) (c' := (53, [some (21, 0), some (0, v1), some (0, v2), some (0, v3), some (0, v4), some (0, v5), none, none], [(0, (-1))], (h, hm, o))) K110_1 rfl trivial ?_
      exact zF_riC (by decide +kernel) e
    · refine zF_blk (m := []) (d := 0) (b := B110_12) (gs := [¬ (r2 = 0)]) (c' := (16, [some (21, 0), some (0, v1), some (0, v2), some (0, v3), some (0, v4), some (0, v5), none, none], [], (h, hm, o))) K110_12 rfl ⟨q4, trivial⟩ ?_
      rcases zI_s e with ⟨q5, e⟩ | ⟨q5, e⟩
      · refine zF_blk (m := []) (d := 1) (b := B110_11) (gs := [v1 = v2]) (c' := (52, [some (21, 0), some (0, v1), some (0, v2), some (0, v3), some (0, v4), some (0, v5), none, none], [], (h, hm, o))) K110_11 rfl ⟨q5, trivial⟩ ?_
        refine zF_blk (m := []) (d := 0) (b := B110_1) (gs := []) (c' := (53, [some (21, 0), some (0, v1), some (0, v2), some (0, v3), some (0, v4), some (0, v5), none, none], [(0, (-1))], (h, hm, o))) K110_1 rfl trivial ?_
        exact zF_riC (by decide +kernel) e
      · refine zF_blk (m := []) (d := 0) (b := B110_11) (gs := [¬ (v1 = v2)]) (c' := (21, [some (21, 0), some (0, v1), some (0, v2), some (0, v3), some (0, v4), some (0, v5), none, none], [], (h, hm, o))) K110_11 rfl ⟨q5, trivial⟩ ?_
        obtain ⟨r3, q6, e⟩ := zB_s e
        refine zF_blk (m := []) (d := 0) (b := B110_3) (gs := []) (c' := (22, [some (21, 0), some (0, v1), some (0, v2), some (0, v3), some (0, v4), some (0, v5), none, none], [(0, v3)], (h, hm, o))) K110_3 rfl trivial ?_
        refine zF_call (k := 74) (cl := 11) (n := 1) (i := .invokestatic 221) (args := [(0, v3)]) (rest := []) (g1 := (h, hm, o)) (r1 := some (0, r3)) (by decide +kernel) rfl rfl rfl (st' := [(0, r3)]) rfl (S74 (Nat.le_trans (by decide) hd) v3 h _ q6) ?_
        rcases zI_s e with ⟨q7, e⟩ | ⟨q7, e⟩
        · refine zF_blk (m := []) (d := 1) (b := B110_10) (gs := [r3 = 0]) (c' := (52, [some (21, 0), some (0, v1), some (0, v2), some (0, v3), some (0, v4), some (0, v5), none, none], [], (h, hm, o))) K110_10 rfl ⟨q7, trivial⟩ ?_
          refine zF_blk (m := []) (d := 0) (b := B110_1) (gs := []) (c' := (53, [some (21, 0), some (0, v1), some (0, v2), some (0, v3), some (0, v4), some (0, v5), none, none], [(0, (-1))], (h, hm, o))) K110_1 rfl trivial ?_
          exact zF_riC (by decide +kernel) e
        · refine zF_blk (m := []) (d := 0) (b := B110_10) (gs := [¬ (r3 = 0)]) (c' := (28, [some (21, 0), some (0, v1), some (0, v2), some (0, v3), some (0, v4), some (0, v5), none, none], [], (h, hm, o))) K110_10 rfl ⟨q7, trivial⟩ ?_
          obtain ⟨r4, q8, e⟩ := zB_s e
          refine zF_blk (m := []) (d := 0) (b := B110_4) (gs := []) (c' := (30, [some (21, 0), some (0, v1), some (0, v2), some (0, v3), some (0, v4), some (0, v5), none, none], [(0, v4)], (h, hm, o))) K110_4 rfl trivial ?_
          refine zF_call (k := 99) (cl := 11) (n := 1) (i := .invokestatic 242) (args := [(0, v4)]) (rest := []) (g1 := (h, hm, o)) (r1 := some (0, r4)) (by decide +kernel) rfl rfl rfl (st' := [(0, r4)]) rfl (S99 (Nat.le_trans (by decide) hd) v4 h _ q8) ?_
          rcases zI_s e with ⟨q9, e⟩ | ⟨q9, e⟩
          · refine zF_blk (m := []) (d := 1) (b := B110_9) (gs := [r4 = 0]) (c' := (52, [some (21, 0), some (0, v1), some (0, v2), some (0, v3), some (0, v4), some (0, v5), none, none], [], (h, hm, o))) K110_9 rfl ⟨q9, trivial⟩ ?_
            refine zF_blk (m := []) (d := 0) (b := B110_1) (gs := []) (c' := (53, [some (21, 0), some (0, v1), some (0, v2), some (0, v3), some (0, v4), some (0, v5), none, none], [(0, (-1))], (h, hm, o))) K110_1 rfl trivial ?_
            exact zF_riC (by decide +kernel) e
          · refine zF_blk (m := []) (d := 0) (b := B110_9) (gs := [¬ (r4 = 0)]) (c' := (36, [some (21, 0), some (0, v1), some (0, v2), some (0, v3), some (0, v4), some (0, v5), none, none], [], (h, hm, o))) K110_9 rfl ⟨q9, trivial⟩ ?_
            rcases zI_s e with ⟨q10, e⟩ | ⟨q10, e⟩
            · refine zF_blk (m := []) (d := 1) (b := B110_8) (gs := [v5 < (-1)]) (c' := (52, [some (21, 0), some (0, v1), some (0, v2), some (0, v3), some (0, v4), some (0, v5), none, none], [], (h, hm, o))) K110_8 rfl ⟨q10, trivial⟩ ?_
              refine zF_blk (m := []) (d := 0) (b := B110_1) (gs := []) (c' := (53, [some (21, 0), some (0, v1), some (0, v2), some (0, v3), some (0, v4), some (0, v5), none, none], [(0, (-1))], (h, hm, o))) K110_1 rfl trivial ?_
              exact zF_riC (by decide +kernel) e
            · refine zF_blk (m := []) (d := 0) (b := B110_8) (gs := [¬ (v5 < (-1))]) (c' := (42, [some (21, 0), some (0, v1), some (0, v2), some (0, v3), some (0, v4), some (0, v5), none, none], [], (h, hm, o))) K110_8 rfl ⟨q10, trivial⟩ ?_
              obtain ⟨r5, q11, e⟩ := zB_s e
              refine zF_blk (m := []) (d := 0) (b := B110_5) (gs := []) (c' := (46, [some (21, 0), some (0, v1), some (0, v2), some (0, v3), some (0, v4), some (0, v5), none, none], [(11, 0)], (h, hm, o))) K110_5 rfl trivial ?_
              refine zF_call (k := 75) (cl := 1) (n := 1) (i := .invokevirtual 224) (args := [(11, 0)]) (rest := []) (g1 := (h, hm, o)) (r1 := some (0, r5)) (by decide +kernel) rfl rfl rfl (st' := [(0, r5)]) rfl (S75 (Nat.le_trans (by decide) hd)  h _ q11) ?_
              rcases zI_s e with ⟨q12, e⟩ | ⟨q12, e⟩
              · refine zF_blk (m := []) (d := 1) (b := B110_7) (gs := [r5 = 0]) (c' := (54, [some (21, 0), some (0, v1), some (0, v2), some (0, v3), some (0, v4), some (0, v5), none, none], [], (h, hm, o))) K110_7 rfl ⟨q12, trivial⟩ ?_
                refine zF_blk (m := []) (d := 0) (b := B110_6) (gs := []) (c' := (60, [some (21, 0), some (0, v1), some (0, v2), some (0, v3), some (0, v4), some (0, v5), some (0, 0), some (0, 0)], [], (h, hm, o))) K110_6 rfl trivial ?_
                exact T110_0 hd zFu v1 v2 v3 v4 v5 0 0 h _ e
              · refine zF_blk (m := []) (d := 0) (b := B110_7) (gs := [¬ (r5 = 0)]) (c' := (52, [some (21, 0), some (0, v1), some (0, v2), some (0, v3), some (0, v4), some (0, v5), none, none], [], (h, hm, o))) K110_7 rfl ⟨q12, trivial⟩ ?_
                refine zF_blk (m := []) (d := 0) (b := B110_1) (gs := []) (c' := (53, [some (21, 0), some (0, v1), some (0, v2), some (0, v3), some (0, v4), some (0, v5), none, none], [(0, (-1))], (h, hm, o))) K110_1 rfl trivial ?_
                exact zF_riC (by decide +kernel) e
