/-! Functions of the methods, by wip/gen/lift.py. -/
def B141_0 : List zRow := [(0, .aload_n 0, 1, (0, 0, 0)), (1, .iload_n 1, 1, (0, 0, 0))]
theorem K141_0 : zRk 141 B141_0 = true := by decide +kernel
def B141_1 : List zRow := [(34, .iconst (-1), 1, (0, 0, 0))]
theorem K141_1 : zRk 141 B141_1 = true := by decide +kernel
def B141_2 : List zRow := [(8, .iload_n 2, 1, (0, 0, 0))]
theorem K141_2 : zRk 141 B141_2 = true := by decide +kernel
def B141_3 : List zRow := [(15, .aload_n 0, 1, (0, 0, 0)), (16, .getfield 19, 3, (11, 1, 39)), (19, .iload_n 1, 1, (0, 0, 0)), (20, .iload_n 2, 1, (0, 0, 0)), (21, .aload_n 0, 1, (0, 0, 0)), (22, .getfield 56, 3, (11, 6, 7)), (25, .getfield 177, 3, (1, 3, 5242906))]
theorem K141_3 : zRk 141 B141_3 = true := by decide +kernel
def B141_4 : List zRow := [(31, .goto 4, 3, (0, 0, 0))]
theorem K141_4 : zRk 141 B141_4 = true := by decide +kernel
def B141_5 : List zRow := [(12, .ifCond .eq 22, 3, (0, 0, 0))]
theorem K141_5 : zRk 141 B141_5 = true := by decide +kernel
def B141_6 : List zRow := [(5, .ifCond .eq 29, 3, (0, 0, 0))]
theorem K141_6 : zRk 141 B141_6 = true := by decide +kernel
/-- EchoVale.hears(II)I -/
def F141 (v1 : Int) (v2 : Int) (h : zHC) : Option Int := (F59 v1 h).bind fun r1 => if r1 = 0 then some (-1) else (F74 v2).bind fun r2 => if r2 = 0 then some (-1) else (F93 0 v1 v2 0 h).bind fun r3 => some r3
set_option maxRecDepth 100000 in
theorem S141 {spec : zRn zH2} {hm : zHM} {o : Int → Int} {d : Nat} (hd : 3 ≤ d) (v1 : Int) (v2 : Int) (h : zHC) (v : Int) (e : F141 v1 v2 h = some v) : zRu2 spec d 141 [(21, 0), (0, v1), (0, v2)] (h, hm, o) (some (0, v)) (h, hm, o) := by
  refine zF_in (D := 2) (mx := 3) (L := [some (21, 0), some (0, v1), some (0, v2)]) (by decide +kernel) rfl rfl hd (fun d hd => ?_)
  unfold F141 at e
  obtain ⟨r1, q1, e⟩ := zB_s e
  refine zF_blk (m := []) (d := 0) (b := B141_0) (gs := []) (c' := (2, [some (21, 0), some (0, v1), some (0, v2)], [(0, v1), (21, 0)], (h, hm, o))) K141_0 rfl trivial ?_
  refine zF_call (k := 59) (cl := 11) (n := 2) (i := .invokevirtual 139) (args := [(21, 0), (0, v1)]) (rest := []) (g1 := (h, hm, o)) (r1 := some (0, r1)) (by decide +kernel) rfl rfl rfl (st' := [(0, r1)]) rfl (S59 (Nat.le_trans (by decide) hd) v1 h _ q1) ?_
  rcases zI_s e with ⟨q2, e⟩ | ⟨q2, e⟩
  · refine zF_blk (m := []) (d := 1) (b := B141_6) (gs := [r1 = 0]) (c' := (34, [some (21, 0), some (0, v1), some (0, v2)], [], (h, hm, o))) K141_6 rfl ⟨q2, trivial⟩ ?_
    refine zF_blk (m := []) (d := 0) (b := B141_1) (gs := []) (c' := (35, [some (21, 0), some (0, v1), some (0, v2)], [(0, (-1))], (h, hm, o))) K141_1 rfl trivial ?_
    obtain rfl := Option.some.inj e
    exact zF_ri (by decide +kernel)
  · refine zF_blk (m := []) (d := 0) (b := B141_6) (gs := [¬ (r1 = 0)]) (c' := (8, [some (21, 0), some (0, v1), some (0, v2)], [], (h, hm, o))) K141_6 rfl ⟨q2, trivial⟩ ?_
    obtain ⟨r2, q3, e⟩ := zB_s e
    refine zF_blk (m := []) (d := 0) (b := B141_2) (gs := []) (c' := (9, [some (21, 0), some (0, v1), some (0, v2)], [(0, v2)], (h, hm, o))) K141_2 rfl trivial ?_
    refine zF_call (k := 74) (cl := 11) (n := 1) (i := .invokestatic 221) (args := [(0, v2)]) (rest := []) (g1 := (h, hm, o)) (r1 := some (0, r2)) (by decide +kernel) rfl rfl rfl (st' := [(0, r2)]) rfl (S74 (Nat.le_trans (by decide) hd) v2 h _ q3) ?_
    rcases zI_s e with ⟨q4, e⟩ | ⟨q4, e⟩
    · refine zF_blk (m := []) (d := 1) (b := B141_5) (gs := [r2 = 0]) (c' := (34, [some (21, 0), some (0, v1), some (0, v2)], [], (h, hm, o))) K141_5 rfl ⟨q4, trivial⟩ ?_
      refine zF_blk (m := []) (d := 0) (b := B141_1) (gs := []) (c' := (35, [some (21, 0), some (0, v1), some (0, v2)], [(0, (-1))], (h, hm, o))) K141_1 rfl trivial ?_
      obtain rfl := Option.some.inj e
      exact zF_ri (by decide +kernel)
    · refine zF_blk (m := []) (d := 0) (b := B141_5) (gs := [¬ (r2 = 0)]) (c' := (15, [some (21, 0), some (0, v1), some (0, v2)], [], (h, hm, o))) K141_5 rfl ⟨q4, trivial⟩ ?_
      obtain ⟨r3, q5, e⟩ := zB_s e
      refine zF_blk (m := []) (d := 0) (b := B141_3) (gs := []) (c' := (28, [some (21, 0), some (0, v1), some (0, v2)], [(1342184491, 0), (0, v2), (0, v1), (19, 0)], (h, hm, o))) K141_3 rfl trivial ?_
      refine zF_call (k := 93) (cl := 9) (n := 4) (i := .invokevirtual 323) (args := [(19, 0), (0, v1), (0, v2), (1342184491, 0)]) (rest := []) (g1 := (h, hm, o)) (r1 := some (0, r3)) (by decide +kernel) rfl rfl rfl (st' := [(0, r3)]) rfl (S93 (Nat.le_trans (by decide) hd) 0 v1 v2 0 h _ q5) ?_
      refine zF_blk (m := []) (d := 0) (b := B141_4) (gs := []) (c' := (35, [some (21, 0), some (0, v1), some (0, v2)], [(0, r3)], (h, hm, o))) K141_4 rfl trivial ?_
      obtain rfl := Option.some.inj e
      exact zF_ri (by decide +kernel)
def B261_0 : List zRow := [(0, .aload_n 0, 1, (0, 0, 0)), (1, .iconst 0, 1, (0, 0, 0)), (2, .putfield 81, 3, (12, 0, 0)), (5, .aload_n 0, 1, (0, 0, 0)), (6, .iload_n 1, 1, (0, 0, 0))]
theorem K261_0 : zRk 261 B261_0 = true := by decide +kernel
def B261_1 : List zRow := [(32, .iconst (-1), 1, (0, 0, 0))]
theorem K261_1 : zRk 261 B261_1 = true := by decide +kernel
def B261_2 : List zRow := [(13, .iload_n 2, 1, (0, 0, 0)), (14, .iconst 1, 1, (0, 0, 0)), (15, .bipush 9, 2, (0, 0, 0))]
theorem K261_2 : zRk 261 B261_2 = true := by decide +kernel
def B261_3 : List zRow := [(23, .aload_n 0, 1, (0, 0, 0)), (24, .iload_n 1, 1, (0, 0, 0)), (25, .iload_n 2, 1, (0, 0, 0))]
theorem K261_3 : zRk 261 B261_3 = true := by decide +kernel
def B261_4 : List zRow := [(29, .goto 4, 3, (0, 0, 0))]
theorem K261_4 : zRk 261 B261_4 = true := by decide +kernel
def B261_5 : List zRow := [(20, .ifCond .eq 12, 3, (0, 0, 0))]
theorem K261_5 : zRk 261 B261_5 = true := by decide +kernel
def B261_6 : List zRow := [(10, .ifCond .eq 22, 3, (0, 0, 0))]
theorem K261_6 : zRk 261 B261_6 = true := by decide +kernel
/-- EchoValeModel.hears(II)I -/
def F261 (v1 : Int) (v2 : Int) (h : zHM) : Option (Int × zHM) := (F205 v1 (mset h 0 0 0)).bind fun r1 => if r1 = 0 then some ((-1), (mset h 0 0 0)) else (F188 v2 1 9).bind fun r2 => if r2 = 0 then some ((-1), (mset h 0 0 0)) else (F240 v1 v2 (mset h 0 0 0)).bind fun r3 => some (r3, (mset h 0 0 0))
set_option maxRecDepth 100000 in
theorem S261 {spec : zRn zH2} {hc : zHC} {o : Int → Int} {d : Nat} (hd : 4 ≤ d) (v1 : Int) (v2 : Int) (h : zHM) (v : (Int × zHM)) (e : F261 v1 v2 h = some v) : zRu2 spec d 261 [(22, 0), (0, v1), (0, v2)] (hc, h, o) (some (0, v.1)) (hc, v.2, o) := by
  refine zF_in (D := 3) (mx := 3) (L := [some (22, 0), some (0, v1), some (0, v2)]) (by decide +kernel) rfl rfl hd (fun d hd => ?_)
  unfold F261 at e
  obtain ⟨r1, q1, e⟩ := zB_s e
  refine zF_blk (m := []) (d := 0) (b := B261_0) (gs := []) (c' := (7, [some (22, 0), some (0, v1), some (0, v2)], [(0, v1), (22, 0)], (hc, (mset h 0 0 0), o))) K261_0 rfl trivial ?_
  refine zF_call (k := 205) (cl := 12) (n := 2) (i := .invokevirtual 235) (args := [(22, 0), (0, v1)]) (rest := []) (g1 := (hc, (mset h 0 0 0), o)) (r1 := some (0, r1)) (by decide +kernel) rfl rfl rfl (st' := [(0, r1)]) rfl (S205 (Nat.le_trans (by decide) hd) v1 (mset h 0 0 0) _ q1) ?_
  rcases zI_s e with ⟨q2, e⟩ | ⟨q2, e⟩
  · refine zF_blk (m := []) (d := 1) (b := B261_6) (gs := [r1 = 0]) (c' := (32, [some (22, 0), some (0, v1), some (0, v2)], [], (hc, (mset h 0 0 0), o))) K261_6 rfl ⟨q2, trivial⟩ ?_
    refine zF_blk (m := []) (d := 0) (b := B261_1) (gs := []) (c' := (33, [some (22, 0), some (0, v1), some (0, v2)], [(0, (-1))], (hc, (mset h 0 0 0), o))) K261_1 rfl trivial ?_
    exact zF_riM (by decide +kernel) e
  · refine zF_blk (m := []) (d := 0) (b := B261_6) (gs := [¬ (r1 = 0)]) (c' := (13, [some (22, 0), some (0, v1), some (0, v2)], [], (hc, (mset h 0 0 0), o))) K261_6 rfl ⟨q2, trivial⟩ ?_
    obtain ⟨r2, q3, e⟩ := zB_s e
    refine zF_blk (m := []) (d := 0) (b := B261_2) (gs := []) (c' := (17, [some (22, 0), some (0, v1), some (0, v2)], [(0, 9), (0, 1), (0, v2)], (hc, (mset h 0 0 0), o))) K261_2 rfl trivial ?_
    refine zF_call (k := 188) (cl := 12) (n := 3) (i := .invokestatic 151) (args := [(0, v2), (0, 1), (0, 9)]) (rest := []) (g1 := (hc, (mset h 0 0 0), o)) (r1 := some (0, r2)) (by decide +kernel) rfl rfl rfl (st' := [(0, r2)]) rfl (S188 (Nat.le_trans (by decide) hd) v2 1 9 (mset h 0 0 0) _ q3) ?_
    rcases zI_s e with ⟨q4, e⟩ | ⟨q4, e⟩
    · refine zF_blk (m := []) (d := 1) (b := B261_5) (gs := [r2 = 0]) (c' := (32, [some (22, 0), some (0, v1), some (0, v2)], [], (hc, (mset h 0 0 0), o))) K261_5 rfl ⟨q4, trivial⟩ ?_
      refine zF_blk (m := []) (d := 0) (b := B261_1) (gs := []) (c' := (33, [some (22, 0), some (0, v1), some (0, v2)], [(0, (-1))], (hc, (mset h 0 0 0), o))) K261_1 rfl trivial ?_
      exact zF_riM (by decide +kernel) e
    · refine zF_blk (m := []) (d := 0) (b := B261_5) (gs := [¬ (r2 = 0)]) (c' := (23, [some (22, 0), some (0, v1), some (0, v2)], [], (hc, (mset h 0 0 0), o))) K261_5 rfl ⟨q4, trivial⟩ ?_
      obtain ⟨r3, q5, e⟩ := zB_s e
      refine zF_blk (m := []) (d := 0) (b := B261_3) (gs := []) (c' := (26, [some (22, 0), some (0, v1), some (0, v2)], [(0, v2), (0, v1), (22, 0)], (hc, (mset h 0 0 0), o))) K261_3 rfl trivial ?_
      refine zF_call (k := 240) (cl := 12) (n := 3) (i := .invokevirtual 289) (args := [(22, 0), (0, v1), (0, v2)]) (rest := []) (g1 := (hc, (mset h 0 0 0), o)) (r1 := some (0, r3)) (by decide +kernel) rfl rfl rfl (st' := [(0, r3)]) rfl (S240 (Nat.le_trans (by decide) hd) v1 v2 (mset h 0 0 0) _ q5) ?_
      refine zF_blk (m := []) (d := 0) (b := B261_4) (gs := []) (c' := (33, [some (22, 0), some (0, v1), some (0, v2)], [(0, r3)], (hc, (mset h 0 0 0), o))) K261_4 rfl trivial ?_
      exact zF_riM (by decide +kernel) e
def B144_0 : List zRow := [(9, .aload_n 0, 1, (0, 0, 0)), (10, .getfield 95, 3, (11, 13, 5243266)), (13, .aload_n 0, 1, (0, 0, 0)), (14, .getfield 327, 3, (11, 14, 0)), (17, .iload_n 1, 1, (0, 0, 0)), (18, .iastore, 1, (0, 0, 0)), (19, .aload_n 0, 1, (0, 0, 0)), (20, .dup, 1, (0, 0, 0)), (21, .getfield 327, 3, (11, 14, 0)), (24, .iconst 1, 1, (0, 0, 0)), (25, .iadd, 1, (0, 0, 0)), (26, .putfield 327, 3, (11, 14, 0))]
theorem K144_0 : zRk 144 B144_0 = true := by decide +kernel
def B144_1 : List zRow := [(0, .aload_n 0, 1, (0, 0, 0)), (1, .getfield 327, 3, (11, 14, 0)), (4, .bipush 96, 2, (0, 0, 0)), (6, .if_icmp .ge 23, 3, (0, 0, 0))]
theorem K144_1 : zRk 144 B144_1 = true := by decide +kernel
/-- EchoVale.put(I)V -/
def F144 (v1 : Int) (h : zHC) : Option zHC := if 96 ≤ (h 718 0 0) then some h else zG (0 ≤ (h 718 0 0) ∧ (h 718 0 0) < 96) (some (hset (hset h 717 0 (h 718 0 0) v1) 718 0 0 (wadd (h 718 0 0) 1)))
set_option maxRecDepth 100000 in
theorem S144 {spec : zRn zH2} {hm : zHM} {o : Int → Int} {d : Nat} (hd : 1 ≤ d) (v1 : Int) (h : zHC) (v : zHC) (e : F144 v1 h = some v) : zRu2 spec d 144 [(21, 0), (0, v1)] (h, hm, o) none (v, hm, o) := by
  refine zF_in (D := 0) (mx := 2) (L := [some (21, 0), some (0, v1)]) (by decide +kernel) rfl rfl hd (fun d hd => ?_)
  unfold F144 at e
  rcases zI_s e with ⟨q1, e⟩ | ⟨q1, e⟩
  · refine zF_blk (m := []) (d := 1) (b := B144_1) (gs := [96 ≤ (h 718 0 0)]) (c' := (29, [some (21, 0), some (0, v1)], [], (h, hm, o))) K144_1 rfl ⟨q1, trivial⟩ ?_
    obtain rfl := Option.some.inj e
    exact zF_rv (by decide +kernel)
  · refine zF_blk (m := []) (d := 0) (b := B144_1) (gs := [¬ (96 ≤ (h 718 0 0))]) (c' := (9, [some (21, 0), some (0, v1)], [], (h, hm, o))) K144_1 rfl ⟨q1, trivial⟩ ?_
    obtain ⟨q2, e⟩ := zG_s e
    refine zF_blk (m := []) (d := 0) (b := B144_0) (gs := [0 ≤ (h 718 0 0) ∧ (h 718 0 0) < 96]) (c' := (29, [some (21, 0), some (0, v1)], [], ((hset (hset h 717 0 (h 718 0 0) v1) 718 0 0 (wadd (h 718 0 0) 1)), hm, o))) K144_0 rfl ⟨q2, trivial⟩ ?_
    obtain rfl := Option.some.inj e
    exact zF_rv (by decide +kernel)
def B143_0 : List zRow := [(0, .bipush 6, 2, (0, 0, 0)), (2, .istore_n 3, 1, (0, 0, 0))]
theorem K143_0 : zRk 143 B143_0 = true := by decide +kernel
def B143_1 : List zRow := [(23, .aload_n 0, 1, (0, 0, 0)), (24, .bipush 97, 2, (0, 0, 0)), (26, .iload 4, 2, (0, 0, 0))]
theorem K143_1 : zRk 143 B143_1 = true := by decide +kernel
def B143_2 : List zRow := [(28, .iadd, 1, (0, 0, 0)), (29, .iconst 1, 1, (0, 0, 0)), (30, .isub, 1, (0, 0, 0))]
theorem K143_2 : zRk 143 B143_2 = true := by decide +kernel
def B143_3 : List zRow := [(7, .lload_n 1, 1, (0, 0, 0)), (8, .iload_n 3, 1, (0, 0, 0)), (9, .iconst 5, 1, (0, 0, 0)), (10, .imul, 1, (0, 0, 0)), (11, .lshr, 1, (0, 0, 0)), (12, .l2i, 1, (0, 0, 0)), (13, .bipush 31, 2, (0, 0, 0)), (15, .iand, 1, (0, 0, 0)), (16, .istore 4, 2, (0, 0, 0)), (18, .iload 4, 2, (0, 0, 0)), (20, .ifCond .le 14, 3, (0, 0, 0))]
theorem K143_3 : zRk 143 B143_3 = true := by decide +kernel
def B143_4 : List zRow := [(3, .iload_n 3, 1, (0, 0, 0)), (4, .ifCond .lt 36, 3, (0, 0, 0))]
theorem K143_4 : zRk 143 B143_4 = true := by decide +kernel
def B143_5 : List zRow := [(34, .iinc 3 (-1), 3, (0, 0, 0)), (37, .goto (-34), 3, (0, 0, 0))]
theorem K143_5 : zRk 143 B143_5 = true := by decide +kernel
def F143_1 (k0 : Int → Int → zHC → Option zHC) (v1 : Int) (v3 : Int) (h : zHC) : Option zHC := k0 v1 (wadd v3 (-1)) h
set_option maxRecDepth 100000 in
theorem T143_1 {spec : zRn zH2} {hm : zHM} {o : Int → Int} {d : Nat} (hd : 1 ≤ d) (k0 : Int → Int → zHC → Option zHC) (hk0 : ∀ (v1 : Int) (v3 : Int) (h : zHC) (v : zHC), k0 v1 v3 h = some v → zFin 0 (fun _ => 0) (zRu2 spec d) 143 none (v, hm, o) (3, [some (21, 0), some (1, v1), none, some (0, v3), none], [], (h, hm, o))) (v1 : Int) (v3 : Int) (h : zHC) (v : zHC) (e : F143_1 k0 v1 v3 h = some v) : zFin 0 (fun _ => 0) (zRu2 spec d) 143 none (v, hm, o) (34, [some (21, 0), some (1, v1), none, some (0, v3), none], [], (h, hm, o)) := by
  unfold F143_1 at e
  refine zF_blk (m := []) (d := 0) (b := B143_5) (gs := []) (c' := (3, [some (21, 0), some (1, v1), none, some (0, (wadd v3 (-1))), none], [], (h, hm, o))) K143_5 rfl trivial ?_
  exact hk0 v1 (wadd v3 (-1)) h _ e
def F143_0 : Nat → Int → Int → zHC → Option zHC
  | 0, _, _, _ => none
  | n + 1, v1, v3, h => if v3 < 0 then some h else if (wand (wl2i (qshr v1 (wmul v3 5))) 31) ≤ 0 then F143_1 (F143_0 n) v1 v3 h else (F144 (wsub (wadd 97 (wand (wl2i (qshr v1 (wmul v3 5))) 31)) 1) h).bind fun r1 => F143_1 (F143_0 n) v1 v3 r1
set_option maxRecDepth 100000 in
theorem T143_0 {spec : zRn zH2} {hm : zHM} {o : Int → Int} {d : Nat} (hd : 1 ≤ d) : ∀ (n : Nat) (v1 : Int) (v3 : Int) (h : zHC) (v : zHC), F143_0 n v1 v3 h = some v → zFin 0 (fun _ => 0) (zRu2 spec d) 143 none (v, hm, o) (3, [some (21, 0), some (1, v1), none, some (0, v3), none], [], (h, hm, o)) := by
  intro n
  induction n with
  | zero => intro v1 v3 h v e; unfold F143_0 at e; cases e
  | succ n hk0 =>
    intro v1 v3 h v e
    unfold F143_0 at e
    rcases zI_s e with ⟨q1, e⟩ | ⟨q1, e⟩
    · refine zF_blk (m := []) (d := 1) (b := B143_4) (gs := [v3 < 0]) (c' := (40, [some (21, 0), some (1, v1), none, some (0, v3), none], [], (h, hm, o))) K143_4 rfl ⟨q1, trivial⟩ ?_
      obtain rfl := Option.some.inj e
      exact zF_rv (by decide +kernel)
    · refine zF_blk (m := []) (d := 0) (b := B143_4) (gs := [¬ (v3 < 0)]) (c' := (7, [some (21, 0), some (1, v1), none, some (0, v3), none], [], (h, hm, o))) K143_4 rfl ⟨q1, trivial⟩ ?_
      rcases zI_s e with ⟨q2, e⟩ | ⟨q2, e⟩
      · refine zF_blk (m := []) (d := 1) (b := B143_3) (gs := [(wand (wl2i (qshr v1 (wmul v3 5))) 31) ≤ 0]) (c' := (34, [some (21, 0), some (1, v1), none, some (0, v3), some (0, (wand (wl2i (qshr v1 (wmul v3 5))) 31))], [], (h, hm, o))) K143_3 rfl ⟨q2, trivial⟩ ?_
        refine zF_blk (m := [true, true, false, true, false]) (d := 0) (b := []) (gs := []) (c' := (34, [some (21, 0), some (1, v1), none, some (0, v3), none], [], (h, hm, o))) rfl rfl trivial ?_
        exact T143_1 hd (F143_0 n) hk0 v1 v3 h _ e
      · refine zF_blk (m := []) (d := 0) (b := B143_3) (gs := [¬ ((wand (wl2i (qshr v1 (wmul v3 5))) 31) ≤ 0)]) (c' := (23, [some (21, 0), some (1, v1), none, some (0, v3), some (0, (wand (wl2i (qshr v1 (wmul v3 5))) 31))], [], (h, hm, o))) K143_3 rfl ⟨q2, trivial⟩ ?_
        refine zF_blk (m := []) (d := 0) (b := B143_1) (gs := []) (c' := (28, [some (21, 0), some (1, v1), none, some (0, v3), some (0, (wand (wl2i (qshr v1 (wmul v3 5))) 31))], [(0, (wand (wl2i (qshr v1 (wmul v3 5))) 31)), (0, 97), (21, 0)], (h, hm, o))) K143_1 rfl trivial ?_
        obtain ⟨r1, q3, e⟩ := zB_s e
        refine zF_blk (m := []) (d := 0) (b := B143_2) (gs := []) (c' := (31, [some (21, 0), some (1, v1), none, some (0, v3), some (0, (wand (wl2i (qshr v1 (wmul v3 5))) 31))], [(0, (wsub (wadd 97 (wand (wl2i (qshr v1 (wmul v3 5))) 31)) 1)), (21, 0)], (h, hm, o))) K143_2 rfl trivial ?_
        refine zF_call (k := 144) (cl := 11) (n := 2) (i := .invokevirtual 338) (args := [(21, 0), (0, (wsub (wadd 97 (wand (wl2i (qshr v1 (wmul v3 5))) 31)) 1))]) (rest := []) (g1 := (r1, hm, o)) (r1 := none) (by decide +kernel) rfl rfl rfl (st' := []) rfl (S144 (Nat.le_trans (by decide) hd) (wsub (wadd 97 (wand (wl2i (qshr v1 (wmul v3 5))) 31)) 1) h _ q3) ?_
        refine zF_blk (m := [true, true, false, true, false]) (d := 0) (b := []) (gs := []) (c' := (34, [some (21, 0), some (1, v1), none, some (0, v3), none], [], (r1, hm, o))) rfl rfl trivial ?_
        exact T143_1 hd (F143_0 n) hk0 v1 v3 r1 _ e
/-- EchoVale.putName(J)V -/
def F143 (v1 : Int) (h : zHC) : Option zHC := F143_0 zFu v1 6 h
set_option maxRecDepth 100000 in
theorem S143 {spec : zRn zH2} {hm : zHM} {o : Int → Int} {d : Nat} (hd : 2 ≤ d) (v1 : Int) (h : zHC) (v : zHC) (e : F143 v1 h = some v) : zRu2 spec d 143 [(21, 0), (1, v1)] (h, hm, o) none (v, hm, o) := by
  refine zF_in (D := 1) (mx := 5) (L := [some (21, 0), some (1, v1), none, none, none]) (by decide +kernel) rfl rfl hd (fun d hd => ?_)
  unfold F143 at e
  refine zF_blk (m := []) (d := 0) (b := B143_0) (gs := []) (c' := (3, [some (21, 0), some (1, v1), none, some (0, 6), none], [], (h, hm, o))) K143_0 rfl trivial ?_
  exact T143_0 hd zFu v1 6 h _ e
def B145_0 : List zRow := [(6, .aload_n 0, 1, (0, 0, 0)), (7, .bipush 48, 2, (0, 0, 0)), (9, .iload_n 1, 1, (0, 0, 0)), (10, .bipush 100, 2, (0, 0, 0)), (12, .idiv, 1, (0, 0, 0))]
theorem K145_0 : zRk 145 B145_0 = true := by decide +kernel
def B145_1 : List zRow := [(13, .iadd, 1, (0, 0, 0))]
theorem K145_1 : zRk 145 B145_1 = true := by decide +kernel
def B145_2 : List zRow := [(0, .iload_n 1, 1, (0, 0, 0)), (1, .bipush 100, 2, (0, 0, 0)), (3, .if_icmp .lt 14, 3, (0, 0, 0))]
theorem K145_2 : zRk 145 B145_2 = true := by decide +kernel
def B145_3 : List zRow := [(23, .aload_n 0, 1, (0, 0, 0)), (24, .bipush 48, 2, (0, 0, 0)), (26, .iload_n 1, 1, (0, 0, 0)), (27, .bipush 10, 2, (0, 0, 0)), (29, .idiv, 1, (0, 0, 0)), (30, .bipush 10, 2, (0, 0, 0)), (32, .irem, 1, (0, 0, 0))]
theorem K145_3 : zRk 145 B145_3 = true := by decide +kernel
def B145_4 : List zRow := [(33, .iadd, 1, (0, 0, 0))]
theorem K145_4 : zRk 145 B145_4 = true := by decide +kernel
def B145_5 : List zRow := [(17, .iload_n 1, 1, (0, 0, 0)), (18, .bipush 10, 2, (0, 0, 0)), (20, .if_icmp .lt 17, 3, (0, 0, 0))]
theorem K145_5 : zRk 145 B145_5 = true := by decide +kernel
def B145_6 : List zRow := [(37, .aload_n 0, 1, (0, 0, 0)), (38, .bipush 48, 2, (0, 0, 0)), (40, .iload_n 1, 1, (0, 0, 0)), (41, .bipush 10, 2, (0, 0, 0)), (43, .irem, 1, (0, 0, 0))]
theorem K145_6 : zRk 145 B145_6 = true := by decide +kernel
def B145_7 : List zRow := [(44, .iadd, 1, (0, 0, 0))]
theorem K145_7 : zRk 145 B145_7 = true := by decide +kernel
def F145_1 (v1 : Int) (h : zHC) : Option zHC := (F144 (wadd 48 (wrem v1 10)) h).bind fun r1 => some r1
set_option maxRecDepth 100000 in
theorem T145_1 {spec : zRn zH2} {hm : zHM} {o : Int → Int} {d : Nat} (hd : 1 ≤ d) (v1 : Int) (h : zHC) (v : zHC) (e : F145_1 v1 h = some v) : zFin 0 (fun _ => 0) (zRu2 spec d) 145 none (v, hm, o) (37, [some (21, 0), some (0, v1)], [], (h, hm, o)) := by
  unfold F145_1 at e
  refine zF_blk (m := []) (d := 0) (b := B145_6) (gs := [¬ 10 = 0]) (c' := (44, [some (21, 0), some (0, v1)], [(0, (wrem v1 10)), (0, 48), (21, 0)], (h, hm, o))) K145_6 rfl ⟨by decide, trivial⟩ ?_
  obtain ⟨r1, q1, e⟩ := zB_s e
  refine zF_blk (m := []) (d := 0) (b := B145_7) (gs := []) (c' := (45, [some (21, 0), some (0, v1)], [(0, (wadd 48 (wrem v1 10))), (21, 0)], (h, hm, o))) K145_7 rfl trivial ?_
  refine zF_call (k := 144) (cl := 11) (n := 2) (i := .invokevirtual 338) (args := [(21, 0), (0, (wadd 48 (wrem v1 10)))]) (rest := []) (g1 := (r1, hm, o)) (r1 := none) (by decide +kernel) rfl rfl rfl (st' := []) rfl (S144 (Nat.le_trans (by decide) hd) (wadd 48 (wrem v1 10)) h _ q1) ?_
  obtain rfl := Option.some.inj e
  exact zF_rv (by decide +kernel)
def F145_0 (v1 : Int) (h : zHC) : Option zHC := if v1 < 10 then F145_1 v1 h else (F144 (wadd 48 (wrem (wdiv v1 10) 10)) h).bind fun r1 => F145_1 v1 r1
set_option maxRecDepth 100000 in
theorem T145_0 {spec : zRn zH2} {hm : zHM} {o : Int → Int} {d : Nat} (hd : 1 ≤ d) (v1 : Int) (h : zHC) (v : zHC) (e : F145_0 v1 h = some v) : zFin 0 (fun _ => 0) (zRu2 spec d) 145 none (v, hm, o) (17, [some (21, 0), some (0, v1)], [], (h, hm, o)) := by
  unfold F145_0 at e
  rcases zI_s e with ⟨q1, e⟩ | ⟨q1, e⟩
  · refine zF_blk (m := []) (d := 1) (b := B145_5) (gs := [v1 < 10]) (c' := (37, [some (21, 0), some (0, v1)], [], (h, hm, o))) K145_5 rfl ⟨q1, trivial⟩ ?_
    exact T145_1 hd v1 h _ e
  · refine zF_blk (m := []) (d := 0) (b := B145_5) (gs := [¬ (v1 < 10)]) (c' := (23, [some (21, 0), some (0, v1)], [], (h, hm, o))) K145_5 rfl ⟨q1, trivial⟩ ?_
    refine zF_blk (m := []) (d := 0) (b := B145_3) (gs := [¬ 10 = 0, ¬ 10 = 0]) (c' := (33, [some (21, 0), some (0, v1)], [(0, (wrem (wdiv v1 10) 10)), (0, 48), (21, 0)], (h, hm, o))) K145_3 rfl ⟨by decide, by decide, trivial⟩ ?_
    obtain ⟨r1, q2, e⟩ := zB_s e
    refine zF_blk (m := []) (d := 0) (b := B145_4) (gs := []) (c' := (34, [some (21, 0), some (0, v1)], [(0, (wadd 48 (wrem (wdiv v1 10) 10))), (21, 0)], (h, hm, o))) K145_4 rfl trivial ?_
    refine zF_call (k := 144) (cl := 11) (n := 2) (i := .invokevirtual 338) (args := [(21, 0), (0, (wadd 48 (wrem (wdiv v1 10) 10)))]) (rest := []) (g1 := (r1, hm, o)) (r1 := none) (by decide +kernel) rfl rfl rfl (st' := []) rfl (S144 (Nat.le_trans (by decide) hd) (wadd 48 (wrem (wdiv v1 10) 10)) h _ q2) ?_
    exact T145_1 hd v1 r1 _ e
/-- EchoVale.putNumber(I)V -/
def F145 (v1 : Int) (h : zHC) : Option zHC := if v1 < 100 then F145_0 v1 h else (F144 (wadd 48 (wdiv v1 100)) h).bind fun r1 => F145_0 v1 r1
set_option maxRecDepth 100000 in
theorem S145 {spec : zRn zH2} {hm : zHM} {o : Int → Int} {d : Nat} (hd : 2 ≤ d) (v1 : Int) (h : zHC) (v : zHC) (e : F145 v1 h = some v) : zRu2 spec d 145 [(21, 0), (0, v1)] (h, hm, o) none (v, hm, o) := by
  refine zF_in (D := 1) (mx := 2) (L := [some (21, 0), some (0, v1)]) (by decide +kernel) rfl rfl hd (fun d hd => ?_)
  unfold F145 at e
  rcases zI_s e with ⟨q1, e⟩ | ⟨q1, e⟩
  · refine zF_blk (m := []) (d := 1) (b := B145_2) (gs := [v1 < 100]) (c' := (17, [some (21, 0), some (0, v1)], [], (h, hm, o))) K145_2 rfl ⟨q1, trivial⟩ ?_
    exact T145_0 hd v1 h _ e
  · refine zF_blk (m := []) (d := 0) (b := B145_2) (gs := [¬ (v1 < 100)]) (c' := (6, [some (21, 0), some (0, v1)], [], (h, hm, o))) K145_2 rfl ⟨q1, trivial⟩ ?_
    refine zF_blk (m := []) (d := 0) (b := B145_0) (gs := [¬ 100 = 0]) (c' := (13, [some (21, 0), some (0, v1)], [(0, (wdiv v1 100)), (0, 48), (21, 0)], (h, hm, o))) K145_0 rfl ⟨by decide, trivial⟩ ?_
    obtain ⟨r1, q2, e⟩ := zB_s e
    refine zF_blk (m := []) (d := 0) (b := B145_1) (gs := []) (c' := (14, [some (21, 0), some (0, v1)], [(0, (wadd 48 (wdiv v1 100))), (21, 0)], (h, hm, o))) K145_1 rfl trivial ?_
    refine zF_call (k := 144) (cl := 11) (n := 2) (i := .invokevirtual 338) (args := [(21, 0), (0, (wadd 48 (wdiv v1 100)))]) (rest := []) (g1 := (r1, hm, o)) (r1 := none) (by decide +kernel) rfl rfl rfl (st' := []) rfl (S144 (Nat.le_trans (by decide) hd) (wadd 48 (wdiv v1 100)) h _ q2) ?_
    exact T145_0 hd v1 r1 _ e
def B142_0 : List zRow := [(0, .aload_n 0, 1, (0, 0, 0)), (1, .iload_n 1, 1, (0, 0, 0))]
theorem K142_0 : zRk 142 B142_0 = true := by decide +kernel
def B142_1 : List zRow := [(10, .aload_n 0, 1, (0, 0, 0)), (11, .iconst 0, 1, (0, 0, 0)), (12, .putfield 327, 3, (11, 14, 0)), (15, .iconst 0, 1, (0, 0, 0)), (16, .istore_n 2, 1, (0, 0, 0))]
theorem K142_1 : zRk 142 B142_1 = true := by decide +kernel
def B142_2 : List zRow := [(8, .iconst (-1), 1, (0, 0, 0))]
theorem K142_2 : zRk 142 B142_2 = true := by decide +kernel
def B142_3 : List zRow := [(5, .ifCond .ne 5, 3, (0, 0, 0))]
theorem K142_3 : zRk 142 B142_3 = true := by decide +kernel
def B142_4 : List zRow := [(112, .aload_n 0, 1, (0, 0, 0)), (113, .getfield 327, 3, (11, 14, 0))]
theorem K142_4 : zRk 142 B142_4 = true := by decide +kernel
def B142_5 : List zRow := [(28, .aload_n 0, 1, (0, 0, 0)), (29, .getfield 56, 3, (11, 6, 7)), (32, .iload_n 2, 1, (0, 0, 0)), (33, .iconst 0, 1, (0, 0, 0))]
theorem K142_5 : zRk 142 B142_5 = true := by decide +kernel
def B142_6 : List zRow := [(41, .aload_n 0, 1, (0, 0, 0)), (42, .aload_n 0, 1, (0, 0, 0)), (43, .getfield 19, 3, (11, 1, 39)), (46, .getfield 330, 3, (9, 7, 5505050)), (49, .aload_n 0, 1, (0, 0, 0)), (50, .getfield 56, 3, (11, 6, 7)), (53, .iload_n 2, 1, (0, 0, 0)), (54, .iconst 1, 1, (0, 0, 0))]
theorem K142_6 : zRk 142 B142_6 = true := by decide +kernel
def B142_7 : List zRow := [(58, .laload, 1, (0, 0, 0))]
theorem K142_7 : zRk 142 B142_7 = true := by decide +kernel
def B142_8 : List zRow := [(62, .aload_n 0, 1, (0, 0, 0)), (63, .bipush 32, 2, (0, 0, 0))]
theorem K142_8 : zRk 142 B142_8 = true := by decide +kernel
def B142_9 : List zRow := [(68, .aload_n 0, 1, (0, 0, 0)), (69, .aload_n 0, 1, (0, 0, 0)), (70, .getfield 56, 3, (11, 6, 7)), (73, .iload_n 2, 1, (0, 0, 0)), (74, .iconst 2, 1, (0, 0, 0))]
theorem K142_9 : zRk 142 B142_9 = true := by decide +kernel
def B142_10 : List zRow := [(81, .aload_n 0, 1, (0, 0, 0)), (82, .bipush 32, 2, (0, 0, 0))]
theorem K142_10 : zRk 142 B142_10 = true := by decide +kernel
def B142_11 : List zRow := [(87, .aload_n 0, 1, (0, 0, 0)), (88, .aload_n 0, 1, (0, 0, 0)), (89, .getfield 56, 3, (11, 6, 7)), (92, .iload_n 2, 1, (0, 0, 0)), (93, .iconst 3, 1, (0, 0, 0))]
theorem K142_11 : zRk 142 B142_11 = true := by decide +kernel
def B142_12 : List zRow := [(100, .aload_n 0, 1, (0, 0, 0)), (101, .bipush 59, 2, (0, 0, 0))]
theorem K142_12 : zRk 142 B142_12 = true := by decide +kernel
def B142_13 : List zRow := [(37, .iload_n 1, 1, (0, 0, 0)), (38, .if_icmp .ne 68, 3, (0, 0, 0))]
theorem K142_13 : zRk 142 B142_13 = true := by decide +kernel
def B142_14 : List zRow := [(17, .iload_n 2, 1, (0, 0, 0)), (18, .aload_n 0, 1, (0, 0, 0)), (19, .getfield 56, 3, (11, 6, 7)), (22, .getfield 208, 3, (1, 2, 0)), (25, .if_icmp .ge 87, 3, (0, 0, 0))]
theorem K142_14 : zRk 142 B142_14 = true := by decide +kernel
def B142_15 : List zRow := [(106, .iinc 2 1, 3, (0, 0, 0)), (109, .goto (-92), 3, (0, 0, 0))]
theorem K142_15 : zRk 142 B142_15 = true := by decide +kernel
def F142_1 (k0 : Int → Int → zHC → Option (Int × zHC)) (v1 : Int) (v2 : Int) (h : zHC) : Option (Int × zHC) := k0 v1 (wadd v2 1) h
set_option maxRecDepth 100000 in
theorem T142_1 {spec : zRn zH2} {hm : zHM} {o : Int → Int} {d : Nat} (hd : 2 ≤ d) (k0 : Int → Int → zHC → Option (Int × zHC)) (hk0 : ∀ (v1 : Int) (v2 : Int) (h : zHC) (v : (Int × zHC)), k0 v1 v2 h = some v → zFin 0 (fun _ => 0) (zRu2 spec d) 142 (some (0, v.1)) (v.2, hm, o) (17, [some (21, 0), some (0, v1), some (0, v2)], [], (h, hm, o))) (v1 : Int) (v2 : Int) (h : zHC) (v : (Int × zHC)) (e : F142_1 k0 v1 v2 h = some v) : zFin 0 (fun _ => 0) (zRu2 spec d) 142 (some (0, v.1)) (v.2, hm, o) (106, [some (21, 0), some (0, v1), some (0, v2)], [], (h, hm, o)) := by
  unfold F142_1 at e
  refine zF_blk (m := []) (d := 0) (b := B142_15) (gs := []) (c' := (17, [some (21, 0), some (0, v1), some (0, (wadd v2 1))], [], (h, hm, o))) K142_15 rfl trivial ?_
  exact hk0 v1 (wadd v2 1) h _ e
def F142_0 : Nat → Int → Int → zHC → Option (Int × zHC)
  | 0, _, _, _ => none
  | n + 1, v1, v2, h => if (h 66 0 0) ≤ v2 then some ((h 718 0 0), h) else (F67 0 v2 0 h).bind fun r1 => if ¬ r1 = v1 then F142_1 (F142_0 n) v1 v2 h else (F67 0 v2 1 h).bind fun r2 => zG (0 ≤ r2 ∧ r2 < 6) ((F143 (h 583 0 r2) h).bind fun r3 => (F144 32 r3).bind fun r4 => (F67 0 v2 2 r4).bind fun r5 => (F145 r5 r4).bind fun r6 => (F144 32 r6).bind fun r7 => (F67 0 v2 3 r7).bind fun r8 => (F145 r8 r7).bind fun r9 => (F144 59 r9).bind fun r10 => F142_1 (F142_0 n) v1 v2 r10)
set_option maxRecDepth 100000 in
theorem T142_0 {spec : zRn zH2} {hm : zHM} {o : Int → Int} {d : Nat} (hd : 2 ≤ d) : ∀ (n : Nat) (v1 : Int) (v2 : Int) (h : zHC) (v : (Int × zHC)), F142_0 n v1 v2 h = some v → zFin 0 (fun _ => 0) (zRu2 spec d) 142 (some (0, v.1)) (v.2, hm, o) (17, [some (21, 0), some (0, v1), some (0, v2)], [], (h, hm, o)) := by
  intro n
  induction n with
  | zero => intro v1 v2 h v e; unfold F142_0 at e; cases e
  | succ n hk0 =>
    intro v1 v2 h v e
    unfold F142_0 at e
    rcases zI_s e with ⟨q1, e⟩ | ⟨q1, e⟩
    · refine zF_blk (m := []) (d := 1) (b := B142_14) (gs := [(h 66 0 0) ≤ v2]) (c' := (112, [some (21, 0), some (0, v1), some (0, v2)], [], (h, hm, o))) K142_14 rfl ⟨q1, trivial⟩ ?_
      refine zF_blk (m := []) (d := 0) (b := B142_4) (gs := []) (c' := (116, [some (21, 0), some (0, v1), some (0, v2)], [(0, (h 718 0 0))], (h, hm, o))) K142_4 rfl trivial ?_
      exact zF_riC (by decide +kernel) e
    · refine zF_blk (m := []) (d := 0) (b := B142_14) (gs := [¬ ((h 66 0 0) ≤ v2)]) (c' := (28, [some (21, 0), some (0, v1), some (0, v2)], [], (h, hm, o))) K142_14 rfl ⟨q1, trivial⟩ ?_
      obtain ⟨r1, q2, e⟩ := zB_s e
      refine zF_blk (m := []) (d := 0) (b := B142_5) (gs := []) (c' := (34, [some (21, 0), some (0, v1), some (0, v2)], [(0, 0), (0, v2), (11, 0)], (h, hm, o))) K142_5 rfl trivial ?_
      refine zF_call (k := 67) (cl := 1) (n := 3) (i := .invokevirtual 211) (args := [(11, 0), (0, v2), (0, 0)]) (rest := []) (g1 := (h, hm, o)) (r1 := some (0, r1)) (by decide +kernel) rfl rfl rfl (st' := [(0, r1)]) rfl (S67 (Nat.le_trans (by decide) hd) 0 v2 0 h _ q2) ?_
      rcases zI_s e with ⟨q3, e⟩ | ⟨q3, e⟩
      · refine zF_blk (m := []) (d := 1) (b := B142_13) (gs := [¬ r1 = v1]) (c' := (106, [some (21, 0), some (0, v1), some (0, v2)], [], (h, hm, o))) K142_13 rfl ⟨q3, trivial⟩ ?_
        exact T142_1 hd (F142_0 n) hk0 v1 v2 h _ e
      · refine zF_blk (m := []) (d := 0) (b := B142_13) (gs := [¬ (¬ r1 = v1)]) (c' := (41, [some (21, 0), some (0, v1), some (0, v2)], [], (h, hm, o))) K142_13 rfl ⟨q3, trivial⟩ ?_
        obtain ⟨r2, q4, e⟩ := zB_s e
        refine zF_blk (m := []) (d := 0) (b := B142_6) (gs := []) (c' := (55, [some (21, 0), some (0, v1), some (0, v2)], [(0, 1), (0, v2), (11, 0), (1409293871, 0), (21, 0)], (h, hm, o))) K142_6 rfl trivial ?_
        refine zF_call (k := 67) (cl := 1) (n := 3) (i := .invokevirtual 211) (args := [(11, 0), (0, v2), (0, 1)]) (rest := [(1409293871, 0), (21, 0)]) (g1 := (h, hm, o)) (r1 := some (0, r2)) (by decide +kernel) rfl rfl rfl (st' := [(0, r2), (1409293871, 0), (21, 0)]) rfl (S67 (Nat.le_trans (by decide) hd) 0 v2 1 h _ q4) ?_
        obtain ⟨q5, e⟩ := zG_s e
        obtain ⟨r3, q6, e⟩ := zB_s e
        refine zF_blk (m := []) (d := 0) (b := B142_7) (gs := [0 ≤ r2 ∧ r2 < 6]) (c' := (59, [some (21, 0), some (0, v1), some (0, v2)], [(1, (h 583 0 r2)), (21, 0)], (h, hm, o))) K142_7 rfl ⟨q5, trivial⟩ ?_
        refine zF_call (k := 143) (cl := 11) (n := 2) (i := .invokevirtual 334) (args := [(21, 0), (1, (h 583 0 r2))]) (rest := []) (g1 := (r3, hm, o)) (r1 := none) (by decide +kernel) rfl rfl rfl (st' := []) rfl (S143 (Nat.le_trans (by decide) hd) (h 583 0 r2) h _ q6) ?_
        obtain ⟨r4, q7, e⟩ := zB_s e
        refine zF_blk (m := []) (d := 0) (b := B142_8) (gs := []) (c' := (65, [some (21, 0), some (0, v1), some (0, v2)], [(0, 32), (21, 0)], (r3, hm, o))) K142_8 rfl trivial ?_
        refine zF_call (k := 144) (cl := 11) (n := 2) (i := .invokevirtual 338) (args := [(21, 0), (0, 32)]) (rest := []) (g1 := (r4, hm, o)) (r1 := none) (by decide +kernel) rfl rfl rfl (st' := []) rfl (S144 (Nat.le_trans (by decide) hd) 32 r3 _ q7) ?_
        obtain ⟨r5, q8, e⟩ := zB_s e
        refine zF_blk (m := []) (d := 0) (b := B142_9) (gs := []) (c' := (75, [some (21, 0), some (0, v1), some (0, v2)], [(0, 2), (0, v2), (11, 0), (21, 0)], (r4, hm, o))) K142_9 rfl trivial ?_
        refine zF_call (k := 67) (cl := 1) (n := 3) (i := .invokevirtual 211) (args := [(11, 0), (0, v2), (0, 2)]) (rest := [(21, 0)]) (g1 := (r4, hm, o)) (r1 := some (0, r5)) (by decide +kernel) rfl rfl rfl (st' := [(0, r5), (21, 0)]) rfl (S67 (Nat.le_trans (by decide) hd) 0 v2 2 r4 _ q8) ?_
        obtain ⟨r6, q9, e⟩ := zB_s e
        refine zF_call (k := 145) (cl := 11) (n := 2) (i := .invokevirtual 341) (args := [(21, 0), (0, r5)]) (rest := []) (g1 := (r6, hm, o)) (r1 := none) (by decide +kernel) rfl rfl rfl (st' := []) rfl (S145 (Nat.le_trans (by decide) hd) r5 r4 _ q9) ?_
        obtain ⟨r7, q10, e⟩ := zB_s e
        refine zF_blk (m := []) (d := 0) (b := B142_10) (gs := []) (c' := (84, [some (21, 0), some (0, v1), some (0, v2)], [(0, 32), (21, 0)], (r6, hm, o))) K142_10 rfl trivial ?_
        refine zF_call (k := 144) (cl := 11) (n := 2) (i := .invokevirtual 338) (args := [(21, 0), (0, 32)]) (rest := []) (g1 := (r7, hm, o)) (r1 := none) (by decide +kernel) rfl rfl rfl (st' := []) rfl (S144 (Nat.le_trans (by decide) hd) 32 r6 _ q10) ?_
        obtain ⟨r8, q11, e⟩ := zB_s e
        refine zF_blk (m := []) (d := 0) (b := B142_11) (gs := []) (c' := (94, [some (21, 0), some (0, v1), some (0, v2)], [(0, 3), (0, v2), (11, 0), (21, 0)], (r7, hm, o))) K142_11 rfl trivial ?_
        refine zF_call (k := 67) (cl := 1) (n := 3) (i := .invokevirtual 211) (args := [(11, 0), (0, v2), (0, 3)]) (rest := [(21, 0)]) (g1 := (r7, hm, o)) (r1 := some (0, r8)) (by decide +kernel) rfl rfl rfl (st' := [(0, r8), (21, 0)]) rfl (S67 (Nat.le_trans (by decide) hd) 0 v2 3 r7 _ q11) ?_
        obtain ⟨r9, q12, e⟩ := zB_s e
        refine zF_call (k := 145) (cl := 11) (n := 2) (i := .invokevirtual 341) (args := [(21, 0), (0, r8)]) (rest := []) (g1 := (r9, hm, o)) (r1 := none) (by decide +kernel) rfl rfl rfl (st' := []) rfl (S145 (Nat.le_trans (by decide) hd) r8 r7 _ q12) ?_
        obtain ⟨r10, q13, e⟩ := zB_s e
        refine zF_blk (m := []) (d := 0) (b := B142_12) (gs := []) (c' := (103, [some (21, 0), some (0, v1), some (0, v2)], [(0, 59), (21, 0)], (r9, hm, o))) K142_12 rfl trivial ?_
        refine zF_call (k := 144) (cl := 11) (n := 2) (i := .invokevirtual 338) (args := [(21, 0), (0, 59)]) (rest := []) (g1 := (r10, hm, o)) (r1 := none) (by decide +kernel) rfl rfl rfl (st' := []) rfl (S144 (Nat.le_trans (by decide) hd) 59 r9 _ q13) ?_
        exact T142_1 hd (F142_0 n) hk0 v1 v2 r10 _ e
/-- EchoVale.write(I)I -/
def F142 (v1 : Int) (h : zHC) : Option (Int × zHC) := (F58 v1 h).bind fun r1 => if ¬ r1 = 0 then F142_0 zFu v1 0 (hset h 718 0 0 0) else some ((-1), h)
set_option maxRecDepth 100000 in
theorem S142 {spec : zRn zH2} {hm : zHM} {o : Int → Int} {d : Nat} (hd : 3 ≤ d) (v1 : Int) (h : zHC) (v : (Int × zHC)) (e : F142 v1 h = some v) : zRu2 spec d 142 [(21, 0), (0, v1)] (h, hm, o) (some (0, v.1)) (v.2, hm, o) := by
  refine zF_in (D := 2) (mx := 3) (L := [some (21, 0), some (0, v1), none]) (by decide +kernel) rfl rfl hd (fun d hd => ?_)
  unfold F142 at e
  obtain ⟨r1, q1, e⟩ := zB_s e
  refine zF_blk (m := []) (d := 0) (b := B142_0) (gs := []) (c' := (2, [some (21, 0), some (0, v1), none], [(0, v1), (21, 0)], (h, hm, o))) K142_0 rfl trivial ?_
  refine zF_call (k := 58) (cl := 11) (n := 2) (i := .invokevirtual 191) (args := [(21, 0), (0, v1)]) (rest := []) (g1 := (h, hm, o)) (r1 := some (0, r1)) (by decide +kernel) rfl rfl rfl (st' := [(0, r1)]) rfl (S58 (Nat.le_trans (by decide) hd) v1 h _ q1) ?_
  rcases zI_s e with ⟨q2, e⟩ | ⟨q2, e⟩
  · refine zF_blk (m := []) (d := 1) (b := B142_3) (gs := [¬ r1 = 0]) (c' := (10, [some (21, 0), some (0, v1), none], [], (h, hm, o))) K142_3 rfl ⟨q2, trivial⟩ ?_
    refine zF_blk (m := []) (d := 0) (b := B142_1) (gs := []) (c' := (17, [some (21, 0), some (0, v1), some (0, 0)], [], ((hset h 718 0 0 0), hm, o))) K142_1 rfl trivial ?_
    exact T142_0 hd zFu v1 0 (hset h 718 0 0 0) _ e
  · refine zF_blk (m := []) (d := 0) (b := B142_3) (gs := [¬ (¬ r1 = 0)]) (c' := (8, [some (21, 0), some (0, v1), none], [], (h, hm, o))) K142_3 rfl ⟨q2, trivial⟩ ?_
    refine zF_blk (m := []) (d := 0) (b := B142_2) (gs := []) (c' := (9, [some (21, 0), some (0, v1), none], [(0, (-1))], (h, hm, o))) K142_2 rfl trivial ?_
    exact zF_riC (by decide +kernel) e
