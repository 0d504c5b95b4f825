/-! Functions of the methods, by wip/gen/lift.py. -/
def B181_0 : List zRow := [(24, .iconst 0, 1, (0, 0, 0))]
theorem K181_0 : zRk 181 B181_0 = true := by decide +kernel
def B181_1 : List zRow := [(8, .aload_n 0, 1, (0, 0, 0)), (9, .getfield 120, 3, (12, 12, 1)), (12, .iload_n 1, 1, (0, 0, 0))]
theorem K181_1 : zRk 181 B181_1 = true := by decide +kernel
def B181_2 : List zRow := [(20, .iconst 1, 1, (0, 0, 0)), (21, .goto 4, 3, (0, 0, 0))]
theorem K181_2 : zRk 181 B181_2 = true := by decide +kernel
def B181_3 : List zRow := [(16, .lcmp, 1, (0, 0, 0)), (17, .ifCond .ne 7, 3, (0, 0, 0))]
theorem K181_3 : zRk 181 B181_3 = true := by decide +kernel
def B181_4 : List zRow := [(0, .aload_n 0, 1, (0, 0, 0)), (1, .getfield 107, 3, (12, 7, 0)), (4, .iconst 2, 1, (0, 0, 0)), (5, .if_icmp .ne 19, 3, (0, 0, 0))]
theorem K181_4 : zRk 181 B181_4 = true := by decide +kernel
/-- EchoValeModel.isWord(I)Z -/
def F181 (v1 : Int) (h : zHM) : Option Int := if ¬ (h 7 0) = 2 then some 0 else (F182 v1).bind fun r1 => if ¬ (qcmp (h 12 0) r1) = 0 then some 0 else some 1
set_option maxRecDepth 100000 in
theorem S181 {spec : zRn zH2} {hc : zHC} {o : Int → Int} {d : Nat} (hd : 3 ≤ d) (v1 : Int) (h : zHM) (v : Int) (e : F181 v1 h = some v) : zRu2 spec d 181 [(22, 0), (0, v1)] (hc, h, o) (some (0, v)) (hc, h, o) := by
  refine zF_in (D := 2) (mx := 2) (L := [some (22, 0), some (0, v1)]) (by decide +kernel) rfl rfl hd (fun d hd => ?_)
  unfold F181 at e
  rcases zI_s e with ⟨q1, e⟩ | ⟨q1, e⟩
  · refine zF_blk (m := []) (d := 1) (b := B181_4) (gs := [¬ (h 7 0) = 2]) (c' := (24, [some (22, 0), some (0, v1)], [], (hc, h, o))) K181_4 rfl ⟨q1, trivial⟩ ?_
    refine zF_blk (m := []) (d := 0) (b := B181_0) (gs := []) (c' := (25, [some (22, 0), some (0, v1)], [(0, 0)], (hc, h, o))) K181_0 rfl trivial ?_
    obtain rfl := Option.some.inj e
    exact zF_rb (by decide +kernel) (Or.inl rfl)
  · refine zF_blk (m := []) (d := 0) (b := B181_4) (gs := [¬ (¬ (h 7 0) = 2)]) (c' := (8, [some (22, 0), some (0, v1)], [], (hc, h, o))) K181_4 rfl ⟨q1, trivial⟩ ?_
    obtain ⟨r1, q2, e⟩ := zB_s e
    refine zF_blk (m := []) (d := 0) (b := B181_1) (gs := []) (c' := (13, [some (22, 0), some (0, v1)], [(0, v1), (1, (h 12 0))], (hc, h, o))) K181_1 rfl trivial ?_
    refine zF_call (k := 182) (cl := 12) (n := 1) (i := .invokestatic 138) (args := [(0, v1)]) (rest := [(1, (h 12 0))]) (g1 := (hc, h, o)) (r1 := some (1, r1)) (by decide +kernel) rfl rfl rfl (st' := [(1, r1), (1, (h 12 0))]) rfl (S182 (Nat.le_trans (by decide) hd) v1 h _ q2) ?_
    rcases zI_s e with ⟨q3, e⟩ | ⟨q3, e⟩
    · refine zF_blk (m := []) (d := 1) (b := B181_3) (gs := [¬ (qcmp (h 12 0) r1) = 0]) (c' := (24, [some (22, 0), some (0, v1)], [], (hc, h, o))) K181_3 rfl ⟨q3, trivial⟩ ?_
      refine zF_blk (m := []) (d := 0) (b := B181_0) (gs := []) (c' := (25, [some (22, 0), some (0, v1)], [(0, 0)], (hc, h, o))) K181_0 rfl trivial ?_
      obtain rfl := Option.some.inj e
      exact zF_rb (by decide +kernel) (Or.inl rfl)
    · refine zF_blk (m := []) (d := 0) (b := B181_3) (gs := [¬ (¬ (qcmp (h 12 0) r1) = 0)]) (c' := (20, [some (22, 0), some (0, v1)], [], (hc, h, o))) K181_3 rfl ⟨q3, trivial⟩ ?_
      refine zF_blk (m := []) (d := 0) (b := B181_2) (gs := []) (c' := (25, [some (22, 0), some (0, v1)], [(0, 1)], (hc, h, o))) K181_2 rfl trivial ?_
      obtain rfl := Option.some.inj e
      exact zF_rb (by decide +kernel) (Or.inr rfl)
def B185_0 : List zRow := [(13, .iload_n 1, 1, (0, 0, 0))]
theorem K185_0 : zRk 185 B185_0 = true := by decide +kernel
def B185_1 : List zRow := [(9, .iconst 1, 1, (0, 0, 0)), (10, .goto 4, 3, (0, 0, 0))]
theorem K185_1 : zRk 185 B185_1 = true := by decide +kernel
def B185_2 : List zRow := [(0, .aload_n 0, 1, (0, 0, 0)), (1, .aload_n 0, 1, (0, 0, 0)), (2, .getfield 107, 3, (12, 7, 0)), (5, .iconst 1, 1, (0, 0, 0)), (6, .if_icmp .ne 7, 3, (0, 0, 0))]
theorem K185_2 : zRk 185 B185_2 = true := by decide +kernel
def B185_3 : List zRow := [(14, .putfield 142, 3, (12, 10, 0)), (17, .aload_n 0, 1, (0, 0, 0)), (18, .aload_n 0, 1, (0, 0, 0)), (19, .getfield 101, 3, (12, 6, 0)), (22, .putfield 145, 3, (12, 11, 0)), (25, .iconst 0, 1, (0, 0, 0))]
theorem K185_3 : zRk 185 B185_3 = true := by decide +kernel
def F185_0 (s0 : Int) (h : zHM) : Option (Int × zHM) := some (0, (mset (mset h 10 0 s0) 11 0 (h 6 0)))
set_option maxRecDepth 100000 in
theorem T185_0 {spec : zRn zH2} {hc : zHC} {o : Int → Int} {d : Nat} (hd : 0 ≤ d) (s0 : Int) (h : zHM) (v : (Int × zHM)) (e : F185_0 s0 h = some v) : zFin 0 (fun _ => 0) (zRu2 spec d) 185 (some (0, v.1)) (hc, v.2, o) (14, [some (22, 0), none], [(0, s0), (22, 0)], (hc, h, o)) := by
  unfold F185_0 at e
  refine zF_blk (m := []) (d := 0) (b := B185_3) (gs := []) (c' := (26, [some (22, 0), none], [(0, 0)], (hc, (mset (mset h 10 0 s0) 11 0 (h 6 0)), o))) K185_3 rfl trivial ?_
  exact zF_rbM (by decide +kernel) (Or.inl rfl) e
/-- EchoValeModel.bad(I)Z -/
def F185 (v1 : Int) (h : zHM) : Option (Int × zHM) := if ¬ (h 7 0) = 1 then F185_0 v1 h else F185_0 1 h
set_option maxRecDepth 100000 in
theorem S185 {spec : zRn zH2} {hc : zHC} {o : Int → Int} {d : Nat} (hd : 1 ≤ d) (v1 : Int) (h : zHM) (v : (Int × zHM)) (e : F185 v1 h = some v) : zRu2 spec d 185 [(22, 0), (0, v1)] (hc, h, o) (some (0, v.1)) (hc, v.2, o) := by
  refine zF_in (D := 0) (mx := 2) (L := [some (22, 0), some (0, v1)]) (by decide +kernel) rfl rfl hd (fun d hd => ?_)
  unfold F185 at e
  rcases zI_s e with ⟨q1, e⟩ | ⟨q1, e⟩
  · refine zF_blk (m := []) (d := 1) (b := B185_2) (gs := [¬ (h 7 0) = 1]) (c' := (13, [some (22, 0), some (0, v1)], [(22, 0)], (hc, h, o))) K185_2 rfl ⟨q1, trivial⟩ ?_
    refine zF_blk (m := []) (d := 0) (b := B185_0) (gs := []) (c' := (14, [some (22, 0), some (0, v1)], [(0, v1), (22, 0)], (hc, h, o))) K185_0 rfl trivial ?_
    refine zF_blk (m := [true, false]) (d := 0) (b := []) (gs := []) (c' := (14, [some (22, 0), none], [(0, v1), (22, 0)], (hc, h, o))) rfl rfl trivial ?_
    exact T185_0 hd v1 h _ e
  · refine zF_blk (m := []) (d := 0) (b := B185_2) (gs := [¬ (¬ (h 7 0) = 1)]) (c' := (9, [some (22, 0), some (0, v1)], [(22, 0)], (hc, h, o))) K185_2 rfl ⟨q1, trivial⟩ ?_
    refine zF_blk (m := []) (d := 0) (b := B185_1) (gs := []) (c' := (14, [some (22, 0), some (0, v1)], [(0, 1), (22, 0)], (hc, h, o))) K185_1 rfl trivial ?_
    refine zF_blk (m := [true, false]) (d := 0) (b := []) (gs := []) (c' := (14, [some (22, 0), none], [(0, 1), (22, 0)], (hc, h, o))) rfl rfl trivial ?_
    exact T185_0 hd 1 h _ e
def B188_0 : List zRow := [(14, .iconst 0, 1, (0, 0, 0))]
theorem K188_0 : zRk 188 B188_0 = true := by decide +kernel
def B188_1 : List zRow := [(10, .iconst 1, 1, (0, 0, 0)), (11, .goto 4, 3, (0, 0, 0))]
theorem K188_1 : zRk 188 B188_1 = true := by decide +kernel
def B188_2 : List zRow := [(5, .iload_n 0, 1, (0, 0, 0)), (6, .iload_n 2, 1, (0, 0, 0)), (7, .if_icmp .gt 7, 3, (0, 0, 0))]
theorem K188_2 : zRk 188 B188_2 = true := by decide +kernel
def B188_3 : List zRow := [(0, .iload_n 0, 1, (0, 0, 0)), (1, .iload_n 1, 1, (0, 0, 0)), (2, .if_icmp .lt 12, 3, (0, 0, 0))]
theorem K188_3 : zRk 188 B188_3 = true := by decide +kernel
/-- EchoValeModel.isIn(III)Z -/
def F188 (v0 : Int) (v1 : Int) (v2 : Int) : Option Int := if v0 < v1 then some 0 else if v2 < v0 then some 0 else some 1
set_option maxRecDepth 100000 in
theorem S188 {spec : zRn zH2} {hc : zHC} {o : Int → Int} {d : Nat} (hd : 1 ≤ d) (v0 : Int) (v1 : Int) (v2 : Int) (h : zHM) (v : Int) (e : F188 v0 v1 v2 = some v) : zRu2 spec d 188 [(0, v0), (0, v1), (0, v2)] (hc, h, o) (some (0, v)) (hc, h, o) := by
  refine zF_in (D := 0) (mx := 3) (L := [some (0, v0), some (0, v1), some (0, v2)]) (by decide +kernel) rfl rfl hd (fun d hd => ?_)
  unfold F188 at e
  rcases zI_s e with ⟨q1, e⟩ | ⟨q1, e⟩
  · refine zF_blk (m := []) (d := 1) (b := B188_3) (gs := [v0 < v1]) (c' := (14, [some (0, v0), some (0, v1), some (0, v2)], [], (hc, h, o))) K188_3 rfl ⟨q1, trivial⟩ ?_
    refine zF_blk (m := []) (d := 0) (b := B188_0) (gs := []) (c' := (15, [some (0, v0), some (0, v1), some (0, v2)], [(0, 0)], (hc, h, o))) K188_0 rfl trivial ?_
    obtain rfl := Option.some.inj e
    exact zF_rb (by decide +kernel) (Or.inl rfl)
  · refine zF_blk (m := []) (d := 0) (b := B188_3) (gs := [¬ (v0 < v1)]) (c' := (5, [some (0, v0), some (0, v1), some (0, v2)], [], (hc, h, o))) K188_3 rfl ⟨q1, trivial⟩ ?_
    rcases zI_s e with ⟨q2, e⟩ | ⟨q2, e⟩
    · refine zF_blk (m := []) (d := 1) (b := B188_2) (gs := [v2 < v0]) (c' := (14, [some (0, v0), some (0, v1), some (0, v2)], [], (hc, h, o))) K188_2 rfl ⟨q2, trivial⟩ ?_
      refine zF_blk (m := []) (d := 0) (b := B188_0) (gs := []) (c' := (15, [some (0, v0), some (0, v1), some (0, v2)], [(0, 0)], (hc, h, o))) K188_0 rfl trivial ?_
      obtain rfl := Option.some.inj e
      exact zF_rb (by decide +kernel) (Or.inl rfl)
    · refine zF_blk (m := []) (d := 0) (b := B188_2) (gs := [¬ (v2 < v0)]) (c' := (10, [some (0, v0), some (0, v1), some (0, v2)], [], (hc, h, o))) K188_2 rfl ⟨q2, trivial⟩ ?_
      refine zF_blk (m := []) (d := 0) (b := B188_1) (gs := []) (c' := (15, [some (0, v0), some (0, v1), some (0, v2)], [(0, 1)], (hc, h, o))) K188_1 rfl trivial ?_
      obtain rfl := Option.some.inj e
      exact zF_rb (by decide +kernel) (Or.inr rfl)
def B187_0 : List zRow := [(14, .aload_n 0, 1, (0, 0, 0)), (15, .getfield 124, 3, (12, 8, 0)), (18, .iload_n 1, 1, (0, 0, 0)), (19, .iload_n 2, 1, (0, 0, 0))]
theorem K187_0 : zRk 187 B187_0 = true := by decide +kernel
def B187_1 : List zRow := [(32, .aload_n 0, 1, (0, 0, 0)), (33, .aload_n 0, 1, (0, 0, 0)), (34, .getfield 124, 3, (12, 8, 0)), (37, .putfield 155, 3, (12, 13, 0)), (40, .iconst 1, 1, (0, 0, 0))]
theorem K187_1 : zRk 187 B187_1 = true := by decide +kernel
def B187_2 : List zRow := [(26, .aload_n 0, 1, (0, 0, 0)), (27, .iconst 2, 1, (0, 0, 0))]
theorem K187_2 : zRk 187 B187_2 = true := by decide +kernel
def B187_3 : List zRow := [(23, .ifCond .ne 9, 3, (0, 0, 0))]
theorem K187_3 : zRk 187 B187_3 = true := by decide +kernel
def B187_4 : List zRow := [(8, .aload_n 0, 1, (0, 0, 0)), (9, .iconst 1, 1, (0, 0, 0))]
theorem K187_4 : zRk 187 B187_4 = true := by decide +kernel
def B187_5 : List zRow := [(0, .aload_n 0, 1, (0, 0, 0)), (1, .getfield 107, 3, (12, 7, 0)), (4, .iconst 3, 1, (0, 0, 0)), (5, .if_icmp .eq 9, 3, (0, 0, 0))]
theorem K187_5 : zRk 187 B187_5 = true := by decide +kernel
/-- EchoValeModel.isNumber(II)Z -/
def F187 (v1 : Int) (v2 : Int) (h : zHM) : Option (Int × zHM) := if (h 7 0) = 3 then (F188 (h 8 0) v1 v2).bind fun r1 => if ¬ r1 = 0 then some (1, (mset h 13 0 (h 8 0))) else (F185 2 h).bind fun r2 => zG (r2.1 = 0 ∨ r2.1 = 1) (some (r2.1, r2.2)) else (F185 1 h).bind fun r3 => zG (r3.1 = 0 ∨ r3.1 = 1) (some (r3.1, r3.2))
set_option maxRecDepth 100000 in
theorem S187 {spec : zRn zH2} {hc : zHC} {o : Int → Int} {d : Nat} (hd : 2 ≤ d) (v1 : Int) (v2 : Int) (h : zHM) (v : (Int × zHM)) (e : F187 v1 v2 h = some v) : zRu2 spec d 187 [(22, 0), (0, v1), (0, v2)] (hc, h, o) (some (0, v.1)) (hc, v.2, o) := by
  refine zF_in (D := 1) (mx := 3) (L := [some (22, 0), some (0, v1), some (0, v2)]) (by decide +kernel) rfl rfl hd (fun d hd => ?_)
  unfold F187 at e
  rcases zI_s e with ⟨q1, e⟩ | ⟨q1, e⟩
  · refine zF_blk (m := []) (d := 1) (b := B187_5) (gs := [(h 7 0) = 3]) (c' := (14, [some (22, 0), some (0, v1), some (0, v2)], [], (hc, h, o))) K187_5 rfl ⟨q1, trivial⟩ ?_
    obtain ⟨r1, q2, e⟩ := zB_s e
    refine zF_blk (m := []) (d := 0) (b := B187_0) (gs := []) (c' := (20, [some (22, 0), some (0, v1), some (0, v2)], [(0, v2), (0, v1), (0, (h 8 0))], (hc, h, o))) K187_0 rfl trivial ?_
    refine zF_call (k := 188) (cl := 12) (n := 3) (i := .invokestatic 151) (args := [(0, (h 8 0)), (0, v1), (0, v2)]) (rest := []) (g1 := (hc, h, o)) (r1 := some (0, r1)) (by decide +kernel) rfl rfl rfl (st' := [(0, r1)]) rfl (S188 (Nat.le_trans (by decide) hd) (h 8 0) v1 v2 h _ q2) ?_
    rcases zI_s e with ⟨q3, e⟩ | ⟨q3, e⟩
    · refine zF_blk (m := []) (d := 1) (b := B187_3) (gs := [¬ r1 = 0]) (c' := (32, [some (22, 0), some (0, v1), some (0, v2)], [], (hc, h, o))) K187_3 rfl ⟨q3, trivial⟩ ?_
      refine zF_blk (m := []) (d := 0) (b := B187_1) (gs := []) (c' := (41, [some (22, 0), some (0, v1), some (0, v2)], [(0, 1)], (hc, (mset h 13 0 (h 8 0)), o))) K187_1 rfl trivial ?_
      exact zF_rbM (by decide +kernel) (Or.inr rfl) e
    · refine zF_blk (m := []) (d := 0) (b := B187_3) (gs := [¬ (¬ r1 = 0)]) (c' := (26, [some (22, 0), some (0, v1), some (0, v2)], [], (hc, h, o))) K187_3 rfl ⟨q3, trivial⟩ ?_
      obtain ⟨r2, q4, e⟩ := zB_s e
      refine zF_blk (m := []) (d := 0) (b := B187_2) (gs := []) (c' := (28, [some (22, 0), some (0, v1), some (0, v2)], [(0, 2), (22, 0)], (hc, h, o))) K187_2 rfl trivial ?_
      refine zF_call (k := 185) (cl := 12) (n := 2) (i := .invokevirtual 148) (args := [(22, 0), (0, 2)]) (rest := []) (g1 := (hc, r2.2, o)) (r1 := some (0, r2.1)) (by decide +kernel) rfl rfl rfl (st' := [(0, r2.1)]) rfl (S185 (Nat.le_trans (by decide) hd) 2 h _ q4) ?_
      obtain ⟨q5, e⟩ := zG_s e
      exact zF_rbM (by decide +kernel) q5 e
  · refine zF_blk (m := []) (d := 0) (b := B187_5) (gs := [¬ ((h 7 0) = 3)]) (c' := (8, [some (22, 0), some (0, v1), some (0, v2)], [], (hc, h, o))) K187_5 rfl ⟨q1, trivial⟩ ?_
    obtain ⟨r3, q6, e⟩ := zB_s e
    refine zF_blk (m := []) (d := 0) (b := B187_4) (gs := []) (c' := (10, [some (22, 0), some (0, v1), some (0, v2)], [(0, 1), (22, 0)], (hc, h, o))) K187_4 rfl trivial ?_
    refine zF_call (k := 185) (cl := 12) (n := 2) (i := .invokevirtual 148) (args := [(22, 0), (0, 1)]) (rest := []) (g1 := (hc, r3.2, o)) (r1 := some (0, r3.1)) (by decide +kernel) rfl rfl rfl (st' := [(0, r3.1)]) rfl (S185 (Nat.le_trans (by decide) hd) 1 h _ q6) ?_
    obtain ⟨q7, e⟩ := zG_s e
    exact zF_rbM (by decide +kernel) q7 e
def B186_0 : List zRow := [(0, .aload_n 0, 1, (0, 0, 0)), (1, .iload_n 1, 1, (0, 0, 0)), (2, .iload_n 2, 1, (0, 0, 0))]
theorem K186_0 : zRk 186 B186_0 = true := by decide +kernel
def B186_1 : List zRow := [(11, .aload_n 0, 1, (0, 0, 0))]
theorem K186_1 : zRk 186 B186_1 = true := by decide +kernel
def B186_2 : List zRow := [(15, .iconst 1, 1, (0, 0, 0))]
theorem K186_2 : zRk 186 B186_2 = true := by decide +kernel
def B186_3 : List zRow := [(9, .iconst 0, 1, (0, 0, 0))]
theorem K186_3 : zRk 186 B186_3 = true := by decide +kernel
def B186_4 : List zRow := [(6, .ifCond .ne 5, 3, (0, 0, 0))]
theorem K186_4 : zRk 186 B186_4 = true := by decide +kernel
/-- EchoValeModel.readNumber(II)Z -/
def F186 (v1 : Int) (v2 : Int) (h : zHM) : Option (Int × zHM) := (F187 v1 v2 h).bind fun r1 => if ¬ r1.1 = 0 then (F176 r1.2).bind fun r2 => some (1, r2) else some (0, r1.2)
set_option maxRecDepth 100000 in
theorem S186 {spec : zRn zH2} {hc : zHC} {o : Int → Int} {d : Nat} (hd : 3 ≤ d) (v1 : Int) (v2 : Int) (h : zHM) (v : (Int × zHM)) (e : F186 v1 v2 h = some v) : zRu2 spec d 186 [(22, 0), (0, v1), (0, v2)] (hc, h, o) (some (0, v.1)) (hc, v.2, o) := by
  refine zF_in (D := 2) (mx := 3) (L := [some (22, 0), some (0, v1), some (0, v2)]) (by decide +kernel) rfl rfl hd (fun d hd => ?_)
  unfold F186 at e
  obtain ⟨r1, q1, e⟩ := zB_s e
  refine zF_blk (m := []) (d := 0) (b := B186_0) (gs := []) (c' := (3, [some (22, 0), some (0, v1), some (0, v2)], [(0, v2), (0, v1), (22, 0)], (hc, h, o))) K186_0 rfl trivial ?_
  refine zF_call (k := 187) (cl := 12) (n := 3) (i := .invokevirtual 158) (args := [(22, 0), (0, v1), (0, v2)]) (rest := []) (g1 := (hc, r1.2, o)) (r1 := some (0, r1.1)) (by decide +kernel) rfl rfl rfl (st' := [(0, r1.1)]) rfl (S187 (Nat.le_trans (by decide) hd) v1 v2 h _ q1) ?_
  rcases zI_s e with ⟨q2, e⟩ | ⟨q2, e⟩
  · refine zF_blk (m := []) (d := 1) (b := B186_4) (gs := [¬ r1.1 = 0]) (c' := (11, [some (22, 0), some (0, v1), some (0, v2)], [], (hc, r1.2, o))) K186_4 rfl ⟨q2, trivial⟩ ?_
    obtain ⟨r2, q3, e⟩ := zB_s e
    refine zF_blk (m := []) (d := 0) (b := B186_1) (gs := []) (c' := (12, [some (22, 0), some (0, v1), some (0, v2)], [(22, 0)], (hc, r1.2, o))) K186_1 rfl trivial ?_
    refine zF_call (k := 176) (cl := 12) (n := 1) (i := .invokevirtual 162) (args := [(22, 0)]) (rest := []) (g1 := (hc, r2, o)) (r1 := none) (by decide +kernel) rfl rfl rfl (st' := []) rfl (S176 (Nat.le_trans (by decide) hd)  r1.2 _ q3) ?_
    refine zF_blk (m := []) (d := 0) (b := B186_2) (gs := []) (c' := (16, [some (22, 0), some (0, v1), some (0, v2)], [(0, 1)], (hc, r2, o))) K186_2 rfl trivial ?_
    exact zF_rbM (by decide +kernel) (Or.inr rfl) e
  · refine zF_blk (m := []) (d := 0) (b := B186_4) (gs := [¬ (¬ r1.1 = 0)]) (c' := (9, [some (22, 0), some (0, v1), some (0, v2)], [], (hc, r1.2, o))) K186_4 rfl ⟨q2, trivial⟩ ?_
    refine zF_blk (m := []) (d := 0) (b := B186_3) (gs := []) (c' := (10, [some (22, 0), some (0, v1), some (0, v2)], [(0, 0)], (hc, r1.2, o))) K186_3 rfl trivial ?_
    exact zF_rbM (by decide +kernel) (Or.inl rfl) e
def B200_0 : List zRow := [(20, .aload_n 0, 1, (0, 0, 0))]
theorem K200_0 : zRk 200 B200_0 = true := by decide +kernel
def B200_1 : List zRow := [(24, .aload_n 0, 1, (0, 0, 0)), (25, .iconst 0, 1, (0, 0, 0)), (26, .sipush 200, 3, (0, 0, 0))]
theorem K200_1 : zRk 200 B200_1 = true := by decide +kernel
def B200_2 : List zRow := [(37, .iconst 0, 1, (0, 0, 0)), (38, .istore_n 2, 1, (0, 0, 0))]
theorem K200_2 : zRk 200 B200_2 = true := by decide +kernel
def B200_3 : List zRow := [(35, .iconst 0, 1, (0, 0, 0))]
theorem K200_3 : zRk 200 B200_3 = true := by decide +kernel
def B200_4 : List zRow := [(32, .ifCond .ne 5, 3, (0, 0, 0))]
theorem K200_4 : zRk 200 B200_4 = true := by decide +kernel
def B200_5 : List zRow := [(14, .aload_n 0, 1, (0, 0, 0)), (15, .iconst 4, 1, (0, 0, 0))]
theorem K200_5 : zRk 200 B200_5 = true := by decide +kernel
def B200_6 : List zRow := [(0, .aload_n 0, 1, (0, 0, 0)), (1, .getfield 16, 3, (12, 15, 5243718)), (4, .bipush 6, 2, (0, 0, 0)), (6, .iaload, 1, (0, 0, 0)), (7, .istore_n 1, 1, (0, 0, 0)), (8, .iload_n 1, 1, (0, 0, 0)), (9, .bipush 6, 2, (0, 0, 0)), (11, .if_icmp .ne 9, 3, (0, 0, 0))]
theorem K200_6 : zRk 200 B200_6 = true := by decide +kernel
def B200_7 : List zRow := [(75, .aload_n 0, 1, (0, 0, 0)), (76, .getfield 16, 3, (12, 15, 5243718)), (79, .sipush 197, 3, (0, 0, 0)), (82, .iconst 2, 1, (0, 0, 0)), (83, .iload_n 1, 1, (0, 0, 0))]
theorem K200_7 : zRk 200 B200_7 = true := by decide +kernel
def B200_8 : List zRow := [(84, .imul, 1, (0, 0, 0))]
theorem K200_8 : zRk 200 B200_8 = true := by decide +kernel
def B200_9 : List zRow := [(85, .iadd, 1, (0, 0, 0)), (86, .aload_n 0, 1, (0, 0, 0)), (87, .getfield 155, 3, (12, 13, 0)), (90, .iastore, 1, (0, 0, 0)), (91, .aload_n 0, 1, (0, 0, 0))]
theorem K200_9 : zRk 200 B200_9 = true := by decide +kernel
def B200_10 : List zRow := [(95, .aload_n 0, 1, (0, 0, 0)), (96, .iconst 0, 1, (0, 0, 0)), (97, .bipush 9, 2, (0, 0, 0))]
theorem K200_10 : zRk 200 B200_10 = true := by decide +kernel
def B200_11 : List zRow := [(107, .aload_n 0, 1, (0, 0, 0)), (108, .getfield 16, 3, (12, 15, 5243718)), (111, .sipush 197, 3, (0, 0, 0)), (114, .iconst 2, 1, (0, 0, 0)), (115, .iload_n 1, 1, (0, 0, 0))]
theorem K200_11 : zRk 200 B200_11 = true := by decide +kernel
def B200_12 : List zRow := [(116, .imul, 1, (0, 0, 0))]
theorem K200_12 : zRk 200 B200_12 = true := by decide +kernel
def B200_13 : List zRow := [(117, .iadd, 1, (0, 0, 0)), (118, .iconst 1, 1, (0, 0, 0)), (119, .iadd, 1, (0, 0, 0)), (120, .aload_n 0, 1, (0, 0, 0)), (121, .getfield 155, 3, (12, 13, 0)), (124, .iastore, 1, (0, 0, 0)), (125, .aload_n 0, 1, (0, 0, 0)), (126, .getfield 16, 3, (12, 15, 5243718)), (129, .bipush 6, 2, (0, 0, 0)), (131, .dup2, 1, (0, 0, 0)), (132, .iaload, 1, (0, 0, 0)), (133, .iconst 1, 1, (0, 0, 0)), (134, .iadd, 1, (0, 0, 0)), (135, .iastore, 1, (0, 0, 0)), (136, .iconst 1, 1, (0, 0, 0))]
theorem K200_13 : zRk 200 B200_13 = true := by decide +kernel
def B200_14 : List zRow := [(105, .iconst 0, 1, (0, 0, 0))]
theorem K200_14 : zRk 200 B200_14 = true := by decide +kernel
def B200_15 : List zRow := [(102, .ifCond .ne 5, 3, (0, 0, 0))]
theorem K200_15 : zRk 200 B200_15 = true := by decide +kernel
def B200_16 : List zRow := [(44, .aload_n 0, 1, (0, 0, 0)), (45, .getfield 16, 3, (12, 15, 5243718)), (48, .sipush 197, 3, (0, 0, 0)), (51, .iconst 2, 1, (0, 0, 0)), (52, .iload_n 2, 1, (0, 0, 0))]
theorem K200_16 : zRk 200 B200_16 = true := by decide +kernel
def B200_17 : List zRow := [(53, .imul, 1, (0, 0, 0))]
theorem K200_17 : zRk 200 B200_17 = true := by decide +kernel
def B200_18 : List zRow := [(69, .iinc 2 1, 3, (0, 0, 0)), (72, .goto (-33), 3, (0, 0, 0))]
theorem K200_18 : zRk 200 B200_18 = true := by decide +kernel
def B200_19 : List zRow := [(63, .aload_n 0, 1, (0, 0, 0)), (64, .iconst 3, 1, (0, 0, 0))]
theorem K200_19 : zRk 200 B200_19 = true := by decide +kernel
def B200_20 : List zRow := [(54, .iadd, 1, (0, 0, 0)), (55, .iaload, 1, (0, 0, 0)), (56, .aload_n 0, 1, (0, 0, 0)), (57, .getfield 155, 3, (12, 13, 0)), (60, .if_icmp .ne 9, 3, (0, 0, 0))]
theorem K200_20 : zRk 200 B200_20 = true := by decide +kernel
def B200_21 : List zRow := [(39, .iload_n 2, 1, (0, 0, 0)), (40, .iload_n 1, 1, (0, 0, 0)), (41, .if_icmp .ge 34, 3, (0, 0, 0))]
theorem K200_21 : zRk 200 B200_21 = true := by decide +kernel
def F200_0 : Nat → Int → Int → zHM → Option (Int × zHM)
  | 0, _, _, _ => none
  | n + 1, v1, v2, h => if v1 ≤ v2 then zG (0 ≤ (wadd 197 (wmul 2 v1)) ∧ (wadd 197 (wmul 2 v1)) < 209) ((F176 (mset h 15 (wadd 197 (wmul 2 v1)) (h 13 0))).bind fun r1 => (F186 0 9 r1).bind fun r2 => if ¬ r2.1 = 0 then zG (0 ≤ (wadd (wadd 197 (wmul 2 v1)) 1) ∧ (wadd (wadd 197 (wmul 2 v1)) 1) < 209) (some (1, (mset (mset r2.2 15 (wadd (wadd 197 (wmul 2 v1)) 1) (r2.2 13 0)) 15 6 (wadd ((mset r2.2 15 (wadd (wadd 197 (wmul 2 v1)) 1) (r2.2 13 0)) 15 6) 1)))) else some (0, r2.2)) else zG (0 ≤ (wadd 197 (wmul 2 v2)) ∧ (wadd 197 (wmul 2 v2)) < 209) (if ¬ (h 15 (wadd 197 (wmul 2 v2))) = (h 13 0) then (F200_0 n) v1 (wadd v2 1) h else (F185 3 h).bind fun r3 => zG (r3.1 = 0 ∨ r3.1 = 1) (some (r3.1, r3.2)))
set_option maxRecDepth 100000 in
theorem T200_0 {spec : zRn zH2} {hc : zHC} {o : Int → Int} {d : Nat} (hd : 3 ≤ d) : ∀ (n : Nat) (v1 : Int) (v2 : Int) (h : zHM) (v : (Int × zHM)), F200_0 n v1 v2 h = some v → zFin 0 (fun _ => 0) (zRu2 spec d) 200 (some (0, v.1)) (hc, v.2, o) (39, [some (22, 0), some (0, v1), some (0, v2)], [], (hc, h, o)) := by
  intro n
  induction n with
  | zero => intro v1 v2 h v e; unfold F200_0 at e; cases e
  | succ n hk0 =>
    intro v1 v2 h v e
    unfold F200_0 at e
    rcases zI_s e with ⟨q1, e⟩ | ⟨q1, e⟩
    · refine zF_blk (m := []) (d := 1) (b := B200_21) (gs := [v1 ≤ v2]) (c' := (75, [some (22, 0), some (0, v1), some (0, v2)], [], (hc, h, o))) K200_21 rfl ⟨q1, trivial⟩ ?_
      obtain ⟨q2, e⟩ := zG_s e
      refine zF_blk (m := []) (d := 0) (b := B200_7) (gs := []) (c' := (84, [some (22, 0), some (0, v1), some (0, v2)], [(0, v1), (0, 2), (0, 197), (1342393079, 0)], (hc, h, o))) K200_7 rfl trivial ?_
      refine zF_blk (m := []) (d := 0) (b := B200_8) (gs := []) (c' := (85, [some (22, 0), some (0, v1), some (0, v2)], [(0, (wmul 2 v1)), (0, 197), (1342393079, 0)], (hc, h, o))) K200_8 rfl trivial ?_
      obtain ⟨r1, q3, e⟩ := zB_s e
      refine zF_blk (m := []) (d := 0) (b := B200_9) (gs := [0 ≤ (wadd 197 (wmul 2 v1)) ∧ (wadd 197 (wmul 2 v1)) < 209]) (c' := (92, [some (22, 0), some (0, v1), some (0, v2)], [(22, 0)], (hc, (mset h 15 (wadd 197 (wmul 2 v1)) (h 13 0)), o))) K200_9 rfl ⟨q2, trivial⟩ ?_
      refine zF_call (k := 176) (cl := 12) (n := 1) (i := .invokevirtual 162) (args := [(22, 0)]) (rest := []) (g1 := (hc, r1, o)) (r1 := none) (by decide +kernel) rfl rfl rfl (st' := []) rfl (S176 (Nat.le_trans (by decide) hd)  (mset h 15 (wadd 197 (wmul 2 v1)) (h 13 0)) _ q3) ?_
      obtain ⟨r2, q4, e⟩ := zB_s e
      refine zF_blk (m := []) (d := 0) (b := B200_10) (gs := []) (c' := (99, [some (22, 0), some (0, v1), some (0, v2)], [(0, 9), (0, 0), (22, 0)], (hc, r1, o))) K200_10 rfl trivial ?_
      refine zF_call (k := 186) (cl := 12) (n := 3) (i := .invokevirtual 180) (args := [(22, 0), (0, 0), (0, 9)]) (rest := []) (g1 := (hc, r2.2, o)) (r1 := some (0, r2.1)) (by decide +kernel) rfl rfl rfl (st' := [(0, r2.1)]) rfl (S186 (Nat.le_trans (by decide) hd) 0 9 r1 _ q4) ?_
      rcases zI_s e with ⟨q5, e⟩ | ⟨q5, e⟩
      · refine zF_blk (m := []) (d := 1) (b := B200_15) (gs := [¬ r2.1 = 0]) (c' := (107, [some (22, 0), some (0, v1), some (0, v2)], [], (hc, r2.2, o))) K200_15 rfl ⟨q5, trivial⟩ ?_
        obtain ⟨q6, e⟩ := zG_s e
        refine zF_blk (m := []) (d := 0) (b := B200_11) (gs := []) (c' := (116, [some (22, 0), some (0, v1), some (0, v2)], [(0, v1), (0, 2), (0, 197), (1342393079, 0)], (hc, r2.2, o))) K200_11 rfl trivial ?_
        refine zF_blk (m := []) (d := 0) (b := B200_12) (gs := []) (c' := (117, [some (22, 0), some (0, v1), some (0, v2)], [(0, (wmul 2 v1)), (0, 197), (1342393079, 0)], (hc, r2.2, o))) K200_12 rfl trivial ?_
        refine zF_blk (m := []) (d := 0) (b := B200_13) (gs := [0 ≤ (wadd (wadd 197 (wmul 2 v1)) 1) ∧ (wadd (wadd 197 (wmul 2 v1)) 1) < 209, 0 ≤ 6 ∧ 6 < 209, 0 ≤ 6 ∧ 6 < 209]) (c' := (137, [some (22, 0), some (0, v1), some (0, v2)], [(0, 1)], (hc, (mset (mset r2.2 15 (wadd (wadd 197 (wmul 2 v1)) 1) (r2.2 13 0)) 15 6 (wadd ((mset r2.2 15 (wadd (wadd 197 (wmul 2 v1)) 1) (r2.2 13 0)) 15 6) 1)), o))) K200_13 rfl ⟨q6, by decide, by decide, trivial⟩ ?_
        exact zF_rbM (by decide +kernel) (Or.inr rfl) e
      · refine zF_blk (m := []) (d := 0) (b := B200_15) (gs := [¬ (¬ r2.1 = 0)]) (c' := (105, [some (22, 0), some (0, v1), some (0, v2)], [], (hc, r2.2, o))) K200_15 rfl ⟨q5, trivial⟩ ?_
        refine zF_blk (m := []) (d := 0) (b := B200_14) (gs := []) (c' := (106, [some (22, 0), some (0, v1), some (0, v2)], [(0, 0)], (hc, r2.2, o))) K200_14 rfl trivial ?_
        exact zF_rbM (by decide +kernel) (Or.inl rfl) e
    · refine zF_blk (m := []) (d := 0) (b := B200_21) (gs := [¬ (v1 ≤ v2)]) (c' := (44, [some (22, 0), some (0, v1), some (0, v2)], [], (hc, h, o))) K200_21 rfl ⟨q1, trivial⟩ ?_
      obtain ⟨q7, e⟩ := zG_s e
      refine zF_blk (m := []) (d := 0) (b := B200_16) (gs := []) (c' := (53, [some (22, 0), some (0, v1), some (0, v2)], [(0, v2), (0, 2), (0, 197), (1342393079, 0)], (hc, h, o))) K200_16 rfl trivial ?_
      refine zF_blk (m := []) (d := 0) (b := B200_17) (gs := []) (c' := (54, [some (22, 0), some (0, v1), some (0, v2)], [(0, (wmul 2 v2)), (0, 197), (1342393079, 0)], (hc, h, o))) K200_17 rfl trivial ?_
      rcases zI_s e with ⟨q8, e⟩ | ⟨q8, e⟩
      · refine zF_blk (m := []) (d := 1) (b := B200_20) (gs := [0 ≤ (wadd 197 (wmul 2 v2)) ∧ (wadd 197 (wmul 2 v2)) < 209, ¬ (h 15 (wadd 197 (wmul 2 v2))) = (h 13 0)]) (c' := (69, [some (22, 0), some (0, v1), some (0, v2)], [], (hc, h, o))) K200_20 rfl ⟨q7, q8, trivial⟩ ?_
        refine zF_blk (m := []) (d := 0) (b := B200_18) (gs := []) (c' := (39, [some (22, 0), some (0, v1), some (0, (wadd v2 1))], [], (hc, h, o))) K200_18 rfl trivial ?_
        exact hk0 v1 (wadd v2 1) h _ e
      · refine zF_blk (m := []) (d := 0) (b := B200_20) (gs := [0 ≤ (wadd 197 (wmul 2 v2)) ∧ (wadd 197 (wmul 2 v2)) < 209, ¬ (¬ (h 15 (wadd 197 (wmul 2 v2))) = (h 13 0))]) (c' := (63, [some (22, 0), some (0, v1), some (0, v2)], [], (hc, h, o))) K200_20 rfl ⟨q7, q8, trivial⟩ ?_
        obtain ⟨r3, q9, e⟩ := zB_s e
        refine zF_blk (m := []) (d := 0) (b := B200_19) (gs := []) (c' := (65, [some (22, 0), some (0, v1), some (0, v2)], [(0, 3), (22, 0)], (hc, h, o))) K200_19 rfl trivial ?_
        refine zF_call (k := 185) (cl := 12) (n := 2) (i := .invokevirtual 148) (args := [(22, 0), (0, 3)]) (rest := []) (g1 := (hc, r3.2, o)) (r1 := some (0, r3.1)) (by decide +kernel) rfl rfl rfl (st' := [(0, r3.1)]) rfl (S185 (Nat.le_trans (by decide) hd) 3 h _ q9) ?_
        obtain ⟨q10, e⟩ := zG_s e
        exact zF_rbM (by decide +kernel) q10 e
/-- EchoValeModel.readSnow()Z -/
def F200 (h : zHM) : Option (Int × zHM) := if ¬ (h 15 6) = 6 then (F176 h).bind fun r1 => (F187 0 200 r1).bind fun r2 => if ¬ r2.1 = 0 then F200_0 zFu (h 15 6) 0 r2.2 else some (0, r2.2) else (F185 4 h).bind fun r3 => zG (r3.1 = 0 ∨ r3.1 = 1) (some (r3.1, r3.2))
set_option maxRecDepth 100000 in
theorem S200 {spec : zRn zH2} {hc : zHC} {o : Int → Int} {d : Nat} (hd : 4 ≤ d) (h : zHM) (v : (Int × zHM)) (e : F200 h = some v) : zRu2 spec d 200 [(22, 0)] (hc, h, o) (some (0, v.1)) (hc, v.2, o) := by
  refine zF_in (D := 3) (mx := 3) (L := [some (22, 0), none, none]) (by decide +kernel) rfl rfl hd (fun d hd => ?_)
  unfold F200 at e
  rcases zI_s e with ⟨q1, e⟩ | ⟨q1, e⟩
  · refine zF_blk (m := []) (d := 1) (b := B200_6) (gs := [0 ≤ 6 ∧ 6 < 209, ¬ (h 15 6) = 6]) (c' := (20, [some (22, 0), some (0, (h 15 6)), none], [], (hc, h, o))) K200_6 rfl ⟨by decide, q1, trivial⟩ ?_
    obtain ⟨r1, q2, e⟩ := zB_s e
    refine zF_blk (m := []) (d := 0) (b := B200_0) (gs := []) (c' := (21, [some (22, 0), some (0, (h 15 6)), none], [(22, 0)], (hc, h, o))) K200_0 rfl trivial ?_
    refine zF_call (k := 176) (cl := 12) (n := 1) (i := .invokevirtual 162) (args := [(22, 0)]) (rest := []) (g1 := (hc, r1, o)) (r1 := none) (by decide +kernel) rfl rfl rfl (st' := []) rfl (S176 (Nat.le_trans (by decide) hd)  h _ q2) ?_
    obtain ⟨r2, q3, e⟩ := zB_s e
    refine zF_blk (m := []) (d := 0) (b := B200_1) (gs := []) (c' := (29, [some (22, 0), some (0, (h 15 6)), none], [(0, 200), (0, 0), (22, 0)], (hc, r1, o))) K200_1 rfl trivial ?_
    refine zF_call (k := 187) (cl := 12) (n := 3) (i := .invokevirtual 158) (args := [(22, 0), (0, 0), (0, 200)]) (rest := []) (g1 := (hc, r2.2, o)) (r1 := some (0, r2.1)) (by decide +kernel) rfl rfl rfl (st' := [(0, r2.1)]) rfl (S187 (Nat.le_trans (by decide) hd) 0 200 r1 _ q3) ?_
    rcases zI_s e with ⟨q4, e⟩ | ⟨q4, e⟩
    · refine zF_blk (m := []) (d := 1) (b := B200_4) (gs := [¬ r2.1 = 0]) (c' := (37, [some (22, 0), some (0, (h 15 6)), none], [], (hc, r2.2, o))) K200_4 rfl ⟨q4, trivial⟩ ?_
      refine zF_blk (m := []) (d := 0) (b := B200_2) (gs := []) (c' := (39, [some (22, 0), some (0, (h 15 6)), some (0, 0)], [], (hc, r2.2, o))) K200_2 rfl trivial ?_
      exact T200_0 hd zFu (h 15 6) 0 r2.2 _ e
    · refine zF_blk (m := []) (d := 0) (b := B200_4) (gs := [¬ (¬ r2.1 = 0)]) (c' := (35, [some (22, 0), some (0, (h 15 6)), none], [], (hc, r2.2, o))) K200_4 rfl ⟨q4, trivial⟩ ?_
      refine zF_blk (m := []) (d := 0) (b := B200_3) (gs := []) (c' := (36, [some (22, 0), some (0, (h 15 6)), none], [(0, 0)], (hc, r2.2, o))) K200_3 rfl trivial ?_
      exact zF_rbM (by decide +kernel) (Or.inl rfl) e
  · refine zF_blk (m := []) (d := 0) (b := B200_6) (gs := [0 ≤ 6 ∧ 6 < 209, ¬ (¬ (h 15 6) = 6)]) (c' := (14, [some (22, 0), some (0, (h 15 6)), none], [], (hc, h, o))) K200_6 rfl ⟨by decide, q1, trivial⟩ ?_
    obtain ⟨r3, q5, e⟩ := zB_s e
    refine zF_blk (m := []) (d := 0) (b := B200_5) (gs := []) (c' := (16, [some (22, 0), some (0, (h 15 6)), none], [(0, 4), (22, 0)], (hc, h, o))) K200_5 rfl trivial ?_
    refine zF_call (k := 185) (cl := 12) (n := 2) (i := .invokevirtual 148) (args := [(22, 0), (0, 4)]) (rest := []) (g1 := (hc, r3.2, o)) (r1 := some (0, r3.1)) (by decide +kernel) rfl rfl rfl (st' := [(0, r3.1)]) rfl (S185 (Nat.le_trans (by decide) hd) 4 h _ q5) ?_
    obtain ⟨q6, e⟩ := zG_s e
    exact zF_rbM (by decide +kernel) q6 e
