/-! Functions of the methods, by wip/gen/lift.py. -/
def F283r : Nat → zHM → Option (Int × zHM)
  | 0, _ => none
  | n + 1, h => F283 (F283r n) h
theorem S283r {spec : zRn zH2} {hc : zHC} {o : Int → Int} : ∀ (n : Nat) {d : Nat} (hd : 7 * n ≤ d) (h : zHM) (v : (Int × zHM)) (e : F283r n h = some v), zRu2 spec d 283 [(22, 0)] (hc, h, o) (some (0, v.1)) (hc, v.2, o) := by
  intro n
  induction n with
  | zero => intro d hd h v e; unfold F283r at e; cases e
  | succ n ih =>
    intro d hd h v e
    unfold F283r at e
    exact S283 (DR := 7 * n) (by omega) (F283r n) (fun d hd h v e => ih hd h v e) h v e
def B282_0 : List zRow := [(0, .aload_n 0, 1, (0, 0, 0))]
theorem K282_0 : zRk 282 B282_0 = true := by decide +kernel
def B282_1 : List zRow := [(9, .aload_n 0, 1, (0, 0, 0)), (10, .getfield 400, 3, (12, 49, 0)), (13, .istore_n 1, 1, (0, 0, 0))]
theorem K282_1 : zRk 282 B282_1 = true := by decide +kernel
def B282_2 : List zRow := [(7, .iconst 0, 1, (0, 0, 0))]
theorem K282_2 : zRk 282 B282_2 = true := by decide +kernel
def B282_3 : List zRow := [(4, .ifCond .ne 5, 3, (0, 0, 0))]
theorem K282_3 : zRk 282 B282_3 = true := by decide +kernel
def B282_4 : List zRow := [(14, .aload_n 0, 1, (0, 0, 0)), (15, .bipush 11, 2, (0, 0, 0))]
theorem K282_4 : zRk 282 B282_4 = true := by decide +kernel
def B282_5 : List zRow := [(51, .aload_n 0, 1, (0, 0, 0)), (52, .iload_n 1, 1, (0, 0, 0)), (53, .putfield 400, 3, (12, 49, 0)), (56, .iconst 1, 1, (0, 0, 0))]
theorem K282_5 : zRk 282 B282_5 = true := by decide +kernel
def B282_6 : List zRow := [(23, .aload_n 0, 1, (0, 0, 0))]
theorem K282_6 : zRk 282 B282_6 = true := by decide +kernel
def B282_7 : List zRow := [(27, .aload_n 0, 1, (0, 0, 0))]
theorem K282_7 : zRk 282 B282_7 = true := by decide +kernel
def B282_8 : List zRow := [(36, .aload_n 0, 1, (0, 0, 0)), (37, .iconst 2, 1, (0, 0, 0)), (38, .iload_n 1, 1, (0, 0, 0)), (39, .aload_n 0, 1, (0, 0, 0)), (40, .getfield 400, 3, (12, 49, 0)), (43, .iconst 0, 1, (0, 0, 0))]
theorem K282_8 : zRk 282 B282_8 = true := by decide +kernel
def B282_9 : List zRow := [(47, .istore_n 1, 1, (0, 0, 0)), (48, .goto (-34), 3, (0, 0, 0))]
theorem K282_9 : zRk 282 B282_9 = true := by decide +kernel
def B282_10 : List zRow := [(34, .iconst 0, 1, (0, 0, 0))]
theorem K282_10 : zRk 282 B282_10 = true := by decide +kernel
def B282_11 : List zRow := [(31, .ifCond .ne 5, 3, (0, 0, 0))]
theorem K282_11 : zRk 282 B282_11 = true := by decide +kernel
def B282_12 : List zRow := [(20, .ifCond .eq 31, 3, (0, 0, 0))]
theorem K282_12 : zRk 282 B282_12 = true := by decide +kernel
def F282_0 : Nat → Int → zHM → Option (Int × zHM)
  | 0, _, _ => none
  | n + 1, v1, h => (F181 11 h).bind fun r1 => if r1 = 0 then some (1, (mset h 49 0 v1)) else (F176 h).bind fun r2 => (F283r 64 r2).bind fun r3 => if ¬ r3.1 = 0 then (F286 2 v1 (r3.2 49 0) 0 r3.2).bind fun r4 => (F282_0 n) r4.1 r4.2 else some (0, r3.2)
set_option maxRecDepth 100000 in
theorem T282_0 {spec : zRn zH2} {hc : zHC} {o : Int → Int} {d : Nat} (hd : 448 ≤ d) : ∀ (n : Nat) (v1 : Int) (h : zHM) (v : (Int × zHM)), F282_0 n v1 h = some v → zFin 0 (fun _ => 0) (zRu2 spec d) 282 (some (0, v.1)) (hc, v.2, o) (14, [some (22, 0), some (0, v1)], [], (hc, h, o)) := by
  intro n
  induction n with
  | zero => intro v1 h v e; unfold F282_0 at e; cases e
  | succ n hk0 =>
    intro v1 h v e
    unfold F282_0 at e
    obtain ⟨r1, q1, e⟩ := zB_s e
    refine zF_blk (m := []) (d := 0) (b := B282_4) (gs := []) (c' := (17, [some (22, 0), some (0, v1)], [(0, 11), (22, 0)], (hc, h, o))) K282_4 rfl trivial ?_
    refine zF_call (k := 181) (cl := 12) (n := 2) (i := .invokevirtual 199) (args := [(22, 0), (0, 11)]) (rest := []) (g1 := (hc, h, o)) (r1 := some (0, r1)) (by decide +kernel) rfl rfl rfl (st' := [(0, r1)]) rfl (S181 (Nat.le_trans (by decide) hd) 11 h _ q1) ?_
    rcases zI_s e with ⟨q2, e⟩ | ⟨q2, e⟩
    · refine zF_blk (m := []) (d := 1) (b := B282_12) (gs := [r1 = 0]) (c' := (51, [some (22, 0), some (0, v1)], [], (hc, h, o))) K282_12 rfl ⟨q2, trivial⟩ ?_
      refine zF_blk (m := []) (d := 0) (b := B282_5) (gs := []) (c' := (57, [some (22, 0), some (0, v1)], [(0, 1)], (hc, (mset h 49 0 v1), o))) K282_5 rfl trivial ?_
      exact zF_rbM (by decide +kernel) (Or.inr rfl) e
    · refine zF_blk (m := []) (d := 0) (b := B282_12) (gs := [¬ (r1 = 0)]) (c' := (23, [some (22, 0), some (0, v1)], [], (hc, h, o))) K282_12 rfl ⟨q2, trivial⟩ ?_
      obtain ⟨r2, q3, e⟩ := zB_s e
      refine zF_blk (m := []) (d := 0) (b := B282_6) (gs := []) (c' := (24, [some (22, 0), some (0, v1)], [(22, 0)], (hc, h, o))) K282_6 rfl trivial ?_
      refine zF_call (k := 176) (cl := 12) (n := 1) (i := .invokevirtual 162) (args := [(22, 0)]) (rest := []) (g1 := (hc, r2, o)) (r1 := none) (by decide +kernel) rfl rfl rfl (st' := []) rfl (S176 (Nat.le_trans (by decide) hd)  h _ q3) ?_
      obtain ⟨r3, q4, e⟩ := zB_s e
      refine zF_blk (m := []) (d := 0) (b := B282_7) (gs := []) (c' := (28, [some (22, 0), some (0, v1)], [(22, 0)], (hc, r2, o))) K282_7 rfl trivial ?_
      refine zF_call (k := 283) (cl := 12) (n := 1) (i := .invokevirtual 407) (args := [(22, 0)]) (rest := []) (g1 := (hc, r3.2, o)) (r1 := some (0, r3.1)) (by decide +kernel) rfl rfl rfl (st' := [(0, r3.1)]) rfl (S283r 64 (Nat.le_trans (by decide) hd)  r2 _ q4) ?_
      rcases zI_s e with ⟨q5, e⟩ | ⟨q5, e⟩
      · refine zF_blk (m := []) (d := 1) (b := B282_11) (gs := [¬ r3.1 = 0]) (c' := (36, [some (22, 0), some (0, v1)], [], (hc, r3.2, o))) K282_11 rfl ⟨q5, trivial⟩ ?_
        obtain ⟨r4, q6, e⟩ := zB_s e
        refine zF_blk (m := []) (d := 0) (b := B282_8) (gs := []) (c' := (44, [some (22, 0), some (0, v1)], [(0, 0), (0, (r3.2 49 0)), (0, v1), (0, 2), (22, 0)], (hc, r3.2, o))) K282_8 rfl trivial ?_
        refine zF_call (k := 286) (cl := 12) (n := 5) (i := .invokevirtual 403) (args := [(22, 0), (0, 2), (0, v1), (0, (r3.2 49 0)), (0, 0)]) (rest := []) (g1 := (hc, r4.2, o)) (r1 := some (0, r4.1)) (by decide +kernel) rfl rfl rfl (st' := [(0, r4.1)]) rfl (S286 (Nat.le_trans (by decide) hd) 2 v1 (r3.2 49 0) 0 r3.2 _ q6) ?_
        refine zF_blk (m := []) (d := 0) (b := B282_9) (gs := []) (c' := (14, [some (22, 0), some (0, r4.1)], [], (hc, r4.2, o))) K282_9 rfl trivial ?_
        exact hk0 r4.1 r4.2 _ e
      · refine zF_blk (m := []) (d := 0) (b := B282_11) (gs := [¬ (¬ r3.1 = 0)]) (c' := (34, [some (22, 0), some (0, v1)], [], (hc, r3.2, o))) K282_11 rfl ⟨q5, trivial⟩ ?_
        refine zF_blk (m := []) (d := 0) (b := B282_10) (gs := []) (c' := (35, [some (22, 0), some (0, v1)], [(0, 0)], (hc, r3.2, o))) K282_10 rfl trivial ?_
        exact zF_rbM (by decide +kernel) (Or.inl rfl) e
/-- EchoValeModel.readAnd()Z -/
def F282 (h : zHM) : Option (Int × zHM) := (F283r 64 h).bind fun r1 => if ¬ r1.1 = 0 then F282_0 zFu (r1.2 49 0) r1.2 else some (0, r1.2)
set_option maxRecDepth 100000 in
theorem S282 {spec : zRn zH2} {hc : zHC} {o : Int → Int} {d : Nat} (hd : 449 ≤ d) (h : zHM) (v : (Int × zHM)) (e : F282 h = some v) : zRu2 spec d 282 [(22, 0)] (hc, h, o) (some (0, v.1)) (hc, v.2, o) := by
  refine zF_in (D := 448) (mx := 2) (L := [some (22, 0), none]) (by decide +kernel) rfl rfl hd (fun d hd => ?_)
  unfold F282 at e
  obtain ⟨r1, q1, e⟩ := zB_s e
  refine zF_blk (m := []) (d := 0) (b := B282_0) (gs := []) (c' := (1, [some (22, 0), none], [(22, 0)], (hc, h, o))) K282_0 rfl trivial ?_
  refine zF_call (k := 283) (cl := 12) (n := 1) (i := .invokevirtual 407) (args := [(22, 0)]) (rest := []) (g1 := (hc, r1.2, o)) (r1 := some (0, r1.1)) (by decide +kernel) rfl rfl rfl (st' := [(0, r1.1)]) rfl (S283r 64 (Nat.le_trans (by decide) hd)  h _ q1) ?_
  rcases zI_s e with ⟨q2, e⟩ | ⟨q2, e⟩
  · refine zF_blk (m := []) (d := 1) (b := B282_3) (gs := [¬ r1.1 = 0]) (c' := (9, [some (22, 0), none], [], (hc, r1.2, o))) K282_3 rfl ⟨q2, trivial⟩ ?_
    refine zF_blk (m := []) (d := 0) (b := B282_1) (gs := []) (c' := (14, [some (22, 0), some (0, (r1.2 49 0))], [], (hc, r1.2, o))) K282_1 rfl trivial ?_
    exact T282_0 hd zFu (r1.2 49 0) r1.2 _ e
  · refine zF_blk (m := []) (d := 0) (b := B282_3) (gs := [¬ (¬ r1.1 = 0)]) (c' := (7, [some (22, 0), none], [], (hc, r1.2, o))) K282_3 rfl ⟨q2, trivial⟩ ?_
    refine zF_blk (m := []) (d := 0) (b := B282_2) (gs := []) (c' := (8, [some (22, 0), none], [(0, 0)], (hc, r1.2, o))) K282_2 rfl trivial ?_
    exact zF_rbM (by decide +kernel) (Or.inl rfl) e
def B281_0 : List zRow := [(0, .aload_n 0, 1, (0, 0, 0))]
theorem K281_0 : zRk 281 B281_0 = true := by decide +kernel
def B281_1 : List zRow := [(9, .aload_n 0, 1, (0, 0, 0)), (10, .getfield 400, 3, (12, 49, 0)), (13, .istore_n 1, 1, (0, 0, 0))]
theorem K281_1 : zRk 281 B281_1 = true := by decide +kernel
def B281_2 : List zRow := [(7, .iconst 0, 1, (0, 0, 0))]
theorem K281_2 : zRk 281 B281_2 = true := by decide +kernel
def B281_3 : List zRow := [(4, .ifCond .ne 5, 3, (0, 0, 0))]
theorem K281_3 : zRk 281 B281_3 = true := by decide +kernel
def B281_4 : List zRow := [(14, .aload_n 0, 1, (0, 0, 0)), (15, .bipush 10, 2, (0, 0, 0))]
theorem K281_4 : zRk 281 B281_4 = true := by decide +kernel
def B281_5 : List zRow := [(51, .aload_n 0, 1, (0, 0, 0)), (52, .iload_n 1, 1, (0, 0, 0)), (53, .putfield 400, 3, (12, 49, 0)), (56, .iconst 1, 1, (0, 0, 0))]
theorem K281_5 : zRk 281 B281_5 = true := by decide +kernel
def B281_6 : List zRow := [(23, .aload_n 0, 1, (0, 0, 0))]
theorem K281_6 : zRk 281 B281_6 = true := by decide +kernel
def B281_7 : List zRow := [(27, .aload_n 0, 1, (0, 0, 0))]
theorem K281_7 : zRk 281 B281_7 = true := by decide +kernel
def B281_8 : List zRow := [(36, .aload_n 0, 1, (0, 0, 0)), (37, .iconst 3, 1, (0, 0, 0)), (38, .iload_n 1, 1, (0, 0, 0)), (39, .aload_n 0, 1, (0, 0, 0)), (40, .getfield 400, 3, (12, 49, 0)), (43, .iconst 0, 1, (0, 0, 0))]
theorem K281_8 : zRk 281 B281_8 = true := by decide +kernel
def B281_9 : List zRow := [(47, .istore_n 1, 1, (0, 0, 0)), (48, .goto (-34), 3, (0, 0, 0))]
theorem K281_9 : zRk 281 B281_9 = true := by decide +kernel
def B281_10 : List zRow := [(34, .iconst 0, 1, (0, 0, 0))]
theorem K281_10 : zRk 281 B281_10 = true := by decide +kernel
def B281_11 : List zRow := [(31, .ifCond .ne 5, 3, (0, 0, 0))]
theorem K281_11 : zRk 281 B281_11 = true := by decide +kernel
def B281_12 : List zRow := [(20, .ifCond .eq 31, 3, (0, 0, 0))]
theorem K281_12 : zRk 281 B281_12 = true := by decide +kernel
def F281_0 : Nat → Int → zHM → Option (Int × zHM)
  | 0, _, _ => none
  | n + 1, v1, h => (F181 10 h).bind fun r1 => if r1 = 0 then some (1, (mset h 49 0 v1)) else (F176 h).bind fun r2 => (F282 r2).bind fun r3 => if ¬ r3.1 = 0 then (F286 3 v1 (r3.2 49 0) 0 r3.2).bind fun r4 => (F281_0 n) r4.1 r4.2 else some (0, r3.2)
set_option maxRecDepth 100000 in
theorem T281_0 {spec : zRn zH2} {hc : zHC} {o : Int → Int} {d : Nat} (hd : 449 ≤ d) : ∀ (n : Nat) (v1 : Int) (h : zHM) (v : (Int × zHM)), F281_0 n v1 h = some v → zFin 0 (fun _ => 0) (zRu2 spec d) 281 (some (0, v.1)) (hc, v.2, o) (14, [some (22, 0), some (0, v1)], [], (hc, h, o)) := by
  intro n
  induction n with
  | zero => intro v1 h v e; unfold F281_0 at e; cases e
  | succ n hk0 =>
    intro v1 h v e
    unfold F281_0 at e
    obtain ⟨r1, q1, e⟩ := zB_s e
    refine zF_blk (m := []) (d := 0) (b := B281_4) (gs := []) (c' := (17, [some (22, 0), some (0, v1)], [(0, 10), (22, 0)], (hc, h, o))) K281_4 rfl trivial ?_
    refine zF_call (k := 181) (cl := 12) (n := 2) (i := .invokevirtual 199) (args := [(22, 0), (0, 10)]) (rest := []) (g1 := (hc, h, o)) (r1 := some (0, r1)) (by decide +kernel) rfl rfl rfl (st' := [(0, r1)]) rfl (S181 (Nat.le_trans (by decide) hd) 10 h _ q1) ?_
    rcases zI_s e with ⟨q2, e⟩ | ⟨q2, e⟩
    · refine zF_blk (m := []) (d := 1) (b := B281_12) (gs := [r1 = 0]) (c' := (51, [some (22, 0), some (0, v1)], [], (hc, h, o))) K281_12 rfl ⟨q2, trivial⟩ ?_
      refine zF_blk (m := []) (d := 0) (b := B281_5) (gs := []) (c' := (57, [some (22, 0), some (0, v1)], [(0, 1)], (hc, (mset h 49 0 v1), o))) K281_5 rfl trivial ?_
      exact zF_rbM (by decide +kernel) (Or.inr rfl) e
    · refine zF_blk (m := []) (d := 0) (b := B281_12) (gs := [¬ (r1 = 0)]) (c' := (23, [some (22, 0), some (0, v1)], [], (hc, h, o))) K281_12 rfl ⟨q2, trivial⟩ ?_
      obtain ⟨r2, q3, e⟩ := zB_s e
      refine zF_blk (m := []) (d := 0) (b := B281_6) (gs := []) (c' := (24, [some (22, 0), some (0, v1)], [(22, 0)], (hc, h, o))) K281_6 rfl trivial ?_
      refine zF_call (k := 176) (cl := 12) (n := 1) (i := .invokevirtual 162) (args := [(22, 0)]) (rest := []) (g1 := (hc, r2, o)) (r1 := none) (by decide +kernel) rfl rfl rfl (st' := []) rfl (S176 (Nat.le_trans (by decide) hd)  h _ q3) ?_
      obtain ⟨r3, q4, e⟩ := zB_s e
      refine zF_blk (m := []) (d := 0) (b := B281_7) (gs := []) (c' := (28, [some (22, 0), some (0, v1)], [(22, 0)], (hc, r2, o))) K281_7 rfl trivial ?_
      refine zF_call (k := 282) (cl := 12) (n := 1) (i := .invokevirtual 397) (args := [(22, 0)]) (rest := []) (g1 := (hc, r3.2, o)) (r1 := some (0, r3.1)) (by decide +kernel) rfl rfl rfl (st' := [(0, r3.1)]) rfl (S282 (Nat.le_trans (by decide) hd)  r2 _ q4) ?_
      rcases zI_s e with ⟨q5, e⟩ | ⟨q5, e⟩
      · refine zF_blk (m := []) (d := 1) (b := B281_11) (gs := [¬ r3.1 = 0]) (c' := (36, [some (22, 0), some (0, v1)], [], (hc, r3.2, o))) K281_11 rfl ⟨q5, trivial⟩ ?_
        obtain ⟨r4, q6, e⟩ := zB_s e
        refine zF_blk (m := []) (d := 0) (b := B281_8) (gs := []) (c' := (44, [some (22, 0), some (0, v1)], [(0, 0), (0, (r3.2 49 0)), (0, v1), (0, 3), (22, 0)], (hc, r3.2, o))) K281_8 rfl trivial ?_
        refine zF_call (k := 286) (cl := 12) (n := 5) (i := .invokevirtual 403) (args := [(22, 0), (0, 3), (0, v1), (0, (r3.2 49 0)), (0, 0)]) (rest := []) (g1 := (hc, r4.2, o)) (r1 := some (0, r4.1)) (by decide +kernel) rfl rfl rfl (st' := [(0, r4.1)]) rfl (S286 (Nat.le_trans (by decide) hd) 3 v1 (r3.2 49 0) 0 r3.2 _ q6) ?_
        refine zF_blk (m := []) (d := 0) (b := B281_9) (gs := []) (c' := (14, [some (22, 0), some (0, r4.1)], [], (hc, r4.2, o))) K281_9 rfl trivial ?_
        exact hk0 r4.1 r4.2 _ e
      · refine zF_blk (m := []) (d := 0) (b := B281_11) (gs := [¬ (¬ r3.1 = 0)]) (c' := (34, [some (22, 0), some (0, v1)], [], (hc, r3.2, o))) K281_11 rfl ⟨q5, trivial⟩ ?_
        refine zF_blk (m := []) (d := 0) (b := B281_10) (gs := []) (c' := (35, [some (22, 0), some (0, v1)], [(0, 0)], (hc, r3.2, o))) K281_10 rfl trivial ?_
        exact zF_rbM (by decide +kernel) (Or.inl rfl) e
/-- EchoValeModel.readOr()Z -/
def F281 (h : zHM) : Option (Int × zHM) := (F282 h).bind fun r1 => if ¬ r1.1 = 0 then F281_0 zFu (r1.2 49 0) r1.2 else some (0, r1.2)
set_option maxRecDepth 100000 in
theorem S281 {spec : zRn zH2} {hc : zHC} {o : Int → Int} {d : Nat} (hd : 450 ≤ d) (h : zHM) (v : (Int × zHM)) (e : F281 h = some v) : zRu2 spec d 281 [(22, 0)] (hc, h, o) (some (0, v.1)) (hc, v.2, o) := by
  refine zF_in (D := 449) (mx := 2) (L := [some (22, 0), none]) (by decide +kernel) rfl rfl hd (fun d hd => ?_)
  unfold F281 at e
  obtain ⟨r1, q1, e⟩ := zB_s e
  refine zF_blk (m := []) (d := 0) (b := B281_0) (gs := []) (c' := (1, [some (22, 0), none], [(22, 0)], (hc, h, o))) K281_0 rfl trivial ?_
  refine zF_call (k := 282) (cl := 12) (n := 1) (i := .invokevirtual 397) (args := [(22, 0)]) (rest := []) (g1 := (hc, r1.2, o)) (r1 := some (0, r1.1)) (by decide +kernel) rfl rfl rfl (st' := [(0, r1.1)]) rfl (S282 (Nat.le_trans (by decide) hd)  h _ q1) ?_
  rcases zI_s e with ⟨q2, e⟩ | ⟨q2, e⟩
  · refine zF_blk (m := []) (d := 1) (b := B281_3) (gs := [¬ r1.1 = 0]) (c' := (9, [some (22, 0), none], [], (hc, r1.2, o))) K281_3 rfl ⟨q2, trivial⟩ ?_
    refine zF_blk (m := []) (d := 0) (b := B281_1) (gs := []) (c' := (14, [some (22, 0), some (0, (r1.2 49 0))], [], (hc, r1.2, o))) K281_1 rfl trivial ?_
    exact T281_0 hd zFu (r1.2 49 0) r1.2 _ e
  · refine zF_blk (m := []) (d := 0) (b := B281_3) (gs := [¬ (¬ r1.1 = 0)]) (c' := (7, [some (22, 0), none], [], (hc, r1.2, o))) K281_3 rfl ⟨q2, trivial⟩ ?_
    refine zF_blk (m := []) (d := 0) (b := B281_2) (gs := []) (c' := (8, [some (22, 0), none], [(0, 0)], (hc, r1.2, o))) K281_2 rfl trivial ?_
    exact zF_rbM (by decide +kernel) (Or.inl rfl) e
def B280_0 : List zRow := [(0, .aload_n 0, 1, (0, 0, 0)), (1, .sipush 200, 3, (0, 0, 0))]
theorem K280_0 : zRk 280 B280_0 = true := by decide +kernel
def B280_1 : List zRow := [(7, .aload_n 0, 1, (0, 0, 0)), (8, .iconst 0, 1, (0, 0, 0)), (9, .putfield 394, 3, (12, 46, 0)), (12, .aload_n 0, 1, (0, 0, 0)), (13, .iconst 0, 1, (0, 0, 0)), (14, .putfield 410, 3, (12, 47, 0)), (17, .aload_n 0, 1, (0, 0, 0)), (18, .iconst 0, 1, (0, 0, 0)), (19, .putfield 413, 3, (12, 48, 0)), (22, .aload_n 0, 1, (0, 0, 0))]
theorem K280_1 : zRk 280 B280_1 = true := by decide +kernel
def B280_2 : List zRow := [(56, .aload_n 0, 1, (0, 0, 0)), (57, .getfield 13, 3, (12, 14, 5251442)), (60, .sipush 1898, 3, (0, 0, 0)), (63, .iconst 1, 1, (0, 0, 0)), (64, .iastore, 1, (0, 0, 0)), (65, .aload_n 0, 1, (0, 0, 0)), (66, .getfield 13, 3, (12, 14, 5251442)), (69, .sipush 1899, 3, (0, 0, 0)), (72, .aload_n 0, 1, (0, 0, 0)), (73, .getfield 400, 3, (12, 49, 0)), (76, .iastore, 1, (0, 0, 0)), (77, .iconst 0, 1, (0, 0, 0)), (78, .istore_n 1, 1, (0, 0, 0))]
theorem K280_2 : zRk 280 B280_2 = true := by decide +kernel
def B280_3 : List zRow := [(43, .aload_n 0, 1, (0, 0, 0)), (44, .iconst 1, 1, (0, 0, 0))]
theorem K280_3 : zRk 280 B280_3 = true := by decide +kernel
def B280_4 : List zRow := [(48, .pop, 1, (0, 0, 0)), (49, .iconst (-1), 1, (0, 0, 0)), (50, .aload_n 0, 1, (0, 0, 0)), (51, .getfield 145, 3, (12, 11, 0))]
theorem K280_4 : zRk 280 B280_4 = true := by decide +kernel
def B280_5 : List zRow := [(54, .isub, 1, (0, 0, 0))]
theorem K280_5 : zRk 280 B280_5 = true := by decide +kernel
def B280_6 : List zRow := [(36, .aload_n 0, 1, (0, 0, 0)), (37, .getfield 107, 3, (12, 7, 0)), (40, .ifCond .eq 16, 3, (0, 0, 0))]
theorem K280_6 : zRk 280 B280_6 = true := by decide +kernel
def B280_7 : List zRow := [(29, .iconst (-1), 1, (0, 0, 0)), (30, .aload_n 0, 1, (0, 0, 0)), (31, .getfield 145, 3, (12, 11, 0))]
theorem K280_7 : zRk 280 B280_7 = true := by decide +kernel
def B280_8 : List zRow := [(34, .isub, 1, (0, 0, 0))]
theorem K280_8 : zRk 280 B280_8 = true := by decide +kernel
def B280_9 : List zRow := [(26, .ifCond .ne 10, 3, (0, 0, 0))]
theorem K280_9 : zRk 280 B280_9 = true := by decide +kernel
def B280_10 : List zRow := [(108, .aload_n 0, 1, (0, 0, 0)), (109, .getfield 410, 3, (12, 47, 0))]
theorem K280_10 : zRk 280 B280_10 = true := by decide +kernel
def B280_11 : List zRow := [(86, .aload_n 0, 1, (0, 0, 0)), (87, .getfield 13, 3, (12, 14, 5251442)), (90, .sipush 1900, 3, (0, 0, 0)), (93, .iload_n 1, 1, (0, 0, 0))]
theorem K280_11 : zRk 280 B280_11 = true := by decide +kernel
def B280_12 : List zRow := [(94, .iadd, 1, (0, 0, 0)), (95, .aload_n 0, 1, (0, 0, 0)), (96, .getfield 78, 3, (12, 45, 5243842)), (99, .iload_n 1, 1, (0, 0, 0)), (100, .iaload, 1, (0, 0, 0)), (101, .iastore, 1, (0, 0, 0)), (102, .iinc 1 1, 3, (0, 0, 0)), (105, .goto (-26), 3, (0, 0, 0))]
theorem K280_12 : zRk 280 B280_12 = true := by decide +kernel
def B280_13 : List zRow := [(79, .iload_n 1, 1, (0, 0, 0)), (80, .sipush 240, 3, (0, 0, 0)), (83, .if_icmp .ge 25, 3, (0, 0, 0))]
theorem K280_13 : zRk 280 B280_13 = true := by decide +kernel
def F280_0 : Nat → Int → zHM → Option (Int × zHM)
  | 0, _, _ => none
  | n + 1, v1, h => if 240 ≤ v1 then some ((h 47 0), h) else zG (0 ≤ v1 ∧ v1 < 240) (zG (0 ≤ (wadd 1900 v1) ∧ (wadd 1900 v1) < 2140) ((F280_0 n) (wadd v1 1) (mset h 14 (wadd 1900 v1) (h 45 v1))))
set_option maxRecDepth 100000 in
theorem T280_0 {spec : zRn zH2} {hc : zHC} {o : Int → Int} {d : Nat} (hd : 450 ≤ d) : ∀ (n : Nat) (v1 : Int) (h : zHM) (v : (Int × zHM)), F280_0 n v1 h = some v → zFin 0 (fun _ => 0) (zRu2 spec d) 280 (some (0, v.1)) (hc, v.2, o) (79, [some (22, 0), some (0, v1)], [], (hc, h, o)) := by
  intro n
  induction n with
  | zero => intro v1 h v e; unfold F280_0 at e; cases e
  | succ n hk0 =>
    intro v1 h v e
    unfold F280_0 at e
    rcases zI_s e with ⟨q1, e⟩ | ⟨q1, e⟩
    · refine zF_blk (m := []) (d := 1) (b := B280_13) (gs := [240 ≤ v1]) (c' := (108, [some (22, 0), some (0, v1)], [], (hc, h, o))) K280_13 rfl ⟨q1, trivial⟩ ?_
      refine zF_blk (m := []) (d := 0) (b := B280_10) (gs := []) (c' := (112, [some (22, 0), some (0, v1)], [(0, (h 47 0))], (hc, h, o))) K280_10 rfl trivial ?_
      exact zF_riM (by decide +kernel) e
    · refine zF_blk (m := []) (d := 0) (b := B280_13) (gs := [¬ (240 ≤ v1)]) (c' := (86, [some (22, 0), some (0, v1)], [], (hc, h, o))) K280_13 rfl ⟨q1, trivial⟩ ?_
      obtain ⟨q2, e⟩ := zG_s e
      obtain ⟨q3, e⟩ := zG_s e
      refine zF_blk (m := []) (d := 0) (b := B280_11) (gs := []) (c' := (94, [some (22, 0), some (0, v1)], [(0, v1), (0, 1900), (1344370422, 0)], (hc, h, o))) K280_11 rfl trivial ?_
      refine zF_blk (m := []) (d := 0) (b := B280_12) (gs := [0 ≤ v1 ∧ v1 < 240, 0 ≤ (wadd 1900 v1) ∧ (wadd 1900 v1) < 2140]) (c' := (79, [some (22, 0), some (0, (wadd v1 1))], [], (hc, (mset h 14 (wadd 1900 v1) (h 45 v1)), o))) K280_12 rfl ⟨q2, q3, trivial⟩ ?_
      exact hk0 (wadd v1 1) (mset h 14 (wadd 1900 v1) (h 45 v1)) _ e
/-- EchoValeModel.sentence()I -/
def F280 (h : zHM) : Option (Int × zHM) := (F174 200 h).bind fun r1 => (F281 (mset (mset (mset r1 46 0 0) 47 0 0) 48 0 0)).bind fun r2 => if ¬ r2.1 = 0 then if (r2.2 7 0) = 0 then F280_0 zFu 0 (mset (mset r2.2 14 1898 1) 14 1899 (r2.2 49 0)) else (F185 1 r2.2).bind fun r3 => some ((wsub (-1) (r3.2 11 0)), r3.2) else some ((wsub (-1) (r2.2 11 0)), r2.2)
set_option maxRecDepth 100000 in
theorem S280 {spec : zRn zH2} {hc : zHC} {o : Int → Int} {d : Nat} (hd : 451 ≤ d) (h : zHM) (v : (Int × zHM)) (e : F280 h = some v) : zRu2 spec d 280 [(22, 0)] (hc, h, o) (some (0, v.1)) (hc, v.2, o) := by
  refine zF_in (D := 450) (mx := 2) (L := [some (22, 0), none]) (by decide +kernel) rfl rfl hd (fun d hd => ?_)
  unfold F280 at e
  obtain ⟨r1, q1, e⟩ := zB_s e
  refine zF_blk (m := []) (d := 0) (b := B280_0) (gs := []) (c' := (4, [some (22, 0), none], [(0, 200), (22, 0)], (hc, h, o))) K280_0 rfl trivial ?_
  refine zF_call (k := 174) (cl := 12) (n := 2) (i := .invokevirtual 226) (args := [(22, 0), (0, 200)]) (rest := []) (g1 := (hc, r1, o)) (r1 := none) (by decide +kernel) rfl rfl rfl (st' := []) rfl (S174 (Nat.le_trans (by decide) hd) 200 h _ q1) ?_
  obtain ⟨r2, q2, e⟩ := zB_s e
  refine zF_blk (m := []) (d := 0) (b := B280_1) (gs := []) (c' := (23, [some (22, 0), none], [(22, 0)], (hc, (mset (mset (mset r1 46 0 0) 47 0 0) 48 0 0), o))) K280_1 rfl trivial ?_
  refine zF_call (k := 281) (cl := 12) (n := 1) (i := .invokevirtual 428) (args := [(22, 0)]) (rest := []) (g1 := (hc, r2.2, o)) (r1 := some (0, r2.1)) (by decide +kernel) rfl rfl rfl (st' := [(0, r2.1)]) rfl (S281 (Nat.le_trans (by decide) hd)  (mset (mset (mset r1 46 0 0) 47 0 0) 48 0 0) _ q2) ?_
  rcases zI_s e with ⟨q3, e⟩ | ⟨q3, e⟩
  · refine zF_blk (m := []) (d := 1) (b := B280_9) (gs := [¬ r2.1 = 0]) (c' := (36, [some (22, 0), none], [], (hc, r2.2, o))) K280_9 rfl ⟨q3, trivial⟩ ?_
    rcases zI_s e with ⟨q4, e⟩ | ⟨q4, e⟩
    · refine zF_blk (m := []) (d := 1) (b := B280_6) (gs := [(r2.2 7 0) = 0]) (c' := (56, [some (22, 0), none], [], (hc, r2.2, o))) K280_6 rfl ⟨q4, trivial⟩ ?_
      refine zF_blk (m := []) (d := 0) (b := B280_2) (gs := [0 ≤ 1898 ∧ 1898 < 2140, 0 ≤ 1899 ∧ 1899 < 2140]) (c' := (79, [some (22, 0), some (0, 0)], [], (hc, (mset (mset r2.2 14 1898 1) 14 1899 (r2.2 49 0)), o))) K280_2 rfl ⟨by decide, by decide, trivial⟩ ?_
      exact T280_0 hd zFu 0 (mset (mset r2.2 14 1898 1) 14 1899 (r2.2 49 0)) _ e
    · refine zF_blk (m := []) (d := 0) (b := B280_6) (gs := [¬ ((r2.2 7 0) = 0)]) (c' := (43, [some (22, 0), none], [], (hc, r2.2, o))) K280_6 rfl ⟨q4, trivial⟩ ?_
      obtain ⟨r3, q5, e⟩ := zB_s e
      refine zF_blk (m := []) (d := 0) (b := B280_3) (gs := []) (c' := (45, [some (22, 0), none], [(0, 1), (22, 0)], (hc, r2.2, o))) K280_3 rfl trivial ?_
      refine zF_call (k := 185) (cl := 12) (n := 2) (i := .invokevirtual 148) (args := [(22, 0), (0, 1)]) (rest := []) (g1 := (hc, r3.2, o)) (r1 := some (0, r3.1)) (by decide +kernel) rfl rfl rfl (st' := [(0, r3.1)]) rfl (S185 (Nat.le_trans (by decide) hd) 1 r2.2 _ q5) ?_
      refine zF_blk (m := []) (d := 0) (b := B280_4) (gs := []) (c' := (54, [some (22, 0), none], [(0, (r3.2 11 0)), (0, (-1))], (hc, r3.2, o))) K280_4 rfl trivial ?_
      refine zF_blk (m := []) (d := 0) (b := B280_5) (gs := []) (c' := (55, [some (22, 0), none], [(0, (wsub (-1) (r3.2 11 0)))], (hc, r3.2, o))) K280_5 rfl trivial ?_
      exact zF_riM (by decide +kernel) e
  · refine zF_blk (m := []) (d := 0) (b := B280_9) (gs := [¬ (¬ r2.1 = 0)]) (c' := (29, [some (22, 0), none], [], (hc, r2.2, o))) K280_9 rfl ⟨q3, trivial⟩ ?_
    refine zF_blk (m := []) (d := 0) (b := B280_7) (gs := []) (c' := (34, [some (22, 0), none], [(0, (r2.2 11 0)), (0, (-1))], (hc, r2.2, o))) K280_7 rfl trivial ?_
    refine zF_blk (m := []) (d := 0) (b := B280_8) (gs := []) (c' := (35, [some (22, 0), none], [(0, (wsub (-1) (r2.2 11 0)))], (hc, r2.2, o))) K280_8 rfl trivial ?_
    exact zF_riM (by decide +kernel) e
def B159_0 : List zRow := [(45, .iconst 0, 1, (0, 0, 0))]
theorem K159_0 : zRk 159 B159_0 = true := by decide +kernel
def B159_1 : List zRow := [(41, .iconst 1, 1, (0, 0, 0)), (42, .goto 4, 3, (0, 0, 0))]
theorem K159_1 : zRk 159 B159_1 = true := by decide +kernel
def B159_2 : List zRow := [(36, .iload_n 0, 1, (0, 0, 0)), (37, .iload_n 2, 1, (0, 0, 0)), (38, .if_icmp .ne 7, 3, (0, 0, 0))]
theorem K159_2 : zRk 159 B159_2 = true := by decide +kernel
def B159_3 : List zRow := [(32, .iconst 0, 1, (0, 0, 0)), (33, .goto 13, 3, (0, 0, 0))]
theorem K159_3 : zRk 159 B159_3 = true := by decide +kernel
def B159_4 : List zRow := [(28, .iconst 1, 1, (0, 0, 0)), (29, .goto 17, 3, (0, 0, 0))]
theorem K159_4 : zRk 159 B159_4 = true := by decide +kernel
def B159_5 : List zRow := [(23, .iload_n 0, 1, (0, 0, 0)), (24, .iload_n 2, 1, (0, 0, 0)), (25, .if_icmp .le 7, 3, (0, 0, 0))]
theorem K159_5 : zRk 159 B159_5 = true := by decide +kernel
def B159_6 : List zRow := [(17, .iload_n 1, 1, (0, 0, 0)), (18, .bipush 62, 2, (0, 0, 0)), (20, .if_icmp .ne 16, 3, (0, 0, 0))]
theorem K159_6 : zRk 159 B159_6 = true := by decide +kernel
def B159_7 : List zRow := [(15, .iconst 0, 1, (0, 0, 0))]
theorem K159_7 : zRk 159 B159_7 = true := by decide +kernel
def B159_8 : List zRow := [(11, .iconst 1, 1, (0, 0, 0)), (12, .goto 4, 3, (0, 0, 0))]
theorem K159_8 : zRk 159 B159_8 = true := by decide +kernel
def B159_9 : List zRow := [(6, .iload_n 0, 1, (0, 0, 0)), (7, .iload_n 2, 1, (0, 0, 0)), (8, .if_icmp .ge 7, 3, (0, 0, 0))]
theorem K159_9 : zRk 159 B159_9 = true := by decide +kernel
def B159_10 : List zRow := [(0, .iload_n 1, 1, (0, 0, 0)), (1, .bipush 60, 2, (0, 0, 0)), (3, .if_icmp .ne 14, 3, (0, 0, 0))]
theorem K159_10 : zRk 159 B159_10 = true := by decide +kernel
/-- EchoVale$Sentence.compares(III)Z -/
def F159 (v0 : Int) (v1 : Int) (v2 : Int) : Option Int := if ¬ v1 = 60 then if ¬ v1 = 62 then if ¬ v0 = v2 then some 0 else some 1 else if v0 ≤ v2 then some 0 else some 1 else if v2 ≤ v0 then some 0 else some 1
set_option maxRecDepth 100000 in
theorem S159 {spec : zRn zH2} {hm : zHM} {o : Int → Int} {d : Nat} (hd : 1 ≤ d) (v0 : Int) (v1 : Int) (v2 : Int) (h : zHC) (v : Int) (e : F159 v0 v1 v2 = some v) : zRu2 spec d 159 [(0, v0), (0, v1), (0, v2)] (h, hm, o) (some (0, v)) (h, hm, o) := by
  refine zF_in (D := 0) (mx := 3) (L := [some (0, v0), some (0, v1), some (0, v2)]) (by decide +kernel) rfl rfl hd (fun d hd => ?_)
  unfold F159 at e
  rcases zI_s e with ⟨q1, e⟩ | ⟨q1, e⟩
  · refine zF_blk (m := []) (d := 1) (b := B159_10) (gs := [¬ v1 = 60]) (c' := (17, [some (0, v0), some (0, v1), some (0, v2)], [], (h, hm, o))) K159_10 rfl ⟨q1, trivial⟩ ?_
    rcases zI_s e with ⟨q2, e⟩ | ⟨q2, e⟩
    · refine zF_blk (m := []) (d := 1) (b := B159_6) (gs := [¬ v1 = 62]) (c' := (36, [some (0, v0), some (0, v1), some (0, v2)], [], (h, hm, o))) K159_6 rfl ⟨q2, trivial⟩ ?_
      rcases zI_s e with ⟨q3, e⟩ | ⟨q3, e⟩
      · refine zF_blk (m := []) (d := 1) (b := B159_2) (gs := [¬ v0 = v2]) (c' := (45, [some (0, v0), some (0, v1), some (0, v2)], [], (h, hm, o))) K159_2 rfl ⟨q3, trivial⟩ ?_
        refine zF_blk (m := []) (d := 0) (b := B159_0) (gs := []) (c' := (46, [some (0, v0), some (0, v1), some (0, v2)], [(0, 0)], (h, hm, o))) K159_0 rfl trivial ?_
        obtain rfl := Option.some.inj e
        exact zF_rb (by decide +kernel) (Or.inl rfl)
      · refine zF_blk (m := []) (d := 0) (b := B159_2) (gs := [¬ (¬ v0 = v2)]) (c' := (41, [some (0, v0), some (0, v1), some (0, v2)], [], (h, hm, o))) K159_2 rfl ⟨q3, trivial⟩ ?_
        refine zF_blk (m := []) (d := 0) (b := B159_1) (gs := []) (c' := (46, [some (0, v0), some (0, v1), some (0, v2)], [(0, 1)], (h, hm, o))) K159_1 rfl trivial ?_
        obtain rfl := Option.some.inj e
        exact zF_rb (by decide +kernel) (Or.inr rfl)
    · refine zF_blk (m := []) (d := 0) (b := B159_6) (gs := [¬ (¬ v1 = 62)]) (c' := (23, [some (0, v0), some (0, v1), some (0, v2)], [], (h, hm, o))) K159_6 rfl ⟨q2, trivial⟩ ?_
      rcases zI_s e with ⟨q4, e⟩ | ⟨q4, e⟩
      · refine zF_blk (m := []) (d := 1) (b := B159_5) (gs := [v0 ≤ v2]) (c' := (32, [some (0, v0), some (0, v1), some (0, v2)], [], (h, hm, o))) K159_5 rfl ⟨q4, trivial⟩ ?_
        refine zF_blk (m := []) (d := 0) (b := B159_3) (gs := []) (c' := (46, [some (0, v0), some (0, v1), some (0, v2)], [(0, 0)], (h, hm, o))) K159_3 rfl trivial ?_
        obtain rfl := Option.some.inj e
        exact zF_rb (by decide +kernel) (Or.inl rfl)
      · refine zF_blk (m := []) (d := 0) (b := B159_5) (gs := [¬ (v0 ≤ v2)]) (c' := (28, [some (0, v0), some (0, v1), some (0, v2)], [], (h, hm, o))) K159_5 rfl ⟨q4, trivial⟩ ?_
        refine zF_blk (m := []) (d := 0) (b := B159_4) (gs := []) (c' := (46, [some (0, v0), some (0, v1), some (0, v2)], [(0, 1)], (h, hm, o))) K159_4 rfl trivial ?_
        obtain rfl := Option.some.inj e
        exact zF_rb (by decide +kernel) (Or.inr rfl)
  · refine zF_blk (m := []) (d := 0) (b := B159_10) (gs := [¬ (¬ v1 = 60)]) (c' := (6, [some (0, v0), some (0, v1), some (0, v2)], [], (h, hm, o))) K159_10 rfl ⟨q1, trivial⟩ ?_
    rcases zI_s e with ⟨q5, e⟩ | ⟨q5, e⟩
    · refine zF_blk (m := []) (d := 1) (b := B159_9) (gs := [v2 ≤ v0]) (c' := (15, [some (0, v0), some (0, v1), some (0, v2)], [], (h, hm, o))) K159_9 rfl ⟨q5, trivial⟩ ?_
      refine zF_blk (m := []) (d := 0) (b := B159_7) (gs := []) (c' := (16, [some (0, v0), some (0, v1), some (0, v2)], [(0, 0)], (h, hm, o))) K159_7 rfl trivial ?_
      obtain rfl := Option.some.inj e
      exact zF_rb (by decide +kernel) (Or.inl rfl)
    · refine zF_blk (m := []) (d := 0) (b := B159_9) (gs := [¬ (v2 ≤ v0)]) (c' := (11, [some (0, v0), some (0, v1), some (0, v2)], [], (h, hm, o))) K159_9 rfl ⟨q5, trivial⟩ ?_
      refine zF_blk (m := []) (d := 0) (b := B159_8) (gs := []) (c' := (16, [some (0, v0), some (0, v1), some (0, v2)], [(0, 1)], (h, hm, o))) K159_8 rfl trivial ?_
      obtain rfl := Option.some.inj e
      exact zF_rb (by decide +kernel) (Or.inr rfl)
