/-! Functions of the methods, by wip/gen/lift.py. -/
def B266_0 : List zRow := [(0, .iconst 0, 1, (0, 0, 0)), (1, .istore_n 1, 1, (0, 0, 0))]
theorem K266_0 : zRk 266 B266_0 = true := by decide +kernel
def B266_1 : List zRow := [(58, .iconst 1, 1, (0, 0, 0))]
theorem K266_1 : zRk 266 B266_1 = true := by decide +kernel
def B266_2 : List zRow := [(50, .iconst 0, 1, (0, 0, 0))]
theorem K266_2 : zRk 266 B266_2 = true := by decide +kernel
def B266_3 : List zRow := [(52, .iinc 1 1, 3, (0, 0, 0)), (55, .goto (-53), 3, (0, 0, 0))]
theorem K266_3 : zRk 266 B266_3 = true := by decide +kernel
def B266_4 : List zRow := [(30, .aload_n 0, 1, (0, 0, 0)), (31, .getfield 57, 3, (12, 30, 5242906)), (34, .aload_n 0, 1, (0, 0, 0)), (35, .getfield 45, 3, (12, 26, 5242906)), (38, .iload_n 1, 1, (0, 0, 0)), (39, .iaload, 1, (0, 0, 0)), (40, .iaload, 1, (0, 0, 0)), (41, .aload_n 0, 1, (0, 0, 0)), (42, .getfield 48, 3, (12, 27, 5242906)), (45, .iload_n 1, 1, (0, 0, 0)), (46, .iaload, 1, (0, 0, 0)), (47, .if_icmp .eq 5, 3, (0, 0, 0))]
theorem K266_4 : zRk 266 B266_4 = true := by decide +kernel
def B266_5 : List zRow := [(10, .aload_n 0, 1, (0, 0, 0)), (11, .getfield 66, 3, (12, 33, 5242906)), (14, .aload_n 0, 1, (0, 0, 0)), (15, .getfield 45, 3, (12, 26, 5242906)), (18, .iload_n 1, 1, (0, 0, 0)), (19, .iaload, 1, (0, 0, 0)), (20, .iaload, 1, (0, 0, 0)), (21, .aload_n 0, 1, (0, 0, 0)), (22, .getfield 51, 3, (12, 28, 5242906)), (25, .iload_n 1, 1, (0, 0, 0)), (26, .iaload, 1, (0, 0, 0)), (27, .if_icmp .ne 23, 3, (0, 0, 0))]
theorem K266_5 : zRk 266 B266_5 = true := by decide +kernel
def B266_6 : List zRow := [(2, .iload_n 1, 1, (0, 0, 0)), (3, .aload_n 0, 1, (0, 0, 0)), (4, .getfield 345, 3, (12, 34, 0)), (7, .if_icmp .ge 51, 3, (0, 0, 0))]
theorem K266_6 : zRk 266 B266_6 = true := by decide +kernel
def F266_0 (h : zHM) : Nat → Int → Option Int
  | 0, _ => none
  | n + 1, v1 => if (h 34 0) ≤ v1 then some 1 else zG (0 ≤ v1 ∧ v1 < 6) (zG (0 ≤ (h 26 v1) ∧ (h 26 v1) < 6) (zG (0 ≤ v1 ∧ v1 < 6) (if ¬ (h 33 (h 26 v1)) = (h 28 v1) then some 0 else zG (0 ≤ v1 ∧ v1 < 6) (zG (0 ≤ (h 26 v1) ∧ (h 26 v1) < 6) (zG (0 ≤ v1 ∧ v1 < 6) (if (h 30 (h 26 v1)) = (h 27 v1) then (F266_0 h n) (wadd v1 1) else some 0))))))
set_option maxRecDepth 100000 in
theorem T266_0 {spec : zRn zH2} {hc : zHC} {o : Int → Int} {d : Nat} (hd : 0 ≤ d) (h : zHM) : ∀ (n : Nat) (v1 : Int) (v : Int), F266_0 h n v1 = some v → zFin 0 (fun _ => 0) (zRu2 spec d) 266 (some (0, v)) (hc, h, o) (2, [some (22, 0), some (0, v1)], [], (hc, h, o)) := by
  intro n
  induction n with
  | zero => intro v1 v e; unfold F266_0 at e; cases e
  | succ n hk0 =>
    intro v1 v e
    unfold F266_0 at e
    rcases zI_s e with ⟨q1, e⟩ | ⟨q1, e⟩
    · refine zF_blk (m := []) (d := 1) (b := B266_6) (gs := [(h 34 0) ≤ v1]) (c' := (58, [some (22, 0), some (0, v1)], [], (hc, h, o))) K266_6 rfl ⟨q1, trivial⟩ ?_
      refine zF_blk (m := []) (d := 0) (b := B266_1) (gs := []) (c' := (59, [some (22, 0), some (0, v1)], [(0, 1)], (hc, h, o))) K266_1 rfl trivial ?_
      obtain rfl := Option.some.inj e
      exact zF_rb (by decide +kernel) (Or.inr rfl)
    · refine zF_blk (m := []) (d := 0) (b := B266_6) (gs := [¬ ((h 34 0) ≤ v1)]) (c' := (10, [some (22, 0), some (0, v1)], [], (hc, h, o))) K266_6 rfl ⟨q1, trivial⟩ ?_
      obtain ⟨q2, e⟩ := zG_s e
      obtain ⟨q3, e⟩ := zG_s e
      obtain ⟨q2, e⟩ := zG_s e
      rcases zI_s e with ⟨q4, e⟩ | ⟨q4, e⟩
      · refine zF_blk (m := []) (d := 1) (b := B266_5) (gs := [0 ≤ v1 ∧ v1 < 6, 0 ≤ (h 26 v1) ∧ (h 26 v1) < 6, 0 ≤ v1 ∧ v1 < 6, ¬ (h 33 (h 26 v1)) = (h 28 v1)]) (c' := (50, [some (22, 0), some (0, v1)], [], (hc, h, o))) K266_5 rfl ⟨q2, q3, q2, q4, trivial⟩ ?_
        refine zF_blk (m := []) (d := 0) (b := B266_2) (gs := []) (c' := (51, [some (22, 0), some (0, v1)], [(0, 0)], (hc, h, o))) K266_2 rfl trivial ?_
        obtain rfl := Option.some.inj e
        exact zF_rb (by decide +kernel) (Or.inl rfl)
      · refine zF_blk (m := []) (d := 0) (b := B266_5) (gs := [0 ≤ v1 ∧ v1 < 6, 0 ≤ (h 26 v1) ∧ (h 26 v1) < 6, 0 ≤ v1 ∧ v1 < 6, ¬ (¬ (h 33 (h 26 v1)) = (h 28 v1))]) (c' := (30, [some (22, 0), some (0, v1)], [], (hc, h, o))) K266_5 rfl ⟨q2, q3, q2, q4, trivial⟩ ?_
        obtain ⟨q5, e⟩ := zG_s e
        obtain ⟨q6, e⟩ := zG_s e
        obtain ⟨q5, e⟩ := zG_s e
        rcases zI_s e with ⟨q7, e⟩ | ⟨q7, e⟩
        · refine zF_blk (m := []) (d := 1) (b := B266_4) (gs := [0 ≤ v1 ∧ v1 < 6, 0 ≤ (h 26 v1) ∧ (h 26 v1) < 6, 0 ≤ v1 ∧ v1 < 6, (h 30 (h 26 v1)) = (h 27 v1)]) (c' := (52, [some (22, 0), some (0, v1)], [], (hc, h, o))) K266_4 rfl ⟨q5, q6, q5, q7, trivial⟩ ?_
          refine zF_blk (m := []) (d := 0) (b := B266_3) (gs := []) (c' := (2, [some (22, 0), some (0, (wadd v1 1))], [], (hc, h, o))) K266_3 rfl trivial ?_
          exact hk0 (wadd v1 1) _ e
        · refine zF_blk (m := []) (d := 0) (b := B266_4) (gs := [0 ≤ v1 ∧ v1 < 6, 0 ≤ (h 26 v1) ∧ (h 26 v1) < 6, 0 ≤ v1 ∧ v1 < 6, ¬ ((h 30 (h 26 v1)) = (h 27 v1))]) (c' := (50, [some (22, 0), some (0, v1)], [], (hc, h, o))) K266_4 rfl ⟨q5, q6, q5, q7, trivial⟩ ?_
          refine zF_blk (m := []) (d := 0) (b := B266_2) (gs := []) (c' := (51, [some (22, 0), some (0, v1)], [(0, 0)], (hc, h, o))) K266_2 rfl trivial ?_
          obtain rfl := Option.some.inj e
          exact zF_rb (by decide +kernel) (Or.inl rfl)
/-- EchoValeModel.allSound()Z -/
def F266 (h : zHM) : Option Int := F266_0 h zFu 0
set_option maxRecDepth 100000 in
theorem S266 {spec : zRn zH2} {hc : zHC} {o : Int → Int} {d : Nat} (hd : 1 ≤ d) (h : zHM) (v : Int) (e : F266 h = some v) : zRu2 spec d 266 [(22, 0)] (hc, h, o) (some (0, v)) (hc, h, o) := by
  refine zF_in (D := 0) (mx := 2) (L := [some (22, 0), none]) (by decide +kernel) rfl rfl hd (fun d hd => ?_)
  unfold F266 at e
  refine zF_blk (m := []) (d := 0) (b := B266_0) (gs := []) (c' := (2, [some (22, 0), some (0, 0)], [], (hc, h, o))) K266_0 rfl trivial ?_
  exact T266_0 hd h zFu 0 _ e
def B262_0 : List zRow := [(0, .aload_n 0, 1, (0, 0, 0)), (1, .iconst 0, 1, (0, 0, 0)), (2, .putfield 81, 3, (12, 0, 0)), (5, .aload_n 0, 1, (0, 0, 0))]
theorem K262_0 : zRk 262 B262_0 = true := by decide +kernel
def B262_1 : List zRow := [(14, .iconst 0, 1, (0, 0, 0)), (15, .istore_n 1, 1, (0, 0, 0)), (16, .aload_n 0, 1, (0, 0, 0)), (17, .iconst 0, 1, (0, 0, 0)), (18, .putfield 351, 3, (12, 35, 0)), (21, .iconst 0, 1, (0, 0, 0)), (22, .istore_n 2, 1, (0, 0, 0))]
theorem K262_1 : zRk 262 B262_1 = true := by decide +kernel
def B262_2 : List zRow := [(12, .iconst (-1), 1, (0, 0, 0))]
theorem K262_2 : zRk 262 B262_2 = true := by decide +kernel
def B262_3 : List zRow := [(9, .ifCond .ne 5, 3, (0, 0, 0))]
theorem K262_3 : zRk 262 B262_3 = true := by decide +kernel
def B262_4 : List zRow := [(140, .iload_n 1, 1, (0, 0, 0))]
theorem K262_4 : zRk 262 B262_4 = true := by decide +kernel
def B262_5 : List zRow := [(43, .iconst 0, 1, (0, 0, 0)), (44, .istore_n 3, 1, (0, 0, 0))]
theorem K262_5 : zRk 262 B262_5 = true := by decide +kernel
def B262_6 : List zRow := [(40, .goto 100, 3, (0, 0, 0)), (140, .iload_n 1, 1, (0, 0, 0))]
theorem K262_6 : zRk 262 B262_6 = true := by decide +kernel
def B262_7 : List zRow := [(30, .iload_n 2, 1, (0, 0, 0)), (31, .aload_n 0, 1, (0, 0, 0)), (32, .getfield 48, 3, (12, 27, 5242906)), (35, .iconst 0, 1, (0, 0, 0)), (36, .iaload, 1, (0, 0, 0)), (37, .if_icmp .lt 6, 3, (0, 0, 0))]
theorem K262_7 : zRk 262 B262_7 = true := by decide +kernel
def B262_8 : List zRow := [(23, .iload_n 2, 1, (0, 0, 0)), (24, .sipush 200, 3, (0, 0, 0)), (27, .if_icmp .gt 113, 3, (0, 0, 0))]
theorem K262_8 : zRk 262 B262_8 = true := by decide +kernel
def B262_9 : List zRow := [(134, .iinc 2 1, 3, (0, 0, 0)), (137, .goto (-114), 3, (0, 0, 0))]
theorem K262_9 : zRk 262 B262_9 = true := by decide +kernel
def B262_10 : List zRow := [(51, .iconst 1, 1, (0, 0, 0)), (52, .istore 4, 2, (0, 0, 0))]
theorem K262_10 : zRk 262 B262_10 = true := by decide +kernel
def B262_11 : List zRow := [(45, .iload_n 3, 1, (0, 0, 0)), (46, .bipush 100, 2, (0, 0, 0)), (48, .if_icmp .ge 86, 3, (0, 0, 0))]
theorem K262_11 : zRk 262 B262_11 = true := by decide +kernel
def B262_12 : List zRow := [(61, .aload_n 0, 1, (0, 0, 0)), (62, .iload_n 3, 1, (0, 0, 0))]
theorem K262_12 : zRk 262 B262_12 = true := by decide +kernel
def B262_13 : List zRow := [(69, .aload_n 0, 1, (0, 0, 0)), (70, .iload_n 3, 1, (0, 0, 0)), (71, .iload_n 2, 1, (0, 0, 0)), (72, .iload 4, 2, (0, 0, 0))]
theorem K262_13 : zRk 262 B262_13 = true := by decide +kernel
def B262_14 : List zRow := [(77, .aload_n 0, 1, (0, 0, 0))]
theorem K262_14 : zRk 262 B262_14 = true := by decide +kernel
def B262_15 : List zRow := [(93, .aload_n 0, 1, (0, 0, 0)), (94, .getfield 54, 3, (12, 29, 5243082)), (97, .iload_n 1, 1, (0, 0, 0)), (98, .sipush 1000, 3, (0, 0, 0)), (101, .iload_n 2, 1, (0, 0, 0))]
theorem K262_15 : zRk 262 B262_15 = true := by decide +kernel
def B262_16 : List zRow := [(102, .imul, 1, (0, 0, 0)), (103, .bipush 10, 2, (0, 0, 0)), (105, .iload_n 3, 1, (0, 0, 0))]
theorem K262_16 : zRk 262 B262_16 = true := by decide +kernel
def B262_17 : List zRow := [(106, .imul, 1, (0, 0, 0)), (107, .iadd, 1, (0, 0, 0)), (108, .iload 4, 2, (0, 0, 0)), (110, .iadd, 1, (0, 0, 0)), (111, .iastore, 1, (0, 0, 0)), (112, .aload_n 0, 1, (0, 0, 0)), (113, .iload_n 1, 1, (0, 0, 0)), (114, .iconst 1, 1, (0, 0, 0)), (115, .iadd, 1, (0, 0, 0)), (116, .putfield 351, 3, (12, 35, 0))]
theorem K262_17 : zRk 262 B262_17 = true := by decide +kernel
def B262_18 : List zRow := [(87, .iload_n 1, 1, (0, 0, 0)), (88, .bipush 50, 2, (0, 0, 0)), (90, .if_icmp .ge 29, 3, (0, 0, 0))]
theorem K262_18 : zRk 262 B262_18 = true := by decide +kernel
def B262_19 : List zRow := [(84, .goto 38, 3, (0, 0, 0))]
theorem K262_19 : zRk 262 B262_19 = true := by decide +kernel
def B262_20 : List zRow := [(81, .ifCond .ne 6, 3, (0, 0, 0))]
theorem K262_20 : zRk 262 B262_20 = true := by decide +kernel
def B262_21 : List zRow := [(66, .ifCond .eq 62, 3, (0, 0, 0))]
theorem K262_21 : zRk 262 B262_21 = true := by decide +kernel
def B262_22 : List zRow := [(54, .iload 4, 2, (0, 0, 0)), (56, .bipush 9, 2, (0, 0, 0)), (58, .if_icmp .gt 70, 3, (0, 0, 0))]
theorem K262_22 : zRk 262 B262_22 = true := by decide +kernel
def B262_23 : List zRow := [(122, .iinc 4 1, 3, (0, 0, 0)), (125, .goto (-71), 3, (0, 0, 0))]
theorem K262_23 : zRk 262 B262_23 = true := by decide +kernel
def B262_24 : List zRow := [(119, .iinc 1 1, 3, (0, 0, 0))]
theorem K262_24 : zRk 262 B262_24 = true := by decide +kernel
def B262_25 : List zRow := [(128, .iinc 3 1, 3, (0, 0, 0)), (131, .goto (-86), 3, (0, 0, 0))]
theorem K262_25 : zRk 262 B262_25 = true := by decide +kernel
def F262_3 (k0 : Int → Int → zHM → Option (Int × zHM)) (k1 : Int → Int → Int → zHM → Option (Int × zHM)) (v1 : Int) (v2 : Int) (v3 : Int) (h : zHM) : Option (Int × zHM) := k1 v1 v2 (wadd v3 1) h
set_option maxRecDepth 100000 in
theorem T262_3 {spec : zRn zH2} {hc : zHC} {o : Int → Int} {d : Nat} (hd : 4 ≤ d) (k0 : Int → Int → zHM → Option (Int × zHM)) (hk0 : ∀ (v1 : Int) (v2 : Int) (h : zHM) (v : (Int × zHM)), k0 v1 v2 h = some v → zFin 0 (fun _ => 0) (zRu2 spec d) 262 (some (0, v.1)) (hc, v.2, o) (23, [some (22, 0), some (0, v1), some (0, v2), none, none], [], (hc, h, o))) (k1 : Int → Int → Int → zHM → Option (Int × zHM)) (hk1 : ∀ (v1 : Int) (v2 : Int) (v3 : Int) (h : zHM) (v : (Int × zHM)), k1 v1 v2 v3 h = some v → zFin 0 (fun _ => 0) (zRu2 spec d) 262 (some (0, v.1)) (hc, v.2, o) (45, [some (22, 0), some (0, v1), some (0, v2), some (0, v3), none], [], (hc, h, o))) (v1 : Int) (v2 : Int) (v3 : Int) (h : zHM) (v : (Int × zHM)) (e : F262_3 k0 k1 v1 v2 v3 h = some v) : zFin 0 (fun _ => 0) (zRu2 spec d) 262 (some (0, v.1)) (hc, v.2, o) (128, [some (22, 0), some (0, v1), some (0, v2), some (0, v3), none], [], (hc, h, o)) := by
  unfold F262_3 at e
  refine zF_blk (m := []) (d := 0) (b := B262_25) (gs := []) (c' := (45, [some (22, 0), some (0, v1), some (0, v2), some (0, (wadd v3 1)), none], [], (hc, h, o))) K262_25 rfl trivial ?_
  exact hk1 v1 v2 (wadd v3 1) h _ e
def F262_5 (k0 : Int → Int → zHM → Option (Int × zHM)) (k1 : Int → Int → Int → zHM → Option (Int × zHM)) (k2 : Int → Int → Int → Int → zHM → Option (Int × zHM)) (v1 : Int) (v2 : Int) (v3 : Int) (v4 : Int) (h : zHM) : Option (Int × zHM) := k2 v1 v2 v3 (wadd v4 1) h
set_option maxRecDepth 100000 in
theorem T262_5 {spec : zRn zH2} {hc : zHC} {o : Int → Int} {d : Nat} (hd : 4 ≤ d) (k0 : Int → Int → zHM → Option (Int × zHM)) (hk0 : ∀ (v1 : Int) (v2 : Int) (h : zHM) (v : (Int × zHM)), k0 v1 v2 h = some v → zFin 0 (fun _ => 0) (zRu2 spec d) 262 (some (0, v.1)) (hc, v.2, o) (23, [some (22, 0), some (0, v1), some (0, v2), none, none], [], (hc, h, o))) (k1 : Int → Int → Int → zHM → Option (Int × zHM)) (hk1 : ∀ (v1 : Int) (v2 : Int) (v3 : Int) (h : zHM) (v : (Int × zHM)), k1 v1 v2 v3 h = some v → zFin 0 (fun _ => 0) (zRu2 spec d) 262 (some (0, v.1)) (hc, v.2, o) (45, [some (22, 0), some (0, v1), some (0, v2), some (0, v3), none], [], (hc, h, o))) (k2 : Int → Int → Int → Int → zHM → Option (Int × zHM)) (hk2 : ∀ (v1 : Int) (v2 : Int) (v3 : Int) (v4 : Int) (h : zHM) (v : (Int × zHM)), k2 v1 v2 v3 v4 h = some v → zFin 0 (fun _ => 0) (zRu2 spec d) 262 (some (0, v.1)) (hc, v.2, o) (54, [some (22, 0), some (0, v1), some (0, v2), some (0, v3), some (0, v4)], [], (hc, h, o))) (v1 : Int) (v2 : Int) (v3 : Int) (v4 : Int) (h : zHM) (v : (Int × zHM)) (e : F262_5 k0 k1 k2 v1 v2 v3 v4 h = some v) : zFin 0 (fun _ => 0) (zRu2 spec d) 262 (some (0, v.1)) (hc, v.2, o) (122, [some (22, 0), some (0, v1), some (0, v2), some (0, v3), some (0, v4)], [], (hc, h, o)) := by
  unfold F262_5 at e
  refine zF_blk (m := []) (d := 0) (b := B262_23) (gs := []) (c' := (54, [some (22, 0), some (0, v1), some (0, v2), some (0, v3), some (0, (wadd v4 1))], [], (hc, h, o))) K262_23 rfl trivial ?_
  exact hk2 v1 v2 v3 (wadd v4 1) h _ e
def F262_4 (k0 : Int → Int → zHM → Option (Int × zHM)) (k1 : Int → Int → Int → zHM → Option (Int × zHM)) (k2 : Int → Int → Int → Int → zHM → Option (Int × zHM)) (v1 : Int) (v2 : Int) (v3 : Int) (v4 : Int) (h : zHM) : Option (Int × zHM) := F262_5 k0 k1 k2 (wadd v1 1) v2 v3 v4 h
set_option maxRecDepth 100000 in
theorem T262_4 {spec : zRn zH2} {hc : zHC} {o : Int → Int} {d : Nat} (hd : 4 ≤ d) (k0 : Int → Int → zHM → Option (Int × zHM)) (hk0 : ∀ (v1 : Int) (v2 : Int) (h : zHM) (v : (Int × zHM)), k0 v1 v2 h = some v → zFin 0 (fun _ => 0) (zRu2 spec d) 262 (some (0, v.1)) (hc, v.2, o) (23, [some (22, 0), some (0, v1), some (0, v2), none, none], [], (hc, h, o))) (k1 : Int → Int → Int → zHM → Option (Int × zHM)) (hk1 : ∀ (v1 : Int) (v2 : Int) (v3 : Int) (h : zHM) (v : (Int × zHM)), k1 v1 v2 v3 h = some v → zFin 0 (fun _ => 0) (zRu2 spec d) 262 (some (0, v.1)) (hc, v.2, o) (45, [some (22, 0), some (0, v1), some (0, v2), some (0, v3), none], [], (hc, h, o))) (k2 : Int → Int → Int → Int → zHM → Option (Int × zHM)) (hk2 : ∀ (v1 : Int) (v2 : Int) (v3 : Int) (v4 : Int) (h : zHM) (v : (Int × zHM)), k2 v1 v2 v3 v4 h = some v → zFin 0 (fun _ => 0) (zRu2 spec d) 262 (some (0, v.1)) (hc, v.2, o) (54, [some (22, 0), some (0, v1), some (0, v2), some (0, v3), some (0, v4)], [], (hc, h, o))) (v1 : Int) (v2 : Int) (v3 : Int) (v4 : Int) (h : zHM) (v : (Int × zHM)) (e : F262_4 k0 k1 k2 v1 v2 v3 v4 h = some v) : zFin 0 (fun _ => 0) (zRu2 spec d) 262 (some (0, v.1)) (hc, v.2, o) (119, [some (22, 0), some (0, v1), some (0, v2), some (0, v3), some (0, v4)], [], (hc, h, o)) := by
  unfold F262_4 at e
  refine zF_blk (m := []) (d := 0) (b := B262_24) (gs := []) (c' := (122, [some (22, 0), some (0, (wadd v1 1)), some (0, v2), some (0, v3), some (0, v4)], [], (hc, h, o))) K262_24 rfl trivial ?_
  exact T262_5 hd k0 hk0 k1 hk1 k2 hk2 (wadd v1 1) v2 v3 v4 h _ e
def F262_2 (k0 : Int → Int → zHM → Option (Int × zHM)) (k1 : Int → Int → Int → zHM → Option (Int × zHM)) : Nat → Int → Int → Int → Int → zHM → Option (Int × zHM)
  | 0, _, _, _, _, _ => none
  | n + 1, v1, v2, v3, v4, h => if 9 < v4 then F262_3 k0 k1 v1 v2 v3 h else (F224 v3 h).bind fun r1 => if r1 = 0 then F262_3 k0 k1 v1 v2 v3 h else (F264 v3 v2 v4 h).bind fun r2 => (F266 r2).bind fun r3 => if ¬ r3 = 0 then if 50 ≤ v1 then F262_4 k0 k1 (F262_2 k0 k1 n) v1 v2 v3 v4 r2 else zG (0 ≤ v1 ∧ v1 < 50) (F262_4 k0 k1 (F262_2 k0 k1 n) v1 v2 v3 v4 (mset (mset r2 29 v1 (wadd (wadd (wmul 1000 v2) (wmul 10 v3)) v4)) 35 0 (wadd v1 1))) else F262_5 k0 k1 (F262_2 k0 k1 n) v1 v2 v3 v4 r2
set_option maxRecDepth 100000 in
theorem T262_2 {spec : zRn zH2} {hc : zHC} {o : Int → Int} {d : Nat} (hd : 4 ≤ d) (k0 : Int → Int → zHM → Option (Int × zHM)) (hk0 : ∀ (v1 : Int) (v2 : Int) (h : zHM) (v : (Int × zHM)), k0 v1 v2 h = some v → zFin 0 (fun _ => 0) (zRu2 spec d) 262 (some (0, v.1)) (hc, v.2, o) (23, [some (22, 0), some (0, v1), some (0, v2), none, none], [], (hc, h, o))) (k1 : Int → Int → Int → zHM → Option (Int × zHM)) (hk1 : ∀ (v1 : Int) (v2 : Int) (v3 : Int) (h : zHM) (v : (Int × zHM)), k1 v1 v2 v3 h = some v → zFin 0 (fun _ => 0) (zRu2 spec d) 262 (some (0, v.1)) (hc, v.2, o) (45, [some (22, 0), some (0, v1), some (0, v2), some (0, v3), none], [], (hc, h, o))) : ∀ (n : Nat) (v1 : Int) (v2 : Int) (v3 : Int) (v4 : Int) (h : zHM) (v : (Int × zHM)), F262_2 k0 k1 n v1 v2 v3 v4 h = some v → zFin 0 (fun _ => 0) (zRu2 spec d) 262 (some (0, v.1)) (hc, v.2, o) (54, [some (22, 0), some (0, v1), some (0, v2), some (0, v3), some (0, v4)], [], (hc, h, o)) := by
  intro n
  induction n with
  | zero => intro v1 v2 v3 v4 h v e; unfold F262_2 at e; cases e
  | succ n hk2 =>
    intro v1 v2 v3 v4 h v e
    unfold F262_2 at e
    rcases zI_s e with ⟨q1, e⟩ | ⟨q1, e⟩
    · refine zF_blk (m := []) (d := 1) (b := B262_22) (gs := [9 < v4]) (c' := (128, [some (22, 0), some (0, v1), some (0, v2), some (0, v3), some (0, v4)], [], (hc, h, o))) K262_22 rfl ⟨q1, trivial⟩ ?_
      refine zF_blk (m := [true, true, true, true, false]) (d := 0) (b := []) (gs := []) (c' := (128, [some (22, 0), some (0, v1), some (0, v2), some (0, v3), none], [], (hc, h, o))) rfl rfl trivial ?_
      exact T262_3 hd k0 hk0 k1 hk1 v1 v2 v3 h _ e
    · refine zF_blk (m := []) (d := 0) (b := B262_22) (gs := [¬ (9 < v4)]) (c' := (61, [some (22, 0), some (0, v1), some (0, v2), some (0, v3), some (0, v4)], [], (hc, h, o))) K262_22 rfl ⟨q1, trivial⟩ ?_
      obtain ⟨r1, q2, e⟩ := zB_s e
      refine zF_blk (m := []) (d := 0) (b := B262_12) (gs := []) (c' := (63, [some (22, 0), some (0, v1), some (0, v2), some (0, v3), some (0, v4)], [(0, v3), (22, 0)], (hc, h, o))) K262_12 rfl trivial ?_
      refine zF_call (k := 224) (cl := 12) (n := 2) (i := .invokevirtual 305) (args := [(22, 0), (0, v3)]) (rest := []) (g1 := (hc, h, o)) (r1 := some (0, r1)) (by decide +kernel) rfl rfl rfl (st' := [(0, r1)]) rfl (S224 (Nat.le_trans (by decide) hd) v3 h _ q2) ?_
      rcases zI_s e with ⟨q3, e⟩ | ⟨q3, e⟩
      · refine zF_blk (m := []) (d := 1) (b := B262_21) (gs := [r1 = 0]) (c' := (128, [some (22, 0), some (0, v1), some (0, v2), some (0, v3), some (0, v4)], [], (hc, h, o))) K262_21 rfl ⟨q3, trivial⟩ ?_
        refine zF_blk (m := [true, true, true, true, false]) (d := 0) (b := []) (gs := []) (c' := (128, [some (22, 0), some (0, v1), some (0, v2), some (0, v3), none], [], (hc, h, o))) rfl rfl trivial ?_
        exact T262_3 hd k0 hk0 k1 hk1 v1 v2 v3 h _ e
      · refine zF_blk (m := []) (d := 0) (b := B262_21) (gs := [¬ (r1 = 0)]) (c' := (69, [some (22, 0), some (0, v1), some (0, v2), some (0, v3), some (0, v4)], [], (hc, h, o))) K262_21 rfl ⟨q3, trivial⟩ ?_
        obtain ⟨r2, q4, e⟩ := zB_s e
        refine zF_blk (m := []) (d := 0) (b := B262_13) (gs := []) (c' := (74, [some (22, 0), some (0, v1), some (0, v2), some (0, v3), some (0, v4)], [(0, v4), (0, v2), (0, v3), (22, 0)], (hc, h, o))) K262_13 rfl trivial ?_
        refine zF_call (k := 264) (cl := 12) (n := 4) (i := .invokevirtual 354) (args := [(22, 0), (0, v3), (0, v2), (0, v4)]) (rest := []) (g1 := (hc, r2, o)) (r1 := none) (by decide +kernel) rfl rfl rfl (st' := []) rfl (S264 (Nat.le_trans (by decide) hd) v3 v2 v4 h _ q4) ?_
        obtain ⟨r3, q5, e⟩ := zB_s e
        refine zF_blk (m := []) (d := 0) (b := B262_14) (gs := []) (c' := (78, [some (22, 0), some (0, v1), some (0, v2), some (0, v3), some (0, v4)], [(22, 0)], (hc, r2, o))) K262_14 rfl trivial ?_
        refine zF_call (k := 266) (cl := 12) (n := 1) (i := .invokevirtual 357) (args := [(22, 0)]) (rest := []) (g1 := (hc, r2, o)) (r1 := some (0, r3)) (by decide +kernel) rfl rfl rfl (st' := [(0, r3)]) rfl (S266 (Nat.le_trans (by decide) hd)  r2 _ q5) ?_
        rcases zI_s e with ⟨q6, e⟩ | ⟨q6, e⟩
        · refine zF_blk (m := []) (d := 1) (b := B262_20) (gs := [¬ r3 = 0]) (c' := (87, [some (22, 0), some (0, v1), some (0, v2), some (0, v3), some (0, v4)], [], (hc, r2, o))) K262_20 rfl ⟨q6, trivial⟩ ?_
          rcases zI_s e with ⟨q7, e⟩ | ⟨q7, e⟩
          · refine zF_blk (m := []) (d := 1) (b := B262_18) (gs := [50 ≤ v1]) (c' := (119, [some (22, 0), some (0, v1), some (0, v2), some (0, v3), some (0, v4)], [], (hc, r2, o))) K262_18 rfl ⟨q7, trivial⟩ ?_
            exact T262_4 hd k0 hk0 k1 hk1 (F262_2 k0 k1 n) hk2 v1 v2 v3 v4 r2 _ e
          · refine zF_blk (m := []) (d := 0) (b := B262_18) (gs := [¬ (50 ≤ v1)]) (c' := (93, [some (22, 0), some (0, v1), some (0, v2), some (0, v3), some (0, v4)], [], (hc, r2, o))) K262_18 rfl ⟨q7, trivial⟩ ?_
            obtain ⟨q8, e⟩ := zG_s e
            refine zF_blk (m := []) (d := 0) (b := B262_15) (gs := []) (c' := (102, [some (22, 0), some (0, v1), some (0, v2), some (0, v3), some (0, v4)], [(0, v2), (0, 1000), (0, v1), (1342230277, 0)], (hc, r2, o))) K262_15 rfl trivial ?_
            refine zF_blk (m := []) (d := 0) (b := B262_16) (gs := []) (c' := (106, [some (22, 0), some (0, v1), some (0, v2), some (0, v3), some (0, v4)], [(0, v3), (0, 10), (0, (wmul 1000 v2)), (0, v1), (1342230277, 0)], (hc, r2, o))) K262_16 rfl trivial ?_
            refine zF_blk (m := []) (d := 0) (b := B262_17) (gs := [0 ≤ v1 ∧ v1 < 50]) (c' := (119, [some (22, 0), some (0, v1), some (0, v2), some (0, v3), some (0, v4)], [], (hc, (mset (mset r2 29 v1 (wadd (wadd (wmul 1000 v2) (wmul 10 v3)) v4)) 35 0 (wadd v1 1)), o))) K262_17 rfl ⟨q8, trivial⟩ ?_
            exact T262_4 hd k0 hk0 k1 hk1 (F262_2 k0 k1 n) hk2 v1 v2 v3 v4 (mset (mset r2 29 v1 (wadd (wadd (wmul 1000 v2) (wmul 10 v3)) v4)) 35 0 (wadd v1 1)) _ e
        · refine zF_blk (m := []) (d := 0) (b := B262_20) (gs := [¬ (¬ r3 = 0)]) (c' := (84, [some (22, 0), some (0, v1), some (0, v2), some (0, v3), some (0, v4)], [], (hc, r2, o))) K262_20 rfl ⟨q6, trivial⟩ ?_
          refine zF_blk (m := []) (d := 0) (b := B262_19) (gs := []) (c' := (122, [some (22, 0), some (0, v1), some (0, v2), some (0, v3), some (0, v4)], [], (hc, r2, o))) K262_19 rfl trivial ?_
          exact T262_5 hd k0 hk0 k1 hk1 (F262_2 k0 k1 n) hk2 v1 v2 v3 v4 r2 _ e
def F262_1 (k0 : Int → Int → zHM → Option (Int × zHM)) : Nat → Int → Int → Int → zHM → Option (Int × zHM)
  | 0, _, _, _, _ => none
  | n + 1, v1, v2, v3, h => if 100 ≤ v3 then k0 v1 (wadd v2 1) h else F262_2 k0 (F262_1 k0 n) zFu v1 v2 v3 1 h
set_option maxRecDepth 100000 in
theorem T262_1 {spec : zRn zH2} {hc : zHC} {o : Int → Int} {d : Nat} (hd : 4 ≤ d) (k0 : Int → Int → zHM → Option (Int × zHM)) (hk0 : ∀ (v1 : Int) (v2 : Int) (h : zHM) (v : (Int × zHM)), k0 v1 v2 h = some v → zFin 0 (fun _ => 0) (zRu2 spec d) 262 (some (0, v.1)) (hc, v.2, o) (23, [some (22, 0), some (0, v1), some (0, v2), none, none], [], (hc, h, o))) : ∀ (n : Nat) (v1 : Int) (v2 : Int) (v3 : Int) (h : zHM) (v : (Int × zHM)), F262_1 k0 n v1 v2 v3 h = some v → zFin 0 (fun _ => 0) (zRu2 spec d) 262 (some (0, v.1)) (hc, v.2, o) (45, [some (22, 0), some (0, v1), some (0, v2), some (0, v3), none], [], (hc, h, o)) := by
  intro n
  induction n with
  | zero => intro v1 v2 v3 h v e; unfold F262_1 at e; cases e
  | succ n hk1 =>
    intro v1 v2 v3 h v e
    unfold F262_1 at e
    rcases zI_s e with ⟨q1, e⟩ | ⟨q1, e⟩
    · refine zF_blk (m := []) (d := 1) (b := B262_11) (gs := [100 ≤ v3]) (c' := (134, [some (22, 0), some (0, v1), some (0, v2), some (0, v3), none], [], (hc, h, o))) K262_11 rfl ⟨q1, trivial⟩ ?_
      refine zF_blk (m := []) (d := 0) (b := B262_9) (gs := []) (c' := (23, [some (22, 0), some (0, v1), some (0, (wadd v2 1)), some (0, v3), none], [], (hc, h, o))) K262_9 rfl trivial ?_
      refine zF_blk (m := [true, true, true, false, false]) (d := 0) (b := []) (gs := []) (c' := (23, [some (22, 0), some (0, v1), some (0, (wadd v2 1)), none, none], [], (hc, h, o))) rfl rfl trivial ?_
      exact hk0 v1 (wadd v2 1) h _ e
    · refine zF_blk (m := []) (d := 0) (b := B262_11) (gs := [¬ (100 ≤ v3)]) (c' := (51, [some (22, 0), some (0, v1), some (0, v2), some (0, v3), none], [], (hc, h, o))) K262_11 rfl ⟨q1, trivial⟩ ?_
      refine zF_blk (m := []) (d := 0) (b := B262_10) (gs := []) (c' := (54, [some (22, 0), some (0, v1), some (0, v2), some (0, v3), some (0, 1)], [], (hc, h, o))) K262_10 rfl trivial ?_
      exact T262_2 hd k0 hk0 (F262_1 k0 n) hk1 zFu v1 v2 v3 1 h _ e
def F262_0 : Nat → Int → Int → zHM → Option (Int × zHM)
  | 0, _, _, _ => none
  | n + 1, v1, v2, h => if 200 < v2 then some (v1, h) else if v2 < (h 27 0) then F262_1 (F262_0 n) zFu v1 v2 0 h else some (v1, h)
set_option maxRecDepth 100000 in
theorem T262_0 {spec : zRn zH2} {hc : zHC} {o : Int → Int} {d : Nat} (hd : 4 ≤ d) : ∀ (n : Nat) (v1 : Int) (v2 : Int) (h : zHM) (v : (Int × zHM)), F262_0 n v1 v2 h = some v → zFin 0 (fun _ => 0) (zRu2 spec d) 262 (some (0, v.1)) (hc, v.2, o) (23, [some (22, 0), some (0, v1), some (0, v2), none, none], [], (hc, h, o)) := by
  intro n
  induction n with
  | zero => intro v1 v2 h v e; unfold F262_0 at e; cases e
  | succ n hk0 =>
    intro v1 v2 h v e
    unfold F262_0 at e
    rcases zI_s e with ⟨q1, e⟩ | ⟨q1, e⟩
    · refine zF_blk (m := []) (d := 1) (b := B262_8) (gs := [200 < v2]) (c' := (140, [some (22, 0), some (0, v1), some (0, v2), none, none], [], (hc, h, o))) K262_8 rfl ⟨q1, trivial⟩ ?_
      refine zF_blk (m := []) (d := 0) (b := B262_4) (gs := []) (c' := (141, [some (22, 0), some (0, v1), some (0, v2), none, none], [(0, v1)], (hc, h, o))) K262_4 rfl trivial ?_
      exact zF_riM (by decide +kernel) e
    · refine zF_blk (m := []) (d := 0) (b := B262_8) (gs := [¬ (200 < v2)]) (c' := (30, [some (22, 0), some (0, v1), some (0, v2), none, none], [], (hc, h, o))) K262_8 rfl ⟨q1, trivial⟩ ?_
      rcases zI_s e with ⟨q2, e⟩ | ⟨q2, e⟩
      · refine zF_blk (m := []) (d := 1) (b := B262_7) (gs := [0 ≤ 0 ∧ 0 < 6, v2 < (h 27 0)]) (c' := (43, [some (22, 0), some (0, v1), some (0, v2), none, none], [], (hc, h, o))) K262_7 rfl ⟨by decide, q2, trivial⟩ ?_
        refine zF_blk (m := []) (d := 0) (b := B262_5) (gs := []) (c' := (45, [some (22, 0), some (0, v1), some (0, v2), some (0, 0), none], [], (hc, h, o))) K262_5 rfl trivial ?_
        exact T262_1 hd (F262_0 n) hk0 zFu v1 v2 0 h _ e
      · refine zF_blk (m := []) (d := 0) (b := B262_7) (gs := [0 ≤ 0 ∧ 0 < 6, ¬ (v2 < (h 27 0))]) (c' := (40, [some (22, 0), some (0, v1), some (0, v2), none, none], [], (hc, h, o))) K262_7 rfl ⟨by decide, q2, trivial⟩ ?_
        refine zF_blk (m := []) (d := 0) (b := B262_6) (gs := []) (c' := (141, [some (22, 0), some (0, v1), some (0, v2), none, none], [(0, v1)], (hc, h, o))) K262_6 rfl trivial ?_
        exact zF_riM (by decide +kernel) e
/-- EchoValeModel.pieces()I -/
def F262 (h : zHM) : Option (Int × zHM) := (F263 (mset h 0 0 0)).bind fun r1 => if ¬ r1.1 = 0 then F262_0 zFu 0 0 (mset r1.2 35 0 0) else some ((-1), r1.2)
set_option maxRecDepth 100000 in
theorem S262 {spec : zRn zH2} {hc : zHC} {o : Int → Int} {d : Nat} (hd : 5 ≤ d) (h : zHM) (v : (Int × zHM)) (e : F262 h = some v) : zRu2 spec d 262 [(22, 0)] (hc, h, o) (some (0, v.1)) (hc, v.2, o) := by
  refine zF_in (D := 4) (mx := 5) (L := [some (22, 0), none, none, none, none]) (by decide +kernel) rfl rfl hd (fun d hd => ?_)
  unfold F262 at e
  obtain ⟨r1, q1, e⟩ := zB_s e
  refine zF_blk (m := []) (d := 0) (b := B262_0) (gs := []) (c' := (6, [some (22, 0), none, none, none, none], [(22, 0)], (hc, (mset h 0 0 0), o))) K262_0 rfl trivial ?_
  refine zF_call (k := 263) (cl := 12) (n := 1) (i := .invokevirtual 348) (args := [(22, 0)]) (rest := []) (g1 := (hc, r1.2, o)) (r1 := some (0, r1.1)) (by decide +kernel) rfl rfl rfl (st' := [(0, r1.1)]) rfl (S263 (Nat.le_trans (by decide) hd)  (mset h 0 0 0) _ q1) ?_
  rcases zI_s e with ⟨q2, e⟩ | ⟨q2, e⟩
  · refine zF_blk (m := []) (d := 1) (b := B262_3) (gs := [¬ r1.1 = 0]) (c' := (14, [some (22, 0), none, none, none, none], [], (hc, r1.2, o))) K262_3 rfl ⟨q2, trivial⟩ ?_
    refine zF_blk (m := []) (d := 0) (b := B262_1) (gs := []) (c' := (23, [some (22, 0), some (0, 0), some (0, 0), none, none], [], (hc, (mset r1.2 35 0 0), o))) K262_1 rfl trivial ?_
    exact T262_0 hd zFu 0 0 (mset r1.2 35 0 0) _ e
  · refine zF_blk (m := []) (d := 0) (b := B262_3) (gs := [¬ (¬ r1.1 = 0)]) (c' := (12, [some (22, 0), none, none, none, none], [], (hc, r1.2, o))) K262_3 rfl ⟨q2, trivial⟩ ?_
    refine zF_blk (m := []) (d := 0) (b := B262_2) (gs := []) (c' := (13, [some (22, 0), none, none, none, none], [(0, (-1))], (hc, r1.2, o))) K262_2 rfl trivial ?_
    exact zF_riM (by decide +kernel) e
def B128_0 : List zRow := [(21, .iconst (-1), 1, (0, 0, 0))]
theorem K128_0 : zRk 128 B128_0 = true := by decide +kernel
def B128_1 : List zRow := [(23, .aload_n 0, 1, (0, 0, 0)), (24, .getfield 80, 3, (11, 10, 19)), (27, .getfield 302, 3, (4, 1, 5243082)), (30, .iload_n 1, 1, (0, 0, 0)), (31, .iaload, 1, (0, 0, 0))]
theorem K128_1 : zRk 128 B128_1 = true := by decide +kernel
def B128_2 : List zRow := [(15, .iload_n 1, 1, (0, 0, 0)), (16, .bipush 50, 2, (0, 0, 0)), (18, .if_icmp .lt 5, 3, (0, 0, 0))]
theorem K128_2 : zRk 128 B128_2 = true := by decide +kernel
def B128_3 : List zRow := [(4, .iload_n 1, 1, (0, 0, 0)), (5, .aload_n 0, 1, (0, 0, 0)), (6, .getfield 80, 3, (11, 10, 19)), (9, .getfield 299, 3, (4, 0, 0)), (12, .if_icmp .ge 9, 3, (0, 0, 0))]
theorem K128_3 : zRk 128 B128_3 = true := by decide +kernel
def B128_4 : List zRow := [(0, .iload_n 1, 1, (0, 0, 0)), (1, .ifCond .lt 20, 3, (0, 0, 0))]
theorem K128_4 : zRk 128 B128_4 = true := by decide +kernel
/-- EchoVale.piece(I)I -/
def F128 (v1 : Int) (h : zHC) : Option Int := if v1 < 0 then some (-1) else if (h 256 0 0) ≤ v1 then some (-1) else if v1 < 50 then zG (0 ≤ v1 ∧ v1 < 50) (some (h 257 0 v1)) else some (-1)
set_option maxRecDepth 100000 in
theorem S128 {spec : zRn zH2} {hm : zHM} {o : Int → Int} {d : Nat} (hd : 1 ≤ d) (v1 : Int) (h : zHC) (v : Int) (e : F128 v1 h = some v) : zRu2 spec d 128 [(21, 0), (0, v1)] (h, hm, o) (some (0, v)) (h, hm, o) := by
  refine zF_in (D := 0) (mx := 2) (L := [some (21, 0), some (0, v1)]) (by decide +kernel) rfl rfl hd (fun d hd => ?_)
  unfold F128 at e
  rcases zI_s e with ⟨q1, e⟩ | ⟨q1, e⟩
  · refine zF_blk (m := []) (d := 1) (b := B128_4) (gs := [v1 < 0]) (c' := (21, [some (21, 0), some (0, v1)], [], (h, hm, o))) K128_4 rfl ⟨q1, trivial⟩ ?_
    refine zF_blk (m := []) (d := 0) (b := B128_0) (gs := []) (c' := (22, [some (21, 0), some (0, v1)], [(0, (-1))], (h, hm, o))) K128_0 rfl trivial ?_
    obtain rfl := Option.some.inj e
    exact zF_ri (by decide +kernel)
  · refine zF_blk (m := []) (d := 0) (b := B128_4) (gs := [¬ (v1 < 0)]) (c' := (4, [some (21, 0), some (0, v1)], [], (h, hm, o))) K128_4 rfl ⟨q1, trivial⟩ ?_
    rcases zI_s e with ⟨q2, e⟩ | ⟨q2, e⟩
    · refine zF_blk (m := []) (d := 1) (b := B128_3) (gs := [(h 256 0 0) ≤ v1]) (c' := (21, [some (21, 0), some (0, v1)], [], (h, hm, o))) K128_3 rfl ⟨q2, trivial⟩ ?_
      refine zF_blk (m := []) (d := 0) (b := B128_0) (gs := []) (c' := (22, [some (21, 0), some (0, v1)], [(0, (-1))], (h, hm, o))) K128_0 rfl trivial ?_
      obtain rfl := Option.some.inj e
      exact zF_ri (by decide +kernel)
    · refine zF_blk (m := []) (d := 0) (b := B128_3) (gs := [¬ ((h 256 0 0) ≤ v1)]) (c' := (15, [some (21, 0), some (0, v1)], [], (h, hm, o))) K128_3 rfl ⟨q2, trivial⟩ ?_
      rcases zI_s e with ⟨q3, e⟩ | ⟨q3, e⟩
      · refine zF_blk (m := []) (d := 1) (b := B128_2) (gs := [v1 < 50]) (c' := (23, [some (21, 0), some (0, v1)], [], (h, hm, o))) K128_2 rfl ⟨q3, trivial⟩ ?_
        obtain ⟨q4, e⟩ := zG_s e
        refine zF_blk (m := []) (d := 0) (b := B128_1) (gs := [0 ≤ v1 ∧ v1 < 50]) (c' := (32, [some (21, 0), some (0, v1)], [(0, (h 257 0 v1))], (h, hm, o))) K128_1 rfl ⟨q4, trivial⟩ ?_
        obtain rfl := Option.some.inj e
        exact zF_ri (by decide +kernel)
      · refine zF_blk (m := []) (d := 0) (b := B128_2) (gs := [¬ (v1 < 50)]) (c' := (21, [some (21, 0), some (0, v1)], [], (h, hm, o))) K128_2 rfl ⟨q3, trivial⟩ ?_
        refine zF_blk (m := []) (d := 0) (b := B128_0) (gs := []) (c' := (22, [some (21, 0), some (0, v1)], [(0, (-1))], (h, hm, o))) K128_0 rfl trivial ?_
        obtain rfl := Option.some.inj e
        exact zF_ri (by decide +kernel)
