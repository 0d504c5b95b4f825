/-! Functions of the methods, by wip/gen/lift.py. -/
def B72c_0 : List zRow := [(0, .aload_n 0, 1, (0, 0, 0)), (1, .aload_n 1, 1, (0, 0, 0)), (2, .getfield 30, 3, (1, 0, 0)), (5, .putfield 30, 3, (1, 0, 0)), (8, .aload_n 0, 1, (0, 0, 0)), (9, .iconst 0, 1, (0, 0, 0)), (10, .putfield 34, 3, (1, 1, 0)), (13, .aload_n 0, 1, (0, 0, 0)), (14, .iconst 0, 1, (0, 0, 0)), (15, .putfield 37, 3, (1, 2, 0)), (18, .aload_n 1, 1, (0, 0, 0)), (19, .getfield 9, 3, (1, 3, 5242906)), (22, .iconst 0, 1, (0, 0, 0)), (23, .aload_n 0, 1, (0, 0, 0)), (24, .getfield 9, 3, (1, 3, 5242906)), (27, .iconst 0, 1, (0, 0, 0)), (28, .bipush 6, 2, (0, 0, 0)), (30, .invokestatic 45, 3, (5001, 0, 0))]
theorem K72c_0 : zRk 72 B72c_0 = true := by decide +kernel
/-- EchoVale$Course.copyPlaces(LEchoVale$Course;)V -/
def F72c (h : zHC) : Option zHC := some (hcpy (hset (hset (hset h 64 1 0 (h 64 0 0)) 65 1 0 0) 66 1 0 0) 67 1 67 0 0 0 6)
set_option maxRecDepth 100000 in
theorem S72c {spec : zRn zH2} {hm : zHM} {o : Int → Int} {d : Nat} (hd : 1 ≤ d) (h : zHC) (v : zHC) (e : F72c h = some v) : zRu2 spec d 72 [(11, 1), (11, 0)] (h, hm, o) none (v, hm, o) := by
  refine zF_in (D := 0) (mx := 2) (L := [some (11, 1), some (11, 0)]) (by decide +kernel) rfl rfl hd (fun d hd => ?_)
  unfold F72c at e
  refine zF_blk (m := []) (d := 0) (b := B72c_0) (gs := [0 ≤ 0, 0 ≤ 0, 0 ≤ 6, 0 + 6 ≤ 6, 0 + 6 ≤ 6]) (c' := (33, [some (11, 1), some (11, 0)], [], ((hcpy (hset (hset (hset h 64 1 0 (h 64 0 0)) 65 1 0 0) 66 1 0 0) 67 1 67 0 0 0 6), hm, o))) K72c_0 rfl ⟨by decide, by decide, by decide, by decide, by decide, trivial⟩ ?_
  obtain rfl := Option.some.inj e
  exact zF_rv (by decide +kernel)
def B71c_0 : List zRow := [(0, .aload_n 0, 1, (0, 0, 0)), (1, .aload_n 1, 1, (0, 0, 0))]
theorem K71c_0 : zRk 71 B71c_0 = true := by decide +kernel
def B71c_1 : List zRow := [(5, .aload_n 0, 1, (0, 0, 0)), (6, .aload_n 1, 1, (0, 0, 0)), (7, .getfield 34, 3, (1, 1, 0)), (10, .putfield 34, 3, (1, 1, 0)), (13, .aload_n 0, 1, (0, 0, 0)), (14, .aload_n 1, 1, (0, 0, 0)), (15, .getfield 37, 3, (1, 2, 0)), (18, .putfield 37, 3, (1, 2, 0)), (21, .aload_n 1, 1, (0, 0, 0)), (22, .getfield 15, 3, (1, 4, 5243602)), (25, .iconst 0, 1, (0, 0, 0)), (26, .aload_n 0, 1, (0, 0, 0)), (27, .getfield 15, 3, (1, 4, 5243602)), (30, .iconst 0, 1, (0, 0, 0)), (31, .aload_n 0, 1, (0, 0, 0)), (32, .getfield 34, 3, (1, 1, 0)), (35, .bipush 6, 2, (0, 0, 0)), (37, .imul, 1, (0, 0, 0)), (38, .invokestatic 45, 3, (5001, 0, 0)), (41, .aload_n 1, 1, (0, 0, 0)), (42, .getfield 18, 3, (1, 5, 5243602)), (45, .iconst 0, 1, (0, 0, 0)), (46, .aload_n 0, 1, (0, 0, 0)), (47, .getfield 18, 3, (1, 5, 5243602)), (50, .iconst 0, 1, (0, 0, 0)), (51, .aload_n 0, 1, (0, 0, 0)), (52, .getfield 34, 3, (1, 1, 0)), (55, .bipush 6, 2, (0, 0, 0)), (57, .imul, 1, (0, 0, 0)), (58, .invokestatic 45, 3, (5001, 0, 0)), (61, .aload_n 1, 1, (0, 0, 0)), (62, .getfield 21, 3, (1, 6, 5243842)), (65, .iconst 0, 1, (0, 0, 0)), (66, .aload_n 0, 1, (0, 0, 0)), (67, .getfield 21, 3, (1, 6, 5243842)), (70, .iconst 0, 1, (0, 0, 0)), (71, .aload_n 0, 1, (0, 0, 0)), (72, .getfield 34, 3, (1, 1, 0)), (75, .bipush 8, 2, (0, 0, 0)), (77, .imul, 1, (0, 0, 0)), (78, .invokestatic 45, 3, (5001, 0, 0)), (81, .aload_n 1, 1, (0, 0, 0)), (82, .getfield 27, 3, (1, 8, 5243002)), (85, .iconst 0, 1, (0, 0, 0)), (86, .aload_n 0, 1, (0, 0, 0)), (87, .getfield 27, 3, (1, 8, 5243002)), (90, .iconst 0, 1, (0, 0, 0)), (91, .aload_n 0, 1, (0, 0, 0)), (92, .getfield 34, 3, (1, 1, 0)), (95, .invokestatic 45, 3, (5001, 0, 0)), (98, .aload_n 1, 1, (0, 0, 0)), (99, .getfield 24, 3, (1, 7, 5246482)), (102, .iconst 0, 1, (0, 0, 0)), (103, .aload_n 0, 1, (0, 0, 0)), (104, .getfield 24, 3, (1, 7, 5246482)), (107, .iconst 0, 1, (0, 0, 0)), (108, .aload_n 0, 1, (0, 0, 0)), (109, .getfield 37, 3, (1, 2, 0)), (112, .iconst 5, 1, (0, 0, 0)), (113, .imul, 1, (0, 0, 0)), (114, .invokestatic 45, 3, (5001, 0, 0))]
theorem K71c_1 : zRk 71 B71c_1 = true := by decide +kernel
/-- EchoVale$Course.copyFrom(LEchoVale$Course;)V -/
def F71c (h : zHC) : Option zHC := (F72c h).bind fun r1 => zG (0 ≤ (wmul ((hset (hset r1 65 1 0 (r1 65 0 0)) 66 1 0 ((hset r1 65 1 0 (r1 65 0 0)) 66 0 0)) 65 1 0) 6)) (zG (0 + (wmul ((hset (hset r1 65 1 0 (r1 65 0 0)) 66 1 0 ((hset r1 65 1 0 (r1 65 0 0)) 66 0 0)) 65 1 0) 6) ≤ 180) (zG (0 + (wmul ((hset (hset r1 65 1 0 (r1 65 0 0)) 66 1 0 ((hset r1 65 1 0 (r1 65 0 0)) 66 0 0)) 65 1 0) 6) ≤ 180) (zG (0 ≤ (wmul ((hcpy (hset (hset r1 65 1 0 (r1 65 0 0)) 66 1 0 ((hset r1 65 1 0 (r1 65 0 0)) 66 0 0)) 68 1 68 0 0 0 (wmul ((hset (hset r1 65 1 0 (r1 65 0 0)) 66 1 0 ((hset r1 65 1 0 (r1 65 0 0)) 66 0 0)) 65 1 0) 6)) 65 1 0) 6)) (zG (0 + (wmul ((hcpy (hset (hset r1 65 1 0 (r1 65 0 0)) 66 1 0 ((hset r1 65 1 0 (r1 65 0 0)) 66 0 0)) 68 1 68 0 0 0 (wmul ((hset (hset r1 65 1 0 (r1 65 0 0)) 66 1 0 ((hset r1 65 1 0 (r1 65 0 0)) 66 0 0)) 65 1 0) 6)) 65 1 0) 6) ≤ 180) (zG (0 + (wmul ((hcpy (hset (hset r1 65 1 0 (r1 65 0 0)) 66 1 0 ((hset r1 65 1 0 (r1 65 0 0)) 66 0 0)) 68 1 68 0 0 0 (wmul ((hset (hset r1 65 1 0 (r1 65 0 0)) 66 1 0 ((hset r1 65 1 0 (r1 65 0 0)) 66 0 0)) 65 1 0) 6)) 65 1 0) 6) ≤ 180) (zG (0 ≤ (wmul ((hcpy (hcpy (hset (hset r1 65 1 0 (r1 65 0 0)) 66 1 0 ((hset r1 65 1 0 (r1 65 0 0)) 66 0 0)) 68 1 68 0 0 0 (wmul ((hset (hset r1 65 1 0 (r1 65 0 0)) 66 1 0 ((hset r1 65 1 0 (r1 65 0 0)) 66 0 0)) 65 1 0) 6)) 69 1 69 0 0 0 (wmul ((hcpy (hset (hset r1 65 1 0 (r1 65 0 0)) 66 1 0 ((hset r1 65 1 0 (r1 65 0 0)) 66 0 0)) 68 1 68 0 0 0 (wmul ((hset (hset r1 65 1 0 (r1 65 0 0)) 66 1 0 ((hset r1 65 1 0 (r1 65 0 0)) 66 0 0)) 65 1 0) 6)) 65 1 0) 6)) 65 1 0) 8)) (zG (0 + (wmul ((hcpy (hcpy (hset (hset r1 65 1 0 (r1 65 0 0)) 66 1 0 ((hset r1 65 1 0 (r1 65 0 0)) 66 0 0)) 68 1 68 0 0 0 (wmul ((hset (hset r1 65 1 0 (r1 65 0 0)) 66 1 0 ((hset r1 65 1 0 (r1 65 0 0)) 66 0 0)) 65 1 0) 6)) 69 1 69 0 0 0 (wmul ((hcpy (hset (hset r1 65 1 0 (r1 65 0 0)) 66 1 0 ((hset r1 65 1 0 (r1 65 0 0)) 66 0 0)) 68 1 68 0 0 0 (wmul ((hset (hset r1 65 1 0 (r1 65 0 0)) 66 1 0 ((hset r1 65 1 0 (r1 65 0 0)) 66 0 0)) 65 1 0) 6)) 65 1 0) 6)) 65 1 0) 8) ≤ 240) (zG (0 + (wmul ((hcpy (hcpy (hset (hset r1 65 1 0 (r1 65 0 0)) 66 1 0 ((hset r1 65 1 0 (r1 65 0 0)) 66 0 0)) 68 1 68 0 0 0 (wmul ((hset (hset r1 65 1 0 (r1 65 0 0)) 66 1 0 ((hset r1 65 1 0 (r1 65 0 0)) 66 0 0)) 65 1 0) 6)) 69 1 69 0 0 0 (wmul ((hcpy (hset (hset r1 65 1 0 (r1 65 0 0)) 66 1 0 ((hset r1 65 1 0 (r1 65 0 0)) 66 0 0)) 68 1 68 0 0 0 (wmul ((hset (hset r1 65 1 0 (r1 65 0 0)) 66 1 0 ((hset r1 65 1 0 (r1 65 0 0)) 66 0 0)) 65 1 0) 6)) 65 1 0) 6)) 65 1 0) 8) ≤ 240) (zG (0 ≤ ((hcpy (hcpy (hcpy (hset (hset r1 65 1 0 (r1 65 0 0)) 66 1 0 ((hset r1 65 1 0 (r1 65 0 0)) 66 0 0)) 68 1 68 0 0 0 (wmul ((hset (hset r1 65 1 0 (r1 65 0 0)) 66 1 0 ((hset r1 65 1 0 (r1 65 0 0)) 66 0 0)) 65 1 0) 6)) 69 1 69 0 0 0 (wmul ((hcpy (hset (hset r1 65 1 0 (r1 65 0 0)) 66 1 0 ((hset r1 65 1 0 (r1 65 0 0)) 66 0 0)) 68 1 68 0 0 0 (wmul ((hset (hset r1 65 1 0 (r1 65 0 0)) 66 1 0 ((hset r1 65 1 0 (r1 65 0 0)) 66 0 0)) 65 1 0) 6)) 65 1 0) 6)) 70 1 70 0 0 0 (wmul ((hcpy (hcpy (hset (hset r1 65 1 0 (r1 65 0 0)) 66 1 0 ((hset r1 65 1 0 (r1 65 0 0)) 66 0 0)) 68 1 68 0 0 0 (wmul ((hset (hset r1 65 1 0 (r1 65 0 0)) 66 1 0 ((hset r1 65 1 0 (r1 65 0 0)) 66 0 0)) 65 1 0) 6)) 69 1 69 0 0 0 (wmul ((hcpy (hset (hset r1 65 1 0 (r1 65 0 0)) 66 1 0 ((hset r1 65 1 0 (r1 65 0 0)) 66 0 0)) 68 1 68 0 0 0 (wmul ((hset (hset r1 65 1 0 (r1 65 0 0)) 66 1 0 ((hset r1 65 1 0 (r1 65 0 0)) 66 0 0)) 65 1 0) 6)) 65 1 0) 6)) 65 1 0) 8)) 65 1 0)) (zG (0 + ((hcpy (hcpy (hcpy (hset (hset r1 65 1 0 (r1 65 0 0)) 66 1 0 ((hset r1 65 1 0 (r1 65 0 0)) 66 0 0)) 68 1 68 0 0 0 (wmul ((hset (hset r1 65 1 0 (r1 65 0 0)) 66 1 0 ((hset r1 65 1 0 (r1 65 0 0)) 66 0 0)) 65 1 0) 6)) 69 1 69 0 0 0 (wmul ((hcpy (hset (hset r1 65 1 0 (r1 65 0 0)) 66 1 0 ((hset r1 65 1 0 (r1 65 0 0)) 66 0 0)) 68 1 68 0 0 0 (wmul ((hset (hset r1 65 1 0 (r1 65 0 0)) 66 1 0 ((hset r1 65 1 0 (r1 65 0 0)) 66 0 0)) 65 1 0) 6)) 65 1 0) 6)) 70 1 70 0 0 0 (wmul ((hcpy (hcpy (hset (hset r1 65 1 0 (r1 65 0 0)) 66 1 0 ((hset r1 65 1 0 (r1 65 0 0)) 66 0 0)) 68 1 68 0 0 0 (wmul ((hset (hset r1 65 1 0 (r1 65 0 0)) 66 1 0 ((hset r1 65 1 0 (r1 65 0 0)) 66 0 0)) 65 1 0) 6)) 69 1 69 0 0 0 (wmul ((hcpy (hset (hset r1 65 1 0 (r1 65 0 0)) 66 1 0 ((hset r1 65 1 0 (r1 65 0 0)) 66 0 0)) 68 1 68 0 0 0 (wmul ((hset (hset r1 65 1 0 (r1 65 0 0)) 66 1 0 ((hset r1 65 1 0 (r1 65 0 0)) 66 0 0)) 65 1 0) 6)) 65 1 0) 6)) 65 1 0) 8)) 65 1 0) ≤ 30) (zG (0 + ((hcpy (hcpy (hcpy (hset (hset r1 65 1 0 (r1 65 0 0)) 66 1 0 ((hset r1 65 1 0 (r1 65 0 0)) 66 0 0)) 68 1 68 0 0 0 (wmul ((hset (hset r1 65 1 0 (r1 65 0 0)) 66 1 0 ((hset r1 65 1 0 (r1 65 0 0)) 66 0 0)) 65 1 0) 6)) 69 1 69 0 0 0 (wmul ((hcpy (hset (hset r1 65 1 0 (r1 65 0 0)) 66 1 0 ((hset r1 65 1 0 (r1 65 0 0)) 66 0 0)) 68 1 68 0 0 0 (wmul ((hset (hset r1 65 1 0 (r1 65 0 0)) 66 1 0 ((hset r1 65 1 0 (r1 65 0 0)) 66 0 0)) 65 1 0) 6)) 65 1 0) 6)) 70 1 70 0 0 0 (wmul ((hcpy (hcpy (hset (hset r1 65 1 0 (r1 65 0 0)) 66 1 0 ((hset r1 65 1 0 (r1 65 0 0)) 66 0 0)) 68 1 68 0 0 0 (wmul ((hset (hset r1 65 1 0 (r1 65 0 0)) 66 1 0 ((hset r1 65 1 0 (r1 65 0 0)) 66 0 0)) 65 1 0) 6)) 69 1 69 0 0 0 (wmul ((hcpy (hset (hset r1 65 1 0 (r1 65 0 0)) 66 1 0 ((hset r1 65 1 0 (r1 65 0 0)) 66 0 0)) 68 1 68 0 0 0 (wmul ((hset (hset r1 65 1 0 (r1 65 0 0)) 66 1 0 ((hset r1 65 1 0 (r1 65 0 0)) 66 0 0)) 65 1 0) 6)) 65 1 0) 6)) 65 1 0) 8)) 65 1 0) ≤ 30) (zG (0 ≤ (wmul ((hcpy (hcpy (hcpy (hcpy (hset (hset r1 65 1 0 (r1 65 0 0)) 66 1 0 ((hset r1 65 1 0 (r1 65 0 0)) 66 0 0)) 68 1 68 0 0 0 (wmul ((hset (hset r1 65 1 0 (r1 65 0 0)) 66 1 0 ((hset r1 65 1 0 (r1 65 0 0)) 66 0 0)) 65 1 0) 6)) 69 1 69 0 0 0 (wmul ((hcpy (hset (hset r1 65 1 0 (r1 65 0 0)) 66 1 0 ((hset r1 65 1 0 (r1 65 0 0)) 66 0 0)) 68 1 68 0 0 0 (wmul ((hset (hset r1 65 1 0 (r1 65 0 0)) 66 1 0 ((hset r1 65 1 0 (r1 65 0 0)) 66 0 0)) 65 1 0) 6)) 65 1 0) 6)) 70 1 70 0 0 0 (wmul ((hcpy (hcpy (hset (hset r1 65 1 0 (r1 65 0 0)) 66 1 0 ((hset r1 65 1 0 (r1 65 0 0)) 66 0 0)) 68 1 68 0 0 0 (wmul ((hset (hset r1 65 1 0 (r1 65 0 0)) 66 1 0 ((hset r1 65 1 0 (r1 65 0 0)) 66 0 0)) 65 1 0) 6)) 69 1 69 0 0 0 (wmul ((hcpy (hset (hset r1 65 1 0 (r1 65 0 0)) 66 1 0 ((hset r1 65 1 0 (r1 65 0 0)) 66 0 0)) 68 1 68 0 0 0 (wmul ((hset (hset r1 65 1 0 (r1 65 0 0)) 66 1 0 ((hset r1 65 1 0 (r1 65 0 0)) 66 0 0)) 65 1 0) 6)) 65 1 0) 6)) 65 1 0) 8)) 72 1 72 0 0 0 ((hcpy (hcpy (hcpy (hset (hset r1 65 1 0 (r1 65 0 0)) 66 1 0 ((hset r1 65 1 0 (r1 65 0 0)) 66 0 0)) 68 1 68 0 0 0 (wmul ((hset (hset r1 65 1 0 (r1 65 0 0)) 66 1 0 ((hset r1 65 1 0 (r1 65 0 0)) 66 0 0)) 65 1 0) 6)) 69 1 69 0 0 0 (wmul ((hcpy (hset (hset r1 65 1 0 (r1 65 0 0)) 66 1 0 ((hset r1 65 1 0 (r1 65 0 0)) 66 0 0)) 68 1 68 0 0 0 (wmul ((hset (hset r1 65 1 0 (r1 65 0 0)) 66 1 0 ((hset r1 65 1 0 (r1 65 0 0)) 66 0 0)) 65 1 0) 6)) 65 1 0) 6)) 70 1 70 0 0 0 (wmul ((hcpy (hcpy (hset (hset r1 65 1 0 (r1 65 0 0)) 66 1 0 ((hset r1 65 1 0 (r1 65 0 0)) 66 0 0)) 68 1 68 0 0 0 (wmul ((hset (hset r1 65 1 0 (r1 65 0 0)) 66 1 0 ((hset r1 65 1 0 (r1 65 0 0)) 66 0 0)) 65 1 0) 6)) 69 1 69 0 0 0 (wmul ((hcpy (hset (hset r1 65 1 0 (r1 65 0 0)) 66 1 0 ((hset r1 65 1 0 (r1 65 0 0)) 66 0 0)) 68 1 68 0 0 0 (wmul ((hset (hset r1 65 1 0 (r1 65 0 0)) 66 1 0 ((hset r1 65 1 0 (r1 65 0 0)) 66 0 0)) 65 1 0) 6)) 65 1 0) 6)) 65 1 0) 8)) 65 1 0)) 66 1 0) 5)) (zG (0 + (wmul ((hcpy (hcpy (hcpy (hcpy (hset (hset r1 65 1 0 (r1 65 0 0)) 66 1 0 ((hset r1 65 1 0 (r1 65 0 0)) 66 0 0)) 68 1 68 0 0 0 (wmul ((hset (hset r1 65 1 0 (r1 65 0 0)) 66 1 0 ((hset r1 65 1 0 (r1 65 0 0)) 66 0 0)) 65 1 0) 6)) 69 1 69 0 0 0 (wmul ((hcpy (hset (hset r1 65 1 0 (r1 65 0 0)) 66 1 0 ((hset r1 65 1 0 (r1 65 0 0)) 66 0 0)) 68 1 68 0 0 0 (wmul ((hset (hset r1 65 1 0 (r1 65 0 0)) 66 1 0 ((hset r1 65 1 0 (r1 65 0 0)) 66 0 0)) 65 1 0) 6)) 65 1 0) 6)) 70 1 70 0 0 0 (wmul ((hcpy (hcpy (hset (hset r1 65 1 0 (r1 65 0 0)) 66 1 0 ((hset r1 65 1 0 (r1 65 0 0)) 66 0 0)) 68 1 68 0 0 0 (wmul ((hset (hset r1 65 1 0 (r1 65 0 0)) 66 1 0 ((hset r1 65 1 0 (r1 65 0 0)) 66 0 0)) 65 1 0) 6)) 69 1 69 0 0 0 (wmul ((hcpy (hset (hset r1 65 1 0 (r1 65 0 0)) 66 1 0 ((hset r1 65 1 0 (r1 65 0 0)) 66 0 0)) 68 1 68 0 0 0 (wmul ((hset (hset r1 65 1 0 (r1 65 0 0)) 66 1 0 ((hset r1 65 1 0 (r1 65 0 0)) 66 0 0)) 65 1 0) 6)) 65 1 0) 6)) 65 1 0) 8)) 72 1 72 0 0 0 ((hcpy (hcpy (hcpy (hset (hset r1 65 1 0 (r1 65 0 0)) 66 1 0 ((hset r1 65 1 0 (r1 65 0 0)) 66 0 0)) 68 1 68 0 0 0 (wmul ((hset (hset r1 65 1 0 (r1 65 0 0)) 66 1 0 ((hset r1 65 1 0 (r1 65 0 0)) 66 0 0)) 65 1 0) 6)) 69 1 69 0 0 0 (wmul ((hcpy (hset (hset r1 65 1 0 (r1 65 0 0)) 66 1 0 ((hset r1 65 1 0 (r1 65 0 0)) 66 0 0)) 68 1 68 0 0 0 (wmul ((hset (hset r1 65 1 0 (r1 65 0 0)) 66 1 0 ((hset r1 65 1 0 (r1 65 0 0)) 66 0 0)) 65 1 0) 6)) 65 1 0) 6)) 70 1 70 0 0 0 (wmul ((hcpy (hcpy (hset (hset r1 65 1 0 (r1 65 0 0)) 66 1 0 ((hset r1 65 1 0 (r1 65 0 0)) 66 0 0)) 68 1 68 0 0 0 (wmul ((hset (hset r1 65 1 0 (r1 65 0 0)) 66 1 0 ((hset r1 65 1 0 (r1 65 0 0)) 66 0 0)) 65 1 0) 6)) 69 1 69 0 0 0 (wmul ((hcpy (hset (hset r1 65 1 0 (r1 65 0 0)) 66 1 0 ((hset r1 65 1 0 (r1 65 0 0)) 66 0 0)) 68 1 68 0 0 0 (wmul ((hset (hset r1 65 1 0 (r1 65 0 0)) 66 1 0 ((hset r1 65 1 0 (r1 65 0 0)) 66 0 0)) 65 1 0) 6)) 65 1 0) 6)) 65 1 0) 8)) 65 1 0)) 66 1 0) 5) ≤ 900) (zG (0 + (wmul ((hcpy (hcpy (hcpy (hcpy (hset (hset r1 65 1 0 (r1 65 0 0)) 66 1 0 ((hset r1 65 1 0 (r1 65 0 0)) 66 0 0)) 68 1 68 0 0 0 (wmul ((hset (hset r1 65 1 0 (r1 65 0 0)) 66 1 0 ((hset r1 65 1 0 (r1 65 0 0)) 66 0 0)) 65 1 0) 6)) 69 1 69 0 0 0 (wmul ((hcpy (hset (hset r1 65 1 0 (r1 65 0 0)) 66 1 0 ((hset r1 65 1 0 (r1 65 0 0)) 66 0 0)) 68 1 68 0 0 0 (wmul ((hset (hset r1 65 1 0 (r1 65 0 0)) 66 1 0 ((hset r1 65 1 0 (r1 65 0 0)) 66 0 0)) 65 1 0) 6)) 65 1 0) 6)) 70 1 70 0 0 0 (wmul ((hcpy (hcpy (hset (hset r1 65 1 0 (r1 65 0 0)) 66 1 0 ((hset r1 65 1 0 (r1 65 0 0)) 66 0 0)) 68 1 68 0 0 0 (wmul ((hset (hset r1 65 1 0 (r1 65 0 0)) 66 1 0 ((hset r1 65 1 0 (r1 65 0 0)) 66 0 0)) 65 1 0) 6)) 69 1 69 0 0 0 (wmul ((hcpy (hset (hset r1 65 1 0 (r1 65 0 0)) 66 1 0 ((hset r1 65 1 0 (r1 65 0 0)) 66 0 0)) 68 1 68 0 0 0 (wmul ((hset (hset r1 65 1 0 (r1 65 0 0)) 66 1 0 ((hset r1 65 1 0 (r1 65 0 0)) 66 0 0)) 65 1 0) 6)) 65 1 0) 6)) 65 1 0) 8)) 72 1 72 0 0 0 ((hcpy (hcpy (hcpy (hset (hset r1 65 1 0 (r1 65 0 0)) 66 1 0 ((hset r1 65 1 0 (r1 65 0 0)) 66 0 0)) 68 1 68 0 0 0 (wmul ((hset (hset r1 65 1 0 (r1 65 0 0)) 66 1 0 ((hset r1 65 1 0 (r1 65 0 0)) 66 0 0)) 65 1 0) 6)) 69 1 69 0 0 0 (wmul ((hcpy (hset (hset r1 65 1 0 (r1 65 0 0)) 66 1 0 ((hset r1 65 1 0 (r1 65 0 0)) 66 0 0)) 68 1 68 0 0 0 (wmul ((hset (hset r1 65 1 0 (r1 65 0 0)) 66 1 0 ((hset r1 65 1 0 (r1 65 0 0)) 66 0 0)) 65 1 0) 6)) 65 1 0) 6)) 70 1 70 0 0 0 (wmul ((hcpy (hcpy (hset (hset r1 65 1 0 (r1 65 0 0)) 66 1 0 ((hset r1 65 1 0 (r1 65 0 0)) 66 0 0)) 68 1 68 0 0 0 (wmul ((hset (hset r1 65 1 0 (r1 65 0 0)) 66 1 0 ((hset r1 65 1 0 (r1 65 0 0)) 66 0 0)) 65 1 0) 6)) 69 1 69 0 0 0 (wmul ((hcpy (hset (hset r1 65 1 0 (r1 65 0 0)) 66 1 0 ((hset r1 65 1 0 (r1 65 0 0)) 66 0 0)) 68 1 68 0 0 0 (wmul ((hset (hset r1 65 1 0 (r1 65 0 0)) 66 1 0 ((hset r1 65 1 0 (r1 65 0 0)) 66 0 0)) 65 1 0) 6)) 65 1 0) 6)) 65 1 0) 8)) 65 1 0)) 66 1 0) 5) ≤ 900) (some (hcpy (hcpy (hcpy (hcpy (hcpy (hset (hset r1 65 1 0 (r1 65 0 0)) 66 1 0 ((hset r1 65 1 0 (r1 65 0 0)) 66 0 0)) 68 1 68 0 0 0 (wmul ((hset (hset r1 65 1 0 (r1 65 0 0)) 66 1 0 ((hset r1 65 1 0 (r1 65 0 0)) 66 0 0)) 65 1 0) 6)) 69 1 69 0 0 0 (wmul ((hcpy (hset (hset r1 65 1 0 (r1 65 0 0)) 66 1 0 ((hset r1 65 1 0 (r1 65 0 0)) 66 0 0)) 68 1 68 0 0 0 (wmul ((hset (hset r1 65 1 0 (r1 65 0 0)) 66 1 0 ((hset r1 65 1 0 (r1 65 0 0)) 66 0 0)) 65 1 0) 6)) 65 1 0) 6)) 70 1 70 0 0 0 (wmul ((hcpy (hcpy (hset (hset r1 65 1 0 (r1 65 0 0)) 66 1 0 ((hset r1 65 1 0 (r1 65 0 0)) 66 0 0)) 68 1 68 0 0 0 (wmul ((hset (hset r1 65 1 0 (r1 65 0 0)) 66 1 0 ((hset r1 65 1 0 (r1 65 0 0)) 66 0 0)) 65 1 0) 6)) 69 1 69 0 0 0 (wmul ((hcpy (hset (hset r1 65 1 0 (r1 65 0 0)) 66 1 0 ((hset r1 65 1 0 (r1 65 0 0)) 66 0 0)) 68 1 68 0 0 0 (wmul ((hset (hset r1 65 1 0 (r1 65 0 0)) 66 1 0 ((hset r1 65 1 0 (r1 65 0 0)) 66 0 0)) 65 1 0) 6)) 65 1 0) 6)) 65 1 0) 8)) 72 1 72 0 0 0 ((hcpy (hcpy (hcpy (hset (hset r1 65 1 0 (r1 65 0 0)) 66 1 0 ((hset r1 65 1 0 (r1 65 0 0)) 66 0 0)) 68 1 68 0 0 0 (wmul ((hset (hset r1 65 1 0 (r1 65 0 0)) 66 1 0 ((hset r1 65 1 0 (r1 65 0 0)) 66 0 0)) 65 1 0) 6)) 69 1 69 0 0 0 (wmul ((hcpy (hset (hset r1 65 1 0 (r1 65 0 0)) 66 1 0 ((hset r1 65 1 0 (r1 65 0 0)) 66 0 0)) 68 1 68 0 0 0 (wmul ((hset (hset r1 65 1 0 (r1 65 0 0)) 66 1 0 ((hset r1 65 1 0 (r1 65 0 0)) 66 0 0)) 65 1 0) 6)) 65 1 0) 6)) 70 1 70 0 0 0 (wmul ((hcpy (hcpy (hset (hset r1 65 1 0 (r1 65 0 0)) 66 1 0 ((hset r1 65 1 0 (r1 65 0 0)) 66 0 0)) 68 1 68 0 0 0 (wmul ((hset (hset r1 65 1 0 (r1 65 0 0)) 66 1 0 ((hset r1 65 1 0 (r1 65 0 0)) 66 0 0)) 65 1 0) 6)) 69 1 69 0 0 0 (wmul ((hcpy (hset (hset r1 65 1 0 (r1 65 0 0)) 66 1 0 ((hset r1 65 1 0 (r1 65 0 0)) 66 0 0)) 68 1 68 0 0 0 (wmul ((hset (hset r1 65 1 0 (r1 65 0 0)) 66 1 0 ((hset r1 65 1 0 (r1 65 0 0)) 66 0 0)) 65 1 0) 6)) 65 1 0) 6)) 65 1 0) 8)) 65 1 0)) 71 1 71 0 0 0 (wmul ((hcpy (hcpy (hcpy (hcpy (hset (hset r1 65 1 0 (r1 65 0 0)) 66 1 0 ((hset r1 65 1 0 (r1 65 0 0)) 66 0 0)) 68 1 68 0 0 0 (wmul ((hset (hset r1 65 1 0 (r1 65 0 0)) 66 1 0 ((hset r1 65 1 0 (r1 65 0 0)) 66 0 0)) 65 1 0) 6)) 69 1 69 0 0 0 (wmul ((hcpy (hset (hset r1 65 1 0 (r1 65 0 0)) 66 1 0 ((hset r1 65 1 0 (r1 65 0 0)) 66 0 0)) 68 1 68 0 0 0 (wmul ((hset (hset r1 65 1 0 (r1 65 0 0)) 66 1 0 ((hset r1 65 1 0 (r1 65 0 0)) 66 0 0)) 65 1 0) 6)) 65 1 0) 6)) 70 1 70 0 0 0 (wmul ((hcpy (hcpy (hset (hset r1 65 1 0 (r1 65 0 0)) 66 1 0 ((hset r1 65 1 0 (r1 65 0 0)) 66 0 0)) 68 1 68 0 0 0 (wmul ((hset (hset r1 65 1 0 (r1 65 0 0)) 66 1 0 ((hset r1 65 1 0 (r1 65 0 0)) 66 0 0)) 65 1 0) 6)) 69 1 69 0 0 0 (wmul ((hcpy (hset (hset r1 65 1 0 (r1 65 0 0)) 66 1 0 ((hset r1 65 1 0 (r1 65 0 0)) 66 0 0)) 68 1 68 0 0 0 (wmul ((hset (hset r1 65 1 0 (r1 65 0 0)) 66 1 0 ((hset r1 65 1 0 (r1 65 0 0)) 66 0 0)) 65 1 0) 6)) 65 1 0) 6)) 65 1 0) 8)) 72 1 72 0 0 0 ((hcpy (hcpy (hcpy (hset (hset r1 65 1 0 (r1 65 0 0)) 66 1 0 ((hset r1 65 1 0 (r1 65 0 0)) 66 0 0)) 68 1 68 0 0 0 (wmul ((hset (hset r1 65 1 0 (r1 65 0 0)) 66 1 0 ((hset r1 65 1 0 (r1 65 0 0)) 66 0 0)) 65 1 0) 6)) 69 1 69 0 0 0 (wmul ((hcpy (hset (hset r1 65 1 0 (r1 65 0 0)) 66 1 0 ((hset r1 65 1 0 (r1 65 0 0)) 66 0 0)) 68 1 68 0 0 0 (wmul ((hset (hset r1 65 1 0 (r1 65 0 0)) 66 1 0 ((hset r1 65 1 0 (r1 65 0 0)) 66 0 0)) 65 1 0) 6)) 65 1 0) 6)) 70 1 70 0 0 0 (wmul ((hcpy (hcpy (hset (hset r1 65 1 0 (r1 65 0 0)) 66 1 0 ((hset r1 65 1 0 (r1 65 0 0)) 66 0 0)) 68 1 68 0 0 0 (wmul ((hset (hset r1 65 1 0 (r1 65 0 0)) 66 1 0 ((hset r1 65 1 0 (r1 65 0 0)) 66 0 0)) 65 1 0) 6)) 69 1 69 0 0 0 (wmul ((hcpy (hset (hset r1 65 1 0 (r1 65 0 0)) 66 1 0 ((hset r1 65 1 0 (r1 65 0 0)) 66 0 0)) 68 1 68 0 0 0 (wmul ((hset (hset r1 65 1 0 (r1 65 0 0)) 66 1 0 ((hset r1 65 1 0 (r1 65 0 0)) 66 0 0)) 65 1 0) 6)) 65 1 0) 6)) 65 1 0) 8)) 65 1 0)) 66 1 0) 5)))))))))))))))))
set_option maxRecDepth 100000 in
theorem S71c {spec : zRn zH2} {hm : zHM} {o : Int → Int} {d : Nat} (hd : 2 ≤ d) (h : zHC) (v : zHC) (e : F71c h = some v) : zRu2 spec d 71 [(11, 1), (11, 0)] (h, hm, o) none (v, hm, o) := by
  refine zF_in (D := 1) (mx := 2) (L := [some (11, 1), some (11, 0)]) (by decide +kernel) rfl rfl hd (fun d hd => ?_)
  unfold F71c at e
  obtain ⟨r1, q1, e⟩ := zB_s e
  refine zF_blk (m := []) (d := 0) (b := B71c_0) (gs := []) (c' := (2, [some (11, 1), some (11, 0)], [(11, 0), (11, 1)], (h, hm, o))) K71c_0 rfl trivial ?_
  refine zF_call (k := 72) (cl := 1) (n := 2) (i := .invokevirtual 51) (args := [(11, 1), (11, 0)]) (rest := []) (g1 := (r1, hm, o)) (r1 := none) (by decide +kernel) rfl rfl rfl (st' := []) rfl (S72c (Nat.le_trans (by decide) hd)  h _ q1) ?_
  obtain ⟨q2, e⟩ := zG_s e
  obtain ⟨q3, e⟩ := zG_s e
  obtain ⟨q3, e⟩ := zG_s e
  obtain ⟨q4, e⟩ := zG_s e
  obtain ⟨q5, e⟩ := zG_s e
  obtain ⟨q5, e⟩ := zG_s e
  obtain ⟨q6, e⟩ := zG_s e
  obtain ⟨q7, e⟩ := zG_s e
  obtain ⟨q7, e⟩ := zG_s e
  obtain ⟨q8, e⟩ := zG_s e
  obtain ⟨q9, e⟩ := zG_s e
  obtain ⟨q9, e⟩ := zG_s e
  obtain ⟨q10, e⟩ := zG_s e
  obtain ⟨q11, e⟩ := zG_s e
  obtain ⟨q11, e⟩ := zG_s e
  refine zF_blk (m := []) (d := 0) (b := B71c_1) (gs := [0 ≤ 0, 0 ≤ 0, 0 ≤ (wmul ((hset (hset r1 65 1 0 (r1 65 0 0)) 66 1 0 ((hset r1 65 1 0 (r1 65 0 0)) 66 0 0)) 65 1 0) 6), 0 + (wmul ((hset (hset r1 65 1 0 (r1 65 0 0)) 66 1 0 ((hset r1 65 1 0 (r1 65 0 0)) 66 0 0)) 65 1 0) 6) ≤ 180, 0 + (wmul ((hset (hset r1 65 1 0 (r1 65 0 0)) 66 1 0 ((hset r1 65 1 0 (r1 65 0 0)) 66 0 0)) 65 1 0) 6) ≤ 180, 0 ≤ 0, 0 ≤ 0, 0 ≤ (wmul ((hcpy (hset (hset r1 65 1 0 (r1 65 0 0)) 66 1 0 ((hset r1 65 1 0 (r1 65 0 0)) 66 0 0)) 68 1 68 0 0 0 (wmul ((hset (hset r1 65 1 0 (r1 65 0 0)) 66 1 0 ((hset r1 65 1 0 (r1 65 0 0)) 66 0 0)) 65 1 0) 6)) 65 1 0) 6), 0 + (wmul ((hcpy (hset (hset r1 65 1 0 (r1 65 0 0)) 66 1 0 ((hset r1 65 1 0 (r1 65 0 0)) 66 0 0)) 68 1 68 0 0 0 (wmul ((hset (hset r1 65 1 0 (r1 65 0 0)) 66 1 0 ((hset r1 65 1 0 (r1 65 0 0)) 66 0 0)) 65 1 0) 6)) 65 1 0) 6) ≤ 180, 0 + (wmul ((hcpy (hset (hset r1 65 1 0 (r1 65 0 0)) 66 1 0 ((hset r1 65 1 0 (r1 65 0 0)) 66 0 0)) 68 1 68 0 0 0 (wmul ((hset (hset r1 65 1 0 (r1 65 0 0)) 66 1 0 ((hset r1 65 1 0 (r1 65 0 0)) 66 0 0)) 65 1 0) 6)) 65 1 0) 6) ≤ 180, 0 ≤ 0, 0 ≤ 0, 0 ≤ (wmul ((hcpy (hcpy (hset (hset r1 65 1 0 (r1 65 0 0)) 66 1 0 ((hset r1 65 1 0 (r1 65 0 0)) 66 0 0)) 68 1 68 0 0 0 (wmul ((hset (hset r1 65 1 0 (r1 65 0 0)) 66 1 0 ((hset r1 65 1 0 (r1 65 0 0)) 66 0 0)) 65 1 0) 6)) 69 1 69 0 0 0 (wmul ((hcpy (hset (hset r1 65 1 0 (r1 65 0 0)) 66 1 0 ((hset r1 65 1 0 (r1 65 0 0)) 66 0 0)) 68 1 68 0 0 0 (wmul ((hset (hset r1 65 1 0 (r1 65 0 0)) 66 1 0 ((hset r1 65 1 0 (r1 65 0 0)) 66 0 0)) 65 1 0) 6)) 65 1 0) 6)) 65 1 0) 8), 0 + (wmul ((hcpy (hcpy (hset (hset r1 65 1 0 (r1 65 0 0)) 66 1 0 ((hset r1 65 1 0 (r1 65 0 0)) 66 0 0)) 68 1 68 0 0 0 (wmul ((hset (hset r1 65 1 0 (r1 65 0 0)) 66 1 0 ((hset r1 65 1 0 (r1 65 0 0)) 66 0 0)) 65 1 0) 6)) 69 1 69 0 0 0 (wmul ((hcpy (hset (hset r1 65 1 0 (r1 65 0 0)) 66 1 0 ((hset r1 65 1 0 (r1 65 0 0)) 66 0 0)) 68 1 68 0 0 0 (wmul ((hset (hset r1 65 1 0 (r1 65 0 0)) 66 1 0 ((hset r1 65 1 0 (r1 65 0 0)) 66 0 0)) 65 1 0) 6)) 65 1 0) 6)) 65 1 0) 8) ≤ 240, 0 + (wmul ((hcpy (hcpy (hset (hset r1 65 1 0 (r1 65 0 0)) 66 1 0 ((hset r1 65 1 0 (r1 65 0 0)) 66 0 0)) 68 1 68 0 0 0 (wmul ((hset (hset r1 65 1 0 (r1 65 0 0)) 66 1 0 ((hset r1 65 1 0 (r1 65 0 0)) 66 0 0)) 65 1 0) 6)) 69 1 69 0 0 0 (wmul ((hcpy (hset (hset r1 65 1 0 (r1 65 0 0)) 66 1 0 ((hset r1 65 1 0 (r1 65 0 0)) 66 0 0)) 68 1 68 0 0 0 (wmul ((hset (hset r1 65 1 0 (r1 65 0 0)) 66 1 0 ((hset r1 65 1 0 (r1 65 0 0)) 66 0 0)) 65 1 0) 6)) 65 1 0) 6)) 65 1 0) 8) ≤ 240, 0 ≤ 0, 0 ≤ 0, 0 ≤ ((hcpy (hcpy (hcpy (hset (hset r1 65 1 0 (r1 65 0 0)) 66 1 0 ((hset r1 65 1 0 (r1 65 0 0)) 66 0 0)) 68 1 68 0 0 0 (wmul ((hset (hset r1 65 1 0 (r1 65 0 0)) 66 1 0 ((hset r1 65 1 0 (r1 65 0 0)) 66 0 0)) 65 1 0) 6)) 69 1 69 0 0 0 (wmul ((hcpy (hset (hset r1 65 1 0 (r1 65 0 0)) 66 1 0 ((hset r1 65 1 0 (r1 65 0 0)) 66 0 0)) 68 1 68 0 0 0 (wmul ((hset (hset r1 65 1 0 (r1 65 0 0)) 66 1 0 ((hset r1 65 1 0 (r1 65 0 0)) 66 0 0)) 65 1 0) 6)) 65 1 0) 6)) 70 1 70 0 0 0 (wmul ((hcpy (hcpy (hset (hset r1 65 1 0 (r1 65 0 0)) 66 1 0 ((hset r1 65 1 0 (r1 65 0 0)) 66 0 0)) 68 1 68 0 0 0 (wmul ((hset (hset r1 65 1 0 (r1 65 0 0)) 66 1 0 ((hset r1 65 1 0 (r1 65 0 0)) 66 0 0)) 65 1 0) 6)) 69 1 69 0 0 0 (wmul ((hcpy (hset (hset r1 65 1 0 (r1 65 0 0)) 66 1 0 ((hset r1 65 1 0 (r1 65 0 0)) 66 0 0)) 68 1 68 0 0 0 (wmul ((hset (hset r1 65 1 0 (r1 65 0 0)) 66 1 0 ((hset r1 65 1 0 (r1 65 0 0)) 66 0 0)) 65 1 0) 6)) 65 1 0) 6)) 65 1 0) 8)) 65 1 0), 0 + ((hcpy (hcpy (hcpy (hset (hset r1 65 1 0 (r1 65 0 0)) 66 1 0 ((hset r1 65 1 0 (r1 65 0 0)) 66 0 0)) 68 1 68 0 0 0 (wmul ((hset (hset r1 65 1 0 (r1 65 0 0)) 66 1 0 ((hset r1 65 1 0 (r1 65 0 0)) 66 0 0)) 65 1 0) 6)) 69 1 69 0 0 0 (wmul ((hcpy (hset (hset r1 65 1 0 (r1 65 0 0)) 66 1 0 ((hset r1 65 1 0 (r1 65 0 0)) 66 0 0)) 68 1 68 0 0 0 (wmul ((hset (hset r1 65 1 0 (r1 65 0 0)) 66 1 0 ((hset r1 65 1 0 (r1 65 0 0)) 66 0 0)) 65 1 0) 6)) 65 1 0) 6)) 70 1 70 0 0 0 (wmul ((hcpy (hcpy (hset (hset r1 65 1 0 (r1 65 0 0)) 66 1 0 ((hset r1 65 1 0 (r1 65 0 0)) 66 0 0)) 68 1 68 0 0 0 (wmul ((hset (hset r1 65 1 0 (r1 65 0 0)) 66 1 0 ((hset r1 65 1 0 (r1 65 0 0)) 66 0 0)) 65 1 0) 6)) 69 1 69 0 0 0 (wmul ((hcpy (hset (hset r1 65 1 0 (r1 65 0 0)) 66 1 0 ((hset r1 65 1 0 (r1 65 0 0)) 66 0 0)) 68 1 68 0 0 0 (wmul ((hset (hset r1 65 1 0 (r1 65 0 0)) 66 1 0 ((hset r1 65 1 0 (r1 65 0 0)) 66 0 0)) 65 1 0) 6)) 65 1 0) 6)) 65 1 0) 8)) 65 1 0) ≤ 30, 0 + ((hcpy (hcpy (hcpy (hset (hset r1 65 1 0 (r1 65 0 0)) 66 1 0 ((hset r1 65 1 0 (r1 65 0 0)) 66 0 0)) 68 1 68 0 0 0 (wmul ((hset (hset r1 65 1 0 (r1 65 0 0)) 66 1 0 ((hset r1 65 1 0 (r1 65 0 0)) 66 0 0)) 65 1 0) 6)) 69 1 69 0 0 0 (wmul ((hcpy (hset (hset r1 65 1 0 (r1 65 0 0)) 66 1 0 ((hset r1 65 1 0 (r1 65 0 0)) 66 0 0)) 68 1 68 0 0 0 (wmul ((hset (hset r1 65 1 0 (r1 65 0 0)) 66 1 0 ((hset r1 65 1 0 (r1 65 0 0)) 66 0 0)) 65 1 0) 6)) 65 1 0) 6)) 70 1 70 0 0 0 (wmul ((hcpy (hcpy (hset (hset r1 65 1 0 (r1 65 0 0)) 66 1 0 ((hset r1 65 1 0 (r1 65 0 0)) 66 0 0)) 68 1 68 0 0 0 (wmul ((hset (hset r1 65 1 0 (r1 65 0 0)) 66 1 0 ((hset r1 65 1 0 (r1 65 0 0)) 66 0 0)) 65 1 0) 6)) 69 1 69 0 0 0 (wmul ((hcpy (hset (hset r1 65 1 0 (r1 65 0 0)) 66 1 0 ((hset r1 65 1 0 (r1 65 0 0)) 66 0 0)) 68 1 68 0 0 0 (wmul ((hset (hset r1 65 1 0 (r1 65 0 0)) 66 1 0 ((hset r1 65 1 0 (r1 65 0 0)) 66 0 0)) 65 1 0) 6)) 65 1 0) 6)) 65 1 0) 8)) 65 1 0) ≤ 30, 0 ≤ 0, 0 ≤ 0, 0 ≤ (wmul ((hcpy (hcpy (hcpy (hcpy (hset (hset r1 65 1 0 (r1 65 0 0)) 66 1 0 ((hset r1 65 1 0 (r1 65 0 0)) 66 0 0)) 68 1 68 0 0 0 (wmul ((hset (hset r1 65 1 0 (r1 65 0 0)) 66 1 0 ((hset r1 65 1 0 (r1 65 0 0)) 66 0 0)) 65 1 0) 6)) 69 1 69 0 0 0 (wmul ((hcpy (hset (hset r1 65 1 0 (r1 65 0 0)) 66 1 0 ((hset r1 65 1 0 (r1 65 0 0)) 66 0 0)) 68 1 68 0 0 0 (wmul ((hset (hset r1 65 1 0 (r1 65 0 0)) 66 1 0 ((hset r1 65 1 0 (r1 65 0 0)) 66 0 0)) 65 1 0) 6)) 65 1 0) 6)) 70 1 70 0 0 0 (wmul ((hcpy (hcpy (hset (hset r1 65 1 0 (r1 65 0 0)) 66 1 0 ((hset r1 65 1 0 (r1 65 0 0)) 66 0 0)) 68 1 68 0 0 0 (wmul ((hset (hset r1 65 1 0 (r1 65 0 0)) 66 1 0 ((hset r1 65 1 0 (r1 65 0 0)) 66 0 0)) 65 1 0) 6)) 69 1 69 0 0 0 (wmul ((hcpy (hset (hset r1 65 1 0 (r1 65 0 0)) 66 1 0 ((hset r1 65 1 0 (r1 65 0 0)) 66 0 0)) 68 1 68 0 0 0 (wmul ((hset (hset r1 65 1 0 (r1 65 0 0)) 66 1 0 ((hset r1 65 1 0 (r1 65 0 0)) 66 0 0)) 65 1 0) 6)) 65 1 0) 6)) 65 1 0) 8)) 72 1 72 0 0 0 ((hcpy (hcpy (hcpy (hset (hset r1 65 1 0 (r1 65 0 0)) 66 1 0 ((hset r1 65 1 0 (r1 65 0 0)) 66 0 0)) 68 1 68 0 0 0 (wmul ((hset (hset r1 65 1 0 (r1 65 0 0)) 66 1 0 ((hset r1 65 1 0 (r1 65 0 0)) 66 0 0)) 65 1 0) 6)) 69 1 69 0 0 0 (wmul ((hcpy (hset (hset r1 65 1 0 (r1 65 0 0)) 66 1 0 ((hset r1 65 1 0 (r1 65 0 0)) 66 0 0)) 68 1 68 0 0 0 (wmul ((hset (hset r1 65 1 0 (r1 65 0 0)) 66 1 0 ((hset r1 65 1 0 (r1 65 0 0)) 66 0 0)) 65 1 0) 6)) 65 1 0) 6)) 70 1 70 0 0 0 (wmul ((hcpy (hcpy (hset (hset r1 65 1 0 (r1 65 0 0)) 66 1 0 ((hset r1 65 1 0 (r1 65 0 0)) 66 0 0)) 68 1 68 0 0 0 (wmul ((hset (hset r1 65 1 0 (r1 65 0 0)) 66 1 0 ((hset r1 65 1 0 (r1 65 0 0)) 66 0 0)) 65 1 0) 6)) 69 1 69 0 0 0 (wmul ((hcpy (hset (hset r1 65 1 0 (r1 65 0 0)) 66 1 0 ((hset r1 65 1 0 (r1 65 0 0)) 66 0 0)) 68 1 68 0 0 0 (wmul ((hset (hset r1 65 1 0 (r1 65 0 0)) 66 1 0 ((hset r1 65 1 0 (r1 65 0 0)) 66 0 0)) 65 1 0) 6)) 65 1 0) 6)) 65 1 0) 8)) 65 1 0)) 66 1 0) 5), 0 + (wmul ((hcpy (hcpy (hcpy (hcpy (hset (hset r1 65 1 0 (r1 65 0 0)) 66 1 0 ((hset r1 65 1 0 (r1 65 0 0)) 66 0 0)) 68 1 68 0 0 0 (wmul ((hset (hset r1 65 1 0 (r1 65 0 0)) 66 1 0 ((hset r1 65 1 0 (r1 65 0 0)) 66 0 0)) 65 1 0) 6)) 69 1 69 0 0 0 (wmul ((hcpy (hset (hset r1 65 1 0 (r1 65 0 0)) 66 1 0 ((hset r1 65 1 0 (r1 65 0 0)) 66 0 0)) 68 1 68 0 0 0 (wmul ((hset (hset r1 65 1 0 (r1 65 0 0)) 66 1 0 ((hset r1 65 1 0 (r1 65 0 0)) 66 0 0)) 65 1 0) 6)) 65 1 0) 6)) 70 1 70 0 0 0 (wmul ((hcpy (hcpy (hset (hset r1 65 1 0 (r1 65 0 0)) 66 1 0 ((hset r1 65 1 0 (r1 65 0 0)) 66 0 0)) 68 1 68 0 0 0 (wmul ((hset (hset r1 65 1 0 (r1 65 0 0)) 66 1 0 ((hset r1 65 1 0 (r1 65 0 0)) 66 0 0)) 65 1 0) 6)) 69 1 69 0 0 0 (wmul ((hcpy (hset (hset r1 65 1 0 (r1 65 0 0)) 66 1 0 ((hset r1 65 1 0 (r1 65 0 0)) 66 0 0)) 68 1 68 0 0 0 (wmul ((hset (hset r1 65 1 0 (r1 65 0 0)) 66 1 0 ((hset r1 65 1 0 (r1 65 0 0)) 66 0 0)) 65 1 0) 6)) 65 1 0) 6)) 65 1 0) 8)) 72 1 72 0 0 0 ((hcpy (hcpy (hcpy (hset (hset r1 65 1 0 (r1 65 0 0)) 66 1 0 ((hset r1 65 1 0 (r1 65 0 0)) 66 0 0)) 68 1 68 0 0 0 (wmul ((hset (hset r1 65 1 0 (r1 65 0 0)) 66 1 0 ((hset r1 65 1 0 (r1 65 0 0)) 66 0 0)) 65 1 0) 6)) 69 1 69 0 0 0 (wmul ((hcpy (hset (hset r1 65 1 0 (r1 65 0 0)) 66 1 0 ((hset r1 65 1 0 (r1 65 0 0)) 66 0 0)) 68 1 68 0 0 0 (wmul ((hset (hset r1 65 1 0 (r1 65 0 0)) 66 1 0 ((hset r1 65 1 0 (r1 65 0 0)) 66 0 0)) 65 1 0) 6)) 65 1 0) 6)) 70 1 70 0 0 0 (wmul ((hcpy (hcpy (hset (hset r1 65 1 0 (r1 65 0 0)) 66 1 0 ((hset r1 65 1 0 (r1 65 0 0)) 66 0 0)) 68 1 68 0 0 0 (wmul ((hset (hset r1 65 1 0 (r1 65 0 0)) 66 1 0 ((hset r1 65 1 0 (r1 65 0 0)) 66 0 0)) 65 1 0) 6)) 69 1 69 0 0 0 (wmul ((hcpy (hset (hset r1 65 1 0 (r1 65 0 0)) 66 1 0 ((hset r1 65 1 0 (r1 65 0 0)) 66 0 0)) 68 1 68 0 0 0 (wmul ((hset (hset r1 65 1 0 (r1 65 0 0)) 66 1 0 ((hset r1 65 1 0 (r1 65 0 0)) 66 0 0)) 65 1 0) 6)) 65 1 0) 6)) 65 1 0) 8)) 65 1 0)) 66 1 0) 5) ≤ 900, 0 + (wmul ((hcpy (hcpy (hcpy (hcpy (hset (hset r1 65 1 0 (r1 65 0 0)) 66 1 0 ((hset r1 65 1 0 (r1 65 0 0)) 66 0 0)) 68 1 68 0 0 0 (wmul ((hset (hset r1 65 1 0 (r1 65 0 0)) 66 1 0 ((hset r1 65 1 0 (r1 65 0 0)) 66 0 0)) 65 1 0) 6)) 69 1 69 0 0 0 (wmul ((hcpy (hset (hset r1 65 1 0 (r1 65 0 0)) 66 1 0 ((hset r1 65 1 0 (r1 65 0 0)) 66 0 0)) 68 1 68 0 0 0 (wmul ((hset (hset r1 65 1 0 (r1 65 0 0)) 66 1 0 ((hset r1 65 1 0 (r1 65 0 0)) 66 0 0)) 65 1 0) 6)) 65 1 0) 6)) 70 1 70 0 0 0 (wmul ((hcpy (hcpy (hset (hset r1 65 1 0 (r1 65 0 0)) 66 1 0 ((hset r1 65 1 0 (r1 65 0 0)) 66 0 0)) 68 1 68 0 0 0 (wmul ((hset (hset r1 65 1 0 (r1 65 0 0)) 66 1 0 ((hset r1 65 1 0 (r1 65 0 0)) 66 0 0)) 65 1 0) 6)) 69 1 69 0 0 0 (wmul ((hcpy (hset (hset r1 65 1 0 (r1 65 0 0)) 66 1 0 ((hset r1 65 1 0 (r1 65 0 0)) 66 0 0)) 68 1 68 0 0 0 (wmul ((hset (hset r1 65 1 0 (r1 65 0 0)) 66 1 0 ((hset r1 65 1 0 (r1 65 0 0)) 66 0 0)) 65 1 0) 6)) 65 1 0) 6)) 65 1 0) 8)) 72 1 72 0 0 0 ((hcpy (hcpy (hcpy (hset (hset r1 65 1 0 (r1 65 0 0)) 66 1 0 ((hset r1 65 1 0 (r1 65 0 0)) 66 0 0)) 68 1 68 0 0 0 (wmul ((hset (hset r1 65 1 0 (r1 65 0 0)) 66 1 0 ((hset r1 65 1 0 (r1 65 0 0)) 66 0 0)) 65 1 0) 6)) 69 1 69 0 0 0 (wmul ((hcpy (hset (hset r1 65 1 0 (r1 65 0 0)) 66 1 0 ((hset r1 65 1 0 (r1 65 0 0)) 66 0 0)) 68 1 68 0 0 0 (wmul ((hset (hset r1 65 1 0 (r1 65 0 0)) 66 1 0 ((hset r1 65 1 0 (r1 65 0 0)) 66 0 0)) 65 1 0) 6)) 65 1 0) 6)) 70 1 70 0 0 0 (wmul ((hcpy (hcpy (hset (hset r1 65 1 0 (r1 65 0 0)) 66 1 0 ((hset r1 65 1 0 (r1 65 0 0)) 66 0 0)) 68 1 68 0 0 0 (wmul ((hset (hset r1 65 1 0 (r1 65 0 0)) 66 1 0 ((hset r1 65 1 0 (r1 65 0 0)) 66 0 0)) 65 1 0) 6)) 69 1 69 0 0 0 (wmul ((hcpy (hset (hset r1 65 1 0 (r1 65 0 0)) 66 1 0 ((hset r1 65 1 0 (r1 65 0 0)) 66 0 0)) 68 1 68 0 0 0 (wmul ((hset (hset r1 65 1 0 (r1 65 0 0)) 66 1 0 ((hset r1 65 1 0 (r1 65 0 0)) 66 0 0)) 65 1 0) 6)) 65 1 0) 6)) 65 1 0) 8)) 65 1 0)) 66 1 0) 5) ≤ 900]) (c' := (117, [some (11, 1), some (11, 0)], [], ((hcpy (hcpy (hcpy (hcpy (hcpy (hset (hset r1 65 1 0 (r1 65 0 0)) 66 1 0 ((hset r1 65 1 0 (r1 65 0 0)) 66 0 0)) 68 1 68 0 0 0 (wmul ((hset (hset r1 65 1 0 (r1 65 0 0)) 66 1 0 ((hset r1 65 1 0 (r1 65 0 0)) 66 0 0)) 65 1 0) 6)) 69 1 69 0 0 0 (wmul ((hcpy (hset (hset r1 65 1 0 (r1 65 0 0)) 66 1 0 ((hset r1 65 1 0 (r1 65 0 0)) 66 0 0)) 68 1 68 0 0 0 (wmul ((hset (hset r1 65 1 0 (r1 65 0 0)) 66 1 0 ((hset r1 65 1 0 (r1 65 0 0)) 66 0 0)) 65 1 0) 6)) 65 1 0) 6)) 70 1 70 0 0 0 (wmul ((hcpy (hcpy (hset (hset r1 65 1 0 (r1 65 0 0)) 66 1 0 ((hset r1 65 1 0 (r1 65 0 0)) 66 0 0)) 68 1 68 0 0 0 (wmul ((hset (hset r1 65 1 0 (r1 65 0 0)) 66 1 0 ((hset r1 65 1 0 (r1 65 0 0)) 66 0 0)) 65 1 0) 6)) 69 1 69 0 0 0 (wmul ((hcpy (hset (hset r1 65 1 0 (r1 65 0 0)) 66 1 0 ((hset r1 65 1 0 (r1 65 0 0)) 66 0 0)) 68 1 68 0 0 0 (wmul ((hset (hset r1 65 1 0 (r1 65 0 0)) 66 1 0 ((hset r1 65 1 0 (r1 65 0 0)) 66 0 0)) 65 1 0) 6)) 65 1 0) 6)) 65 1 0) 8)) 72 1 72 0 0 0 ((hcpy (hcpy (hcpy (hset (hset r1 65 1 0 (r1 65 0 0)) 66 1 0 ((hset r1 65 1 0 (r1 65 0 0)) 66 0 0)) 68 1 68 0 0 0 (wmul ((hset (hset r1 65 1 0 (r1 65 0 0)) 66 1 0 ((hset r1 65 1 0 (r1 65 0 0)) 66 0 0)) 65 1 0) 6)) 69 1 69 0 0 0 (wmul ((hcpy (hset (hset r1 65 1 0 (r1 65 0 0)) 66 1 0 ((hset r1 65 1 0 (r1 65 0 0)) 66 0 0)) 68 1 68 0 0 0 (wmul ((hset (hset r1 65 1 0 (r1 65 0 0)) 66 1 0 ((hset r1 65 1 0 (r1 65 0 0)) 66 0 0)) 65 1 0) 6)) 65 1 0) 6)) 70 1 70 0 0 0 (wmul ((hcpy (hcpy (hset (hset r1 65 1 0 (r1 65 0 0)) 66 1 0 ((hset r1 65 1 0 (r1 65 0 0)) 66 0 0)) 68 1 68 0 0 0 (wmul ((hset (hset r1 65 1 0 (r1 65 0 0)) 66 1 0 ((hset r1 65 1 0 (r1 65 0 0)) 66 0 0)) 65 1 0) 6)) 69 1 69 0 0 0 (wmul ((hcpy (hset (hset r1 65 1 0 (r1 65 0 0)) 66 1 0 ((hset r1 65 1 0 (r1 65 0 0)) 66 0 0)) 68 1 68 0 0 0 (wmul ((hset (hset r1 65 1 0 (r1 65 0 0)) 66 1 0 ((hset r1 65 1 0 (r1 65 0 0)) 66 0 0)) 65 1 0) 6)) 65 1 0) 6)) 65 1 0) 8)) 65 1 0)) 71 1 71 0 0 0 (wmul ((hcpy (hcpy (hcpy (hcpy (hset (hset r1 65 1 0 (r1 65 0 0)) 66 1 0 ((hset r1 65 1 0 (r1 65 0 0)) 66 0 0)) 68 1 68 0 0 0 (wmul ((hset (hset r1 65 1 0 (r1 65 0 0)) 66 1 0 ((hset r1 65 1 0 (r1 65 0 0)) 66 0 0)) 65 1 0) 6)) 69 1 69 0 0 0 (wmul ((hcpy (hset (hset r1 65 1 0 (r1 65 0 0)) 66 1 0 ((hset r1 65 1 0 (r1 65 0 0)) 66 0 0)) 68 1 68 0 0 0 (wmul ((hset (hset r1 65 1 0 (r1 65 0 0)) 66 1 0 ((hset r1 65 1 0 (r1 65 0 0)) 66 0 0)) 65 1 0) 6)) 65 1 0) 6)) 70 1 70 0 0 0 (wmul ((hcpy (hcpy (hset (hset r1 65 1 0 (r1 65 0 0)) 66 1 0 ((hset r1 65 1 0 (r1 65 0 0)) 66 0 0)) 68 1 68 0 0 0 (wmul ((hset (hset r1 65 1 0 (r1 65 0 0)) 66 1 0 ((hset r1 65 1 0 (r1 65 0 0)) 66 0 0)) 65 1 0) 6)) 69 1 69 0 0 0 (wmul ((hcpy (hset (hset r1 65 1 0 (r1 65 0 0)) 66 1 0 ((hset r1 65 1 0 (r1 65 0 0)) 66 0 0)) 68 1 68 0 0 0 (wmul ((hset (hset r1 65 1 0 (r1 65 0 0)) 66 1 0 ((hset r1 65 1 0 (r1 65 0 0)) 66 0 0)) 65 1 0) 6)) 65 1 0) 6)) 65 1 0) 8)) 72 1 72 0 0 0 ((hcpy (hcpy (hcpy (hset (hset r1 65 1 0 (r1 65 0 0)) 66 1 0 ((hset r1 65 1 0 (r1 65 0 0)) 66 0 0)) 68 1 68 0 0 0 (wmul ((hset (hset r1 65 1 0 (r1 65 0 0)) 66 1 0 ((hset r1 65 1 0 (r1 65 0 0)) 66 0 0)) 65 1 0) 6)) 69 1 69 0 0 0 (wmul ((hcpy (hset (hset r1 65 1 0 (r1 65 0 0)) 66 1 0 ((hset r1 65 1 0 (r1 65 0 0)) 66 0 0)) 68 1 68 0 0 0 (wmul ((hset (hset r1 65 1 0 (r1 65 0 0)) 66 1 0 ((hset r1 65 1 0 (r1 65 0 0)) 66 0 0)) 65 1 0) 6)) 65 1 0) 6)) 70 1 70 0 0 0 (wmul ((hcpy (hcpy (hset (hset r1 65 1 0 (r1 65 0 0)) 66 1 0 ((hset r1 65 1 0 (r1 65 0 0)) 66 0 0)) 68 1 68 0 0 0 (wmul ((hset (hset r1 65 1 0 (r1 65 0 0)) 66 1 0 ((hset r1 65 1 0 (r1 65 0 0)) 66 0 0)) 65 1 0) 6)) 69 1 69 0 0 0 (wmul ((hcpy (hset (hset r1 65 1 0 (r1 65 0 0)) 66 1 0 ((hset r1 65 1 0 (r1 65 0 0)) 66 0 0)) 68 1 68 0 0 0 (wmul ((hset (hset r1 65 1 0 (r1 65 0 0)) 66 1 0 ((hset r1 65 1 0 (r1 65 0 0)) 66 0 0)) 65 1 0) 6)) 65 1 0) 6)) 65 1 0) 8)) 65 1 0)) 66 1 0) 5)), hm, o))) K71c_1 rfl ⟨by decide, by decide, q2, q3, q3, by decide, by decide, q4, q5, q5, by decide, by decide, q6, q7, q7, by decide, by decide, q8, q9, q9, by decide, by decide, q10, q11, q11, trivial⟩ ?_
  obtain rfl := Option.some.inj e
  exact zF_rv (by decide +kernel)
def B86b_0 : List zRow := [(0, .ldc 87, 2, (0, 0, 1000000)), (2, .istore_n 2, 1, (0, 0, 0)), (3, .iload_n 1, 1, (0, 0, 0)), (4, .bipush 6, 2, (0, 0, 0)), (6, .imul, 1, (0, 0, 0)), (7, .istore_n 3, 1, (0, 0, 0))]
theorem K86b_0 : zRk 86 B86b_0 = true := by decide +kernel
def B86b_1 : List zRow := [(54, .aload_n 0, 1, (0, 0, 0)), (55, .getfield 27, 3, (1, 8, 5243002)), (58, .iload_n 1, 1, (0, 0, 0)), (59, .iload_n 2, 1, (0, 0, 0)), (60, .iastore, 1, (0, 0, 0))]
theorem K86b_1 : zRk 86 B86b_1 = true := by decide +kernel
def B86b_2 : List zRow := [(41, .aload_n 0, 1, (0, 0, 0)), (42, .getfield 15, 3, (1, 4, 5243602)), (45, .iload_n 3, 1, (0, 0, 0)), (46, .iaload, 1, (0, 0, 0)), (47, .istore_n 2, 1, (0, 0, 0))]
theorem K86b_2 : zRk 86 B86b_2 = true := by decide +kernel
def B86b_3 : List zRow := [(31, .aload_n 0, 1, (0, 0, 0)), (32, .getfield 15, 3, (1, 4, 5243602)), (35, .iload_n 3, 1, (0, 0, 0)), (36, .iaload, 1, (0, 0, 0)), (37, .iload_n 2, 1, (0, 0, 0)), (38, .if_icmp .ge 10, 3, (0, 0, 0))]
theorem K86b_3 : zRk 86 B86b_3 = true := by decide +kernel
def B86b_4 : List zRow := [(18, .aload_n 0, 1, (0, 0, 0)), (19, .getfield 15, 3, (1, 4, 5243602)), (22, .iload_n 3, 1, (0, 0, 0)), (23, .iaload, 1, (0, 0, 0)), (24, .aload_n 0, 1, (0, 0, 0)), (25, .getfield 30, 3, (1, 0, 0)), (28, .if_icmp .le 20, 3, (0, 0, 0))]
theorem K86b_4 : zRk 86 B86b_4 = true := by decide +kernel
def B86b_5 : List zRow := [(8, .iload_n 3, 1, (0, 0, 0)), (9, .iload_n 1, 1, (0, 0, 0)), (10, .iconst 1, 1, (0, 0, 0)), (11, .iadd, 1, (0, 0, 0)), (12, .bipush 6, 2, (0, 0, 0)), (14, .imul, 1, (0, 0, 0)), (15, .if_icmp .ge 39, 3, (0, 0, 0))]
theorem K86b_5 : zRk 86 B86b_5 = true := by decide +kernel
def B86b_6 : List zRow := [(48, .iinc 3 1, 3, (0, 0, 0)), (51, .goto (-43), 3, (0, 0, 0))]
theorem K86b_6 : zRk 86 B86b_6 = true := by decide +kernel
def F86b_1 (k0 : Int → Int → Int → zHC → Option zHC) (v1 : Int) (v2 : Int) (v3 : Int) (h : zHC) : Option zHC := k0 v1 v2 (wadd v3 1) h
set_option maxRecDepth 100000 in
theorem T86b_1 {spec : zRn zH2} {hm : zHM} {o : Int → Int} {d : Nat} (hd : 0 ≤ d) (k0 : Int → Int → Int → zHC → Option zHC) (hk0 : ∀ (v1 : Int) (v2 : Int) (v3 : Int) (h : zHC) (v : zHC), k0 v1 v2 v3 h = some v → zFin 0 (fun _ => 0) (zRu2 spec d) 86 none (v, hm, o) (8, [some (11, 1), some (0, v1), some (0, v2), some (0, v3)], [], (h, hm, o))) (v1 : Int) (v2 : Int) (v3 : Int) (h : zHC) (v : zHC) (e : F86b_1 k0 v1 v2 v3 h = some v) : zFin 0 (fun _ => 0) (zRu2 spec d) 86 none (v, hm, o) (48, [some (11, 1), some (0, v1), some (0, v2), some (0, v3)], [], (h, hm, o)) := by
  unfold F86b_1 at e
  refine zF_blk (m := []) (d := 0) (b := B86b_6) (gs := []) (c' := (8, [some (11, 1), some (0, v1), some (0, v2), some (0, (wadd v3 1))], [], (h, hm, o))) K86b_6 rfl trivial ?_
  exact hk0 v1 v2 (wadd v3 1) h _ e
def F86b_0 : Nat → Int → Int → Int → zHC → Option zHC
  | 0, _, _, _, _ => none
  | n + 1, v1, v2, v3, h => if (wmul (wadd v1 1) 6) ≤ v3 then zG (0 ≤ v1 ∧ v1 < 30) (some (hset h 72 1 v1 v2)) else zG (0 ≤ v3 ∧ v3 < 180) (if (h 68 1 v3) ≤ (h 64 1 0) then F86b_1 (F86b_0 n) v1 v2 v3 h else zG (0 ≤ v3 ∧ v3 < 180) (if v2 ≤ (h 68 1 v3) then F86b_1 (F86b_0 n) v1 v2 v3 h else zG (0 ≤ v3 ∧ v3 < 180) (F86b_1 (F86b_0 n) v1 (h 68 1 v3) v3 h)))
set_option maxRecDepth 100000 in
theorem T86b_0 {spec : zRn zH2} {hm : zHM} {o : Int → Int} {d : Nat} (hd : 0 ≤ d) : ∀ (n : Nat) (v1 : Int) (v2 : Int) (v3 : Int) (h : zHC) (v : zHC), F86b_0 n v1 v2 v3 h = some v → zFin 0 (fun _ => 0) (zRu2 spec d) 86 none (v, hm, o) (8, [some (11, 1), some (0, v1), some (0, v2), some (0, v3)], [], (h, hm, o)) := by
  intro n
  induction n with
  | zero => intro v1 v2 v3 h v e; unfold F86b_0 at e; cases e
  | succ n hk0 =>
    intro v1 v2 v3 h v e
    unfold F86b_0 at e
    rcases zI_s e with ⟨q1, e⟩ | ⟨q1, e⟩
    · refine zF_blk (m := []) (d := 1) (b := B86b_5) (gs := [(wmul (wadd v1 1) 6) ≤ v3]) (c' := (54, [some (11, 1), some (0, v1), some (0, v2), some (0, v3)], [], (h, hm, o))) K86b_5 rfl ⟨q1, trivial⟩ ?_
      obtain ⟨q2, e⟩ := zG_s e
      refine zF_blk (m := []) (d := 0) (b := B86b_1) (gs := [0 ≤ v1 ∧ v1 < 30]) (c' := (61, [some (11, 1), some (0, v1), some (0, v2), some (0, v3)], [], ((hset h 72 1 v1 v2), hm, o))) K86b_1 rfl ⟨q2, trivial⟩ ?_
      obtain rfl := Option.some.inj e
      exact zF_rv (by decide +kernel)
    · refine zF_blk (m := []) (d := 0) (b := B86b_5) (gs := [¬ ((wmul (wadd v1 1) 6) ≤ v3)]) (c' := (18, [some (11, 1), some (0, v1), some (0, v2), some (0, v3)], [], (h, hm, o))) K86b_5 rfl ⟨q1, trivial⟩ ?_
      obtain ⟨q3, e⟩ := zG_s e
      rcases zI_s e with ⟨q4, e⟩ | ⟨q4, e⟩
      · refine zF_blk (m := []) (d := 1) (b := B86b_4) (gs := [0 ≤ v3 ∧ v3 < 180, (h 68 1 v3) ≤ (h 64 1 0)]) (c' := (48, [some (11, 1), some (0, v1), some (0, v2), some (0, v3)], [], (h, hm, o))) K86b_4 rfl ⟨q3, q4, trivial⟩ ?_
        exact T86b_1 hd (F86b_0 n) hk0 v1 v2 v3 h _ e
      · refine zF_blk (m := []) (d := 0) (b := B86b_4) (gs := [0 ≤ v3 ∧ v3 < 180, ¬ ((h 68 1 v3) ≤ (h 64 1 0))]) (c' := (31, [some (11, 1), some (0, v1), some (0, v2), some (0, v3)], [], (h, hm, o))) K86b_4 rfl ⟨q3, q4, trivial⟩ ?_
        obtain ⟨q5, e⟩ := zG_s e
        rcases zI_s e with ⟨q6, e⟩ | ⟨q6, e⟩
        · refine zF_blk (m := []) (d := 1) (b := B86b_3) (gs := [0 ≤ v3 ∧ v3 < 180, v2 ≤ (h 68 1 v3)]) (c' := (48, [some (11, 1), some (0, v1), some (0, v2), some (0, v3)], [], (h, hm, o))) K86b_3 rfl ⟨q5, q6, trivial⟩ ?_
          exact T86b_1 hd (F86b_0 n) hk0 v1 v2 v3 h _ e
        · refine zF_blk (m := []) (d := 0) (b := B86b_3) (gs := [0 ≤ v3 ∧ v3 < 180, ¬ (v2 ≤ (h 68 1 v3))]) (c' := (41, [some (11, 1), some (0, v1), some (0, v2), some (0, v3)], [], (h, hm, o))) K86b_3 rfl ⟨q5, q6, trivial⟩ ?_
          obtain ⟨q7, e⟩ := zG_s e
          refine zF_blk (m := []) (d := 0) (b := B86b_2) (gs := [0 ≤ v3 ∧ v3 < 180]) (c' := (48, [some (11, 1), some (0, v1), some (0, (h 68 1 v3)), some (0, v3)], [], (h, hm, o))) K86b_2 rfl ⟨q7, trivial⟩ ?_
          exact T86b_1 hd (F86b_0 n) hk0 v1 (h 68 1 v3) v3 h _ e
/-- EchoVale$Course.findSoonest(I)V -/
def F86b (v1 : Int) (h : zHC) : Option zHC := F86b_0 zFu v1 1000000 (wmul v1 6) h
set_option maxRecDepth 100000 in
theorem S86b {spec : zRn zH2} {hm : zHM} {o : Int → Int} {d : Nat} (hd : 1 ≤ d) (v1 : Int) (h : zHC) (v : zHC) (e : F86b v1 h = some v) : zRu2 spec d 86 [(11, 1), (0, v1)] (h, hm, o) none (v, hm, o) := by
  refine zF_in (D := 0) (mx := 4) (L := [some (11, 1), some (0, v1), none, none]) (by decide +kernel) rfl rfl hd (fun d hd => ?_)
  unfold F86b at e
  refine zF_blk (m := []) (d := 0) (b := B86b_0) (gs := []) (c' := (8, [some (11, 1), some (0, v1), some (0, 1000000), some (0, (wmul v1 6))], [], (h, hm, o))) K86b_0 rfl trivial ?_
  exact T86b_0 hd zFu v1 1000000 (wmul v1 6) h _ e
def B93b_0 : List zRow := [(0, .iconst 0, 1, (0, 0, 0)), (1, .istore 4, 2, (0, 0, 0)), (3, .iconst 0, 1, (0, 0, 0)), (4, .istore 5, 2, (0, 0, 0))]
theorem K93b_0 : zRk 93 B93b_0 = true := by decide +kernel
def B93b_1 : List zRow := [(54, .iload 4, 2, (0, 0, 0))]
theorem K93b_1 : zRk 93 B93b_1 = true := by decide +kernel
def B93b_2 : List zRow := [(22, .aload_n 0, 1, (0, 0, 0)), (23, .getfield 15, 3, (9, 8, 5242906)), (26, .iload_n 1, 1, (0, 0, 0)), (27, .iaload, 1, (0, 0, 0)), (28, .aload_n 3, 1, (0, 0, 0)), (29, .iload 5, 2, (0, 0, 0)), (31, .iaload, 1, (0, 0, 0))]
theorem K93b_2 : zRk 93 B93b_2 = true := by decide +kernel
def B93b_3 : List zRow := [(39, .iload 4, 2, (0, 0, 0)), (41, .iconst 1, 1, (0, 0, 0)), (42, .iload 5, 2, (0, 0, 0)), (44, .ishl, 1, (0, 0, 0)), (45, .ior, 1, (0, 0, 0)), (46, .istore 4, 2, (0, 0, 0))]
theorem K93b_3 : zRk 93 B93b_3 = true := by decide +kernel
def B93b_4 : List zRow := [(35, .iload_n 2, 1, (0, 0, 0)), (36, .if_icmp .gt 12, 3, (0, 0, 0))]
theorem K93b_4 : zRk 93 B93b_4 = true := by decide +kernel
def B93b_5 : List zRow := [(15, .iload 5, 2, (0, 0, 0)), (17, .aload_n 3, 1, (0, 0, 0)), (18, .arraylength, 1, (0, 0, 0)), (19, .if_icmp .ge 35, 3, (0, 0, 0))]
theorem K93b_5 : zRk 93 B93b_5 = true := by decide +kernel
def B93b_6 : List zRow := [(6, .iload 5, 2, (0, 0, 0)), (8, .aload_n 0, 1, (0, 0, 0)), (9, .getfield 62, 3, (9, 3, 0)), (12, .if_icmp .ge 42, 3, (0, 0, 0))]
theorem K93b_6 : zRk 93 B93b_6 = true := by decide +kernel
def B93b_7 : List zRow := [(48, .iinc 5 1, 3, (0, 0, 0)), (51, .goto (-45), 3, (0, 0, 0))]
theorem K93b_7 : zRk 93 B93b_7 = true := by decide +kernel
def F93b_1 (k0 : Int → Int → Int → Int → Option Int) (h : zHC) (v1 : Int) (v2 : Int) (v4 : Int) (v5 : Int) : Option Int := k0 v1 v2 v4 (wadd v5 1)
set_option maxRecDepth 100000 in
theorem T93b_1 {spec : zRn zH2} {hm : zHM} {o : Int → Int} {d : Nat} (hd : 1 ≤ d) (h : zHC) (k0 : Int → Int → Int → Int → Option Int) (hk0 : ∀ (v1 : Int) (v2 : Int) (v4 : Int) (v5 : Int) (v : Int), k0 v1 v2 v4 v5 = some v → zFin 0 (fun _ => 0) (zRu2 spec d) 93 (some (0, v)) (h, hm, o) (6, [some (19, 0), some (0, v1), some (0, v2), some (1342184491, 1), some (0, v4), some (0, v5)], [], (h, hm, o))) (v1 : Int) (v2 : Int) (v4 : Int) (v5 : Int) (v : Int) (e : F93b_1 k0 h v1 v2 v4 v5 = some v) : zFin 0 (fun _ => 0) (zRu2 spec d) 93 (some (0, v)) (h, hm, o) (48, [some (19, 0), some (0, v1), some (0, v2), some (1342184491, 1), some (0, v4), some (0, v5)], [], (h, hm, o)) := by
  unfold F93b_1 at e
  refine zF_blk (m := []) (d := 0) (b := B93b_7) (gs := []) (c' := (6, [some (19, 0), some (0, v1), some (0, v2), some (1342184491, 1), some (0, v4), some (0, (wadd v5 1))], [], (h, hm, o))) K93b_7 rfl trivial ?_
  exact hk0 v1 v2 v4 (wadd v5 1) _ e
def F93b_0 (h : zHC) : Nat → Int → Int → Int → Int → Option Int
  | 0, _, _, _, _ => none
  | n + 1, v1, v2, v4, v5 => if (h 579 0 0) ≤ v5 then some v4 else if 6 ≤ v5 then some v4 else zG (0 ≤ v1 ∧ v1 < 6) (zG (0 ≤ v5 ∧ v5 < 6) ((F83 (h 584 0 v1) (h 67 1 v5)).bind fun r1 => if v2 < r1 then F93b_1 (F93b_0 h n) h v1 v2 v4 v5 else F93b_1 (F93b_0 h n) h v1 v2 (wor v4 (wshl 1 v5)) v5))
set_option maxRecDepth 100000 in
theorem T93b_0 {spec : zRn zH2} {hm : zHM} {o : Int → Int} {d : Nat} (hd : 1 ≤ d) (h : zHC) : ∀ (n : Nat) (v1 : Int) (v2 : Int) (v4 : Int) (v5 : Int) (v : Int), F93b_0 h n v1 v2 v4 v5 = some v → zFin 0 (fun _ => 0) (zRu2 spec d) 93 (some (0, v)) (h, hm, o) (6, [some (19, 0), some (0, v1), some (0, v2), some (1342184491, 1), some (0, v4), some (0, v5)], [], (h, hm, o)) := by
  intro n
  induction n with
  | zero => intro v1 v2 v4 v5 v e; unfold F93b_0 at e; cases e
  | succ n hk0 =>
    intro v1 v2 v4 v5 v e
    unfold F93b_0 at e
    rcases zI_s e with ⟨q1, e⟩ | ⟨q1, e⟩
    · refine zF_blk (m := []) (d := 1) (b := B93b_6) (gs := [(h 579 0 0) ≤ v5]) (c' := (54, [some (19, 0), some (0, v1), some (0, v2), some (1342184491, 1), some (0, v4), some (0, v5)], [], (h, hm, o))) K93b_6 rfl ⟨q1, trivial⟩ ?_
      refine zF_blk (m := []) (d := 0) (b := B93b_1) (gs := []) (c' := (56, [some (19, 0), some (0, v1), some (0, v2), some (1342184491, 1), some (0, v4), some (0, v5)], [(0, v4)], (h, hm, o))) K93b_1 rfl trivial ?_
      obtain rfl := Option.some.inj e
      exact zF_ri (by decide +kernel)
    · refine zF_blk (m := []) (d := 0) (b := B93b_6) (gs := [¬ ((h 579 0 0) ≤ v5)]) (c' := (15, [some (19, 0), some (0, v1), some (0, v2), some (1342184491, 1), some (0, v4), some (0, v5)], [], (h, hm, o))) K93b_6 rfl ⟨q1, trivial⟩ ?_
      rcases zI_s e with ⟨q2, e⟩ | ⟨q2, e⟩
      · refine zF_blk (m := []) (d := 1) (b := B93b_5) (gs := [6 ≤ v5]) (c' := (54, [some (19, 0), some (0, v1), some (0, v2), some (1342184491, 1), some (0, v4), some (0, v5)], [], (h, hm, o))) K93b_5 rfl ⟨q2, trivial⟩ ?_
        refine zF_blk (m := []) (d := 0) (b := B93b_1) (gs := []) (c' := (56, [some (19, 0), some (0, v1), some (0, v2), some (1342184491, 1), some (0, v4), some (0, v5)], [(0, v4)], (h, hm, o))) K93b_1 rfl trivial ?_
        obtain rfl := Option.some.inj e
        exact zF_ri (by decide +kernel)
      · refine zF_blk (m := []) (d := 0) (b := B93b_5) (gs := [¬ (6 ≤ v5)]) (c' := (22, [some (19, 0), some (0, v1), some (0, v2), some (1342184491, 1), some (0, v4), some (0, v5)], [], (h, hm, o))) K93b_5 rfl ⟨q2, trivial⟩ ?_
        obtain ⟨q3, e⟩ := zG_s e
        obtain ⟨q4, e⟩ := zG_s e
        obtain ⟨r1, q5, e⟩ := zB_s e
        refine zF_blk (m := []) (d := 0) (b := B93b_2) (gs := [0 ≤ v1 ∧ v1 < 6, 0 ≤ v5 ∧ v5 < 6]) (c' := (32, [some (19, 0), some (0, v1), some (0, v2), some (1342184491, 1), some (0, v4), some (0, v5)], [(0, (h 67 1 v5)), (0, (h 584 0 v1))], (h, hm, o))) K93b_2 rfl ⟨q3, q4, trivial⟩ ?_
        refine zF_call (k := 83) (cl := 9) (n := 2) (i := .invokestatic 101) (args := [(0, (h 584 0 v1)), (0, (h 67 1 v5))]) (rest := []) (g1 := (h, hm, o)) (r1 := some (0, r1)) (by decide +kernel) rfl rfl rfl (st' := [(0, r1)]) rfl (S83 (Nat.le_trans (by decide) hd) (h 584 0 v1) (h 67 1 v5) h _ q5) ?_
        rcases zI_s e with ⟨q6, e⟩ | ⟨q6, e⟩
        · refine zF_blk (m := []) (d := 1) (b := B93b_4) (gs := [v2 < r1]) (c' := (48, [some (19, 0), some (0, v1), some (0, v2), some (1342184491, 1), some (0, v4), some (0, v5)], [], (h, hm, o))) K93b_4 rfl ⟨q6, trivial⟩ ?_
          exact T93b_1 hd h (F93b_0 h n) hk0 v1 v2 v4 v5 _ e
        · refine zF_blk (m := []) (d := 0) (b := B93b_4) (gs := [¬ (v2 < r1)]) (c' := (39, [some (19, 0), some (0, v1), some (0, v2), some (1342184491, 1), some (0, v4), some (0, v5)], [], (h, hm, o))) K93b_4 rfl ⟨q6, trivial⟩ ?_
          refine zF_blk (m := []) (d := 0) (b := B93b_3) (gs := []) (c' := (48, [some (19, 0), some (0, v1), some (0, v2), some (1342184491, 1), some (0, (wor v4 (wshl 1 v5))), some (0, v5)], [], (h, hm, o))) K93b_3 rfl trivial ?_
          exact T93b_1 hd h (F93b_0 h n) hk0 v1 v2 (wor v4 (wshl 1 v5)) v5 _ e
/-- EchoVale$Valley.hearersAt(II[I)I -/
def F93b (v1 : Int) (v2 : Int) (h : zHC) : Option Int := F93b_0 h zFu v1 v2 0 0
set_option maxRecDepth 100000 in
theorem S93b {spec : zRn zH2} {hm : zHM} {o : Int → Int} {d : Nat} (hd : 2 ≤ d) (v1 : Int) (v2 : Int) (h : zHC) (v : Int) (e : F93b v1 v2 h = some v) : zRu2 spec d 93 [(19, 0), (0, v1), (0, v2), (1342184491, 1)] (h, hm, o) (some (0, v)) (h, hm, o) := by
  refine zF_in (D := 1) (mx := 6) (L := [some (19, 0), some (0, v1), some (0, v2), some (1342184491, 1), none, none]) (by decide +kernel) rfl rfl hd (fun d hd => ?_)
  unfold F93b at e
  refine zF_blk (m := []) (d := 0) (b := B93b_0) (gs := []) (c' := (6, [some (19, 0), some (0, v1), some (0, v2), some (1342184491, 1), some (0, 0), some (0, 0)], [], (h, hm, o))) K93b_0 rfl trivial ?_
  exact T93b_0 hd h zFu v1 v2 0 0 _ e
def B94b_0 : List zRow := [(11, .aload_n 0, 1, (0, 0, 0)), (12, .getfield 37, 3, (1, 2, 0)), (15, .iconst 5, 1, (0, 0, 0)), (16, .imul, 1, (0, 0, 0)), (17, .istore 5, 2, (0, 0, 0)), (19, .aload_n 0, 1, (0, 0, 0)), (20, .getfield 24, 3, (1, 7, 5246482)), (23, .iload 5, 2, (0, 0, 0)), (25, .iconst 0, 1, (0, 0, 0)), (26, .iadd, 1, (0, 0, 0)), (27, .iload_n 1, 1, (0, 0, 0)), (28, .iastore, 1, (0, 0, 0)), (29, .aload_n 0, 1, (0, 0, 0)), (30, .getfield 24, 3, (1, 7, 5246482)), (33, .iload 5, 2, (0, 0, 0)), (35, .iconst 1, 1, (0, 0, 0)), (36, .iadd, 1, (0, 0, 0)), (37, .iload_n 2, 1, (0, 0, 0)), (38, .iastore, 1, (0, 0, 0)), (39, .aload_n 0, 1, (0, 0, 0)), (40, .getfield 24, 3, (1, 7, 5246482)), (43, .iload 5, 2, (0, 0, 0)), (45, .iconst 2, 1, (0, 0, 0)), (46, .iadd, 1, (0, 0, 0)), (47, .aload_n 0, 1, (0, 0, 0)), (48, .getfield 30, 3, (1, 0, 0)), (51, .iastore, 1, (0, 0, 0)), (52, .aload_n 0, 1, (0, 0, 0)), (53, .getfield 24, 3, (1, 7, 5246482)), (56, .iload 5, 2, (0, 0, 0)), (58, .iconst 3, 1, (0, 0, 0)), (59, .iadd, 1, (0, 0, 0)), (60, .iload_n 3, 1, (0, 0, 0)), (61, .iastore, 1, (0, 0, 0)), (62, .aload_n 0, 1, (0, 0, 0)), (63, .getfield 24, 3, (1, 7, 5246482)), (66, .iload 5, 2, (0, 0, 0)), (68, .iconst 4, 1, (0, 0, 0)), (69, .iadd, 1, (0, 0, 0)), (70, .iload 4, 2, (0, 0, 0)), (72, .iastore, 1, (0, 0, 0)), (73, .aload_n 0, 1, (0, 0, 0)), (74, .dup, 1, (0, 0, 0)), (75, .getfield 37, 3, (1, 2, 0)), (78, .iconst 1, 1, (0, 0, 0)), (79, .iadd, 1, (0, 0, 0)), (80, .putfield 37, 3, (1, 2, 0))]
theorem K94b_0 : zRk 94 B94b_0 = true := by decide +kernel
def B94b_1 : List zRow := [(0, .aload_n 0, 1, (0, 0, 0)), (1, .getfield 37, 3, (1, 2, 0)), (4, .sipush 180, 3, (0, 0, 0)), (7, .if_icmp .lt 4, 3, (0, 0, 0))]
theorem K94b_1 : zRk 94 B94b_1 = true := by decide +kernel
/-- EchoVale$Course.enterLog(IIII)V -/
def F94b (v1 : Int) (v2 : Int) (v3 : Int) (v4 : Int) (h : zHC) : Option zHC := if (h 66 1 0) < 180 then zG (0 ≤ (wadd (wmul (h 66 1 0) 5) 0) ∧ (wadd (wmul (h 66 1 0) 5) 0) < 900) (zG (0 ≤ (wadd (wmul (h 66 1 0) 5) 1) ∧ (wadd (wmul (h 66 1 0) 5) 1) < 900) (zG (0 ≤ (wadd (wmul (h 66 1 0) 5) 2) ∧ (wadd (wmul (h 66 1 0) 5) 2) < 900) (zG (0 ≤ (wadd (wmul (h 66 1 0) 5) 3) ∧ (wadd (wmul (h 66 1 0) 5) 3) < 900) (zG (0 ≤ (wadd (wmul (h 66 1 0) 5) 4) ∧ (wadd (wmul (h 66 1 0) 5) 4) < 900) (some (hset (hset (hset (hset (hset (hset h 71 1 (wadd (wmul (h 66 1 0) 5) 0) v1) 71 1 (wadd (wmul (h 66 1 0) 5) 1) v2) 71 1 (wadd (wmul (h 66 1 0) 5) 2) ((hset (hset h 71 1 (wadd (wmul (h 66 1 0) 5) 0) v1) 71 1 (wadd (wmul (h 66 1 0) 5) 1) v2) 64 1 0)) 71 1 (wadd (wmul (h 66 1 0) 5) 3) v3) 71 1 (wadd (wmul (h 66 1 0) 5) 4) v4) 66 1 0 (wadd ((hset (hset (hset (hset (hset h 71 1 (wadd (wmul (h 66 1 0) 5) 0) v1) 71 1 (wadd (wmul (h 66 1 0) 5) 1) v2) 71 1 (wadd (wmul (h 66 1 0) 5) 2) ((hset (hset h 71 1 (wadd (wmul (h 66 1 0) 5) 0) v1) 71 1 (wadd (wmul (h 66 1 0) 5) 1) v2) 64 1 0)) 71 1 (wadd (wmul (h 66 1 0) 5) 3) v3) 71 1 (wadd (wmul (h 66 1 0) 5) 4) v4) 66 1 0) 1))))))) else some h
set_option maxRecDepth 100000 in
theorem S94b {spec : zRn zH2} {hm : zHM} {o : Int → Int} {d : Nat} (hd : 1 ≤ d) (v1 : Int) (v2 : Int) (v3 : Int) (v4 : Int) (h : zHC) (v : zHC) (e : F94b v1 v2 v3 v4 h = some v) : zRu2 spec d 94 [(11, 1), (0, v1), (0, v2), (0, v3), (0, v4)] (h, hm, o) none (v, hm, o) := by
  refine zF_in (D := 0) (mx := 6) (L := [some (11, 1), some (0, v1), some (0, v2), some (0, v3), some (0, v4), none]) (by decide +kernel) rfl rfl hd (fun d hd => ?_)
  unfold F94b at e
  rcases zI_s e with ⟨q1, e⟩ | ⟨q1, e⟩
  · refine zF_blk (m := []) (d := 1) (b := B94b_1) (gs := [(h 66 1 0) < 180]) (c' := (11, [some (11, 1), some (0, v1), some (0, v2), some (0, v3), some (0, v4), none], [], (h, hm, o))) K94b_1 rfl ⟨q1, trivial⟩ ?_
    obtain ⟨q2, e⟩ := zG_s e
    obtain ⟨q3, e⟩ := zG_s e
    obtain ⟨q4, e⟩ := zG_s e
    obtain ⟨q5, e⟩ := zG_s e
    obtain ⟨q6, e⟩ := zG_s e
    refine zF_blk (m := []) (d := 0) (b := B94b_0) (gs := [0 ≤ (wadd (wmul (h 66 1 0) 5) 0) ∧ (wadd (wmul (h 66 1 0) 5) 0) < 900, 0 ≤ (wadd (wmul (h 66 1 0) 5) 1) ∧ (wadd (wmul (h 66 1 0) 5) 1) < 900, 0 ≤ (wadd (wmul (h 66 1 0) 5) 2) ∧ (wadd (wmul (h 66 1 0) 5) 2) < 900, 0 ≤ (wadd (wmul (h 66 1 0) 5) 3) ∧ (wadd (wmul (h 66 1 0) 5) 3) < 900, 0 ≤ (wadd (wmul (h 66 1 0) 5) 4) ∧ (wadd (wmul (h 66 1 0) 5) 4) < 900]) (c' := (83, [some (11, 1), some (0, v1), some (0, v2), some (0, v3), some (0, v4), some (0, (wmul (h 66 1 0) 5))], [], ((hset (hset (hset (hset (hset (hset h 71 1 (wadd (wmul (h 66 1 0) 5) 0) v1) 71 1 (wadd (wmul (h 66 1 0) 5) 1) v2) 71 1 (wadd (wmul (h 66 1 0) 5) 2) ((hset (hset h 71 1 (wadd (wmul (h 66 1 0) 5) 0) v1) 71 1 (wadd (wmul (h 66 1 0) 5) 1) v2) 64 1 0)) 71 1 (wadd (wmul (h 66 1 0) 5) 3) v3) 71 1 (wadd (wmul (h 66 1 0) 5) 4) v4) 66 1 0 (wadd ((hset (hset (hset (hset (hset h 71 1 (wadd (wmul (h 66 1 0) 5) 0) v1) 71 1 (wadd (wmul (h 66 1 0) 5) 1) v2) 71 1 (wadd (wmul (h 66 1 0) 5) 2) ((hset (hset h 71 1 (wadd (wmul (h 66 1 0) 5) 0) v1) 71 1 (wadd (wmul (h 66 1 0) 5) 1) v2) 64 1 0)) 71 1 (wadd (wmul (h 66 1 0) 5) 3) v3) 71 1 (wadd (wmul (h 66 1 0) 5) 4) v4) 66 1 0) 1)), hm, o))) K94b_0 rfl ⟨q2, q3, q4, q5, q6, trivial⟩ ?_
    obtain rfl := Option.some.inj e
    exact zF_rv (by decide +kernel)
  · refine zF_blk (m := []) (d := 0) (b := B94b_1) (gs := [¬ ((h 66 1 0) < 180)]) (c' := (10, [some (11, 1), some (0, v1), some (0, v2), some (0, v3), some (0, v4), none], [], (h, hm, o))) K94b_1 rfl ⟨q1, trivial⟩ ?_
    obtain rfl := Option.some.inj e
    exact zF_rv (by decide +kernel)
def B85b_0 : List zRow := [(46, .iconst 1, 1, (0, 0, 0)), (47, .goto 4, 3, (0, 0, 0))]
theorem K85b_0 : zRk 85 B85b_0 = true := by decide +kernel
def B85b_1 : List zRow := [(32, .aload_n 0, 1, (0, 0, 0)), (33, .getfield 15, 3, (1, 4, 5243602)), (36, .iload 5, 2, (0, 0, 0)), (38, .iaload, 1, (0, 0, 0)), (39, .aload_n 0, 1, (0, 0, 0)), (40, .getfield 30, 3, (1, 0, 0)), (43, .if_icmp .gt 7, 3, (0, 0, 0))]
theorem K85b_1 : zRk 85 B85b_1 = true := by decide +kernel
def B85b_2 : List zRow := [(0, .iload_n 2, 1, (0, 0, 0)), (1, .bipush 6, 2, (0, 0, 0)), (3, .imul, 1, (0, 0, 0)), (4, .iload_n 3, 1, (0, 0, 0)), (5, .iadd, 1, (0, 0, 0)), (6, .istore 5, 2, (0, 0, 0)), (8, .aload_n 0, 1, (0, 0, 0)), (9, .getfield 30, 3, (1, 0, 0)), (12, .aload_n 1, 1, (0, 0, 0)), (13, .getfield 84, 3, (9, 9, 5242906)), (16, .iload_n 3, 1, (0, 0, 0)), (17, .iaload, 1, (0, 0, 0)), (18, .iadd, 1, (0, 0, 0)), (19, .istore 6, 2, (0, 0, 0)), (21, .aload_n 0, 1, (0, 0, 0)), (22, .getfield 15, 3, (1, 4, 5243602)), (25, .iload 5, 2, (0, 0, 0)), (27, .iaload, 1, (0, 0, 0)), (28, .iconst (-1), 1, (0, 0, 0)), (29, .if_icmp .eq 21, 3, (0, 0, 0))]
theorem K85b_2 : zRk 85 B85b_2 = true := by decide +kernel
def B85b_3 : List zRow := [(100, .iload 4, 2, (0, 0, 0)), (102, .aload_n 0, 1, (0, 0, 0)), (103, .getfield 18, 3, (1, 5, 5243602)), (106, .iload 5, 2, (0, 0, 0)), (108, .iaload, 1, (0, 0, 0)), (109, .if_icmp .le 21, 3, (0, 0, 0))]
theorem K85b_3 : zRk 85 B85b_3 = true := by decide +kernel
def B85b_4 : List zRow := [(88, .iload 6, 2, (0, 0, 0)), (90, .aload_n 0, 1, (0, 0, 0)), (91, .getfield 15, 3, (1, 4, 5243602)), (94, .iload 5, 2, (0, 0, 0)), (96, .iaload, 1, (0, 0, 0)), (97, .if_icmp .ne 33, 3, (0, 0, 0))]
theorem K85b_4 : zRk 85 B85b_4 = true := by decide +kernel
def B85b_5 : List zRow := [(76, .iload 6, 2, (0, 0, 0)), (78, .aload_n 0, 1, (0, 0, 0)), (79, .getfield 15, 3, (1, 4, 5243602)), (82, .iload 5, 2, (0, 0, 0)), (84, .iaload, 1, (0, 0, 0)), (85, .if_icmp .lt 27, 3, (0, 0, 0))]
theorem K85b_5 : zRk 85 B85b_5 = true := by decide +kernel
def B85b_6 : List zRow := [(65, .aload_n 0, 1, (0, 0, 0)), (66, .getfield 15, 3, (1, 4, 5243602)), (69, .iload 5, 2, (0, 0, 0)), (71, .iaload, 1, (0, 0, 0)), (72, .iconst (-1), 1, (0, 0, 0)), (73, .if_icmp .eq 39, 3, (0, 0, 0))]
theorem K85b_6 : zRk 85 B85b_6 = true := by decide +kernel
def B85b_7 : List zRow := [(59, .iload 7, 2, (0, 0, 0)), (61, .ifCond .eq 4, 3, (0, 0, 0))]
theorem K85b_7 : zRk 85 B85b_7 = true := by decide +kernel
def B85b_8 : List zRow := [(51, .istore 7, 2, (0, 0, 0)), (53, .iload 4, 2, (0, 0, 0)), (55, .iconst 1, 1, (0, 0, 0)), (56, .if_icmp .lt 8, 3, (0, 0, 0))]
theorem K85b_8 : zRk 85 B85b_8 = true := by decide +kernel
def B85b_9 : List zRow := [(112, .aload_n 0, 1, (0, 0, 0)), (113, .getfield 15, 3, (1, 4, 5243602)), (116, .iload 5, 2, (0, 0, 0)), (118, .iload 6, 2, (0, 0, 0)), (120, .iastore, 1, (0, 0, 0)), (121, .aload_n 0, 1, (0, 0, 0)), (122, .getfield 18, 3, (1, 5, 5243602)), (125, .iload 5, 2, (0, 0, 0)), (127, .iload 4, 2, (0, 0, 0)), (129, .iastore, 1, (0, 0, 0))]
theorem K85b_9 : zRk 85 B85b_9 = true := by decide +kernel
def B85b_10 : List zRow := [(50, .iconst 0, 1, (0, 0, 0))]
theorem K85b_10 : zRk 85 B85b_10 = true := by decide +kernel
def F85b_2 (v4 : Int) (v5 : Int) (v6 : Int) (h : zHC) : Option zHC := zG (0 ≤ v5 ∧ v5 < 180) (zG (0 ≤ v5 ∧ v5 < 180) (some (hset (hset h 68 1 v5 v6) 69 1 v5 v4)))
set_option maxRecDepth 100000 in
theorem T85b_2 {spec : zRn zH2} {hm : zHM} {o : Int → Int} {d : Nat} (hd : 0 ≤ d) (v4 : Int) (v5 : Int) (v6 : Int) (h : zHC) (v : zHC) (e : F85b_2 v4 v5 v6 h = some v) : zFin 0 (fun _ => 0) (zRu2 spec d) 85 none (v, hm, o) (112, [some (11, 1), none, none, none, some (0, v4), some (0, v5), some (0, v6), none], [], (h, hm, o)) := by
  unfold F85b_2 at e
  obtain ⟨q1, e⟩ := zG_s e
  obtain ⟨q1, e⟩ := zG_s e
  refine zF_blk (m := []) (d := 0) (b := B85b_9) (gs := [0 ≤ v5 ∧ v5 < 180, 0 ≤ v5 ∧ v5 < 180]) (c' := (130, [some (11, 1), none, none, none, some (0, v4), some (0, v5), some (0, v6), none], [], ((hset (hset h 68 1 v5 v6) 69 1 v5 v4), hm, o))) K85b_9 rfl ⟨q1, q1, trivial⟩ ?_
  obtain rfl := Option.some.inj e
  exact zF_rv (by decide +kernel)
def F85b_1 (v4 : Int) (v5 : Int) (v6 : Int) (s0 : Int) (h : zHC) : Option zHC := if v4 < 1 then some h else if s0 = 0 then zG (0 ≤ v5 ∧ v5 < 180) (if (h 68 1 v5) = (-1) then F85b_2 v4 v5 v6 h else zG (0 ≤ v5 ∧ v5 < 180) (if v6 < (h 68 1 v5) then F85b_2 v4 v5 v6 h else zG (0 ≤ v5 ∧ v5 < 180) (if ¬ v6 = (h 68 1 v5) then some h else zG (0 ≤ v5 ∧ v5 < 180) (if v4 ≤ (h 69 1 v5) then some h else F85b_2 v4 v5 v6 h)))) else some h
set_option maxRecDepth 100000 in
theorem T85b_1 {spec : zRn zH2} {hm : zHM} {o : Int → Int} {d : Nat} (hd : 0 ≤ d) (v4 : Int) (v5 : Int) (v6 : Int) (s0 : Int) (h : zHC) (v : zHC) (e : F85b_1 v4 v5 v6 s0 h = some v) : zFin 0 (fun _ => 0) (zRu2 spec d) 85 none (v, hm, o) (51, [some (11, 1), none, none, none, some (0, v4), some (0, v5), some (0, v6), none], [(0, s0)], (h, hm, o)) := by
  unfold F85b_1 at e
  rcases zI_s e with ⟨q1, e⟩ | ⟨q1, e⟩
  · refine zF_blk (m := []) (d := 1) (b := B85b_8) (gs := [v4 < 1]) (c' := (64, [some (11, 1), none, none, none, some (0, v4), some (0, v5), some (0, v6), some (0, s0)], [], (h, hm, o))) K85b_8 rfl ⟨q1, trivial⟩ ?_
    obtain rfl := Option.some.inj e
    exact zF_rv (by decide +kernel)
  · refine zF_blk (m := []) (d := 0) (b := B85b_8) (gs := [¬ (v4 < 1)]) (c' := (59, [some (11, 1), none, none, none, some (0, v4), some (0, v5), some (0, v6), some (0, s0)], [], (h, hm, o))) K85b_8 rfl ⟨q1, trivial⟩ ?_
    rcases zI_s e with ⟨q2, e⟩ | ⟨q2, e⟩
    · refine zF_blk (m := []) (d := 1) (b := B85b_7) (gs := [s0 = 0]) (c' := (65, [some (11, 1), none, none, none, some (0, v4), some (0, v5), some (0, v6), some (0, s0)], [], (h, hm, o))) K85b_7 rfl ⟨q2, trivial⟩ ?_
      obtain ⟨q3, e⟩ := zG_s e
      rcases zI_s e with ⟨q4, e⟩ | ⟨q4, e⟩
      · refine zF_blk (m := []) (d := 1) (b := B85b_6) (gs := [0 ≤ v5 ∧ v5 < 180, (h 68 1 v5) = (-1)]) (c' := (112, [some (11, 1), none, none, none, some (0, v4), some (0, v5), some (0, v6), some (0, s0)], [], (h, hm, o))) K85b_6 rfl ⟨q3, q4, trivial⟩ ?_
        refine zF_blk (m := [true, false, false, false, true, true, true, false]) (d := 0) (b := []) (gs := []) (c' := (112, [some (11, 1), none, none, none, some (0, v4), some (0, v5), some (0, v6), none], [], (h, hm, o))) rfl rfl trivial ?_
        exact T85b_2 hd v4 v5 v6 h _ e
      · refine zF_blk (m := []) (d := 0) (b := B85b_6) (gs := [0 ≤ v5 ∧ v5 < 180, ¬ ((h 68 1 v5) = (-1))]) (c' := (76, [some (11, 1), none, none, none, some (0, v4), some (0, v5), some (0, v6), some (0, s0)], [], (h, hm, o))) K85b_6 rfl ⟨q3, q4, trivial⟩ ?_
        obtain ⟨q5, e⟩ := zG_s e
        rcases zI_s e with ⟨q6, e⟩ | ⟨q6, e⟩
        · refine zF_blk (m := []) (d := 1) (b := B85b_5) (gs := [0 ≤ v5 ∧ v5 < 180, v6 < (h 68 1 v5)]) (c' := (112, [some (11, 1), none, none, none, some (0, v4), some (0, v5), some (0, v6), some (0, s0)], [], (h, hm, o))) K85b_5 rfl ⟨q5, q6, trivial⟩ ?_
          refine zF_blk (m := [true, false, false, false, true, true, true, false]) (d := 0) (b := []) (gs := []) (c' := (112, [some (11, 1), none, none, none, some (0, v4), some (0, v5), some (0, v6), none], [], (h, hm, o))) rfl rfl trivial ?_
          exact T85b_2 hd v4 v5 v6 h _ e
        · refine zF_blk (m := []) (d := 0) (b := B85b_5) (gs := [0 ≤ v5 ∧ v5 < 180, ¬ (v6 < (h 68 1 v5))]) (c' := (88, [some (11, 1), none, none, none, some (0, v4), some (0, v5), some (0, v6), some (0, s0)], [], (h, hm, o))) K85b_5 rfl ⟨q5, q6, trivial⟩ ?_
          obtain ⟨q7, e⟩ := zG_s e
          rcases zI_s e with ⟨q8, e⟩ | ⟨q8, e⟩
          · refine zF_blk (m := []) (d := 1) (b := B85b_4) (gs := [0 ≤ v5 ∧ v5 < 180, ¬ v6 = (h 68 1 v5)]) (c' := (130, [some (11, 1), none, none, none, some (0, v4), some (0, v5), some (0, v6), some (0, s0)], [], (h, hm, o))) K85b_4 rfl ⟨q7, q8, trivial⟩ ?_
            obtain rfl := Option.some.inj e
            exact zF_rv (by decide +kernel)
          · refine zF_blk (m := []) (d := 0) (b := B85b_4) (gs := [0 ≤ v5 ∧ v5 < 180, ¬ (¬ v6 = (h 68 1 v5))]) (c' := (100, [some (11, 1), none, none, none, some (0, v4), some (0, v5), some (0, v6), some (0, s0)], [], (h, hm, o))) K85b_4 rfl ⟨q7, q8, trivial⟩ ?_
            obtain ⟨q9, e⟩ := zG_s e
            rcases zI_s e with ⟨q10, e⟩ | ⟨q10, e⟩
            · refine zF_blk (m := []) (d := 1) (b := B85b_3) (gs := [0 ≤ v5 ∧ v5 < 180, v4 ≤ (h 69 1 v5)]) (c' := (130, [some (11, 1), none, none, none, some (0, v4), some (0, v5), some (0, v6), some (0, s0)], [], (h, hm, o))) K85b_3 rfl ⟨q9, q10, trivial⟩ ?_
              obtain rfl := Option.some.inj e
              exact zF_rv (by decide +kernel)
            · refine zF_blk (m := []) (d := 0) (b := B85b_3) (gs := [0 ≤ v5 ∧ v5 < 180, ¬ (v4 ≤ (h 69 1 v5))]) (c' := (112, [some (11, 1), none, none, none, some (0, v4), some (0, v5), some (0, v6), some (0, s0)], [], (h, hm, o))) K85b_3 rfl ⟨q9, q10, trivial⟩ ?_
              refine zF_blk (m := [true, false, false, false, true, true, true, false]) (d := 0) (b := []) (gs := []) (c' := (112, [some (11, 1), none, none, none, some (0, v4), some (0, v5), some (0, v6), none], [], (h, hm, o))) rfl rfl trivial ?_
              exact T85b_2 hd v4 v5 v6 h _ e
    · refine zF_blk (m := []) (d := 0) (b := B85b_7) (gs := [¬ (s0 = 0)]) (c' := (64, [some (11, 1), none, none, none, some (0, v4), some (0, v5), some (0, v6), some (0, s0)], [], (h, hm, o))) K85b_7 rfl ⟨q2, trivial⟩ ?_
      obtain rfl := Option.some.inj e
      exact zF_rv (by decide +kernel)
def F85b_0 (v4 : Int) (v5 : Int) (v6 : Int) (h : zHC) : Option zHC := F85b_1 v4 v5 v6 0 h
set_option maxRecDepth 100000 in
theorem T85b_0 {spec : zRn zH2} {hm : zHM} {o : Int → Int} {d : Nat} (hd : 0 ≤ d) (v4 : Int) (v5 : Int) (v6 : Int) (h : zHC) (v : zHC) (e : F85b_0 v4 v5 v6 h = some v) : zFin 0 (fun _ => 0) (zRu2 spec d) 85 none (v, hm, o) (50, [some (11, 1), none, none, none, some (0, v4), some (0, v5), some (0, v6), none], [], (h, hm, o)) := by
  unfold F85b_0 at e
  refine zF_blk (m := []) (d := 0) (b := B85b_10) (gs := []) (c' := (51, [some (11, 1), none, none, none, some (0, v4), some (0, v5), some (0, v6), none], [(0, 0)], (h, hm, o))) K85b_10 rfl trivial ?_
  exact T85b_1 hd v4 v5 v6 0 h _ e
/-- EchoVale$Course.offer(LEchoVale$Valley;III)V -/
def F85b (v2 : Int) (v3 : Int) (v4 : Int) (h : zHC) : Option zHC := zG (0 ≤ v3 ∧ v3 < 6) (zG (0 ≤ (wadd (wmul v2 6) v3) ∧ (wadd (wmul v2 6) v3) < 180) (if (h 68 1 (wadd (wmul v2 6) v3)) = (-1) then F85b_0 v4 (wadd (wmul v2 6) v3) (wadd (h 64 1 0) (h 585 0 v3)) h else zG (0 ≤ (wadd (wmul v2 6) v3) ∧ (wadd (wmul v2 6) v3) < 180) (if (h 64 1 0) < (h 68 1 (wadd (wmul v2 6) v3)) then F85b_0 v4 (wadd (wmul v2 6) v3) (wadd (h 64 1 0) (h 585 0 v3)) h else F85b_1 v4 (wadd (wmul v2 6) v3) (wadd (h 64 1 0) (h 585 0 v3)) 1 h)))
set_option maxRecDepth 100000 in
theorem S85b {spec : zRn zH2} {hm : zHM} {o : Int → Int} {d : Nat} (hd : 1 ≤ d) (v2 : Int) (v3 : Int) (v4 : Int) (h : zHC) (v : zHC) (e : F85b v2 v3 v4 h = some v) : zRu2 spec d 85 [(11, 1), (19, 0), (0, v2), (0, v3), (0, v4)] (h, hm, o) none (v, hm, o) := by
  refine zF_in (D := 0) (mx := 8) (L := [some (11, 1), some (19, 0), some (0, v2), some (0, v3), some (0, v4), none, none, none]) (by decide +kernel) rfl rfl hd (fun d hd => ?_)
  unfold F85b at e
  obtain ⟨q1, e⟩ := zG_s e
  obtain ⟨q2, e⟩ := zG_s e
  rcases zI_s e with ⟨q3, e⟩ | ⟨q3, e⟩
  · refine zF_blk (m := []) (d := 1) (b := B85b_2) (gs := [0 ≤ v3 ∧ v3 < 6, 0 ≤ (wadd (wmul v2 6) v3) ∧ (wadd (wmul v2 6) v3) < 180, (h 68 1 (wadd (wmul v2 6) v3)) = (-1)]) (c' := (50, [some (11, 1), some (19, 0), some (0, v2), some (0, v3), some (0, v4), some (0, (wadd (wmul v2 6) v3)), some (0, (wadd (h 64 1 0) (h 585 0 v3))), none], [], (h, hm, o))) K85b_2 rfl ⟨q1, q2, q3, trivial⟩ ?_
    refine zF_blk (m := [true, false, false, false, true, true, true, false]) (d := 0) (b := []) (gs := []) (c' := (50, [some (11, 1), none, none, none, some (0, v4), some (0, (wadd (wmul v2 6) v3)), some (0, (wadd (h 64 1 0) (h 585 0 v3))), none], [], (h, hm, o))) rfl rfl trivial ?_
    exact T85b_0 hd v4 (wadd (wmul v2 6) v3) (wadd (h 64 1 0) (h 585 0 v3)) h _ e
  · refine zF_blk (m := []) (d := 0) (b := B85b_2) (gs := [0 ≤ v3 ∧ v3 < 6, 0 ≤ (wadd (wmul v2 6) v3) ∧ (wadd (wmul v2 6) v3) < 180, ¬ ((h 68 1 (wadd (wmul v2 6) v3)) = (-1))]) (c' := (32, [some (11, 1), some (19, 0), some (0, v2), some (0, v3), some (0, v4), some (0, (wadd (wmul v2 6) v3)), some (0, (wadd (h 64 1 0) (h 585 0 v3))), none], [], (h, hm, o))) K85b_2 rfl ⟨q1, q2, q3, trivial⟩ ?_
    obtain ⟨q4, e⟩ := zG_s e
    rcases zI_s e with ⟨q5, e⟩ | ⟨q5, e⟩
    · refine zF_blk (m := []) (d := 1) (b := B85b_1) (gs := [0 ≤ (wadd (wmul v2 6) v3) ∧ (wadd (wmul v2 6) v3) < 180, (h 64 1 0) < (h 68 1 (wadd (wmul v2 6) v3))]) (c' := (50, [some (11, 1), some (19, 0), some (0, v2), some (0, v3), some (0, v4), some (0, (wadd (wmul v2 6) v3)), some (0, (wadd (h 64 1 0) (h 585 0 v3))), none], [], (h, hm, o))) K85b_1 rfl ⟨q4, q5, trivial⟩ ?_
      refine zF_blk (m := [true, false, false, false, true, true, true, false]) (d := 0) (b := []) (gs := []) (c' := (50, [some (11, 1), none, none, none, some (0, v4), some (0, (wadd (wmul v2 6) v3)), some (0, (wadd (h 64 1 0) (h 585 0 v3))), none], [], (h, hm, o))) rfl rfl trivial ?_
      exact T85b_0 hd v4 (wadd (wmul v2 6) v3) (wadd (h 64 1 0) (h 585 0 v3)) h _ e
    · refine zF_blk (m := []) (d := 0) (b := B85b_1) (gs := [0 ≤ (wadd (wmul v2 6) v3) ∧ (wadd (wmul v2 6) v3) < 180, ¬ ((h 64 1 0) < (h 68 1 (wadd (wmul v2 6) v3)))]) (c' := (46, [some (11, 1), some (19, 0), some (0, v2), some (0, v3), some (0, v4), some (0, (wadd (wmul v2 6) v3)), some (0, (wadd (h 64 1 0) (h 585 0 v3))), none], [], (h, hm, o))) K85b_1 rfl ⟨q4, q5, trivial⟩ ?_
      refine zF_blk (m := []) (d := 0) (b := B85b_0) (gs := []) (c' := (51, [some (11, 1), some (19, 0), some (0, v2), some (0, v3), some (0, v4), some (0, (wadd (wmul v2 6) v3)), some (0, (wadd (h 64 1 0) (h 585 0 v3))), none], [(0, 1)], (h, hm, o))) K85b_0 rfl trivial ?_
      refine zF_blk (m := [true, false, false, false, true, true, true, false]) (d := 0) (b := []) (gs := []) (c' := (51, [some (11, 1), none, none, none, some (0, v4), some (0, (wadd (wmul v2 6) v3)), some (0, (wadd (h 64 1 0) (h 585 0 v3))), none], [(0, 1)], (h, hm, o))) rfl rfl trivial ?_
      exact T85b_1 hd v4 (wadd (wmul v2 6) v3) (wadd (h 64 1 0) (h 585 0 v3)) 1 h _ e
def B92b_0 : List zRow := [(7, .aload_n 1, 1, (0, 0, 0)), (8, .iload_n 3, 1, (0, 0, 0)), (9, .iload 4, 2, (0, 0, 0)), (11, .aload_n 0, 1, (0, 0, 0)), (12, .getfield 9, 3, (1, 3, 5242906))]
theorem K92b_0 : zRk 92 B92b_0 = true := by decide +kernel
def B92b_1 : List zRow := [(31, .aload_n 0, 1, (0, 0, 0)), (32, .getfield 21, 3, (1, 6, 5243842)), (35, .iload 6, 2, (0, 0, 0)), (37, .iconst 5, 1, (0, 0, 0)), (38, .iadd, 1, (0, 0, 0)), (39, .iload 5, 2, (0, 0, 0)), (41, .iastore, 1, (0, 0, 0))]
theorem K92b_1 : zRk 92 B92b_1 = true := by decide +kernel
def B92b_2 : List zRow := [(18, .istore 5, 2, (0, 0, 0)), (20, .iload_n 2, 1, (0, 0, 0)), (21, .bipush 8, 2, (0, 0, 0)), (23, .imul, 1, (0, 0, 0)), (24, .istore 6, 2, (0, 0, 0)), (26, .iload 5, 2, (0, 0, 0)), (28, .ifCond .eq 14, 3, (0, 0, 0))]
theorem K92b_2 : zRk 92 B92b_2 = true := by decide +kernel
def B92b_3 : List zRow := [(0, .iload 4, 2, (0, 0, 0)), (2, .iconst 1, 1, (0, 0, 0)), (3, .if_icmp .ge 4, 3, (0, 0, 0))]
theorem K92b_3 : zRk 92 B92b_3 = true := by decide +kernel
def B92b_4 : List zRow := [(42, .aload_n 0, 1, (0, 0, 0)), (43, .getfield 21, 3, (1, 6, 5243842)), (46, .iload 6, 2, (0, 0, 0)), (48, .bipush 6, 2, (0, 0, 0)), (50, .iadd, 1, (0, 0, 0)), (51, .dup2, 1, (0, 0, 0)), (52, .iaload, 1, (0, 0, 0)), (53, .iconst 1, 1, (0, 0, 0)), (54, .iadd, 1, (0, 0, 0)), (55, .iastore, 1, (0, 0, 0)), (56, .aload_n 0, 1, (0, 0, 0)), (57, .getfield 21, 3, (1, 6, 5243842)), (60, .iload 6, 2, (0, 0, 0)), (62, .bipush 7, 2, (0, 0, 0)), (64, .iadd, 1, (0, 0, 0)), (65, .dup2, 1, (0, 0, 0)), (66, .iaload, 1, (0, 0, 0)), (67, .iload 5, 2, (0, 0, 0)), (69, .ior, 1, (0, 0, 0)), (70, .iastore, 1, (0, 0, 0)), (71, .aload_n 0, 1, (0, 0, 0)), (72, .iload_n 2, 1, (0, 0, 0)), (73, .iload_n 3, 1, (0, 0, 0)), (74, .iload 4, 2, (0, 0, 0)), (76, .iload 5, 2, (0, 0, 0))]
theorem K92b_4 : zRk 92 B92b_4 = true := by decide +kernel
def B92b_5 : List zRow := [(81, .iconst 0, 1, (0, 0, 0)), (82, .istore 7, 2, (0, 0, 0))]
theorem K92b_5 : zRk 92 B92b_5 = true := by decide +kernel
def B92b_6 : List zRow := [(99, .aload_n 0, 1, (0, 0, 0)), (100, .aload_n 1, 1, (0, 0, 0)), (101, .iload_n 2, 1, (0, 0, 0)), (102, .iload 7, 2, (0, 0, 0)), (104, .aload_n 1, 1, (0, 0, 0)), (105, .iload_n 3, 1, (0, 0, 0)), (106, .iload 7, 2, (0, 0, 0)), (108, .iload 4, 2, (0, 0, 0))]
theorem K92b_6 : zRk 92 B92b_6 = true := by decide +kernel
def B92b_7 : List zRow := [(93, .iload 7, 2, (0, 0, 0)), (95, .iload_n 3, 1, (0, 0, 0)), (96, .if_icmp .eq 20, 3, (0, 0, 0))]
theorem K92b_7 : zRk 92 B92b_7 = true := by decide +kernel
def B92b_8 : List zRow := [(84, .iload 7, 2, (0, 0, 0)), (86, .aload_n 1, 1, (0, 0, 0)), (87, .getfield 69, 3, (9, 2, 0)), (90, .if_icmp .ge 32, 3, (0, 0, 0))]
theorem K92b_8 : zRk 92 B92b_8 = true := by decide +kernel
def B92b_9 : List zRow := [(116, .iinc 7 1, 3, (0, 0, 0)), (119, .goto (-35), 3, (0, 0, 0))]
theorem K92b_9 : zRk 92 B92b_9 = true := by decide +kernel
def F92b_2 (k0 : Int → Int → Int → Int → zHC → Option zHC) (v2 : Int) (v3 : Int) (v4 : Int) (v7 : Int) (h : zHC) : Option zHC := k0 v2 v3 v4 (wadd v7 1) h
set_option maxRecDepth 100000 in
theorem T92b_2 {spec : zRn zH2} {hm : zHM} {o : Int → Int} {d : Nat} (hd : 2 ≤ d) (k0 : Int → Int → Int → Int → zHC → Option zHC) (hk0 : ∀ (v2 : Int) (v3 : Int) (v4 : Int) (v7 : Int) (h : zHC) (v : zHC), k0 v2 v3 v4 v7 h = some v → zFin 0 (fun _ => 0) (zRu2 spec d) 92 none (v, hm, o) (84, [some (11, 1), some (19, 0), some (0, v2), some (0, v3), some (0, v4), none, none, some (0, v7)], [], (h, hm, o))) (v2 : Int) (v3 : Int) (v4 : Int) (v7 : Int) (h : zHC) (v : zHC) (e : F92b_2 k0 v2 v3 v4 v7 h = some v) : zFin 0 (fun _ => 0) (zRu2 spec d) 92 none (v, hm, o) (116, [some (11, 1), some (19, 0), some (0, v2), some (0, v3), some (0, v4), none, none, some (0, v7)], [], (h, hm, o)) := by
  unfold F92b_2 at e
  refine zF_blk (m := []) (d := 0) (b := B92b_9) (gs := []) (c' := (84, [some (11, 1), some (19, 0), some (0, v2), some (0, v3), some (0, v4), none, none, some (0, (wadd v7 1))], [], (h, hm, o))) K92b_9 rfl trivial ?_
  exact hk0 v2 v3 v4 (wadd v7 1) h _ e
def F92b_1 : Nat → Int → Int → Int → Int → zHC → Option zHC
  | 0, _, _, _, _, _ => none
  | n + 1, v2, v3, v4, v7, h => if (h 578 0 0) ≤ v7 then some h else if v7 = v3 then F92b_2 (F92b_1 n) v2 v3 v4 v7 h else (F95 v3 v7 v4 h).bind fun r1 => (F85b v2 v7 r1 h).bind fun r2 => F92b_2 (F92b_1 n) v2 v3 v4 v7 r2
set_option maxRecDepth 100000 in
theorem T92b_1 {spec : zRn zH2} {hm : zHM} {o : Int → Int} {d : Nat} (hd : 2 ≤ d) : ∀ (n : Nat) (v2 : Int) (v3 : Int) (v4 : Int) (v7 : Int) (h : zHC) (v : zHC), F92b_1 n v2 v3 v4 v7 h = some v → zFin 0 (fun _ => 0) (zRu2 spec d) 92 none (v, hm, o) (84, [some (11, 1), some (19, 0), some (0, v2), some (0, v3), some (0, v4), none, none, some (0, v7)], [], (h, hm, o)) := by
  intro n
  induction n with
  | zero => intro v2 v3 v4 v7 h v e; unfold F92b_1 at e; cases e
  | succ n hk0 =>
    intro v2 v3 v4 v7 h v e
    unfold F92b_1 at e
    rcases zI_s e with ⟨q1, e⟩ | ⟨q1, e⟩
    · refine zF_blk (m := []) (d := 1) (b := B92b_8) (gs := [(h 578 0 0) ≤ v7]) (c' := (122, [some (11, 1), some (19, 0), some (0, v2), some (0, v3), some (0, v4), none, none, some (0, v7)], [], (h, hm, o))) K92b_8 rfl ⟨q1, trivial⟩ ?_
      obtain rfl := Option.some.inj e
      exact zF_rv (by decide +kernel)
    · refine zF_blk (m := []) (d := 0) (b := B92b_8) (gs := [¬ ((h 578 0 0) ≤ v7)]) (c' := (93, [some (11, 1), some (19, 0), some (0, v2), some (0, v3), some (0, v4), none, none, some (0, v7)], [], (h, hm, o))) K92b_8 rfl ⟨q1, trivial⟩ ?_
      rcases zI_s e with ⟨q2, e⟩ | ⟨q2, e⟩
      · refine zF_blk (m := []) (d := 1) (b := B92b_7) (gs := [v7 = v3]) (c' := (116, [some (11, 1), some (19, 0), some (0, v2), some (0, v3), some (0, v4), none, none, some (0, v7)], [], (h, hm, o))) K92b_7 rfl ⟨q2, trivial⟩ ?_
        exact T92b_2 hd (F92b_1 n) hk0 v2 v3 v4 v7 h _ e
      · refine zF_blk (m := []) (d := 0) (b := B92b_7) (gs := [¬ (v7 = v3)]) (c' := (99, [some (11, 1), some (19, 0), some (0, v2), some (0, v3), some (0, v4), none, none, some (0, v7)], [], (h, hm, o))) K92b_7 rfl ⟨q2, trivial⟩ ?_
        obtain ⟨r1, q3, e⟩ := zB_s e
        refine zF_blk (m := []) (d := 0) (b := B92b_6) (gs := []) (c' := (110, [some (11, 1), some (19, 0), some (0, v2), some (0, v3), some (0, v4), none, none, some (0, v7)], [(0, v4), (0, v7), (0, v3), (19, 0), (0, v7), (0, v2), (19, 0), (11, 1)], (h, hm, o))) K92b_6 rfl trivial ?_
        refine zF_call (k := 95) (cl := 9) (n := 4) (i := .invokevirtual 135) (args := [(19, 0), (0, v3), (0, v7), (0, v4)]) (rest := [(0, v7), (0, v2), (19, 0), (11, 1)]) (g1 := (h, hm, o)) (r1 := some (0, r1)) (by decide +kernel) rfl rfl rfl (st' := [(0, r1), (0, v7), (0, v2), (19, 0), (11, 1)]) rfl (S95 (Nat.le_trans (by decide) hd) v3 v7 v4 h _ q3) ?_
        obtain ⟨r2, q4, e⟩ := zB_s e
        refine zF_call (k := 85) (cl := 1) (n := 5) (i := .invokevirtual 76) (args := [(11, 1), (19, 0), (0, v2), (0, v7), (0, r1)]) (rest := []) (g1 := (r2, hm, o)) (r1 := none) (by decide +kernel) rfl rfl rfl (st' := []) rfl (S85b (Nat.le_trans (by decide) hd) v2 v7 r1 h _ q4) ?_
        exact T92b_2 hd (F92b_1 n) hk0 v2 v3 v4 v7 r2 _ e
def F92b_0 (v2 : Int) (v3 : Int) (v4 : Int) (v5 : Int) (v6 : Int) (h : zHC) : Option zHC := zG (0 ≤ (wadd v6 6) ∧ (wadd v6 6) < 240) (zG (0 ≤ (wadd v6 6) ∧ (wadd v6 6) < 240) (zG (0 ≤ (wadd v6 7) ∧ (wadd v6 7) < 240) (zG (0 ≤ (wadd v6 7) ∧ (wadd v6 7) < 240) ((F94b v2 v3 v4 v5 (hset (hset h 70 1 (wadd v6 6) (wadd (h 70 1 (wadd v6 6)) 1)) 70 1 (wadd v6 7) (wor ((hset h 70 1 (wadd v6 6) (wadd (h 70 1 (wadd v6 6)) 1)) 70 1 (wadd v6 7)) v5))).bind fun r1 => F92b_1 zFu v2 v3 v4 0 r1))))
set_option maxRecDepth 100000 in
theorem T92b_0 {spec : zRn zH2} {hm : zHM} {o : Int → Int} {d : Nat} (hd : 2 ≤ d) (v2 : Int) (v3 : Int) (v4 : Int) (v5 : Int) (v6 : Int) (h : zHC) (v : zHC) (e : F92b_0 v2 v3 v4 v5 v6 h = some v) : zFin 0 (fun _ => 0) (zRu2 spec d) 92 none (v, hm, o) (42, [some (11, 1), some (19, 0), some (0, v2), some (0, v3), some (0, v4), some (0, v5), some (0, v6), none], [], (h, hm, o)) := by
  unfold F92b_0 at e
  obtain ⟨q1, e⟩ := zG_s e
  obtain ⟨q1, e⟩ := zG_s e
  obtain ⟨q2, e⟩ := zG_s e
  obtain ⟨q2, e⟩ := zG_s e
  obtain ⟨r1, q3, e⟩ := zB_s e
  refine zF_blk (m := []) (d := 0) (b := B92b_4) (gs := [0 ≤ (wadd v6 6) ∧ (wadd v6 6) < 240, 0 ≤ (wadd v6 6) ∧ (wadd v6 6) < 240, 0 ≤ (wadd v6 7) ∧ (wadd v6 7) < 240, 0 ≤ (wadd v6 7) ∧ (wadd v6 7) < 240]) (c' := (78, [some (11, 1), some (19, 0), some (0, v2), some (0, v3), some (0, v4), some (0, v5), some (0, v6), none], [(0, v5), (0, v4), (0, v3), (0, v2), (11, 1)], ((hset (hset h 70 1 (wadd v6 6) (wadd (h 70 1 (wadd v6 6)) 1)) 70 1 (wadd v6 7) (wor ((hset h 70 1 (wadd v6 6) (wadd (h 70 1 (wadd v6 6)) 1)) 70 1 (wadd v6 7)) v5)), hm, o))) K92b_4 rfl ⟨q1, q1, q2, q2, trivial⟩ ?_
  refine zF_call (k := 94) (cl := 1) (n := 5) (i := .invokevirtual 131) (args := [(11, 1), (0, v2), (0, v3), (0, v4), (0, v5)]) (rest := []) (g1 := (r1, hm, o)) (r1 := none) (by decide +kernel) rfl rfl rfl (st' := []) rfl (S94b (Nat.le_trans (by decide) hd) v2 v3 v4 v5 (hset (hset h 70 1 (wadd v6 6) (wadd (h 70 1 (wadd v6 6)) 1)) 70 1 (wadd v6 7) (wor ((hset h 70 1 (wadd v6 6) (wadd (h 70 1 (wadd v6 6)) 1)) 70 1 (wadd v6 7)) v5)) _ q3) ?_
  refine zF_blk (m := []) (d := 0) (b := B92b_5) (gs := []) (c' := (84, [some (11, 1), some (19, 0), some (0, v2), some (0, v3), some (0, v4), some (0, v5), some (0, v6), some (0, 0)], [], (r1, hm, o))) K92b_5 rfl trivial ?_
  refine zF_blk (m := [true, true, true, true, true, false, false, true]) (d := 0) (b := []) (gs := []) (c' := (84, [some (11, 1), some (19, 0), some (0, v2), some (0, v3), some (0, v4), none, none, some (0, 0)], [], (r1, hm, o))) rfl rfl trivial ?_
  exact T92b_1 hd zFu v2 v3 v4 0 r1 _ e
/-- EchoVale$Course.sound(LEchoVale$Valley;III)V -/
def F92b (v2 : Int) (v3 : Int) (v4 : Int) (h : zHC) : Option zHC := if 1 ≤ v4 then (F93b v3 v4 h).bind fun r1 => if r1 = 0 then F92b_0 v2 v3 v4 r1 (wmul v2 8) h else zG (0 ≤ (wadd (wmul v2 8) 5) ∧ (wadd (wmul v2 8) 5) < 240) (F92b_0 v2 v3 v4 r1 (wmul v2 8) (hset h 70 1 (wadd (wmul v2 8) 5) r1)) else some h
set_option maxRecDepth 100000 in
theorem S92b {spec : zRn zH2} {hm : zHM} {o : Int → Int} {d : Nat} (hd : 3 ≤ d) (v2 : Int) (v3 : Int) (v4 : Int) (h : zHC) (v : zHC) (e : F92b v2 v3 v4 h = some v) : zRu2 spec d 92 [(11, 1), (19, 0), (0, v2), (0, v3), (0, v4)] (h, hm, o) none (v, hm, o) := by
  refine zF_in (D := 2) (mx := 8) (L := [some (11, 1), some (19, 0), some (0, v2), some (0, v3), some (0, v4), none, none, none]) (by decide +kernel) rfl rfl hd (fun d hd => ?_)
  unfold F92b at e
  rcases zI_s e with ⟨q1, e⟩ | ⟨q1, e⟩
  · refine zF_blk (m := []) (d := 1) (b := B92b_3) (gs := [1 ≤ v4]) (c' := (7, [some (11, 1), some (19, 0), some (0, v2), some (0, v3), some (0, v4), none, none, none], [], (h, hm, o))) K92b_3 rfl ⟨q1, trivial⟩ ?_
    obtain ⟨r1, q2, e⟩ := zB_s e
    refine zF_blk (m := []) (d := 0) (b := B92b_0) (gs := []) (c' := (15, [some (11, 1), some (19, 0), some (0, v2), some (0, v3), some (0, v4), none, none, none], [(1342184491, 1), (0, v4), (0, v3), (19, 0)], (h, hm, o))) K92b_0 rfl trivial ?_
    refine zF_call (k := 93) (cl := 9) (n := 4) (i := .invokevirtual 127) (args := [(19, 0), (0, v3), (0, v4), (1342184491, 1)]) (rest := []) (g1 := (h, hm, o)) (r1 := some (0, r1)) (by decide +kernel) rfl rfl rfl (st' := [(0, r1)]) rfl (S93b (Nat.le_trans (by decide) hd) v3 v4 h _ q2) ?_
    rcases zI_s e with ⟨q3, e⟩ | ⟨q3, e⟩
    · refine zF_blk (m := []) (d := 1) (b := B92b_2) (gs := [r1 = 0]) (c' := (42, [some (11, 1), some (19, 0), some (0, v2), some (0, v3), some (0, v4), some (0, r1), some (0, (wmul v2 8)), none], [], (h, hm, o))) K92b_2 rfl ⟨q3, trivial⟩ ?_
      exact T92b_0 hd v2 v3 v4 r1 (wmul v2 8) h _ e
    · refine zF_blk (m := []) (d := 0) (b := B92b_2) (gs := [¬ (r1 = 0)]) (c' := (31, [some (11, 1), some (19, 0), some (0, v2), some (0, v3), some (0, v4), some (0, r1), some (0, (wmul v2 8)), none], [], (h, hm, o))) K92b_2 rfl ⟨q3, trivial⟩ ?_
      obtain ⟨q4, e⟩ := zG_s e
      refine zF_blk (m := []) (d := 0) (b := B92b_1) (gs := [0 ≤ (wadd (wmul v2 8) 5) ∧ (wadd (wmul v2 8) 5) < 240]) (c' := (42, [some (11, 1), some (19, 0), some (0, v2), some (0, v3), some (0, v4), some (0, r1), some (0, (wmul v2 8)), none], [], ((hset h 70 1 (wadd (wmul v2 8) 5) r1), hm, o))) K92b_1 rfl ⟨q4, trivial⟩ ?_
      exact T92b_0 hd v2 v3 v4 r1 (wmul v2 8) (hset h 70 1 (wadd (wmul v2 8) 5) r1) _ e
  · refine zF_blk (m := []) (d := 0) (b := B92b_3) (gs := [¬ (1 ≤ v4)]) (c' := (6, [some (11, 1), some (19, 0), some (0, v2), some (0, v3), some (0, v4), none, none, none], [], (h, hm, o))) K92b_3 rfl ⟨q1, trivial⟩ ?_
    obtain rfl := Option.some.inj e
    exact zF_rv (by decide +kernel)
def B90b_0 : List zRow := [(0, .aload_n 1, 1, (0, 0, 0)), (1, .aload_n 0, 1, (0, 0, 0)), (2, .getfield 30, 3, (1, 0, 0))]
theorem K90b_0 : zRk 90 B90b_0 = true := by decide +kernel
def B90b_1 : List zRow := [(8, .istore 4, 2, (0, 0, 0)), (10, .iconst 0, 1, (0, 0, 0)), (11, .istore 5, 2, (0, 0, 0))]
theorem K90b_1 : zRk 90 B90b_1 = true := by decide +kernel
def B90b_2 : List zRow := [(81, .aload_n 0, 1, (0, 0, 0)), (82, .iload_n 2, 1, (0, 0, 0))]
theorem K90b_2 : zRk 90 B90b_2 = true := by decide +kernel
def B90b_3 : List zRow := [(45, .aload_n 0, 1, (0, 0, 0)), (46, .aload_n 1, 1, (0, 0, 0)), (47, .iload_n 2, 1, (0, 0, 0)), (48, .iload 5, 2, (0, 0, 0)), (50, .aload_n 0, 1, (0, 0, 0)), (51, .getfield 18, 3, (1, 5, 5243602)), (54, .iload 6, 2, (0, 0, 0)), (56, .iaload, 1, (0, 0, 0)), (57, .aload_n 1, 1, (0, 0, 0)), (58, .getfield 116, 3, (9, 10, 5242906)), (61, .iload 5, 2, (0, 0, 0)), (63, .iaload, 1, (0, 0, 0)), (64, .iload 4, 2, (0, 0, 0)), (66, .isub, 1, (0, 0, 0)), (67, .iload_n 3, 1, (0, 0, 0)), (68, .isub, 1, (0, 0, 0)), (69, .invokestatic 119, 3, (5003, 0, 0))]
theorem K90b_3 : zRk 90 B90b_3 = true := by decide +kernel
def B90b_4 : List zRow := [(22, .iload_n 2, 1, (0, 0, 0)), (23, .bipush 6, 2, (0, 0, 0)), (25, .imul, 1, (0, 0, 0)), (26, .iload 5, 2, (0, 0, 0)), (28, .iadd, 1, (0, 0, 0)), (29, .istore 6, 2, (0, 0, 0)), (31, .aload_n 0, 1, (0, 0, 0)), (32, .getfield 15, 3, (1, 4, 5243602)), (35, .iload 6, 2, (0, 0, 0)), (37, .iaload, 1, (0, 0, 0)), (38, .aload_n 0, 1, (0, 0, 0)), (39, .getfield 30, 3, (1, 0, 0)), (42, .if_icmp .ne 33, 3, (0, 0, 0))]
theorem K90b_4 : zRk 90 B90b_4 = true := by decide +kernel
def B90b_5 : List zRow := [(13, .iload 5, 2, (0, 0, 0)), (15, .aload_n 1, 1, (0, 0, 0)), (16, .getfield 69, 3, (9, 2, 0)), (19, .if_icmp .ge 62, 3, (0, 0, 0))]
theorem K90b_5 : zRk 90 B90b_5 = true := by decide +kernel
def B90b_6 : List zRow := [(75, .iinc 5 1, 3, (0, 0, 0)), (78, .goto (-65), 3, (0, 0, 0))]
theorem K90b_6 : zRk 90 B90b_6 = true := by decide +kernel
def F90b_1 (k0 : Int → Int → Int → Int → zHC → Option zHC) (v2 : Int) (v3 : Int) (v4 : Int) (v5 : Int) (h : zHC) : Option zHC := k0 v2 v3 v4 (wadd v5 1) h
set_option maxRecDepth 100000 in
theorem T90b_1 {spec : zRn zH2} {hm : zHM} {o : Int → Int} {d : Nat} (hd : 3 ≤ d) (k0 : Int → Int → Int → Int → zHC → Option zHC) (hk0 : ∀ (v2 : Int) (v3 : Int) (v4 : Int) (v5 : Int) (h : zHC) (v : zHC), k0 v2 v3 v4 v5 h = some v → zFin 0 (fun _ => 0) (zRu2 spec d) 90 none (v, hm, o) (13, [some (11, 1), some (19, 0), some (0, v2), some (0, v3), some (0, v4), some (0, v5), none], [], (h, hm, o))) (v2 : Int) (v3 : Int) (v4 : Int) (v5 : Int) (h : zHC) (v : zHC) (e : F90b_1 k0 v2 v3 v4 v5 h = some v) : zFin 0 (fun _ => 0) (zRu2 spec d) 90 none (v, hm, o) (75, [some (11, 1), some (19, 0), some (0, v2), some (0, v3), some (0, v4), some (0, v5), none], [], (h, hm, o)) := by
  unfold F90b_1 at e
  refine zF_blk (m := []) (d := 0) (b := B90b_6) (gs := []) (c' := (13, [some (11, 1), some (19, 0), some (0, v2), some (0, v3), some (0, v4), some (0, (wadd v5 1)), none], [], (h, hm, o))) K90b_6 rfl trivial ?_
  exact hk0 v2 v3 v4 (wadd v5 1) h _ e
def F90b_0 : Nat → Int → Int → Int → Int → zHC → Option zHC
  | 0, _, _, _, _, _ => none
  | n + 1, v2, v3, v4, v5, h => if (h 578 0 0) ≤ v5 then (F86b v2 h).bind fun r1 => some r1 else zG (0 ≤ (wadd (wmul v2 6) v5) ∧ (wadd (wmul v2 6) v5) < 180) (if ¬ (h 68 1 (wadd (wmul v2 6) v5)) = (h 64 1 0) then F90b_1 (F90b_0 n) v2 v3 v4 v5 h else zG (0 ≤ (wadd (wmul v2 6) v5) ∧ (wadd (wmul v2 6) v5) < 180) (zG (0 ≤ v5 ∧ v5 < 6) ((F92b v2 v5 (if (wsub (wsub (h 586 0 v5) v4) v3) < (h 69 1 (wadd (wmul v2 6) v5)) then (wsub (wsub (h 586 0 v5) v4) v3) else (h 69 1 (wadd (wmul v2 6) v5))) h).bind fun r2 => F90b_1 (F90b_0 n) v2 v3 v4 v5 r2)))
set_option maxRecDepth 100000 in
theorem T90b_0 {spec : zRn zH2} {hm : zHM} {o : Int → Int} {d : Nat} (hd : 3 ≤ d) : ∀ (n : Nat) (v2 : Int) (v3 : Int) (v4 : Int) (v5 : Int) (h : zHC) (v : zHC), F90b_0 n v2 v3 v4 v5 h = some v → zFin 0 (fun _ => 0) (zRu2 spec d) 90 none (v, hm, o) (13, [some (11, 1), some (19, 0), some (0, v2), some (0, v3), some (0, v4), some (0, v5), none], [], (h, hm, o)) := by
  intro n
  induction n with
  | zero => intro v2 v3 v4 v5 h v e; unfold F90b_0 at e; cases e
  | succ n hk0 =>
    intro v2 v3 v4 v5 h v e
    unfold F90b_0 at e
    rcases zI_s e with ⟨q1, e⟩ | ⟨q1, e⟩
    · refine zF_blk (m := []) (d := 1) (b := B90b_5) (gs := [(h 578 0 0) ≤ v5]) (c' := (81, [some (11, 1), some (19, 0), some (0, v2), some (0, v3), some (0, v4), some (0, v5), none], [], (h, hm, o))) K90b_5 rfl ⟨q1, trivial⟩ ?_
      obtain ⟨r1, q2, e⟩ := zB_s e
      refine zF_blk (m := []) (d := 0) (b := B90b_2) (gs := []) (c' := (83, [some (11, 1), some (19, 0), some (0, v2), some (0, v3), some (0, v4), some (0, v5), none], [(0, v2), (11, 1)], (h, hm, o))) K90b_2 rfl trivial ?_
      refine zF_call (k := 86) (cl := 1) (n := 2) (i := .invokevirtual 80) (args := [(11, 1), (0, v2)]) (rest := []) (g1 := (r1, hm, o)) (r1 := none) (by decide +kernel) rfl rfl rfl (st' := []) rfl (S86b (Nat.le_trans (by decide) hd) v2 h _ q2) ?_
      obtain rfl := Option.some.inj e
      exact zF_rv (by decide +kernel)
    · refine zF_blk (m := []) (d := 0) (b := B90b_5) (gs := [¬ ((h 578 0 0) ≤ v5)]) (c' := (22, [some (11, 1), some (19, 0), some (0, v2), some (0, v3), some (0, v4), some (0, v5), none], [], (h, hm, o))) K90b_5 rfl ⟨q1, trivial⟩ ?_
      obtain ⟨q3, e⟩ := zG_s e
      rcases zI_s e with ⟨q4, e⟩ | ⟨q4, e⟩
      · refine zF_blk (m := []) (d := 1) (b := B90b_4) (gs := [0 ≤ (wadd (wmul v2 6) v5) ∧ (wadd (wmul v2 6) v5) < 180, ¬ (h 68 1 (wadd (wmul v2 6) v5)) = (h 64 1 0)]) (c' := (75, [some (11, 1), some (19, 0), some (0, v2), some (0, v3), some (0, v4), some (0, v5), some (0, (wadd (wmul v2 6) v5))], [], (h, hm, o))) K90b_4 rfl ⟨q3, q4, trivial⟩ ?_
        refine zF_blk (m := [true, true, true, true, true, true, false]) (d := 0) (b := []) (gs := []) (c' := (75, [some (11, 1), some (19, 0), some (0, v2), some (0, v3), some (0, v4), some (0, v5), none], [], (h, hm, o))) rfl rfl trivial ?_
        exact T90b_1 hd (F90b_0 n) hk0 v2 v3 v4 v5 h _ e
      · refine zF_blk (m := []) (d := 0) (b := B90b_4) (gs := [0 ≤ (wadd (wmul v2 6) v5) ∧ (wadd (wmul v2 6) v5) < 180, ¬ (¬ (h 68 1 (wadd (wmul v2 6) v5)) = (h 64 1 0))]) (c' := (45, [some (11, 1), some (19, 0), some (0, v2), some (0, v3), some (0, v4), some (0, v5), some (0, (wadd (wmul v2 6) v5))], [], (h, hm, o))) K90b_4 rfl ⟨q3, q4, trivial⟩ ?_
        obtain ⟨q5, e⟩ := zG_s e
        obtain ⟨q6, e⟩ := zG_s e
        obtain ⟨r2, q7, e⟩ := zB_s e
        refine zF_blk (m := []) (d := 0) (b := B90b_3) (gs := [0 ≤ (wadd (wmul v2 6) v5) ∧ (wadd (wmul v2 6) v5) < 180, 0 ≤ v5 ∧ v5 < 6]) (c' := (72, [some (11, 1), some (19, 0), some (0, v2), some (0, v3), some (0, v4), some (0, v5), some (0, (wadd (wmul v2 6) v5))], [(0, (if (wsub (wsub (h 586 0 v5) v4) v3) < (h 69 1 (wadd (wmul v2 6) v5)) then (wsub (wsub (h 586 0 v5) v4) v3) else (h 69 1 (wadd (wmul v2 6) v5)))), (0, v5), (0, v2), (19, 0), (11, 1)], (h, hm, o))) K90b_3 rfl ⟨q5, q6, trivial⟩ ?_
        refine zF_call (k := 92) (cl := 1) (n := 5) (i := .invokevirtual 124) (args := [(11, 1), (19, 0), (0, v2), (0, v5), (0, (if (wsub (wsub (h 586 0 v5) v4) v3) < (h 69 1 (wadd (wmul v2 6) v5)) then (wsub (wsub (h 586 0 v5) v4) v3) else (h 69 1 (wadd (wmul v2 6) v5))))]) (rest := []) (g1 := (r2, hm, o)) (r1 := none) (by decide +kernel) rfl rfl rfl (st' := []) rfl (S92b (Nat.le_trans (by decide) hd) v2 v5 (if (wsub (wsub (h 586 0 v5) v4) v3) < (h 69 1 (wadd (wmul v2 6) v5)) then (wsub (wsub (h 586 0 v5) v4) v3) else (h 69 1 (wadd (wmul v2 6) v5))) h _ q7) ?_
        refine zF_blk (m := [true, true, true, true, true, true, false]) (d := 0) (b := []) (gs := []) (c' := (75, [some (11, 1), some (19, 0), some (0, v2), some (0, v3), some (0, v4), some (0, v5), none], [], (r2, hm, o))) rfl rfl trivial ?_
        exact T90b_1 hd (F90b_0 n) hk0 v2 v3 v4 v5 r2 _ e
/-- EchoVale$Course.giveBack(LEchoVale$Valley;II)V -/
def F90b (v2 : Int) (v3 : Int) (h : zHC) : Option zHC := (F91 (h 64 1 0) h).bind fun r1 => F90b_0 zFu v2 v3 r1 0 h
set_option maxRecDepth 100000 in
theorem S90b {spec : zRn zH2} {hm : zHM} {o : Int → Int} {d : Nat} (hd : 4 ≤ d) (v2 : Int) (v3 : Int) (h : zHC) (v : zHC) (e : F90b v2 v3 h = some v) : zRu2 spec d 90 [(11, 1), (19, 0), (0, v2), (0, v3)] (h, hm, o) none (v, hm, o) := by
  refine zF_in (D := 3) (mx := 7) (L := [some (11, 1), some (19, 0), some (0, v2), some (0, v3), none, none, none]) (by decide +kernel) rfl rfl hd (fun d hd => ?_)
  unfold F90b at e
  obtain ⟨r1, q1, e⟩ := zB_s e
  refine zF_blk (m := []) (d := 0) (b := B90b_0) (gs := []) (c' := (5, [some (11, 1), some (19, 0), some (0, v2), some (0, v3), none, none, none], [(0, (h 64 1 0)), (19, 0)], (h, hm, o))) K90b_0 rfl trivial ?_
  refine zF_call (k := 91) (cl := 9) (n := 2) (i := .invokevirtual 112) (args := [(19, 0), (0, (h 64 1 0))]) (rest := []) (g1 := (h, hm, o)) (r1 := some (0, r1)) (by decide +kernel) rfl rfl rfl (st' := [(0, r1)]) rfl (S91 (Nat.le_trans (by decide) hd) (h 64 1 0) h _ q1) ?_
  refine zF_blk (m := []) (d := 0) (b := B90b_1) (gs := []) (c' := (13, [some (11, 1), some (19, 0), some (0, v2), some (0, v3), some (0, r1), some (0, 0), none], [], (h, hm, o))) K90b_1 rfl trivial ?_
  exact T90b_0 hd zFu v2 v3 r1 0 h _ e
def B89b_0 : List zRow := [(0, .aload_n 0, 1, (0, 0, 0)), (1, .dup, 1, (0, 0, 0)), (2, .getfield 30, 3, (1, 0, 0)), (5, .iconst 1, 1, (0, 0, 0)), (6, .iadd, 1, (0, 0, 0)), (7, .putfield 30, 3, (1, 0, 0)), (10, .iconst 0, 1, (0, 0, 0)), (11, .istore_n 3, 1, (0, 0, 0))]
theorem K89b_0 : zRk 89 B89b_0 = true := by decide +kernel
def B89b_1 : List zRow := [(56, .iconst 0, 1, (0, 0, 0)), (57, .istore_n 3, 1, (0, 0, 0))]
theorem K89b_1 : zRk 89 B89b_1 = true := by decide +kernel
def B89b_2 : List zRow := [(33, .aload_n 0, 1, (0, 0, 0)), (34, .getfield 9, 3, (1, 3, 5242906)), (37, .aload_n 1, 1, (0, 0, 0)), (38, .getfield 98, 3, (9, 15, 5242962)), (41, .iload_n 3, 1, (0, 0, 0)), (42, .iaload, 1, (0, 0, 0)), (43, .aload_n 1, 1, (0, 0, 0)), (44, .getfield 101, 3, (9, 16, 5242962)), (47, .iload_n 3, 1, (0, 0, 0)), (48, .iaload, 1, (0, 0, 0)), (49, .iastore, 1, (0, 0, 0))]
theorem K89b_2 : zRk 89 B89b_2 = true := by decide +kernel
def B89b_3 : List zRow := [(20, .aload_n 1, 1, (0, 0, 0)), (21, .getfield 95, 3, (9, 14, 5242962)), (24, .iload_n 3, 1, (0, 0, 0)), (25, .iaload, 1, (0, 0, 0)), (26, .aload_n 0, 1, (0, 0, 0)), (27, .getfield 30, 3, (1, 0, 0)), (30, .if_icmp .ne 20, 3, (0, 0, 0))]
theorem K89b_3 : zRk 89 B89b_3 = true := by decide +kernel
def B89b_4 : List zRow := [(12, .iload_n 3, 1, (0, 0, 0)), (13, .aload_n 1, 1, (0, 0, 0)), (14, .getfield 92, 3, (9, 4, 0)), (17, .if_icmp .ge 39, 3, (0, 0, 0))]
theorem K89b_4 : zRk 89 B89b_4 = true := by decide +kernel
def B89b_5 : List zRow := [(50, .iinc 3 1, 3, (0, 0, 0)), (53, .goto (-41), 3, (0, 0, 0))]
theorem K89b_5 : zRk 89 B89b_5 = true := by decide +kernel
def B89b_6 : List zRow := [(79, .aload_n 0, 1, (0, 0, 0)), (80, .aload_n 1, 1, (0, 0, 0)), (81, .iload_n 3, 1, (0, 0, 0)), (82, .iload_n 2, 1, (0, 0, 0))]
theorem K89b_6 : zRk 89 B89b_6 = true := by decide +kernel
def B89b_7 : List zRow := [(66, .aload_n 0, 1, (0, 0, 0)), (67, .getfield 27, 3, (1, 8, 5243002)), (70, .iload_n 3, 1, (0, 0, 0)), (71, .iaload, 1, (0, 0, 0)), (72, .aload_n 0, 1, (0, 0, 0)), (73, .getfield 30, 3, (1, 0, 0)), (76, .if_icmp .ne 10, 3, (0, 0, 0))]
theorem K89b_7 : zRk 89 B89b_7 = true := by decide +kernel
def B89b_8 : List zRow := [(58, .iload_n 3, 1, (0, 0, 0)), (59, .aload_n 0, 1, (0, 0, 0)), (60, .getfield 34, 3, (1, 1, 0)), (63, .if_icmp .ge 29, 3, (0, 0, 0))]
theorem K89b_8 : zRk 89 B89b_8 = true := by decide +kernel
def B89b_9 : List zRow := [(86, .iinc 3 1, 3, (0, 0, 0)), (89, .goto (-31), 3, (0, 0, 0))]
theorem K89b_9 : zRk 89 B89b_9 = true := by decide +kernel
def F89b_3 (k0 : Int → Int → zHC → Option zHC) (v2 : Int) (v3 : Int) (h : zHC) : Option zHC := k0 v2 (wadd v3 1) h
set_option maxRecDepth 100000 in
theorem T89b_3 {spec : zRn zH2} {hm : zHM} {o : Int → Int} {d : Nat} (hd : 4 ≤ d) (k0 : Int → Int → zHC → Option zHC) (hk0 : ∀ (v2 : Int) (v3 : Int) (h : zHC) (v : zHC), k0 v2 v3 h = some v → zFin 0 (fun _ => 0) (zRu2 spec d) 89 none (v, hm, o) (58, [some (11, 1), some (19, 0), some (0, v2), some (0, v3)], [], (h, hm, o))) (v2 : Int) (v3 : Int) (h : zHC) (v : zHC) (e : F89b_3 k0 v2 v3 h = some v) : zFin 0 (fun _ => 0) (zRu2 spec d) 89 none (v, hm, o) (86, [some (11, 1), some (19, 0), some (0, v2), some (0, v3)], [], (h, hm, o)) := by
  unfold F89b_3 at e
  refine zF_blk (m := []) (d := 0) (b := B89b_9) (gs := []) (c' := (58, [some (11, 1), some (19, 0), some (0, v2), some (0, (wadd v3 1))], [], (h, hm, o))) K89b_9 rfl trivial ?_
  exact hk0 v2 (wadd v3 1) h _ e
def F89b_1 : Nat → Int → Int → zHC → Option zHC
  | 0, _, _, _ => none
  | n + 1, v2, v3, h => if (h 65 1 0) ≤ v3 then some h else zG (0 ≤ v3 ∧ v3 < 30) (if ¬ (h 72 1 v3) = (h 64 1 0) then F89b_3 (F89b_1 n) v2 v3 h else (F90b v3 v2 h).bind fun r1 => F89b_3 (F89b_1 n) v2 v3 r1)
set_option maxRecDepth 100000 in
theorem T89b_1 {spec : zRn zH2} {hm : zHM} {o : Int → Int} {d : Nat} (hd : 4 ≤ d) : ∀ (n : Nat) (v2 : Int) (v3 : Int) (h : zHC) (v : zHC), F89b_1 n v2 v3 h = some v → zFin 0 (fun _ => 0) (zRu2 spec d) 89 none (v, hm, o) (58, [some (11, 1), some (19, 0), some (0, v2), some (0, v3)], [], (h, hm, o)) := by
  intro n
  induction n with
  | zero => intro v2 v3 h v e; unfold F89b_1 at e; cases e
  | succ n hk0 =>
    intro v2 v3 h v e
    unfold F89b_1 at e
    rcases zI_s e with ⟨q1, e⟩ | ⟨q1, e⟩
    · refine zF_blk (m := []) (d := 1) (b := B89b_8) (gs := [(h 65 1 0) ≤ v3]) (c' := (92, [some (11, 1), some (19, 0), some (0, v2), some (0, v3)], [], (h, hm, o))) K89b_8 rfl ⟨q1, trivial⟩ ?_
      obtain rfl := Option.some.inj e
      exact zF_rv (by decide +kernel)
    · refine zF_blk (m := []) (d := 0) (b := B89b_8) (gs := [¬ ((h 65 1 0) ≤ v3)]) (c' := (66, [some (11, 1), some (19, 0), some (0, v2), some (0, v3)], [], (h, hm, o))) K89b_8 rfl ⟨q1, trivial⟩ ?_
      obtain ⟨q2, e⟩ := zG_s e
      rcases zI_s e with ⟨q3, e⟩ | ⟨q3, e⟩
      · refine zF_blk (m := []) (d := 1) (b := B89b_7) (gs := [0 ≤ v3 ∧ v3 < 30, ¬ (h 72 1 v3) = (h 64 1 0)]) (c' := (86, [some (11, 1), some (19, 0), some (0, v2), some (0, v3)], [], (h, hm, o))) K89b_7 rfl ⟨q2, q3, trivial⟩ ?_
        exact T89b_3 hd (F89b_1 n) hk0 v2 v3 h _ e
      · refine zF_blk (m := []) (d := 0) (b := B89b_7) (gs := [0 ≤ v3 ∧ v3 < 30, ¬ (¬ (h 72 1 v3) = (h 64 1 0))]) (c' := (79, [some (11, 1), some (19, 0), some (0, v2), some (0, v3)], [], (h, hm, o))) K89b_7 rfl ⟨q2, q3, trivial⟩ ?_
        obtain ⟨r1, q4, e⟩ := zB_s e
        refine zF_blk (m := []) (d := 0) (b := B89b_6) (gs := []) (c' := (83, [some (11, 1), some (19, 0), some (0, v2), some (0, v3)], [(0, v2), (0, v3), (19, 0), (11, 1)], (h, hm, o))) K89b_6 rfl trivial ?_
        refine zF_call (k := 90) (cl := 1) (n := 4) (i := .invokevirtual 104) (args := [(11, 1), (19, 0), (0, v3), (0, v2)]) (rest := []) (g1 := (r1, hm, o)) (r1 := none) (by decide +kernel) rfl rfl rfl (st' := []) rfl (S90b (Nat.le_trans (by decide) hd) v3 v2 h _ q4) ?_
        exact T89b_3 hd (F89b_1 n) hk0 v2 v3 r1 _ e
def F89b_2 (k0 : Int → Int → zHC → Option zHC) (v2 : Int) (v3 : Int) (h : zHC) : Option zHC := k0 v2 (wadd v3 1) h
set_option maxRecDepth 100000 in
theorem T89b_2 {spec : zRn zH2} {hm : zHM} {o : Int → Int} {d : Nat} (hd : 4 ≤ d) (k0 : Int → Int → zHC → Option zHC) (hk0 : ∀ (v2 : Int) (v3 : Int) (h : zHC) (v : zHC), k0 v2 v3 h = some v → zFin 0 (fun _ => 0) (zRu2 spec d) 89 none (v, hm, o) (12, [some (11, 1), some (19, 0), some (0, v2), some (0, v3)], [], (h, hm, o))) (v2 : Int) (v3 : Int) (h : zHC) (v : zHC) (e : F89b_2 k0 v2 v3 h = some v) : zFin 0 (fun _ => 0) (zRu2 spec d) 89 none (v, hm, o) (50, [some (11, 1), some (19, 0), some (0, v2), some (0, v3)], [], (h, hm, o)) := by
  unfold F89b_2 at e
  refine zF_blk (m := []) (d := 0) (b := B89b_5) (gs := []) (c' := (12, [some (11, 1), some (19, 0), some (0, v2), some (0, (wadd v3 1))], [], (h, hm, o))) K89b_5 rfl trivial ?_
  exact hk0 v2 (wadd v3 1) h _ e
def F89b_0 : Nat → Int → Int → zHC → Option zHC
  | 0, _, _, _ => none
  | n + 1, v2, v3, h => if (h 580 0 0) ≤ v3 then F89b_1 zFu v2 0 h else zG (0 ≤ v3 ∧ v3 < 20) (if ¬ (h 590 0 v3) = (h 64 1 0) then F89b_2 (F89b_0 n) v2 v3 h else zG (0 ≤ v3 ∧ v3 < 20) (zG (0 ≤ v3 ∧ v3 < 20) (zG (0 ≤ (h 591 0 v3) ∧ (h 591 0 v3) < 6) (F89b_2 (F89b_0 n) v2 v3 (hset h 67 1 (h 591 0 v3) (h 592 0 v3))))))
set_option maxRecDepth 100000 in
theorem T89b_0 {spec : zRn zH2} {hm : zHM} {o : Int → Int} {d : Nat} (hd : 4 ≤ d) : ∀ (n : Nat) (v2 : Int) (v3 : Int) (h : zHC) (v : zHC), F89b_0 n v2 v3 h = some v → zFin 0 (fun _ => 0) (zRu2 spec d) 89 none (v, hm, o) (12, [some (11, 1), some (19, 0), some (0, v2), some (0, v3)], [], (h, hm, o)) := by
  intro n
  induction n with
  | zero => intro v2 v3 h v e; unfold F89b_0 at e; cases e
  | succ n hk0 =>
    intro v2 v3 h v e
    unfold F89b_0 at e
    rcases zI_s e with ⟨q1, e⟩ | ⟨q1, e⟩
    · refine zF_blk (m := []) (d := 1) (b := B89b_4) (gs := [(h 580 0 0) ≤ v3]) (c' := (56, [some (11, 1), some (19, 0), some (0, v2), some (0, v3)], [], (h, hm, o))) K89b_4 rfl ⟨q1, trivial⟩ ?_
      refine zF_blk (m := []) (d := 0) (b := B89b_1) (gs := []) (c' := (58, [some (11, 1), some (19, 0), some (0, v2), some (0, 0)], [], (h, hm, o))) K89b_1 rfl trivial ?_
      exact T89b_1 hd zFu v2 0 h _ e
    · refine zF_blk (m := []) (d := 0) (b := B89b_4) (gs := [¬ ((h 580 0 0) ≤ v3)]) (c' := (20, [some (11, 1), some (19, 0), some (0, v2), some (0, v3)], [], (h, hm, o))) K89b_4 rfl ⟨q1, trivial⟩ ?_
      obtain ⟨q2, e⟩ := zG_s e
      rcases zI_s e with ⟨q3, e⟩ | ⟨q3, e⟩
      · refine zF_blk (m := []) (d := 1) (b := B89b_3) (gs := [0 ≤ v3 ∧ v3 < 20, ¬ (h 590 0 v3) = (h 64 1 0)]) (c' := (50, [some (11, 1), some (19, 0), some (0, v2), some (0, v3)], [], (h, hm, o))) K89b_3 rfl ⟨q2, q3, trivial⟩ ?_
        exact T89b_2 hd (F89b_0 n) hk0 v2 v3 h _ e
      · refine zF_blk (m := []) (d := 0) (b := B89b_3) (gs := [0 ≤ v3 ∧ v3 < 20, ¬ (¬ (h 590 0 v3) = (h 64 1 0))]) (c' := (33, [some (11, 1), some (19, 0), some (0, v2), some (0, v3)], [], (h, hm, o))) K89b_3 rfl ⟨q2, q3, trivial⟩ ?_
        obtain ⟨q4, e⟩ := zG_s e
        obtain ⟨q4, e⟩ := zG_s e
        obtain ⟨q5, e⟩ := zG_s e
        refine zF_blk (m := []) (d := 0) (b := B89b_2) (gs := [0 ≤ v3 ∧ v3 < 20, 0 ≤ v3 ∧ v3 < 20, 0 ≤ (h 591 0 v3) ∧ (h 591 0 v3) < 6]) (c' := (50, [some (11, 1), some (19, 0), some (0, v2), some (0, v3)], [], ((hset h 67 1 (h 591 0 v3) (h 592 0 v3)), hm, o))) K89b_2 rfl ⟨q4, q4, q5, trivial⟩ ?_
        exact T89b_2 hd (F89b_0 n) hk0 v2 v3 (hset h 67 1 (h 591 0 v3) (h 592 0 v3)) _ e
/-- EchoVale$Course.pass(LEchoVale$Valley;I)V -/
def F89b (v2 : Int) (h : zHC) : Option zHC := F89b_0 zFu v2 0 (hset h 64 1 0 (wadd (h 64 1 0) 1))
set_option maxRecDepth 100000 in
theorem S89b {spec : zRn zH2} {hm : zHM} {o : Int → Int} {d : Nat} (hd : 5 ≤ d) (v2 : Int) (h : zHC) (v : zHC) (e : F89b v2 h = some v) : zRu2 spec d 89 [(11, 1), (19, 0), (0, v2)] (h, hm, o) none (v, hm, o) := by
  refine zF_in (D := 4) (mx := 4) (L := [some (11, 1), some (19, 0), some (0, v2), none]) (by decide +kernel) rfl rfl hd (fun d hd => ?_)
  unfold F89b at e
  refine zF_blk (m := []) (d := 0) (b := B89b_0) (gs := []) (c' := (12, [some (11, 1), some (19, 0), some (0, v2), some (0, 0)], [], ((hset h 64 1 0 (wadd (h 64 1 0) 1)), hm, o))) K89b_0 rfl trivial ?_
  exact T89b_0 hd zFu v2 0 (hset h 64 1 0 (wadd (h 64 1 0) 1)) _ e
def B88b_0 : List zRow := [(0, .iconst 0, 1, (0, 0, 0)), (1, .istore_n 3, 1, (0, 0, 0))]
theorem K88b_0 : zRk 88 B88b_0 = true := by decide +kernel
def B88b_1 : List zRow := [(29, .iload_n 3, 1, (0, 0, 0))]
theorem K88b_1 : zRk 88 B88b_1 = true := by decide +kernel
def B88b_2 : List zRow := [(17, .aload_n 0, 1, (0, 0, 0)), (18, .aload_n 1, 1, (0, 0, 0)), (19, .iconst 0, 1, (0, 0, 0))]
theorem K88b_2 : zRk 88 B88b_2 = true := by decide +kernel
def B88b_3 : List zRow := [(23, .iinc 3 1, 3, (0, 0, 0)), (26, .goto (-24), 3, (0, 0, 0))]
theorem K88b_3 : zRk 88 B88b_3 = true := by decide +kernel
def B88b_4 : List zRow := [(7, .aload_n 0, 1, (0, 0, 0)), (8, .getfield 30, 3, (1, 0, 0)), (11, .sipush 400, 3, (0, 0, 0)), (14, .if_icmp .ge 15, 3, (0, 0, 0))]
theorem K88b_4 : zRk 88 B88b_4 = true := by decide +kernel
def B88b_5 : List zRow := [(2, .iload_n 3, 1, (0, 0, 0)), (3, .iload_n 2, 1, (0, 0, 0)), (4, .if_icmp .ge 25, 3, (0, 0, 0))]
theorem K88b_5 : zRk 88 B88b_5 = true := by decide +kernel
def F88b_0 : Nat → Int → Int → zHC → Option (Int × zHC)
  | 0, _, _, _ => none
  | n + 1, v2, v3, h => if v2 ≤ v3 then some (v3, h) else if 400 ≤ (h 64 1 0) then some (v3, h) else (F89b 0 h).bind fun r1 => (F88b_0 n) v2 (wadd v3 1) r1
set_option maxRecDepth 100000 in
theorem T88b_0 {spec : zRn zH2} {hm : zHM} {o : Int → Int} {d : Nat} (hd : 5 ≤ d) : ∀ (n : Nat) (v2 : Int) (v3 : Int) (h : zHC) (v : (Int × zHC)), F88b_0 n v2 v3 h = some v → zFin 0 (fun _ => 0) (zRu2 spec d) 88 (some (0, v.1)) (v.2, hm, o) (2, [some (11, 1), some (19, 0), some (0, v2), some (0, v3)], [], (h, hm, o)) := by
  intro n
  induction n with
  | zero => intro v2 v3 h v e; unfold F88b_0 at e; cases e
  | succ n hk0 =>
    intro v2 v3 h v e
    unfold F88b_0 at e
    rcases zI_s e with ⟨q1, e⟩ | ⟨q1, e⟩
    · refine zF_blk (m := []) (d := 1) (b := B88b_5) (gs := [v2 ≤ v3]) (c' := (29, [some (11, 1), some (19, 0), some (0, v2), some (0, v3)], [], (h, hm, o))) K88b_5 rfl ⟨q1, trivial⟩ ?_
      refine zF_blk (m := []) (d := 0) (b := B88b_1) (gs := []) (c' := (30, [some (11, 1), some (19, 0), some (0, v2), some (0, v3)], [(0, v3)], (h, hm, o))) K88b_1 rfl trivial ?_
      exact zF_riC (by decide +kernel) e
    · refine zF_blk (m := []) (d := 0) (b := B88b_5) (gs := [¬ (v2 ≤ v3)]) (c' := (7, [some (11, 1), some (19, 0), some (0, v2), some (0, v3)], [], (h, hm, o))) K88b_5 rfl ⟨q1, trivial⟩ ?_
      rcases zI_s e with ⟨q2, e⟩ | ⟨q2, e⟩
      · refine zF_blk (m := []) (d := 1) (b := B88b_4) (gs := [400 ≤ (h 64 1 0)]) (c' := (29, [some (11, 1), some (19, 0), some (0, v2), some (0, v3)], [], (h, hm, o))) K88b_4 rfl ⟨q2, trivial⟩ ?_
        refine zF_blk (m := []) (d := 0) (b := B88b_1) (gs := []) (c' := (30, [some (11, 1), some (19, 0), some (0, v2), some (0, v3)], [(0, v3)], (h, hm, o))) K88b_1 rfl trivial ?_
        exact zF_riC (by decide +kernel) e
      · refine zF_blk (m := []) (d := 0) (b := B88b_4) (gs := [¬ (400 ≤ (h 64 1 0))]) (c' := (17, [some (11, 1), some (19, 0), some (0, v2), some (0, v3)], [], (h, hm, o))) K88b_4 rfl ⟨q2, trivial⟩ ?_
        obtain ⟨r1, q3, e⟩ := zB_s e
        refine zF_blk (m := []) (d := 0) (b := B88b_2) (gs := []) (c' := (20, [some (11, 1), some (19, 0), some (0, v2), some (0, v3)], [(0, 0), (19, 0), (11, 1)], (h, hm, o))) K88b_2 rfl trivial ?_
        refine zF_call (k := 89) (cl := 1) (n := 3) (i := .invokevirtual 88) (args := [(11, 1), (19, 0), (0, 0)]) (rest := []) (g1 := (r1, hm, o)) (r1 := none) (by decide +kernel) rfl rfl rfl (st' := []) rfl (S89b (Nat.le_trans (by decide) hd) 0 h _ q3) ?_
        refine zF_blk (m := []) (d := 0) (b := B88b_3) (gs := []) (c' := (2, [some (11, 1), some (19, 0), some (0, v2), some (0, (wadd v3 1))], [], (r1, hm, o))) K88b_3 rfl trivial ?_
        exact hk0 v2 (wadd v3 1) r1 _ e
/-- EchoVale$Course.passHours(LEchoVale$Valley;I)I -/
def F88b (v2 : Int) (h : zHC) : Option (Int × zHC) := F88b_0 zFu v2 0 h
set_option maxRecDepth 100000 in
theorem S88b {spec : zRn zH2} {hm : zHM} {o : Int → Int} {d : Nat} (hd : 6 ≤ d) (v2 : Int) (h : zHC) (v : (Int × zHC)) (e : F88b v2 h = some v) : zRu2 spec d 88 [(11, 1), (19, 0), (0, v2)] (h, hm, o) (some (0, v.1)) (v.2, hm, o) := by
  refine zF_in (D := 5) (mx := 4) (L := [some (11, 1), some (19, 0), some (0, v2), none]) (by decide +kernel) rfl rfl hd (fun d hd => ?_)
  unfold F88b at e
  refine zF_blk (m := []) (d := 0) (b := B88b_0) (gs := []) (c' := (2, [some (11, 1), some (19, 0), some (0, v2), some (0, 0)], [], (h, hm, o))) K88b_0 rfl trivial ?_
  exact T88b_0 hd zFu v2 0 h _ e
def B63b_0 : List zRow := [(0, .aload_n 0, 1, (0, 0, 0)), (1, .getfield 21, 3, (1, 6, 5243842)), (4, .iload_n 1, 1, (0, 0, 0)), (5, .bipush 8, 2, (0, 0, 0)), (7, .imul, 1, (0, 0, 0)), (8, .iload_n 2, 1, (0, 0, 0)), (9, .iadd, 1, (0, 0, 0)), (10, .iaload, 1, (0, 0, 0))]
theorem K63b_0 : zRk 63 B63b_0 = true := by decide +kernel
/-- EchoVale$Course.fact(II)I -/
def F63b (v1 : Int) (v2 : Int) (h : zHC) : Option Int := zG (0 ≤ (wadd (wmul v1 8) v2) ∧ (wadd (wmul v1 8) v2) < 240) (some (h 70 1 (wadd (wmul v1 8) v2)))
set_option maxRecDepth 100000 in
theorem S63b {spec : zRn zH2} {hm : zHM} {o : Int → Int} {d : Nat} (hd : 1 ≤ d) (v1 : Int) (v2 : Int) (h : zHC) (v : Int) (e : F63b v1 v2 h = some v) : zRu2 spec d 63 [(11, 1), (0, v1), (0, v2)] (h, hm, o) (some (0, v)) (h, hm, o) := by
  refine zF_in (D := 0) (mx := 3) (L := [some (11, 1), some (0, v1), some (0, v2)]) (by decide +kernel) rfl rfl hd (fun d hd => ?_)
  unfold F63b at e
  obtain ⟨q1, e⟩ := zG_s e
  refine zF_blk (m := []) (d := 0) (b := B63b_0) (gs := [0 ≤ (wadd (wmul v1 8) v2) ∧ (wadd (wmul v1 8) v2) < 240]) (c' := (11, [some (11, 1), some (0, v1), some (0, v2)], [(0, (h 70 1 (wadd (wmul v1 8) v2)))], (h, hm, o))) K63b_0 rfl ⟨q1, trivial⟩ ?_
  obtain rfl := Option.some.inj e
  exact zF_ri (by decide +kernel)
def B62b_0 : List zRow := [(0, .aload_n 0, 1, (0, 0, 0)), (1, .iload_n 2, 1, (0, 0, 0)), (2, .iconst 5, 1, (0, 0, 0))]
theorem K62b_0 : zRk 62 B62b_0 = true := by decide +kernel
def B62b_1 : List zRow := [(6, .istore_n 3, 1, (0, 0, 0)), (7, .iload_n 3, 1, (0, 0, 0))]
theorem K62b_1 : zRk 62 B62b_1 = true := by decide +kernel
def B62b_2 : List zRow := [(26, .iconst 0, 1, (0, 0, 0))]
theorem K62b_2 : zRk 62 B62b_2 = true := by decide +kernel
def B62b_3 : List zRow := [(18, .iload_n 3, 1, (0, 0, 0)), (19, .iload_n 1, 1, (0, 0, 0))]
theorem K62b_3 : zRk 62 B62b_3 = true := by decide +kernel
def B62b_4 : List zRow := [(28, .iload_n 3, 1, (0, 0, 0)), (29, .iconst 1, 1, (0, 0, 0)), (30, .iload_n 1, 1, (0, 0, 0)), (31, .ishl, 1, (0, 0, 0)), (32, .iconst 1, 1, (0, 0, 0)), (33, .isub, 1, (0, 0, 0)), (34, .iand, 1, (0, 0, 0))]
theorem K62b_4 : zRk 62 B62b_4 = true := by decide +kernel
def B62b_5 : List zRow := [(38, .istore 5, 2, (0, 0, 0)), (40, .aload_n 0, 1, (0, 0, 0)), (41, .iload_n 2, 1, (0, 0, 0)), (42, .iconst 0, 1, (0, 0, 0))]
theorem K62b_5 : zRk 62 B62b_5 = true := by decide +kernel
def B62b_6 : List zRow := [(67, .iconst 0, 1, (0, 0, 0))]
theorem K62b_6 : zRk 62 B62b_6 = true := by decide +kernel
def B62b_7 : List zRow := [(63, .iconst 1, 1, (0, 0, 0)), (64, .goto 4, 3, (0, 0, 0))]
theorem K62b_7 : zRk 62 B62b_7 = true := by decide +kernel
def B62b_8 : List zRow := [(46, .istore 6, 2, (0, 0, 0)), (48, .iload 6, 2, (0, 0, 0)), (50, .iload 4, 2, (0, 0, 0)), (52, .idiv, 1, (0, 0, 0)), (53, .iload 5, 2, (0, 0, 0)), (55, .iload 6, 2, (0, 0, 0)), (57, .iload 4, 2, (0, 0, 0)), (59, .irem, 1, (0, 0, 0)), (60, .if_icmp .ge 7, 3, (0, 0, 0))]
theorem K62b_8 : zRk 62 B62b_8 = true := by decide +kernel
def B62b_9 : List zRow := [(23, .ifCond .ne 5, 3, (0, 0, 0))]
theorem K62b_9 : zRk 62 B62b_9 = true := by decide +kernel
def B62b_10 : List zRow := [(11, .istore 4, 2, (0, 0, 0)), (13, .iload 4, 2, (0, 0, 0)), (15, .ifCond .eq 11, 3, (0, 0, 0))]
theorem K62b_10 : zRk 62 B62b_10 = true := by decide +kernel
def B62b_11 : List zRow := [(68, .iadd, 1, (0, 0, 0))]
theorem K62b_11 : zRk 62 B62b_11 = true := by decide +kernel
def F62b_0 (h : zHC) (s0 : Int) (s1 : Int) : Option Int := some (wadd s1 s0)
set_option maxRecDepth 100000 in
theorem T62b_0 {spec : zRn zH2} {hm : zHM} {o : Int → Int} {d : Nat} (hd : 1 ≤ d) (h : zHC) (s0 : Int) (s1 : Int) (v : Int) (e : F62b_0 h s0 s1 = some v) : zFin 0 (fun _ => 0) (zRu2 spec d) 62 (some (0, v)) (h, hm, o) (68, [none, none, none, none, none, none, none], [(0, s0), (0, s1)], (h, hm, o)) := by
  unfold F62b_0 at e
  refine zF_blk (m := []) (d := 0) (b := B62b_11) (gs := []) (c' := (69, [none, none, none, none, none, none, none], [(0, (wadd s1 s0))], (h, hm, o))) K62b_11 rfl trivial ?_
  obtain rfl := Option.some.inj e
  exact zF_ri (by decide +kernel)
/-- EchoVale$Course.shareOf(II)I -/
def F62b (v1 : Int) (v2 : Int) (h : zHC) : Option Int := (F63b v2 5 h).bind fun r1 => (F64 r1).bind fun r2 => if r2 = 0 then some 0 else (F65 r1 v1).bind fun r3 => if ¬ r3 = 0 then (F64 (wand r1 (wsub (wshl 1 v1) 1))).bind fun r4 => (F63b v2 0 h).bind fun r5 => zG (¬ r2 = 0) (zG (¬ r2 = 0) (if (wrem r5 r2) ≤ r4 then F62b_0 h 0 (wdiv r5 r2) else F62b_0 h 1 (wdiv r5 r2))) else some 0
set_option maxRecDepth 100000 in
theorem S62b {spec : zRn zH2} {hm : zHM} {o : Int → Int} {d : Nat} (hd : 2 ≤ d) (v1 : Int) (v2 : Int) (h : zHC) (v : Int) (e : F62b v1 v2 h = some v) : zRu2 spec d 62 [(11, 1), (0, v1), (0, v2)] (h, hm, o) (some (0, v)) (h, hm, o) := by
  refine zF_in (D := 1) (mx := 7) (L := [some (11, 1), some (0, v1), some (0, v2), none, none, none, none]) (by decide +kernel) rfl rfl hd (fun d hd => ?_)
  unfold F62b at e
  obtain ⟨r1, q1, e⟩ := zB_s e
  refine zF_blk (m := []) (d := 0) (b := B62b_0) (gs := []) (c' := (3, [some (11, 1), some (0, v1), some (0, v2), none, none, none, none], [(0, 5), (0, v2), (11, 1)], (h, hm, o))) K62b_0 rfl trivial ?_
  refine zF_call (k := 63) (cl := 1) (n := 3) (i := .invokevirtual 138) (args := [(11, 1), (0, v2), (0, 5)]) (rest := []) (g1 := (h, hm, o)) (r1 := some (0, r1)) (by decide +kernel) rfl rfl rfl (st' := [(0, r1)]) rfl (S63b (Nat.le_trans (by decide) hd) v2 5 h _ q1) ?_
  obtain ⟨r2, q2, e⟩ := zB_s e
  refine zF_blk (m := []) (d := 0) (b := B62b_1) (gs := []) (c' := (8, [some (11, 1), some (0, v1), some (0, v2), some (0, r1), none, none, none], [(0, r1)], (h, hm, o))) K62b_1 rfl trivial ?_
  refine zF_call (k := 64) (cl := 13) (n := 1) (i := .invokestatic 141) (args := [(0, r1)]) (rest := []) (g1 := (h, hm, o)) (r1 := some (0, r2)) (by decide +kernel) rfl rfl rfl (st' := [(0, r2)]) rfl (S64 (Nat.le_trans (by decide) hd) r1 h _ q2) ?_
  rcases zI_s e with ⟨q3, e⟩ | ⟨q3, e⟩
  · refine zF_blk (m := []) (d := 1) (b := B62b_10) (gs := [r2 = 0]) (c' := (26, [some (11, 1), some (0, v1), some (0, v2), some (0, r1), some (0, r2), none, none], [], (h, hm, o))) K62b_10 rfl ⟨q3, trivial⟩ ?_
    refine zF_blk (m := []) (d := 0) (b := B62b_2) (gs := []) (c' := (27, [some (11, 1), some (0, v1), some (0, v2), some (0, r1), some (0, r2), none, none], [(0, 0)], (h, hm, o))) K62b_2 rfl trivial ?_
    obtain rfl := Option.some.inj e
    exact zF_ri (by decide +kernel)
  · refine zF_blk (m := []) (d := 0) (b := B62b_10) (gs := [¬ (r2 = 0)]) (c' := (18, [some (11, 1), some (0, v1), some (0, v2), some (0, r1), some (0, r2), none, none], [], (h, hm, o))) K62b_10 rfl ⟨q3, trivial⟩ ?_
    obtain ⟨r3, q4, e⟩ := zB_s e
    refine zF_blk (m := []) (d := 0) (b := B62b_3) (gs := []) (c' := (20, [some (11, 1), some (0, v1), some (0, v2), some (0, r1), some (0, r2), none, none], [(0, v1), (0, r1)], (h, hm, o))) K62b_3 rfl trivial ?_
    refine zF_call (k := 65) (cl := 11) (n := 2) (i := .invokestatic 146) (args := [(0, r1), (0, v1)]) (rest := []) (g1 := (h, hm, o)) (r1 := some (0, r3)) (by decide +kernel) rfl rfl rfl (st' := [(0, r3)]) rfl (S65 (Nat.le_trans (by decide) hd) r1 v1 h _ q4) ?_
    rcases zI_s e with ⟨q5, e⟩ | ⟨q5, e⟩
    · refine zF_blk (m := []) (d := 1) (b := B62b_9) (gs := [¬ r3 = 0]) (c' := (28, [some (11, 1), some (0, v1), some (0, v2), some (0, r1), some (0, r2), none, none], [], (h, hm, o))) K62b_9 rfl ⟨q5, trivial⟩ ?_
      obtain ⟨r4, q6, e⟩ := zB_s e
      refine zF_blk (m := []) (d := 0) (b := B62b_4) (gs := []) (c' := (35, [some (11, 1), some (0, v1), some (0, v2), some (0, r1), some (0, r2), none, none], [(0, (wand r1 (wsub (wshl 1 v1) 1)))], (h, hm, o))) K62b_4 rfl trivial ?_
      refine zF_call (k := 64) (cl := 13) (n := 1) (i := .invokestatic 141) (args := [(0, (wand r1 (wsub (wshl 1 v1) 1)))]) (rest := []) (g1 := (h, hm, o)) (r1 := some (0, r4)) (by decide +kernel) rfl rfl rfl (st' := [(0, r4)]) rfl (S64 (Nat.le_trans (by decide) hd) (wand r1 (wsub (wshl 1 v1) 1)) h _ q6) ?_
      obtain ⟨r5, q7, e⟩ := zB_s e
      refine zF_blk (m := []) (d := 0) (b := B62b_5) (gs := []) (c' := (43, [some (11, 1), some (0, v1), some (0, v2), some (0, r1), some (0, r2), some (0, r4), none], [(0, 0), (0, v2), (11, 1)], (h, hm, o))) K62b_5 rfl trivial ?_
      refine zF_call (k := 63) (cl := 1) (n := 3) (i := .invokevirtual 138) (args := [(11, 1), (0, v2), (0, 0)]) (rest := []) (g1 := (h, hm, o)) (r1 := some (0, r5)) (by decide +kernel) rfl rfl rfl (st' := [(0, r5)]) rfl (S63b (Nat.le_trans (by decide) hd) v2 0 h _ q7) ?_
      obtain ⟨q8, e⟩ := zG_s e
      obtain ⟨q8, e⟩ := zG_s e
      rcases zI_s e with ⟨q9, e⟩ | ⟨q9, e⟩
      · refine zF_blk (m := []) (d := 1) (b := B62b_8) (gs := [¬ r2 = 0, ¬ r2 = 0, (wrem r5 r2) ≤ r4]) (c' := (67, [some (11, 1), some (0, v1), some (0, v2), some (0, r1), some (0, r2), some (0, r4), some (0, r5)], [(0, (wdiv r5 r2))], (h, hm, o))) K62b_8 rfl ⟨q8, q8, q9, trivial⟩ ?_
        refine zF_blk (m := []) (d := 0) (b := B62b_6) (gs := []) (c' := (68, [some (11, 1), some (0, v1), some (0, v2), some (0, r1), some (0, r2), some (0, r4), some (0, r5)], [(0, 0), (0, (wdiv r5 r2))], (h, hm, o))) K62b_6 rfl trivial ?_
        refine zF_blk (m := [false, false, false, false, false, false, false]) (d := 0) (b := []) (gs := []) (c' := (68, [none, none, none, none, none, none, none], [(0, 0), (0, (wdiv r5 r2))], (h, hm, o))) rfl rfl trivial ?_
        exact T62b_0 hd h 0 (wdiv r5 r2) _ e
      · refine zF_blk (m := []) (d := 0) (b := B62b_8) (gs := [¬ r2 = 0, ¬ r2 = 0, ¬ ((wrem r5 r2) ≤ r4)]) (c' := (63, [some (11, 1), some (0, v1), some (0, v2), some (0, r1), some (0, r2), some (0, r4), some (0, r5)], [(0, (wdiv r5 r2))], (h, hm, o))) K62b_8 rfl ⟨q8, q8, q9, trivial⟩ ?_
        refine zF_blk (m := []) (d := 0) (b := B62b_7) (gs := []) (c' := (68, [some (11, 1), some (0, v1), some (0, v2), some (0, r1), some (0, r2), some (0, r4), some (0, r5)], [(0, 1), (0, (wdiv r5 r2))], (h, hm, o))) K62b_7 rfl trivial ?_
        refine zF_blk (m := [false, false, false, false, false, false, false]) (d := 0) (b := []) (gs := []) (c' := (68, [none, none, none, none, none, none, none], [(0, 1), (0, (wdiv r5 r2))], (h, hm, o))) rfl rfl trivial ?_
        exact T62b_0 hd h 1 (wdiv r5 r2) _ e
    · refine zF_blk (m := []) (d := 0) (b := B62b_9) (gs := [¬ (¬ r3 = 0)]) (c' := (26, [some (11, 1), some (0, v1), some (0, v2), some (0, r1), some (0, r2), none, none], [], (h, hm, o))) K62b_9 rfl ⟨q5, trivial⟩ ?_
      refine zF_blk (m := []) (d := 0) (b := B62b_2) (gs := []) (c' := (27, [some (11, 1), some (0, v1), some (0, v2), some (0, r1), some (0, r2), none, none], [(0, 0)], (h, hm, o))) K62b_2 rfl trivial ?_
      obtain rfl := Option.some.inj e
      exact zF_ri (by decide +kernel)
def B101_0 : List zRow := [(0, .iconst 0, 1, (0, 0, 0)), (1, .istore_n 2, 1, (0, 0, 0)), (2, .iconst 0, 1, (0, 0, 0)), (3, .istore_n 3, 1, (0, 0, 0))]
theorem K101_0 : zRk 101 B101_0 = true := by decide +kernel
def B101_1 : List zRow := [(27, .iload_n 2, 1, (0, 0, 0))]
theorem K101_1 : zRk 101 B101_1 = true := by decide +kernel
def B101_2 : List zRow := [(12, .iload_n 2, 1, (0, 0, 0)), (13, .aload_n 0, 1, (0, 0, 0)), (14, .iload_n 1, 1, (0, 0, 0)), (15, .iload_n 3, 1, (0, 0, 0))]
theorem K101_2 : zRk 101 B101_2 = true := by decide +kernel
def B101_3 : List zRow := [(19, .iadd, 1, (0, 0, 0)), (20, .istore_n 2, 1, (0, 0, 0)), (21, .iinc 3 1, 3, (0, 0, 0)), (24, .goto (-20), 3, (0, 0, 0))]
theorem K101_3 : zRk 101 B101_3 = true := by decide +kernel
def B101_4 : List zRow := [(4, .iload_n 3, 1, (0, 0, 0)), (5, .aload_n 0, 1, (0, 0, 0)), (6, .getfield 34, 3, (1, 1, 0)), (9, .if_icmp .ge 18, 3, (0, 0, 0))]
theorem K101_4 : zRk 101 B101_4 = true := by decide +kernel
def F101_0 (h : zHC) : Nat → Int → Int → Int → Option Int
  | 0, _, _, _ => none
  | n + 1, v1, v2, v3 => if (h 65 1 0) ≤ v3 then some v2 else (F62b v1 v3 h).bind fun r1 => (F101_0 h n) v1 (wadd v2 r1) (wadd v3 1)
set_option maxRecDepth 100000 in
theorem T101_0 {spec : zRn zH2} {hm : zHM} {o : Int → Int} {d : Nat} (hd : 2 ≤ d) (h : zHC) : ∀ (n : Nat) (v1 : Int) (v2 : Int) (v3 : Int) (v : Int), F101_0 h n v1 v2 v3 = some v → zFin 0 (fun _ => 0) (zRu2 spec d) 101 (some (0, v)) (h, hm, o) (4, [some (11, 1), some (0, v1), some (0, v2), some (0, v3)], [], (h, hm, o)) := by
  intro n
  induction n with
  | zero => intro v1 v2 v3 v e; unfold F101_0 at e; cases e
  | succ n hk0 =>
    intro v1 v2 v3 v e
    unfold F101_0 at e
    rcases zI_s e with ⟨q1, e⟩ | ⟨q1, e⟩
    · refine zF_blk (m := []) (d := 1) (b := B101_4) (gs := [(h 65 1 0) ≤ v3]) (c' := (27, [some (11, 1), some (0, v1), some (0, v2), some (0, v3)], [], (h, hm, o))) K101_4 rfl ⟨q1, trivial⟩ ?_
      refine zF_blk (m := []) (d := 0) (b := B101_1) (gs := []) (c' := (28, [some (11, 1), some (0, v1), some (0, v2), some (0, v3)], [(0, v2)], (h, hm, o))) K101_1 rfl trivial ?_
      obtain rfl := Option.some.inj e
      exact zF_ri (by decide +kernel)
    · refine zF_blk (m := []) (d := 0) (b := B101_4) (gs := [¬ ((h 65 1 0) ≤ v3)]) (c' := (12, [some (11, 1), some (0, v1), some (0, v2), some (0, v3)], [], (h, hm, o))) K101_4 rfl ⟨q1, trivial⟩ ?_
      obtain ⟨r1, q2, e⟩ := zB_s e
      refine zF_blk (m := []) (d := 0) (b := B101_2) (gs := []) (c' := (16, [some (11, 1), some (0, v1), some (0, v2), some (0, v3)], [(0, v3), (0, v1), (11, 1), (0, v2)], (h, hm, o))) K101_2 rfl trivial ?_
      refine zF_call (k := 62) (cl := 1) (n := 3) (i := .invokevirtual 150) (args := [(11, 1), (0, v1), (0, v3)]) (rest := [(0, v2)]) (g1 := (h, hm, o)) (r1 := some (0, r1)) (by decide +kernel) rfl rfl rfl (st' := [(0, r1), (0, v2)]) rfl (S62b (Nat.le_trans (by decide) hd) v1 v3 h _ q2) ?_
      refine zF_blk (m := []) (d := 0) (b := B101_3) (gs := []) (c' := (4, [some (11, 1), some (0, v1), some (0, (wadd v2 r1)), some (0, (wadd v3 1))], [], (h, hm, o))) K101_3 rfl trivial ?_
      exact hk0 v1 (wadd v2 r1) (wadd v3 1) _ e
/-- EchoVale$Course.wealth(I)I -/
def F101 (v1 : Int) (h : zHC) : Option Int := F101_0 h zFu v1 0 0
set_option maxRecDepth 100000 in
theorem S101 {spec : zRn zH2} {hm : zHM} {o : Int → Int} {d : Nat} (hd : 3 ≤ d) (v1 : Int) (h : zHC) (v : Int) (e : F101 v1 h = some v) : zRu2 spec d 101 [(11, 1), (0, v1)] (h, hm, o) (some (0, v)) (h, hm, o) := by
  refine zF_in (D := 2) (mx := 4) (L := [some (11, 1), some (0, v1), none, none]) (by decide +kernel) rfl rfl hd (fun d hd => ?_)
  unfold F101 at e
  refine zF_blk (m := []) (d := 0) (b := B101_0) (gs := []) (c' := (4, [some (11, 1), some (0, v1), some (0, 0), some (0, 0)], [], (h, hm, o))) K101_0 rfl trivial ?_
  exact T101_0 hd h zFu v1 0 0 _ e
def B100_0 : List zRow := [(0, .aload_n 0, 1, (0, 0, 0)), (1, .getfield 60, 3, (11, 7, 135)), (4, .aload_n 0, 1, (0, 0, 0)), (5, .getfield 56, 3, (11, 6, 7))]
theorem K100_0 : zRk 100 B100_0 = true := by decide +kernel
def B100_1 : List zRow := [(11, .aload_n 0, 1, (0, 0, 0)), (12, .getfield 60, 3, (11, 7, 135)), (15, .getfield 177, 3, (1, 3, 5242906)), (18, .iload_n 1, 1, (0, 0, 0)), (19, .iload_n 2, 1, (0, 0, 0)), (20, .iastore, 1, (0, 0, 0)), (21, .aload_n 0, 1, (0, 0, 0)), (22, .getfield 60, 3, (11, 7, 135)), (25, .aload_n 0, 1, (0, 0, 0)), (26, .getfield 19, 3, (11, 1, 39)), (29, .iload_n 3, 1, (0, 0, 0))]
theorem K100_1 : zRk 100 B100_1 = true := by decide +kernel
def B100_2 : List zRow := [(33, .pop, 1, (0, 0, 0)), (34, .aload_n 0, 1, (0, 0, 0)), (35, .getfield 60, 3, (11, 7, 135)), (38, .iload_n 1, 1, (0, 0, 0))]
theorem K100_2 : zRk 100 B100_2 = true := by decide +kernel
/-- EchoVale.wealthByCamping(III)I -/
def F100 (v1 : Int) (v2 : Int) (v3 : Int) (h : zHC) : Option (Int × zHC) := (F71c h).bind fun r1 => zG (0 ≤ v1 ∧ v1 < 6) ((F88b v3 (hset r1 67 1 v1 v2)).bind fun r2 => (F101 v1 r2.2).bind fun r3 => some (r3, r2.2))
set_option maxRecDepth 100000 in
theorem S100 {spec : zRn zH2} {hm : zHM} {o : Int → Int} {d : Nat} (hd : 7 ≤ d) (v1 : Int) (v2 : Int) (v3 : Int) (h : zHC) (v : (Int × zHC)) (e : F100 v1 v2 v3 h = some v) : zRu2 spec d 100 [(21, 0), (0, v1), (0, v2), (0, v3)] (h, hm, o) (some (0, v.1)) (v.2, hm, o) := by
  refine zF_in (D := 6) (mx := 4) (L := [some (21, 0), some (0, v1), some (0, v2), some (0, v3)]) (by decide +kernel) rfl rfl hd (fun d hd => ?_)
  unfold F100 at e
  obtain ⟨r1, q1, e⟩ := zB_s e
  refine zF_blk (m := []) (d := 0) (b := B100_0) (gs := []) (c' := (8, [some (21, 0), some (0, v1), some (0, v2), some (0, v3)], [(11, 0), (11, 1)], (h, hm, o))) K100_0 rfl trivial ?_
  refine zF_call (k := 71) (cl := 1) (n := 2) (i := .invokevirtual 266) (args := [(11, 1), (11, 0)]) (rest := []) (g1 := (r1, hm, o)) (r1 := none) (by decide +kernel) rfl rfl rfl (st' := []) rfl (S71c (Nat.le_trans (by decide) hd)  h _ q1) ?_
  obtain ⟨q2, e⟩ := zG_s e
  obtain ⟨r2, q3, e⟩ := zB_s e
  refine zF_blk (m := []) (d := 0) (b := B100_1) (gs := [0 ≤ v1 ∧ v1 < 6]) (c' := (30, [some (21, 0), some (0, v1), some (0, v2), some (0, v3)], [(0, v3), (19, 0), (11, 1)], ((hset r1 67 1 v1 v2), hm, o))) K100_1 rfl ⟨q2, trivial⟩ ?_
  refine zF_call (k := 88) (cl := 1) (n := 3) (i := .invokevirtual 231) (args := [(11, 1), (19, 0), (0, v3)]) (rest := []) (g1 := (r2.2, hm, o)) (r1 := some (0, r2.1)) (by decide +kernel) rfl rfl rfl (st' := [(0, r2.1)]) rfl (S88b (Nat.le_trans (by decide) hd) v3 (hset r1 67 1 v1 v2) _ q3) ?_
  obtain ⟨r3, q4, e⟩ := zB_s e
  refine zF_blk (m := []) (d := 0) (b := B100_2) (gs := []) (c' := (39, [some (21, 0), some (0, v1), some (0, v2), some (0, v3)], [(0, v1), (11, 1)], (r2.2, hm, o))) K100_2 rfl trivial ?_
  refine zF_call (k := 101) (cl := 1) (n := 2) (i := .invokevirtual 179) (args := [(11, 1), (0, v1)]) (rest := []) (g1 := (r2.2, hm, o)) (r1 := some (0, r3)) (by decide +kernel) rfl rfl rfl (st' := [(0, r3)]) rfl (S101 (Nat.le_trans (by decide) hd) v1 r2.2 _ q4) ?_
  exact zF_riC (by decide +kernel) e
def B98_0 : List zRow := [(0, .aload_n 0, 1, (0, 0, 0)), (1, .iload_n 1, 1, (0, 0, 0))]
theorem K98_0 : zRk 98 B98_0 = true := by decide +kernel
def B98_1 : List zRow := [(15, .iconst (-1), 1, (0, 0, 0))]
theorem K98_1 : zRk 98 B98_1 = true := by decide +kernel
def B98_2 : List zRow := [(8, .iload_n 2, 1, (0, 0, 0))]
theorem K98_2 : zRk 98 B98_2 = true := by decide +kernel
def B98_3 : List zRow := [(17, .iconst (-1), 1, (0, 0, 0)), (18, .istore_n 3, 1, (0, 0, 0)), (19, .iconst (-1), 1, (0, 0, 0)), (20, .istore 4, 2, (0, 0, 0)), (22, .iconst 0, 1, (0, 0, 0)), (23, .istore 5, 2, (0, 0, 0))]
theorem K98_3 : zRk 98 B98_3 = true := by decide +kernel
def B98_4 : List zRow := [(12, .ifCond .ne 5, 3, (0, 0, 0))]
theorem K98_4 : zRk 98 B98_4 = true := by decide +kernel
def B98_5 : List zRow := [(5, .ifCond .eq 10, 3, (0, 0, 0))]
theorem K98_5 : zRk 98 B98_5 = true := by decide +kernel
def B98_6 : List zRow := [(78, .iload_n 3, 1, (0, 0, 0))]
theorem K98_6 : zRk 98 B98_6 = true := by decide +kernel
def B98_7 : List zRow := [(32, .aload_n 0, 1, (0, 0, 0)), (33, .getfield 19, 3, (11, 1, 39)), (36, .iload 5, 2, (0, 0, 0))]
theorem K98_7 : zRk 98 B98_7 = true := by decide +kernel
def B98_8 : List zRow := [(55, .iconst (-1), 1, (0, 0, 0))]
theorem K98_8 : zRk 98 B98_8 = true := by decide +kernel
def B98_9 : List zRow := [(44, .aload_n 0, 1, (0, 0, 0)), (45, .iload_n 1, 1, (0, 0, 0)), (46, .iload 5, 2, (0, 0, 0)), (48, .iload_n 2, 1, (0, 0, 0))]
theorem K98_9 : zRk 98 B98_9 = true := by decide +kernel
def B98_10 : List zRow := [(52, .goto 4, 3, (0, 0, 0))]
theorem K98_10 : zRk 98 B98_10 = true := by decide +kernel
def B98_11 : List zRow := [(41, .ifCond .eq 14, 3, (0, 0, 0))]
theorem K98_11 : zRk 98 B98_11 = true := by decide +kernel
def B98_12 : List zRow := [(25, .iload 5, 2, (0, 0, 0)), (27, .bipush 100, 2, (0, 0, 0)), (29, .if_icmp .ge 49, 3, (0, 0, 0))]
theorem K98_12 : zRk 98 B98_12 = true := by decide +kernel
def B98_13 : List zRow := [(65, .iload 6, 2, (0, 0, 0)), (67, .istore 4, 2, (0, 0, 0)), (69, .iload 5, 2, (0, 0, 0)), (71, .istore_n 3, 1, (0, 0, 0))]
theorem K98_13 : zRk 98 B98_13 = true := by decide +kernel
def B98_14 : List zRow := [(56, .istore 6, 2, (0, 0, 0)), (58, .iload 6, 2, (0, 0, 0)), (60, .iload 4, 2, (0, 0, 0)), (62, .if_icmp .le 10, 3, (0, 0, 0))]
theorem K98_14 : zRk 98 B98_14 = true := by decide +kernel
def B98_15 : List zRow := [(72, .iinc 5 1, 3, (0, 0, 0)), (75, .goto (-50), 3, (0, 0, 0))]
theorem K98_15 : zRk 98 B98_15 = true := by decide +kernel
def F98_2 (k0 : Int → Int → Int → Int → Int → zHC → Option (Int × zHC)) (v1 : Int) (v2 : Int) (v3 : Int) (v4 : Int) (v5 : Int) (h : zHC) : Option (Int × zHC) := k0 v1 v2 v3 v4 (wadd v5 1) h
set_option maxRecDepth 100000 in
theorem T98_2 {spec : zRn zH2} {hm : zHM} {o : Int → Int} {d : Nat} (hd : 7 ≤ d) (k0 : Int → Int → Int → Int → Int → zHC → Option (Int × zHC)) (hk0 : ∀ (v1 : Int) (v2 : Int) (v3 : Int) (v4 : Int) (v5 : Int) (h : zHC) (v : (Int × zHC)), k0 v1 v2 v3 v4 v5 h = some v → zFin 0 (fun _ => 0) (zRu2 spec d) 98 (some (0, v.1)) (v.2, hm, o) (25, [some (21, 0), some (0, v1), some (0, v2), some (0, v3), some (0, v4), some (0, v5), none], [], (h, hm, o))) (v1 : Int) (v2 : Int) (v3 : Int) (v4 : Int) (v5 : Int) (h : zHC) (v : (Int × zHC)) (e : F98_2 k0 v1 v2 v3 v4 v5 h = some v) : zFin 0 (fun _ => 0) (zRu2 spec d) 98 (some (0, v.1)) (v.2, hm, o) (72, [some (21, 0), some (0, v1), some (0, v2), some (0, v3), some (0, v4), some (0, v5), none], [], (h, hm, o)) := by
  unfold F98_2 at e
  refine zF_blk (m := []) (d := 0) (b := B98_15) (gs := []) (c' := (25, [some (21, 0), some (0, v1), some (0, v2), some (0, v3), some (0, v4), some (0, (wadd v5 1)), none], [], (h, hm, o))) K98_15 rfl trivial ?_
  exact hk0 v1 v2 v3 v4 (wadd v5 1) h _ e
def F98_1 (k0 : Int → Int → Int → Int → Int → zHC → Option (Int × zHC)) (v1 : Int) (v2 : Int) (v3 : Int) (v4 : Int) (v5 : Int) (s0 : Int) (h : zHC) : Option (Int × zHC) := if s0 ≤ v4 then F98_2 k0 v1 v2 v3 v4 v5 h else F98_2 k0 v1 v2 v5 s0 v5 h
set_option maxRecDepth 100000 in
theorem T98_1 {spec : zRn zH2} {hm : zHM} {o : Int → Int} {d : Nat} (hd : 7 ≤ d) (k0 : Int → Int → Int → Int → Int → zHC → Option (Int × zHC)) (hk0 : ∀ (v1 : Int) (v2 : Int) (v3 : Int) (v4 : Int) (v5 : Int) (h : zHC) (v : (Int × zHC)), k0 v1 v2 v3 v4 v5 h = some v → zFin 0 (fun _ => 0) (zRu2 spec d) 98 (some (0, v.1)) (v.2, hm, o) (25, [some (21, 0), some (0, v1), some (0, v2), some (0, v3), some (0, v4), some (0, v5), none], [], (h, hm, o))) (v1 : Int) (v2 : Int) (v3 : Int) (v4 : Int) (v5 : Int) (s0 : Int) (h : zHC) (v : (Int × zHC)) (e : F98_1 k0 v1 v2 v3 v4 v5 s0 h = some v) : zFin 0 (fun _ => 0) (zRu2 spec d) 98 (some (0, v.1)) (v.2, hm, o) (56, [some (21, 0), some (0, v1), some (0, v2), some (0, v3), some (0, v4), some (0, v5), none], [(0, s0)], (h, hm, o)) := by
  unfold F98_1 at e
  rcases zI_s e with ⟨q1, e⟩ | ⟨q1, e⟩
  · refine zF_blk (m := []) (d := 1) (b := B98_14) (gs := [s0 ≤ v4]) (c' := (72, [some (21, 0), some (0, v1), some (0, v2), some (0, v3), some (0, v4), some (0, v5), some (0, s0)], [], (h, hm, o))) K98_14 rfl ⟨q1, trivial⟩ ?_
    refine zF_blk (m := [true, true, true, true, true, true, false]) (d := 0) (b := []) (gs := []) (c' := (72, [some (21, 0), some (0, v1), some (0, v2), some (0, v3), some (0, v4), some (0, v5), none], [], (h, hm, o))) rfl rfl trivial ?_
    exact T98_2 hd k0 hk0 v1 v2 v3 v4 v5 h _ e
  · refine zF_blk (m := []) (d := 0) (b := B98_14) (gs := [¬ (s0 ≤ v4)]) (c' := (65, [some (21, 0), some (0, v1), some (0, v2), some (0, v3), some (0, v4), some (0, v5), some (0, s0)], [], (h, hm, o))) K98_14 rfl ⟨q1, trivial⟩ ?_
    refine zF_blk (m := []) (d := 0) (b := B98_13) (gs := []) (c' := (72, [some (21, 0), some (0, v1), some (0, v2), some (0, v5), some (0, s0), some (0, v5), some (0, s0)], [], (h, hm, o))) K98_13 rfl trivial ?_
    refine zF_blk (m := [true, true, true, true, true, true, false]) (d := 0) (b := []) (gs := []) (c' := (72, [some (21, 0), some (0, v1), some (0, v2), some (0, v5), some (0, s0), some (0, v5), none], [], (h, hm, o))) rfl rfl trivial ?_
    exact T98_2 hd k0 hk0 v1 v2 v5 s0 v5 h _ e
def F98_0 : Nat → Int → Int → Int → Int → Int → zHC → Option (Int × zHC)
  | 0, _, _, _, _, _, _ => none
  | n + 1, v1, v2, v3, v4, v5, h => if 100 ≤ v5 then some (v3, h) else (F69 v5 h).bind fun r1 => if r1 = 0 then F98_1 (F98_0 n) v1 v2 v3 v4 v5 (-1) h else (F100 v1 v5 v2 h).bind fun r2 => F98_1 (F98_0 n) v1 v2 v3 v4 v5 r2.1 r2.2
set_option maxRecDepth 100000 in
theorem T98_0 {spec : zRn zH2} {hm : zHM} {o : Int → Int} {d : Nat} (hd : 7 ≤ d) : ∀ (n : Nat) (v1 : Int) (v2 : Int) (v3 : Int) (v4 : Int) (v5 : Int) (h : zHC) (v : (Int × zHC)), F98_0 n v1 v2 v3 v4 v5 h = some v → zFin 0 (fun _ => 0) (zRu2 spec d) 98 (some (0, v.1)) (v.2, hm, o) (25, [some (21, 0), some (0, v1), some (0, v2), some (0, v3), some (0, v4), some (0, v5), none], [], (h, hm, o)) := by
  intro n
  induction n with
  | zero => intro v1 v2 v3 v4 v5 h v e; unfold F98_0 at e; cases e
  | succ n hk0 =>
    intro v1 v2 v3 v4 v5 h v e
    unfold F98_0 at e
    rcases zI_s e with ⟨q1, e⟩ | ⟨q1, e⟩
    · refine zF_blk (m := []) (d := 1) (b := B98_12) (gs := [100 ≤ v5]) (c' := (78, [some (21, 0), some (0, v1), some (0, v2), some (0, v3), some (0, v4), some (0, v5), none], [], (h, hm, o))) K98_12 rfl ⟨q1, trivial⟩ ?_
      refine zF_blk (m := []) (d := 0) (b := B98_6) (gs := []) (c' := (79, [some (21, 0), some (0, v1), some (0, v2), some (0, v3), some (0, v4), some (0, v5), none], [(0, v3)], (h, hm, o))) K98_6 rfl trivial ?_
      exact zF_riC (by decide +kernel) e
    · refine zF_blk (m := []) (d := 0) (b := B98_12) (gs := [¬ (100 ≤ v5)]) (c' := (32, [some (21, 0), some (0, v1), some (0, v2), some (0, v3), some (0, v4), some (0, v5), none], [], (h, hm, o))) K98_12 rfl ⟨q1, trivial⟩ ?_
      obtain ⟨r1, q2, e⟩ := zB_s e
      refine zF_blk (m := []) (d := 0) (b := B98_7) (gs := []) (c' := (38, [some (21, 0), some (0, v1), some (0, v2), some (0, v3), some (0, v4), some (0, v5), none], [(0, v5), (19, 0)], (h, hm, o))) K98_7 rfl trivial ?_
      refine zF_call (k := 69) (cl := 9) (n := 2) (i := .invokevirtual 214) (args := [(19, 0), (0, v5)]) (rest := []) (g1 := (h, hm, o)) (r1 := some (0, r1)) (by decide +kernel) rfl rfl rfl (st' := [(0, r1)]) rfl (S69 (Nat.le_trans (by decide) hd) v5 h _ q2) ?_
      rcases zI_s e with ⟨q3, e⟩ | ⟨q3, e⟩
      · refine zF_blk (m := []) (d := 1) (b := B98_11) (gs := [r1 = 0]) (c' := (55, [some (21, 0), some (0, v1), some (0, v2), some (0, v3), some (0, v4), some (0, v5), none], [], (h, hm, o))) K98_11 rfl ⟨q3, trivial⟩ ?_
        refine zF_blk (m := []) (d := 0) (b := B98_8) (gs := []) (c' := (56, [some (21, 0), some (0, v1), some (0, v2), some (0, v3), some (0, v4), some (0, v5), none], [(0, (-1))], (h, hm, o))) K98_8 rfl trivial ?_
        exact T98_1 hd (F98_0 n) hk0 v1 v2 v3 v4 v5 (-1) h _ e
      · refine zF_blk (m := []) (d := 0) (b := B98_11) (gs := [¬ (r1 = 0)]) (c' := (44, [some (21, 0), some (0, v1), some (0, v2), some (0, v3), some (0, v4), some (0, v5), none], [], (h, hm, o))) K98_11 rfl ⟨q3, trivial⟩ ?_
        obtain ⟨r2, q4, e⟩ := zB_s e
        refine zF_blk (m := []) (d := 0) (b := B98_9) (gs := []) (c' := (49, [some (21, 0), some (0, v1), some (0, v2), some (0, v3), some (0, v4), some (0, v5), none], [(0, v2), (0, v5), (0, v1), (21, 0)], (h, hm, o))) K98_9 rfl trivial ?_
        refine zF_call (k := 100) (cl := 11) (n := 4) (i := .invokevirtual 245) (args := [(21, 0), (0, v1), (0, v5), (0, v2)]) (rest := []) (g1 := (r2.2, hm, o)) (r1 := some (0, r2.1)) (by decide +kernel) rfl rfl rfl (st' := [(0, r2.1)]) rfl (S100 (Nat.le_trans (by decide) hd) v1 v5 v2 h _ q4) ?_
        refine zF_blk (m := []) (d := 0) (b := B98_10) (gs := []) (c' := (56, [some (21, 0), some (0, v1), some (0, v2), some (0, v3), some (0, v4), some (0, v5), none], [(0, r2.1)], (r2.2, hm, o))) K98_10 rfl trivial ?_
        exact T98_1 hd (F98_0 n) hk0 v1 v2 v3 v4 v5 r2.1 r2.2 _ e
/-- EchoVale.camp(II)I -/
def F98 (v1 : Int) (v2 : Int) (h : zHC) : Option (Int × zHC) := (F61 v1 h).bind fun r1 => if r1 = 0 then some ((-1), h) else (F99 v2).bind fun r2 => if ¬ r2 = 0 then F98_0 zFu v1 v2 (-1) (-1) 0 h else some ((-1), h)
set_option maxRecDepth 100000 in
theorem S98 {spec : zRn zH2} {hm : zHM} {o : Int → Int} {d : Nat} (hd : 8 ≤ d) (v1 : Int) (v2 : Int) (h : zHC) (v : (Int × zHC)) (e : F98 v1 v2 h = some v) : zRu2 spec d 98 [(21, 0), (0, v1), (0, v2)] (h, hm, o) (some (0, v.1)) (v.2, hm, o) := by
  refine zF_in (D := 7) (mx := 7) (L := [some (21, 0), some (0, v1), some (0, v2), none, none, none, none]) (by decide +kernel) rfl rfl hd (fun d hd => ?_)
  unfold F98 at e
  obtain ⟨r1, q1, e⟩ := zB_s e
  refine zF_blk (m := []) (d := 0) (b := B98_0) (gs := []) (c' := (2, [some (21, 0), some (0, v1), some (0, v2), none, none, none, none], [(0, v1), (21, 0)], (h, hm, o))) K98_0 rfl trivial ?_
  refine zF_call (k := 61) (cl := 11) (n := 2) (i := .invokevirtual 172) (args := [(21, 0), (0, v1)]) (rest := []) (g1 := (h, hm, o)) (r1 := some (0, r1)) (by decide +kernel) rfl rfl rfl (st' := [(0, r1)]) rfl (S61 (Nat.le_trans (by decide) hd) v1 h _ q1) ?_
  rcases zI_s e with ⟨q2, e⟩ | ⟨q2, e⟩
  · refine zF_blk (m := []) (d := 1) (b := B98_5) (gs := [r1 = 0]) (c' := (15, [some (21, 0), some (0, v1), some (0, v2), none, none, none, none], [], (h, hm, o))) K98_5 rfl ⟨q2, trivial⟩ ?_
    refine zF_blk (m := []) (d := 0) (b := B98_1) (gs := []) (c' := (16, [some (21, 0), some (0, v1), some (0, v2), none, none, none, none], [(0, (-1))], (h, hm, o))) K98_1 rfl trivial ?_
    exact zF_riC (by decide +kernel) e
  · refine zF_blk (m := []) (d := 0) (b := B98_5) (gs := [¬ (r1 = 0)]) (c' := (8, [some (21, 0), some (0, v1), some (0, v2), none, none, none, none], [], (h, hm, o))) K98_5 rfl ⟨q2, trivial⟩ ?_
    obtain ⟨r2, q3, e⟩ := zB_s e
    refine zF_blk (m := []) (d := 0) (b := B98_2) (gs := []) (c' := (9, [some (21, 0), some (0, v1), some (0, v2), none, none, none, none], [(0, v2)], (h, hm, o))) K98_2 rfl trivial ?_
    refine zF_call (k := 99) (cl := 11) (n := 1) (i := .invokestatic 242) (args := [(0, v2)]) (rest := []) (g1 := (h, hm, o)) (r1 := some (0, r2)) (by decide +kernel) rfl rfl rfl (st' := [(0, r2)]) rfl (S99 (Nat.le_trans (by decide) hd) v2 h _ q3) ?_
    rcases zI_s e with ⟨q4, e⟩ | ⟨q4, e⟩
    · refine zF_blk (m := []) (d := 1) (b := B98_4) (gs := [¬ r2 = 0]) (c' := (17, [some (21, 0), some (0, v1), some (0, v2), none, none, none, none], [], (h, hm, o))) K98_4 rfl ⟨q4, trivial⟩ ?_
      refine zF_blk (m := []) (d := 0) (b := B98_3) (gs := []) (c' := (25, [some (21, 0), some (0, v1), some (0, v2), some (0, (-1)), some (0, (-1)), some (0, 0), none], [], (h, hm, o))) K98_3 rfl trivial ?_
      exact T98_0 hd zFu v1 v2 (-1) (-1) 0 h _ e
    · refine zF_blk (m := []) (d := 0) (b := B98_4) (gs := [¬ (¬ r2 = 0)]) (c' := (15, [some (21, 0), some (0, v1), some (0, v2), none, none, none, none], [], (h, hm, o))) K98_4 rfl ⟨q4, trivial⟩ ?_
      refine zF_blk (m := []) (d := 0) (b := B98_1) (gs := []) (c' := (16, [some (21, 0), some (0, v1), some (0, v2), none, none, none, none], [(0, (-1))], (h, hm, o))) K98_1 rfl trivial ?_
      exact zF_riC (by decide +kernel) e
def B242_0 : List zRow := [(0, .iload_n 0, 1, (0, 0, 0)), (1, .iconst 1, 1, (0, 0, 0)), (2, .bipush 60, 2, (0, 0, 0))]
theorem K242_0 : zRk 242 B242_0 = true := by decide +kernel
/-- EchoValeModel.isTime(I)Z -/
def F242 (v0 : Int) : Option Int := (F188 v0 1 60).bind fun r1 => zG (r1 = 0 ∨ r1 = 1) (some r1)
set_option maxRecDepth 100000 in
theorem S242 {spec : zRn zH2} {hc : zHC} {o : Int → Int} {d : Nat} (hd : 2 ≤ d) (v0 : Int) (h : zHM) (v : Int) (e : F242 v0 = some v) : zRu2 spec d 242 [(0, v0)] (hc, h, o) (some (0, v)) (hc, h, o) := by
  refine zF_in (D := 1) (mx := 1) (L := [some (0, v0)]) (by decide +kernel) rfl rfl hd (fun d hd => ?_)
  unfold F242 at e
  obtain ⟨r1, q1, e⟩ := zB_s e
  refine zF_blk (m := []) (d := 0) (b := B242_0) (gs := []) (c' := (4, [some (0, v0)], [(0, 60), (0, 1), (0, v0)], (hc, h, o))) K242_0 rfl trivial ?_
  refine zF_call (k := 188) (cl := 12) (n := 3) (i := .invokestatic 151) (args := [(0, v0), (0, 1), (0, 60)]) (rest := []) (g1 := (hc, h, o)) (r1 := some (0, r1)) (by decide +kernel) rfl rfl rfl (st' := [(0, r1)]) rfl (S188 (Nat.le_trans (by decide) hd) v0 1 60 h _ q1) ?_
  obtain ⟨q2, e⟩ := zG_s e
  obtain rfl := Option.some.inj e
  exact zF_rb (by decide +kernel) q2
def B244_0 : List zRow := [(0, .iconst 0, 1, (0, 0, 0)), (1, .istore_n 1, 1, (0, 0, 0))]
theorem K244_0 : zRk 244 B244_0 = true := by decide +kernel
def B244_1 : List zRow := [(9, .aload_n 0, 1, (0, 0, 0)), (10, .getfield 25, 3, (12, 18, 5249638)), (13, .iload_n 1, 1, (0, 0, 0)), (14, .aload_n 0, 1, (0, 0, 0)), (15, .getfield 13, 3, (12, 14, 5251442)), (18, .sipush 209, 3, (0, 0, 0)), (21, .iload_n 1, 1, (0, 0, 0))]
theorem K244_1 : zRk 244 B244_1 = true := by decide +kernel
def B244_2 : List zRow := [(22, .iadd, 1, (0, 0, 0)), (23, .iaload, 1, (0, 0, 0)), (24, .iastore, 1, (0, 0, 0)), (25, .iinc 1 1, 3, (0, 0, 0)), (28, .goto (-26), 3, (0, 0, 0))]
theorem K244_2 : zRk 244 B244_2 = true := by decide +kernel
def B244_3 : List zRow := [(2, .iload_n 1, 1, (0, 0, 0)), (3, .sipush 1689, 3, (0, 0, 0)), (6, .if_icmp .ge 25, 3, (0, 0, 0))]
theorem K244_3 : zRk 244 B244_3 = true := by decide +kernel
def F244_0 : Nat → Int → zHM → Option zHM
  | 0, _, _ => none
  | n + 1, v1, h => if 1689 ≤ v1 then some h else zG (0 ≤ (wadd 209 v1) ∧ (wadd 209 v1) < 2140) (zG (0 ≤ v1 ∧ v1 < 1689) ((F244_0 n) (wadd v1 1) (mset h 18 v1 (h 14 (wadd 209 v1)))))
set_option maxRecDepth 100000 in
theorem T244_0 {spec : zRn zH2} {hc : zHC} {o : Int → Int} {d : Nat} (hd : 0 ≤ d) : ∀ (n : Nat) (v1 : Int) (h : zHM) (v : zHM), F244_0 n v1 h = some v → zFin 0 (fun _ => 0) (zRu2 spec d) 244 none (hc, v, o) (2, [some (22, 0), some (0, v1)], [], (hc, h, o)) := by
  intro n
  induction n with
  | zero => intro v1 h v e; unfold F244_0 at e; cases e
  | succ n hk0 =>
    intro v1 h v e
    unfold F244_0 at e
    rcases zI_s e with ⟨q1, e⟩ | ⟨q1, e⟩
    · refine zF_blk (m := []) (d := 1) (b := B244_3) (gs := [1689 ≤ v1]) (c' := (31, [some (22, 0), some (0, v1)], [], (hc, h, o))) K244_3 rfl ⟨q1, trivial⟩ ?_
      obtain rfl := Option.some.inj e
      exact zF_rv (by decide +kernel)
    · refine zF_blk (m := []) (d := 0) (b := B244_3) (gs := [¬ (1689 ≤ v1)]) (c' := (9, [some (22, 0), some (0, v1)], [], (hc, h, o))) K244_3 rfl ⟨q1, trivial⟩ ?_
      obtain ⟨q2, e⟩ := zG_s e
      obtain ⟨q3, e⟩ := zG_s e
      refine zF_blk (m := []) (d := 0) (b := B244_1) (gs := []) (c' := (22, [some (22, 0), some (0, v1)], [(0, v1), (0, 209), (1344370422, 0), (0, v1), (1343908602, 0)], (hc, h, o))) K244_1 rfl trivial ?_
      refine zF_blk (m := []) (d := 0) (b := B244_2) (gs := [0 ≤ (wadd 209 v1) ∧ (wadd 209 v1) < 2140, 0 ≤ v1 ∧ v1 < 1689]) (c' := (2, [some (22, 0), some (0, (wadd v1 1))], [], (hc, (mset h 18 v1 (h 14 (wadd 209 v1))), o))) K244_2 rfl ⟨q2, q3, trivial⟩ ?_
      exact hk0 (wadd v1 1) (mset h 18 v1 (h 14 (wadd 209 v1))) _ e
/-- EchoValeModel.layAside()V -/
def F244 (h : zHM) : Option zHM := F244_0 zFu 0 h
set_option maxRecDepth 100000 in
theorem S244 {spec : zRn zH2} {hc : zHC} {o : Int → Int} {d : Nat} (hd : 1 ≤ d) (h : zHM) (v : zHM) (e : F244 h = some v) : zRu2 spec d 244 [(22, 0)] (hc, h, o) none (hc, v, o) := by
  refine zF_in (D := 0) (mx := 2) (L := [some (22, 0), none]) (by decide +kernel) rfl rfl hd (fun d hd => ?_)
  unfold F244 at e
  refine zF_blk (m := []) (d := 0) (b := B244_0) (gs := []) (c' := (2, [some (22, 0), some (0, 0)], [], (hc, h, o))) K244_0 rfl trivial ?_
  exact T244_0 hd zFu 0 h _ e
def B245_0 : List zRow := [(0, .iconst 0, 1, (0, 0, 0)), (1, .istore_n 1, 1, (0, 0, 0))]
theorem K245_0 : zRk 245 B245_0 = true := by decide +kernel
def B245_1 : List zRow := [(9, .aload_n 0, 1, (0, 0, 0)), (10, .getfield 13, 3, (12, 14, 5251442)), (13, .sipush 209, 3, (0, 0, 0)), (16, .iload_n 1, 1, (0, 0, 0))]
theorem K245_1 : zRk 245 B245_1 = true := by decide +kernel
def B245_2 : List zRow := [(17, .iadd, 1, (0, 0, 0)), (18, .aload_n 0, 1, (0, 0, 0)), (19, .getfield 25, 3, (12, 18, 5249638)), (22, .iload_n 1, 1, (0, 0, 0)), (23, .iaload, 1, (0, 0, 0)), (24, .iastore, 1, (0, 0, 0)), (25, .iinc 1 1, 3, (0, 0, 0)), (28, .goto (-26), 3, (0, 0, 0))]
theorem K245_2 : zRk 245 B245_2 = true := by decide +kernel
def B245_3 : List zRow := [(2, .iload_n 1, 1, (0, 0, 0)), (3, .sipush 1689, 3, (0, 0, 0)), (6, .if_icmp .ge 25, 3, (0, 0, 0))]
theorem K245_3 : zRk 245 B245_3 = true := by decide +kernel
def F245_0 : Nat → Int → zHM → Option zHM
  | 0, _, _ => none
  | n + 1, v1, h => if 1689 ≤ v1 then some h else zG (0 ≤ v1 ∧ v1 < 1689) (zG (0 ≤ (wadd 209 v1) ∧ (wadd 209 v1) < 2140) ((F245_0 n) (wadd v1 1) (mset h 14 (wadd 209 v1) (h 18 v1))))
set_option maxRecDepth 100000 in
theorem T245_0 {spec : zRn zH2} {hc : zHC} {o : Int → Int} {d : Nat} (hd : 0 ≤ d) : ∀ (n : Nat) (v1 : Int) (h : zHM) (v : zHM), F245_0 n v1 h = some v → zFin 0 (fun _ => 0) (zRu2 spec d) 245 none (hc, v, o) (2, [some (22, 0), some (0, v1)], [], (hc, h, o)) := by
  intro n
  induction n with
  | zero => intro v1 h v e; unfold F245_0 at e; cases e
  | succ n hk0 =>
    intro v1 h v e
    unfold F245_0 at e
    rcases zI_s e with ⟨q1, e⟩ | ⟨q1, e⟩
    · refine zF_blk (m := []) (d := 1) (b := B245_3) (gs := [1689 ≤ v1]) (c' := (31, [some (22, 0), some (0, v1)], [], (hc, h, o))) K245_3 rfl ⟨q1, trivial⟩ ?_
      obtain rfl := Option.some.inj e
      exact zF_rv (by decide +kernel)
    · refine zF_blk (m := []) (d := 0) (b := B245_3) (gs := [¬ (1689 ≤ v1)]) (c' := (9, [some (22, 0), some (0, v1)], [], (hc, h, o))) K245_3 rfl ⟨q1, trivial⟩ ?_
      obtain ⟨q2, e⟩ := zG_s e
      obtain ⟨q3, e⟩ := zG_s e
      refine zF_blk (m := []) (d := 0) (b := B245_1) (gs := []) (c' := (17, [some (22, 0), some (0, v1)], [(0, v1), (0, 209), (1344370422, 0)], (hc, h, o))) K245_1 rfl trivial ?_
      refine zF_blk (m := []) (d := 0) (b := B245_2) (gs := [0 ≤ v1 ∧ v1 < 1689, 0 ≤ (wadd 209 v1) ∧ (wadd 209 v1) < 2140]) (c' := (2, [some (22, 0), some (0, (wadd v1 1))], [], (hc, (mset h 14 (wadd 209 v1) (h 18 v1)), o))) K245_2 rfl ⟨q2, q3, trivial⟩ ?_
      exact hk0 (wadd v1 1) (mset h 14 (wadd 209 v1) (h 18 v1)) _ e
/-- EchoValeModel.layBack()V -/
def F245 (h : zHM) : Option zHM := F245_0 zFu 0 h
set_option maxRecDepth 100000 in
theorem S245 {spec : zRn zH2} {hc : zHC} {o : Int → Int} {d : Nat} (hd : 1 ≤ d) (h : zHM) (v : zHM) (e : F245 h = some v) : zRu2 spec d 245 [(22, 0)] (hc, h, o) none (hc, v, o) := by
  refine zF_in (D := 0) (mx := 2) (L := [some (22, 0), none]) (by decide +kernel) rfl rfl hd (fun d hd => ?_)
  unfold F245 at e
  refine zF_blk (m := []) (d := 0) (b := B245_0) (gs := []) (c' := (2, [some (22, 0), some (0, 0)], [], (hc, h, o))) K245_0 rfl trivial ?_
  exact T245_0 hd zFu 0 h _ e
def B243_0 : List zRow := [(0, .aload_n 0, 1, (0, 0, 0))]
theorem K243_0 : zRk 243 B243_0 = true := by decide +kernel
def B243_1 : List zRow := [(4, .aload_n 0, 1, (0, 0, 0)), (5, .getfield 13, 3, (12, 14, 5251442)), (8, .sipush 210, 3, (0, 0, 0)), (11, .iload_n 1, 1, (0, 0, 0))]
theorem K243_1 : zRk 243 B243_1 = true := by decide +kernel
def B243_2 : List zRow := [(12, .iadd, 1, (0, 0, 0)), (13, .iload_n 2, 1, (0, 0, 0)), (14, .iastore, 1, (0, 0, 0)), (15, .aload_n 0, 1, (0, 0, 0)), (16, .iload_n 3, 1, (0, 0, 0))]
theorem K243_2 : zRk 243 B243_2 = true := by decide +kernel
def B243_3 : List zRow := [(20, .pop, 1, (0, 0, 0)), (21, .aload_n 0, 1, (0, 0, 0)), (22, .iload_n 1, 1, (0, 0, 0))]
theorem K243_3 : zRk 243 B243_3 = true := by decide +kernel
def B243_4 : List zRow := [(26, .istore 4, 2, (0, 0, 0)), (28, .aload_n 0, 1, (0, 0, 0))]
theorem K243_4 : zRk 243 B243_4 = true := by decide +kernel
def B243_5 : List zRow := [(32, .iload 4, 2, (0, 0, 0))]
theorem K243_5 : zRk 243 B243_5 = true := by decide +kernel
/-- EchoValeModel.campingBy(III)I -/
def F243 (v1 : Int) (v2 : Int) (v3 : Int) (h : zHM) : Option (Int × zHM) := (F244 h).bind fun r1 => zG (0 ≤ (wadd 210 v1) ∧ (wadd 210 v1) < 2140) ((F235 v3 (mset r1 14 (wadd 210 v1) v2)).bind fun r2 => (F211 v1 r2.2).bind fun r3 => (F245 r2.2).bind fun r4 => some (r3, r4))
set_option maxRecDepth 100000 in
theorem S243 {spec : zRn zH2} {hc : zHC} {o : Int → Int} {d : Nat} (hd : 7 ≤ d) (v1 : Int) (v2 : Int) (v3 : Int) (h : zHM) (v : (Int × zHM)) (e : F243 v1 v2 v3 h = some v) : zRu2 spec d 243 [(22, 0), (0, v1), (0, v2), (0, v3)] (hc, h, o) (some (0, v.1)) (hc, v.2, o) := by
  refine zF_in (D := 6) (mx := 5) (L := [some (22, 0), some (0, v1), some (0, v2), some (0, v3), none]) (by decide +kernel) rfl rfl hd (fun d hd => ?_)
  unfold F243 at e
  obtain ⟨r1, q1, e⟩ := zB_s e
  refine zF_blk (m := []) (d := 0) (b := B243_0) (gs := []) (c' := (1, [some (22, 0), some (0, v1), some (0, v2), some (0, v3), none], [(22, 0)], (hc, h, o))) K243_0 rfl trivial ?_
  refine zF_call (k := 244) (cl := 12) (n := 1) (i := .invokevirtual 317) (args := [(22, 0)]) (rest := []) (g1 := (hc, r1, o)) (r1 := none) (by decide +kernel) rfl rfl rfl (st' := []) rfl (S244 (Nat.le_trans (by decide) hd)  h _ q1) ?_
  obtain ⟨q2, e⟩ := zG_s e
  refine zF_blk (m := []) (d := 0) (b := B243_1) (gs := []) (c' := (12, [some (22, 0), some (0, v1), some (0, v2), some (0, v3), none], [(0, v1), (0, 210), (1344370422, 0)], (hc, r1, o))) K243_1 rfl trivial ?_
  obtain ⟨r2, q3, e⟩ := zB_s e
  refine zF_blk (m := []) (d := 0) (b := B243_2) (gs := [0 ≤ (wadd 210 v1) ∧ (wadd 210 v1) < 2140]) (c' := (17, [some (22, 0), some (0, v1), some (0, v2), some (0, v3), none], [(0, v3), (22, 0)], (hc, (mset r1 14 (wadd 210 v1) v2), o))) K243_2 rfl ⟨q2, trivial⟩ ?_
  refine zF_call (k := 235) (cl := 12) (n := 2) (i := .invokevirtual 314) (args := [(22, 0), (0, v3)]) (rest := []) (g1 := (hc, r2.2, o)) (r1 := some (0, r2.1)) (by decide +kernel) rfl rfl rfl (st' := [(0, r2.1)]) rfl (S235 (Nat.le_trans (by decide) hd) v3 (mset r1 14 (wadd 210 v1) v2) _ q3) ?_
  obtain ⟨r3, q4, e⟩ := zB_s e
  refine zF_blk (m := []) (d := 0) (b := B243_3) (gs := []) (c' := (23, [some (22, 0), some (0, v1), some (0, v2), some (0, v3), none], [(0, v1), (22, 0)], (hc, r2.2, o))) K243_3 rfl trivial ?_
  refine zF_call (k := 211) (cl := 12) (n := 2) (i := .invokevirtual 263) (args := [(22, 0), (0, v1)]) (rest := []) (g1 := (hc, r2.2, o)) (r1 := some (0, r3)) (by decide +kernel) rfl rfl rfl (st' := [(0, r3)]) rfl (S211 (Nat.le_trans (by decide) hd) v1 r2.2 _ q4) ?_
  obtain ⟨r4, q5, e⟩ := zB_s e
  refine zF_blk (m := []) (d := 0) (b := B243_4) (gs := []) (c' := (29, [some (22, 0), some (0, v1), some (0, v2), some (0, v3), some (0, r3)], [(22, 0)], (hc, r2.2, o))) K243_4 rfl trivial ?_
  refine zF_call (k := 245) (cl := 12) (n := 1) (i := .invokevirtual 320) (args := [(22, 0)]) (rest := []) (g1 := (hc, r4, o)) (r1 := none) (by decide +kernel) rfl rfl rfl (st' := []) rfl (S245 (Nat.le_trans (by decide) hd)  r2.2 _ q5) ?_
  refine zF_blk (m := []) (d := 0) (b := B243_5) (gs := []) (c' := (34, [some (22, 0), some (0, v1), some (0, v2), some (0, v3), some (0, r3)], [(0, r3)], (hc, r4, o))) K243_5 rfl trivial ?_
  exact zF_riM (by decide +kernel) e
def B241_0 : List zRow := [(0, .aload_n 0, 1, (0, 0, 0)), (1, .iconst 0, 1, (0, 0, 0)), (2, .putfield 81, 3, (12, 0, 0)), (5, .aload_n 0, 1, (0, 0, 0)), (6, .iload_n 1, 1, (0, 0, 0))]
theorem K241_0 : zRk 241 B241_0 = true := by decide +kernel
def B241_1 : List zRow := [(20, .iconst (-1), 1, (0, 0, 0))]
theorem K241_1 : zRk 241 B241_1 = true := by decide +kernel
def B241_2 : List zRow := [(13, .iload_n 2, 1, (0, 0, 0))]
theorem K241_2 : zRk 241 B241_2 = true := by decide +kernel
def B241_3 : List zRow := [(22, .iconst (-1), 1, (0, 0, 0)), (23, .istore_n 3, 1, (0, 0, 0)), (24, .iconst (-1), 1, (0, 0, 0)), (25, .istore 4, 2, (0, 0, 0)), (27, .iconst 0, 1, (0, 0, 0)), (28, .istore 5, 2, (0, 0, 0))]
theorem K241_3 : zRk 241 B241_3 = true := by decide +kernel
def B241_4 : List zRow := [(17, .ifCond .ne 5, 3, (0, 0, 0))]
theorem K241_4 : zRk 241 B241_4 = true := by decide +kernel
def B241_5 : List zRow := [(10, .ifCond .eq 10, 3, (0, 0, 0))]
theorem K241_5 : zRk 241 B241_5 = true := by decide +kernel
def B241_6 : List zRow := [(83, .iload_n 3, 1, (0, 0, 0))]
theorem K241_6 : zRk 241 B241_6 = true := by decide +kernel
def B241_7 : List zRow := [(37, .aload_n 0, 1, (0, 0, 0)), (38, .iload 5, 2, (0, 0, 0))]
theorem K241_7 : zRk 241 B241_7 = true := by decide +kernel
def B241_8 : List zRow := [(57, .iconst (-1), 1, (0, 0, 0))]
theorem K241_8 : zRk 241 B241_8 = true := by decide +kernel
def B241_9 : List zRow := [(46, .aload_n 0, 1, (0, 0, 0)), (47, .iload_n 1, 1, (0, 0, 0)), (48, .iload 5, 2, (0, 0, 0)), (50, .iload_n 2, 1, (0, 0, 0))]
theorem K241_9 : zRk 241 B241_9 = true := by decide +kernel
def B241_10 : List zRow := [(54, .goto 4, 3, (0, 0, 0))]
theorem K241_10 : zRk 241 B241_10 = true := by decide +kernel
def B241_11 : List zRow := [(43, .ifCond .eq 14, 3, (0, 0, 0))]
theorem K241_11 : zRk 241 B241_11 = true := by decide +kernel
def B241_12 : List zRow := [(30, .iload 5, 2, (0, 0, 0)), (32, .bipush 100, 2, (0, 0, 0)), (34, .if_icmp .ge 49, 3, (0, 0, 0))]
theorem K241_12 : zRk 241 B241_12 = true := by decide +kernel
def B241_13 : List zRow := [(70, .iload 5, 2, (0, 0, 0)), (72, .istore_n 3, 1, (0, 0, 0)), (73, .iload 6, 2, (0, 0, 0)), (75, .istore 4, 2, (0, 0, 0))]
theorem K241_13 : zRk 241 B241_13 = true := by decide +kernel
def B241_14 : List zRow := [(67, .goto 10, 3, (0, 0, 0))]
theorem K241_14 : zRk 241 B241_14 = true := by decide +kernel
def B241_15 : List zRow := [(58, .istore 6, 2, (0, 0, 0)), (60, .iload 6, 2, (0, 0, 0)), (62, .iload 4, 2, (0, 0, 0)), (64, .if_icmp .gt 6, 3, (0, 0, 0))]
theorem K241_15 : zRk 241 B241_15 = true := by decide +kernel
def B241_16 : List zRow := [(77, .iinc 5 1, 3, (0, 0, 0)), (80, .goto (-50), 3, (0, 0, 0))]
theorem K241_16 : zRk 241 B241_16 = true := by decide +kernel
def F241_2 (k0 : Int → Int → Int → Int → Int → zHM → Option (Int × zHM)) (v1 : Int) (v2 : Int) (v3 : Int) (v4 : Int) (v5 : Int) (h : zHM) : Option (Int × zHM) := k0 v1 v2 v3 v4 (wadd v5 1) h
set_option maxRecDepth 100000 in
theorem T241_2 {spec : zRn zH2} {hc : zHC} {o : Int → Int} {d : Nat} (hd : 7 ≤ d) (k0 : Int → Int → Int → Int → Int → zHM → Option (Int × zHM)) (hk0 : ∀ (v1 : Int) (v2 : Int) (v3 : Int) (v4 : Int) (v5 : Int) (h : zHM) (v : (Int × zHM)), k0 v1 v2 v3 v4 v5 h = some v → zFin 0 (fun _ => 0) (zRu2 spec d) 241 (some (0, v.1)) (hc, v.2, o) (30, [some (22, 0), some (0, v1), some (0, v2), some (0, v3), some (0, v4), some (0, v5), none], [], (hc, h, o))) (v1 : Int) (v2 : Int) (v3 : Int) (v4 : Int) (v5 : Int) (h : zHM) (v : (Int × zHM)) (e : F241_2 k0 v1 v2 v3 v4 v5 h = some v) : zFin 0 (fun _ => 0) (zRu2 spec d) 241 (some (0, v.1)) (hc, v.2, o) (77, [some (22, 0), some (0, v1), some (0, v2), some (0, v3), some (0, v4), some (0, v5), none], [], (hc, h, o)) := by
  unfold F241_2 at e
  refine zF_blk (m := []) (d := 0) (b := B241_16) (gs := []) (c' := (30, [some (22, 0), some (0, v1), some (0, v2), some (0, v3), some (0, v4), some (0, (wadd v5 1)), none], [], (hc, h, o))) K241_16 rfl trivial ?_
  exact hk0 v1 v2 v3 v4 (wadd v5 1) h _ e
def F241_1 (k0 : Int → Int → Int → Int → Int → zHM → Option (Int × zHM)) (v1 : Int) (v2 : Int) (v3 : Int) (v4 : Int) (v5 : Int) (s0 : Int) (h : zHM) : Option (Int × zHM) := if v4 < s0 then F241_2 k0 v1 v2 v5 s0 v5 h else F241_2 k0 v1 v2 v3 v4 v5 h
set_option maxRecDepth 100000 in
theorem T241_1 {spec : zRn zH2} {hc : zHC} {o : Int → Int} {d : Nat} (hd : 7 ≤ d) (k0 : Int → Int → Int → Int → Int → zHM → Option (Int × zHM)) (hk0 : ∀ (v1 : Int) (v2 : Int) (v3 : Int) (v4 : Int) (v5 : Int) (h : zHM) (v : (Int × zHM)), k0 v1 v2 v3 v4 v5 h = some v → zFin 0 (fun _ => 0) (zRu2 spec d) 241 (some (0, v.1)) (hc, v.2, o) (30, [some (22, 0), some (0, v1), some (0, v2), some (0, v3), some (0, v4), some (0, v5), none], [], (hc, h, o))) (v1 : Int) (v2 : Int) (v3 : Int) (v4 : Int) (v5 : Int) (s0 : Int) (h : zHM) (v : (Int × zHM)) (e : F241_1 k0 v1 v2 v3 v4 v5 s0 h = some v) : zFin 0 (fun _ => 0) (zRu2 spec d) 241 (some (0, v.1)) (hc, v.2, o) (58, [some (22, 0), some (0, v1), some (0, v2), some (0, v3), some (0, v4), some (0, v5), none], [(0, s0)], (hc, h, o)) := by
  unfold F241_1 at e
  rcases zI_s e with ⟨q1, e⟩ | ⟨q1, e⟩
  · refine zF_blk (m := []) (d := 1) (b := B241_15) (gs := [v4 < s0]) (c' := (70, [some (22, 0), some (0, v1), some (0, v2), some (0, v3), some (0, v4), some (0, v5), some (0, s0)], [], (hc, h, o))) K241_15 rfl ⟨q1, trivial⟩ ?_
    refine zF_blk (m := []) (d := 0) (b := B241_13) (gs := []) (c' := (77, [some (22, 0), some (0, v1), some (0, v2), some (0, v5), some (0, s0), some (0, v5), some (0, s0)], [], (hc, h, o))) K241_13 rfl trivial ?_
    refine zF_blk (m := [true, true, true, true, true, true, false]) (d := 0) (b := []) (gs := []) (c' := (77, [some (22, 0), some (0, v1), some (0, v2), some (0, v5), some (0, s0), some (0, v5), none], [], (hc, h, o))) rfl rfl trivial ?_
    exact T241_2 hd k0 hk0 v1 v2 v5 s0 v5 h _ e
  · refine zF_blk (m := []) (d := 0) (b := B241_15) (gs := [¬ (v4 < s0)]) (c' := (67, [some (22, 0), some (0, v1), some (0, v2), some (0, v3), some (0, v4), some (0, v5), some (0, s0)], [], (hc, h, o))) K241_15 rfl ⟨q1, trivial⟩ ?_
    refine zF_blk (m := []) (d := 0) (b := B241_14) (gs := []) (c' := (77, [some (22, 0), some (0, v1), some (0, v2), some (0, v3), some (0, v4), some (0, v5), some (0, s0)], [], (hc, h, o))) K241_14 rfl trivial ?_
    refine zF_blk (m := [true, true, true, true, true, true, false]) (d := 0) (b := []) (gs := []) (c' := (77, [some (22, 0), some (0, v1), some (0, v2), some (0, v3), some (0, v4), some (0, v5), none], [], (hc, h, o))) rfl rfl trivial ?_
    exact T241_2 hd k0 hk0 v1 v2 v3 v4 v5 h _ e
def F241_0 : Nat → Int → Int → Int → Int → Int → zHM → Option (Int × zHM)
  | 0, _, _, _, _, _, _ => none
  | n + 1, v1, v2, v3, v4, v5, h => if 100 ≤ v5 then some (v3, h) else (F224 v5 h).bind fun r1 => if r1 = 0 then F241_1 (F241_0 n) v1 v2 v3 v4 v5 (-1) h else (F243 v1 v5 v2 h).bind fun r2 => F241_1 (F241_0 n) v1 v2 v3 v4 v5 r2.1 r2.2
set_option maxRecDepth 100000 in
theorem T241_0 {spec : zRn zH2} {hc : zHC} {o : Int → Int} {d : Nat} (hd : 7 ≤ d) : ∀ (n : Nat) (v1 : Int) (v2 : Int) (v3 : Int) (v4 : Int) (v5 : Int) (h : zHM) (v : (Int × zHM)), F241_0 n v1 v2 v3 v4 v5 h = some v → zFin 0 (fun _ => 0) (zRu2 spec d) 241 (some (0, v.1)) (hc, v.2, o) (30, [some (22, 0), some (0, v1), some (0, v2), some (0, v3), some (0, v4), some (0, v5), none], [], (hc, h, o)) := by
  intro n
  induction n with
  | zero => intro v1 v2 v3 v4 v5 h v e; unfold F241_0 at e; cases e
  | succ n hk0 =>
    intro v1 v2 v3 v4 v5 h v e
    unfold F241_0 at e
    rcases zI_s e with ⟨q1, e⟩ | ⟨q1, e⟩
    · refine zF_blk (m := []) (d := 1) (b := B241_12) (gs := [100 ≤ v5]) (c' := (83, [some (22, 0), some (0, v1), some (0, v2), some (0, v3), some (0, v4), some (0, v5), none], [], (hc, h, o))) K241_12 rfl ⟨q1, trivial⟩ ?_
      refine zF_blk (m := []) (d := 0) (b := B241_6) (gs := []) (c' := (84, [some (22, 0), some (0, v1), some (0, v2), some (0, v3), some (0, v4), some (0, v5), none], [(0, v3)], (hc, h, o))) K241_6 rfl trivial ?_
      exact zF_riM (by decide +kernel) e
    · refine zF_blk (m := []) (d := 0) (b := B241_12) (gs := [¬ (100 ≤ v5)]) (c' := (37, [some (22, 0), some (0, v1), some (0, v2), some (0, v3), some (0, v4), some (0, v5), none], [], (hc, h, o))) K241_12 rfl ⟨q1, trivial⟩ ?_
      obtain ⟨r1, q2, e⟩ := zB_s e
      refine zF_blk (m := []) (d := 0) (b := B241_7) (gs := []) (c' := (40, [some (22, 0), some (0, v1), some (0, v2), some (0, v3), some (0, v4), some (0, v5), none], [(0, v5), (22, 0)], (hc, h, o))) K241_7 rfl trivial ?_
      refine zF_call (k := 224) (cl := 12) (n := 2) (i := .invokevirtual 305) (args := [(22, 0), (0, v5)]) (rest := []) (g1 := (hc, h, o)) (r1 := some (0, r1)) (by decide +kernel) rfl rfl rfl (st' := [(0, r1)]) rfl (S224 (Nat.le_trans (by decide) hd) v5 h _ q2) ?_
      rcases zI_s e with ⟨q3, e⟩ | ⟨q3, e⟩
      · refine zF_blk (m := []) (d := 1) (b := B241_11) (gs := [r1 = 0]) (c' := (57, [some (22, 0), some (0, v1), some (0, v2), some (0, v3), some (0, v4), some (0, v5), none], [], (hc, h, o))) K241_11 rfl ⟨q3, trivial⟩ ?_
        refine zF_blk (m := []) (d := 0) (b := B241_8) (gs := []) (c' := (58, [some (22, 0), some (0, v1), some (0, v2), some (0, v3), some (0, v4), some (0, v5), none], [(0, (-1))], (hc, h, o))) K241_8 rfl trivial ?_
        exact T241_1 hd (F241_0 n) hk0 v1 v2 v3 v4 v5 (-1) h _ e
      · refine zF_blk (m := []) (d := 0) (b := B241_11) (gs := [¬ (r1 = 0)]) (c' := (46, [some (22, 0), some (0, v1), some (0, v2), some (0, v3), some (0, v4), some (0, v5), none], [], (hc, h, o))) K241_11 rfl ⟨q3, trivial⟩ ?_
        obtain ⟨r2, q4, e⟩ := zB_s e
        refine zF_blk (m := []) (d := 0) (b := B241_9) (gs := []) (c' := (51, [some (22, 0), some (0, v1), some (0, v2), some (0, v3), some (0, v4), some (0, v5), none], [(0, v2), (0, v5), (0, v1), (22, 0)], (hc, h, o))) K241_9 rfl trivial ?_
        refine zF_call (k := 243) (cl := 12) (n := 4) (i := .invokevirtual 326) (args := [(22, 0), (0, v1), (0, v5), (0, v2)]) (rest := []) (g1 := (hc, r2.2, o)) (r1 := some (0, r2.1)) (by decide +kernel) rfl rfl rfl (st' := [(0, r2.1)]) rfl (S243 (Nat.le_trans (by decide) hd) v1 v5 v2 h _ q4) ?_
        refine zF_blk (m := []) (d := 0) (b := B241_10) (gs := []) (c' := (58, [some (22, 0), some (0, v1), some (0, v2), some (0, v3), some (0, v4), some (0, v5), none], [(0, r2.1)], (hc, r2.2, o))) K241_10 rfl trivial ?_
        exact T241_1 hd (F241_0 n) hk0 v1 v2 v3 v4 v5 r2.1 r2.2 _ e
/-- EchoValeModel.camp(II)I -/
def F241 (v1 : Int) (v2 : Int) (h : zHM) : Option (Int × zHM) := (F210 v1 (mset h 0 0 0)).bind fun r1 => if r1 = 0 then some ((-1), (mset h 0 0 0)) else (F242 v2).bind fun r2 => if ¬ r2 = 0 then F241_0 zFu v1 v2 (-1) (-1) 0 (mset h 0 0 0) else some ((-1), (mset h 0 0 0))
set_option maxRecDepth 100000 in
theorem S241 {spec : zRn zH2} {hc : zHC} {o : Int → Int} {d : Nat} (hd : 8 ≤ d) (v1 : Int) (v2 : Int) (h : zHM) (v : (Int × zHM)) (e : F241 v1 v2 h = some v) : zRu2 spec d 241 [(22, 0), (0, v1), (0, v2)] (hc, h, o) (some (0, v.1)) (hc, v.2, o) := by
  refine zF_in (D := 7) (mx := 7) (L := [some (22, 0), some (0, v1), some (0, v2), none, none, none, none]) (by decide +kernel) rfl rfl hd (fun d hd => ?_)
  unfold F241 at e
  obtain ⟨r1, q1, e⟩ := zB_s e
  refine zF_blk (m := []) (d := 0) (b := B241_0) (gs := []) (c' := (7, [some (22, 0), some (0, v1), some (0, v2), none, none, none, none], [(0, v1), (22, 0)], (hc, (mset h 0 0 0), o))) K241_0 rfl trivial ?_
  refine zF_call (k := 210) (cl := 12) (n := 2) (i := .invokevirtual 260) (args := [(22, 0), (0, v1)]) (rest := []) (g1 := (hc, (mset h 0 0 0), o)) (r1 := some (0, r1)) (by decide +kernel) rfl rfl rfl (st' := [(0, r1)]) rfl (S210 (Nat.le_trans (by decide) hd) v1 (mset h 0 0 0) _ q1) ?_
  rcases zI_s e with ⟨q2, e⟩ | ⟨q2, e⟩
  · refine zF_blk (m := []) (d := 1) (b := B241_5) (gs := [r1 = 0]) (c' := (20, [some (22, 0), some (0, v1), some (0, v2), none, none, none, none], [], (hc, (mset h 0 0 0), o))) K241_5 rfl ⟨q2, trivial⟩ ?_
    refine zF_blk (m := []) (d := 0) (b := B241_1) (gs := []) (c' := (21, [some (22, 0), some (0, v1), some (0, v2), none, none, none, none], [(0, (-1))], (hc, (mset h 0 0 0), o))) K241_1 rfl trivial ?_
    exact zF_riM (by decide +kernel) e
  · refine zF_blk (m := []) (d := 0) (b := B241_5) (gs := [¬ (r1 = 0)]) (c' := (13, [some (22, 0), some (0, v1), some (0, v2), none, none, none, none], [], (hc, (mset h 0 0 0), o))) K241_5 rfl ⟨q2, trivial⟩ ?_
    obtain ⟨r2, q3, e⟩ := zB_s e
    refine zF_blk (m := []) (d := 0) (b := B241_2) (gs := []) (c' := (14, [some (22, 0), some (0, v1), some (0, v2), none, none, none, none], [(0, v2)], (hc, (mset h 0 0 0), o))) K241_2 rfl trivial ?_
    refine zF_call (k := 242) (cl := 12) (n := 1) (i := .invokestatic 323) (args := [(0, v2)]) (rest := []) (g1 := (hc, (mset h 0 0 0), o)) (r1 := some (0, r2)) (by decide +kernel) rfl rfl rfl (st' := [(0, r2)]) rfl (S242 (Nat.le_trans (by decide) hd) v2 (mset h 0 0 0) _ q3) ?_
    rcases zI_s e with ⟨q4, e⟩ | ⟨q4, e⟩
    · refine zF_blk (m := []) (d := 1) (b := B241_4) (gs := [¬ r2 = 0]) (c' := (22, [some (22, 0), some (0, v1), some (0, v2), none, none, none, none], [], (hc, (mset h 0 0 0), o))) K241_4 rfl ⟨q4, trivial⟩ ?_
      refine zF_blk (m := []) (d := 0) (b := B241_3) (gs := []) (c' := (30, [some (22, 0), some (0, v1), some (0, v2), some (0, (-1)), some (0, (-1)), some (0, 0), none], [], (hc, (mset h 0 0 0), o))) K241_3 rfl trivial ?_
      exact T241_0 hd zFu v1 v2 (-1) (-1) 0 (mset h 0 0 0) _ e
    · refine zF_blk (m := []) (d := 0) (b := B241_4) (gs := [¬ (¬ r2 = 0)]) (c' := (20, [some (22, 0), some (0, v1), some (0, v2), none, none, none, none], [], (hc, (mset h 0 0 0), o))) K241_4 rfl ⟨q4, trivial⟩ ?_
      refine zF_blk (m := []) (d := 0) (b := B241_1) (gs := []) (c' := (21, [some (22, 0), some (0, v1), some (0, v2), none, none, none, none], [(0, (-1))], (hc, (mset h 0 0 0), o))) K241_1 rfl trivial ?_
      exact zF_riM (by decide +kernel) e
