/-! Functions of the methods, by wip/gen/lift.py. -/
def B52b_0 : List zRow := [(0, .aload_n 0, 1, (0, 0, 0)), (1, .aload_n 1, 1, (0, 0, 0)), (2, .getfield 52, 3, (9, 0, 0)), (5, .putfield 52, 3, (9, 0, 0)), (8, .aload_n 0, 1, (0, 0, 0)), (9, .aload_n 1, 1, (0, 0, 0)), (10, .getfield 56, 3, (9, 1, 0)), (13, .putfield 56, 3, (9, 1, 0)), (16, .aload_n 0, 1, (0, 0, 0)), (17, .aload_n 1, 1, (0, 0, 0)), (18, .getfield 59, 3, (9, 2, 0)), (21, .putfield 59, 3, (9, 2, 0)), (24, .aload_n 0, 1, (0, 0, 0)), (25, .aload_n 1, 1, (0, 0, 0)), (26, .getfield 62, 3, (9, 3, 0)), (29, .putfield 62, 3, (9, 3, 0)), (32, .aload_n 0, 1, (0, 0, 0)), (33, .aload_n 1, 1, (0, 0, 0)), (34, .getfield 65, 3, (9, 4, 0)), (37, .putfield 65, 3, (9, 4, 0)), (40, .aload_n 0, 1, (0, 0, 0)), (41, .aload_n 1, 1, (0, 0, 0)), (42, .getfield 68, 3, (9, 5, 0)), (45, .putfield 68, 3, (9, 5, 0)), (48, .aload_n 0, 1, (0, 0, 0)), (49, .aload_n 1, 1, (0, 0, 0)), (50, .getfield 71, 3, (9, 6, 0)), (53, .putfield 71, 3, (9, 6, 0)), (56, .aload_n 1, 1, (0, 0, 0)), (57, .getfield 9, 3, (9, 7, 5505050)), (60, .iconst 0, 1, (0, 0, 0)), (61, .aload_n 0, 1, (0, 0, 0)), (62, .getfield 9, 3, (9, 7, 5505050)), (65, .iconst 0, 1, (0, 0, 0)), (66, .bipush 6, 2, (0, 0, 0)), (68, .invokestatic 74, 3, (5001, 0, 0)), (71, .aload_n 1, 1, (0, 0, 0)), (72, .getfield 15, 3, (9, 8, 5242906)), (75, .iconst 0, 1, (0, 0, 0)), (76, .aload_n 0, 1, (0, 0, 0)), (77, .getfield 15, 3, (9, 8, 5242906)), (80, .iconst 0, 1, (0, 0, 0)), (81, .bipush 6, 2, (0, 0, 0)), (83, .invokestatic 74, 3, (5001, 0, 0)), (86, .aload_n 1, 1, (0, 0, 0)), (87, .getfield 19, 3, (9, 9, 5242906)), (90, .iconst 0, 1, (0, 0, 0)), (91, .aload_n 0, 1, (0, 0, 0)), (92, .getfield 19, 3, (9, 9, 5242906)), (95, .iconst 0, 1, (0, 0, 0)), (96, .bipush 6, 2, (0, 0, 0)), (98, .invokestatic 74, 3, (5001, 0, 0)), (101, .aload_n 1, 1, (0, 0, 0)), (102, .getfield 22, 3, (9, 10, 5242906)), (105, .iconst 0, 1, (0, 0, 0)), (106, .aload_n 0, 1, (0, 0, 0)), (107, .getfield 22, 3, (9, 10, 5242906)), (110, .iconst 0, 1, (0, 0, 0)), (111, .bipush 6, 2, (0, 0, 0)), (113, .invokestatic 74, 3, (5001, 0, 0)), (116, .aload_n 1, 1, (0, 0, 0)), (117, .getfield 25, 3, (9, 11, 5505050)), (120, .iconst 0, 1, (0, 0, 0)), (121, .aload_n 0, 1, (0, 0, 0)), (122, .getfield 25, 3, (9, 11, 5505050)), (125, .iconst 0, 1, (0, 0, 0)), (126, .bipush 6, 2, (0, 0, 0)), (128, .invokestatic 74, 3, (5001, 0, 0)), (131, .aload_n 1, 1, (0, 0, 0)), (132, .getfield 28, 3, (9, 12, 5242906)), (135, .iconst 0, 1, (0, 0, 0)), (136, .aload_n 0, 1, (0, 0, 0)), (137, .getfield 28, 3, (9, 12, 5242906)), (140, .iconst 0, 1, (0, 0, 0)), (141, .bipush 6, 2, (0, 0, 0)), (143, .invokestatic 74, 3, (5001, 0, 0)), (146, .aload_n 1, 1, (0, 0, 0)), (147, .getfield 31, 3, (9, 13, 5242906)), (150, .iconst 0, 1, (0, 0, 0)), (151, .aload_n 0, 1, (0, 0, 0)), (152, .getfield 31, 3, (9, 13, 5242906)), (155, .iconst 0, 1, (0, 0, 0)), (156, .bipush 6, 2, (0, 0, 0)), (158, .invokestatic 74, 3, (5001, 0, 0)), (161, .aload_n 1, 1, (0, 0, 0)), (162, .getfield 34, 3, (9, 14, 5242962)), (165, .iconst 0, 1, (0, 0, 0)), (166, .aload_n 0, 1, (0, 0, 0)), (167, .getfield 34, 3, (9, 14, 5242962)), (170, .iconst 0, 1, (0, 0, 0)), (171, .bipush 20, 2, (0, 0, 0)), (173, .invokestatic 74, 3, (5001, 0, 0)), (176, .aload_n 1, 1, (0, 0, 0)), (177, .getfield 37, 3, (9, 15, 5242962)), (180, .iconst 0, 1, (0, 0, 0)), (181, .aload_n 0, 1, (0, 0, 0)), (182, .getfield 37, 3, (9, 15, 5242962)), (185, .iconst 0, 1, (0, 0, 0)), (186, .bipush 20, 2, (0, 0, 0)), (188, .invokestatic 74, 3, (5001, 0, 0)), (191, .aload_n 1, 1, (0, 0, 0)), (192, .getfield 40, 3, (9, 16, 5242962)), (195, .iconst 0, 1, (0, 0, 0)), (196, .aload_n 0, 1, (0, 0, 0)), (197, .getfield 40, 3, (9, 16, 5242962)), (200, .iconst 0, 1, (0, 0, 0)), (201, .bipush 20, 2, (0, 0, 0)), (203, .invokestatic 74, 3, (5001, 0, 0)), (206, .aload_n 1, 1, (0, 0, 0)), (207, .getfield 43, 3, (9, 17, 5242914)), (210, .iconst 0, 1, (0, 0, 0)), (211, .aload_n 0, 1, (0, 0, 0)), (212, .getfield 43, 3, (9, 17, 5242914)), (215, .iconst 0, 1, (0, 0, 0)), (216, .bipush 8, 2, (0, 0, 0)), (218, .invokestatic 74, 3, (5001, 0, 0)), (221, .aload_n 1, 1, (0, 0, 0)), (222, .getfield 46, 3, (9, 18, 5242906)), (225, .iconst 0, 1, (0, 0, 0)), (226, .aload_n 0, 1, (0, 0, 0)), (227, .getfield 46, 3, (9, 18, 5242906)), (230, .iconst 0, 1, (0, 0, 0)), (231, .bipush 6, 2, (0, 0, 0)), (233, .invokestatic 74, 3, (5001, 0, 0)), (236, .aload_n 1, 1, (0, 0, 0)), (237, .getfield 49, 3, (9, 19, 5242906)), (240, .iconst 0, 1, (0, 0, 0)), (241, .aload_n 0, 1, (0, 0, 0)), (242, .getfield 49, 3, (9, 19, 5242906)), (245, .iconst 0, 1, (0, 0, 0)), (246, .bipush 6, 2, (0, 0, 0)), (248, .invokestatic 74, 3, (5001, 0, 0))]
theorem K52b_0 : zRk 52 B52b_0 = true := by decide +kernel
/-- EchoVale$Valley.copyFrom(LEchoVale$Valley;)V -/
def F52b (v0 : Int) (h : zHC) : Option zHC := some (hcpy (hcpy (hcpy (hcpy (hcpy (hcpy (hcpy (hcpy (hcpy (hcpy (hcpy (hcpy (hcpy (hset (hset (hset (hset (hset (hset (hset h 576 v0 0 (h 576 0 0)) 577 v0 0 ((hset h 576 v0 0 (h 576 0 0)) 577 0 0)) 578 v0 0 ((hset (hset h 576 v0 0 (h 576 0 0)) 577 v0 0 ((hset h 576 v0 0 (h 576 0 0)) 577 0 0)) 578 0 0)) 579 v0 0 ((hset (hset (hset h 576 v0 0 (h 576 0 0)) 577 v0 0 ((hset h 576 v0 0 (h 576 0 0)) 577 0 0)) 578 v0 0 ((hset (hset h 576 v0 0 (h 576 0 0)) 577 v0 0 ((hset h 576 v0 0 (h 576 0 0)) 577 0 0)) 578 0 0)) 579 0 0)) 580 v0 0 ((hset (hset (hset (hset h 576 v0 0 (h 576 0 0)) 577 v0 0 ((hset h 576 v0 0 (h 576 0 0)) 577 0 0)) 578 v0 0 ((hset (hset h 576 v0 0 (h 576 0 0)) 577 v0 0 ((hset h 576 v0 0 (h 576 0 0)) 577 0 0)) 578 0 0)) 579 v0 0 ((hset (hset (hset h 576 v0 0 (h 576 0 0)) 577 v0 0 ((hset h 576 v0 0 (h 576 0 0)) 577 0 0)) 578 v0 0 ((hset (hset h 576 v0 0 (h 576 0 0)) 577 v0 0 ((hset h 576 v0 0 (h 576 0 0)) 577 0 0)) 578 0 0)) 579 0 0)) 580 0 0)) 581 v0 0 ((hset (hset (hset (hset (hset h 576 v0 0 (h 576 0 0)) 577 v0 0 ((hset h 576 v0 0 (h 576 0 0)) 577 0 0)) 578 v0 0 ((hset (hset h 576 v0 0 (h 576 0 0)) 577 v0 0 ((hset h 576 v0 0 (h 576 0 0)) 577 0 0)) 578 0 0)) 579 v0 0 ((hset (hset (hset h 576 v0 0 (h 576 0 0)) 577 v0 0 ((hset h 576 v0 0 (h 576 0 0)) 577 0 0)) 578 v0 0 ((hset (hset h 576 v0 0 (h 576 0 0)) 577 v0 0 ((hset h 576 v0 0 (h 576 0 0)) 577 0 0)) 578 0 0)) 579 0 0)) 580 v0 0 ((hset (hset (hset (hset h 576 v0 0 (h 576 0 0)) 577 v0 0 ((hset h 576 v0 0 (h 576 0 0)) 577 0 0)) 578 v0 0 ((hset (hset h 576 v0 0 (h 576 0 0)) 577 v0 0 ((hset h 576 v0 0 (h 576 0 0)) 577 0 0)) 578 0 0)) 579 v0 0 ((hset (hset (hset h 576 v0 0 (h 576 0 0)) 577 v0 0 ((hset h 576 v0 0 (h 576 0 0)) 577 0 0)) 578 v0 0 ((hset (hset h 576 v0 0 (h 576 0 0)) 577 v0 0 ((hset h 576 v0 0 (h 576 0 0)) 577 0 0)) 578 0 0)) 579 0 0)) 580 0 0)) 581 0 0)) 582 v0 0 ((hset (hset (hset (hset (hset (hset h 576 v0 0 (h 576 0 0)) 577 v0 0 ((hset h 576 v0 0 (h 576 0 0)) 577 0 0)) 578 v0 0 ((hset (hset h 576 v0 0 (h 576 0 0)) 577 v0 0 ((hset h 576 v0 0 (h 576 0 0)) 577 0 0)) 578 0 0)) 579 v0 0 ((hset (hset (hset h 576 v0 0 (h 576 0 0)) 577 v0 0 ((hset h 576 v0 0 (h 576 0 0)) 577 0 0)) 578 v0 0 ((hset (hset h 576 v0 0 (h 576 0 0)) 577 v0 0 ((hset h 576 v0 0 (h 576 0 0)) 577 0 0)) 578 0 0)) 579 0 0)) 580 v0 0 ((hset (hset (hset (hset h 576 v0 0 (h 576 0 0)) 577 v0 0 ((hset h 576 v0 0 (h 576 0 0)) 577 0 0)) 578 v0 0 ((hset (hset h 576 v0 0 (h 576 0 0)) 577 v0 0 ((hset h 576 v0 0 (h 576 0 0)) 577 0 0)) 578 0 0)) 579 v0 0 ((hset (hset (hset h 576 v0 0 (h 576 0 0)) 577 v0 0 ((hset h 576 v0 0 (h 576 0 0)) 577 0 0)) 578 v0 0 ((hset (hset h 576 v0 0 (h 576 0 0)) 577 v0 0 ((hset h 576 v0 0 (h 576 0 0)) 577 0 0)) 578 0 0)) 579 0 0)) 580 0 0)) 581 v0 0 ((hset (hset (hset (hset (hset h 576 v0 0 (h 576 0 0)) 577 v0 0 ((hset h 576 v0 0 (h 576 0 0)) 577 0 0)) 578 v0 0 ((hset (hset h 576 v0 0 (h 576 0 0)) 577 v0 0 ((hset h 576 v0 0 (h 576 0 0)) 577 0 0)) 578 0 0)) 579 v0 0 ((hset (hset (hset h 576 v0 0 (h 576 0 0)) 577 v0 0 ((hset h 576 v0 0 (h 576 0 0)) 577 0 0)) 578 v0 0 ((hset (hset h 576 v0 0 (h 576 0 0)) 577 v0 0 ((hset h 576 v0 0 (h 576 0 0)) 577 0 0)) 578 0 0)) 579 0 0)) 580 v0 0 ((hset (hset (hset (hset h 576 v0 0 (h 576 0 0)) 577 v0 0 ((hset h 576 v0 0 (h 576 0 0)) 577 0 0)) 578 v0 0 ((hset (hset h 576 v0 0 (h 576 0 0)) 577 v0 0 ((hset h 576 v0 0 (h 576 0 0)) 577 0 0)) 578 0 0)) 579 v0 0 ((hset (hset (hset h 576 v0 0 (h 576 0 0)) 577 v0 0 ((hset h 576 v0 0 (h 576 0 0)) 577 0 0)) 578 v0 0 ((hset (hset h 576 v0 0 (h 576 0 0)) 577 v0 0 ((hset h 576 v0 0 (h 576 0 0)) 577 0 0)) 578 0 0)) 579 0 0)) 580 0 0)) 581 0 0)) 582 0 0)) 583 v0 583 0 0 0 6) 584 v0 584 0 0 0 6) 585 v0 585 0 0 0 6) 586 v0 586 0 0 0 6) 587 v0 587 0 0 0 6) 588 v0 588 0 0 0 6) 589 v0 589 0 0 0 6) 590 v0 590 0 0 0 20) 591 v0 591 0 0 0 20) 592 v0 592 0 0 0 20) 593 v0 593 0 0 0 8) 594 v0 594 0 0 0 6) 595 v0 595 0 0 0 6)
set_option maxRecDepth 100000 in
theorem S52b {spec : zRn zH2} {hm : zHM} {o : Int → Int} {d : Nat} (hd : 1 ≤ d) (v0 : Int) (h : zHC) (v : zHC) (e : F52b v0 h = some v) : zRu2 spec d 52 [(19, v0), (19, 0)] (h, hm, o) none (v, hm, o) := by
  refine zF_in (D := 0) (mx := 2) (L := [some (19, v0), some (19, 0)]) (by decide +kernel) rfl rfl hd (fun d hd => ?_)
  unfold F52b at e
  refine zF_blk (m := []) (d := 0) (b := B52b_0) (gs := [0 ≤ 0, 0 ≤ 0, 0 ≤ 6, 0 + 6 ≤ 6, 0 + 6 ≤ 6, 0 ≤ 0, 0 ≤ 0, 0 ≤ 6, 0 + 6 ≤ 6, 0 + 6 ≤ 6, 0 ≤ 0, 0 ≤ 0, 0 ≤ 6, 0 + 6 ≤ 6, 0 + 6 ≤ 6, 0 ≤ 0, 0 ≤ 0, 0 ≤ 6, 0 + 6 ≤ 6, 0 + 6 ≤ 6, 0 ≤ 0, 0 ≤ 0, 0 ≤ 6, 0 + 6 ≤ 6, 0 + 6 ≤ 6, 0 ≤ 0, 0 ≤ 0, 0 ≤ 6, 0 + 6 ≤ 6, 0 + 6 ≤ 6, 0 ≤ 0, 0 ≤ 0, 0 ≤ 6, 0 + 6 ≤ 6, 0 + 6 ≤ 6, 0 ≤ 0, 0 ≤ 0, 0 ≤ 20, 0 + 20 ≤ 20, 0 + 20 ≤ 20, 0 ≤ 0, 0 ≤ 0, 0 ≤ 20, 0 + 20 ≤ 20, 0 + 20 ≤ 20, 0 ≤ 0, 0 ≤ 0, 0 ≤ 20, 0 + 20 ≤ 20, 0 + 20 ≤ 20, 0 ≤ 0, 0 ≤ 0, 0 ≤ 8, 0 + 8 ≤ 8, 0 + 8 ≤ 8, 0 ≤ 0, 0 ≤ 0, 0 ≤ 6, 0 + 6 ≤ 6, 0 + 6 ≤ 6, 0 ≤ 0, 0 ≤ 0, 0 ≤ 6, 0 + 6 ≤ 6, 0 + 6 ≤ 6]) (c' := (251, [some (19, v0), some (19, 0)], [], ((hcpy (hcpy (hcpy (hcpy (hcpy (hcpy (hcpy (hcpy (hcpy (hcpy (hcpy (hcpy (hcpy (hset (hset (hset (hset (hset (hset (hset h 576 v0 0 (h 576 0 0)) 577 v0 0 ((hset h 576 v0 0 (h 576 0 0)) 577 0 0)) 578 v0 0 ((hset (hset h 576 v0 0 (h 576 0 0)) 577 v0 0 ((hset h 576 v0 0 (h 576 0 0)) 577 0 0)) 578 0 0)) 579 v0 0 ((hset (hset (hset h 576 v0 0 (h 576 0 0)) 577 v0 0 ((hset h 576 v0 0 (h 576 0 0)) 577 0 0)) 578 v0 0 ((hset (hset h 576 v0 0 (h 576 0 0)) 577 v0 0 ((hset h 576 v0 0 (h 576 0 0)) 577 0 0)) 578 0 0)) 579 0 0)) 580 v0 0 ((hset (hset (hset (hset h 576 v0 0 (h 576 0 0)) 577 v0 0 ((hset h 576 v0 0 (h 576 0 0)) 577 0 0)) 578 v0 0 ((hset (hset h 576 v0 0 (h 576 0 0)) 577 v0 0 ((hset h 576 v0 0 (h 576 0 0)) 577 0 0)) 578 0 0)) 579 v0 0 ((hset (hset (hset h 576 v0 0 (h 576 0 0)) 577 v0 0 ((hset h 576 v0 0 (h 576 0 0)) 577 0 0)) 578 v0 0 ((hset (hset h 576 v0 0 (h 576 0 0)) 577 v0 0 ((hset h 576 v0 0 (h 576 0 0)) 577 0 0)) 578 0 0)) 579 0 0)) 580 0 0)) 581 v0 0 ((hset (hset (hset (hset (hset h 576 v0 0 (h 576 0 0)) 577 v0 0 ((hset h 576 v0 0 (h 576 0 0)) 577 0 0)) 578 v0 0 ((hset (hset h 576 v0 0 (h 576 0 0)) 577 v0 0 ((hset h 576 v0 0 (h 576 0 0)) 577 0 0)) 578 0 0)) 579 v0 0 ((hset (hset (hset h 576 v0 0 (h 576 0 0)) 577 v0 0 ((hset h 576 v0 0 (h 576 0 0)) 577 0 0)) 578 v0 0 ((hset (hset h 576 v0 0 (h 576 0 0)) 577 v0 0 ((hset h 576 v0 0 (h 576 0 0)) 577 0 0)) 578 0 0)) 579 0 0)) 580 v0 0 ((hset (hset (hset (hset h 576 v0 0 (h 576 0 0)) 577 v0 0 ((hset h 576 v0 0 (h 576 0 0)) 577 0 0)) 578 v0 0 ((hset (hset h 576 v0 0 (h 576 0 0)) 577 v0 0 ((hset h 576 v0 0 (h 576 0 0)) 577 0 0)) 578 0 0)) 579 v0 0 ((hset (hset (hset h 576 v0 0 (h 576 0 0)) 577 v0 0 ((hset h 576 v0 0 (h 576 0 0)) 577 0 0)) 578 v0 0 ((hset (hset h 576 v0 0 (h 576 0 0)) 577 v0 0 ((hset h 576 v0 0 (h 576 0 0)) 577 0 0)) 578 0 0)) 579 0 0)) 580 0 0)) 581 0 0)) 582 v0 0 ((hset (hset (hset (hset (hset (hset h 576 v0 0 (h 576 0 0)) 577 v0 0 ((hset h 576 v0 0 (h 576 0 0)) 577 0 0)) 578 v0 0 ((hset (hset h 576 v0 0 (h 576 0 0)) 577 v0 0 ((hset h 576 v0 0 (h 576 0 0)) 577 0 0)) 578 0 0)) 579 v0 0 ((hset (hset (hset h 576 v0 0 (h 576 0 0)) 577 v0 0 ((hset h 576 v0 0 (h 576 0 0)) 577 0 0)) 578 v0 0 ((hset (hset h 576 v0 0 (h 576 0 0)) 577 v0 0 ((hset h 576 v0 0 (h 576 0 0)) 577 0 0)) 578 0 0)) 579 0 0)) 580 v0 0 ((hset (hset (hset (hset h 576 v0 0 (h 576 0 0)) 577 v0 0 ((hset h 576 v0 0 (h 576 0 0)) 577 0 0)) 578 v0 0 ((hset (hset h 576 v0 0 (h 576 0 0)) 577 v0 0 ((hset h 576 v0 0 (h 576 0 0)) 577 0 0)) 578 0 0)) 579 v0 0 ((hset (hset (hset h 576 v0 0 (h 576 0 0)) 577 v0 0 ((hset h 576 v0 0 (h 576 0 0)) 577 0 0)) 578 v0 0 ((hset (hset h 576 v0 0 (h 576 0 0)) 577 v0 0 ((hset h 576 v0 0 (h 576 0 0)) 577 0 0)) 578 0 0)) 579 0 0)) 580 0 0)) 581 v0 0 ((hset (hset (hset (hset (hset h 576 v0 0 (h 576 0 0)) 577 v0 0 ((hset h 576 v0 0 (h 576 0 0)) 577 0 0)) 578 v0 0 ((hset (hset h 576 v0 0 (h 576 0 0)) 577 v0 0 ((hset h 576 v0 0 (h 576 0 0)) 577 0 0)) 578 0 0)) 579 v0 0 ((hset (hset (hset h 576 v0 0 (h 576 0 0)) 577 v0 0 ((hset h 576 v0 0 (h 576 0 0)) 577 0 0)) 578 v0 0 ((hset (hset h 576 v0 0 (h 576 0 0)) 577 v0 0 ((hset h 576 v0 0 (h 576 0 0)) 577 0 0)) 578 0 0)) 579 0 0)) 580 v0 0 ((hset (hset (hset (hset h 576 v0 0 (h 576 0 0)) 577 v0 0 ((hset h 576 v0 0 (h 576 0 0)) 577 0 0)) 578 v0 0 ((hset (hset h 576 v0 0 (h 576 0 0)) 577 v0 0 ((hset h 576 v0 0 (h 576 0 0)) 577 0 0)) 578 0 0)) 579 v0 0 ((hset (hset (hset h 576 v0 0 (h 576 0 0)) 577 v0 0 ((hset h 576 v0 0 (h 576 0 0)) 577 0 0)) 578 v0 0 ((hset (hset h 576 v0 0 (h 576 0 0)) 577 v0 0 ((hset h 576 v0 0 (h 576 0 0)) 577 0 0)) 578 0 0)) 579 0 0)) 580 0 0)) 581 0 0)) 582 0 0)) 583 v0 583 0 0 0 6) 584 v0 584 0 0 0 6) 585 v0 585 0 0 0 6) 586 v0 586 0 0 0 6) 587 v0 587 0 0 0 6) 588 v0 588 0 0 0 6) 589 v0 589 0 0 0 6) 590 v0 590 0 0 0 20) 591 v0 591 0 0 0 20) 592 v0 592 0 0 0 20) 593 v0 593 0 0 0 8) 594 v0 594 0 0 0 6) 595 v0 595 0 0 0 6), hm, o))) K52b_0 rfl ⟨by decide, by decide, by decide, by decide, by decide, by decide, by decide, by decide, by decide, by decide, by decide, by decide, by decide, by decide, by decide, by decide, by decide, by decide, by decide, by decide, by decide, by decide, by decide, by decide, by decide, by decide, by decide, by decide, by decide, by decide, by decide, by decide, by decide, by decide, by decide, by decide, by decide, by decide, by decide, by decide, by decide, by decide, by decide, by decide, by decide, by decide, by decide, by decide, by decide, by decide, by decide, by decide, by decide, by decide, by decide, by decide, by decide, by decide, by decide, by decide, by decide, by decide, by decide, by decide, by decide, trivial⟩ ?_
  obtain rfl := Option.some.inj e
  exact zF_rv (by decide +kernel)
def B155b_0 : List zRow := [(0, .aload_n 0, 1, (0, 0, 0)), (1, .aload_n 1, 1, (0, 0, 0)), (2, .getfield 19, 3, (6, 0, 0)), (5, .putfield 19, 3, (6, 0, 0)), (8, .aload_n 0, 1, (0, 0, 0)), (9, .aload_n 1, 1, (0, 0, 0)), (10, .getfield 23, 3, (6, 1, 0)), (13, .putfield 23, 3, (6, 1, 0)), (16, .aload_n 1, 1, (0, 0, 0)), (17, .getfield 9, 3, (6, 2, 5243362)), (20, .iconst 0, 1, (0, 0, 0)), (21, .aload_n 0, 1, (0, 0, 0)), (22, .getfield 9, 3, (6, 2, 5243362)), (25, .iconst 0, 1, (0, 0, 0)), (26, .aload_n 0, 1, (0, 0, 0)), (27, .getfield 23, 3, (6, 1, 0)), (30, .iconst 3, 1, (0, 0, 0)), (31, .imul, 1, (0, 0, 0)), (32, .invokestatic 26, 3, (5001, 0, 0))]
theorem K155b_0 : zRk 155 B155b_0 = true := by decide +kernel
/-- EchoVale$Sentence.copyFrom(LEchoVale$Sentence;)V -/
def F155b (v0 : Int) (h : zHC) : Option zHC := zG (0 ≤ (wmul ((hset (hset h 384 v0 0 (h 384 0 0)) 385 v0 0 ((hset h 384 v0 0 (h 384 0 0)) 385 0 0)) 385 v0 0) 3)) (zG (0 + (wmul ((hset (hset h 384 v0 0 (h 384 0 0)) 385 v0 0 ((hset h 384 v0 0 (h 384 0 0)) 385 0 0)) 385 v0 0) 3) ≤ 120) (zG (0 + (wmul ((hset (hset h 384 v0 0 (h 384 0 0)) 385 v0 0 ((hset h 384 v0 0 (h 384 0 0)) 385 0 0)) 385 v0 0) 3) ≤ 120) (some (hcpy (hset (hset h 384 v0 0 (h 384 0 0)) 385 v0 0 ((hset h 384 v0 0 (h 384 0 0)) 385 0 0)) 386 v0 386 0 0 0 (wmul ((hset (hset h 384 v0 0 (h 384 0 0)) 385 v0 0 ((hset h 384 v0 0 (h 384 0 0)) 385 0 0)) 385 v0 0) 3)))))
set_option maxRecDepth 100000 in
theorem S155b {spec : zRn zH2} {hm : zHM} {o : Int → Int} {d : Nat} (hd : 1 ≤ d) (v0 : Int) (h : zHC) (v : zHC) (e : F155b v0 h = some v) : zRu2 spec d 155 [(16, v0), (16, 0)] (h, hm, o) none (v, hm, o) := by
  refine zF_in (D := 0) (mx := 2) (L := [some (16, v0), some (16, 0)]) (by decide +kernel) rfl rfl hd (fun d hd => ?_)
  unfold F155b at e
  obtain ⟨q1, e⟩ := zG_s e
  obtain ⟨q2, e⟩ := zG_s e
  obtain ⟨q2, e⟩ := zG_s e
  refine zF_blk (m := []) (d := 0) (b := B155b_0) (gs := [0 ≤ 0, 0 ≤ 0, 0 ≤ (wmul ((hset (hset h 384 v0 0 (h 384 0 0)) 385 v0 0 ((hset h 384 v0 0 (h 384 0 0)) 385 0 0)) 385 v0 0) 3), 0 + (wmul ((hset (hset h 384 v0 0 (h 384 0 0)) 385 v0 0 ((hset h 384 v0 0 (h 384 0 0)) 385 0 0)) 385 v0 0) 3) ≤ 120, 0 + (wmul ((hset (hset h 384 v0 0 (h 384 0 0)) 385 v0 0 ((hset h 384 v0 0 (h 384 0 0)) 385 0 0)) 385 v0 0) 3) ≤ 120]) (c' := (35, [some (16, v0), some (16, 0)], [], ((hcpy (hset (hset h 384 v0 0 (h 384 0 0)) 385 v0 0 ((hset h 384 v0 0 (h 384 0 0)) 385 0 0)) 386 v0 386 0 0 0 (wmul ((hset (hset h 384 v0 0 (h 384 0 0)) 385 v0 0 ((hset h 384 v0 0 (h 384 0 0)) 385 0 0)) 385 v0 0) 3)), hm, o))) K155b_0 rfl ⟨by decide, by decide, q1, q2, q2, trivial⟩ ?_
  obtain rfl := Option.some.inj e
  exact zF_rv (by decide +kernel)
def B160_0 : List zRow := [(9, .iconst 0, 1, (0, 0, 0))]
theorem K160_0 : zRk 160 B160_0 = true := by decide +kernel
def B160_1 : List zRow := [(11, .aload_n 0, 1, (0, 0, 0)), (12, .getfield 72, 3, (11, 9, 6291466)), (15, .iload_n 1, 1, (0, 0, 0)), (16, .aaload, 1, (24, 0, 0)), (17, .getfield 359, 3, (3, 1, 359)), (20, .aload_n 0, 1, (0, 0, 0)), (21, .getfield 19, 3, (11, 1, 39))]
theorem K160_1 : zRk 160 B160_1 = true := by decide +kernel
def B160_2 : List zRow := [(27, .aload_n 0, 1, (0, 0, 0)), (28, .getfield 72, 3, (11, 9, 6291466)), (31, .iload_n 1, 1, (0, 0, 0)), (32, .aaload, 1, (24, 0, 0)), (33, .getfield 360, 3, (3, 2, 1351)), (36, .aload_n 0, 1, (0, 0, 0)), (37, .getfield 56, 3, (11, 6, 7))]
theorem K160_2 : zRk 160 B160_2 = true := by decide +kernel
def B160_3 : List zRow := [(43, .aload_n 0, 1, (0, 0, 0)), (44, .getfield 72, 3, (11, 9, 6291466)), (47, .iload_n 1, 1, (0, 0, 0)), (48, .aaload, 1, (24, 0, 0)), (49, .getfield 361, 3, (3, 3, 347)), (52, .aload_n 0, 1, (0, 0, 0)), (53, .getfield 42, 3, (11, 4, 27))]
theorem K160_3 : zRk 160 B160_3 = true := by decide +kernel
def B160_4 : List zRow := [(59, .aload_n 0, 1, (0, 0, 0)), (60, .getfield 72, 3, (11, 9, 6291466)), (63, .iload_n 1, 1, (0, 0, 0)), (64, .aaload, 1, (24, 0, 0)), (65, .iconst 1, 1, (0, 0, 0)), (66, .putfield 362, 3, (3, 0, 0)), (69, .iconst 1, 1, (0, 0, 0))]
theorem K160_4 : zRk 160 B160_4 = true := by decide +kernel
def B160_5 : List zRow := [(4, .iload_n 1, 1, (0, 0, 0)), (5, .iconst 2, 1, (0, 0, 0)), (6, .if_icmp .lt 5, 3, (0, 0, 0))]
theorem K160_5 : zRk 160 B160_5 = true := by decide +kernel
def B160_6 : List zRow := [(0, .iload_n 1, 1, (0, 0, 0)), (1, .ifCond .lt 8, 3, (0, 0, 0))]
theorem K160_6 : zRk 160 B160_6 = true := by decide +kernel
/-- EchoVale.image(I)Z -/
def F160 (v1 : Int) (h : zHC) : Option (Int × zHC) := if v1 < 0 then some (0, h) else if v1 < 2 then zG (0 ≤ v1 ∧ v1 < 2) ((F52b (v1 + 2) h).bind fun r1 => zG (0 ≤ v1 ∧ v1 < 2) ((F71 (v1 + 10) r1).bind fun r2 => zG (0 ≤ v1 ∧ v1 < 2) ((F155b (v1 + 2) r2).bind fun r3 => zG (0 ≤ v1 ∧ v1 < 2) (some (1, (hset r3 192 v1 0 1)))))) else some (0, h)
set_option maxRecDepth 100000 in
theorem S160 {spec : zRn zH2} {hm : zHM} {o : Int → Int} {d : Nat} (hd : 3 ≤ d) (v1 : Int) (h : zHC) (v : (Int × zHC)) (e : F160 v1 h = some v) : zRu2 spec d 160 [(21, 0), (0, v1)] (h, hm, o) (some (0, v.1)) (v.2, hm, o) := by
  refine zF_in (D := 2) (mx := 2) (L := [some (21, 0), some (0, v1)]) (by decide +kernel) rfl rfl hd (fun d hd => ?_)
  unfold F160 at e
  rcases zI_s e with ⟨q1, e⟩ | ⟨q1, e⟩
  · refine zF_blk (m := []) (d := 1) (b := B160_6) (gs := [v1 < 0]) (c' := (9, [some (21, 0), some (0, v1)], [], (h, hm, o))) K160_6 rfl ⟨q1, trivial⟩ ?_
    refine zF_blk (m := []) (d := 0) (b := B160_0) (gs := []) (c' := (10, [some (21, 0), some (0, v1)], [(0, 0)], (h, hm, o))) K160_0 rfl trivial ?_
    obtain rfl := Option.some.inj e
    exact zF_rb (by decide +kernel) (Or.inl rfl)
  · refine zF_blk (m := []) (d := 0) (b := B160_6) (gs := [¬ (v1 < 0)]) (c' := (4, [some (21, 0), some (0, v1)], [], (h, hm, o))) K160_6 rfl ⟨q1, trivial⟩ ?_
    rcases zI_s e with ⟨q2, e⟩ | ⟨q2, e⟩
    · refine zF_blk (m := []) (d := 1) (b := B160_5) (gs := [v1 < 2]) (c' := (11, [some (21, 0), some (0, v1)], [], (h, hm, o))) K160_5 rfl ⟨q2, trivial⟩ ?_
      obtain ⟨q3, e⟩ := zG_s e
      obtain ⟨r1, q4, e⟩ := zB_s e
      refine zF_blk (m := []) (d := 0) (b := B160_1) (gs := [0 ≤ v1 ∧ v1 < 2]) (c' := (24, [some (21, 0), some (0, v1)], [(19, 0), (19, (v1 + 2))], (h, hm, o))) K160_1 rfl ⟨q3, trivial⟩ ?_
      refine zF_call (k := 52) (cl := 9) (n := 2) (i := .invokevirtual 120) (args := [(19, (v1 + 2)), (19, 0)]) (rest := []) (g1 := (r1, hm, o)) (r1 := none) (by decide +kernel) rfl rfl rfl (st' := []) rfl (S52b (Nat.le_trans (by decide) hd) (v1 + 2) h _ q4) ?_
      obtain ⟨q5, e⟩ := zG_s e
      obtain ⟨r2, q6, e⟩ := zB_s e
      refine zF_blk (m := []) (d := 0) (b := B160_2) (gs := [0 ≤ v1 ∧ v1 < 2]) (c' := (40, [some (21, 0), some (0, v1)], [(11, 0), (11, (v1 + 10))], (r1, hm, o))) K160_2 rfl ⟨q5, trivial⟩ ?_
      refine zF_call (k := 71) (cl := 1) (n := 2) (i := .invokevirtual 266) (args := [(11, (v1 + 10)), (11, 0)]) (rest := []) (g1 := (r2, hm, o)) (r1 := none) (by decide +kernel) rfl rfl rfl (st' := []) rfl (S71 (Nat.le_trans (by decide) hd) (v1 + 10) r1 _ q6) ?_
      obtain ⟨q7, e⟩ := zG_s e
      obtain ⟨r3, q8, e⟩ := zB_s e
      refine zF_blk (m := []) (d := 0) (b := B160_3) (gs := [0 ≤ v1 ∧ v1 < 2]) (c' := (56, [some (21, 0), some (0, v1)], [(16, 0), (16, (v1 + 2))], (r2, hm, o))) K160_3 rfl ⟨q7, trivial⟩ ?_
      refine zF_call (k := 155) (cl := 6) (n := 2) (i := .invokevirtual 348) (args := [(16, (v1 + 2)), (16, 0)]) (rest := []) (g1 := (r3, hm, o)) (r1 := none) (by decide +kernel) rfl rfl rfl (st' := []) rfl (S155b (Nat.le_trans (by decide) hd) (v1 + 2) r2 _ q8) ?_
      obtain ⟨q9, e⟩ := zG_s e
      refine zF_blk (m := []) (d := 0) (b := B160_4) (gs := [0 ≤ v1 ∧ v1 < 2, 1 = 0 ∨ 1 = 1]) (c' := (70, [some (21, 0), some (0, v1)], [(0, 1)], ((hset r3 192 v1 0 1), hm, o))) K160_4 rfl ⟨q9, by decide, trivial⟩ ?_
      obtain rfl := Option.some.inj e
      exact zF_rb (by decide +kernel) (Or.inr rfl)
    · refine zF_blk (m := []) (d := 0) (b := B160_5) (gs := [¬ (v1 < 2)]) (c' := (9, [some (21, 0), some (0, v1)], [], (h, hm, o))) K160_5 rfl ⟨q2, trivial⟩ ?_
      refine zF_blk (m := []) (d := 0) (b := B160_0) (gs := []) (c' := (10, [some (21, 0), some (0, v1)], [(0, 0)], (h, hm, o))) K160_0 rfl trivial ?_
      obtain rfl := Option.some.inj e
      exact zF_rb (by decide +kernel) (Or.inl rfl)
def B292_0 : List zRow := [(0, .aload_n 0, 1, (0, 0, 0)), (1, .iconst 0, 1, (0, 0, 0)), (2, .putfield 81, 3, (12, 0, 0)), (5, .iload_n 1, 1, (0, 0, 0)), (6, .iconst 0, 1, (0, 0, 0)), (7, .iconst 1, 1, (0, 0, 0))]
theorem K292_0 : zRk 292 B292_0 = true := by decide +kernel
def B292_1 : List zRow := [(16, .iconst 0, 1, (0, 0, 0)), (17, .istore_n 2, 1, (0, 0, 0))]
theorem K292_1 : zRk 292 B292_1 = true := by decide +kernel
def B292_2 : List zRow := [(14, .iconst 0, 1, (0, 0, 0))]
theorem K292_2 : zRk 292 B292_2 = true := by decide +kernel
def B292_3 : List zRow := [(11, .ifCond .ne 5, 3, (0, 0, 0))]
theorem K292_3 : zRk 292 B292_3 = true := by decide +kernel
def B292_4 : List zRow := [(49, .iconst 0, 1, (0, 0, 0)), (50, .istore_n 2, 1, (0, 0, 0))]
theorem K292_4 : zRk 292 B292_4 = true := by decide +kernel
def B292_5 : List zRow := [(25, .aload_n 0, 1, (0, 0, 0)), (26, .getfield 19, 3, (12, 16, 5260002)), (29, .sipush 2140, 3, (0, 0, 0)), (32, .iload_n 1, 1, (0, 0, 0))]
theorem K292_5 : zRk 292 B292_5 = true := by decide +kernel
def B292_6 : List zRow := [(33, .imul, 1, (0, 0, 0)), (34, .iload_n 2, 1, (0, 0, 0)), (35, .iadd, 1, (0, 0, 0)), (36, .aload_n 0, 1, (0, 0, 0)), (37, .getfield 13, 3, (12, 14, 5251442)), (40, .iload_n 2, 1, (0, 0, 0)), (41, .iaload, 1, (0, 0, 0)), (42, .iastore, 1, (0, 0, 0)), (43, .iinc 2 1, 3, (0, 0, 0)), (46, .goto (-28), 3, (0, 0, 0))]
theorem K292_6 : zRk 292 B292_6 = true := by decide +kernel
def B292_7 : List zRow := [(18, .iload_n 2, 1, (0, 0, 0)), (19, .sipush 2140, 3, (0, 0, 0)), (22, .if_icmp .ge 27, 3, (0, 0, 0))]
theorem K292_7 : zRk 292 B292_7 = true := by decide +kernel
def B292_8 : List zRow := [(80, .aload_n 0, 1, (0, 0, 0)), (81, .getfield 38, 3, (12, 22, 5767178)), (84, .iload_n 1, 1, (0, 0, 0)), (85, .iconst 1, 1, (0, 0, 0)), (86, .bastore, 1, (0, 0, 0)), (87, .iconst 1, 1, (0, 0, 0))]
theorem K292_8 : zRk 292 B292_8 = true := by decide +kernel
def B292_9 : List zRow := [(57, .aload_n 0, 1, (0, 0, 0)), (58, .getfield 35, 3, (12, 21, 5505122)), (61, .bipush 12, 2, (0, 0, 0)), (63, .iload_n 1, 1, (0, 0, 0))]
theorem K292_9 : zRk 292 B292_9 = true := by decide +kernel
def B292_10 : List zRow := [(64, .imul, 1, (0, 0, 0)), (65, .iload_n 2, 1, (0, 0, 0)), (66, .iadd, 1, (0, 0, 0)), (67, .aload_n 0, 1, (0, 0, 0)), (68, .getfield 28, 3, (12, 19, 5505074)), (71, .iload_n 2, 1, (0, 0, 0)), (72, .laload, 1, (0, 0, 0)), (73, .lastore, 1, (0, 0, 0)), (74, .iinc 2 1, 3, (0, 0, 0)), (77, .goto (-26), 3, (0, 0, 0))]
theorem K292_10 : zRk 292 B292_10 = true := by decide +kernel
def B292_11 : List zRow := [(51, .iload_n 2, 1, (0, 0, 0)), (52, .bipush 12, 2, (0, 0, 0)), (54, .if_icmp .ge 26, 3, (0, 0, 0))]
theorem K292_11 : zRk 292 B292_11 = true := by decide +kernel
def F292_1 : Nat → Int → Int → zHM → Option (Int × zHM)
  | 0, _, _, _ => none
  | n + 1, v1, v2, h => if 12 ≤ v2 then zG (0 ≤ v1 ∧ v1 < 2) (some (1, (mset h 22 v1 1))) else zG (0 ≤ v2 ∧ v2 < 12) (zG (0 ≤ (wadd (wmul 12 v1) v2) ∧ (wadd (wmul 12 v1) v2) < 24) ((F292_1 n) v1 (wadd v2 1) (mset h 21 (wadd (wmul 12 v1) v2) (h 19 v2))))
set_option maxRecDepth 100000 in
theorem T292_1 {spec : zRn zH2} {hc : zHC} {o : Int → Int} {d : Nat} (hd : 1 ≤ d) : ∀ (n : Nat) (v1 : Int) (v2 : Int) (h : zHM) (v : (Int × zHM)), F292_1 n v1 v2 h = some v → zFin 0 (fun _ => 0) (zRu2 spec d) 292 (some (0, v.1)) (hc, v.2, o) (51, [some (22, 0), some (0, v1), some (0, v2)], [], (hc, h, o)) := by
  intro n
  induction n with
  | zero => intro v1 v2 h v e; unfold F292_1 at e; cases e
  | succ n hk0 =>
    intro v1 v2 h v e
    unfold F292_1 at e
    rcases zI_s e with ⟨q1, e⟩ | ⟨q1, e⟩
    · refine zF_blk (m := []) (d := 1) (b := B292_11) (gs := [12 ≤ v2]) (c' := (80, [some (22, 0), some (0, v1), some (0, v2)], [], (hc, h, o))) K292_11 rfl ⟨q1, trivial⟩ ?_
      obtain ⟨q2, e⟩ := zG_s e
      refine zF_blk (m := []) (d := 0) (b := B292_8) (gs := [0 ≤ v1 ∧ v1 < 2, 1 = 0 ∨ 1 = 1]) (c' := (88, [some (22, 0), some (0, v1), some (0, v2)], [(0, 1)], (hc, (mset h 22 v1 1), o))) K292_8 rfl ⟨q2, by decide, trivial⟩ ?_
      obtain rfl := Option.some.inj e
      exact zF_rb (by decide +kernel) (Or.inr rfl)
    · refine zF_blk (m := []) (d := 0) (b := B292_11) (gs := [¬ (12 ≤ v2)]) (c' := (57, [some (22, 0), some (0, v1), some (0, v2)], [], (hc, h, o))) K292_11 rfl ⟨q1, trivial⟩ ?_
      obtain ⟨q3, e⟩ := zG_s e
      obtain ⟨q4, e⟩ := zG_s e
      refine zF_blk (m := []) (d := 0) (b := B292_9) (gs := []) (c' := (64, [some (22, 0), some (0, v1), some (0, v2)], [(0, v1), (0, 12), (1409312509, 0)], (hc, h, o))) K292_9 rfl trivial ?_
      refine zF_blk (m := []) (d := 0) (b := B292_10) (gs := [0 ≤ v2 ∧ v2 < 12, 0 ≤ (wadd (wmul 12 v1) v2) ∧ (wadd (wmul 12 v1) v2) < 24]) (c' := (51, [some (22, 0), some (0, v1), some (0, (wadd v2 1))], [], (hc, (mset h 21 (wadd (wmul 12 v1) v2) (h 19 v2)), o))) K292_10 rfl ⟨q3, q4, trivial⟩ ?_
      exact hk0 v1 (wadd v2 1) (mset h 21 (wadd (wmul 12 v1) v2) (h 19 v2)) _ e
def F292_0 : Nat → Int → Int → zHM → Option (Int × zHM)
  | 0, _, _, _ => none
  | n + 1, v1, v2, h => if 2140 ≤ v2 then F292_1 zFu v1 0 h else zG (0 ≤ v2 ∧ v2 < 2140) (zG (0 ≤ (wadd (wmul 2140 v1) v2) ∧ (wadd (wmul 2140 v1) v2) < 4280) ((F292_0 n) v1 (wadd v2 1) (mset h 16 (wadd (wmul 2140 v1) v2) (h 14 v2))))
set_option maxRecDepth 100000 in
theorem T292_0 {spec : zRn zH2} {hc : zHC} {o : Int → Int} {d : Nat} (hd : 1 ≤ d) : ∀ (n : Nat) (v1 : Int) (v2 : Int) (h : zHM) (v : (Int × zHM)), F292_0 n v1 v2 h = some v → zFin 0 (fun _ => 0) (zRu2 spec d) 292 (some (0, v.1)) (hc, v.2, o) (18, [some (22, 0), some (0, v1), some (0, v2)], [], (hc, h, o)) := by
  intro n
  induction n with
  | zero => intro v1 v2 h v e; unfold F292_0 at e; cases e
  | succ n hk0 =>
    intro v1 v2 h v e
    unfold F292_0 at e
    rcases zI_s e with ⟨q1, e⟩ | ⟨q1, e⟩
    · refine zF_blk (m := []) (d := 1) (b := B292_7) (gs := [2140 ≤ v2]) (c' := (49, [some (22, 0), some (0, v1), some (0, v2)], [], (hc, h, o))) K292_7 rfl ⟨q1, trivial⟩ ?_
      refine zF_blk (m := []) (d := 0) (b := B292_4) (gs := []) (c' := (51, [some (22, 0), some (0, v1), some (0, 0)], [], (hc, h, o))) K292_4 rfl trivial ?_
      exact T292_1 hd zFu v1 0 h _ e
    · refine zF_blk (m := []) (d := 0) (b := B292_7) (gs := [¬ (2140 ≤ v2)]) (c' := (25, [some (22, 0), some (0, v1), some (0, v2)], [], (hc, h, o))) K292_7 rfl ⟨q1, trivial⟩ ?_
      obtain ⟨q2, e⟩ := zG_s e
      obtain ⟨q3, e⟩ := zG_s e
      refine zF_blk (m := []) (d := 0) (b := B292_5) (gs := []) (c' := (33, [some (22, 0), some (0, v1), some (0, v2)], [(0, v1), (0, 2140), (1346561784, 0)], (hc, h, o))) K292_5 rfl trivial ?_
      refine zF_blk (m := []) (d := 0) (b := B292_6) (gs := [0 ≤ v2 ∧ v2 < 2140, 0 ≤ (wadd (wmul 2140 v1) v2) ∧ (wadd (wmul 2140 v1) v2) < 4280]) (c' := (18, [some (22, 0), some (0, v1), some (0, (wadd v2 1))], [], (hc, (mset h 16 (wadd (wmul 2140 v1) v2) (h 14 v2)), o))) K292_6 rfl ⟨q2, q3, trivial⟩ ?_
      exact hk0 v1 (wadd v2 1) (mset h 16 (wadd (wmul 2140 v1) v2) (h 14 v2)) _ e
/-- EchoValeModel.image(I)Z -/
def F292 (v1 : Int) (h : zHM) : Option (Int × zHM) := (F188 v1 0 1).bind fun r1 => if ¬ r1 = 0 then F292_0 zFu v1 0 (mset h 0 0 0) else some (0, (mset h 0 0 0))
set_option maxRecDepth 100000 in
theorem S292 {spec : zRn zH2} {hc : zHC} {o : Int → Int} {d : Nat} (hd : 2 ≤ d) (v1 : Int) (h : zHM) (v : (Int × zHM)) (e : F292 v1 h = some v) : zRu2 spec d 292 [(22, 0), (0, v1)] (hc, h, o) (some (0, v.1)) (hc, v.2, o) := by
  refine zF_in (D := 1) (mx := 3) (L := [some (22, 0), some (0, v1), none]) (by decide +kernel) rfl rfl hd (fun d hd => ?_)
  unfold F292 at e
  obtain ⟨r1, q1, e⟩ := zB_s e
  refine zF_blk (m := []) (d := 0) (b := B292_0) (gs := []) (c' := (8, [some (22, 0), some (0, v1), none], [(0, 1), (0, 0), (0, v1)], (hc, (mset h 0 0 0), o))) K292_0 rfl trivial ?_
  refine zF_call (k := 188) (cl := 12) (n := 3) (i := .invokestatic 151) (args := [(0, v1), (0, 0), (0, 1)]) (rest := []) (g1 := (hc, (mset h 0 0 0), o)) (r1 := some (0, r1)) (by decide +kernel) rfl rfl rfl (st' := [(0, r1)]) rfl (S188 (Nat.le_trans (by decide) hd) v1 0 1 (mset h 0 0 0) _ q1) ?_
  rcases zI_s e with ⟨q2, e⟩ | ⟨q2, e⟩
  · refine zF_blk (m := []) (d := 1) (b := B292_3) (gs := [¬ r1 = 0]) (c' := (16, [some (22, 0), some (0, v1), none], [], (hc, (mset h 0 0 0), o))) K292_3 rfl ⟨q2, trivial⟩ ?_
    refine zF_blk (m := []) (d := 0) (b := B292_1) (gs := []) (c' := (18, [some (22, 0), some (0, v1), some (0, 0)], [], (hc, (mset h 0 0 0), o))) K292_1 rfl trivial ?_
    exact T292_0 hd zFu v1 0 (mset h 0 0 0) _ e
  · refine zF_blk (m := []) (d := 0) (b := B292_3) (gs := [¬ (¬ r1 = 0)]) (c' := (14, [some (22, 0), some (0, v1), none], [], (hc, (mset h 0 0 0), o))) K292_3 rfl ⟨q2, trivial⟩ ?_
    refine zF_blk (m := []) (d := 0) (b := B292_2) (gs := []) (c' := (15, [some (22, 0), some (0, v1), none], [(0, 0)], (hc, (mset h 0 0 0), o))) K292_2 rfl trivial ?_
    obtain rfl := Option.some.inj e
    exact zF_rb (by decide +kernel) (Or.inl rfl)
def B52c_0 : List zRow := [(0, .aload_n 0, 1, (0, 0, 0)), (1, .aload_n 1, 1, (0, 0, 0)), (2, .getfield 52, 3, (9, 0, 0)), (5, .putfield 52, 3, (9, 0, 0)), (8, .aload_n 0, 1, (0, 0, 0)), (9, .aload_n 1, 1, (0, 0, 0)), (10, .getfield 56, 3, (9, 1, 0)), (13, .putfield 56, 3, (9, 1, 0)), (16, .aload_n 0, 1, (0, 0, 0)), (17, .aload_n 1, 1, (0, 0, 0)), (18, .getfield 59, 3, (9, 2, 0)), (21, .putfield 59, 3, (9, 2, 0)), (24, .aload_n 0, 1, (0, 0, 0)), (25, .aload_n 1, 1, (0, 0, 0)), (26, .getfield 62, 3, (9, 3, 0)), (29, .putfield 62, 3, (9, 3, 0)), (32, .aload_n 0, 1, (0, 0, 0)), (33, .aload_n 1, 1, (0, 0, 0)), (34, .getfield 65, 3, (9, 4, 0)), (37, .putfield 65, 3, (9, 4, 0)), (40, .aload_n 0, 1, (0, 0, 0)), (41, .aload_n 1, 1, (0, 0, 0)), (42, .getfield 68, 3, (9, 5, 0)), (45, .putfield 68, 3, (9, 5, 0)), (48, .aload_n 0, 1, (0, 0, 0)), (49, .aload_n 1, 1, (0, 0, 0)), (50, .getfield 71, 3, (9, 6, 0)), (53, .putfield 71, 3, (9, 6, 0)), (56, .aload_n 1, 1, (0, 0, 0)), (57, .getfield 9, 3, (9, 7, 5505050)), (60, .iconst 0, 1, (0, 0, 0)), (61, .aload_n 0, 1, (0, 0, 0)), (62, .getfield 9, 3, (9, 7, 5505050)), (65, .iconst 0, 1, (0, 0, 0)), (66, .bipush 6, 2, (0, 0, 0)), (68, .invokestatic 74, 3, (5001, 0, 0)), (71, .aload_n 1, 1, (0, 0, 0)), (72, .getfield 15, 3, (9, 8, 5242906)), (75, .iconst 0, 1, (0, 0, 0)), (76, .aload_n 0, 1, (0, 0, 0)), (77, .getfield 15, 3, (9, 8, 5242906)), (80, .iconst 0, 1, (0, 0, 0)), (81, .bipush 6, 2, (0, 0, 0)), (83, .invokestatic 74, 3, (5001, 0, 0)), (86, .aload_n 1, 1, (0, 0, 0)), (87, .getfield 19, 3, (9, 9, 5242906)), (90, .iconst 0, 1, (0, 0, 0)), (91, .aload_n 0, 1, (0, 0, 0)), (92, .getfield 19, 3, (9, 9, 5242906)), (95, .iconst 0, 1, (0, 0, 0)), (96, .bipush 6, 2, (0, 0, 0)), (98, .invokestatic 74, 3, (5001, 0, 0)), (101, .aload_n 1, 1, (0, 0, 0)), (102, .getfield 22, 3, (9, 10, 5242906)), (105, .iconst 0, 1, (0, 0, 0)), (106, .aload_n 0, 1, (0, 0, 0)), (107, .getfield 22, 3, (9, 10, 5242906)), (110, .iconst 0, 1, (0, 0, 0)), (111, .bipush 6, 2, (0, 0, 0)), (113, .invokestatic 74, 3, (5001, 0, 0)), (116, .aload_n 1, 1, (0, 0, 0)), (117, .getfield 25, 3, (9, 11, 5505050)), (120, .iconst 0, 1, (0, 0, 0)), (121, .aload_n 0, 1, (0, 0, 0)), (122, .getfield 25, 3, (9, 11, 5505050)), (125, .iconst 0, 1, (0, 0, 0)), (126, .bipush 6, 2, (0, 0, 0)), (128, .invokestatic 74, 3, (5001, 0, 0)), (131, .aload_n 1, 1, (0, 0, 0)), (132, .getfield 28, 3, (9, 12, 5242906)), (135, .iconst 0, 1, (0, 0, 0)), (136, .aload_n 0, 1, (0, 0, 0)), (137, .getfield 28, 3, (9, 12, 5242906)), (140, .iconst 0, 1, (0, 0, 0)), (141, .bipush 6, 2, (0, 0, 0)), (143, .invokestatic 74, 3, (5001, 0, 0)), (146, .aload_n 1, 1, (0, 0, 0)), (147, .getfield 31, 3, (9, 13, 5242906)), (150, .iconst 0, 1, (0, 0, 0)), (151, .aload_n 0, 1, (0, 0, 0)), (152, .getfield 31, 3, (9, 13, 5242906)), (155, .iconst 0, 1, (0, 0, 0)), (156, .bipush 6, 2, (0, 0, 0)), (158, .invokestatic 74, 3, (5001, 0, 0)), (161, .aload_n 1, 1, (0, 0, 0)), (162, .getfield 34, 3, (9, 14, 5242962)), (165, .iconst 0, 1, (0, 0, 0)), (166, .aload_n 0, 1, (0, 0, 0)), (167, .getfield 34, 3, (9, 14, 5242962)), (170, .iconst 0, 1, (0, 0, 0)), (171, .bipush 20, 2, (0, 0, 0)), (173, .invokestatic 74, 3, (5001, 0, 0)), (176, .aload_n 1, 1, (0, 0, 0)), (177, .getfield 37, 3, (9, 15, 5242962)), (180, .iconst 0, 1, (0, 0, 0)), (181, .aload_n 0, 1, (0, 0, 0)), (182, .getfield 37, 3, (9, 15, 5242962)), (185, .iconst 0, 1, (0, 0, 0)), (186, .bipush 20, 2, (0, 0, 0)), (188, .invokestatic 74, 3, (5001, 0, 0)), (191, .aload_n 1, 1, (0, 0, 0)), (192, .getfield 40, 3, (9, 16, 5242962)), (195, .iconst 0, 1, (0, 0, 0)), (196, .aload_n 0, 1, (0, 0, 0)), (197, .getfield 40, 3, (9, 16, 5242962)), (200, .iconst 0, 1, (0, 0, 0)), (201, .bipush 20, 2, (0, 0, 0)), (203, .invokestatic 74, 3, (5001, 0, 0)), (206, .aload_n 1, 1, (0, 0, 0)), (207, .getfield 43, 3, (9, 17, 5242914)), (210, .iconst 0, 1, (0, 0, 0)), (211, .aload_n 0, 1, (0, 0, 0)), (212, .getfield 43, 3, (9, 17, 5242914)), (215, .iconst 0, 1, (0, 0, 0)), (216, .bipush 8, 2, (0, 0, 0)), (218, .invokestatic 74, 3, (5001, 0, 0)), (221, .aload_n 1, 1, (0, 0, 0)), (222, .getfield 46, 3, (9, 18, 5242906)), (225, .iconst 0, 1, (0, 0, 0)), (226, .aload_n 0, 1, (0, 0, 0)), (227, .getfield 46, 3, (9, 18, 5242906)), (230, .iconst 0, 1, (0, 0, 0)), (231, .bipush 6, 2, (0, 0, 0)), (233, .invokestatic 74, 3, (5001, 0, 0)), (236, .aload_n 1, 1, (0, 0, 0)), (237, .getfield 49, 3, (9, 19, 5242906)), (240, .iconst 0, 1, (0, 0, 0)), (241, .aload_n 0, 1, (0, 0, 0)), (242, .getfield 49, 3, (9, 19, 5242906)), (245, .iconst 0, 1, (0, 0, 0)), (246, .bipush 6, 2, (0, 0, 0)), (248, .invokestatic 74, 3, (5001, 0, 0))]
theorem K52c_0 : zRk 52 B52c_0 = true := by decide +kernel
/-- EchoVale$Valley.copyFrom(LEchoVale$Valley;)V -/
def F52c (v1 : Int) (h : zHC) : Option zHC := some (hcpy (hcpy (hcpy (hcpy (hcpy (hcpy (hcpy (hcpy (hcpy (hcpy (hcpy (hcpy (hcpy (hset (hset (hset (hset (hset (hset (hset h 576 0 0 (h 576 v1 0)) 577 0 0 ((hset h 576 0 0 (h 576 v1 0)) 577 v1 0)) 578 0 0 ((hset (hset h 576 0 0 (h 576 v1 0)) 577 0 0 ((hset h 576 0 0 (h 576 v1 0)) 577 v1 0)) 578 v1 0)) 579 0 0 ((hset (hset (hset h 576 0 0 (h 576 v1 0)) 577 0 0 ((hset h 576 0 0 (h 576 v1 0)) 577 v1 0)) 578 0 0 ((hset (hset h 576 0 0 (h 576 v1 0)) 577 0 0 ((hset h 576 0 0 (h 576 v1 0)) 577 v1 0)) 578 v1 0)) 579 v1 0)) 580 0 0 ((hset (hset (hset (hset h 576 0 0 (h 576 v1 0)) 577 0 0 ((hset h 576 0 0 (h 576 v1 0)) 577 v1 0)) 578 0 0 ((hset (hset h 576 0 0 (h 576 v1 0)) 577 0 0 ((hset h 576 0 0 (h 576 v1 0)) 577 v1 0)) 578 v1 0)) 579 0 0 ((hset (hset (hset h 576 0 0 (h 576 v1 0)) 577 0 0 ((hset h 576 0 0 (h 576 v1 0)) 577 v1 0)) 578 0 0 ((hset (hset h 576 0 0 (h 576 v1 0)) 577 0 0 ((hset h 576 0 0 (h 576 v1 0)) 577 v1 0)) 578 v1 0)) 579 v1 0)) 580 v1 0)) 581 0 0 ((hset (hset (hset (hset (hset h 576 0 0 (h 576 v1 0)) 577 0 0 ((hset h 576 0 0 (h 576 v1 0)) 577 v1 0)) 578 0 0 ((hset (hset h 576 0 0 (h 576 v1 0)) 577 0 0 ((hset h 576 0 0 (h 576 v1 0)) 577 v1 0)) 578 v1 0)) 579 0 0 ((hset (hset (hset h 576 0 0 (h 576 v1 0)) 577 0 0 ((hset h 576 0 0 (h 576 v1 0)) 577 v1 0)) 578 0 0 ((hset (hset h 576 0 0 (h 576 v1 0)) 577 0 0 ((hset h 576 0 0 (h 576 v1 0)) 577 v1 0)) 578 v1 0)) 579 v1 0)) 580 0 0 ((hset (hset (hset (hset h 576 0 0 (h 576 v1 0)) 577 0 0 ((hset h 576 0 0 (h 576 v1 0)) 577 v1 0)) 578 0 0 ((hset (hset h 576 0 0 (h 576 v1 0)) 577 0 0 ((hset h 576 0 0 (h 576 v1 0)) 577 v1 0)) 578 v1 0)) 579 0 0 ((hset (hset (hset h 576 0 0 (h 576 v1 0)) 577 0 0 ((hset h 576 0 0 (h 576 v1 0)) 577 v1 0)) 578 0 0 ((hset (hset h 576 0 0 (h 576 v1 0)) 577 0 0 ((hset h 576 0 0 (h 576 v1 0)) 577 v1 0)) 578 v1 0)) 579 v1 0)) 580 v1 0)) 581 v1 0)) 582 0 0 ((hset (hset (hset (hset (hset (hset h 576 0 0 (h 576 v1 0)) 577 0 0 ((hset h 576 0 0 (h 576 v1 0)) 577 v1 0)) 578 0 0 ((hset (hset h 576 0 0 (h 576 v1 0)) 577 0 0 ((hset h 576 0 0 (h 576 v1 0)) 577 v1 0)) 578 v1 0)) 579 0 0 ((hset (hset (hset h 576 0 0 (h 576 v1 0)) 577 0 0 ((hset h 576 0 0 (h 576 v1 0)) 577 v1 0)) 578 0 0 ((hset (hset h 576 0 0 (h 576 v1 0)) 577 0 0 ((hset h 576 0 0 (h 576 v1 0)) 577 v1 0)) 578 v1 0)) 579 v1 0)) 580 0 0 ((hset (hset (hset (hset h 576 0 0 (h 576 v1 0)) 577 0 0 ((hset h 576 0 0 (h 576 v1 0)) 577 v1 0)) 578 0 0 ((hset (hset h 576 0 0 (h 576 v1 0)) 577 0 0 ((hset h 576 0 0 (h 576 v1 0)) 577 v1 0)) 578 v1 0)) 579 0 0 ((hset (hset (hset h 576 0 0 (h 576 v1 0)) 577 0 0 ((hset h 576 0 0 (h 576 v1 0)) 577 v1 0)) 578 0 0 ((hset (hset h 576 0 0 (h 576 v1 0)) 577 0 0 ((hset h 576 0 0 (h 576 v1 0)) 577 v1 0)) 578 v1 0)) 579 v1 0)) 580 v1 0)) 581 0 0 ((hset (hset (hset (hset (hset h 576 0 0 (h 576 v1 0)) 577 0 0 ((hset h 576 0 0 (h 576 v1 0)) 577 v1 0)) 578 0 0 ((hset (hset h 576 0 0 (h 576 v1 0)) 577 0 0 ((hset h 576 0 0 (h 576 v1 0)) 577 v1 0)) 578 v1 0)) 579 0 0 ((hset (hset (hset h 576 0 0 (h 576 v1 0)) 577 0 0 ((hset h 576 0 0 (h 576 v1 0)) 577 v1 0)) 578 0 0 ((hset (hset h 576 0 0 (h 576 v1 0)) 577 0 0 ((hset h 576 0 0 (h 576 v1 0)) 577 v1 0)) 578 v1 0)) 579 v1 0)) 580 0 0 ((hset (hset (hset (hset h 576 0 0 (h 576 v1 0)) 577 0 0 ((hset h 576 0 0 (h 576 v1 0)) 577 v1 0)) 578 0 0 ((hset (hset h 576 0 0 (h 576 v1 0)) 577 0 0 ((hset h 576 0 0 (h 576 v1 0)) 577 v1 0)) 578 v1 0)) 579 0 0 ((hset (hset (hset h 576 0 0 (h 576 v1 0)) 577 0 0 ((hset h 576 0 0 (h 576 v1 0)) 577 v1 0)) 578 0 0 ((hset (hset h 576 0 0 (h 576 v1 0)) 577 0 0 ((hset h 576 0 0 (h 576 v1 0)) 577 v1 0)) 578 v1 0)) 579 v1 0)) 580 v1 0)) 581 v1 0)) 582 v1 0)) 583 0 583 v1 0 0 6) 584 0 584 v1 0 0 6) 585 0 585 v1 0 0 6) 586 0 586 v1 0 0 6) 587 0 587 v1 0 0 6) 588 0 588 v1 0 0 6) 589 0 589 v1 0 0 6) 590 0 590 v1 0 0 20) 591 0 591 v1 0 0 20) 592 0 592 v1 0 0 20) 593 0 593 v1 0 0 8) 594 0 594 v1 0 0 6) 595 0 595 v1 0 0 6)
set_option maxRecDepth 100000 in
theorem S52c {spec : zRn zH2} {hm : zHM} {o : Int → Int} {d : Nat} (hd : 1 ≤ d) (v1 : Int) (h : zHC) (v : zHC) (e : F52c v1 h = some v) : zRu2 spec d 52 [(19, 0), (19, v1)] (h, hm, o) none (v, hm, o) := by
  refine zF_in (D := 0) (mx := 2) (L := [some (19, 0), some (19, v1)]) (by decide +kernel) rfl rfl hd (fun d hd => ?_)
  unfold F52c at e
  refine zF_blk (m := []) (d := 0) (b := B52c_0) (gs := [0 ≤ 0, 0 ≤ 0, 0 ≤ 6, 0 + 6 ≤ 6, 0 + 6 ≤ 6, 0 ≤ 0, 0 ≤ 0, 0 ≤ 6, 0 + 6 ≤ 6, 0 + 6 ≤ 6, 0 ≤ 0, 0 ≤ 0, 0 ≤ 6, 0 + 6 ≤ 6, 0 + 6 ≤ 6, 0 ≤ 0, 0 ≤ 0, 0 ≤ 6, 0 + 6 ≤ 6, 0 + 6 ≤ 6, 0 ≤ 0, 0 ≤ 0, 0 ≤ 6, 0 + 6 ≤ 6, 0 + 6 ≤ 6, 0 ≤ 0, 0 ≤ 0, 0 ≤ 6, 0 + 6 ≤ 6, 0 + 6 ≤ 6, 0 ≤ 0, 0 ≤ 0, 0 ≤ 6, 0 + 6 ≤ 6, 0 + 6 ≤ 6, 0 ≤ 0, 0 ≤ 0, 0 ≤ 20, 0 + 20 ≤ 20, 0 + 20 ≤ 20, 0 ≤ 0, 0 ≤ 0, 0 ≤ 20, 0 + 20 ≤ 20, 0 + 20 ≤ 20, 0 ≤ 0, 0 ≤ 0, 0 ≤ 20, 0 + 20 ≤ 20, 0 + 20 ≤ 20, 0 ≤ 0, 0 ≤ 0, 0 ≤ 8, 0 + 8 ≤ 8, 0 + 8 ≤ 8, 0 ≤ 0, 0 ≤ 0, 0 ≤ 6, 0 + 6 ≤ 6, 0 + 6 ≤ 6, 0 ≤ 0, 0 ≤ 0, 0 ≤ 6, 0 + 6 ≤ 6, 0 + 6 ≤ 6]) (c' := (251, [some (19, 0), some (19, v1)], [], ((hcpy (hcpy (hcpy (hcpy (hcpy (hcpy (hcpy (hcpy (hcpy (hcpy (hcpy (hcpy (hcpy (hset (hset (hset (hset (hset (hset (hset h 576 0 0 (h 576 v1 0)) 577 0 0 ((hset h 576 0 0 (h 576 v1 0)) 577 v1 0)) 578 0 0 ((hset (hset h 576 0 0 (h 576 v1 0)) 577 0 0 ((hset h 576 0 0 (h 576 v1 0)) 577 v1 0)) 578 v1 0)) 579 0 0 ((hset (hset (hset h 576 0 0 (h 576 v1 0)) 577 0 0 ((hset h 576 0 0 (h 576 v1 0)) 577 v1 0)) 578 0 0 ((hset (hset h 576 0 0 (h 576 v1 0)) 577 0 0 ((hset h 576 0 0 (h 576 v1 0)) 577 v1 0)) 578 v1 0)) 579 v1 0)) 580 0 0 ((hset (hset (hset (hset h 576 0 0 (h 576 v1 0)) 577 0 0 ((hset h 576 0 0 (h 576 v1 0)) 577 v1 0)) 578 0 0 ((hset (hset h 576 0 0 (h 576 v1 0)) 577 0 0 ((hset h 576 0 0 (h 576 v1 0)) 577 v1 0)) 578 v1 0)) 579 0 0 ((hset (hset (hset h 576 0 0 (h 576 v1 0)) 577 0 0 ((hset h 576 0 0 (h 576 v1 0)) 577 v1 0)) 578 0 0 ((hset (hset h 576 0 0 (h 576 v1 0)) 577 0 0 ((hset h 576 0 0 (h 576 v1 0)) 577 v1 0)) 578 v1 0)) 579 v1 0)) 580 v1 0)) 581 0 0 ((hset (hset (hset (hset (hset h 576 0 0 (h 576 v1 0)) 577 0 0 ((hset h 576 0 0 (h 576 v1 0)) 577 v1 0)) 578 0 0 ((hset (hset h 576 0 0 (h 576 v1 0)) 577 0 0 ((hset h 576 0 0 (h 576 v1 0)) 577 v1 0)) 578 v1 0)) 579 0 0 ((hset (hset (hset h 576 0 0 (h 576 v1 0)) 577 0 0 ((hset h 576 0 0 (h 576 v1 0)) 577 v1 0)) 578 0 0 ((hset (hset h 576 0 0 (h 576 v1 0)) 577 0 0 ((hset h 576 0 0 (h 576 v1 0)) 577 v1 0)) 578 v1 0)) 579 v1 0)) 580 0 0 ((hset (hset (hset (hset h 576 0 0 (h 576 v1 0)) 577 0 0 ((hset h 576 0 0 (h 576 v1 0)) 577 v1 0)) 578 0 0 ((hset (hset h 576 0 0 (h 576 v1 0)) 577 0 0 ((hset h 576 0 0 (h 576 v1 0)) 577 v1 0)) 578 v1 0)) 579 0 0 ((hset (hset (hset h 576 0 0 (h 576 v1 0)) 577 0 0 ((hset h 576 0 0 (h 576 v1 0)) 577 v1 0)) 578 0 0 ((hset (hset h 576 0 0 (h 576 v1 0)) 577 0 0 ((hset h 576 0 0 (h 576 v1 0)) 577 v1 0)) 578 v1 0)) 579 v1 0)) 580 v1 0)) 581 v1 0)) 582 0 0 ((hset (hset (hset (hset (hset (hset h 576 0 0 (h 576 v1 0)) 577 0 0 ((hset h 576 0 0 (h 576 v1 0)) 577 v1 0)) 578 0 0 ((hset (hset h 576 0 0 (h 576 v1 0)) 577 0 0 ((hset h 576 0 0 (h 576 v1 0)) 577 v1 0)) 578 v1 0)) 579 0 0 ((hset (hset (hset h 576 0 0 (h 576 v1 0)) 577 0 0 ((hset h 576 0 0 (h 576 v1 0)) 577 v1 0)) 578 0 0 ((hset (hset h 576 0 0 (h 576 v1 0)) 577 0 0 ((hset h 576 0 0 (h 576 v1 0)) 577 v1 0)) 578 v1 0)) 579 v1 0)) 580 0 0 ((hset (hset (hset (hset h 576 0 0 (h 576 v1 0)) 577 0 0 ((hset h 576 0 0 (h 576 v1 0)) 577 v1 0)) 578 0 0 ((hset (hset h 576 0 0 (h 576 v1 0)) 577 0 0 ((hset h 576 0 0 (h 576 v1 0)) 577 v1 0)) 578 v1 0)) 579 0 0 ((hset (hset (hset h 576 0 0 (h 576 v1 0)) 577 0 0 ((hset h 576 0 0 (h 576 v1 0)) 577 v1 0)) 578 0 0 ((hset (hset h 576 0 0 (h 576 v1 0)) 577 0 0 ((hset h 576 0 0 (h 576 v1 0)) 577 v1 0)) 578 v1 0)) 579 v1 0)) 580 v1 0)) 581 0 0 ((hset (hset (hset (hset (hset h 576 0 0 (h 576 v1 0)) 577 0 0 ((hset h 576 0 0 (h 576 v1 0)) 577 v1 0)) 578 0 0 ((hset (hset h 576 0 0 (h 576 v1 0)) 577 0 0 ((hset h 576 0 0 (h 576 v1 0)) 577 v1 0)) 578 v1 0)) 579 0 0 ((hset (hset (hset h 576 0 0 (h 576 v1 0)) 577 0 0 ((hset h 576 0 0 (h 576 v1 0)) 577 v1 0)) 578 0 0 ((hset (hset h 576 0 0 (h 576 v1 0)) 577 0 0 ((hset h 576 0 0 (h 576 v1 0)) 577 v1 0)) 578 v1 0)) 579 v1 0)) 580 0 0 ((hset (hset (hset (hset h 576 0 0 (h 576 v1 0)) 577 0 0 ((hset h 576 0 0 (h 576 v1 0)) 577 v1 0)) 578 0 0 ((hset (hset h 576 0 0 (h 576 v1 0)) 577 0 0 ((hset h 576 0 0 (h 576 v1 0)) 577 v1 0)) 578 v1 0)) 579 0 0 ((hset (hset (hset h 576 0 0 (h 576 v1 0)) 577 0 0 ((hset h 576 0 0 (h 576 v1 0)) 577 v1 0)) 578 0 0 ((hset (hset h 576 0 0 (h 576 v1 0)) 577 0 0 ((hset h 576 0 0 (h 576 v1 0)) 577 v1 0)) 578 v1 0)) 579 v1 0)) 580 v1 0)) 581 v1 0)) 582 v1 0)) 583 0 583 v1 0 0 6) 584 0 584 v1 0 0 6) 585 0 585 v1 0 0 6) 586 0 586 v1 0 0 6) 587 0 587 v1 0 0 6) 588 0 588 v1 0 0 6) 589 0 589 v1 0 0 6) 590 0 590 v1 0 0 20) 591 0 591 v1 0 0 20) 592 0 592 v1 0 0 20) 593 0 593 v1 0 0 8) 594 0 594 v1 0 0 6) 595 0 595 v1 0 0 6), hm, o))) K52c_0 rfl ⟨by decide, by decide, by decide, by decide, by decide, by decide, by decide, by decide, by decide, by decide, by decide, by decide, by decide, by decide, by decide, by decide, by decide, by decide, by decide, by decide, by decide, by decide, by decide, by decide, by decide, by decide, by decide, by decide, by decide, by decide, by decide, by decide, by decide, by decide, by decide, by decide, by decide, by decide, by decide, by decide, by decide, by decide, by decide, by decide, by decide, by decide, by decide, by decide, by decide, by decide, by decide, by decide, by decide, by decide, by decide, by decide, by decide, by decide, by decide, by decide, by decide, by decide, by decide, by decide, by decide, trivial⟩ ?_
  obtain rfl := Option.some.inj e
  exact zF_rv (by decide +kernel)
def B155c_0 : List zRow := [(0, .aload_n 0, 1, (0, 0, 0)), (1, .aload_n 1, 1, (0, 0, 0)), (2, .getfield 19, 3, (6, 0, 0)), (5, .putfield 19, 3, (6, 0, 0)), (8, .aload_n 0, 1, (0, 0, 0)), (9, .aload_n 1, 1, (0, 0, 0)), (10, .getfield 23, 3, (6, 1, 0)), (13, .putfield 23, 3, (6, 1, 0)), (16, .aload_n 1, 1, (0, 0, 0)), (17, .getfield 9, 3, (6, 2, 5243362)), (20, .iconst 0, 1, (0, 0, 0)), (21, .aload_n 0, 1, (0, 0, 0)), (22, .getfield 9, 3, (6, 2, 5243362)), (25, .iconst 0, 1, (0, 0, 0)), (26, .aload_n 0, 1, (0, 0, 0)), (27, .getfield 23, 3, (6, 1, 0)), (30, .iconst 3, 1, (0, 0, 0)), (31, .imul, 1, (0, 0, 0)), (32, .invokestatic 26, 3, (5001, 0, 0))]
theorem K155c_0 : zRk 155 B155c_0 = true := by decide +kernel
/-- EchoVale$Sentence.copyFrom(LEchoVale$Sentence;)V -/
def F155c (v1 : Int) (h : zHC) : Option zHC := zG (0 ≤ (wmul ((hset (hset h 384 0 0 (h 384 v1 0)) 385 0 0 ((hset h 384 0 0 (h 384 v1 0)) 385 v1 0)) 385 0 0) 3)) (zG (0 + (wmul ((hset (hset h 384 0 0 (h 384 v1 0)) 385 0 0 ((hset h 384 0 0 (h 384 v1 0)) 385 v1 0)) 385 0 0) 3) ≤ 120) (zG (0 + (wmul ((hset (hset h 384 0 0 (h 384 v1 0)) 385 0 0 ((hset h 384 0 0 (h 384 v1 0)) 385 v1 0)) 385 0 0) 3) ≤ 120) (some (hcpy (hset (hset h 384 0 0 (h 384 v1 0)) 385 0 0 ((hset h 384 0 0 (h 384 v1 0)) 385 v1 0)) 386 0 386 v1 0 0 (wmul ((hset (hset h 384 0 0 (h 384 v1 0)) 385 0 0 ((hset h 384 0 0 (h 384 v1 0)) 385 v1 0)) 385 0 0) 3)))))
set_option maxRecDepth 100000 in
theorem S155c {spec : zRn zH2} {hm : zHM} {o : Int → Int} {d : Nat} (hd : 1 ≤ d) (v1 : Int) (h : zHC) (v : zHC) (e : F155c v1 h = some v) : zRu2 spec d 155 [(16, 0), (16, v1)] (h, hm, o) none (v, hm, o) := by
  refine zF_in (D := 0) (mx := 2) (L := [some (16, 0), some (16, v1)]) (by decide +kernel) rfl rfl hd (fun d hd => ?_)
  unfold F155c at e
  obtain ⟨q1, e⟩ := zG_s e
  obtain ⟨q2, e⟩ := zG_s e
  obtain ⟨q2, e⟩ := zG_s e
  refine zF_blk (m := []) (d := 0) (b := B155c_0) (gs := [0 ≤ 0, 0 ≤ 0, 0 ≤ (wmul ((hset (hset h 384 0 0 (h 384 v1 0)) 385 0 0 ((hset h 384 0 0 (h 384 v1 0)) 385 v1 0)) 385 0 0) 3), 0 + (wmul ((hset (hset h 384 0 0 (h 384 v1 0)) 385 0 0 ((hset h 384 0 0 (h 384 v1 0)) 385 v1 0)) 385 0 0) 3) ≤ 120, 0 + (wmul ((hset (hset h 384 0 0 (h 384 v1 0)) 385 0 0 ((hset h 384 0 0 (h 384 v1 0)) 385 v1 0)) 385 0 0) 3) ≤ 120]) (c' := (35, [some (16, 0), some (16, v1)], [], ((hcpy (hset (hset h 384 0 0 (h 384 v1 0)) 385 0 0 ((hset h 384 0 0 (h 384 v1 0)) 385 v1 0)) 386 0 386 v1 0 0 (wmul ((hset (hset h 384 0 0 (h 384 v1 0)) 385 0 0 ((hset h 384 0 0 (h 384 v1 0)) 385 v1 0)) 385 0 0) 3)), hm, o))) K155c_0 rfl ⟨by decide, by decide, q1, q2, q2, trivial⟩ ?_
  obtain rfl := Option.some.inj e
  exact zF_rv (by decide +kernel)
def B161_0 : List zRow := [(21, .iconst 0, 1, (0, 0, 0))]
theorem K161_0 : zRk 161 B161_0 = true := by decide +kernel
def B161_1 : List zRow := [(23, .aload_n 0, 1, (0, 0, 0)), (24, .getfield 19, 3, (11, 1, 39)), (27, .aload_n 0, 1, (0, 0, 0)), (28, .getfield 72, 3, (11, 9, 6291466)), (31, .iload_n 1, 1, (0, 0, 0)), (32, .aaload, 1, (24, 0, 0)), (33, .getfield 359, 3, (3, 1, 359))]
theorem K161_1 : zRk 161 B161_1 = true := by decide +kernel
def B161_2 : List zRow := [(39, .aload_n 0, 1, (0, 0, 0)), (40, .getfield 56, 3, (11, 6, 7)), (43, .aload_n 0, 1, (0, 0, 0)), (44, .getfield 72, 3, (11, 9, 6291466)), (47, .iload_n 1, 1, (0, 0, 0)), (48, .aaload, 1, (24, 0, 0)), (49, .getfield 360, 3, (3, 2, 1351))]
theorem K161_2 : zRk 161 B161_2 = true := by decide +kernel
def B161_3 : List zRow := [(55, .aload_n 0, 1, (0, 0, 0)), (56, .getfield 42, 3, (11, 4, 27)), (59, .aload_n 0, 1, (0, 0, 0)), (60, .getfield 72, 3, (11, 9, 6291466)), (63, .iload_n 1, 1, (0, 0, 0)), (64, .aaload, 1, (24, 0, 0)), (65, .getfield 361, 3, (3, 3, 347))]
theorem K161_3 : zRk 161 B161_3 = true := by decide +kernel
def B161_4 : List zRow := [(71, .aload_n 0, 1, (0, 0, 0)), (72, .getfield 66, 3, (11, 8, 35))]
theorem K161_4 : zRk 161 B161_4 = true := by decide +kernel
def B161_5 : List zRow := [(78, .iconst 1, 1, (0, 0, 0))]
theorem K161_5 : zRk 161 B161_5 = true := by decide +kernel
def B161_6 : List zRow := [(9, .aload_n 0, 1, (0, 0, 0)), (10, .getfield 72, 3, (11, 9, 6291466)), (13, .iload_n 1, 1, (0, 0, 0)), (14, .aaload, 1, (24, 0, 0)), (15, .getfield 362, 3, (3, 0, 0)), (18, .ifCond .ne 5, 3, (0, 0, 0))]
theorem K161_6 : zRk 161 B161_6 = true := by decide +kernel
def B161_7 : List zRow := [(4, .iload_n 1, 1, (0, 0, 0)), (5, .iconst 2, 1, (0, 0, 0)), (6, .if_icmp .ge 15, 3, (0, 0, 0))]
theorem K161_7 : zRk 161 B161_7 = true := by decide +kernel
def B161_8 : List zRow := [(0, .iload_n 1, 1, (0, 0, 0)), (1, .ifCond .lt 20, 3, (0, 0, 0))]
theorem K161_8 : zRk 161 B161_8 = true := by decide +kernel
/-- EchoVale.restore(I)Z -/
def F161 (v1 : Int) (h : zHC) : Option (Int × zHC) := if v1 < 0 then some (0, h) else if 2 ≤ v1 then some (0, h) else zG (0 ≤ v1 ∧ v1 < 2) (if ¬ (h 192 v1 0) = 0 then zG (0 ≤ v1 ∧ v1 < 2) ((F52c (v1 + 2) h).bind fun r1 => zG (0 ≤ v1 ∧ v1 < 2) ((F71b (v1 + 10) r1).bind fun r2 => zG (0 ≤ v1 ∧ v1 < 2) ((F155c (v1 + 2) r2).bind fun r3 => (F55 r3).bind fun r4 => some (1, r4)))) else some (0, h))
set_option maxRecDepth 100000 in
theorem S161 {spec : zRn zH2} {hm : zHM} {o : Int → Int} {d : Nat} (hd : 3 ≤ d) (v1 : Int) (h : zHC) (v : (Int × zHC)) (e : F161 v1 h = some v) : zRu2 spec d 161 [(21, 0), (0, v1)] (h, hm, o) (some (0, v.1)) (v.2, hm, o) := by
  refine zF_in (D := 2) (mx := 2) (L := [some (21, 0), some (0, v1)]) (by decide +kernel) rfl rfl hd (fun d hd => ?_)
  unfold F161 at e
  rcases zI_s e with ⟨q1, e⟩ | ⟨q1, e⟩
  · refine zF_blk (m := []) (d := 1) (b := B161_8) (gs := [v1 < 0]) (c' := (21, [some (21, 0), some (0, v1)], [], (h, hm, o))) K161_8 rfl ⟨q1, trivial⟩ ?_
    refine zF_blk (m := []) (d := 0) (b := B161_0) (gs := []) (c' := (22, [some (21, 0), some (0, v1)], [(0, 0)], (h, hm, o))) K161_0 rfl trivial ?_
    obtain rfl := Option.some.inj e
    exact zF_rb (by decide +kernel) (Or.inl rfl)
  · refine zF_blk (m := []) (d := 0) (b := B161_8) (gs := [¬ (v1 < 0)]) (c' := (4, [some (21, 0), some (0, v1)], [], (h, hm, o))) K161_8 rfl ⟨q1, trivial⟩ ?_
    rcases zI_s e with ⟨q2, e⟩ | ⟨q2, e⟩
    · refine zF_blk (m := []) (d := 1) (b := B161_7) (gs := [2 ≤ v1]) (c' := (21, [some (21, 0), some (0, v1)], [], (h, hm, o))) K161_7 rfl ⟨q2, trivial⟩ ?_
      refine zF_blk (m := []) (d := 0) (b := B161_0) (gs := []) (c' := (22, [some (21, 0), some (0, v1)], [(0, 0)], (h, hm, o))) K161_0 rfl trivial ?_
      obtain rfl := Option.some.inj e
      exact zF_rb (by decide +kernel) (Or.inl rfl)
    · refine zF_blk (m := []) (d := 0) (b := B161_7) (gs := [¬ (2 ≤ v1)]) (c' := (9, [some (21, 0), some (0, v1)], [], (h, hm, o))) K161_7 rfl ⟨q2, trivial⟩ ?_
      obtain ⟨q3, e⟩ := zG_s e
      rcases zI_s e with ⟨q4, e⟩ | ⟨q4, e⟩
      · refine zF_blk (m := []) (d := 1) (b := B161_6) (gs := [0 ≤ v1 ∧ v1 < 2, ¬ (h 192 v1 0) = 0]) (c' := (23, [some (21, 0), some (0, v1)], [], (h, hm, o))) K161_6 rfl ⟨q3, q4, trivial⟩ ?_
        obtain ⟨q5, e⟩ := zG_s e
        obtain ⟨r1, q6, e⟩ := zB_s e
        refine zF_blk (m := []) (d := 0) (b := B161_1) (gs := [0 ≤ v1 ∧ v1 < 2]) (c' := (36, [some (21, 0), some (0, v1)], [(19, (v1 + 2)), (19, 0)], (h, hm, o))) K161_1 rfl ⟨q5, trivial⟩ ?_
        refine zF_call (k := 52) (cl := 9) (n := 2) (i := .invokevirtual 120) (args := [(19, 0), (19, (v1 + 2))]) (rest := []) (g1 := (r1, hm, o)) (r1 := none) (by decide +kernel) rfl rfl rfl (st' := []) rfl (S52c (Nat.le_trans (by decide) hd) (v1 + 2) h _ q6) ?_
        obtain ⟨q7, e⟩ := zG_s e
        obtain ⟨r2, q8, e⟩ := zB_s e
        refine zF_blk (m := []) (d := 0) (b := B161_2) (gs := [0 ≤ v1 ∧ v1 < 2]) (c' := (52, [some (21, 0), some (0, v1)], [(11, (v1 + 10)), (11, 0)], (r1, hm, o))) K161_2 rfl ⟨q7, trivial⟩ ?_
        refine zF_call (k := 71) (cl := 1) (n := 2) (i := .invokevirtual 266) (args := [(11, 0), (11, (v1 + 10))]) (rest := []) (g1 := (r2, hm, o)) (r1 := none) (by decide +kernel) rfl rfl rfl (st' := []) rfl (S71b (Nat.le_trans (by decide) hd) (v1 + 10) r1 _ q8) ?_
        obtain ⟨q9, e⟩ := zG_s e
        obtain ⟨r3, q10, e⟩ := zB_s e
        refine zF_blk (m := []) (d := 0) (b := B161_3) (gs := [0 ≤ v1 ∧ v1 < 2]) (c' := (68, [some (21, 0), some (0, v1)], [(16, (v1 + 2)), (16, 0)], (r2, hm, o))) K161_3 rfl ⟨q9, trivial⟩ ?_
        refine zF_call (k := 155) (cl := 6) (n := 2) (i := .invokevirtual 348) (args := [(16, 0), (16, (v1 + 2))]) (rest := []) (g1 := (r3, hm, o)) (r1 := none) (by decide +kernel) rfl rfl rfl (st' := []) rfl (S155c (Nat.le_trans (by decide) hd) (v1 + 2) r2 _ q10) ?_
        obtain ⟨r4, q11, e⟩ := zB_s e
        refine zF_blk (m := []) (d := 0) (b := B161_4) (gs := []) (c' := (75, [some (21, 0), some (0, v1)], [(18, 0)], (r3, hm, o))) K161_4 rfl trivial ?_
        refine zF_call (k := 55) (cl := 8) (n := 1) (i := .invokevirtual 130) (args := [(18, 0)]) (rest := []) (g1 := (r4, hm, o)) (r1 := none) (by decide +kernel) rfl rfl rfl (st' := []) rfl (S55 (Nat.le_trans (by decide) hd)  r3 _ q11) ?_
        refine zF_blk (m := []) (d := 0) (b := B161_5) (gs := []) (c' := (79, [some (21, 0), some (0, v1)], [(0, 1)], (r4, hm, o))) K161_5 rfl trivial ?_
        obtain rfl := Option.some.inj e
        exact zF_rb (by decide +kernel) (Or.inr rfl)
      · refine zF_blk (m := []) (d := 0) (b := B161_6) (gs := [0 ≤ v1 ∧ v1 < 2, ¬ (¬ (h 192 v1 0) = 0)]) (c' := (21, [some (21, 0), some (0, v1)], [], (h, hm, o))) K161_6 rfl ⟨q3, q4, trivial⟩ ?_
        refine zF_blk (m := []) (d := 0) (b := B161_0) (gs := []) (c' := (22, [some (21, 0), some (0, v1)], [(0, 0)], (h, hm, o))) K161_0 rfl trivial ?_
        obtain rfl := Option.some.inj e
        exact zF_rb (by decide +kernel) (Or.inl rfl)
def B293_0 : List zRow := [(0, .aload_n 0, 1, (0, 0, 0)), (1, .iconst 0, 1, (0, 0, 0)), (2, .putfield 81, 3, (12, 0, 0)), (5, .iload_n 1, 1, (0, 0, 0)), (6, .iconst 0, 1, (0, 0, 0)), (7, .iconst 1, 1, (0, 0, 0))]
theorem K293_0 : zRk 293 B293_0 = true := by decide +kernel
def B293_1 : List zRow := [(23, .iconst 0, 1, (0, 0, 0))]
theorem K293_1 : zRk 293 B293_1 = true := by decide +kernel
def B293_2 : List zRow := [(25, .iconst 0, 1, (0, 0, 0)), (26, .istore_n 2, 1, (0, 0, 0))]
theorem K293_2 : zRk 293 B293_2 = true := by decide +kernel
def B293_3 : List zRow := [(14, .aload_n 0, 1, (0, 0, 0)), (15, .getfield 38, 3, (12, 22, 5767178)), (18, .iload_n 1, 1, (0, 0, 0)), (19, .baload, 1, (0, 0, 0)), (20, .ifCond .ne 5, 3, (0, 0, 0))]
theorem K293_3 : zRk 293 B293_3 = true := by decide +kernel
def B293_4 : List zRow := [(11, .ifCond .eq 12, 3, (0, 0, 0))]
theorem K293_4 : zRk 293 B293_4 = true := by decide +kernel
def B293_5 : List zRow := [(58, .iconst 0, 1, (0, 0, 0)), (59, .istore_n 2, 1, (0, 0, 0))]
theorem K293_5 : zRk 293 B293_5 = true := by decide +kernel
def B293_6 : List zRow := [(34, .aload_n 0, 1, (0, 0, 0)), (35, .getfield 13, 3, (12, 14, 5251442)), (38, .iload_n 2, 1, (0, 0, 0)), (39, .aload_n 0, 1, (0, 0, 0)), (40, .getfield 19, 3, (12, 16, 5260002)), (43, .sipush 2140, 3, (0, 0, 0)), (46, .iload_n 1, 1, (0, 0, 0))]
theorem K293_6 : zRk 293 B293_6 = true := by decide +kernel
def B293_7 : List zRow := [(47, .imul, 1, (0, 0, 0)), (48, .iload_n 2, 1, (0, 0, 0)), (49, .iadd, 1, (0, 0, 0)), (50, .iaload, 1, (0, 0, 0)), (51, .iastore, 1, (0, 0, 0)), (52, .iinc 2 1, 3, (0, 0, 0)), (55, .goto (-28), 3, (0, 0, 0))]
theorem K293_7 : zRk 293 B293_7 = true := by decide +kernel
def B293_8 : List zRow := [(27, .iload_n 2, 1, (0, 0, 0)), (28, .sipush 2140, 3, (0, 0, 0)), (31, .if_icmp .ge 27, 3, (0, 0, 0))]
theorem K293_8 : zRk 293 B293_8 = true := by decide +kernel
def B293_9 : List zRow := [(89, .aload_n 0, 1, (0, 0, 0)), (90, .iconst 0, 1, (0, 0, 0)), (91, .putfield 232, 3, (12, 23, 0)), (94, .iconst 1, 1, (0, 0, 0))]
theorem K293_9 : zRk 293 B293_9 = true := by decide +kernel
def B293_10 : List zRow := [(66, .aload_n 0, 1, (0, 0, 0)), (67, .getfield 28, 3, (12, 19, 5505074)), (70, .iload_n 2, 1, (0, 0, 0)), (71, .aload_n 0, 1, (0, 0, 0)), (72, .getfield 35, 3, (12, 21, 5505122)), (75, .bipush 12, 2, (0, 0, 0)), (77, .iload_n 1, 1, (0, 0, 0))]
theorem K293_10 : zRk 293 B293_10 = true := by decide +kernel
def B293_11 : List zRow := [(78, .imul, 1, (0, 0, 0)), (79, .iload_n 2, 1, (0, 0, 0)), (80, .iadd, 1, (0, 0, 0)), (81, .laload, 1, (0, 0, 0)), (82, .lastore, 1, (0, 0, 0)), (83, .iinc 2 1, 3, (0, 0, 0)), (86, .goto (-26), 3, (0, 0, 0))]
theorem K293_11 : zRk 293 B293_11 = true := by decide +kernel
def B293_12 : List zRow := [(60, .iload_n 2, 1, (0, 0, 0)), (61, .bipush 12, 2, (0, 0, 0)), (63, .if_icmp .ge 26, 3, (0, 0, 0))]
theorem K293_12 : zRk 293 B293_12 = true := by decide +kernel
def F293_1 : Nat → Int → Int → zHM → Option (Int × zHM)
  | 0, _, _, _ => none
  | n + 1, v1, v2, h => if 12 ≤ v2 then some (1, (mset h 23 0 0)) else zG (0 ≤ (wadd (wmul 12 v1) v2) ∧ (wadd (wmul 12 v1) v2) < 24) (zG (0 ≤ v2 ∧ v2 < 12) ((F293_1 n) v1 (wadd v2 1) (mset h 19 v2 (h 21 (wadd (wmul 12 v1) v2)))))
set_option maxRecDepth 100000 in
theorem T293_1 {spec : zRn zH2} {hc : zHC} {o : Int → Int} {d : Nat} (hd : 1 ≤ d) : ∀ (n : Nat) (v1 : Int) (v2 : Int) (h : zHM) (v : (Int × zHM)), F293_1 n v1 v2 h = some v → zFin 0 (fun _ => 0) (zRu2 spec d) 293 (some (0, v.1)) (hc, v.2, o) (60, [some (22, 0), some (0, v1), some (0, v2)], [], (hc, h, o)) := by
  intro n
  induction n with
  | zero => intro v1 v2 h v e; unfold F293_1 at e; cases e
  | succ n hk0 =>
    intro v1 v2 h v e
    unfold F293_1 at e
    rcases zI_s e with ⟨q1, e⟩ | ⟨q1, e⟩
    · refine zF_blk (m := []) (d := 1) (b := B293_12) (gs := [12 ≤ v2]) (c' := (89, [some (22, 0), some (0, v1), some (0, v2)], [], (hc, h, o))) K293_12 rfl ⟨q1, trivial⟩ ?_
      refine zF_blk (m := []) (d := 0) (b := B293_9) (gs := []) (c' := (95, [some (22, 0), some (0, v1), some (0, v2)], [(0, 1)], (hc, (mset h 23 0 0), o))) K293_9 rfl trivial ?_
      obtain rfl := Option.some.inj e
      exact zF_rb (by decide +kernel) (Or.inr rfl)
    · refine zF_blk (m := []) (d := 0) (b := B293_12) (gs := [¬ (12 ≤ v2)]) (c' := (66, [some (22, 0), some (0, v1), some (0, v2)], [], (hc, h, o))) K293_12 rfl ⟨q1, trivial⟩ ?_
      obtain ⟨q2, e⟩ := zG_s e
      obtain ⟨q3, e⟩ := zG_s e
      refine zF_blk (m := []) (d := 0) (b := B293_10) (gs := []) (c' := (78, [some (22, 0), some (0, v1), some (0, v2)], [(0, v1), (0, 12), (1409312509, 0), (0, v2), (1409300219, 0)], (hc, h, o))) K293_10 rfl trivial ?_
      refine zF_blk (m := []) (d := 0) (b := B293_11) (gs := [0 ≤ (wadd (wmul 12 v1) v2) ∧ (wadd (wmul 12 v1) v2) < 24, 0 ≤ v2 ∧ v2 < 12]) (c' := (60, [some (22, 0), some (0, v1), some (0, (wadd v2 1))], [], (hc, (mset h 19 v2 (h 21 (wadd (wmul 12 v1) v2))), o))) K293_11 rfl ⟨q2, q3, trivial⟩ ?_
      exact hk0 v1 (wadd v2 1) (mset h 19 v2 (h 21 (wadd (wmul 12 v1) v2))) _ e
def F293_0 : Nat → Int → Int → zHM → Option (Int × zHM)
  | 0, _, _, _ => none
  | n + 1, v1, v2, h => if 2140 ≤ v2 then F293_1 zFu v1 0 h else zG (0 ≤ (wadd (wmul 2140 v1) v2) ∧ (wadd (wmul 2140 v1) v2) < 4280) (zG (0 ≤ v2 ∧ v2 < 2140) ((F293_0 n) v1 (wadd v2 1) (mset h 14 v2 (h 16 (wadd (wmul 2140 v1) v2)))))
set_option maxRecDepth 100000 in
theorem T293_0 {spec : zRn zH2} {hc : zHC} {o : Int → Int} {d : Nat} (hd : 1 ≤ d) : ∀ (n : Nat) (v1 : Int) (v2 : Int) (h : zHM) (v : (Int × zHM)), F293_0 n v1 v2 h = some v → zFin 0 (fun _ => 0) (zRu2 spec d) 293 (some (0, v.1)) (hc, v.2, o) (27, [some (22, 0), some (0, v1), some (0, v2)], [], (hc, h, o)) := by
  intro n
  induction n with
  | zero => intro v1 v2 h v e; unfold F293_0 at e; cases e
  | succ n hk0 =>
    intro v1 v2 h v e
    unfold F293_0 at e
    rcases zI_s e with ⟨q1, e⟩ | ⟨q1, e⟩
    · refine zF_blk (m := []) (d := 1) (b := B293_8) (gs := [2140 ≤ v2]) (c' := (58, [some (22, 0), some (0, v1), some (0, v2)], [], (hc, h, o))) K293_8 rfl ⟨q1, trivial⟩ ?_
      refine zF_blk (m := []) (d := 0) (b := B293_5) (gs := []) (c' := (60, [some (22, 0), some (0, v1), some (0, 0)], [], (hc, h, o))) K293_5 rfl trivial ?_
      exact T293_1 hd zFu v1 0 h _ e
    · refine zF_blk (m := []) (d := 0) (b := B293_8) (gs := [¬ (2140 ≤ v2)]) (c' := (34, [some (22, 0), some (0, v1), some (0, v2)], [], (hc, h, o))) K293_8 rfl ⟨q1, trivial⟩ ?_
      obtain ⟨q2, e⟩ := zG_s e
      obtain ⟨q3, e⟩ := zG_s e
      refine zF_blk (m := []) (d := 0) (b := B293_6) (gs := []) (c' := (47, [some (22, 0), some (0, v1), some (0, v2)], [(0, v1), (0, 2140), (1346561784, 0), (0, v2), (1344370422, 0)], (hc, h, o))) K293_6 rfl trivial ?_
      refine zF_blk (m := []) (d := 0) (b := B293_7) (gs := [0 ≤ (wadd (wmul 2140 v1) v2) ∧ (wadd (wmul 2140 v1) v2) < 4280, 0 ≤ v2 ∧ v2 < 2140]) (c' := (27, [some (22, 0), some (0, v1), some (0, (wadd v2 1))], [], (hc, (mset h 14 v2 (h 16 (wadd (wmul 2140 v1) v2))), o))) K293_7 rfl ⟨q2, q3, trivial⟩ ?_
      exact hk0 v1 (wadd v2 1) (mset h 14 v2 (h 16 (wadd (wmul 2140 v1) v2))) _ e
/-- EchoValeModel.restore(I)Z -/
def F293 (v1 : Int) (h : zHM) : Option (Int × zHM) := (F188 v1 0 1).bind fun r1 => if r1 = 0 then some (0, (mset h 0 0 0)) else zG (0 ≤ v1 ∧ v1 < 2) (if ¬ ((mset h 0 0 0) 22 v1) = 0 then F293_0 zFu v1 0 (mset h 0 0 0) else some (0, (mset h 0 0 0)))
set_option maxRecDepth 100000 in
theorem S293 {spec : zRn zH2} {hc : zHC} {o : Int → Int} {d : Nat} (hd : 2 ≤ d) (v1 : Int) (h : zHM) (v : (Int × zHM)) (e : F293 v1 h = some v) : zRu2 spec d 293 [(22, 0), (0, v1)] (hc, h, o) (some (0, v.1)) (hc, v.2, o) := by
  refine zF_in (D := 1) (mx := 3) (L := [some (22, 0), some (0, v1), none]) (by decide +kernel) rfl rfl hd (fun d hd => ?_)
  unfold F293 at e
  obtain ⟨r1, q1, e⟩ := zB_s e
  refine zF_blk (m := []) (d := 0) (b := B293_0) (gs := []) (c' := (8, [some (22, 0), some (0, v1), none], [(0, 1), (0, 0), (0, v1)], (hc, (mset h 0 0 0), o))) K293_0 rfl trivial ?_
  refine zF_call (k := 188) (cl := 12) (n := 3) (i := .invokestatic 151) (args := [(0, v1), (0, 0), (0, 1)]) (rest := []) (g1 := (hc, (mset h 0 0 0), o)) (r1 := some (0, r1)) (by decide +kernel) rfl rfl rfl (st' := [(0, r1)]) rfl (S188 (Nat.le_trans (by decide) hd) v1 0 1 (mset h 0 0 0) _ q1) ?_
  rcases zI_s e with ⟨q2, e⟩ | ⟨q2, e⟩
  · refine zF_blk (m := []) (d := 1) (b := B293_4) (gs := [r1 = 0]) (c' := (23, [some (22, 0), some (0, v1), none], [], (hc, (mset h 0 0 0), o))) K293_4 rfl ⟨q2, trivial⟩ ?_
    refine zF_blk (m := []) (d := 0) (b := B293_1) (gs := []) (c' := (24, [some (22, 0), some (0, v1), none], [(0, 0)], (hc, (mset h 0 0 0), o))) K293_1 rfl trivial ?_
    obtain rfl := Option.some.inj e
    exact zF_rb (by decide +kernel) (Or.inl rfl)
  · refine zF_blk (m := []) (d := 0) (b := B293_4) (gs := [¬ (r1 = 0)]) (c' := (14, [some (22, 0), some (0, v1), none], [], (hc, (mset h 0 0 0), o))) K293_4 rfl ⟨q2, trivial⟩ ?_
    obtain ⟨q3, e⟩ := zG_s e
    rcases zI_s e with ⟨q4, e⟩ | ⟨q4, e⟩
    · refine zF_blk (m := []) (d := 1) (b := B293_3) (gs := [0 ≤ v1 ∧ v1 < 2, ¬ ((mset h 0 0 0) 22 v1) = 0]) (c' := (25, [some (22, 0), some (0, v1), none], [], (hc, (mset h 0 0 0), o))) K293_3 rfl ⟨q3, q4, trivial⟩ ?_
      refine zF_blk (m := []) (d := 0) (b := B293_2) (gs := []) (c' := (27, [some (22, 0), some (0, v1), some (0, 0)], [], (hc, (mset h 0 0 0), o))) K293_2 rfl trivial ?_
      exact T293_0 hd zFu v1 0 (mset h 0 0 0) _ e
    · refine zF_blk (m := []) (d := 0) (b := B293_3) (gs := [0 ≤ v1 ∧ v1 < 2, ¬ (¬ ((mset h 0 0 0) 22 v1) = 0)]) (c' := (23, [some (22, 0), some (0, v1), none], [], (hc, (mset h 0 0 0), o))) K293_3 rfl ⟨q3, q4, trivial⟩ ?_
      refine zF_blk (m := []) (d := 0) (b := B293_1) (gs := []) (c' := (24, [some (22, 0), some (0, v1), none], [(0, 0)], (hc, (mset h 0 0 0), o))) K293_1 rfl trivial ?_
      obtain rfl := Option.some.inj e
      exact zF_rb (by decide +kernel) (Or.inl rfl)
def B162_0 : List zRow := [(52, .aload_n 0, 1, (0, 0, 0)), (53, .getfield 19, 3, (11, 1, 39)), (56, .getfield 365, 3, (9, 0, 0))]
theorem K162_0 : zRk 162 B162_0 = true := by decide +kernel
def B162_1 : List zRow := [(0, .iload_n 1, 1, (0, 0, 0)), (1, .tableswitch 130 0 8 #[51, 59, 67, 75, 83, 91, 99, 107, 122], 51, (0, 0, 0))]
theorem K162_1 : zRk 162 B162_1 = true := by decide +kernel
def B162_2 : List zRow := [(60, .aload_n 0, 1, (0, 0, 0)), (61, .getfield 19, 3, (11, 1, 39)), (64, .getfield 368, 3, (9, 1, 0))]
theorem K162_2 : zRk 162 B162_2 = true := by decide +kernel
def B162_3 : List zRow := [(68, .aload_n 0, 1, (0, 0, 0)), (69, .getfield 19, 3, (11, 1, 39)), (72, .getfield 282, 3, (9, 2, 0))]
theorem K162_3 : zRk 162 B162_3 = true := by decide +kernel
def B162_4 : List zRow := [(76, .aload_n 0, 1, (0, 0, 0)), (77, .getfield 19, 3, (11, 1, 39)), (80, .getfield 311, 3, (9, 3, 0))]
theorem K162_4 : zRk 162 B162_4 = true := by decide +kernel
def B162_5 : List zRow := [(84, .aload_n 0, 1, (0, 0, 0)), (85, .getfield 56, 3, (11, 6, 7)), (88, .getfield 159, 3, (1, 0, 0))]
theorem K162_5 : zRk 162 B162_5 = true := by decide +kernel
def B162_6 : List zRow := [(92, .aload_n 0, 1, (0, 0, 0)), (93, .getfield 56, 3, (11, 6, 7)), (96, .getfield 354, 3, (1, 1, 0))]
theorem K162_6 : zRk 162 B162_6 = true := by decide +kernel
def B162_7 : List zRow := [(100, .aload_n 0, 1, (0, 0, 0)), (101, .getfield 56, 3, (11, 6, 7)), (104, .getfield 208, 3, (1, 2, 0))]
theorem K162_7 : zRk 162 B162_7 = true := by decide +kernel
def B162_8 : List zRow := [(108, .aload_n 0, 1, (0, 0, 0)), (109, .getfield 19, 3, (11, 1, 39)), (112, .aload_n 0, 1, (0, 0, 0)), (113, .getfield 56, 3, (11, 6, 7)), (116, .getfield 159, 3, (1, 0, 0))]
theorem K162_8 : zRk 162 B162_8 = true := by decide +kernel
def B162_9 : List zRow := [(123, .aload_n 0, 1, (0, 0, 0)), (124, .getfield 12, 3, (11, 0, 23)), (127, .getfield 105, 3, (5, 1, 0))]
theorem K162_9 : zRk 162 B162_9 = true := by decide +kernel
def B162_10 : List zRow := [(131, .iconst (-1), 1, (0, 0, 0))]
theorem K162_10 : zRk 162 B162_10 = true := by decide +kernel
/-- EchoVale.count(I)I -/
def F162 (v1 : Int) (h : zHC) : Option Int := if v1 = 0 then some (h 576 0 0) else if v1 = 1 then some (h 577 0 0) else if v1 = 2 then some (h 578 0 0) else if v1 = 3 then some (h 579 0 0) else if v1 = 4 then some (h 64 0 0) else if v1 = 5 then some (h 65 0 0) else if v1 = 6 then some (h 66 0 0) else if v1 = 7 then (F91 (h 64 0 0) h).bind fun r1 => some r1 else if v1 = 8 then some (h 321 0 0) else zG (v1 < 0 ∨ 8 < v1) (some (-1))
set_option maxRecDepth 100000 in
theorem S162 {spec : zRn zH2} {hm : zHM} {o : Int → Int} {d : Nat} (hd : 2 ≤ d) (v1 : Int) (h : zHC) (v : Int) (e : F162 v1 h = some v) : zRu2 spec d 162 [(21, 0), (0, v1)] (h, hm, o) (some (0, v)) (h, hm, o) := by
  refine zF_in (D := 1) (mx := 2) (L := [some (21, 0), some (0, v1)]) (by decide +kernel) rfl rfl hd (fun d hd => ?_)
  unfold F162 at e
  rcases zI_s e with ⟨q1, e⟩ | ⟨q1, e⟩
  · refine zF_blk (m := []) (d := 0) (b := B162_1) (gs := [v1 = 0]) (c' := (52, [some (21, 0), some (0, v1)], [], (h, hm, o))) K162_1 rfl ⟨q1, trivial⟩ ?_
    refine zF_blk (m := []) (d := 0) (b := B162_0) (gs := []) (c' := (59, [some (21, 0), some (0, v1)], [(0, (h 576 0 0))], (h, hm, o))) K162_0 rfl trivial ?_
    obtain rfl := Option.some.inj e
    exact zF_ri (by decide +kernel)
  rcases zI_s e with ⟨q2, e⟩ | ⟨q2, e⟩
  · refine zF_blk (m := []) (d := 1) (b := B162_1) (gs := [v1 = 1]) (c' := (60, [some (21, 0), some (0, v1)], [], (h, hm, o))) K162_1 rfl ⟨q2, trivial⟩ ?_
    refine zF_blk (m := []) (d := 0) (b := B162_2) (gs := []) (c' := (67, [some (21, 0), some (0, v1)], [(0, (h 577 0 0))], (h, hm, o))) K162_2 rfl trivial ?_
    obtain rfl := Option.some.inj e
    exact zF_ri (by decide +kernel)
  rcases zI_s e with ⟨q3, e⟩ | ⟨q3, e⟩
  · refine zF_blk (m := []) (d := 2) (b := B162_1) (gs := [v1 = 2]) (c' := (68, [some (21, 0), some (0, v1)], [], (h, hm, o))) K162_1 rfl ⟨q3, trivial⟩ ?_
    refine zF_blk (m := []) (d := 0) (b := B162_3) (gs := []) (c' := (75, [some (21, 0), some (0, v1)], [(0, (h 578 0 0))], (h, hm, o))) K162_3 rfl trivial ?_
    obtain rfl := Option.some.inj e
    exact zF_ri (by decide +kernel)
  rcases zI_s e with ⟨q4, e⟩ | ⟨q4, e⟩
  · refine zF_blk (m := []) (d := 3) (b := B162_1) (gs := [v1 = 3]) (c' := (76, [some (21, 0), some (0, v1)], [], (h, hm, o))) K162_1 rfl ⟨q4, trivial⟩ ?_
    refine zF_blk (m := []) (d := 0) (b := B162_4) (gs := []) (c' := (83, [some (21, 0), some (0, v1)], [(0, (h 579 0 0))], (h, hm, o))) K162_4 rfl trivial ?_
    obtain rfl := Option.some.inj e
    exact zF_ri (by decide +kernel)
  rcases zI_s e with ⟨q5, e⟩ | ⟨q5, e⟩
  · refine zF_blk (m := []) (d := 4) (b := B162_1) (gs := [v1 = 4]) (c' := (84, [some (21, 0), some (0, v1)], [], (h, hm, o))) K162_1 rfl ⟨q5, trivial⟩ ?_
    refine zF_blk (m := []) (d := 0) (b := B162_5) (gs := []) (c' := (91, [some (21, 0), some (0, v1)], [(0, (h 64 0 0))], (h, hm, o))) K162_5 rfl trivial ?_
    obtain rfl := Option.some.inj e
    exact zF_ri (by decide +kernel)
  rcases zI_s e with ⟨q6, e⟩ | ⟨q6, e⟩
  · refine zF_blk (m := []) (d := 5) (b := B162_1) (gs := [v1 = 5]) (c' := (92, [some (21, 0), some (0, v1)], [], (h, hm, o))) K162_1 rfl ⟨q6, trivial⟩ ?_
    refine zF_blk (m := []) (d := 0) (b := B162_6) (gs := []) (c' := (99, [some (21, 0), some (0, v1)], [(0, (h 65 0 0))], (h, hm, o))) K162_6 rfl trivial ?_
    obtain rfl := Option.some.inj e
    exact zF_ri (by decide +kernel)
  rcases zI_s e with ⟨q7, e⟩ | ⟨q7, e⟩
  · refine zF_blk (m := []) (d := 6) (b := B162_1) (gs := [v1 = 6]) (c' := (100, [some (21, 0), some (0, v1)], [], (h, hm, o))) K162_1 rfl ⟨q7, trivial⟩ ?_
    refine zF_blk (m := []) (d := 0) (b := B162_7) (gs := []) (c' := (107, [some (21, 0), some (0, v1)], [(0, (h 66 0 0))], (h, hm, o))) K162_7 rfl trivial ?_
    obtain rfl := Option.some.inj e
    exact zF_ri (by decide +kernel)
  rcases zI_s e with ⟨q8, e⟩ | ⟨q8, e⟩
  · refine zF_blk (m := []) (d := 7) (b := B162_1) (gs := [v1 = 7]) (c' := (108, [some (21, 0), some (0, v1)], [], (h, hm, o))) K162_1 rfl ⟨q8, trivial⟩ ?_
    obtain ⟨r1, q9, e⟩ := zB_s e
    refine zF_blk (m := []) (d := 0) (b := B162_8) (gs := []) (c' := (119, [some (21, 0), some (0, v1)], [(0, (h 64 0 0)), (19, 0)], (h, hm, o))) K162_8 rfl trivial ?_
    refine zF_call (k := 91) (cl := 9) (n := 2) (i := .invokevirtual 162) (args := [(19, 0), (0, (h 64 0 0))]) (rest := []) (g1 := (h, hm, o)) (r1 := some (0, r1)) (by decide +kernel) rfl rfl rfl (st' := [(0, r1)]) rfl (S91 (Nat.le_trans (by decide) hd) (h 64 0 0) h _ q9) ?_
    obtain rfl := Option.some.inj e
    exact zF_ri (by decide +kernel)
  rcases zI_s e with ⟨q10, e⟩ | ⟨q10, e⟩
  · refine zF_blk (m := []) (d := 8) (b := B162_1) (gs := [v1 = 8]) (c' := (123, [some (21, 0), some (0, v1)], [], (h, hm, o))) K162_1 rfl ⟨q10, trivial⟩ ?_
    refine zF_blk (m := []) (d := 0) (b := B162_9) (gs := []) (c' := (130, [some (21, 0), some (0, v1)], [(0, (h 321 0 0))], (h, hm, o))) K162_9 rfl trivial ?_
    obtain rfl := Option.some.inj e
    exact zF_ri (by decide +kernel)
  obtain ⟨q11, e⟩ := zG_s e
  refine zF_blk (m := []) (d := 9) (b := B162_1) (gs := [v1 < 0 ∨ 8 < v1]) (c' := (131, [some (21, 0), some (0, v1)], [], (h, hm, o))) K162_1 rfl ⟨q11, trivial⟩ ?_
  refine zF_blk (m := []) (d := 0) (b := B162_10) (gs := []) (c' := (132, [some (21, 0), some (0, v1)], [(0, (-1))], (h, hm, o))) K162_10 rfl trivial ?_
  obtain rfl := Option.some.inj e
  exact zF_ri (by decide +kernel)
def B294_0 : List zRow := [(56, .aload_n 0, 1, (0, 0, 0)), (57, .getfield 13, 3, (12, 14, 5251442)), (60, .iconst 0, 1, (0, 0, 0)), (61, .iaload, 1, (0, 0, 0))]
theorem K294_0 : zRk 294 B294_0 = true := by decide +kernel
def B294_1 : List zRow := [(0, .aload_n 0, 1, (0, 0, 0)), (1, .iconst 0, 1, (0, 0, 0)), (2, .putfield 81, 3, (12, 0, 0)), (5, .iload_n 1, 1, (0, 0, 0)), (6, .tableswitch 123 0 8 #[50, 57, 64, 71, 78, 87, 96, 105, 118], 50, (0, 0, 0))]
theorem K294_1 : zRk 294 B294_1 = true := by decide +kernel
def B294_2 : List zRow := [(63, .aload_n 0, 1, (0, 0, 0)), (64, .getfield 13, 3, (12, 14, 5251442)), (67, .iconst 1, 1, (0, 0, 0)), (68, .iaload, 1, (0, 0, 0))]
theorem K294_2 : zRk 294 B294_2 = true := by decide +kernel
def B294_3 : List zRow := [(70, .aload_n 0, 1, (0, 0, 0)), (71, .getfield 13, 3, (12, 14, 5251442)), (74, .iconst 2, 1, (0, 0, 0)), (75, .iaload, 1, (0, 0, 0))]
theorem K294_3 : zRk 294 B294_3 = true := by decide +kernel
def B294_4 : List zRow := [(77, .aload_n 0, 1, (0, 0, 0)), (78, .getfield 13, 3, (12, 14, 5251442)), (81, .iconst 3, 1, (0, 0, 0)), (82, .iaload, 1, (0, 0, 0))]
theorem K294_4 : zRk 294 B294_4 = true := by decide +kernel
def B294_5 : List zRow := [(84, .aload_n 0, 1, (0, 0, 0)), (85, .getfield 13, 3, (12, 14, 5251442)), (88, .sipush 209, 3, (0, 0, 0)), (91, .iaload, 1, (0, 0, 0))]
theorem K294_5 : zRk 294 B294_5 = true := by decide +kernel
def B294_6 : List zRow := [(93, .aload_n 0, 1, (0, 0, 0)), (94, .getfield 13, 3, (12, 14, 5251442)), (97, .sipush 216, 3, (0, 0, 0)), (100, .iaload, 1, (0, 0, 0))]
theorem K294_6 : zRk 294 B294_6 = true := by decide +kernel
def B294_7 : List zRow := [(102, .aload_n 0, 1, (0, 0, 0)), (103, .getfield 13, 3, (12, 14, 5251442)), (106, .sipush 997, 3, (0, 0, 0)), (109, .iaload, 1, (0, 0, 0))]
theorem K294_7 : zRk 294 B294_7 = true := by decide +kernel
def B294_8 : List zRow := [(111, .aload_n 0, 1, (0, 0, 0)), (112, .aload_n 0, 1, (0, 0, 0)), (113, .getfield 13, 3, (12, 14, 5251442)), (116, .sipush 209, 3, (0, 0, 0)), (119, .iaload, 1, (0, 0, 0))]
theorem K294_8 : zRk 294 B294_8 = true := by decide +kernel
def B294_9 : List zRow := [(124, .aload_n 0, 1, (0, 0, 0)), (125, .getfield 85, 3, (12, 2, 0))]
theorem K294_9 : zRk 294 B294_9 = true := by decide +kernel
def B294_10 : List zRow := [(129, .iconst (-1), 1, (0, 0, 0))]
theorem K294_10 : zRk 294 B294_10 = true := by decide +kernel
/-- EchoValeModel.count(I)I -/
def F294 (v1 : Int) (h : zHM) : Option (Int × zHM) := if v1 = 0 then some (((mset h 0 0 0) 14 0), (mset h 0 0 0)) else if v1 = 1 then some (((mset h 0 0 0) 14 1), (mset h 0 0 0)) else if v1 = 2 then some (((mset h 0 0 0) 14 2), (mset h 0 0 0)) else if v1 = 3 then some (((mset h 0 0 0) 14 3), (mset h 0 0 0)) else if v1 = 4 then some (((mset h 0 0 0) 14 209), (mset h 0 0 0)) else if v1 = 5 then some (((mset h 0 0 0) 14 216), (mset h 0 0 0)) else if v1 = 6 then some (((mset h 0 0 0) 14 997), (mset h 0 0 0)) else if v1 = 7 then (F208 ((mset h 0 0 0) 14 209) (mset h 0 0 0)).bind fun r1 => some (r1, (mset h 0 0 0)) else if v1 = 8 then some (((mset h 0 0 0) 2 0), (mset h 0 0 0)) else zG (v1 < 0 ∨ 8 < v1) (some ((-1), (mset h 0 0 0)))
set_option maxRecDepth 100000 in
theorem S294 {spec : zRn zH2} {hc : zHC} {o : Int → Int} {d : Nat} (hd : 2 ≤ d) (v1 : Int) (h : zHM) (v : (Int × zHM)) (e : F294 v1 h = some v) : zRu2 spec d 294 [(22, 0), (0, v1)] (hc, h, o) (some (0, v.1)) (hc, v.2, o) := by
  refine zF_in (D := 1) (mx := 2) (L := [some (22, 0), some (0, v1)]) (by decide +kernel) rfl rfl hd (fun d hd => ?_)
  unfold F294 at e
  rcases zI_s e with ⟨q1, e⟩ | ⟨q1, e⟩
  · refine zF_blk (m := []) (d := 0) (b := B294_1) (gs := [v1 = 0]) (c' := (56, [some (22, 0), some (0, v1)], [], (hc, (mset h 0 0 0), o))) K294_1 rfl ⟨q1, trivial⟩ ?_
    refine zF_blk (m := []) (d := 0) (b := B294_0) (gs := [0 ≤ 0 ∧ 0 < 2140]) (c' := (62, [some (22, 0), some (0, v1)], [(0, ((mset h 0 0 0) 14 0))], (hc, (mset h 0 0 0), o))) K294_0 rfl ⟨by decide, trivial⟩ ?_
    obtain rfl := Option.some.inj e
    exact zF_ri (by decide +kernel)
  rcases zI_s e with ⟨q2, e⟩ | ⟨q2, e⟩
  · refine zF_blk (m := []) (d := 1) (b := B294_1) (gs := [v1 = 1]) (c' := (63, [some (22, 0), some (0, v1)], [], (hc, (mset h 0 0 0), o))) K294_1 rfl ⟨q2, trivial⟩ ?_
    refine zF_blk (m := []) (d := 0) (b := B294_2) (gs := [0 ≤ 1 ∧ 1 < 2140]) (c' := (69, [some (22, 0), some (0, v1)], [(0, ((mset h 0 0 0) 14 1))], (hc, (mset h 0 0 0), o))) K294_2 rfl ⟨by decide, trivial⟩ ?_
    obtain rfl := Option.some.inj e
    exact zF_ri (by decide +kernel)
  rcases zI_s e with ⟨q3, e⟩ | ⟨q3, e⟩
  · refine zF_blk (m := []) (d := 2) (b := B294_1) (gs := [v1 = 2]) (c' := (70, [some (22, 0), some (0, v1)], [], (hc, (mset h 0 0 0), o))) K294_1 rfl ⟨q3, trivial⟩ ?_
    refine zF_blk (m := []) (d := 0) (b := B294_3) (gs := [0 ≤ 2 ∧ 2 < 2140]) (c' := (76, [some (22, 0), some (0, v1)], [(0, ((mset h 0 0 0) 14 2))], (hc, (mset h 0 0 0), o))) K294_3 rfl ⟨by decide, trivial⟩ ?_
    obtain rfl := Option.some.inj e
    exact zF_ri (by decide +kernel)
  rcases zI_s e with ⟨q4, e⟩ | ⟨q4, e⟩
  · refine zF_blk (m := []) (d := 3) (b := B294_1) (gs := [v1 = 3]) (c' := (77, [some (22, 0), some (0, v1)], [], (hc, (mset h 0 0 0), o))) K294_1 rfl ⟨q4, trivial⟩ ?_
    refine zF_blk (m := []) (d := 0) (b := B294_4) (gs := [0 ≤ 3 ∧ 3 < 2140]) (c' := (83, [some (22, 0), some (0, v1)], [(0, ((mset h 0 0 0) 14 3))], (hc, (mset h 0 0 0), o))) K294_4 rfl ⟨by decide, trivial⟩ ?_
    obtain rfl := Option.some.inj e
    exact zF_ri (by decide +kernel)
  rcases zI_s e with ⟨q5, e⟩ | ⟨q5, e⟩
  · refine zF_blk (m := []) (d := 4) (b := B294_1) (gs := [v1 = 4]) (c' := (84, [some (22, 0), some (0, v1)], [], (hc, (mset h 0 0 0), o))) K294_1 rfl ⟨q5, trivial⟩ ?_
    refine zF_blk (m := []) (d := 0) (b := B294_5) (gs := [0 ≤ 209 ∧ 209 < 2140]) (c' := (92, [some (22, 0), some (0, v1)], [(0, ((mset h 0 0 0) 14 209))], (hc, (mset h 0 0 0), o))) K294_5 rfl ⟨by decide, trivial⟩ ?_
    obtain rfl := Option.some.inj e
    exact zF_ri (by decide +kernel)
  rcases zI_s e with ⟨q6, e⟩ | ⟨q6, e⟩
  · refine zF_blk (m := []) (d := 5) (b := B294_1) (gs := [v1 = 5]) (c' := (93, [some (22, 0), some (0, v1)], [], (hc, (mset h 0 0 0), o))) K294_1 rfl ⟨q6, trivial⟩ ?_
    refine zF_blk (m := []) (d := 0) (b := B294_6) (gs := [0 ≤ 216 ∧ 216 < 2140]) (c' := (101, [some (22, 0), some (0, v1)], [(0, ((mset h 0 0 0) 14 216))], (hc, (mset h 0 0 0), o))) K294_6 rfl ⟨by decide, trivial⟩ ?_
    obtain rfl := Option.some.inj e
    exact zF_ri (by decide +kernel)
  rcases zI_s e with ⟨q7, e⟩ | ⟨q7, e⟩
  · refine zF_blk (m := []) (d := 6) (b := B294_1) (gs := [v1 = 6]) (c' := (102, [some (22, 0), some (0, v1)], [], (hc, (mset h 0 0 0), o))) K294_1 rfl ⟨q7, trivial⟩ ?_
    refine zF_blk (m := []) (d := 0) (b := B294_7) (gs := [0 ≤ 997 ∧ 997 < 2140]) (c' := (110, [some (22, 0), some (0, v1)], [(0, ((mset h 0 0 0) 14 997))], (hc, (mset h 0 0 0), o))) K294_7 rfl ⟨by decide, trivial⟩ ?_
    obtain rfl := Option.some.inj e
    exact zF_ri (by decide +kernel)
  rcases zI_s e with ⟨q8, e⟩ | ⟨q8, e⟩
  · refine zF_blk (m := []) (d := 7) (b := B294_1) (gs := [v1 = 7]) (c' := (111, [some (22, 0), some (0, v1)], [], (hc, (mset h 0 0 0), o))) K294_1 rfl ⟨q8, trivial⟩ ?_
    obtain ⟨r1, q9, e⟩ := zB_s e
    refine zF_blk (m := []) (d := 0) (b := B294_8) (gs := [0 ≤ 209 ∧ 209 < 2140]) (c' := (120, [some (22, 0), some (0, v1)], [(0, ((mset h 0 0 0) 14 209)), (22, 0)], (hc, (mset h 0 0 0), o))) K294_8 rfl ⟨by decide, trivial⟩ ?_
    refine zF_call (k := 208) (cl := 12) (n := 2) (i := .invokevirtual 244) (args := [(22, 0), (0, ((mset h 0 0 0) 14 209))]) (rest := []) (g1 := (hc, (mset h 0 0 0), o)) (r1 := some (0, r1)) (by decide +kernel) rfl rfl rfl (st' := [(0, r1)]) rfl (S208 (Nat.le_trans (by decide) hd) ((mset h 0 0 0) 14 209) (mset h 0 0 0) _ q9) ?_
    obtain rfl := Option.some.inj e
    exact zF_ri (by decide +kernel)
  rcases zI_s e with ⟨q10, e⟩ | ⟨q10, e⟩
  · refine zF_blk (m := []) (d := 8) (b := B294_1) (gs := [v1 = 8]) (c' := (124, [some (22, 0), some (0, v1)], [], (hc, (mset h 0 0 0), o))) K294_1 rfl ⟨q10, trivial⟩ ?_
    refine zF_blk (m := []) (d := 0) (b := B294_9) (gs := []) (c' := (128, [some (22, 0), some (0, v1)], [(0, ((mset h 0 0 0) 2 0))], (hc, (mset h 0 0 0), o))) K294_9 rfl trivial ?_
    obtain rfl := Option.some.inj e
    exact zF_ri (by decide +kernel)
  obtain ⟨q11, e⟩ := zG_s e
  refine zF_blk (m := []) (d := 9) (b := B294_1) (gs := [v1 < 0 ∨ 8 < v1]) (c' := (129, [some (22, 0), some (0, v1)], [], (hc, (mset h 0 0 0), o))) K294_1 rfl ⟨q11, trivial⟩ ?_
  refine zF_blk (m := []) (d := 0) (b := B294_10) (gs := []) (c' := (130, [some (22, 0), some (0, v1)], [(0, (-1))], (hc, (mset h 0 0 0), o))) K294_10 rfl trivial ?_
  obtain rfl := Option.some.inj e
  exact zF_ri (by decide +kernel)
