noncomputable def B236_0 : List zRow := [(0, .aload_n 0, 1, (0, 0, 0)), (1, .getfield 13, 3, (12, 14, 5251442)), (4, .sipush 209, 3, (0, 0, 0)), (7, .dup2, 1, (0, 0, 0)), (8, .iaload, 1, (0, 0, 0)), (9, .iconst 1, 1, (0, 0, 0)), (10, .iadd, 1, (0, 0, 0)), (11, .iastore, 1, (0, 0, 0)), (12, .aload_n 0, 1, (0, 0, 0)), (13, .aload_n 0, 1, (0, 0, 0)), (14, .getfield 13, 3, (12, 14, 5251442)), (17, .sipush 209, 3, (0, 0, 0)), (20, .iaload, 1, (0, 0, 0))]
theorem K236_0 : zRk 236 B236_0 = true := zRw_ok (by decide +kernel)
noncomputable def B236_1 : List zRow := [(24, .aload_n 0, 1, (0, 0, 0)), (25, .aload_n 0, 1, (0, 0, 0)), (26, .getfield 13, 3, (12, 14, 5251442)), (29, .sipush 209, 3, (0, 0, 0)), (32, .iaload, 1, (0, 0, 0))]
theorem K236_1 : zRk 236 B236_1 = true := zRw_ok (by decide +kernel)
noncomputable def B236_2 : List zRow := [(36, .iload_n 1, 1, (0, 0, 0)), (37, .iadd, 1, (0, 0, 0)), (38, .istore_n 2, 1, (0, 0, 0)), (39, .iconst 0, 1, (0, 0, 0)), (40, .istore_n 3, 1, (0, 0, 0))]
theorem K236_2 : zRk 236 B236_2 = true := zRw_ok (by decide +kernel)
noncomputable def B236_3 : List zRow := [(53, .iconst 0, 1, (0, 0, 0)), (54, .istore 4, 2, (0, 0, 0))]
theorem K236_3 : zRk 236 B236_3 = true := zRw_ok (by decide +kernel)
noncomputable def B236_4 : List zRow := [(41, .iload_n 3, 1, (0, 0, 0)), (42, .aload_n 0, 1, (0, 0, 0)), (43, .getfield 13, 3, (12, 14, 5251442)), (46, .sipush 216, 3, (0, 0, 0)), (49, .iaload, 1, (0, 0, 0)), (50, .if_icmp .ge 123, 3, (0, 0, 0))]
theorem K236_4 : zRk 236 B236_4 = true := zRw_ok (by decide +kernel)
noncomputable def B236_5 : List zRow := [(167, .iinc 3 1, 3, (0, 0, 0)), (170, .goto (-129), 3, (0, 0, 0))]
theorem K236_5 : zRk 236 B236_5 = true := zRw_ok (by decide +kernel)
noncomputable def B236_6 : List zRow := [(67, .sipush 457, 3, (0, 0, 0)), (70, .bipush 18, 2, (0, 0, 0)), (72, .iload_n 3, 1, (0, 0, 0))]
theorem K236_6 : zRk 236 B236_6 = true := zRw_ok (by decide +kernel)
noncomputable def B236_7 : List zRow := [(73, .imul, 1, (0, 0, 0))]
theorem K236_7 : zRk 236 B236_7 = true := zRw_ok (by decide +kernel)
noncomputable def B236_8 : List zRow := [(74, .iadd, 1, (0, 0, 0)), (75, .iconst 3, 1, (0, 0, 0)), (76, .iload 4, 2, (0, 0, 0))]
theorem K236_8 : zRk 236 B236_8 = true := zRw_ok (by decide +kernel)
noncomputable def B236_9 : List zRow := [(115, .aload_n 0, 1, (0, 0, 0)), (116, .getfield 13, 3, (12, 14, 5251442)), (119, .iload 5, 2, (0, 0, 0)), (121, .iconst 2, 1, (0, 0, 0)), (122, .iadd, 1, (0, 0, 0)), (123, .iconst 1, 1, (0, 0, 0)), (124, .iastore, 1, (0, 0, 0)), (125, .aload_n 0, 1, (0, 0, 0)), (126, .getfield 13, 3, (12, 14, 5251442)), (129, .iload 5, 2, (0, 0, 0)), (131, .iconst 1, 1, (0, 0, 0)), (132, .iadd, 1, (0, 0, 0)), (133, .iaload, 1, (0, 0, 0)), (134, .aload_n 0, 1, (0, 0, 0)), (135, .iload 4, 2, (0, 0, 0))]
theorem K236_9 : zRk 236 B236_9 = true := zRw_ok (by decide +kernel)
noncomputable def B236_10 : List zRow := [(140, .iload_n 2, 1, (0, 0, 0)), (141, .isub, 1, (0, 0, 0))]
theorem K236_10 : zRk 236 B236_10 = true := zRw_ok (by decide +kernel)
noncomputable def B236_11 : List zRow := [(152, .aload_n 0, 1, (0, 0, 0)), (153, .iload_n 3, 1, (0, 0, 0)), (154, .iload 4, 2, (0, 0, 0)), (156, .iload 6, 2, (0, 0, 0))]
theorem K236_11 : zRk 236 B236_11 = true := zRw_ok (by decide +kernel)
noncomputable def B236_12 : List zRow := [(145, .istore 6, 2, (0, 0, 0)), (147, .iload 6, 2, (0, 0, 0)), (149, .ifCond .le 12, 3, (0, 0, 0))]
theorem K236_12 : zRk 236 B236_12 = true := zRw_ok (by decide +kernel)
noncomputable def B236_13 : List zRow := [(112, .goto 49, 3, (0, 0, 0))]
theorem K236_13 : zRk 236 B236_13 = true := zRw_ok (by decide +kernel)
noncomputable def B236_14 : List zRow := [(100, .aload_n 0, 1, (0, 0, 0)), (101, .getfield 13, 3, (12, 14, 5251442)), (104, .iload 5, 2, (0, 0, 0)), (106, .iconst 2, 1, (0, 0, 0)), (107, .iadd, 1, (0, 0, 0)), (108, .iaload, 1, (0, 0, 0)), (109, .ifCond .le 6, 3, (0, 0, 0))]
theorem K236_14 : zRk 236 B236_14 = true := zRw_ok (by decide +kernel)
noncomputable def B236_15 : List zRow := [(78, .imul, 1, (0, 0, 0)), (79, .iadd, 1, (0, 0, 0)), (80, .istore 5, 2, (0, 0, 0)), (82, .aload_n 0, 1, (0, 0, 0)), (83, .getfield 13, 3, (12, 14, 5251442)), (86, .iload 5, 2, (0, 0, 0)), (88, .iaload, 1, (0, 0, 0)), (89, .aload_n 0, 1, (0, 0, 0)), (90, .getfield 13, 3, (12, 14, 5251442)), (93, .sipush 209, 3, (0, 0, 0)), (96, .iaload, 1, (0, 0, 0)), (97, .if_icmp .ne 64, 3, (0, 0, 0))]
theorem K236_15 : zRk 236 B236_15 = true := zRw_ok (by decide +kernel)
noncomputable def B236_16 : List zRow := [(56, .iload 4, 2, (0, 0, 0)), (58, .aload_n 0, 1, (0, 0, 0)), (59, .getfield 13, 3, (12, 14, 5251442)), (62, .iconst 2, 1, (0, 0, 0)), (63, .iaload, 1, (0, 0, 0)), (64, .if_icmp .ge 103, 3, (0, 0, 0))]
theorem K236_16 : zRk 236 B236_16 = true := zRw_ok (by decide +kernel)
noncomputable def B236_17 : List zRow := [(161, .iinc 4 1, 3, (0, 0, 0)), (164, .goto (-108), 3, (0, 0, 0))]
theorem K236_17 : zRk 236 B236_17 = true := zRw_ok (by decide +kernel)
noncomputable def B235_0 : List zRow := [(0, .iconst 0, 1, (0, 0, 0)), (1, .istore_n 2, 1, (0, 0, 0))]
theorem K235_0 : zRk 235 B235_0 = true := zRw_ok (by decide +kernel)
noncomputable def B235_1 : List zRow := [(32, .iload_n 2, 1, (0, 0, 0))]
theorem K235_1 : zRk 235 B235_1 = true := zRw_ok (by decide +kernel)
noncomputable def B235_2 : List zRow := [(21, .aload_n 0, 1, (0, 0, 0)), (22, .iconst 0, 1, (0, 0, 0))]
theorem K235_2 : zRk 235 B235_2 = true := zRw_ok (by decide +kernel)
noncomputable def B235_3 : List zRow := [(26, .iinc 2 1, 3, (0, 0, 0)), (29, .goto (-27), 3, (0, 0, 0))]
theorem K235_3 : zRk 235 B235_3 = true := zRw_ok (by decide +kernel)
noncomputable def B235_4 : List zRow := [(7, .aload_n 0, 1, (0, 0, 0)), (8, .getfield 13, 3, (12, 14, 5251442)), (11, .sipush 209, 3, (0, 0, 0)), (14, .iaload, 1, (0, 0, 0)), (15, .sipush 400, 3, (0, 0, 0)), (18, .if_icmp .ge 14, 3, (0, 0, 0))]
theorem K235_4 : zRk 235 B235_4 = true := zRw_ok (by decide +kernel)
noncomputable def B235_5 : List zRow := [(2, .iload_n 2, 1, (0, 0, 0)), (3, .iload_n 1, 1, (0, 0, 0)), (4, .if_icmp .ge 28, 3, (0, 0, 0))]
theorem K235_5 : zRk 235 B235_5 = true := zRw_ok (by decide +kernel)
noncomputable def B234_0 : List zRow := [(0, .aload_n 0, 1, (0, 0, 0)), (1, .iconst 0, 1, (0, 0, 0)), (2, .putfield 81, 3, (12, 0, 0)), (5, .iload_n 1, 1, (0, 0, 0)), (6, .iconst 1, 1, (0, 0, 0)), (7, .bipush 100, 2, (0, 0, 0))]
theorem K234_0 : zRk 234 B234_0 = true := zRw_ok (by decide +kernel)
noncomputable def B234_1 : List zRow := [(33, .aload_n 0, 1, (0, 0, 0))]
theorem K234_1 : zRk 234 B234_1 = true := zRw_ok (by decide +kernel)
noncomputable def B234_2 : List zRow := [(37, .aload_n 0, 1, (0, 0, 0)), (38, .iload_n 1, 1, (0, 0, 0))]
theorem K234_2 : zRk 234 B234_2 = true := zRw_ok (by decide +kernel)
noncomputable def B234_3 : List zRow := [(31, .iconst 0, 1, (0, 0, 0))]
theorem K234_3 : zRk 234 B234_3 = true := zRw_ok (by decide +kernel)
noncomputable def B234_4 : List zRow := [(17, .aload_n 0, 1, (0, 0, 0)), (18, .getfield 13, 3, (12, 14, 5251442)), (21, .sipush 209, 3, (0, 0, 0)), (24, .iaload, 1, (0, 0, 0)), (25, .sipush 400, 3, (0, 0, 0)), (28, .if_icmp .ne 5, 3, (0, 0, 0))]
theorem K234_4 : zRk 234 B234_4 = true := zRw_ok (by decide +kernel)
noncomputable def B234_5 : List zRow := [(15, .iconst (-1), 1, (0, 0, 0))]
theorem K234_5 : zRk 234 B234_5 = true := zRw_ok (by decide +kernel)
noncomputable def B234_6 : List zRow := [(12, .ifCond .ne 5, 3, (0, 0, 0))]
theorem K234_6 : zRk 234 B234_6 = true := zRw_ok (by decide +kernel)
noncomputable def B97_0 : List zRow := [(9, .aload_n 0, 1, (0, 0, 0)), (10, .dup, 1, (0, 0, 0)), (11, .getfield 18, 3, (8, 0, 0)), (14, .iconst 1, 1, (0, 0, 0)), (15, .isub, 1, (0, 0, 0)), (16, .putfield 18, 3, (8, 0, 0)), (19, .aload_n 1, 1, (0, 0, 0)), (20, .aload_n 0, 1, (0, 0, 0)), (21, .getfield 11, 3, (8, 2, 6029346)), (24, .aload_n 0, 1, (0, 0, 0)), (25, .getfield 22, 3, (8, 1, 0)), (28, .aload_n 0, 1, (0, 0, 0)), (29, .getfield 18, 3, (8, 0, 0)), (32, .iadd, 1, (0, 0, 0)), (33, .bipush 8, 2, (0, 0, 0)), (35, .irem, 1, (0, 0, 0)), (36, .aaload, 1, (23, 0, 0))]
theorem K97_0 : zRk 97 B97_0 = true := zRw_ok (by decide +kernel)
noncomputable def B97_1 : List zRow := [(40, .iconst 1, 1, (0, 0, 0))]
theorem K97_1 : zRk 97 B97_1 = true := zRw_ok (by decide +kernel)
noncomputable def B97_2 : List zRow := [(7, .iconst 0, 1, (0, 0, 0))]
theorem K97_2 : zRk 97 B97_2 = true := zRw_ok (by decide +kernel)
noncomputable def B97_3 : List zRow := [(0, .aload_n 0, 1, (0, 0, 0)), (1, .getfield 18, 3, (8, 0, 0)), (4, .ifCond .ne 5, 3, (0, 0, 0))]
theorem K97_3 : zRk 97 B97_3 = true := zRw_ok (by decide +kernel)
noncomputable def B96_0 : List zRow := [(0, .aload_n 0, 1, (0, 0, 0)), (1, .getfield 66, 3, (11, 8, 35)), (4, .aload_n 0, 1, (0, 0, 0)), (5, .getfield 56, 3, (11, 6, 7))]
theorem K96_0 : zRk 96 B96_0 = true := zRw_ok (by decide +kernel)
noncomputable def B96_1 : List zRow := [(24, .iconst (-1), 1, (0, 0, 0))]
theorem K96_1 : zRk 96 B96_1 = true := zRw_ok (by decide +kernel)
noncomputable def B96_2 : List zRow := [(14, .aload_n 0, 1, (0, 0, 0)), (15, .getfield 66, 3, (11, 8, 35)), (18, .getfield 239, 3, (8, 0, 0)), (21, .goto 4, 3, (0, 0, 0))]
theorem K96_2 : zRk 96 B96_2 = true := zRw_ok (by decide +kernel)
noncomputable def B96_3 : List zRow := [(11, .ifCond .eq 13, 3, (0, 0, 0))]
theorem K96_3 : zRk 96 B96_3 = true := zRw_ok (by decide +kernel)
noncomputable def B222_0 : List zRow := [(14, .aload_n 0, 1, (0, 0, 0)), (15, .dup, 1, (0, 0, 0)), (16, .getfield 232, 3, (12, 23, 0)), (19, .iconst 1, 1, (0, 0, 0)), (20, .isub, 1, (0, 0, 0)), (21, .putfield 232, 3, (12, 23, 0)), (24, .iconst 0, 1, (0, 0, 0)), (25, .istore_n 1, 1, (0, 0, 0))]
theorem K222_0 : zRk 222 B222_0 = true := zRw_ok (by decide +kernel)
noncomputable def B222_1 : List zRow := [(12, .iconst (-1), 1, (0, 0, 0))]
theorem K222_1 : zRk 222 B222_1 = true := zRw_ok (by decide +kernel)
noncomputable def B222_2 : List zRow := [(0, .aload_n 0, 1, (0, 0, 0)), (1, .iconst 0, 1, (0, 0, 0)), (2, .putfield 81, 3, (12, 0, 0)), (5, .aload_n 0, 1, (0, 0, 0)), (6, .getfield 232, 3, (12, 23, 0)), (9, .ifCond .ne 5, 3, (0, 0, 0))]
theorem K222_2 : zRk 222 B222_2 = true := zRw_ok (by decide +kernel)
noncomputable def B222_3 : List zRow := [(64, .aload_n 0, 1, (0, 0, 0)), (65, .getfield 232, 3, (12, 23, 0))]
theorem K222_3 : zRk 222 B222_3 = true := zRw_ok (by decide +kernel)
noncomputable def B222_4 : List zRow := [(33, .aload_n 0, 1, (0, 0, 0)), (34, .getfield 13, 3, (12, 14, 5251442)), (37, .sipush 209, 3, (0, 0, 0)), (40, .iload_n 1, 1, (0, 0, 0))]
theorem K222_4 : zRk 222 B222_4 = true := zRw_ok (by decide +kernel)
noncomputable def B222_5 : List zRow := [(41, .iadd, 1, (0, 0, 0)), (42, .aload_n 0, 1, (0, 0, 0)), (43, .getfield 22, 3, (12, 17, 5296930)), (46, .sipush 1689, 3, (0, 0, 0)), (49, .aload_n 0, 1, (0, 0, 0)), (50, .getfield 232, 3, (12, 23, 0))]
theorem K222_5 : zRk 222 B222_5 = true := zRw_ok (by decide +kernel)
noncomputable def B222_6 : List zRow := [(53, .imul, 1, (0, 0, 0)), (54, .iload_n 1, 1, (0, 0, 0)), (55, .iadd, 1, (0, 0, 0)), (56, .iaload, 1, (0, 0, 0)), (57, .iastore, 1, (0, 0, 0)), (58, .iinc 1 1, 3, (0, 0, 0)), (61, .goto (-35), 3, (0, 0, 0))]
theorem K222_6 : zRk 222 B222_6 = true := zRw_ok (by decide +kernel)
noncomputable def B222_7 : List zRow := [(26, .iload_n 1, 1, (0, 0, 0)), (27, .sipush 1689, 3, (0, 0, 0)), (30, .if_icmp .ge 34, 3, (0, 0, 0))]
theorem K222_7 : zRk 222 B222_7 = true := zRw_ok (by decide +kernel)
noncomputable def B99_0 : List zRow := [(15, .iconst 0, 1, (0, 0, 0))]
theorem K99_0 : zRk 99 B99_0 = true := zRw_ok (by decide +kernel)
noncomputable def B99_1 : List zRow := [(11, .iconst 1, 1, (0, 0, 0)), (12, .goto 4, 3, (0, 0, 0))]
theorem K99_1 : zRk 99 B99_1 = true := zRw_ok (by decide +kernel)
noncomputable def B99_2 : List zRow := [(5, .iload_n 0, 1, (0, 0, 0)), (6, .bipush 60, 2, (0, 0, 0)), (8, .if_icmp .gt 7, 3, (0, 0, 0))]
theorem K99_2 : zRk 99 B99_2 = true := zRw_ok (by decide +kernel)
noncomputable def B99_3 : List zRow := [(0, .iload_n 0, 1, (0, 0, 0)), (1, .iconst 1, 1, (0, 0, 0)), (2, .if_icmp .lt 13, 3, (0, 0, 0))]
theorem K99_3 : zRk 99 B99_3 = true := zRw_ok (by decide +kernel)
noncomputable def B101_0 : List zRow := [(0, .iconst 0, 1, (0, 0, 0)), (1, .istore_n 2, 1, (0, 0, 0)), (2, .iconst 0, 1, (0, 0, 0)), (3, .istore_n 3, 1, (0, 0, 0))]
theorem K101_0 : zRk 101 B101_0 = true := zRw_ok (by decide +kernel)
noncomputable def B101_1 : List zRow := [(27, .iload_n 2, 1, (0, 0, 0))]
theorem K101_1 : zRk 101 B101_1 = true := zRw_ok (by decide +kernel)
noncomputable def B101_2 : List zRow := [(12, .iload_n 2, 1, (0, 0, 0)), (13, .aload_n 0, 1, (0, 0, 0)), (14, .iload_n 1, 1, (0, 0, 0)), (15, .iload_n 3, 1, (0, 0, 0))]
theorem K101_2 : zRk 101 B101_2 = true := zRw_ok (by decide +kernel)
noncomputable def B101_3 : List zRow := [(19, .iadd, 1, (0, 0, 0)), (20, .istore_n 2, 1, (0, 0, 0)), (21, .iinc 3 1, 3, (0, 0, 0)), (24, .goto (-20), 3, (0, 0, 0))]
theorem K101_3 : zRk 101 B101_3 = true := zRw_ok (by decide +kernel)
noncomputable def B101_4 : List zRow := [(4, .iload_n 3, 1, (0, 0, 0)), (5, .aload_n 0, 1, (0, 0, 0)), (6, .getfield 34, 3, (1, 1, 0)), (9, .if_icmp .ge 18, 3, (0, 0, 0))]
theorem K101_4 : zRk 101 B101_4 = true := zRw_ok (by decide +kernel)
noncomputable def B100_0 : List zRow := [(0, .aload_n 0, 1, (0, 0, 0)), (1, .getfield 60, 3, (11, 7, 135)), (4, .aload_n 0, 1, (0, 0, 0)), (5, .getfield 56, 3, (11, 6, 7))]
theorem K100_0 : zRk 100 B100_0 = true := zRw_ok (by decide +kernel)
noncomputable def B100_1 : List zRow := [(11, .aload_n 0, 1, (0, 0, 0)), (12, .getfield 60, 3, (11, 7, 135)), (15, .getfield 177, 3, (1, 3, 5242906)), (18, .iload_n 1, 1, (0, 0, 0)), (19, .iload_n 2, 1, (0, 0, 0)), (20, .iastore, 1, (0, 0, 0)), (21, .aload_n 0, 1, (0, 0, 0)), (22, .getfield 60, 3, (11, 7, 135)), (25, .aload_n 0, 1, (0, 0, 0)), (26, .getfield 19, 3, (11, 1, 39)), (29, .iload_n 3, 1, (0, 0, 0))]
theorem K100_1 : zRk 100 B100_1 = true := zRw_ok (by decide +kernel)
noncomputable def B100_2 : List zRow := [(33, .pop, 1, (0, 0, 0)), (34, .aload_n 0, 1, (0, 0, 0)), (35, .getfield 60, 3, (11, 7, 135)), (38, .iload_n 1, 1, (0, 0, 0))]
theorem K100_2 : zRk 100 B100_2 = true := zRw_ok (by decide +kernel)
noncomputable def B98_0 : List zRow := [(0, .aload_n 0, 1, (0, 0, 0)), (1, .iload_n 1, 1, (0, 0, 0))]
theorem K98_0 : zRk 98 B98_0 = true := zRw_ok (by decide +kernel)
noncomputable def B98_1 : List zRow := [(15, .iconst (-1), 1, (0, 0, 0))]
theorem K98_1 : zRk 98 B98_1 = true := zRw_ok (by decide +kernel)
noncomputable def B98_2 : List zRow := [(8, .iload_n 2, 1, (0, 0, 0))]
theorem K98_2 : zRk 98 B98_2 = true := zRw_ok (by decide +kernel)
noncomputable def B98_3 : List zRow := [(17, .iconst (-1), 1, (0, 0, 0)), (18, .istore_n 3, 1, (0, 0, 0)), (19, .iconst (-1), 1, (0, 0, 0)), (20, .istore 4, 2, (0, 0, 0)), (22, .iconst 0, 1, (0, 0, 0)), (23, .istore 5, 2, (0, 0, 0))]
theorem K98_3 : zRk 98 B98_3 = true := zRw_ok (by decide +kernel)
noncomputable def B98_4 : List zRow := [(12, .ifCond .ne 5, 3, (0, 0, 0))]
theorem K98_4 : zRk 98 B98_4 = true := zRw_ok (by decide +kernel)
noncomputable def B98_5 : List zRow := [(5, .ifCond .eq 10, 3, (0, 0, 0))]
theorem K98_5 : zRk 98 B98_5 = true := zRw_ok (by decide +kernel)
noncomputable def B98_6 : List zRow := [(78, .iload_n 3, 1, (0, 0, 0))]
theorem K98_6 : zRk 98 B98_6 = true := zRw_ok (by decide +kernel)
noncomputable def B98_7 : List zRow := [(32, .aload_n 0, 1, (0, 0, 0)), (33, .getfield 19, 3, (11, 1, 39)), (36, .iload 5, 2, (0, 0, 0))]
theorem K98_7 : zRk 98 B98_7 = true := zRw_ok (by decide +kernel)
noncomputable def B98_8 : List zRow := [(55, .iconst (-1), 1, (0, 0, 0))]
theorem K98_8 : zRk 98 B98_8 = true := zRw_ok (by decide +kernel)
noncomputable def B98_9 : List zRow := [(44, .aload_n 0, 1, (0, 0, 0)), (45, .iload_n 1, 1, (0, 0, 0)), (46, .iload 5, 2, (0, 0, 0)), (48, .iload_n 2, 1, (0, 0, 0))]
theorem K98_9 : zRk 98 B98_9 = true := zRw_ok (by decide +kernel)
noncomputable def B98_10 : List zRow := [(52, .goto 4, 3, (0, 0, 0))]
theorem K98_10 : zRk 98 B98_10 = true := zRw_ok (by decide +kernel)
noncomputable def B98_11 : List zRow := [(41, .ifCond .eq 14, 3, (0, 0, 0))]
theorem K98_11 : zRk 98 B98_11 = true := zRw_ok (by decide +kernel)
noncomputable def B98_12 : List zRow := [(25, .iload 5, 2, (0, 0, 0)), (27, .bipush 100, 2, (0, 0, 0)), (29, .if_icmp .ge 49, 3, (0, 0, 0))]
theorem K98_12 : zRk 98 B98_12 = true := zRw_ok (by decide +kernel)
noncomputable def B98_13 : List zRow := [(65, .iload 6, 2, (0, 0, 0)), (67, .istore 4, 2, (0, 0, 0)), (69, .iload 5, 2, (0, 0, 0)), (71, .istore_n 3, 1, (0, 0, 0))]
theorem K98_13 : zRk 98 B98_13 = true := zRw_ok (by decide +kernel)
noncomputable def B98_14 : List zRow := [(56, .istore 6, 2, (0, 0, 0)), (58, .iload 6, 2, (0, 0, 0)), (60, .iload 4, 2, (0, 0, 0)), (62, .if_icmp .le 10, 3, (0, 0, 0))]
theorem K98_14 : zRk 98 B98_14 = true := zRw_ok (by decide +kernel)
noncomputable def B98_15 : List zRow := [(72, .iinc 5 1, 3, (0, 0, 0)), (75, .goto (-50), 3, (0, 0, 0))]
theorem K98_15 : zRk 98 B98_15 = true := zRw_ok (by decide +kernel)
noncomputable def B242_0 : List zRow := [(0, .iload_n 0, 1, (0, 0, 0)), (1, .iconst 1, 1, (0, 0, 0)), (2, .bipush 60, 2, (0, 0, 0))]
theorem K242_0 : zRk 242 B242_0 = true := zRw_ok (by decide +kernel)
noncomputable def B244_0 : List zRow := [(0, .iconst 0, 1, (0, 0, 0)), (1, .istore_n 1, 1, (0, 0, 0))]
theorem K244_0 : zRk 244 B244_0 = true := zRw_ok (by decide +kernel)
noncomputable def B244_1 : List zRow := [(9, .aload_n 0, 1, (0, 0, 0)), (10, .getfield 25, 3, (12, 18, 5249638)), (13, .iload_n 1, 1, (0, 0, 0)), (14, .aload_n 0, 1, (0, 0, 0)), (15, .getfield 13, 3, (12, 14, 5251442)), (18, .sipush 209, 3, (0, 0, 0)), (21, .iload_n 1, 1, (0, 0, 0))]
theorem K244_1 : zRk 244 B244_1 = true := zRw_ok (by decide +kernel)
noncomputable def B244_2 : List zRow := [(22, .iadd, 1, (0, 0, 0)), (23, .iaload, 1, (0, 0, 0)), (24, .iastore, 1, (0, 0, 0)), (25, .iinc 1 1, 3, (0, 0, 0)), (28, .goto (-26), 3, (0, 0, 0))]
theorem K244_2 : zRk 244 B244_2 = true := zRw_ok (by decide +kernel)
noncomputable def B244_3 : List zRow := [(2, .iload_n 1, 1, (0, 0, 0)), (3, .sipush 1689, 3, (0, 0, 0)), (6, .if_icmp .ge 25, 3, (0, 0, 0))]
theorem K244_3 : zRk 244 B244_3 = true := zRw_ok (by decide +kernel)
noncomputable def B245_0 : List zRow := [(0, .iconst 0, 1, (0, 0, 0)), (1, .istore_n 1, 1, (0, 0, 0))]
theorem K245_0 : zRk 245 B245_0 = true := zRw_ok (by decide +kernel)
noncomputable def B245_1 : List zRow := [(9, .aload_n 0, 1, (0, 0, 0)), (10, .getfield 13, 3, (12, 14, 5251442)), (13, .sipush 209, 3, (0, 0, 0)), (16, .iload_n 1, 1, (0, 0, 0))]
theorem K245_1 : zRk 245 B245_1 = true := zRw_ok (by decide +kernel)
noncomputable def B245_2 : List zRow := [(17, .iadd, 1, (0, 0, 0)), (18, .aload_n 0, 1, (0, 0, 0)), (19, .getfield 25, 3, (12, 18, 5249638)), (22, .iload_n 1, 1, (0, 0, 0)), (23, .iaload, 1, (0, 0, 0)), (24, .iastore, 1, (0, 0, 0)), (25, .iinc 1 1, 3, (0, 0, 0)), (28, .goto (-26), 3, (0, 0, 0))]
theorem K245_2 : zRk 245 B245_2 = true := zRw_ok (by decide +kernel)
noncomputable def B245_3 : List zRow := [(2, .iload_n 1, 1, (0, 0, 0)), (3, .sipush 1689, 3, (0, 0, 0)), (6, .if_icmp .ge 25, 3, (0, 0, 0))]
theorem K245_3 : zRk 245 B245_3 = true := zRw_ok (by decide +kernel)
noncomputable def B243_0 : List zRow := [(0, .aload_n 0, 1, (0, 0, 0))]
theorem K243_0 : zRk 243 B243_0 = true := zRw_ok (by decide +kernel)
noncomputable def B243_1 : List zRow := [(4, .aload_n 0, 1, (0, 0, 0)), (5, .getfield 13, 3, (12, 14, 5251442)), (8, .sipush 210, 3, (0, 0, 0)), (11, .iload_n 1, 1, (0, 0, 0))]
theorem K243_1 : zRk 243 B243_1 = true := zRw_ok (by decide +kernel)
noncomputable def B243_2 : List zRow := [(12, .iadd, 1, (0, 0, 0)), (13, .iload_n 2, 1, (0, 0, 0)), (14, .iastore, 1, (0, 0, 0)), (15, .aload_n 0, 1, (0, 0, 0)), (16, .iload_n 3, 1, (0, 0, 0))]
theorem K243_2 : zRk 243 B243_2 = true := zRw_ok (by decide +kernel)
noncomputable def B243_3 : List zRow := [(20, .pop, 1, (0, 0, 0)), (21, .aload_n 0, 1, (0, 0, 0)), (22, .iload_n 1, 1, (0, 0, 0))]
theorem K243_3 : zRk 243 B243_3 = true := zRw_ok (by decide +kernel)
noncomputable def B243_4 : List zRow := [(26, .istore 4, 2, (0, 0, 0)), (28, .aload_n 0, 1, (0, 0, 0))]
theorem K243_4 : zRk 243 B243_4 = true := zRw_ok (by decide +kernel)
noncomputable def B243_5 : List zRow := [(32, .iload 4, 2, (0, 0, 0))]
theorem K243_5 : zRk 243 B243_5 = true := zRw_ok (by decide +kernel)
noncomputable def B241_0 : List zRow := [(0, .aload_n 0, 1, (0, 0, 0)), (1, .iconst 0, 1, (0, 0, 0)), (2, .putfield 81, 3, (12, 0, 0)), (5, .aload_n 0, 1, (0, 0, 0)), (6, .iload_n 1, 1, (0, 0, 0))]
theorem K241_0 : zRk 241 B241_0 = true := zRw_ok (by decide +kernel)
noncomputable def B241_1 : List zRow := [(20, .iconst (-1), 1, (0, 0, 0))]
theorem K241_1 : zRk 241 B241_1 = true := zRw_ok (by decide +kernel)
noncomputable def B241_2 : List zRow := [(13, .iload_n 2, 1, (0, 0, 0))]
theorem K241_2 : zRk 241 B241_2 = true := zRw_ok (by decide +kernel)
noncomputable def B241_3 : List zRow := [(22, .iconst (-1), 1, (0, 0, 0)), (23, .istore_n 3, 1, (0, 0, 0)), (24, .iconst (-1), 1, (0, 0, 0)), (25, .istore 4, 2, (0, 0, 0)), (27, .iconst 0, 1, (0, 0, 0)), (28, .istore 5, 2, (0, 0, 0))]
theorem K241_3 : zRk 241 B241_3 = true := zRw_ok (by decide +kernel)
noncomputable def B241_4 : List zRow := [(17, .ifCond .ne 5, 3, (0, 0, 0))]
theorem K241_4 : zRk 241 B241_4 = true := zRw_ok (by decide +kernel)
noncomputable def B241_5 : List zRow := [(10, .ifCond .eq 10, 3, (0, 0, 0))]
theorem K241_5 : zRk 241 B241_5 = true := zRw_ok (by decide +kernel)
noncomputable def B241_6 : List zRow := [(83, .iload_n 3, 1, (0, 0, 0))]
theorem K241_6 : zRk 241 B241_6 = true := zRw_ok (by decide +kernel)
noncomputable def B241_7 : List zRow := [(37, .aload_n 0, 1, (0, 0, 0)), (38, .iload 5, 2, (0, 0, 0))]
theorem K241_7 : zRk 241 B241_7 = true := zRw_ok (by decide +kernel)
noncomputable def B241_8 : List zRow := [(57, .iconst (-1), 1, (0, 0, 0))]
theorem K241_8 : zRk 241 B241_8 = true := zRw_ok (by decide +kernel)
noncomputable def B241_9 : List zRow := [(46, .aload_n 0, 1, (0, 0, 0)), (47, .iload_n 1, 1, (0, 0, 0)), (48, .iload 5, 2, (0, 0, 0)), (50, .iload_n 2, 1, (0, 0, 0))]
theorem K241_9 : zRk 241 B241_9 = true := zRw_ok (by decide +kernel)
noncomputable def B241_10 : List zRow := [(54, .goto 4, 3, (0, 0, 0))]
theorem K241_10 : zRk 241 B241_10 = true := zRw_ok (by decide +kernel)
noncomputable def B241_11 : List zRow := [(43, .ifCond .eq 14, 3, (0, 0, 0))]
theorem K241_11 : zRk 241 B241_11 = true := zRw_ok (by decide +kernel)
noncomputable def B241_12 : List zRow := [(30, .iload 5, 2, (0, 0, 0)), (32, .bipush 100, 2, (0, 0, 0)), (34, .if_icmp .ge 49, 3, (0, 0, 0))]
theorem K241_12 : zRk 241 B241_12 = true := zRw_ok (by decide +kernel)
noncomputable def B241_13 : List zRow := [(70, .iload 5, 2, (0, 0, 0)), (72, .istore_n 3, 1, (0, 0, 0)), (73, .iload 6, 2, (0, 0, 0)), (75, .istore 4, 2, (0, 0, 0))]
theorem K241_13 : zRk 241 B241_13 = true := zRw_ok (by decide +kernel)
noncomputable def B241_14 : List zRow := [(67, .goto 10, 3, (0, 0, 0))]
theorem K241_14 : zRk 241 B241_14 = true := zRw_ok (by decide +kernel)
noncomputable def B241_15 : List zRow := [(58, .istore 6, 2, (0, 0, 0)), (60, .iload 6, 2, (0, 0, 0)), (62, .iload 4, 2, (0, 0, 0)), (64, .if_icmp .gt 6, 3, (0, 0, 0))]
theorem K241_15 : zRk 241 B241_15 = true := zRw_ok (by decide +kernel)
noncomputable def B241_16 : List zRow := [(77, .iinc 5 1, 3, (0, 0, 0)), (80, .goto (-50), 3, (0, 0, 0))]
theorem K241_16 : zRk 241 B241_16 = true := zRw_ok (by decide +kernel)
noncomputable def B102_0 : List zRow := [(0, .aload_n 0, 1, (0, 0, 0)), (1, .iload_n 1, 1, (0, 0, 0))]
theorem K102_0 : zRk 102 B102_0 = true := zRw_ok (by decide +kernel)
noncomputable def B102_1 : List zRow := [(26, .iconst (-1), 1, (0, 0, 0))]
theorem K102_1 : zRk 102 B102_1 = true := zRw_ok (by decide +kernel)
noncomputable def B102_2 : List zRow := [(8, .aload_n 0, 1, (0, 0, 0)), (9, .getfield 19, 3, (11, 1, 39)), (12, .iload_n 2, 1, (0, 0, 0))]
theorem K102_2 : zRk 102 B102_2 = true := zRw_ok (by decide +kernel)
noncomputable def B102_3 : List zRow := [(19, .iload_n 3, 1, (0, 0, 0))]
theorem K102_3 : zRk 102 B102_3 = true := zRw_ok (by decide +kernel)
noncomputable def B102_4 : List zRow := [(28, .aload_n 0, 1, (0, 0, 0)), (29, .iload_n 1, 1, (0, 0, 0)), (30, .iload_n 2, 1, (0, 0, 0)), (31, .iload_n 3, 1, (0, 0, 0))]
theorem K102_4 : zRk 102 B102_4 = true := zRw_ok (by decide +kernel)
noncomputable def B102_5 : List zRow := [(23, .ifCond .ne 5, 3, (0, 0, 0))]
theorem K102_5 : zRk 102 B102_5 = true := zRw_ok (by decide +kernel)
noncomputable def B102_6 : List zRow := [(16, .ifCond .eq 10, 3, (0, 0, 0))]
theorem K102_6 : zRk 102 B102_6 = true := zRw_ok (by decide +kernel)
noncomputable def B102_7 : List zRow := [(5, .ifCond .eq 21, 3, (0, 0, 0))]
theorem K102_7 : zRk 102 B102_7 = true := zRw_ok (by decide +kernel)
noncomputable def B246_0 : List zRow := [(0, .aload_n 0, 1, (0, 0, 0)), (1, .iconst 0, 1, (0, 0, 0)), (2, .putfield 81, 3, (12, 0, 0)), (5, .aload_n 0, 1, (0, 0, 0)), (6, .iload_n 1, 1, (0, 0, 0))]
theorem K246_0 : zRk 246 B246_0 = true := zRw_ok (by decide +kernel)
noncomputable def B246_1 : List zRow := [(38, .iconst (-1), 1, (0, 0, 0))]
theorem K246_1 : zRk 246 B246_1 = true := zRw_ok (by decide +kernel)
noncomputable def B246_2 : List zRow := [(13, .aload_n 0, 1, (0, 0, 0)), (14, .iload_n 2, 1, (0, 0, 0))]
theorem K246_2 : zRk 246 B246_2 = true := zRw_ok (by decide +kernel)
noncomputable def B246_3 : List zRow := [(21, .iload_n 3, 1, (0, 0, 0))]
theorem K246_3 : zRk 246 B246_3 = true := zRw_ok (by decide +kernel)
noncomputable def B246_4 : List zRow := [(28, .aload_n 0, 1, (0, 0, 0)), (29, .iload_n 1, 1, (0, 0, 0)), (30, .iload_n 2, 1, (0, 0, 0)), (31, .iload_n 3, 1, (0, 0, 0))]
theorem K246_4 : zRk 246 B246_4 = true := zRw_ok (by decide +kernel)
noncomputable def B246_5 : List zRow := [(35, .goto 4, 3, (0, 0, 0))]
theorem K246_5 : zRk 246 B246_5 = true := zRw_ok (by decide +kernel)
noncomputable def B246_6 : List zRow := [(25, .ifCond .eq 13, 3, (0, 0, 0))]
theorem K246_6 : zRk 246 B246_6 = true := zRw_ok (by decide +kernel)
noncomputable def B246_7 : List zRow := [(18, .ifCond .eq 20, 3, (0, 0, 0))]
theorem K246_7 : zRk 246 B246_7 = true := zRw_ok (by decide +kernel)
noncomputable def B246_8 : List zRow := [(10, .ifCond .eq 28, 3, (0, 0, 0))]
theorem K246_8 : zRk 246 B246_8 = true := zRw_ok (by decide +kernel)
noncomputable def B105_0 : List zRow := [(0, .iconst 0, 1, (0, 0, 0)), (1, .istore_n 1, 1, (0, 0, 0)), (2, .iconst 0, 1, (0, 0, 0)), (3, .istore_n 2, 1, (0, 0, 0))]
theorem K105_0 : zRk 105 B105_0 = true := zRw_ok (by decide +kernel)
noncomputable def B105_1 : List zRow := [(34, .iload_n 1, 1, (0, 0, 0))]
theorem K105_1 : zRk 105 B105_1 = true := zRw_ok (by decide +kernel)
noncomputable def B105_2 : List zRow := [(22, .iload_n 1, 1, (0, 0, 0)), (23, .iconst 1, 1, (0, 0, 0)), (24, .iload_n 2, 1, (0, 0, 0)), (25, .ishl, 1, (0, 0, 0)), (26, .ior, 1, (0, 0, 0)), (27, .istore_n 1, 1, (0, 0, 0))]
theorem K105_2 : zRk 105 B105_2 = true := zRw_ok (by decide +kernel)
noncomputable def B105_3 : List zRow := [(12, .aload_n 0, 1, (0, 0, 0)), (13, .getfield 31, 3, (9, 13, 5242906)), (16, .iload_n 2, 1, (0, 0, 0)), (17, .iaload, 1, (0, 0, 0)), (18, .iconst (-1), 1, (0, 0, 0)), (19, .if_icmp .eq 9, 3, (0, 0, 0))]
theorem K105_3 : zRk 105 B105_3 = true := zRw_ok (by decide +kernel)
noncomputable def B105_4 : List zRow := [(4, .iload_n 2, 1, (0, 0, 0)), (5, .aload_n 0, 1, (0, 0, 0)), (6, .getfield 62, 3, (9, 3, 0)), (9, .if_icmp .ge 25, 3, (0, 0, 0))]
theorem K105_4 : zRk 105 B105_4 = true := zRw_ok (by decide +kernel)
noncomputable def B105_5 : List zRow := [(28, .iinc 2 1, 3, (0, 0, 0)), (31, .goto (-27), 3, (0, 0, 0))]
theorem K105_5 : zRk 105 B105_5 = true := zRw_ok (by decide +kernel)
noncomputable def B104_0 : List zRow := [(0, .iload_n 1, 1, (0, 0, 0)), (1, .aload_n 0, 1, (0, 0, 0)), (2, .getfield 19, 3, (11, 1, 39))]
theorem K104_0 : zRk 104 B104_0 = true := zRw_ok (by decide +kernel)
noncomputable def B104_1 : List zRow := [(18, .iconst 0, 1, (0, 0, 0))]
theorem K104_1 : zRk 104 B104_1 = true := zRw_ok (by decide +kernel)
noncomputable def B104_2 : List zRow := [(14, .iconst 1, 1, (0, 0, 0)), (15, .goto 4, 3, (0, 0, 0))]
theorem K104_2 : zRk 104 B104_2 = true := zRw_ok (by decide +kernel)
noncomputable def B104_3 : List zRow := [(8, .iconst (-1), 1, (0, 0, 0)), (9, .ixor, 1, (0, 0, 0)), (10, .iand, 1, (0, 0, 0)), (11, .ifCond .ne 7, 3, (0, 0, 0))]
theorem K104_3 : zRk 104 B104_3 = true := zRw_ok (by decide +kernel)
noncomputable def B106_0 : List zRow := [(0, .aload_n 0, 1, (0, 0, 0)), (1, .getfield 60, 3, (11, 7, 135)), (4, .aload_n 0, 1, (0, 0, 0)), (5, .getfield 56, 3, (11, 6, 7))]
theorem K106_0 : zRk 106 B106_0 = true := zRw_ok (by decide +kernel)
noncomputable def B106_1 : List zRow := [(11, .iconst 0, 1, (0, 0, 0)), (12, .istore_n 3, 1, (0, 0, 0))]
theorem K106_1 : zRk 106 B106_1 = true := zRw_ok (by decide +kernel)
noncomputable def B106_2 : List zRow := [(56, .aload_n 0, 1, (0, 0, 0)), (57, .getfield 60, 3, (11, 7, 135)), (60, .aload_n 0, 1, (0, 0, 0)), (61, .getfield 19, 3, (11, 1, 39)), (64, .iload_n 2, 1, (0, 0, 0))]
theorem K106_2 : zRk 106 B106_2 = true := zRw_ok (by decide +kernel)
noncomputable def B106_3 : List zRow := [(68, .pop, 1, (0, 0, 0))]
theorem K106_3 : zRk 106 B106_3 = true := zRw_ok (by decide +kernel)
noncomputable def B106_4 : List zRow := [(24, .iload_n 1, 1, (0, 0, 0)), (25, .iload_n 3, 1, (0, 0, 0))]
theorem K106_4 : zRk 106 B106_4 = true := zRw_ok (by decide +kernel)
noncomputable def B106_5 : List zRow := [(32, .aload_n 0, 1, (0, 0, 0)), (33, .getfield 60, 3, (11, 7, 135)), (36, .getfield 177, 3, (1, 3, 5242906)), (39, .iload_n 3, 1, (0, 0, 0)), (40, .aload_n 0, 1, (0, 0, 0)), (41, .getfield 19, 3, (11, 1, 39)), (44, .getfield 188, 3, (9, 13, 5242906)), (47, .iload_n 3, 1, (0, 0, 0)), (48, .iaload, 1, (0, 0, 0)), (49, .iastore, 1, (0, 0, 0))]
theorem K106_5 : zRk 106 B106_5 = true := zRw_ok (by decide +kernel)
noncomputable def B106_6 : List zRow := [(29, .ifCond .eq 21, 3, (0, 0, 0))]
theorem K106_6 : zRk 106 B106_6 = true := zRw_ok (by decide +kernel)
noncomputable def B106_7 : List zRow := [(13, .iload_n 3, 1, (0, 0, 0)), (14, .aload_n 0, 1, (0, 0, 0)), (15, .getfield 19, 3, (11, 1, 39)), (18, .getfield 311, 3, (9, 3, 0)), (21, .if_icmp .ge 35, 3, (0, 0, 0))]
theorem K106_7 : zRk 106 B106_7 = true := zRw_ok (by decide +kernel)
noncomputable def B106_8 : List zRow := [(50, .iinc 3 1, 3, (0, 0, 0)), (53, .goto (-40), 3, (0, 0, 0))]
theorem K106_8 : zRk 106 B106_8 = true := zRw_ok (by decide +kernel)
noncomputable def B103_0 : List zRow := [(0, .aload_n 0, 1, (0, 0, 0)), (1, .iload_n 1, 1, (0, 0, 0))]
theorem K103_0 : zRk 103 B103_0 = true := zRw_ok (by decide +kernel)
noncomputable def B103_1 : List zRow := [(23, .iconst (-1), 1, (0, 0, 0))]
theorem K103_1 : zRk 103 B103_1 = true := zRw_ok (by decide +kernel)
noncomputable def B103_2 : List zRow := [(8, .iload_n 3, 1, (0, 0, 0))]
theorem K103_2 : zRk 103 B103_2 = true := zRw_ok (by decide +kernel)
noncomputable def B103_3 : List zRow := [(15, .aload_n 0, 1, (0, 0, 0)), (16, .iload_n 2, 1, (0, 0, 0))]
theorem K103_3 : zRk 103 B103_3 = true := zRw_ok (by decide +kernel)
noncomputable def B103_4 : List zRow := [(25, .aload_n 0, 1, (0, 0, 0)), (26, .iload_n 2, 1, (0, 0, 0)), (27, .iload_n 3, 1, (0, 0, 0))]
theorem K103_4 : zRk 103 B103_4 = true := zRw_ok (by decide +kernel)
noncomputable def B103_5 : List zRow := [(31, .aload_n 0, 1, (0, 0, 0)), (32, .getfield 60, 3, (11, 7, 135)), (35, .iload_n 1, 1, (0, 0, 0))]
theorem K103_5 : zRk 103 B103_5 = true := zRw_ok (by decide +kernel)
noncomputable def B103_6 : List zRow := [(20, .ifCond .ne 5, 3, (0, 0, 0))]
theorem K103_6 : zRk 103 B103_6 = true := zRw_ok (by decide +kernel)
noncomputable def B103_7 : List zRow := [(12, .ifCond .eq 11, 3, (0, 0, 0))]
theorem K103_7 : zRk 103 B103_7 = true := zRw_ok (by decide +kernel)
noncomputable def B103_8 : List zRow := [(5, .ifCond .eq 18, 3, (0, 0, 0))]
theorem K103_8 : zRk 103 B103_8 = true := zRw_ok (by decide +kernel)
noncomputable def B248_0 : List zRow := [(0, .iconst 0, 1, (0, 0, 0)), (1, .istore_n 1, 1, (0, 0, 0)), (2, .iconst 0, 1, (0, 0, 0)), (3, .istore_n 2, 1, (0, 0, 0))]
theorem K248_0 : zRk 248 B248_0 = true := zRw_ok (by decide +kernel)
noncomputable def B248_1 : List zRow := [(43, .iload_n 1, 1, (0, 0, 0))]
theorem K248_1 : zRk 248 B248_1 = true := zRw_ok (by decide +kernel)
noncomputable def B248_2 : List zRow := [(14, .aload_n 0, 1, (0, 0, 0)), (15, .getfield 13, 3, (12, 14, 5251442)), (18, .bipush 25, 2, (0, 0, 0)), (20, .iconst 2, 1, (0, 0, 0)), (21, .iload_n 2, 1, (0, 0, 0))]
theorem K248_2 : zRk 248 B248_2 = true := zRw_ok (by decide +kernel)
noncomputable def B248_3 : List zRow := [(22, .imul, 1, (0, 0, 0))]
theorem K248_3 : zRk 248 B248_3 = true := zRw_ok (by decide +kernel)
noncomputable def B248_4 : List zRow := [(31, .iload_n 1, 1, (0, 0, 0)), (32, .iconst 1, 1, (0, 0, 0)), (33, .iload_n 2, 1, (0, 0, 0)), (34, .ishl, 1, (0, 0, 0)), (35, .ior, 1, (0, 0, 0)), (36, .istore_n 1, 1, (0, 0, 0))]
theorem K248_4 : zRk 248 B248_4 = true := zRw_ok (by decide +kernel)
noncomputable def B248_5 : List zRow := [(23, .iadd, 1, (0, 0, 0)), (24, .iconst 1, 1, (0, 0, 0)), (25, .iadd, 1, (0, 0, 0)), (26, .iaload, 1, (0, 0, 0)), (27, .iconst (-1), 1, (0, 0, 0)), (28, .if_icmp .eq 9, 3, (0, 0, 0))]
theorem K248_5 : zRk 248 B248_5 = true := zRw_ok (by decide +kernel)
noncomputable def B248_6 : List zRow := [(4, .iload_n 2, 1, (0, 0, 0)), (5, .aload_n 0, 1, (0, 0, 0)), (6, .getfield 13, 3, (12, 14, 5251442)), (9, .iconst 3, 1, (0, 0, 0)), (10, .iaload, 1, (0, 0, 0)), (11, .if_icmp .ge 32, 3, (0, 0, 0))]
theorem K248_6 : zRk 248 B248_6 = true := zRw_ok (by decide +kernel)
noncomputable def B248_7 : List zRow := [(37, .iinc 2 1, 3, (0, 0, 0)), (40, .goto (-36), 3, (0, 0, 0))]
theorem K248_7 : zRk 248 B248_7 = true := zRw_ok (by decide +kernel)
noncomputable def B249_0 : List zRow := [(0, .aload_n 0, 1, (0, 0, 0))]
theorem K249_0 : zRk 249 B249_0 = true := zRw_ok (by decide +kernel)
noncomputable def B249_1 : List zRow := [(4, .iconst 0, 1, (0, 0, 0)), (5, .istore_n 3, 1, (0, 0, 0))]
theorem K249_1 : zRk 249 B249_1 = true := zRw_ok (by decide +kernel)
noncomputable def B249_2 : List zRow := [(53, .aload_n 0, 1, (0, 0, 0)), (54, .iload_n 2, 1, (0, 0, 0))]
theorem K249_2 : zRk 249 B249_2 = true := zRw_ok (by decide +kernel)
noncomputable def B249_3 : List zRow := [(58, .pop, 1, (0, 0, 0)), (59, .iconst 0, 1, (0, 0, 0)), (60, .istore_n 3, 1, (0, 0, 0))]
theorem K249_3 : zRk 249 B249_3 = true := zRw_ok (by decide +kernel)
noncomputable def B249_4 : List zRow := [(16, .iload_n 1, 1, (0, 0, 0)), (17, .iload_n 3, 1, (0, 0, 0))]
theorem K249_4 : zRk 249 B249_4 = true := zRw_ok (by decide +kernel)
noncomputable def B249_5 : List zRow := [(24, .aload_n 0, 1, (0, 0, 0)), (25, .getfield 13, 3, (12, 14, 5251442)), (28, .sipush 210, 3, (0, 0, 0)), (31, .iload_n 3, 1, (0, 0, 0))]
theorem K249_5 : zRk 249 B249_5 = true := zRw_ok (by decide +kernel)
noncomputable def B249_6 : List zRow := [(32, .iadd, 1, (0, 0, 0)), (33, .aload_n 0, 1, (0, 0, 0)), (34, .getfield 13, 3, (12, 14, 5251442)), (37, .bipush 25, 2, (0, 0, 0)), (39, .iconst 2, 1, (0, 0, 0)), (40, .iload_n 3, 1, (0, 0, 0))]
theorem K249_6 : zRk 249 B249_6 = true := zRw_ok (by decide +kernel)
noncomputable def B249_7 : List zRow := [(41, .imul, 1, (0, 0, 0))]
theorem K249_7 : zRk 249 B249_7 = true := zRw_ok (by decide +kernel)
noncomputable def B249_8 : List zRow := [(42, .iadd, 1, (0, 0, 0)), (43, .iconst 1, 1, (0, 0, 0)), (44, .iadd, 1, (0, 0, 0)), (45, .iaload, 1, (0, 0, 0)), (46, .iastore, 1, (0, 0, 0))]
theorem K249_8 : zRk 249 B249_8 = true := zRw_ok (by decide +kernel)
noncomputable def B249_9 : List zRow := [(21, .ifCond .eq 26, 3, (0, 0, 0))]
theorem K249_9 : zRk 249 B249_9 = true := zRw_ok (by decide +kernel)
noncomputable def B249_10 : List zRow := [(6, .iload_n 3, 1, (0, 0, 0)), (7, .aload_n 0, 1, (0, 0, 0)), (8, .getfield 13, 3, (12, 14, 5251442)), (11, .iconst 3, 1, (0, 0, 0)), (12, .iaload, 1, (0, 0, 0)), (13, .if_icmp .ge 40, 3, (0, 0, 0))]
theorem K249_10 : zRk 249 B249_10 = true := zRw_ok (by decide +kernel)
noncomputable def B249_11 : List zRow := [(47, .iinc 3 1, 3, (0, 0, 0)), (50, .goto (-44), 3, (0, 0, 0))]
theorem K249_11 : zRk 249 B249_11 = true := zRw_ok (by decide +kernel)
noncomputable def B249_12 : List zRow := [(93, .aload_n 0, 1, (0, 0, 0))]
theorem K249_12 : zRk 249 B249_12 = true := zRw_ok (by decide +kernel)
noncomputable def B249_13 : List zRow := [(71, .aload_n 0, 1, (0, 0, 0)), (72, .getfield 42, 3, (12, 25, 5244418)), (75, .bipush 6, 2, (0, 0, 0)), (77, .iload_n 1, 1, (0, 0, 0))]
theorem K249_13 : zRk 249 B249_13 = true := zRw_ok (by decide +kernel)
noncomputable def B249_14 : List zRow := [(78, .imul, 1, (0, 0, 0)), (79, .iload_n 3, 1, (0, 0, 0)), (80, .iadd, 1, (0, 0, 0)), (81, .aload_n 0, 1, (0, 0, 0)), (82, .iload_n 3, 1, (0, 0, 0))]
theorem K249_14 : zRk 249 B249_14 = true := zRw_ok (by decide +kernel)
noncomputable def B249_15 : List zRow := [(86, .iastore, 1, (0, 0, 0)), (87, .iinc 3 1, 3, (0, 0, 0)), (90, .goto (-29), 3, (0, 0, 0))]
theorem K249_15 : zRk 249 B249_15 = true := zRw_ok (by decide +kernel)
noncomputable def B249_16 : List zRow := [(61, .iload_n 3, 1, (0, 0, 0)), (62, .aload_n 0, 1, (0, 0, 0)), (63, .getfield 13, 3, (12, 14, 5251442)), (66, .iconst 3, 1, (0, 0, 0)), (67, .iaload, 1, (0, 0, 0)), (68, .if_icmp .ge 25, 3, (0, 0, 0))]
theorem K249_16 : zRk 249 B249_16 = true := zRw_ok (by decide +kernel)
noncomputable def B247_0 : List zRow := [(0, .aload_n 0, 1, (0, 0, 0)), (1, .iconst 0, 1, (0, 0, 0)), (2, .putfield 81, 3, (12, 0, 0)), (5, .aload_n 0, 1, (0, 0, 0)), (6, .iload_n 1, 1, (0, 0, 0))]
theorem K247_0 : zRk 247 B247_0 = true := zRw_ok (by decide +kernel)
noncomputable def B247_1 : List zRow := [(35, .iconst (-1), 1, (0, 0, 0))]
theorem K247_1 : zRk 247 B247_1 = true := zRw_ok (by decide +kernel)
noncomputable def B247_2 : List zRow := [(17, .iload_n 2, 1, (0, 0, 0)), (18, .aload_n 0, 1, (0, 0, 0))]
theorem K247_2 : zRk 247 B247_2 = true := zRw_ok (by decide +kernel)
noncomputable def B247_3 : List zRow := [(28, .iload_n 3, 1, (0, 0, 0))]
theorem K247_3 : zRk 247 B247_3 = true := zRw_ok (by decide +kernel)
noncomputable def B247_4 : List zRow := [(37, .aload_n 0, 1, (0, 0, 0)), (38, .iload_n 2, 1, (0, 0, 0)), (39, .iload_n 3, 1, (0, 0, 0))]
theorem K247_4 : zRk 247 B247_4 = true := zRw_ok (by decide +kernel)
noncomputable def B247_5 : List zRow := [(43, .aload_n 0, 1, (0, 0, 0)), (44, .getfield 42, 3, (12, 25, 5244418)), (47, .bipush 6, 2, (0, 0, 0)), (49, .iload_n 2, 1, (0, 0, 0))]
theorem K247_5 : zRk 247 B247_5 = true := zRw_ok (by decide +kernel)
noncomputable def B247_6 : List zRow := [(50, .imul, 1, (0, 0, 0)), (51, .iload_n 1, 1, (0, 0, 0)), (52, .iadd, 1, (0, 0, 0)), (53, .iaload, 1, (0, 0, 0))]
theorem K247_6 : zRk 247 B247_6 = true := zRw_ok (by decide +kernel)
noncomputable def B247_7 : List zRow := [(32, .ifCond .ne 5, 3, (0, 0, 0))]
theorem K247_7 : zRk 247 B247_7 = true := zRw_ok (by decide +kernel)
noncomputable def B247_8 : List zRow := [(22, .iconst (-1), 1, (0, 0, 0)), (23, .ixor, 1, (0, 0, 0)), (24, .iand, 1, (0, 0, 0)), (25, .ifCond .ne 10, 3, (0, 0, 0))]
theorem K247_8 : zRk 247 B247_8 = true := zRw_ok (by decide +kernel)
noncomputable def B247_9 : List zRow := [(13, .iload_n 2, 1, (0, 0, 0)), (14, .ifCond .lt 21, 3, (0, 0, 0))]
theorem K247_9 : zRk 247 B247_9 = true := zRw_ok (by decide +kernel)
noncomputable def B247_10 : List zRow := [(10, .ifCond .eq 25, 3, (0, 0, 0))]
theorem K247_10 : zRk 247 B247_10 = true := zRw_ok (by decide +kernel)
