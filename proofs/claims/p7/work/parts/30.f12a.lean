noncomputable def B139_0 : List zRow := [(9, .iconst (-1), 1, (0, 0, 0))]
theorem K139_0 : zRk 139 B139_0 = true := zRw_ok (by decide +kernel)
noncomputable def B139_1 : List zRow := [(20, .iconst 1, 1, (0, 0, 0))]
theorem K139_1 : zRk 139 B139_1 = true := zRw_ok (by decide +kernel)
noncomputable def B139_2 : List zRow := [(16, .iconst (-1), 1, (0, 0, 0)), (17, .goto 4, 3, (0, 0, 0))]
theorem K139_2 : zRk 139 B139_2 = true := zRw_ok (by decide +kernel)
noncomputable def B139_3 : List zRow := [(11, .iload_n 1, 1, (0, 0, 0)), (12, .iconst 1, 1, (0, 0, 0)), (13, .if_icmp .ne 7, 3, (0, 0, 0))]
theorem K139_3 : zRk 139 B139_3 = true := zRw_ok (by decide +kernel)
noncomputable def B139_4 : List zRow := [(4, .iload_n 1, 1, (0, 0, 0)), (5, .iconst 1, 1, (0, 0, 0)), (6, .if_icmp .le 5, 3, (0, 0, 0))]
theorem K139_4 : zRk 139 B139_4 = true := zRw_ok (by decide +kernel)
noncomputable def B139_5 : List zRow := [(0, .iload_n 1, 1, (0, 0, 0)), (1, .ifCond .lt 8, 3, (0, 0, 0))]
theorem K139_5 : zRk 139 B139_5 = true := zRw_ok (by decide +kernel)
noncomputable def B139_6 : List zRow := [(21, .istore_n 2, 1, (0, 0, 0)), (22, .iconst (-1), 1, (0, 0, 0)), (23, .istore_n 3, 1, (0, 0, 0)), (24, .iconst 0, 1, (0, 0, 0)), (25, .istore 4, 2, (0, 0, 0)), (27, .iconst 0, 1, (0, 0, 0)), (28, .istore 5, 2, (0, 0, 0))]
theorem K139_6 : zRk 139 B139_6 = true := zRw_ok (by decide +kernel)
noncomputable def B139_7 : List zRow := [(80, .iload_n 3, 1, (0, 0, 0))]
theorem K139_7 : zRk 139 B139_7 = true := zRw_ok (by decide +kernel)
noncomputable def B139_8 : List zRow := [(42, .iload_n 2, 1, (0, 0, 0)), (43, .aload_n 0, 1, (0, 0, 0)), (44, .getfield 56, 3, (11, 6, 7)), (47, .iload 5, 2, (0, 0, 0))]
theorem K139_8 : zRk 139 B139_8 = true := zRw_ok (by decide +kernel)
noncomputable def B139_9 : List zRow := [(60, .iload 6, 2, (0, 0, 0)), (62, .iload 4, 2, (0, 0, 0)), (64, .if_icmp .ge 10, 3, (0, 0, 0))]
theorem K139_9 : zRk 139 B139_9 = true := zRw_ok (by decide +kernel)
noncomputable def B139_10 : List zRow := [(52, .imul, 1, (0, 0, 0)), (53, .istore 6, 2, (0, 0, 0)), (55, .iload_n 3, 1, (0, 0, 0)), (56, .iconst (-1), 1, (0, 0, 0)), (57, .if_icmp .eq 10, 3, (0, 0, 0))]
theorem K139_10 : zRk 139 B139_10 = true := zRw_ok (by decide +kernel)
noncomputable def B139_11 : List zRow := [(30, .iload 5, 2, (0, 0, 0)), (32, .aload_n 0, 1, (0, 0, 0)), (33, .getfield 19, 3, (11, 1, 39)), (36, .getfield 311, 3, (9, 3, 0)), (39, .if_icmp .ge 41, 3, (0, 0, 0))]
theorem K139_11 : zRk 139 B139_11 = true := zRw_ok (by decide +kernel)
noncomputable def B139_12 : List zRow := [(74, .iinc 5 1, 3, (0, 0, 0)), (77, .goto (-47), 3, (0, 0, 0))]
theorem K139_12 : zRk 139 B139_12 = true := zRw_ok (by decide +kernel)
noncomputable def B139_13 : List zRow := [(67, .iload 6, 2, (0, 0, 0)), (69, .istore 4, 2, (0, 0, 0)), (71, .iload 5, 2, (0, 0, 0)), (73, .istore_n 3, 1, (0, 0, 0))]
theorem K139_13 : zRk 139 B139_13 = true := zRw_ok (by decide +kernel)
noncomputable def B275_0 : List zRow := [(0, .aload_n 0, 1, (0, 0, 0)), (1, .iconst 0, 1, (0, 0, 0)), (2, .putfield 81, 3, (12, 0, 0)), (5, .iload_n 1, 1, (0, 0, 0)), (6, .iconst 0, 1, (0, 0, 0)), (7, .iconst 1, 1, (0, 0, 0))]
theorem K275_0 : zRk 275 B275_0 = true := zRw_ok (by decide +kernel)
noncomputable def B275_1 : List zRow := [(16, .iconst (-1), 1, (0, 0, 0)), (17, .istore_n 2, 1, (0, 0, 0)), (18, .iconst 0, 1, (0, 0, 0)), (19, .istore_n 3, 1, (0, 0, 0))]
theorem K275_1 : zRk 275 B275_1 = true := zRw_ok (by decide +kernel)
noncomputable def B275_2 : List zRow := [(14, .iconst (-1), 1, (0, 0, 0))]
theorem K275_2 : zRk 275 B275_2 = true := zRw_ok (by decide +kernel)
noncomputable def B275_3 : List zRow := [(11, .ifCond .ne 5, 3, (0, 0, 0))]
theorem K275_3 : zRk 275 B275_3 = true := zRw_ok (by decide +kernel)
noncomputable def B275_4 : List zRow := [(77, .iload_n 2, 1, (0, 0, 0))]
theorem K275_4 : zRk 275 B275_4 = true := zRw_ok (by decide +kernel)
noncomputable def B275_5 : List zRow := [(56, .aload_n 0, 1, (0, 0, 0)), (57, .iload_n 3, 1, (0, 0, 0))]
theorem K275_5 : zRk 275 B275_5 = true := zRw_ok (by decide +kernel)
noncomputable def B275_6 : List zRow := [(61, .aload_n 0, 1, (0, 0, 0)), (62, .iload_n 2, 1, (0, 0, 0))]
theorem K275_6 : zRk 275 B275_6 = true := zRw_ok (by decide +kernel)
noncomputable def B275_7 : List zRow := [(66, .if_icmp .ge 5, 3, (0, 0, 0))]
theorem K275_7 : zRk 275 B275_7 = true := zRw_ok (by decide +kernel)
noncomputable def B275_8 : List zRow := [(40, .aload_n 0, 1, (0, 0, 0)), (41, .iload_n 3, 1, (0, 0, 0))]
theorem K275_8 : zRk 275 B275_8 = true := zRw_ok (by decide +kernel)
noncomputable def B275_9 : List zRow := [(45, .aload_n 0, 1, (0, 0, 0)), (46, .iload_n 2, 1, (0, 0, 0))]
theorem K275_9 : zRk 275 B275_9 = true := zRw_ok (by decide +kernel)
noncomputable def B275_10 : List zRow := [(53, .goto 16, 3, (0, 0, 0))]
theorem K275_10 : zRk 275 B275_10 = true := zRw_ok (by decide +kernel)
noncomputable def B275_11 : List zRow := [(50, .if_icmp .le 21, 3, (0, 0, 0))]
theorem K275_11 : zRk 275 B275_11 = true := zRw_ok (by decide +kernel)
noncomputable def B275_12 : List zRow := [(35, .iload_n 1, 1, (0, 0, 0)), (36, .iconst 1, 1, (0, 0, 0)), (37, .if_icmp .ne 19, 3, (0, 0, 0))]
theorem K275_12 : zRk 275 B275_12 = true := zRw_ok (by decide +kernel)
noncomputable def B275_13 : List zRow := [(30, .iload_n 2, 1, (0, 0, 0)), (31, .iconst (-1), 1, (0, 0, 0)), (32, .if_icmp .eq 37, 3, (0, 0, 0))]
theorem K275_13 : zRk 275 B275_13 = true := zRw_ok (by decide +kernel)
noncomputable def B275_14 : List zRow := [(20, .iload_n 3, 1, (0, 0, 0)), (21, .aload_n 0, 1, (0, 0, 0)), (22, .getfield 13, 3, (12, 14, 5251442)), (25, .iconst 3, 1, (0, 0, 0)), (26, .iaload, 1, (0, 0, 0)), (27, .if_icmp .ge 50, 3, (0, 0, 0))]
theorem K275_14 : zRk 275 B275_14 = true := zRw_ok (by decide +kernel)
noncomputable def B275_15 : List zRow := [(71, .iinc 3 1, 3, (0, 0, 0)), (74, .goto (-54), 3, (0, 0, 0))]
theorem K275_15 : zRk 275 B275_15 = true := zRw_ok (by decide +kernel)
noncomputable def B275_16 : List zRow := [(69, .iload_n 3, 1, (0, 0, 0)), (70, .istore_n 2, 1, (0, 0, 0))]
theorem K275_16 : zRk 275 B275_16 = true := zRw_ok (by decide +kernel)
noncomputable def B140_0 : List zRow := [(0, .aload_n 0, 1, (0, 0, 0)), (1, .getfield 19, 3, (11, 1, 39)), (4, .iload_n 1, 1, (0, 0, 0))]
theorem K140_0 : zRk 140 B140_0 = true := zRw_ok (by decide +kernel)
noncomputable def B140_1 : List zRow := [(18, .iconst (-1), 1, (0, 0, 0))]
theorem K140_1 : zRk 140 B140_1 = true := zRw_ok (by decide +kernel)
noncomputable def B140_2 : List zRow := [(11, .iload_n 2, 1, (0, 0, 0))]
theorem K140_2 : zRk 140 B140_2 = true := zRw_ok (by decide +kernel)
noncomputable def B140_3 : List zRow := [(20, .aload_n 0, 1, (0, 0, 0)), (21, .getfield 19, 3, (11, 1, 39)), (24, .iload_n 1, 1, (0, 0, 0)), (25, .iload_n 2, 1, (0, 0, 0))]
theorem K140_3 : zRk 140 B140_3 = true := zRw_ok (by decide +kernel)
noncomputable def B140_4 : List zRow := [(29, .istore_n 3, 1, (0, 0, 0)), (30, .iconst 0, 1, (0, 0, 0)), (31, .istore 4, 2, (0, 0, 0)), (33, .iconst 0, 1, (0, 0, 0)), (34, .istore 5, 2, (0, 0, 0))]
theorem K140_4 : zRk 140 B140_4 = true := zRw_ok (by decide +kernel)
noncomputable def B140_5 : List zRow := [(15, .ifCond .ne 5, 3, (0, 0, 0))]
theorem K140_5 : zRk 140 B140_5 = true := zRw_ok (by decide +kernel)
noncomputable def B140_6 : List zRow := [(8, .ifCond .eq 10, 3, (0, 0, 0))]
theorem K140_6 : zRk 140 B140_6 = true := zRw_ok (by decide +kernel)
noncomputable def B140_7 : List zRow := [(77, .iload 4, 2, (0, 0, 0))]
theorem K140_7 : zRk 140 B140_7 = true := zRw_ok (by decide +kernel)
noncomputable def B140_8 : List zRow := [(48, .aload_n 0, 1, (0, 0, 0)), (49, .getfield 19, 3, (11, 1, 39)), (52, .iload 5, 2, (0, 0, 0)), (54, .iload_n 1, 1, (0, 0, 0)), (55, .iload_n 3, 1, (0, 0, 0))]
theorem K140_8 : zRk 140 B140_8 = true := zRw_ok (by decide +kernel)
noncomputable def B140_9 : List zRow := [(62, .iload 4, 2, (0, 0, 0)), (64, .iconst 1, 1, (0, 0, 0)), (65, .iload 5, 2, (0, 0, 0)), (67, .ishl, 1, (0, 0, 0)), (68, .ior, 1, (0, 0, 0)), (69, .istore 4, 2, (0, 0, 0))]
theorem K140_9 : zRk 140 B140_9 = true := zRw_ok (by decide +kernel)
noncomputable def B140_10 : List zRow := [(59, .ifCond .le 12, 3, (0, 0, 0))]
theorem K140_10 : zRk 140 B140_10 = true := zRw_ok (by decide +kernel)
noncomputable def B140_11 : List zRow := [(36, .iload 5, 2, (0, 0, 0)), (38, .aload_n 0, 1, (0, 0, 0)), (39, .getfield 19, 3, (11, 1, 39)), (42, .getfield 282, 3, (9, 2, 0)), (45, .if_icmp .ge 32, 3, (0, 0, 0))]
theorem K140_11 : zRk 140 B140_11 = true := zRw_ok (by decide +kernel)
noncomputable def B140_12 : List zRow := [(71, .iinc 5 1, 3, (0, 0, 0)), (74, .goto (-38), 3, (0, 0, 0))]
theorem K140_12 : zRk 140 B140_12 = true := zRw_ok (by decide +kernel)
noncomputable def B260_0 : List zRow := [(0, .aload_n 0, 1, (0, 0, 0)), (1, .iconst 0, 1, (0, 0, 0)), (2, .putfield 81, 3, (12, 0, 0)), (5, .aload_n 0, 1, (0, 0, 0)), (6, .iload_n 1, 1, (0, 0, 0))]
theorem K260_0 : zRk 260 B260_0 = true := zRw_ok (by decide +kernel)
noncomputable def B260_1 : List zRow := [(23, .iconst (-1), 1, (0, 0, 0))]
theorem K260_1 : zRk 260 B260_1 = true := zRw_ok (by decide +kernel)
noncomputable def B260_2 : List zRow := [(13, .iload_n 2, 1, (0, 0, 0)), (14, .iconst 1, 1, (0, 0, 0)), (15, .bipush 9, 2, (0, 0, 0))]
theorem K260_2 : zRk 260 B260_2 = true := zRw_ok (by decide +kernel)
noncomputable def B260_3 : List zRow := [(25, .iconst 0, 1, (0, 0, 0)), (26, .istore_n 3, 1, (0, 0, 0)), (27, .iconst 0, 1, (0, 0, 0)), (28, .istore 4, 2, (0, 0, 0))]
theorem K260_3 : zRk 260 B260_3 = true := zRw_ok (by decide +kernel)
noncomputable def B260_4 : List zRow := [(20, .ifCond .ne 5, 3, (0, 0, 0))]
theorem K260_4 : zRk 260 B260_4 = true := zRw_ok (by decide +kernel)
noncomputable def B260_5 : List zRow := [(10, .ifCond .eq 13, 3, (0, 0, 0))]
theorem K260_5 : zRk 260 B260_5 = true := zRw_ok (by decide +kernel)
noncomputable def B260_6 : List zRow := [(70, .iload_n 3, 1, (0, 0, 0))]
theorem K260_6 : zRk 260 B260_6 = true := zRw_ok (by decide +kernel)
noncomputable def B260_7 : List zRow := [(41, .aload_n 0, 1, (0, 0, 0)), (42, .iload 4, 2, (0, 0, 0)), (44, .iload_n 1, 1, (0, 0, 0)), (45, .aload_n 0, 1, (0, 0, 0)), (46, .iload_n 1, 1, (0, 0, 0)), (47, .iload_n 2, 1, (0, 0, 0))]
theorem K260_7 : zRk 260 B260_7 = true := zRw_ok (by decide +kernel)
noncomputable def B260_8 : List zRow := [(57, .iload_n 3, 1, (0, 0, 0)), (58, .iconst 1, 1, (0, 0, 0)), (59, .iload 4, 2, (0, 0, 0)), (61, .ishl, 1, (0, 0, 0)), (62, .ior, 1, (0, 0, 0)), (63, .istore_n 3, 1, (0, 0, 0))]
theorem K260_8 : zRk 260 B260_8 = true := zRw_ok (by decide +kernel)
noncomputable def B260_9 : List zRow := [(54, .ifCond .le 10, 3, (0, 0, 0))]
theorem K260_9 : zRk 260 B260_9 = true := zRw_ok (by decide +kernel)
noncomputable def B260_10 : List zRow := [(30, .iload 4, 2, (0, 0, 0)), (32, .aload_n 0, 1, (0, 0, 0)), (33, .getfield 13, 3, (12, 14, 5251442)), (36, .iconst 2, 1, (0, 0, 0)), (37, .iaload, 1, (0, 0, 0)), (38, .if_icmp .ge 32, 3, (0, 0, 0))]
theorem K260_10 : zRk 260 B260_10 = true := zRw_ok (by decide +kernel)
noncomputable def B260_11 : List zRow := [(64, .iinc 4 1, 3, (0, 0, 0)), (67, .goto (-37), 3, (0, 0, 0))]
theorem K260_11 : zRk 260 B260_11 = true := zRw_ok (by decide +kernel)
noncomputable def B141_0 : List zRow := [(0, .aload_n 0, 1, (0, 0, 0)), (1, .iload_n 1, 1, (0, 0, 0))]
theorem K141_0 : zRk 141 B141_0 = true := zRw_ok (by decide +kernel)
noncomputable def B141_1 : List zRow := [(34, .iconst (-1), 1, (0, 0, 0))]
theorem K141_1 : zRk 141 B141_1 = true := zRw_ok (by decide +kernel)
noncomputable def B141_2 : List zRow := [(8, .iload_n 2, 1, (0, 0, 0))]
theorem K141_2 : zRk 141 B141_2 = true := zRw_ok (by decide +kernel)
noncomputable def B141_3 : List zRow := [(15, .aload_n 0, 1, (0, 0, 0)), (16, .getfield 19, 3, (11, 1, 39)), (19, .iload_n 1, 1, (0, 0, 0)), (20, .iload_n 2, 1, (0, 0, 0)), (21, .aload_n 0, 1, (0, 0, 0)), (22, .getfield 56, 3, (11, 6, 7)), (25, .getfield 177, 3, (1, 3, 5242906))]
theorem K141_3 : zRk 141 B141_3 = true := zRw_ok (by decide +kernel)
noncomputable def B141_4 : List zRow := [(31, .goto 4, 3, (0, 0, 0))]
theorem K141_4 : zRk 141 B141_4 = true := zRw_ok (by decide +kernel)
noncomputable def B141_5 : List zRow := [(12, .ifCond .eq 22, 3, (0, 0, 0))]
theorem K141_5 : zRk 141 B141_5 = true := zRw_ok (by decide +kernel)
noncomputable def B141_6 : List zRow := [(5, .ifCond .eq 29, 3, (0, 0, 0))]
theorem K141_6 : zRk 141 B141_6 = true := zRw_ok (by decide +kernel)
noncomputable def B261_0 : List zRow := [(0, .aload_n 0, 1, (0, 0, 0)), (1, .iconst 0, 1, (0, 0, 0)), (2, .putfield 81, 3, (12, 0, 0)), (5, .aload_n 0, 1, (0, 0, 0)), (6, .iload_n 1, 1, (0, 0, 0))]
theorem K261_0 : zRk 261 B261_0 = true := zRw_ok (by decide +kernel)
noncomputable def B261_1 : List zRow := [(32, .iconst (-1), 1, (0, 0, 0))]
theorem K261_1 : zRk 261 B261_1 = true := zRw_ok (by decide +kernel)
noncomputable def B261_2 : List zRow := [(13, .iload_n 2, 1, (0, 0, 0)), (14, .iconst 1, 1, (0, 0, 0)), (15, .bipush 9, 2, (0, 0, 0))]
theorem K261_2 : zRk 261 B261_2 = true := zRw_ok (by decide +kernel)
noncomputable def B261_3 : List zRow := [(23, .aload_n 0, 1, (0, 0, 0)), (24, .iload_n 1, 1, (0, 0, 0)), (25, .iload_n 2, 1, (0, 0, 0))]
theorem K261_3 : zRk 261 B261_3 = true := zRw_ok (by decide +kernel)
noncomputable def B261_4 : List zRow := [(29, .goto 4, 3, (0, 0, 0))]
theorem K261_4 : zRk 261 B261_4 = true := zRw_ok (by decide +kernel)
noncomputable def B261_5 : List zRow := [(20, .ifCond .eq 12, 3, (0, 0, 0))]
theorem K261_5 : zRk 261 B261_5 = true := zRw_ok (by decide +kernel)
noncomputable def B261_6 : List zRow := [(10, .ifCond .eq 22, 3, (0, 0, 0))]
theorem K261_6 : zRk 261 B261_6 = true := zRw_ok (by decide +kernel)
noncomputable def B144_0 : List zRow := [(9, .aload_n 0, 1, (0, 0, 0)), (10, .getfield 95, 3, (11, 13, 5243266)), (13, .aload_n 0, 1, (0, 0, 0)), (14, .getfield 327, 3, (11, 14, 0)), (17, .iload_n 1, 1, (0, 0, 0)), (18, .iastore, 1, (0, 0, 0)), (19, .aload_n 0, 1, (0, 0, 0)), (20, .dup, 1, (0, 0, 0)), (21, .getfield 327, 3, (11, 14, 0)), (24, .iconst 1, 1, (0, 0, 0)), (25, .iadd, 1, (0, 0, 0)), (26, .putfield 327, 3, (11, 14, 0))]
theorem K144_0 : zRk 144 B144_0 = true := zRw_ok (by decide +kernel)
noncomputable def B144_1 : List zRow := [(0, .aload_n 0, 1, (0, 0, 0)), (1, .getfield 327, 3, (11, 14, 0)), (4, .bipush 96, 2, (0, 0, 0)), (6, .if_icmp .ge 23, 3, (0, 0, 0))]
theorem K144_1 : zRk 144 B144_1 = true := zRw_ok (by decide +kernel)
noncomputable def B143_0 : List zRow := [(0, .bipush 6, 2, (0, 0, 0)), (2, .istore_n 3, 1, (0, 0, 0))]
theorem K143_0 : zRk 143 B143_0 = true := zRw_ok (by decide +kernel)
noncomputable def B143_1 : List zRow := [(23, .aload_n 0, 1, (0, 0, 0)), (24, .bipush 97, 2, (0, 0, 0)), (26, .iload 4, 2, (0, 0, 0))]
theorem K143_1 : zRk 143 B143_1 = true := zRw_ok (by decide +kernel)
noncomputable def B143_2 : List zRow := [(28, .iadd, 1, (0, 0, 0)), (29, .iconst 1, 1, (0, 0, 0)), (30, .isub, 1, (0, 0, 0))]
theorem K143_2 : zRk 143 B143_2 = true := zRw_ok (by decide +kernel)
noncomputable def B143_3 : List zRow := [(7, .lload_n 1, 1, (0, 0, 0)), (8, .iload_n 3, 1, (0, 0, 0)), (9, .iconst 5, 1, (0, 0, 0)), (10, .imul, 1, (0, 0, 0)), (11, .lshr, 1, (0, 0, 0)), (12, .l2i, 1, (0, 0, 0)), (13, .bipush 31, 2, (0, 0, 0)), (15, .iand, 1, (0, 0, 0)), (16, .istore 4, 2, (0, 0, 0)), (18, .iload 4, 2, (0, 0, 0)), (20, .ifCond .le 14, 3, (0, 0, 0))]
theorem K143_3 : zRk 143 B143_3 = true := zRw_ok (by decide +kernel)
noncomputable def B143_4 : List zRow := [(3, .iload_n 3, 1, (0, 0, 0)), (4, .ifCond .lt 36, 3, (0, 0, 0))]
theorem K143_4 : zRk 143 B143_4 = true := zRw_ok (by decide +kernel)
noncomputable def B143_5 : List zRow := [(34, .iinc 3 (-1), 3, (0, 0, 0)), (37, .goto (-34), 3, (0, 0, 0))]
theorem K143_5 : zRk 143 B143_5 = true := zRw_ok (by decide +kernel)
noncomputable def B145_0 : List zRow := [(6, .aload_n 0, 1, (0, 0, 0)), (7, .bipush 48, 2, (0, 0, 0)), (9, .iload_n 1, 1, (0, 0, 0)), (10, .bipush 100, 2, (0, 0, 0)), (12, .idiv, 1, (0, 0, 0))]
theorem K145_0 : zRk 145 B145_0 = true := zRw_ok (by decide +kernel)
noncomputable def B145_1 : List zRow := [(13, .iadd, 1, (0, 0, 0))]
theorem K145_1 : zRk 145 B145_1 = true := zRw_ok (by decide +kernel)
noncomputable def B145_2 : List zRow := [(0, .iload_n 1, 1, (0, 0, 0)), (1, .bipush 100, 2, (0, 0, 0)), (3, .if_icmp .lt 14, 3, (0, 0, 0))]
theorem K145_2 : zRk 145 B145_2 = true := zRw_ok (by decide +kernel)
noncomputable def B145_3 : List zRow := [(23, .aload_n 0, 1, (0, 0, 0)), (24, .bipush 48, 2, (0, 0, 0)), (26, .iload_n 1, 1, (0, 0, 0)), (27, .bipush 10, 2, (0, 0, 0)), (29, .idiv, 1, (0, 0, 0)), (30, .bipush 10, 2, (0, 0, 0)), (32, .irem, 1, (0, 0, 0))]
theorem K145_3 : zRk 145 B145_3 = true := zRw_ok (by decide +kernel)
noncomputable def B145_4 : List zRow := [(33, .iadd, 1, (0, 0, 0))]
theorem K145_4 : zRk 145 B145_4 = true := zRw_ok (by decide +kernel)
noncomputable def B145_5 : List zRow := [(17, .iload_n 1, 1, (0, 0, 0)), (18, .bipush 10, 2, (0, 0, 0)), (20, .if_icmp .lt 17, 3, (0, 0, 0))]
theorem K145_5 : zRk 145 B145_5 = true := zRw_ok (by decide +kernel)
noncomputable def B145_6 : List zRow := [(37, .aload_n 0, 1, (0, 0, 0)), (38, .bipush 48, 2, (0, 0, 0)), (40, .iload_n 1, 1, (0, 0, 0)), (41, .bipush 10, 2, (0, 0, 0)), (43, .irem, 1, (0, 0, 0))]
theorem K145_6 : zRk 145 B145_6 = true := zRw_ok (by decide +kernel)
noncomputable def B145_7 : List zRow := [(44, .iadd, 1, (0, 0, 0))]
theorem K145_7 : zRk 145 B145_7 = true := zRw_ok (by decide +kernel)
noncomputable def B142_0 : List zRow := [(0, .aload_n 0, 1, (0, 0, 0)), (1, .iload_n 1, 1, (0, 0, 0))]
theorem K142_0 : zRk 142 B142_0 = true := zRw_ok (by decide +kernel)
noncomputable def B142_1 : List zRow := [(10, .aload_n 0, 1, (0, 0, 0)), (11, .iconst 0, 1, (0, 0, 0)), (12, .putfield 327, 3, (11, 14, 0)), (15, .iconst 0, 1, (0, 0, 0)), (16, .istore_n 2, 1, (0, 0, 0))]
theorem K142_1 : zRk 142 B142_1 = true := zRw_ok (by decide +kernel)
noncomputable def B142_2 : List zRow := [(8, .iconst (-1), 1, (0, 0, 0))]
theorem K142_2 : zRk 142 B142_2 = true := zRw_ok (by decide +kernel)
noncomputable def B142_3 : List zRow := [(5, .ifCond .ne 5, 3, (0, 0, 0))]
theorem K142_3 : zRk 142 B142_3 = true := zRw_ok (by decide +kernel)
noncomputable def B142_4 : List zRow := [(112, .aload_n 0, 1, (0, 0, 0)), (113, .getfield 327, 3, (11, 14, 0))]
theorem K142_4 : zRk 142 B142_4 = true := zRw_ok (by decide +kernel)
noncomputable def B142_5 : List zRow := [(28, .aload_n 0, 1, (0, 0, 0)), (29, .getfield 56, 3, (11, 6, 7)), (32, .iload_n 2, 1, (0, 0, 0)), (33, .iconst 0, 1, (0, 0, 0))]
theorem K142_5 : zRk 142 B142_5 = true := zRw_ok (by decide +kernel)
noncomputable def B142_6 : List zRow := [(41, .aload_n 0, 1, (0, 0, 0)), (42, .aload_n 0, 1, (0, 0, 0)), (43, .getfield 19, 3, (11, 1, 39)), (46, .getfield 330, 3, (9, 7, 5505050)), (49, .aload_n 0, 1, (0, 0, 0)), (50, .getfield 56, 3, (11, 6, 7)), (53, .iload_n 2, 1, (0, 0, 0)), (54, .iconst 1, 1, (0, 0, 0))]
theorem K142_6 : zRk 142 B142_6 = true := zRw_ok (by decide +kernel)
noncomputable def B142_7 : List zRow := [(58, .laload, 1, (0, 0, 0))]
theorem K142_7 : zRk 142 B142_7 = true := zRw_ok (by decide +kernel)
noncomputable def B142_8 : List zRow := [(62, .aload_n 0, 1, (0, 0, 0)), (63, .bipush 32, 2, (0, 0, 0))]
theorem K142_8 : zRk 142 B142_8 = true := zRw_ok (by decide +kernel)
noncomputable def B142_9 : List zRow := [(68, .aload_n 0, 1, (0, 0, 0)), (69, .aload_n 0, 1, (0, 0, 0)), (70, .getfield 56, 3, (11, 6, 7)), (73, .iload_n 2, 1, (0, 0, 0)), (74, .iconst 2, 1, (0, 0, 0))]
theorem K142_9 : zRk 142 B142_9 = true := zRw_ok (by decide +kernel)
noncomputable def B142_10 : List zRow := [(81, .aload_n 0, 1, (0, 0, 0)), (82, .bipush 32, 2, (0, 0, 0))]
theorem K142_10 : zRk 142 B142_10 = true := zRw_ok (by decide +kernel)
noncomputable def B142_11 : List zRow := [(87, .aload_n 0, 1, (0, 0, 0)), (88, .aload_n 0, 1, (0, 0, 0)), (89, .getfield 56, 3, (11, 6, 7)), (92, .iload_n 2, 1, (0, 0, 0)), (93, .iconst 3, 1, (0, 0, 0))]
theorem K142_11 : zRk 142 B142_11 = true := zRw_ok (by decide +kernel)
noncomputable def B142_12 : List zRow := [(100, .aload_n 0, 1, (0, 0, 0)), (101, .bipush 59, 2, (0, 0, 0))]
theorem K142_12 : zRk 142 B142_12 = true := zRw_ok (by decide +kernel)
noncomputable def B142_13 : List zRow := [(37, .iload_n 1, 1, (0, 0, 0)), (38, .if_icmp .ne 68, 3, (0, 0, 0))]
theorem K142_13 : zRk 142 B142_13 = true := zRw_ok (by decide +kernel)
noncomputable def B142_14 : List zRow := [(17, .iload_n 2, 1, (0, 0, 0)), (18, .aload_n 0, 1, (0, 0, 0)), (19, .getfield 56, 3, (11, 6, 7)), (22, .getfield 208, 3, (1, 2, 0)), (25, .if_icmp .ge 87, 3, (0, 0, 0))]
theorem K142_14 : zRk 142 B142_14 = true := zRw_ok (by decide +kernel)
noncomputable def B142_15 : List zRow := [(106, .iinc 2 1, 3, (0, 0, 0)), (109, .goto (-92), 3, (0, 0, 0))]
theorem K142_15 : zRk 142 B142_15 = true := zRw_ok (by decide +kernel)
noncomputable def B277_0 : List zRow := [(0, .aload_n 0, 1, (0, 0, 0)), (1, .getfield 72, 3, (12, 42, 5243682)), (4, .aload_n 0, 1, (0, 0, 0)), (5, .getfield 385, 3, (12, 44, 0)), (8, .iload_n 1, 1, (0, 0, 0)), (9, .iastore, 1, (0, 0, 0)), (10, .aload_n 0, 1, (0, 0, 0)), (11, .dup, 1, (0, 0, 0)), (12, .getfield 385, 3, (12, 44, 0)), (15, .iconst 1, 1, (0, 0, 0)), (16, .iadd, 1, (0, 0, 0)), (17, .putfield 385, 3, (12, 44, 0))]
theorem K277_0 : zRk 277 B277_0 = true := zRw_ok (by decide +kernel)
noncomputable def B278_0 : List zRow := [(0, .aload_n 0, 1, (0, 0, 0)), (1, .bipush 32, 2, (0, 0, 0))]
theorem K278_0 : zRk 278 B278_0 = true := zRw_ok (by decide +kernel)
noncomputable def B278_1 : List zRow := [(12, .aload_n 0, 1, (0, 0, 0)), (13, .bipush 48, 2, (0, 0, 0)), (15, .iload_n 1, 1, (0, 0, 0)), (16, .bipush 100, 2, (0, 0, 0)), (18, .idiv, 1, (0, 0, 0))]
theorem K278_1 : zRk 278 B278_1 = true := zRw_ok (by decide +kernel)
noncomputable def B278_2 : List zRow := [(19, .iadd, 1, (0, 0, 0))]
theorem K278_2 : zRk 278 B278_2 = true := zRw_ok (by decide +kernel)
noncomputable def B278_3 : List zRow := [(6, .iload_n 1, 1, (0, 0, 0)), (7, .bipush 99, 2, (0, 0, 0)), (9, .if_icmp .le 14, 3, (0, 0, 0))]
theorem K278_3 : zRk 278 B278_3 = true := zRw_ok (by decide +kernel)
noncomputable def B278_4 : List zRow := [(29, .aload_n 0, 1, (0, 0, 0)), (30, .bipush 48, 2, (0, 0, 0)), (32, .iload_n 1, 1, (0, 0, 0)), (33, .bipush 10, 2, (0, 0, 0)), (35, .idiv, 1, (0, 0, 0)), (36, .bipush 10, 2, (0, 0, 0)), (38, .irem, 1, (0, 0, 0))]
theorem K278_4 : zRk 278 B278_4 = true := zRw_ok (by decide +kernel)
noncomputable def B278_5 : List zRow := [(39, .iadd, 1, (0, 0, 0))]
theorem K278_5 : zRk 278 B278_5 = true := zRw_ok (by decide +kernel)
noncomputable def B278_6 : List zRow := [(23, .iload_n 1, 1, (0, 0, 0)), (24, .bipush 9, 2, (0, 0, 0)), (26, .if_icmp .le 17, 3, (0, 0, 0))]
theorem K278_6 : zRk 278 B278_6 = true := zRw_ok (by decide +kernel)
noncomputable def B278_7 : List zRow := [(43, .aload_n 0, 1, (0, 0, 0)), (44, .bipush 48, 2, (0, 0, 0)), (46, .iload_n 1, 1, (0, 0, 0)), (47, .bipush 10, 2, (0, 0, 0)), (49, .irem, 1, (0, 0, 0))]
theorem K278_7 : zRk 278 B278_7 = true := zRw_ok (by decide +kernel)
noncomputable def B278_8 : List zRow := [(50, .iadd, 1, (0, 0, 0))]
theorem K278_8 : zRk 278 B278_8 = true := zRw_ok (by decide +kernel)
noncomputable def B276_0 : List zRow := [(0, .aload_n 0, 1, (0, 0, 0)), (1, .iconst 0, 1, (0, 0, 0)), (2, .putfield 81, 3, (12, 0, 0)), (5, .aload_n 0, 1, (0, 0, 0)), (6, .iload_n 1, 1, (0, 0, 0))]
theorem K276_0 : zRk 276 B276_0 = true := zRw_ok (by decide +kernel)
noncomputable def B276_1 : List zRow := [(15, .aload_n 0, 1, (0, 0, 0)), (16, .iconst 0, 1, (0, 0, 0)), (17, .putfield 385, 3, (12, 44, 0)), (20, .iconst 0, 1, (0, 0, 0)), (21, .istore_n 2, 1, (0, 0, 0))]
theorem K276_1 : zRk 276 B276_1 = true := zRw_ok (by decide +kernel)
noncomputable def B276_2 : List zRow := [(13, .iconst (-1), 1, (0, 0, 0))]
theorem K276_2 : zRk 276 B276_2 = true := zRw_ok (by decide +kernel)
noncomputable def B276_3 : List zRow := [(10, .ifCond .ne 5, 3, (0, 0, 0))]
theorem K276_3 : zRk 276 B276_3 = true := zRw_ok (by decide +kernel)
noncomputable def B276_4 : List zRow := [(175, .aload_n 0, 1, (0, 0, 0)), (176, .getfield 385, 3, (12, 44, 0))]
theorem K276_4 : zRk 276 B276_4 = true := zRw_ok (by decide +kernel)
noncomputable def B276_5 : List zRow := [(34, .sipush 998, 3, (0, 0, 0)), (37, .iconst 5, 1, (0, 0, 0)), (38, .iload_n 2, 1, (0, 0, 0))]
theorem K276_5 : zRk 276 B276_5 = true := zRw_ok (by decide +kernel)
noncomputable def B276_6 : List zRow := [(39, .imul, 1, (0, 0, 0))]
theorem K276_6 : zRk 276 B276_6 = true := zRw_ok (by decide +kernel)
noncomputable def B276_7 : List zRow := [(55, .iconst 0, 1, (0, 0, 0)), (56, .istore 4, 2, (0, 0, 0)), (58, .aload_n 0, 1, (0, 0, 0)), (59, .getfield 28, 3, (12, 19, 5505074)), (62, .aload_n 0, 1, (0, 0, 0)), (63, .getfield 13, 3, (12, 14, 5251442)), (66, .iload_n 3, 1, (0, 0, 0)), (67, .iconst 1, 1, (0, 0, 0)), (68, .iadd, 1, (0, 0, 0)), (69, .iaload, 1, (0, 0, 0)), (70, .laload, 1, (0, 0, 0)), (71, .lstore 5, 2, (0, 0, 0))]
theorem K276_7 : zRk 276 B276_7 = true := zRw_ok (by decide +kernel)
noncomputable def B276_8 : List zRow := [(52, .goto 117, 3, (0, 0, 0))]
theorem K276_8 : zRk 276 B276_8 = true := zRw_ok (by decide +kernel)
noncomputable def B276_9 : List zRow := [(40, .iadd, 1, (0, 0, 0)), (41, .istore_n 3, 1, (0, 0, 0)), (42, .aload_n 0, 1, (0, 0, 0)), (43, .getfield 13, 3, (12, 14, 5251442)), (46, .iload_n 3, 1, (0, 0, 0)), (47, .iaload, 1, (0, 0, 0)), (48, .iload_n 1, 1, (0, 0, 0)), (49, .if_icmp .eq 6, 3, (0, 0, 0))]
theorem K276_9 : zRk 276 B276_9 = true := zRw_ok (by decide +kernel)
noncomputable def B276_10 : List zRow := [(22, .iload_n 2, 1, (0, 0, 0)), (23, .aload_n 0, 1, (0, 0, 0)), (24, .getfield 13, 3, (12, 14, 5251442)), (27, .sipush 997, 3, (0, 0, 0)), (30, .iaload, 1, (0, 0, 0)), (31, .if_icmp .ge 144, 3, (0, 0, 0))]
theorem K276_10 : zRk 276 B276_10 = true := zRw_ok (by decide +kernel)
noncomputable def B276_11 : List zRow := [(169, .iinc 2 1, 3, (0, 0, 0)), (172, .goto (-150), 3, (0, 0, 0))]
theorem K276_11 : zRk 276 B276_11 = true := zRw_ok (by decide +kernel)
noncomputable def B276_12 : List zRow := [(111, .iload 4, 2, (0, 0, 0)), (113, .iconst 1, 1, (0, 0, 0)), (114, .isub, 1, (0, 0, 0)), (115, .istore 5, 2, (0, 0, 0))]
theorem K276_12 : zRk 276 B276_12 = true := zRw_ok (by decide +kernel)
noncomputable def B276_13 : List zRow := [(80, .aload_n 0, 1, (0, 0, 0)), (81, .getfield 75, 3, (12, 43, 5242910)), (84, .iload 4, 2, (0, 0, 0)), (86, .lload 5, 2, (0, 0, 0)), (88, .ldc2_w 130, 3, (0, 0, 27)), (91, .lrem, 1, (0, 0, 0)), (92, .l2i, 1, (0, 0, 0)), (93, .bipush 96, 2, (0, 0, 0)), (95, .iadd, 1, (0, 0, 0)), (96, .iastore, 1, (0, 0, 0)), (97, .iinc 4 1, 3, (0, 0, 0)), (100, .lload 5, 2, (0, 0, 0)), (102, .ldc2_w 130, 3, (0, 0, 27)), (105, .ldiv, 1, (0, 0, 0)), (106, .lstore 5, 2, (0, 0, 0)), (108, .goto (-35), 3, (0, 0, 0))]
theorem K276_13 : zRk 276 B276_13 = true := zRw_ok (by decide +kernel)
noncomputable def B276_14 : List zRow := [(73, .lload 5, 2, (0, 0, 0)), (75, .lconst 0, 1, (0, 0, 0)), (76, .lcmp, 1, (0, 0, 0)), (77, .ifCond .le 34, 3, (0, 0, 0))]
theorem K276_14 : zRk 276 B276_14 = true := zRw_ok (by decide +kernel)
noncomputable def B276_15 : List zRow := [(139, .aload_n 0, 1, (0, 0, 0)), (140, .aload_n 0, 1, (0, 0, 0)), (141, .getfield 13, 3, (12, 14, 5251442)), (144, .iload_n 3, 1, (0, 0, 0)), (145, .iconst 2, 1, (0, 0, 0)), (146, .iadd, 1, (0, 0, 0)), (147, .iaload, 1, (0, 0, 0))]
theorem K276_15 : zRk 276 B276_15 = true := zRw_ok (by decide +kernel)
noncomputable def B276_16 : List zRow := [(151, .aload_n 0, 1, (0, 0, 0)), (152, .aload_n 0, 1, (0, 0, 0)), (153, .getfield 13, 3, (12, 14, 5251442)), (156, .iload_n 3, 1, (0, 0, 0)), (157, .iconst 3, 1, (0, 0, 0)), (158, .iadd, 1, (0, 0, 0)), (159, .iaload, 1, (0, 0, 0))]
theorem K276_16 : zRk 276 B276_16 = true := zRw_ok (by decide +kernel)
noncomputable def B276_17 : List zRow := [(163, .aload_n 0, 1, (0, 0, 0)), (164, .bipush 59, 2, (0, 0, 0))]
theorem K276_17 : zRk 276 B276_17 = true := zRw_ok (by decide +kernel)
noncomputable def B276_18 : List zRow := [(122, .aload_n 0, 1, (0, 0, 0)), (123, .aload_n 0, 1, (0, 0, 0)), (124, .getfield 75, 3, (12, 43, 5242910)), (127, .iload 5, 2, (0, 0, 0)), (129, .iaload, 1, (0, 0, 0))]
theorem K276_18 : zRk 276 B276_18 = true := zRw_ok (by decide +kernel)
noncomputable def B276_19 : List zRow := [(133, .iinc 5 (-1), 3, (0, 0, 0)), (136, .goto (-19), 3, (0, 0, 0))]
theorem K276_19 : zRk 276 B276_19 = true := zRw_ok (by decide +kernel)
noncomputable def B276_20 : List zRow := [(117, .iload 5, 2, (0, 0, 0)), (119, .ifCond .lt 20, 3, (0, 0, 0))]
theorem K276_20 : zRk 276 B276_20 = true := zRw_ok (by decide +kernel)
noncomputable def B146_0 : List zRow := [(21, .iconst (-1), 1, (0, 0, 0))]
theorem K146_0 : zRk 146 B146_0 = true := zRw_ok (by decide +kernel)
noncomputable def B146_1 : List zRow := [(12, .aload_n 0, 1, (0, 0, 0)), (13, .getfield 95, 3, (11, 13, 5243266)), (16, .iload_n 1, 1, (0, 0, 0)), (17, .iaload, 1, (0, 0, 0)), (18, .goto 4, 3, (0, 0, 0))]
theorem K146_1 : zRk 146 B146_1 = true := zRw_ok (by decide +kernel)
noncomputable def B146_2 : List zRow := [(4, .iload_n 1, 1, (0, 0, 0)), (5, .aload_n 0, 1, (0, 0, 0)), (6, .getfield 327, 3, (11, 14, 0)), (9, .if_icmp .ge 12, 3, (0, 0, 0))]
theorem K146_2 : zRk 146 B146_2 = true := zRw_ok (by decide +kernel)
noncomputable def B146_3 : List zRow := [(0, .iload_n 1, 1, (0, 0, 0)), (1, .ifCond .lt 20, 3, (0, 0, 0))]
theorem K146_3 : zRk 146 B146_3 = true := zRw_ok (by decide +kernel)
noncomputable def B279_0 : List zRow := [(26, .iconst (-1), 1, (0, 0, 0))]
theorem K279_0 : zRk 279 B279_0 = true := zRw_ok (by decide +kernel)
noncomputable def B279_1 : List zRow := [(17, .aload_n 0, 1, (0, 0, 0)), (18, .getfield 72, 3, (12, 42, 5243682)), (21, .iload_n 1, 1, (0, 0, 0)), (22, .iaload, 1, (0, 0, 0)), (23, .goto 4, 3, (0, 0, 0))]
theorem K279_1 : zRk 279 B279_1 = true := zRw_ok (by decide +kernel)
noncomputable def B279_2 : List zRow := [(9, .iload_n 1, 1, (0, 0, 0)), (10, .aload_n 0, 1, (0, 0, 0)), (11, .getfield 385, 3, (12, 44, 0)), (14, .if_icmp .ge 12, 3, (0, 0, 0))]
theorem K279_2 : zRk 279 B279_2 = true := zRw_ok (by decide +kernel)
noncomputable def B279_3 : List zRow := [(0, .aload_n 0, 1, (0, 0, 0)), (1, .iconst 0, 1, (0, 0, 0)), (2, .putfield 81, 3, (12, 0, 0)), (5, .iload_n 1, 1, (0, 0, 0)), (6, .ifCond .lt 20, 3, (0, 0, 0))]
theorem K279_3 : zRk 279 B279_3 = true := zRw_ok (by decide +kernel)
noncomputable def B152_0 : List zRow := [(20, .iconst 0, 1, (0, 0, 0))]
theorem K152_0 : zRk 152 B152_0 = true := zRw_ok (by decide +kernel)
noncomputable def B152_1 : List zRow := [(16, .iconst 1, 1, (0, 0, 0)), (17, .goto 4, 3, (0, 0, 0))]
theorem K152_1 : zRk 152 B152_1 = true := zRw_ok (by decide +kernel)
noncomputable def B152_2 : List zRow := [(8, .aload_n 0, 1, (0, 0, 0)), (9, .getfield 82, 3, (5, 6, 0)), (12, .iload_n 1, 1, (0, 0, 0)), (13, .if_icmp .ne 7, 3, (0, 0, 0))]
theorem K152_2 : zRk 152 B152_2 = true := zRw_ok (by decide +kernel)
noncomputable def B152_3 : List zRow := [(0, .aload_n 0, 1, (0, 0, 0)), (1, .getfield 70, 3, (5, 4, 0)), (4, .iconst 3, 1, (0, 0, 0)), (5, .if_icmp .ne 15, 3, (0, 0, 0))]
theorem K152_3 : zRk 152 B152_3 = true := zRw_ok (by decide +kernel)
noncomputable def B153_0 : List zRow := [(9, .aload_n 0, 1, (0, 0, 0)), (10, .getfield 9, 3, (6, 2, 5243362)), (13, .aload_n 0, 1, (0, 0, 0)), (14, .getfield 23, 3, (6, 1, 0)), (17, .iconst 3, 1, (0, 0, 0)), (18, .imul, 1, (0, 0, 0)), (19, .iload_n 1, 1, (0, 0, 0)), (20, .iastore, 1, (0, 0, 0)), (21, .aload_n 0, 1, (0, 0, 0)), (22, .getfield 9, 3, (6, 2, 5243362)), (25, .aload_n 0, 1, (0, 0, 0)), (26, .getfield 23, 3, (6, 1, 0)), (29, .iconst 3, 1, (0, 0, 0)), (30, .imul, 1, (0, 0, 0)), (31, .iconst 1, 1, (0, 0, 0)), (32, .iadd, 1, (0, 0, 0)), (33, .iload_n 2, 1, (0, 0, 0)), (34, .iastore, 1, (0, 0, 0)), (35, .aload_n 0, 1, (0, 0, 0)), (36, .getfield 9, 3, (6, 2, 5243362)), (39, .aload_n 0, 1, (0, 0, 0)), (40, .getfield 23, 3, (6, 1, 0)), (43, .iconst 3, 1, (0, 0, 0)), (44, .imul, 1, (0, 0, 0)), (45, .iconst 2, 1, (0, 0, 0)), (46, .iadd, 1, (0, 0, 0)), (47, .iload_n 3, 1, (0, 0, 0)), (48, .iastore, 1, (0, 0, 0)), (49, .aload_n 0, 1, (0, 0, 0)), (50, .dup, 1, (0, 0, 0)), (51, .getfield 23, 3, (6, 1, 0)), (54, .iconst 1, 1, (0, 0, 0)), (55, .iadd, 1, (0, 0, 0)), (56, .putfield 23, 3, (6, 1, 0))]
theorem K153_0 : zRk 153 B153_0 = true := zRw_ok (by decide +kernel)
noncomputable def B153_1 : List zRow := [(0, .aload_n 0, 1, (0, 0, 0)), (1, .getfield 23, 3, (6, 1, 0)), (4, .bipush 40, 2, (0, 0, 0)), (6, .if_icmp .ge 53, 3, (0, 0, 0))]
theorem K153_1 : zRk 153 B153_1 = true := zRw_ok (by decide +kernel)
noncomputable def B154_0 : List zRow := [(0, .aload_n 0, 1, (0, 0, 0)), (1, .getfield 18, 3, (7, 1, 23)), (4, .getfield 66, 3, (5, 6, 0)), (7, .istore_n 2, 1, (0, 0, 0)), (8, .aload_n 0, 1, (0, 0, 0)), (9, .getfield 18, 3, (7, 1, 23))]
theorem K154_0 : zRk 154 B154_0 = true := zRw_ok (by decide +kernel)
noncomputable def B154_1 : List zRow := [(86, .aload_n 0, 1, (0, 0, 0)), (87, .getfield 18, 3, (7, 1, 23)), (90, .bipush 60, 2, (0, 0, 0))]
theorem K154_1 : zRk 154 B154_1 = true := zRw_ok (by decide +kernel)
noncomputable def B154_2 : List zRow := [(98, .aload_n 0, 1, (0, 0, 0)), (99, .getfield 18, 3, (7, 1, 23)), (102, .bipush 61, 2, (0, 0, 0))]
theorem K154_2 : zRk 154 B154_2 = true := zRw_ok (by decide +kernel)
noncomputable def B154_3 : List zRow := [(110, .aload_n 0, 1, (0, 0, 0)), (111, .getfield 18, 3, (7, 1, 23)), (114, .bipush 62, 2, (0, 0, 0))]
theorem K154_3 : zRk 154 B154_3 = true := zRw_ok (by decide +kernel)
noncomputable def B154_4 : List zRow := [(122, .aload_n 0, 1, (0, 0, 0)), (123, .getfield 18, 3, (7, 1, 23)), (126, .iconst 1, 1, (0, 0, 0))]
theorem K154_4 : zRk 154 B154_4 = true := zRw_ok (by decide +kernel)
noncomputable def B154_5 : List zRow := [(119, .ifCond .ne 12, 3, (0, 0, 0))]
theorem K154_5 : zRk 154 B154_5 = true := zRw_ok (by decide +kernel)
noncomputable def B154_6 : List zRow := [(107, .ifCond .ne 24, 3, (0, 0, 0))]
theorem K154_6 : zRk 154 B154_6 = true := zRw_ok (by decide +kernel)
noncomputable def B154_7 : List zRow := [(95, .ifCond .ne 36, 3, (0, 0, 0))]
theorem K154_7 : zRk 154 B154_7 = true := zRw_ok (by decide +kernel)
noncomputable def B154_8 : List zRow := [(45, .iload_n 2, 1, (0, 0, 0)), (46, .bipush 16, 2, (0, 0, 0)), (48, .if_icmp .ne 38, 3, (0, 0, 0))]
theorem K154_8 : zRk 154 B154_8 = true := zRw_ok (by decide +kernel)
noncomputable def B154_9 : List zRow := [(39, .iload_n 2, 1, (0, 0, 0)), (40, .bipush 15, 2, (0, 0, 0)), (42, .if_icmp .eq 9, 3, (0, 0, 0))]
theorem K154_9 : zRk 154 B154_9 = true := zRw_ok (by decide +kernel)
noncomputable def B154_10 : List zRow := [(21, .iload_n 2, 1, (0, 0, 0)), (22, .bipush 14, 2, (0, 0, 0)), (24, .if_icmp .ne 15, 3, (0, 0, 0))]
theorem K154_10 : zRk 154 B154_10 = true := zRw_ok (by decide +kernel)
noncomputable def B154_11 : List zRow := [(15, .iload_n 2, 1, (0, 0, 0)), (16, .bipush 13, 2, (0, 0, 0)), (18, .if_icmp .eq 9, 3, (0, 0, 0))]
theorem K154_11 : zRk 154 B154_11 = true := zRw_ok (by decide +kernel)
noncomputable def B154_12 : List zRow := [(131, .aload_n 0, 1, (0, 0, 0)), (132, .getfield 18, 3, (7, 1, 23)), (135, .getfield 66, 3, (5, 6, 0)), (138, .istore_n 3, 1, (0, 0, 0)), (139, .aload_n 0, 1, (0, 0, 0)), (140, .getfield 18, 3, (7, 1, 23))]
theorem K154_12 : zRk 154 B154_12 = true := zRw_ok (by decide +kernel)
noncomputable def B154_13 : List zRow := [(166, .aload_n 0, 1, (0, 0, 0)), (167, .getfield 12, 3, (7, 0, 155)), (170, .iload_n 2, 1, (0, 0, 0)), (171, .iload_n 3, 1, (0, 0, 0)), (172, .aload_n 0, 1, (0, 0, 0)), (173, .getfield 18, 3, (7, 1, 23)), (176, .getfield 66, 3, (5, 6, 0))]
theorem K154_13 : zRk 154 B154_13 = true := zRw_ok (by decide +kernel)
noncomputable def B154_14 : List zRow := [(182, .aload_n 0, 1, (0, 0, 0)), (183, .getfield 18, 3, (7, 1, 23))]
theorem K154_14 : zRk 154 B154_14 = true := zRw_ok (by decide +kernel)
noncomputable def B154_15 : List zRow := [(189, .iconst 1, 1, (0, 0, 0))]
theorem K154_15 : zRk 154 B154_15 = true := zRw_ok (by decide +kernel)
noncomputable def B154_16 : List zRow := [(157, .aload_n 0, 1, (0, 0, 0)), (158, .getfield 18, 3, (7, 1, 23)), (161, .iconst 1, 1, (0, 0, 0))]
theorem K154_16 : zRk 154 B154_16 = true := zRw_ok (by decide +kernel)
noncomputable def B154_17 : List zRow := [(146, .aload_n 0, 1, (0, 0, 0)), (147, .getfield 18, 3, (7, 1, 23)), (150, .getfield 62, 3, (5, 4, 0)), (153, .iconst 4, 1, (0, 0, 0)), (154, .if_icmp .eq 12, 3, (0, 0, 0))]
theorem K154_17 : zRk 154 B154_17 = true := zRw_ok (by decide +kernel)
noncomputable def B154_18 : List zRow := [(51, .aload_n 0, 1, (0, 0, 0)), (52, .getfield 18, 3, (7, 1, 23)), (55, .aload_n 1, 1, (0, 0, 0))]
theorem K154_18 : zRk 154 B154_18 = true := zRw_ok (by decide +kernel)
noncomputable def B154_19 : List zRow := [(67, .aload_n 0, 1, (0, 0, 0)), (68, .getfield 12, 3, (7, 0, 155)), (71, .iload_n 2, 1, (0, 0, 0)), (72, .iconst 0, 1, (0, 0, 0)), (73, .iload_n 3, 1, (0, 0, 0))]
theorem K154_19 : zRk 154 B154_19 = true := zRw_ok (by decide +kernel)
noncomputable def B154_20 : List zRow := [(77, .aload_n 0, 1, (0, 0, 0)), (78, .getfield 18, 3, (7, 1, 23))]
theorem K154_20 : zRk 154 B154_20 = true := zRw_ok (by decide +kernel)
noncomputable def B154_21 : List zRow := [(84, .iconst 1, 1, (0, 0, 0))]
theorem K154_21 : zRk 154 B154_21 = true := zRw_ok (by decide +kernel)
noncomputable def B154_22 : List zRow := [(65, .iconst 0, 1, (0, 0, 0))]
theorem K154_22 : zRk 154 B154_22 = true := zRw_ok (by decide +kernel)
noncomputable def B154_23 : List zRow := [(59, .istore_n 3, 1, (0, 0, 0)), (60, .iload_n 3, 1, (0, 0, 0)), (61, .iconst (-1), 1, (0, 0, 0)), (62, .if_icmp .ne 5, 3, (0, 0, 0))]
theorem K154_23 : zRk 154 B154_23 = true := zRw_ok (by decide +kernel)
noncomputable def B154_24 : List zRow := [(27, .aload_n 0, 1, (0, 0, 0)), (28, .getfield 12, 3, (7, 0, 155)), (31, .iload_n 2, 1, (0, 0, 0)), (32, .iconst 0, 1, (0, 0, 0)), (33, .iconst 0, 1, (0, 0, 0))]
theorem K154_24 : zRk 154 B154_24 = true := zRw_ok (by decide +kernel)
noncomputable def B154_25 : List zRow := [(37, .iconst 1, 1, (0, 0, 0))]
theorem K154_25 : zRk 154 B154_25 = true := zRw_ok (by decide +kernel)
noncomputable def B150b_0 : List zRow := [(0, .aload_n 0, 1, (0, 0, 0)), (1, .aload_n 1, 1, (0, 0, 0)), (2, .iload_n 2, 1, (0, 0, 0))]
theorem K150b_0 : zRk 150 B150b_0 = true := zRw_ok (by decide +kernel)
noncomputable def B150b_1 : List zRow := [(11, .iconst 0, 1, (0, 0, 0)), (12, .istore_n 3, 1, (0, 0, 0))]
theorem K150b_1 : zRk 150 B150b_1 = true := zRw_ok (by decide +kernel)
noncomputable def B150b_2 : List zRow := [(9, .iconst 0, 1, (0, 0, 0))]
theorem K150b_2 : zRk 150 B150b_2 = true := zRw_ok (by decide +kernel)
noncomputable def B150b_3 : List zRow := [(6, .ifCond .ne 5, 3, (0, 0, 0))]
theorem K150b_3 : zRk 150 B150b_3 = true := zRw_ok (by decide +kernel)
noncomputable def B150b_4 : List zRow := [(67, .iconst 1, 1, (0, 0, 0))]
theorem K150b_4 : zRk 150 B150b_4 = true := zRw_ok (by decide +kernel)
noncomputable def B150b_5 : List zRow := [(20, .aload_n 0, 1, (0, 0, 0)), (21, .getfield 18, 3, (7, 1, 23)), (24, .bipush 11, 2, (0, 0, 0))]
theorem K150b_5 : zRk 150 B150b_5 = true := zRw_ok (by decide +kernel)
noncomputable def B150b_6 : List zRow := [(32, .aload_n 0, 1, (0, 0, 0)), (33, .getfield 18, 3, (7, 1, 23))]
theorem K150b_6 : zRk 150 B150b_6 = true := zRw_ok (by decide +kernel)
noncomputable def B150b_7 : List zRow := [(39, .aload_n 0, 1, (0, 0, 0)), (40, .aload_n 1, 1, (0, 0, 0)), (41, .iload_n 2, 1, (0, 0, 0))]
theorem K150b_7 : zRk 150 B150b_7 = true := zRw_ok (by decide +kernel)
noncomputable def B150b_8 : List zRow := [(50, .aload_n 0, 1, (0, 0, 0)), (51, .getfield 12, 3, (7, 0, 155)), (54, .bipush 11, 2, (0, 0, 0)), (56, .iconst 0, 1, (0, 0, 0)), (57, .iconst 0, 1, (0, 0, 0))]
theorem K150b_8 : zRk 150 B150b_8 = true := zRw_ok (by decide +kernel)
noncomputable def B150b_9 : List zRow := [(61, .iinc 3 1, 3, (0, 0, 0)), (64, .goto (-51), 3, (0, 0, 0))]
theorem K150b_9 : zRk 150 B150b_9 = true := zRw_ok (by decide +kernel)
noncomputable def B150b_10 : List zRow := [(48, .iconst 0, 1, (0, 0, 0))]
theorem K150b_10 : zRk 150 B150b_10 = true := zRw_ok (by decide +kernel)
noncomputable def B150b_11 : List zRow := [(45, .ifCond .ne 5, 3, (0, 0, 0))]
theorem K150b_11 : zRk 150 B150b_11 = true := zRw_ok (by decide +kernel)
noncomputable def B150b_12 : List zRow := [(29, .ifCond .eq 38, 3, (0, 0, 0))]
theorem K150b_12 : zRk 150 B150b_12 = true := zRw_ok (by decide +kernel)
noncomputable def B150b_13 : List zRow := [(13, .iload_n 3, 1, (0, 0, 0)), (14, .sipush 940, 3, (0, 0, 0)), (17, .if_icmp .ge 50, 3, (0, 0, 0))]
theorem K150b_13 : zRk 150 B150b_13 = true := zRw_ok (by decide +kernel)
