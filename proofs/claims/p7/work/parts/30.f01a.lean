noncomputable def B15_0 : List zRow := [(0, .bipush 24, 2, (0, 0, 0)), (2, .istore_n 2, 1, (0, 0, 0))]
theorem K15_0 : zRk 15 B15_0 = true := zRw_ok (by decide +kernel)
noncomputable def B15_1 : List zRow := [(17, .aload_n 0, 1, (0, 0, 0)), (18, .getfield 9, 3, (5, 0, 5246642)), (21, .aload_n 0, 1, (0, 0, 0)), (22, .getfield 39, 3, (5, 1, 0)), (25, .iload_n 1, 1, (0, 0, 0)), (26, .iload_n 2, 1, (0, 0, 0)), (27, .iushr, 1, (0, 0, 0)), (28, .sipush 255, 3, (0, 0, 0)), (31, .iand, 1, (0, 0, 0)), (32, .iastore, 1, (0, 0, 0)), (33, .aload_n 0, 1, (0, 0, 0)), (34, .dup, 1, (0, 0, 0)), (35, .getfield 39, 3, (5, 1, 0)), (38, .iconst 1, 1, (0, 0, 0)), (39, .iadd, 1, (0, 0, 0)), (40, .putfield 39, 3, (5, 1, 0)), (43, .iinc 2 (-8), 3, (0, 0, 0)), (46, .goto (-43), 3, (0, 0, 0))]
theorem K15_1 : zRk 15 B15_1 = true := zRw_ok (by decide +kernel)
noncomputable def B15_2 : List zRow := [(7, .aload_n 0, 1, (0, 0, 0)), (8, .getfield 39, 3, (5, 1, 0)), (11, .sipush 940, 3, (0, 0, 0)), (14, .if_icmp .ge 35, 3, (0, 0, 0))]
theorem K15_2 : zRk 15 B15_2 = true := zRw_ok (by decide +kernel)
noncomputable def B15_3 : List zRow := [(3, .iload_n 2, 1, (0, 0, 0)), (4, .ifCond .lt 45, 3, (0, 0, 0))]
theorem K15_3 : zRk 15 B15_3 = true := zRw_ok (by decide +kernel)
noncomputable def B14_0 : List zRow := [(18, .aload_n 0, 1, (0, 0, 0)), (19, .getfield 12, 3, (11, 0, 23)), (22, .iload_n 1, 1, (0, 0, 0))]
theorem K14_0 : zRk 14 B14_0 = true := zRw_ok (by decide +kernel)
noncomputable def B14_1 : List zRow := [(26, .aload_n 0, 1, (0, 0, 0)), (27, .getfield 12, 3, (11, 0, 23)), (30, .iload_n 2, 1, (0, 0, 0))]
theorem K14_1 : zRk 14 B14_1 = true := zRw_ok (by decide +kernel)
noncomputable def B14_2 : List zRow := [(34, .aload_n 0, 1, (0, 0, 0)), (35, .getfield 12, 3, (11, 0, 23)), (38, .iload_n 3, 1, (0, 0, 0))]
theorem K14_2 : zRk 14 B14_2 = true := zRw_ok (by decide +kernel)
noncomputable def B14_3 : List zRow := [(42, .aload_n 0, 1, (0, 0, 0)), (43, .getfield 12, 3, (11, 0, 23)), (46, .iload 4, 2, (0, 0, 0))]
theorem K14_3 : zRk 14 B14_3 = true := zRw_ok (by decide +kernel)
noncomputable def B14_4 : List zRow := [(51, .aload_n 0, 1, (0, 0, 0)), (52, .getfield 12, 3, (11, 0, 23)), (55, .iload 5, 2, (0, 0, 0))]
theorem K14_4 : zRk 14 B14_4 = true := zRw_ok (by decide +kernel)
noncomputable def B14_5 : List zRow := [(60, .aload_n 0, 1, (0, 0, 0)), (61, .getfield 12, 3, (11, 0, 23)), (64, .getfield 105, 3, (5, 1, 0))]
theorem K14_5 : zRk 14 B14_5 = true := zRw_ok (by decide +kernel)
noncomputable def B14_6 : List zRow := [(16, .iconst (-1), 1, (0, 0, 0))]
theorem K14_6 : zRk 14 B14_6 = true := zRw_ok (by decide +kernel)
noncomputable def B14_7 : List zRow := [(0, .aload_n 0, 1, (0, 0, 0)), (1, .getfield 12, 3, (11, 0, 23)), (4, .getfield 105, 3, (5, 1, 0)), (7, .bipush 20, 2, (0, 0, 0)), (9, .iadd, 1, (0, 0, 0)), (10, .sipush 940, 3, (0, 0, 0)), (13, .if_icmp .le 5, 3, (0, 0, 0))]
theorem K14_7 : zRk 14 B14_7 = true := zRw_ok (by decide +kernel)
noncomputable def B171_0 : List zRow := [(0, .bipush 24, 2, (0, 0, 0)), (2, .istore_n 2, 1, (0, 0, 0))]
theorem K171_0 : zRk 171 B171_0 = true := zRw_ok (by decide +kernel)
noncomputable def B171_1 : List zRow := [(7, .aload_n 0, 1, (0, 0, 0)), (8, .getfield 7, 3, (12, 1, 5246642)), (11, .aload_n 0, 1, (0, 0, 0)), (12, .getfield 85, 3, (12, 2, 0)), (15, .iload_n 1, 1, (0, 0, 0)), (16, .iload_n 2, 1, (0, 0, 0)), (17, .iushr, 1, (0, 0, 0)), (18, .sipush 255, 3, (0, 0, 0)), (21, .iand, 1, (0, 0, 0)), (22, .iastore, 1, (0, 0, 0)), (23, .aload_n 0, 1, (0, 0, 0)), (24, .dup, 1, (0, 0, 0)), (25, .getfield 85, 3, (12, 2, 0)), (28, .iconst 1, 1, (0, 0, 0)), (29, .iadd, 1, (0, 0, 0)), (30, .putfield 85, 3, (12, 2, 0)), (33, .iinc 2 (-8), 3, (0, 0, 0)), (36, .goto (-33), 3, (0, 0, 0))]
theorem K171_1 : zRk 171 B171_1 = true := zRw_ok (by decide +kernel)
noncomputable def B171_2 : List zRow := [(3, .iload_n 2, 1, (0, 0, 0)), (4, .ifCond .lt 35, 3, (0, 0, 0))]
theorem K171_2 : zRk 171 B171_2 = true := zRw_ok (by decide +kernel)
noncomputable def B170_0 : List zRow := [(20, .aload_n 0, 1, (0, 0, 0)), (21, .iload_n 1, 1, (0, 0, 0))]
theorem K170_0 : zRk 170 B170_0 = true := zRw_ok (by decide +kernel)
noncomputable def B170_1 : List zRow := [(25, .aload_n 0, 1, (0, 0, 0)), (26, .iload_n 2, 1, (0, 0, 0))]
theorem K170_1 : zRk 170 B170_1 = true := zRw_ok (by decide +kernel)
noncomputable def B170_2 : List zRow := [(30, .aload_n 0, 1, (0, 0, 0)), (31, .iload_n 3, 1, (0, 0, 0))]
theorem K170_2 : zRk 170 B170_2 = true := zRw_ok (by decide +kernel)
noncomputable def B170_3 : List zRow := [(35, .aload_n 0, 1, (0, 0, 0)), (36, .iload 4, 2, (0, 0, 0))]
theorem K170_3 : zRk 170 B170_3 = true := zRw_ok (by decide +kernel)
noncomputable def B170_4 : List zRow := [(41, .aload_n 0, 1, (0, 0, 0)), (42, .iload 5, 2, (0, 0, 0))]
theorem K170_4 : zRk 170 B170_4 = true := zRw_ok (by decide +kernel)
noncomputable def B170_5 : List zRow := [(47, .aload_n 0, 1, (0, 0, 0)), (48, .getfield 85, 3, (12, 2, 0))]
theorem K170_5 : zRk 170 B170_5 = true := zRw_ok (by decide +kernel)
noncomputable def B170_6 : List zRow := [(18, .iconst (-1), 1, (0, 0, 0))]
theorem K170_6 : zRk 170 B170_6 = true := zRw_ok (by decide +kernel)
noncomputable def B170_7 : List zRow := [(0, .aload_n 0, 1, (0, 0, 0)), (1, .iconst 0, 1, (0, 0, 0)), (2, .putfield 81, 3, (12, 0, 0)), (5, .aload_n 0, 1, (0, 0, 0)), (6, .getfield 85, 3, (12, 2, 0)), (9, .bipush 20, 2, (0, 0, 0)), (11, .iadd, 1, (0, 0, 0)), (12, .sipush 940, 3, (0, 0, 0)), (15, .if_icmp .le 5, 3, (0, 0, 0))]
theorem K170_7 : zRk 170 B170_7 = true := zRw_ok (by decide +kernel)
noncomputable def B16_0 : List zRow := [(15, .iconst 0, 1, (0, 0, 0))]
theorem K16_0 : zRk 16 B16_0 = true := zRw_ok (by decide +kernel)
noncomputable def B16_1 : List zRow := [(17, .aload_n 0, 1, (0, 0, 0)), (18, .getfield 12, 3, (11, 0, 23)), (21, .iload_n 1, 1, (0, 0, 0)), (22, .putfield 105, 3, (5, 1, 0)), (25, .iconst 1, 1, (0, 0, 0))]
theorem K16_1 : zRk 16 B16_1 = true := zRw_ok (by decide +kernel)
noncomputable def B16_2 : List zRow := [(4, .iload_n 1, 1, (0, 0, 0)), (5, .aload_n 0, 1, (0, 0, 0)), (6, .getfield 12, 3, (11, 0, 23)), (9, .getfield 105, 3, (5, 1, 0)), (12, .if_icmp .le 5, 3, (0, 0, 0))]
theorem K16_2 : zRk 16 B16_2 = true := zRw_ok (by decide +kernel)
noncomputable def B16_3 : List zRow := [(0, .iload_n 1, 1, (0, 0, 0)), (1, .ifCond .lt 14, 3, (0, 0, 0))]
theorem K16_3 : zRk 16 B16_3 = true := zRw_ok (by decide +kernel)
noncomputable def B172_0 : List zRow := [(17, .iconst 0, 1, (0, 0, 0))]
theorem K172_0 : zRk 172 B172_0 = true := zRw_ok (by decide +kernel)
noncomputable def B172_1 : List zRow := [(19, .aload_n 0, 1, (0, 0, 0)), (20, .iload_n 1, 1, (0, 0, 0)), (21, .putfield 85, 3, (12, 2, 0)), (24, .iconst 1, 1, (0, 0, 0))]
theorem K172_1 : zRk 172 B172_1 = true := zRw_ok (by decide +kernel)
noncomputable def B172_2 : List zRow := [(9, .iload_n 1, 1, (0, 0, 0)), (10, .aload_n 0, 1, (0, 0, 0)), (11, .getfield 85, 3, (12, 2, 0)), (14, .if_icmp .le 5, 3, (0, 0, 0))]
theorem K172_2 : zRk 172 B172_2 = true := zRw_ok (by decide +kernel)
noncomputable def B172_3 : List zRow := [(0, .aload_n 0, 1, (0, 0, 0)), (1, .iconst 0, 1, (0, 0, 0)), (2, .putfield 81, 3, (12, 0, 0)), (5, .iload_n 1, 1, (0, 0, 0)), (6, .ifCond .lt 11, 3, (0, 0, 0))]
theorem K172_3 : zRk 172 B172_3 = true := zRw_ok (by decide +kernel)
noncomputable def B19_0 : List zRow := [(0, .aload_n 0, 1, (0, 0, 0)), (1, .iconst 0, 1, (0, 0, 0)), (2, .putfield 52, 3, (9, 0, 0)), (5, .aload_n 0, 1, (0, 0, 0)), (6, .iconst 0, 1, (0, 0, 0)), (7, .putfield 56, 3, (9, 1, 0)), (10, .aload_n 0, 1, (0, 0, 0)), (11, .iconst 0, 1, (0, 0, 0)), (12, .putfield 59, 3, (9, 2, 0)), (15, .aload_n 0, 1, (0, 0, 0)), (16, .iconst 0, 1, (0, 0, 0)), (17, .putfield 62, 3, (9, 3, 0)), (20, .aload_n 0, 1, (0, 0, 0)), (21, .iconst 0, 1, (0, 0, 0)), (22, .putfield 65, 3, (9, 4, 0)), (25, .aload_n 0, 1, (0, 0, 0)), (26, .iconst 0, 1, (0, 0, 0)), (27, .putfield 68, 3, (9, 5, 0)), (30, .aload_n 0, 1, (0, 0, 0)), (31, .iconst 0, 1, (0, 0, 0)), (32, .putfield 71, 3, (9, 6, 0))]
theorem K19_0 : zRk 19 B19_0 = true := zRw_ok (by decide +kernel)
noncomputable def B23_0 : List zRow := [(16, .iconst 0, 1, (0, 0, 0))]
theorem K23_0 : zRk 23 B23_0 = true := zRw_ok (by decide +kernel)
noncomputable def B23_1 : List zRow := [(6, .iload_n 0, 1, (0, 0, 0)), (7, .bipush 10, 2, (0, 0, 0)), (9, .if_icmp .ne 7, 3, (0, 0, 0))]
theorem K23_1 : zRk 23 B23_1 = true := zRw_ok (by decide +kernel)
noncomputable def B23_2 : List zRow := [(0, .iload_n 0, 1, (0, 0, 0)), (1, .bipush 32, 2, (0, 0, 0)), (3, .if_icmp .eq 9, 3, (0, 0, 0))]
theorem K23_2 : zRk 23 B23_2 = true := zRw_ok (by decide +kernel)
noncomputable def B23_3 : List zRow := [(12, .iconst 1, 1, (0, 0, 0)), (13, .goto 4, 3, (0, 0, 0))]
theorem K23_3 : zRk 23 B23_3 = true := zRw_ok (by decide +kernel)
noncomputable def B24_0 : List zRow := [(16, .iconst 0, 1, (0, 0, 0))]
theorem K24_0 : zRk 24 B24_0 = true := zRw_ok (by decide +kernel)
noncomputable def B24_1 : List zRow := [(12, .iconst 1, 1, (0, 0, 0)), (13, .goto 4, 3, (0, 0, 0))]
theorem K24_1 : zRk 24 B24_1 = true := zRw_ok (by decide +kernel)
noncomputable def B24_2 : List zRow := [(6, .iload_n 0, 1, (0, 0, 0)), (7, .bipush 122, 2, (0, 0, 0)), (9, .if_icmp .gt 7, 3, (0, 0, 0))]
theorem K24_2 : zRk 24 B24_2 = true := zRw_ok (by decide +kernel)
noncomputable def B24_3 : List zRow := [(0, .iload_n 0, 1, (0, 0, 0)), (1, .bipush 97, 2, (0, 0, 0)), (3, .if_icmp .lt 13, 3, (0, 0, 0))]
theorem K24_3 : zRk 24 B24_3 = true := zRw_ok (by decide +kernel)
noncomputable def B25_0 : List zRow := [(16, .iconst 0, 1, (0, 0, 0))]
theorem K25_0 : zRk 25 B25_0 = true := zRw_ok (by decide +kernel)
noncomputable def B25_1 : List zRow := [(12, .iconst 1, 1, (0, 0, 0)), (13, .goto 4, 3, (0, 0, 0))]
theorem K25_1 : zRk 25 B25_1 = true := zRw_ok (by decide +kernel)
noncomputable def B25_2 : List zRow := [(6, .iload_n 0, 1, (0, 0, 0)), (7, .bipush 57, 2, (0, 0, 0)), (9, .if_icmp .gt 7, 3, (0, 0, 0))]
theorem K25_2 : zRk 25 B25_2 = true := zRw_ok (by decide +kernel)
noncomputable def B25_3 : List zRow := [(0, .iload_n 0, 1, (0, 0, 0)), (1, .bipush 48, 2, (0, 0, 0)), (3, .if_icmp .lt 13, 3, (0, 0, 0))]
theorem K25_3 : zRk 25 B25_3 = true := zRw_ok (by decide +kernel)
noncomputable def B28_0 : List zRow := [(40, .iconst 0, 1, (0, 0, 0))]
theorem K28_0 : zRk 28 B28_0 = true := zRw_ok (by decide +kernel)
noncomputable def B28_1 : List zRow := [(30, .iload_n 0, 1, (0, 0, 0)), (31, .bipush 41, 2, (0, 0, 0)), (33, .if_icmp .ne 7, 3, (0, 0, 0))]
theorem K28_1 : zRk 28 B28_1 = true := zRw_ok (by decide +kernel)
noncomputable def B28_2 : List zRow := [(24, .iload_n 0, 1, (0, 0, 0)), (25, .bipush 40, 2, (0, 0, 0)), (27, .if_icmp .eq 9, 3, (0, 0, 0))]
theorem K28_2 : zRk 28 B28_2 = true := zRw_ok (by decide +kernel)
noncomputable def B28_3 : List zRow := [(18, .iload_n 0, 1, (0, 0, 0)), (19, .bipush 62, 2, (0, 0, 0)), (21, .if_icmp .eq 15, 3, (0, 0, 0))]
theorem K28_3 : zRk 28 B28_3 = true := zRw_ok (by decide +kernel)
noncomputable def B28_4 : List zRow := [(12, .iload_n 0, 1, (0, 0, 0)), (13, .bipush 61, 2, (0, 0, 0)), (15, .if_icmp .eq 21, 3, (0, 0, 0))]
theorem K28_4 : zRk 28 B28_4 = true := zRw_ok (by decide +kernel)
noncomputable def B28_5 : List zRow := [(6, .iload_n 0, 1, (0, 0, 0)), (7, .bipush 60, 2, (0, 0, 0)), (9, .if_icmp .eq 27, 3, (0, 0, 0))]
theorem K28_5 : zRk 28 B28_5 = true := zRw_ok (by decide +kernel)
noncomputable def B28_6 : List zRow := [(0, .iload_n 0, 1, (0, 0, 0)), (1, .bipush 59, 2, (0, 0, 0)), (3, .if_icmp .eq 33, 3, (0, 0, 0))]
theorem K28_6 : zRk 28 B28_6 = true := zRw_ok (by decide +kernel)
noncomputable def B28_7 : List zRow := [(36, .iconst 1, 1, (0, 0, 0)), (37, .goto 4, 3, (0, 0, 0))]
theorem K28_7 : zRk 28 B28_7 = true := zRw_ok (by decide +kernel)
noncomputable def B3_0 : List zRow := [(0, .lload_n 0, 1, (0, 0, 0)), (1, .iconst 5, 1, (0, 0, 0)), (2, .lshl, 1, (0, 0, 0)), (3, .iload_n 2, 1, (0, 0, 0)), (4, .bipush 97, 2, (0, 0, 0)), (6, .isub, 1, (0, 0, 0)), (7, .iconst 1, 1, (0, 0, 0)), (8, .iadd, 1, (0, 0, 0)), (9, .i2l, 1, (0, 0, 0)), (10, .lor, 1, (0, 0, 0))]
theorem K3_0 : zRk 3 B3_0 = true := zRw_ok (by decide +kernel)
noncomputable def B27_0 : List zRow := [(0, .iconst 0, 1, (0, 0, 0)), (1, .istore_n 3, 1, (0, 0, 0))]
theorem K27_0 : zRk 27 B27_0 = true := zRw_ok (by decide +kernel)
noncomputable def B27_1 : List zRow := [(27, .iconst (-1), 1, (0, 0, 0))]
theorem K27_1 : zRk 27 B27_1 = true := zRw_ok (by decide +kernel)
noncomputable def B27_2 : List zRow := [(21, .iinc 3 1, 3, (0, 0, 0)), (24, .goto (-22), 3, (0, 0, 0))]
theorem K27_2 : zRk 27 B27_2 = true := zRw_ok (by decide +kernel)
noncomputable def B27_3 : List zRow := [(19, .iload_n 3, 1, (0, 0, 0))]
theorem K27_3 : zRk 27 B27_3 = true := zRw_ok (by decide +kernel)
noncomputable def B27_4 : List zRow := [(8, .aload_n 0, 1, (0, 0, 0)), (9, .getfield 19, 3, (5, 10, 5505110)), (12, .iload_n 3, 1, (0, 0, 0)), (13, .laload, 1, (0, 0, 0)), (14, .lload_n 1, 1, (0, 0, 0)), (15, .lcmp, 1, (0, 0, 0)), (16, .ifCond .ne 5, 3, (0, 0, 0))]
theorem K27_4 : zRk 27 B27_4 = true := zRw_ok (by decide +kernel)
noncomputable def B27_5 : List zRow := [(2, .iload_n 3, 1, (0, 0, 0)), (3, .bipush 21, 2, (0, 0, 0)), (5, .if_icmp .ge 22, 3, (0, 0, 0))]
theorem K27_5 : zRk 27 B27_5 = true := zRw_ok (by decide +kernel)
noncomputable def B26_0 : List zRow := [(0, .iconst 0, 1, (0, 0, 0)), (1, .istore_n 1, 1, (0, 0, 0)), (2, .iconst 0, 1, (0, 0, 0)), (3, .istore_n 2, 1, (0, 0, 0)), (4, .aload_n 0, 1, (0, 0, 0)), (5, .lconst 0, 1, (0, 0, 0)), (6, .putfield 88, 3, (5, 7, 1)), (9, .aload_n 0, 1, (0, 0, 0)), (10, .iconst 0, 1, (0, 0, 0)), (11, .putfield 82, 3, (5, 6, 0))]
theorem K26_0 : zRk 26 B26_0 = true := zRw_ok (by decide +kernel)
noncomputable def B26_1 : List zRow := [(25, .aload_n 0, 1, (0, 0, 0)), (26, .getfield 9, 3, (5, 0, 5246642)), (29, .aload_n 0, 1, (0, 0, 0)), (30, .getfield 45, 3, (5, 8, 0)), (33, .iaload, 1, (0, 0, 0))]
theorem K26_1 : zRk 26 B26_1 = true := zRw_ok (by decide +kernel)
noncomputable def B26_2 : List zRow := [(40, .aload_n 0, 1, (0, 0, 0)), (41, .getfield 9, 3, (5, 0, 5246642)), (44, .aload_n 0, 1, (0, 0, 0)), (45, .getfield 45, 3, (5, 8, 0)), (48, .iaload, 1, (0, 0, 0))]
theorem K26_2 : zRk 26 B26_2 = true := zRw_ok (by decide +kernel)
noncomputable def B26_3 : List zRow := [(52, .ifCond .eq 103, 3, (0, 0, 0))]
theorem K26_3 : zRk 26 B26_3 = true := zRw_ok (by decide +kernel)
noncomputable def B26_4 : List zRow := [(37, .ifCond .ne 18, 3, (0, 0, 0))]
theorem K26_4 : zRk 26 B26_4 = true := zRw_ok (by decide +kernel)
noncomputable def B26_5 : List zRow := [(14, .aload_n 0, 1, (0, 0, 0)), (15, .getfield 45, 3, (5, 8, 0)), (18, .aload_n 0, 1, (0, 0, 0)), (19, .getfield 39, 3, (5, 1, 0)), (22, .if_icmp .ge 133, 3, (0, 0, 0))]
theorem K26_5 : zRk 26 B26_5 = true := zRw_ok (by decide +kernel)
noncomputable def B26_6 : List zRow := [(55, .aload_n 0, 1, (0, 0, 0)), (56, .getfield 9, 3, (5, 0, 5246642)), (59, .aload_n 0, 1, (0, 0, 0)), (60, .getfield 45, 3, (5, 8, 0)), (63, .iaload, 1, (0, 0, 0))]
theorem K26_6 : zRk 26 B26_6 = true := zRw_ok (by decide +kernel)
noncomputable def B26_7 : List zRow := [(138, .iconst 0, 1, (0, 0, 0))]
theorem K26_7 : zRk 26 B26_7 = true := zRw_ok (by decide +kernel)
noncomputable def B26_8 : List zRow := [(115, .aload_n 0, 1, (0, 0, 0)), (116, .getfield 82, 3, (5, 6, 0)), (119, .bipush 10, 2, (0, 0, 0)), (121, .imul, 1, (0, 0, 0)), (122, .aload_n 0, 1, (0, 0, 0)), (123, .getfield 9, 3, (5, 0, 5246642)), (126, .aload_n 0, 1, (0, 0, 0)), (127, .getfield 45, 3, (5, 8, 0)), (130, .iaload, 1, (0, 0, 0)), (131, .iadd, 1, (0, 0, 0)), (132, .bipush 48, 2, (0, 0, 0)), (134, .isub, 1, (0, 0, 0)), (135, .goto 4, 3, (0, 0, 0))]
theorem K26_8 : zRk 26 B26_8 = true := zRw_ok (by decide +kernel)
noncomputable def B26_9 : List zRow := [(106, .iinc 2 1, 3, (0, 0, 0)), (109, .aload_n 0, 1, (0, 0, 0)), (110, .iload_n 2, 1, (0, 0, 0)), (111, .iconst 3, 1, (0, 0, 0)), (112, .if_icmp .gt 26, 3, (0, 0, 0))]
theorem K26_9 : zRk 26 B26_9 = true := zRw_ok (by decide +kernel)
noncomputable def B26_10 : List zRow := [(99, .lconst 0, 1, (0, 0, 0))]
theorem K26_10 : zRk 26 B26_10 = true := zRw_ok (by decide +kernel)
noncomputable def B26_11 : List zRow := [(80, .aload_n 0, 1, (0, 0, 0)), (81, .getfield 88, 3, (5, 7, 1)), (84, .aload_n 0, 1, (0, 0, 0)), (85, .getfield 9, 3, (5, 0, 5246642)), (88, .aload_n 0, 1, (0, 0, 0)), (89, .getfield 45, 3, (5, 8, 0)), (92, .iaload, 1, (0, 0, 0))]
theorem K26_11 : zRk 26 B26_11 = true := zRw_ok (by decide +kernel)
noncomputable def B26_12 : List zRow := [(96, .goto 4, 3, (0, 0, 0))]
theorem K26_12 : zRk 26 B26_12 = true := zRw_ok (by decide +kernel)
noncomputable def B26_13 : List zRow := [(70, .iinc 1 1, 3, (0, 0, 0)), (73, .aload_n 0, 1, (0, 0, 0)), (74, .iload_n 1, 1, (0, 0, 0)), (75, .bipush 7, 2, (0, 0, 0)), (77, .if_icmp .gt 22, 3, (0, 0, 0))]
theorem K26_13 : zRk 26 B26_13 = true := zRw_ok (by decide +kernel)
noncomputable def B26_14 : List zRow := [(67, .ifCond .eq 39, 3, (0, 0, 0))]
theorem K26_14 : zRk 26 B26_14 = true := zRw_ok (by decide +kernel)
noncomputable def B26_15 : List zRow := [(100, .putfield 88, 3, (5, 7, 1)), (103, .goto 39, 3, (0, 0, 0))]
theorem K26_15 : zRk 26 B26_15 = true := zRw_ok (by decide +kernel)
noncomputable def B26_16 : List zRow := [(142, .aload_n 0, 1, (0, 0, 0)), (143, .dup, 1, (0, 0, 0)), (144, .getfield 45, 3, (5, 8, 0)), (147, .iconst 1, 1, (0, 0, 0)), (148, .iadd, 1, (0, 0, 0)), (149, .putfield 45, 3, (5, 8, 0)), (152, .goto (-138), 3, (0, 0, 0))]
theorem K26_16 : zRk 26 B26_16 = true := zRw_ok (by decide +kernel)
noncomputable def B26_17 : List zRow := [(139, .putfield 82, 3, (5, 6, 0))]
theorem K26_17 : zRk 26 B26_17 = true := zRw_ok (by decide +kernel)
noncomputable def B26_18 : List zRow := [(165, .aload_n 0, 1, (0, 0, 0)), (166, .aload_n 0, 1, (0, 0, 0)), (167, .aload_n 0, 1, (0, 0, 0)), (168, .getfield 88, 3, (5, 7, 1))]
theorem K26_18 : zRk 26 B26_18 = true := zRw_ok (by decide +kernel)
noncomputable def B26_19 : List zRow := [(190, .iconst 3, 1, (0, 0, 0))]
theorem K26_19 : zRk 26 B26_19 = true := zRw_ok (by decide +kernel)
noncomputable def B26_20 : List zRow := [(186, .iconst 2, 1, (0, 0, 0)), (187, .goto 4, 3, (0, 0, 0))]
theorem K26_20 : zRk 26 B26_20 = true := zRw_ok (by decide +kernel)
noncomputable def B26_21 : List zRow := [(174, .putfield 82, 3, (5, 6, 0)), (177, .aload_n 0, 1, (0, 0, 0)), (178, .aload_n 0, 1, (0, 0, 0)), (179, .getfield 82, 3, (5, 6, 0)), (182, .iconst (-1), 1, (0, 0, 0)), (183, .if_icmp .ne 7, 3, (0, 0, 0))]
theorem K26_21 : zRk 26 B26_21 = true := zRw_ok (by decide +kernel)
noncomputable def B26_22 : List zRow := [(159, .iload_n 1, 1, (0, 0, 0)), (160, .bipush 7, 2, (0, 0, 0)), (162, .if_icmp .gt 35, 3, (0, 0, 0))]
theorem K26_22 : zRk 26 B26_22 = true := zRw_ok (by decide +kernel)
noncomputable def B26_23 : List zRow := [(155, .iload_n 2, 1, (0, 0, 0)), (156, .ifCond .ne 41, 3, (0, 0, 0))]
theorem K26_23 : zRk 26 B26_23 = true := zRw_ok (by decide +kernel)
noncomputable def B26_24 : List zRow := [(191, .putfield 70, 3, (5, 4, 0)), (194, .goto 21, 3, (0, 0, 0))]
theorem K26_24 : zRk 26 B26_24 = true := zRw_ok (by decide +kernel)
noncomputable def B26_25 : List zRow := [(207, .iconst 4, 1, (0, 0, 0)), (208, .goto 4, 3, (0, 0, 0))]
theorem K26_25 : zRk 26 B26_25 = true := zRw_ok (by decide +kernel)
noncomputable def B26_26 : List zRow := [(202, .iload_n 2, 1, (0, 0, 0)), (203, .iconst 3, 1, (0, 0, 0)), (204, .if_icmp .gt 7, 3, (0, 0, 0))]
theorem K26_26 : zRk 26 B26_26 = true := zRw_ok (by decide +kernel)
noncomputable def B26_27 : List zRow := [(197, .aload_n 0, 1, (0, 0, 0)), (198, .iload_n 1, 1, (0, 0, 0)), (199, .ifCond .ne 12, 3, (0, 0, 0))]
theorem K26_27 : zRk 26 B26_27 = true := zRw_ok (by decide +kernel)
noncomputable def B26_28 : List zRow := [(212, .putfield 70, 3, (5, 4, 0))]
theorem K26_28 : zRk 26 B26_28 = true := zRw_ok (by decide +kernel)
noncomputable def B26_29 : List zRow := [(211, .iconst 1, 1, (0, 0, 0))]
theorem K26_29 : zRk 26 B26_29 = true := zRw_ok (by decide +kernel)
noncomputable def B21_0 : List zRow := [(0, .aload_n 0, 1, (0, 0, 0)), (1, .getfield 39, 3, (5, 1, 0)), (4, .aload_n 0, 1, (0, 0, 0)), (5, .getfield 42, 3, (5, 9, 0)), (8, .invokestatic 57, 3, (5003, 0, 0)), (11, .istore_n 1, 1, (0, 0, 0))]
theorem K21_0 : zRk 21 B21_0 = true := zRw_ok (by decide +kernel)
noncomputable def B21_1 : List zRow := [(20, .aload_n 0, 1, (0, 0, 0)), (21, .getfield 9, 3, (5, 0, 5246642)), (24, .aload_n 0, 1, (0, 0, 0)), (25, .getfield 45, 3, (5, 8, 0)), (28, .iaload, 1, (0, 0, 0))]
theorem K21_1 : zRk 21 B21_1 = true := zRw_ok (by decide +kernel)
noncomputable def B21_2 : List zRow := [(35, .aload_n 0, 1, (0, 0, 0)), (36, .dup, 1, (0, 0, 0)), (37, .getfield 45, 3, (5, 8, 0)), (40, .iconst 1, 1, (0, 0, 0)), (41, .iadd, 1, (0, 0, 0)), (42, .putfield 45, 3, (5, 8, 0)), (45, .goto (-33), 3, (0, 0, 0))]
theorem K21_2 : zRk 21 B21_2 = true := zRw_ok (by decide +kernel)
noncomputable def B21_3 : List zRow := [(32, .ifCond .eq 16, 3, (0, 0, 0))]
theorem K21_3 : zRk 21 B21_3 = true := zRw_ok (by decide +kernel)
noncomputable def B21_4 : List zRow := [(12, .aload_n 0, 1, (0, 0, 0)), (13, .getfield 45, 3, (5, 8, 0)), (16, .iload_n 1, 1, (0, 0, 0)), (17, .if_icmp .ge 31, 3, (0, 0, 0))]
theorem K21_4 : zRk 21 B21_4 = true := zRw_ok (by decide +kernel)
noncomputable def B21_5 : List zRow := [(76, .aload_n 0, 1, (0, 0, 0)), (77, .getfield 9, 3, (5, 0, 5246642)), (80, .aload_n 0, 1, (0, 0, 0)), (81, .getfield 45, 3, (5, 8, 0)), (84, .iaload, 1, (0, 0, 0))]
theorem K21_5 : zRk 21 B21_5 = true := zRw_ok (by decide +kernel)
noncomputable def B21_6 : List zRow := [(91, .aload_n 0, 1, (0, 0, 0)), (92, .getfield 9, 3, (5, 0, 5246642)), (95, .aload_n 0, 1, (0, 0, 0)), (96, .getfield 45, 3, (5, 8, 0)), (99, .iaload, 1, (0, 0, 0))]
theorem K21_6 : zRk 21 B21_6 = true := zRw_ok (by decide +kernel)
noncomputable def B21_7 : List zRow := [(113, .aload_n 0, 1, (0, 0, 0)), (114, .aload_n 0, 1, (0, 0, 0)), (115, .getfield 9, 3, (5, 0, 5246642)), (118, .aload_n 0, 1, (0, 0, 0)), (119, .getfield 45, 3, (5, 8, 0)), (122, .iaload, 1, (0, 0, 0)), (123, .putfield 82, 3, (5, 6, 0)), (126, .aload_n 0, 1, (0, 0, 0)), (127, .aload_n 0, 1, (0, 0, 0)), (128, .getfield 82, 3, (5, 6, 0))]
theorem K21_7 : zRk 21 B21_7 = true := zRw_ok (by decide +kernel)
noncomputable def B21_8 : List zRow := [(141, .iconst 1, 1, (0, 0, 0))]
theorem K21_8 : zRk 21 B21_8 = true := zRw_ok (by decide +kernel)
noncomputable def B21_9 : List zRow := [(137, .iconst 5, 1, (0, 0, 0)), (138, .goto 4, 3, (0, 0, 0))]
theorem K21_9 : zRk 21 B21_9 = true := zRw_ok (by decide +kernel)
noncomputable def B21_10 : List zRow := [(134, .ifCond .eq 7, 3, (0, 0, 0))]
theorem K21_10 : zRk 21 B21_10 = true := zRw_ok (by decide +kernel)
noncomputable def B21_11 : List zRow := [(103, .ifCond .eq 10, 3, (0, 0, 0))]
theorem K21_11 : zRk 21 B21_11 = true := zRw_ok (by decide +kernel)
noncomputable def B21_12 : List zRow := [(88, .ifCond .ne 18, 3, (0, 0, 0))]
theorem K21_12 : zRk 21 B21_12 = true := zRw_ok (by decide +kernel)
noncomputable def B21_13 : List zRow := [(68, .aload_n 0, 1, (0, 0, 0)), (69, .iconst 0, 1, (0, 0, 0)), (70, .putfield 70, 3, (5, 4, 0)), (73, .goto 82, 3, (0, 0, 0))]
theorem K21_13 : zRk 21 B21_13 = true := zRw_ok (by decide +kernel)
noncomputable def B21_14 : List zRow := [(48, .aload_n 0, 1, (0, 0, 0)), (49, .aload_n 0, 1, (0, 0, 0)), (50, .getfield 45, 3, (5, 8, 0)), (53, .iload_n 1, 1, (0, 0, 0)), (54, .invokestatic 57, 3, (5003, 0, 0)), (57, .putfield 67, 3, (5, 5, 0)), (60, .aload_n 0, 1, (0, 0, 0)), (61, .getfield 45, 3, (5, 8, 0)), (64, .iload_n 1, 1, (0, 0, 0)), (65, .if_icmp .lt 11, 3, (0, 0, 0))]
theorem K21_14 : zRk 21 B21_14 = true := zRw_ok (by decide +kernel)
noncomputable def B21_15 : List zRow := [(142, .putfield 70, 3, (5, 4, 0)), (145, .aload_n 0, 1, (0, 0, 0)), (146, .dup, 1, (0, 0, 0)), (147, .getfield 45, 3, (5, 8, 0)), (150, .iconst 1, 1, (0, 0, 0)), (151, .iadd, 1, (0, 0, 0)), (152, .putfield 45, 3, (5, 8, 0))]
theorem K21_15 : zRk 21 B21_15 = true := zRw_ok (by decide +kernel)
noncomputable def B21_16 : List zRow := [(106, .aload_n 0, 1, (0, 0, 0))]
theorem K21_16 : zRk 21 B21_16 = true := zRw_ok (by decide +kernel)
noncomputable def B21_17 : List zRow := [(110, .goto 45, 3, (0, 0, 0))]
theorem K21_17 : zRk 21 B21_17 = true := zRw_ok (by decide +kernel)
noncomputable def B20_0 : List zRow := [(0, .aload_n 0, 1, (0, 0, 0)), (1, .iload_n 1, 1, (0, 0, 0)), (2, .putfield 42, 3, (5, 9, 0)), (5, .aload_n 0, 1, (0, 0, 0)), (6, .iconst 0, 1, (0, 0, 0)), (7, .putfield 45, 3, (5, 8, 0)), (10, .aload_n 0, 1, (0, 0, 0)), (11, .iconst 0, 1, (0, 0, 0)), (12, .putfield 48, 3, (5, 2, 0)), (15, .aload_n 0, 1, (0, 0, 0)), (16, .iconst 0, 1, (0, 0, 0)), (17, .putfield 51, 3, (5, 3, 0)), (20, .aload_n 0, 1, (0, 0, 0))]
theorem K20_0 : zRk 20 B20_0 = true := zRw_ok (by decide +kernel)
noncomputable def B29_0 : List zRow := [(22, .iconst 0, 1, (0, 0, 0))]
theorem K29_0 : zRk 29 B29_0 = true := zRw_ok (by decide +kernel)
noncomputable def B29_1 : List zRow := [(18, .iconst 1, 1, (0, 0, 0)), (19, .goto 4, 3, (0, 0, 0))]
theorem K29_1 : zRk 29 B29_1 = true := zRw_ok (by decide +kernel)
noncomputable def B29_2 : List zRow := [(7, .aload_n 0, 1, (0, 0, 0)), (8, .getfield 39, 3, (5, 1, 0)), (11, .aload_n 0, 1, (0, 0, 0)), (12, .getfield 42, 3, (5, 9, 0)), (15, .if_icmp .gt 7, 3, (0, 0, 0))]
theorem K29_2 : zRk 29 B29_2 = true := zRw_ok (by decide +kernel)
noncomputable def B29_3 : List zRow := [(0, .aload_n 0, 1, (0, 0, 0)), (1, .getfield 70, 3, (5, 4, 0)), (4, .ifCond .ne 18, 3, (0, 0, 0))]
theorem K29_3 : zRk 29 B29_3 = true := zRw_ok (by decide +kernel)
noncomputable def B31_0 : List zRow := [(0, .aload_n 0, 1, (0, 0, 0)), (1, .iload_n 1, 1, (0, 0, 0)), (2, .putfield 48, 3, (5, 2, 0)), (5, .aload_n 0, 1, (0, 0, 0)), (6, .aload_n 0, 1, (0, 0, 0)), (7, .getfield 67, 3, (5, 5, 0)), (10, .putfield 51, 3, (5, 3, 0)), (13, .iconst 0, 1, (0, 0, 0))]
theorem K31_0 : zRk 31 B31_0 = true := zRw_ok (by decide +kernel)
noncomputable def B33_0 : List zRow := [(22, .aload_n 0, 1, (0, 0, 0)), (23, .getfield 82, 3, (5, 6, 0)), (26, .iload_n 2, 1, (0, 0, 0)), (27, .if_icmp .le 11, 3, (0, 0, 0))]
theorem K33_0 : zRk 33 B33_0 = true := zRw_ok (by decide +kernel)
noncomputable def B33_1 : List zRow := [(14, .aload_n 0, 1, (0, 0, 0)), (15, .getfield 82, 3, (5, 6, 0)), (18, .iload_n 1, 1, (0, 0, 0)), (19, .if_icmp .lt 11, 3, (0, 0, 0))]
theorem K33_1 : zRk 33 B33_1 = true := zRw_ok (by decide +kernel)
noncomputable def B33_2 : List zRow := [(8, .aload_n 0, 1, (0, 0, 0)), (9, .iconst 1, 1, (0, 0, 0))]
theorem K33_2 : zRk 33 B33_2 = true := zRw_ok (by decide +kernel)
noncomputable def B33_3 : List zRow := [(0, .aload_n 0, 1, (0, 0, 0)), (1, .getfield 70, 3, (5, 4, 0)), (4, .iconst 4, 1, (0, 0, 0)), (5, .if_icmp .eq 9, 3, (0, 0, 0))]
theorem K33_3 : zRk 33 B33_3 = true := zRw_ok (by decide +kernel)
noncomputable def B33_4 : List zRow := [(38, .iconst 1, 1, (0, 0, 0)), (39, .goto 4, 3, (0, 0, 0))]
theorem K33_4 : zRk 33 B33_4 = true := zRw_ok (by decide +kernel)
noncomputable def B33_5 : List zRow := [(30, .aload_n 0, 1, (0, 0, 0)), (31, .iconst 2, 1, (0, 0, 0))]
theorem K33_5 : zRk 33 B33_5 = true := zRw_ok (by decide +kernel)
noncomputable def B33_6 : List zRow := [(42, .iconst 0, 1, (0, 0, 0))]
theorem K33_6 : zRk 33 B33_6 = true := zRw_ok (by decide +kernel)
noncomputable def B33_7 : List zRow := [(35, .ifCond .eq 7, 3, (0, 0, 0))]
theorem K33_7 : zRk 33 B33_7 = true := zRw_ok (by decide +kernel)
noncomputable def B32_0 : List zRow := [(19, .aload_n 0, 1, (0, 0, 0)), (20, .getfield 18, 3, (10, 2, 23))]
theorem K32_0 : zRk 32 B32_0 = true := zRw_ok (by decide +kernel)
noncomputable def B32_1 : List zRow := [(26, .aload_n 0, 1, (0, 0, 0)), (27, .getfield 18, 3, (10, 2, 23)), (30, .iconst 2, 1, (0, 0, 0)), (31, .bipush 10, 2, (0, 0, 0))]
theorem K32_1 : zRk 32 B32_1 = true := zRw_ok (by decide +kernel)
noncomputable def B32_2 : List zRow := [(41, .aload_n 0, 1, (0, 0, 0)), (42, .getfield 18, 3, (10, 2, 23)), (45, .getfield 52, 3, (5, 6, 0)), (48, .istore_n 1, 1, (0, 0, 0)), (49, .aload_n 0, 1, (0, 0, 0)), (50, .getfield 18, 3, (10, 2, 23))]
theorem K32_2 : zRk 32 B32_2 = true := zRw_ok (by decide +kernel)
noncomputable def B32_3 : List zRow := [(56, .aload_n 0, 1, (0, 0, 0)), (57, .getfield 18, 3, (10, 2, 23)), (60, .iconst 2, 1, (0, 0, 0)), (61, .bipush 10, 2, (0, 0, 0))]
theorem K32_3 : zRk 32 B32_3 = true := zRw_ok (by decide +kernel)
noncomputable def B32_4 : List zRow := [(71, .aload_n 0, 1, (0, 0, 0)), (72, .getfield 12, 3, (10, 0, 167)), (75, .iload_n 1, 1, (0, 0, 0)), (76, .putfield 76, 3, (9, 0, 0)), (79, .aload_n 0, 1, (0, 0, 0)), (80, .getfield 12, 3, (10, 0, 167)), (83, .aload_n 0, 1, (0, 0, 0)), (84, .getfield 18, 3, (10, 2, 23)), (87, .getfield 52, 3, (5, 6, 0)), (90, .putfield 86, 3, (9, 1, 0)), (93, .aload_n 0, 1, (0, 0, 0)), (94, .getfield 18, 3, (10, 2, 23))]
theorem K32_4 : zRk 32 B32_4 = true := zRw_ok (by decide +kernel)
noncomputable def B32_5 : List zRow := [(100, .iconst 1, 1, (0, 0, 0))]
theorem K32_5 : zRk 32 B32_5 = true := zRw_ok (by decide +kernel)
noncomputable def B32_6 : List zRow := [(69, .iconst 0, 1, (0, 0, 0))]
theorem K32_6 : zRk 32 B32_6 = true := zRw_ok (by decide +kernel)
noncomputable def B32_7 : List zRow := [(66, .ifCond .ne 5, 3, (0, 0, 0))]
theorem K32_7 : zRk 32 B32_7 = true := zRw_ok (by decide +kernel)
noncomputable def B32_8 : List zRow := [(39, .iconst 0, 1, (0, 0, 0))]
theorem K32_8 : zRk 32 B32_8 = true := zRw_ok (by decide +kernel)
noncomputable def B32_9 : List zRow := [(36, .ifCond .ne 5, 3, (0, 0, 0))]
theorem K32_9 : zRk 32 B32_9 = true := zRw_ok (by decide +kernel)
noncomputable def B32_10 : List zRow := [(10, .aload_n 0, 1, (0, 0, 0)), (11, .getfield 18, 3, (10, 2, 23)), (14, .iconst 3, 1, (0, 0, 0))]
theorem K32_10 : zRk 32 B32_10 = true := zRw_ok (by decide +kernel)
noncomputable def B32_11 : List zRow := [(0, .aload_n 0, 1, (0, 0, 0)), (1, .getfield 12, 3, (10, 0, 167)), (4, .getfield 76, 3, (9, 0, 0)), (7, .ifCond .le 12, 3, (0, 0, 0))]
theorem K32_11 : zRk 32 B32_11 = true := zRw_ok (by decide +kernel)
noncomputable def B37_0 : List zRow := [(0, .iconst 0, 1, (0, 0, 0)), (1, .istore_n 3, 1, (0, 0, 0))]
theorem K37_0 : zRk 37 B37_0 = true := zRw_ok (by decide +kernel)
noncomputable def B37_1 : List zRow := [(29, .iconst (-1), 1, (0, 0, 0))]
theorem K37_1 : zRk 37 B37_1 = true := zRw_ok (by decide +kernel)
noncomputable def B37_2 : List zRow := [(23, .iinc 3 1, 3, (0, 0, 0)), (26, .goto (-24), 3, (0, 0, 0))]
theorem K37_2 : zRk 37 B37_2 = true := zRw_ok (by decide +kernel)
noncomputable def B37_3 : List zRow := [(21, .iload_n 3, 1, (0, 0, 0))]
theorem K37_3 : zRk 37 B37_3 = true := zRw_ok (by decide +kernel)
noncomputable def B37_4 : List zRow := [(10, .aload_n 0, 1, (0, 0, 0)), (11, .getfield 9, 3, (9, 7, 5505050)), (14, .iload_n 3, 1, (0, 0, 0)), (15, .laload, 1, (0, 0, 0)), (16, .lload_n 1, 1, (0, 0, 0)), (17, .lcmp, 1, (0, 0, 0)), (18, .ifCond .ne 5, 3, (0, 0, 0))]
theorem K37_4 : zRk 37 B37_4 = true := zRw_ok (by decide +kernel)
noncomputable def B37_5 : List zRow := [(2, .iload_n 3, 1, (0, 0, 0)), (3, .aload_n 0, 1, (0, 0, 0)), (4, .getfield 59, 3, (9, 2, 0)), (7, .if_icmp .ge 22, 3, (0, 0, 0))]
theorem K37_5 : zRk 37 B37_5 = true := zRw_ok (by decide +kernel)
noncomputable def B38_0 : List zRow := [(0, .iconst 0, 1, (0, 0, 0)), (1, .istore_n 3, 1, (0, 0, 0))]
theorem K38_0 : zRk 38 B38_0 = true := zRw_ok (by decide +kernel)
noncomputable def B38_1 : List zRow := [(29, .iconst (-1), 1, (0, 0, 0))]
theorem K38_1 : zRk 38 B38_1 = true := zRw_ok (by decide +kernel)
noncomputable def B38_2 : List zRow := [(23, .iinc 3 1, 3, (0, 0, 0)), (26, .goto (-24), 3, (0, 0, 0))]
theorem K38_2 : zRk 38 B38_2 = true := zRw_ok (by decide +kernel)
noncomputable def B38_3 : List zRow := [(21, .iload_n 3, 1, (0, 0, 0))]
theorem K38_3 : zRk 38 B38_3 = true := zRw_ok (by decide +kernel)
noncomputable def B38_4 : List zRow := [(10, .aload_n 0, 1, (0, 0, 0)), (11, .getfield 25, 3, (9, 11, 5505050)), (14, .iload_n 3, 1, (0, 0, 0)), (15, .laload, 1, (0, 0, 0)), (16, .lload_n 1, 1, (0, 0, 0)), (17, .lcmp, 1, (0, 0, 0)), (18, .ifCond .ne 5, 3, (0, 0, 0))]
theorem K38_4 : zRk 38 B38_4 = true := zRw_ok (by decide +kernel)
noncomputable def B38_5 : List zRow := [(2, .iload_n 3, 1, (0, 0, 0)), (3, .aload_n 0, 1, (0, 0, 0)), (4, .getfield 62, 3, (9, 3, 0)), (7, .if_icmp .ge 22, 3, (0, 0, 0))]
theorem K38_5 : zRk 38 B38_5 = true := zRw_ok (by decide +kernel)
noncomputable def B36_0 : List zRow := [(0, .aload_n 0, 1, (0, 0, 0)), (1, .lload_n 1, 1, (0, 0, 0))]
theorem K36_0 : zRk 36 B36_0 = true := zRw_ok (by decide +kernel)
noncomputable def B36_1 : List zRow := [(9, .aload_n 0, 1, (0, 0, 0)), (10, .lload_n 1, 1, (0, 0, 0))]
theorem K36_1 : zRk 36 B36_1 = true := zRw_ok (by decide +kernel)
noncomputable def B36_2 : List zRow := [(22, .iconst 0, 1, (0, 0, 0))]
theorem K36_2 : zRk 36 B36_2 = true := zRw_ok (by decide +kernel)
noncomputable def B36_3 : List zRow := [(14, .iconst (-1), 1, (0, 0, 0)), (15, .if_icmp .eq 7, 3, (0, 0, 0))]
theorem K36_3 : zRk 36 B36_3 = true := zRw_ok (by decide +kernel)
noncomputable def B36_4 : List zRow := [(5, .iconst (-1), 1, (0, 0, 0)), (6, .if_icmp .ne 12, 3, (0, 0, 0))]
theorem K36_4 : zRk 36 B36_4 = true := zRw_ok (by decide +kernel)
noncomputable def B36_5 : List zRow := [(18, .iconst 1, 1, (0, 0, 0)), (19, .goto 4, 3, (0, 0, 0))]
theorem K36_5 : zRk 36 B36_5 = true := zRw_ok (by decide +kernel)
noncomputable def B35_0 : List zRow := [(20, .aload_n 0, 1, (0, 0, 0)), (21, .getfield 12, 3, (10, 0, 167)), (24, .aload_n 0, 1, (0, 0, 0)), (25, .getfield 18, 3, (10, 2, 23)), (28, .getfield 95, 3, (5, 7, 1))]
theorem K35_0 : zRk 35 B35_0 = true := zRw_ok (by decide +kernel)
noncomputable def B35_1 : List zRow := [(37, .aload_n 0, 1, (0, 0, 0)), (38, .getfield 18, 3, (10, 2, 23)), (41, .iconst 3, 1, (0, 0, 0))]
theorem K35_1 : zRk 35 B35_1 = true := zRw_ok (by decide +kernel)
noncomputable def B35_2 : List zRow := [(52, .iconst 0, 1, (0, 0, 0))]
theorem K35_2 : zRk 35 B35_2 = true := zRw_ok (by decide +kernel)
noncomputable def B35_3 : List zRow := [(45, .ifCond .eq 7, 3, (0, 0, 0))]
theorem K35_3 : zRk 35 B35_3 = true := zRw_ok (by decide +kernel)
noncomputable def B35_4 : List zRow := [(34, .ifCond .eq 14, 3, (0, 0, 0))]
theorem K35_4 : zRk 35 B35_4 = true := zRw_ok (by decide +kernel)
noncomputable def B35_5 : List zRow := [(11, .aload_n 0, 1, (0, 0, 0)), (12, .getfield 18, 3, (10, 2, 23)), (15, .iconst 1, 1, (0, 0, 0))]
theorem K35_5 : zRk 35 B35_5 = true := zRw_ok (by decide +kernel)
noncomputable def B35_6 : List zRow := [(0, .aload_n 0, 1, (0, 0, 0)), (1, .getfield 18, 3, (10, 2, 23)), (4, .getfield 46, 3, (5, 4, 0)), (7, .iconst 2, 1, (0, 0, 0)), (8, .if_icmp .eq 12, 3, (0, 0, 0))]
theorem K35_6 : zRk 35 B35_6 = true := zRw_ok (by decide +kernel)
noncomputable def B35_7 : List zRow := [(48, .iconst 1, 1, (0, 0, 0)), (49, .goto 4, 3, (0, 0, 0))]
theorem K35_7 : zRk 35 B35_7 = true := zRw_ok (by decide +kernel)
noncomputable def B39_0 : List zRow := [(0, .aload_n 0, 1, (0, 0, 0)), (1, .getfield 18, 3, (10, 2, 23)), (4, .iconst 0, 1, (0, 0, 0)), (5, .aload_n 0, 1, (0, 0, 0)), (6, .getfield 12, 3, (10, 0, 167)), (9, .getfield 76, 3, (9, 0, 0)), (12, .iconst 1, 1, (0, 0, 0)), (13, .isub, 1, (0, 0, 0))]
theorem K39_0 : zRk 39 B39_0 = true := zRw_ok (by decide +kernel)
noncomputable def B39_1 : List zRow := [(22, .aload_n 0, 1, (0, 0, 0)), (23, .getfield 18, 3, (10, 2, 23)), (26, .getfield 52, 3, (5, 6, 0)), (29, .istore_n 1, 1, (0, 0, 0)), (30, .aload_n 0, 1, (0, 0, 0)), (31, .getfield 18, 3, (10, 2, 23))]
theorem K39_1 : zRk 39 B39_1 = true := zRw_ok (by decide +kernel)
noncomputable def B39_2 : List zRow := [(37, .aload_n 0, 1, (0, 0, 0)), (38, .getfield 18, 3, (10, 2, 23)), (41, .iconst 0, 1, (0, 0, 0)), (42, .aload_n 0, 1, (0, 0, 0)), (43, .getfield 12, 3, (10, 0, 167)), (46, .getfield 86, 3, (9, 1, 0)), (49, .iconst 1, 1, (0, 0, 0)), (50, .isub, 1, (0, 0, 0))]
theorem K39_2 : zRk 39 B39_2 = true := zRw_ok (by decide +kernel)
noncomputable def B39_3 : List zRow := [(72, .iconst (-1), 1, (0, 0, 0))]
theorem K39_3 : zRk 39 B39_3 = true := zRw_ok (by decide +kernel)
noncomputable def B39_4 : List zRow := [(57, .aload_n 0, 1, (0, 0, 0)), (58, .getfield 18, 3, (10, 2, 23)), (61, .getfield 52, 3, (5, 6, 0)), (64, .bipush 10, 2, (0, 0, 0)), (66, .imul, 1, (0, 0, 0)), (67, .iload_n 1, 1, (0, 0, 0)), (68, .iadd, 1, (0, 0, 0)), (69, .goto 4, 3, (0, 0, 0))]
theorem K39_4 : zRk 39 B39_4 = true := zRw_ok (by decide +kernel)
noncomputable def B39_5 : List zRow := [(54, .ifCond .eq 18, 3, (0, 0, 0))]
theorem K39_5 : zRk 39 B39_5 = true := zRw_ok (by decide +kernel)
noncomputable def B39_6 : List zRow := [(20, .iconst (-1), 1, (0, 0, 0))]
theorem K39_6 : zRk 39 B39_6 = true := zRw_ok (by decide +kernel)
noncomputable def B39_7 : List zRow := [(17, .ifCond .ne 5, 3, (0, 0, 0))]
theorem K39_7 : zRk 39 B39_7 = true := zRw_ok (by decide +kernel)
noncomputable def B40_0 : List zRow := [(0, .iconst 0, 1, (0, 0, 0)), (1, .istore_n 2, 1, (0, 0, 0))]
theorem K40_0 : zRk 40 B40_0 = true := zRw_ok (by decide +kernel)
noncomputable def B40_1 : List zRow := [(28, .iconst 0, 1, (0, 0, 0))]
theorem K40_1 : zRk 40 B40_1 = true := zRw_ok (by decide +kernel)
noncomputable def B40_2 : List zRow := [(22, .iinc 2 1, 3, (0, 0, 0)), (25, .goto (-23), 3, (0, 0, 0))]
theorem K40_2 : zRk 40 B40_2 = true := zRw_ok (by decide +kernel)
noncomputable def B40_3 : List zRow := [(20, .iconst 1, 1, (0, 0, 0))]
theorem K40_3 : zRk 40 B40_3 = true := zRw_ok (by decide +kernel)
noncomputable def B40_4 : List zRow := [(10, .aload_n 0, 1, (0, 0, 0)), (11, .getfield 15, 3, (9, 8, 5242906)), (14, .iload_n 2, 1, (0, 0, 0)), (15, .iaload, 1, (0, 0, 0)), (16, .iload_n 1, 1, (0, 0, 0)), (17, .if_icmp .ne 5, 3, (0, 0, 0))]
theorem K40_4 : zRk 40 B40_4 = true := zRw_ok (by decide +kernel)
noncomputable def B40_5 : List zRow := [(2, .iload_n 2, 1, (0, 0, 0)), (3, .aload_n 0, 1, (0, 0, 0)), (4, .getfield 59, 3, (9, 2, 0)), (7, .if_icmp .ge 21, 3, (0, 0, 0))]
theorem K40_5 : zRk 40 B40_5 = true := zRw_ok (by decide +kernel)
noncomputable def B34_0 : List zRow := [(23, .aload_n 0, 1, (0, 0, 0)), (24, .getfield 18, 3, (10, 2, 23))]
theorem K34_0 : zRk 34 B34_0 = true := zRw_ok (by decide +kernel)
noncomputable def B34_1 : List zRow := [(30, .aload_n 0, 1, (0, 0, 0))]
theorem K34_1 : zRk 34 B34_1 = true := zRw_ok (by decide +kernel)
noncomputable def B34_2 : List zRow := [(39, .aload_n 0, 1, (0, 0, 0)), (40, .getfield 18, 3, (10, 2, 23)), (43, .getfield 95, 3, (5, 7, 1)), (46, .lstore_n 2, 1, (0, 0, 0)), (47, .aload_n 0, 1, (0, 0, 0)), (48, .getfield 18, 3, (10, 2, 23))]
theorem K34_2 : zRk 34 B34_2 = true := zRw_ok (by decide +kernel)
noncomputable def B34_3 : List zRow := [(54, .aload_n 0, 1, (0, 0, 0))]
theorem K34_3 : zRk 34 B34_3 = true := zRw_ok (by decide +kernel)
noncomputable def B34_4 : List zRow := [(68, .aload_n 0, 1, (0, 0, 0)), (69, .getfield 12, 3, (10, 0, 167)), (72, .iload 4, 2, (0, 0, 0))]
theorem K34_4 : zRk 34 B34_4 = true := zRw_ok (by decide +kernel)
noncomputable def B34_5 : List zRow := [(89, .aload_n 0, 1, (0, 0, 0)), (90, .getfield 18, 3, (10, 2, 23))]
theorem K34_5 : zRk 34 B34_5 = true := zRw_ok (by decide +kernel)
noncomputable def B34_6 : List zRow := [(96, .aload_n 0, 1, (0, 0, 0)), (97, .getfield 18, 3, (10, 2, 23)), (100, .iconst 1, 1, (0, 0, 0)), (101, .bipush 40, 2, (0, 0, 0))]
theorem K34_6 : zRk 34 B34_6 = true := zRw_ok (by decide +kernel)
noncomputable def B34_7 : List zRow := [(111, .aload_n 0, 1, (0, 0, 0)), (112, .getfield 18, 3, (10, 2, 23)), (115, .getfield 52, 3, (5, 6, 0)), (118, .istore 5, 2, (0, 0, 0)), (120, .aload_n 0, 1, (0, 0, 0)), (121, .getfield 18, 3, (10, 2, 23))]
theorem K34_7 : zRk 34 B34_7 = true := zRw_ok (by decide +kernel)
noncomputable def B34_8 : List zRow := [(127, .aload_n 0, 1, (0, 0, 0)), (128, .getfield 18, 3, (10, 2, 23)), (131, .iconst 1, 1, (0, 0, 0)), (132, .bipush 9, 2, (0, 0, 0))]
theorem K34_8 : zRk 34 B34_8 = true := zRw_ok (by decide +kernel)
noncomputable def B34_9 : List zRow := [(142, .aload_n 0, 1, (0, 0, 0)), (143, .getfield 12, 3, (10, 0, 167)), (146, .getfield 106, 3, (9, 7, 5505050)), (149, .iload_n 1, 1, (0, 0, 0)), (150, .lload_n 2, 1, (0, 0, 0)), (151, .lastore, 1, (0, 0, 0)), (152, .aload_n 0, 1, (0, 0, 0)), (153, .getfield 12, 3, (10, 0, 167)), (156, .getfield 110, 3, (9, 8, 5242906)), (159, .iload_n 1, 1, (0, 0, 0)), (160, .iload 4, 2, (0, 0, 0)), (162, .iastore, 1, (0, 0, 0)), (163, .aload_n 0, 1, (0, 0, 0)), (164, .getfield 12, 3, (10, 0, 167)), (167, .getfield 114, 3, (9, 9, 5242906)), (170, .iload_n 1, 1, (0, 0, 0)), (171, .iload 5, 2, (0, 0, 0)), (173, .iastore, 1, (0, 0, 0)), (174, .aload_n 0, 1, (0, 0, 0)), (175, .getfield 12, 3, (10, 0, 167)), (178, .getfield 117, 3, (9, 10, 5242906)), (181, .iload_n 1, 1, (0, 0, 0)), (182, .aload_n 0, 1, (0, 0, 0)), (183, .getfield 18, 3, (10, 2, 23)), (186, .getfield 52, 3, (5, 6, 0)), (189, .iastore, 1, (0, 0, 0)), (190, .aload_n 0, 1, (0, 0, 0)), (191, .getfield 12, 3, (10, 0, 167)), (194, .iload_n 1, 1, (0, 0, 0)), (195, .iconst 1, 1, (0, 0, 0)), (196, .iadd, 1, (0, 0, 0)), (197, .putfield 89, 3, (9, 2, 0)), (200, .aload_n 0, 1, (0, 0, 0)), (201, .getfield 18, 3, (10, 2, 23))]
theorem K34_9 : zRk 34 B34_9 = true := zRw_ok (by decide +kernel)
noncomputable def B34_10 : List zRow := [(207, .iconst 1, 1, (0, 0, 0))]
theorem K34_10 : zRk 34 B34_10 = true := zRw_ok (by decide +kernel)
noncomputable def B34_11 : List zRow := [(140, .iconst 0, 1, (0, 0, 0))]
theorem K34_11 : zRk 34 B34_11 = true := zRw_ok (by decide +kernel)
noncomputable def B34_12 : List zRow := [(137, .ifCond .ne 5, 3, (0, 0, 0))]
theorem K34_12 : zRk 34 B34_12 = true := zRw_ok (by decide +kernel)
noncomputable def B34_13 : List zRow := [(109, .iconst 0, 1, (0, 0, 0))]
theorem K34_13 : zRk 34 B34_13 = true := zRw_ok (by decide +kernel)
noncomputable def B34_14 : List zRow := [(106, .ifCond .ne 5, 3, (0, 0, 0))]
theorem K34_14 : zRk 34 B34_14 = true := zRw_ok (by decide +kernel)
noncomputable def B34_15 : List zRow := [(80, .aload_n 0, 1, (0, 0, 0)), (81, .getfield 18, 3, (10, 2, 23)), (84, .iconst 3, 1, (0, 0, 0))]
theorem K34_15 : zRk 34 B34_15 = true := zRw_ok (by decide +kernel)
noncomputable def B34_16 : List zRow := [(77, .ifCond .eq 12, 3, (0, 0, 0))]
theorem K34_16 : zRk 34 B34_16 = true := zRw_ok (by decide +kernel)
noncomputable def B34_17 : List zRow := [(66, .iconst 0, 1, (0, 0, 0))]
theorem K34_17 : zRk 34 B34_17 = true := zRw_ok (by decide +kernel)
noncomputable def B34_18 : List zRow := [(58, .istore 4, 2, (0, 0, 0)), (60, .iload 4, 2, (0, 0, 0)), (62, .iconst (-1), 1, (0, 0, 0)), (63, .if_icmp .ne 5, 3, (0, 0, 0))]
theorem K34_18 : zRk 34 B34_18 = true := zRw_ok (by decide +kernel)
noncomputable def B34_19 : List zRow := [(37, .iconst 0, 1, (0, 0, 0))]
theorem K34_19 : zRk 34 B34_19 = true := zRw_ok (by decide +kernel)
noncomputable def B34_20 : List zRow := [(34, .ifCond .ne 5, 3, (0, 0, 0))]
theorem K34_20 : zRk 34 B34_20 = true := zRw_ok (by decide +kernel)
noncomputable def B34_21 : List zRow := [(14, .aload_n 0, 1, (0, 0, 0)), (15, .getfield 18, 3, (10, 2, 23)), (18, .iconst 4, 1, (0, 0, 0))]
theorem K34_21 : zRk 34 B34_21 = true := zRw_ok (by decide +kernel)
noncomputable def B34_22 : List zRow := [(0, .aload_n 0, 1, (0, 0, 0)), (1, .getfield 12, 3, (10, 0, 167)), (4, .getfield 89, 3, (9, 2, 0)), (7, .istore_n 1, 1, (0, 0, 0)), (8, .iload_n 1, 1, (0, 0, 0)), (9, .bipush 6, 2, (0, 0, 0)), (11, .if_icmp .lt 12, 3, (0, 0, 0))]
theorem K34_22 : zRk 34 B34_22 = true := zRw_ok (by decide +kernel)
