noncomputable def B108_0 : List zRow := [(0, .iconst 0, 1, (0, 0, 0)), (1, .istore_n 2, 1, (0, 0, 0))]
theorem K108_0 : zRk 108 B108_0 = true := zRw_ok (by decide +kernel)
noncomputable def B108_1 : List zRow := [(13, .aload_n 0, 1, (0, 0, 0)), (14, .getfield 91, 3, (11, 12, 5244418)), (17, .iload_n 1, 1, (0, 0, 0)), (18, .bipush 6, 2, (0, 0, 0)), (20, .imul, 1, (0, 0, 0)), (21, .iload_n 2, 1, (0, 0, 0)), (22, .iadd, 1, (0, 0, 0)), (23, .aload_n 0, 1, (0, 0, 0)), (24, .getfield 60, 3, (11, 7, 135)), (27, .iload_n 2, 1, (0, 0, 0))]
theorem K108_1 : zRk 108 B108_1 = true := zRw_ok (by decide +kernel)
noncomputable def B108_2 : List zRow := [(31, .iastore, 1, (0, 0, 0)), (32, .iinc 2 1, 3, (0, 0, 0)), (35, .goto (-33), 3, (0, 0, 0))]
theorem K108_2 : zRk 108 B108_2 = true := zRw_ok (by decide +kernel)
noncomputable def B108_3 : List zRow := [(2, .iload_n 2, 1, (0, 0, 0)), (3, .aload_n 0, 1, (0, 0, 0)), (4, .getfield 19, 3, (11, 1, 39)), (7, .getfield 311, 3, (9, 3, 0)), (10, .if_icmp .ge 28, 3, (0, 0, 0))]
theorem K108_3 : zRk 108 B108_3 = true := zRw_ok (by decide +kernel)
noncomputable def B109_0 : List zRow := [(0, .aload_n 0, 1, (0, 0, 0)), (1, .getfield 19, 3, (11, 1, 39))]
theorem K109_0 : zRk 109 B109_0 = true := zRw_ok (by decide +kernel)
noncomputable def B109_1 : List zRow := [(7, .istore_n 2, 1, (0, 0, 0)), (8, .iconst 0, 1, (0, 0, 0)), (9, .istore_n 3, 1, (0, 0, 0))]
theorem K109_1 : zRk 109 B109_1 = true := zRw_ok (by decide +kernel)
noncomputable def B109_2 : List zRow := [(70, .iconst 1, 1, (0, 0, 0))]
theorem K109_2 : zRk 109 B109_2 = true := zRw_ok (by decide +kernel)
noncomputable def B109_3 : List zRow := [(21, .iload_n 1, 1, (0, 0, 0)), (22, .iconst 1, 1, (0, 0, 0)), (23, .iload_n 3, 1, (0, 0, 0)), (24, .ishl, 1, (0, 0, 0)), (25, .ixor, 1, (0, 0, 0)), (26, .istore 4, 2, (0, 0, 0)), (28, .iload_n 2, 1, (0, 0, 0)), (29, .iload_n 3, 1, (0, 0, 0))]
theorem K109_3 : zRk 109 B109_3 = true := zRw_ok (by decide +kernel)
noncomputable def B109_4 : List zRow := [(62, .iconst 0, 1, (0, 0, 0))]
theorem K109_4 : zRk 109 B109_4 = true := zRw_ok (by decide +kernel)
noncomputable def B109_5 : List zRow := [(36, .aload_n 0, 1, (0, 0, 0)), (37, .getfield 91, 3, (11, 12, 5244418)), (40, .iload 4, 2, (0, 0, 0)), (42, .bipush 6, 2, (0, 0, 0)), (44, .imul, 1, (0, 0, 0)), (45, .iload_n 3, 1, (0, 0, 0)), (46, .iadd, 1, (0, 0, 0)), (47, .iaload, 1, (0, 0, 0)), (48, .aload_n 0, 1, (0, 0, 0)), (49, .getfield 91, 3, (11, 12, 5244418)), (52, .iload_n 1, 1, (0, 0, 0)), (53, .bipush 6, 2, (0, 0, 0)), (55, .imul, 1, (0, 0, 0)), (56, .iload_n 3, 1, (0, 0, 0)), (57, .iadd, 1, (0, 0, 0)), (58, .iaload, 1, (0, 0, 0)), (59, .if_icmp .le 5, 3, (0, 0, 0))]
theorem K109_5 : zRk 109 B109_5 = true := zRw_ok (by decide +kernel)
noncomputable def B109_6 : List zRow := [(33, .ifCond .eq 31, 3, (0, 0, 0))]
theorem K109_6 : zRk 109 B109_6 = true := zRw_ok (by decide +kernel)
noncomputable def B109_7 : List zRow := [(10, .iload_n 3, 1, (0, 0, 0)), (11, .aload_n 0, 1, (0, 0, 0)), (12, .getfield 19, 3, (11, 1, 39)), (15, .getfield 311, 3, (9, 3, 0)), (18, .if_icmp .ge 52, 3, (0, 0, 0))]
theorem K109_7 : zRk 109 B109_7 = true := zRw_ok (by decide +kernel)
noncomputable def B109_8 : List zRow := [(64, .iinc 3 1, 3, (0, 0, 0)), (67, .goto (-57), 3, (0, 0, 0))]
theorem K109_8 : zRk 109 B109_8 = true := zRw_ok (by decide +kernel)
noncomputable def B107_0 : List zRow := [(0, .iload_n 1, 1, (0, 0, 0))]
theorem K107_0 : zRk 107 B107_0 = true := zRw_ok (by decide +kernel)
noncomputable def B107_1 : List zRow := [(12, .iconst (-1), 1, (0, 0, 0))]
theorem K107_1 : zRk 107 B107_1 = true := zRw_ok (by decide +kernel)
noncomputable def B107_2 : List zRow := [(14, .iconst 0, 1, (0, 0, 0)), (15, .istore_n 3, 1, (0, 0, 0))]
theorem K107_2 : zRk 107 B107_2 = true := zRw_ok (by decide +kernel)
noncomputable def B107_3 : List zRow := [(7, .iload_n 2, 1, (0, 0, 0)), (8, .iconst (-1), 1, (0, 0, 0)), (9, .if_icmp .ge 5, 3, (0, 0, 0))]
theorem K107_3 : zRk 107 B107_3 = true := zRw_ok (by decide +kernel)
noncomputable def B107_4 : List zRow := [(4, .ifCond .eq 8, 3, (0, 0, 0))]
theorem K107_4 : zRk 107 B107_4 = true := zRw_ok (by decide +kernel)
noncomputable def B107_5 : List zRow := [(47, .iconst 0, 1, (0, 0, 0)), (48, .istore_n 3, 1, (0, 0, 0)), (49, .iconst 0, 1, (0, 0, 0)), (50, .istore 4, 2, (0, 0, 0))]
theorem K107_5 : zRk 107 B107_5 = true := zRw_ok (by decide +kernel)
noncomputable def B107_6 : List zRow := [(22, .aload_n 0, 1, (0, 0, 0)), (23, .iload_n 3, 1, (0, 0, 0))]
theorem K107_6 : zRk 107 B107_6 = true := zRw_ok (by decide +kernel)
noncomputable def B107_7 : List zRow := [(30, .aload_n 0, 1, (0, 0, 0)), (31, .iload_n 3, 1, (0, 0, 0)), (32, .iload_n 1, 1, (0, 0, 0))]
theorem K107_7 : zRk 107 B107_7 = true := zRw_ok (by decide +kernel)
noncomputable def B107_8 : List zRow := [(36, .aload_n 0, 1, (0, 0, 0)), (37, .iload_n 3, 1, (0, 0, 0))]
theorem K107_8 : zRk 107 B107_8 = true := zRw_ok (by decide +kernel)
noncomputable def B107_9 : List zRow := [(27, .ifCond .eq 14, 3, (0, 0, 0))]
theorem K107_9 : zRk 107 B107_9 = true := zRw_ok (by decide +kernel)
noncomputable def B107_10 : List zRow := [(16, .iload_n 3, 1, (0, 0, 0)), (17, .bipush 64, 2, (0, 0, 0)), (19, .if_icmp .ge 28, 3, (0, 0, 0))]
theorem K107_10 : zRk 107 B107_10 = true := zRw_ok (by decide +kernel)
noncomputable def B107_11 : List zRow := [(41, .iinc 3 1, 3, (0, 0, 0)), (44, .goto (-28), 3, (0, 0, 0))]
theorem K107_11 : zRk 107 B107_11 = true := zRw_ok (by decide +kernel)
noncomputable def B107_12 : List zRow := [(103, .iconst (-1), 1, (0, 0, 0))]
theorem K107_12 : zRk 107 B107_12 = true := zRw_ok (by decide +kernel)
noncomputable def B107_13 : List zRow := [(99, .iload_n 3, 1, (0, 0, 0)), (100, .goto 4, 3, (0, 0, 0))]
theorem K107_13 : zRk 107 B107_13 = true := zRw_ok (by decide +kernel)
noncomputable def B107_14 : List zRow := [(94, .iload_n 2, 1, (0, 0, 0)), (95, .iconst (-1), 1, (0, 0, 0)), (96, .if_icmp .ne 7, 3, (0, 0, 0))]
theorem K107_14 : zRk 107 B107_14 = true := zRw_ok (by decide +kernel)
noncomputable def B107_15 : List zRow := [(59, .aload_n 0, 1, (0, 0, 0)), (60, .iload 4, 2, (0, 0, 0))]
theorem K107_15 : zRk 107 B107_15 = true := zRw_ok (by decide +kernel)
noncomputable def B107_16 : List zRow := [(68, .aload_n 0, 1, (0, 0, 0)), (69, .iload 4, 2, (0, 0, 0))]
theorem K107_16 : zRk 107 B107_16 = true := zRw_ok (by decide +kernel)
noncomputable def B107_17 : List zRow := [(85, .iinc 3 1, 3, (0, 0, 0))]
theorem K107_17 : zRk 107 B107_17 = true := zRw_ok (by decide +kernel)
noncomputable def B107_18 : List zRow := [(82, .iload 4, 2, (0, 0, 0))]
theorem K107_18 : zRk 107 B107_18 = true := zRw_ok (by decide +kernel)
noncomputable def B107_19 : List zRow := [(77, .iload_n 3, 1, (0, 0, 0)), (78, .iload_n 2, 1, (0, 0, 0)), (79, .if_icmp .ne 6, 3, (0, 0, 0))]
theorem K107_19 : zRk 107 B107_19 = true := zRw_ok (by decide +kernel)
noncomputable def B107_20 : List zRow := [(74, .ifCond .eq 14, 3, (0, 0, 0))]
theorem K107_20 : zRk 107 B107_20 = true := zRw_ok (by decide +kernel)
noncomputable def B107_21 : List zRow := [(65, .ifCond .eq 23, 3, (0, 0, 0))]
theorem K107_21 : zRk 107 B107_21 = true := zRw_ok (by decide +kernel)
noncomputable def B107_22 : List zRow := [(52, .iload 4, 2, (0, 0, 0)), (54, .bipush 64, 2, (0, 0, 0)), (56, .if_icmp .ge 38, 3, (0, 0, 0))]
theorem K107_22 : zRk 107 B107_22 = true := zRw_ok (by decide +kernel)
noncomputable def B107_23 : List zRow := [(88, .iinc 4 1, 3, (0, 0, 0)), (91, .goto (-39), 3, (0, 0, 0))]
theorem K107_23 : zRk 107 B107_23 = true := zRw_ok (by decide +kernel)
noncomputable def B251_0 : List zRow := [(0, .iconst 0, 1, (0, 0, 0)), (1, .istore_n 3, 1, (0, 0, 0))]
theorem K251_0 : zRk 251 B251_0 = true := zRw_ok (by decide +kernel)
noncomputable def B251_1 : List zRow := [(57, .iconst 1, 1, (0, 0, 0))]
theorem K251_1 : zRk 251 B251_1 = true := zRw_ok (by decide +kernel)
noncomputable def B251_2 : List zRow := [(12, .iload_n 2, 1, (0, 0, 0)), (13, .iload_n 3, 1, (0, 0, 0))]
theorem K251_2 : zRk 251 B251_2 = true := zRw_ok (by decide +kernel)
noncomputable def B251_3 : List zRow := [(20, .aload_n 0, 1, (0, 0, 0)), (21, .getfield 42, 3, (12, 25, 5244418)), (24, .bipush 6, 2, (0, 0, 0)), (26, .iload_n 1, 1, (0, 0, 0)), (27, .iconst 1, 1, (0, 0, 0)), (28, .iload_n 3, 1, (0, 0, 0)), (29, .ishl, 1, (0, 0, 0)), (30, .ixor, 1, (0, 0, 0))]
theorem K251_3 : zRk 251 B251_3 = true := zRw_ok (by decide +kernel)
noncomputable def B251_4 : List zRow := [(31, .imul, 1, (0, 0, 0)), (32, .iload_n 3, 1, (0, 0, 0)), (33, .iadd, 1, (0, 0, 0)), (34, .iaload, 1, (0, 0, 0)), (35, .aload_n 0, 1, (0, 0, 0)), (36, .getfield 42, 3, (12, 25, 5244418)), (39, .bipush 6, 2, (0, 0, 0)), (41, .iload_n 1, 1, (0, 0, 0))]
theorem K251_4 : zRk 251 B251_4 = true := zRw_ok (by decide +kernel)
noncomputable def B251_5 : List zRow := [(49, .iconst 0, 1, (0, 0, 0))]
theorem K251_5 : zRk 251 B251_5 = true := zRw_ok (by decide +kernel)
noncomputable def B251_6 : List zRow := [(42, .imul, 1, (0, 0, 0)), (43, .iload_n 3, 1, (0, 0, 0)), (44, .iadd, 1, (0, 0, 0)), (45, .iaload, 1, (0, 0, 0)), (46, .if_icmp .le 5, 3, (0, 0, 0))]
theorem K251_6 : zRk 251 B251_6 = true := zRw_ok (by decide +kernel)
noncomputable def B251_7 : List zRow := [(17, .ifCond .eq 34, 3, (0, 0, 0))]
theorem K251_7 : zRk 251 B251_7 = true := zRw_ok (by decide +kernel)
noncomputable def B251_8 : List zRow := [(2, .iload_n 3, 1, (0, 0, 0)), (3, .aload_n 0, 1, (0, 0, 0)), (4, .getfield 13, 3, (12, 14, 5251442)), (7, .iconst 3, 1, (0, 0, 0)), (8, .iaload, 1, (0, 0, 0)), (9, .if_icmp .ge 48, 3, (0, 0, 0))]
theorem K251_8 : zRk 251 B251_8 = true := zRw_ok (by decide +kernel)
noncomputable def B251_9 : List zRow := [(51, .iinc 3 1, 3, (0, 0, 0)), (54, .goto (-52), 3, (0, 0, 0))]
theorem K251_9 : zRk 251 B251_9 = true := zRw_ok (by decide +kernel)
noncomputable def B250_0 : List zRow := [(0, .aload_n 0, 1, (0, 0, 0)), (1, .iconst 0, 1, (0, 0, 0)), (2, .putfield 81, 3, (12, 0, 0)), (5, .iload_n 1, 1, (0, 0, 0))]
theorem K250_0 : zRk 250 B250_0 = true := zRw_ok (by decide +kernel)
noncomputable def B250_1 : List zRow := [(14, .aload_n 0, 1, (0, 0, 0))]
theorem K250_1 : zRk 250 B250_1 = true := zRw_ok (by decide +kernel)
noncomputable def B250_2 : List zRow := [(18, .istore_n 3, 1, (0, 0, 0)), (19, .iconst 0, 1, (0, 0, 0)), (20, .istore 4, 2, (0, 0, 0))]
theorem K250_2 : zRk 250 B250_2 = true := zRw_ok (by decide +kernel)
noncomputable def B250_3 : List zRow := [(12, .iconst (-1), 1, (0, 0, 0))]
theorem K250_3 : zRk 250 B250_3 = true := zRw_ok (by decide +kernel)
noncomputable def B250_4 : List zRow := [(9, .ifCond .ne 5, 3, (0, 0, 0))]
theorem K250_4 : zRk 250 B250_4 = true := zRw_ok (by decide +kernel)
noncomputable def B250_5 : List zRow := [(50, .iconst 0, 1, (0, 0, 0)), (51, .istore 4, 2, (0, 0, 0)), (53, .iconst 0, 1, (0, 0, 0)), (54, .istore 5, 2, (0, 0, 0))]
theorem K250_5 : zRk 250 B250_5 = true := zRw_ok (by decide +kernel)
noncomputable def B250_6 : List zRow := [(37, .aload_n 0, 1, (0, 0, 0)), (38, .iload 4, 2, (0, 0, 0)), (40, .iload_n 1, 1, (0, 0, 0))]
theorem K250_6 : zRk 250 B250_6 = true := zRw_ok (by decide +kernel)
noncomputable def B250_7 : List zRow := [(28, .iload 4, 2, (0, 0, 0)), (30, .iload_n 3, 1, (0, 0, 0)), (31, .iconst (-1), 1, (0, 0, 0)), (32, .ixor, 1, (0, 0, 0)), (33, .iand, 1, (0, 0, 0)), (34, .ifCond .ne 10, 3, (0, 0, 0))]
theorem K250_7 : zRk 250 B250_7 = true := zRw_ok (by decide +kernel)
noncomputable def B250_8 : List zRow := [(22, .iload 4, 2, (0, 0, 0)), (24, .iload_n 3, 1, (0, 0, 0)), (25, .if_icmp .gt 25, 3, (0, 0, 0))]
theorem K250_8 : zRk 250 B250_8 = true := zRw_ok (by decide +kernel)
noncomputable def B250_9 : List zRow := [(44, .iinc 4 1, 3, (0, 0, 0)), (47, .goto (-25), 3, (0, 0, 0))]
theorem K250_9 : zRk 250 B250_9 = true := zRw_ok (by decide +kernel)
noncomputable def B250_10 : List zRow := [(112, .iconst (-1), 1, (0, 0, 0))]
theorem K250_10 : zRk 250 B250_10 = true := zRw_ok (by decide +kernel)
noncomputable def B250_11 : List zRow := [(107, .iload 4, 2, (0, 0, 0)), (109, .goto 4, 3, (0, 0, 0))]
theorem K250_11 : zRk 250 B250_11 = true := zRw_ok (by decide +kernel)
noncomputable def B250_12 : List zRow := [(102, .iload_n 2, 1, (0, 0, 0)), (103, .iconst (-1), 1, (0, 0, 0)), (104, .if_icmp .ne 8, 3, (0, 0, 0))]
theorem K250_12 : zRk 250 B250_12 = true := zRw_ok (by decide +kernel)
noncomputable def B250_13 : List zRow := [(71, .aload_n 0, 1, (0, 0, 0)), (72, .iload 5, 2, (0, 0, 0)), (74, .iload_n 3, 1, (0, 0, 0))]
theorem K250_13 : zRk 250 B250_13 = true := zRw_ok (by decide +kernel)
noncomputable def B250_14 : List zRow := [(93, .iinc 4 1, 3, (0, 0, 0))]
theorem K250_14 : zRk 250 B250_14 = true := zRw_ok (by decide +kernel)
noncomputable def B250_15 : List zRow := [(90, .iload 5, 2, (0, 0, 0))]
theorem K250_15 : zRk 250 B250_15 = true := zRw_ok (by decide +kernel)
noncomputable def B250_16 : List zRow := [(84, .iload 4, 2, (0, 0, 0)), (86, .iload_n 2, 1, (0, 0, 0)), (87, .if_icmp .ne 6, 3, (0, 0, 0))]
theorem K250_16 : zRk 250 B250_16 = true := zRw_ok (by decide +kernel)
noncomputable def B250_17 : List zRow := [(81, .goto 15, 3, (0, 0, 0))]
theorem K250_17 : zRk 250 B250_17 = true := zRw_ok (by decide +kernel)
noncomputable def B250_18 : List zRow := [(78, .ifCond .ne 6, 3, (0, 0, 0))]
theorem K250_18 : zRk 250 B250_18 = true := zRw_ok (by decide +kernel)
noncomputable def B250_19 : List zRow := [(62, .iload 5, 2, (0, 0, 0)), (64, .iload_n 3, 1, (0, 0, 0)), (65, .iconst (-1), 1, (0, 0, 0)), (66, .ixor, 1, (0, 0, 0)), (67, .iand, 1, (0, 0, 0)), (68, .ifCond .ne 28, 3, (0, 0, 0))]
theorem K250_19 : zRk 250 B250_19 = true := zRw_ok (by decide +kernel)
noncomputable def B250_20 : List zRow := [(56, .iload 5, 2, (0, 0, 0)), (58, .iload_n 3, 1, (0, 0, 0)), (59, .if_icmp .gt 43, 3, (0, 0, 0))]
theorem K250_20 : zRk 250 B250_20 = true := zRw_ok (by decide +kernel)
noncomputable def B250_21 : List zRow := [(96, .iinc 5 1, 3, (0, 0, 0)), (99, .goto (-43), 3, (0, 0, 0))]
theorem K250_21 : zRk 250 B250_21 = true := zRw_ok (by decide +kernel)
noncomputable def B111_0 : List zRow := [(0, .aload_n 0, 1, (0, 0, 0)), (1, .getfield 60, 3, (11, 7, 135)), (4, .aload_n 0, 1, (0, 0, 0)), (5, .getfield 56, 3, (11, 6, 7))]
theorem K111_0 : zRk 111 B111_0 = true := zRw_ok (by decide +kernel)
noncomputable def B111_1 : List zRow := [(11, .aload_n 0, 1, (0, 0, 0)), (12, .getfield 60, 3, (11, 7, 135)), (15, .getfield 177, 3, (1, 3, 5242906)), (18, .iload_n 1, 1, (0, 0, 0)), (19, .iload_n 2, 1, (0, 0, 0)), (20, .iastore, 1, (0, 0, 0)), (21, .aload_n 0, 1, (0, 0, 0)), (22, .getfield 60, 3, (11, 7, 135)), (25, .aload_n 0, 1, (0, 0, 0)), (26, .getfield 19, 3, (11, 1, 39)), (29, .iload_n 1, 1, (0, 0, 0)), (30, .iconst 1, 1, (0, 0, 0)), (31, .iload_n 3, 1, (0, 0, 0))]
theorem K111_1 : zRk 111 B111_1 = true := zRw_ok (by decide +kernel)
noncomputable def B111_2 : List zRow := [(35, .pop, 1, (0, 0, 0)), (36, .aload_n 0, 1, (0, 0, 0)), (37, .getfield 60, 3, (11, 7, 135)), (40, .aload_n 0, 1, (0, 0, 0)), (41, .getfield 19, 3, (11, 1, 39)), (44, .iload 4, 2, (0, 0, 0))]
theorem K111_2 : zRk 111 B111_2 = true := zRw_ok (by decide +kernel)
noncomputable def B111_3 : List zRow := [(49, .pop, 1, (0, 0, 0))]
theorem K111_3 : zRk 111 B111_3 = true := zRw_ok (by decide +kernel)
noncomputable def B110_0 : List zRow := [(0, .aload_n 0, 1, (0, 0, 0)), (1, .iload_n 1, 1, (0, 0, 0))]
theorem K110_0 : zRk 110 B110_0 = true := zRw_ok (by decide +kernel)
noncomputable def B110_1 : List zRow := [(52, .iconst (-1), 1, (0, 0, 0))]
theorem K110_1 : zRk 110 B110_1 = true := zRw_ok (by decide +kernel)
noncomputable def B110_2 : List zRow := [(8, .aload_n 0, 1, (0, 0, 0)), (9, .iload_n 2, 1, (0, 0, 0))]
theorem K110_2 : zRk 110 B110_2 = true := zRw_ok (by decide +kernel)
noncomputable def B110_3 : List zRow := [(21, .iload_n 3, 1, (0, 0, 0))]
theorem K110_3 : zRk 110 B110_3 = true := zRw_ok (by decide +kernel)
noncomputable def B110_4 : List zRow := [(28, .iload 4, 2, (0, 0, 0))]
theorem K110_4 : zRk 110 B110_4 = true := zRw_ok (by decide +kernel)
noncomputable def B110_5 : List zRow := [(42, .aload_n 0, 1, (0, 0, 0)), (43, .getfield 56, 3, (11, 6, 7))]
theorem K110_5 : zRk 110 B110_5 = true := zRw_ok (by decide +kernel)
noncomputable def B110_6 : List zRow := [(54, .iconst 0, 1, (0, 0, 0)), (55, .istore 6, 2, (0, 0, 0)), (57, .iconst 0, 1, (0, 0, 0)), (58, .istore 7, 2, (0, 0, 0))]
theorem K110_6 : zRk 110 B110_6 = true := zRw_ok (by decide +kernel)
noncomputable def B110_7 : List zRow := [(49, .ifCond .eq 5, 3, (0, 0, 0))]
theorem K110_7 : zRk 110 B110_7 = true := zRw_ok (by decide +kernel)
noncomputable def B110_8 : List zRow := [(36, .iload 5, 2, (0, 0, 0)), (38, .iconst (-1), 1, (0, 0, 0)), (39, .if_icmp .lt 13, 3, (0, 0, 0))]
theorem K110_8 : zRk 110 B110_8 = true := zRw_ok (by decide +kernel)
noncomputable def B110_9 : List zRow := [(33, .ifCond .eq 19, 3, (0, 0, 0))]
theorem K110_9 : zRk 110 B110_9 = true := zRw_ok (by decide +kernel)
noncomputable def B110_10 : List zRow := [(25, .ifCond .eq 27, 3, (0, 0, 0))]
theorem K110_10 : zRk 110 B110_10 = true := zRw_ok (by decide +kernel)
noncomputable def B110_11 : List zRow := [(16, .iload_n 1, 1, (0, 0, 0)), (17, .iload_n 2, 1, (0, 0, 0)), (18, .if_icmp .eq 34, 3, (0, 0, 0))]
theorem K110_11 : zRk 110 B110_11 = true := zRw_ok (by decide +kernel)
noncomputable def B110_12 : List zRow := [(13, .ifCond .eq 39, 3, (0, 0, 0))]
theorem K110_12 : zRk 110 B110_12 = true := zRw_ok (by decide +kernel)
noncomputable def B110_13 : List zRow := [(5, .ifCond .eq 47, 3, (0, 0, 0))]
theorem K110_13 : zRk 110 B110_13 = true := zRw_ok (by decide +kernel)
noncomputable def B110_14 : List zRow := [(134, .iconst (-1), 1, (0, 0, 0))]
theorem K110_14 : zRk 110 B110_14 = true := zRw_ok (by decide +kernel)
noncomputable def B110_15 : List zRow := [(129, .iload 6, 2, (0, 0, 0)), (131, .goto 4, 3, (0, 0, 0))]
theorem K110_15 : zRk 110 B110_15 = true := zRw_ok (by decide +kernel)
noncomputable def B110_16 : List zRow := [(123, .iload 5, 2, (0, 0, 0)), (125, .iconst (-1), 1, (0, 0, 0)), (126, .if_icmp .ne 8, 3, (0, 0, 0))]
theorem K110_16 : zRk 110 B110_16 = true := zRw_ok (by decide +kernel)
noncomputable def B110_17 : List zRow := [(67, .aload_n 0, 1, (0, 0, 0)), (68, .getfield 19, 3, (11, 1, 39)), (71, .iload 7, 2, (0, 0, 0))]
theorem K110_17 : zRk 110 B110_17 = true := zRw_ok (by decide +kernel)
noncomputable def B110_18 : List zRow := [(79, .aload_n 0, 1, (0, 0, 0)), (80, .iload_n 1, 1, (0, 0, 0)), (81, .iload 7, 2, (0, 0, 0)), (83, .iload_n 3, 1, (0, 0, 0)), (84, .iload 4, 2, (0, 0, 0))]
theorem K110_18 : zRk 110 B110_18 = true := zRw_ok (by decide +kernel)
noncomputable def B110_19 : List zRow := [(89, .aload_n 0, 1, (0, 0, 0)), (90, .getfield 60, 3, (11, 7, 135)), (93, .iconst 0, 1, (0, 0, 0)), (94, .iconst 5, 1, (0, 0, 0))]
theorem K110_19 : zRk 110 B110_19 = true := zRw_ok (by decide +kernel)
noncomputable def B110_20 : List zRow := [(114, .iinc 6 1, 3, (0, 0, 0))]
theorem K110_20 : zRk 110 B110_20 = true := zRw_ok (by decide +kernel)
noncomputable def B110_21 : List zRow := [(111, .iload 7, 2, (0, 0, 0))]
theorem K110_21 : zRk 110 B110_21 = true := zRw_ok (by decide +kernel)
noncomputable def B110_22 : List zRow := [(104, .iload 6, 2, (0, 0, 0)), (106, .iload 5, 2, (0, 0, 0)), (108, .if_icmp .ne 6, 3, (0, 0, 0))]
theorem K110_22 : zRk 110 B110_22 = true := zRw_ok (by decide +kernel)
noncomputable def B110_23 : List zRow := [(98, .iconst 1, 1, (0, 0, 0)), (99, .iload_n 2, 1, (0, 0, 0)), (100, .ishl, 1, (0, 0, 0)), (101, .if_icmp .ne 16, 3, (0, 0, 0))]
theorem K110_23 : zRk 110 B110_23 = true := zRw_ok (by decide +kernel)
noncomputable def B110_24 : List zRow := [(76, .ifCond .eq 41, 3, (0, 0, 0))]
theorem K110_24 : zRk 110 B110_24 = true := zRw_ok (by decide +kernel)
noncomputable def B110_25 : List zRow := [(60, .iload 7, 2, (0, 0, 0)), (62, .bipush 100, 2, (0, 0, 0)), (64, .if_icmp .ge 59, 3, (0, 0, 0))]
theorem K110_25 : zRk 110 B110_25 = true := zRw_ok (by decide +kernel)
noncomputable def B110_26 : List zRow := [(117, .iinc 7 1, 3, (0, 0, 0)), (120, .goto (-60), 3, (0, 0, 0))]
theorem K110_26 : zRk 110 B110_26 = true := zRw_ok (by decide +kernel)
noncomputable def B252_0 : List zRow := [(0, .aload_n 0, 1, (0, 0, 0)), (1, .iconst 0, 1, (0, 0, 0)), (2, .putfield 81, 3, (12, 0, 0)), (5, .aload_n 0, 1, (0, 0, 0)), (6, .iload_n 1, 1, (0, 0, 0))]
theorem K252_0 : zRk 252 B252_0 = true := zRw_ok (by decide +kernel)
noncomputable def B252_1 : List zRow := [(57, .iconst (-1), 1, (0, 0, 0))]
theorem K252_1 : zRk 252 B252_1 = true := zRw_ok (by decide +kernel)
noncomputable def B252_2 : List zRow := [(13, .aload_n 0, 1, (0, 0, 0)), (14, .iload_n 2, 1, (0, 0, 0))]
theorem K252_2 : zRk 252 B252_2 = true := zRw_ok (by decide +kernel)
noncomputable def B252_3 : List zRow := [(26, .iload_n 3, 1, (0, 0, 0)), (27, .iconst 1, 1, (0, 0, 0)), (28, .bipush 9, 2, (0, 0, 0))]
theorem K252_3 : zRk 252 B252_3 = true := zRw_ok (by decide +kernel)
noncomputable def B252_4 : List zRow := [(36, .iload 4, 2, (0, 0, 0))]
theorem K252_4 : zRk 252 B252_4 = true := zRw_ok (by decide +kernel)
noncomputable def B252_5 : List zRow := [(59, .iconst 0, 1, (0, 0, 0)), (60, .istore 6, 2, (0, 0, 0)), (62, .iconst 0, 1, (0, 0, 0)), (63, .istore 7, 2, (0, 0, 0))]
theorem K252_5 : zRk 252 B252_5 = true := zRw_ok (by decide +kernel)
noncomputable def B252_6 : List zRow := [(44, .aload_n 0, 1, (0, 0, 0)), (45, .getfield 13, 3, (12, 14, 5251442)), (48, .sipush 216, 3, (0, 0, 0)), (51, .iaload, 1, (0, 0, 0)), (52, .bipush 30, 2, (0, 0, 0)), (54, .if_icmp .ne 5, 3, (0, 0, 0))]
theorem K252_6 : zRk 252 B252_6 = true := zRw_ok (by decide +kernel)
noncomputable def B252_7 : List zRow := [(41, .ifCond .eq 16, 3, (0, 0, 0))]
theorem K252_7 : zRk 252 B252_7 = true := zRw_ok (by decide +kernel)
noncomputable def B252_8 : List zRow := [(33, .ifCond .eq 24, 3, (0, 0, 0))]
theorem K252_8 : zRk 252 B252_8 = true := zRw_ok (by decide +kernel)
noncomputable def B252_9 : List zRow := [(21, .iload_n 1, 1, (0, 0, 0)), (22, .iload_n 2, 1, (0, 0, 0)), (23, .if_icmp .eq 34, 3, (0, 0, 0))]
theorem K252_9 : zRk 252 B252_9 = true := zRw_ok (by decide +kernel)
noncomputable def B252_10 : List zRow := [(18, .ifCond .eq 39, 3, (0, 0, 0))]
theorem K252_10 : zRk 252 B252_10 = true := zRw_ok (by decide +kernel)
noncomputable def B252_11 : List zRow := [(10, .ifCond .eq 47, 3, (0, 0, 0))]
theorem K252_11 : zRk 252 B252_11 = true := zRw_ok (by decide +kernel)
noncomputable def B252_12 : List zRow := [(178, .iconst (-1), 1, (0, 0, 0))]
theorem K252_12 : zRk 252 B252_12 = true := zRw_ok (by decide +kernel)
noncomputable def B252_13 : List zRow := [(173, .iload 6, 2, (0, 0, 0)), (175, .goto 4, 3, (0, 0, 0))]
theorem K252_13 : zRk 252 B252_13 = true := zRw_ok (by decide +kernel)
noncomputable def B252_14 : List zRow := [(167, .iload 5, 2, (0, 0, 0)), (169, .iconst (-1), 1, (0, 0, 0)), (170, .if_icmp .ne 8, 3, (0, 0, 0))]
theorem K252_14 : zRk 252 B252_14 = true := zRw_ok (by decide +kernel)
noncomputable def B252_15 : List zRow := [(72, .aload_n 0, 1, (0, 0, 0)), (73, .iload 7, 2, (0, 0, 0))]
theorem K252_15 : zRk 252 B252_15 = true := zRw_ok (by decide +kernel)
noncomputable def B252_16 : List zRow := [(84, .aload_n 0, 1, (0, 0, 0))]
theorem K252_16 : zRk 252 B252_16 = true := zRw_ok (by decide +kernel)
noncomputable def B252_17 : List zRow := [(88, .aload_n 0, 1, (0, 0, 0)), (89, .getfield 13, 3, (12, 14, 5251442)), (92, .sipush 210, 3, (0, 0, 0)), (95, .iload_n 1, 1, (0, 0, 0))]
theorem K252_17 : zRk 252 B252_17 = true := zRw_ok (by decide +kernel)
noncomputable def B252_18 : List zRow := [(96, .iadd, 1, (0, 0, 0)), (97, .iload 7, 2, (0, 0, 0)), (99, .iastore, 1, (0, 0, 0)), (100, .aload_n 0, 1, (0, 0, 0)), (101, .iload_n 1, 1, (0, 0, 0)), (102, .iconst 1, 1, (0, 0, 0)), (103, .iload_n 3, 1, (0, 0, 0))]
theorem K252_18 : zRk 252 B252_18 = true := zRw_ok (by decide +kernel)
noncomputable def B252_19 : List zRow := [(107, .istore 8, 2, (0, 0, 0)), (109, .aload_n 0, 1, (0, 0, 0)), (110, .iload 4, 2, (0, 0, 0))]
theorem K252_19 : zRk 252 B252_19 = true := zRw_ok (by decide +kernel)
noncomputable def B252_20 : List zRow := [(115, .pop, 1, (0, 0, 0)), (116, .aload_n 0, 1, (0, 0, 0)), (117, .iload 8, 2, (0, 0, 0)), (119, .iconst 5, 1, (0, 0, 0))]
theorem K252_20 : zRk 252 B252_20 = true := zRw_ok (by decide +kernel)
noncomputable def B252_21 : List zRow := [(133, .iconst 0, 1, (0, 0, 0))]
theorem K252_21 : zRk 252 B252_21 = true := zRw_ok (by decide +kernel)
noncomputable def B252_22 : List zRow := [(129, .iconst 1, 1, (0, 0, 0)), (130, .goto 4, 3, (0, 0, 0))]
theorem K252_22 : zRk 252 B252_22 = true := zRw_ok (by decide +kernel)
noncomputable def B252_23 : List zRow := [(123, .iconst 1, 1, (0, 0, 0)), (124, .iload_n 2, 1, (0, 0, 0)), (125, .ishl, 1, (0, 0, 0)), (126, .if_icmp .ne 7, 3, (0, 0, 0))]
theorem K252_23 : zRk 252 B252_23 = true := zRw_ok (by decide +kernel)
noncomputable def B252_24 : List zRow := [(81, .goto 80, 3, (0, 0, 0))]
theorem K252_24 : zRk 252 B252_24 = true := zRw_ok (by decide +kernel)
noncomputable def B252_25 : List zRow := [(78, .ifCond .ne 6, 3, (0, 0, 0))]
theorem K252_25 : zRk 252 B252_25 = true := zRw_ok (by decide +kernel)
noncomputable def B252_26 : List zRow := [(65, .iload 7, 2, (0, 0, 0)), (67, .bipush 100, 2, (0, 0, 0)), (69, .if_icmp .ge 98, 3, (0, 0, 0))]
theorem K252_26 : zRk 252 B252_26 = true := zRw_ok (by decide +kernel)
noncomputable def B252_27 : List zRow := [(161, .iinc 7 1, 3, (0, 0, 0)), (164, .goto (-99), 3, (0, 0, 0))]
theorem K252_27 : zRk 252 B252_27 = true := zRw_ok (by decide +kernel)
noncomputable def B252_28 : List zRow := [(134, .istore 9, 2, (0, 0, 0)), (136, .aload_n 0, 1, (0, 0, 0))]
theorem K252_28 : zRk 252 B252_28 = true := zRw_ok (by decide +kernel)
noncomputable def B252_29 : List zRow := [(158, .iinc 6 1, 3, (0, 0, 0))]
theorem K252_29 : zRk 252 B252_29 = true := zRw_ok (by decide +kernel)
noncomputable def B252_30 : List zRow := [(155, .iload 7, 2, (0, 0, 0))]
theorem K252_30 : zRk 252 B252_30 = true := zRw_ok (by decide +kernel)
noncomputable def B252_31 : List zRow := [(148, .iload 6, 2, (0, 0, 0)), (150, .iload 5, 2, (0, 0, 0)), (152, .if_icmp .ne 6, 3, (0, 0, 0))]
theorem K252_31 : zRk 252 B252_31 = true := zRw_ok (by decide +kernel)
noncomputable def B252_32 : List zRow := [(145, .goto 16, 3, (0, 0, 0))]
theorem K252_32 : zRk 252 B252_32 = true := zRw_ok (by decide +kernel)
noncomputable def B252_33 : List zRow := [(140, .iload 9, 2, (0, 0, 0)), (142, .ifCond .ne 6, 3, (0, 0, 0))]
theorem K252_33 : zRk 252 B252_33 = true := zRw_ok (by decide +kernel)
noncomputable def B112_0 : List zRow := [(0, .aload_n 0, 1, (0, 0, 0)), (1, .iload_n 1, 1, (0, 0, 0))]
theorem K112_0 : zRk 112 B112_0 = true := zRw_ok (by decide +kernel)
noncomputable def B112_1 : List zRow := [(25, .iconst (-1), 1, (0, 0, 0))]
theorem K112_1 : zRk 112 B112_1 = true := zRw_ok (by decide +kernel)
noncomputable def B112_2 : List zRow := [(8, .iload_n 2, 1, (0, 0, 0))]
theorem K112_2 : zRk 112 B112_2 = true := zRw_ok (by decide +kernel)
noncomputable def B112_3 : List zRow := [(15, .aload_n 0, 1, (0, 0, 0)), (16, .getfield 56, 3, (11, 6, 7))]
theorem K112_3 : zRk 112 B112_3 = true := zRw_ok (by decide +kernel)
noncomputable def B112_4 : List zRow := [(27, .bipush 9, 2, (0, 0, 0)), (29, .istore_n 3, 1, (0, 0, 0))]
theorem K112_4 : zRk 112 B112_4 = true := zRw_ok (by decide +kernel)
noncomputable def B112_5 : List zRow := [(22, .ifCond .eq 5, 3, (0, 0, 0))]
theorem K112_5 : zRk 112 B112_5 = true := zRw_ok (by decide +kernel)
noncomputable def B112_6 : List zRow := [(12, .ifCond .eq 13, 3, (0, 0, 0))]
theorem K112_6 : zRk 112 B112_6 = true := zRw_ok (by decide +kernel)
noncomputable def B112_7 : List zRow := [(5, .ifCond .eq 20, 3, (0, 0, 0))]
theorem K112_7 : zRk 112 B112_7 = true := zRw_ok (by decide +kernel)
noncomputable def B112_8 : List zRow := [(71, .iconst 0, 1, (0, 0, 0))]
theorem K112_8 : zRk 112 B112_8 = true := zRw_ok (by decide +kernel)
noncomputable def B112_9 : List zRow := [(34, .aload_n 0, 1, (0, 0, 0)), (35, .iload_n 1, 1, (0, 0, 0)), (36, .aload_n 0, 1, (0, 0, 0)), (37, .getfield 56, 3, (11, 6, 7)), (40, .getfield 177, 3, (1, 3, 5242906)), (43, .iload_n 1, 1, (0, 0, 0)), (44, .iaload, 1, (0, 0, 0)), (45, .iload_n 3, 1, (0, 0, 0)), (46, .iload_n 2, 1, (0, 0, 0))]
theorem K112_9 : zRk 112 B112_9 = true := zRw_ok (by decide +kernel)
noncomputable def B112_10 : List zRow := [(50, .aload_n 0, 1, (0, 0, 0)), (51, .getfield 60, 3, (11, 7, 135)), (54, .iconst 0, 1, (0, 0, 0)), (55, .bipush 7, 2, (0, 0, 0))]
theorem K112_10 : zRk 112 B112_10 = true := zRw_ok (by decide +kernel)
noncomputable def B112_11 : List zRow := [(65, .iinc 3 (-1), 3, (0, 0, 0)), (68, .goto (-38), 3, (0, 0, 0))]
theorem K112_11 : zRk 112 B112_11 = true := zRw_ok (by decide +kernel)
noncomputable def B112_12 : List zRow := [(63, .iload_n 3, 1, (0, 0, 0))]
theorem K112_12 : zRk 112 B112_12 = true := zRw_ok (by decide +kernel)
noncomputable def B112_13 : List zRow := [(60, .ifCond .ne 5, 3, (0, 0, 0))]
theorem K112_13 : zRk 112 B112_13 = true := zRw_ok (by decide +kernel)
noncomputable def B112_14 : List zRow := [(30, .iload_n 3, 1, (0, 0, 0)), (31, .ifCond .le 40, 3, (0, 0, 0))]
theorem K112_14 : zRk 112 B112_14 = true := zRw_ok (by decide +kernel)
noncomputable def B253_0 : List zRow := [(0, .aload_n 0, 1, (0, 0, 0)), (1, .iconst 0, 1, (0, 0, 0)), (2, .putfield 81, 3, (12, 0, 0)), (5, .aload_n 0, 1, (0, 0, 0)), (6, .iload_n 1, 1, (0, 0, 0))]
theorem K253_0 : zRk 253 B253_0 = true := zRw_ok (by decide +kernel)
noncomputable def B253_1 : List zRow := [(33, .iconst (-1), 1, (0, 0, 0))]
theorem K253_1 : zRk 253 B253_1 = true := zRw_ok (by decide +kernel)
noncomputable def B253_2 : List zRow := [(13, .iload_n 2, 1, (0, 0, 0))]
theorem K253_2 : zRk 253 B253_2 = true := zRw_ok (by decide +kernel)
noncomputable def B253_3 : List zRow := [(35, .bipush 9, 2, (0, 0, 0)), (37, .istore_n 3, 1, (0, 0, 0))]
theorem K253_3 : zRk 253 B253_3 = true := zRw_ok (by decide +kernel)
noncomputable def B253_4 : List zRow := [(20, .aload_n 0, 1, (0, 0, 0)), (21, .getfield 13, 3, (12, 14, 5251442)), (24, .sipush 216, 3, (0, 0, 0)), (27, .iaload, 1, (0, 0, 0)), (28, .bipush 30, 2, (0, 0, 0)), (30, .if_icmp .ne 5, 3, (0, 0, 0))]
theorem K253_4 : zRk 253 B253_4 = true := zRw_ok (by decide +kernel)
noncomputable def B253_5 : List zRow := [(17, .ifCond .eq 16, 3, (0, 0, 0))]
theorem K253_5 : zRk 253 B253_5 = true := zRw_ok (by decide +kernel)
noncomputable def B253_6 : List zRow := [(10, .ifCond .eq 23, 3, (0, 0, 0))]
theorem K253_6 : zRk 253 B253_6 = true := zRw_ok (by decide +kernel)
noncomputable def B253_7 : List zRow := [(96, .iconst 0, 1, (0, 0, 0))]
theorem K253_7 : zRk 253 B253_7 = true := zRw_ok (by decide +kernel)
noncomputable def B253_8 : List zRow := [(42, .aload_n 0, 1, (0, 0, 0))]
theorem K253_8 : zRk 253 B253_8 = true := zRw_ok (by decide +kernel)
noncomputable def B253_9 : List zRow := [(46, .aload_n 0, 1, (0, 0, 0)), (47, .iload_n 1, 1, (0, 0, 0)), (48, .iconst 1, 1, (0, 0, 0)), (49, .iload_n 3, 1, (0, 0, 0))]
theorem K253_9 : zRk 253 B253_9 = true := zRw_ok (by decide +kernel)
noncomputable def B253_10 : List zRow := [(53, .istore 4, 2, (0, 0, 0)), (55, .aload_n 0, 1, (0, 0, 0)), (56, .iload_n 2, 1, (0, 0, 0))]
theorem K253_10 : zRk 253 B253_10 = true := zRw_ok (by decide +kernel)
noncomputable def B253_11 : List zRow := [(60, .pop, 1, (0, 0, 0)), (61, .aload_n 0, 1, (0, 0, 0)), (62, .iload 4, 2, (0, 0, 0)), (64, .bipush 7, 2, (0, 0, 0))]
theorem K253_11 : zRk 253 B253_11 = true := zRw_ok (by decide +kernel)
noncomputable def B253_12 : List zRow := [(76, .iconst 0, 1, (0, 0, 0))]
theorem K253_12 : zRk 253 B253_12 = true := zRw_ok (by decide +kernel)
noncomputable def B253_13 : List zRow := [(72, .iconst 1, 1, (0, 0, 0)), (73, .goto 4, 3, (0, 0, 0))]
theorem K253_13 : zRk 253 B253_13 = true := zRw_ok (by decide +kernel)
noncomputable def B253_14 : List zRow := [(69, .ifCond .ne 7, 3, (0, 0, 0))]
theorem K253_14 : zRk 253 B253_14 = true := zRw_ok (by decide +kernel)
noncomputable def B253_15 : List zRow := [(38, .iload_n 3, 1, (0, 0, 0)), (39, .ifCond .le 57, 3, (0, 0, 0))]
theorem K253_15 : zRk 253 B253_15 = true := zRw_ok (by decide +kernel)
noncomputable def B253_16 : List zRow := [(77, .istore 5, 2, (0, 0, 0)), (79, .aload_n 0, 1, (0, 0, 0))]
theorem K253_16 : zRk 253 B253_16 = true := zRw_ok (by decide +kernel)
noncomputable def B253_17 : List zRow := [(90, .iinc 3 (-1), 3, (0, 0, 0)), (93, .goto (-55), 3, (0, 0, 0))]
theorem K253_17 : zRk 253 B253_17 = true := zRw_ok (by decide +kernel)
noncomputable def B253_18 : List zRow := [(88, .iload_n 3, 1, (0, 0, 0))]
theorem K253_18 : zRk 253 B253_18 = true := zRw_ok (by decide +kernel)
noncomputable def B253_19 : List zRow := [(83, .iload 5, 2, (0, 0, 0)), (85, .ifCond .eq 5, 3, (0, 0, 0))]
theorem K253_19 : zRk 253 B253_19 = true := zRw_ok (by decide +kernel)
noncomputable def B113_0 : List zRow := [(11, .iconst (-1), 1, (0, 0, 0))]
theorem K113_0 : zRk 113 B113_0 = true := zRw_ok (by decide +kernel)
noncomputable def B113_1 : List zRow := [(13, .aload_n 0, 1, (0, 0, 0)), (14, .getfield 60, 3, (11, 7, 135)), (17, .aload_n 0, 1, (0, 0, 0)), (18, .getfield 56, 3, (11, 6, 7))]
theorem K113_1 : zRk 113 B113_1 = true := zRw_ok (by decide +kernel)
noncomputable def B113_2 : List zRow := [(24, .iconst 0, 1, (0, 0, 0)), (25, .istore_n 2, 1, (0, 0, 0))]
theorem K113_2 : zRk 113 B113_2 = true := zRw_ok (by decide +kernel)
noncomputable def B113_3 : List zRow := [(5, .iload_n 1, 1, (0, 0, 0)), (6, .bipush 100, 2, (0, 0, 0)), (8, .if_icmp .le 5, 3, (0, 0, 0))]
theorem K113_3 : zRk 113 B113_3 = true := zRw_ok (by decide +kernel)
noncomputable def B113_4 : List zRow := [(0, .iload_n 1, 1, (0, 0, 0)), (1, .iconst 1, 1, (0, 0, 0)), (2, .if_icmp .lt 9, 3, (0, 0, 0))]
theorem K113_4 : zRk 113 B113_4 = true := zRw_ok (by decide +kernel)
noncomputable def B113_5 : List zRow := [(87, .iconst (-1), 1, (0, 0, 0))]
theorem K113_5 : zRk 113 B113_5 = true := zRw_ok (by decide +kernel)
noncomputable def B113_6 : List zRow := [(44, .aload_n 0, 1, (0, 0, 0)), (45, .getfield 60, 3, (11, 7, 135)), (48, .aload_n 0, 1, (0, 0, 0)), (49, .getfield 19, 3, (11, 1, 39)), (52, .iconst 0, 1, (0, 0, 0))]
theorem K113_6 : zRk 113 B113_6 = true := zRw_ok (by decide +kernel)
noncomputable def B113_7 : List zRow := [(81, .iinc 2 1, 3, (0, 0, 0)), (84, .goto (-58), 3, (0, 0, 0))]
theorem K113_7 : zRk 113 B113_7 = true := zRw_ok (by decide +kernel)
noncomputable def B113_8 : List zRow := [(73, .aload_n 0, 1, (0, 0, 0)), (74, .getfield 60, 3, (11, 7, 135)), (77, .getfield 159, 3, (1, 0, 0))]
theorem K113_8 : zRk 113 B113_8 = true := zRw_ok (by decide +kernel)
noncomputable def B113_9 : List zRow := [(56, .aload_n 0, 1, (0, 0, 0)), (57, .getfield 60, 3, (11, 7, 135)), (60, .getfield 208, 3, (1, 2, 0)), (63, .aload_n 0, 1, (0, 0, 0)), (64, .getfield 56, 3, (11, 6, 7)), (67, .getfield 208, 3, (1, 2, 0)), (70, .if_icmp .le 11, 3, (0, 0, 0))]
theorem K113_9 : zRk 113 B113_9 = true := zRw_ok (by decide +kernel)
noncomputable def B113_10 : List zRow := [(31, .aload_n 0, 1, (0, 0, 0)), (32, .getfield 60, 3, (11, 7, 135)), (35, .getfield 159, 3, (1, 0, 0)), (38, .sipush 400, 3, (0, 0, 0)), (41, .if_icmp .ge 46, 3, (0, 0, 0))]
theorem K113_10 : zRk 113 B113_10 = true := zRw_ok (by decide +kernel)
noncomputable def B113_11 : List zRow := [(26, .iload_n 2, 1, (0, 0, 0)), (27, .iload_n 1, 1, (0, 0, 0)), (28, .if_icmp .ge 59, 3, (0, 0, 0))]
theorem K113_11 : zRk 113 B113_11 = true := zRw_ok (by decide +kernel)
noncomputable def B254_0 : List zRow := [(0, .aload_n 0, 1, (0, 0, 0)), (1, .iconst 0, 1, (0, 0, 0)), (2, .putfield 81, 3, (12, 0, 0)), (5, .iload_n 1, 1, (0, 0, 0)), (6, .iconst 1, 1, (0, 0, 0)), (7, .bipush 100, 2, (0, 0, 0))]
theorem K254_0 : zRk 254 B254_0 = true := zRw_ok (by decide +kernel)
noncomputable def B254_1 : List zRow := [(17, .aload_n 0, 1, (0, 0, 0))]
theorem K254_1 : zRk 254 B254_1 = true := zRw_ok (by decide +kernel)
noncomputable def B254_2 : List zRow := [(21, .aload_n 0, 1, (0, 0, 0)), (22, .getfield 13, 3, (12, 14, 5251442)), (25, .sipush 997, 3, (0, 0, 0)), (28, .iaload, 1, (0, 0, 0)), (29, .istore_n 2, 1, (0, 0, 0)), (30, .aload_n 0, 1, (0, 0, 0)), (31, .iload_n 1, 1, (0, 0, 0))]
theorem K254_2 : zRk 254 B254_2 = true := zRw_ok (by decide +kernel)
noncomputable def B254_3 : List zRow := [(65, .iconst (-1), 1, (0, 0, 0))]
theorem K254_3 : zRk 254 B254_3 = true := zRw_ok (by decide +kernel)
noncomputable def B254_4 : List zRow := [(48, .aload_n 0, 1, (0, 0, 0)), (49, .getfield 13, 3, (12, 14, 5251442)), (52, .sipush 998, 3, (0, 0, 0)), (55, .iconst 5, 1, (0, 0, 0)), (56, .iload_n 2, 1, (0, 0, 0))]
theorem K254_4 : zRk 254 B254_4 = true := zRw_ok (by decide +kernel)
noncomputable def B254_5 : List zRow := [(57, .imul, 1, (0, 0, 0))]
theorem K254_5 : zRk 254 B254_5 = true := zRw_ok (by decide +kernel)
noncomputable def B254_6 : List zRow := [(58, .iadd, 1, (0, 0, 0)), (59, .iconst 2, 1, (0, 0, 0)), (60, .iadd, 1, (0, 0, 0)), (61, .iaload, 1, (0, 0, 0)), (62, .goto 4, 3, (0, 0, 0))]
theorem K254_6 : zRk 254 B254_6 = true := zRw_ok (by decide +kernel)
noncomputable def B254_7 : List zRow := [(35, .pop, 1, (0, 0, 0)), (36, .aload_n 0, 1, (0, 0, 0)), (37, .getfield 13, 3, (12, 14, 5251442)), (40, .sipush 997, 3, (0, 0, 0)), (43, .iaload, 1, (0, 0, 0)), (44, .iload_n 2, 1, (0, 0, 0)), (45, .if_icmp .le 20, 3, (0, 0, 0))]
theorem K254_7 : zRk 254 B254_7 = true := zRw_ok (by decide +kernel)
noncomputable def B254_8 : List zRow := [(15, .iconst (-1), 1, (0, 0, 0))]
theorem K254_8 : zRk 254 B254_8 = true := zRw_ok (by decide +kernel)
noncomputable def B254_9 : List zRow := [(12, .ifCond .ne 5, 3, (0, 0, 0))]
theorem K254_9 : zRk 254 B254_9 = true := zRw_ok (by decide +kernel)
noncomputable def B254_10 : List zRow := [(66, .istore_n 3, 1, (0, 0, 0)), (67, .aload_n 0, 1, (0, 0, 0))]
theorem K254_10 : zRk 254 B254_10 = true := zRw_ok (by decide +kernel)
noncomputable def B254_11 : List zRow := [(71, .iload_n 3, 1, (0, 0, 0))]
theorem K254_11 : zRk 254 B254_11 = true := zRw_ok (by decide +kernel)
