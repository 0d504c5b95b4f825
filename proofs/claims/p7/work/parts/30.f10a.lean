noncomputable def B123_0 : List zRow := [(0, .aload_n 2, 1, (0, 0, 0)), (1, .iload_n 3, 1, (0, 0, 0)), (2, .putfield 74, 3, (1, 0, 0)), (5, .aload_n 2, 1, (0, 0, 0)), (6, .iconst 0, 1, (0, 0, 0)), (7, .putfield 78, 3, (1, 1, 0)), (10, .aload_n 2, 1, (0, 0, 0)), (11, .iconst 0, 1, (0, 0, 0)), (12, .putfield 81, 3, (1, 2, 0)), (15, .aload_n 2, 1, (0, 0, 0)), (16, .aload_n 1, 1, (0, 0, 0)), (17, .iconst 0, 1, (0, 0, 0)), (18, .iload 4, 2, (0, 0, 0)), (20, .iconst 1, 1, (0, 0, 0)), (21, .iload 5, 2, (0, 0, 0))]
theorem K123_0 : zRk 123 B123_0 = true := zRw_ok (by decide +kernel)
noncomputable def B123_1 : List zRow := [(38, .iconst 0, 1, (0, 0, 0))]
theorem K123_1 : zRk 123 B123_1 = true := zRw_ok (by decide +kernel)
noncomputable def B123_2 : List zRow := [(34, .iconst 1, 1, (0, 0, 0)), (35, .goto 4, 3, (0, 0, 0))]
theorem K123_2 : zRk 123 B123_2 = true := zRw_ok (by decide +kernel)
noncomputable def B123_3 : List zRow := [(26, .istore 6, 2, (0, 0, 0)), (28, .iload 6, 2, (0, 0, 0)), (30, .iconst (-1), 1, (0, 0, 0)), (31, .if_icmp .eq 7, 3, (0, 0, 0))]
theorem K123_3 : zRk 123 B123_3 = true := zRw_ok (by decide +kernel)
noncomputable def B123_4 : List zRow := [(39, .istore 7, 2, (0, 0, 0)), (41, .iconst 0, 1, (0, 0, 0)), (42, .istore 8, 2, (0, 0, 0))]
theorem K123_4 : zRk 123 B123_4 = true := zRw_ok (by decide +kernel)
noncomputable def B123_5 : List zRow := [(56, .aload_n 2, 1, (0, 0, 0)), (57, .aload_n 1, 1, (0, 0, 0)), (58, .iload 6, 2, (0, 0, 0))]
theorem K123_5 : zRk 123 B123_5 = true := zRw_ok (by decide +kernel)
noncomputable def B123_6 : List zRow := [(63, .istore 7, 2, (0, 0, 0)), (65, .iinc 8 1, 3, (0, 0, 0)), (68, .goto (-24), 3, (0, 0, 0))]
theorem K123_6 : zRk 123 B123_6 = true := zRw_ok (by decide +kernel)
noncomputable def B123_7 : List zRow := [(51, .iload 7, 2, (0, 0, 0)), (53, .ifCond .eq 18, 3, (0, 0, 0))]
theorem K123_7 : zRk 123 B123_7 = true := zRw_ok (by decide +kernel)
noncomputable def B123_8 : List zRow := [(44, .iload 8, 2, (0, 0, 0)), (46, .bipush 6, 2, (0, 0, 0)), (48, .if_icmp .ge 23, 3, (0, 0, 0))]
theorem K123_8 : zRk 123 B123_8 = true := zRw_ok (by decide +kernel)
noncomputable def B123_9 : List zRow := [(71, .iconst 0, 1, (0, 0, 0)), (72, .istore 8, 2, (0, 0, 0))]
theorem K123_9 : zRk 123 B123_9 = true := zRw_ok (by decide +kernel)
noncomputable def B123_10 : List zRow := [(101, .iconst 1, 1, (0, 0, 0))]
theorem K123_10 : zRk 123 B123_10 = true := zRw_ok (by decide +kernel)
noncomputable def B123_11 : List zRow := [(83, .aload_n 0, 1, (0, 0, 0)), (84, .aload_n 2, 1, (0, 0, 0)), (85, .iload 8, 2, (0, 0, 0))]
theorem K123_11 : zRk 123 B123_11 = true := zRw_ok (by decide +kernel)
noncomputable def B123_12 : List zRow := [(95, .iinc 8 1, 3, (0, 0, 0)), (98, .goto (-24), 3, (0, 0, 0))]
theorem K123_12 : zRk 123 B123_12 = true := zRw_ok (by decide +kernel)
noncomputable def B123_13 : List zRow := [(93, .iconst 0, 1, (0, 0, 0))]
theorem K123_13 : zRk 123 B123_13 = true := zRw_ok (by decide +kernel)
noncomputable def B123_14 : List zRow := [(90, .ifCond .ne 5, 3, (0, 0, 0))]
theorem K123_14 : zRk 123 B123_14 = true := zRw_ok (by decide +kernel)
noncomputable def B123_15 : List zRow := [(74, .iload 8, 2, (0, 0, 0)), (76, .aload_n 0, 1, (0, 0, 0)), (77, .getfield 42, 3, (4, 2, 0)), (80, .if_icmp .ge 21, 3, (0, 0, 0))]
theorem K123_15 : zRk 123 B123_15 = true := zRw_ok (by decide +kernel)
noncomputable def B127_0 : List zRow := [(9, .aload_n 0, 1, (0, 0, 0)), (10, .getfield 9, 3, (4, 1, 5243082)), (13, .aload_n 0, 1, (0, 0, 0)), (14, .getfield 45, 3, (4, 0, 0)), (17, .iload_n 1, 1, (0, 0, 0)), (18, .iastore, 1, (0, 0, 0))]
theorem K127_0 : zRk 127 B127_0 = true := zRw_ok (by decide +kernel)
noncomputable def B127_1 : List zRow := [(0, .aload_n 0, 1, (0, 0, 0)), (1, .getfield 45, 3, (4, 0, 0)), (4, .bipush 50, 2, (0, 0, 0)), (6, .if_icmp .ge 13, 3, (0, 0, 0))]
theorem K127_1 : zRk 127 B127_1 = true := zRw_ok (by decide +kernel)
noncomputable def B127_2 : List zRow := [(19, .aload_n 0, 1, (0, 0, 0)), (20, .dup, 1, (0, 0, 0)), (21, .getfield 45, 3, (4, 0, 0)), (24, .iconst 1, 1, (0, 0, 0)), (25, .iadd, 1, (0, 0, 0)), (26, .putfield 45, 3, (4, 0, 0))]
theorem K127_2 : zRk 127 B127_2 = true := zRw_ok (by decide +kernel)
noncomputable def B120_0 : List zRow := [(0, .aload_n 0, 1, (0, 0, 0)), (1, .iconst 0, 1, (0, 0, 0)), (2, .putfield 45, 3, (4, 0, 0)), (5, .iconst 0, 1, (0, 0, 0)), (6, .istore_n 3, 1, (0, 0, 0))]
theorem K120_0 : zRk 120 B120_0 = true := zRw_ok (by decide +kernel)
noncomputable def B120_1 : List zRow := [(106, .aload_n 0, 1, (0, 0, 0)), (107, .getfield 45, 3, (4, 0, 0))]
theorem K120_1 : zRk 120 B120_1 = true := zRw_ok (by decide +kernel)
noncomputable def B120_2 : List zRow := [(14, .aload_n 0, 1, (0, 0, 0)), (15, .aload_n 1, 1, (0, 0, 0)), (16, .iload_n 3, 1, (0, 0, 0))]
theorem K120_2 : zRk 120 B120_2 = true := zRw_ok (by decide +kernel)
noncomputable def B120_3 : List zRow := [(20, .istore 4, 2, (0, 0, 0)), (22, .iconst 0, 1, (0, 0, 0)), (23, .istore 5, 2, (0, 0, 0))]
theorem K120_3 : zRk 120 B120_3 = true := zRw_ok (by decide +kernel)
noncomputable def B120_4 : List zRow := [(7, .iload_n 3, 1, (0, 0, 0)), (8, .sipush 200, 3, (0, 0, 0)), (11, .if_icmp .gt 95, 3, (0, 0, 0))]
theorem K120_4 : zRk 120 B120_4 = true := zRw_ok (by decide +kernel)
noncomputable def B120_5 : List zRow := [(37, .iconst 1, 1, (0, 0, 0)), (38, .istore 6, 2, (0, 0, 0))]
theorem K120_5 : zRk 120 B120_5 = true := zRw_ok (by decide +kernel)
noncomputable def B120_6 : List zRow := [(32, .iload 4, 2, (0, 0, 0)), (34, .ifCond .eq 66, 3, (0, 0, 0))]
theorem K120_6 : zRk 120 B120_6 = true := zRw_ok (by decide +kernel)
noncomputable def B120_7 : List zRow := [(25, .iload 5, 2, (0, 0, 0)), (27, .bipush 100, 2, (0, 0, 0)), (29, .if_icmp .ge 71, 3, (0, 0, 0))]
theorem K120_7 : zRk 120 B120_7 = true := zRw_ok (by decide +kernel)
noncomputable def B120_8 : List zRow := [(47, .aload_n 1, 1, (0, 0, 0)), (48, .iload 5, 2, (0, 0, 0))]
theorem K120_8 : zRk 120 B120_8 = true := zRw_ok (by decide +kernel)
noncomputable def B120_9 : List zRow := [(56, .aload_n 0, 1, (0, 0, 0)), (57, .aload_n 1, 1, (0, 0, 0)), (58, .aload_n 2, 1, (0, 0, 0)), (59, .iload_n 3, 1, (0, 0, 0)), (60, .iload 5, 2, (0, 0, 0)), (62, .iload 6, 2, (0, 0, 0))]
theorem K120_9 : zRk 120 B120_9 = true := zRw_ok (by decide +kernel)
noncomputable def B120_10 : List zRow := [(70, .aload_n 0, 1, (0, 0, 0)), (71, .iload_n 3, 1, (0, 0, 0)), (72, .sipush 1000, 3, (0, 0, 0)), (75, .imul, 1, (0, 0, 0)), (76, .iload 5, 2, (0, 0, 0)), (78, .bipush 10, 2, (0, 0, 0)), (80, .imul, 1, (0, 0, 0)), (81, .iadd, 1, (0, 0, 0)), (82, .iload 6, 2, (0, 0, 0)), (84, .iadd, 1, (0, 0, 0))]
theorem K120_10 : zRk 120 B120_10 = true := zRw_ok (by decide +kernel)
noncomputable def B120_11 : List zRow := [(67, .ifCond .eq 21, 3, (0, 0, 0))]
theorem K120_11 : zRk 120 B120_11 = true := zRw_ok (by decide +kernel)
noncomputable def B120_12 : List zRow := [(53, .ifCond .eq 41, 3, (0, 0, 0))]
theorem K120_12 : zRk 120 B120_12 = true := zRw_ok (by decide +kernel)
noncomputable def B120_13 : List zRow := [(40, .iload 6, 2, (0, 0, 0)), (42, .bipush 9, 2, (0, 0, 0)), (44, .if_icmp .gt 50, 3, (0, 0, 0))]
theorem K120_13 : zRk 120 B120_13 = true := zRw_ok (by decide +kernel)
noncomputable def B120_14 : List zRow := [(88, .iinc 6 1, 3, (0, 0, 0)), (91, .goto (-51), 3, (0, 0, 0))]
theorem K120_14 : zRk 120 B120_14 = true := zRw_ok (by decide +kernel)
noncomputable def B120_15 : List zRow := [(94, .iinc 5 1, 3, (0, 0, 0)), (97, .goto (-72), 3, (0, 0, 0))]
theorem K120_15 : zRk 120 B120_15 = true := zRw_ok (by decide +kernel)
noncomputable def B120_16 : List zRow := [(100, .iinc 3 1, 3, (0, 0, 0)), (103, .goto (-96), 3, (0, 0, 0))]
theorem K120_16 : zRk 120 B120_16 = true := zRw_ok (by decide +kernel)
noncomputable def B118_0 : List zRow := [(0, .aload_n 0, 1, (0, 0, 0)), (1, .getfield 80, 3, (11, 10, 19)), (4, .aload_n 0, 1, (0, 0, 0)), (5, .getfield 12, 3, (11, 0, 23)), (8, .aload_n 0, 1, (0, 0, 0)), (9, .getfield 19, 3, (11, 1, 39))]
theorem K118_0 : zRk 118 B118_0 = true := zRw_ok (by decide +kernel)
noncomputable def B118_1 : List zRow := [(46, .iconst (-1), 1, (0, 0, 0))]
theorem K118_1 : zRk 118 B118_1 = true := zRw_ok (by decide +kernel)
noncomputable def B118_2 : List zRow := [(28, .aload_n 0, 1, (0, 0, 0)), (29, .getfield 80, 3, (11, 10, 19)), (32, .aload_n 0, 1, (0, 0, 0)), (33, .getfield 19, 3, (11, 1, 39)), (36, .aload_n 0, 1, (0, 0, 0)), (37, .getfield 60, 3, (11, 7, 135))]
theorem K118_2 : zRk 118 B118_2 = true := zRw_ok (by decide +kernel)
noncomputable def B118_3 : List zRow := [(43, .goto 4, 3, (0, 0, 0))]
theorem K118_3 : zRk 118 B118_3 = true := zRw_ok (by decide +kernel)
noncomputable def B118_4 : List zRow := [(15, .istore_n 1, 1, (0, 0, 0)), (16, .aload_n 0, 1, (0, 0, 0)), (17, .getfield 12, 3, (11, 0, 23)), (20, .iconst 0, 1, (0, 0, 0)), (21, .putfield 105, 3, (5, 1, 0)), (24, .iload_n 1, 1, (0, 0, 0)), (25, .ifCond .eq 21, 3, (0, 0, 0))]
theorem K118_4 : zRk 118 B118_4 = true := zRw_ok (by decide +kernel)
noncomputable def B263_0 : List zRow := [(0, .aload_n 0, 1, (0, 0, 0))]
theorem K263_0 : zRk 263 B263_0 = true := zRw_ok (by decide +kernel)
noncomputable def B263_1 : List zRow := [(23, .iconst 0, 1, (0, 0, 0))]
theorem K263_1 : zRk 263 B263_1 = true := zRw_ok (by decide +kernel)
noncomputable def B263_2 : List zRow := [(11, .iload_n 1, 1, (0, 0, 0)), (12, .iconst 3, 1, (0, 0, 0)), (13, .idiv, 1, (0, 0, 0)), (14, .iconst 1, 1, (0, 0, 0)), (15, .bipush 6, 2, (0, 0, 0))]
theorem K263_2 : zRk 263 B263_2 = true := zRw_ok (by decide +kernel)
noncomputable def B263_3 : List zRow := [(25, .iconst 0, 1, (0, 0, 0)), (26, .istore_n 2, 1, (0, 0, 0))]
theorem K263_3 : zRk 263 B263_3 = true := zRw_ok (by decide +kernel)
noncomputable def B263_4 : List zRow := [(20, .ifCond .ne 5, 3, (0, 0, 0))]
theorem K263_4 : zRk 263 B263_4 = true := zRw_ok (by decide +kernel)
noncomputable def B263_5 : List zRow := [(4, .istore_n 1, 1, (0, 0, 0)), (5, .iload_n 1, 1, (0, 0, 0)), (6, .iconst 3, 1, (0, 0, 0)), (7, .irem, 1, (0, 0, 0)), (8, .ifCond .ne 15, 3, (0, 0, 0))]
theorem K263_5 : zRk 263 B263_5 = true := zRw_ok (by decide +kernel)
noncomputable def B263_6 : List zRow := [(72, .aload_n 0, 1, (0, 0, 0)), (73, .iload_n 1, 1, (0, 0, 0)), (74, .iconst 3, 1, (0, 0, 0)), (75, .idiv, 1, (0, 0, 0)), (76, .putfield 345, 3, (12, 34, 0)), (79, .iconst 0, 1, (0, 0, 0)), (80, .istore_n 2, 1, (0, 0, 0))]
theorem K263_6 : zRk 263 B263_6 = true := zRw_ok (by decide +kernel)
noncomputable def B263_7 : List zRow := [(64, .iconst 0, 1, (0, 0, 0))]
theorem K263_7 : zRk 263 B263_7 = true := zRw_ok (by decide +kernel)
noncomputable def B263_8 : List zRow := [(47, .aload_n 0, 1, (0, 0, 0)), (48, .getfield 7, 3, (12, 1, 5246642)), (51, .iload_n 2, 1, (0, 0, 0)), (52, .iconst 2, 1, (0, 0, 0)), (53, .iadd, 1, (0, 0, 0)), (54, .iaload, 1, (0, 0, 0)), (55, .iconst 1, 1, (0, 0, 0)), (56, .bipush 9, 2, (0, 0, 0))]
theorem K263_8 : zRk 263 B263_8 = true := zRw_ok (by decide +kernel)
noncomputable def B263_9 : List zRow := [(66, .iinc 2 3, 3, (0, 0, 0)), (69, .goto (-42), 3, (0, 0, 0))]
theorem K263_9 : zRk 263 B263_9 = true := zRw_ok (by decide +kernel)
noncomputable def B263_10 : List zRow := [(61, .ifCond .ne 5, 3, (0, 0, 0))]
theorem K263_10 : zRk 263 B263_10 = true := zRw_ok (by decide +kernel)
noncomputable def B263_11 : List zRow := [(32, .aload_n 0, 1, (0, 0, 0)), (33, .getfield 7, 3, (12, 1, 5246642)), (36, .iload_n 2, 1, (0, 0, 0)), (37, .iaload, 1, (0, 0, 0)), (38, .aload_n 0, 1, (0, 0, 0)), (39, .getfield 13, 3, (12, 14, 5251442)), (42, .iconst 2, 1, (0, 0, 0)), (43, .iaload, 1, (0, 0, 0)), (44, .if_icmp .ge 20, 3, (0, 0, 0))]
theorem K263_11 : zRk 263 B263_11 = true := zRw_ok (by decide +kernel)
noncomputable def B263_12 : List zRow := [(27, .iload_n 2, 1, (0, 0, 0)), (28, .iload_n 1, 1, (0, 0, 0)), (29, .if_icmp .ge 43, 3, (0, 0, 0))]
theorem K263_12 : zRk 263 B263_12 = true := zRw_ok (by decide +kernel)
noncomputable def B263_13 : List zRow := [(141, .iconst 1, 1, (0, 0, 0))]
theorem K263_13 : zRk 263 B263_13 = true := zRw_ok (by decide +kernel)
noncomputable def B263_14 : List zRow := [(89, .aload_n 0, 1, (0, 0, 0)), (90, .getfield 45, 3, (12, 26, 5242906)), (93, .iload_n 2, 1, (0, 0, 0)), (94, .aload_n 0, 1, (0, 0, 0)), (95, .getfield 7, 3, (12, 1, 5246642)), (98, .iconst 3, 1, (0, 0, 0)), (99, .iload_n 2, 1, (0, 0, 0))]
theorem K263_14 : zRk 263 B263_14 = true := zRw_ok (by decide +kernel)
noncomputable def B263_15 : List zRow := [(100, .imul, 1, (0, 0, 0)), (101, .iaload, 1, (0, 0, 0)), (102, .iastore, 1, (0, 0, 0)), (103, .aload_n 0, 1, (0, 0, 0)), (104, .getfield 48, 3, (12, 27, 5242906)), (107, .iload_n 2, 1, (0, 0, 0)), (108, .aload_n 0, 1, (0, 0, 0)), (109, .getfield 7, 3, (12, 1, 5246642)), (112, .iconst 3, 1, (0, 0, 0)), (113, .iload_n 2, 1, (0, 0, 0))]
theorem K263_15 : zRk 263 B263_15 = true := zRw_ok (by decide +kernel)
noncomputable def B263_16 : List zRow := [(114, .imul, 1, (0, 0, 0)), (115, .iconst 1, 1, (0, 0, 0)), (116, .iadd, 1, (0, 0, 0)), (117, .iaload, 1, (0, 0, 0)), (118, .iastore, 1, (0, 0, 0)), (119, .aload_n 0, 1, (0, 0, 0)), (120, .getfield 51, 3, (12, 28, 5242906)), (123, .iload_n 2, 1, (0, 0, 0)), (124, .aload_n 0, 1, (0, 0, 0)), (125, .getfield 7, 3, (12, 1, 5246642)), (128, .iconst 3, 1, (0, 0, 0)), (129, .iload_n 2, 1, (0, 0, 0))]
theorem K263_16 : zRk 263 B263_16 = true := zRw_ok (by decide +kernel)
noncomputable def B263_17 : List zRow := [(130, .imul, 1, (0, 0, 0)), (131, .iconst 2, 1, (0, 0, 0)), (132, .iadd, 1, (0, 0, 0)), (133, .iaload, 1, (0, 0, 0)), (134, .iastore, 1, (0, 0, 0)), (135, .iinc 2 1, 3, (0, 0, 0)), (138, .goto (-57), 3, (0, 0, 0))]
theorem K263_17 : zRk 263 B263_17 = true := zRw_ok (by decide +kernel)
noncomputable def B263_18 : List zRow := [(81, .iload_n 2, 1, (0, 0, 0)), (82, .aload_n 0, 1, (0, 0, 0)), (83, .getfield 345, 3, (12, 34, 0)), (86, .if_icmp .ge 55, 3, (0, 0, 0))]
theorem K263_18 : zRk 263 B263_18 = true := zRw_ok (by decide +kernel)
noncomputable def B265_0 : List zRow := [(39, .aload_n 0, 1, (0, 0, 0)), (40, .getfield 60, 3, (12, 31, 5242906)), (43, .iload_n 1, 1, (0, 0, 0)), (44, .iaload, 1, (0, 0, 0)), (45, .iload_n 3, 1, (0, 0, 0)), (46, .if_icmp .lt 4, 3, (0, 0, 0))]
theorem K265_0 : zRk 265 B265_0 = true := zRw_ok (by decide +kernel)
noncomputable def B265_1 : List zRow := [(29, .aload_n 0, 1, (0, 0, 0)), (30, .getfield 57, 3, (12, 30, 5242906)), (33, .iload_n 1, 1, (0, 0, 0)), (34, .iaload, 1, (0, 0, 0)), (35, .iload_n 2, 1, (0, 0, 0)), (36, .if_icmp .ne 14, 3, (0, 0, 0))]
theorem K265_1 : zRk 265 B265_1 = true := zRw_ok (by decide +kernel)
noncomputable def B265_2 : List zRow := [(19, .aload_n 0, 1, (0, 0, 0)), (20, .getfield 57, 3, (12, 30, 5242906)), (23, .iload_n 1, 1, (0, 0, 0)), (24, .iaload, 1, (0, 0, 0)), (25, .iload_n 2, 1, (0, 0, 0)), (26, .if_icmp .lt 23, 3, (0, 0, 0))]
theorem K265_2 : zRk 265 B265_2 = true := zRw_ok (by decide +kernel)
noncomputable def B265_3 : List zRow := [(9, .aload_n 0, 1, (0, 0, 0)), (10, .getfield 57, 3, (12, 30, 5242906)), (13, .iload_n 1, 1, (0, 0, 0)), (14, .iaload, 1, (0, 0, 0)), (15, .iconst (-1), 1, (0, 0, 0)), (16, .if_icmp .eq 34, 3, (0, 0, 0))]
theorem K265_3 : zRk 265 B265_3 = true := zRw_ok (by decide +kernel)
noncomputable def B265_4 : List zRow := [(0, .aload_n 0, 1, (0, 0, 0)), (1, .getfield 63, 3, (12, 32, 5242906)), (4, .iload_n 1, 1, (0, 0, 0)), (5, .iaload, 1, (0, 0, 0)), (6, .ifCond .gt 43, 3, (0, 0, 0))]
theorem K265_4 : zRk 265 B265_4 = true := zRw_ok (by decide +kernel)
noncomputable def B265_5 : List zRow := [(50, .aload_n 0, 1, (0, 0, 0)), (51, .getfield 57, 3, (12, 30, 5242906)), (54, .iload_n 1, 1, (0, 0, 0)), (55, .iload_n 2, 1, (0, 0, 0)), (56, .iastore, 1, (0, 0, 0)), (57, .aload_n 0, 1, (0, 0, 0)), (58, .getfield 60, 3, (12, 31, 5242906)), (61, .iload_n 1, 1, (0, 0, 0)), (62, .iload_n 3, 1, (0, 0, 0)), (63, .iastore, 1, (0, 0, 0))]
theorem K265_5 : zRk 265 B265_5 = true := zRw_ok (by decide +kernel)
noncomputable def B264_0 : List zRow := [(0, .aload_n 0, 1, (0, 0, 0)), (1, .getfield 13, 3, (12, 14, 5251442)), (4, .iconst 2, 1, (0, 0, 0)), (5, .iaload, 1, (0, 0, 0)), (6, .istore 4, 2, (0, 0, 0)), (8, .iconst 0, 1, (0, 0, 0)), (9, .istore 5, 2, (0, 0, 0))]
theorem K264_0 : zRk 264 B264_0 = true := zRw_ok (by decide +kernel)
noncomputable def B264_1 : List zRow := [(48, .iconst 0, 1, (0, 0, 0)), (49, .istore 5, 2, (0, 0, 0))]
theorem K264_1 : zRk 264 B264_1 = true := zRw_ok (by decide +kernel)
noncomputable def B264_2 : List zRow := [(18, .aload_n 0, 1, (0, 0, 0)), (19, .getfield 57, 3, (12, 30, 5242906)), (22, .iload 5, 2, (0, 0, 0)), (24, .iconst (-1), 1, (0, 0, 0)), (25, .iastore, 1, (0, 0, 0)), (26, .aload_n 0, 1, (0, 0, 0)), (27, .getfield 63, 3, (12, 32, 5242906)), (30, .iload 5, 2, (0, 0, 0)), (32, .iconst 0, 1, (0, 0, 0)), (33, .iastore, 1, (0, 0, 0)), (34, .aload_n 0, 1, (0, 0, 0)), (35, .getfield 66, 3, (12, 33, 5242906)), (38, .iload 5, 2, (0, 0, 0)), (40, .iconst 0, 1, (0, 0, 0)), (41, .iastore, 1, (0, 0, 0)), (42, .iinc 5 1, 3, (0, 0, 0)), (45, .goto (-34), 3, (0, 0, 0))]
theorem K264_2 : zRk 264 B264_2 = true := zRw_ok (by decide +kernel)
noncomputable def B264_3 : List zRow := [(11, .iload 5, 2, (0, 0, 0)), (13, .iload 4, 2, (0, 0, 0)), (15, .if_icmp .ge 33, 3, (0, 0, 0))]
theorem K264_3 : zRk 264 B264_3 = true := zRw_ok (by decide +kernel)
noncomputable def B264_4 : List zRow := [(97, .iconst 0, 1, (0, 0, 0)), (98, .istore 5, 2, (0, 0, 0))]
theorem K264_4 : zRk 264 B264_4 = true := zRw_ok (by decide +kernel)
noncomputable def B264_5 : List zRow := [(58, .aload_n 0, 1, (0, 0, 0)), (59, .iload 5, 2, (0, 0, 0)), (61, .iload_n 1, 1, (0, 0, 0)), (62, .iload_n 3, 1, (0, 0, 0))]
theorem K264_5 : zRk 264 B264_5 = true := zRw_ok (by decide +kernel)
noncomputable def B264_6 : List zRow := [(69, .aload_n 0, 1, (0, 0, 0)), (70, .iload 5, 2, (0, 0, 0)), (72, .iload_n 2, 1, (0, 0, 0)), (73, .aload_n 0, 1, (0, 0, 0)), (74, .iload 5, 2, (0, 0, 0))]
theorem K264_6 : zRk 264 B264_6 = true := zRw_ok (by decide +kernel)
noncomputable def B264_7 : List zRow := [(79, .iadd, 1, (0, 0, 0)), (80, .aload_n 0, 1, (0, 0, 0)), (81, .iload 5, 2, (0, 0, 0)), (83, .iload_n 1, 1, (0, 0, 0)), (84, .iload_n 3, 1, (0, 0, 0))]
theorem K264_7 : zRk 264 B264_7 = true := zRw_ok (by decide +kernel)
noncomputable def B264_8 : List zRow := [(66, .ifCond .le 25, 3, (0, 0, 0))]
theorem K264_8 : zRk 264 B264_8 = true := zRw_ok (by decide +kernel)
noncomputable def B264_9 : List zRow := [(51, .iload 5, 2, (0, 0, 0)), (53, .iload 4, 2, (0, 0, 0)), (55, .if_icmp .ge 42, 3, (0, 0, 0))]
theorem K264_9 : zRk 264 B264_9 = true := zRw_ok (by decide +kernel)
noncomputable def B264_10 : List zRow := [(91, .iinc 5 1, 3, (0, 0, 0)), (94, .goto (-43), 3, (0, 0, 0))]
theorem K264_10 : zRk 264 B264_10 = true := zRw_ok (by decide +kernel)
noncomputable def B264_11 : List zRow := [(107, .iconst (-1), 1, (0, 0, 0)), (108, .istore 6, 2, (0, 0, 0)), (110, .iconst 0, 1, (0, 0, 0)), (111, .istore 7, 2, (0, 0, 0))]
theorem K264_11 : zRk 264 B264_11 = true := zRw_ok (by decide +kernel)
noncomputable def B264_12 : List zRow := [(100, .iload 5, 2, (0, 0, 0)), (102, .iload 4, 2, (0, 0, 0)), (104, .if_icmp .ge 232, 3, (0, 0, 0))]
theorem K264_12 : zRk 264 B264_12 = true := zRw_ok (by decide +kernel)
noncomputable def B264_13 : List zRow := [(181, .aload_n 0, 1, (0, 0, 0)), (182, .getfield 63, 3, (12, 32, 5242906)), (185, .iload 6, 2, (0, 0, 0)), (187, .iconst 1, 1, (0, 0, 0)), (188, .iastore, 1, (0, 0, 0)), (189, .aload_n 0, 1, (0, 0, 0)), (190, .getfield 60, 3, (12, 31, 5242906)), (193, .iload 6, 2, (0, 0, 0)), (195, .iaload, 1, (0, 0, 0)), (196, .aload_n 0, 1, (0, 0, 0)), (197, .iload 6, 2, (0, 0, 0))]
theorem K264_13 : zRk 264 B264_13 = true := zRw_ok (by decide +kernel)
noncomputable def B264_14 : List zRow := [(202, .aload_n 0, 1, (0, 0, 0)), (203, .aload_n 0, 1, (0, 0, 0)), (204, .getfield 57, 3, (12, 30, 5242906)), (207, .iload 6, 2, (0, 0, 0)), (209, .iaload, 1, (0, 0, 0))]
theorem K264_14 : zRk 264 B264_14 = true := zRw_ok (by decide +kernel)
noncomputable def B264_15 : List zRow := [(213, .isub, 1, (0, 0, 0))]
theorem K264_15 : zRk 264 B264_15 = true := zRw_ok (by decide +kernel)
noncomputable def B264_16 : List zRow := [(234, .iload 7, 2, (0, 0, 0))]
theorem K264_16 : zRk 264 B264_16 = true := zRw_ok (by decide +kernel)
noncomputable def B264_17 : List zRow := [(230, .iconst 0, 1, (0, 0, 0)), (231, .goto 5, 3, (0, 0, 0))]
theorem K264_17 : zRk 264 B264_17 = true := zRw_ok (by decide +kernel)
noncomputable def B264_18 : List zRow := [(217, .istore 7, 2, (0, 0, 0)), (219, .aload_n 0, 1, (0, 0, 0)), (220, .getfield 66, 3, (12, 33, 5242906)), (223, .iload 6, 2, (0, 0, 0)), (225, .iload 7, 2, (0, 0, 0)), (227, .ifCond .ge 7, 3, (0, 0, 0))]
theorem K264_18 : zRk 264 B264_18 = true := zRw_ok (by decide +kernel)
noncomputable def B264_19 : List zRow := [(174, .iload 6, 2, (0, 0, 0)), (176, .iconst (-1), 1, (0, 0, 0)), (177, .if_icmp .ne 4, 3, (0, 0, 0))]
theorem K264_19 : zRk 264 B264_19 = true := zRw_ok (by decide +kernel)
noncomputable def B264_20 : List zRow := [(147, .aload_n 0, 1, (0, 0, 0)), (148, .getfield 57, 3, (12, 30, 5242906)), (151, .iload 7, 2, (0, 0, 0)), (153, .iaload, 1, (0, 0, 0)), (154, .aload_n 0, 1, (0, 0, 0)), (155, .getfield 57, 3, (12, 30, 5242906)), (158, .iload 6, 2, (0, 0, 0)), (160, .iaload, 1, (0, 0, 0)), (161, .if_icmp .ge 7, 3, (0, 0, 0))]
theorem K264_20 : zRk 264 B264_20 = true := zRw_ok (by decide +kernel)
noncomputable def B264_21 : List zRow := [(141, .iload 6, 2, (0, 0, 0)), (143, .iconst (-1), 1, (0, 0, 0)), (144, .if_icmp .eq 20, 3, (0, 0, 0))]
theorem K264_21 : zRk 264 B264_21 = true := zRw_ok (by decide +kernel)
noncomputable def B264_22 : List zRow := [(130, .aload_n 0, 1, (0, 0, 0)), (131, .getfield 57, 3, (12, 30, 5242906)), (134, .iload 7, 2, (0, 0, 0)), (136, .iaload, 1, (0, 0, 0)), (137, .iconst (-1), 1, (0, 0, 0)), (138, .if_icmp .eq 30, 3, (0, 0, 0))]
theorem K264_22 : zRk 264 B264_22 = true := zRw_ok (by decide +kernel)
noncomputable def B264_23 : List zRow := [(120, .aload_n 0, 1, (0, 0, 0)), (121, .getfield 63, 3, (12, 32, 5242906)), (124, .iload 7, 2, (0, 0, 0)), (126, .iaload, 1, (0, 0, 0)), (127, .ifCond .ne 41, 3, (0, 0, 0))]
theorem K264_23 : zRk 264 B264_23 = true := zRw_ok (by decide +kernel)
noncomputable def B264_24 : List zRow := [(113, .iload 7, 2, (0, 0, 0)), (115, .iload 4, 2, (0, 0, 0)), (117, .if_icmp .ge 57, 3, (0, 0, 0))]
theorem K264_24 : zRk 264 B264_24 = true := zRw_ok (by decide +kernel)
noncomputable def B264_25 : List zRow := [(164, .iload 7, 2, (0, 0, 0)), (166, .istore 6, 2, (0, 0, 0))]
theorem K264_25 : zRk 264 B264_25 = true := zRw_ok (by decide +kernel)
noncomputable def B264_26 : List zRow := [(168, .iinc 7 1, 3, (0, 0, 0)), (171, .goto (-58), 3, (0, 0, 0))]
theorem K264_26 : zRk 264 B264_26 = true := zRw_ok (by decide +kernel)
noncomputable def B264_27 : List zRow := [(236, .iastore, 1, (0, 0, 0)), (237, .iconst 0, 1, (0, 0, 0)), (238, .istore 8, 2, (0, 0, 0))]
theorem K264_27 : zRk 264 B264_27 = true := zRw_ok (by decide +kernel)
noncomputable def B264_28 : List zRow := [(252, .aload_n 0, 1, (0, 0, 0)), (253, .iload 6, 2, (0, 0, 0))]
theorem K264_28 : zRk 264 B264_28 = true := zRw_ok (by decide +kernel)
noncomputable def B264_29 : List zRow := [(258, .aload_n 0, 1, (0, 0, 0)), (259, .iload 8, 2, (0, 0, 0))]
theorem K264_29 : zRk 264 B264_29 = true := zRw_ok (by decide +kernel)
noncomputable def B264_30 : List zRow := [(295, .aload_n 0, 1, (0, 0, 0)), (296, .iload 8, 2, (0, 0, 0)), (298, .aload_n 0, 1, (0, 0, 0)), (299, .getfield 57, 3, (12, 30, 5242906)), (302, .iload 6, 2, (0, 0, 0)), (304, .iaload, 1, (0, 0, 0)), (305, .aload_n 0, 1, (0, 0, 0)), (306, .iload 8, 2, (0, 0, 0))]
theorem K264_30 : zRk 264 B264_30 = true := zRw_ok (by decide +kernel)
noncomputable def B264_31 : List zRow := [(311, .iadd, 1, (0, 0, 0)), (312, .iload 7, 2, (0, 0, 0)), (314, .iconst 1, 1, (0, 0, 0)), (315, .isub, 1, (0, 0, 0)), (316, .iload 9, 2, (0, 0, 0)), (318, .iconst 2, 1, (0, 0, 0)), (319, .idiv, 1, (0, 0, 0)), (320, .isub, 1, (0, 0, 0))]
theorem K264_31 : zRk 264 B264_31 = true := zRw_ok (by decide +kernel)
noncomputable def B264_32 : List zRow := [(283, .iload 7, 2, (0, 0, 0)), (285, .iconst 1, 1, (0, 0, 0)), (286, .isub, 1, (0, 0, 0)), (287, .iload 9, 2, (0, 0, 0)), (289, .iconst 2, 1, (0, 0, 0)), (290, .idiv, 1, (0, 0, 0)), (291, .isub, 1, (0, 0, 0)), (292, .ifCond .le 32, 3, (0, 0, 0))]
theorem K264_32 : zRk 264 B264_32 = true := zRw_ok (by decide +kernel)
noncomputable def B264_33 : List zRow := [(276, .iload 9, 2, (0, 0, 0)), (278, .iload 7, 2, (0, 0, 0)), (280, .if_icmp .gt 44, 3, (0, 0, 0))]
theorem K264_33 : zRk 264 B264_33 = true := zRw_ok (by decide +kernel)
noncomputable def B264_34 : List zRow := [(267, .istore 9, 2, (0, 0, 0)), (269, .iload 8, 2, (0, 0, 0)), (271, .iload 6, 2, (0, 0, 0)), (273, .if_icmp .eq 51, 3, (0, 0, 0))]
theorem K264_34 : zRk 264 B264_34 = true := zRw_ok (by decide +kernel)
noncomputable def B264_35 : List zRow := [(247, .iload 7, 2, (0, 0, 0)), (249, .ifCond .le 81, 3, (0, 0, 0))]
theorem K264_35 : zRk 264 B264_35 = true := zRw_ok (by decide +kernel)
noncomputable def B264_36 : List zRow := [(240, .iload 8, 2, (0, 0, 0)), (242, .iload 4, 2, (0, 0, 0)), (244, .if_icmp .ge 86, 3, (0, 0, 0))]
theorem K264_36 : zRk 264 B264_36 = true := zRw_ok (by decide +kernel)
noncomputable def B264_37 : List zRow := [(324, .iinc 8 1, 3, (0, 0, 0)), (327, .goto (-87), 3, (0, 0, 0))]
theorem K264_37 : zRk 264 B264_37 = true := zRw_ok (by decide +kernel)
noncomputable def B264_38 : List zRow := [(330, .iinc 5 1, 3, (0, 0, 0)), (333, .goto (-233), 3, (0, 0, 0))]
theorem K264_38 : zRk 264 B264_38 = true := zRw_ok (by decide +kernel)
noncomputable def B266_0 : List zRow := [(0, .iconst 0, 1, (0, 0, 0)), (1, .istore_n 1, 1, (0, 0, 0))]
theorem K266_0 : zRk 266 B266_0 = true := zRw_ok (by decide +kernel)
noncomputable def B266_1 : List zRow := [(58, .iconst 1, 1, (0, 0, 0))]
theorem K266_1 : zRk 266 B266_1 = true := zRw_ok (by decide +kernel)
noncomputable def B266_2 : List zRow := [(50, .iconst 0, 1, (0, 0, 0))]
theorem K266_2 : zRk 266 B266_2 = true := zRw_ok (by decide +kernel)
noncomputable def B266_3 : List zRow := [(52, .iinc 1 1, 3, (0, 0, 0)), (55, .goto (-53), 3, (0, 0, 0))]
theorem K266_3 : zRk 266 B266_3 = true := zRw_ok (by decide +kernel)
noncomputable def B266_4 : List zRow := [(30, .aload_n 0, 1, (0, 0, 0)), (31, .getfield 57, 3, (12, 30, 5242906)), (34, .aload_n 0, 1, (0, 0, 0)), (35, .getfield 45, 3, (12, 26, 5242906)), (38, .iload_n 1, 1, (0, 0, 0)), (39, .iaload, 1, (0, 0, 0)), (40, .iaload, 1, (0, 0, 0)), (41, .aload_n 0, 1, (0, 0, 0)), (42, .getfield 48, 3, (12, 27, 5242906)), (45, .iload_n 1, 1, (0, 0, 0)), (46, .iaload, 1, (0, 0, 0)), (47, .if_icmp .eq 5, 3, (0, 0, 0))]
theorem K266_4 : zRk 266 B266_4 = true := zRw_ok (by decide +kernel)
noncomputable def B266_5 : List zRow := [(10, .aload_n 0, 1, (0, 0, 0)), (11, .getfield 66, 3, (12, 33, 5242906)), (14, .aload_n 0, 1, (0, 0, 0)), (15, .getfield 45, 3, (12, 26, 5242906)), (18, .iload_n 1, 1, (0, 0, 0)), (19, .iaload, 1, (0, 0, 0)), (20, .iaload, 1, (0, 0, 0)), (21, .aload_n 0, 1, (0, 0, 0)), (22, .getfield 51, 3, (12, 28, 5242906)), (25, .iload_n 1, 1, (0, 0, 0)), (26, .iaload, 1, (0, 0, 0)), (27, .if_icmp .ne 23, 3, (0, 0, 0))]
theorem K266_5 : zRk 266 B266_5 = true := zRw_ok (by decide +kernel)
noncomputable def B266_6 : List zRow := [(2, .iload_n 1, 1, (0, 0, 0)), (3, .aload_n 0, 1, (0, 0, 0)), (4, .getfield 345, 3, (12, 34, 0)), (7, .if_icmp .ge 51, 3, (0, 0, 0))]
theorem K266_6 : zRk 266 B266_6 = true := zRw_ok (by decide +kernel)
noncomputable def B262_0 : List zRow := [(0, .aload_n 0, 1, (0, 0, 0)), (1, .iconst 0, 1, (0, 0, 0)), (2, .putfield 81, 3, (12, 0, 0)), (5, .aload_n 0, 1, (0, 0, 0))]
theorem K262_0 : zRk 262 B262_0 = true := zRw_ok (by decide +kernel)
noncomputable def B262_1 : List zRow := [(14, .iconst 0, 1, (0, 0, 0)), (15, .istore_n 1, 1, (0, 0, 0)), (16, .aload_n 0, 1, (0, 0, 0)), (17, .iconst 0, 1, (0, 0, 0)), (18, .putfield 351, 3, (12, 35, 0)), (21, .iconst 0, 1, (0, 0, 0)), (22, .istore_n 2, 1, (0, 0, 0))]
theorem K262_1 : zRk 262 B262_1 = true := zRw_ok (by decide +kernel)
noncomputable def B262_2 : List zRow := [(12, .iconst (-1), 1, (0, 0, 0))]
theorem K262_2 : zRk 262 B262_2 = true := zRw_ok (by decide +kernel)
noncomputable def B262_3 : List zRow := [(9, .ifCond .ne 5, 3, (0, 0, 0))]
theorem K262_3 : zRk 262 B262_3 = true := zRw_ok (by decide +kernel)
noncomputable def B262_4 : List zRow := [(140, .iload_n 1, 1, (0, 0, 0))]
theorem K262_4 : zRk 262 B262_4 = true := zRw_ok (by decide +kernel)
noncomputable def B262_5 : List zRow := [(43, .iconst 0, 1, (0, 0, 0)), (44, .istore_n 3, 1, (0, 0, 0))]
theorem K262_5 : zRk 262 B262_5 = true := zRw_ok (by decide +kernel)
noncomputable def B262_6 : List zRow := [(40, .goto 100, 3, (0, 0, 0)), (140, .iload_n 1, 1, (0, 0, 0))]
theorem K262_6 : zRk 262 B262_6 = true := zRw_ok (by decide +kernel)
noncomputable def B262_7 : List zRow := [(30, .iload_n 2, 1, (0, 0, 0)), (31, .aload_n 0, 1, (0, 0, 0)), (32, .getfield 48, 3, (12, 27, 5242906)), (35, .iconst 0, 1, (0, 0, 0)), (36, .iaload, 1, (0, 0, 0)), (37, .if_icmp .lt 6, 3, (0, 0, 0))]
theorem K262_7 : zRk 262 B262_7 = true := zRw_ok (by decide +kernel)
noncomputable def B262_8 : List zRow := [(23, .iload_n 2, 1, (0, 0, 0)), (24, .sipush 200, 3, (0, 0, 0)), (27, .if_icmp .gt 113, 3, (0, 0, 0))]
theorem K262_8 : zRk 262 B262_8 = true := zRw_ok (by decide +kernel)
noncomputable def B262_9 : List zRow := [(134, .iinc 2 1, 3, (0, 0, 0)), (137, .goto (-114), 3, (0, 0, 0))]
theorem K262_9 : zRk 262 B262_9 = true := zRw_ok (by decide +kernel)
noncomputable def B262_10 : List zRow := [(51, .iconst 1, 1, (0, 0, 0)), (52, .istore 4, 2, (0, 0, 0))]
theorem K262_10 : zRk 262 B262_10 = true := zRw_ok (by decide +kernel)
noncomputable def B262_11 : List zRow := [(45, .iload_n 3, 1, (0, 0, 0)), (46, .bipush 100, 2, (0, 0, 0)), (48, .if_icmp .ge 86, 3, (0, 0, 0))]
theorem K262_11 : zRk 262 B262_11 = true := zRw_ok (by decide +kernel)
noncomputable def B262_12 : List zRow := [(61, .aload_n 0, 1, (0, 0, 0)), (62, .iload_n 3, 1, (0, 0, 0))]
theorem K262_12 : zRk 262 B262_12 = true := zRw_ok (by decide +kernel)
noncomputable def B262_13 : List zRow := [(69, .aload_n 0, 1, (0, 0, 0)), (70, .iload_n 3, 1, (0, 0, 0)), (71, .iload_n 2, 1, (0, 0, 0)), (72, .iload 4, 2, (0, 0, 0))]
theorem K262_13 : zRk 262 B262_13 = true := zRw_ok (by decide +kernel)
noncomputable def B262_14 : List zRow := [(77, .aload_n 0, 1, (0, 0, 0))]
theorem K262_14 : zRk 262 B262_14 = true := zRw_ok (by decide +kernel)
noncomputable def B262_15 : List zRow := [(93, .aload_n 0, 1, (0, 0, 0)), (94, .getfield 54, 3, (12, 29, 5243082)), (97, .iload_n 1, 1, (0, 0, 0)), (98, .sipush 1000, 3, (0, 0, 0)), (101, .iload_n 2, 1, (0, 0, 0))]
theorem K262_15 : zRk 262 B262_15 = true := zRw_ok (by decide +kernel)
noncomputable def B262_16 : List zRow := [(102, .imul, 1, (0, 0, 0)), (103, .bipush 10, 2, (0, 0, 0)), (105, .iload_n 3, 1, (0, 0, 0))]
theorem K262_16 : zRk 262 B262_16 = true := zRw_ok (by decide +kernel)
noncomputable def B262_17 : List zRow := [(106, .imul, 1, (0, 0, 0)), (107, .iadd, 1, (0, 0, 0)), (108, .iload 4, 2, (0, 0, 0)), (110, .iadd, 1, (0, 0, 0)), (111, .iastore, 1, (0, 0, 0)), (112, .aload_n 0, 1, (0, 0, 0)), (113, .iload_n 1, 1, (0, 0, 0)), (114, .iconst 1, 1, (0, 0, 0)), (115, .iadd, 1, (0, 0, 0)), (116, .putfield 351, 3, (12, 35, 0))]
theorem K262_17 : zRk 262 B262_17 = true := zRw_ok (by decide +kernel)
noncomputable def B262_18 : List zRow := [(87, .iload_n 1, 1, (0, 0, 0)), (88, .bipush 50, 2, (0, 0, 0)), (90, .if_icmp .ge 29, 3, (0, 0, 0))]
theorem K262_18 : zRk 262 B262_18 = true := zRw_ok (by decide +kernel)
noncomputable def B262_19 : List zRow := [(84, .goto 38, 3, (0, 0, 0))]
theorem K262_19 : zRk 262 B262_19 = true := zRw_ok (by decide +kernel)
noncomputable def B262_20 : List zRow := [(81, .ifCond .ne 6, 3, (0, 0, 0))]
theorem K262_20 : zRk 262 B262_20 = true := zRw_ok (by decide +kernel)
noncomputable def B262_21 : List zRow := [(66, .ifCond .eq 62, 3, (0, 0, 0))]
theorem K262_21 : zRk 262 B262_21 = true := zRw_ok (by decide +kernel)
noncomputable def B262_22 : List zRow := [(54, .iload 4, 2, (0, 0, 0)), (56, .bipush 9, 2, (0, 0, 0)), (58, .if_icmp .gt 70, 3, (0, 0, 0))]
theorem K262_22 : zRk 262 B262_22 = true := zRw_ok (by decide +kernel)
noncomputable def B262_23 : List zRow := [(122, .iinc 4 1, 3, (0, 0, 0)), (125, .goto (-71), 3, (0, 0, 0))]
theorem K262_23 : zRk 262 B262_23 = true := zRw_ok (by decide +kernel)
noncomputable def B262_24 : List zRow := [(119, .iinc 1 1, 3, (0, 0, 0))]
theorem K262_24 : zRk 262 B262_24 = true := zRw_ok (by decide +kernel)
noncomputable def B262_25 : List zRow := [(128, .iinc 3 1, 3, (0, 0, 0)), (131, .goto (-86), 3, (0, 0, 0))]
theorem K262_25 : zRk 262 B262_25 = true := zRw_ok (by decide +kernel)
noncomputable def B128_0 : List zRow := [(21, .iconst (-1), 1, (0, 0, 0))]
theorem K128_0 : zRk 128 B128_0 = true := zRw_ok (by decide +kernel)
noncomputable def B128_1 : List zRow := [(23, .aload_n 0, 1, (0, 0, 0)), (24, .getfield 80, 3, (11, 10, 19)), (27, .getfield 302, 3, (4, 1, 5243082)), (30, .iload_n 1, 1, (0, 0, 0)), (31, .iaload, 1, (0, 0, 0))]
theorem K128_1 : zRk 128 B128_1 = true := zRw_ok (by decide +kernel)
noncomputable def B128_2 : List zRow := [(15, .iload_n 1, 1, (0, 0, 0)), (16, .bipush 50, 2, (0, 0, 0)), (18, .if_icmp .lt 5, 3, (0, 0, 0))]
theorem K128_2 : zRk 128 B128_2 = true := zRw_ok (by decide +kernel)
noncomputable def B128_3 : List zRow := [(4, .iload_n 1, 1, (0, 0, 0)), (5, .aload_n 0, 1, (0, 0, 0)), (6, .getfield 80, 3, (11, 10, 19)), (9, .getfield 299, 3, (4, 0, 0)), (12, .if_icmp .ge 9, 3, (0, 0, 0))]
theorem K128_3 : zRk 128 B128_3 = true := zRw_ok (by decide +kernel)
noncomputable def B128_4 : List zRow := [(0, .iload_n 1, 1, (0, 0, 0)), (1, .ifCond .lt 20, 3, (0, 0, 0))]
theorem K128_4 : zRk 128 B128_4 = true := zRw_ok (by decide +kernel)
noncomputable def B267_0 : List zRow := [(26, .iconst (-1), 1, (0, 0, 0))]
theorem K267_0 : zRk 267 B267_0 = true := zRw_ok (by decide +kernel)
noncomputable def B267_1 : List zRow := [(17, .aload_n 0, 1, (0, 0, 0)), (18, .getfield 54, 3, (12, 29, 5243082)), (21, .iload_n 1, 1, (0, 0, 0)), (22, .iaload, 1, (0, 0, 0)), (23, .goto 4, 3, (0, 0, 0))]
theorem K267_1 : zRk 267 B267_1 = true := zRw_ok (by decide +kernel)
noncomputable def B267_2 : List zRow := [(9, .iload_n 1, 1, (0, 0, 0)), (10, .aload_n 0, 1, (0, 0, 0)), (11, .getfield 351, 3, (12, 35, 0)), (14, .if_icmp .ge 12, 3, (0, 0, 0))]
theorem K267_2 : zRk 267 B267_2 = true := zRw_ok (by decide +kernel)
noncomputable def B267_3 : List zRow := [(0, .aload_n 0, 1, (0, 0, 0)), (1, .iconst 0, 1, (0, 0, 0)), (2, .putfield 81, 3, (12, 0, 0)), (5, .iload_n 1, 1, (0, 0, 0)), (6, .ifCond .lt 20, 3, (0, 0, 0))]
theorem K267_3 : zRk 267 B267_3 = true := zRw_ok (by decide +kernel)
noncomputable def B132_0 : List zRow := [(44, .bipush 7, 2, (0, 0, 0))]
theorem K132_0 : zRk 132 B132_0 = true := zRw_ok (by decide +kernel)
noncomputable def B132_1 : List zRow := [(40, .iconst 5, 1, (0, 0, 0)), (41, .goto 5, 3, (0, 0, 0))]
theorem K132_1 : zRk 132 B132_1 = true := zRw_ok (by decide +kernel)
noncomputable def B132_2 : List zRow := [(32, .aload_n 0, 1, (0, 0, 0)), (33, .iload_n 3, 1, (0, 0, 0)), (34, .iload_n 1, 1, (0, 0, 0)), (35, .bipush 7, 2, (0, 0, 0)), (37, .if_icmp .ne 7, 3, (0, 0, 0))]
theorem K132_2 : zRk 132 B132_2 = true := zRw_ok (by decide +kernel)
noncomputable def B132_3 : List zRow := [(16, .aload_n 0, 1, (0, 0, 0)), (17, .iload_n 3, 1, (0, 0, 0)), (18, .iconst 1, 1, (0, 0, 0))]
theorem K132_3 : zRk 132 B132_3 = true := zRw_ok (by decide +kernel)
noncomputable def B132_4 : List zRow := [(30, .iconst 0, 1, (0, 0, 0))]
theorem K132_4 : zRk 132 B132_4 = true := zRw_ok (by decide +kernel)
noncomputable def B132_5 : List zRow := [(26, .iconst 1, 1, (0, 0, 0)), (27, .goto 4, 3, (0, 0, 0))]
theorem K132_5 : zRk 132 B132_5 = true := zRw_ok (by decide +kernel)
noncomputable def B132_6 : List zRow := [(22, .iload_n 2, 1, (0, 0, 0)), (23, .if_icmp .ne 7, 3, (0, 0, 0))]
theorem K132_6 : zRk 132 B132_6 = true := zRw_ok (by decide +kernel)
noncomputable def B132_7 : List zRow := [(10, .iload_n 1, 1, (0, 0, 0)), (11, .bipush 8, 2, (0, 0, 0)), (13, .if_icmp .ne 19, 3, (0, 0, 0))]
theorem K132_7 : zRk 132 B132_7 = true := zRw_ok (by decide +kernel)
noncomputable def B132_8 : List zRow := [(8, .iconst 0, 1, (0, 0, 0))]
theorem K132_8 : zRk 132 B132_8 = true := zRw_ok (by decide +kernel)
noncomputable def B132_9 : List zRow := [(0, .iload_n 3, 1, (0, 0, 0)), (1, .aload_n 0, 1, (0, 0, 0)), (2, .getfield 61, 3, (1, 1, 0)), (5, .if_icmp .lt 5, 3, (0, 0, 0))]
theorem K132_9 : zRk 132 B132_9 = true := zRw_ok (by decide +kernel)
noncomputable def B132_10 : List zRow := [(49, .iload_n 2, 1, (0, 0, 0))]
theorem K132_10 : zRk 132 B132_10 = true := zRw_ok (by decide +kernel)
