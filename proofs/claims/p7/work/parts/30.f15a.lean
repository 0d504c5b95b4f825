noncomputable def B161_0 : List zRow := [(21, .iconst 0, 1, (0, 0, 0))]
theorem K161_0 : zRk 161 B161_0 = true := zRw_ok (by decide +kernel)
noncomputable def B161_1 : List zRow := [(23, .aload_n 0, 1, (0, 0, 0)), (24, .getfield 19, 3, (11, 1, 39)), (27, .aload_n 0, 1, (0, 0, 0)), (28, .getfield 72, 3, (11, 9, 6291466)), (31, .iload_n 1, 1, (0, 0, 0)), (32, .aaload, 1, (24, 0, 0)), (33, .getfield 359, 3, (3, 1, 359))]
theorem K161_1 : zRk 161 B161_1 = true := zRw_ok (by decide +kernel)
noncomputable def B161_2 : List zRow := [(39, .aload_n 0, 1, (0, 0, 0)), (40, .getfield 56, 3, (11, 6, 7)), (43, .aload_n 0, 1, (0, 0, 0)), (44, .getfield 72, 3, (11, 9, 6291466)), (47, .iload_n 1, 1, (0, 0, 0)), (48, .aaload, 1, (24, 0, 0)), (49, .getfield 360, 3, (3, 2, 1351))]
theorem K161_2 : zRk 161 B161_2 = true := zRw_ok (by decide +kernel)
noncomputable def B161_3 : List zRow := [(55, .aload_n 0, 1, (0, 0, 0)), (56, .getfield 42, 3, (11, 4, 27)), (59, .aload_n 0, 1, (0, 0, 0)), (60, .getfield 72, 3, (11, 9, 6291466)), (63, .iload_n 1, 1, (0, 0, 0)), (64, .aaload, 1, (24, 0, 0)), (65, .getfield 361, 3, (3, 3, 347))]
theorem K161_3 : zRk 161 B161_3 = true := zRw_ok (by decide +kernel)
noncomputable def B161_4 : List zRow := [(71, .aload_n 0, 1, (0, 0, 0)), (72, .getfield 66, 3, (11, 8, 35))]
theorem K161_4 : zRk 161 B161_4 = true := zRw_ok (by decide +kernel)
noncomputable def B161_5 : List zRow := [(78, .iconst 1, 1, (0, 0, 0))]
theorem K161_5 : zRk 161 B161_5 = true := zRw_ok (by decide +kernel)
noncomputable def B161_6 : List zRow := [(9, .aload_n 0, 1, (0, 0, 0)), (10, .getfield 72, 3, (11, 9, 6291466)), (13, .iload_n 1, 1, (0, 0, 0)), (14, .aaload, 1, (24, 0, 0)), (15, .getfield 362, 3, (3, 0, 0)), (18, .ifCond .ne 5, 3, (0, 0, 0))]
theorem K161_6 : zRk 161 B161_6 = true := zRw_ok (by decide +kernel)
noncomputable def B161_7 : List zRow := [(4, .iload_n 1, 1, (0, 0, 0)), (5, .iconst 2, 1, (0, 0, 0)), (6, .if_icmp .ge 15, 3, (0, 0, 0))]
theorem K161_7 : zRk 161 B161_7 = true := zRw_ok (by decide +kernel)
noncomputable def B161_8 : List zRow := [(0, .iload_n 1, 1, (0, 0, 0)), (1, .ifCond .lt 20, 3, (0, 0, 0))]
theorem K161_8 : zRk 161 B161_8 = true := zRw_ok (by decide +kernel)
noncomputable def B293_0 : List zRow := [(0, .aload_n 0, 1, (0, 0, 0)), (1, .iconst 0, 1, (0, 0, 0)), (2, .putfield 81, 3, (12, 0, 0)), (5, .iload_n 1, 1, (0, 0, 0)), (6, .iconst 0, 1, (0, 0, 0)), (7, .iconst 1, 1, (0, 0, 0))]
theorem K293_0 : zRk 293 B293_0 = true := zRw_ok (by decide +kernel)
noncomputable def B293_1 : List zRow := [(23, .iconst 0, 1, (0, 0, 0))]
theorem K293_1 : zRk 293 B293_1 = true := zRw_ok (by decide +kernel)
noncomputable def B293_2 : List zRow := [(25, .iconst 0, 1, (0, 0, 0)), (26, .istore_n 2, 1, (0, 0, 0))]
theorem K293_2 : zRk 293 B293_2 = true := zRw_ok (by decide +kernel)
noncomputable def B293_3 : List zRow := [(14, .aload_n 0, 1, (0, 0, 0)), (15, .getfield 38, 3, (12, 22, 5767178)), (18, .iload_n 1, 1, (0, 0, 0)), (19, .baload, 1, (0, 0, 0)), (20, .ifCond .ne 5, 3, (0, 0, 0))]
theorem K293_3 : zRk 293 B293_3 = true := zRw_ok (by decide +kernel)
noncomputable def B293_4 : List zRow := [(11, .ifCond .eq 12, 3, (0, 0, 0))]
theorem K293_4 : zRk 293 B293_4 = true := zRw_ok (by decide +kernel)
noncomputable def B293_5 : List zRow := [(58, .iconst 0, 1, (0, 0, 0)), (59, .istore_n 2, 1, (0, 0, 0))]
theorem K293_5 : zRk 293 B293_5 = true := zRw_ok (by decide +kernel)
noncomputable def B293_6 : List zRow := [(34, .aload_n 0, 1, (0, 0, 0)), (35, .getfield 13, 3, (12, 14, 5251442)), (38, .iload_n 2, 1, (0, 0, 0)), (39, .aload_n 0, 1, (0, 0, 0)), (40, .getfield 19, 3, (12, 16, 5260002)), (43, .sipush 2140, 3, (0, 0, 0)), (46, .iload_n 1, 1, (0, 0, 0))]
theorem K293_6 : zRk 293 B293_6 = true := zRw_ok (by decide +kernel)
noncomputable def B293_7 : List zRow := [(47, .imul, 1, (0, 0, 0)), (48, .iload_n 2, 1, (0, 0, 0)), (49, .iadd, 1, (0, 0, 0)), (50, .iaload, 1, (0, 0, 0)), (51, .iastore, 1, (0, 0, 0)), (52, .iinc 2 1, 3, (0, 0, 0)), (55, .goto (-28), 3, (0, 0, 0))]
theorem K293_7 : zRk 293 B293_7 = true := zRw_ok (by decide +kernel)
noncomputable def B293_8 : List zRow := [(27, .iload_n 2, 1, (0, 0, 0)), (28, .sipush 2140, 3, (0, 0, 0)), (31, .if_icmp .ge 27, 3, (0, 0, 0))]
theorem K293_8 : zRk 293 B293_8 = true := zRw_ok (by decide +kernel)
noncomputable def B293_9 : List zRow := [(89, .aload_n 0, 1, (0, 0, 0)), (90, .iconst 0, 1, (0, 0, 0)), (91, .putfield 232, 3, (12, 23, 0)), (94, .iconst 1, 1, (0, 0, 0))]
theorem K293_9 : zRk 293 B293_9 = true := zRw_ok (by decide +kernel)
noncomputable def B293_10 : List zRow := [(66, .aload_n 0, 1, (0, 0, 0)), (67, .getfield 28, 3, (12, 19, 5505074)), (70, .iload_n 2, 1, (0, 0, 0)), (71, .aload_n 0, 1, (0, 0, 0)), (72, .getfield 35, 3, (12, 21, 5505122)), (75, .bipush 12, 2, (0, 0, 0)), (77, .iload_n 1, 1, (0, 0, 0))]
theorem K293_10 : zRk 293 B293_10 = true := zRw_ok (by decide +kernel)
noncomputable def B293_11 : List zRow := [(78, .imul, 1, (0, 0, 0)), (79, .iload_n 2, 1, (0, 0, 0)), (80, .iadd, 1, (0, 0, 0)), (81, .laload, 1, (0, 0, 0)), (82, .lastore, 1, (0, 0, 0)), (83, .iinc 2 1, 3, (0, 0, 0)), (86, .goto (-26), 3, (0, 0, 0))]
theorem K293_11 : zRk 293 B293_11 = true := zRw_ok (by decide +kernel)
noncomputable def B293_12 : List zRow := [(60, .iload_n 2, 1, (0, 0, 0)), (61, .bipush 12, 2, (0, 0, 0)), (63, .if_icmp .ge 26, 3, (0, 0, 0))]
theorem K293_12 : zRk 293 B293_12 = true := zRw_ok (by decide +kernel)
noncomputable def B162_0 : List zRow := [(52, .aload_n 0, 1, (0, 0, 0)), (53, .getfield 19, 3, (11, 1, 39)), (56, .getfield 365, 3, (9, 0, 0))]
theorem K162_0 : zRk 162 B162_0 = true := zRw_ok (by decide +kernel)
noncomputable def B162_1 : List zRow := [(0, .iload_n 1, 1, (0, 0, 0)), (1, .tableswitch 130 0 8 #[51, 59, 67, 75, 83, 91, 99, 107, 122], 51, (0, 0, 0))]
theorem K162_1 : zRk 162 B162_1 = true := by decide +kernel
noncomputable def B162_2 : List zRow := [(60, .aload_n 0, 1, (0, 0, 0)), (61, .getfield 19, 3, (11, 1, 39)), (64, .getfield 368, 3, (9, 1, 0))]
theorem K162_2 : zRk 162 B162_2 = true := zRw_ok (by decide +kernel)
noncomputable def B162_3 : List zRow := [(68, .aload_n 0, 1, (0, 0, 0)), (69, .getfield 19, 3, (11, 1, 39)), (72, .getfield 282, 3, (9, 2, 0))]
theorem K162_3 : zRk 162 B162_3 = true := zRw_ok (by decide +kernel)
noncomputable def B162_4 : List zRow := [(76, .aload_n 0, 1, (0, 0, 0)), (77, .getfield 19, 3, (11, 1, 39)), (80, .getfield 311, 3, (9, 3, 0))]
theorem K162_4 : zRk 162 B162_4 = true := zRw_ok (by decide +kernel)
noncomputable def B162_5 : List zRow := [(84, .aload_n 0, 1, (0, 0, 0)), (85, .getfield 56, 3, (11, 6, 7)), (88, .getfield 159, 3, (1, 0, 0))]
theorem K162_5 : zRk 162 B162_5 = true := zRw_ok (by decide +kernel)
noncomputable def B162_6 : List zRow := [(92, .aload_n 0, 1, (0, 0, 0)), (93, .getfield 56, 3, (11, 6, 7)), (96, .getfield 354, 3, (1, 1, 0))]
theorem K162_6 : zRk 162 B162_6 = true := zRw_ok (by decide +kernel)
noncomputable def B162_7 : List zRow := [(100, .aload_n 0, 1, (0, 0, 0)), (101, .getfield 56, 3, (11, 6, 7)), (104, .getfield 208, 3, (1, 2, 0))]
theorem K162_7 : zRk 162 B162_7 = true := zRw_ok (by decide +kernel)
noncomputable def B162_8 : List zRow := [(108, .aload_n 0, 1, (0, 0, 0)), (109, .getfield 19, 3, (11, 1, 39)), (112, .aload_n 0, 1, (0, 0, 0)), (113, .getfield 56, 3, (11, 6, 7)), (116, .getfield 159, 3, (1, 0, 0))]
theorem K162_8 : zRk 162 B162_8 = true := zRw_ok (by decide +kernel)
noncomputable def B162_9 : List zRow := [(123, .aload_n 0, 1, (0, 0, 0)), (124, .getfield 12, 3, (11, 0, 23)), (127, .getfield 105, 3, (5, 1, 0))]
theorem K162_9 : zRk 162 B162_9 = true := zRw_ok (by decide +kernel)
noncomputable def B162_10 : List zRow := [(131, .iconst (-1), 1, (0, 0, 0))]
theorem K162_10 : zRk 162 B162_10 = true := zRw_ok (by decide +kernel)
noncomputable def B294_0 : List zRow := [(56, .aload_n 0, 1, (0, 0, 0)), (57, .getfield 13, 3, (12, 14, 5251442)), (60, .iconst 0, 1, (0, 0, 0)), (61, .iaload, 1, (0, 0, 0))]
theorem K294_0 : zRk 294 B294_0 = true := zRw_ok (by decide +kernel)
noncomputable def B294_1 : List zRow := [(0, .aload_n 0, 1, (0, 0, 0)), (1, .iconst 0, 1, (0, 0, 0)), (2, .putfield 81, 3, (12, 0, 0)), (5, .iload_n 1, 1, (0, 0, 0)), (6, .tableswitch 123 0 8 #[50, 57, 64, 71, 78, 87, 96, 105, 118], 50, (0, 0, 0))]
theorem K294_1 : zRk 294 B294_1 = true := by decide +kernel
noncomputable def B294_2 : List zRow := [(63, .aload_n 0, 1, (0, 0, 0)), (64, .getfield 13, 3, (12, 14, 5251442)), (67, .iconst 1, 1, (0, 0, 0)), (68, .iaload, 1, (0, 0, 0))]
theorem K294_2 : zRk 294 B294_2 = true := zRw_ok (by decide +kernel)
noncomputable def B294_3 : List zRow := [(70, .aload_n 0, 1, (0, 0, 0)), (71, .getfield 13, 3, (12, 14, 5251442)), (74, .iconst 2, 1, (0, 0, 0)), (75, .iaload, 1, (0, 0, 0))]
theorem K294_3 : zRk 294 B294_3 = true := zRw_ok (by decide +kernel)
noncomputable def B294_4 : List zRow := [(77, .aload_n 0, 1, (0, 0, 0)), (78, .getfield 13, 3, (12, 14, 5251442)), (81, .iconst 3, 1, (0, 0, 0)), (82, .iaload, 1, (0, 0, 0))]
theorem K294_4 : zRk 294 B294_4 = true := zRw_ok (by decide +kernel)
noncomputable def B294_5 : List zRow := [(84, .aload_n 0, 1, (0, 0, 0)), (85, .getfield 13, 3, (12, 14, 5251442)), (88, .sipush 209, 3, (0, 0, 0)), (91, .iaload, 1, (0, 0, 0))]
theorem K294_5 : zRk 294 B294_5 = true := zRw_ok (by decide +kernel)
noncomputable def B294_6 : List zRow := [(93, .aload_n 0, 1, (0, 0, 0)), (94, .getfield 13, 3, (12, 14, 5251442)), (97, .sipush 216, 3, (0, 0, 0)), (100, .iaload, 1, (0, 0, 0))]
theorem K294_6 : zRk 294 B294_6 = true := zRw_ok (by decide +kernel)
noncomputable def B294_7 : List zRow := [(102, .aload_n 0, 1, (0, 0, 0)), (103, .getfield 13, 3, (12, 14, 5251442)), (106, .sipush 997, 3, (0, 0, 0)), (109, .iaload, 1, (0, 0, 0))]
theorem K294_7 : zRk 294 B294_7 = true := zRw_ok (by decide +kernel)
noncomputable def B294_8 : List zRow := [(111, .aload_n 0, 1, (0, 0, 0)), (112, .aload_n 0, 1, (0, 0, 0)), (113, .getfield 13, 3, (12, 14, 5251442)), (116, .sipush 209, 3, (0, 0, 0)), (119, .iaload, 1, (0, 0, 0))]
theorem K294_8 : zRk 294 B294_8 = true := zRw_ok (by decide +kernel)
noncomputable def B294_9 : List zRow := [(124, .aload_n 0, 1, (0, 0, 0)), (125, .getfield 85, 3, (12, 2, 0))]
theorem K294_9 : zRk 294 B294_9 = true := zRw_ok (by decide +kernel)
noncomputable def B294_10 : List zRow := [(129, .iconst (-1), 1, (0, 0, 0))]
theorem K294_10 : zRk 294 B294_10 = true := zRw_ok (by decide +kernel)
noncomputable def B163_0 : List zRow := [(0, .aload_n 0, 1, (0, 0, 0)), (1, .iload_n 1, 1, (0, 0, 0))]
theorem K163_0 : zRk 163 B163_0 = true := zRw_ok (by decide +kernel)
noncomputable def B163_1 : List zRow := [(56, .aload_n 0, 1, (0, 0, 0)), (57, .getfield 19, 3, (11, 1, 39)), (60, .getfield 150, 3, (9, 8, 5242906)), (63, .iload_n 1, 1, (0, 0, 0)), (64, .iaload, 1, (0, 0, 0))]
theorem K163_1 : zRk 163 B163_1 = true := zRw_ok (by decide +kernel)
noncomputable def B163_2 : List zRow := [(27, .iload_n 2, 1, (0, 0, 0)), (28, .tableswitch 58 0 2 #[28, 38, 48], 28, (0, 0, 0))]
theorem K163_2 : zRk 163 B163_2 = true := by decide +kernel
noncomputable def B163_3 : List zRow := [(66, .aload_n 0, 1, (0, 0, 0)), (67, .getfield 19, 3, (11, 1, 39)), (70, .getfield 153, 3, (9, 9, 5242906)), (73, .iload_n 1, 1, (0, 0, 0)), (74, .iaload, 1, (0, 0, 0))]
theorem K163_3 : zRk 163 B163_3 = true := zRw_ok (by decide +kernel)
noncomputable def B163_4 : List zRow := [(76, .aload_n 0, 1, (0, 0, 0)), (77, .getfield 19, 3, (11, 1, 39)), (80, .getfield 156, 3, (9, 10, 5242906)), (83, .iload_n 1, 1, (0, 0, 0)), (84, .iaload, 1, (0, 0, 0))]
theorem K163_4 : zRk 163 B163_4 = true := zRw_ok (by decide +kernel)
noncomputable def B163_5 : List zRow := [(86, .iconst 0, 1, (0, 0, 0)), (87, .aload_n 0, 1, (0, 0, 0)), (88, .getfield 19, 3, (11, 1, 39)), (91, .getfield 156, 3, (9, 10, 5242906)), (94, .iload_n 1, 1, (0, 0, 0)), (95, .iaload, 1, (0, 0, 0)), (96, .aload_n 0, 1, (0, 0, 0)), (97, .getfield 19, 3, (11, 1, 39)), (100, .aload_n 0, 1, (0, 0, 0)), (101, .getfield 56, 3, (11, 6, 7)), (104, .getfield 159, 3, (1, 0, 0))]
theorem K163_5 : zRk 163 B163_5 = true := zRw_ok (by decide +kernel)
noncomputable def B163_6 : List zRow := [(110, .isub, 1, (0, 0, 0)), (111, .invokestatic 166, 3, (5004, 0, 0))]
theorem K163_6 : zRk 163 B163_6 = true := zRw_ok (by decide +kernel)
noncomputable def B163_7 : List zRow := [(12, .iload_n 2, 1, (0, 0, 0)), (13, .iconst 3, 1, (0, 0, 0)), (14, .if_icmp .le 13, 3, (0, 0, 0))]
theorem K163_7 : zRk 163 B163_7 = true := zRw_ok (by decide +kernel)
noncomputable def B163_8 : List zRow := [(8, .iload_n 2, 1, (0, 0, 0)), (9, .ifCond .lt 8, 3, (0, 0, 0))]
theorem K163_8 : zRk 163 B163_8 = true := zRw_ok (by decide +kernel)
noncomputable def B163_9 : List zRow := [(5, .ifCond .eq 12, 3, (0, 0, 0))]
theorem K163_9 : zRk 163 B163_9 = true := zRw_ok (by decide +kernel)
noncomputable def B165_0 : List zRow := [(0, .iconst 0, 1, (0, 0, 0)), (1, .istore_n 3, 1, (0, 0, 0)), (2, .iconst 0, 1, (0, 0, 0)), (3, .istore 4, 2, (0, 0, 0))]
theorem K165_0 : zRk 165 B165_0 = true := zRw_ok (by decide +kernel)
noncomputable def B165_1 : List zRow := [(37, .iload_n 3, 1, (0, 0, 0))]
theorem K165_1 : zRk 165 B165_1 = true := zRw_ok (by decide +kernel)
noncomputable def B165_2 : List zRow := [(14, .aload_n 0, 1, (0, 0, 0)), (15, .iload 4, 2, (0, 0, 0)), (17, .iload_n 1, 1, (0, 0, 0))]
theorem K165_2 : zRk 165 B165_2 = true := zRw_ok (by decide +kernel)
noncomputable def B165_3 : List zRow := [(21, .iload_n 2, 1, (0, 0, 0))]
theorem K165_3 : zRk 165 B165_3 = true := zRw_ok (by decide +kernel)
noncomputable def B165_4 : List zRow := [(28, .iinc 3 1, 3, (0, 0, 0))]
theorem K165_4 : zRk 165 B165_4 = true := zRw_ok (by decide +kernel)
noncomputable def B165_5 : List zRow := [(25, .ifCond .eq 6, 3, (0, 0, 0))]
theorem K165_5 : zRk 165 B165_5 = true := zRw_ok (by decide +kernel)
noncomputable def B165_6 : List zRow := [(5, .iload 4, 2, (0, 0, 0)), (7, .aload_n 0, 1, (0, 0, 0)), (8, .getfield 34, 3, (1, 1, 0)), (11, .if_icmp .ge 26, 3, (0, 0, 0))]
theorem K165_6 : zRk 165 B165_6 = true := zRw_ok (by decide +kernel)
noncomputable def B165_7 : List zRow := [(31, .iinc 4 1, 3, (0, 0, 0)), (34, .goto (-29), 3, (0, 0, 0))]
theorem K165_7 : zRk 165 B165_7 = true := zRw_ok (by decide +kernel)
noncomputable def B166_0 : List zRow := [(0, .iconst 0, 1, (0, 0, 0)), (1, .istore_n 2, 1, (0, 0, 0)), (2, .iconst 0, 1, (0, 0, 0)), (3, .istore_n 3, 1, (0, 0, 0))]
theorem K166_0 : zRk 166 B166_0 = true := zRw_ok (by decide +kernel)
noncomputable def B166_1 : List zRow := [(31, .iload_n 2, 1, (0, 0, 0))]
theorem K166_1 : zRk 166 B166_1 = true := zRw_ok (by decide +kernel)
noncomputable def B166_2 : List zRow := [(12, .aload_n 0, 1, (0, 0, 0)), (13, .iload_n 3, 1, (0, 0, 0)), (14, .iconst 1, 1, (0, 0, 0))]
theorem K166_2 : zRk 166 B166_2 = true := zRw_ok (by decide +kernel)
noncomputable def B166_3 : List zRow := [(22, .iinc 2 1, 3, (0, 0, 0))]
theorem K166_3 : zRk 166 B166_3 = true := zRw_ok (by decide +kernel)
noncomputable def B166_4 : List zRow := [(18, .iload_n 1, 1, (0, 0, 0)), (19, .if_icmp .ne 6, 3, (0, 0, 0))]
theorem K166_4 : zRk 166 B166_4 = true := zRw_ok (by decide +kernel)
noncomputable def B166_5 : List zRow := [(4, .iload_n 3, 1, (0, 0, 0)), (5, .aload_n 0, 1, (0, 0, 0)), (6, .getfield 34, 3, (1, 1, 0)), (9, .if_icmp .ge 22, 3, (0, 0, 0))]
theorem K166_5 : zRk 166 B166_5 = true := zRw_ok (by decide +kernel)
noncomputable def B166_6 : List zRow := [(25, .iinc 3 1, 3, (0, 0, 0)), (28, .goto (-24), 3, (0, 0, 0))]
theorem K166_6 : zRk 166 B166_6 = true := zRw_ok (by decide +kernel)
noncomputable def B164_0 : List zRow := [(0, .aload_n 0, 1, (0, 0, 0)), (1, .iload_n 1, 1, (0, 0, 0))]
theorem K164_0 : zRk 164 B164_0 = true := zRw_ok (by decide +kernel)
noncomputable def B164_1 : List zRow := [(64, .aload_n 0, 1, (0, 0, 0)), (65, .getfield 56, 3, (11, 6, 7)), (68, .getfield 177, 3, (1, 3, 5242906)), (71, .iload_n 1, 1, (0, 0, 0)), (72, .iaload, 1, (0, 0, 0))]
theorem K164_1 : zRk 164 B164_1 = true := zRw_ok (by decide +kernel)
noncomputable def B164_2 : List zRow := [(27, .iload_n 2, 1, (0, 0, 0)), (28, .tableswitch 85 0 4 #[36, 46, 55, 65, 74], 36, (0, 0, 0))]
theorem K164_2 : zRk 164 B164_2 = true := by decide +kernel
noncomputable def B164_3 : List zRow := [(74, .aload_n 0, 1, (0, 0, 0)), (75, .getfield 56, 3, (11, 6, 7)), (78, .iload_n 1, 1, (0, 0, 0))]
theorem K164_3 : zRk 164 B164_3 = true := zRw_ok (by decide +kernel)
noncomputable def B164_4 : List zRow := [(83, .aload_n 0, 1, (0, 0, 0)), (84, .getfield 56, 3, (11, 6, 7)), (87, .iconst 5, 1, (0, 0, 0)), (88, .iload_n 1, 1, (0, 0, 0))]
theorem K164_4 : zRk 164 B164_4 = true := zRw_ok (by decide +kernel)
noncomputable def B164_5 : List zRow := [(93, .aload_n 0, 1, (0, 0, 0)), (94, .getfield 56, 3, (11, 6, 7)), (97, .iload_n 1, 1, (0, 0, 0))]
theorem K164_5 : zRk 164 B164_5 = true := zRw_ok (by decide +kernel)
noncomputable def B164_6 : List zRow := [(102, .aload_n 0, 1, (0, 0, 0)), (103, .getfield 56, 3, (11, 6, 7)), (106, .bipush 7, 2, (0, 0, 0)), (108, .iload_n 1, 1, (0, 0, 0))]
theorem K164_6 : zRk 164 B164_6 = true := zRw_ok (by decide +kernel)
noncomputable def B164_7 : List zRow := [(113, .aload_n 0, 1, (0, 0, 0)), (114, .getfield 19, 3, (11, 1, 39)), (117, .getfield 188, 3, (9, 13, 5242906)), (120, .iload_n 1, 1, (0, 0, 0)), (121, .iaload, 1, (0, 0, 0))]
theorem K164_7 : zRk 164 B164_7 = true := zRw_ok (by decide +kernel)
noncomputable def B164_8 : List zRow := [(12, .iload_n 2, 1, (0, 0, 0)), (13, .iconst 5, 1, (0, 0, 0)), (14, .if_icmp .le 13, 3, (0, 0, 0))]
theorem K164_8 : zRk 164 B164_8 = true := zRw_ok (by decide +kernel)
noncomputable def B164_9 : List zRow := [(8, .iload_n 2, 1, (0, 0, 0)), (9, .ifCond .lt 8, 3, (0, 0, 0))]
theorem K164_9 : zRk 164 B164_9 = true := zRw_ok (by decide +kernel)
noncomputable def B164_10 : List zRow := [(5, .ifCond .eq 12, 3, (0, 0, 0))]
theorem K164_10 : zRk 164 B164_10 = true := zRw_ok (by decide +kernel)
noncomputable def B167_0 : List zRow := [(0, .aload_n 0, 1, (0, 0, 0)), (1, .iload_n 1, 1, (0, 0, 0))]
theorem K167_0 : zRk 167 B167_0 = true := zRw_ok (by decide +kernel)
noncomputable def B167_1 : List zRow := [(28, .aload_n 0, 1, (0, 0, 0)), (29, .getfield 56, 3, (11, 6, 7)), (32, .iload_n 1, 1, (0, 0, 0)), (33, .iload_n 2, 1, (0, 0, 0))]
theorem K167_1 : zRk 167 B167_1 = true := zRw_ok (by decide +kernel)
noncomputable def B167_2 : List zRow := [(12, .iload_n 2, 1, (0, 0, 0)), (13, .bipush 8, 2, (0, 0, 0)), (15, .if_icmp .lt 13, 3, (0, 0, 0))]
theorem K167_2 : zRk 167 B167_2 = true := zRw_ok (by decide +kernel)
noncomputable def B167_3 : List zRow := [(8, .iload_n 2, 1, (0, 0, 0)), (9, .ifCond .lt 9, 3, (0, 0, 0))]
theorem K167_3 : zRk 167 B167_3 = true := zRw_ok (by decide +kernel)
noncomputable def B167_4 : List zRow := [(5, .ifCond .eq 13, 3, (0, 0, 0))]
theorem K167_4 : zRk 167 B167_4 = true := zRw_ok (by decide +kernel)
