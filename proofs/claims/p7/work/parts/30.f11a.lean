noncomputable def B131_0 : List zRow := [(21, .iconst (-1), 1, (0, 0, 0))]
theorem K131_0 : zRk 131 B131_0 = true := zRw_ok (by decide +kernel)
noncomputable def B131_1 : List zRow := [(11, .aload_n 0, 1, (0, 0, 0)), (12, .getfield 9, 3, (0, 1, 23)), (15, .getfield 36, 3, (5, 6, 0)), (18, .goto 4, 3, (0, 0, 0))]
theorem K131_1 : zRk 131 B131_1 = true := zRw_ok (by decide +kernel)
noncomputable def B131_2 : List zRow := [(0, .aload_n 0, 1, (0, 0, 0)), (1, .getfield 9, 3, (0, 1, 23)), (4, .getfield 33, 3, (5, 4, 0)), (7, .iconst 3, 1, (0, 0, 0)), (8, .if_icmp .ne 13, 3, (0, 0, 0))]
theorem K131_2 : zRk 131 B131_2 = true := zRw_ok (by decide +kernel)
noncomputable def B131_3 : List zRow := [(45, .aload_n 0, 1, (0, 0, 0)), (46, .getfield 9, 3, (0, 1, 23)), (49, .iconst 1, 1, (0, 0, 0))]
theorem K131_3 : zRk 131 B131_3 = true := zRw_ok (by decide +kernel)
noncomputable def B131_4 : List zRow := [(38, .iload 4, 2, (0, 0, 0)), (40, .bipush 9, 2, (0, 0, 0)), (42, .if_icmp .eq 12, 3, (0, 0, 0))]
theorem K131_4 : zRk 131 B131_4 = true := zRw_ok (by decide +kernel)
noncomputable def B131_5 : List zRow := [(31, .iload 4, 2, (0, 0, 0)), (33, .bipush 8, 2, (0, 0, 0)), (35, .if_icmp .eq 19, 3, (0, 0, 0))]
theorem K131_5 : zRk 131 B131_5 = true := zRw_ok (by decide +kernel)
noncomputable def B131_6 : List zRow := [(22, .istore 4, 2, (0, 0, 0)), (24, .iload 4, 2, (0, 0, 0)), (26, .bipush 7, 2, (0, 0, 0)), (28, .if_icmp .eq 26, 3, (0, 0, 0))]
theorem K131_6 : zRk 131 B131_6 = true := zRw_ok (by decide +kernel)
noncomputable def B131_7 : List zRow := [(69, .aload_n 0, 1, (0, 0, 0)), (70, .getfield 9, 3, (0, 1, 23))]
theorem K131_7 : zRk 131 B131_7 = true := zRw_ok (by decide +kernel)
noncomputable def B131_8 : List zRow := [(76, .aload_n 0, 1, (0, 0, 0)), (77, .getfield 9, 3, (0, 1, 23)), (80, .aload_n 1, 1, (0, 0, 0))]
theorem K131_8 : zRk 131 B131_8 = true := zRw_ok (by decide +kernel)
noncomputable def B131_9 : List zRow := [(94, .aload_n 0, 1, (0, 0, 0)), (95, .getfield 9, 3, (0, 1, 23))]
theorem K131_9 : zRk 131 B131_9 = true := zRw_ok (by decide +kernel)
noncomputable def B131_10 : List zRow := [(101, .aload_n 0, 1, (0, 0, 0)), (102, .getfield 9, 3, (0, 1, 23)), (105, .iconst 0, 1, (0, 0, 0)), (106, .bipush 29, 2, (0, 0, 0))]
theorem K131_10 : zRk 131 B131_10 = true := zRw_ok (by decide +kernel)
noncomputable def B131_11 : List zRow := [(124, .aload_n 2, 1, (0, 0, 0)), (125, .iload 4, 2, (0, 0, 0)), (127, .iload 5, 2, (0, 0, 0)), (129, .aload_n 0, 1, (0, 0, 0)), (130, .getfield 9, 3, (0, 1, 23)), (133, .getfield 36, 3, (5, 6, 0))]
theorem K131_11 : zRk 131 B131_11 = true := zRw_ok (by decide +kernel)
noncomputable def B131_12 : List zRow := [(142, .aload_n 0, 1, (0, 0, 0)), (143, .iload_n 3, 1, (0, 0, 0)), (144, .putfield 15, 3, (0, 0, 0))]
theorem K131_12 : zRk 131 B131_12 = true := zRw_ok (by decide +kernel)
noncomputable def B131_13 : List zRow := [(139, .ifCond .ne 8, 3, (0, 0, 0))]
theorem K131_13 : zRk 131 B131_13 = true := zRw_ok (by decide +kernel)
noncomputable def B131_14 : List zRow := [(116, .aload_n 0, 1, (0, 0, 0)), (117, .getfield 15, 3, (0, 0, 0)), (120, .iconst (-1), 1, (0, 0, 0)), (121, .if_icmp .ne 26, 3, (0, 0, 0))]
theorem K131_14 : zRk 131 B131_14 = true := zRw_ok (by decide +kernel)
noncomputable def B131_15 : List zRow := [(114, .iconst 0, 1, (0, 0, 0))]
theorem K131_15 : zRk 131 B131_15 = true := zRw_ok (by decide +kernel)
noncomputable def B131_16 : List zRow := [(111, .ifCond .ne 5, 3, (0, 0, 0))]
theorem K131_16 : zRk 131 B131_16 = true := zRw_ok (by decide +kernel)
noncomputable def B131_17 : List zRow := [(92, .iconst 0, 1, (0, 0, 0))]
theorem K131_17 : zRk 131 B131_17 = true := zRw_ok (by decide +kernel)
noncomputable def B131_18 : List zRow := [(84, .istore 5, 2, (0, 0, 0)), (86, .iload 5, 2, (0, 0, 0)), (88, .iconst (-1), 1, (0, 0, 0)), (89, .if_icmp .ne 5, 3, (0, 0, 0))]
theorem K131_18 : zRk 131 B131_18 = true := zRw_ok (by decide +kernel)
noncomputable def B131_19 : List zRow := [(60, .aload_n 0, 1, (0, 0, 0)), (61, .getfield 9, 3, (0, 1, 23)), (64, .iconst 4, 1, (0, 0, 0))]
theorem K131_19 : zRk 131 B131_19 = true := zRw_ok (by decide +kernel)
noncomputable def B131_20 : List zRow := [(54, .iload_n 3, 1, (0, 0, 0)), (55, .bipush 30, 2, (0, 0, 0)), (57, .if_icmp .lt 12, 3, (0, 0, 0))]
theorem K131_20 : zRk 131 B131_20 = true := zRw_ok (by decide +kernel)
noncomputable def B131_21 : List zRow := [(147, .aload_n 0, 1, (0, 0, 0)), (148, .getfield 9, 3, (0, 1, 23))]
theorem K131_21 : zRk 131 B131_21 = true := zRw_ok (by decide +kernel)
noncomputable def B131_22 : List zRow := [(154, .aload_n 0, 1, (0, 0, 0)), (155, .getfield 9, 3, (0, 1, 23)), (158, .bipush 59, 2, (0, 0, 0))]
theorem K131_22 : zRk 131 B131_22 = true := zRw_ok (by decide +kernel)
noncomputable def B130_0 : List zRow := [(0, .aload_n 0, 1, (0, 0, 0)), (1, .iconst (-1), 1, (0, 0, 0)), (2, .putfield 15, 3, (0, 0, 0)), (5, .aload_n 0, 1, (0, 0, 0)), (6, .getfield 9, 3, (0, 1, 23)), (9, .sipush 300, 3, (0, 0, 0))]
theorem K130_0 : zRk 130 B130_0 = true := zRw_ok (by decide +kernel)
noncomputable def B130_1 : List zRow := [(15, .iconst 0, 1, (0, 0, 0)), (16, .istore_n 3, 1, (0, 0, 0))]
theorem K130_1 : zRk 130 B130_1 = true := zRw_ok (by decide +kernel)
noncomputable def B130_2 : List zRow := [(52, .iconst 1, 1, (0, 0, 0))]
theorem K130_2 : zRk 130 B130_2 = true := zRw_ok (by decide +kernel)
noncomputable def B130_3 : List zRow := [(24, .aload_n 0, 1, (0, 0, 0)), (25, .getfield 9, 3, (0, 1, 23))]
theorem K130_3 : zRk 130 B130_3 = true := zRw_ok (by decide +kernel)
noncomputable def B130_4 : List zRow := [(34, .aload_n 0, 1, (0, 0, 0)), (35, .aload_n 1, 1, (0, 0, 0)), (36, .aload_n 2, 1, (0, 0, 0)), (37, .iload_n 3, 1, (0, 0, 0))]
theorem K130_4 : zRk 130 B130_4 = true := zRw_ok (by decide +kernel)
noncomputable def B130_5 : List zRow := [(46, .iinc 3 1, 3, (0, 0, 0)), (49, .goto (-32), 3, (0, 0, 0))]
theorem K130_5 : zRk 130 B130_5 = true := zRw_ok (by decide +kernel)
noncomputable def B130_6 : List zRow := [(44, .iconst 0, 1, (0, 0, 0))]
theorem K130_6 : zRk 130 B130_6 = true := zRw_ok (by decide +kernel)
noncomputable def B130_7 : List zRow := [(41, .ifCond .ne 5, 3, (0, 0, 0))]
theorem K130_7 : zRk 130 B130_7 = true := zRw_ok (by decide +kernel)
noncomputable def B130_8 : List zRow := [(31, .ifCond .ne 21, 3, (0, 0, 0))]
theorem K130_8 : zRk 130 B130_8 = true := zRw_ok (by decide +kernel)
noncomputable def B130_9 : List zRow := [(17, .iload_n 3, 1, (0, 0, 0)), (18, .sipush 940, 3, (0, 0, 0)), (21, .if_icmp .ge 31, 3, (0, 0, 0))]
theorem K130_9 : zRk 130 B130_9 = true := zRw_ok (by decide +kernel)
noncomputable def B129_0 : List zRow := [(0, .aload_n 0, 1, (0, 0, 0)), (1, .getfield 35, 3, (11, 3, 3)), (4, .aload_n 0, 1, (0, 0, 0)), (5, .getfield 19, 3, (11, 1, 39)), (8, .aload_n 0, 1, (0, 0, 0)), (9, .getfield 56, 3, (11, 6, 7))]
theorem K129_0 : zRk 129 B129_0 = true := zRw_ok (by decide +kernel)
noncomputable def B129_1 : List zRow := [(38, .bipush (-2), 2, (0, 0, 0)), (40, .aload_n 0, 1, (0, 0, 0)), (41, .getfield 12, 3, (11, 0, 23)), (44, .getfield 116, 3, (5, 3, 0))]
theorem K129_1 : zRk 129 B129_1 = true := zRw_ok (by decide +kernel)
noncomputable def B129_2 : List zRow := [(47, .isub, 1, (0, 0, 0))]
theorem K129_2 : zRk 129 B129_2 = true := zRw_ok (by decide +kernel)
noncomputable def B129_3 : List zRow := [(28, .aload_n 0, 1, (0, 0, 0)), (29, .getfield 35, 3, (11, 3, 3)), (32, .getfield 308, 3, (0, 0, 0)), (35, .goto 13, 3, (0, 0, 0))]
theorem K129_3 : zRk 129 B129_3 = true := zRw_ok (by decide +kernel)
noncomputable def B129_4 : List zRow := [(15, .istore_n 1, 1, (0, 0, 0)), (16, .aload_n 0, 1, (0, 0, 0)), (17, .getfield 12, 3, (11, 0, 23)), (20, .iconst 0, 1, (0, 0, 0)), (21, .putfield 105, 3, (5, 1, 0)), (24, .iload_n 1, 1, (0, 0, 0)), (25, .ifCond .eq 13, 3, (0, 0, 0))]
theorem K129_4 : zRk 129 B129_4 = true := zRw_ok (by decide +kernel)
noncomputable def B192b_0 : List zRow := [(0, .iconst 0, 1, (0, 0, 0)), (1, .istore 5, 2, (0, 0, 0))]
theorem K192b_0 : zRk 192 B192b_0 = true := zRw_ok (by decide +kernel)
noncomputable def B192b_1 : List zRow := [(29, .iconst (-1), 1, (0, 0, 0))]
theorem K192b_1 : zRk 192 B192b_1 = true := zRw_ok (by decide +kernel)
noncomputable def B192b_2 : List zRow := [(23, .iinc 5 1, 3, (0, 0, 0)), (26, .goto (-23), 3, (0, 0, 0))]
theorem K192b_2 : zRk 192 B192b_2 = true := zRw_ok (by decide +kernel)
noncomputable def B192b_3 : List zRow := [(20, .iload 5, 2, (0, 0, 0))]
theorem K192b_3 : zRk 192 B192b_3 = true := zRw_ok (by decide +kernel)
noncomputable def B192b_4 : List zRow := [(9, .aload_n 0, 1, (0, 0, 0)), (10, .iload_n 1, 1, (0, 0, 0)), (11, .iload 5, 2, (0, 0, 0)), (13, .iadd, 1, (0, 0, 0)), (14, .laload, 1, (0, 0, 0)), (15, .lload_n 3, 1, (0, 0, 0)), (16, .lcmp, 1, (0, 0, 0)), (17, .ifCond .ne 6, 3, (0, 0, 0))]
theorem K192b_4 : zRk 192 B192b_4 = true := zRw_ok (by decide +kernel)
noncomputable def B192b_5 : List zRow := [(3, .iload 5, 2, (0, 0, 0)), (5, .iload_n 2, 1, (0, 0, 0)), (6, .if_icmp .ge 23, 3, (0, 0, 0))]
theorem K192b_5 : zRk 192 B192b_5 = true := zRw_ok (by decide +kernel)
noncomputable def B269_0 : List zRow := [(0, .aload_n 0, 1, (0, 0, 0)), (1, .bipush 7, 2, (0, 0, 0))]
theorem K269_0 : zRk 269 B269_0 = true := zRw_ok (by decide +kernel)
noncomputable def B269_1 : List zRow := [(14, .aload_n 0, 1, (0, 0, 0)), (15, .bipush 8, 2, (0, 0, 0))]
theorem K269_1 : zRk 269 B269_1 = true := zRw_ok (by decide +kernel)
noncomputable def B269_2 : List zRow := [(28, .aload_n 0, 1, (0, 0, 0)), (29, .bipush 9, 2, (0, 0, 0))]
theorem K269_2 : zRk 269 B269_2 = true := zRw_ok (by decide +kernel)
noncomputable def B269_3 : List zRow := [(42, .iconst (-1), 1, (0, 0, 0))]
theorem K269_3 : zRk 269 B269_3 = true := zRw_ok (by decide +kernel)
noncomputable def B269_4 : List zRow := [(37, .bipush 9, 2, (0, 0, 0)), (39, .goto 4, 3, (0, 0, 0))]
theorem K269_4 : zRk 269 B269_4 = true := zRw_ok (by decide +kernel)
noncomputable def B269_5 : List zRow := [(34, .ifCond .eq 8, 3, (0, 0, 0))]
theorem K269_5 : zRk 269 B269_5 = true := zRw_ok (by decide +kernel)
noncomputable def B269_6 : List zRow := [(23, .bipush 8, 2, (0, 0, 0)), (25, .goto 18, 3, (0, 0, 0))]
theorem K269_6 : zRk 269 B269_6 = true := zRw_ok (by decide +kernel)
noncomputable def B269_7 : List zRow := [(20, .ifCond .eq 8, 3, (0, 0, 0))]
theorem K269_7 : zRk 269 B269_7 = true := zRw_ok (by decide +kernel)
noncomputable def B269_8 : List zRow := [(9, .bipush 7, 2, (0, 0, 0)), (11, .goto 32, 3, (0, 0, 0))]
theorem K269_8 : zRk 269 B269_8 = true := zRw_ok (by decide +kernel)
noncomputable def B269_9 : List zRow := [(6, .ifCond .eq 8, 3, (0, 0, 0))]
theorem K269_9 : zRk 269 B269_9 = true := zRw_ok (by decide +kernel)
noncomputable def B269_10 : List zRow := [(70, .aload_n 0, 1, (0, 0, 0))]
theorem K269_10 : zRk 269 B269_10 = true := zRw_ok (by decide +kernel)
noncomputable def B269_11 : List zRow := [(74, .aload_n 0, 1, (0, 0, 0))]
theorem K269_11 : zRk 269 B269_11 = true := zRw_ok (by decide +kernel)
noncomputable def B269_12 : List zRow := [(87, .aload_n 0, 1, (0, 0, 0)), (88, .getfield 28, 3, (12, 19, 5505074)), (91, .bipush 6, 2, (0, 0, 0)), (93, .aload_n 0, 1, (0, 0, 0)), (94, .getfield 13, 3, (12, 14, 5251442)), (97, .iconst 3, 1, (0, 0, 0)), (98, .iaload, 1, (0, 0, 0)), (99, .aload_n 0, 1, (0, 0, 0)), (100, .getfield 120, 3, (12, 12, 1))]
theorem K269_12 : zRk 269 B269_12 = true := zRw_ok (by decide +kernel)
noncomputable def B269_13 : List zRow := [(118, .aload_n 0, 1, (0, 0, 0))]
theorem K269_13 : zRk 269 B269_13 = true := zRw_ok (by decide +kernel)
noncomputable def B269_14 : List zRow := [(122, .aload_n 0, 1, (0, 0, 0)), (123, .iconst 0, 1, (0, 0, 0)), (124, .bipush 29, 2, (0, 0, 0))]
theorem K269_14 : zRk 269 B269_14 = true := zRw_ok (by decide +kernel)
noncomputable def B269_15 : List zRow := [(134, .aload_n 0, 1, (0, 0, 0)), (135, .getfield 155, 3, (12, 13, 0)), (138, .istore_n 3, 1, (0, 0, 0)), (139, .aload_n 0, 1, (0, 0, 0))]
theorem K269_15 : zRk 269 B269_15 = true := zRw_ok (by decide +kernel)
noncomputable def B269_16 : List zRow := [(148, .aload_n 0, 1, (0, 0, 0)), (149, .iload_n 3, 1, (0, 0, 0))]
theorem K269_16 : zRk 269 B269_16 = true := zRw_ok (by decide +kernel)
noncomputable def B269_17 : List zRow := [(197, .aload_n 0, 1, (0, 0, 0)), (198, .iload_n 3, 1, (0, 0, 0)), (199, .bipush 7, 2, (0, 0, 0))]
theorem K269_17 : zRk 269 B269_17 = true := zRw_ok (by decide +kernel)
noncomputable def B269_18 : List zRow := [(204, .iload_n 2, 1, (0, 0, 0))]
theorem K269_18 : zRk 269 B269_18 = true := zRw_ok (by decide +kernel)
noncomputable def B269_19 : List zRow := [(208, .ifCond .eq 7, 3, (0, 0, 0))]
theorem K269_19 : zRk 269 B269_19 = true := zRw_ok (by decide +kernel)
noncomputable def B269_20 : List zRow := [(184, .aload_n 0, 1, (0, 0, 0)), (185, .iload_n 3, 1, (0, 0, 0)), (186, .iconst 1, 1, (0, 0, 0))]
theorem K269_20 : zRk 269 B269_20 = true := zRw_ok (by decide +kernel)
noncomputable def B269_21 : List zRow := [(194, .goto 17, 3, (0, 0, 0))]
theorem K269_21 : zRk 269 B269_21 = true := zRw_ok (by decide +kernel)
noncomputable def B269_22 : List zRow := [(190, .iload_n 2, 1, (0, 0, 0)), (191, .if_icmp .ne 24, 3, (0, 0, 0))]
theorem K269_22 : zRk 269 B269_22 = true := zRw_ok (by decide +kernel)
noncomputable def B269_23 : List zRow := [(178, .iload_n 1, 1, (0, 0, 0)), (179, .bipush 8, 2, (0, 0, 0)), (181, .if_icmp .ne 16, 3, (0, 0, 0))]
theorem K269_23 : zRk 269 B269_23 = true := zRw_ok (by decide +kernel)
noncomputable def B269_24 : List zRow := [(162, .aload_n 0, 1, (0, 0, 0)), (163, .iload_n 3, 1, (0, 0, 0)), (164, .iconst 5, 1, (0, 0, 0))]
theorem K269_24 : zRk 269 B269_24 = true := zRw_ok (by decide +kernel)
noncomputable def B269_25 : List zRow := [(168, .iload_n 2, 1, (0, 0, 0))]
theorem K269_25 : zRk 269 B269_25 = true := zRw_ok (by decide +kernel)
noncomputable def B269_26 : List zRow := [(175, .goto 36, 3, (0, 0, 0))]
theorem K269_26 : zRk 269 B269_26 = true := zRw_ok (by decide +kernel)
noncomputable def B269_27 : List zRow := [(172, .ifCond .eq 43, 3, (0, 0, 0))]
theorem K269_27 : zRk 269 B269_27 = true := zRw_ok (by decide +kernel)
noncomputable def B269_28 : List zRow := [(156, .iload_n 1, 1, (0, 0, 0)), (157, .bipush 7, 2, (0, 0, 0)), (159, .if_icmp .ne 19, 3, (0, 0, 0))]
theorem K269_28 : zRk 269 B269_28 = true := zRw_ok (by decide +kernel)
noncomputable def B269_29 : List zRow := [(153, .ifCond .eq 62, 3, (0, 0, 0))]
theorem K269_29 : zRk 269 B269_29 = true := zRw_ok (by decide +kernel)
noncomputable def B269_30 : List zRow := [(146, .iconst 0, 1, (0, 0, 0))]
theorem K269_30 : zRk 269 B269_30 = true := zRw_ok (by decide +kernel)
noncomputable def B269_31 : List zRow := [(143, .ifCond .ne 5, 3, (0, 0, 0))]
theorem K269_31 : zRk 269 B269_31 = true := zRw_ok (by decide +kernel)
noncomputable def B269_32 : List zRow := [(132, .iconst 0, 1, (0, 0, 0))]
theorem K269_32 : zRk 269 B269_32 = true := zRw_ok (by decide +kernel)
noncomputable def B269_33 : List zRow := [(129, .ifCond .ne 5, 3, (0, 0, 0))]
theorem K269_33 : zRk 269 B269_33 = true := zRw_ok (by decide +kernel)
noncomputable def B269_34 : List zRow := [(112, .aload_n 0, 1, (0, 0, 0)), (113, .iconst 3, 1, (0, 0, 0))]
theorem K269_34 : zRk 269 B269_34 = true := zRw_ok (by decide +kernel)
noncomputable def B269_35 : List zRow := [(106, .istore_n 2, 1, (0, 0, 0)), (107, .iload_n 2, 1, (0, 0, 0)), (108, .iconst (-1), 1, (0, 0, 0)), (109, .if_icmp .ne 9, 3, (0, 0, 0))]
theorem K269_35 : zRk 269 B269_35 = true := zRw_ok (by decide +kernel)
noncomputable def B269_36 : List zRow := [(81, .aload_n 0, 1, (0, 0, 0)), (82, .iconst 1, 1, (0, 0, 0))]
theorem K269_36 : zRk 269 B269_36 = true := zRw_ok (by decide +kernel)
noncomputable def B269_37 : List zRow := [(78, .ifCond .ne 9, 3, (0, 0, 0))]
theorem K269_37 : zRk 269 B269_37 = true := zRw_ok (by decide +kernel)
noncomputable def B269_38 : List zRow := [(64, .aload_n 0, 1, (0, 0, 0)), (65, .iconst 4, 1, (0, 0, 0))]
theorem K269_38 : zRk 269 B269_38 = true := zRw_ok (by decide +kernel)
noncomputable def B269_39 : List zRow := [(55, .aload_n 0, 1, (0, 0, 0)), (56, .getfield 360, 3, (12, 36, 0)), (59, .bipush 30, 2, (0, 0, 0)), (61, .if_icmp .ne 9, 3, (0, 0, 0))]
theorem K269_39 : zRk 269 B269_39 = true := zRw_ok (by decide +kernel)
noncomputable def B269_40 : List zRow := [(49, .aload_n 0, 1, (0, 0, 0)), (50, .iconst 1, 1, (0, 0, 0))]
theorem K269_40 : zRk 269 B269_40 = true := zRw_ok (by decide +kernel)
noncomputable def B269_41 : List zRow := [(43, .istore_n 1, 1, (0, 0, 0)), (44, .iload_n 1, 1, (0, 0, 0)), (45, .iconst (-1), 1, (0, 0, 0)), (46, .if_icmp .ne 9, 3, (0, 0, 0))]
theorem K269_41 : zRk 269 B269_41 = true := zRw_ok (by decide +kernel)
noncomputable def B269_42 : List zRow := [(211, .iconst 1, 1, (0, 0, 0)), (212, .goto 4, 3, (0, 0, 0))]
theorem K269_42 : zRk 269 B269_42 = true := zRw_ok (by decide +kernel)
noncomputable def B269_43 : List zRow := [(231, .aload_n 0, 1, (0, 0, 0)), (232, .aload_n 0, 1, (0, 0, 0)), (233, .getfield 360, 3, (12, 36, 0)), (236, .putfield 363, 3, (12, 37, 0))]
theorem K269_43 : zRk 269 B269_43 = true := zRw_ok (by decide +kernel)
noncomputable def B269_44 : List zRow := [(223, .aload_n 0, 1, (0, 0, 0)), (224, .getfield 363, 3, (12, 37, 0)), (227, .iconst (-1), 1, (0, 0, 0)), (228, .if_icmp .ne 11, 3, (0, 0, 0))]
theorem K269_44 : zRk 269 B269_44 = true := zRw_ok (by decide +kernel)
noncomputable def B269_45 : List zRow := [(216, .istore 4, 2, (0, 0, 0)), (218, .iload 4, 2, (0, 0, 0)), (220, .ifCond .ne 19, 3, (0, 0, 0))]
theorem K269_45 : zRk 269 B269_45 = true := zRw_ok (by decide +kernel)
noncomputable def B269_46 : List zRow := [(239, .aload_n 0, 1, (0, 0, 0)), (240, .dup, 1, (0, 0, 0)), (241, .getfield 360, 3, (12, 36, 0)), (244, .iconst 1, 1, (0, 0, 0)), (245, .iadd, 1, (0, 0, 0)), (246, .putfield 360, 3, (12, 36, 0)), (249, .iconst 1, 1, (0, 0, 0))]
theorem K269_46 : zRk 269 B269_46 = true := zRw_ok (by decide +kernel)
noncomputable def B269_47 : List zRow := [(215, .iconst 0, 1, (0, 0, 0))]
theorem K269_47 : zRk 269 B269_47 = true := zRw_ok (by decide +kernel)
noncomputable def B268_0 : List zRow := [(0, .aload_n 0, 1, (0, 0, 0)), (1, .sipush 300, 3, (0, 0, 0))]
theorem K268_0 : zRk 268 B268_0 = true := zRw_ok (by decide +kernel)
noncomputable def B268_1 : List zRow := [(7, .aload_n 0, 1, (0, 0, 0)), (8, .iconst 0, 1, (0, 0, 0)), (9, .putfield 360, 3, (12, 36, 0)), (12, .aload_n 0, 1, (0, 0, 0)), (13, .iconst (-1), 1, (0, 0, 0)), (14, .putfield 363, 3, (12, 37, 0))]
theorem K268_1 : zRk 268 B268_1 = true := zRw_ok (by decide +kernel)
noncomputable def B268_2 : List zRow := [(39, .aload_n 0, 1, (0, 0, 0)), (40, .getfield 363, 3, (12, 37, 0))]
theorem K268_2 : zRk 268 B268_2 = true := zRw_ok (by decide +kernel)
noncomputable def B268_3 : List zRow := [(24, .aload_n 0, 1, (0, 0, 0))]
theorem K268_3 : zRk 268 B268_3 = true := zRw_ok (by decide +kernel)
noncomputable def B268_4 : List zRow := [(31, .bipush (-2), 2, (0, 0, 0)), (33, .aload_n 0, 1, (0, 0, 0)), (34, .getfield 145, 3, (12, 11, 0))]
theorem K268_4 : zRk 268 B268_4 = true := zRw_ok (by decide +kernel)
noncomputable def B268_5 : List zRow := [(37, .isub, 1, (0, 0, 0))]
theorem K268_5 : zRk 268 B268_5 = true := zRw_ok (by decide +kernel)
noncomputable def B268_6 : List zRow := [(28, .ifCond .ne (-11), 3, (0, 0, 0))]
theorem K268_6 : zRk 268 B268_6 = true := zRw_ok (by decide +kernel)
noncomputable def B268_7 : List zRow := [(17, .aload_n 0, 1, (0, 0, 0)), (18, .getfield 107, 3, (12, 7, 0)), (21, .ifCond .eq 18, 3, (0, 0, 0))]
theorem K268_7 : zRk 268 B268_7 = true := zRw_ok (by decide +kernel)
noncomputable def B135_0 : List zRow := [(24, .aload_n 0, 1, (0, 0, 0))]
theorem K135_0 : zRk 135 B135_0 = true := zRw_ok (by decide +kernel)
noncomputable def B135_1 : List zRow := [(25, .getfield 9, 3, (2, 2, 0)), (28, .bipush 8, 2, (0, 0, 0)), (30, .iushr, 1, (0, 0, 0)), (31, .iload_n 1, 1, (0, 0, 0)), (32, .irem, 1, (0, 0, 0))]
theorem K135_1 : zRk 135 B135_1 = true := zRw_ok (by decide +kernel)
noncomputable def B135_2 : List zRow := [(20, .iconst 0, 1, (0, 0, 0)), (21, .goto 12, 3, (0, 0, 0))]
theorem K135_2 : zRk 135 B135_2 = true := zRw_ok (by decide +kernel)
noncomputable def B135_3a : List zRow := [(0, .aload_n 0, 1, (0, 0, 0)), (1, .aload_n 0, 1, (0, 0, 0)), (2, .getfield 9, 3, (2, 2, 0)), (5, .ldc 15, 2, (0, 0, 1103515245)), (7, .imul, 1, (0, 0, 0)), (8, .sipush 12345, 3, (0, 0, 0)), (11, .iadd, 1, (0, 0, 0))]
theorem K135_3a : zRk 135 B135_3a = true := zRw_ok (by decide +kernel)
noncomputable def B135_3b : List zRow := [(12, .putfield 9, 3, (2, 2, 0)), (15, .iload_n 1, 1, (0, 0, 0)), (16, .iconst 1, 1, (0, 0, 0)), (17, .if_icmp .ge 7, 3, (0, 0, 0))]
theorem K135_3b : zRk 135 B135_3b = true := zRw_ok (by decide +kernel)
noncomputable def B136_0 : List zRow := [(0, .aload_n 0, 1, (0, 0, 0)), (1, .aload_n 1, 1, (0, 0, 0)), (2, .getfield 39, 3, (9, 3, 0))]
theorem K136_0 : zRk 136 B136_0 = true := zRw_ok (by decide +kernel)
noncomputable def B136_1 : List zRow := [(8, .istore_n 3, 1, (0, 0, 0)), (9, .aload_n 0, 1, (0, 0, 0)), (10, .bipush 99, 2, (0, 0, 0))]
theorem K136_1 : zRk 136 B136_1 = true := zRw_ok (by decide +kernel)
noncomputable def B136_2 : List zRow := [(15, .iconst 1, 1, (0, 0, 0)), (16, .iadd, 1, (0, 0, 0)), (17, .istore 4, 2, (0, 0, 0)), (19, .aload_n 0, 1, (0, 0, 0)), (20, .bipush 9, 2, (0, 0, 0))]
theorem K136_2 : zRk 136 B136_2 = true := zRw_ok (by decide +kernel)
noncomputable def B136_3 : List zRow := [(37, .aload_n 2, 1, (0, 0, 0))]
theorem K136_3 : zRk 136 B136_3 = true := zRw_ok (by decide +kernel)
noncomputable def B136_4 : List zRow := [(44, .aload_n 2, 1, (0, 0, 0)), (45, .aload_n 1, 1, (0, 0, 0)), (46, .iload_n 3, 1, (0, 0, 0)), (47, .iload 4, 2, (0, 0, 0)), (49, .iload 5, 2, (0, 0, 0))]
theorem K136_4 : zRk 136 B136_4 = true := zRw_ok (by decide +kernel)
noncomputable def B136_5 : List zRow := [(54, .pop, 1, (0, 0, 0)), (55, .aload_n 0, 1, (0, 0, 0)), (56, .dup, 1, (0, 0, 0)), (57, .getfield 19, 3, (2, 1, 0)), (60, .iconst 1, 1, (0, 0, 0)), (61, .iadd, 1, (0, 0, 0)), (62, .putfield 19, 3, (2, 1, 0))]
theorem K136_5 : zRk 136 B136_5 = true := zRw_ok (by decide +kernel)
noncomputable def B136_6 : List zRow := [(41, .ifCond .ne 24, 3, (0, 0, 0))]
theorem K136_6 : zRk 136 B136_6 = true := zRw_ok (by decide +kernel)
noncomputable def B136_7 : List zRow := [(25, .iconst 1, 1, (0, 0, 0)), (26, .iadd, 1, (0, 0, 0)), (27, .istore 5, 2, (0, 0, 0)), (29, .iload_n 3, 1, (0, 0, 0)), (30, .aload_n 1, 1, (0, 0, 0)), (31, .getfield 39, 3, (9, 3, 0)), (34, .if_icmp .ge 31, 3, (0, 0, 0))]
theorem K136_7 : zRk 136 B136_7 = true := zRw_ok (by decide +kernel)
noncomputable def B134_0 : List zRow := [(0, .aload_n 0, 1, (0, 0, 0)), (1, .iload 4, 2, (0, 0, 0)), (3, .putfield 9, 3, (2, 2, 0)), (6, .aload_n 0, 1, (0, 0, 0)), (7, .iconst 0, 1, (0, 0, 0)), (8, .putfield 16, 3, (2, 0, 0)), (11, .aload_n 0, 1, (0, 0, 0)), (12, .iconst 0, 1, (0, 0, 0)), (13, .putfield 19, 3, (2, 1, 0)), (16, .iconst 0, 1, (0, 0, 0)), (17, .istore 5, 2, (0, 0, 0))]
theorem K134_0 : zRk 134 B134_0 = true := zRw_ok (by decide +kernel)
noncomputable def B134_1 : List zRow := [(90, .iload 5, 2, (0, 0, 0))]
theorem K134_1 : zRk 134 B134_1 = true := zRw_ok (by decide +kernel)
noncomputable def B134_2 : List zRow := [(35, .iconst 0, 1, (0, 0, 0)), (36, .istore 6, 2, (0, 0, 0)), (38, .aload_n 0, 1, (0, 0, 0)), (39, .iconst 4, 1, (0, 0, 0))]
theorem K134_2 : zRk 134 B134_2 = true := zRw_ok (by decide +kernel)
noncomputable def B134_3 : List zRow := [(46, .aload_n 0, 1, (0, 0, 0)), (47, .iconst 5, 1, (0, 0, 0))]
theorem K134_3 : zRk 134 B134_3 = true := zRw_ok (by decide +kernel)
noncomputable def B134_4 : List zRow := [(51, .istore 6, 2, (0, 0, 0)), (53, .aload_n 0, 1, (0, 0, 0)), (54, .dup, 1, (0, 0, 0)), (55, .getfield 16, 3, (2, 0, 0)), (58, .iconst 1, 1, (0, 0, 0)), (59, .iadd, 1, (0, 0, 0)), (60, .putfield 16, 3, (2, 0, 0))]
theorem K134_4 : zRk 134 B134_4 = true := zRw_ok (by decide +kernel)
noncomputable def B134_5 : List zRow := [(43, .ifCond .ne 20, 3, (0, 0, 0))]
theorem K134_5 : zRk 134 B134_5 = true := zRw_ok (by decide +kernel)
noncomputable def B134_6 : List zRow := [(25, .aload_n 2, 1, (0, 0, 0)), (26, .getfield 22, 3, (1, 0, 0)), (29, .sipush 400, 3, (0, 0, 0)), (32, .if_icmp .ge 58, 3, (0, 0, 0))]
theorem K134_6 : zRk 134 B134_6 = true := zRw_ok (by decide +kernel)
noncomputable def B134_7 : List zRow := [(19, .iload 5, 2, (0, 0, 0)), (21, .iload_n 3, 1, (0, 0, 0)), (22, .if_icmp .ge 68, 3, (0, 0, 0))]
theorem K134_7 : zRk 134 B134_7 = true := zRw_ok (by decide +kernel)
noncomputable def B134_8 : List zRow := [(63, .aload_n 2, 1, (0, 0, 0)), (64, .aload_n 1, 1, (0, 0, 0)), (65, .iload 6, 2, (0, 0, 0))]
theorem K134_8 : zRk 134 B134_8 = true := zRw_ok (by decide +kernel)
noncomputable def B134_9 : List zRow := [(70, .aload_n 0, 1, (0, 0, 0)), (71, .iconst 3, 1, (0, 0, 0))]
theorem K134_9 : zRk 134 B134_9 = true := zRw_ok (by decide +kernel)
noncomputable def B134_10 : List zRow := [(78, .aload_n 0, 1, (0, 0, 0)), (79, .aload_n 1, 1, (0, 0, 0)), (80, .aload_n 2, 1, (0, 0, 0))]
theorem K134_10 : zRk 134 B134_10 = true := zRw_ok (by decide +kernel)
noncomputable def B134_11 : List zRow := [(75, .ifCond .ne 9, 3, (0, 0, 0))]
theorem K134_11 : zRk 134 B134_11 = true := zRw_ok (by decide +kernel)
noncomputable def B134_12 : List zRow := [(84, .iinc 5 1, 3, (0, 0, 0)), (87, .goto (-68), 3, (0, 0, 0))]
theorem K134_12 : zRk 134 B134_12 = true := zRw_ok (by decide +kernel)
noncomputable def B133_0 : List zRow := [(21, .iconst (-1), 1, (0, 0, 0))]
theorem K133_0 : zRk 133 B133_0 = true := zRw_ok (by decide +kernel)
noncomputable def B133_1 : List zRow := [(36, .aload_n 0, 1, (0, 0, 0)), (37, .getfield 66, 3, (11, 8, 35)), (40, .aload_n 0, 1, (0, 0, 0)), (41, .getfield 56, 3, (11, 6, 7))]
theorem K133_1 : zRk 133 B133_1 = true := zRw_ok (by decide +kernel)
noncomputable def B133_2 : List zRow := [(23, .aload_n 0, 1, (0, 0, 0)), (24, .getfield 56, 3, (11, 6, 7)), (27, .getfield 159, 3, (1, 0, 0)), (30, .sipush 400, 3, (0, 0, 0)), (33, .if_icmp .ge 14, 3, (0, 0, 0))]
theorem K133_2 : zRk 133 B133_2 = true := zRw_ok (by decide +kernel)
noncomputable def B133_3 : List zRow := [(11, .aload_n 0, 1, (0, 0, 0)), (12, .getfield 19, 3, (11, 1, 39)), (15, .getfield 311, 3, (9, 3, 0)), (18, .ifCond .ne 5, 3, (0, 0, 0))]
theorem K133_3 : zRk 133 B133_3 = true := zRw_ok (by decide +kernel)
noncomputable def B133_4 : List zRow := [(5, .iload_n 1, 1, (0, 0, 0)), (6, .bipush 100, 2, (0, 0, 0)), (8, .if_icmp .gt 13, 3, (0, 0, 0))]
theorem K133_4 : zRk 133 B133_4 = true := zRw_ok (by decide +kernel)
noncomputable def B133_5 : List zRow := [(0, .iload_n 1, 1, (0, 0, 0)), (1, .iconst 1, 1, (0, 0, 0)), (2, .if_icmp .lt 19, 3, (0, 0, 0))]
theorem K133_5 : zRk 133 B133_5 = true := zRw_ok (by decide +kernel)
noncomputable def B133_6 : List zRow := [(47, .aload_n 0, 1, (0, 0, 0)), (48, .getfield 87, 3, (11, 11, 11)), (51, .aload_n 0, 1, (0, 0, 0)), (52, .getfield 19, 3, (11, 1, 39)), (55, .aload_n 0, 1, (0, 0, 0)), (56, .getfield 56, 3, (11, 6, 7)), (59, .iload_n 1, 1, (0, 0, 0)), (60, .iload_n 2, 1, (0, 0, 0))]
theorem K133_6 : zRk 133 B133_6 = true := zRw_ok (by decide +kernel)
noncomputable def B133_7 : List zRow := [(64, .istore_n 3, 1, (0, 0, 0)), (65, .aload_n 0, 1, (0, 0, 0)), (66, .aload_n 0, 1, (0, 0, 0)), (67, .getfield 87, 3, (11, 11, 11)), (70, .getfield 317, 3, (2, 0, 0)), (73, .putfield 98, 3, (11, 15, 0)), (76, .aload_n 0, 1, (0, 0, 0)), (77, .aload_n 0, 1, (0, 0, 0)), (78, .getfield 87, 3, (11, 11, 11)), (81, .getfield 320, 3, (2, 1, 0)), (84, .putfield 102, 3, (11, 16, 0)), (87, .iload_n 3, 1, (0, 0, 0))]
theorem K133_7 : zRk 133 B133_7 = true := zRw_ok (by decide +kernel)
noncomputable def B272_0a : List zRow := [(0, .aload_n 0, 1, (0, 0, 0)), (1, .aload_n 0, 1, (0, 0, 0)), (2, .getfield 369, 3, (12, 38, 0)), (5, .ldc_w 372, 3, (0, 0, 1103515245)), (8, .imul, 1, (0, 0, 0)), (9, .sipush 12345, 3, (0, 0, 0)), (12, .iadd, 1, (0, 0, 0))]
theorem K272_0a : zRk 272 B272_0a = true := zRw_ok (by decide +kernel)
noncomputable def B272_0b : List zRow := [(13, .putfield 369, 3, (12, 38, 0)), (16, .aload_n 0, 1, (0, 0, 0))]
theorem K272_0b : zRk 272 B272_0b = true := zRw_ok (by decide +kernel)
noncomputable def B272_1 : List zRow := [(17, .getfield 369, 3, (12, 38, 0)), (20, .bipush 8, 2, (0, 0, 0)), (22, .iushr, 1, (0, 0, 0)), (23, .iload_n 1, 1, (0, 0, 0)), (24, .irem, 1, (0, 0, 0))]
theorem K272_1 : zRk 272 B272_1 = true := zRw_ok (by decide +kernel)
noncomputable def B271_0 : List zRow := [(0, .aload_n 0, 1, (0, 0, 0)), (1, .iload_n 2, 1, (0, 0, 0)), (2, .putfield 369, 3, (12, 38, 0)), (5, .aload_n 0, 1, (0, 0, 0)), (6, .iconst 0, 1, (0, 0, 0)), (7, .putfield 373, 3, (12, 39, 0)), (10, .aload_n 0, 1, (0, 0, 0)), (11, .iconst 0, 1, (0, 0, 0)), (12, .putfield 376, 3, (12, 40, 0)), (15, .iconst 0, 1, (0, 0, 0)), (16, .istore_n 3, 1, (0, 0, 0))]
theorem K271_0 : zRk 271 B271_0 = true := zRw_ok (by decide +kernel)
noncomputable def B271_1 : List zRow := [(156, .iload_n 3, 1, (0, 0, 0))]
theorem K271_1 : zRk 271 B271_1 = true := zRw_ok (by decide +kernel)
noncomputable def B271_2 : List zRow := [(36, .iconst 0, 1, (0, 0, 0)), (37, .istore 4, 2, (0, 0, 0)), (39, .aload_n 0, 1, (0, 0, 0)), (40, .iconst 4, 1, (0, 0, 0))]
theorem K271_2 : zRk 271 B271_2 = true := zRw_ok (by decide +kernel)
noncomputable def B271_3 : List zRow := [(47, .aload_n 0, 1, (0, 0, 0)), (48, .iconst 5, 1, (0, 0, 0))]
theorem K271_3 : zRk 271 B271_3 = true := zRw_ok (by decide +kernel)
noncomputable def B271_4 : List zRow := [(52, .istore 4, 2, (0, 0, 0)), (54, .aload_n 0, 1, (0, 0, 0)), (55, .dup, 1, (0, 0, 0)), (56, .getfield 373, 3, (12, 39, 0)), (59, .iconst 1, 1, (0, 0, 0)), (60, .iadd, 1, (0, 0, 0)), (61, .putfield 373, 3, (12, 39, 0))]
theorem K271_4 : zRk 271 B271_4 = true := zRw_ok (by decide +kernel)
noncomputable def B271_5 : List zRow := [(44, .ifCond .ne 20, 3, (0, 0, 0))]
theorem K271_5 : zRk 271 B271_5 = true := zRw_ok (by decide +kernel)
noncomputable def B271_6 : List zRow := [(22, .aload_n 0, 1, (0, 0, 0)), (23, .getfield 13, 3, (12, 14, 5251442)), (26, .sipush 209, 3, (0, 0, 0)), (29, .iaload, 1, (0, 0, 0)), (30, .sipush 400, 3, (0, 0, 0)), (33, .if_icmp .ge 123, 3, (0, 0, 0))]
theorem K271_6 : zRk 271 B271_6 = true := zRw_ok (by decide +kernel)
noncomputable def B271_7 : List zRow := [(17, .iload_n 3, 1, (0, 0, 0)), (18, .iload_n 1, 1, (0, 0, 0)), (19, .if_icmp .ge 137, 3, (0, 0, 0))]
theorem K271_7 : zRk 271 B271_7 = true := zRw_ok (by decide +kernel)
noncomputable def B271_8 : List zRow := [(64, .aload_n 0, 1, (0, 0, 0)), (65, .iload 4, 2, (0, 0, 0))]
theorem K271_8 : zRk 271 B271_8 = true := zRw_ok (by decide +kernel)
noncomputable def B271_9 : List zRow := [(70, .aload_n 0, 1, (0, 0, 0)), (71, .iconst 3, 1, (0, 0, 0))]
theorem K271_9 : zRk 271 B271_9 = true := zRw_ok (by decide +kernel)
noncomputable def B271_10 : List zRow := [(81, .aload_n 0, 1, (0, 0, 0)), (82, .aload_n 0, 1, (0, 0, 0)), (83, .getfield 13, 3, (12, 14, 5251442)), (86, .iconst 3, 1, (0, 0, 0)), (87, .iaload, 1, (0, 0, 0))]
theorem K271_10 : zRk 271 B271_10 = true := zRw_ok (by decide +kernel)
noncomputable def B271_11 : List zRow := [(91, .istore 5, 2, (0, 0, 0)), (93, .aload_n 0, 1, (0, 0, 0)), (94, .bipush 99, 2, (0, 0, 0))]
theorem K271_11 : zRk 271 B271_11 = true := zRw_ok (by decide +kernel)
noncomputable def B271_12 : List zRow := [(99, .iconst 1, 1, (0, 0, 0)), (100, .iadd, 1, (0, 0, 0)), (101, .istore 6, 2, (0, 0, 0)), (103, .aload_n 0, 1, (0, 0, 0)), (104, .bipush 9, 2, (0, 0, 0))]
theorem K271_12 : zRk 271 B271_12 = true := zRw_ok (by decide +kernel)
noncomputable def B271_13 : List zRow := [(129, .aload_n 0, 1, (0, 0, 0)), (130, .iload 5, 2, (0, 0, 0)), (132, .iload 6, 2, (0, 0, 0)), (134, .iload 7, 2, (0, 0, 0))]
theorem K271_13 : zRk 271 B271_13 = true := zRw_ok (by decide +kernel)
noncomputable def B271_14 : List zRow := [(139, .pop, 1, (0, 0, 0)), (140, .aload_n 0, 1, (0, 0, 0)), (141, .dup, 1, (0, 0, 0)), (142, .getfield 376, 3, (12, 40, 0)), (145, .iconst 1, 1, (0, 0, 0)), (146, .iadd, 1, (0, 0, 0)), (147, .putfield 376, 3, (12, 40, 0))]
theorem K271_14 : zRk 271 B271_14 = true := zRw_ok (by decide +kernel)
noncomputable def B271_15 : List zRow := [(126, .goto 24, 3, (0, 0, 0))]
theorem K271_15 : zRk 271 B271_15 = true := zRw_ok (by decide +kernel)
noncomputable def B271_16 : List zRow := [(109, .iconst 1, 1, (0, 0, 0)), (110, .iadd, 1, (0, 0, 0)), (111, .istore 7, 2, (0, 0, 0)), (113, .aload_n 0, 1, (0, 0, 0)), (114, .getfield 13, 3, (12, 14, 5251442)), (117, .sipush 216, 3, (0, 0, 0)), (120, .iaload, 1, (0, 0, 0)), (121, .bipush 30, 2, (0, 0, 0)), (123, .if_icmp .ne 6, 3, (0, 0, 0))]
theorem K271_16 : zRk 271 B271_16 = true := zRw_ok (by decide +kernel)
noncomputable def B271_17 : List zRow := [(78, .goto 72, 3, (0, 0, 0))]
theorem K271_17 : zRk 271 B271_17 = true := zRw_ok (by decide +kernel)
noncomputable def B271_18 : List zRow := [(75, .ifCond .eq 6, 3, (0, 0, 0))]
theorem K271_18 : zRk 271 B271_18 = true := zRw_ok (by decide +kernel)
noncomputable def B271_19 : List zRow := [(150, .iinc 3 1, 3, (0, 0, 0)), (153, .goto (-136), 3, (0, 0, 0))]
theorem K271_19 : zRk 271 B271_19 = true := zRw_ok (by decide +kernel)
noncomputable def B270_0 : List zRow := [(0, .aload_n 0, 1, (0, 0, 0)), (1, .iconst 0, 1, (0, 0, 0)), (2, .putfield 81, 3, (12, 0, 0)), (5, .iload_n 1, 1, (0, 0, 0)), (6, .iconst 1, 1, (0, 0, 0)), (7, .bipush 100, 2, (0, 0, 0))]
theorem K270_0 : zRk 270 B270_0 = true := zRw_ok (by decide +kernel)
noncomputable def B270_1 : List zRow := [(24, .iconst (-1), 1, (0, 0, 0))]
theorem K270_1 : zRk 270 B270_1 = true := zRw_ok (by decide +kernel)
noncomputable def B270_2 : List zRow := [(40, .aload_n 0, 1, (0, 0, 0))]
theorem K270_2 : zRk 270 B270_2 = true := zRw_ok (by decide +kernel)
noncomputable def B270_3 : List zRow := [(26, .aload_n 0, 1, (0, 0, 0)), (27, .getfield 13, 3, (12, 14, 5251442)), (30, .sipush 209, 3, (0, 0, 0)), (33, .iaload, 1, (0, 0, 0)), (34, .sipush 400, 3, (0, 0, 0)), (37, .if_icmp .ge 7, 3, (0, 0, 0))]
theorem K270_3 : zRk 270 B270_3 = true := zRw_ok (by decide +kernel)
noncomputable def B270_4 : List zRow := [(15, .aload_n 0, 1, (0, 0, 0)), (16, .getfield 13, 3, (12, 14, 5251442)), (19, .iconst 3, 1, (0, 0, 0)), (20, .iaload, 1, (0, 0, 0)), (21, .ifCond .ne 5, 3, (0, 0, 0))]
theorem K270_4 : zRk 270 B270_4 = true := zRw_ok (by decide +kernel)
noncomputable def B270_5 : List zRow := [(12, .ifCond .eq 12, 3, (0, 0, 0))]
theorem K270_5 : zRk 270 B270_5 = true := zRw_ok (by decide +kernel)
noncomputable def B270_6 : List zRow := [(44, .aload_n 0, 1, (0, 0, 0)), (45, .iload_n 1, 1, (0, 0, 0)), (46, .iload_n 2, 1, (0, 0, 0))]
theorem K270_6 : zRk 270 B270_6 = true := zRw_ok (by decide +kernel)
noncomputable def B270_7 : List zRow := [(50, .istore_n 3, 1, (0, 0, 0)), (51, .aload_n 0, 1, (0, 0, 0)), (52, .getfield 69, 3, (12, 41, 5242890)), (55, .iconst 0, 1, (0, 0, 0)), (56, .aload_n 0, 1, (0, 0, 0)), (57, .getfield 373, 3, (12, 39, 0)), (60, .iastore, 1, (0, 0, 0)), (61, .aload_n 0, 1, (0, 0, 0)), (62, .getfield 69, 3, (12, 41, 5242890)), (65, .iconst 1, 1, (0, 0, 0)), (66, .aload_n 0, 1, (0, 0, 0)), (67, .getfield 376, 3, (12, 40, 0)), (70, .iastore, 1, (0, 0, 0)), (71, .iload_n 3, 1, (0, 0, 0))]
theorem K270_7 : zRk 270 B270_7 = true := zRw_ok (by decide +kernel)
noncomputable def B137_0 : List zRow := [(28, .aload_n 0, 1, (0, 0, 0)), (29, .getfield 98, 3, (11, 15, 0))]
theorem K137_0 : zRk 137 B137_0 = true := zRw_ok (by decide +kernel)
noncomputable def B137_1 : List zRow := [(0, .iload_n 1, 1, (0, 0, 0)), (1, .lookupswitch 37 #[(0, 27), (1, 32)], 27, (0, 0, 0))]
theorem K137_1 : zRk 137 B137_1 = true := by decide +kernel
noncomputable def B137_2 : List zRow := [(33, .aload_n 0, 1, (0, 0, 0)), (34, .getfield 102, 3, (11, 16, 0))]
theorem K137_2 : zRk 137 B137_2 = true := zRw_ok (by decide +kernel)
noncomputable def B137_3 : List zRow := [(38, .iconst (-1), 1, (0, 0, 0))]
theorem K137_3 : zRk 137 B137_3 = true := zRw_ok (by decide +kernel)
noncomputable def B273_0 : List zRow := [(0, .aload_n 0, 1, (0, 0, 0)), (1, .iconst 0, 1, (0, 0, 0)), (2, .putfield 81, 3, (12, 0, 0)), (5, .iload_n 1, 1, (0, 0, 0)), (6, .iconst 0, 1, (0, 0, 0)), (7, .iconst 1, 1, (0, 0, 0))]
theorem K273_0 : zRk 273 B273_0 = true := zRw_ok (by decide +kernel)
noncomputable def B273_1 : List zRow := [(23, .iconst (-1), 1, (0, 0, 0))]
theorem K273_1 : zRk 273 B273_1 = true := zRw_ok (by decide +kernel)
noncomputable def B273_2 : List zRow := [(14, .aload_n 0, 1, (0, 0, 0)), (15, .getfield 69, 3, (12, 41, 5242890)), (18, .iload_n 1, 1, (0, 0, 0)), (19, .iaload, 1, (0, 0, 0)), (20, .goto 4, 3, (0, 0, 0))]
theorem K273_2 : zRk 273 B273_2 = true := zRw_ok (by decide +kernel)
noncomputable def B273_3 : List zRow := [(11, .ifCond .eq 12, 3, (0, 0, 0))]
theorem K273_3 : zRk 273 B273_3 = true := zRw_ok (by decide +kernel)
noncomputable def B138_0 : List zRow := [(0, .aload_n 0, 1, (0, 0, 0)), (1, .iload_n 1, 1, (0, 0, 0))]
theorem K138_0 : zRk 138 B138_0 = true := zRw_ok (by decide +kernel)
noncomputable def B138_1 : List zRow := [(19, .iconst (-1), 1, (0, 0, 0))]
theorem K138_1 : zRk 138 B138_1 = true := zRw_ok (by decide +kernel)
noncomputable def B138_2 : List zRow := [(21, .aload_n 0, 1, (0, 0, 0)), (22, .getfield 56, 3, (11, 6, 7)), (25, .iload_n 1, 1, (0, 0, 0))]
theorem K138_2 : zRk 138 B138_2 = true := zRw_ok (by decide +kernel)
noncomputable def B138_3 : List zRow := [(29, .istore 4, 2, (0, 0, 0)), (31, .iconst 0, 1, (0, 0, 0)), (32, .istore 5, 2, (0, 0, 0)), (34, .iconst 0, 1, (0, 0, 0)), (35, .istore 6, 2, (0, 0, 0))]
theorem K138_3 : zRk 138 B138_3 = true := zRw_ok (by decide +kernel)
noncomputable def B138_4 : List zRow := [(13, .iload_n 2, 1, (0, 0, 0)), (14, .bipush 40, 2, (0, 0, 0)), (16, .if_icmp .le 5, 3, (0, 0, 0))]
theorem K138_4 : zRk 138 B138_4 = true := zRw_ok (by decide +kernel)
noncomputable def B138_5 : List zRow := [(8, .iload_n 2, 1, (0, 0, 0)), (9, .iconst 1, 1, (0, 0, 0)), (10, .if_icmp .lt 9, 3, (0, 0, 0))]
theorem K138_5 : zRk 138 B138_5 = true := zRw_ok (by decide +kernel)
noncomputable def B138_6 : List zRow := [(5, .ifCond .eq 14, 3, (0, 0, 0))]
theorem K138_6 : zRk 138 B138_6 = true := zRw_ok (by decide +kernel)
noncomputable def B138_7 : List zRow := [(98, .iload 5, 2, (0, 0, 0))]
theorem K138_7 : zRk 138 B138_7 = true := zRw_ok (by decide +kernel)
noncomputable def B138_8 : List zRow := [(43, .aload_n 0, 1, (0, 0, 0)), (44, .getfield 60, 3, (11, 7, 135)), (47, .aload_n 0, 1, (0, 0, 0)), (48, .getfield 56, 3, (11, 6, 7))]
theorem K138_8 : zRk 138 B138_8 = true := zRw_ok (by decide +kernel)
noncomputable def B138_9 : List zRow := [(54, .aload_n 0, 1, (0, 0, 0)), (55, .getfield 87, 3, (11, 11, 11)), (58, .aload_n 0, 1, (0, 0, 0)), (59, .getfield 19, 3, (11, 1, 39)), (62, .aload_n 0, 1, (0, 0, 0)), (63, .getfield 60, 3, (11, 7, 135)), (66, .bipush 40, 2, (0, 0, 0)), (68, .iload_n 3, 1, (0, 0, 0)), (69, .iload 6, 2, (0, 0, 0)), (71, .iadd, 1, (0, 0, 0))]
theorem K138_9 : zRk 138 B138_9 = true := zRw_ok (by decide +kernel)
noncomputable def B138_10 : List zRow := [(75, .pop, 1, (0, 0, 0)), (76, .aload_n 0, 1, (0, 0, 0)), (77, .getfield 60, 3, (11, 7, 135)), (80, .iload_n 1, 1, (0, 0, 0))]
theorem K138_10 : zRk 138 B138_10 = true := zRw_ok (by decide +kernel)
noncomputable def B138_11 : List zRow := [(89, .iinc 5 1, 3, (0, 0, 0))]
theorem K138_11 : zRk 138 B138_11 = true := zRw_ok (by decide +kernel)
noncomputable def B138_12 : List zRow := [(84, .iload 4, 2, (0, 0, 0)), (86, .if_icmp .le 6, 3, (0, 0, 0))]
theorem K138_12 : zRk 138 B138_12 = true := zRw_ok (by decide +kernel)
noncomputable def B138_13 : List zRow := [(37, .iload 6, 2, (0, 0, 0)), (39, .iload_n 2, 1, (0, 0, 0)), (40, .if_icmp .ge 58, 3, (0, 0, 0))]
theorem K138_13 : zRk 138 B138_13 = true := zRw_ok (by decide +kernel)
noncomputable def B138_14 : List zRow := [(92, .iinc 6 1, 3, (0, 0, 0)), (95, .goto (-58), 3, (0, 0, 0))]
theorem K138_14 : zRk 138 B138_14 = true := zRw_ok (by decide +kernel)
noncomputable def B274_0 : List zRow := [(0, .aload_n 0, 1, (0, 0, 0)), (1, .iconst 0, 1, (0, 0, 0)), (2, .putfield 81, 3, (12, 0, 0)), (5, .aload_n 0, 1, (0, 0, 0)), (6, .iload_n 1, 1, (0, 0, 0))]
theorem K274_0 : zRk 274 B274_0 = true := zRw_ok (by decide +kernel)
noncomputable def B274_1 : List zRow := [(23, .iconst (-1), 1, (0, 0, 0))]
theorem K274_1 : zRk 274 B274_1 = true := zRw_ok (by decide +kernel)
noncomputable def B274_2 : List zRow := [(13, .iload_n 2, 1, (0, 0, 0)), (14, .iconst 1, 1, (0, 0, 0)), (15, .bipush 40, 2, (0, 0, 0))]
theorem K274_2 : zRk 274 B274_2 = true := zRw_ok (by decide +kernel)
noncomputable def B274_3 : List zRow := [(25, .aload_n 0, 1, (0, 0, 0)), (26, .iload_n 1, 1, (0, 0, 0))]
theorem K274_3 : zRk 274 B274_3 = true := zRw_ok (by decide +kernel)
noncomputable def B274_4 : List zRow := [(30, .istore 4, 2, (0, 0, 0)), (32, .iconst 0, 1, (0, 0, 0)), (33, .istore 5, 2, (0, 0, 0)), (35, .iconst 0, 1, (0, 0, 0)), (36, .istore 6, 2, (0, 0, 0))]
theorem K274_4 : zRk 274 B274_4 = true := zRw_ok (by decide +kernel)
noncomputable def B274_5 : List zRow := [(20, .ifCond .ne 5, 3, (0, 0, 0))]
theorem K274_5 : zRk 274 B274_5 = true := zRw_ok (by decide +kernel)
noncomputable def B274_6 : List zRow := [(10, .ifCond .eq 13, 3, (0, 0, 0))]
theorem K274_6 : zRk 274 B274_6 = true := zRw_ok (by decide +kernel)
noncomputable def B274_7 : List zRow := [(82, .iload 5, 2, (0, 0, 0))]
theorem K274_7 : zRk 274 B274_7 = true := zRw_ok (by decide +kernel)
noncomputable def B274_8 : List zRow := [(44, .aload_n 0, 1, (0, 0, 0))]
theorem K274_8 : zRk 274 B274_8 = true := zRw_ok (by decide +kernel)
noncomputable def B274_9 : List zRow := [(48, .aload_n 0, 1, (0, 0, 0)), (49, .bipush 40, 2, (0, 0, 0)), (51, .iload_n 3, 1, (0, 0, 0)), (52, .iload 6, 2, (0, 0, 0)), (54, .iadd, 1, (0, 0, 0))]
theorem K274_9 : zRk 274 B274_9 = true := zRw_ok (by decide +kernel)
noncomputable def B274_10 : List zRow := [(58, .pop, 1, (0, 0, 0)), (59, .aload_n 0, 1, (0, 0, 0)), (60, .iload_n 1, 1, (0, 0, 0))]
theorem K274_10 : zRk 274 B274_10 = true := zRw_ok (by decide +kernel)
noncomputable def B274_11 : List zRow := [(69, .iinc 5 1, 3, (0, 0, 0))]
theorem K274_11 : zRk 274 B274_11 = true := zRw_ok (by decide +kernel)
noncomputable def B274_12 : List zRow := [(64, .iload 4, 2, (0, 0, 0)), (66, .if_icmp .le 6, 3, (0, 0, 0))]
theorem K274_12 : zRk 274 B274_12 = true := zRw_ok (by decide +kernel)
noncomputable def B274_13 : List zRow := [(38, .iload 6, 2, (0, 0, 0)), (40, .iload_n 2, 1, (0, 0, 0)), (41, .if_icmp .ge 41, 3, (0, 0, 0))]
theorem K274_13 : zRk 274 B274_13 = true := zRw_ok (by decide +kernel)
noncomputable def B274_14 : List zRow := [(72, .aload_n 0, 1, (0, 0, 0))]
theorem K274_14 : zRk 274 B274_14 = true := zRw_ok (by decide +kernel)
noncomputable def B274_15 : List zRow := [(76, .iinc 6 1, 3, (0, 0, 0)), (79, .goto (-41), 3, (0, 0, 0))]
theorem K274_15 : zRk 274 B274_15 = true := zRw_ok (by decide +kernel)
