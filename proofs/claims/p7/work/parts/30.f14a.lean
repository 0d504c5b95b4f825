noncomputable def B159_0 : List zRow := [(45, .iconst 0, 1, (0, 0, 0))]
theorem K159_0 : zRk 159 B159_0 = true := zRw_ok (by decide +kernel)
noncomputable def B159_1 : List zRow := [(41, .iconst 1, 1, (0, 0, 0)), (42, .goto 4, 3, (0, 0, 0))]
theorem K159_1 : zRk 159 B159_1 = true := zRw_ok (by decide +kernel)
noncomputable def B159_2 : List zRow := [(36, .iload_n 0, 1, (0, 0, 0)), (37, .iload_n 2, 1, (0, 0, 0)), (38, .if_icmp .ne 7, 3, (0, 0, 0))]
theorem K159_2 : zRk 159 B159_2 = true := zRw_ok (by decide +kernel)
noncomputable def B159_3 : List zRow := [(32, .iconst 0, 1, (0, 0, 0)), (33, .goto 13, 3, (0, 0, 0))]
theorem K159_3 : zRk 159 B159_3 = true := zRw_ok (by decide +kernel)
noncomputable def B159_4 : List zRow := [(28, .iconst 1, 1, (0, 0, 0)), (29, .goto 17, 3, (0, 0, 0))]
theorem K159_4 : zRk 159 B159_4 = true := zRw_ok (by decide +kernel)
noncomputable def B159_5 : List zRow := [(23, .iload_n 0, 1, (0, 0, 0)), (24, .iload_n 2, 1, (0, 0, 0)), (25, .if_icmp .le 7, 3, (0, 0, 0))]
theorem K159_5 : zRk 159 B159_5 = true := zRw_ok (by decide +kernel)
noncomputable def B159_6 : List zRow := [(17, .iload_n 1, 1, (0, 0, 0)), (18, .bipush 62, 2, (0, 0, 0)), (20, .if_icmp .ne 16, 3, (0, 0, 0))]
theorem K159_6 : zRk 159 B159_6 = true := zRw_ok (by decide +kernel)
noncomputable def B159_7 : List zRow := [(15, .iconst 0, 1, (0, 0, 0))]
theorem K159_7 : zRk 159 B159_7 = true := zRw_ok (by decide +kernel)
noncomputable def B159_8 : List zRow := [(11, .iconst 1, 1, (0, 0, 0)), (12, .goto 4, 3, (0, 0, 0))]
theorem K159_8 : zRk 159 B159_8 = true := zRw_ok (by decide +kernel)
noncomputable def B159_9 : List zRow := [(6, .iload_n 0, 1, (0, 0, 0)), (7, .iload_n 2, 1, (0, 0, 0)), (8, .if_icmp .ge 7, 3, (0, 0, 0))]
theorem K159_9 : zRk 159 B159_9 = true := zRw_ok (by decide +kernel)
noncomputable def B159_10 : List zRow := [(0, .iload_n 1, 1, (0, 0, 0)), (1, .bipush 60, 2, (0, 0, 0)), (3, .if_icmp .ne 14, 3, (0, 0, 0))]
theorem K159_10 : zRk 159 B159_10 = true := zRw_ok (by decide +kernel)
noncomputable def B158_0 : List zRow := [(72, .aload_n 1, 1, (0, 0, 0)), (73, .iload_n 2, 1, (0, 0, 0)), (74, .bipush 6, 2, (0, 0, 0))]
theorem K158_0 : zRk 158 B158_0 = true := zRw_ok (by decide +kernel)
noncomputable def B158_1 : List zRow := [(94, .iconst 0, 1, (0, 0, 0))]
theorem K158_1 : zRk 158 B158_1 = true := zRw_ok (by decide +kernel)
noncomputable def B158_2 : List zRow := [(82, .aload_n 1, 1, (0, 0, 0)), (83, .iload_n 2, 1, (0, 0, 0))]
theorem K158_2 : zRk 158 B158_2 = true := zRw_ok (by decide +kernel)
noncomputable def B158_3 : List zRow := [(90, .iconst 1, 1, (0, 0, 0)), (91, .goto 4, 3, (0, 0, 0))]
theorem K158_3 : zRk 158 B158_3 = true := zRw_ok (by decide +kernel)
noncomputable def B158_4 : List zRow := [(87, .ifCond .ne 7, 3, (0, 0, 0))]
theorem K158_4 : zRk 158 B158_4 = true := zRw_ok (by decide +kernel)
noncomputable def B158_5 : List zRow := [(79, .ifCond .ne 15, 3, (0, 0, 0))]
theorem K158_5 : zRk 158 B158_5 = true := zRw_ok (by decide +kernel)
noncomputable def B158_6 : List zRow := [(0, .aload_n 0, 1, (0, 0, 0)), (1, .getfield 9, 3, (6, 2, 5243362)), (4, .iload_n 3, 1, (0, 0, 0)), (5, .iconst 1, 1, (0, 0, 0)), (6, .iadd, 1, (0, 0, 0)), (7, .iaload, 1, (0, 0, 0)), (8, .istore 4, 2, (0, 0, 0)), (10, .aload_n 0, 1, (0, 0, 0)), (11, .getfield 9, 3, (6, 2, 5243362)), (14, .iload_n 3, 1, (0, 0, 0)), (15, .iconst 2, 1, (0, 0, 0)), (16, .iadd, 1, (0, 0, 0)), (17, .iaload, 1, (0, 0, 0)), (18, .istore 5, 2, (0, 0, 0)), (20, .aload_n 0, 1, (0, 0, 0)), (21, .getfield 9, 3, (6, 2, 5243362)), (24, .iload_n 3, 1, (0, 0, 0)), (25, .iaload, 1, (0, 0, 0)), (26, .tableswitch 175 13 20 #[46, 70, 89, 101, 118, 132, 146, 160], 46, (0, 0, 0))]
theorem K158_6 : zRk 158 B158_6 = true := by decide +kernel
noncomputable def B158_7 : List zRow := [(96, .aload_n 1, 1, (0, 0, 0)), (97, .iload_n 2, 1, (0, 0, 0)), (98, .iconst 5, 1, (0, 0, 0))]
theorem K158_7 : zRk 158 B158_7 = true := zRw_ok (by decide +kernel)
noncomputable def B158_8 : List zRow := [(113, .iconst 0, 1, (0, 0, 0))]
theorem K158_8 : zRk 158 B158_8 = true := zRw_ok (by decide +kernel)
noncomputable def B158_9 : List zRow := [(109, .iconst 1, 1, (0, 0, 0)), (110, .goto 4, 3, (0, 0, 0))]
theorem K158_9 : zRk 158 B158_9 = true := zRw_ok (by decide +kernel)
noncomputable def B158_10 : List zRow := [(105, .iconst 1, 1, (0, 0, 0)), (106, .if_icmp .le 7, 3, (0, 0, 0))]
theorem K158_10 : zRk 158 B158_10 = true := zRw_ok (by decide +kernel)
noncomputable def B158_11 : List zRow := [(115, .aload_n 1, 1, (0, 0, 0)), (116, .iload_n 2, 1, (0, 0, 0)), (117, .iconst 5, 1, (0, 0, 0))]
theorem K158_11 : zRk 158 B158_11 = true := zRw_ok (by decide +kernel)
noncomputable def B158_12 : List zRow := [(121, .iload 5, 2, (0, 0, 0))]
theorem K158_12 : zRk 158 B158_12 = true := zRw_ok (by decide +kernel)
noncomputable def B158_13 : List zRow := [(127, .aload_n 1, 1, (0, 0, 0)), (128, .iload_n 2, 1, (0, 0, 0)), (129, .iconst 1, 1, (0, 0, 0))]
theorem K158_13 : zRk 158 B158_13 = true := zRw_ok (by decide +kernel)
noncomputable def B158_14 : List zRow := [(142, .iconst 0, 1, (0, 0, 0))]
theorem K158_14 : zRk 158 B158_14 = true := zRw_ok (by decide +kernel)
noncomputable def B158_15 : List zRow := [(138, .iconst 1, 1, (0, 0, 0)), (139, .goto 4, 3, (0, 0, 0))]
theorem K158_15 : zRk 158 B158_15 = true := zRw_ok (by decide +kernel)
noncomputable def B158_16 : List zRow := [(133, .iload 5, 2, (0, 0, 0)), (135, .if_icmp .ne 7, 3, (0, 0, 0))]
theorem K158_16 : zRk 158 B158_16 = true := zRw_ok (by decide +kernel)
noncomputable def B158_17 : List zRow := [(144, .aload_n 1, 1, (0, 0, 0)), (145, .iload_n 2, 1, (0, 0, 0)), (146, .iconst 0, 1, (0, 0, 0))]
theorem K158_17 : zRk 158 B158_17 = true := zRw_ok (by decide +kernel)
noncomputable def B158_18 : List zRow := [(150, .iload 4, 2, (0, 0, 0)), (152, .iload 5, 2, (0, 0, 0))]
theorem K158_18 : zRk 158 B158_18 = true := zRw_ok (by decide +kernel)
noncomputable def B158_19 : List zRow := [(158, .aload_n 1, 1, (0, 0, 0)), (159, .iload_n 2, 1, (0, 0, 0)), (160, .iconst 4, 1, (0, 0, 0))]
theorem K158_19 : zRk 158 B158_19 = true := zRw_ok (by decide +kernel)
noncomputable def B158_20 : List zRow := [(164, .iload 4, 2, (0, 0, 0)), (166, .iload 5, 2, (0, 0, 0))]
theorem K158_20 : zRk 158 B158_20 = true := zRw_ok (by decide +kernel)
noncomputable def B158_21 : List zRow := [(172, .aload_n 1, 1, (0, 0, 0)), (173, .iload_n 2, 1, (0, 0, 0)), (174, .iconst 2, 1, (0, 0, 0))]
theorem K158_21 : zRk 158 B158_21 = true := zRw_ok (by decide +kernel)
noncomputable def B158_22 : List zRow := [(178, .iload 4, 2, (0, 0, 0)), (180, .iload 5, 2, (0, 0, 0))]
theorem K158_22 : zRk 158 B158_22 = true := zRw_ok (by decide +kernel)
noncomputable def B158_23 : List zRow := [(186, .aload_n 1, 1, (0, 0, 0)), (187, .iload_n 2, 1, (0, 0, 0)), (188, .bipush 6, 2, (0, 0, 0))]
theorem K158_23 : zRk 158 B158_23 = true := zRw_ok (by decide +kernel)
noncomputable def B158_24 : List zRow := [(193, .iload 4, 2, (0, 0, 0)), (195, .iload 5, 2, (0, 0, 0))]
theorem K158_24 : zRk 158 B158_24 = true := zRw_ok (by decide +kernel)
noncomputable def B158_25 : List zRow := [(201, .iconst 0, 1, (0, 0, 0))]
theorem K158_25 : zRk 158 B158_25 = true := zRw_ok (by decide +kernel)
noncomputable def B157_0 : List zRow := [(0, .iconst 0, 1, (0, 0, 0)), (1, .istore_n 3, 1, (0, 0, 0)), (2, .iconst 0, 1, (0, 0, 0)), (3, .istore 4, 2, (0, 0, 0))]
theorem K157_0 : zRk 157 B157_0 = true := zRw_ok (by decide +kernel)
noncomputable def B157_1 : List zRow := [(215, .iconst 0, 1, (0, 0, 0))]
theorem K157_1 : zRk 157 B157_1 = true := zRw_ok (by decide +kernel)
noncomputable def B157_2 : List zRow := [(211, .iconst 1, 1, (0, 0, 0)), (212, .goto 4, 3, (0, 0, 0))]
theorem K157_2 : zRk 157 B157_2 = true := zRw_ok (by decide +kernel)
noncomputable def B157_3 : List zRow := [(200, .aload_n 0, 1, (0, 0, 0)), (201, .getfield 15, 3, (6, 3, 5767330)), (204, .iload_n 3, 1, (0, 0, 0)), (205, .iconst 1, 1, (0, 0, 0)), (206, .isub, 1, (0, 0, 0)), (207, .baload, 1, (0, 0, 0)), (208, .ifCond .eq 7, 3, (0, 0, 0))]
theorem K157_3 : zRk 157 B157_3 = true := zRw_ok (by decide +kernel)
noncomputable def B157_4 : List zRow := [(196, .iload_n 3, 1, (0, 0, 0)), (197, .ifCond .le 18, 3, (0, 0, 0))]
theorem K157_4 : zRk 157 B157_4 = true := zRw_ok (by decide +kernel)
noncomputable def B157_5 : List zRow := [(58, .iconst 0, 1, (0, 0, 0))]
theorem K157_5 : zRk 157 B157_5 = true := zRw_ok (by decide +kernel)
noncomputable def B157_6 : List zRow := [(54, .iconst 1, 1, (0, 0, 0)), (55, .goto 4, 3, (0, 0, 0))]
theorem K157_6 : zRk 157 B157_6 = true := zRw_ok (by decide +kernel)
noncomputable def B157_7 : List zRow := [(36, .aload_n 0, 1, (0, 0, 0)), (37, .getfield 15, 3, (6, 3, 5767330)), (40, .iload_n 3, 1, (0, 0, 0)), (41, .iconst 1, 1, (0, 0, 0)), (42, .isub, 1, (0, 0, 0)), (43, .aload_n 0, 1, (0, 0, 0)), (44, .getfield 15, 3, (6, 3, 5767330)), (47, .iload_n 3, 1, (0, 0, 0)), (48, .iconst 1, 1, (0, 0, 0)), (49, .isub, 1, (0, 0, 0)), (50, .baload, 1, (0, 0, 0)), (51, .ifCond .ne 7, 3, (0, 0, 0))]
theorem K157_7 : zRk 157 B157_7 = true := zRw_ok (by decide +kernel)
noncomputable def B157_8 : List zRow := [(32, .iload_n 3, 1, (0, 0, 0)), (33, .ifCond .le 30, 3, (0, 0, 0))]
theorem K157_8 : zRk 157 B157_8 = true := zRw_ok (by decide +kernel)
noncomputable def B157_9 : List zRow := [(14, .aload_n 0, 1, (0, 0, 0)), (15, .getfield 9, 3, (6, 2, 5243362)), (18, .iload 4, 2, (0, 0, 0)), (20, .iconst 3, 1, (0, 0, 0)), (21, .imul, 1, (0, 0, 0)), (22, .iaload, 1, (0, 0, 0)), (23, .istore 5, 2, (0, 0, 0)), (25, .iload 5, 2, (0, 0, 0)), (27, .bipush 12, 2, (0, 0, 0)), (29, .if_icmp .ne 34, 3, (0, 0, 0))]
theorem K157_9 : zRk 157 B157_9 = true := zRw_ok (by decide +kernel)
noncomputable def B157_10 : List zRow := [(5, .iload 4, 2, (0, 0, 0)), (7, .aload_n 0, 1, (0, 0, 0)), (8, .getfield 23, 3, (6, 1, 0)), (11, .if_icmp .ge 185, 3, (0, 0, 0))]
theorem K157_10 : zRk 157 B157_10 = true := zRw_ok (by decide +kernel)
noncomputable def B157_11 : List zRow := [(59, .bastore, 1, (0, 0, 0)), (60, .goto 130, 3, (0, 0, 0))]
theorem K157_11 : zRk 157 B157_11 = true := zRw_ok (by decide +kernel)
noncomputable def B157_12 : List zRow := [(190, .iinc 4 1, 3, (0, 0, 0)), (193, .goto (-188), 3, (0, 0, 0))]
theorem K157_12 : zRk 157 B157_12 = true := zRw_ok (by decide +kernel)
noncomputable def B157_13 : List zRow := [(105, .iconst 1, 1, (0, 0, 0)), (106, .goto 4, 3, (0, 0, 0))]
theorem K157_13 : zRk 157 B157_13 = true := zRw_ok (by decide +kernel)
noncomputable def B157_14 : List zRow := [(96, .aload_n 0, 1, (0, 0, 0)), (97, .getfield 15, 3, (6, 3, 5767330)), (100, .iload_n 3, 1, (0, 0, 0)), (101, .baload, 1, (0, 0, 0)), (102, .ifCond .eq 7, 3, (0, 0, 0))]
theorem K157_14 : zRk 157 B157_14 = true := zRw_ok (by decide +kernel)
noncomputable def B157_15 : List zRow := [(75, .iinc 3 (-1), 3, (0, 0, 0)), (78, .aload_n 0, 1, (0, 0, 0)), (79, .getfield 15, 3, (6, 3, 5767330)), (82, .iload_n 3, 1, (0, 0, 0)), (83, .iconst 1, 1, (0, 0, 0)), (84, .isub, 1, (0, 0, 0)), (85, .aload_n 0, 1, (0, 0, 0)), (86, .getfield 15, 3, (6, 3, 5767330)), (89, .iload_n 3, 1, (0, 0, 0)), (90, .iconst 1, 1, (0, 0, 0)), (91, .isub, 1, (0, 0, 0)), (92, .baload, 1, (0, 0, 0)), (93, .ifCond .eq 16, 3, (0, 0, 0))]
theorem K157_15 : zRk 157 B157_15 = true := zRw_ok (by decide +kernel)
noncomputable def B157_16 : List zRow := [(70, .iload_n 3, 1, (0, 0, 0)), (71, .iconst 1, 1, (0, 0, 0)), (72, .if_icmp .le 42, 3, (0, 0, 0))]
theorem K157_16 : zRk 157 B157_16 = true := zRw_ok (by decide +kernel)
noncomputable def B157_17 : List zRow := [(63, .iload 5, 2, (0, 0, 0)), (65, .bipush 11, 2, (0, 0, 0)), (67, .if_icmp .ne 47, 3, (0, 0, 0))]
theorem K157_17 : zRk 157 B157_17 = true := zRw_ok (by decide +kernel)
noncomputable def B157_18 : List zRow := [(110, .bastore, 1, (0, 0, 0)), (111, .goto 79, 3, (0, 0, 0))]
theorem K157_18 : zRk 157 B157_18 = true := zRw_ok (by decide +kernel)
noncomputable def B157_19 : List zRow := [(109, .iconst 0, 1, (0, 0, 0))]
theorem K157_19 : zRk 157 B157_19 = true := zRw_ok (by decide +kernel)
noncomputable def B157_20 : List zRow := [(160, .iconst 0, 1, (0, 0, 0))]
theorem K157_20 : zRk 157 B157_20 = true := zRw_ok (by decide +kernel)
noncomputable def B157_21 : List zRow := [(147, .aload_n 0, 1, (0, 0, 0)), (148, .getfield 15, 3, (6, 3, 5767330)), (151, .iload_n 3, 1, (0, 0, 0)), (152, .baload, 1, (0, 0, 0)), (153, .ifCond .eq 7, 3, (0, 0, 0))]
theorem K157_21 : zRk 157 B157_21 = true := zRw_ok (by decide +kernel)
noncomputable def B157_22 : List zRow := [(126, .iinc 3 (-1), 3, (0, 0, 0)), (129, .aload_n 0, 1, (0, 0, 0)), (130, .getfield 15, 3, (6, 3, 5767330)), (133, .iload_n 3, 1, (0, 0, 0)), (134, .iconst 1, 1, (0, 0, 0)), (135, .isub, 1, (0, 0, 0)), (136, .aload_n 0, 1, (0, 0, 0)), (137, .getfield 15, 3, (6, 3, 5767330)), (140, .iload_n 3, 1, (0, 0, 0)), (141, .iconst 1, 1, (0, 0, 0)), (142, .isub, 1, (0, 0, 0)), (143, .baload, 1, (0, 0, 0)), (144, .ifCond .ne 12, 3, (0, 0, 0))]
theorem K157_22 : zRk 157 B157_22 = true := zRw_ok (by decide +kernel)
noncomputable def B157_23 : List zRow := [(121, .iload_n 3, 1, (0, 0, 0)), (122, .iconst 1, 1, (0, 0, 0)), (123, .if_icmp .le 42, 3, (0, 0, 0))]
theorem K157_23 : zRk 157 B157_23 = true := zRw_ok (by decide +kernel)
noncomputable def B157_24 : List zRow := [(114, .iload 5, 2, (0, 0, 0)), (116, .bipush 10, 2, (0, 0, 0)), (118, .if_icmp .ne 47, 3, (0, 0, 0))]
theorem K157_24 : zRk 157 B157_24 = true := zRw_ok (by decide +kernel)
noncomputable def B157_25 : List zRow := [(161, .bastore, 1, (0, 0, 0)), (162, .goto 28, 3, (0, 0, 0))]
theorem K157_25 : zRk 157 B157_25 = true := zRw_ok (by decide +kernel)
noncomputable def B157_26 : List zRow := [(156, .iconst 1, 1, (0, 0, 0)), (157, .goto 4, 3, (0, 0, 0))]
theorem K157_26 : zRk 157 B157_26 = true := zRw_ok (by decide +kernel)
noncomputable def B157_27 : List zRow := [(171, .aload_n 0, 1, (0, 0, 0)), (172, .getfield 15, 3, (6, 3, 5767330)), (175, .iload_n 3, 1, (0, 0, 0)), (176, .aload_n 0, 1, (0, 0, 0)), (177, .aload_n 1, 1, (0, 0, 0)), (178, .iload_n 2, 1, (0, 0, 0)), (179, .iload 4, 2, (0, 0, 0)), (181, .iconst 3, 1, (0, 0, 0)), (182, .imul, 1, (0, 0, 0))]
theorem K157_27 : zRk 157 B157_27 = true := zRw_ok (by decide +kernel)
noncomputable def B157_28 : List zRow := [(186, .bastore, 1, (0, 0, 0)), (187, .iinc 3 1, 3, (0, 0, 0))]
theorem K157_28 : zRk 157 B157_28 = true := zRw_ok (by decide +kernel)
noncomputable def B157_29 : List zRow := [(165, .iload_n 3, 1, (0, 0, 0)), (166, .bipush 40, 2, (0, 0, 0)), (168, .if_icmp .ge 22, 3, (0, 0, 0))]
theorem K157_29 : zRk 157 B157_29 = true := zRw_ok (by decide +kernel)
noncomputable def B156_0 : List zRow := [(15, .iconst (-1), 1, (0, 0, 0))]
theorem K156_0 : zRk 156 B156_0 = true := zRw_ok (by decide +kernel)
noncomputable def B156_1 : List zRow := [(17, .iconst 0, 1, (0, 0, 0)), (18, .istore_n 2, 1, (0, 0, 0)), (19, .iconst 0, 1, (0, 0, 0)), (20, .istore_n 3, 1, (0, 0, 0))]
theorem K156_1 : zRk 156 B156_1 = true := zRw_ok (by decide +kernel)
noncomputable def B156_2 : List zRow := [(10, .iload_n 1, 1, (0, 0, 0)), (11, .iconst (-1), 1, (0, 0, 0)), (12, .if_icmp .ge 5, 3, (0, 0, 0))]
theorem K156_2 : zRk 156 B156_2 = true := zRw_ok (by decide +kernel)
noncomputable def B156_3 : List zRow := [(0, .aload_n 0, 1, (0, 0, 0)), (1, .getfield 42, 3, (11, 4, 27)), (4, .getfield 351, 3, (6, 0, 0)), (7, .ifCond .eq 8, 3, (0, 0, 0))]
theorem K156_3 : zRk 156 B156_3 = true := zRw_ok (by decide +kernel)
noncomputable def B156_4 : List zRow := [(72, .iconst (-1), 1, (0, 0, 0))]
theorem K156_4 : zRk 156 B156_4 = true := zRw_ok (by decide +kernel)
noncomputable def B156_5 : List zRow := [(68, .iload_n 2, 1, (0, 0, 0)), (69, .goto 4, 3, (0, 0, 0))]
theorem K156_5 : zRk 156 B156_5 = true := zRw_ok (by decide +kernel)
noncomputable def B156_6 : List zRow := [(63, .iload_n 1, 1, (0, 0, 0)), (64, .iconst (-1), 1, (0, 0, 0)), (65, .if_icmp .ne 7, 3, (0, 0, 0))]
theorem K156_6 : zRk 156 B156_6 = true := zRw_ok (by decide +kernel)
noncomputable def B156_7 : List zRow := [(32, .aload_n 0, 1, (0, 0, 0)), (33, .getfield 42, 3, (11, 4, 27)), (36, .aload_n 0, 1, (0, 0, 0)), (37, .getfield 56, 3, (11, 6, 7)), (40, .iload_n 3, 1, (0, 0, 0))]
theorem K156_7 : zRk 156 B156_7 = true := zRw_ok (by decide +kernel)
noncomputable def B156_8 : List zRow := [(54, .iinc 2 1, 3, (0, 0, 0))]
theorem K156_8 : zRk 156 B156_8 = true := zRw_ok (by decide +kernel)
noncomputable def B156_9 : List zRow := [(52, .iload_n 3, 1, (0, 0, 0))]
theorem K156_9 : zRk 156 B156_9 = true := zRw_ok (by decide +kernel)
noncomputable def B156_10 : List zRow := [(47, .iload_n 2, 1, (0, 0, 0)), (48, .iload_n 1, 1, (0, 0, 0)), (49, .if_icmp .ne 5, 3, (0, 0, 0))]
theorem K156_10 : zRk 156 B156_10 = true := zRw_ok (by decide +kernel)
noncomputable def B156_11 : List zRow := [(44, .ifCond .eq 13, 3, (0, 0, 0))]
theorem K156_11 : zRk 156 B156_11 = true := zRw_ok (by decide +kernel)
noncomputable def B156_12 : List zRow := [(21, .iload_n 3, 1, (0, 0, 0)), (22, .aload_n 0, 1, (0, 0, 0)), (23, .getfield 56, 3, (11, 6, 7)), (26, .getfield 354, 3, (1, 1, 0)), (29, .if_icmp .ge 34, 3, (0, 0, 0))]
theorem K156_12 : zRk 156 B156_12 = true := zRw_ok (by decide +kernel)
noncomputable def B156_13 : List zRow := [(57, .iinc 3 1, 3, (0, 0, 0)), (60, .goto (-39), 3, (0, 0, 0))]
theorem K156_13 : zRk 156 B156_13 = true := zRw_ok (by decide +kernel)
noncomputable def B291_0 : List zRow := [(0, .aload_n 0, 1, (0, 0, 0)), (1, .iload_n 1, 1, (0, 0, 0)), (2, .bipush 6, 2, (0, 0, 0))]
theorem K291_0 : zRk 291 B291_0 = true := zRw_ok (by decide +kernel)
noncomputable def B291_1 : List zRow := [(12, .iconst 0, 1, (0, 0, 0)), (13, .istore_n 2, 1, (0, 0, 0))]
theorem K291_1 : zRk 291 B291_1 = true := zRw_ok (by decide +kernel)
noncomputable def B291_2 : List zRow := [(10, .iconst 0, 1, (0, 0, 0))]
theorem K291_2 : zRk 291 B291_2 = true := zRw_ok (by decide +kernel)
noncomputable def B291_3 : List zRow := [(7, .ifCond .le 5, 3, (0, 0, 0))]
theorem K291_3 : zRk 291 B291_3 = true := zRw_ok (by decide +kernel)
noncomputable def B291_4 : List zRow := [(52, .iconst 1, 1, (0, 0, 0))]
theorem K291_4 : zRk 291 B291_4 = true := zRw_ok (by decide +kernel)
noncomputable def B291_5 : List zRow := [(24, .aload_n 0, 1, (0, 0, 0)), (25, .iload_n 1, 1, (0, 0, 0)), (26, .iload_n 2, 1, (0, 0, 0)), (27, .iconst 0, 1, (0, 0, 0))]
theorem K291_5 : zRk 291 B291_5 = true := zRw_ok (by decide +kernel)
noncomputable def B291_6 : List zRow := [(34, .aload_n 0, 1, (0, 0, 0)), (35, .iload_n 1, 1, (0, 0, 0)), (36, .iload_n 2, 1, (0, 0, 0)), (37, .iconst 2, 1, (0, 0, 0))]
theorem K291_6 : zRk 291 B291_6 = true := zRw_ok (by decide +kernel)
noncomputable def B291_7 : List zRow := [(44, .iconst 0, 1, (0, 0, 0))]
theorem K291_7 : zRk 291 B291_7 = true := zRw_ok (by decide +kernel)
noncomputable def B291_8 : List zRow := [(41, .ifCond .ne 5, 3, (0, 0, 0))]
theorem K291_8 : zRk 291 B291_8 = true := zRw_ok (by decide +kernel)
noncomputable def B291_9 : List zRow := [(31, .ifCond .le 15, 3, (0, 0, 0))]
theorem K291_9 : zRk 291 B291_9 = true := zRw_ok (by decide +kernel)
noncomputable def B291_10 : List zRow := [(14, .iload_n 2, 1, (0, 0, 0)), (15, .aload_n 0, 1, (0, 0, 0)), (16, .getfield 13, 3, (12, 14, 5251442)), (19, .iconst 2, 1, (0, 0, 0)), (20, .iaload, 1, (0, 0, 0)), (21, .if_icmp .ge 31, 3, (0, 0, 0))]
theorem K291_10 : zRk 291 B291_10 = true := zRw_ok (by decide +kernel)
noncomputable def B291_11 : List zRow := [(46, .iinc 2 1, 3, (0, 0, 0)), (49, .goto (-35), 3, (0, 0, 0))]
theorem K291_11 : zRk 291 B291_11 = true := zRw_ok (by decide +kernel)
noncomputable def B290_0 : List zRow := [(0, .sipush 1900, 3, (0, 0, 0)), (3, .iconst 4, 1, (0, 0, 0)), (4, .iload_n 1, 1, (0, 0, 0))]
theorem K290_0 : zRk 290 B290_0 = true := zRw_ok (by decide +kernel)
noncomputable def B290_1 : List zRow := [(5, .imul, 1, (0, 0, 0))]
theorem K290_1 : zRk 290 B290_1 = true := zRw_ok (by decide +kernel)
noncomputable def B290_2 : List zRow := [(100, .aload_n 0, 1, (0, 0, 0)), (101, .iload 4, 2, (0, 0, 0)), (103, .iload_n 2, 1, (0, 0, 0))]
theorem K290_2 : zRk 290 B290_2 = true := zRw_ok (by decide +kernel)
noncomputable def B290_3 : List zRow := [(114, .iconst 0, 1, (0, 0, 0))]
theorem K290_3 : zRk 290 B290_3 = true := zRw_ok (by decide +kernel)
noncomputable def B290_4 : List zRow := [(110, .iconst 1, 1, (0, 0, 0)), (111, .goto 4, 3, (0, 0, 0))]
theorem K290_4 : zRk 290 B290_4 = true := zRw_ok (by decide +kernel)
noncomputable def B290_5 : List zRow := [(107, .ifCond .ne 7, 3, (0, 0, 0))]
theorem K290_5 : zRk 290 B290_5 = true := zRw_ok (by decide +kernel)
noncomputable def B290_6 : List zRow := [(6, .iadd, 1, (0, 0, 0)), (7, .istore_n 3, 1, (0, 0, 0)), (8, .aload_n 0, 1, (0, 0, 0)), (9, .getfield 13, 3, (12, 14, 5251442)), (12, .iload_n 3, 1, (0, 0, 0)), (13, .iconst 1, 1, (0, 0, 0)), (14, .iadd, 1, (0, 0, 0)), (15, .iaload, 1, (0, 0, 0)), (16, .istore 4, 2, (0, 0, 0)), (18, .aload_n 0, 1, (0, 0, 0)), (19, .getfield 13, 3, (12, 14, 5251442)), (22, .iload_n 3, 1, (0, 0, 0)), (23, .iconst 2, 1, (0, 0, 0)), (24, .iadd, 1, (0, 0, 0)), (25, .iaload, 1, (0, 0, 0)), (26, .istore 5, 2, (0, 0, 0)), (28, .aload_n 0, 1, (0, 0, 0)), (29, .getfield 13, 3, (12, 14, 5251442)), (32, .iload_n 3, 1, (0, 0, 0)), (33, .iaload, 1, (0, 0, 0)), (34, .lookupswitch 188 #[(1, 66), (2, 82), (3, 108), (63, 134), (64, 140), (65, 159), (66, 171)], 66, (0, 0, 0))]
theorem K290_6 : zRk 290 B290_6 = true := by decide +kernel
noncomputable def B290_7 : List zRow := [(116, .aload_n 0, 1, (0, 0, 0)), (117, .iload 4, 2, (0, 0, 0)), (119, .iload_n 2, 1, (0, 0, 0))]
theorem K290_7 : zRk 290 B290_7 = true := zRw_ok (by decide +kernel)
noncomputable def B290_8 : List zRow := [(140, .iconst 0, 1, (0, 0, 0))]
theorem K290_8 : zRk 290 B290_8 = true := zRw_ok (by decide +kernel)
noncomputable def B290_9 : List zRow := [(126, .aload_n 0, 1, (0, 0, 0)), (127, .iload 5, 2, (0, 0, 0)), (129, .iload_n 2, 1, (0, 0, 0))]
theorem K290_9 : zRk 290 B290_9 = true := zRw_ok (by decide +kernel)
noncomputable def B290_10 : List zRow := [(136, .iconst 1, 1, (0, 0, 0)), (137, .goto 4, 3, (0, 0, 0))]
theorem K290_10 : zRk 290 B290_10 = true := zRw_ok (by decide +kernel)
noncomputable def B290_11 : List zRow := [(133, .ifCond .eq 7, 3, (0, 0, 0))]
theorem K290_11 : zRk 290 B290_11 = true := zRw_ok (by decide +kernel)
noncomputable def B290_12 : List zRow := [(123, .ifCond .eq 17, 3, (0, 0, 0))]
theorem K290_12 : zRk 290 B290_12 = true := zRw_ok (by decide +kernel)
noncomputable def B290_13 : List zRow := [(142, .aload_n 0, 1, (0, 0, 0)), (143, .iload 4, 2, (0, 0, 0)), (145, .iload_n 2, 1, (0, 0, 0))]
theorem K290_13 : zRk 290 B290_13 = true := zRw_ok (by decide +kernel)
noncomputable def B290_14 : List zRow := [(152, .aload_n 0, 1, (0, 0, 0)), (153, .iload 5, 2, (0, 0, 0)), (155, .iload_n 2, 1, (0, 0, 0))]
theorem K290_14 : zRk 290 B290_14 = true := zRw_ok (by decide +kernel)
noncomputable def B290_15 : List zRow := [(166, .iconst 0, 1, (0, 0, 0))]
theorem K290_15 : zRk 290 B290_15 = true := zRw_ok (by decide +kernel)
noncomputable def B290_16 : List zRow := [(159, .ifCond .eq 7, 3, (0, 0, 0))]
theorem K290_16 : zRk 290 B290_16 = true := zRw_ok (by decide +kernel)
noncomputable def B290_17 : List zRow := [(149, .ifCond .ne 13, 3, (0, 0, 0))]
theorem K290_17 : zRk 290 B290_17 = true := zRw_ok (by decide +kernel)
noncomputable def B290_18 : List zRow := [(168, .aload_n 0, 1, (0, 0, 0)), (169, .iload_n 2, 1, (0, 0, 0))]
theorem K290_18 : zRk 290 B290_18 = true := zRw_ok (by decide +kernel)
noncomputable def B290_19 : List zRow := [(174, .aload_n 0, 1, (0, 0, 0)), (175, .iload_n 2, 1, (0, 0, 0)), (176, .iconst 5, 1, (0, 0, 0))]
theorem K290_19 : zRk 290 B290_19 = true := zRw_ok (by decide +kernel)
noncomputable def B290_20 : List zRow := [(191, .iconst 0, 1, (0, 0, 0))]
theorem K290_20 : zRk 290 B290_20 = true := zRw_ok (by decide +kernel)
noncomputable def B290_21 : List zRow := [(187, .iconst 1, 1, (0, 0, 0)), (188, .goto 4, 3, (0, 0, 0))]
theorem K290_21 : zRk 290 B290_21 = true := zRw_ok (by decide +kernel)
noncomputable def B290_22 : List zRow := [(183, .iconst 1, 1, (0, 0, 0)), (184, .if_icmp .le 7, 3, (0, 0, 0))]
theorem K290_22 : zRk 290 B290_22 = true := zRw_ok (by decide +kernel)
noncomputable def B290_23 : List zRow := [(193, .aload_n 0, 1, (0, 0, 0)), (194, .iload_n 2, 1, (0, 0, 0)), (195, .iconst 5, 1, (0, 0, 0))]
theorem K290_23 : zRk 290 B290_23 = true := zRw_ok (by decide +kernel)
noncomputable def B290_24 : List zRow := [(199, .iload 4, 2, (0, 0, 0))]
theorem K290_24 : zRk 290 B290_24 = true := zRw_ok (by decide +kernel)
noncomputable def B290_25 : List zRow := [(205, .aload_n 0, 1, (0, 0, 0)), (206, .iload_n 2, 1, (0, 0, 0)), (207, .iconst 1, 1, (0, 0, 0))]
theorem K290_25 : zRk 290 B290_25 = true := zRw_ok (by decide +kernel)
noncomputable def B290_26 : List zRow := [(220, .iconst 0, 1, (0, 0, 0))]
theorem K290_26 : zRk 290 B290_26 = true := zRw_ok (by decide +kernel)
noncomputable def B290_27 : List zRow := [(216, .iconst 1, 1, (0, 0, 0)), (217, .goto 4, 3, (0, 0, 0))]
theorem K290_27 : zRk 290 B290_27 = true := zRw_ok (by decide +kernel)
noncomputable def B290_28 : List zRow := [(211, .iload 4, 2, (0, 0, 0)), (213, .if_icmp .ne 7, 3, (0, 0, 0))]
theorem K290_28 : zRk 290 B290_28 = true := zRw_ok (by decide +kernel)
noncomputable def B290_29 : List zRow := [(268, .bipush 6, 2, (0, 0, 0))]
theorem K290_29 : zRk 290 B290_29 = true := zRw_ok (by decide +kernel)
noncomputable def B290_30 : List zRow := [(264, .iconst 2, 1, (0, 0, 0)), (265, .goto 5, 3, (0, 0, 0))]
theorem K290_30 : zRk 290 B290_30 = true := zRw_ok (by decide +kernel)
noncomputable def B290_31 : List zRow := [(257, .iload 6, 2, (0, 0, 0)), (259, .bipush 19, 2, (0, 0, 0)), (261, .if_icmp .ne 7, 3, (0, 0, 0))]
theorem K290_31 : zRk 290 B290_31 = true := zRw_ok (by decide +kernel)
noncomputable def B290_32 : List zRow := [(253, .iconst 4, 1, (0, 0, 0)), (254, .goto 16, 3, (0, 0, 0))]
theorem K290_32 : zRk 290 B290_32 = true := zRw_ok (by decide +kernel)
noncomputable def B290_33 : List zRow := [(246, .iload 6, 2, (0, 0, 0)), (248, .bipush 18, 2, (0, 0, 0)), (250, .if_icmp .ne 7, 3, (0, 0, 0))]
theorem K290_33 : zRk 290 B290_33 = true := zRw_ok (by decide +kernel)
noncomputable def B290_34 : List zRow := [(242, .iconst 0, 1, (0, 0, 0)), (243, .goto 27, 3, (0, 0, 0))]
theorem K290_34 : zRk 290 B290_34 = true := zRw_ok (by decide +kernel)
noncomputable def B290_35 : List zRow := [(222, .aload_n 0, 1, (0, 0, 0)), (223, .getfield 13, 3, (12, 14, 5251442)), (226, .iload_n 3, 1, (0, 0, 0)), (227, .iaload, 1, (0, 0, 0)), (228, .bipush 50, 2, (0, 0, 0)), (230, .isub, 1, (0, 0, 0)), (231, .istore 6, 2, (0, 0, 0)), (233, .aload_n 0, 1, (0, 0, 0)), (234, .iload_n 2, 1, (0, 0, 0)), (235, .iload 6, 2, (0, 0, 0)), (237, .bipush 17, 2, (0, 0, 0)), (239, .if_icmp .ne 7, 3, (0, 0, 0))]
theorem K290_35 : zRk 290 B290_35 = true := zRw_ok (by decide +kernel)
noncomputable def B290_36 : List zRow := [(342, .iconst 0, 1, (0, 0, 0))]
theorem K290_36 : zRk 290 B290_36 = true := zRw_ok (by decide +kernel)
noncomputable def B290_37 : List zRow := [(338, .iconst 1, 1, (0, 0, 0)), (339, .goto 4, 3, (0, 0, 0))]
theorem K290_37 : zRk 290 B290_37 = true := zRw_ok (by decide +kernel)
noncomputable def B290_38 : List zRow := [(331, .iload 7, 2, (0, 0, 0)), (333, .iload 5, 2, (0, 0, 0)), (335, .if_icmp .le 7, 3, (0, 0, 0))]
theorem K290_38 : zRk 290 B290_38 = true := zRw_ok (by decide +kernel)
noncomputable def B290_39 : List zRow := [(327, .iconst 0, 1, (0, 0, 0)), (328, .goto 15, 3, (0, 0, 0))]
theorem K290_39 : zRk 290 B290_39 = true := zRw_ok (by decide +kernel)
noncomputable def B290_40 : List zRow := [(323, .iconst 1, 1, (0, 0, 0)), (324, .goto 19, 3, (0, 0, 0))]
theorem K290_40 : zRk 290 B290_40 = true := zRw_ok (by decide +kernel)
noncomputable def B290_41 : List zRow := [(316, .iload 7, 2, (0, 0, 0)), (318, .iload 5, 2, (0, 0, 0)), (320, .if_icmp .ne 7, 3, (0, 0, 0))]
theorem K290_41 : zRk 290 B290_41 = true := zRw_ok (by decide +kernel)
noncomputable def B290_42 : List zRow := [(303, .aload_n 0, 1, (0, 0, 0)), (304, .getfield 13, 3, (12, 14, 5251442)), (307, .iload_n 3, 1, (0, 0, 0)), (308, .iconst 3, 1, (0, 0, 0)), (309, .iadd, 1, (0, 0, 0)), (310, .iaload, 1, (0, 0, 0)), (311, .bipush 61, 2, (0, 0, 0)), (313, .if_icmp .ne 18, 3, (0, 0, 0))]
theorem K290_42 : zRk 290 B290_42 = true := zRw_ok (by decide +kernel)
noncomputable def B290_43 : List zRow := [(299, .iconst 0, 1, (0, 0, 0)), (300, .goto 43, 3, (0, 0, 0))]
theorem K290_43 : zRk 290 B290_43 = true := zRw_ok (by decide +kernel)
noncomputable def B290_44 : List zRow := [(295, .iconst 1, 1, (0, 0, 0)), (296, .goto 47, 3, (0, 0, 0))]
theorem K290_44 : zRk 290 B290_44 = true := zRw_ok (by decide +kernel)
noncomputable def B290_45 : List zRow := [(288, .iload 7, 2, (0, 0, 0)), (290, .iload 5, 2, (0, 0, 0)), (292, .if_icmp .ge 7, 3, (0, 0, 0))]
theorem K290_45 : zRk 290 B290_45 = true := zRw_ok (by decide +kernel)
noncomputable def B290_46 : List zRow := [(273, .istore 7, 2, (0, 0, 0)), (275, .aload_n 0, 1, (0, 0, 0)), (276, .getfield 13, 3, (12, 14, 5251442)), (279, .iload_n 3, 1, (0, 0, 0)), (280, .iconst 3, 1, (0, 0, 0)), (281, .iadd, 1, (0, 0, 0)), (282, .iaload, 1, (0, 0, 0)), (283, .bipush 60, 2, (0, 0, 0)), (285, .if_icmp .ne 18, 3, (0, 0, 0))]
theorem K290_46 : zRk 290 B290_46 = true := zRw_ok (by decide +kernel)
noncomputable def B290_47 : List zRow := [(162, .iconst 1, 1, (0, 0, 0)), (163, .goto 4, 3, (0, 0, 0))]
theorem K290_47 : zRk 290 B290_47 = true := zRw_ok (by decide +kernel)
noncomputable def B289_0 : List zRow := [(18, .iconst 0, 1, (0, 0, 0)), (19, .istore_n 2, 1, (0, 0, 0)), (20, .iconst 0, 1, (0, 0, 0)), (21, .istore_n 3, 1, (0, 0, 0))]
theorem K289_0 : zRk 289 B289_0 = true := zRw_ok (by decide +kernel)
noncomputable def B289_1 : List zRow := [(16, .iconst (-1), 1, (0, 0, 0))]
theorem K289_1 : zRk 289 B289_1 = true := zRw_ok (by decide +kernel)
noncomputable def B289_2 : List zRow := [(0, .aload_n 0, 1, (0, 0, 0)), (1, .iconst 0, 1, (0, 0, 0)), (2, .putfield 81, 3, (12, 0, 0)), (5, .aload_n 0, 1, (0, 0, 0)), (6, .getfield 13, 3, (12, 14, 5251442)), (9, .sipush 1898, 3, (0, 0, 0)), (12, .iaload, 1, (0, 0, 0)), (13, .ifCond .ne 5, 3, (0, 0, 0))]
theorem K289_2 : zRk 289 B289_2 = true := zRw_ok (by decide +kernel)
noncomputable def B289_3 : List zRow := [(78, .iconst (-1), 1, (0, 0, 0))]
theorem K289_3 : zRk 289 B289_3 = true := zRw_ok (by decide +kernel)
noncomputable def B289_4 : List zRow := [(74, .iload_n 2, 1, (0, 0, 0)), (75, .goto 4, 3, (0, 0, 0))]
theorem K289_4 : zRk 289 B289_4 = true := zRw_ok (by decide +kernel)
noncomputable def B289_5 : List zRow := [(69, .iload_n 1, 1, (0, 0, 0)), (70, .iconst (-1), 1, (0, 0, 0)), (71, .if_icmp .ne 7, 3, (0, 0, 0))]
theorem K289_5 : zRk 289 B289_5 = true := zRw_ok (by decide +kernel)
noncomputable def B289_6 : List zRow := [(34, .aload_n 0, 1, (0, 0, 0)), (35, .aload_n 0, 1, (0, 0, 0)), (36, .getfield 13, 3, (12, 14, 5251442)), (39, .sipush 1899, 3, (0, 0, 0)), (42, .iaload, 1, (0, 0, 0)), (43, .iload_n 3, 1, (0, 0, 0))]
theorem K289_6 : zRk 289 B289_6 = true := zRw_ok (by decide +kernel)
noncomputable def B289_7 : List zRow := [(60, .iinc 2 1, 3, (0, 0, 0))]
theorem K289_7 : zRk 289 B289_7 = true := zRw_ok (by decide +kernel)
noncomputable def B289_8 : List zRow := [(58, .iload_n 3, 1, (0, 0, 0))]
theorem K289_8 : zRk 289 B289_8 = true := zRw_ok (by decide +kernel)
noncomputable def B289_9 : List zRow := [(53, .iload_n 2, 1, (0, 0, 0)), (54, .iload_n 1, 1, (0, 0, 0)), (55, .if_icmp .ne 5, 3, (0, 0, 0))]
theorem K289_9 : zRk 289 B289_9 = true := zRw_ok (by decide +kernel)
noncomputable def B289_10 : List zRow := [(50, .goto 13, 3, (0, 0, 0))]
theorem K289_10 : zRk 289 B289_10 = true := zRw_ok (by decide +kernel)
noncomputable def B289_11 : List zRow := [(47, .ifCond .ne 6, 3, (0, 0, 0))]
theorem K289_11 : zRk 289 B289_11 = true := zRw_ok (by decide +kernel)
noncomputable def B289_12 : List zRow := [(22, .iload_n 3, 1, (0, 0, 0)), (23, .aload_n 0, 1, (0, 0, 0)), (24, .getfield 13, 3, (12, 14, 5251442)), (27, .sipush 216, 3, (0, 0, 0)), (30, .iaload, 1, (0, 0, 0)), (31, .if_icmp .ge 38, 3, (0, 0, 0))]
theorem K289_12 : zRk 289 B289_12 = true := zRw_ok (by decide +kernel)
noncomputable def B289_13 : List zRow := [(63, .iinc 3 1, 3, (0, 0, 0)), (66, .goto (-44), 3, (0, 0, 0))]
theorem K289_13 : zRk 289 B289_13 = true := zRw_ok (by decide +kernel)
noncomputable def B160_0 : List zRow := [(9, .iconst 0, 1, (0, 0, 0))]
theorem K160_0 : zRk 160 B160_0 = true := zRw_ok (by decide +kernel)
noncomputable def B160_1 : List zRow := [(11, .aload_n 0, 1, (0, 0, 0)), (12, .getfield 72, 3, (11, 9, 6291466)), (15, .iload_n 1, 1, (0, 0, 0)), (16, .aaload, 1, (24, 0, 0)), (17, .getfield 359, 3, (3, 1, 359)), (20, .aload_n 0, 1, (0, 0, 0)), (21, .getfield 19, 3, (11, 1, 39))]
theorem K160_1 : zRk 160 B160_1 = true := zRw_ok (by decide +kernel)
noncomputable def B160_2 : List zRow := [(27, .aload_n 0, 1, (0, 0, 0)), (28, .getfield 72, 3, (11, 9, 6291466)), (31, .iload_n 1, 1, (0, 0, 0)), (32, .aaload, 1, (24, 0, 0)), (33, .getfield 360, 3, (3, 2, 1351)), (36, .aload_n 0, 1, (0, 0, 0)), (37, .getfield 56, 3, (11, 6, 7))]
theorem K160_2 : zRk 160 B160_2 = true := zRw_ok (by decide +kernel)
noncomputable def B160_3 : List zRow := [(43, .aload_n 0, 1, (0, 0, 0)), (44, .getfield 72, 3, (11, 9, 6291466)), (47, .iload_n 1, 1, (0, 0, 0)), (48, .aaload, 1, (24, 0, 0)), (49, .getfield 361, 3, (3, 3, 347)), (52, .aload_n 0, 1, (0, 0, 0)), (53, .getfield 42, 3, (11, 4, 27))]
theorem K160_3 : zRk 160 B160_3 = true := zRw_ok (by decide +kernel)
noncomputable def B160_4 : List zRow := [(59, .aload_n 0, 1, (0, 0, 0)), (60, .getfield 72, 3, (11, 9, 6291466)), (63, .iload_n 1, 1, (0, 0, 0)), (64, .aaload, 1, (24, 0, 0)), (65, .iconst 1, 1, (0, 0, 0)), (66, .putfield 362, 3, (3, 0, 0)), (69, .iconst 1, 1, (0, 0, 0))]
theorem K160_4 : zRk 160 B160_4 = true := zRw_ok (by decide +kernel)
noncomputable def B160_5 : List zRow := [(4, .iload_n 1, 1, (0, 0, 0)), (5, .iconst 2, 1, (0, 0, 0)), (6, .if_icmp .lt 5, 3, (0, 0, 0))]
theorem K160_5 : zRk 160 B160_5 = true := zRw_ok (by decide +kernel)
noncomputable def B160_6 : List zRow := [(0, .iload_n 1, 1, (0, 0, 0)), (1, .ifCond .lt 8, 3, (0, 0, 0))]
theorem K160_6 : zRk 160 B160_6 = true := zRw_ok (by decide +kernel)
noncomputable def B292_0 : List zRow := [(0, .aload_n 0, 1, (0, 0, 0)), (1, .iconst 0, 1, (0, 0, 0)), (2, .putfield 81, 3, (12, 0, 0)), (5, .iload_n 1, 1, (0, 0, 0)), (6, .iconst 0, 1, (0, 0, 0)), (7, .iconst 1, 1, (0, 0, 0))]
theorem K292_0 : zRk 292 B292_0 = true := zRw_ok (by decide +kernel)
noncomputable def B292_1 : List zRow := [(16, .iconst 0, 1, (0, 0, 0)), (17, .istore_n 2, 1, (0, 0, 0))]
theorem K292_1 : zRk 292 B292_1 = true := zRw_ok (by decide +kernel)
noncomputable def B292_2 : List zRow := [(14, .iconst 0, 1, (0, 0, 0))]
theorem K292_2 : zRk 292 B292_2 = true := zRw_ok (by decide +kernel)
noncomputable def B292_3 : List zRow := [(11, .ifCond .ne 5, 3, (0, 0, 0))]
theorem K292_3 : zRk 292 B292_3 = true := zRw_ok (by decide +kernel)
noncomputable def B292_4 : List zRow := [(49, .iconst 0, 1, (0, 0, 0)), (50, .istore_n 2, 1, (0, 0, 0))]
theorem K292_4 : zRk 292 B292_4 = true := zRw_ok (by decide +kernel)
noncomputable def B292_5 : List zRow := [(25, .aload_n 0, 1, (0, 0, 0)), (26, .getfield 19, 3, (12, 16, 5260002)), (29, .sipush 2140, 3, (0, 0, 0)), (32, .iload_n 1, 1, (0, 0, 0))]
theorem K292_5 : zRk 292 B292_5 = true := zRw_ok (by decide +kernel)
noncomputable def B292_6 : List zRow := [(33, .imul, 1, (0, 0, 0)), (34, .iload_n 2, 1, (0, 0, 0)), (35, .iadd, 1, (0, 0, 0)), (36, .aload_n 0, 1, (0, 0, 0)), (37, .getfield 13, 3, (12, 14, 5251442)), (40, .iload_n 2, 1, (0, 0, 0)), (41, .iaload, 1, (0, 0, 0)), (42, .iastore, 1, (0, 0, 0)), (43, .iinc 2 1, 3, (0, 0, 0)), (46, .goto (-28), 3, (0, 0, 0))]
theorem K292_6 : zRk 292 B292_6 = true := zRw_ok (by decide +kernel)
noncomputable def B292_7 : List zRow := [(18, .iload_n 2, 1, (0, 0, 0)), (19, .sipush 2140, 3, (0, 0, 0)), (22, .if_icmp .ge 27, 3, (0, 0, 0))]
theorem K292_7 : zRk 292 B292_7 = true := zRw_ok (by decide +kernel)
noncomputable def B292_8 : List zRow := [(80, .aload_n 0, 1, (0, 0, 0)), (81, .getfield 38, 3, (12, 22, 5767178)), (84, .iload_n 1, 1, (0, 0, 0)), (85, .iconst 1, 1, (0, 0, 0)), (86, .bastore, 1, (0, 0, 0)), (87, .iconst 1, 1, (0, 0, 0))]
theorem K292_8 : zRk 292 B292_8 = true := zRw_ok (by decide +kernel)
noncomputable def B292_9 : List zRow := [(57, .aload_n 0, 1, (0, 0, 0)), (58, .getfield 35, 3, (12, 21, 5505122)), (61, .bipush 12, 2, (0, 0, 0)), (63, .iload_n 1, 1, (0, 0, 0))]
theorem K292_9 : zRk 292 B292_9 = true := zRw_ok (by decide +kernel)
noncomputable def B292_10 : List zRow := [(64, .imul, 1, (0, 0, 0)), (65, .iload_n 2, 1, (0, 0, 0)), (66, .iadd, 1, (0, 0, 0)), (67, .aload_n 0, 1, (0, 0, 0)), (68, .getfield 28, 3, (12, 19, 5505074)), (71, .iload_n 2, 1, (0, 0, 0)), (72, .laload, 1, (0, 0, 0)), (73, .lastore, 1, (0, 0, 0)), (74, .iinc 2 1, 3, (0, 0, 0)), (77, .goto (-26), 3, (0, 0, 0))]
theorem K292_10 : zRk 292 B292_10 = true := zRw_ok (by decide +kernel)
noncomputable def B292_11 : List zRow := [(51, .iload_n 2, 1, (0, 0, 0)), (52, .bipush 12, 2, (0, 0, 0)), (54, .if_icmp .ge 26, 3, (0, 0, 0))]
theorem K292_11 : zRk 292 B292_11 = true := zRw_ok (by decide +kernel)
