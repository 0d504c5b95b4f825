noncomputable def B184_0 : List zRow := [(13, .aload_n 0, 1, (0, 0, 0)), (14, .iconst 1, 1, (0, 0, 0)), (15, .putfield 186, 3, (12, 24, 0)), (18, .aload_n 0, 1, (0, 0, 0))]
theorem K184_0 : zRk 184 B184_0 = true := zRw_ok (by decide +kernel)
noncomputable def B184_1 : List zRow := [(22, .aload_n 0, 1, (0, 0, 0)), (23, .iconst 2, 1, (0, 0, 0)), (24, .bipush 10, 2, (0, 0, 0))]
theorem K184_1 : zRk 184 B184_1 = true := zRw_ok (by decide +kernel)
noncomputable def B184_2 : List zRow := [(34, .aload_n 0, 1, (0, 0, 0)), (35, .getfield 16, 3, (12, 15, 5243718)), (38, .iconst 0, 1, (0, 0, 0)), (39, .aload_n 0, 1, (0, 0, 0)), (40, .getfield 155, 3, (12, 13, 0)), (43, .iastore, 1, (0, 0, 0)), (44, .aload_n 0, 1, (0, 0, 0)), (45, .iconst 2, 1, (0, 0, 0)), (46, .bipush 10, 2, (0, 0, 0))]
theorem K184_2 : zRk 184 B184_2 = true := zRw_ok (by decide +kernel)
noncomputable def B184_3 : List zRow := [(56, .aload_n 0, 1, (0, 0, 0)), (57, .getfield 16, 3, (12, 15, 5243718)), (60, .iconst 1, 1, (0, 0, 0)), (61, .aload_n 0, 1, (0, 0, 0)), (62, .getfield 155, 3, (12, 13, 0)), (65, .iastore, 1, (0, 0, 0)), (66, .iconst 1, 1, (0, 0, 0))]
theorem K184_3 : zRk 184 B184_3 = true := zRw_ok (by decide +kernel)
noncomputable def B184_4 : List zRow := [(54, .iconst 0, 1, (0, 0, 0))]
theorem K184_4 : zRk 184 B184_4 = true := zRw_ok (by decide +kernel)
noncomputable def B184_5 : List zRow := [(51, .ifCond .ne 5, 3, (0, 0, 0))]
theorem K184_5 : zRk 184 B184_5 = true := zRw_ok (by decide +kernel)
noncomputable def B184_6 : List zRow := [(32, .iconst 0, 1, (0, 0, 0))]
theorem K184_6 : zRk 184 B184_6 = true := zRw_ok (by decide +kernel)
noncomputable def B184_7 : List zRow := [(29, .ifCond .ne 5, 3, (0, 0, 0))]
theorem K184_7 : zRk 184 B184_7 = true := zRw_ok (by decide +kernel)
noncomputable def B184_8 : List zRow := [(7, .aload_n 0, 1, (0, 0, 0)), (8, .iconst 3, 1, (0, 0, 0))]
theorem K184_8 : zRk 184 B184_8 = true := zRw_ok (by decide +kernel)
noncomputable def B184_9 : List zRow := [(0, .aload_n 0, 1, (0, 0, 0)), (1, .getfield 186, 3, (12, 24, 0)), (4, .ifCond .eq 9, 3, (0, 0, 0))]
theorem K184_9 : zRk 184 B184_9 = true := zRw_ok (by decide +kernel)
noncomputable def B202_0 : List zRow := [(20, .iconst 0, 1, (0, 0, 0))]
theorem K202_0 : zRk 202 B202_0 = true := zRw_ok (by decide +kernel)
noncomputable def B202_1 : List zRow := [(16, .iconst 1, 1, (0, 0, 0)), (17, .goto 4, 3, (0, 0, 0))]
theorem K202_1 : zRk 202 B202_1 = true := zRw_ok (by decide +kernel)
noncomputable def B202_2 : List zRow := [(8, .aload_n 0, 1, (0, 0, 0)), (9, .getfield 117, 3, (12, 9, 0)), (12, .iload_n 1, 1, (0, 0, 0)), (13, .if_icmp .ne 7, 3, (0, 0, 0))]
theorem K202_2 : zRk 202 B202_2 = true := zRw_ok (by decide +kernel)
noncomputable def B202_3 : List zRow := [(0, .aload_n 0, 1, (0, 0, 0)), (1, .getfield 107, 3, (12, 7, 0)), (4, .iconst 4, 1, (0, 0, 0)), (5, .if_icmp .ne 15, 3, (0, 0, 0))]
theorem K202_3 : zRk 202 B202_3 = true := zRw_ok (by decide +kernel)
noncomputable def B201_0 : List zRow := [(0, .aload_n 0, 1, (0, 0, 0)), (1, .bipush 59, 2, (0, 0, 0))]
theorem K201_0 : zRk 201 B201_0 = true := zRw_ok (by decide +kernel)
noncomputable def B201_1 : List zRow := [(15, .aload_n 0, 1, (0, 0, 0))]
theorem K201_1 : zRk 201 B201_1 = true := zRw_ok (by decide +kernel)
noncomputable def B201_2 : List zRow := [(19, .iconst 1, 1, (0, 0, 0))]
theorem K201_2 : zRk 201 B201_2 = true := zRw_ok (by decide +kernel)
noncomputable def B201_3 : List zRow := [(9, .aload_n 0, 1, (0, 0, 0)), (10, .iconst 1, 1, (0, 0, 0))]
theorem K201_3 : zRk 201 B201_3 = true := zRw_ok (by decide +kernel)
noncomputable def B201_4 : List zRow := [(6, .ifCond .ne 9, 3, (0, 0, 0))]
theorem K201_4 : zRk 201 B201_4 = true := zRw_ok (by decide +kernel)
noncomputable def B180_0 : List zRow := [(0, .aload_n 0, 1, (0, 0, 0)), (1, .iconst 0, 1, (0, 0, 0))]
theorem K180_0 : zRk 180 B180_0 = true := zRw_ok (by decide +kernel)
noncomputable def B180_1 : List zRow := [(16, .aload_n 0, 1, (0, 0, 0)), (17, .iconst 1, 1, (0, 0, 0))]
theorem K180_1 : zRk 180 B180_1 = true := zRw_ok (by decide +kernel)
noncomputable def B180_2 : List zRow := [(32, .aload_n 0, 1, (0, 0, 0)), (33, .iconst 2, 1, (0, 0, 0))]
theorem K180_2 : zRk 180 B180_2 = true := zRw_ok (by decide +kernel)
noncomputable def B180_3 : List zRow := [(48, .aload_n 0, 1, (0, 0, 0)), (49, .iconst 3, 1, (0, 0, 0))]
theorem K180_3 : zRk 180 B180_3 = true := zRw_ok (by decide +kernel)
noncomputable def B180_4 : List zRow := [(64, .aload_n 0, 1, (0, 0, 0)), (65, .iconst 4, 1, (0, 0, 0))]
theorem K180_4 : zRk 180 B180_4 = true := zRw_ok (by decide +kernel)
noncomputable def B180_5 : List zRow := [(80, .aload_n 0, 1, (0, 0, 0)), (81, .iconst 5, 1, (0, 0, 0))]
theorem K180_5 : zRk 180 B180_5 = true := zRw_ok (by decide +kernel)
noncomputable def B180_6 : List zRow := [(96, .aload_n 0, 1, (0, 0, 0)), (97, .bipush 6, 2, (0, 0, 0))]
theorem K180_6 : zRk 180 B180_6 = true := zRw_ok (by decide +kernel)
noncomputable def B180_7 : List zRow := [(112, .aload_n 0, 1, (0, 0, 0)), (113, .iconst 1, 1, (0, 0, 0))]
theorem K180_7 : zRk 180 B180_7 = true := zRw_ok (by decide +kernel)
noncomputable def B180_8 : List zRow := [(105, .aload_n 0, 1, (0, 0, 0))]
theorem K180_8 : zRk 180 B180_8 = true := zRw_ok (by decide +kernel)
noncomputable def B180_9 : List zRow := [(109, .goto 8, 3, (0, 0, 0))]
theorem K180_9 : zRk 180 B180_9 = true := zRw_ok (by decide +kernel)
noncomputable def B180_10 : List zRow := [(102, .ifCond .eq 10, 3, (0, 0, 0))]
theorem K180_10 : zRk 180 B180_10 = true := zRw_ok (by decide +kernel)
noncomputable def B180_11 : List zRow := [(88, .aload_n 0, 1, (0, 0, 0))]
theorem K180_11 : zRk 180 B180_11 = true := zRw_ok (by decide +kernel)
noncomputable def B180_12 : List zRow := [(92, .istore_n 1, 1, (0, 0, 0)), (93, .goto 25, 3, (0, 0, 0))]
theorem K180_12 : zRk 180 B180_12 = true := zRw_ok (by decide +kernel)
noncomputable def B180_13 : List zRow := [(85, .ifCond .eq 11, 3, (0, 0, 0))]
theorem K180_13 : zRk 180 B180_13 = true := zRw_ok (by decide +kernel)
noncomputable def B180_14 : List zRow := [(72, .aload_n 0, 1, (0, 0, 0))]
theorem K180_14 : zRk 180 B180_14 = true := zRw_ok (by decide +kernel)
noncomputable def B180_15 : List zRow := [(76, .istore_n 1, 1, (0, 0, 0)), (77, .goto 41, 3, (0, 0, 0))]
theorem K180_15 : zRk 180 B180_15 = true := zRw_ok (by decide +kernel)
noncomputable def B180_16 : List zRow := [(69, .ifCond .eq 11, 3, (0, 0, 0))]
theorem K180_16 : zRk 180 B180_16 = true := zRw_ok (by decide +kernel)
noncomputable def B180_17 : List zRow := [(56, .aload_n 0, 1, (0, 0, 0))]
theorem K180_17 : zRk 180 B180_17 = true := zRw_ok (by decide +kernel)
noncomputable def B180_18 : List zRow := [(60, .istore_n 1, 1, (0, 0, 0)), (61, .goto 57, 3, (0, 0, 0))]
theorem K180_18 : zRk 180 B180_18 = true := zRw_ok (by decide +kernel)
noncomputable def B180_19 : List zRow := [(53, .ifCond .eq 11, 3, (0, 0, 0))]
theorem K180_19 : zRk 180 B180_19 = true := zRw_ok (by decide +kernel)
noncomputable def B180_20 : List zRow := [(40, .aload_n 0, 1, (0, 0, 0))]
theorem K180_20 : zRk 180 B180_20 = true := zRw_ok (by decide +kernel)
noncomputable def B180_21 : List zRow := [(44, .istore_n 1, 1, (0, 0, 0)), (45, .goto 73, 3, (0, 0, 0))]
theorem K180_21 : zRk 180 B180_21 = true := zRw_ok (by decide +kernel)
noncomputable def B180_22 : List zRow := [(37, .ifCond .eq 11, 3, (0, 0, 0))]
theorem K180_22 : zRk 180 B180_22 = true := zRw_ok (by decide +kernel)
noncomputable def B180_23 : List zRow := [(24, .aload_n 0, 1, (0, 0, 0))]
theorem K180_23 : zRk 180 B180_23 = true := zRw_ok (by decide +kernel)
noncomputable def B180_24 : List zRow := [(28, .istore_n 1, 1, (0, 0, 0)), (29, .goto 89, 3, (0, 0, 0))]
theorem K180_24 : zRk 180 B180_24 = true := zRw_ok (by decide +kernel)
noncomputable def B180_25 : List zRow := [(21, .ifCond .eq 11, 3, (0, 0, 0))]
theorem K180_25 : zRk 180 B180_25 = true := zRw_ok (by decide +kernel)
noncomputable def B180_26 : List zRow := [(8, .aload_n 0, 1, (0, 0, 0))]
theorem K180_26 : zRk 180 B180_26 = true := zRw_ok (by decide +kernel)
noncomputable def B180_27 : List zRow := [(12, .istore_n 1, 1, (0, 0, 0)), (13, .goto 105, 3, (0, 0, 0))]
theorem K180_27 : zRk 180 B180_27 = true := zRw_ok (by decide +kernel)
noncomputable def B180_28 : List zRow := [(5, .ifCond .eq 11, 3, (0, 0, 0))]
theorem K180_28 : zRk 180 B180_28 = true := zRw_ok (by decide +kernel)
noncomputable def B180_29 : List zRow := [(133, .iconst 0, 1, (0, 0, 0))]
theorem K180_29 : zRk 180 B180_29 = true := zRw_ok (by decide +kernel)
noncomputable def B180_30 : List zRow := [(122, .aload_n 0, 1, (0, 0, 0))]
theorem K180_30 : zRk 180 B180_30 = true := zRw_ok (by decide +kernel)
noncomputable def B180_31 : List zRow := [(129, .iconst 1, 1, (0, 0, 0)), (130, .goto 4, 3, (0, 0, 0))]
theorem K180_31 : zRk 180 B180_31 = true := zRw_ok (by decide +kernel)
noncomputable def B180_32 : List zRow := [(126, .ifCond .eq 7, 3, (0, 0, 0))]
theorem K180_32 : zRk 180 B180_32 = true := zRw_ok (by decide +kernel)
noncomputable def B180_33 : List zRow := [(118, .iload_n 1, 1, (0, 0, 0)), (119, .ifCond .eq 14, 3, (0, 0, 0))]
theorem K180_33 : zRk 180 B180_33 = true := zRw_ok (by decide +kernel)
noncomputable def B180_34 : List zRow := [(117, .istore_n 1, 1, (0, 0, 0))]
theorem K180_34 : zRk 180 B180_34 = true := zRw_ok (by decide +kernel)
noncomputable def B173_0 : List zRow := [(0, .aload_n 0, 1, (0, 0, 0)), (1, .sipush 900, 3, (0, 0, 0))]
theorem K173_0 : zRk 173 B173_0 = true := zRw_ok (by decide +kernel)
noncomputable def B173_1 : List zRow := [(7, .iconst 0, 1, (0, 0, 0)), (8, .istore_n 1, 1, (0, 0, 0))]
theorem K173_1 : zRk 173 B173_1 = true := zRw_ok (by decide +kernel)
noncomputable def B173_2 : List zRow := [(29, .aload_n 0, 1, (0, 0, 0)), (30, .iconst 0, 1, (0, 0, 0)), (31, .putfield 186, 3, (12, 24, 0)), (34, .iconst 0, 1, (0, 0, 0)), (35, .istore_n 1, 1, (0, 0, 0))]
theorem K173_2 : zRk 173 B173_2 = true := zRw_ok (by decide +kernel)
noncomputable def B173_3 : List zRow := [(16, .aload_n 0, 1, (0, 0, 0)), (17, .getfield 16, 3, (12, 15, 5243718)), (20, .iload_n 1, 1, (0, 0, 0)), (21, .iconst 0, 1, (0, 0, 0)), (22, .iastore, 1, (0, 0, 0)), (23, .iinc 1 1, 3, (0, 0, 0)), (26, .goto (-17), 3, (0, 0, 0))]
theorem K173_3 : zRk 173 B173_3 = true := zRw_ok (by decide +kernel)
noncomputable def B173_4 : List zRow := [(9, .iload_n 1, 1, (0, 0, 0)), (10, .sipush 209, 3, (0, 0, 0)), (13, .if_icmp .ge 16, 3, (0, 0, 0))]
theorem K173_4 : zRk 173 B173_4 = true := zRw_ok (by decide +kernel)
noncomputable def B173_5 : List zRow := [(63, .iconst 0, 1, (0, 0, 0)), (64, .istore_n 2, 1, (0, 0, 0))]
theorem K173_5 : zRk 173 B173_5 = true := zRw_ok (by decide +kernel)
noncomputable def B173_6 : List zRow := [(43, .aload_n 0, 1, (0, 0, 0))]
theorem K173_6 : zRk 173 B173_6 = true := zRw_ok (by decide +kernel)
noncomputable def B173_7 : List zRow := [(57, .iinc 1 1, 3, (0, 0, 0)), (60, .goto (-24), 3, (0, 0, 0))]
theorem K173_7 : zRk 173 B173_7 = true := zRw_ok (by decide +kernel)
noncomputable def B173_8 : List zRow := [(50, .iconst (-1), 1, (0, 0, 0)), (51, .aload_n 0, 1, (0, 0, 0)), (52, .getfield 145, 3, (12, 11, 0))]
theorem K173_8 : zRk 173 B173_8 = true := zRw_ok (by decide +kernel)
noncomputable def B173_9 : List zRow := [(55, .isub, 1, (0, 0, 0))]
theorem K173_9 : zRk 173 B173_9 = true := zRw_ok (by decide +kernel)
noncomputable def B173_10 : List zRow := [(47, .ifCond .ne 10, 3, (0, 0, 0))]
theorem K173_10 : zRk 173 B173_10 = true := zRw_ok (by decide +kernel)
noncomputable def B173_11 : List zRow := [(36, .aload_n 0, 1, (0, 0, 0)), (37, .getfield 107, 3, (12, 7, 0)), (40, .ifCond .eq 23, 3, (0, 0, 0))]
theorem K173_11 : zRk 173 B173_11 = true := zRw_ok (by decide +kernel)
noncomputable def B173_12 : List zRow := [(101, .iconst 0, 1, (0, 0, 0)), (102, .istore_n 2, 1, (0, 0, 0))]
theorem K173_12 : zRk 173 B173_12 = true := zRw_ok (by decide +kernel)
noncomputable def B173_13 : List zRow := [(93, .iconst 0, 1, (0, 0, 0))]
theorem K173_13 : zRk 173 B173_13 = true := zRw_ok (by decide +kernel)
noncomputable def B173_14 : List zRow := [(84, .aload_n 0, 1, (0, 0, 0)), (85, .getfield 16, 3, (12, 15, 5243718)), (88, .iload_n 2, 1, (0, 0, 0)), (89, .iaload, 1, (0, 0, 0)), (90, .goto 4, 3, (0, 0, 0))]
theorem K173_14 : zRk 173 B173_14 = true := zRw_ok (by decide +kernel)
noncomputable def B173_15 : List zRow := [(72, .aload_n 0, 1, (0, 0, 0)), (73, .getfield 13, 3, (12, 14, 5251442)), (76, .iload_n 2, 1, (0, 0, 0)), (77, .iload_n 2, 1, (0, 0, 0)), (78, .sipush 209, 3, (0, 0, 0)), (81, .if_icmp .ge 12, 3, (0, 0, 0))]
theorem K173_15 : zRk 173 B173_15 = true := zRw_ok (by decide +kernel)
noncomputable def B173_16 : List zRow := [(65, .iload_n 2, 1, (0, 0, 0)), (66, .sipush 2140, 3, (0, 0, 0)), (69, .if_icmp .ge 32, 3, (0, 0, 0))]
theorem K173_16 : zRk 173 B173_16 = true := zRw_ok (by decide +kernel)
noncomputable def B173_17 : List zRow := [(94, .iastore, 1, (0, 0, 0)), (95, .iinc 2 1, 3, (0, 0, 0)), (98, .goto (-33), 3, (0, 0, 0))]
theorem K173_17 : zRk 173 B173_17 = true := zRw_ok (by decide +kernel)
noncomputable def B173_18 : List zRow := [(136, .iconst 0, 1, (0, 0, 0)), (137, .istore_n 2, 1, (0, 0, 0))]
theorem K173_18 : zRk 173 B173_18 = true := zRw_ok (by decide +kernel)
noncomputable def B173_19 : List zRow := [(109, .aload_n 0, 1, (0, 0, 0)), (110, .getfield 13, 3, (12, 14, 5251442)), (113, .sipush 210, 3, (0, 0, 0)), (116, .iload_n 2, 1, (0, 0, 0))]
theorem K173_19 : zRk 173 B173_19 = true := zRw_ok (by decide +kernel)
noncomputable def B173_20 : List zRow := [(117, .iadd, 1, (0, 0, 0)), (118, .aload_n 0, 1, (0, 0, 0)), (119, .getfield 13, 3, (12, 14, 5251442)), (122, .bipush 25, 2, (0, 0, 0)), (124, .iconst 2, 1, (0, 0, 0)), (125, .iload_n 2, 1, (0, 0, 0))]
theorem K173_20 : zRk 173 B173_20 = true := zRw_ok (by decide +kernel)
noncomputable def B173_21 : List zRow := [(126, .imul, 1, (0, 0, 0))]
theorem K173_21 : zRk 173 B173_21 = true := zRw_ok (by decide +kernel)
noncomputable def B173_22 : List zRow := [(127, .iadd, 1, (0, 0, 0)), (128, .iaload, 1, (0, 0, 0)), (129, .iastore, 1, (0, 0, 0)), (130, .iinc 2 1, 3, (0, 0, 0)), (133, .goto (-30), 3, (0, 0, 0))]
theorem K173_22 : zRk 173 B173_22 = true := zRw_ok (by decide +kernel)
noncomputable def B173_23 : List zRow := [(103, .iload_n 2, 1, (0, 0, 0)), (104, .bipush 6, 2, (0, 0, 0)), (106, .if_icmp .ge 30, 3, (0, 0, 0))]
theorem K173_23 : zRk 173 B173_23 = true := zRw_ok (by decide +kernel)
noncomputable def B173_24 : List zRow := [(162, .aload_n 0, 1, (0, 0, 0)), (163, .iconst 0, 1, (0, 0, 0)), (164, .putfield 232, 3, (12, 23, 0)), (167, .iload_n 1, 1, (0, 0, 0))]
theorem K173_24 : zRk 173 B173_24 = true := zRw_ok (by decide +kernel)
noncomputable def B173_25 : List zRow := [(144, .aload_n 0, 1, (0, 0, 0)), (145, .getfield 28, 3, (12, 19, 5505074)), (148, .iload_n 2, 1, (0, 0, 0)), (149, .aload_n 0, 1, (0, 0, 0)), (150, .getfield 32, 3, (12, 20, 5505074)), (153, .iload_n 2, 1, (0, 0, 0)), (154, .laload, 1, (0, 0, 0)), (155, .lastore, 1, (0, 0, 0)), (156, .iinc 2 1, 3, (0, 0, 0)), (159, .goto (-21), 3, (0, 0, 0))]
theorem K173_25 : zRk 173 B173_25 = true := zRw_ok (by decide +kernel)
noncomputable def B173_26 : List zRow := [(138, .iload_n 2, 1, (0, 0, 0)), (139, .bipush 12, 2, (0, 0, 0)), (141, .if_icmp .ge 21, 3, (0, 0, 0))]
theorem K173_26 : zRk 173 B173_26 = true := zRw_ok (by decide +kernel)
noncomputable def B56_0 : List zRow := [(0, .aload_n 0, 1, (0, 0, 0)), (1, .getfield 12, 3, (11, 0, 23)), (4, .getfield 136, 3, (5, 2, 0))]
theorem K56_0 : zRk 56 B56_0 = true := zRw_ok (by decide +kernel)
noncomputable def B203_0 : List zRow := [(0, .aload_n 0, 1, (0, 0, 0)), (1, .iconst 0, 1, (0, 0, 0)), (2, .putfield 81, 3, (12, 0, 0)), (5, .aload_n 0, 1, (0, 0, 0)), (6, .getfield 142, 3, (12, 10, 0))]
theorem K203_0 : zRk 203 B203_0 = true := zRw_ok (by decide +kernel)
noncomputable def B205_0 : List zRow := [(18, .iconst 0, 1, (0, 0, 0))]
theorem K205_0 : zRk 205 B205_0 = true := zRw_ok (by decide +kernel)
noncomputable def B205_1 : List zRow := [(14, .iconst 1, 1, (0, 0, 0)), (15, .goto 4, 3, (0, 0, 0))]
theorem K205_1 : zRk 205 B205_1 = true := zRw_ok (by decide +kernel)
noncomputable def B205_2 : List zRow := [(4, .iload_n 1, 1, (0, 0, 0)), (5, .aload_n 0, 1, (0, 0, 0)), (6, .getfield 13, 3, (12, 14, 5251442)), (9, .iconst 2, 1, (0, 0, 0)), (10, .iaload, 1, (0, 0, 0)), (11, .if_icmp .ge 7, 3, (0, 0, 0))]
theorem K205_2 : zRk 205 B205_2 = true := zRw_ok (by decide +kernel)
noncomputable def B205_3 : List zRow := [(0, .iload_n 1, 1, (0, 0, 0)), (1, .ifCond .lt 17, 3, (0, 0, 0))]
theorem K205_3 : zRk 205 B205_3 = true := zRw_ok (by decide +kernel)
noncomputable def B207_0 : List zRow := [(0, .aload_n 0, 1, (0, 0, 0)), (1, .getfield 13, 3, (12, 14, 5251442)), (4, .bipush 7, 2, (0, 0, 0)), (6, .iconst 3, 1, (0, 0, 0)), (7, .iload_n 1, 1, (0, 0, 0))]
theorem K207_0 : zRk 207 B207_0 = true := zRw_ok (by decide +kernel)
noncomputable def B207_1 : List zRow := [(8, .imul, 1, (0, 0, 0))]
theorem K207_1 : zRk 207 B207_1 = true := zRw_ok (by decide +kernel)
noncomputable def B207_2 : List zRow := [(9, .iadd, 1, (0, 0, 0)), (10, .iconst 2, 1, (0, 0, 0)), (11, .iadd, 1, (0, 0, 0)), (12, .iaload, 1, (0, 0, 0))]
theorem K207_2 : zRk 207 B207_2 = true := zRw_ok (by decide +kernel)
noncomputable def B208_0 : List zRow := [(0, .iconst 0, 1, (0, 0, 0)), (1, .istore_n 2, 1, (0, 0, 0)), (2, .iconst (-1), 1, (0, 0, 0)), (3, .istore_n 3, 1, (0, 0, 0)), (4, .iconst 0, 1, (0, 0, 0)), (5, .istore 4, 2, (0, 0, 0))]
theorem K208_0 : zRk 208 B208_0 = true := zRw_ok (by decide +kernel)
noncomputable def B208_1 : List zRow := [(74, .iload_n 2, 1, (0, 0, 0))]
theorem K208_1 : zRk 208 B208_1 = true := zRw_ok (by decide +kernel)
noncomputable def B208_2 : List zRow := [(19, .aload_n 0, 1, (0, 0, 0)), (20, .getfield 13, 3, (12, 14, 5251442)), (23, .sipush 197, 3, (0, 0, 0)), (26, .iconst 2, 1, (0, 0, 0)), (27, .iload 4, 2, (0, 0, 0))]
theorem K208_2 : zRk 208 B208_2 = true := zRw_ok (by decide +kernel)
noncomputable def B208_3 : List zRow := [(29, .imul, 1, (0, 0, 0))]
theorem K208_3 : zRk 208 B208_3 = true := zRw_ok (by decide +kernel)
noncomputable def B208_4 : List zRow := [(49, .iload 5, 2, (0, 0, 0)), (51, .istore_n 3, 1, (0, 0, 0)), (52, .aload_n 0, 1, (0, 0, 0)), (53, .getfield 13, 3, (12, 14, 5251442)), (56, .sipush 197, 3, (0, 0, 0)), (59, .iconst 2, 1, (0, 0, 0)), (60, .iload 4, 2, (0, 0, 0))]
theorem K208_4 : zRk 208 B208_4 = true := zRw_ok (by decide +kernel)
noncomputable def B208_5 : List zRow := [(62, .imul, 1, (0, 0, 0))]
theorem K208_5 : zRk 208 B208_5 = true := zRw_ok (by decide +kernel)
noncomputable def B208_6 : List zRow := [(63, .iadd, 1, (0, 0, 0)), (64, .iconst 1, 1, (0, 0, 0)), (65, .iadd, 1, (0, 0, 0)), (66, .iaload, 1, (0, 0, 0)), (67, .istore_n 2, 1, (0, 0, 0))]
theorem K208_6 : zRk 208 B208_6 = true := zRw_ok (by decide +kernel)
noncomputable def B208_7 : List zRow := [(46, .goto 22, 3, (0, 0, 0))]
theorem K208_7 : zRk 208 B208_7 = true := zRw_ok (by decide +kernel)
noncomputable def B208_8 : List zRow := [(40, .iload 5, 2, (0, 0, 0)), (42, .iload_n 3, 1, (0, 0, 0)), (43, .if_icmp .ge 6, 3, (0, 0, 0))]
theorem K208_8 : zRk 208 B208_8 = true := zRw_ok (by decide +kernel)
noncomputable def B208_9 : List zRow := [(30, .iadd, 1, (0, 0, 0)), (31, .iaload, 1, (0, 0, 0)), (32, .istore 5, 2, (0, 0, 0)), (34, .iload 5, 2, (0, 0, 0)), (36, .iload_n 1, 1, (0, 0, 0)), (37, .if_icmp .gt 31, 3, (0, 0, 0))]
theorem K208_9 : zRk 208 B208_9 = true := zRw_ok (by decide +kernel)
noncomputable def B208_10 : List zRow := [(7, .iload 4, 2, (0, 0, 0)), (9, .aload_n 0, 1, (0, 0, 0)), (10, .getfield 13, 3, (12, 14, 5251442)), (13, .bipush 6, 2, (0, 0, 0)), (15, .iaload, 1, (0, 0, 0)), (16, .if_icmp .ge 58, 3, (0, 0, 0))]
theorem K208_10 : zRk 208 B208_10 = true := zRw_ok (by decide +kernel)
noncomputable def B208_11 : List zRow := [(68, .iinc 4 1, 3, (0, 0, 0)), (71, .goto (-64), 3, (0, 0, 0))]
theorem K208_11 : zRk 208 B208_11 = true := zRw_ok (by decide +kernel)
noncomputable def B206_0 : List zRow := [(0, .aload_n 0, 1, (0, 0, 0)), (1, .iconst 1, 1, (0, 0, 0)), (2, .putfield 81, 3, (12, 0, 0)), (5, .iconst 0, 1, (0, 0, 0))]
theorem K206_0 : zRk 206 B206_0 = true := zRw_ok (by decide +kernel)
noncomputable def B204_0 : List zRow := [(0, .aload_n 0, 1, (0, 0, 0)), (1, .iload_n 1, 1, (0, 0, 0))]
theorem K204_0 : zRk 204 B204_0 = true := zRw_ok (by decide +kernel)
noncomputable def B204_1 : List zRow := [(8, .iload_n 2, 1, (0, 0, 0)), (9, .iconst 0, 1, (0, 0, 0)), (10, .iconst 3, 1, (0, 0, 0))]
theorem K204_1 : zRk 204 B204_1 = true := zRw_ok (by decide +kernel)
noncomputable def B204_2 : List zRow := [(22, .aload_n 0, 1, (0, 0, 0)), (23, .iconst 0, 1, (0, 0, 0)), (24, .putfield 81, 3, (12, 0, 0)), (27, .aload_n 0, 1, (0, 0, 0)), (28, .iload_n 1, 1, (0, 0, 0))]
theorem K204_2 : zRk 204 B204_2 = true := zRw_ok (by decide +kernel)
noncomputable def B204_3 : List zRow := [(32, .aload_n 0, 1, (0, 0, 0)), (33, .aload_n 0, 1, (0, 0, 0)), (34, .getfield 13, 3, (12, 14, 5251442)), (37, .sipush 209, 3, (0, 0, 0)), (40, .iaload, 1, (0, 0, 0))]
theorem K204_3 : zRk 204 B204_3 = true := zRw_ok (by decide +kernel)
noncomputable def B204_4 : List zRow := [(75, .iload_n 3, 1, (0, 0, 0))]
theorem K204_4 : zRk 204 B204_4 = true := zRw_ok (by decide +kernel)
noncomputable def B204_5 : List zRow := [(71, .iconst 0, 1, (0, 0, 0)), (72, .goto 4, 3, (0, 0, 0))]
theorem K204_5 : zRk 204 B204_5 = true := zRw_ok (by decide +kernel)
noncomputable def B204_6 : List zRow := [(67, .iload_n 3, 1, (0, 0, 0)), (68, .ifCond .ge 7, 3, (0, 0, 0))]
theorem K204_6 : zRk 204 B204_6 = true := zRw_ok (by decide +kernel)
noncomputable def B204_7 : List zRow := [(51, .aload_n 0, 1, (0, 0, 0)), (52, .getfield 13, 3, (12, 14, 5251442)), (55, .bipush 7, 2, (0, 0, 0)), (57, .iconst 3, 1, (0, 0, 0)), (58, .iload_n 1, 1, (0, 0, 0))]
theorem K204_7 : zRk 204 B204_7 = true := zRw_ok (by decide +kernel)
noncomputable def B204_8 : List zRow := [(59, .imul, 1, (0, 0, 0))]
theorem K204_8 : zRk 204 B204_8 = true := zRw_ok (by decide +kernel)
noncomputable def B204_9 : List zRow := [(60, .iadd, 1, (0, 0, 0)), (61, .iload_n 2, 1, (0, 0, 0)), (62, .iadd, 1, (0, 0, 0)), (63, .iaload, 1, (0, 0, 0)), (64, .goto 12, 3, (0, 0, 0))]
theorem K204_9 : zRk 204 B204_9 = true := zRw_ok (by decide +kernel)
noncomputable def B204_10 : List zRow := [(44, .isub, 1, (0, 0, 0)), (45, .istore_n 3, 1, (0, 0, 0)), (46, .iload_n 2, 1, (0, 0, 0)), (47, .iconst 3, 1, (0, 0, 0)), (48, .if_icmp .ge 19, 3, (0, 0, 0))]
theorem K204_10 : zRk 204 B204_10 = true := zRw_ok (by decide +kernel)
noncomputable def B204_11 : List zRow := [(14, .ifCond .ne 8, 3, (0, 0, 0))]
theorem K204_11 : zRk 204 B204_11 = true := zRw_ok (by decide +kernel)
noncomputable def B204_12 : List zRow := [(5, .ifCond .eq 12, 3, (0, 0, 0))]
theorem K204_12 : zRk 204 B204_12 = true := zRw_ok (by decide +kernel)
noncomputable def B204_13 : List zRow := [(17, .aload_n 0, 1, (0, 0, 0))]
theorem K204_13 : zRk 204 B204_13 = true := zRw_ok (by decide +kernel)
noncomputable def B210_0 : List zRow := [(18, .iconst 0, 1, (0, 0, 0))]
theorem K210_0 : zRk 210 B210_0 = true := zRw_ok (by decide +kernel)
noncomputable def B210_1 : List zRow := [(14, .iconst 1, 1, (0, 0, 0)), (15, .goto 4, 3, (0, 0, 0))]
theorem K210_1 : zRk 210 B210_1 = true := zRw_ok (by decide +kernel)
noncomputable def B210_2 : List zRow := [(4, .iload_n 1, 1, (0, 0, 0)), (5, .aload_n 0, 1, (0, 0, 0)), (6, .getfield 13, 3, (12, 14, 5251442)), (9, .iconst 3, 1, (0, 0, 0)), (10, .iaload, 1, (0, 0, 0)), (11, .if_icmp .ge 7, 3, (0, 0, 0))]
theorem K210_2 : zRk 210 B210_2 = true := zRw_ok (by decide +kernel)
noncomputable def B210_3 : List zRow := [(0, .iload_n 1, 1, (0, 0, 0)), (1, .ifCond .lt 17, 3, (0, 0, 0))]
theorem K210_3 : zRk 210 B210_3 = true := zRw_ok (by decide +kernel)
noncomputable def B213_0 : List zRow := [(0, .aload_n 0, 1, (0, 0, 0)), (1, .getfield 13, 3, (12, 14, 5251442)), (4, .sipush 217, 3, (0, 0, 0)), (7, .bipush 8, 2, (0, 0, 0)), (9, .iload_n 1, 1, (0, 0, 0))]
theorem K213_0 : zRk 213 B213_0 = true := zRw_ok (by decide +kernel)
noncomputable def B213_1 : List zRow := [(10, .imul, 1, (0, 0, 0))]
theorem K213_1 : zRk 213 B213_1 = true := zRw_ok (by decide +kernel)
noncomputable def B213_2 : List zRow := [(11, .iadd, 1, (0, 0, 0)), (12, .iload_n 2, 1, (0, 0, 0)), (13, .iadd, 1, (0, 0, 0)), (14, .iaload, 1, (0, 0, 0))]
theorem K213_2 : zRk 213 B213_2 = true := zRw_ok (by decide +kernel)
noncomputable def B214_0 : List zRow := [(13, .iconst 0, 1, (0, 0, 0))]
theorem K214_0 : zRk 214 B214_0 = true := zRw_ok (by decide +kernel)
noncomputable def B214_1 : List zRow := [(9, .iconst 1, 1, (0, 0, 0)), (10, .goto 4, 3, (0, 0, 0))]
theorem K214_1 : zRk 214 B214_1 = true := zRw_ok (by decide +kernel)
noncomputable def B214_2 : List zRow := [(0, .iload_n 0, 1, (0, 0, 0)), (1, .iload_n 1, 1, (0, 0, 0)), (2, .ishr, 1, (0, 0, 0)), (3, .iconst 1, 1, (0, 0, 0)), (4, .iand, 1, (0, 0, 0)), (5, .iconst 1, 1, (0, 0, 0)), (6, .if_icmp .ne 7, 3, (0, 0, 0))]
theorem K214_2 : zRk 214 B214_2 = true := zRw_ok (by decide +kernel)
noncomputable def B215_0 : List zRow := [(0, .iconst 0, 1, (0, 0, 0)), (1, .istore_n 1, 1, (0, 0, 0)), (2, .iload_n 0, 1, (0, 0, 0)), (3, .istore_n 2, 1, (0, 0, 0))]
theorem K215_0 : zRk 215 B215_0 = true := zRw_ok (by decide +kernel)
noncomputable def B215_1 : List zRow := [(20, .iload_n 1, 1, (0, 0, 0))]
theorem K215_1 : zRk 215 B215_1 = true := zRw_ok (by decide +kernel)
noncomputable def B215_2 : List zRow := [(8, .iinc 1 1, 3, (0, 0, 0)), (11, .iload_n 2, 1, (0, 0, 0)), (12, .iload_n 2, 1, (0, 0, 0)), (13, .iconst 1, 1, (0, 0, 0)), (14, .isub, 1, (0, 0, 0)), (15, .iand, 1, (0, 0, 0)), (16, .istore_n 2, 1, (0, 0, 0)), (17, .goto (-13), 3, (0, 0, 0))]
theorem K215_2 : zRk 215 B215_2 = true := zRw_ok (by decide +kernel)
noncomputable def B215_3 : List zRow := [(4, .iload_n 2, 1, (0, 0, 0)), (5, .ifCond .eq 15, 3, (0, 0, 0))]
theorem K215_3 : zRk 215 B215_3 = true := zRw_ok (by decide +kernel)
noncomputable def B212_0 : List zRow := [(0, .aload_n 0, 1, (0, 0, 0)), (1, .iload_n 2, 1, (0, 0, 0)), (2, .iconst 5, 1, (0, 0, 0))]
theorem K212_0 : zRk 212 B212_0 = true := zRw_ok (by decide +kernel)
noncomputable def B212_1 : List zRow := [(6, .istore_n 3, 1, (0, 0, 0)), (7, .iload_n 3, 1, (0, 0, 0)), (8, .iload_n 1, 1, (0, 0, 0))]
theorem K212_1 : zRk 212 B212_1 = true := zRw_ok (by decide +kernel)
noncomputable def B212_2 : List zRow := [(17, .iload_n 3, 1, (0, 0, 0))]
theorem K212_2 : zRk 212 B212_2 = true := zRw_ok (by decide +kernel)
noncomputable def B212_3 : List zRow := [(21, .istore 4, 2, (0, 0, 0)), (23, .iload_n 3, 1, (0, 0, 0)), (24, .iconst 1, 1, (0, 0, 0)), (25, .iload_n 1, 1, (0, 0, 0)), (26, .ishl, 1, (0, 0, 0)), (27, .iconst 1, 1, (0, 0, 0)), (28, .isub, 1, (0, 0, 0)), (29, .iand, 1, (0, 0, 0))]
theorem K212_3 : zRk 212 B212_3 = true := zRw_ok (by decide +kernel)
noncomputable def B212_4 : List zRow := [(33, .istore 5, 2, (0, 0, 0)), (35, .aload_n 0, 1, (0, 0, 0)), (36, .iload_n 2, 1, (0, 0, 0)), (37, .iconst 0, 1, (0, 0, 0))]
theorem K212_4 : zRk 212 B212_4 = true := zRw_ok (by decide +kernel)
noncomputable def B212_5 : List zRow := [(41, .iload 4, 2, (0, 0, 0)), (43, .idiv, 1, (0, 0, 0)), (44, .iload 5, 2, (0, 0, 0)), (46, .aload_n 0, 1, (0, 0, 0)), (47, .iload_n 2, 1, (0, 0, 0)), (48, .iconst 0, 1, (0, 0, 0))]
theorem K212_5 : zRk 212 B212_5 = true := zRw_ok (by decide +kernel)
noncomputable def B212_6 : List zRow := [(62, .iconst 0, 1, (0, 0, 0))]
theorem K212_6 : zRk 212 B212_6 = true := zRw_ok (by decide +kernel)
noncomputable def B212_7 : List zRow := [(58, .iconst 1, 1, (0, 0, 0)), (59, .goto 4, 3, (0, 0, 0))]
theorem K212_7 : zRk 212 B212_7 = true := zRw_ok (by decide +kernel)
noncomputable def B212_8 : List zRow := [(52, .iload 4, 2, (0, 0, 0)), (54, .irem, 1, (0, 0, 0)), (55, .if_icmp .ge 7, 3, (0, 0, 0))]
theorem K212_8 : zRk 212 B212_8 = true := zRw_ok (by decide +kernel)
noncomputable def B212_9 : List zRow := [(15, .iconst 0, 1, (0, 0, 0))]
theorem K212_9 : zRk 212 B212_9 = true := zRw_ok (by decide +kernel)
noncomputable def B212_10 : List zRow := [(12, .ifCond .ne 5, 3, (0, 0, 0))]
theorem K212_10 : zRk 212 B212_10 = true := zRw_ok (by decide +kernel)
noncomputable def B212_11 : List zRow := [(63, .iadd, 1, (0, 0, 0))]
theorem K212_11 : zRk 212 B212_11 = true := zRw_ok (by decide +kernel)
noncomputable def B211_0 : List zRow := [(0, .iconst 0, 1, (0, 0, 0)), (1, .istore_n 2, 1, (0, 0, 0)), (2, .iconst 0, 1, (0, 0, 0)), (3, .istore_n 3, 1, (0, 0, 0))]
theorem K211_0 : zRk 211 B211_0 = true := zRw_ok (by decide +kernel)
noncomputable def B211_1 : List zRow := [(31, .iload_n 2, 1, (0, 0, 0))]
theorem K211_1 : zRk 211 B211_1 = true := zRw_ok (by decide +kernel)
noncomputable def B211_2 : List zRow := [(16, .iload_n 2, 1, (0, 0, 0)), (17, .aload_n 0, 1, (0, 0, 0)), (18, .iload_n 1, 1, (0, 0, 0)), (19, .iload_n 3, 1, (0, 0, 0))]
theorem K211_2 : zRk 211 B211_2 = true := zRw_ok (by decide +kernel)
noncomputable def B211_3 : List zRow := [(23, .iadd, 1, (0, 0, 0)), (24, .istore_n 2, 1, (0, 0, 0)), (25, .iinc 3 1, 3, (0, 0, 0)), (28, .goto (-24), 3, (0, 0, 0))]
theorem K211_3 : zRk 211 B211_3 = true := zRw_ok (by decide +kernel)
noncomputable def B211_4 : List zRow := [(4, .iload_n 3, 1, (0, 0, 0)), (5, .aload_n 0, 1, (0, 0, 0)), (6, .getfield 13, 3, (12, 14, 5251442)), (9, .sipush 216, 3, (0, 0, 0)), (12, .iaload, 1, (0, 0, 0)), (13, .if_icmp .ge 18, 3, (0, 0, 0))]
theorem K211_4 : zRk 211 B211_4 = true := zRw_ok (by decide +kernel)
noncomputable def B209_0 : List zRow := [(0, .aload_n 0, 1, (0, 0, 0)), (1, .iload_n 1, 1, (0, 0, 0))]
theorem K209_0 : zRk 209 B209_0 = true := zRw_ok (by decide +kernel)
noncomputable def B209_1 : List zRow := [(8, .iload_n 2, 1, (0, 0, 0)), (9, .iconst 0, 1, (0, 0, 0)), (10, .iconst 5, 1, (0, 0, 0))]
theorem K209_1 : zRk 209 B209_1 = true := zRw_ok (by decide +kernel)
noncomputable def B209_2 : List zRow := [(72, .iconst 0, 1, (0, 0, 0)), (73, .istore_n 3, 1, (0, 0, 0)), (74, .iconst 0, 1, (0, 0, 0)), (75, .istore 4, 2, (0, 0, 0))]
theorem K209_2 : zRk 209 B209_2 = true := zRw_ok (by decide +kernel)
noncomputable def B209_3 : List zRow := [(58, .aload_n 0, 1, (0, 0, 0)), (59, .getfield 13, 3, (12, 14, 5251442)), (62, .bipush 25, 2, (0, 0, 0)), (64, .iconst 2, 1, (0, 0, 0)), (65, .iload_n 1, 1, (0, 0, 0))]
theorem K209_3 : zRk 209 B209_3 = true := zRw_ok (by decide +kernel)
noncomputable def B209_4 : List zRow := [(66, .imul, 1, (0, 0, 0))]
theorem K209_4 : zRk 209 B209_4 = true := zRw_ok (by decide +kernel)
noncomputable def B209_5 : List zRow := [(67, .iadd, 1, (0, 0, 0)), (68, .iconst 1, 1, (0, 0, 0)), (69, .iadd, 1, (0, 0, 0)), (70, .iaload, 1, (0, 0, 0))]
theorem K209_5 : zRk 209 B209_5 = true := zRw_ok (by decide +kernel)
noncomputable def B209_6 : List zRow := [(53, .iload_n 2, 1, (0, 0, 0)), (54, .iconst 5, 1, (0, 0, 0)), (55, .if_icmp .ne 17, 3, (0, 0, 0))]
theorem K209_6 : zRk 209 B209_6 = true := zRw_ok (by decide +kernel)
noncomputable def B209_7 : List zRow := [(47, .aload_n 0, 1, (0, 0, 0)), (48, .iload_n 1, 1, (0, 0, 0))]
theorem K209_7 : zRk 209 B209_7 = true := zRw_ok (by decide +kernel)
noncomputable def B209_8 : List zRow := [(42, .iload_n 2, 1, (0, 0, 0)), (43, .iconst 1, 1, (0, 0, 0)), (44, .if_icmp .ne 9, 3, (0, 0, 0))]
theorem K209_8 : zRk 209 B209_8 = true := zRw_ok (by decide +kernel)
noncomputable def B209_9 : List zRow := [(31, .aload_n 0, 1, (0, 0, 0)), (32, .getfield 13, 3, (12, 14, 5251442)), (35, .sipush 210, 3, (0, 0, 0)), (38, .iload_n 1, 1, (0, 0, 0))]
theorem K209_9 : zRk 209 B209_9 = true := zRw_ok (by decide +kernel)
noncomputable def B209_10 : List zRow := [(39, .iadd, 1, (0, 0, 0)), (40, .iaload, 1, (0, 0, 0))]
theorem K209_10 : zRk 209 B209_10 = true := zRw_ok (by decide +kernel)
noncomputable def B209_11 : List zRow := [(22, .aload_n 0, 1, (0, 0, 0)), (23, .iconst 0, 1, (0, 0, 0)), (24, .putfield 81, 3, (12, 0, 0)), (27, .iload_n 2, 1, (0, 0, 0)), (28, .ifCond .ne 14, 3, (0, 0, 0))]
theorem K209_11 : zRk 209 B209_11 = true := zRw_ok (by decide +kernel)
noncomputable def B209_12 : List zRow := [(14, .ifCond .ne 8, 3, (0, 0, 0))]
theorem K209_12 : zRk 209 B209_12 = true := zRw_ok (by decide +kernel)
noncomputable def B209_13 : List zRow := [(5, .ifCond .eq 12, 3, (0, 0, 0))]
theorem K209_13 : zRk 209 B209_13 = true := zRw_ok (by decide +kernel)
noncomputable def B209_14 : List zRow := [(155, .iload_n 3, 1, (0, 0, 0))]
theorem K209_14 : zRk 209 B209_14 = true := zRw_ok (by decide +kernel)
noncomputable def B209_15 : List zRow := [(131, .aload_n 0, 1, (0, 0, 0)), (132, .iload 4, 2, (0, 0, 0)), (134, .bipush 7, 2, (0, 0, 0))]
theorem K209_15 : zRk 209 B209_15 = true := zRw_ok (by decide +kernel)
noncomputable def B209_16 : List zRow := [(139, .iload_n 1, 1, (0, 0, 0))]
theorem K209_16 : zRk 209 B209_16 = true := zRw_ok (by decide +kernel)
noncomputable def B209_17 : List zRow := [(143, .ifCond .eq 6, 3, (0, 0, 0))]
theorem K209_17 : zRk 209 B209_17 = true := zRw_ok (by decide +kernel)
noncomputable def B209_18 : List zRow := [(117, .aload_n 0, 1, (0, 0, 0)), (118, .iload 4, 2, (0, 0, 0)), (120, .iconst 1, 1, (0, 0, 0))]
theorem K209_18 : zRk 209 B209_18 = true := zRw_ok (by decide +kernel)
noncomputable def B209_19 : List zRow := [(128, .goto 18, 3, (0, 0, 0))]
theorem K209_19 : zRk 209 B209_19 = true := zRw_ok (by decide +kernel)
noncomputable def B209_20 : List zRow := [(124, .iload_n 1, 1, (0, 0, 0)), (125, .if_icmp .ne 24, 3, (0, 0, 0))]
theorem K209_20 : zRk 209 B209_20 = true := zRw_ok (by decide +kernel)
noncomputable def B209_21 : List zRow := [(112, .iload_n 2, 1, (0, 0, 0)), (113, .iconst 3, 1, (0, 0, 0)), (114, .if_icmp .ne 17, 3, (0, 0, 0))]
theorem K209_21 : zRk 209 B209_21 = true := zRw_ok (by decide +kernel)
noncomputable def B209_22 : List zRow := [(95, .aload_n 0, 1, (0, 0, 0)), (96, .iload 4, 2, (0, 0, 0)), (98, .iconst 5, 1, (0, 0, 0))]
theorem K209_22 : zRk 209 B209_22 = true := zRw_ok (by decide +kernel)
noncomputable def B209_23 : List zRow := [(102, .iload_n 1, 1, (0, 0, 0))]
theorem K209_23 : zRk 209 B209_23 = true := zRw_ok (by decide +kernel)
noncomputable def B209_24 : List zRow := [(109, .goto 37, 3, (0, 0, 0))]
theorem K209_24 : zRk 209 B209_24 = true := zRw_ok (by decide +kernel)
noncomputable def B209_25 : List zRow := [(106, .ifCond .eq 43, 3, (0, 0, 0))]
theorem K209_25 : zRk 209 B209_25 = true := zRw_ok (by decide +kernel)
noncomputable def B209_26 : List zRow := [(90, .iload_n 2, 1, (0, 0, 0)), (91, .iconst 2, 1, (0, 0, 0)), (92, .if_icmp .ne 20, 3, (0, 0, 0))]
theorem K209_26 : zRk 209 B209_26 = true := zRw_ok (by decide +kernel)
noncomputable def B209_27 : List zRow := [(77, .iload 4, 2, (0, 0, 0)), (79, .aload_n 0, 1, (0, 0, 0)), (80, .getfield 13, 3, (12, 14, 5251442)), (83, .sipush 216, 3, (0, 0, 0)), (86, .iaload, 1, (0, 0, 0)), (87, .if_icmp .ge 68, 3, (0, 0, 0))]
theorem K209_27 : zRk 209 B209_27 = true := zRw_ok (by decide +kernel)
noncomputable def B209_28 : List zRow := [(146, .iinc 3 1, 3, (0, 0, 0))]
theorem K209_28 : zRk 209 B209_28 = true := zRw_ok (by decide +kernel)
noncomputable def B209_29 : List zRow := [(149, .iinc 4 1, 3, (0, 0, 0)), (152, .goto (-75), 3, (0, 0, 0))]
theorem K209_29 : zRk 209 B209_29 = true := zRw_ok (by decide +kernel)
noncomputable def B209_30 : List zRow := [(17, .aload_n 0, 1, (0, 0, 0))]
theorem K209_30 : zRk 209 B209_30 = true := zRw_ok (by decide +kernel)
noncomputable def B169_0 : List zRow := [(0, .aload_n 0, 1, (0, 0, 0)), (1, .getfield 81, 3, (12, 0, 0))]
theorem K169_0 : zRk 169 B169_0 = true := zRw_ok (by decide +kernel)
noncomputable def B217_0 : List zRow := [(20, .iconst 0, 1, (0, 0, 0))]
theorem K217_0 : zRk 217 B217_0 = true := zRw_ok (by decide +kernel)
noncomputable def B217_1 : List zRow := [(16, .iconst 1, 1, (0, 0, 0)), (17, .goto 4, 3, (0, 0, 0))]
theorem K217_1 : zRk 217 B217_1 = true := zRw_ok (by decide +kernel)
noncomputable def B217_2 : List zRow := [(4, .iload_n 1, 1, (0, 0, 0)), (5, .aload_n 0, 1, (0, 0, 0)), (6, .getfield 13, 3, (12, 14, 5251442)), (9, .sipush 216, 3, (0, 0, 0)), (12, .iaload, 1, (0, 0, 0)), (13, .if_icmp .ge 7, 3, (0, 0, 0))]
theorem K217_2 : zRk 217 B217_2 = true := zRw_ok (by decide +kernel)
noncomputable def B217_3 : List zRow := [(0, .iload_n 1, 1, (0, 0, 0)), (1, .ifCond .lt 19, 3, (0, 0, 0))]
theorem K217_3 : zRk 217 B217_3 = true := zRw_ok (by decide +kernel)
noncomputable def B216_0 : List zRow := [(0, .aload_n 0, 1, (0, 0, 0)), (1, .iload_n 1, 1, (0, 0, 0))]
theorem K216_0 : zRk 216 B216_0 = true := zRw_ok (by decide +kernel)
noncomputable def B216_1 : List zRow := [(8, .iload_n 2, 1, (0, 0, 0)), (9, .iconst 0, 1, (0, 0, 0)), (10, .bipush 7, 2, (0, 0, 0))]
theorem K216_1 : zRk 216 B216_1 = true := zRw_ok (by decide +kernel)
noncomputable def B216_2 : List zRow := [(23, .aload_n 0, 1, (0, 0, 0)), (24, .iconst 0, 1, (0, 0, 0)), (25, .putfield 81, 3, (12, 0, 0)), (28, .aload_n 0, 1, (0, 0, 0)), (29, .iload_n 1, 1, (0, 0, 0)), (30, .iload_n 2, 1, (0, 0, 0))]
theorem K216_2 : zRk 216 B216_2 = true := zRw_ok (by decide +kernel)
noncomputable def B216_3 : List zRow := [(15, .ifCond .ne 8, 3, (0, 0, 0))]
theorem K216_3 : zRk 216 B216_3 = true := zRw_ok (by decide +kernel)
noncomputable def B216_4 : List zRow := [(5, .ifCond .eq 13, 3, (0, 0, 0))]
theorem K216_4 : zRk 216 B216_4 = true := zRw_ok (by decide +kernel)
noncomputable def B216_5 : List zRow := [(18, .aload_n 0, 1, (0, 0, 0))]
theorem K216_5 : zRk 216 B216_5 = true := zRw_ok (by decide +kernel)
noncomputable def B58_0 : List zRow := [(19, .iconst 0, 1, (0, 0, 0))]
theorem K58_0 : zRk 58 B58_0 = true := zRw_ok (by decide +kernel)
noncomputable def B58_1 : List zRow := [(15, .iconst 1, 1, (0, 0, 0)), (16, .goto 4, 3, (0, 0, 0))]
theorem K58_1 : zRk 58 B58_1 = true := zRw_ok (by decide +kernel)
noncomputable def B58_2 : List zRow := [(4, .iload_n 1, 1, (0, 0, 0)), (5, .aload_n 0, 1, (0, 0, 0)), (6, .getfield 56, 3, (11, 6, 7)), (9, .getfield 354, 3, (1, 1, 0)), (12, .if_icmp .ge 7, 3, (0, 0, 0))]
theorem K58_2 : zRk 58 B58_2 = true := zRw_ok (by decide +kernel)
noncomputable def B58_3 : List zRow := [(0, .iload_n 1, 1, (0, 0, 0)), (1, .ifCond .lt 18, 3, (0, 0, 0))]
theorem K58_3 : zRk 58 B58_3 = true := zRw_ok (by decide +kernel)
noncomputable def B59_0 : List zRow := [(19, .iconst 0, 1, (0, 0, 0))]
theorem K59_0 : zRk 59 B59_0 = true := zRw_ok (by decide +kernel)
noncomputable def B59_1 : List zRow := [(15, .iconst 1, 1, (0, 0, 0)), (16, .goto 4, 3, (0, 0, 0))]
theorem K59_1 : zRk 59 B59_1 = true := zRw_ok (by decide +kernel)
noncomputable def B59_2 : List zRow := [(4, .iload_n 1, 1, (0, 0, 0)), (5, .aload_n 0, 1, (0, 0, 0)), (6, .getfield 19, 3, (11, 1, 39)), (9, .getfield 282, 3, (9, 2, 0)), (12, .if_icmp .ge 7, 3, (0, 0, 0))]
theorem K59_2 : zRk 59 B59_2 = true := zRw_ok (by decide +kernel)
noncomputable def B59_3 : List zRow := [(0, .iload_n 1, 1, (0, 0, 0)), (1, .ifCond .lt 18, 3, (0, 0, 0))]
theorem K59_3 : zRk 59 B59_3 = true := zRw_ok (by decide +kernel)
noncomputable def B57_0 : List zRow := [(0, .aload_n 0, 1, (0, 0, 0)), (1, .iload_n 1, 1, (0, 0, 0))]
theorem K57_0 : zRk 57 B57_0 = true := zRw_ok (by decide +kernel)
noncomputable def B57_1 : List zRow := [(16, .iconst (-1), 1, (0, 0, 0))]
theorem K57_1 : zRk 57 B57_1 = true := zRw_ok (by decide +kernel)
noncomputable def B57_2 : List zRow := [(8, .aload_n 0, 1, (0, 0, 0)), (9, .iload_n 2, 1, (0, 0, 0))]
theorem K57_2 : zRk 57 B57_2 = true := zRw_ok (by decide +kernel)
noncomputable def B57_3 : List zRow := [(44, .aload_n 0, 1, (0, 0, 0)), (45, .getfield 56, 3, (11, 6, 7)), (48, .getfield 199, 3, (1, 4, 5243602)), (51, .iload_n 1, 1, (0, 0, 0)), (52, .bipush 6, 2, (0, 0, 0)), (54, .imul, 1, (0, 0, 0)), (55, .iload_n 2, 1, (0, 0, 0)), (56, .iadd, 1, (0, 0, 0)), (57, .iaload, 1, (0, 0, 0))]
theorem K57_3 : zRk 57 B57_3 = true := zRw_ok (by decide +kernel)
noncomputable def B57_4 : List zRow := [(18, .iload_n 3, 1, (0, 0, 0)), (19, .lookupswitch 77 #[(0, 25), (1, 40)], 25, (0, 0, 0))]
theorem K57_4 : zRk 57 B57_4 = true := by decide +kernel
noncomputable def B57_5 : List zRow := [(81, .aload_n 0, 1, (0, 0, 0)), (82, .getfield 56, 3, (11, 6, 7)), (85, .getfield 202, 3, (1, 5, 5243602)), (88, .iload_n 1, 1, (0, 0, 0)), (89, .bipush 6, 2, (0, 0, 0)), (91, .imul, 1, (0, 0, 0)), (92, .iload_n 2, 1, (0, 0, 0)), (93, .iadd, 1, (0, 0, 0)), (94, .iaload, 1, (0, 0, 0))]
theorem K57_5 : zRk 57 B57_5 = true := zRw_ok (by decide +kernel)
noncomputable def B57_6 : List zRow := [(77, .iconst (-1), 1, (0, 0, 0)), (78, .goto 17, 3, (0, 0, 0))]
theorem K57_6 : zRk 57 B57_6 = true := zRw_ok (by decide +kernel)
noncomputable def B57_7 : List zRow := [(59, .aload_n 0, 1, (0, 0, 0)), (60, .getfield 56, 3, (11, 6, 7)), (63, .getfield 199, 3, (1, 4, 5243602)), (66, .iload_n 1, 1, (0, 0, 0)), (67, .bipush 6, 2, (0, 0, 0)), (69, .imul, 1, (0, 0, 0)), (70, .iload_n 2, 1, (0, 0, 0)), (71, .iadd, 1, (0, 0, 0)), (72, .iaload, 1, (0, 0, 0)), (73, .iconst (-1), 1, (0, 0, 0)), (74, .if_icmp .ne 7, 3, (0, 0, 0))]
theorem K57_7 : zRk 57 B57_7 = true := zRw_ok (by decide +kernel)
noncomputable def B57_8 : List zRow := [(96, .iconst (-1), 1, (0, 0, 0))]
theorem K57_8 : zRk 57 B57_8 = true := zRw_ok (by decide +kernel)
noncomputable def B57_9 : List zRow := [(13, .ifCond .ne 5, 3, (0, 0, 0))]
theorem K57_9 : zRk 57 B57_9 = true := zRw_ok (by decide +kernel)
noncomputable def B57_10 : List zRow := [(5, .ifCond .eq 11, 3, (0, 0, 0))]
theorem K57_10 : zRk 57 B57_10 = true := zRw_ok (by decide +kernel)
noncomputable def B219_0 : List zRow := [(0, .aload_n 0, 1, (0, 0, 0)), (1, .getfield 13, 3, (12, 14, 5251442)), (4, .sipush 457, 3, (0, 0, 0)), (7, .bipush 18, 2, (0, 0, 0)), (9, .iload_n 1, 1, (0, 0, 0))]
theorem K219_0 : zRk 219 B219_0 = true := zRw_ok (by decide +kernel)
noncomputable def B219_1 : List zRow := [(10, .imul, 1, (0, 0, 0))]
theorem K219_1 : zRk 219 B219_1 = true := zRw_ok (by decide +kernel)
noncomputable def B219_2 : List zRow := [(11, .iadd, 1, (0, 0, 0)), (12, .iconst 3, 1, (0, 0, 0)), (13, .iload_n 2, 1, (0, 0, 0))]
theorem K219_2 : zRk 219 B219_2 = true := zRw_ok (by decide +kernel)
noncomputable def B219_3 : List zRow := [(14, .imul, 1, (0, 0, 0)), (15, .iadd, 1, (0, 0, 0)), (16, .iload_n 3, 1, (0, 0, 0)), (17, .iadd, 1, (0, 0, 0)), (18, .iaload, 1, (0, 0, 0))]
theorem K219_3 : zRk 219 B219_3 = true := zRw_ok (by decide +kernel)
noncomputable def B218_0 : List zRow := [(0, .aload_n 0, 1, (0, 0, 0)), (1, .iconst 0, 1, (0, 0, 0)), (2, .putfield 81, 3, (12, 0, 0)), (5, .aload_n 0, 1, (0, 0, 0)), (6, .iload_n 1, 1, (0, 0, 0))]
theorem K218_0 : zRk 218 B218_0 = true := zRw_ok (by decide +kernel)
noncomputable def B218_1 : List zRow := [(50, .iconst (-1), 1, (0, 0, 0))]
theorem K218_1 : zRk 218 B218_1 = true := zRw_ok (by decide +kernel)
noncomputable def B218_2 : List zRow := [(13, .aload_n 0, 1, (0, 0, 0)), (14, .iload_n 2, 1, (0, 0, 0))]
theorem K218_2 : zRk 218 B218_2 = true := zRw_ok (by decide +kernel)
noncomputable def B218_3 : List zRow := [(21, .iload_n 3, 1, (0, 0, 0)), (22, .iconst 0, 1, (0, 0, 0)), (23, .iconst 1, 1, (0, 0, 0))]
theorem K218_3 : zRk 218 B218_3 = true := zRw_ok (by decide +kernel)
noncomputable def B218_4 : List zRow := [(30, .aload_n 0, 1, (0, 0, 0)), (31, .iload_n 1, 1, (0, 0, 0)), (32, .iload_n 2, 1, (0, 0, 0)), (33, .iconst 0, 1, (0, 0, 0))]
theorem K218_4 : zRk 218 B218_4 = true := zRw_ok (by decide +kernel)
noncomputable def B218_5 : List zRow := [(40, .aload_n 0, 1, (0, 0, 0)), (41, .iload_n 1, 1, (0, 0, 0)), (42, .iload_n 2, 1, (0, 0, 0)), (43, .iload_n 3, 1, (0, 0, 0))]
theorem K218_5 : zRk 218 B218_5 = true := zRw_ok (by decide +kernel)
noncomputable def B218_6 : List zRow := [(47, .goto 4, 3, (0, 0, 0))]
theorem K218_6 : zRk 218 B218_6 = true := zRw_ok (by decide +kernel)
noncomputable def B218_7 : List zRow := [(37, .ifCond .le 13, 3, (0, 0, 0))]
theorem K218_7 : zRk 218 B218_7 = true := zRw_ok (by decide +kernel)
noncomputable def B218_8 : List zRow := [(27, .ifCond .eq 23, 3, (0, 0, 0))]
theorem K218_8 : zRk 218 B218_8 = true := zRw_ok (by decide +kernel)
noncomputable def B218_9 : List zRow := [(18, .ifCond .eq 32, 3, (0, 0, 0))]
theorem K218_9 : zRk 218 B218_9 = true := zRw_ok (by decide +kernel)
noncomputable def B218_10 : List zRow := [(10, .ifCond .eq 40, 3, (0, 0, 0))]
theorem K218_10 : zRk 218 B218_10 = true := zRw_ok (by decide +kernel)
