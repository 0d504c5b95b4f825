noncomputable def B229_0 : List zRow := [(0, .aload_n 0, 1, (0, 0, 0)), (1, .getfield 13, 3, (12, 14, 5251442)), (4, .bipush 7, 2, (0, 0, 0)), (6, .iconst 3, 1, (0, 0, 0)), (7, .iload_n 1, 1, (0, 0, 0))]
theorem K229_0 : zRk 229 B229_0 = true := zRw_ok (by decide +kernel)
noncomputable def B229_1 : List zRow := [(8, .imul, 1, (0, 0, 0))]
theorem K229_1 : zRk 229 B229_1 = true := zRw_ok (by decide +kernel)
noncomputable def B229_2 : List zRow := [(9, .iadd, 1, (0, 0, 0)), (10, .iaload, 1, (0, 0, 0))]
theorem K229_2 : zRk 229 B229_2 = true := zRw_ok (by decide +kernel)
noncomputable def B231_0 : List zRow := [(9, .iload_n 0, 1, (0, 0, 0))]
theorem K231_0 : zRk 231 B231_0 = true := zRw_ok (by decide +kernel)
noncomputable def B231_1 : List zRow := [(4, .iload_n 0, 1, (0, 0, 0)), (5, .ineg, 1, (0, 0, 0)), (6, .goto 4, 3, (0, 0, 0))]
theorem K231_1 : zRk 231 B231_1 = true := zRw_ok (by decide +kernel)
noncomputable def B231_2 : List zRow := [(0, .iload_n 0, 1, (0, 0, 0)), (1, .ifCond .ge 8, 3, (0, 0, 0))]
theorem K231_2 : zRk 231 B231_2 = true := zRw_ok (by decide +kernel)
noncomputable def B230_0 : List zRow := [(0, .iload_n 0, 1, (0, 0, 0)), (1, .bipush 10, 2, (0, 0, 0)), (3, .irem, 1, (0, 0, 0)), (4, .iload_n 1, 1, (0, 0, 0)), (5, .bipush 10, 2, (0, 0, 0)), (7, .irem, 1, (0, 0, 0)), (8, .isub, 1, (0, 0, 0))]
theorem K230_0 : zRk 230 B230_0 = true := zRw_ok (by decide +kernel)
noncomputable def B230_1 : List zRow := [(12, .iload_n 0, 1, (0, 0, 0)), (13, .bipush 10, 2, (0, 0, 0)), (15, .idiv, 1, (0, 0, 0)), (16, .iload_n 1, 1, (0, 0, 0)), (17, .bipush 10, 2, (0, 0, 0)), (19, .idiv, 1, (0, 0, 0)), (20, .isub, 1, (0, 0, 0))]
theorem K230_1 : zRk 230 B230_1 = true := zRw_ok (by decide +kernel)
noncomputable def B230_2 : List zRow := [(24, .iadd, 1, (0, 0, 0))]
theorem K230_2 : zRk 230 B230_2 = true := zRw_ok (by decide +kernel)
noncomputable def B232_0 : List zRow := [(0, .aload_n 0, 1, (0, 0, 0)), (1, .getfield 13, 3, (12, 14, 5251442)), (4, .bipush 7, 2, (0, 0, 0)), (6, .iconst 3, 1, (0, 0, 0)), (7, .iload_n 1, 1, (0, 0, 0))]
theorem K232_0 : zRk 232 B232_0 = true := zRw_ok (by decide +kernel)
noncomputable def B232_1 : List zRow := [(8, .imul, 1, (0, 0, 0))]
theorem K232_1 : zRk 232 B232_1 = true := zRw_ok (by decide +kernel)
noncomputable def B232_2 : List zRow := [(9, .iadd, 1, (0, 0, 0)), (10, .iconst 1, 1, (0, 0, 0)), (11, .iadd, 1, (0, 0, 0)), (12, .iaload, 1, (0, 0, 0))]
theorem K232_2 : zRk 232 B232_2 = true := zRw_ok (by decide +kernel)
noncomputable def B233_0 : List zRow := [(0, .sipush 457, 3, (0, 0, 0)), (3, .bipush 18, 2, (0, 0, 0)), (5, .iload_n 1, 1, (0, 0, 0))]
theorem K233_0 : zRk 233 B233_0 = true := zRw_ok (by decide +kernel)
noncomputable def B233_1 : List zRow := [(6, .imul, 1, (0, 0, 0))]
theorem K233_1 : zRk 233 B233_1 = true := zRw_ok (by decide +kernel)
noncomputable def B233_2 : List zRow := [(7, .iadd, 1, (0, 0, 0)), (8, .iconst 3, 1, (0, 0, 0)), (9, .iload_n 2, 1, (0, 0, 0))]
theorem K233_2 : zRk 233 B233_2 = true := zRw_ok (by decide +kernel)
noncomputable def B233_3 : List zRow := [(58, .iload 4, 2, (0, 0, 0)), (60, .aload_n 0, 1, (0, 0, 0)), (61, .getfield 13, 3, (12, 14, 5251442)), (64, .iload 5, 2, (0, 0, 0)), (66, .iconst 1, 1, (0, 0, 0)), (67, .iadd, 1, (0, 0, 0)), (68, .iaload, 1, (0, 0, 0)), (69, .if_icmp .le 7, 3, (0, 0, 0))]
theorem K233_3 : zRk 233 B233_3 = true := zRw_ok (by decide +kernel)
noncomputable def B233_4 : List zRow := [(47, .iload_n 3, 1, (0, 0, 0)), (48, .aload_n 0, 1, (0, 0, 0)), (49, .getfield 13, 3, (12, 14, 5251442)), (52, .iload 5, 2, (0, 0, 0)), (54, .iaload, 1, (0, 0, 0)), (55, .if_icmp .ne 21, 3, (0, 0, 0))]
theorem K233_4 : zRk 233 B233_4 = true := zRw_ok (by decide +kernel)
noncomputable def B233_5 : List zRow := [(36, .iload_n 3, 1, (0, 0, 0)), (37, .aload_n 0, 1, (0, 0, 0)), (38, .getfield 13, 3, (12, 14, 5251442)), (41, .iload 5, 2, (0, 0, 0)), (43, .iaload, 1, (0, 0, 0)), (44, .if_icmp .lt 28, 3, (0, 0, 0))]
theorem K233_5 : zRk 233 B233_5 = true := zRw_ok (by decide +kernel)
noncomputable def B233_6 : List zRow := [(24, .aload_n 0, 1, (0, 0, 0)), (25, .getfield 13, 3, (12, 14, 5251442)), (28, .iload 5, 2, (0, 0, 0)), (30, .iconst 2, 1, (0, 0, 0)), (31, .iadd, 1, (0, 0, 0)), (32, .iaload, 1, (0, 0, 0)), (33, .ifCond .ne 43, 3, (0, 0, 0))]
theorem K233_6 : zRk 233 B233_6 = true := zRw_ok (by decide +kernel)
noncomputable def B233_7 : List zRow := [(10, .imul, 1, (0, 0, 0)), (11, .iadd, 1, (0, 0, 0)), (12, .istore 5, 2, (0, 0, 0)), (14, .aload_n 0, 1, (0, 0, 0)), (15, .getfield 13, 3, (12, 14, 5251442)), (18, .iload 5, 2, (0, 0, 0)), (20, .iaload, 1, (0, 0, 0)), (21, .ifCond .eq 51, 3, (0, 0, 0))]
theorem K233_7 : zRk 233 B233_7 = true := zRw_ok (by decide +kernel)
noncomputable def B233_8 : List zRow := [(76, .iconst 0, 1, (0, 0, 0))]
theorem K233_8 : zRk 233 B233_8 = true := zRw_ok (by decide +kernel)
noncomputable def B233_9 : List zRow := [(85, .aload_n 0, 1, (0, 0, 0)), (86, .getfield 13, 3, (12, 14, 5251442)), (89, .iload 5, 2, (0, 0, 0)), (91, .iload_n 3, 1, (0, 0, 0)), (92, .iastore, 1, (0, 0, 0)), (93, .aload_n 0, 1, (0, 0, 0)), (94, .getfield 13, 3, (12, 14, 5251442)), (97, .iload 5, 2, (0, 0, 0)), (99, .iconst 1, 1, (0, 0, 0)), (100, .iadd, 1, (0, 0, 0)), (101, .iload 4, 2, (0, 0, 0)), (103, .iastore, 1, (0, 0, 0))]
theorem K233_9 : zRk 233 B233_9 = true := zRw_ok (by decide +kernel)
noncomputable def B233_10 : List zRow := [(77, .istore 6, 2, (0, 0, 0)), (79, .iload 6, 2, (0, 0, 0)), (81, .ifCond .ne 4, 3, (0, 0, 0))]
theorem K233_10 : zRk 233 B233_10 = true := zRw_ok (by decide +kernel)
noncomputable def B233_11 : List zRow := [(72, .iconst 1, 1, (0, 0, 0)), (73, .goto 4, 3, (0, 0, 0))]
theorem K233_11 : zRk 233 B233_11 = true := zRw_ok (by decide +kernel)
noncomputable def B227_0 : List zRow := [(0, .aload_n 0, 1, (0, 0, 0)), (1, .getfield 13, 3, (12, 14, 5251442)), (4, .sipush 216, 3, (0, 0, 0)), (7, .iaload, 1, (0, 0, 0)), (8, .istore 4, 2, (0, 0, 0)), (10, .sipush 217, 3, (0, 0, 0)), (13, .bipush 8, 2, (0, 0, 0)), (15, .iload 4, 2, (0, 0, 0))]
theorem K227_0 : zRk 227 B227_0 = true := zRw_ok (by decide +kernel)
noncomputable def B227_1 : List zRow := [(17, .imul, 1, (0, 0, 0))]
theorem K227_1 : zRk 227 B227_1 = true := zRw_ok (by decide +kernel)
noncomputable def B227_2 : List zRow := [(18, .iadd, 1, (0, 0, 0)), (19, .istore 5, 2, (0, 0, 0)), (21, .aload_n 0, 1, (0, 0, 0)), (22, .getfield 13, 3, (12, 14, 5251442)), (25, .sipush 210, 3, (0, 0, 0)), (28, .iload_n 1, 1, (0, 0, 0))]
theorem K227_2 : zRk 227 B227_2 = true := zRw_ok (by decide +kernel)
noncomputable def B227_3 : List zRow := [(29, .iadd, 1, (0, 0, 0)), (30, .iaload, 1, (0, 0, 0)), (31, .istore 6, 2, (0, 0, 0)), (33, .aload_n 0, 1, (0, 0, 0)), (34, .getfield 13, 3, (12, 14, 5251442)), (37, .iload 5, 2, (0, 0, 0)), (39, .iconst 0, 1, (0, 0, 0)), (40, .iadd, 1, (0, 0, 0)), (41, .iload_n 2, 1, (0, 0, 0)), (42, .iastore, 1, (0, 0, 0)), (43, .aload_n 0, 1, (0, 0, 0)), (44, .getfield 13, 3, (12, 14, 5251442)), (47, .iload 5, 2, (0, 0, 0)), (49, .iconst 1, 1, (0, 0, 0)), (50, .iadd, 1, (0, 0, 0)), (51, .iload_n 1, 1, (0, 0, 0)), (52, .iastore, 1, (0, 0, 0)), (53, .aload_n 0, 1, (0, 0, 0)), (54, .getfield 13, 3, (12, 14, 5251442)), (57, .iload 5, 2, (0, 0, 0)), (59, .iconst 2, 1, (0, 0, 0)), (60, .iadd, 1, (0, 0, 0)), (61, .aload_n 0, 1, (0, 0, 0)), (62, .getfield 13, 3, (12, 14, 5251442)), (65, .sipush 209, 3, (0, 0, 0)), (68, .iaload, 1, (0, 0, 0)), (69, .iastore, 1, (0, 0, 0)), (70, .aload_n 0, 1, (0, 0, 0)), (71, .getfield 13, 3, (12, 14, 5251442)), (74, .iload 5, 2, (0, 0, 0)), (76, .iconst 3, 1, (0, 0, 0)), (77, .iadd, 1, (0, 0, 0)), (78, .iload 6, 2, (0, 0, 0)), (80, .iastore, 1, (0, 0, 0)), (81, .aload_n 0, 1, (0, 0, 0)), (82, .getfield 13, 3, (12, 14, 5251442)), (85, .iload 5, 2, (0, 0, 0)), (87, .iconst 4, 1, (0, 0, 0)), (88, .iadd, 1, (0, 0, 0)), (89, .aload_n 0, 1, (0, 0, 0)), (90, .iload 6, 2, (0, 0, 0)), (92, .iload_n 3, 1, (0, 0, 0))]
theorem K227_3 : zRk 227 B227_3 = true := zRw_ok (by decide +kernel)
noncomputable def B227_4 : List zRow := [(96, .iastore, 1, (0, 0, 0)), (97, .aload_n 0, 1, (0, 0, 0)), (98, .getfield 13, 3, (12, 14, 5251442)), (101, .iload 5, 2, (0, 0, 0)), (103, .iconst 5, 1, (0, 0, 0)), (104, .iadd, 1, (0, 0, 0)), (105, .iconst 1, 1, (0, 0, 0)), (106, .iload_n 1, 1, (0, 0, 0)), (107, .ishl, 1, (0, 0, 0)), (108, .iastore, 1, (0, 0, 0)), (109, .aload_n 0, 1, (0, 0, 0)), (110, .getfield 13, 3, (12, 14, 5251442)), (113, .iload 5, 2, (0, 0, 0)), (115, .bipush 6, 2, (0, 0, 0)), (117, .iadd, 1, (0, 0, 0)), (118, .iconst 0, 1, (0, 0, 0)), (119, .iastore, 1, (0, 0, 0)), (120, .aload_n 0, 1, (0, 0, 0)), (121, .getfield 13, 3, (12, 14, 5251442)), (124, .iload 5, 2, (0, 0, 0)), (126, .bipush 7, 2, (0, 0, 0)), (128, .iadd, 1, (0, 0, 0)), (129, .iconst 0, 1, (0, 0, 0)), (130, .iastore, 1, (0, 0, 0)), (131, .iconst 0, 1, (0, 0, 0)), (132, .istore 7, 2, (0, 0, 0))]
theorem K227_4 : zRk 227 B227_4 = true := zRw_ok (by decide +kernel)
noncomputable def B227_5 : List zRow := [(165, .aload_n 0, 1, (0, 0, 0)), (166, .getfield 13, 3, (12, 14, 5251442)), (169, .sipush 216, 3, (0, 0, 0)), (172, .dup2, 1, (0, 0, 0)), (173, .iaload, 1, (0, 0, 0)), (174, .iconst 1, 1, (0, 0, 0)), (175, .iadd, 1, (0, 0, 0)), (176, .iastore, 1, (0, 0, 0)), (177, .aload_n 0, 1, (0, 0, 0)), (178, .getfield 13, 3, (12, 14, 5251442)), (181, .iload 5, 2, (0, 0, 0)), (183, .iconst 4, 1, (0, 0, 0)), (184, .iadd, 1, (0, 0, 0)), (185, .iaload, 1, (0, 0, 0)), (186, .istore 7, 2, (0, 0, 0)), (188, .iconst 0, 1, (0, 0, 0)), (189, .istore 8, 2, (0, 0, 0))]
theorem K227_5 : zRk 227 B227_5 = true := zRw_ok (by decide +kernel)
noncomputable def B227_6 : List zRow := [(141, .aload_n 0, 1, (0, 0, 0)), (142, .getfield 13, 3, (12, 14, 5251442)), (145, .sipush 457, 3, (0, 0, 0)), (148, .bipush 18, 2, (0, 0, 0)), (150, .iload 4, 2, (0, 0, 0))]
theorem K227_6 : zRk 227 B227_6 = true := zRw_ok (by decide +kernel)
noncomputable def B227_7 : List zRow := [(152, .imul, 1, (0, 0, 0))]
theorem K227_7 : zRk 227 B227_7 = true := zRw_ok (by decide +kernel)
noncomputable def B227_8 : List zRow := [(153, .iadd, 1, (0, 0, 0)), (154, .iload 7, 2, (0, 0, 0)), (156, .iadd, 1, (0, 0, 0)), (157, .iconst 0, 1, (0, 0, 0)), (158, .iastore, 1, (0, 0, 0)), (159, .iinc 7 1, 3, (0, 0, 0)), (162, .goto (-28), 3, (0, 0, 0))]
theorem K227_8 : zRk 227 B227_8 = true := zRw_ok (by decide +kernel)
noncomputable def B227_9 : List zRow := [(134, .iload 7, 2, (0, 0, 0)), (136, .bipush 18, 2, (0, 0, 0)), (138, .if_icmp .ge 27, 3, (0, 0, 0))]
theorem K227_9 : zRk 227 B227_9 = true := zRw_ok (by decide +kernel)
noncomputable def B227_10 : List zRow := [(268, .iload 4, 2, (0, 0, 0))]
theorem K227_10 : zRk 227 B227_10 = true := zRw_ok (by decide +kernel)
noncomputable def B227_11 : List zRow := [(207, .iload 6, 2, (0, 0, 0)), (209, .aload_n 0, 1, (0, 0, 0)), (210, .iload 8, 2, (0, 0, 0))]
theorem K227_11 : zRk 227 B227_11 = true := zRw_ok (by decide +kernel)
noncomputable def B227_12 : List zRow := [(223, .aload_n 0, 1, (0, 0, 0)), (224, .iload 4, 2, (0, 0, 0)), (226, .iload 8, 2, (0, 0, 0)), (228, .aload_n 0, 1, (0, 0, 0)), (229, .getfield 13, 3, (12, 14, 5251442)), (232, .sipush 209, 3, (0, 0, 0)), (235, .iaload, 1, (0, 0, 0)), (236, .aload_n 0, 1, (0, 0, 0)), (237, .iload 8, 2, (0, 0, 0))]
theorem K227_12 : zRk 227 B227_12 = true := zRw_ok (by decide +kernel)
noncomputable def B227_13 : List zRow := [(242, .iadd, 1, (0, 0, 0)), (243, .iload 7, 2, (0, 0, 0)), (245, .iload 6, 2, (0, 0, 0)), (247, .aload_n 0, 1, (0, 0, 0)), (248, .iload 8, 2, (0, 0, 0))]
theorem K227_13 : zRk 227 B227_13 = true := zRw_ok (by decide +kernel)
noncomputable def B227_14 : List zRow := [(256, .iconst 2, 1, (0, 0, 0)), (257, .idiv, 1, (0, 0, 0)), (258, .isub, 1, (0, 0, 0))]
theorem K227_14 : zRk 227 B227_14 = true := zRw_ok (by decide +kernel)
noncomputable def B227_15 : List zRow := [(218, .iload 7, 2, (0, 0, 0)), (220, .if_icmp .gt 42, 3, (0, 0, 0))]
theorem K227_15 : zRk 227 B227_15 = true := zRw_ok (by decide +kernel)
noncomputable def B227_16 : List zRow := [(202, .iload 7, 2, (0, 0, 0)), (204, .ifCond .le 58, 3, (0, 0, 0))]
theorem K227_16 : zRk 227 B227_16 = true := zRw_ok (by decide +kernel)
noncomputable def B227_17 : List zRow := [(191, .iload 8, 2, (0, 0, 0)), (193, .aload_n 0, 1, (0, 0, 0)), (194, .getfield 13, 3, (12, 14, 5251442)), (197, .iconst 2, 1, (0, 0, 0)), (198, .iaload, 1, (0, 0, 0)), (199, .if_icmp .ge 69, 3, (0, 0, 0))]
theorem K227_17 : zRk 227 B227_17 = true := zRw_ok (by decide +kernel)
noncomputable def B227_18 : List zRow := [(262, .iinc 8 1, 3, (0, 0, 0)), (265, .goto (-74), 3, (0, 0, 0))]
theorem K227_18 : zRk 227 B227_18 = true := zRw_ok (by decide +kernel)
noncomputable def B226_0 : List zRow := [(0, .aload_n 0, 1, (0, 0, 0)), (1, .iconst 0, 1, (0, 0, 0)), (2, .putfield 81, 3, (12, 0, 0)), (5, .aload_n 0, 1, (0, 0, 0)), (6, .iload_n 1, 1, (0, 0, 0))]
theorem K226_0 : zRk 226 B226_0 = true := zRw_ok (by decide +kernel)
noncomputable def B226_1 : List zRow := [(46, .iconst (-1), 1, (0, 0, 0))]
theorem K226_1 : zRk 226 B226_1 = true := zRw_ok (by decide +kernel)
noncomputable def B226_2 : List zRow := [(13, .iload_n 2, 1, (0, 0, 0)), (14, .iconst 1, 1, (0, 0, 0)), (15, .bipush 99, 2, (0, 0, 0))]
theorem K226_2 : zRk 226 B226_2 = true := zRw_ok (by decide +kernel)
noncomputable def B226_3 : List zRow := [(23, .iload_n 3, 1, (0, 0, 0)), (24, .iconst 1, 1, (0, 0, 0)), (25, .bipush 9, 2, (0, 0, 0))]
theorem K226_3 : zRk 226 B226_3 = true := zRw_ok (by decide +kernel)
noncomputable def B226_4 : List zRow := [(48, .aload_n 0, 1, (0, 0, 0))]
theorem K226_4 : zRk 226 B226_4 = true := zRw_ok (by decide +kernel)
noncomputable def B226_5 : List zRow := [(52, .aload_n 0, 1, (0, 0, 0)), (53, .iload_n 1, 1, (0, 0, 0)), (54, .iload_n 2, 1, (0, 0, 0)), (55, .iload_n 3, 1, (0, 0, 0))]
theorem K226_5 : zRk 226 B226_5 = true := zRw_ok (by decide +kernel)
noncomputable def B226_6 : List zRow := [(33, .aload_n 0, 1, (0, 0, 0)), (34, .getfield 13, 3, (12, 14, 5251442)), (37, .sipush 216, 3, (0, 0, 0)), (40, .iaload, 1, (0, 0, 0)), (41, .bipush 30, 2, (0, 0, 0)), (43, .if_icmp .ne 5, 3, (0, 0, 0))]
theorem K226_6 : zRk 226 B226_6 = true := zRw_ok (by decide +kernel)
noncomputable def B226_7 : List zRow := [(30, .ifCond .eq 16, 3, (0, 0, 0))]
theorem K226_7 : zRk 226 B226_7 = true := zRw_ok (by decide +kernel)
noncomputable def B226_8 : List zRow := [(20, .ifCond .eq 26, 3, (0, 0, 0))]
theorem K226_8 : zRk 226 B226_8 = true := zRw_ok (by decide +kernel)
noncomputable def B226_9 : List zRow := [(10, .ifCond .eq 36, 3, (0, 0, 0))]
theorem K226_9 : zRk 226 B226_9 = true := zRw_ok (by decide +kernel)
noncomputable def B91_0 : List zRow := [(0, .iconst (-1), 1, (0, 0, 0)), (1, .istore_n 2, 1, (0, 0, 0)), (2, .iconst 0, 1, (0, 0, 0)), (3, .istore_n 3, 1, (0, 0, 0)), (4, .iconst 0, 1, (0, 0, 0)), (5, .istore 4, 2, (0, 0, 0))]
theorem K91_0 : zRk 91 B91_0 = true := zRw_ok (by decide +kernel)
noncomputable def B91_1 : List zRow := [(60, .iload_n 3, 1, (0, 0, 0))]
theorem K91_1 : zRk 91 B91_1 = true := zRw_ok (by decide +kernel)
noncomputable def B91_2 : List zRow := [(38, .aload_n 0, 1, (0, 0, 0)), (39, .getfield 46, 3, (9, 18, 5242906)), (42, .iload 4, 2, (0, 0, 0)), (44, .iaload, 1, (0, 0, 0)), (45, .istore_n 2, 1, (0, 0, 0)), (46, .aload_n 0, 1, (0, 0, 0)), (47, .getfield 49, 3, (9, 19, 5242906)), (50, .iload 4, 2, (0, 0, 0)), (52, .iaload, 1, (0, 0, 0)), (53, .istore_n 3, 1, (0, 0, 0))]
theorem K91_2 : zRk 91 B91_2 = true := zRw_ok (by decide +kernel)
noncomputable def B91_3 : List zRow := [(27, .aload_n 0, 1, (0, 0, 0)), (28, .getfield 46, 3, (9, 18, 5242906)), (31, .iload 4, 2, (0, 0, 0)), (33, .iaload, 1, (0, 0, 0)), (34, .iload_n 2, 1, (0, 0, 0)), (35, .if_icmp .le 19, 3, (0, 0, 0))]
theorem K91_3 : zRk 91 B91_3 = true := zRw_ok (by decide +kernel)
noncomputable def B91_4 : List zRow := [(16, .aload_n 0, 1, (0, 0, 0)), (17, .getfield 46, 3, (9, 18, 5242906)), (20, .iload 4, 2, (0, 0, 0)), (22, .iaload, 1, (0, 0, 0)), (23, .iload_n 1, 1, (0, 0, 0)), (24, .if_icmp .gt 30, 3, (0, 0, 0))]
theorem K91_4 : zRk 91 B91_4 = true := zRw_ok (by decide +kernel)
noncomputable def B91_5 : List zRow := [(7, .iload 4, 2, (0, 0, 0)), (9, .aload_n 0, 1, (0, 0, 0)), (10, .getfield 71, 3, (9, 6, 0)), (13, .if_icmp .ge 47, 3, (0, 0, 0))]
theorem K91_5 : zRk 91 B91_5 = true := zRw_ok (by decide +kernel)
noncomputable def B91_6 : List zRow := [(54, .iinc 4 1, 3, (0, 0, 0)), (57, .goto (-50), 3, (0, 0, 0))]
theorem K91_6 : zRk 91 B91_6 = true := zRw_ok (by decide +kernel)
noncomputable def B93_0 : List zRow := [(0, .iconst 0, 1, (0, 0, 0)), (1, .istore 4, 2, (0, 0, 0)), (3, .iconst 0, 1, (0, 0, 0)), (4, .istore 5, 2, (0, 0, 0))]
theorem K93_0 : zRk 93 B93_0 = true := zRw_ok (by decide +kernel)
noncomputable def B93_1 : List zRow := [(54, .iload 4, 2, (0, 0, 0))]
theorem K93_1 : zRk 93 B93_1 = true := zRw_ok (by decide +kernel)
noncomputable def B93_2 : List zRow := [(22, .aload_n 0, 1, (0, 0, 0)), (23, .getfield 15, 3, (9, 8, 5242906)), (26, .iload_n 1, 1, (0, 0, 0)), (27, .iaload, 1, (0, 0, 0)), (28, .aload_n 3, 1, (0, 0, 0)), (29, .iload 5, 2, (0, 0, 0)), (31, .iaload, 1, (0, 0, 0))]
theorem K93_2 : zRk 93 B93_2 = true := zRw_ok (by decide +kernel)
noncomputable def B93_3 : List zRow := [(39, .iload 4, 2, (0, 0, 0)), (41, .iconst 1, 1, (0, 0, 0)), (42, .iload 5, 2, (0, 0, 0)), (44, .ishl, 1, (0, 0, 0)), (45, .ior, 1, (0, 0, 0)), (46, .istore 4, 2, (0, 0, 0))]
theorem K93_3 : zRk 93 B93_3 = true := zRw_ok (by decide +kernel)
noncomputable def B93_4 : List zRow := [(35, .iload_n 2, 1, (0, 0, 0)), (36, .if_icmp .gt 12, 3, (0, 0, 0))]
theorem K93_4 : zRk 93 B93_4 = true := zRw_ok (by decide +kernel)
noncomputable def B93_5 : List zRow := [(15, .iload 5, 2, (0, 0, 0)), (17, .aload_n 3, 1, (0, 0, 0)), (18, .arraylength, 1, (0, 0, 0)), (19, .if_icmp .ge 35, 3, (0, 0, 0))]
theorem K93_5 : zRk 93 B93_5 = true := zRw_ok (by decide +kernel)
noncomputable def B93_6 : List zRow := [(6, .iload 5, 2, (0, 0, 0)), (8, .aload_n 0, 1, (0, 0, 0)), (9, .getfield 62, 3, (9, 3, 0)), (12, .if_icmp .ge 42, 3, (0, 0, 0))]
theorem K93_6 : zRk 93 B93_6 = true := zRw_ok (by decide +kernel)
noncomputable def B93_7 : List zRow := [(48, .iinc 5 1, 3, (0, 0, 0)), (51, .goto (-45), 3, (0, 0, 0))]
theorem K93_7 : zRk 93 B93_7 = true := zRw_ok (by decide +kernel)
noncomputable def B94_0 : List zRow := [(11, .aload_n 0, 1, (0, 0, 0)), (12, .getfield 37, 3, (1, 2, 0)), (15, .iconst 5, 1, (0, 0, 0)), (16, .imul, 1, (0, 0, 0)), (17, .istore 5, 2, (0, 0, 0)), (19, .aload_n 0, 1, (0, 0, 0)), (20, .getfield 24, 3, (1, 7, 5246482)), (23, .iload 5, 2, (0, 0, 0)), (25, .iconst 0, 1, (0, 0, 0)), (26, .iadd, 1, (0, 0, 0)), (27, .iload_n 1, 1, (0, 0, 0)), (28, .iastore, 1, (0, 0, 0)), (29, .aload_n 0, 1, (0, 0, 0)), (30, .getfield 24, 3, (1, 7, 5246482)), (33, .iload 5, 2, (0, 0, 0)), (35, .iconst 1, 1, (0, 0, 0)), (36, .iadd, 1, (0, 0, 0)), (37, .iload_n 2, 1, (0, 0, 0)), (38, .iastore, 1, (0, 0, 0)), (39, .aload_n 0, 1, (0, 0, 0)), (40, .getfield 24, 3, (1, 7, 5246482)), (43, .iload 5, 2, (0, 0, 0)), (45, .iconst 2, 1, (0, 0, 0)), (46, .iadd, 1, (0, 0, 0)), (47, .aload_n 0, 1, (0, 0, 0)), (48, .getfield 30, 3, (1, 0, 0)), (51, .iastore, 1, (0, 0, 0)), (52, .aload_n 0, 1, (0, 0, 0)), (53, .getfield 24, 3, (1, 7, 5246482)), (56, .iload 5, 2, (0, 0, 0)), (58, .iconst 3, 1, (0, 0, 0)), (59, .iadd, 1, (0, 0, 0)), (60, .iload_n 3, 1, (0, 0, 0)), (61, .iastore, 1, (0, 0, 0)), (62, .aload_n 0, 1, (0, 0, 0)), (63, .getfield 24, 3, (1, 7, 5246482)), (66, .iload 5, 2, (0, 0, 0)), (68, .iconst 4, 1, (0, 0, 0)), (69, .iadd, 1, (0, 0, 0)), (70, .iload 4, 2, (0, 0, 0)), (72, .iastore, 1, (0, 0, 0)), (73, .aload_n 0, 1, (0, 0, 0)), (74, .dup, 1, (0, 0, 0)), (75, .getfield 37, 3, (1, 2, 0)), (78, .iconst 1, 1, (0, 0, 0)), (79, .iadd, 1, (0, 0, 0)), (80, .putfield 37, 3, (1, 2, 0))]
theorem K94_0 : zRk 94 B94_0 = true := zRw_ok (by decide +kernel)
noncomputable def B94_1 : List zRow := [(0, .aload_n 0, 1, (0, 0, 0)), (1, .getfield 37, 3, (1, 2, 0)), (4, .sipush 180, 3, (0, 0, 0)), (7, .if_icmp .lt 4, 3, (0, 0, 0))]
theorem K94_1 : zRk 94 B94_1 = true := zRw_ok (by decide +kernel)
noncomputable def B95_0 : List zRow := [(0, .aload_n 0, 1, (0, 0, 0)), (1, .getfield 15, 3, (9, 8, 5242906)), (4, .iload_n 1, 1, (0, 0, 0)), (5, .iaload, 1, (0, 0, 0)), (6, .aload_n 0, 1, (0, 0, 0)), (7, .getfield 15, 3, (9, 8, 5242906)), (10, .iload_n 2, 1, (0, 0, 0)), (11, .iaload, 1, (0, 0, 0))]
theorem K95_0 : zRk 95 B95_0 = true := zRw_ok (by decide +kernel)
noncomputable def B95_1 : List zRow := [(38, .iconst 0, 1, (0, 0, 0))]
theorem K95_1 : zRk 95 B95_1 = true := zRw_ok (by decide +kernel)
noncomputable def B95_2 : List zRow := [(23, .iconst 0, 1, (0, 0, 0)), (24, .iload_n 3, 1, (0, 0, 0)), (25, .iconst 1, 1, (0, 0, 0)), (26, .isub, 1, (0, 0, 0)), (27, .iload 4, 2, (0, 0, 0)), (29, .iconst 2, 1, (0, 0, 0)), (30, .idiv, 1, (0, 0, 0)), (31, .isub, 1, (0, 0, 0)), (32, .invokestatic 97, 3, (5004, 0, 0)), (35, .goto 4, 3, (0, 0, 0))]
theorem K95_2 : zRk 95 B95_2 = true := zRw_ok (by decide +kernel)
noncomputable def B95_3 : List zRow := [(15, .istore 4, 2, (0, 0, 0)), (17, .iload 4, 2, (0, 0, 0)), (19, .iload_n 3, 1, (0, 0, 0)), (20, .if_icmp .gt 18, 3, (0, 0, 0))]
theorem K95_3 : zRk 95 B95_3 = true := zRw_ok (by decide +kernel)
noncomputable def B92_0 : List zRow := [(7, .aload_n 1, 1, (0, 0, 0)), (8, .iload_n 3, 1, (0, 0, 0)), (9, .iload 4, 2, (0, 0, 0)), (11, .aload_n 0, 1, (0, 0, 0)), (12, .getfield 9, 3, (1, 3, 5242906))]
theorem K92_0 : zRk 92 B92_0 = true := zRw_ok (by decide +kernel)
noncomputable def B92_1 : List zRow := [(31, .aload_n 0, 1, (0, 0, 0)), (32, .getfield 21, 3, (1, 6, 5243842)), (35, .iload 6, 2, (0, 0, 0)), (37, .iconst 5, 1, (0, 0, 0)), (38, .iadd, 1, (0, 0, 0)), (39, .iload 5, 2, (0, 0, 0)), (41, .iastore, 1, (0, 0, 0))]
theorem K92_1 : zRk 92 B92_1 = true := zRw_ok (by decide +kernel)
noncomputable def B92_2 : List zRow := [(18, .istore 5, 2, (0, 0, 0)), (20, .iload_n 2, 1, (0, 0, 0)), (21, .bipush 8, 2, (0, 0, 0)), (23, .imul, 1, (0, 0, 0)), (24, .istore 6, 2, (0, 0, 0)), (26, .iload 5, 2, (0, 0, 0)), (28, .ifCond .eq 14, 3, (0, 0, 0))]
theorem K92_2 : zRk 92 B92_2 = true := zRw_ok (by decide +kernel)
noncomputable def B92_3 : List zRow := [(0, .iload 4, 2, (0, 0, 0)), (2, .iconst 1, 1, (0, 0, 0)), (3, .if_icmp .ge 4, 3, (0, 0, 0))]
theorem K92_3 : zRk 92 B92_3 = true := zRw_ok (by decide +kernel)
noncomputable def B92_4 : List zRow := [(42, .aload_n 0, 1, (0, 0, 0)), (43, .getfield 21, 3, (1, 6, 5243842)), (46, .iload 6, 2, (0, 0, 0)), (48, .bipush 6, 2, (0, 0, 0)), (50, .iadd, 1, (0, 0, 0)), (51, .dup2, 1, (0, 0, 0)), (52, .iaload, 1, (0, 0, 0)), (53, .iconst 1, 1, (0, 0, 0)), (54, .iadd, 1, (0, 0, 0)), (55, .iastore, 1, (0, 0, 0)), (56, .aload_n 0, 1, (0, 0, 0)), (57, .getfield 21, 3, (1, 6, 5243842)), (60, .iload 6, 2, (0, 0, 0)), (62, .bipush 7, 2, (0, 0, 0)), (64, .iadd, 1, (0, 0, 0)), (65, .dup2, 1, (0, 0, 0)), (66, .iaload, 1, (0, 0, 0)), (67, .iload 5, 2, (0, 0, 0)), (69, .ior, 1, (0, 0, 0)), (70, .iastore, 1, (0, 0, 0)), (71, .aload_n 0, 1, (0, 0, 0)), (72, .iload_n 2, 1, (0, 0, 0)), (73, .iload_n 3, 1, (0, 0, 0)), (74, .iload 4, 2, (0, 0, 0)), (76, .iload 5, 2, (0, 0, 0))]
theorem K92_4 : zRk 92 B92_4 = true := zRw_ok (by decide +kernel)
noncomputable def B92_5 : List zRow := [(81, .iconst 0, 1, (0, 0, 0)), (82, .istore 7, 2, (0, 0, 0))]
theorem K92_5 : zRk 92 B92_5 = true := zRw_ok (by decide +kernel)
noncomputable def B92_6 : List zRow := [(99, .aload_n 0, 1, (0, 0, 0)), (100, .aload_n 1, 1, (0, 0, 0)), (101, .iload_n 2, 1, (0, 0, 0)), (102, .iload 7, 2, (0, 0, 0)), (104, .aload_n 1, 1, (0, 0, 0)), (105, .iload_n 3, 1, (0, 0, 0)), (106, .iload 7, 2, (0, 0, 0)), (108, .iload 4, 2, (0, 0, 0))]
theorem K92_6 : zRk 92 B92_6 = true := zRw_ok (by decide +kernel)
noncomputable def B92_7 : List zRow := [(93, .iload 7, 2, (0, 0, 0)), (95, .iload_n 3, 1, (0, 0, 0)), (96, .if_icmp .eq 20, 3, (0, 0, 0))]
theorem K92_7 : zRk 92 B92_7 = true := zRw_ok (by decide +kernel)
noncomputable def B92_8 : List zRow := [(84, .iload 7, 2, (0, 0, 0)), (86, .aload_n 1, 1, (0, 0, 0)), (87, .getfield 69, 3, (9, 2, 0)), (90, .if_icmp .ge 32, 3, (0, 0, 0))]
theorem K92_8 : zRk 92 B92_8 = true := zRw_ok (by decide +kernel)
noncomputable def B92_9 : List zRow := [(116, .iinc 7 1, 3, (0, 0, 0)), (119, .goto (-35), 3, (0, 0, 0))]
theorem K92_9 : zRk 92 B92_9 = true := zRw_ok (by decide +kernel)
noncomputable def B90_0 : List zRow := [(0, .aload_n 1, 1, (0, 0, 0)), (1, .aload_n 0, 1, (0, 0, 0)), (2, .getfield 30, 3, (1, 0, 0))]
theorem K90_0 : zRk 90 B90_0 = true := zRw_ok (by decide +kernel)
noncomputable def B90_1 : List zRow := [(8, .istore 4, 2, (0, 0, 0)), (10, .iconst 0, 1, (0, 0, 0)), (11, .istore 5, 2, (0, 0, 0))]
theorem K90_1 : zRk 90 B90_1 = true := zRw_ok (by decide +kernel)
noncomputable def B90_2 : List zRow := [(81, .aload_n 0, 1, (0, 0, 0)), (82, .iload_n 2, 1, (0, 0, 0))]
theorem K90_2 : zRk 90 B90_2 = true := zRw_ok (by decide +kernel)
noncomputable def B90_3 : List zRow := [(45, .aload_n 0, 1, (0, 0, 0)), (46, .aload_n 1, 1, (0, 0, 0)), (47, .iload_n 2, 1, (0, 0, 0)), (48, .iload 5, 2, (0, 0, 0)), (50, .aload_n 0, 1, (0, 0, 0)), (51, .getfield 18, 3, (1, 5, 5243602)), (54, .iload 6, 2, (0, 0, 0)), (56, .iaload, 1, (0, 0, 0)), (57, .aload_n 1, 1, (0, 0, 0)), (58, .getfield 116, 3, (9, 10, 5242906)), (61, .iload 5, 2, (0, 0, 0)), (63, .iaload, 1, (0, 0, 0)), (64, .iload 4, 2, (0, 0, 0)), (66, .isub, 1, (0, 0, 0)), (67, .iload_n 3, 1, (0, 0, 0)), (68, .isub, 1, (0, 0, 0)), (69, .invokestatic 119, 3, (5003, 0, 0))]
theorem K90_3 : zRk 90 B90_3 = true := zRw_ok (by decide +kernel)
noncomputable def B90_4 : List zRow := [(22, .iload_n 2, 1, (0, 0, 0)), (23, .bipush 6, 2, (0, 0, 0)), (25, .imul, 1, (0, 0, 0)), (26, .iload 5, 2, (0, 0, 0)), (28, .iadd, 1, (0, 0, 0)), (29, .istore 6, 2, (0, 0, 0)), (31, .aload_n 0, 1, (0, 0, 0)), (32, .getfield 15, 3, (1, 4, 5243602)), (35, .iload 6, 2, (0, 0, 0)), (37, .iaload, 1, (0, 0, 0)), (38, .aload_n 0, 1, (0, 0, 0)), (39, .getfield 30, 3, (1, 0, 0)), (42, .if_icmp .ne 33, 3, (0, 0, 0))]
theorem K90_4 : zRk 90 B90_4 = true := zRw_ok (by decide +kernel)
noncomputable def B90_5 : List zRow := [(13, .iload 5, 2, (0, 0, 0)), (15, .aload_n 1, 1, (0, 0, 0)), (16, .getfield 69, 3, (9, 2, 0)), (19, .if_icmp .ge 62, 3, (0, 0, 0))]
theorem K90_5 : zRk 90 B90_5 = true := zRw_ok (by decide +kernel)
noncomputable def B90_6 : List zRow := [(75, .iinc 5 1, 3, (0, 0, 0)), (78, .goto (-65), 3, (0, 0, 0))]
theorem K90_6 : zRk 90 B90_6 = true := zRw_ok (by decide +kernel)
noncomputable def B89_0 : List zRow := [(0, .aload_n 0, 1, (0, 0, 0)), (1, .dup, 1, (0, 0, 0)), (2, .getfield 30, 3, (1, 0, 0)), (5, .iconst 1, 1, (0, 0, 0)), (6, .iadd, 1, (0, 0, 0)), (7, .putfield 30, 3, (1, 0, 0)), (10, .iconst 0, 1, (0, 0, 0)), (11, .istore_n 3, 1, (0, 0, 0))]
theorem K89_0 : zRk 89 B89_0 = true := zRw_ok (by decide +kernel)
noncomputable def B89_1 : List zRow := [(56, .iconst 0, 1, (0, 0, 0)), (57, .istore_n 3, 1, (0, 0, 0))]
theorem K89_1 : zRk 89 B89_1 = true := zRw_ok (by decide +kernel)
noncomputable def B89_2 : List zRow := [(33, .aload_n 0, 1, (0, 0, 0)), (34, .getfield 9, 3, (1, 3, 5242906)), (37, .aload_n 1, 1, (0, 0, 0)), (38, .getfield 98, 3, (9, 15, 5242962)), (41, .iload_n 3, 1, (0, 0, 0)), (42, .iaload, 1, (0, 0, 0)), (43, .aload_n 1, 1, (0, 0, 0)), (44, .getfield 101, 3, (9, 16, 5242962)), (47, .iload_n 3, 1, (0, 0, 0)), (48, .iaload, 1, (0, 0, 0)), (49, .iastore, 1, (0, 0, 0))]
theorem K89_2 : zRk 89 B89_2 = true := zRw_ok (by decide +kernel)
noncomputable def B89_3 : List zRow := [(20, .aload_n 1, 1, (0, 0, 0)), (21, .getfield 95, 3, (9, 14, 5242962)), (24, .iload_n 3, 1, (0, 0, 0)), (25, .iaload, 1, (0, 0, 0)), (26, .aload_n 0, 1, (0, 0, 0)), (27, .getfield 30, 3, (1, 0, 0)), (30, .if_icmp .ne 20, 3, (0, 0, 0))]
theorem K89_3 : zRk 89 B89_3 = true := zRw_ok (by decide +kernel)
noncomputable def B89_4 : List zRow := [(12, .iload_n 3, 1, (0, 0, 0)), (13, .aload_n 1, 1, (0, 0, 0)), (14, .getfield 92, 3, (9, 4, 0)), (17, .if_icmp .ge 39, 3, (0, 0, 0))]
theorem K89_4 : zRk 89 B89_4 = true := zRw_ok (by decide +kernel)
noncomputable def B89_5 : List zRow := [(50, .iinc 3 1, 3, (0, 0, 0)), (53, .goto (-41), 3, (0, 0, 0))]
theorem K89_5 : zRk 89 B89_5 = true := zRw_ok (by decide +kernel)
noncomputable def B89_6 : List zRow := [(79, .aload_n 0, 1, (0, 0, 0)), (80, .aload_n 1, 1, (0, 0, 0)), (81, .iload_n 3, 1, (0, 0, 0)), (82, .iload_n 2, 1, (0, 0, 0))]
theorem K89_6 : zRk 89 B89_6 = true := zRw_ok (by decide +kernel)
noncomputable def B89_7 : List zRow := [(66, .aload_n 0, 1, (0, 0, 0)), (67, .getfield 27, 3, (1, 8, 5243002)), (70, .iload_n 3, 1, (0, 0, 0)), (71, .iaload, 1, (0, 0, 0)), (72, .aload_n 0, 1, (0, 0, 0)), (73, .getfield 30, 3, (1, 0, 0)), (76, .if_icmp .ne 10, 3, (0, 0, 0))]
theorem K89_7 : zRk 89 B89_7 = true := zRw_ok (by decide +kernel)
noncomputable def B89_8 : List zRow := [(58, .iload_n 3, 1, (0, 0, 0)), (59, .aload_n 0, 1, (0, 0, 0)), (60, .getfield 34, 3, (1, 1, 0)), (63, .if_icmp .ge 29, 3, (0, 0, 0))]
theorem K89_8 : zRk 89 B89_8 = true := zRw_ok (by decide +kernel)
noncomputable def B89_9 : List zRow := [(86, .iinc 3 1, 3, (0, 0, 0)), (89, .goto (-31), 3, (0, 0, 0))]
theorem K89_9 : zRk 89 B89_9 = true := zRw_ok (by decide +kernel)
noncomputable def B88_0 : List zRow := [(0, .iconst 0, 1, (0, 0, 0)), (1, .istore_n 3, 1, (0, 0, 0))]
theorem K88_0 : zRk 88 B88_0 = true := zRw_ok (by decide +kernel)
noncomputable def B88_1 : List zRow := [(29, .iload_n 3, 1, (0, 0, 0))]
theorem K88_1 : zRk 88 B88_1 = true := zRw_ok (by decide +kernel)
noncomputable def B88_2 : List zRow := [(17, .aload_n 0, 1, (0, 0, 0)), (18, .aload_n 1, 1, (0, 0, 0)), (19, .iconst 0, 1, (0, 0, 0))]
theorem K88_2 : zRk 88 B88_2 = true := zRw_ok (by decide +kernel)
noncomputable def B88_3 : List zRow := [(23, .iinc 3 1, 3, (0, 0, 0)), (26, .goto (-24), 3, (0, 0, 0))]
theorem K88_3 : zRk 88 B88_3 = true := zRw_ok (by decide +kernel)
noncomputable def B88_4 : List zRow := [(7, .aload_n 0, 1, (0, 0, 0)), (8, .getfield 30, 3, (1, 0, 0)), (11, .sipush 400, 3, (0, 0, 0)), (14, .if_icmp .ge 15, 3, (0, 0, 0))]
theorem K88_4 : zRk 88 B88_4 = true := zRw_ok (by decide +kernel)
noncomputable def B88_5 : List zRow := [(2, .iload_n 3, 1, (0, 0, 0)), (3, .iload_n 2, 1, (0, 0, 0)), (4, .if_icmp .ge 25, 3, (0, 0, 0))]
theorem K88_5 : zRk 88 B88_5 = true := zRw_ok (by decide +kernel)
noncomputable def B87_0 : List zRow := [(11, .iconst (-1), 1, (0, 0, 0))]
theorem K87_0 : zRk 87 B87_0 = true := zRw_ok (by decide +kernel)
noncomputable def B87_1 : List zRow := [(28, .aload_n 0, 1, (0, 0, 0)), (29, .getfield 66, 3, (11, 8, 35)), (32, .aload_n 0, 1, (0, 0, 0)), (33, .getfield 56, 3, (11, 6, 7))]
theorem K87_1 : zRk 87 B87_1 = true := zRw_ok (by decide +kernel)
noncomputable def B87_2 : List zRow := [(39, .aload_n 0, 1, (0, 0, 0)), (40, .getfield 56, 3, (11, 6, 7)), (43, .aload_n 0, 1, (0, 0, 0)), (44, .getfield 19, 3, (11, 1, 39)), (47, .iload_n 1, 1, (0, 0, 0))]
theorem K87_2 : zRk 87 B87_2 = true := zRw_ok (by decide +kernel)
noncomputable def B87_3 : List zRow := [(26, .iconst 0, 1, (0, 0, 0))]
theorem K87_3 : zRk 87 B87_3 = true := zRw_ok (by decide +kernel)
noncomputable def B87_4 : List zRow := [(13, .aload_n 0, 1, (0, 0, 0)), (14, .getfield 56, 3, (11, 6, 7)), (17, .getfield 159, 3, (1, 0, 0)), (20, .sipush 400, 3, (0, 0, 0)), (23, .if_icmp .lt 5, 3, (0, 0, 0))]
theorem K87_4 : zRk 87 B87_4 = true := zRw_ok (by decide +kernel)
noncomputable def B87_5 : List zRow := [(5, .iload_n 1, 1, (0, 0, 0)), (6, .bipush 100, 2, (0, 0, 0)), (8, .if_icmp .le 5, 3, (0, 0, 0))]
theorem K87_5 : zRk 87 B87_5 = true := zRw_ok (by decide +kernel)
noncomputable def B87_6 : List zRow := [(0, .iload_n 1, 1, (0, 0, 0)), (1, .iconst 1, 1, (0, 0, 0)), (2, .if_icmp .lt 9, 3, (0, 0, 0))]
theorem K87_6 : zRk 87 B87_6 = true := zRw_ok (by decide +kernel)
noncomputable def B237_0 : List zRow := [(0, .iconst 0, 1, (0, 0, 0)), (1, .istore_n 2, 1, (0, 0, 0))]
theorem K237_0 : zRk 237 B237_0 = true := zRw_ok (by decide +kernel)
noncomputable def B237_1 : List zRow := [(12, .aload_n 0, 1, (0, 0, 0)), (13, .getfield 13, 3, (12, 14, 5251442)), (16, .bipush 37, 2, (0, 0, 0)), (18, .iconst 3, 1, (0, 0, 0)), (19, .iload_n 2, 1, (0, 0, 0))]
theorem K237_1 : zRk 237 B237_1 = true := zRw_ok (by decide +kernel)
noncomputable def B237_2 : List zRow := [(20, .imul, 1, (0, 0, 0))]
theorem K237_2 : zRk 237 B237_2 = true := zRw_ok (by decide +kernel)
noncomputable def B237_3 : List zRow := [(29, .aload_n 0, 1, (0, 0, 0)), (30, .getfield 13, 3, (12, 14, 5251442)), (33, .sipush 210, 3, (0, 0, 0)), (36, .aload_n 0, 1, (0, 0, 0)), (37, .getfield 13, 3, (12, 14, 5251442)), (40, .bipush 37, 2, (0, 0, 0)), (42, .iconst 3, 1, (0, 0, 0)), (43, .iload_n 2, 1, (0, 0, 0))]
theorem K237_3 : zRk 237 B237_3 = true := zRw_ok (by decide +kernel)
noncomputable def B237_4 : List zRow := [(44, .imul, 1, (0, 0, 0))]
theorem K237_4 : zRk 237 B237_4 = true := zRw_ok (by decide +kernel)
noncomputable def B237_5 : List zRow := [(45, .iadd, 1, (0, 0, 0)), (46, .iaload, 1, (0, 0, 0))]
theorem K237_5 : zRk 237 B237_5 = true := zRw_ok (by decide +kernel)
noncomputable def B237_6 : List zRow := [(47, .iadd, 1, (0, 0, 0)), (48, .aload_n 0, 1, (0, 0, 0)), (49, .getfield 13, 3, (12, 14, 5251442)), (52, .bipush 37, 2, (0, 0, 0)), (54, .iconst 3, 1, (0, 0, 0)), (55, .iload_n 2, 1, (0, 0, 0))]
theorem K237_6 : zRk 237 B237_6 = true := zRw_ok (by decide +kernel)
noncomputable def B237_7 : List zRow := [(56, .imul, 1, (0, 0, 0))]
theorem K237_7 : zRk 237 B237_7 = true := zRw_ok (by decide +kernel)
noncomputable def B237_8 : List zRow := [(57, .iadd, 1, (0, 0, 0)), (58, .iconst 2, 1, (0, 0, 0)), (59, .iadd, 1, (0, 0, 0)), (60, .iaload, 1, (0, 0, 0)), (61, .iastore, 1, (0, 0, 0))]
theorem K237_8 : zRk 237 B237_8 = true := zRw_ok (by decide +kernel)
noncomputable def B237_9 : List zRow := [(21, .iadd, 1, (0, 0, 0)), (22, .iconst 1, 1, (0, 0, 0)), (23, .iadd, 1, (0, 0, 0)), (24, .iaload, 1, (0, 0, 0)), (25, .iload_n 1, 1, (0, 0, 0)), (26, .if_icmp .ne 36, 3, (0, 0, 0))]
theorem K237_9 : zRk 237 B237_9 = true := zRw_ok (by decide +kernel)
noncomputable def B237_10 : List zRow := [(2, .iload_n 2, 1, (0, 0, 0)), (3, .aload_n 0, 1, (0, 0, 0)), (4, .getfield 13, 3, (12, 14, 5251442)), (7, .iconst 4, 1, (0, 0, 0)), (8, .iaload, 1, (0, 0, 0)), (9, .if_icmp .ge 59, 3, (0, 0, 0))]
theorem K237_10 : zRk 237 B237_10 = true := zRw_ok (by decide +kernel)
noncomputable def B237_11 : List zRow := [(62, .iinc 2 1, 3, (0, 0, 0)), (65, .goto (-63), 3, (0, 0, 0))]
theorem K237_11 : zRk 237 B237_11 = true := zRw_ok (by decide +kernel)
noncomputable def B238_0 : List zRow := [(9, .iload_n 1, 1, (0, 0, 0))]
theorem K238_0 : zRk 238 B238_0 = true := zRw_ok (by decide +kernel)
noncomputable def B238_1 : List zRow := [(5, .iload_n 0, 1, (0, 0, 0)), (6, .goto 4, 3, (0, 0, 0))]
theorem K238_1 : zRk 238 B238_1 = true := zRw_ok (by decide +kernel)
noncomputable def B238_2 : List zRow := [(0, .iload_n 0, 1, (0, 0, 0)), (1, .iload_n 1, 1, (0, 0, 0)), (2, .if_icmp .ge 7, 3, (0, 0, 0))]
theorem K238_2 : zRk 238 B238_2 = true := zRw_ok (by decide +kernel)
noncomputable def B240_0 : List zRow := [(0, .iconst 0, 1, (0, 0, 0)), (1, .istore_n 3, 1, (0, 0, 0)), (2, .iconst 0, 1, (0, 0, 0)), (3, .istore 4, 2, (0, 0, 0))]
theorem K240_0 : zRk 240 B240_0 = true := zRw_ok (by decide +kernel)
noncomputable def B240_1 : List zRow := [(52, .iload_n 3, 1, (0, 0, 0))]
theorem K240_1 : zRk 240 B240_1 = true := zRw_ok (by decide +kernel)
noncomputable def B240_2 : List zRow := [(16, .aload_n 0, 1, (0, 0, 0)), (17, .getfield 13, 3, (12, 14, 5251442)), (20, .sipush 210, 3, (0, 0, 0)), (23, .iload 4, 2, (0, 0, 0))]
theorem K240_2 : zRk 240 B240_2 = true := zRw_ok (by decide +kernel)
noncomputable def B240_3 : List zRow := [(25, .iadd, 1, (0, 0, 0)), (26, .iaload, 1, (0, 0, 0)), (27, .aload_n 0, 1, (0, 0, 0)), (28, .iload_n 1, 1, (0, 0, 0))]
theorem K240_3 : zRk 240 B240_3 = true := zRw_ok (by decide +kernel)
noncomputable def B240_4 : List zRow := [(39, .iload_n 3, 1, (0, 0, 0)), (40, .iconst 1, 1, (0, 0, 0)), (41, .iload 4, 2, (0, 0, 0)), (43, .ishl, 1, (0, 0, 0)), (44, .ior, 1, (0, 0, 0)), (45, .istore_n 3, 1, (0, 0, 0))]
theorem K240_4 : zRk 240 B240_4 = true := zRw_ok (by decide +kernel)
noncomputable def B240_5 : List zRow := [(35, .iload_n 2, 1, (0, 0, 0)), (36, .if_icmp .gt 10, 3, (0, 0, 0))]
theorem K240_5 : zRk 240 B240_5 = true := zRw_ok (by decide +kernel)
noncomputable def B240_6 : List zRow := [(5, .iload 4, 2, (0, 0, 0)), (7, .aload_n 0, 1, (0, 0, 0)), (8, .getfield 13, 3, (12, 14, 5251442)), (11, .iconst 3, 1, (0, 0, 0)), (12, .iaload, 1, (0, 0, 0)), (13, .if_icmp .ge 39, 3, (0, 0, 0))]
theorem K240_6 : zRk 240 B240_6 = true := zRw_ok (by decide +kernel)
noncomputable def B240_7 : List zRow := [(46, .iinc 4 1, 3, (0, 0, 0)), (49, .goto (-44), 3, (0, 0, 0))]
theorem K240_7 : zRk 240 B240_7 = true := zRw_ok (by decide +kernel)
noncomputable def B239_0 : List zRow := [(0, .aload_n 0, 1, (0, 0, 0)), (1, .iload_n 2, 1, (0, 0, 0)), (2, .iload_n 3, 1, (0, 0, 0))]
theorem K239_0 : zRk 239 B239_0 = true := zRw_ok (by decide +kernel)
noncomputable def B239_1 : List zRow := [(6, .istore 4, 2, (0, 0, 0)), (8, .sipush 998, 3, (0, 0, 0)), (11, .iconst 5, 1, (0, 0, 0)), (12, .aload_n 0, 1, (0, 0, 0)), (13, .getfield 13, 3, (12, 14, 5251442)), (16, .sipush 997, 3, (0, 0, 0)), (19, .iaload, 1, (0, 0, 0))]
theorem K239_1 : zRk 239 B239_1 = true := zRw_ok (by decide +kernel)
noncomputable def B239_2 : List zRow := [(20, .imul, 1, (0, 0, 0))]
theorem K239_2 : zRk 239 B239_2 = true := zRw_ok (by decide +kernel)
noncomputable def B239_3 : List zRow := [(21, .iadd, 1, (0, 0, 0)), (22, .istore 5, 2, (0, 0, 0)), (24, .aload_n 0, 1, (0, 0, 0)), (25, .getfield 13, 3, (12, 14, 5251442)), (28, .iload 5, 2, (0, 0, 0)), (30, .iload_n 1, 1, (0, 0, 0)), (31, .iastore, 1, (0, 0, 0)), (32, .aload_n 0, 1, (0, 0, 0)), (33, .getfield 13, 3, (12, 14, 5251442)), (36, .iload 5, 2, (0, 0, 0)), (38, .iconst 1, 1, (0, 0, 0)), (39, .iadd, 1, (0, 0, 0)), (40, .iload_n 2, 1, (0, 0, 0)), (41, .iastore, 1, (0, 0, 0)), (42, .aload_n 0, 1, (0, 0, 0)), (43, .getfield 13, 3, (12, 14, 5251442)), (46, .iload 5, 2, (0, 0, 0)), (48, .iconst 2, 1, (0, 0, 0)), (49, .iadd, 1, (0, 0, 0)), (50, .aload_n 0, 1, (0, 0, 0)), (51, .getfield 13, 3, (12, 14, 5251442)), (54, .sipush 209, 3, (0, 0, 0))]
theorem K239_3 : zRk 239 B239_3 = true := zRw_ok (by decide +kernel)
noncomputable def B239_4 : List zRow := [(57, .iaload, 1, (0, 0, 0)), (58, .iastore, 1, (0, 0, 0)), (59, .aload_n 0, 1, (0, 0, 0)), (60, .getfield 13, 3, (12, 14, 5251442)), (63, .iload 5, 2, (0, 0, 0)), (65, .iconst 3, 1, (0, 0, 0)), (66, .iadd, 1, (0, 0, 0)), (67, .iload_n 3, 1, (0, 0, 0)), (68, .iastore, 1, (0, 0, 0)), (69, .aload_n 0, 1, (0, 0, 0)), (70, .getfield 13, 3, (12, 14, 5251442)), (73, .iload 5, 2, (0, 0, 0)), (75, .iconst 4, 1, (0, 0, 0)), (76, .iadd, 1, (0, 0, 0)), (77, .iload 4, 2, (0, 0, 0)), (79, .iastore, 1, (0, 0, 0)), (80, .aload_n 0, 1, (0, 0, 0)), (81, .getfield 13, 3, (12, 14, 5251442)), (84, .sipush 997, 3, (0, 0, 0)), (87, .dup2, 1, (0, 0, 0))]
theorem K239_4 : zRk 239 B239_4 = true := zRw_ok (by decide +kernel)
noncomputable def B239_5 : List zRow := [(88, .iaload, 1, (0, 0, 0)), (89, .iconst 1, 1, (0, 0, 0)), (90, .iadd, 1, (0, 0, 0)), (91, .iastore, 1, (0, 0, 0)), (92, .sipush 217, 3, (0, 0, 0)), (95, .bipush 8, 2, (0, 0, 0)), (97, .iload_n 1, 1, (0, 0, 0))]
theorem K239_5 : zRk 239 B239_5 = true := zRw_ok (by decide +kernel)
noncomputable def B239_6 : List zRow := [(98, .imul, 1, (0, 0, 0))]
theorem K239_6 : zRk 239 B239_6 = true := zRw_ok (by decide +kernel)
noncomputable def B239_7 : List zRow := [(99, .iadd, 1, (0, 0, 0)), (100, .istore 6, 2, (0, 0, 0)), (102, .aload_n 0, 1, (0, 0, 0)), (103, .getfield 13, 3, (12, 14, 5251442)), (106, .iload 6, 2, (0, 0, 0)), (108, .bipush 6, 2, (0, 0, 0)), (110, .iadd, 1, (0, 0, 0)), (111, .dup2, 1, (0, 0, 0))]
theorem K239_7 : zRk 239 B239_7 = true := zRw_ok (by decide +kernel)
noncomputable def B239_8 : List zRow := [(112, .iaload, 1, (0, 0, 0)), (113, .iconst 1, 1, (0, 0, 0)), (114, .iadd, 1, (0, 0, 0)), (115, .iastore, 1, (0, 0, 0)), (116, .aload_n 0, 1, (0, 0, 0)), (117, .getfield 13, 3, (12, 14, 5251442)), (120, .iload 6, 2, (0, 0, 0)), (122, .bipush 7, 2, (0, 0, 0)), (124, .iadd, 1, (0, 0, 0)), (125, .dup2, 1, (0, 0, 0))]
theorem K239_8 : zRk 239 B239_8 = true := zRw_ok (by decide +kernel)
noncomputable def B239_9 : List zRow := [(136, .aload_n 0, 1, (0, 0, 0)), (137, .getfield 13, 3, (12, 14, 5251442)), (140, .iload 6, 2, (0, 0, 0)), (142, .iconst 5, 1, (0, 0, 0)), (143, .iadd, 1, (0, 0, 0)), (144, .iload 4, 2, (0, 0, 0)), (146, .iastore, 1, (0, 0, 0))]
theorem K239_9 : zRk 239 B239_9 = true := zRw_ok (by decide +kernel)
noncomputable def B239_10 : List zRow := [(126, .iaload, 1, (0, 0, 0)), (127, .iload 4, 2, (0, 0, 0)), (129, .ior, 1, (0, 0, 0)), (130, .iastore, 1, (0, 0, 0)), (131, .iload 4, 2, (0, 0, 0)), (133, .ifCond .eq 14, 3, (0, 0, 0))]
theorem K239_10 : zRk 239 B239_10 = true := zRw_ok (by decide +kernel)
noncomputable def B239_11 : List zRow := [(147, .iconst 0, 1, (0, 0, 0)), (148, .istore 7, 2, (0, 0, 0))]
theorem K239_11 : zRk 239 B239_11 = true := zRw_ok (by decide +kernel)
noncomputable def B239_12 : List zRow := [(161, .aload_n 0, 1, (0, 0, 0)), (162, .iload_n 2, 1, (0, 0, 0))]
theorem K239_12 : zRk 239 B239_12 = true := zRw_ok (by decide +kernel)
noncomputable def B239_13 : List zRow := [(166, .aload_n 0, 1, (0, 0, 0)), (167, .iload 7, 2, (0, 0, 0))]
theorem K239_13 : zRk 239 B239_13 = true := zRw_ok (by decide +kernel)
noncomputable def B239_14 : List zRow := [(204, .aload_n 0, 1, (0, 0, 0)), (205, .iload_n 1, 1, (0, 0, 0)), (206, .iload 7, 2, (0, 0, 0)), (208, .aload_n 0, 1, (0, 0, 0)), (209, .getfield 13, 3, (12, 14, 5251442)), (212, .sipush 209, 3, (0, 0, 0)), (215, .iaload, 1, (0, 0, 0)), (216, .aload_n 0, 1, (0, 0, 0)), (217, .iload 7, 2, (0, 0, 0))]
theorem K239_14 : zRk 239 B239_14 = true := zRw_ok (by decide +kernel)
noncomputable def B239_15 : List zRow := [(222, .iadd, 1, (0, 0, 0)), (223, .iload 9, 2, (0, 0, 0))]
theorem K239_15 : zRk 239 B239_15 = true := zRw_ok (by decide +kernel)
noncomputable def B239_16 : List zRow := [(199, .iload 9, 2, (0, 0, 0)), (201, .ifCond .le 27, 3, (0, 0, 0))]
theorem K239_16 : zRk 239 B239_16 = true := zRw_ok (by decide +kernel)
noncomputable def B239_17 : List zRow := [(193, .iload 8, 2, (0, 0, 0)), (195, .iload_n 3, 1, (0, 0, 0)), (196, .if_icmp .gt 32, 3, (0, 0, 0))]
theorem K239_17 : zRk 239 B239_17 = true := zRw_ok (by decide +kernel)
noncomputable def B239_18 : List zRow := [(175, .istore 8, 2, (0, 0, 0)), (177, .iload_n 3, 1, (0, 0, 0)), (178, .iconst 1, 1, (0, 0, 0)), (179, .isub, 1, (0, 0, 0)), (180, .iload 8, 2, (0, 0, 0)), (182, .iconst 2, 1, (0, 0, 0)), (183, .idiv, 1, (0, 0, 0)), (184, .isub, 1, (0, 0, 0)), (185, .istore 9, 2, (0, 0, 0)), (187, .iload 7, 2, (0, 0, 0)), (189, .iload_n 2, 1, (0, 0, 0)), (190, .if_icmp .eq 38, 3, (0, 0, 0))]
theorem K239_18 : zRk 239 B239_18 = true := zRw_ok (by decide +kernel)
noncomputable def B239_19 : List zRow := [(150, .iload 7, 2, (0, 0, 0)), (152, .aload_n 0, 1, (0, 0, 0)), (153, .getfield 13, 3, (12, 14, 5251442)), (156, .iconst 2, 1, (0, 0, 0)), (157, .iaload, 1, (0, 0, 0)), (158, .if_icmp .ge 76, 3, (0, 0, 0))]
theorem K239_19 : zRk 239 B239_19 = true := zRw_ok (by decide +kernel)
noncomputable def B239_20 : List zRow := [(228, .iinc 7 1, 3, (0, 0, 0)), (231, .goto (-81), 3, (0, 0, 0))]
theorem K239_20 : zRk 239 B239_20 = true := zRw_ok (by decide +kernel)
