noncomputable def B41_0 : List zRow := [(23, .aload_n 0, 1, (0, 0, 0)), (24, .getfield 18, 3, (10, 2, 23))]
theorem K41_0 : zRk 41 B41_0 = true := zRw_ok (by decide +kernel)
noncomputable def B41_1 : List zRow := [(30, .aload_n 0, 1, (0, 0, 0))]
theorem K41_1 : zRk 41 B41_1 = true := zRw_ok (by decide +kernel)
noncomputable def B41_2 : List zRow := [(39, .aload_n 0, 1, (0, 0, 0)), (40, .getfield 18, 3, (10, 2, 23)), (43, .getfield 95, 3, (5, 7, 1)), (46, .lstore_n 2, 1, (0, 0, 0)), (47, .aload_n 0, 1, (0, 0, 0)), (48, .getfield 18, 3, (10, 2, 23))]
theorem K41_2 : zRk 41 B41_2 = true := zRw_ok (by decide +kernel)
noncomputable def B41_3 : List zRow := [(54, .aload_n 0, 1, (0, 0, 0))]
theorem K41_3 : zRk 41 B41_3 = true := zRw_ok (by decide +kernel)
noncomputable def B41_4 : List zRow := [(68, .aload_n 0, 1, (0, 0, 0)), (69, .getfield 12, 3, (10, 0, 167)), (72, .getfield 123, 3, (9, 11, 5505050)), (75, .iload_n 1, 1, (0, 0, 0)), (76, .lload_n 2, 1, (0, 0, 0)), (77, .lastore, 1, (0, 0, 0)), (78, .aload_n 0, 1, (0, 0, 0)), (79, .getfield 12, 3, (10, 0, 167)), (82, .getfield 126, 3, (9, 12, 5242906)), (85, .iload_n 1, 1, (0, 0, 0)), (86, .iload 4, 2, (0, 0, 0)), (88, .iastore, 1, (0, 0, 0)), (89, .aload_n 0, 1, (0, 0, 0)), (90, .getfield 12, 3, (10, 0, 167)), (93, .getfield 129, 3, (9, 13, 5242906)), (96, .iload_n 1, 1, (0, 0, 0)), (97, .iconst (-1), 1, (0, 0, 0)), (98, .iastore, 1, (0, 0, 0)), (99, .aload_n 0, 1, (0, 0, 0)), (100, .getfield 12, 3, (10, 0, 167)), (103, .iload_n 1, 1, (0, 0, 0)), (104, .iconst 1, 1, (0, 0, 0)), (105, .iadd, 1, (0, 0, 0)), (106, .putfield 120, 3, (9, 3, 0)), (109, .aload_n 0, 1, (0, 0, 0)), (110, .getfield 18, 3, (10, 2, 23))]
theorem K41_4 : zRk 41 B41_4 = true := zRw_ok (by decide +kernel)
noncomputable def B41_5 : List zRow := [(116, .iconst 1, 1, (0, 0, 0))]
theorem K41_5 : zRk 41 B41_5 = true := zRw_ok (by decide +kernel)
noncomputable def B41_6 : List zRow := [(66, .iconst 0, 1, (0, 0, 0))]
theorem K41_6 : zRk 41 B41_6 = true := zRw_ok (by decide +kernel)
noncomputable def B41_7 : List zRow := [(58, .istore 4, 2, (0, 0, 0)), (60, .iload 4, 2, (0, 0, 0)), (62, .iconst (-1), 1, (0, 0, 0)), (63, .if_icmp .ne 5, 3, (0, 0, 0))]
theorem K41_7 : zRk 41 B41_7 = true := zRw_ok (by decide +kernel)
noncomputable def B41_8 : List zRow := [(37, .iconst 0, 1, (0, 0, 0))]
theorem K41_8 : zRk 41 B41_8 = true := zRw_ok (by decide +kernel)
noncomputable def B41_9 : List zRow := [(34, .ifCond .ne 5, 3, (0, 0, 0))]
theorem K41_9 : zRk 41 B41_9 = true := zRw_ok (by decide +kernel)
noncomputable def B41_10 : List zRow := [(14, .aload_n 0, 1, (0, 0, 0)), (15, .getfield 18, 3, (10, 2, 23)), (18, .iconst 4, 1, (0, 0, 0))]
theorem K41_10 : zRk 41 B41_10 = true := zRw_ok (by decide +kernel)
noncomputable def B41_11 : List zRow := [(0, .aload_n 0, 1, (0, 0, 0)), (1, .getfield 12, 3, (10, 0, 167)), (4, .getfield 120, 3, (9, 3, 0)), (7, .istore_n 1, 1, (0, 0, 0)), (8, .iload_n 1, 1, (0, 0, 0)), (9, .bipush 6, 2, (0, 0, 0)), (11, .if_icmp .lt 12, 3, (0, 0, 0))]
theorem K41_11 : zRk 41 B41_11 = true := zRw_ok (by decide +kernel)
noncomputable def B43_0 : List zRow := [(16, .aload_n 1, 1, (0, 0, 0)), (17, .aload_n 0, 1, (0, 0, 0)), (18, .getfield 88, 3, (5, 7, 1))]
theorem K43_0 : zRk 43 B43_0 = true := zRw_ok (by decide +kernel)
noncomputable def B43_1 : List zRow := [(36, .iload_n 2, 1, (0, 0, 0))]
theorem K43_1 : zRk 43 B43_1 = true := zRw_ok (by decide +kernel)
noncomputable def B43_2 : List zRow := [(30, .aload_n 0, 1, (0, 0, 0)), (31, .iconst 3, 1, (0, 0, 0))]
theorem K43_2 : zRk 43 B43_2 = true := zRw_ok (by decide +kernel)
noncomputable def B43_3 : List zRow := [(35, .pop, 1, (0, 0, 0)), (36, .iload_n 2, 1, (0, 0, 0))]
theorem K43_3 : zRk 43 B43_3 = true := zRw_ok (by decide +kernel)
noncomputable def B43_4 : List zRow := [(24, .istore_n 2, 1, (0, 0, 0)), (25, .iload_n 2, 1, (0, 0, 0)), (26, .iconst (-1), 1, (0, 0, 0)), (27, .if_icmp .ne 9, 3, (0, 0, 0))]
theorem K43_4 : zRk 43 B43_4 = true := zRw_ok (by decide +kernel)
noncomputable def B43_5 : List zRow := [(8, .aload_n 0, 1, (0, 0, 0)), (9, .iconst 1, 1, (0, 0, 0))]
theorem K43_5 : zRk 43 B43_5 = true := zRw_ok (by decide +kernel)
noncomputable def B43_6 : List zRow := [(13, .pop, 1, (0, 0, 0)), (14, .iconst (-1), 1, (0, 0, 0))]
theorem K43_6 : zRk 43 B43_6 = true := zRw_ok (by decide +kernel)
noncomputable def B43_7 : List zRow := [(0, .aload_n 0, 1, (0, 0, 0)), (1, .getfield 70, 3, (5, 4, 0)), (4, .iconst 2, 1, (0, 0, 0)), (5, .if_icmp .eq 11, 3, (0, 0, 0))]
theorem K43_7 : zRk 43 B43_7 = true := zRw_ok (by decide +kernel)
noncomputable def B44_0 : List zRow := [(0, .iconst 0, 1, (0, 0, 0)), (1, .istore_n 3, 1, (0, 0, 0))]
theorem K44_0 : zRk 44 B44_0 = true := zRw_ok (by decide +kernel)
noncomputable def B44_1 : List zRow := [(38, .iconst 0, 1, (0, 0, 0))]
theorem K44_1 : zRk 44 B44_1 = true := zRw_ok (by decide +kernel)
noncomputable def B44_2 : List zRow := [(30, .iconst 1, 1, (0, 0, 0))]
theorem K44_2 : zRk 44 B44_2 = true := zRw_ok (by decide +kernel)
noncomputable def B44_3 : List zRow := [(20, .aload_n 0, 1, (0, 0, 0)), (21, .getfield 34, 3, (9, 14, 5242962)), (24, .iload_n 3, 1, (0, 0, 0)), (25, .iaload, 1, (0, 0, 0)), (26, .iload_n 2, 1, (0, 0, 0)), (27, .if_icmp .ne 5, 3, (0, 0, 0))]
theorem K44_3 : zRk 44 B44_3 = true := zRw_ok (by decide +kernel)
noncomputable def B44_4 : List zRow := [(10, .aload_n 0, 1, (0, 0, 0)), (11, .getfield 37, 3, (9, 15, 5242962)), (14, .iload_n 3, 1, (0, 0, 0)), (15, .iaload, 1, (0, 0, 0)), (16, .iload_n 1, 1, (0, 0, 0)), (17, .if_icmp .ne 15, 3, (0, 0, 0))]
theorem K44_4 : zRk 44 B44_4 = true := zRw_ok (by decide +kernel)
noncomputable def B44_5 : List zRow := [(2, .iload_n 3, 1, (0, 0, 0)), (3, .aload_n 0, 1, (0, 0, 0)), (4, .getfield 65, 3, (9, 4, 0)), (7, .if_icmp .ge 31, 3, (0, 0, 0))]
theorem K44_5 : zRk 44 B44_5 = true := zRw_ok (by decide +kernel)
noncomputable def B44_6 : List zRow := [(32, .iinc 3 1, 3, (0, 0, 0)), (35, .goto (-33), 3, (0, 0, 0))]
theorem K44_6 : zRk 44 B44_6 = true := zRw_ok (by decide +kernel)
noncomputable def B42_0 : List zRow := [(23, .aload_n 0, 1, (0, 0, 0)), (24, .getfield 18, 3, (10, 2, 23))]
theorem K42_0 : zRk 42 B42_0 = true := zRw_ok (by decide +kernel)
noncomputable def B42_1 : List zRow := [(30, .aload_n 0, 1, (0, 0, 0)), (31, .getfield 18, 3, (10, 2, 23)), (34, .aload_n 0, 1, (0, 0, 0)), (35, .getfield 12, 3, (10, 0, 167))]
theorem K42_1 : zRk 42 B42_1 = true := zRw_ok (by decide +kernel)
noncomputable def B42_2 : List zRow := [(49, .aload_n 0, 1, (0, 0, 0)), (50, .getfield 18, 3, (10, 2, 23))]
theorem K42_2 : zRk 42 B42_2 = true := zRw_ok (by decide +kernel)
noncomputable def B42_3 : List zRow := [(56, .aload_n 0, 1, (0, 0, 0)), (57, .getfield 18, 3, (10, 2, 23)), (60, .iconst 1, 1, (0, 0, 0)), (61, .sipush 200, 3, (0, 0, 0))]
theorem K42_3 : zRk 42 B42_3 = true := zRw_ok (by decide +kernel)
noncomputable def B42_4 : List zRow := [(72, .aload_n 0, 1, (0, 0, 0)), (73, .getfield 18, 3, (10, 2, 23)), (76, .getfield 52, 3, (5, 6, 0)), (79, .istore_n 3, 1, (0, 0, 0)), (80, .aload_n 0, 1, (0, 0, 0)), (81, .getfield 12, 3, (10, 0, 167)), (84, .iload_n 2, 1, (0, 0, 0)), (85, .iload_n 3, 1, (0, 0, 0))]
theorem K42_4 : zRk 42 B42_4 = true := zRw_ok (by decide +kernel)
noncomputable def B42_5 : List zRow := [(101, .aload_n 0, 1, (0, 0, 0)), (102, .getfield 18, 3, (10, 2, 23))]
theorem K42_5 : zRk 42 B42_5 = true := zRw_ok (by decide +kernel)
noncomputable def B42_6 : List zRow := [(108, .aload_n 0, 1, (0, 0, 0))]
theorem K42_6 : zRk 42 B42_6 = true := zRw_ok (by decide +kernel)
noncomputable def B42_7 : List zRow := [(122, .aload_n 0, 1, (0, 0, 0)), (123, .getfield 12, 3, (10, 0, 167)), (126, .getfield 142, 3, (9, 15, 5242962)), (129, .iload_n 1, 1, (0, 0, 0)), (130, .iload_n 2, 1, (0, 0, 0)), (131, .iastore, 1, (0, 0, 0)), (132, .aload_n 0, 1, (0, 0, 0)), (133, .getfield 12, 3, (10, 0, 167)), (136, .getfield 145, 3, (9, 14, 5242962)), (139, .iload_n 1, 1, (0, 0, 0)), (140, .iload_n 3, 1, (0, 0, 0)), (141, .iastore, 1, (0, 0, 0)), (142, .aload_n 0, 1, (0, 0, 0)), (143, .getfield 12, 3, (10, 0, 167)), (146, .getfield 148, 3, (9, 16, 5242962)), (149, .iload_n 1, 1, (0, 0, 0)), (150, .iload 4, 2, (0, 0, 0)), (152, .iastore, 1, (0, 0, 0)), (153, .aload_n 0, 1, (0, 0, 0)), (154, .getfield 12, 3, (10, 0, 167)), (157, .iload_n 1, 1, (0, 0, 0)), (158, .iconst 1, 1, (0, 0, 0)), (159, .iadd, 1, (0, 0, 0)), (160, .putfield 132, 3, (9, 4, 0)), (163, .aload_n 0, 1, (0, 0, 0)), (164, .getfield 18, 3, (10, 2, 23))]
theorem K42_7 : zRk 42 B42_7 = true := zRw_ok (by decide +kernel)
noncomputable def B42_8 : List zRow := [(170, .iconst 1, 1, (0, 0, 0))]
theorem K42_8 : zRk 42 B42_8 = true := zRw_ok (by decide +kernel)
noncomputable def B42_9 : List zRow := [(120, .iconst 0, 1, (0, 0, 0))]
theorem K42_9 : zRk 42 B42_9 = true := zRw_ok (by decide +kernel)
noncomputable def B42_10 : List zRow := [(112, .istore 4, 2, (0, 0, 0)), (114, .iload 4, 2, (0, 0, 0)), (116, .iconst (-1), 1, (0, 0, 0)), (117, .if_icmp .ne 5, 3, (0, 0, 0))]
theorem K42_10 : zRk 42 B42_10 = true := zRw_ok (by decide +kernel)
noncomputable def B42_11 : List zRow := [(92, .aload_n 0, 1, (0, 0, 0)), (93, .getfield 18, 3, (10, 2, 23)), (96, .iconst 3, 1, (0, 0, 0))]
theorem K42_11 : zRk 42 B42_11 = true := zRw_ok (by decide +kernel)
noncomputable def B42_12 : List zRow := [(89, .ifCond .eq 12, 3, (0, 0, 0))]
theorem K42_12 : zRk 42 B42_12 = true := zRw_ok (by decide +kernel)
noncomputable def B42_13 : List zRow := [(70, .iconst 0, 1, (0, 0, 0))]
theorem K42_13 : zRk 42 B42_13 = true := zRw_ok (by decide +kernel)
noncomputable def B42_14 : List zRow := [(67, .ifCond .ne 5, 3, (0, 0, 0))]
theorem K42_14 : zRk 42 B42_14 = true := zRw_ok (by decide +kernel)
noncomputable def B42_15 : List zRow := [(47, .iconst 0, 1, (0, 0, 0))]
theorem K42_15 : zRk 42 B42_15 = true := zRw_ok (by decide +kernel)
noncomputable def B42_16 : List zRow := [(41, .istore_n 2, 1, (0, 0, 0)), (42, .iload_n 2, 1, (0, 0, 0)), (43, .iconst (-1), 1, (0, 0, 0)), (44, .if_icmp .ne 5, 3, (0, 0, 0))]
theorem K42_16 : zRk 42 B42_16 = true := zRw_ok (by decide +kernel)
noncomputable def B42_17 : List zRow := [(14, .aload_n 0, 1, (0, 0, 0)), (15, .getfield 18, 3, (10, 2, 23)), (18, .iconst 4, 1, (0, 0, 0))]
theorem K42_17 : zRk 42 B42_17 = true := zRw_ok (by decide +kernel)
noncomputable def B42_18 : List zRow := [(0, .aload_n 0, 1, (0, 0, 0)), (1, .getfield 12, 3, (10, 0, 167)), (4, .getfield 132, 3, (9, 4, 0)), (7, .istore_n 1, 1, (0, 0, 0)), (8, .iload_n 1, 1, (0, 0, 0)), (9, .bipush 20, 2, (0, 0, 0)), (11, .if_icmp .lt 12, 3, (0, 0, 0))]
theorem K42_18 : zRk 42 B42_18 = true := zRw_ok (by decide +kernel)
noncomputable def B45_0 : List zRow := [(0, .aload_n 0, 1, (0, 0, 0)), (1, .getfield 18, 3, (10, 2, 23))]
theorem K45_0 : zRk 45 B45_0 = true := zRw_ok (by decide +kernel)
noncomputable def B45_1 : List zRow := [(7, .aload_n 0, 1, (0, 0, 0)), (8, .getfield 18, 3, (10, 2, 23)), (11, .aload_n 0, 1, (0, 0, 0)), (12, .getfield 12, 3, (10, 0, 167))]
theorem K45_1 : zRk 45 B45_1 = true := zRw_ok (by decide +kernel)
noncomputable def B45_2 : List zRow := [(48, .aload_n 0, 1, (0, 0, 0)), (49, .getfield 18, 3, (10, 2, 23))]
theorem K45_2 : zRk 45 B45_2 = true := zRw_ok (by decide +kernel)
noncomputable def B45_3 : List zRow := [(55, .aload_n 0, 1, (0, 0, 0))]
theorem K45_3 : zRk 45 B45_3 = true := zRw_ok (by decide +kernel)
noncomputable def B45_4 : List zRow := [(67, .aload_n 0, 1, (0, 0, 0)), (68, .getfield 12, 3, (10, 0, 167)), (71, .getfield 129, 3, (9, 13, 5242906)), (74, .iload_n 1, 1, (0, 0, 0)), (75, .iload_n 2, 1, (0, 0, 0)), (76, .iastore, 1, (0, 0, 0)), (77, .aload_n 0, 1, (0, 0, 0)), (78, .getfield 18, 3, (10, 2, 23))]
theorem K45_4 : zRk 45 B45_4 = true := zRw_ok (by decide +kernel)
noncomputable def B45_5 : List zRow := [(84, .iconst 1, 1, (0, 0, 0))]
theorem K45_5 : zRk 45 B45_5 = true := zRw_ok (by decide +kernel)
noncomputable def B45_6 : List zRow := [(65, .iconst 0, 1, (0, 0, 0))]
theorem K45_6 : zRk 45 B45_6 = true := zRw_ok (by decide +kernel)
noncomputable def B45_7 : List zRow := [(59, .istore_n 2, 1, (0, 0, 0)), (60, .iload_n 2, 1, (0, 0, 0)), (61, .iconst (-1), 1, (0, 0, 0)), (62, .if_icmp .ne 5, 3, (0, 0, 0))]
theorem K45_7 : zRk 45 B45_7 = true := zRw_ok (by decide +kernel)
noncomputable def B45_8 : List zRow := [(39, .aload_n 0, 1, (0, 0, 0)), (40, .getfield 18, 3, (10, 2, 23)), (43, .iconst 3, 1, (0, 0, 0))]
theorem K45_8 : zRk 45 B45_8 = true := zRw_ok (by decide +kernel)
noncomputable def B45_9 : List zRow := [(26, .aload_n 0, 1, (0, 0, 0)), (27, .getfield 12, 3, (10, 0, 167)), (30, .getfield 129, 3, (9, 13, 5242906)), (33, .iload_n 1, 1, (0, 0, 0)), (34, .iaload, 1, (0, 0, 0)), (35, .iconst (-1), 1, (0, 0, 0)), (36, .if_icmp .eq 12, 3, (0, 0, 0))]
theorem K45_9 : zRk 45 B45_9 = true := zRw_ok (by decide +kernel)
noncomputable def B45_10 : List zRow := [(24, .iconst 0, 1, (0, 0, 0))]
theorem K45_10 : zRk 45 B45_10 = true := zRw_ok (by decide +kernel)
noncomputable def B45_11 : List zRow := [(18, .istore_n 1, 1, (0, 0, 0)), (19, .iload_n 1, 1, (0, 0, 0)), (20, .iconst (-1), 1, (0, 0, 0)), (21, .if_icmp .ne 5, 3, (0, 0, 0))]
theorem K45_11 : zRk 45 B45_11 = true := zRw_ok (by decide +kernel)
noncomputable def B47_0 : List zRow := [(0, .iconst 0, 1, (0, 0, 0)), (1, .istore_n 2, 1, (0, 0, 0))]
theorem K47_0 : zRk 47 B47_0 = true := zRw_ok (by decide +kernel)
noncomputable def B47_1 : List zRow := [(28, .iconst 0, 1, (0, 0, 0))]
theorem K47_1 : zRk 47 B47_1 = true := zRw_ok (by decide +kernel)
noncomputable def B47_2 : List zRow := [(22, .iinc 2 1, 3, (0, 0, 0)), (25, .goto (-23), 3, (0, 0, 0))]
theorem K47_2 : zRk 47 B47_2 = true := zRw_ok (by decide +kernel)
noncomputable def B47_3 : List zRow := [(20, .iconst 1, 1, (0, 0, 0))]
theorem K47_3 : zRk 47 B47_3 = true := zRw_ok (by decide +kernel)
noncomputable def B47_4 : List zRow := [(10, .aload_n 0, 1, (0, 0, 0)), (11, .getfield 43, 3, (9, 17, 5242914)), (14, .iload_n 2, 1, (0, 0, 0)), (15, .iaload, 1, (0, 0, 0)), (16, .iload_n 1, 1, (0, 0, 0)), (17, .if_icmp .ne 5, 3, (0, 0, 0))]
theorem K47_4 : zRk 47 B47_4 = true := zRw_ok (by decide +kernel)
noncomputable def B47_5 : List zRow := [(2, .iload_n 2, 1, (0, 0, 0)), (3, .aload_n 0, 1, (0, 0, 0)), (4, .getfield 68, 3, (9, 5, 0)), (7, .if_icmp .ge 21, 3, (0, 0, 0))]
theorem K47_5 : zRk 47 B47_5 = true := zRw_ok (by decide +kernel)
noncomputable def B46_0 : List zRow := [(23, .aload_n 0, 1, (0, 0, 0)), (24, .getfield 18, 3, (10, 2, 23))]
theorem K46_0 : zRk 46 B46_0 = true := zRw_ok (by decide +kernel)
noncomputable def B46_1 : List zRow := [(30, .aload_n 0, 1, (0, 0, 0))]
theorem K46_1 : zRk 46 B46_1 = true := zRw_ok (by decide +kernel)
noncomputable def B46_2 : List zRow := [(42, .aload_n 0, 1, (0, 0, 0)), (43, .getfield 12, 3, (10, 0, 167)), (46, .iload_n 2, 1, (0, 0, 0))]
theorem K46_2 : zRk 46 B46_2 = true := zRw_ok (by decide +kernel)
noncomputable def B46_3 : List zRow := [(62, .aload_n 0, 1, (0, 0, 0)), (63, .getfield 12, 3, (10, 0, 167)), (66, .getfield 157, 3, (9, 17, 5242914)), (69, .iload_n 1, 1, (0, 0, 0)), (70, .iload_n 2, 1, (0, 0, 0)), (71, .iastore, 1, (0, 0, 0)), (72, .aload_n 0, 1, (0, 0, 0)), (73, .getfield 12, 3, (10, 0, 167)), (76, .iload_n 1, 1, (0, 0, 0)), (77, .iconst 1, 1, (0, 0, 0)), (78, .iadd, 1, (0, 0, 0)), (79, .putfield 151, 3, (9, 5, 0)), (82, .aload_n 0, 1, (0, 0, 0)), (83, .getfield 18, 3, (10, 2, 23))]
theorem K46_3 : zRk 46 B46_3 = true := zRw_ok (by decide +kernel)
noncomputable def B46_4 : List zRow := [(89, .iconst 1, 1, (0, 0, 0))]
theorem K46_4 : zRk 46 B46_4 = true := zRw_ok (by decide +kernel)
noncomputable def B46_5 : List zRow := [(53, .aload_n 0, 1, (0, 0, 0)), (54, .getfield 18, 3, (10, 2, 23)), (57, .iconst 3, 1, (0, 0, 0))]
theorem K46_5 : zRk 46 B46_5 = true := zRw_ok (by decide +kernel)
noncomputable def B46_6 : List zRow := [(50, .ifCond .eq 12, 3, (0, 0, 0))]
theorem K46_6 : zRk 46 B46_6 = true := zRw_ok (by decide +kernel)
noncomputable def B46_7 : List zRow := [(40, .iconst 0, 1, (0, 0, 0))]
theorem K46_7 : zRk 46 B46_7 = true := zRw_ok (by decide +kernel)
noncomputable def B46_8 : List zRow := [(34, .istore_n 2, 1, (0, 0, 0)), (35, .iload_n 2, 1, (0, 0, 0)), (36, .iconst (-1), 1, (0, 0, 0)), (37, .if_icmp .ne 5, 3, (0, 0, 0))]
theorem K46_8 : zRk 46 B46_8 = true := zRw_ok (by decide +kernel)
noncomputable def B46_9 : List zRow := [(14, .aload_n 0, 1, (0, 0, 0)), (15, .getfield 18, 3, (10, 2, 23)), (18, .iconst 4, 1, (0, 0, 0))]
theorem K46_9 : zRk 46 B46_9 = true := zRw_ok (by decide +kernel)
noncomputable def B46_10 : List zRow := [(0, .aload_n 0, 1, (0, 0, 0)), (1, .getfield 12, 3, (10, 0, 167)), (4, .getfield 151, 3, (9, 5, 0)), (7, .istore_n 1, 1, (0, 0, 0)), (8, .iload_n 1, 1, (0, 0, 0)), (9, .bipush 8, 2, (0, 0, 0)), (11, .if_icmp .lt 12, 3, (0, 0, 0))]
theorem K46_10 : zRk 46 B46_10 = true := zRw_ok (by decide +kernel)
noncomputable def B49_0 : List zRow := [(0, .iconst 0, 1, (0, 0, 0)), (1, .istore_n 2, 1, (0, 0, 0))]
theorem K49_0 : zRk 49 B49_0 = true := zRw_ok (by decide +kernel)
noncomputable def B49_1 : List zRow := [(28, .iconst 0, 1, (0, 0, 0))]
theorem K49_1 : zRk 49 B49_1 = true := zRw_ok (by decide +kernel)
noncomputable def B49_2 : List zRow := [(22, .iinc 2 1, 3, (0, 0, 0)), (25, .goto (-23), 3, (0, 0, 0))]
theorem K49_2 : zRk 49 B49_2 = true := zRw_ok (by decide +kernel)
noncomputable def B49_3 : List zRow := [(20, .iconst 1, 1, (0, 0, 0))]
theorem K49_3 : zRk 49 B49_3 = true := zRw_ok (by decide +kernel)
noncomputable def B49_4 : List zRow := [(10, .aload_n 0, 1, (0, 0, 0)), (11, .getfield 46, 3, (9, 18, 5242906)), (14, .iload_n 2, 1, (0, 0, 0)), (15, .iaload, 1, (0, 0, 0)), (16, .iload_n 1, 1, (0, 0, 0)), (17, .if_icmp .ne 5, 3, (0, 0, 0))]
theorem K49_4 : zRk 49 B49_4 = true := zRw_ok (by decide +kernel)
noncomputable def B49_5 : List zRow := [(2, .iload_n 2, 1, (0, 0, 0)), (3, .aload_n 0, 1, (0, 0, 0)), (4, .getfield 71, 3, (9, 6, 0)), (7, .if_icmp .ge 21, 3, (0, 0, 0))]
theorem K49_5 : zRk 49 B49_5 = true := zRw_ok (by decide +kernel)
noncomputable def B48_0 : List zRow := [(23, .aload_n 0, 1, (0, 0, 0)), (24, .getfield 18, 3, (10, 2, 23))]
theorem K48_0 : zRk 48 B48_0 = true := zRw_ok (by decide +kernel)
noncomputable def B48_1 : List zRow := [(30, .aload_n 0, 1, (0, 0, 0)), (31, .getfield 18, 3, (10, 2, 23)), (34, .iconst 0, 1, (0, 0, 0)), (35, .sipush 200, 3, (0, 0, 0))]
theorem K48_1 : zRk 48 B48_1 = true := zRw_ok (by decide +kernel)
noncomputable def B48_2 : List zRow := [(46, .aload_n 0, 1, (0, 0, 0)), (47, .getfield 18, 3, (10, 2, 23)), (50, .getfield 52, 3, (5, 6, 0)), (53, .istore_n 2, 1, (0, 0, 0)), (54, .aload_n 0, 1, (0, 0, 0)), (55, .getfield 12, 3, (10, 0, 167)), (58, .iload_n 2, 1, (0, 0, 0))]
theorem K48_2 : zRk 48 B48_2 = true := zRw_ok (by decide +kernel)
noncomputable def B48_3 : List zRow := [(74, .aload_n 0, 1, (0, 0, 0)), (75, .getfield 18, 3, (10, 2, 23))]
theorem K48_3 : zRk 48 B48_3 = true := zRw_ok (by decide +kernel)
noncomputable def B48_4 : List zRow := [(81, .aload_n 0, 1, (0, 0, 0)), (82, .getfield 18, 3, (10, 2, 23)), (85, .iconst 0, 1, (0, 0, 0)), (86, .bipush 9, 2, (0, 0, 0))]
theorem K48_4 : zRk 48 B48_4 = true := zRw_ok (by decide +kernel)
noncomputable def B48_5 : List zRow := [(96, .aload_n 0, 1, (0, 0, 0)), (97, .getfield 12, 3, (10, 0, 167)), (100, .getfield 166, 3, (9, 18, 5242906)), (103, .iload_n 1, 1, (0, 0, 0)), (104, .iload_n 2, 1, (0, 0, 0)), (105, .iastore, 1, (0, 0, 0)), (106, .aload_n 0, 1, (0, 0, 0)), (107, .getfield 12, 3, (10, 0, 167)), (110, .getfield 169, 3, (9, 19, 5242906)), (113, .iload_n 1, 1, (0, 0, 0)), (114, .aload_n 0, 1, (0, 0, 0)), (115, .getfield 18, 3, (10, 2, 23)), (118, .getfield 52, 3, (5, 6, 0)), (121, .iastore, 1, (0, 0, 0)), (122, .aload_n 0, 1, (0, 0, 0)), (123, .getfield 12, 3, (10, 0, 167)), (126, .iload_n 1, 1, (0, 0, 0)), (127, .iconst 1, 1, (0, 0, 0)), (128, .iadd, 1, (0, 0, 0)), (129, .putfield 160, 3, (9, 6, 0)), (132, .aload_n 0, 1, (0, 0, 0)), (133, .getfield 18, 3, (10, 2, 23))]
theorem K48_5 : zRk 48 B48_5 = true := zRw_ok (by decide +kernel)
noncomputable def B48_6 : List zRow := [(139, .iconst 1, 1, (0, 0, 0))]
theorem K48_6 : zRk 48 B48_6 = true := zRw_ok (by decide +kernel)
noncomputable def B48_7 : List zRow := [(94, .iconst 0, 1, (0, 0, 0))]
theorem K48_7 : zRk 48 B48_7 = true := zRw_ok (by decide +kernel)
noncomputable def B48_8 : List zRow := [(91, .ifCond .ne 5, 3, (0, 0, 0))]
theorem K48_8 : zRk 48 B48_8 = true := zRw_ok (by decide +kernel)
noncomputable def B48_9 : List zRow := [(65, .aload_n 0, 1, (0, 0, 0)), (66, .getfield 18, 3, (10, 2, 23)), (69, .iconst 3, 1, (0, 0, 0))]
theorem K48_9 : zRk 48 B48_9 = true := zRw_ok (by decide +kernel)
noncomputable def B48_10 : List zRow := [(62, .ifCond .eq 12, 3, (0, 0, 0))]
theorem K48_10 : zRk 48 B48_10 = true := zRw_ok (by decide +kernel)
noncomputable def B48_11 : List zRow := [(44, .iconst 0, 1, (0, 0, 0))]
theorem K48_11 : zRk 48 B48_11 = true := zRw_ok (by decide +kernel)
noncomputable def B48_12 : List zRow := [(41, .ifCond .ne 5, 3, (0, 0, 0))]
theorem K48_12 : zRk 48 B48_12 = true := zRw_ok (by decide +kernel)
noncomputable def B48_13 : List zRow := [(14, .aload_n 0, 1, (0, 0, 0)), (15, .getfield 18, 3, (10, 2, 23)), (18, .iconst 4, 1, (0, 0, 0))]
theorem K48_13 : zRk 48 B48_13 = true := zRw_ok (by decide +kernel)
noncomputable def B48_14 : List zRow := [(0, .aload_n 0, 1, (0, 0, 0)), (1, .getfield 12, 3, (10, 0, 167)), (4, .getfield 160, 3, (9, 6, 0)), (7, .istore_n 1, 1, (0, 0, 0)), (8, .iload_n 1, 1, (0, 0, 0)), (9, .bipush 6, 2, (0, 0, 0)), (11, .if_icmp .lt 12, 3, (0, 0, 0))]
theorem K48_14 : zRk 48 B48_14 = true := zRw_ok (by decide +kernel)
noncomputable def B30_0 : List zRow := [(68, .aload_n 0, 1, (0, 0, 0))]
theorem K30_0 : zRk 30 B30_0 = true := zRw_ok (by decide +kernel)
noncomputable def B30_1 : List zRow := [(20, .aload_n 0, 1, (0, 0, 0)), (21, .getfield 18, 3, (10, 2, 23)), (24, .getfield 52, 3, (5, 6, 0)), (27, .tableswitch 76 0 6 #[41, 46, 51, 56, 61, 66, 71], 41, (0, 0, 0))]
theorem K30_1 : zRk 30 B30_1 = true := by decide +kernel
noncomputable def B30_2 : List zRow := [(73, .aload_n 0, 1, (0, 0, 0))]
theorem K30_2 : zRk 30 B30_2 = true := zRw_ok (by decide +kernel)
noncomputable def B30_3 : List zRow := [(78, .aload_n 0, 1, (0, 0, 0))]
theorem K30_3 : zRk 30 B30_3 = true := zRw_ok (by decide +kernel)
noncomputable def B30_4 : List zRow := [(83, .aload_n 0, 1, (0, 0, 0))]
theorem K30_4 : zRk 30 B30_4 = true := zRw_ok (by decide +kernel)
noncomputable def B30_5 : List zRow := [(88, .aload_n 0, 1, (0, 0, 0))]
theorem K30_5 : zRk 30 B30_5 = true := zRw_ok (by decide +kernel)
noncomputable def B30_6 : List zRow := [(93, .aload_n 0, 1, (0, 0, 0))]
theorem K30_6 : zRk 30 B30_6 = true := zRw_ok (by decide +kernel)
noncomputable def B30_7 : List zRow := [(98, .aload_n 0, 1, (0, 0, 0))]
theorem K30_7 : zRk 30 B30_7 = true := zRw_ok (by decide +kernel)
noncomputable def B30_8 : List zRow := [(103, .aload_n 0, 1, (0, 0, 0)), (104, .getfield 18, 3, (10, 2, 23)), (107, .iconst 1, 1, (0, 0, 0))]
theorem K30_8 : zRk 30 B30_8 = true := zRw_ok (by decide +kernel)
noncomputable def B30_9 : List zRow := [(11, .aload_n 0, 1, (0, 0, 0)), (12, .getfield 18, 3, (10, 2, 23)), (15, .iconst 1, 1, (0, 0, 0))]
theorem K30_9 : zRk 30 B30_9 = true := zRw_ok (by decide +kernel)
noncomputable def B30_10 : List zRow := [(0, .aload_n 0, 1, (0, 0, 0)), (1, .getfield 18, 3, (10, 2, 23)), (4, .getfield 46, 3, (5, 4, 0)), (7, .iconst 3, 1, (0, 0, 0)), (8, .if_icmp .eq 12, 3, (0, 0, 0))]
theorem K30_10 : zRk 30 B30_10 = true := zRw_ok (by decide +kernel)
noncomputable def B51_0 : List zRow := [(20, .iconst 0, 1, (0, 0, 0))]
theorem K51_0 : zRk 51 B51_0 = true := zRw_ok (by decide +kernel)
noncomputable def B51_1 : List zRow := [(16, .iconst 1, 1, (0, 0, 0)), (17, .goto 4, 3, (0, 0, 0))]
theorem K51_1 : zRk 51 B51_1 = true := zRw_ok (by decide +kernel)
noncomputable def B51_2 : List zRow := [(8, .aload_n 0, 1, (0, 0, 0)), (9, .getfield 82, 3, (5, 6, 0)), (12, .iload_n 1, 1, (0, 0, 0)), (13, .if_icmp .ne 7, 3, (0, 0, 0))]
theorem K51_2 : zRk 51 B51_2 = true := zRw_ok (by decide +kernel)
noncomputable def B51_3 : List zRow := [(0, .aload_n 0, 1, (0, 0, 0)), (1, .getfield 70, 3, (5, 4, 0)), (4, .iconst 5, 1, (0, 0, 0)), (5, .if_icmp .ne 15, 3, (0, 0, 0))]
theorem K51_3 : zRk 51 B51_3 = true := zRw_ok (by decide +kernel)
noncomputable def B50_0 : List zRow := [(0, .aload_n 0, 1, (0, 0, 0)), (1, .iload_n 1, 1, (0, 0, 0))]
theorem K50_0 : zRk 50 B50_0 = true := zRw_ok (by decide +kernel)
noncomputable def B50_1 : List zRow := [(14, .aload_n 0, 1, (0, 0, 0))]
theorem K50_1 : zRk 50 B50_1 = true := zRw_ok (by decide +kernel)
noncomputable def B50_2 : List zRow := [(18, .iconst 1, 1, (0, 0, 0))]
theorem K50_2 : zRk 50 B50_2 = true := zRw_ok (by decide +kernel)
noncomputable def B50_3 : List zRow := [(8, .aload_n 0, 1, (0, 0, 0)), (9, .iconst 1, 1, (0, 0, 0))]
theorem K50_3 : zRk 50 B50_3 = true := zRw_ok (by decide +kernel)
noncomputable def B50_4 : List zRow := [(5, .ifCond .ne 9, 3, (0, 0, 0))]
theorem K50_4 : zRk 50 B50_4 = true := zRw_ok (by decide +kernel)
noncomputable def B18_0 : List zRow := [(0, .aload_n 0, 1, (0, 0, 0)), (1, .getfield 12, 3, (10, 0, 167))]
theorem K18_0 : zRk 18 B18_0 = true := zRw_ok (by decide +kernel)
noncomputable def B18_1 : List zRow := [(7, .aload_n 0, 1, (0, 0, 0)), (8, .iconst 0, 1, (0, 0, 0)), (9, .putfield 25, 3, (10, 1, 0)), (12, .aload_n 0, 1, (0, 0, 0)), (13, .getfield 18, 3, (10, 2, 23)), (16, .sipush 900, 3, (0, 0, 0))]
theorem K18_1 : zRk 18 B18_1 = true := zRw_ok (by decide +kernel)
noncomputable def B18_2 : List zRow := [(22, .iconst 0, 1, (0, 0, 0)), (23, .istore_n 1, 1, (0, 0, 0))]
theorem K18_2 : zRk 18 B18_2 = true := zRw_ok (by decide +kernel)
noncomputable def B18_3 : List zRow := [(78, .iconst 1, 1, (0, 0, 0))]
theorem K18_3 : zRk 18 B18_3 = true := zRw_ok (by decide +kernel)
noncomputable def B18_4 : List zRow := [(31, .aload_n 0, 1, (0, 0, 0)), (32, .getfield 18, 3, (10, 2, 23))]
theorem K18_4 : zRk 18 B18_4 = true := zRw_ok (by decide +kernel)
noncomputable def B18_5 : List zRow := [(41, .aload_n 0, 1, (0, 0, 0))]
theorem K18_5 : zRk 18 B18_5 = true := zRw_ok (by decide +kernel)
noncomputable def B18_6 : List zRow := [(60, .iconst 0, 1, (0, 0, 0))]
theorem K18_6 : zRk 18 B18_6 = true := zRw_ok (by decide +kernel)
noncomputable def B18_7 : List zRow := [(48, .aload_n 0, 1, (0, 0, 0)), (49, .getfield 18, 3, (10, 2, 23)), (52, .bipush 59, 2, (0, 0, 0))]
theorem K18_7 : zRk 18 B18_7 = true := zRw_ok (by decide +kernel)
noncomputable def B18_8 : List zRow := [(62, .aload_n 0, 1, (0, 0, 0)), (63, .dup, 1, (0, 0, 0)), (64, .getfield 25, 3, (10, 1, 0)), (67, .iconst 1, 1, (0, 0, 0)), (68, .iadd, 1, (0, 0, 0)), (69, .putfield 25, 3, (10, 1, 0)), (72, .iinc 1 1, 3, (0, 0, 0)), (75, .goto (-51), 3, (0, 0, 0))]
theorem K18_8 : zRk 18 B18_8 = true := zRw_ok (by decide +kernel)
noncomputable def B18_9 : List zRow := [(57, .ifCond .ne 5, 3, (0, 0, 0))]
theorem K18_9 : zRk 18 B18_9 = true := zRw_ok (by decide +kernel)
noncomputable def B18_10 : List zRow := [(45, .ifCond .eq 15, 3, (0, 0, 0))]
theorem K18_10 : zRk 18 B18_10 = true := zRw_ok (by decide +kernel)
noncomputable def B18_11 : List zRow := [(38, .ifCond .ne 40, 3, (0, 0, 0))]
theorem K18_11 : zRk 18 B18_11 = true := zRw_ok (by decide +kernel)
noncomputable def B18_12 : List zRow := [(24, .iload_n 1, 1, (0, 0, 0)), (25, .sipush 940, 3, (0, 0, 0)), (28, .if_icmp .ge 50, 3, (0, 0, 0))]
theorem K18_12 : zRk 18 B18_12 = true := zRw_ok (by decide +kernel)
noncomputable def B52_0 : List zRow := [(0, .aload_n 0, 1, (0, 0, 0)), (1, .aload_n 1, 1, (0, 0, 0)), (2, .getfield 52, 3, (9, 0, 0)), (5, .putfield 52, 3, (9, 0, 0)), (8, .aload_n 0, 1, (0, 0, 0)), (9, .aload_n 1, 1, (0, 0, 0)), (10, .getfield 56, 3, (9, 1, 0)), (13, .putfield 56, 3, (9, 1, 0)), (16, .aload_n 0, 1, (0, 0, 0)), (17, .aload_n 1, 1, (0, 0, 0)), (18, .getfield 59, 3, (9, 2, 0)), (21, .putfield 59, 3, (9, 2, 0)), (24, .aload_n 0, 1, (0, 0, 0)), (25, .aload_n 1, 1, (0, 0, 0)), (26, .getfield 62, 3, (9, 3, 0)), (29, .putfield 62, 3, (9, 3, 0)), (32, .aload_n 0, 1, (0, 0, 0)), (33, .aload_n 1, 1, (0, 0, 0)), (34, .getfield 65, 3, (9, 4, 0)), (37, .putfield 65, 3, (9, 4, 0)), (40, .aload_n 0, 1, (0, 0, 0)), (41, .aload_n 1, 1, (0, 0, 0)), (42, .getfield 68, 3, (9, 5, 0)), (45, .putfield 68, 3, (9, 5, 0)), (48, .aload_n 0, 1, (0, 0, 0)), (49, .aload_n 1, 1, (0, 0, 0)), (50, .getfield 71, 3, (9, 6, 0)), (53, .putfield 71, 3, (9, 6, 0)), (56, .aload_n 1, 1, (0, 0, 0)), (57, .getfield 9, 3, (9, 7, 5505050)), (60, .iconst 0, 1, (0, 0, 0)), (61, .aload_n 0, 1, (0, 0, 0)), (62, .getfield 9, 3, (9, 7, 5505050)), (65, .iconst 0, 1, (0, 0, 0)), (66, .bipush 6, 2, (0, 0, 0)), (68, .invokestatic 74, 3, (5001, 0, 0)), (71, .aload_n 1, 1, (0, 0, 0)), (72, .getfield 15, 3, (9, 8, 5242906)), (75, .iconst 0, 1, (0, 0, 0)), (76, .aload_n 0, 1, (0, 0, 0)), (77, .getfield 15, 3, (9, 8, 5242906)), (80, .iconst 0, 1, (0, 0, 0)), (81, .bipush 6, 2, (0, 0, 0)), (83, .invokestatic 74, 3, (5001, 0, 0)), (86, .aload_n 1, 1, (0, 0, 0)), (87, .getfield 19, 3, (9, 9, 5242906)), (90, .iconst 0, 1, (0, 0, 0)), (91, .aload_n 0, 1, (0, 0, 0)), (92, .getfield 19, 3, (9, 9, 5242906)), (95, .iconst 0, 1, (0, 0, 0)), (96, .bipush 6, 2, (0, 0, 0)), (98, .invokestatic 74, 3, (5001, 0, 0)), (101, .aload_n 1, 1, (0, 0, 0)), (102, .getfield 22, 3, (9, 10, 5242906)), (105, .iconst 0, 1, (0, 0, 0)), (106, .aload_n 0, 1, (0, 0, 0)), (107, .getfield 22, 3, (9, 10, 5242906)), (110, .iconst 0, 1, (0, 0, 0)), (111, .bipush 6, 2, (0, 0, 0)), (113, .invokestatic 74, 3, (5001, 0, 0)), (116, .aload_n 1, 1, (0, 0, 0)), (117, .getfield 25, 3, (9, 11, 5505050)), (120, .iconst 0, 1, (0, 0, 0)), (121, .aload_n 0, 1, (0, 0, 0)), (122, .getfield 25, 3, (9, 11, 5505050)), (125, .iconst 0, 1, (0, 0, 0)), (126, .bipush 6, 2, (0, 0, 0)), (128, .invokestatic 74, 3, (5001, 0, 0)), (131, .aload_n 1, 1, (0, 0, 0)), (132, .getfield 28, 3, (9, 12, 5242906)), (135, .iconst 0, 1, (0, 0, 0)), (136, .aload_n 0, 1, (0, 0, 0)), (137, .getfield 28, 3, (9, 12, 5242906)), (140, .iconst 0, 1, (0, 0, 0)), (141, .bipush 6, 2, (0, 0, 0)), (143, .invokestatic 74, 3, (5001, 0, 0)), (146, .aload_n 1, 1, (0, 0, 0)), (147, .getfield 31, 3, (9, 13, 5242906)), (150, .iconst 0, 1, (0, 0, 0)), (151, .aload_n 0, 1, (0, 0, 0)), (152, .getfield 31, 3, (9, 13, 5242906)), (155, .iconst 0, 1, (0, 0, 0)), (156, .bipush 6, 2, (0, 0, 0)), (158, .invokestatic 74, 3, (5001, 0, 0)), (161, .aload_n 1, 1, (0, 0, 0)), (162, .getfield 34, 3, (9, 14, 5242962)), (165, .iconst 0, 1, (0, 0, 0)), (166, .aload_n 0, 1, (0, 0, 0)), (167, .getfield 34, 3, (9, 14, 5242962)), (170, .iconst 0, 1, (0, 0, 0)), (171, .bipush 20, 2, (0, 0, 0)), (173, .invokestatic 74, 3, (5001, 0, 0)), (176, .aload_n 1, 1, (0, 0, 0)), (177, .getfield 37, 3, (9, 15, 5242962)), (180, .iconst 0, 1, (0, 0, 0)), (181, .aload_n 0, 1, (0, 0, 0)), (182, .getfield 37, 3, (9, 15, 5242962)), (185, .iconst 0, 1, (0, 0, 0)), (186, .bipush 20, 2, (0, 0, 0)), (188, .invokestatic 74, 3, (5001, 0, 0)), (191, .aload_n 1, 1, (0, 0, 0)), (192, .getfield 40, 3, (9, 16, 5242962)), (195, .iconst 0, 1, (0, 0, 0)), (196, .aload_n 0, 1, (0, 0, 0)), (197, .getfield 40, 3, (9, 16, 5242962)), (200, .iconst 0, 1, (0, 0, 0)), (201, .bipush 20, 2, (0, 0, 0)), (203, .invokestatic 74, 3, (5001, 0, 0)), (206, .aload_n 1, 1, (0, 0, 0)), (207, .getfield 43, 3, (9, 17, 5242914)), (210, .iconst 0, 1, (0, 0, 0)), (211, .aload_n 0, 1, (0, 0, 0)), (212, .getfield 43, 3, (9, 17, 5242914)), (215, .iconst 0, 1, (0, 0, 0)), (216, .bipush 8, 2, (0, 0, 0)), (218, .invokestatic 74, 3, (5001, 0, 0)), (221, .aload_n 1, 1, (0, 0, 0)), (222, .getfield 46, 3, (9, 18, 5242906)), (225, .iconst 0, 1, (0, 0, 0)), (226, .aload_n 0, 1, (0, 0, 0)), (227, .getfield 46, 3, (9, 18, 5242906)), (230, .iconst 0, 1, (0, 0, 0)), (231, .bipush 6, 2, (0, 0, 0)), (233, .invokestatic 74, 3, (5001, 0, 0)), (236, .aload_n 1, 1, (0, 0, 0)), (237, .getfield 49, 3, (9, 19, 5242906)), (240, .iconst 0, 1, (0, 0, 0)), (241, .aload_n 0, 1, (0, 0, 0)), (242, .getfield 49, 3, (9, 19, 5242906)), (245, .iconst 0, 1, (0, 0, 0)), (246, .bipush 6, 2, (0, 0, 0)), (248, .invokestatic 74, 3, (5001, 0, 0))]
theorem K52_0 : zRk 52 B52_0 = true := zRw_ok (by decide +kernel)
noncomputable def B53_0 : List zRow := [(0, .aload_n 0, 1, (0, 0, 0)), (1, .iconst 0, 1, (0, 0, 0)), (2, .putfield 30, 3, (1, 0, 0)), (5, .aload_n 0, 1, (0, 0, 0)), (6, .iconst 0, 1, (0, 0, 0)), (7, .putfield 34, 3, (1, 1, 0)), (10, .aload_n 0, 1, (0, 0, 0)), (11, .iconst 0, 1, (0, 0, 0)), (12, .putfield 37, 3, (1, 2, 0)), (15, .aload_n 1, 1, (0, 0, 0)), (16, .getfield 40, 3, (9, 12, 5242906)), (19, .iconst 0, 1, (0, 0, 0)), (20, .aload_n 0, 1, (0, 0, 0)), (21, .getfield 9, 3, (1, 3, 5242906)), (24, .iconst 0, 1, (0, 0, 0)), (25, .bipush 6, 2, (0, 0, 0)), (27, .invokestatic 45, 3, (5001, 0, 0))]
theorem K53_0 : zRk 53 B53_0 = true := zRw_ok (by decide +kernel)
noncomputable def B54_0 : List zRow := [(0, .aload_n 0, 1, (0, 0, 0)), (1, .iconst 0, 1, (0, 0, 0)), (2, .putfield 19, 3, (6, 0, 0)), (5, .aload_n 0, 1, (0, 0, 0)), (6, .iconst 0, 1, (0, 0, 0)), (7, .putfield 23, 3, (6, 1, 0))]
theorem K54_0 : zRk 54 B54_0 = true := zRw_ok (by decide +kernel)
noncomputable def B55_0 : List zRow := [(0, .aload_n 0, 1, (0, 0, 0)), (1, .iconst 0, 1, (0, 0, 0)), (2, .putfield 18, 3, (8, 0, 0))]
theorem K55_0 : zRk 55 B55_0 = true := zRw_ok (by decide +kernel)
noncomputable def B17_0 : List zRow := [(0, .aload_n 0, 1, (0, 0, 0)), (1, .getfield 28, 3, (11, 2, 43))]
theorem K17_0 : zRk 17 B17_0 = true := zRw_ok (by decide +kernel)
noncomputable def B17_1 : List zRow := [(30, .aload_n 0, 1, (0, 0, 0)), (31, .getfield 19, 3, (11, 1, 39)), (34, .aload_n 0, 1, (0, 0, 0)), (35, .getfield 28, 3, (11, 2, 43)), (38, .getfield 119, 3, (10, 0, 167))]
theorem K17_1 : zRk 17 B17_1 = true := zRw_ok (by decide +kernel)
noncomputable def B17_2 : List zRow := [(44, .aload_n 0, 1, (0, 0, 0)), (45, .getfield 56, 3, (11, 6, 7)), (48, .aload_n 0, 1, (0, 0, 0)), (49, .getfield 19, 3, (11, 1, 39))]
theorem K17_2 : zRk 17 B17_2 = true := zRw_ok (by decide +kernel)
noncomputable def B17_3 : List zRow := [(55, .aload_n 0, 1, (0, 0, 0)), (56, .getfield 42, 3, (11, 4, 27))]
theorem K17_3 : zRk 17 B17_3 = true := zRw_ok (by decide +kernel)
noncomputable def B17_4 : List zRow := [(62, .aload_n 0, 1, (0, 0, 0)), (63, .getfield 66, 3, (11, 8, 35))]
theorem K17_4 : zRk 17 B17_4 = true := zRw_ok (by decide +kernel)
noncomputable def B17_5 : List zRow := [(69, .aload_n 0, 1, (0, 0, 0)), (70, .getfield 28, 3, (11, 2, 43)), (73, .getfield 133, 3, (10, 1, 0))]
theorem K17_5 : zRk 17 B17_5 = true := zRw_ok (by decide +kernel)
noncomputable def B17_6 : List zRow := [(20, .iconst (-1), 1, (0, 0, 0)), (21, .aload_n 0, 1, (0, 0, 0)), (22, .getfield 12, 3, (11, 0, 23)), (25, .getfield 116, 3, (5, 3, 0))]
theorem K17_6 : zRk 17 B17_6 = true := zRw_ok (by decide +kernel)
noncomputable def B17_7 : List zRow := [(28, .isub, 1, (0, 0, 0))]
theorem K17_7 : zRk 17 B17_7 = true := zRw_ok (by decide +kernel)
noncomputable def B17_8 : List zRow := [(7, .istore_n 1, 1, (0, 0, 0)), (8, .aload_n 0, 1, (0, 0, 0)), (9, .getfield 12, 3, (11, 0, 23)), (12, .iconst 0, 1, (0, 0, 0)), (13, .putfield 105, 3, (5, 1, 0)), (16, .iload_n 1, 1, (0, 0, 0)), (17, .ifCond .ne 13, 3, (0, 0, 0))]
theorem K17_8 : zRk 17 B17_8 = true := zRw_ok (by decide +kernel)
noncomputable def B175_0 : List zRow := [(0, .aload_n 0, 1, (0, 0, 0)), (1, .getfield 85, 3, (12, 2, 0)), (4, .istore_n 1, 1, (0, 0, 0)), (5, .aload_n 0, 1, (0, 0, 0)), (6, .iconst 0, 1, (0, 0, 0)), (7, .putfield 85, 3, (12, 2, 0)), (10, .iload_n 1, 1, (0, 0, 0))]
theorem K175_0 : zRk 175 B175_0 = true := zRw_ok (by decide +kernel)
noncomputable def B177_0 : List zRow := [(16, .iconst 0, 1, (0, 0, 0))]
theorem K177_0 : zRk 177 B177_0 = true := zRw_ok (by decide +kernel)
noncomputable def B177_1 : List zRow := [(12, .iconst 1, 1, (0, 0, 0)), (13, .goto 4, 3, (0, 0, 0))]
theorem K177_1 : zRk 177 B177_1 = true := zRw_ok (by decide +kernel)
noncomputable def B177_2 : List zRow := [(6, .iload_n 0, 1, (0, 0, 0)), (7, .bipush 122, 2, (0, 0, 0)), (9, .if_icmp .gt 7, 3, (0, 0, 0))]
theorem K177_2 : zRk 177 B177_2 = true := zRw_ok (by decide +kernel)
noncomputable def B177_3 : List zRow := [(0, .iload_n 0, 1, (0, 0, 0)), (1, .bipush 97, 2, (0, 0, 0)), (3, .if_icmp .lt 13, 3, (0, 0, 0))]
theorem K177_3 : zRk 177 B177_3 = true := zRw_ok (by decide +kernel)
noncomputable def B178_0 : List zRow := [(16, .iconst 0, 1, (0, 0, 0))]
theorem K178_0 : zRk 178 B178_0 = true := zRw_ok (by decide +kernel)
noncomputable def B178_1 : List zRow := [(12, .iconst 1, 1, (0, 0, 0)), (13, .goto 4, 3, (0, 0, 0))]
theorem K178_1 : zRk 178 B178_1 = true := zRw_ok (by decide +kernel)
noncomputable def B178_2 : List zRow := [(6, .iload_n 0, 1, (0, 0, 0)), (7, .bipush 57, 2, (0, 0, 0)), (9, .if_icmp .gt 7, 3, (0, 0, 0))]
theorem K178_2 : zRk 178 B178_2 = true := zRw_ok (by decide +kernel)
noncomputable def B178_3 : List zRow := [(0, .iload_n 0, 1, (0, 0, 0)), (1, .bipush 48, 2, (0, 0, 0)), (3, .if_icmp .lt 13, 3, (0, 0, 0))]
theorem K178_3 : zRk 178 B178_3 = true := zRw_ok (by decide +kernel)
noncomputable def B179_0 : List zRow := [(17, .iconst 0, 1, (0, 0, 0))]
theorem K179_0 : zRk 179 B179_0 = true := zRw_ok (by decide +kernel)
noncomputable def B179_1 : List zRow := [(8, .aload_n 0, 1, (0, 0, 0)), (9, .getfield 7, 3, (12, 1, 5246642)), (12, .iload_n 1, 1, (0, 0, 0)), (13, .iaload, 1, (0, 0, 0)), (14, .goto 4, 3, (0, 0, 0))]
theorem K179_1 : zRk 179 B179_1 = true := zRw_ok (by decide +kernel)
noncomputable def B179_2 : List zRow := [(0, .iload_n 1, 1, (0, 0, 0)), (1, .aload_n 0, 1, (0, 0, 0)), (2, .getfield 96, 3, (12, 3, 0)), (5, .if_icmp .ge 12, 3, (0, 0, 0))]
theorem K179_2 : zRk 179 B179_2 = true := zRw_ok (by decide +kernel)
noncomputable def B176_0 : List zRow := [(25, .aload_n 0, 1, (0, 0, 0)), (26, .getfield 7, 3, (12, 1, 5246642)), (29, .aload_n 0, 1, (0, 0, 0)), (30, .getfield 98, 3, (12, 5, 0)), (33, .iaload, 1, (0, 0, 0)), (34, .bipush 10, 2, (0, 0, 0)), (36, .if_icmp .ne 16, 3, (0, 0, 0))]
theorem K176_0 : zRk 176 B176_0 = true := zRw_ok (by decide +kernel)
noncomputable def B176_1 : List zRow := [(11, .aload_n 0, 1, (0, 0, 0)), (12, .getfield 7, 3, (12, 1, 5246642)), (15, .aload_n 0, 1, (0, 0, 0)), (16, .getfield 98, 3, (12, 5, 0)), (19, .iaload, 1, (0, 0, 0)), (20, .bipush 32, 2, (0, 0, 0)), (22, .if_icmp .eq 17, 3, (0, 0, 0))]
theorem K176_1 : zRk 176 B176_1 = true := zRw_ok (by decide +kernel)
noncomputable def B176_2 : List zRow := [(0, .aload_n 0, 1, (0, 0, 0)), (1, .getfield 98, 3, (12, 5, 0)), (4, .aload_n 0, 1, (0, 0, 0)), (5, .getfield 96, 3, (12, 3, 0)), (8, .if_icmp .ge 44, 3, (0, 0, 0))]
theorem K176_2 : zRk 176 B176_2 = true := zRw_ok (by decide +kernel)
noncomputable def B176_3 : List zRow := [(39, .aload_n 0, 1, (0, 0, 0)), (40, .dup, 1, (0, 0, 0)), (41, .getfield 98, 3, (12, 5, 0)), (44, .iconst 1, 1, (0, 0, 0)), (45, .iadd, 1, (0, 0, 0)), (46, .putfield 98, 3, (12, 5, 0)), (49, .goto (-49), 3, (0, 0, 0))]
theorem K176_3 : zRk 176 B176_3 = true := zRw_ok (by decide +kernel)
noncomputable def B176_4 : List zRow := [(82, .aload_n 0, 1, (0, 0, 0)), (83, .aload_n 0, 1, (0, 0, 0)), (84, .getfield 104, 3, (12, 4, 0)), (87, .putfield 101, 3, (12, 6, 0)), (90, .aload_n 0, 1, (0, 0, 0)), (91, .iconst 1, 1, (0, 0, 0)), (92, .putfield 107, 3, (12, 7, 0))]
theorem K176_4 : zRk 176 B176_4 = true := zRw_ok (by decide +kernel)
noncomputable def B176_5 : List zRow := [(71, .aload_n 0, 1, (0, 0, 0)), (72, .getfield 101, 3, (12, 6, 0)), (75, .aload_n 0, 1, (0, 0, 0)), (76, .getfield 104, 3, (12, 4, 0)), (79, .if_icmp .lt 17, 3, (0, 0, 0))]
theorem K176_5 : zRk 176 B176_5 = true := zRw_ok (by decide +kernel)
noncomputable def B176_6 : List zRow := [(52, .aload_n 0, 1, (0, 0, 0)), (53, .aload_n 0, 1, (0, 0, 0)), (54, .getfield 98, 3, (12, 5, 0)), (57, .putfield 101, 3, (12, 6, 0)), (60, .aload_n 0, 1, (0, 0, 0)), (61, .getfield 96, 3, (12, 3, 0)), (64, .aload_n 0, 1, (0, 0, 0)), (65, .getfield 104, 3, (12, 4, 0)), (68, .if_icmp .le 28, 3, (0, 0, 0))]
theorem K176_6 : zRk 176 B176_6 = true := zRw_ok (by decide +kernel)
noncomputable def B176_7 : List zRow := [(113, .aload_n 0, 1, (0, 0, 0)), (114, .getfield 7, 3, (12, 1, 5246642)), (117, .aload_n 0, 1, (0, 0, 0)), (118, .getfield 98, 3, (12, 5, 0)), (121, .iaload, 1, (0, 0, 0)), (122, .istore_n 1, 1, (0, 0, 0)), (123, .iload_n 1, 1, (0, 0, 0))]
theorem K176_7 : zRk 176 B176_7 = true := zRw_ok (by decide +kernel)
noncomputable def B176_8 : List zRow := [(130, .iload_n 1, 1, (0, 0, 0))]
theorem K176_8 : zRk 176 B176_8 = true := zRw_ok (by decide +kernel)
noncomputable def B176_9 : List zRow := [(178, .iconst 1, 1, (0, 0, 0))]
theorem K176_9 : zRk 176 B176_9 = true := zRw_ok (by decide +kernel)
noncomputable def B176_10 : List zRow := [(168, .iload_n 1, 1, (0, 0, 0)), (169, .bipush 41, 2, (0, 0, 0)), (171, .if_icmp .ne 7, 3, (0, 0, 0))]
theorem K176_10 : zRk 176 B176_10 = true := zRw_ok (by decide +kernel)
noncomputable def B176_11 : List zRow := [(162, .iload_n 1, 1, (0, 0, 0)), (163, .bipush 40, 2, (0, 0, 0)), (165, .if_icmp .eq 9, 3, (0, 0, 0))]
theorem K176_11 : zRk 176 B176_11 = true := zRw_ok (by decide +kernel)
noncomputable def B176_12 : List zRow := [(156, .iload_n 1, 1, (0, 0, 0)), (157, .bipush 62, 2, (0, 0, 0)), (159, .if_icmp .eq 15, 3, (0, 0, 0))]
theorem K176_12 : zRk 176 B176_12 = true := zRw_ok (by decide +kernel)
noncomputable def B176_13 : List zRow := [(150, .iload_n 1, 1, (0, 0, 0)), (151, .bipush 61, 2, (0, 0, 0)), (153, .if_icmp .eq 21, 3, (0, 0, 0))]
theorem K176_13 : zRk 176 B176_13 = true := zRw_ok (by decide +kernel)
noncomputable def B176_14 : List zRow := [(144, .iload_n 1, 1, (0, 0, 0)), (145, .bipush 60, 2, (0, 0, 0)), (147, .if_icmp .eq 27, 3, (0, 0, 0))]
theorem K176_14 : zRk 176 B176_14 = true := zRw_ok (by decide +kernel)
noncomputable def B176_15 : List zRow := [(137, .aload_n 0, 1, (0, 0, 0)), (138, .iload_n 1, 1, (0, 0, 0)), (139, .bipush 59, 2, (0, 0, 0)), (141, .if_icmp .eq 33, 3, (0, 0, 0))]
theorem K176_15 : zRk 176 B176_15 = true := zRw_ok (by decide +kernel)
noncomputable def B176_16 : List zRow := [(134, .ifCond .ne 64, 3, (0, 0, 0))]
theorem K176_16 : zRk 176 B176_16 = true := zRw_ok (by decide +kernel)
noncomputable def B176_17 : List zRow := [(127, .ifCond .ne 71, 3, (0, 0, 0))]
theorem K176_17 : zRk 176 B176_17 = true := zRw_ok (by decide +kernel)
noncomputable def B176_18 : List zRow := [(107, .aload_n 0, 1, (0, 0, 0)), (108, .iconst 0, 1, (0, 0, 0)), (109, .putfield 107, 3, (12, 7, 0))]
theorem K176_18 : zRk 176 B176_18 = true := zRw_ok (by decide +kernel)
noncomputable def B176_19 : List zRow := [(96, .aload_n 0, 1, (0, 0, 0)), (97, .getfield 98, 3, (12, 5, 0)), (100, .aload_n 0, 1, (0, 0, 0)), (101, .getfield 96, 3, (12, 3, 0)), (104, .if_icmp .lt 9, 3, (0, 0, 0))]
theorem K176_19 : zRk 176 B176_19 = true := zRw_ok (by decide +kernel)
noncomputable def B176_20 : List zRow := [(179, .putfield 107, 3, (12, 7, 0)), (182, .aload_n 0, 1, (0, 0, 0)), (183, .iload_n 1, 1, (0, 0, 0)), (184, .putfield 117, 3, (12, 9, 0)), (187, .aload_n 0, 1, (0, 0, 0)), (188, .dup, 1, (0, 0, 0)), (189, .getfield 98, 3, (12, 5, 0)), (192, .iconst 1, 1, (0, 0, 0)), (193, .iadd, 1, (0, 0, 0)), (194, .putfield 98, 3, (12, 5, 0))]
theorem K176_20 : zRk 176 B176_20 = true := zRw_ok (by decide +kernel)
noncomputable def B176_21 : List zRow := [(174, .iconst 4, 1, (0, 0, 0)), (175, .goto 4, 3, (0, 0, 0))]
theorem K176_21 : zRk 176 B176_21 = true := zRw_ok (by decide +kernel)
noncomputable def B176_22 : List zRow := [(198, .iload_n 1, 1, (0, 0, 0))]
theorem K176_22 : zRk 176 B176_22 = true := zRw_ok (by decide +kernel)
noncomputable def B176_23 : List zRow := [(202, .istore_n 2, 1, (0, 0, 0)), (203, .iconst 1, 1, (0, 0, 0)), (204, .istore_n 3, 1, (0, 0, 0)), (205, .aload_n 0, 1, (0, 0, 0)), (206, .lconst 0, 1, (0, 0, 0)), (207, .putfield 120, 3, (12, 12, 1)), (210, .aload_n 0, 1, (0, 0, 0)), (211, .iconst 0, 1, (0, 0, 0)), (212, .putfield 124, 3, (12, 8, 0))]
theorem K176_23 : zRk 176 B176_23 = true := zRw_ok (by decide +kernel)
noncomputable def B176_24 : List zRow := [(215, .aload_n 0, 1, (0, 0, 0)), (216, .aload_n 0, 1, (0, 0, 0)), (217, .getfield 98, 3, (12, 5, 0))]
theorem K176_24 : zRk 176 B176_24 = true := zRw_ok (by decide +kernel)
noncomputable def B176_25 : List zRow := [(229, .aload_n 0, 1, (0, 0, 0)), (230, .aload_n 0, 1, (0, 0, 0)), (231, .getfield 98, 3, (12, 5, 0))]
theorem K176_25 : zRk 176 B176_25 = true := zRw_ok (by decide +kernel)
noncomputable def B176_26 : List zRow := [(373, .iconst 3, 1, (0, 0, 0))]
theorem K176_26 : zRk 176 B176_26 = true := zRw_ok (by decide +kernel)
noncomputable def B176_27 : List zRow := [(368, .bipush 7, 2, (0, 0, 0)), (370, .goto 4, 3, (0, 0, 0))]
theorem K176_27 : zRk 176 B176_27 = true := zRw_ok (by decide +kernel)
noncomputable def B176_28 : List zRow := [(355, .aload_n 0, 1, (0, 0, 0)), (356, .getfield 98, 3, (12, 5, 0)), (359, .aload_n 0, 1, (0, 0, 0)), (360, .getfield 101, 3, (12, 6, 0)), (363, .isub, 1, (0, 0, 0)), (364, .iload_n 2, 1, (0, 0, 0)), (365, .ifCond .eq 8, 3, (0, 0, 0))]
theorem K176_28 : zRk 176 B176_28 = true := zRw_ok (by decide +kernel)
noncomputable def B176_29 : List zRow := [(350, .aload_n 0, 1, (0, 0, 0)), (351, .iload_n 3, 1, (0, 0, 0)), (352, .ifCond .eq 25, 3, (0, 0, 0))]
theorem K176_29 : zRk 176 B176_29 = true := zRw_ok (by decide +kernel)
noncomputable def B176_30 : List zRow := [(240, .ifCond .eq 110, 3, (0, 0, 0))]
theorem K176_30 : zRk 176 B176_30 = true := zRw_ok (by decide +kernel)
noncomputable def B176_31 : List zRow := [(226, .ifCond .ne 17, 3, (0, 0, 0))]
theorem K176_31 : zRk 176 B176_31 = true := zRw_ok (by decide +kernel)
noncomputable def B176_32 : List zRow := [(389, .iconst 3, 1, (0, 0, 0))]
theorem K176_32 : zRk 176 B176_32 = true := zRw_ok (by decide +kernel)
noncomputable def B176_33 : List zRow := [(385, .iconst 2, 1, (0, 0, 0)), (386, .goto 4, 3, (0, 0, 0))]
theorem K176_33 : zRk 176 B176_33 = true := zRw_ok (by decide +kernel)
noncomputable def B176_34 : List zRow := [(381, .iload_n 2, 1, (0, 0, 0)), (382, .ifCond .eq 7, 3, (0, 0, 0))]
theorem K176_34 : zRk 176 B176_34 = true := zRw_ok (by decide +kernel)
noncomputable def B176_35 : List zRow := [(374, .if_icmp .le 7, 3, (0, 0, 0))]
theorem K176_35 : zRk 176 B176_35 = true := zRw_ok (by decide +kernel)
noncomputable def B176_36 : List zRow := [(390, .putfield 107, 3, (12, 7, 0))]
theorem K176_36 : zRk 176 B176_36 = true := zRw_ok (by decide +kernel)
noncomputable def B176_37 : List zRow := [(377, .iconst 1, 1, (0, 0, 0)), (378, .goto 12, 3, (0, 0, 0))]
theorem K176_37 : zRk 176 B176_37 = true := zRw_ok (by decide +kernel)
noncomputable def B176_38 : List zRow := [(258, .iload 4, 2, (0, 0, 0))]
theorem K176_38 : zRk 176 B176_38 = true := zRw_ok (by decide +kernel)
noncomputable def B176_39 : List zRow := [(267, .iconst 1, 1, (0, 0, 0)), (268, .goto 4, 3, (0, 0, 0))]
theorem K176_39 : zRk 176 B176_39 = true := zRw_ok (by decide +kernel)
noncomputable def B176_40 : List zRow := [(263, .iload_n 2, 1, (0, 0, 0)), (264, .if_icmp .ne 7, 3, (0, 0, 0))]
theorem K176_40 : zRk 176 B176_40 = true := zRw_ok (by decide +kernel)
noncomputable def B176_41 : List zRow := [(243, .aload_n 0, 1, (0, 0, 0)), (244, .getfield 7, 3, (12, 1, 5246642)), (247, .aload_n 0, 1, (0, 0, 0)), (248, .getfield 98, 3, (12, 5, 0)), (251, .iaload, 1, (0, 0, 0)), (252, .istore 4, 2, (0, 0, 0)), (254, .iload_n 3, 1, (0, 0, 0)), (255, .ifCond .eq 16, 3, (0, 0, 0))]
theorem K176_41 : zRk 176 B176_41 = true := zRw_ok (by decide +kernel)
noncomputable def B176_42 : List zRow := [(287, .aload_n 0, 1, (0, 0, 0)), (288, .ldc2_w 130, 3, (0, 0, 27)), (291, .aload_n 0, 1, (0, 0, 0)), (292, .getfield 120, 3, (12, 12, 1)), (295, .lmul, 1, (0, 0, 0)), (296, .iload 4, 2, (0, 0, 0)), (298, .i2l, 1, (0, 0, 0)), (299, .ladd, 1, (0, 0, 0)), (300, .ldc2_w 132, 3, (0, 0, 96)), (303, .lsub, 1, (0, 0, 0)), (304, .putfield 120, 3, (12, 12, 1))]
theorem K176_42 : zRk 176 B176_42 = true := zRw_ok (by decide +kernel)
noncomputable def B176_43 : List zRow := [(272, .istore_n 3, 1, (0, 0, 0)), (273, .aload_n 0, 1, (0, 0, 0)), (274, .getfield 98, 3, (12, 5, 0)), (277, .aload_n 0, 1, (0, 0, 0)), (278, .getfield 101, 3, (12, 6, 0)), (281, .isub, 1, (0, 0, 0)), (282, .bipush 7, 2, (0, 0, 0)), (284, .if_icmp .ge 23, 3, (0, 0, 0))]
theorem K176_43 : zRk 176 B176_43 = true := zRw_ok (by decide +kernel)
noncomputable def B176_44 : List zRow := [(320, .aload_n 0, 1, (0, 0, 0)), (321, .bipush 10, 2, (0, 0, 0)), (323, .aload_n 0, 1, (0, 0, 0)), (324, .getfield 124, 3, (12, 8, 0))]
theorem K176_44 : zRk 176 B176_44 = true := zRw_ok (by decide +kernel)
noncomputable def B176_45 : List zRow := [(327, .imul, 1, (0, 0, 0)), (328, .iload 4, 2, (0, 0, 0)), (330, .iadd, 1, (0, 0, 0)), (331, .bipush 48, 2, (0, 0, 0)), (333, .isub, 1, (0, 0, 0)), (334, .putfield 124, 3, (12, 8, 0))]
theorem K176_45 : zRk 176 B176_45 = true := zRw_ok (by decide +kernel)
noncomputable def B176_46 : List zRow := [(307, .aload_n 0, 1, (0, 0, 0)), (308, .getfield 98, 3, (12, 5, 0)), (311, .aload_n 0, 1, (0, 0, 0)), (312, .getfield 101, 3, (12, 6, 0)), (315, .isub, 1, (0, 0, 0)), (316, .iconst 3, 1, (0, 0, 0)), (317, .if_icmp .ge 20, 3, (0, 0, 0))]
theorem K176_46 : zRk 176 B176_46 = true := zRw_ok (by decide +kernel)
noncomputable def B176_47 : List zRow := [(337, .aload_n 0, 1, (0, 0, 0)), (338, .dup, 1, (0, 0, 0)), (339, .getfield 98, 3, (12, 5, 0)), (342, .iconst 1, 1, (0, 0, 0)), (343, .iadd, 1, (0, 0, 0)), (344, .putfield 98, 3, (12, 5, 0)), (347, .goto (-132), 3, (0, 0, 0))]
theorem K176_47 : zRk 176 B176_47 = true := zRw_ok (by decide +kernel)
noncomputable def B176_48 : List zRow := [(271, .iconst 0, 1, (0, 0, 0))]
theorem K176_48 : zRk 176 B176_48 = true := zRw_ok (by decide +kernel)
