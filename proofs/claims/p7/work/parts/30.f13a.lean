noncomputable def B149b_0 : List zRow := [(0, .aload_n 0, 1, (0, 0, 0)), (1, .aload_n 1, 1, (0, 0, 0)), (2, .iload_n 2, 1, (0, 0, 0))]
theorem K149b_0 : zRk 149 B149b_0 = true := zRw_ok (by decide +kernel)
noncomputable def B149b_1 : List zRow := [(11, .iconst 0, 1, (0, 0, 0)), (12, .istore_n 3, 1, (0, 0, 0))]
theorem K149b_1 : zRk 149 B149b_1 = true := zRw_ok (by decide +kernel)
noncomputable def B149b_2 : List zRow := [(9, .iconst 0, 1, (0, 0, 0))]
theorem K149b_2 : zRk 149 B149b_2 = true := zRw_ok (by decide +kernel)
noncomputable def B149b_3 : List zRow := [(6, .ifCond .ne 5, 3, (0, 0, 0))]
theorem K149b_3 : zRk 149 B149b_3 = true := zRw_ok (by decide +kernel)
noncomputable def B149b_4 : List zRow := [(67, .iconst 1, 1, (0, 0, 0))]
theorem K149b_4 : zRk 149 B149b_4 = true := zRw_ok (by decide +kernel)
noncomputable def B149b_5 : List zRow := [(20, .aload_n 0, 1, (0, 0, 0)), (21, .getfield 18, 3, (7, 1, 23)), (24, .bipush 10, 2, (0, 0, 0))]
theorem K149b_5 : zRk 149 B149b_5 = true := zRw_ok (by decide +kernel)
noncomputable def B149b_6 : List zRow := [(32, .aload_n 0, 1, (0, 0, 0)), (33, .getfield 18, 3, (7, 1, 23))]
theorem K149b_6 : zRk 149 B149b_6 = true := zRw_ok (by decide +kernel)
noncomputable def B149b_7 : List zRow := [(39, .aload_n 0, 1, (0, 0, 0)), (40, .aload_n 1, 1, (0, 0, 0)), (41, .iload_n 2, 1, (0, 0, 0))]
theorem K149b_7 : zRk 149 B149b_7 = true := zRw_ok (by decide +kernel)
noncomputable def B149b_8 : List zRow := [(50, .aload_n 0, 1, (0, 0, 0)), (51, .getfield 12, 3, (7, 0, 155)), (54, .bipush 10, 2, (0, 0, 0)), (56, .iconst 0, 1, (0, 0, 0)), (57, .iconst 0, 1, (0, 0, 0))]
theorem K149b_8 : zRk 149 B149b_8 = true := zRw_ok (by decide +kernel)
noncomputable def B149b_9 : List zRow := [(61, .iinc 3 1, 3, (0, 0, 0)), (64, .goto (-51), 3, (0, 0, 0))]
theorem K149b_9 : zRk 149 B149b_9 = true := zRw_ok (by decide +kernel)
noncomputable def B149b_10 : List zRow := [(48, .iconst 0, 1, (0, 0, 0))]
theorem K149b_10 : zRk 149 B149b_10 = true := zRw_ok (by decide +kernel)
noncomputable def B149b_11 : List zRow := [(45, .ifCond .ne 5, 3, (0, 0, 0))]
theorem K149b_11 : zRk 149 B149b_11 = true := zRw_ok (by decide +kernel)
noncomputable def B149b_12 : List zRow := [(29, .ifCond .eq 38, 3, (0, 0, 0))]
theorem K149b_12 : zRk 149 B149b_12 = true := zRw_ok (by decide +kernel)
noncomputable def B149b_13 : List zRow := [(13, .iload_n 3, 1, (0, 0, 0)), (14, .sipush 940, 3, (0, 0, 0)), (17, .if_icmp .ge 50, 3, (0, 0, 0))]
theorem K149b_13 : zRk 149 B149b_13 = true := zRw_ok (by decide +kernel)
noncomputable def B151_0 : List zRow := [(0, .aload_n 0, 1, (0, 0, 0)), (1, .getfield 18, 3, (7, 1, 23)), (4, .bipush 40, 2, (0, 0, 0))]
theorem K151_0 : zRk 151 B151_0 = true := zRw_ok (by decide +kernel)
noncomputable def B151_1 : List zRow := [(23, .aload_n 0, 1, (0, 0, 0)), (24, .getfield 18, 3, (7, 1, 23)), (27, .getfield 66, 3, (5, 6, 0)), (30, .bipush 12, 2, (0, 0, 0)), (32, .if_icmp .ge 12, 3, (0, 0, 0))]
theorem K151_1 : zRk 151 B151_1 = true := zRw_ok (by decide +kernel)
noncomputable def B151_2 : List zRow := [(12, .aload_n 0, 1, (0, 0, 0)), (13, .getfield 18, 3, (7, 1, 23)), (16, .getfield 62, 3, (5, 4, 0)), (19, .iconst 3, 1, (0, 0, 0)), (20, .if_icmp .ne 15, 3, (0, 0, 0))]
theorem K151_2 : zRk 151 B151_2 = true := zRw_ok (by decide +kernel)
noncomputable def B151_3 : List zRow := [(9, .ifCond .ne 35, 3, (0, 0, 0))]
theorem K151_3 : zRk 151 B151_3 = true := zRw_ok (by decide +kernel)
noncomputable def B151_4 : List zRow := [(35, .aload_n 0, 1, (0, 0, 0)), (36, .getfield 18, 3, (7, 1, 23)), (39, .iconst 1, 1, (0, 0, 0))]
theorem K151_4 : zRk 151 B151_4 = true := zRw_ok (by decide +kernel)
noncomputable def B151_5 : List zRow := [(71, .aload_n 0, 1, (0, 0, 0)), (72, .getfield 12, 3, (7, 0, 155)), (75, .dup, 1, (0, 0, 0)), (76, .getfield 69, 3, (6, 0, 0)), (79, .iconst 1, 1, (0, 0, 0)), (80, .iadd, 1, (0, 0, 0)), (81, .putfield 69, 3, (6, 0, 0)), (84, .aload_n 0, 1, (0, 0, 0)), (85, .getfield 18, 3, (7, 1, 23)), (88, .bipush 40, 2, (0, 0, 0))]
theorem K151_5 : zRk 151 B151_5 = true := zRw_ok (by decide +kernel)
noncomputable def B151_6 : List zRow := [(132, .aload_n 0, 1, (0, 0, 0)), (133, .getfield 18, 3, (7, 1, 23)), (136, .bipush 12, 2, (0, 0, 0))]
theorem K151_6 : zRk 151 B151_6 = true := zRw_ok (by decide +kernel)
noncomputable def B151_7 : List zRow := [(177, .aload_n 0, 1, (0, 0, 0)), (178, .aload_n 1, 1, (0, 0, 0))]
theorem K151_7 : zRk 151 B151_7 = true := zRw_ok (by decide +kernel)
noncomputable def B151_8 : List zRow := [(144, .aload_n 0, 1, (0, 0, 0)), (145, .getfield 18, 3, (7, 1, 23))]
theorem K151_8 : zRk 151 B151_8 = true := zRw_ok (by decide +kernel)
noncomputable def B151_9 : List zRow := [(151, .aload_n 0, 1, (0, 0, 0)), (152, .aload_n 1, 1, (0, 0, 0)), (153, .iload_n 2, 1, (0, 0, 0)), (154, .iconst 1, 1, (0, 0, 0)), (155, .iadd, 1, (0, 0, 0))]
theorem K151_9 : zRk 151 B151_9 = true := zRw_ok (by decide +kernel)
noncomputable def B151_10 : List zRow := [(164, .aload_n 0, 1, (0, 0, 0)), (165, .getfield 12, 3, (7, 0, 155)), (168, .bipush 12, 2, (0, 0, 0)), (170, .iconst 0, 1, (0, 0, 0)), (171, .iconst 0, 1, (0, 0, 0))]
theorem K151_10 : zRk 151 B151_10 = true := zRw_ok (by decide +kernel)
noncomputable def B151_11 : List zRow := [(175, .iconst 1, 1, (0, 0, 0))]
theorem K151_11 : zRk 151 B151_11 = true := zRw_ok (by decide +kernel)
noncomputable def B151_12 : List zRow := [(162, .iconst 0, 1, (0, 0, 0))]
theorem K151_12 : zRk 151 B151_12 = true := zRw_ok (by decide +kernel)
noncomputable def B151_13 : List zRow := [(159, .ifCond .ne 5, 3, (0, 0, 0))]
theorem K151_13 : zRk 151 B151_13 = true := zRw_ok (by decide +kernel)
noncomputable def B151_14 : List zRow := [(141, .ifCond .eq 36, 3, (0, 0, 0))]
theorem K151_14 : zRk 151 B151_14 = true := zRw_ok (by decide +kernel)
noncomputable def B151_15 : List zRow := [(96, .aload_n 0, 1, (0, 0, 0)), (97, .getfield 18, 3, (7, 1, 23))]
theorem K151_15 : zRk 151 B151_15 = true := zRw_ok (by decide +kernel)
noncomputable def B151_16 : List zRow := [(103, .aload_n 0, 1, (0, 0, 0)), (104, .aload_n 1, 1, (0, 0, 0)), (105, .iload_n 2, 1, (0, 0, 0)), (106, .iconst 1, 1, (0, 0, 0)), (107, .iadd, 1, (0, 0, 0))]
theorem K151_16 : zRk 151 B151_16 = true := zRw_ok (by decide +kernel)
noncomputable def B151_17 : List zRow := [(130, .iconst 0, 1, (0, 0, 0))]
theorem K151_17 : zRk 151 B151_17 = true := zRw_ok (by decide +kernel)
noncomputable def B151_18 : List zRow := [(114, .aload_n 0, 1, (0, 0, 0)), (115, .getfield 18, 3, (7, 1, 23)), (118, .bipush 41, 2, (0, 0, 0))]
theorem K151_18 : zRk 151 B151_18 = true := zRw_ok (by decide +kernel)
noncomputable def B151_19 : List zRow := [(126, .iconst 1, 1, (0, 0, 0)), (127, .goto 4, 3, (0, 0, 0))]
theorem K151_19 : zRk 151 B151_19 = true := zRw_ok (by decide +kernel)
noncomputable def B151_20 : List zRow := [(123, .ifCond .eq 7, 3, (0, 0, 0))]
theorem K151_20 : zRk 151 B151_20 = true := zRw_ok (by decide +kernel)
noncomputable def B151_21 : List zRow := [(111, .ifCond .eq 19, 3, (0, 0, 0))]
theorem K151_21 : zRk 151 B151_21 = true := zRw_ok (by decide +kernel)
noncomputable def B151_22 : List zRow := [(93, .ifCond .eq 39, 3, (0, 0, 0))]
theorem K151_22 : zRk 151 B151_22 = true := zRw_ok (by decide +kernel)
noncomputable def B151_23 : List zRow := [(56, .iload_n 2, 1, (0, 0, 0)), (57, .bipush 8, 2, (0, 0, 0)), (59, .if_icmp .le 12, 3, (0, 0, 0))]
theorem K151_23 : zRk 151 B151_23 = true := zRw_ok (by decide +kernel)
noncomputable def B151_24 : List zRow := [(44, .aload_n 0, 1, (0, 0, 0)), (45, .getfield 12, 3, (7, 0, 155)), (48, .getfield 69, 3, (6, 0, 0)), (51, .bipush 20, 2, (0, 0, 0)), (53, .if_icmp .ge 9, 3, (0, 0, 0))]
theorem K151_24 : zRk 151 B151_24 = true := zRw_ok (by decide +kernel)
noncomputable def B151_25 : List zRow := [(62, .aload_n 0, 1, (0, 0, 0)), (63, .getfield 18, 3, (7, 1, 23)), (66, .iconst 4, 1, (0, 0, 0))]
theorem K151_25 : zRk 151 B151_25 = true := zRw_ok (by decide +kernel)
noncomputable def B150_0 : List zRow := [(0, .aload_n 0, 1, (0, 0, 0)), (1, .aload_n 1, 1, (0, 0, 0)), (2, .iload_n 2, 1, (0, 0, 0))]
theorem K150_0 : zRk 150 B150_0 = true := zRw_ok (by decide +kernel)
noncomputable def B150_1 : List zRow := [(11, .iconst 0, 1, (0, 0, 0)), (12, .istore_n 3, 1, (0, 0, 0))]
theorem K150_1 : zRk 150 B150_1 = true := zRw_ok (by decide +kernel)
noncomputable def B150_2 : List zRow := [(9, .iconst 0, 1, (0, 0, 0))]
theorem K150_2 : zRk 150 B150_2 = true := zRw_ok (by decide +kernel)
noncomputable def B150_3 : List zRow := [(6, .ifCond .ne 5, 3, (0, 0, 0))]
theorem K150_3 : zRk 150 B150_3 = true := zRw_ok (by decide +kernel)
noncomputable def B150_4 : List zRow := [(67, .iconst 1, 1, (0, 0, 0))]
theorem K150_4 : zRk 150 B150_4 = true := zRw_ok (by decide +kernel)
noncomputable def B150_5 : List zRow := [(20, .aload_n 0, 1, (0, 0, 0)), (21, .getfield 18, 3, (7, 1, 23)), (24, .bipush 11, 2, (0, 0, 0))]
theorem K150_5 : zRk 150 B150_5 = true := zRw_ok (by decide +kernel)
noncomputable def B150_6 : List zRow := [(32, .aload_n 0, 1, (0, 0, 0)), (33, .getfield 18, 3, (7, 1, 23))]
theorem K150_6 : zRk 150 B150_6 = true := zRw_ok (by decide +kernel)
noncomputable def B150_7 : List zRow := [(39, .aload_n 0, 1, (0, 0, 0)), (40, .aload_n 1, 1, (0, 0, 0)), (41, .iload_n 2, 1, (0, 0, 0))]
theorem K150_7 : zRk 150 B150_7 = true := zRw_ok (by decide +kernel)
noncomputable def B150_8 : List zRow := [(50, .aload_n 0, 1, (0, 0, 0)), (51, .getfield 12, 3, (7, 0, 155)), (54, .bipush 11, 2, (0, 0, 0)), (56, .iconst 0, 1, (0, 0, 0)), (57, .iconst 0, 1, (0, 0, 0))]
theorem K150_8 : zRk 150 B150_8 = true := zRw_ok (by decide +kernel)
noncomputable def B150_9 : List zRow := [(61, .iinc 3 1, 3, (0, 0, 0)), (64, .goto (-51), 3, (0, 0, 0))]
theorem K150_9 : zRk 150 B150_9 = true := zRw_ok (by decide +kernel)
noncomputable def B150_10 : List zRow := [(48, .iconst 0, 1, (0, 0, 0))]
theorem K150_10 : zRk 150 B150_10 = true := zRw_ok (by decide +kernel)
noncomputable def B150_11 : List zRow := [(45, .ifCond .ne 5, 3, (0, 0, 0))]
theorem K150_11 : zRk 150 B150_11 = true := zRw_ok (by decide +kernel)
noncomputable def B150_12 : List zRow := [(29, .ifCond .eq 38, 3, (0, 0, 0))]
theorem K150_12 : zRk 150 B150_12 = true := zRw_ok (by decide +kernel)
noncomputable def B150_13 : List zRow := [(13, .iload_n 3, 1, (0, 0, 0)), (14, .sipush 940, 3, (0, 0, 0)), (17, .if_icmp .ge 50, 3, (0, 0, 0))]
theorem K150_13 : zRk 150 B150_13 = true := zRw_ok (by decide +kernel)
noncomputable def B149_0 : List zRow := [(0, .aload_n 0, 1, (0, 0, 0)), (1, .aload_n 1, 1, (0, 0, 0)), (2, .iload_n 2, 1, (0, 0, 0))]
theorem K149_0 : zRk 149 B149_0 = true := zRw_ok (by decide +kernel)
noncomputable def B149_1 : List zRow := [(11, .iconst 0, 1, (0, 0, 0)), (12, .istore_n 3, 1, (0, 0, 0))]
theorem K149_1 : zRk 149 B149_1 = true := zRw_ok (by decide +kernel)
noncomputable def B149_2 : List zRow := [(9, .iconst 0, 1, (0, 0, 0))]
theorem K149_2 : zRk 149 B149_2 = true := zRw_ok (by decide +kernel)
noncomputable def B149_3 : List zRow := [(6, .ifCond .ne 5, 3, (0, 0, 0))]
theorem K149_3 : zRk 149 B149_3 = true := zRw_ok (by decide +kernel)
noncomputable def B149_4 : List zRow := [(67, .iconst 1, 1, (0, 0, 0))]
theorem K149_4 : zRk 149 B149_4 = true := zRw_ok (by decide +kernel)
noncomputable def B149_5 : List zRow := [(20, .aload_n 0, 1, (0, 0, 0)), (21, .getfield 18, 3, (7, 1, 23)), (24, .bipush 10, 2, (0, 0, 0))]
theorem K149_5 : zRk 149 B149_5 = true := zRw_ok (by decide +kernel)
noncomputable def B149_6 : List zRow := [(32, .aload_n 0, 1, (0, 0, 0)), (33, .getfield 18, 3, (7, 1, 23))]
theorem K149_6 : zRk 149 B149_6 = true := zRw_ok (by decide +kernel)
noncomputable def B149_7 : List zRow := [(39, .aload_n 0, 1, (0, 0, 0)), (40, .aload_n 1, 1, (0, 0, 0)), (41, .iload_n 2, 1, (0, 0, 0))]
theorem K149_7 : zRk 149 B149_7 = true := zRw_ok (by decide +kernel)
noncomputable def B149_8 : List zRow := [(50, .aload_n 0, 1, (0, 0, 0)), (51, .getfield 12, 3, (7, 0, 155)), (54, .bipush 10, 2, (0, 0, 0)), (56, .iconst 0, 1, (0, 0, 0)), (57, .iconst 0, 1, (0, 0, 0))]
theorem K149_8 : zRk 149 B149_8 = true := zRw_ok (by decide +kernel)
noncomputable def B149_9 : List zRow := [(61, .iinc 3 1, 3, (0, 0, 0)), (64, .goto (-51), 3, (0, 0, 0))]
theorem K149_9 : zRk 149 B149_9 = true := zRw_ok (by decide +kernel)
noncomputable def B149_10 : List zRow := [(48, .iconst 0, 1, (0, 0, 0))]
theorem K149_10 : zRk 149 B149_10 = true := zRw_ok (by decide +kernel)
noncomputable def B149_11 : List zRow := [(45, .ifCond .ne 5, 3, (0, 0, 0))]
theorem K149_11 : zRk 149 B149_11 = true := zRw_ok (by decide +kernel)
noncomputable def B149_12 : List zRow := [(29, .ifCond .eq 38, 3, (0, 0, 0))]
theorem K149_12 : zRk 149 B149_12 = true := zRw_ok (by decide +kernel)
noncomputable def B149_13 : List zRow := [(13, .iload_n 3, 1, (0, 0, 0)), (14, .sipush 940, 3, (0, 0, 0)), (17, .if_icmp .ge 50, 3, (0, 0, 0))]
theorem K149_13 : zRk 149 B149_13 = true := zRw_ok (by decide +kernel)
noncomputable def B148_0 : List zRow := [(0, .aload_n 0, 1, (0, 0, 0)), (1, .getfield 12, 3, (7, 0, 155))]
theorem K148_0 : zRk 148 B148_0 = true := zRw_ok (by decide +kernel)
noncomputable def B148_1 : List zRow := [(7, .aload_n 0, 1, (0, 0, 0)), (8, .getfield 18, 3, (7, 1, 23)), (11, .sipush 200, 3, (0, 0, 0))]
theorem K148_1 : zRk 148 B148_1 = true := zRw_ok (by decide +kernel)
noncomputable def B148_2 : List zRow := [(17, .aload_n 0, 1, (0, 0, 0)), (18, .aload_n 1, 1, (0, 0, 0)), (19, .iconst 1, 1, (0, 0, 0))]
theorem K148_2 : zRk 148 B148_2 = true := zRw_ok (by decide +kernel)
noncomputable def B148_3 : List zRow := [(51, .iconst 0, 1, (0, 0, 0))]
theorem K148_3 : zRk 148 B148_3 = true := zRw_ok (by decide +kernel)
noncomputable def B148_4 : List zRow := [(26, .aload_n 0, 1, (0, 0, 0)), (27, .getfield 18, 3, (7, 1, 23))]
theorem K148_4 : zRk 148 B148_4 = true := zRw_ok (by decide +kernel)
noncomputable def B148_5 : List zRow := [(36, .aload_n 0, 1, (0, 0, 0)), (37, .getfield 18, 3, (7, 1, 23)), (40, .iconst 1, 1, (0, 0, 0))]
theorem K148_5 : zRk 148 B148_5 = true := zRw_ok (by decide +kernel)
noncomputable def B148_6 : List zRow := [(44, .ifCond .eq 7, 3, (0, 0, 0))]
theorem K148_6 : zRk 148 B148_6 = true := zRw_ok (by decide +kernel)
noncomputable def B148_7 : List zRow := [(33, .ifCond .ne 14, 3, (0, 0, 0))]
theorem K148_7 : zRk 148 B148_7 = true := zRw_ok (by decide +kernel)
noncomputable def B148_8 : List zRow := [(23, .ifCond .eq 28, 3, (0, 0, 0))]
theorem K148_8 : zRk 148 B148_8 = true := zRw_ok (by decide +kernel)
noncomputable def B148_9 : List zRow := [(47, .iconst 1, 1, (0, 0, 0)), (48, .goto 4, 3, (0, 0, 0))]
theorem K148_9 : zRk 148 B148_9 = true := zRw_ok (by decide +kernel)
noncomputable def B155_0 : List zRow := [(0, .aload_n 0, 1, (0, 0, 0)), (1, .aload_n 1, 1, (0, 0, 0)), (2, .getfield 19, 3, (6, 0, 0)), (5, .putfield 19, 3, (6, 0, 0)), (8, .aload_n 0, 1, (0, 0, 0)), (9, .aload_n 1, 1, (0, 0, 0)), (10, .getfield 23, 3, (6, 1, 0)), (13, .putfield 23, 3, (6, 1, 0)), (16, .aload_n 1, 1, (0, 0, 0)), (17, .getfield 9, 3, (6, 2, 5243362)), (20, .iconst 0, 1, (0, 0, 0)), (21, .aload_n 0, 1, (0, 0, 0)), (22, .getfield 9, 3, (6, 2, 5243362)), (25, .iconst 0, 1, (0, 0, 0)), (26, .aload_n 0, 1, (0, 0, 0)), (27, .getfield 23, 3, (6, 1, 0)), (30, .iconst 3, 1, (0, 0, 0)), (31, .imul, 1, (0, 0, 0)), (32, .invokestatic 26, 3, (5001, 0, 0))]
theorem K155_0 : zRk 155 B155_0 = true := zRw_ok (by decide +kernel)
noncomputable def B147_0 : List zRow := [(0, .aload_n 0, 1, (0, 0, 0)), (1, .getfield 49, 3, (11, 5, 31)), (4, .aload_n 0, 1, (0, 0, 0)), (5, .getfield 19, 3, (11, 1, 39))]
theorem K147_0 : zRk 147 B147_0 = true := zRw_ok (by decide +kernel)
noncomputable def B147_1 : List zRow := [(34, .aload_n 0, 1, (0, 0, 0)), (35, .getfield 42, 3, (11, 4, 27)), (38, .aload_n 0, 1, (0, 0, 0)), (39, .getfield 49, 3, (11, 5, 31)), (42, .getfield 347, 3, (7, 0, 155))]
theorem K147_1 : zRk 147 B147_1 = true := zRw_ok (by decide +kernel)
noncomputable def B147_2 : List zRow := [(48, .aload_n 0, 1, (0, 0, 0)), (49, .getfield 42, 3, (11, 4, 27)), (52, .getfield 351, 3, (6, 0, 0))]
theorem K147_2 : zRk 147 B147_2 = true := zRw_ok (by decide +kernel)
noncomputable def B147_3 : List zRow := [(24, .iconst (-1), 1, (0, 0, 0)), (25, .aload_n 0, 1, (0, 0, 0)), (26, .getfield 12, 3, (11, 0, 23)), (29, .getfield 116, 3, (5, 3, 0))]
theorem K147_3 : zRk 147 B147_3 = true := zRw_ok (by decide +kernel)
noncomputable def B147_4 : List zRow := [(32, .isub, 1, (0, 0, 0))]
theorem K147_4 : zRk 147 B147_4 = true := zRw_ok (by decide +kernel)
noncomputable def B147_5 : List zRow := [(11, .istore_n 1, 1, (0, 0, 0)), (12, .aload_n 0, 1, (0, 0, 0)), (13, .getfield 12, 3, (11, 0, 23)), (16, .iconst 0, 1, (0, 0, 0)), (17, .putfield 105, 3, (5, 1, 0)), (20, .iload_n 1, 1, (0, 0, 0)), (21, .ifCond .ne 13, 3, (0, 0, 0))]
theorem K147_5 : zRk 147 B147_5 = true := zRw_ok (by decide +kernel)
noncomputable def B286_0 : List zRow := [(0, .iconst 4, 1, (0, 0, 0)), (1, .aload_n 0, 1, (0, 0, 0)), (2, .getfield 394, 3, (12, 46, 0))]
theorem K286_0 : zRk 286 B286_0 = true := zRw_ok (by decide +kernel)
noncomputable def B286_1 : List zRow := [(5, .imul, 1, (0, 0, 0)), (6, .istore 5, 2, (0, 0, 0)), (8, .aload_n 0, 1, (0, 0, 0)), (9, .getfield 78, 3, (12, 45, 5243842)), (12, .iload 5, 2, (0, 0, 0)), (14, .iload_n 1, 1, (0, 0, 0)), (15, .iastore, 1, (0, 0, 0)), (16, .aload_n 0, 1, (0, 0, 0)), (17, .getfield 78, 3, (12, 45, 5243842)), (20, .iload 5, 2, (0, 0, 0)), (22, .iconst 1, 1, (0, 0, 0)), (23, .iadd, 1, (0, 0, 0)), (24, .iload_n 2, 1, (0, 0, 0)), (25, .iastore, 1, (0, 0, 0)), (26, .aload_n 0, 1, (0, 0, 0)), (27, .getfield 78, 3, (12, 45, 5243842)), (30, .iload 5, 2, (0, 0, 0)), (32, .iconst 2, 1, (0, 0, 0)), (33, .iadd, 1, (0, 0, 0)), (34, .iload_n 3, 1, (0, 0, 0)), (35, .iastore, 1, (0, 0, 0)), (36, .aload_n 0, 1, (0, 0, 0)), (37, .getfield 78, 3, (12, 45, 5243842)), (40, .iload 5, 2, (0, 0, 0)), (42, .iconst 3, 1, (0, 0, 0)), (43, .iadd, 1, (0, 0, 0)), (44, .iload 4, 2, (0, 0, 0)), (46, .iastore, 1, (0, 0, 0)), (47, .aload_n 0, 1, (0, 0, 0)), (48, .dup, 1, (0, 0, 0)), (49, .getfield 394, 3, (12, 46, 0)), (52, .iconst 1, 1, (0, 0, 0)), (53, .iadd, 1, (0, 0, 0)), (54, .putfield 394, 3, (12, 46, 0)), (57, .aload_n 0, 1, (0, 0, 0)), (58, .getfield 394, 3, (12, 46, 0)), (61, .iconst 1, 1, (0, 0, 0)), (62, .isub, 1, (0, 0, 0))]
theorem K286_1 : zRk 286 B286_1 = true := zRw_ok (by decide +kernel)
noncomputable def B288_0 : List zRow := [(0, .aload_n 0, 1, (0, 0, 0)), (1, .bipush 60, 2, (0, 0, 0))]
theorem K288_0 : zRk 288 B288_0 = true := zRw_ok (by decide +kernel)
noncomputable def B288_1 : List zRow := [(9, .aload_n 0, 1, (0, 0, 0)), (10, .bipush 61, 2, (0, 0, 0))]
theorem K288_1 : zRk 288 B288_1 = true := zRw_ok (by decide +kernel)
noncomputable def B288_2 : List zRow := [(18, .aload_n 0, 1, (0, 0, 0)), (19, .bipush 62, 2, (0, 0, 0))]
theorem K288_2 : zRk 288 B288_2 = true := zRw_ok (by decide +kernel)
noncomputable def B288_3 : List zRow := [(27, .aload_n 0, 1, (0, 0, 0)), (28, .iconst 1, 1, (0, 0, 0))]
theorem K288_3 : zRk 288 B288_3 = true := zRw_ok (by decide +kernel)
noncomputable def B288_4 : List zRow := [(24, .ifCond .ne 9, 3, (0, 0, 0))]
theorem K288_4 : zRk 288 B288_4 = true := zRw_ok (by decide +kernel)
noncomputable def B288_5 : List zRow := [(15, .ifCond .ne 18, 3, (0, 0, 0))]
theorem K288_5 : zRk 288 B288_5 = true := zRw_ok (by decide +kernel)
noncomputable def B288_6 : List zRow := [(6, .ifCond .ne 27, 3, (0, 0, 0))]
theorem K288_6 : zRk 288 B288_6 = true := zRw_ok (by decide +kernel)
noncomputable def B288_7 : List zRow := [(33, .aload_n 0, 1, (0, 0, 0)), (34, .getfield 117, 3, (12, 9, 0)), (37, .istore_n 2, 1, (0, 0, 0)), (38, .aload_n 0, 1, (0, 0, 0))]
theorem K288_7 : zRk 288 B288_7 = true := zRw_ok (by decide +kernel)
noncomputable def B288_8 : List zRow := [(42, .aload_n 0, 1, (0, 0, 0)), (43, .iconst 0, 1, (0, 0, 0)), (44, .sipush 999, 3, (0, 0, 0))]
theorem K288_8 : zRk 288 B288_8 = true := zRw_ok (by decide +kernel)
noncomputable def B288_9 : List zRow := [(55, .aload_n 0, 1, (0, 0, 0)), (56, .aload_n 0, 1, (0, 0, 0)), (57, .bipush 50, 2, (0, 0, 0)), (59, .iload_n 1, 1, (0, 0, 0))]
theorem K288_9 : zRk 288 B288_9 = true := zRw_ok (by decide +kernel)
noncomputable def B288_10 : List zRow := [(60, .iadd, 1, (0, 0, 0)), (61, .iconst 0, 1, (0, 0, 0)), (62, .aload_n 0, 1, (0, 0, 0)), (63, .getfield 155, 3, (12, 13, 0)), (66, .iload_n 2, 1, (0, 0, 0))]
theorem K288_10 : zRk 288 B288_10 = true := zRw_ok (by decide +kernel)
noncomputable def B288_11 : List zRow := [(70, .putfield 400, 3, (12, 49, 0)), (73, .iconst 1, 1, (0, 0, 0))]
theorem K288_11 : zRk 288 B288_11 = true := zRw_ok (by decide +kernel)
noncomputable def B288_12 : List zRow := [(53, .iconst 0, 1, (0, 0, 0))]
theorem K288_12 : zRk 288 B288_12 = true := zRw_ok (by decide +kernel)
noncomputable def B288_13 : List zRow := [(50, .ifCond .ne 5, 3, (0, 0, 0))]
theorem K288_13 : zRk 288 B288_13 = true := zRw_ok (by decide +kernel)
noncomputable def B287_0 : List zRow := [(0, .aload_n 0, 1, (0, 0, 0))]
theorem K287_0 : zRk 287 B287_0 = true := zRw_ok (by decide +kernel)
noncomputable def B287_1 : List zRow := [(13, .aload_n 0, 1, (0, 0, 0)), (14, .getfield 28, 3, (12, 19, 5505074)), (17, .bipush 6, 2, (0, 0, 0)), (19, .aload_n 0, 1, (0, 0, 0)), (20, .getfield 13, 3, (12, 14, 5251442)), (23, .iconst 3, 1, (0, 0, 0)), (24, .iaload, 1, (0, 0, 0)), (25, .aload_n 0, 1, (0, 0, 0)), (26, .getfield 120, 3, (12, 12, 1))]
theorem K287_1 : zRk 287 B287_1 = true := zRw_ok (by decide +kernel)
noncomputable def B287_2 : List zRow := [(44, .aload_n 0, 1, (0, 0, 0)), (45, .aload_n 0, 1, (0, 0, 0)), (46, .bipush 50, 2, (0, 0, 0)), (48, .iload_n 1, 1, (0, 0, 0))]
theorem K287_2 : zRk 287 B287_2 = true := zRw_ok (by decide +kernel)
noncomputable def B287_3 : List zRow := [(49, .iadd, 1, (0, 0, 0)), (50, .iload_n 2, 1, (0, 0, 0)), (51, .iconst 0, 1, (0, 0, 0)), (52, .iconst 0, 1, (0, 0, 0))]
theorem K287_3 : zRk 287 B287_3 = true := zRw_ok (by decide +kernel)
noncomputable def B287_4 : List zRow := [(56, .putfield 400, 3, (12, 49, 0)), (59, .aload_n 0, 1, (0, 0, 0))]
theorem K287_4 : zRk 287 B287_4 = true := zRw_ok (by decide +kernel)
noncomputable def B287_5 : List zRow := [(63, .iconst 1, 1, (0, 0, 0))]
theorem K287_5 : zRk 287 B287_5 = true := zRw_ok (by decide +kernel)
noncomputable def B287_6 : List zRow := [(38, .aload_n 0, 1, (0, 0, 0)), (39, .iconst 3, 1, (0, 0, 0))]
theorem K287_6 : zRk 287 B287_6 = true := zRw_ok (by decide +kernel)
noncomputable def B287_7 : List zRow := [(32, .istore_n 2, 1, (0, 0, 0)), (33, .iload_n 2, 1, (0, 0, 0)), (34, .iconst (-1), 1, (0, 0, 0)), (35, .if_icmp .ne 9, 3, (0, 0, 0))]
theorem K287_7 : zRk 287 B287_7 = true := zRw_ok (by decide +kernel)
noncomputable def B287_8 : List zRow := [(7, .aload_n 0, 1, (0, 0, 0)), (8, .iconst 1, 1, (0, 0, 0))]
theorem K287_8 : zRk 287 B287_8 = true := zRw_ok (by decide +kernel)
noncomputable def B287_9 : List zRow := [(4, .ifCond .ne 9, 3, (0, 0, 0))]
theorem K287_9 : zRk 287 B287_9 = true := zRw_ok (by decide +kernel)
noncomputable def B285_0 : List zRow := [(0, .aload_n 0, 1, (0, 0, 0))]
theorem K285_0 : zRk 285 B285_0 = true := zRw_ok (by decide +kernel)
noncomputable def B285_1 : List zRow := [(9, .aload_n 0, 1, (0, 0, 0)), (10, .aload_n 0, 1, (0, 0, 0)), (11, .iconst 1, 1, (0, 0, 0)), (12, .aload_n 0, 1, (0, 0, 0)), (13, .getfield 400, 3, (12, 49, 0)), (16, .iconst 0, 1, (0, 0, 0)), (17, .iconst 0, 1, (0, 0, 0))]
theorem K285_1 : zRk 285 B285_1 = true := zRw_ok (by decide +kernel)
noncomputable def B285_2 : List zRow := [(21, .putfield 400, 3, (12, 49, 0)), (24, .iconst 1, 1, (0, 0, 0))]
theorem K285_2 : zRk 285 B285_2 = true := zRw_ok (by decide +kernel)
noncomputable def B285_3 : List zRow := [(7, .iconst 0, 1, (0, 0, 0))]
theorem K285_3 : zRk 285 B285_3 = true := zRw_ok (by decide +kernel)
noncomputable def B285_4 : List zRow := [(4, .ifCond .ne 5, 3, (0, 0, 0))]
theorem K285_4 : zRk 285 B285_4 = true := zRw_ok (by decide +kernel)
noncomputable def B282b_0 : List zRow := [(0, .aload_n 0, 1, (0, 0, 0))]
theorem K282b_0 : zRk 282 B282b_0 = true := zRw_ok (by decide +kernel)
noncomputable def B282b_1 : List zRow := [(9, .aload_n 0, 1, (0, 0, 0)), (10, .getfield 400, 3, (12, 49, 0)), (13, .istore_n 1, 1, (0, 0, 0))]
theorem K282b_1 : zRk 282 B282b_1 = true := zRw_ok (by decide +kernel)
noncomputable def B282b_2 : List zRow := [(7, .iconst 0, 1, (0, 0, 0))]
theorem K282b_2 : zRk 282 B282b_2 = true := zRw_ok (by decide +kernel)
noncomputable def B282b_3 : List zRow := [(4, .ifCond .ne 5, 3, (0, 0, 0))]
theorem K282b_3 : zRk 282 B282b_3 = true := zRw_ok (by decide +kernel)
noncomputable def B282b_4 : List zRow := [(14, .aload_n 0, 1, (0, 0, 0)), (15, .bipush 11, 2, (0, 0, 0))]
theorem K282b_4 : zRk 282 B282b_4 = true := zRw_ok (by decide +kernel)
noncomputable def B282b_5 : List zRow := [(51, .aload_n 0, 1, (0, 0, 0)), (52, .iload_n 1, 1, (0, 0, 0)), (53, .putfield 400, 3, (12, 49, 0)), (56, .iconst 1, 1, (0, 0, 0))]
theorem K282b_5 : zRk 282 B282b_5 = true := zRw_ok (by decide +kernel)
noncomputable def B282b_6 : List zRow := [(23, .aload_n 0, 1, (0, 0, 0))]
theorem K282b_6 : zRk 282 B282b_6 = true := zRw_ok (by decide +kernel)
noncomputable def B282b_7 : List zRow := [(27, .aload_n 0, 1, (0, 0, 0))]
theorem K282b_7 : zRk 282 B282b_7 = true := zRw_ok (by decide +kernel)
noncomputable def B282b_8 : List zRow := [(36, .aload_n 0, 1, (0, 0, 0)), (37, .iconst 2, 1, (0, 0, 0)), (38, .iload_n 1, 1, (0, 0, 0)), (39, .aload_n 0, 1, (0, 0, 0)), (40, .getfield 400, 3, (12, 49, 0)), (43, .iconst 0, 1, (0, 0, 0))]
theorem K282b_8 : zRk 282 B282b_8 = true := zRw_ok (by decide +kernel)
noncomputable def B282b_9 : List zRow := [(47, .istore_n 1, 1, (0, 0, 0)), (48, .goto (-34), 3, (0, 0, 0))]
theorem K282b_9 : zRk 282 B282b_9 = true := zRw_ok (by decide +kernel)
noncomputable def B282b_10 : List zRow := [(34, .iconst 0, 1, (0, 0, 0))]
theorem K282b_10 : zRk 282 B282b_10 = true := zRw_ok (by decide +kernel)
noncomputable def B282b_11 : List zRow := [(31, .ifCond .ne 5, 3, (0, 0, 0))]
theorem K282b_11 : zRk 282 B282b_11 = true := zRw_ok (by decide +kernel)
noncomputable def B282b_12 : List zRow := [(20, .ifCond .eq 31, 3, (0, 0, 0))]
theorem K282b_12 : zRk 282 B282b_12 = true := zRw_ok (by decide +kernel)
noncomputable def B281b_0 : List zRow := [(0, .aload_n 0, 1, (0, 0, 0))]
theorem K281b_0 : zRk 281 B281b_0 = true := zRw_ok (by decide +kernel)
noncomputable def B281b_1 : List zRow := [(9, .aload_n 0, 1, (0, 0, 0)), (10, .getfield 400, 3, (12, 49, 0)), (13, .istore_n 1, 1, (0, 0, 0))]
theorem K281b_1 : zRk 281 B281b_1 = true := zRw_ok (by decide +kernel)
noncomputable def B281b_2 : List zRow := [(7, .iconst 0, 1, (0, 0, 0))]
theorem K281b_2 : zRk 281 B281b_2 = true := zRw_ok (by decide +kernel)
noncomputable def B281b_3 : List zRow := [(4, .ifCond .ne 5, 3, (0, 0, 0))]
theorem K281b_3 : zRk 281 B281b_3 = true := zRw_ok (by decide +kernel)
noncomputable def B281b_4 : List zRow := [(14, .aload_n 0, 1, (0, 0, 0)), (15, .bipush 10, 2, (0, 0, 0))]
theorem K281b_4 : zRk 281 B281b_4 = true := zRw_ok (by decide +kernel)
noncomputable def B281b_5 : List zRow := [(51, .aload_n 0, 1, (0, 0, 0)), (52, .iload_n 1, 1, (0, 0, 0)), (53, .putfield 400, 3, (12, 49, 0)), (56, .iconst 1, 1, (0, 0, 0))]
theorem K281b_5 : zRk 281 B281b_5 = true := zRw_ok (by decide +kernel)
noncomputable def B281b_6 : List zRow := [(23, .aload_n 0, 1, (0, 0, 0))]
theorem K281b_6 : zRk 281 B281b_6 = true := zRw_ok (by decide +kernel)
noncomputable def B281b_7 : List zRow := [(27, .aload_n 0, 1, (0, 0, 0))]
theorem K281b_7 : zRk 281 B281b_7 = true := zRw_ok (by decide +kernel)
noncomputable def B281b_8 : List zRow := [(36, .aload_n 0, 1, (0, 0, 0)), (37, .iconst 3, 1, (0, 0, 0)), (38, .iload_n 1, 1, (0, 0, 0)), (39, .aload_n 0, 1, (0, 0, 0)), (40, .getfield 400, 3, (12, 49, 0)), (43, .iconst 0, 1, (0, 0, 0))]
theorem K281b_8 : zRk 281 B281b_8 = true := zRw_ok (by decide +kernel)
noncomputable def B281b_9 : List zRow := [(47, .istore_n 1, 1, (0, 0, 0)), (48, .goto (-34), 3, (0, 0, 0))]
theorem K281b_9 : zRk 281 B281b_9 = true := zRw_ok (by decide +kernel)
noncomputable def B281b_10 : List zRow := [(34, .iconst 0, 1, (0, 0, 0))]
theorem K281b_10 : zRk 281 B281b_10 = true := zRw_ok (by decide +kernel)
noncomputable def B281b_11 : List zRow := [(31, .ifCond .ne 5, 3, (0, 0, 0))]
theorem K281b_11 : zRk 281 B281b_11 = true := zRw_ok (by decide +kernel)
noncomputable def B281b_12 : List zRow := [(20, .ifCond .eq 31, 3, (0, 0, 0))]
theorem K281b_12 : zRk 281 B281b_12 = true := zRw_ok (by decide +kernel)
noncomputable def B284_0 : List zRow := [(0, .aload_n 0, 1, (0, 0, 0))]
theorem K284_0 : zRk 284 B284_0 = true := zRw_ok (by decide +kernel)
noncomputable def B284_1 : List zRow := [(9, .aload_n 0, 1, (0, 0, 0)), (10, .bipush 41, 2, (0, 0, 0))]
theorem K284_1 : zRk 284 B284_1 = true := zRw_ok (by decide +kernel)
noncomputable def B284_2 : List zRow := [(24, .aload_n 0, 1, (0, 0, 0))]
theorem K284_2 : zRk 284 B284_2 = true := zRw_ok (by decide +kernel)
noncomputable def B284_3 : List zRow := [(28, .iconst 1, 1, (0, 0, 0))]
theorem K284_3 : zRk 284 B284_3 = true := zRw_ok (by decide +kernel)
noncomputable def B284_4 : List zRow := [(18, .aload_n 0, 1, (0, 0, 0)), (19, .iconst 1, 1, (0, 0, 0))]
theorem K284_4 : zRk 284 B284_4 = true := zRw_ok (by decide +kernel)
noncomputable def B284_5 : List zRow := [(15, .ifCond .ne 9, 3, (0, 0, 0))]
theorem K284_5 : zRk 284 B284_5 = true := zRw_ok (by decide +kernel)
noncomputable def B284_6 : List zRow := [(7, .iconst 0, 1, (0, 0, 0))]
theorem K284_6 : zRk 284 B284_6 = true := zRw_ok (by decide +kernel)
noncomputable def B284_7 : List zRow := [(4, .ifCond .ne 5, 3, (0, 0, 0))]
theorem K284_7 : zRk 284 B284_7 = true := zRw_ok (by decide +kernel)
noncomputable def B283_0 : List zRow := [(0, .aload_n 0, 1, (0, 0, 0)), (1, .bipush 40, 2, (0, 0, 0))]
theorem K283_0 : zRk 283 B283_0 = true := zRw_ok (by decide +kernel)
noncomputable def B283_1 : List zRow := [(6, .istore_n 1, 1, (0, 0, 0)), (7, .bipush 12, 2, (0, 0, 0)), (9, .istore_n 2, 1, (0, 0, 0))]
theorem K283_1 : zRk 283 B283_1 = true := zRw_ok (by decide +kernel)
noncomputable def B283_2 : List zRow := [(16, .aload_n 0, 1, (0, 0, 0)), (17, .iload_n 2, 1, (0, 0, 0))]
theorem K283_2 : zRk 283 B283_2 = true := zRw_ok (by decide +kernel)
noncomputable def B283_3 : List zRow := [(24, .iinc 2 1, 3, (0, 0, 0)), (27, .goto (-17), 3, (0, 0, 0))]
theorem K283_3 : zRk 283 B283_3 = true := zRw_ok (by decide +kernel)
noncomputable def B283_4 : List zRow := [(21, .ifCond .ne 9, 3, (0, 0, 0))]
theorem K283_4 : zRk 283 B283_4 = true := zRw_ok (by decide +kernel)
noncomputable def B283_5 : List zRow := [(10, .iload_n 2, 1, (0, 0, 0)), (11, .bipush 20, 2, (0, 0, 0)), (13, .if_icmp .gt 17, 3, (0, 0, 0))]
theorem K283_5 : zRk 283 B283_5 = true := zRw_ok (by decide +kernel)
noncomputable def B283_6 : List zRow := [(40, .aload_n 0, 1, (0, 0, 0)), (41, .iconst 1, 1, (0, 0, 0))]
theorem K283_6 : zRk 283 B283_6 = true := zRw_ok (by decide +kernel)
noncomputable def B283_7 : List zRow := [(34, .iload_n 2, 1, (0, 0, 0)), (35, .bipush 20, 2, (0, 0, 0)), (37, .if_icmp .le 9, 3, (0, 0, 0))]
theorem K283_7 : zRk 283 B283_7 = true := zRw_ok (by decide +kernel)
noncomputable def B283_8 : List zRow := [(30, .iload_n 1, 1, (0, 0, 0)), (31, .ifCond .ne 15, 3, (0, 0, 0))]
theorem K283_8 : zRk 283 B283_8 = true := zRw_ok (by decide +kernel)
noncomputable def B283_9 : List zRow := [(70, .aload_n 0, 1, (0, 0, 0)), (71, .dup, 1, (0, 0, 0)), (72, .getfield 410, 3, (12, 47, 0)), (75, .iconst 1, 1, (0, 0, 0)), (76, .iadd, 1, (0, 0, 0)), (77, .putfield 410, 3, (12, 47, 0)), (80, .aload_n 0, 1, (0, 0, 0)), (81, .dup, 1, (0, 0, 0)), (82, .getfield 413, 3, (12, 48, 0)), (85, .iconst 1, 1, (0, 0, 0)), (86, .iadd, 1, (0, 0, 0)), (87, .putfield 413, 3, (12, 48, 0)), (90, .aload_n 0, 1, (0, 0, 0))]
theorem K283_9 : zRk 283 B283_9 = true := zRw_ok (by decide +kernel)
noncomputable def B283_10 : List zRow := [(160, .aload_n 0, 1, (0, 0, 0)), (161, .iload_n 2, 1, (0, 0, 0))]
theorem K283_10 : zRk 283 B283_10 = true := zRw_ok (by decide +kernel)
noncomputable def B283_11 : List zRow := [(152, .aload_n 0, 1, (0, 0, 0)), (153, .iload_n 2, 1, (0, 0, 0))]
theorem K283_11 : zRk 283 B283_11 = true := zRw_ok (by decide +kernel)
noncomputable def B283_12 : List zRow := [(157, .goto 8, 3, (0, 0, 0))]
theorem K283_12 : zRk 283 B283_12 = true := zRw_ok (by decide +kernel)
noncomputable def B283_13 : List zRow := [(146, .iload_n 2, 1, (0, 0, 0)), (147, .bipush 17, 2, (0, 0, 0)), (149, .if_icmp .ge 11, 3, (0, 0, 0))]
theorem K283_13 : zRk 283 B283_13 = true := zRw_ok (by decide +kernel)
noncomputable def B283_14 : List zRow := [(128, .aload_n 0, 1, (0, 0, 0)), (129, .aload_n 0, 1, (0, 0, 0)), (130, .bipush 50, 2, (0, 0, 0)), (132, .iload_n 2, 1, (0, 0, 0))]
theorem K283_14 : zRk 283 B283_14 = true := zRw_ok (by decide +kernel)
noncomputable def B283_15 : List zRow := [(133, .iadd, 1, (0, 0, 0)), (134, .iconst 0, 1, (0, 0, 0)), (135, .iconst 0, 1, (0, 0, 0)), (136, .iconst 0, 1, (0, 0, 0))]
theorem K283_15 : zRk 283 B283_15 = true := zRw_ok (by decide +kernel)
noncomputable def B283_16 : List zRow := [(140, .putfield 400, 3, (12, 49, 0)), (143, .goto 23, 3, (0, 0, 0))]
theorem K283_16 : zRk 283 B283_16 = true := zRw_ok (by decide +kernel)
noncomputable def B283_17 : List zRow := [(122, .iload_n 2, 1, (0, 0, 0)), (123, .bipush 15, 2, (0, 0, 0)), (125, .if_icmp .ge 21, 3, (0, 0, 0))]
theorem K283_17 : zRk 283 B283_17 = true := zRw_ok (by decide +kernel)
noncomputable def B283_18 : List zRow := [(114, .aload_n 0, 1, (0, 0, 0))]
theorem K283_18 : zRk 283 B283_18 = true := zRw_ok (by decide +kernel)
noncomputable def B283_19 : List zRow := [(118, .istore_n 3, 1, (0, 0, 0)), (119, .goto 47, 3, (0, 0, 0))]
theorem K283_19 : zRk 283 B283_19 = true := zRw_ok (by decide +kernel)
noncomputable def B283_20 : List zRow := [(108, .iload_n 2, 1, (0, 0, 0)), (109, .bipush 12, 2, (0, 0, 0)), (111, .if_icmp .ne 11, 3, (0, 0, 0))]
theorem K283_20 : zRk 283 B283_20 = true := zRw_ok (by decide +kernel)
noncomputable def B283_21 : List zRow := [(100, .aload_n 0, 1, (0, 0, 0))]
theorem K283_21 : zRk 283 B283_21 = true := zRw_ok (by decide +kernel)
noncomputable def B283_22 : List zRow := [(104, .istore_n 3, 1, (0, 0, 0)), (105, .goto 61, 3, (0, 0, 0))]
theorem K283_22 : zRk 283 B283_22 = true := zRw_ok (by decide +kernel)
noncomputable def B283_23 : List zRow := [(94, .iconst 1, 1, (0, 0, 0)), (95, .istore_n 3, 1, (0, 0, 0)), (96, .iload_n 1, 1, (0, 0, 0)), (97, .ifCond .eq 11, 3, (0, 0, 0))]
theorem K283_23 : zRk 283 B283_23 = true := zRw_ok (by decide +kernel)
noncomputable def B283_24 : List zRow := [(55, .aload_n 0, 1, (0, 0, 0)), (56, .getfield 413, 3, (12, 48, 0)), (59, .bipush 8, 2, (0, 0, 0)), (61, .if_icmp .ne 9, 3, (0, 0, 0))]
theorem K283_24 : zRk 283 B283_24 = true := zRw_ok (by decide +kernel)
noncomputable def B283_25 : List zRow := [(46, .aload_n 0, 1, (0, 0, 0)), (47, .getfield 410, 3, (12, 47, 0)), (50, .bipush 20, 2, (0, 0, 0)), (52, .if_icmp .eq 12, 3, (0, 0, 0))]
theorem K283_25 : zRk 283 B283_25 = true := zRw_ok (by decide +kernel)
noncomputable def B283_26 : List zRow := [(166, .aload_n 0, 1, (0, 0, 0)), (167, .dup, 1, (0, 0, 0)), (168, .getfield 413, 3, (12, 48, 0)), (171, .iconst 1, 1, (0, 0, 0)), (172, .isub, 1, (0, 0, 0)), (173, .putfield 413, 3, (12, 48, 0)), (176, .iload_n 3, 1, (0, 0, 0))]
theorem K283_26 : zRk 283 B283_26 = true := zRw_ok (by decide +kernel)
noncomputable def B283_27 : List zRow := [(165, .istore_n 3, 1, (0, 0, 0))]
theorem K283_27 : zRk 283 B283_27 = true := zRw_ok (by decide +kernel)
noncomputable def B283_28 : List zRow := [(64, .aload_n 0, 1, (0, 0, 0)), (65, .iconst 4, 1, (0, 0, 0))]
theorem K283_28 : zRk 283 B283_28 = true := zRw_ok (by decide +kernel)
noncomputable def B282_0 : List zRow := [(0, .aload_n 0, 1, (0, 0, 0))]
theorem K282_0 : zRk 282 B282_0 = true := zRw_ok (by decide +kernel)
noncomputable def B282_1 : List zRow := [(9, .aload_n 0, 1, (0, 0, 0)), (10, .getfield 400, 3, (12, 49, 0)), (13, .istore_n 1, 1, (0, 0, 0))]
theorem K282_1 : zRk 282 B282_1 = true := zRw_ok (by decide +kernel)
noncomputable def B282_2 : List zRow := [(7, .iconst 0, 1, (0, 0, 0))]
theorem K282_2 : zRk 282 B282_2 = true := zRw_ok (by decide +kernel)
noncomputable def B282_3 : List zRow := [(4, .ifCond .ne 5, 3, (0, 0, 0))]
theorem K282_3 : zRk 282 B282_3 = true := zRw_ok (by decide +kernel)
noncomputable def B282_4 : List zRow := [(14, .aload_n 0, 1, (0, 0, 0)), (15, .bipush 11, 2, (0, 0, 0))]
theorem K282_4 : zRk 282 B282_4 = true := zRw_ok (by decide +kernel)
noncomputable def B282_5 : List zRow := [(51, .aload_n 0, 1, (0, 0, 0)), (52, .iload_n 1, 1, (0, 0, 0)), (53, .putfield 400, 3, (12, 49, 0)), (56, .iconst 1, 1, (0, 0, 0))]
theorem K282_5 : zRk 282 B282_5 = true := zRw_ok (by decide +kernel)
noncomputable def B282_6 : List zRow := [(23, .aload_n 0, 1, (0, 0, 0))]
theorem K282_6 : zRk 282 B282_6 = true := zRw_ok (by decide +kernel)
noncomputable def B282_7 : List zRow := [(27, .aload_n 0, 1, (0, 0, 0))]
theorem K282_7 : zRk 282 B282_7 = true := zRw_ok (by decide +kernel)
noncomputable def B282_8 : List zRow := [(36, .aload_n 0, 1, (0, 0, 0)), (37, .iconst 2, 1, (0, 0, 0)), (38, .iload_n 1, 1, (0, 0, 0)), (39, .aload_n 0, 1, (0, 0, 0)), (40, .getfield 400, 3, (12, 49, 0)), (43, .iconst 0, 1, (0, 0, 0))]
theorem K282_8 : zRk 282 B282_8 = true := zRw_ok (by decide +kernel)
noncomputable def B282_9 : List zRow := [(47, .istore_n 1, 1, (0, 0, 0)), (48, .goto (-34), 3, (0, 0, 0))]
theorem K282_9 : zRk 282 B282_9 = true := zRw_ok (by decide +kernel)
noncomputable def B282_10 : List zRow := [(34, .iconst 0, 1, (0, 0, 0))]
theorem K282_10 : zRk 282 B282_10 = true := zRw_ok (by decide +kernel)
noncomputable def B282_11 : List zRow := [(31, .ifCond .ne 5, 3, (0, 0, 0))]
theorem K282_11 : zRk 282 B282_11 = true := zRw_ok (by decide +kernel)
noncomputable def B282_12 : List zRow := [(20, .ifCond .eq 31, 3, (0, 0, 0))]
theorem K282_12 : zRk 282 B282_12 = true := zRw_ok (by decide +kernel)
noncomputable def B281_0 : List zRow := [(0, .aload_n 0, 1, (0, 0, 0))]
theorem K281_0 : zRk 281 B281_0 = true := zRw_ok (by decide +kernel)
noncomputable def B281_1 : List zRow := [(9, .aload_n 0, 1, (0, 0, 0)), (10, .getfield 400, 3, (12, 49, 0)), (13, .istore_n 1, 1, (0, 0, 0))]
theorem K281_1 : zRk 281 B281_1 = true := zRw_ok (by decide +kernel)
noncomputable def B281_2 : List zRow := [(7, .iconst 0, 1, (0, 0, 0))]
theorem K281_2 : zRk 281 B281_2 = true := zRw_ok (by decide +kernel)
noncomputable def B281_3 : List zRow := [(4, .ifCond .ne 5, 3, (0, 0, 0))]
theorem K281_3 : zRk 281 B281_3 = true := zRw_ok (by decide +kernel)
noncomputable def B281_4 : List zRow := [(14, .aload_n 0, 1, (0, 0, 0)), (15, .bipush 10, 2, (0, 0, 0))]
theorem K281_4 : zRk 281 B281_4 = true := zRw_ok (by decide +kernel)
noncomputable def B281_5 : List zRow := [(51, .aload_n 0, 1, (0, 0, 0)), (52, .iload_n 1, 1, (0, 0, 0)), (53, .putfield 400, 3, (12, 49, 0)), (56, .iconst 1, 1, (0, 0, 0))]
theorem K281_5 : zRk 281 B281_5 = true := zRw_ok (by decide +kernel)
noncomputable def B281_6 : List zRow := [(23, .aload_n 0, 1, (0, 0, 0))]
theorem K281_6 : zRk 281 B281_6 = true := zRw_ok (by decide +kernel)
noncomputable def B281_7 : List zRow := [(27, .aload_n 0, 1, (0, 0, 0))]
theorem K281_7 : zRk 281 B281_7 = true := zRw_ok (by decide +kernel)
noncomputable def B281_8 : List zRow := [(36, .aload_n 0, 1, (0, 0, 0)), (37, .iconst 3, 1, (0, 0, 0)), (38, .iload_n 1, 1, (0, 0, 0)), (39, .aload_n 0, 1, (0, 0, 0)), (40, .getfield 400, 3, (12, 49, 0)), (43, .iconst 0, 1, (0, 0, 0))]
theorem K281_8 : zRk 281 B281_8 = true := zRw_ok (by decide +kernel)
noncomputable def B281_9 : List zRow := [(47, .istore_n 1, 1, (0, 0, 0)), (48, .goto (-34), 3, (0, 0, 0))]
theorem K281_9 : zRk 281 B281_9 = true := zRw_ok (by decide +kernel)
noncomputable def B281_10 : List zRow := [(34, .iconst 0, 1, (0, 0, 0))]
theorem K281_10 : zRk 281 B281_10 = true := zRw_ok (by decide +kernel)
noncomputable def B281_11 : List zRow := [(31, .ifCond .ne 5, 3, (0, 0, 0))]
theorem K281_11 : zRk 281 B281_11 = true := zRw_ok (by decide +kernel)
noncomputable def B281_12 : List zRow := [(20, .ifCond .eq 31, 3, (0, 0, 0))]
theorem K281_12 : zRk 281 B281_12 = true := zRw_ok (by decide +kernel)
noncomputable def B280_0 : List zRow := [(0, .aload_n 0, 1, (0, 0, 0)), (1, .sipush 200, 3, (0, 0, 0))]
theorem K280_0 : zRk 280 B280_0 = true := zRw_ok (by decide +kernel)
noncomputable def B280_1 : List zRow := [(7, .aload_n 0, 1, (0, 0, 0)), (8, .iconst 0, 1, (0, 0, 0)), (9, .putfield 394, 3, (12, 46, 0)), (12, .aload_n 0, 1, (0, 0, 0)), (13, .iconst 0, 1, (0, 0, 0)), (14, .putfield 410, 3, (12, 47, 0)), (17, .aload_n 0, 1, (0, 0, 0)), (18, .iconst 0, 1, (0, 0, 0)), (19, .putfield 413, 3, (12, 48, 0)), (22, .aload_n 0, 1, (0, 0, 0))]
theorem K280_1 : zRk 280 B280_1 = true := zRw_ok (by decide +kernel)
noncomputable def B280_2 : List zRow := [(56, .aload_n 0, 1, (0, 0, 0)), (57, .getfield 13, 3, (12, 14, 5251442)), (60, .sipush 1898, 3, (0, 0, 0)), (63, .iconst 1, 1, (0, 0, 0)), (64, .iastore, 1, (0, 0, 0)), (65, .aload_n 0, 1, (0, 0, 0)), (66, .getfield 13, 3, (12, 14, 5251442)), (69, .sipush 1899, 3, (0, 0, 0)), (72, .aload_n 0, 1, (0, 0, 0)), (73, .getfield 400, 3, (12, 49, 0)), (76, .iastore, 1, (0, 0, 0)), (77, .iconst 0, 1, (0, 0, 0)), (78, .istore_n 1, 1, (0, 0, 0))]
theorem K280_2 : zRk 280 B280_2 = true := zRw_ok (by decide +kernel)
noncomputable def B280_3 : List zRow := [(43, .aload_n 0, 1, (0, 0, 0)), (44, .iconst 1, 1, (0, 0, 0))]
theorem K280_3 : zRk 280 B280_3 = true := zRw_ok (by decide +kernel)
noncomputable def B280_4 : List zRow := [(48, .pop, 1, (0, 0, 0)), (49, .iconst (-1), 1, (0, 0, 0)), (50, .aload_n 0, 1, (0, 0, 0)), (51, .getfield 145, 3, (12, 11, 0))]
theorem K280_4 : zRk 280 B280_4 = true := zRw_ok (by decide +kernel)
noncomputable def B280_5 : List zRow := [(54, .isub, 1, (0, 0, 0))]
theorem K280_5 : zRk 280 B280_5 = true := zRw_ok (by decide +kernel)
noncomputable def B280_6 : List zRow := [(36, .aload_n 0, 1, (0, 0, 0)), (37, .getfield 107, 3, (12, 7, 0)), (40, .ifCond .eq 16, 3, (0, 0, 0))]
theorem K280_6 : zRk 280 B280_6 = true := zRw_ok (by decide +kernel)
noncomputable def B280_7 : List zRow := [(29, .iconst (-1), 1, (0, 0, 0)), (30, .aload_n 0, 1, (0, 0, 0)), (31, .getfield 145, 3, (12, 11, 0))]
theorem K280_7 : zRk 280 B280_7 = true := zRw_ok (by decide +kernel)
noncomputable def B280_8 : List zRow := [(34, .isub, 1, (0, 0, 0))]
theorem K280_8 : zRk 280 B280_8 = true := zRw_ok (by decide +kernel)
noncomputable def B280_9 : List zRow := [(26, .ifCond .ne 10, 3, (0, 0, 0))]
theorem K280_9 : zRk 280 B280_9 = true := zRw_ok (by decide +kernel)
noncomputable def B280_10 : List zRow := [(108, .aload_n 0, 1, (0, 0, 0)), (109, .getfield 410, 3, (12, 47, 0))]
theorem K280_10 : zRk 280 B280_10 = true := zRw_ok (by decide +kernel)
noncomputable def B280_11 : List zRow := [(86, .aload_n 0, 1, (0, 0, 0)), (87, .getfield 13, 3, (12, 14, 5251442)), (90, .sipush 1900, 3, (0, 0, 0)), (93, .iload_n 1, 1, (0, 0, 0))]
theorem K280_11 : zRk 280 B280_11 = true := zRw_ok (by decide +kernel)
noncomputable def B280_12 : List zRow := [(94, .iadd, 1, (0, 0, 0)), (95, .aload_n 0, 1, (0, 0, 0)), (96, .getfield 78, 3, (12, 45, 5243842)), (99, .iload_n 1, 1, (0, 0, 0)), (100, .iaload, 1, (0, 0, 0)), (101, .iastore, 1, (0, 0, 0)), (102, .iinc 1 1, 3, (0, 0, 0)), (105, .goto (-26), 3, (0, 0, 0))]
theorem K280_12 : zRk 280 B280_12 = true := zRw_ok (by decide +kernel)
noncomputable def B280_13 : List zRow := [(79, .iload_n 1, 1, (0, 0, 0)), (80, .sipush 240, 3, (0, 0, 0)), (83, .if_icmp .ge 25, 3, (0, 0, 0))]
theorem K280_13 : zRk 280 B280_13 = true := zRw_ok (by decide +kernel)
