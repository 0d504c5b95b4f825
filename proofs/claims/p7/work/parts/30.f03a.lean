noncomputable def B174_0 : List zRow := [(0, .aload_n 0, 1, (0, 0, 0)), (1, .iconst 0, 1, (0, 0, 0)), (2, .putfield 81, 3, (12, 0, 0)), (5, .aload_n 0, 1, (0, 0, 0)), (6, .aload_n 0, 1, (0, 0, 0))]
theorem K174_0 : zRk 174 B174_0 = true := zRw_ok (by decide +kernel)
noncomputable def B174_1 : List zRow := [(10, .putfield 96, 3, (12, 3, 0)), (13, .aload_n 0, 1, (0, 0, 0)), (14, .iload_n 1, 1, (0, 0, 0)), (15, .putfield 104, 3, (12, 4, 0)), (18, .aload_n 0, 1, (0, 0, 0)), (19, .iconst 0, 1, (0, 0, 0)), (20, .putfield 142, 3, (12, 10, 0)), (23, .aload_n 0, 1, (0, 0, 0)), (24, .iconst 0, 1, (0, 0, 0)), (25, .putfield 98, 3, (12, 5, 0)), (28, .aload_n 0, 1, (0, 0, 0))]
theorem K174_1 : zRk 174 B174_1 = true := zRw_ok (by decide +kernel)
noncomputable def B183_0 : List zRow := [(23, .ldc2_w 130, 3, (0, 0, 27)), (26, .lload 6, 2, (0, 0, 0)), (28, .lmul, 1, (0, 0, 0)), (29, .iload_n 2, 1, (0, 0, 0)), (30, .i2l, 1, (0, 0, 0)), (31, .ladd, 1, (0, 0, 0)), (32, .ldc2_w 132, 3, (0, 0, 96)), (35, .lsub, 1, (0, 0, 0)), (36, .lstore 6, 2, (0, 0, 0))]
theorem K183_0 : zRk 183 B183_0 = true := zRw_ok (by decide +kernel)
noncomputable def B183_1 : List zRow := [(0, .ldc2_w 130, 3, (0, 0, 27)), (3, .iload_n 0, 1, (0, 0, 0)), (4, .i2l, 1, (0, 0, 0)), (5, .ldc2_w 132, 3, (0, 0, 96)), (8, .lsub, 1, (0, 0, 0)), (9, .lmul, 1, (0, 0, 0)), (10, .iload_n 1, 1, (0, 0, 0)), (11, .i2l, 1, (0, 0, 0)), (12, .ladd, 1, (0, 0, 0)), (13, .ldc2_w 132, 3, (0, 0, 96)), (16, .lsub, 1, (0, 0, 0)), (17, .lstore 6, 2, (0, 0, 0)), (19, .iload_n 2, 1, (0, 0, 0)), (20, .ifCond .le 18, 3, (0, 0, 0))]
theorem K183_1 : zRk 183 B183_1 = true := zRw_ok (by decide +kernel)
noncomputable def B183_2 : List zRow := [(42, .ldc2_w 130, 3, (0, 0, 27)), (45, .lload 6, 2, (0, 0, 0)), (47, .lmul, 1, (0, 0, 0)), (48, .iload_n 3, 1, (0, 0, 0)), (49, .i2l, 1, (0, 0, 0)), (50, .ladd, 1, (0, 0, 0)), (51, .ldc2_w 132, 3, (0, 0, 96)), (54, .lsub, 1, (0, 0, 0)), (55, .lstore 6, 2, (0, 0, 0))]
theorem K183_2 : zRk 183 B183_2 = true := zRw_ok (by decide +kernel)
noncomputable def B183_3 : List zRow := [(38, .iload_n 3, 1, (0, 0, 0)), (39, .ifCond .le 18, 3, (0, 0, 0))]
theorem K183_3 : zRk 183 B183_3 = true := zRw_ok (by decide +kernel)
noncomputable def B183_4 : List zRow := [(62, .ldc2_w 130, 3, (0, 0, 27)), (65, .lload 6, 2, (0, 0, 0)), (67, .lmul, 1, (0, 0, 0)), (68, .iload 4, 2, (0, 0, 0)), (70, .i2l, 1, (0, 0, 0)), (71, .ladd, 1, (0, 0, 0)), (72, .ldc2_w 132, 3, (0, 0, 96)), (75, .lsub, 1, (0, 0, 0)), (76, .lstore 6, 2, (0, 0, 0))]
theorem K183_4 : zRk 183 B183_4 = true := zRw_ok (by decide +kernel)
noncomputable def B183_5 : List zRow := [(57, .iload 4, 2, (0, 0, 0)), (59, .ifCond .le 19, 3, (0, 0, 0))]
theorem K183_5 : zRk 183 B183_5 = true := zRw_ok (by decide +kernel)
noncomputable def B183_6 : List zRow := [(100, .lload 6, 2, (0, 0, 0))]
theorem K183_6 : zRk 183 B183_6 = true := zRw_ok (by decide +kernel)
noncomputable def B183_7 : List zRow := [(83, .ldc2_w 130, 3, (0, 0, 27)), (86, .lload 6, 2, (0, 0, 0)), (88, .lmul, 1, (0, 0, 0)), (89, .iload 5, 2, (0, 0, 0)), (91, .i2l, 1, (0, 0, 0)), (92, .ladd, 1, (0, 0, 0)), (93, .ldc2_w 132, 3, (0, 0, 96)), (96, .lsub, 1, (0, 0, 0)), (97, .goto 5, 3, (0, 0, 0))]
theorem K183_7 : zRk 183 B183_7 = true := zRw_ok (by decide +kernel)
noncomputable def B183_8 : List zRow := [(78, .iload 5, 2, (0, 0, 0)), (80, .ifCond .le 20, 3, (0, 0, 0))]
theorem K183_8 : zRk 183 B183_8 = true := zRw_ok (by decide +kernel)
noncomputable def B182_0 : List zRow := [(96, .bipush 108, 2, (0, 0, 0)), (98, .bipush 97, 2, (0, 0, 0)), (100, .bipush 110, 2, (0, 0, 0)), (102, .bipush 100, 2, (0, 0, 0)), (104, .iconst 0, 1, (0, 0, 0)), (105, .iconst 0, 1, (0, 0, 0))]
theorem K182_0 : zRk 182 B182_0 = true := zRw_ok (by decide +kernel)
noncomputable def B182_1 : List zRow := [(0, .iload_n 0, 1, (0, 0, 0)), (1, .tableswitch 373 0 19 #[95, 109, 124, 140, 154, 168, 182, 196, 210, 224, 239, 251, 264, 277, 291, 306, 318, 330, 345, 359], 95, (0, 0, 0))]
theorem K182_1 : zRk 182 B182_1 = true := by decide +kernel
noncomputable def B182_2 : List zRow := [(110, .bipush 99, 2, (0, 0, 0)), (112, .bipush 108, 2, (0, 0, 0)), (114, .bipush 105, 2, (0, 0, 0)), (116, .bipush 102, 2, (0, 0, 0)), (118, .bipush 102, 2, (0, 0, 0)), (120, .iconst 0, 1, (0, 0, 0))]
theorem K182_2 : zRk 182 B182_2 = true := zRw_ok (by decide +kernel)
noncomputable def B182_3 : List zRow := [(125, .bipush 112, 2, (0, 0, 0)), (127, .bipush 101, 2, (0, 0, 0)), (129, .bipush 114, 2, (0, 0, 0)), (131, .bipush 115, 2, (0, 0, 0)), (133, .bipush 111, 2, (0, 0, 0)), (135, .bipush 110, 2, (0, 0, 0))]
theorem K182_3 : zRk 182 B182_3 = true := zRw_ok (by decide +kernel)
noncomputable def B182_4 : List zRow := [(141, .bipush 109, 2, (0, 0, 0)), (143, .bipush 111, 2, (0, 0, 0)), (145, .bipush 118, 2, (0, 0, 0)), (147, .bipush 101, 2, (0, 0, 0)), (149, .iconst 0, 1, (0, 0, 0)), (150, .iconst 0, 1, (0, 0, 0))]
theorem K182_4 : zRk 182 B182_4 = true := zRw_ok (by decide +kernel)
noncomputable def B182_5 : List zRow := [(155, .bipush 99, 2, (0, 0, 0)), (157, .bipush 97, 2, (0, 0, 0)), (159, .bipush 109, 2, (0, 0, 0)), (161, .bipush 112, 2, (0, 0, 0)), (163, .iconst 0, 1, (0, 0, 0)), (164, .iconst 0, 1, (0, 0, 0))]
theorem K182_5 : zRk 182 B182_5 = true := zRw_ok (by decide +kernel)
noncomputable def B182_6 : List zRow := [(169, .bipush 102, 2, (0, 0, 0)), (171, .bipush 101, 2, (0, 0, 0)), (173, .bipush 108, 2, (0, 0, 0)), (175, .bipush 116, 2, (0, 0, 0)), (177, .iconst 0, 1, (0, 0, 0)), (178, .iconst 0, 1, (0, 0, 0))]
theorem K182_6 : zRk 182 B182_6 = true := zRw_ok (by decide +kernel)
noncomputable def B182_7 : List zRow := [(183, .bipush 115, 2, (0, 0, 0)), (185, .bipush 110, 2, (0, 0, 0)), (187, .bipush 111, 2, (0, 0, 0)), (189, .bipush 119, 2, (0, 0, 0)), (191, .iconst 0, 1, (0, 0, 0)), (192, .iconst 0, 1, (0, 0, 0))]
theorem K182_7 : zRk 182 B182_7 = true := zRw_ok (by decide +kernel)
noncomputable def B182_8 : List zRow := [(197, .bipush 111, 2, (0, 0, 0)), (199, .bipush 119, 2, (0, 0, 0)), (201, .bipush 110, 2, (0, 0, 0)), (203, .bipush 115, 2, (0, 0, 0)), (205, .iconst 0, 1, (0, 0, 0)), (206, .iconst 0, 1, (0, 0, 0))]
theorem K182_8 : zRk 182 B182_8 = true := zRw_ok (by decide +kernel)
noncomputable def B182_9 : List zRow := [(211, .bipush 115, 2, (0, 0, 0)), (213, .bipush 97, 2, (0, 0, 0)), (215, .bipush 105, 2, (0, 0, 0)), (217, .bipush 100, 2, (0, 0, 0)), (219, .iconst 0, 1, (0, 0, 0)), (220, .iconst 0, 1, (0, 0, 0))]
theorem K182_9 : zRk 182 B182_9 = true := zRw_ok (by decide +kernel)
noncomputable def B182_10 : List zRow := [(225, .bipush 104, 2, (0, 0, 0)), (227, .bipush 101, 2, (0, 0, 0)), (229, .bipush 97, 2, (0, 0, 0)), (231, .bipush 114, 2, (0, 0, 0)), (233, .bipush 100, 2, (0, 0, 0)), (235, .iconst 0, 1, (0, 0, 0))]
theorem K182_10 : zRk 182 B182_10 = true := zRw_ok (by decide +kernel)
noncomputable def B182_11 : List zRow := [(240, .bipush 111, 2, (0, 0, 0)), (242, .bipush 114, 2, (0, 0, 0)), (244, .iconst 0, 1, (0, 0, 0)), (245, .iconst 0, 1, (0, 0, 0)), (246, .iconst 0, 1, (0, 0, 0)), (247, .iconst 0, 1, (0, 0, 0))]
theorem K182_11 : zRk 182 B182_11 = true := zRw_ok (by decide +kernel)
noncomputable def B182_12 : List zRow := [(252, .bipush 97, 2, (0, 0, 0)), (254, .bipush 110, 2, (0, 0, 0)), (256, .bipush 100, 2, (0, 0, 0)), (258, .iconst 0, 1, (0, 0, 0)), (259, .iconst 0, 1, (0, 0, 0)), (260, .iconst 0, 1, (0, 0, 0))]
theorem K182_12 : zRk 182 B182_12 = true := zRw_ok (by decide +kernel)
noncomputable def B182_13 : List zRow := [(265, .bipush 110, 2, (0, 0, 0)), (267, .bipush 111, 2, (0, 0, 0)), (269, .bipush 116, 2, (0, 0, 0)), (271, .iconst 0, 1, (0, 0, 0)), (272, .iconst 0, 1, (0, 0, 0)), (273, .iconst 0, 1, (0, 0, 0))]
theorem K182_13 : zRk 182 B182_13 = true := zRw_ok (by decide +kernel)
noncomputable def B182_14 : List zRow := [(278, .bipush 108, 2, (0, 0, 0)), (280, .bipush 111, 2, (0, 0, 0)), (282, .bipush 115, 2, (0, 0, 0)), (284, .bipush 116, 2, (0, 0, 0)), (286, .iconst 0, 1, (0, 0, 0)), (287, .iconst 0, 1, (0, 0, 0))]
theorem K182_14 : zRk 182 B182_14 = true := zRw_ok (by decide +kernel)
noncomputable def B182_15 : List zRow := [(292, .bipush 106, 2, (0, 0, 0)), (294, .bipush 111, 2, (0, 0, 0)), (296, .bipush 105, 2, (0, 0, 0)), (298, .bipush 110, 2, (0, 0, 0)), (300, .bipush 116, 2, (0, 0, 0)), (302, .iconst 0, 1, (0, 0, 0))]
theorem K182_15 : zRk 182 B182_15 = true := zRw_ok (by decide +kernel)
noncomputable def B182_16 : List zRow := [(307, .bipush 111, 2, (0, 0, 0)), (309, .bipush 102, 2, (0, 0, 0)), (311, .iconst 0, 1, (0, 0, 0)), (312, .iconst 0, 1, (0, 0, 0)), (313, .iconst 0, 1, (0, 0, 0)), (314, .iconst 0, 1, (0, 0, 0))]
theorem K182_16 : zRk 182 B182_16 = true := zRw_ok (by decide +kernel)
noncomputable def B182_17 : List zRow := [(319, .bipush 98, 2, (0, 0, 0)), (321, .bipush 121, 2, (0, 0, 0)), (323, .iconst 0, 1, (0, 0, 0)), (324, .iconst 0, 1, (0, 0, 0)), (325, .iconst 0, 1, (0, 0, 0)), (326, .iconst 0, 1, (0, 0, 0))]
theorem K182_17 : zRk 182 B182_17 = true := zRw_ok (by decide +kernel)
noncomputable def B182_18 : List zRow := [(331, .bipush 119, 2, (0, 0, 0)), (333, .bipush 111, 2, (0, 0, 0)), (335, .bipush 114, 2, (0, 0, 0)), (337, .bipush 116, 2, (0, 0, 0)), (339, .bipush 104, 2, (0, 0, 0)), (341, .iconst 0, 1, (0, 0, 0))]
theorem K182_18 : zRk 182 B182_18 = true := zRw_ok (by decide +kernel)
noncomputable def B182_19 : List zRow := [(346, .bipush 108, 2, (0, 0, 0)), (348, .bipush 111, 2, (0, 0, 0)), (350, .bipush 117, 2, (0, 0, 0)), (352, .bipush 100, 2, (0, 0, 0)), (354, .iconst 0, 1, (0, 0, 0)), (355, .iconst 0, 1, (0, 0, 0))]
theorem K182_19 : zRk 182 B182_19 = true := zRw_ok (by decide +kernel)
noncomputable def B182_20 : List zRow := [(360, .bipush 104, 2, (0, 0, 0)), (362, .bipush 111, 2, (0, 0, 0)), (364, .bipush 117, 2, (0, 0, 0)), (366, .bipush 114, 2, (0, 0, 0)), (368, .iconst 0, 1, (0, 0, 0)), (369, .iconst 0, 1, (0, 0, 0))]
theorem K182_20 : zRk 182 B182_20 = true := zRw_ok (by decide +kernel)
noncomputable def B182_21 : List zRow := [(374, .bipush 101, 2, (0, 0, 0)), (376, .bipush 99, 2, (0, 0, 0)), (378, .bipush 104, 2, (0, 0, 0)), (380, .bipush 111, 2, (0, 0, 0)), (382, .bipush 101, 2, (0, 0, 0)), (384, .bipush 115, 2, (0, 0, 0))]
theorem K182_21 : zRk 182 B182_21 = true := zRw_ok (by decide +kernel)
noncomputable def B181_0 : List zRow := [(24, .iconst 0, 1, (0, 0, 0))]
theorem K181_0 : zRk 181 B181_0 = true := zRw_ok (by decide +kernel)
noncomputable def B181_1 : List zRow := [(8, .aload_n 0, 1, (0, 0, 0)), (9, .getfield 120, 3, (12, 12, 1)), (12, .iload_n 1, 1, (0, 0, 0))]
theorem K181_1 : zRk 181 B181_1 = true := zRw_ok (by decide +kernel)
noncomputable def B181_2 : List zRow := [(20, .iconst 1, 1, (0, 0, 0)), (21, .goto 4, 3, (0, 0, 0))]
theorem K181_2 : zRk 181 B181_2 = true := zRw_ok (by decide +kernel)
noncomputable def B181_3 : List zRow := [(16, .lcmp, 1, (0, 0, 0)), (17, .ifCond .ne 7, 3, (0, 0, 0))]
theorem K181_3 : zRk 181 B181_3 = true := zRw_ok (by decide +kernel)
noncomputable def B181_4 : List zRow := [(0, .aload_n 0, 1, (0, 0, 0)), (1, .getfield 107, 3, (12, 7, 0)), (4, .iconst 2, 1, (0, 0, 0)), (5, .if_icmp .ne 19, 3, (0, 0, 0))]
theorem K181_4 : zRk 181 B181_4 = true := zRw_ok (by decide +kernel)
noncomputable def B185_0 : List zRow := [(13, .iload_n 1, 1, (0, 0, 0))]
theorem K185_0 : zRk 185 B185_0 = true := zRw_ok (by decide +kernel)
noncomputable def B185_1 : List zRow := [(9, .iconst 1, 1, (0, 0, 0)), (10, .goto 4, 3, (0, 0, 0))]
theorem K185_1 : zRk 185 B185_1 = true := zRw_ok (by decide +kernel)
noncomputable def B185_2 : List zRow := [(0, .aload_n 0, 1, (0, 0, 0)), (1, .aload_n 0, 1, (0, 0, 0)), (2, .getfield 107, 3, (12, 7, 0)), (5, .iconst 1, 1, (0, 0, 0)), (6, .if_icmp .ne 7, 3, (0, 0, 0))]
theorem K185_2 : zRk 185 B185_2 = true := zRw_ok (by decide +kernel)
noncomputable def B185_3 : List zRow := [(14, .putfield 142, 3, (12, 10, 0)), (17, .aload_n 0, 1, (0, 0, 0)), (18, .aload_n 0, 1, (0, 0, 0)), (19, .getfield 101, 3, (12, 6, 0)), (22, .putfield 145, 3, (12, 11, 0)), (25, .iconst 0, 1, (0, 0, 0))]
theorem K185_3 : zRk 185 B185_3 = true := zRw_ok (by decide +kernel)
noncomputable def B188_0 : List zRow := [(14, .iconst 0, 1, (0, 0, 0))]
theorem K188_0 : zRk 188 B188_0 = true := zRw_ok (by decide +kernel)
noncomputable def B188_1 : List zRow := [(10, .iconst 1, 1, (0, 0, 0)), (11, .goto 4, 3, (0, 0, 0))]
theorem K188_1 : zRk 188 B188_1 = true := zRw_ok (by decide +kernel)
noncomputable def B188_2 : List zRow := [(5, .iload_n 0, 1, (0, 0, 0)), (6, .iload_n 2, 1, (0, 0, 0)), (7, .if_icmp .gt 7, 3, (0, 0, 0))]
theorem K188_2 : zRk 188 B188_2 = true := zRw_ok (by decide +kernel)
noncomputable def B188_3 : List zRow := [(0, .iload_n 0, 1, (0, 0, 0)), (1, .iload_n 1, 1, (0, 0, 0)), (2, .if_icmp .lt 12, 3, (0, 0, 0))]
theorem K188_3 : zRk 188 B188_3 = true := zRw_ok (by decide +kernel)
noncomputable def B187_0 : List zRow := [(14, .aload_n 0, 1, (0, 0, 0)), (15, .getfield 124, 3, (12, 8, 0)), (18, .iload_n 1, 1, (0, 0, 0)), (19, .iload_n 2, 1, (0, 0, 0))]
theorem K187_0 : zRk 187 B187_0 = true := zRw_ok (by decide +kernel)
noncomputable def B187_1 : List zRow := [(32, .aload_n 0, 1, (0, 0, 0)), (33, .aload_n 0, 1, (0, 0, 0)), (34, .getfield 124, 3, (12, 8, 0)), (37, .putfield 155, 3, (12, 13, 0)), (40, .iconst 1, 1, (0, 0, 0))]
theorem K187_1 : zRk 187 B187_1 = true := zRw_ok (by decide +kernel)
noncomputable def B187_2 : List zRow := [(26, .aload_n 0, 1, (0, 0, 0)), (27, .iconst 2, 1, (0, 0, 0))]
theorem K187_2 : zRk 187 B187_2 = true := zRw_ok (by decide +kernel)
noncomputable def B187_3 : List zRow := [(23, .ifCond .ne 9, 3, (0, 0, 0))]
theorem K187_3 : zRk 187 B187_3 = true := zRw_ok (by decide +kernel)
noncomputable def B187_4 : List zRow := [(8, .aload_n 0, 1, (0, 0, 0)), (9, .iconst 1, 1, (0, 0, 0))]
theorem K187_4 : zRk 187 B187_4 = true := zRw_ok (by decide +kernel)
noncomputable def B187_5 : List zRow := [(0, .aload_n 0, 1, (0, 0, 0)), (1, .getfield 107, 3, (12, 7, 0)), (4, .iconst 3, 1, (0, 0, 0)), (5, .if_icmp .eq 9, 3, (0, 0, 0))]
theorem K187_5 : zRk 187 B187_5 = true := zRw_ok (by decide +kernel)
noncomputable def B186_0 : List zRow := [(0, .aload_n 0, 1, (0, 0, 0)), (1, .iload_n 1, 1, (0, 0, 0)), (2, .iload_n 2, 1, (0, 0, 0))]
theorem K186_0 : zRk 186 B186_0 = true := zRw_ok (by decide +kernel)
noncomputable def B186_1 : List zRow := [(11, .aload_n 0, 1, (0, 0, 0))]
theorem K186_1 : zRk 186 B186_1 = true := zRw_ok (by decide +kernel)
noncomputable def B186_2 : List zRow := [(15, .iconst 1, 1, (0, 0, 0))]
theorem K186_2 : zRk 186 B186_2 = true := zRw_ok (by decide +kernel)
noncomputable def B186_3 : List zRow := [(9, .iconst 0, 1, (0, 0, 0))]
theorem K186_3 : zRk 186 B186_3 = true := zRw_ok (by decide +kernel)
noncomputable def B186_4 : List zRow := [(6, .ifCond .ne 5, 3, (0, 0, 0))]
theorem K186_4 : zRk 186 B186_4 = true := zRw_ok (by decide +kernel)
noncomputable def B200_0 : List zRow := [(20, .aload_n 0, 1, (0, 0, 0))]
theorem K200_0 : zRk 200 B200_0 = true := zRw_ok (by decide +kernel)
noncomputable def B200_1 : List zRow := [(24, .aload_n 0, 1, (0, 0, 0)), (25, .iconst 0, 1, (0, 0, 0)), (26, .sipush 200, 3, (0, 0, 0))]
theorem K200_1 : zRk 200 B200_1 = true := zRw_ok (by decide +kernel)
noncomputable def B200_2 : List zRow := [(37, .iconst 0, 1, (0, 0, 0)), (38, .istore_n 2, 1, (0, 0, 0))]
theorem K200_2 : zRk 200 B200_2 = true := zRw_ok (by decide +kernel)
noncomputable def B200_3 : List zRow := [(35, .iconst 0, 1, (0, 0, 0))]
theorem K200_3 : zRk 200 B200_3 = true := zRw_ok (by decide +kernel)
noncomputable def B200_4 : List zRow := [(32, .ifCond .ne 5, 3, (0, 0, 0))]
theorem K200_4 : zRk 200 B200_4 = true := zRw_ok (by decide +kernel)
noncomputable def B200_5 : List zRow := [(14, .aload_n 0, 1, (0, 0, 0)), (15, .iconst 4, 1, (0, 0, 0))]
theorem K200_5 : zRk 200 B200_5 = true := zRw_ok (by decide +kernel)
noncomputable def B200_6 : List zRow := [(0, .aload_n 0, 1, (0, 0, 0)), (1, .getfield 16, 3, (12, 15, 5243718)), (4, .bipush 6, 2, (0, 0, 0)), (6, .iaload, 1, (0, 0, 0)), (7, .istore_n 1, 1, (0, 0, 0)), (8, .iload_n 1, 1, (0, 0, 0)), (9, .bipush 6, 2, (0, 0, 0)), (11, .if_icmp .ne 9, 3, (0, 0, 0))]
theorem K200_6 : zRk 200 B200_6 = true := zRw_ok (by decide +kernel)
noncomputable def B200_7 : List zRow := [(75, .aload_n 0, 1, (0, 0, 0)), (76, .getfield 16, 3, (12, 15, 5243718)), (79, .sipush 197, 3, (0, 0, 0)), (82, .iconst 2, 1, (0, 0, 0)), (83, .iload_n 1, 1, (0, 0, 0))]
theorem K200_7 : zRk 200 B200_7 = true := zRw_ok (by decide +kernel)
noncomputable def B200_8 : List zRow := [(84, .imul, 1, (0, 0, 0))]
theorem K200_8 : zRk 200 B200_8 = true := zRw_ok (by decide +kernel)
noncomputable def B200_9 : List zRow := [(85, .iadd, 1, (0, 0, 0)), (86, .aload_n 0, 1, (0, 0, 0)), (87, .getfield 155, 3, (12, 13, 0)), (90, .iastore, 1, (0, 0, 0)), (91, .aload_n 0, 1, (0, 0, 0))]
theorem K200_9 : zRk 200 B200_9 = true := zRw_ok (by decide +kernel)
noncomputable def B200_10 : List zRow := [(95, .aload_n 0, 1, (0, 0, 0)), (96, .iconst 0, 1, (0, 0, 0)), (97, .bipush 9, 2, (0, 0, 0))]
theorem K200_10 : zRk 200 B200_10 = true := zRw_ok (by decide +kernel)
noncomputable def B200_11 : List zRow := [(107, .aload_n 0, 1, (0, 0, 0)), (108, .getfield 16, 3, (12, 15, 5243718)), (111, .sipush 197, 3, (0, 0, 0)), (114, .iconst 2, 1, (0, 0, 0)), (115, .iload_n 1, 1, (0, 0, 0))]
theorem K200_11 : zRk 200 B200_11 = true := zRw_ok (by decide +kernel)
noncomputable def B200_12 : List zRow := [(116, .imul, 1, (0, 0, 0))]
theorem K200_12 : zRk 200 B200_12 = true := zRw_ok (by decide +kernel)
noncomputable def B200_13 : List zRow := [(117, .iadd, 1, (0, 0, 0)), (118, .iconst 1, 1, (0, 0, 0)), (119, .iadd, 1, (0, 0, 0)), (120, .aload_n 0, 1, (0, 0, 0)), (121, .getfield 155, 3, (12, 13, 0)), (124, .iastore, 1, (0, 0, 0)), (125, .aload_n 0, 1, (0, 0, 0)), (126, .getfield 16, 3, (12, 15, 5243718)), (129, .bipush 6, 2, (0, 0, 0)), (131, .dup2, 1, (0, 0, 0)), (132, .iaload, 1, (0, 0, 0)), (133, .iconst 1, 1, (0, 0, 0)), (134, .iadd, 1, (0, 0, 0)), (135, .iastore, 1, (0, 0, 0)), (136, .iconst 1, 1, (0, 0, 0))]
theorem K200_13 : zRk 200 B200_13 = true := zRw_ok (by decide +kernel)
noncomputable def B200_14 : List zRow := [(105, .iconst 0, 1, (0, 0, 0))]
theorem K200_14 : zRk 200 B200_14 = true := zRw_ok (by decide +kernel)
noncomputable def B200_15 : List zRow := [(102, .ifCond .ne 5, 3, (0, 0, 0))]
theorem K200_15 : zRk 200 B200_15 = true := zRw_ok (by decide +kernel)
noncomputable def B200_16 : List zRow := [(44, .aload_n 0, 1, (0, 0, 0)), (45, .getfield 16, 3, (12, 15, 5243718)), (48, .sipush 197, 3, (0, 0, 0)), (51, .iconst 2, 1, (0, 0, 0)), (52, .iload_n 2, 1, (0, 0, 0))]
theorem K200_16 : zRk 200 B200_16 = true := zRw_ok (by decide +kernel)
noncomputable def B200_17 : List zRow := [(53, .imul, 1, (0, 0, 0))]
theorem K200_17 : zRk 200 B200_17 = true := zRw_ok (by decide +kernel)
noncomputable def B200_18 : List zRow := [(69, .iinc 2 1, 3, (0, 0, 0)), (72, .goto (-33), 3, (0, 0, 0))]
theorem K200_18 : zRk 200 B200_18 = true := zRw_ok (by decide +kernel)
noncomputable def B200_19 : List zRow := [(63, .aload_n 0, 1, (0, 0, 0)), (64, .iconst 3, 1, (0, 0, 0))]
theorem K200_19 : zRk 200 B200_19 = true := zRw_ok (by decide +kernel)
noncomputable def B200_20 : List zRow := [(54, .iadd, 1, (0, 0, 0)), (55, .iaload, 1, (0, 0, 0)), (56, .aload_n 0, 1, (0, 0, 0)), (57, .getfield 155, 3, (12, 13, 0)), (60, .if_icmp .ne 9, 3, (0, 0, 0))]
theorem K200_20 : zRk 200 B200_20 = true := zRw_ok (by decide +kernel)
noncomputable def B200_21 : List zRow := [(39, .iload_n 2, 1, (0, 0, 0)), (40, .iload_n 1, 1, (0, 0, 0)), (41, .if_icmp .ge 34, 3, (0, 0, 0))]
theorem K200_21 : zRk 200 B200_21 = true := zRw_ok (by decide +kernel)
noncomputable def B193_0 : List zRow := [(0, .aload_n 0, 1, (0, 0, 0)), (1, .iconst 0, 1, (0, 0, 0)), (2, .aload_n 0, 1, (0, 0, 0)), (3, .getfield 16, 3, (12, 15, 5243718)), (6, .iconst 0, 1, (0, 0, 0)), (7, .iaload, 1, (0, 0, 0)), (8, .iconst 1, 1, (0, 0, 0)), (9, .isub, 1, (0, 0, 0))]
theorem K193_0 : zRk 193 B193_0 = true := zRw_ok (by decide +kernel)
noncomputable def B193_1 : List zRow := [(18, .aload_n 0, 1, (0, 0, 0)), (19, .getfield 155, 3, (12, 13, 0)), (22, .istore_n 1, 1, (0, 0, 0)), (23, .aload_n 0, 1, (0, 0, 0)), (24, .iconst 0, 1, (0, 0, 0)), (25, .aload_n 0, 1, (0, 0, 0)), (26, .getfield 16, 3, (12, 15, 5243718)), (29, .iconst 1, 1, (0, 0, 0)), (30, .iaload, 1, (0, 0, 0)), (31, .iconst 1, 1, (0, 0, 0)), (32, .isub, 1, (0, 0, 0))]
theorem K193_1 : zRk 193 B193_1 = true := zRw_ok (by decide +kernel)
noncomputable def B193_2 : List zRow := [(41, .aload_n 0, 1, (0, 0, 0)), (42, .bipush 10, 2, (0, 0, 0)), (44, .aload_n 0, 1, (0, 0, 0)), (45, .getfield 155, 3, (12, 13, 0))]
theorem K193_2 : zRk 193 B193_2 = true := zRw_ok (by decide +kernel)
noncomputable def B193_3 : List zRow := [(48, .imul, 1, (0, 0, 0)), (49, .iload_n 1, 1, (0, 0, 0)), (50, .iadd, 1, (0, 0, 0)), (51, .putfield 155, 3, (12, 13, 0)), (54, .iconst 1, 1, (0, 0, 0))]
theorem K193_3 : zRk 193 B193_3 = true := zRw_ok (by decide +kernel)
noncomputable def B193_4 : List zRow := [(39, .iconst 0, 1, (0, 0, 0))]
theorem K193_4 : zRk 193 B193_4 = true := zRw_ok (by decide +kernel)
noncomputable def B193_5 : List zRow := [(36, .ifCond .ne 5, 3, (0, 0, 0))]
theorem K193_5 : zRk 193 B193_5 = true := zRw_ok (by decide +kernel)
noncomputable def B193_6 : List zRow := [(16, .iconst 0, 1, (0, 0, 0))]
theorem K193_6 : zRk 193 B193_6 = true := zRw_ok (by decide +kernel)
noncomputable def B193_7 : List zRow := [(13, .ifCond .ne 5, 3, (0, 0, 0))]
theorem K193_7 : zRk 193 B193_7 = true := zRw_ok (by decide +kernel)
noncomputable def B199_0 : List zRow := [(17, .aload_n 0, 1, (0, 0, 0))]
theorem K199_0 : zRk 199 B199_0 = true := zRw_ok (by decide +kernel)
noncomputable def B199_1 : List zRow := [(21, .aload_n 0, 1, (0, 0, 0))]
theorem K199_1 : zRk 199 B199_1 = true := zRw_ok (by decide +kernel)
noncomputable def B199_2 : List zRow := [(30, .aload_n 0, 1, (0, 0, 0)), (31, .getfield 16, 3, (12, 15, 5243718)), (34, .bipush 97, 2, (0, 0, 0)), (36, .aload_n 0, 1, (0, 0, 0)), (37, .getfield 155, 3, (12, 13, 0))]
theorem K199_2 : zRk 199 B199_2 = true := zRw_ok (by decide +kernel)
noncomputable def B199_3 : List zRow := [(51, .aload_n 0, 1, (0, 0, 0)), (52, .getfield 16, 3, (12, 15, 5243718)), (55, .bipush 97, 2, (0, 0, 0)), (57, .aload_n 0, 1, (0, 0, 0)), (58, .getfield 155, 3, (12, 13, 0))]
theorem K199_3 : zRk 199 B199_3 = true := zRw_ok (by decide +kernel)
noncomputable def B199_4 : List zRow := [(61, .iadd, 1, (0, 0, 0)), (62, .iconst 1, 1, (0, 0, 0)), (63, .iastore, 1, (0, 0, 0)), (64, .aload_n 0, 1, (0, 0, 0)), (65, .getfield 16, 3, (12, 15, 5243718)), (68, .iconst 5, 1, (0, 0, 0)), (69, .dup2, 1, (0, 0, 0)), (70, .iaload, 1, (0, 0, 0)), (71, .iconst 1, 1, (0, 0, 0)), (72, .iadd, 1, (0, 0, 0)), (73, .iastore, 1, (0, 0, 0)), (74, .aload_n 0, 1, (0, 0, 0))]
theorem K199_4 : zRk 199 B199_4 = true := zRw_ok (by decide +kernel)
noncomputable def B199_5 : List zRow := [(78, .iconst 1, 1, (0, 0, 0))]
theorem K199_5 : zRk 199 B199_5 = true := zRw_ok (by decide +kernel)
noncomputable def B199_6 : List zRow := [(45, .aload_n 0, 1, (0, 0, 0)), (46, .iconst 3, 1, (0, 0, 0))]
theorem K199_6 : zRk 199 B199_6 = true := zRw_ok (by decide +kernel)
noncomputable def B199_7 : List zRow := [(40, .iadd, 1, (0, 0, 0)), (41, .iaload, 1, (0, 0, 0)), (42, .ifCond .le 9, 3, (0, 0, 0))]
theorem K199_7 : zRk 199 B199_7 = true := zRw_ok (by decide +kernel)
noncomputable def B199_8 : List zRow := [(28, .iconst 0, 1, (0, 0, 0))]
theorem K199_8 : zRk 199 B199_8 = true := zRw_ok (by decide +kernel)
noncomputable def B199_9 : List zRow := [(25, .ifCond .ne 5, 3, (0, 0, 0))]
theorem K199_9 : zRk 199 B199_9 = true := zRw_ok (by decide +kernel)
noncomputable def B199_10 : List zRow := [(11, .aload_n 0, 1, (0, 0, 0)), (12, .iconst 4, 1, (0, 0, 0))]
theorem K199_10 : zRk 199 B199_10 = true := zRw_ok (by decide +kernel)
noncomputable def B199_11 : List zRow := [(0, .aload_n 0, 1, (0, 0, 0)), (1, .getfield 16, 3, (12, 15, 5243718)), (4, .iconst 5, 1, (0, 0, 0)), (5, .iaload, 1, (0, 0, 0)), (6, .bipush 8, 2, (0, 0, 0)), (8, .if_icmp .ne 9, 3, (0, 0, 0))]
theorem K199_11 : zRk 199 B199_11 = true := zRw_ok (by decide +kernel)
noncomputable def B191_0 : List zRow := [(10, .iconst 0, 1, (0, 0, 0)), (11, .istore_n 1, 1, (0, 0, 0))]
theorem K191_0 : zRk 191 B191_0 = true := zRw_ok (by decide +kernel)
noncomputable def B191_1 : List zRow := [(8, .iconst 0, 1, (0, 0, 0))]
theorem K191_1 : zRk 191 B191_1 = true := zRw_ok (by decide +kernel)
noncomputable def B191_2 : List zRow := [(0, .aload_n 0, 1, (0, 0, 0)), (1, .getfield 107, 3, (12, 7, 0)), (4, .iconst 2, 1, (0, 0, 0)), (5, .if_icmp .eq 5, 3, (0, 0, 0))]
theorem K191_2 : zRk 191 B191_2 = true := zRw_ok (by decide +kernel)
noncomputable def B191_3 : List zRow := [(38, .iconst 1, 1, (0, 0, 0))]
theorem K191_3 : zRk 191 B191_3 = true := zRw_ok (by decide +kernel)
noncomputable def B191_4 : List zRow := [(18, .aload_n 0, 1, (0, 0, 0)), (19, .getfield 120, 3, (12, 12, 1)), (22, .iload_n 1, 1, (0, 0, 0))]
theorem K191_4 : zRk 191 B191_4 = true := zRw_ok (by decide +kernel)
noncomputable def B191_5 : List zRow := [(32, .iinc 1 1, 3, (0, 0, 0)), (35, .goto (-23), 3, (0, 0, 0))]
theorem K191_5 : zRk 191 B191_5 = true := zRw_ok (by decide +kernel)
noncomputable def B191_6 : List zRow := [(30, .iconst 0, 1, (0, 0, 0))]
theorem K191_6 : zRk 191 B191_6 = true := zRw_ok (by decide +kernel)
noncomputable def B191_7 : List zRow := [(26, .lcmp, 1, (0, 0, 0)), (27, .ifCond .ne 5, 3, (0, 0, 0))]
theorem K191_7 : zRk 191 B191_7 = true := zRw_ok (by decide +kernel)
noncomputable def B191_8 : List zRow := [(12, .iload_n 1, 1, (0, 0, 0)), (13, .bipush 20, 2, (0, 0, 0)), (15, .if_icmp .gt 23, 3, (0, 0, 0))]
theorem K191_8 : zRk 191 B191_8 = true := zRw_ok (by decide +kernel)
noncomputable def B192_0 : List zRow := [(0, .iconst 0, 1, (0, 0, 0)), (1, .istore 5, 2, (0, 0, 0))]
theorem K192_0 : zRk 192 B192_0 = true := zRw_ok (by decide +kernel)
noncomputable def B192_1 : List zRow := [(29, .iconst (-1), 1, (0, 0, 0))]
theorem K192_1 : zRk 192 B192_1 = true := zRw_ok (by decide +kernel)
noncomputable def B192_2 : List zRow := [(23, .iinc 5 1, 3, (0, 0, 0)), (26, .goto (-23), 3, (0, 0, 0))]
theorem K192_2 : zRk 192 B192_2 = true := zRw_ok (by decide +kernel)
noncomputable def B192_3 : List zRow := [(20, .iload 5, 2, (0, 0, 0))]
theorem K192_3 : zRk 192 B192_3 = true := zRw_ok (by decide +kernel)
noncomputable def B192_4 : List zRow := [(9, .aload_n 0, 1, (0, 0, 0)), (10, .iload_n 1, 1, (0, 0, 0)), (11, .iload 5, 2, (0, 0, 0)), (13, .iadd, 1, (0, 0, 0)), (14, .laload, 1, (0, 0, 0)), (15, .lload_n 3, 1, (0, 0, 0)), (16, .lcmp, 1, (0, 0, 0)), (17, .ifCond .ne 6, 3, (0, 0, 0))]
theorem K192_4 : zRk 192 B192_4 = true := zRw_ok (by decide +kernel)
noncomputable def B192_5 : List zRow := [(3, .iload 5, 2, (0, 0, 0)), (5, .iload_n 2, 1, (0, 0, 0)), (6, .if_icmp .ge 23, 3, (0, 0, 0))]
theorem K192_5 : zRk 192 B192_5 = true := zRw_ok (by decide +kernel)
noncomputable def B197_0 : List zRow := [(0, .aload_n 0, 1, (0, 0, 0))]
theorem K197_0 : zRk 197 B197_0 = true := zRw_ok (by decide +kernel)
noncomputable def B197_1 : List zRow := [(13, .aload_n 0, 1, (0, 0, 0)), (14, .aload_n 0, 1, (0, 0, 0)), (15, .getfield 32, 3, (12, 20, 5505074)), (18, .bipush 6, 2, (0, 0, 0)), (20, .aload_n 0, 1, (0, 0, 0)), (21, .getfield 16, 3, (12, 15, 5243718)), (24, .iconst 3, 1, (0, 0, 0)), (25, .iaload, 1, (0, 0, 0)), (26, .aload_n 0, 1, (0, 0, 0)), (27, .getfield 120, 3, (12, 12, 1))]
theorem K197_1 : zRk 197 B197_1 = true := zRw_ok (by decide +kernel)
noncomputable def B197_2 : List zRow := [(44, .aload_n 0, 1, (0, 0, 0)), (45, .iconst 3, 1, (0, 0, 0))]
theorem K197_2 : zRk 197 B197_2 = true := zRw_ok (by decide +kernel)
noncomputable def B197_3 : List zRow := [(56, .iconst 0, 1, (0, 0, 0))]
theorem K197_3 : zRk 197 B197_3 = true := zRw_ok (by decide +kernel)
noncomputable def B197_4 : List zRow := [(49, .ifCond .eq 7, 3, (0, 0, 0))]
theorem K197_4 : zRk 197 B197_4 = true := zRw_ok (by decide +kernel)
noncomputable def B197_5 : List zRow := [(33, .putfield 155, 3, (12, 13, 0)), (36, .aload_n 0, 1, (0, 0, 0)), (37, .getfield 155, 3, (12, 13, 0)), (40, .iconst (-1), 1, (0, 0, 0)), (41, .if_icmp .ne 11, 3, (0, 0, 0))]
theorem K197_5 : zRk 197 B197_5 = true := zRw_ok (by decide +kernel)
noncomputable def B197_6 : List zRow := [(7, .aload_n 0, 1, (0, 0, 0)), (8, .iconst 1, 1, (0, 0, 0))]
theorem K197_6 : zRk 197 B197_6 = true := zRw_ok (by decide +kernel)
noncomputable def B197_7 : List zRow := [(4, .ifCond .ne 9, 3, (0, 0, 0))]
theorem K197_7 : zRk 197 B197_7 = true := zRw_ok (by decide +kernel)
noncomputable def B197_8 : List zRow := [(52, .iconst 1, 1, (0, 0, 0)), (53, .goto 4, 3, (0, 0, 0))]
theorem K197_8 : zRk 197 B197_8 = true := zRw_ok (by decide +kernel)
noncomputable def B195_0 : List zRow := [(0, .aload_n 0, 1, (0, 0, 0))]
theorem K195_0 : zRk 195 B195_0 = true := zRw_ok (by decide +kernel)
noncomputable def B195_1 : List zRow := [(9, .aload_n 0, 1, (0, 0, 0))]
theorem K195_1 : zRk 195 B195_1 = true := zRw_ok (by decide +kernel)
noncomputable def B195_2 : List zRow := [(13, .iconst 1, 1, (0, 0, 0))]
theorem K195_2 : zRk 195 B195_2 = true := zRw_ok (by decide +kernel)
noncomputable def B195_3 : List zRow := [(7, .iconst 0, 1, (0, 0, 0))]
theorem K195_3 : zRk 195 B195_3 = true := zRw_ok (by decide +kernel)
noncomputable def B195_4 : List zRow := [(4, .ifCond .ne 5, 3, (0, 0, 0))]
theorem K195_4 : zRk 195 B195_4 = true := zRw_ok (by decide +kernel)
noncomputable def B198_0 : List zRow := [(0, .aload_n 0, 1, (0, 0, 0))]
theorem K198_0 : zRk 198 B198_0 = true := zRw_ok (by decide +kernel)
noncomputable def B198_1 : List zRow := [(4, .aload_n 0, 1, (0, 0, 0))]
theorem K198_1 : zRk 198 B198_1 = true := zRw_ok (by decide +kernel)
noncomputable def B198_2 : List zRow := [(13, .aload_n 0, 1, (0, 0, 0)), (14, .getfield 155, 3, (12, 13, 0)), (17, .istore_n 1, 1, (0, 0, 0)), (18, .aload_n 0, 1, (0, 0, 0)), (19, .getfield 16, 3, (12, 15, 5243718)), (22, .bipush 25, 2, (0, 0, 0)), (24, .iconst 2, 1, (0, 0, 0)), (25, .iload_n 1, 1, (0, 0, 0))]
theorem K198_2 : zRk 198 B198_2 = true := zRw_ok (by decide +kernel)
noncomputable def B198_3 : List zRow := [(26, .imul, 1, (0, 0, 0))]
theorem K198_3 : zRk 198 B198_3 = true := zRw_ok (by decide +kernel)
noncomputable def B198_4 : List zRow := [(41, .aload_n 0, 1, (0, 0, 0))]
theorem K198_4 : zRk 198 B198_4 = true := zRw_ok (by decide +kernel)
noncomputable def B198_5 : List zRow := [(45, .aload_n 0, 1, (0, 0, 0))]
theorem K198_5 : zRk 198 B198_5 = true := zRw_ok (by decide +kernel)
noncomputable def B198_6 : List zRow := [(54, .aload_n 0, 1, (0, 0, 0)), (55, .getfield 16, 3, (12, 15, 5243718)), (58, .bipush 25, 2, (0, 0, 0)), (60, .iconst 2, 1, (0, 0, 0)), (61, .iload_n 1, 1, (0, 0, 0))]
theorem K198_6 : zRk 198 B198_6 = true := zRw_ok (by decide +kernel)
noncomputable def B198_7 : List zRow := [(62, .imul, 1, (0, 0, 0))]
theorem K198_7 : zRk 198 B198_7 = true := zRw_ok (by decide +kernel)
noncomputable def B198_8 : List zRow := [(63, .iadd, 1, (0, 0, 0)), (64, .iconst 1, 1, (0, 0, 0)), (65, .iadd, 1, (0, 0, 0)), (66, .aload_n 0, 1, (0, 0, 0)), (67, .getfield 155, 3, (12, 13, 0)), (70, .iastore, 1, (0, 0, 0)), (71, .iconst 1, 1, (0, 0, 0))]
theorem K198_8 : zRk 198 B198_8 = true := zRw_ok (by decide +kernel)
noncomputable def B198_9 : List zRow := [(52, .iconst 0, 1, (0, 0, 0))]
theorem K198_9 : zRk 198 B198_9 = true := zRw_ok (by decide +kernel)
noncomputable def B198_10 : List zRow := [(49, .ifCond .ne 5, 3, (0, 0, 0))]
theorem K198_10 : zRk 198 B198_10 = true := zRw_ok (by decide +kernel)
noncomputable def B198_11 : List zRow := [(35, .aload_n 0, 1, (0, 0, 0)), (36, .iconst 3, 1, (0, 0, 0))]
theorem K198_11 : zRk 198 B198_11 = true := zRw_ok (by decide +kernel)
noncomputable def B198_12 : List zRow := [(27, .iadd, 1, (0, 0, 0)), (28, .iconst 1, 1, (0, 0, 0)), (29, .iadd, 1, (0, 0, 0)), (30, .iaload, 1, (0, 0, 0)), (31, .iconst (-1), 1, (0, 0, 0)), (32, .if_icmp .eq 9, 3, (0, 0, 0))]
theorem K198_12 : zRk 198 B198_12 = true := zRw_ok (by decide +kernel)
noncomputable def B198_13 : List zRow := [(11, .iconst 0, 1, (0, 0, 0))]
theorem K198_13 : zRk 198 B198_13 = true := zRw_ok (by decide +kernel)
noncomputable def B198_14 : List zRow := [(8, .ifCond .ne 5, 3, (0, 0, 0))]
theorem K198_14 : zRk 198 B198_14 = true := zRw_ok (by decide +kernel)
noncomputable def B196_0 : List zRow := [(19, .aload_n 0, 1, (0, 0, 0))]
theorem K196_0 : zRk 196 B196_0 = true := zRw_ok (by decide +kernel)
noncomputable def B196_1 : List zRow := [(23, .aload_n 0, 1, (0, 0, 0))]
theorem K196_1 : zRk 196 B196_1 = true := zRw_ok (by decide +kernel)
noncomputable def B196_2 : List zRow := [(32, .aload_n 0, 1, (0, 0, 0)), (33, .getfield 16, 3, (12, 15, 5243718)), (36, .bipush 37, 2, (0, 0, 0)), (38, .iconst 3, 1, (0, 0, 0)), (39, .iload_n 1, 1, (0, 0, 0))]
theorem K196_2 : zRk 196 B196_2 = true := zRw_ok (by decide +kernel)
noncomputable def B196_3 : List zRow := [(40, .imul, 1, (0, 0, 0))]
theorem K196_3 : zRk 196 B196_3 = true := zRw_ok (by decide +kernel)
noncomputable def B196_4 : List zRow := [(41, .iadd, 1, (0, 0, 0)), (42, .aload_n 0, 1, (0, 0, 0)), (43, .getfield 155, 3, (12, 13, 0)), (46, .iastore, 1, (0, 0, 0)), (47, .aload_n 0, 1, (0, 0, 0))]
theorem K196_4 : zRk 196 B196_4 = true := zRw_ok (by decide +kernel)
noncomputable def B196_5 : List zRow := [(51, .aload_n 0, 1, (0, 0, 0)), (52, .iconst 1, 1, (0, 0, 0)), (53, .sipush 200, 3, (0, 0, 0))]
theorem K196_5 : zRk 196 B196_5 = true := zRw_ok (by decide +kernel)
noncomputable def B196_6 : List zRow := [(64, .iconst 0, 1, (0, 0, 0)), (65, .istore_n 2, 1, (0, 0, 0))]
theorem K196_6 : zRk 196 B196_6 = true := zRw_ok (by decide +kernel)
noncomputable def B196_7 : List zRow := [(62, .iconst 0, 1, (0, 0, 0))]
theorem K196_7 : zRk 196 B196_7 = true := zRw_ok (by decide +kernel)
noncomputable def B196_8 : List zRow := [(59, .ifCond .ne 5, 3, (0, 0, 0))]
theorem K196_8 : zRk 196 B196_8 = true := zRw_ok (by decide +kernel)
noncomputable def B196_9 : List zRow := [(30, .iconst 0, 1, (0, 0, 0))]
theorem K196_9 : zRk 196 B196_9 = true := zRw_ok (by decide +kernel)
noncomputable def B196_10 : List zRow := [(27, .ifCond .ne 5, 3, (0, 0, 0))]
theorem K196_10 : zRk 196 B196_10 = true := zRw_ok (by decide +kernel)
noncomputable def B196_11 : List zRow := [(13, .aload_n 0, 1, (0, 0, 0)), (14, .iconst 4, 1, (0, 0, 0))]
theorem K196_11 : zRk 196 B196_11 = true := zRw_ok (by decide +kernel)
noncomputable def B196_12 : List zRow := [(0, .aload_n 0, 1, (0, 0, 0)), (1, .getfield 16, 3, (12, 15, 5243718)), (4, .iconst 4, 1, (0, 0, 0)), (5, .iaload, 1, (0, 0, 0)), (6, .istore_n 1, 1, (0, 0, 0)), (7, .iload_n 1, 1, (0, 0, 0)), (8, .bipush 20, 2, (0, 0, 0)), (10, .if_icmp .ne 9, 3, (0, 0, 0))]
theorem K196_12 : zRk 196 B196_12 = true := zRw_ok (by decide +kernel)
noncomputable def B196_13 : List zRow := [(128, .aload_n 0, 1, (0, 0, 0)), (129, .getfield 16, 3, (12, 15, 5243718)), (132, .bipush 37, 2, (0, 0, 0)), (134, .iconst 3, 1, (0, 0, 0)), (135, .iload_n 1, 1, (0, 0, 0))]
theorem K196_13 : zRk 196 B196_13 = true := zRw_ok (by decide +kernel)
noncomputable def B196_14 : List zRow := [(136, .imul, 1, (0, 0, 0))]
theorem K196_14 : zRk 196 B196_14 = true := zRw_ok (by decide +kernel)
noncomputable def B196_15 : List zRow := [(137, .iadd, 1, (0, 0, 0)), (138, .iconst 1, 1, (0, 0, 0)), (139, .iadd, 1, (0, 0, 0)), (140, .aload_n 0, 1, (0, 0, 0)), (141, .getfield 155, 3, (12, 13, 0)), (144, .iastore, 1, (0, 0, 0)), (145, .aload_n 0, 1, (0, 0, 0))]
theorem K196_15 : zRk 196 B196_15 = true := zRw_ok (by decide +kernel)
noncomputable def B196_16 : List zRow := [(149, .aload_n 0, 1, (0, 0, 0))]
theorem K196_16 : zRk 196 B196_16 = true := zRw_ok (by decide +kernel)
noncomputable def B196_17 : List zRow := [(158, .aload_n 0, 1, (0, 0, 0)), (159, .getfield 16, 3, (12, 15, 5243718)), (162, .bipush 37, 2, (0, 0, 0)), (164, .iconst 3, 1, (0, 0, 0)), (165, .iload_n 1, 1, (0, 0, 0))]
theorem K196_17 : zRk 196 B196_17 = true := zRw_ok (by decide +kernel)
noncomputable def B196_18 : List zRow := [(166, .imul, 1, (0, 0, 0))]
theorem K196_18 : zRk 196 B196_18 = true := zRw_ok (by decide +kernel)
noncomputable def B196_19 : List zRow := [(167, .iadd, 1, (0, 0, 0)), (168, .iconst 2, 1, (0, 0, 0)), (169, .iadd, 1, (0, 0, 0)), (170, .aload_n 0, 1, (0, 0, 0)), (171, .getfield 155, 3, (12, 13, 0)), (174, .iastore, 1, (0, 0, 0)), (175, .aload_n 0, 1, (0, 0, 0)), (176, .getfield 16, 3, (12, 15, 5243718)), (179, .iconst 4, 1, (0, 0, 0)), (180, .dup2, 1, (0, 0, 0)), (181, .iaload, 1, (0, 0, 0)), (182, .iconst 1, 1, (0, 0, 0)), (183, .iadd, 1, (0, 0, 0)), (184, .iastore, 1, (0, 0, 0)), (185, .iconst 1, 1, (0, 0, 0))]
theorem K196_19 : zRk 196 B196_19 = true := zRw_ok (by decide +kernel)
noncomputable def B196_20 : List zRow := [(156, .iconst 0, 1, (0, 0, 0))]
theorem K196_20 : zRk 196 B196_20 = true := zRw_ok (by decide +kernel)
noncomputable def B196_21 : List zRow := [(153, .ifCond .ne 5, 3, (0, 0, 0))]
theorem K196_21 : zRk 196 B196_21 = true := zRw_ok (by decide +kernel)
noncomputable def B196_22 : List zRow := [(71, .aload_n 0, 1, (0, 0, 0)), (72, .getfield 16, 3, (12, 15, 5243718)), (75, .bipush 37, 2, (0, 0, 0)), (77, .iconst 3, 1, (0, 0, 0)), (78, .iload_n 2, 1, (0, 0, 0))]
theorem K196_22 : zRk 196 B196_22 = true := zRw_ok (by decide +kernel)
noncomputable def B196_23 : List zRow := [(79, .imul, 1, (0, 0, 0))]
theorem K196_23 : zRk 196 B196_23 = true := zRw_ok (by decide +kernel)
noncomputable def B196_24 : List zRow := [(80, .iadd, 1, (0, 0, 0)), (81, .iaload, 1, (0, 0, 0)), (82, .aload_n 0, 1, (0, 0, 0)), (83, .getfield 16, 3, (12, 15, 5243718)), (86, .bipush 37, 2, (0, 0, 0)), (88, .iconst 3, 1, (0, 0, 0)), (89, .iload_n 1, 1, (0, 0, 0))]
theorem K196_24 : zRk 196 B196_24 = true := zRw_ok (by decide +kernel)
noncomputable def B196_25 : List zRow := [(90, .imul, 1, (0, 0, 0))]
theorem K196_25 : zRk 196 B196_25 = true := zRw_ok (by decide +kernel)
noncomputable def B196_26 : List zRow := [(96, .aload_n 0, 1, (0, 0, 0)), (97, .getfield 16, 3, (12, 15, 5243718)), (100, .bipush 37, 2, (0, 0, 0)), (102, .iconst 3, 1, (0, 0, 0)), (103, .iload_n 2, 1, (0, 0, 0))]
theorem K196_26 : zRk 196 B196_26 = true := zRw_ok (by decide +kernel)
noncomputable def B196_27 : List zRow := [(104, .imul, 1, (0, 0, 0))]
theorem K196_27 : zRk 196 B196_27 = true := zRw_ok (by decide +kernel)
noncomputable def B196_28 : List zRow := [(116, .aload_n 0, 1, (0, 0, 0)), (117, .iconst 3, 1, (0, 0, 0))]
theorem K196_28 : zRk 196 B196_28 = true := zRw_ok (by decide +kernel)
noncomputable def B196_29 : List zRow := [(105, .iadd, 1, (0, 0, 0)), (106, .iconst 1, 1, (0, 0, 0)), (107, .iadd, 1, (0, 0, 0)), (108, .iaload, 1, (0, 0, 0)), (109, .aload_n 0, 1, (0, 0, 0)), (110, .getfield 155, 3, (12, 13, 0)), (113, .if_icmp .ne 9, 3, (0, 0, 0))]
theorem K196_29 : zRk 196 B196_29 = true := zRw_ok (by decide +kernel)
noncomputable def B196_30 : List zRow := [(91, .iadd, 1, (0, 0, 0)), (92, .iaload, 1, (0, 0, 0)), (93, .if_icmp .ne 29, 3, (0, 0, 0))]
theorem K196_30 : zRk 196 B196_30 = true := zRw_ok (by decide +kernel)
noncomputable def B196_31 : List zRow := [(66, .iload_n 2, 1, (0, 0, 0)), (67, .iload_n 1, 1, (0, 0, 0)), (68, .if_icmp .ge 60, 3, (0, 0, 0))]
theorem K196_31 : zRk 196 B196_31 = true := zRw_ok (by decide +kernel)
noncomputable def B196_32 : List zRow := [(122, .iinc 2 1, 3, (0, 0, 0)), (125, .goto (-59), 3, (0, 0, 0))]
theorem K196_32 : zRk 196 B196_32 = true := zRw_ok (by decide +kernel)
noncomputable def B190_0 : List zRow := [(0, .aload_n 0, 1, (0, 0, 0))]
theorem K190_0 : zRk 190 B190_0 = true := zRw_ok (by decide +kernel)
noncomputable def B190_1 : List zRow := [(13, .aload_n 0, 1, (0, 0, 0)), (14, .getfield 32, 3, (12, 20, 5505074)), (17, .iconst 0, 1, (0, 0, 0)), (18, .aload_n 0, 1, (0, 0, 0)), (19, .getfield 16, 3, (12, 15, 5243718)), (22, .iconst 2, 1, (0, 0, 0)), (23, .iaload, 1, (0, 0, 0)), (24, .aload_n 0, 1, (0, 0, 0)), (25, .getfield 120, 3, (12, 12, 1))]
theorem K190_1 : zRk 190 B190_1 = true := zRw_ok (by decide +kernel)
noncomputable def B190_2 : List zRow := [(35, .aload_n 0, 1, (0, 0, 0)), (36, .getfield 32, 3, (12, 20, 5505074)), (39, .bipush 6, 2, (0, 0, 0)), (41, .aload_n 0, 1, (0, 0, 0)), (42, .getfield 16, 3, (12, 15, 5243718)), (45, .iconst 3, 1, (0, 0, 0)), (46, .iaload, 1, (0, 0, 0)), (47, .aload_n 0, 1, (0, 0, 0)), (48, .getfield 120, 3, (12, 12, 1))]
theorem K190_2 : zRk 190 B190_2 = true := zRw_ok (by decide +kernel)
noncomputable def B190_3 : List zRow := [(64, .aload_n 0, 1, (0, 0, 0)), (65, .getfield 32, 3, (12, 20, 5505074)), (68, .iload_n 1, 1, (0, 0, 0)), (69, .aload_n 0, 1, (0, 0, 0)), (70, .getfield 120, 3, (12, 12, 1)), (73, .lastore, 1, (0, 0, 0)), (74, .aload_n 0, 1, (0, 0, 0))]
theorem K190_3 : zRk 190 B190_3 = true := zRw_ok (by decide +kernel)
noncomputable def B190_4 : List zRow := [(78, .iconst 1, 1, (0, 0, 0))]
theorem K190_4 : zRk 190 B190_4 = true := zRw_ok (by decide +kernel)
noncomputable def B190_5 : List zRow := [(54, .iconst (-1), 1, (0, 0, 0)), (55, .if_icmp .eq 9, 3, (0, 0, 0))]
theorem K190_5 : zRk 190 B190_5 = true := zRw_ok (by decide +kernel)
noncomputable def B190_6 : List zRow := [(31, .iconst (-1), 1, (0, 0, 0)), (32, .if_icmp .ne 26, 3, (0, 0, 0))]
theorem K190_6 : zRk 190 B190_6 = true := zRw_ok (by decide +kernel)
noncomputable def B190_7 : List zRow := [(7, .aload_n 0, 1, (0, 0, 0)), (8, .iconst 1, 1, (0, 0, 0))]
theorem K190_7 : zRk 190 B190_7 = true := zRw_ok (by decide +kernel)
noncomputable def B190_8 : List zRow := [(4, .ifCond .ne 9, 3, (0, 0, 0))]
theorem K190_8 : zRk 190 B190_8 = true := zRw_ok (by decide +kernel)
noncomputable def B190_9 : List zRow := [(58, .aload_n 0, 1, (0, 0, 0)), (59, .iconst 3, 1, (0, 0, 0))]
theorem K190_9 : zRk 190 B190_9 = true := zRw_ok (by decide +kernel)
noncomputable def B194_0 : List zRow := [(19, .aload_n 0, 1, (0, 0, 0))]
theorem K194_0 : zRk 194 B194_0 = true := zRw_ok (by decide +kernel)
noncomputable def B194_1 : List zRow := [(23, .aload_n 0, 1, (0, 0, 0)), (24, .bipush 6, 2, (0, 0, 0)), (26, .iload_n 1, 1, (0, 0, 0))]
theorem K194_1 : zRk 194 B194_1 = true := zRw_ok (by decide +kernel)
noncomputable def B194_2 : List zRow := [(27, .iadd, 1, (0, 0, 0))]
theorem K194_2 : zRk 194 B194_2 = true := zRw_ok (by decide +kernel)
noncomputable def B194_3 : List zRow := [(41, .iconst 0, 1, (0, 0, 0))]
theorem K194_3 : zRk 194 B194_3 = true := zRw_ok (by decide +kernel)
noncomputable def B194_4 : List zRow := [(34, .aload_n 0, 1, (0, 0, 0))]
theorem K194_4 : zRk 194 B194_4 = true := zRw_ok (by decide +kernel)
noncomputable def B194_5 : List zRow := [(43, .aload_n 0, 1, (0, 0, 0)), (44, .getfield 16, 3, (12, 15, 5243718)), (47, .bipush 25, 2, (0, 0, 0)), (49, .iconst 2, 1, (0, 0, 0)), (50, .iload_n 1, 1, (0, 0, 0))]
theorem K194_5 : zRk 194 B194_5 = true := zRw_ok (by decide +kernel)
noncomputable def B194_6 : List zRow := [(51, .imul, 1, (0, 0, 0))]
theorem K194_6 : zRk 194 B194_6 = true := zRw_ok (by decide +kernel)
noncomputable def B194_7 : List zRow := [(52, .iadd, 1, (0, 0, 0)), (53, .aload_n 0, 1, (0, 0, 0)), (54, .getfield 155, 3, (12, 13, 0)), (57, .iastore, 1, (0, 0, 0)), (58, .aload_n 0, 1, (0, 0, 0)), (59, .getfield 16, 3, (12, 15, 5243718)), (62, .bipush 25, 2, (0, 0, 0)), (64, .iconst 2, 1, (0, 0, 0)), (65, .iload_n 1, 1, (0, 0, 0))]
theorem K194_7 : zRk 194 B194_7 = true := zRw_ok (by decide +kernel)
noncomputable def B194_8 : List zRow := [(66, .imul, 1, (0, 0, 0))]
theorem K194_8 : zRk 194 B194_8 = true := zRw_ok (by decide +kernel)
noncomputable def B194_9 : List zRow := [(67, .iadd, 1, (0, 0, 0)), (68, .iconst 1, 1, (0, 0, 0)), (69, .iadd, 1, (0, 0, 0)), (70, .iconst (-1), 1, (0, 0, 0)), (71, .iastore, 1, (0, 0, 0)), (72, .aload_n 0, 1, (0, 0, 0)), (73, .getfield 16, 3, (12, 15, 5243718)), (76, .iconst 3, 1, (0, 0, 0)), (77, .dup2, 1, (0, 0, 0)), (78, .iaload, 1, (0, 0, 0)), (79, .iconst 1, 1, (0, 0, 0)), (80, .iadd, 1, (0, 0, 0)), (81, .iastore, 1, (0, 0, 0)), (82, .iconst 1, 1, (0, 0, 0))]
theorem K194_9 : zRk 194 B194_9 = true := zRw_ok (by decide +kernel)
noncomputable def B194_10 : List zRow := [(38, .ifCond .ne 5, 3, (0, 0, 0))]
theorem K194_10 : zRk 194 B194_10 = true := zRw_ok (by decide +kernel)
noncomputable def B194_11 : List zRow := [(31, .ifCond .eq 10, 3, (0, 0, 0))]
theorem K194_11 : zRk 194 B194_11 = true := zRw_ok (by decide +kernel)
noncomputable def B194_12 : List zRow := [(13, .aload_n 0, 1, (0, 0, 0)), (14, .iconst 4, 1, (0, 0, 0))]
theorem K194_12 : zRk 194 B194_12 = true := zRw_ok (by decide +kernel)
noncomputable def B194_13 : List zRow := [(0, .aload_n 0, 1, (0, 0, 0)), (1, .getfield 16, 3, (12, 15, 5243718)), (4, .iconst 3, 1, (0, 0, 0)), (5, .iaload, 1, (0, 0, 0)), (6, .istore_n 1, 1, (0, 0, 0)), (7, .iload_n 1, 1, (0, 0, 0)), (8, .bipush 6, 2, (0, 0, 0)), (10, .if_icmp .ne 9, 3, (0, 0, 0))]
theorem K194_13 : zRk 194 B194_13 = true := zRw_ok (by decide +kernel)
noncomputable def B189_0 : List zRow := [(19, .aload_n 0, 1, (0, 0, 0))]
theorem K189_0 : zRk 189 B189_0 = true := zRw_ok (by decide +kernel)
noncomputable def B189_1 : List zRow := [(23, .aload_n 0, 1, (0, 0, 0)), (24, .iload_n 1, 1, (0, 0, 0))]
theorem K189_1 : zRk 189 B189_1 = true := zRw_ok (by decide +kernel)
noncomputable def B189_2 : List zRow := [(38, .iconst 0, 1, (0, 0, 0))]
theorem K189_2 : zRk 189 B189_2 = true := zRw_ok (by decide +kernel)
noncomputable def B189_3 : List zRow := [(31, .aload_n 0, 1, (0, 0, 0))]
theorem K189_3 : zRk 189 B189_3 = true := zRw_ok (by decide +kernel)
noncomputable def B189_4 : List zRow := [(40, .iconst 0, 1, (0, 0, 0)), (41, .istore_n 2, 1, (0, 0, 0))]
theorem K189_4 : zRk 189 B189_4 = true := zRw_ok (by decide +kernel)
noncomputable def B189_5 : List zRow := [(35, .ifCond .ne 5, 3, (0, 0, 0))]
theorem K189_5 : zRk 189 B189_5 = true := zRw_ok (by decide +kernel)
noncomputable def B189_6 : List zRow := [(28, .ifCond .eq 10, 3, (0, 0, 0))]
theorem K189_6 : zRk 189 B189_6 = true := zRw_ok (by decide +kernel)
noncomputable def B189_7 : List zRow := [(13, .aload_n 0, 1, (0, 0, 0)), (14, .iconst 4, 1, (0, 0, 0))]
theorem K189_7 : zRk 189 B189_7 = true := zRw_ok (by decide +kernel)
noncomputable def B189_8 : List zRow := [(0, .aload_n 0, 1, (0, 0, 0)), (1, .getfield 16, 3, (12, 15, 5243718)), (4, .iconst 2, 1, (0, 0, 0)), (5, .iaload, 1, (0, 0, 0)), (6, .istore_n 1, 1, (0, 0, 0)), (7, .iload_n 1, 1, (0, 0, 0)), (8, .bipush 6, 2, (0, 0, 0)), (10, .if_icmp .ne 9, 3, (0, 0, 0))]
theorem K189_8 : zRk 189 B189_8 = true := zRw_ok (by decide +kernel)
noncomputable def B189_9 : List zRow := [(77, .aload_n 0, 1, (0, 0, 0)), (78, .getfield 16, 3, (12, 15, 5243718)), (81, .bipush 7, 2, (0, 0, 0)), (83, .iconst 3, 1, (0, 0, 0)), (84, .iload_n 1, 1, (0, 0, 0))]
theorem K189_9 : zRk 189 B189_9 = true := zRw_ok (by decide +kernel)
noncomputable def B189_10 : List zRow := [(85, .imul, 1, (0, 0, 0))]
theorem K189_10 : zRk 189 B189_10 = true := zRw_ok (by decide +kernel)
noncomputable def B189_11 : List zRow := [(86, .iadd, 1, (0, 0, 0)), (87, .aload_n 0, 1, (0, 0, 0)), (88, .getfield 155, 3, (12, 13, 0)), (91, .iastore, 1, (0, 0, 0)), (92, .aload_n 0, 1, (0, 0, 0))]
theorem K189_11 : zRk 189 B189_11 = true := zRw_ok (by decide +kernel)
noncomputable def B189_12 : List zRow := [(96, .aload_n 0, 1, (0, 0, 0)), (97, .iconst 1, 1, (0, 0, 0)), (98, .bipush 40, 2, (0, 0, 0))]
theorem K189_12 : zRk 189 B189_12 = true := zRw_ok (by decide +kernel)
noncomputable def B189_13 : List zRow := [(108, .aload_n 0, 1, (0, 0, 0)), (109, .getfield 16, 3, (12, 15, 5243718)), (112, .bipush 7, 2, (0, 0, 0)), (114, .iconst 3, 1, (0, 0, 0)), (115, .iload_n 1, 1, (0, 0, 0))]
theorem K189_13 : zRk 189 B189_13 = true := zRw_ok (by decide +kernel)
noncomputable def B189_14 : List zRow := [(116, .imul, 1, (0, 0, 0))]
theorem K189_14 : zRk 189 B189_14 = true := zRw_ok (by decide +kernel)
noncomputable def B189_15 : List zRow := [(117, .iadd, 1, (0, 0, 0)), (118, .iconst 1, 1, (0, 0, 0)), (119, .iadd, 1, (0, 0, 0)), (120, .aload_n 0, 1, (0, 0, 0)), (121, .getfield 155, 3, (12, 13, 0)), (124, .iastore, 1, (0, 0, 0)), (125, .aload_n 0, 1, (0, 0, 0)), (126, .iconst 1, 1, (0, 0, 0)), (127, .bipush 9, 2, (0, 0, 0))]
theorem K189_15 : zRk 189 B189_15 = true := zRw_ok (by decide +kernel)
noncomputable def B189_16 : List zRow := [(137, .aload_n 0, 1, (0, 0, 0)), (138, .getfield 16, 3, (12, 15, 5243718)), (141, .bipush 7, 2, (0, 0, 0)), (143, .iconst 3, 1, (0, 0, 0)), (144, .iload_n 1, 1, (0, 0, 0))]
theorem K189_16 : zRk 189 B189_16 = true := zRw_ok (by decide +kernel)
noncomputable def B189_17 : List zRow := [(145, .imul, 1, (0, 0, 0))]
theorem K189_17 : zRk 189 B189_17 = true := zRw_ok (by decide +kernel)
noncomputable def B189_18 : List zRow := [(146, .iadd, 1, (0, 0, 0)), (147, .iconst 2, 1, (0, 0, 0)), (148, .iadd, 1, (0, 0, 0)), (149, .aload_n 0, 1, (0, 0, 0)), (150, .getfield 155, 3, (12, 13, 0)), (153, .iastore, 1, (0, 0, 0)), (154, .aload_n 0, 1, (0, 0, 0)), (155, .getfield 16, 3, (12, 15, 5243718)), (158, .iconst 2, 1, (0, 0, 0)), (159, .dup2, 1, (0, 0, 0)), (160, .iaload, 1, (0, 0, 0)), (161, .iconst 1, 1, (0, 0, 0)), (162, .iadd, 1, (0, 0, 0)), (163, .iastore, 1, (0, 0, 0)), (164, .iconst 1, 1, (0, 0, 0))]
theorem K189_18 : zRk 189 B189_18 = true := zRw_ok (by decide +kernel)
noncomputable def B189_19 : List zRow := [(135, .iconst 0, 1, (0, 0, 0))]
theorem K189_19 : zRk 189 B189_19 = true := zRw_ok (by decide +kernel)
noncomputable def B189_20 : List zRow := [(132, .ifCond .ne 5, 3, (0, 0, 0))]
theorem K189_20 : zRk 189 B189_20 = true := zRw_ok (by decide +kernel)
noncomputable def B189_21 : List zRow := [(106, .iconst 0, 1, (0, 0, 0))]
theorem K189_21 : zRk 189 B189_21 = true := zRw_ok (by decide +kernel)
noncomputable def B189_22 : List zRow := [(103, .ifCond .ne 5, 3, (0, 0, 0))]
theorem K189_22 : zRk 189 B189_22 = true := zRw_ok (by decide +kernel)
noncomputable def B189_23 : List zRow := [(47, .aload_n 0, 1, (0, 0, 0)), (48, .getfield 16, 3, (12, 15, 5243718)), (51, .bipush 7, 2, (0, 0, 0)), (53, .iconst 3, 1, (0, 0, 0)), (54, .iload_n 2, 1, (0, 0, 0))]
theorem K189_23 : zRk 189 B189_23 = true := zRw_ok (by decide +kernel)
noncomputable def B189_24 : List zRow := [(55, .imul, 1, (0, 0, 0))]
theorem K189_24 : zRk 189 B189_24 = true := zRw_ok (by decide +kernel)
noncomputable def B189_25 : List zRow := [(71, .iinc 2 1, 3, (0, 0, 0)), (74, .goto (-32), 3, (0, 0, 0))]
theorem K189_25 : zRk 189 B189_25 = true := zRw_ok (by decide +kernel)
noncomputable def B189_26 : List zRow := [(65, .aload_n 0, 1, (0, 0, 0)), (66, .iconst 3, 1, (0, 0, 0))]
theorem K189_26 : zRk 189 B189_26 = true := zRw_ok (by decide +kernel)
noncomputable def B189_27 : List zRow := [(56, .iadd, 1, (0, 0, 0)), (57, .iaload, 1, (0, 0, 0)), (58, .aload_n 0, 1, (0, 0, 0)), (59, .getfield 155, 3, (12, 13, 0)), (62, .if_icmp .ne 9, 3, (0, 0, 0))]
theorem K189_27 : zRk 189 B189_27 = true := zRw_ok (by decide +kernel)
noncomputable def B189_28 : List zRow := [(42, .iload_n 2, 1, (0, 0, 0)), (43, .iload_n 1, 1, (0, 0, 0)), (44, .if_icmp .ge 33, 3, (0, 0, 0))]
theorem K189_28 : zRk 189 B189_28 = true := zRw_ok (by decide +kernel)
