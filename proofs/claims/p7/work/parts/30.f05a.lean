noncomputable def B61_0 : List zRow := [(19, .iconst 0, 1, (0, 0, 0))]
theorem K61_0 : zRk 61 B61_0 = true := zRw_ok (by decide +kernel)
noncomputable def B61_1 : List zRow := [(15, .iconst 1, 1, (0, 0, 0)), (16, .goto 4, 3, (0, 0, 0))]
theorem K61_1 : zRk 61 B61_1 = true := zRw_ok (by decide +kernel)
noncomputable def B61_2 : List zRow := [(4, .iload_n 1, 1, (0, 0, 0)), (5, .aload_n 0, 1, (0, 0, 0)), (6, .getfield 19, 3, (11, 1, 39)), (9, .getfield 311, 3, (9, 3, 0)), (12, .if_icmp .ge 7, 3, (0, 0, 0))]
theorem K61_2 : zRk 61 B61_2 = true := zRw_ok (by decide +kernel)
noncomputable def B61_3 : List zRow := [(0, .iload_n 1, 1, (0, 0, 0)), (1, .ifCond .lt 18, 3, (0, 0, 0))]
theorem K61_3 : zRk 61 B61_3 = true := zRw_ok (by decide +kernel)
noncomputable def B63_0 : List zRow := [(0, .aload_n 0, 1, (0, 0, 0)), (1, .getfield 21, 3, (1, 6, 5243842)), (4, .iload_n 1, 1, (0, 0, 0)), (5, .bipush 8, 2, (0, 0, 0)), (7, .imul, 1, (0, 0, 0)), (8, .iload_n 2, 1, (0, 0, 0)), (9, .iadd, 1, (0, 0, 0)), (10, .iaload, 1, (0, 0, 0))]
theorem K63_0 : zRk 63 B63_0 = true := zRw_ok (by decide +kernel)
noncomputable def B64_0 : List zRow := [(0, .iload_n 0, 1, (0, 0, 0)), (1, .iload_n 0, 1, (0, 0, 0)), (2, .iconst 1, 1, (0, 0, 0)), (3, .iushr, 1, (0, 0, 0)), (4, .ldc_w 265, 3, (0, 0, 1431655765)), (7, .iand, 1, (0, 0, 0)), (8, .isub, 1, (0, 0, 0)), (9, .istore_n 0, 1, (0, 0, 0)), (10, .iload_n 0, 1, (0, 0, 0)), (11, .ldc_w 266, 3, (0, 0, 858993459)), (14, .iand, 1, (0, 0, 0)), (15, .iload_n 0, 1, (0, 0, 0)), (16, .iconst 2, 1, (0, 0, 0)), (17, .iushr, 1, (0, 0, 0)), (18, .ldc_w 266, 3, (0, 0, 858993459)), (21, .iand, 1, (0, 0, 0)), (22, .iadd, 1, (0, 0, 0)), (23, .istore_n 0, 1, (0, 0, 0)), (24, .iload_n 0, 1, (0, 0, 0)), (25, .iload_n 0, 1, (0, 0, 0)), (26, .iconst 4, 1, (0, 0, 0)), (27, .iushr, 1, (0, 0, 0)), (28, .iadd, 1, (0, 0, 0)), (29, .ldc_w 267, 3, (0, 0, 252645135)), (32, .iand, 1, (0, 0, 0)), (33, .istore_n 0, 1, (0, 0, 0)), (34, .iload_n 0, 1, (0, 0, 0)), (35, .iload_n 0, 1, (0, 0, 0)), (36, .bipush 8, 2, (0, 0, 0)), (38, .iushr, 1, (0, 0, 0)), (39, .iadd, 1, (0, 0, 0)), (40, .istore_n 0, 1, (0, 0, 0)), (41, .iload_n 0, 1, (0, 0, 0)), (42, .iload_n 0, 1, (0, 0, 0)), (43, .bipush 16, 2, (0, 0, 0)), (45, .iushr, 1, (0, 0, 0)), (46, .iadd, 1, (0, 0, 0)), (47, .istore_n 0, 1, (0, 0, 0)), (48, .iload_n 0, 1, (0, 0, 0)), (49, .bipush 63, 2, (0, 0, 0)), (51, .iand, 1, (0, 0, 0))]
theorem K64_0 : zRk 64 B64_0 = true := zRw_ok (by decide +kernel)
noncomputable def B65_0 : List zRow := [(13, .iconst 0, 1, (0, 0, 0))]
theorem K65_0 : zRk 65 B65_0 = true := zRw_ok (by decide +kernel)
noncomputable def B65_1 : List zRow := [(9, .iconst 1, 1, (0, 0, 0)), (10, .goto 4, 3, (0, 0, 0))]
theorem K65_1 : zRk 65 B65_1 = true := zRw_ok (by decide +kernel)
noncomputable def B65_2 : List zRow := [(0, .iload_n 0, 1, (0, 0, 0)), (1, .iload_n 1, 1, (0, 0, 0)), (2, .ishr, 1, (0, 0, 0)), (3, .iconst 1, 1, (0, 0, 0)), (4, .iand, 1, (0, 0, 0)), (5, .iconst 1, 1, (0, 0, 0)), (6, .if_icmp .ne 7, 3, (0, 0, 0))]
theorem K65_2 : zRk 65 B65_2 = true := zRw_ok (by decide +kernel)
noncomputable def B62_0 : List zRow := [(0, .aload_n 0, 1, (0, 0, 0)), (1, .iload_n 2, 1, (0, 0, 0)), (2, .iconst 5, 1, (0, 0, 0))]
theorem K62_0 : zRk 62 B62_0 = true := zRw_ok (by decide +kernel)
noncomputable def B62_1 : List zRow := [(6, .istore_n 3, 1, (0, 0, 0)), (7, .iload_n 3, 1, (0, 0, 0))]
theorem K62_1 : zRk 62 B62_1 = true := zRw_ok (by decide +kernel)
noncomputable def B62_2 : List zRow := [(26, .iconst 0, 1, (0, 0, 0))]
theorem K62_2 : zRk 62 B62_2 = true := zRw_ok (by decide +kernel)
noncomputable def B62_3 : List zRow := [(18, .iload_n 3, 1, (0, 0, 0)), (19, .iload_n 1, 1, (0, 0, 0))]
theorem K62_3 : zRk 62 B62_3 = true := zRw_ok (by decide +kernel)
noncomputable def B62_4 : List zRow := [(28, .iload_n 3, 1, (0, 0, 0)), (29, .iconst 1, 1, (0, 0, 0)), (30, .iload_n 1, 1, (0, 0, 0)), (31, .ishl, 1, (0, 0, 0)), (32, .iconst 1, 1, (0, 0, 0)), (33, .isub, 1, (0, 0, 0)), (34, .iand, 1, (0, 0, 0))]
theorem K62_4 : zRk 62 B62_4 = true := zRw_ok (by decide +kernel)
noncomputable def B62_5 : List zRow := [(38, .istore 5, 2, (0, 0, 0)), (40, .aload_n 0, 1, (0, 0, 0)), (41, .iload_n 2, 1, (0, 0, 0)), (42, .iconst 0, 1, (0, 0, 0))]
theorem K62_5 : zRk 62 B62_5 = true := zRw_ok (by decide +kernel)
noncomputable def B62_6 : List zRow := [(67, .iconst 0, 1, (0, 0, 0))]
theorem K62_6 : zRk 62 B62_6 = true := zRw_ok (by decide +kernel)
noncomputable def B62_7 : List zRow := [(63, .iconst 1, 1, (0, 0, 0)), (64, .goto 4, 3, (0, 0, 0))]
theorem K62_7 : zRk 62 B62_7 = true := zRw_ok (by decide +kernel)
noncomputable def B62_8 : List zRow := [(46, .istore 6, 2, (0, 0, 0)), (48, .iload 6, 2, (0, 0, 0)), (50, .iload 4, 2, (0, 0, 0)), (52, .idiv, 1, (0, 0, 0)), (53, .iload 5, 2, (0, 0, 0)), (55, .iload 6, 2, (0, 0, 0)), (57, .iload 4, 2, (0, 0, 0)), (59, .irem, 1, (0, 0, 0)), (60, .if_icmp .ge 7, 3, (0, 0, 0))]
theorem K62_8 : zRk 62 B62_8 = true := zRw_ok (by decide +kernel)
noncomputable def B62_9 : List zRow := [(23, .ifCond .ne 5, 3, (0, 0, 0))]
theorem K62_9 : zRk 62 B62_9 = true := zRw_ok (by decide +kernel)
noncomputable def B62_10 : List zRow := [(11, .istore 4, 2, (0, 0, 0)), (13, .iload 4, 2, (0, 0, 0)), (15, .ifCond .eq 11, 3, (0, 0, 0))]
theorem K62_10 : zRk 62 B62_10 = true := zRw_ok (by decide +kernel)
noncomputable def B62_11 : List zRow := [(68, .iadd, 1, (0, 0, 0))]
theorem K62_11 : zRk 62 B62_11 = true := zRw_ok (by decide +kernel)
noncomputable def B60_0 : List zRow := [(0, .aload_n 0, 1, (0, 0, 0)), (1, .iload_n 1, 1, (0, 0, 0))]
theorem K60_0 : zRk 60 B60_0 = true := zRw_ok (by decide +kernel)
noncomputable def B60_1 : List zRow := [(28, .iconst (-1), 1, (0, 0, 0))]
theorem K60_1 : zRk 60 B60_1 = true := zRw_ok (by decide +kernel)
noncomputable def B60_2 : List zRow := [(8, .aload_n 0, 1, (0, 0, 0)), (9, .iload_n 2, 1, (0, 0, 0))]
theorem K60_2 : zRk 60 B60_2 = true := zRw_ok (by decide +kernel)
noncomputable def B60_3 : List zRow := [(16, .aload_n 0, 1, (0, 0, 0)), (17, .getfield 56, 3, (11, 6, 7)), (20, .iload_n 1, 1, (0, 0, 0)), (21, .iload_n 2, 1, (0, 0, 0))]
theorem K60_3 : zRk 60 B60_3 = true := zRw_ok (by decide +kernel)
noncomputable def B60_4 : List zRow := [(25, .goto 4, 3, (0, 0, 0))]
theorem K60_4 : zRk 60 B60_4 = true := zRw_ok (by decide +kernel)
noncomputable def B60_5 : List zRow := [(13, .ifCond .eq 15, 3, (0, 0, 0))]
theorem K60_5 : zRk 60 B60_5 = true := zRw_ok (by decide +kernel)
noncomputable def B60_6 : List zRow := [(5, .ifCond .eq 23, 3, (0, 0, 0))]
theorem K60_6 : zRk 60 B60_6 = true := zRw_ok (by decide +kernel)
noncomputable def B220_0 : List zRow := [(0, .aload_n 0, 1, (0, 0, 0)), (1, .iconst 0, 1, (0, 0, 0)), (2, .putfield 81, 3, (12, 0, 0)), (5, .aload_n 0, 1, (0, 0, 0)), (6, .iload_n 1, 1, (0, 0, 0))]
theorem K220_0 : zRk 220 B220_0 = true := zRw_ok (by decide +kernel)
noncomputable def B220_1 : List zRow := [(30, .iconst (-1), 1, (0, 0, 0))]
theorem K220_1 : zRk 220 B220_1 = true := zRw_ok (by decide +kernel)
noncomputable def B220_2 : List zRow := [(13, .aload_n 0, 1, (0, 0, 0)), (14, .iload_n 2, 1, (0, 0, 0))]
theorem K220_2 : zRk 220 B220_2 = true := zRw_ok (by decide +kernel)
noncomputable def B220_3 : List zRow := [(21, .aload_n 0, 1, (0, 0, 0)), (22, .iload_n 1, 1, (0, 0, 0)), (23, .iload_n 2, 1, (0, 0, 0))]
theorem K220_3 : zRk 220 B220_3 = true := zRw_ok (by decide +kernel)
noncomputable def B220_4 : List zRow := [(27, .goto 4, 3, (0, 0, 0))]
theorem K220_4 : zRk 220 B220_4 = true := zRw_ok (by decide +kernel)
noncomputable def B220_5 : List zRow := [(18, .ifCond .eq 12, 3, (0, 0, 0))]
theorem K220_5 : zRk 220 B220_5 = true := zRw_ok (by decide +kernel)
noncomputable def B220_6 : List zRow := [(10, .ifCond .eq 20, 3, (0, 0, 0))]
theorem K220_6 : zRk 220 B220_6 = true := zRw_ok (by decide +kernel)
noncomputable def B67_0 : List zRow := [(0, .aload_n 0, 1, (0, 0, 0)), (1, .getfield 24, 3, (1, 7, 5246482)), (4, .iload_n 1, 1, (0, 0, 0)), (5, .iconst 5, 1, (0, 0, 0)), (6, .imul, 1, (0, 0, 0)), (7, .iload_n 2, 1, (0, 0, 0)), (8, .iadd, 1, (0, 0, 0)), (9, .iaload, 1, (0, 0, 0))]
theorem K67_0 : zRk 67 B67_0 = true := zRw_ok (by decide +kernel)
noncomputable def B66_0 : List zRow := [(24, .iconst (-1), 1, (0, 0, 0))]
theorem K66_0 : zRk 66 B66_0 = true := zRw_ok (by decide +kernel)
noncomputable def B66_1 : List zRow := [(26, .aload_n 0, 1, (0, 0, 0)), (27, .getfield 56, 3, (11, 6, 7)), (30, .iload_n 1, 1, (0, 0, 0)), (31, .iload_n 2, 1, (0, 0, 0))]
theorem K66_1 : zRk 66 B66_1 = true := zRw_ok (by decide +kernel)
noncomputable def B66_2 : List zRow := [(19, .iload_n 2, 1, (0, 0, 0)), (20, .iconst 5, 1, (0, 0, 0)), (21, .if_icmp .lt 5, 3, (0, 0, 0))]
theorem K66_2 : zRk 66 B66_2 = true := zRw_ok (by decide +kernel)
noncomputable def B66_3 : List zRow := [(15, .iload_n 2, 1, (0, 0, 0)), (16, .ifCond .lt 8, 3, (0, 0, 0))]
theorem K66_3 : zRk 66 B66_3 = true := zRw_ok (by decide +kernel)
noncomputable def B66_4 : List zRow := [(4, .iload_n 1, 1, (0, 0, 0)), (5, .aload_n 0, 1, (0, 0, 0)), (6, .getfield 56, 3, (11, 6, 7)), (9, .getfield 208, 3, (1, 2, 0)), (12, .if_icmp .ge 12, 3, (0, 0, 0))]
theorem K66_4 : zRk 66 B66_4 = true := zRw_ok (by decide +kernel)
noncomputable def B66_5 : List zRow := [(0, .iload_n 1, 1, (0, 0, 0)), (1, .ifCond .lt 23, 3, (0, 0, 0))]
theorem K66_5 : zRk 66 B66_5 = true := zRw_ok (by decide +kernel)
noncomputable def B221_0 : List zRow := [(47, .iconst (-1), 1, (0, 0, 0))]
theorem K221_0 : zRk 221 B221_0 = true := zRw_ok (by decide +kernel)
noncomputable def B221_1 : List zRow := [(21, .iload_n 2, 1, (0, 0, 0)), (22, .iconst 0, 1, (0, 0, 0)), (23, .iconst 4, 1, (0, 0, 0))]
theorem K221_1 : zRk 221 B221_1 = true := zRw_ok (by decide +kernel)
noncomputable def B221_2 : List zRow := [(30, .aload_n 0, 1, (0, 0, 0)), (31, .getfield 13, 3, (12, 14, 5251442)), (34, .sipush 998, 3, (0, 0, 0)), (37, .iconst 5, 1, (0, 0, 0)), (38, .iload_n 1, 1, (0, 0, 0))]
theorem K221_2 : zRk 221 B221_2 = true := zRw_ok (by decide +kernel)
noncomputable def B221_3 : List zRow := [(39, .imul, 1, (0, 0, 0))]
theorem K221_3 : zRk 221 B221_3 = true := zRw_ok (by decide +kernel)
noncomputable def B221_4 : List zRow := [(40, .iadd, 1, (0, 0, 0)), (41, .iload_n 2, 1, (0, 0, 0)), (42, .iadd, 1, (0, 0, 0)), (43, .iaload, 1, (0, 0, 0)), (44, .goto 4, 3, (0, 0, 0))]
theorem K221_4 : zRk 221 B221_4 = true := zRw_ok (by decide +kernel)
noncomputable def B221_5 : List zRow := [(27, .ifCond .eq 20, 3, (0, 0, 0))]
theorem K221_5 : zRk 221 B221_5 = true := zRw_ok (by decide +kernel)
noncomputable def B221_6 : List zRow := [(9, .iload_n 1, 1, (0, 0, 0)), (10, .aload_n 0, 1, (0, 0, 0)), (11, .getfield 13, 3, (12, 14, 5251442)), (14, .sipush 997, 3, (0, 0, 0)), (17, .iaload, 1, (0, 0, 0)), (18, .if_icmp .ge 29, 3, (0, 0, 0))]
theorem K221_6 : zRk 221 B221_6 = true := zRw_ok (by decide +kernel)
noncomputable def B221_7 : List zRow := [(0, .aload_n 0, 1, (0, 0, 0)), (1, .iconst 0, 1, (0, 0, 0)), (2, .putfield 81, 3, (12, 0, 0)), (5, .iload_n 1, 1, (0, 0, 0)), (6, .ifCond .lt 41, 3, (0, 0, 0))]
theorem K221_7 : zRk 221 B221_7 = true := zRw_ok (by decide +kernel)
noncomputable def B69_0 : List zRow := [(30, .iconst 0, 1, (0, 0, 0))]
theorem K69_0 : zRk 69 B69_0 = true := zRw_ok (by decide +kernel)
noncomputable def B69_1 : List zRow := [(26, .iconst 1, 1, (0, 0, 0)), (27, .goto 4, 3, (0, 0, 0))]
theorem K69_1 : zRk 69 B69_1 = true := zRw_ok (by decide +kernel)
noncomputable def B69_2 : List zRow := [(15, .iload_n 1, 1, (0, 0, 0)), (16, .bipush 10, 2, (0, 0, 0)), (18, .irem, 1, (0, 0, 0)), (19, .aload_n 0, 1, (0, 0, 0)), (20, .getfield 52, 3, (9, 0, 0)), (23, .if_icmp .ge 7, 3, (0, 0, 0))]
theorem K69_2 : zRk 69 B69_2 = true := zRw_ok (by decide +kernel)
noncomputable def B69_3 : List zRow := [(4, .iload_n 1, 1, (0, 0, 0)), (5, .bipush 10, 2, (0, 0, 0)), (7, .idiv, 1, (0, 0, 0)), (8, .aload_n 0, 1, (0, 0, 0)), (9, .getfield 56, 3, (9, 1, 0)), (12, .if_icmp .ge 18, 3, (0, 0, 0))]
theorem K69_3 : zRk 69 B69_3 = true := zRw_ok (by decide +kernel)
noncomputable def B69_4 : List zRow := [(0, .iload_n 1, 1, (0, 0, 0)), (1, .ifCond .lt 29, 3, (0, 0, 0))]
theorem K69_4 : zRk 69 B69_4 = true := zRw_ok (by decide +kernel)
noncomputable def B72_0 : List zRow := [(0, .aload_n 0, 1, (0, 0, 0)), (1, .aload_n 1, 1, (0, 0, 0)), (2, .getfield 30, 3, (1, 0, 0)), (5, .putfield 30, 3, (1, 0, 0)), (8, .aload_n 0, 1, (0, 0, 0)), (9, .iconst 0, 1, (0, 0, 0)), (10, .putfield 34, 3, (1, 1, 0)), (13, .aload_n 0, 1, (0, 0, 0)), (14, .iconst 0, 1, (0, 0, 0)), (15, .putfield 37, 3, (1, 2, 0)), (18, .aload_n 1, 1, (0, 0, 0)), (19, .getfield 9, 3, (1, 3, 5242906)), (22, .iconst 0, 1, (0, 0, 0)), (23, .aload_n 0, 1, (0, 0, 0)), (24, .getfield 9, 3, (1, 3, 5242906)), (27, .iconst 0, 1, (0, 0, 0)), (28, .bipush 6, 2, (0, 0, 0)), (30, .invokestatic 45, 3, (5001, 0, 0))]
theorem K72_0 : zRk 72 B72_0 = true := zRw_ok (by decide +kernel)
noncomputable def B71_0 : List zRow := [(0, .aload_n 0, 1, (0, 0, 0)), (1, .aload_n 1, 1, (0, 0, 0))]
theorem K71_0 : zRk 71 B71_0 = true := zRw_ok (by decide +kernel)
noncomputable def B71_1 : List zRow := [(5, .aload_n 0, 1, (0, 0, 0)), (6, .aload_n 1, 1, (0, 0, 0)), (7, .getfield 34, 3, (1, 1, 0)), (10, .putfield 34, 3, (1, 1, 0)), (13, .aload_n 0, 1, (0, 0, 0)), (14, .aload_n 1, 1, (0, 0, 0)), (15, .getfield 37, 3, (1, 2, 0)), (18, .putfield 37, 3, (1, 2, 0)), (21, .aload_n 1, 1, (0, 0, 0)), (22, .getfield 15, 3, (1, 4, 5243602)), (25, .iconst 0, 1, (0, 0, 0)), (26, .aload_n 0, 1, (0, 0, 0)), (27, .getfield 15, 3, (1, 4, 5243602)), (30, .iconst 0, 1, (0, 0, 0)), (31, .aload_n 0, 1, (0, 0, 0)), (32, .getfield 34, 3, (1, 1, 0)), (35, .bipush 6, 2, (0, 0, 0)), (37, .imul, 1, (0, 0, 0)), (38, .invokestatic 45, 3, (5001, 0, 0)), (41, .aload_n 1, 1, (0, 0, 0)), (42, .getfield 18, 3, (1, 5, 5243602)), (45, .iconst 0, 1, (0, 0, 0)), (46, .aload_n 0, 1, (0, 0, 0)), (47, .getfield 18, 3, (1, 5, 5243602)), (50, .iconst 0, 1, (0, 0, 0)), (51, .aload_n 0, 1, (0, 0, 0)), (52, .getfield 34, 3, (1, 1, 0)), (55, .bipush 6, 2, (0, 0, 0)), (57, .imul, 1, (0, 0, 0)), (58, .invokestatic 45, 3, (5001, 0, 0)), (61, .aload_n 1, 1, (0, 0, 0)), (62, .getfield 21, 3, (1, 6, 5243842)), (65, .iconst 0, 1, (0, 0, 0)), (66, .aload_n 0, 1, (0, 0, 0)), (67, .getfield 21, 3, (1, 6, 5243842)), (70, .iconst 0, 1, (0, 0, 0)), (71, .aload_n 0, 1, (0, 0, 0)), (72, .getfield 34, 3, (1, 1, 0)), (75, .bipush 8, 2, (0, 0, 0)), (77, .imul, 1, (0, 0, 0)), (78, .invokestatic 45, 3, (5001, 0, 0)), (81, .aload_n 1, 1, (0, 0, 0)), (82, .getfield 27, 3, (1, 8, 5243002)), (85, .iconst 0, 1, (0, 0, 0)), (86, .aload_n 0, 1, (0, 0, 0)), (87, .getfield 27, 3, (1, 8, 5243002)), (90, .iconst 0, 1, (0, 0, 0)), (91, .aload_n 0, 1, (0, 0, 0)), (92, .getfield 34, 3, (1, 1, 0)), (95, .invokestatic 45, 3, (5001, 0, 0)), (98, .aload_n 1, 1, (0, 0, 0)), (99, .getfield 24, 3, (1, 7, 5246482)), (102, .iconst 0, 1, (0, 0, 0)), (103, .aload_n 0, 1, (0, 0, 0)), (104, .getfield 24, 3, (1, 7, 5246482)), (107, .iconst 0, 1, (0, 0, 0)), (108, .aload_n 0, 1, (0, 0, 0)), (109, .getfield 37, 3, (1, 2, 0)), (112, .iconst 5, 1, (0, 0, 0)), (113, .imul, 1, (0, 0, 0)), (114, .invokestatic 45, 3, (5001, 0, 0))]
theorem K71_1 : zRk 71 B71_1 = true := zRw_ok (by decide +kernel)
noncomputable def B70_0 : List zRow := [(9, .aload_n 0, 1, (0, 0, 0)), (10, .aload_n 0, 1, (0, 0, 0)), (11, .getfield 22, 3, (8, 1, 0)), (14, .iconst 1, 1, (0, 0, 0)), (15, .iadd, 1, (0, 0, 0)), (16, .bipush 8, 2, (0, 0, 0)), (18, .irem, 1, (0, 0, 0)), (19, .putfield 22, 3, (8, 1, 0)), (22, .aload_n 0, 1, (0, 0, 0)), (23, .dup, 1, (0, 0, 0)), (24, .getfield 18, 3, (8, 0, 0)), (27, .iconst 1, 1, (0, 0, 0)), (28, .isub, 1, (0, 0, 0)), (29, .putfield 18, 3, (8, 0, 0))]
theorem K70_0 : zRk 70 B70_0 = true := zRw_ok (by decide +kernel)
noncomputable def B70_1 : List zRow := [(0, .aload_n 0, 1, (0, 0, 0)), (1, .getfield 18, 3, (8, 0, 0)), (4, .bipush 8, 2, (0, 0, 0)), (6, .if_icmp .ne 26, 3, (0, 0, 0))]
theorem K70_1 : zRk 70 B70_1 = true := zRw_ok (by decide +kernel)
noncomputable def B70_2 : List zRow := [(32, .aload_n 0, 1, (0, 0, 0)), (33, .getfield 11, 3, (8, 2, 6029346)), (36, .aload_n 0, 1, (0, 0, 0)), (37, .getfield 22, 3, (8, 1, 0)), (40, .aload_n 0, 1, (0, 0, 0)), (41, .getfield 18, 3, (8, 0, 0)), (44, .iadd, 1, (0, 0, 0)), (45, .bipush 8, 2, (0, 0, 0)), (47, .irem, 1, (0, 0, 0)), (48, .aaload, 1, (23, 0, 0)), (49, .aload_n 1, 1, (0, 0, 0))]
theorem K70_2 : zRk 70 B70_2 = true := zRw_ok (by decide +kernel)
noncomputable def B70_3 : List zRow := [(53, .aload_n 0, 1, (0, 0, 0)), (54, .dup, 1, (0, 0, 0)), (55, .getfield 18, 3, (8, 0, 0)), (58, .iconst 1, 1, (0, 0, 0)), (59, .iadd, 1, (0, 0, 0)), (60, .putfield 18, 3, (8, 0, 0))]
theorem K70_3 : zRk 70 B70_3 = true := zRw_ok (by decide +kernel)
noncomputable def B68_0 : List zRow := [(0, .aload_n 0, 1, (0, 0, 0)), (1, .iload_n 1, 1, (0, 0, 0))]
theorem K68_0 : zRk 68 B68_0 = true := zRw_ok (by decide +kernel)
noncomputable def B68_1 : List zRow := [(19, .iconst 0, 1, (0, 0, 0))]
theorem K68_1 : zRk 68 B68_1 = true := zRw_ok (by decide +kernel)
noncomputable def B68_2 : List zRow := [(8, .aload_n 0, 1, (0, 0, 0)), (9, .getfield 19, 3, (11, 1, 39)), (12, .iload_n 2, 1, (0, 0, 0))]
theorem K68_2 : zRk 68 B68_2 = true := zRw_ok (by decide +kernel)
noncomputable def B68_3 : List zRow := [(21, .aload_n 0, 1, (0, 0, 0)), (22, .getfield 66, 3, (11, 8, 35)), (25, .aload_n 0, 1, (0, 0, 0)), (26, .getfield 56, 3, (11, 6, 7))]
theorem K68_3 : zRk 68 B68_3 = true := zRw_ok (by decide +kernel)
noncomputable def B68_4 : List zRow := [(32, .aload_n 0, 1, (0, 0, 0)), (33, .getfield 56, 3, (11, 6, 7)), (36, .getfield 177, 3, (1, 3, 5242906)), (39, .iload_n 1, 1, (0, 0, 0)), (40, .iload_n 2, 1, (0, 0, 0)), (41, .iastore, 1, (0, 0, 0)), (42, .iconst 1, 1, (0, 0, 0))]
theorem K68_4 : zRk 68 B68_4 = true := zRw_ok (by decide +kernel)
noncomputable def B68_5 : List zRow := [(16, .ifCond .ne 5, 3, (0, 0, 0))]
theorem K68_5 : zRk 68 B68_5 = true := zRw_ok (by decide +kernel)
noncomputable def B68_6 : List zRow := [(5, .ifCond .eq 14, 3, (0, 0, 0))]
theorem K68_6 : zRk 68 B68_6 = true := zRw_ok (by decide +kernel)
noncomputable def B224_0 : List zRow := [(34, .iconst 0, 1, (0, 0, 0))]
theorem K224_0 : zRk 224 B224_0 = true := zRw_ok (by decide +kernel)
noncomputable def B224_1 : List zRow := [(30, .iconst 1, 1, (0, 0, 0)), (31, .goto 4, 3, (0, 0, 0))]
theorem K224_1 : zRk 224 B224_1 = true := zRw_ok (by decide +kernel)
noncomputable def B224_2 : List zRow := [(17, .iload_n 1, 1, (0, 0, 0)), (18, .bipush 10, 2, (0, 0, 0)), (20, .idiv, 1, (0, 0, 0)), (21, .aload_n 0, 1, (0, 0, 0)), (22, .getfield 13, 3, (12, 14, 5251442)), (25, .iconst 1, 1, (0, 0, 0)), (26, .iaload, 1, (0, 0, 0)), (27, .if_icmp .ge 7, 3, (0, 0, 0))]
theorem K224_2 : zRk 224 B224_2 = true := zRw_ok (by decide +kernel)
noncomputable def B224_3 : List zRow := [(4, .iload_n 1, 1, (0, 0, 0)), (5, .bipush 10, 2, (0, 0, 0)), (7, .irem, 1, (0, 0, 0)), (8, .aload_n 0, 1, (0, 0, 0)), (9, .getfield 13, 3, (12, 14, 5251442)), (12, .iconst 0, 1, (0, 0, 0)), (13, .iaload, 1, (0, 0, 0)), (14, .if_icmp .ge 20, 3, (0, 0, 0))]
theorem K224_3 : zRk 224 B224_3 = true := zRw_ok (by decide +kernel)
noncomputable def B224_4 : List zRow := [(0, .iload_n 1, 1, (0, 0, 0)), (1, .ifCond .lt 33, 3, (0, 0, 0))]
theorem K224_4 : zRk 224 B224_4 = true := zRw_ok (by decide +kernel)
noncomputable def B225_0 : List zRow := [(9, .sipush 1689, 3, (0, 0, 0)), (12, .istore_n 1, 1, (0, 0, 0))]
theorem K225_0 : zRk 225 B225_0 = true := zRw_ok (by decide +kernel)
noncomputable def B225_1 : List zRow := [(0, .aload_n 0, 1, (0, 0, 0)), (1, .getfield 232, 3, (12, 23, 0)), (4, .bipush 8, 2, (0, 0, 0)), (6, .if_icmp .ne 46, 3, (0, 0, 0))]
theorem K225_1 : zRk 225 B225_1 = true := zRw_ok (by decide +kernel)
noncomputable def B225_2 : List zRow := [(42, .aload_n 0, 1, (0, 0, 0)), (43, .dup, 1, (0, 0, 0)), (44, .getfield 232, 3, (12, 23, 0)), (47, .iconst 1, 1, (0, 0, 0)), (48, .isub, 1, (0, 0, 0)), (49, .putfield 232, 3, (12, 23, 0))]
theorem K225_2 : zRk 225 B225_2 = true := zRw_ok (by decide +kernel)
noncomputable def B225_3 : List zRow := [(20, .aload_n 0, 1, (0, 0, 0)), (21, .getfield 22, 3, (12, 17, 5296930)), (24, .iload_n 1, 1, (0, 0, 0)), (25, .sipush 1689, 3, (0, 0, 0)), (28, .isub, 1, (0, 0, 0)), (29, .aload_n 0, 1, (0, 0, 0)), (30, .getfield 22, 3, (12, 17, 5296930)), (33, .iload_n 1, 1, (0, 0, 0)), (34, .iaload, 1, (0, 0, 0)), (35, .iastore, 1, (0, 0, 0)), (36, .iinc 1 1, 3, (0, 0, 0)), (39, .goto (-26), 3, (0, 0, 0))]
theorem K225_3 : zRk 225 B225_3 = true := zRw_ok (by decide +kernel)
noncomputable def B225_4 : List zRow := [(13, .iload_n 1, 1, (0, 0, 0)), (14, .sipush 13512, 3, (0, 0, 0)), (17, .if_icmp .ge 25, 3, (0, 0, 0))]
theorem K225_4 : zRk 225 B225_4 = true := zRw_ok (by decide +kernel)
noncomputable def B225_5 : List zRow := [(52, .iconst 0, 1, (0, 0, 0)), (53, .istore_n 1, 1, (0, 0, 0))]
theorem K225_5 : zRk 225 B225_5 = true := zRw_ok (by decide +kernel)
noncomputable def B225_6 : List zRow := [(92, .aload_n 0, 1, (0, 0, 0)), (93, .dup, 1, (0, 0, 0)), (94, .getfield 232, 3, (12, 23, 0)), (97, .iconst 1, 1, (0, 0, 0)), (98, .iadd, 1, (0, 0, 0)), (99, .putfield 232, 3, (12, 23, 0))]
theorem K225_6 : zRk 225 B225_6 = true := zRw_ok (by decide +kernel)
noncomputable def B225_7 : List zRow := [(61, .aload_n 0, 1, (0, 0, 0)), (62, .getfield 22, 3, (12, 17, 5296930)), (65, .sipush 1689, 3, (0, 0, 0)), (68, .aload_n 0, 1, (0, 0, 0)), (69, .getfield 232, 3, (12, 23, 0))]
theorem K225_7 : zRk 225 B225_7 = true := zRw_ok (by decide +kernel)
noncomputable def B225_8 : List zRow := [(72, .imul, 1, (0, 0, 0)), (73, .iload_n 1, 1, (0, 0, 0)), (74, .iadd, 1, (0, 0, 0)), (75, .aload_n 0, 1, (0, 0, 0)), (76, .getfield 13, 3, (12, 14, 5251442)), (79, .sipush 209, 3, (0, 0, 0)), (82, .iload_n 1, 1, (0, 0, 0))]
theorem K225_8 : zRk 225 B225_8 = true := zRw_ok (by decide +kernel)
noncomputable def B225_9 : List zRow := [(83, .iadd, 1, (0, 0, 0)), (84, .iaload, 1, (0, 0, 0)), (85, .iastore, 1, (0, 0, 0)), (86, .iinc 1 1, 3, (0, 0, 0)), (89, .goto (-35), 3, (0, 0, 0))]
theorem K225_9 : zRk 225 B225_9 = true := zRw_ok (by decide +kernel)
noncomputable def B225_10 : List zRow := [(54, .iload_n 1, 1, (0, 0, 0)), (55, .sipush 1689, 3, (0, 0, 0)), (58, .if_icmp .ge 34, 3, (0, 0, 0))]
theorem K225_10 : zRk 225 B225_10 = true := zRw_ok (by decide +kernel)
noncomputable def B223_0 : List zRow := [(0, .aload_n 0, 1, (0, 0, 0)), (1, .iconst 0, 1, (0, 0, 0)), (2, .putfield 81, 3, (12, 0, 0)), (5, .aload_n 0, 1, (0, 0, 0)), (6, .iload_n 1, 1, (0, 0, 0))]
theorem K223_0 : zRk 223 B223_0 = true := zRw_ok (by decide +kernel)
noncomputable def B223_1 : List zRow := [(21, .iconst 0, 1, (0, 0, 0))]
theorem K223_1 : zRk 223 B223_1 = true := zRw_ok (by decide +kernel)
noncomputable def B223_2 : List zRow := [(13, .aload_n 0, 1, (0, 0, 0)), (14, .iload_n 2, 1, (0, 0, 0))]
theorem K223_2 : zRk 223 B223_2 = true := zRw_ok (by decide +kernel)
noncomputable def B223_3 : List zRow := [(23, .aload_n 0, 1, (0, 0, 0))]
theorem K223_3 : zRk 223 B223_3 = true := zRw_ok (by decide +kernel)
noncomputable def B223_4 : List zRow := [(27, .aload_n 0, 1, (0, 0, 0)), (28, .getfield 13, 3, (12, 14, 5251442)), (31, .sipush 210, 3, (0, 0, 0)), (34, .iload_n 1, 1, (0, 0, 0))]
theorem K223_4 : zRk 223 B223_4 = true := zRw_ok (by decide +kernel)
noncomputable def B223_5 : List zRow := [(35, .iadd, 1, (0, 0, 0)), (36, .iload_n 2, 1, (0, 0, 0)), (37, .iastore, 1, (0, 0, 0)), (38, .iconst 1, 1, (0, 0, 0))]
theorem K223_5 : zRk 223 B223_5 = true := zRw_ok (by decide +kernel)
noncomputable def B223_6 : List zRow := [(18, .ifCond .ne 5, 3, (0, 0, 0))]
theorem K223_6 : zRk 223 B223_6 = true := zRw_ok (by decide +kernel)
noncomputable def B223_7 : List zRow := [(10, .ifCond .eq 11, 3, (0, 0, 0))]
theorem K223_7 : zRk 223 B223_7 = true := zRw_ok (by decide +kernel)
noncomputable def B74_0 : List zRow := [(15, .iconst 0, 1, (0, 0, 0))]
theorem K74_0 : zRk 74 B74_0 = true := zRw_ok (by decide +kernel)
noncomputable def B74_1 : List zRow := [(11, .iconst 1, 1, (0, 0, 0)), (12, .goto 4, 3, (0, 0, 0))]
theorem K74_1 : zRk 74 B74_1 = true := zRw_ok (by decide +kernel)
noncomputable def B74_2 : List zRow := [(5, .iload_n 0, 1, (0, 0, 0)), (6, .bipush 9, 2, (0, 0, 0)), (8, .if_icmp .gt 7, 3, (0, 0, 0))]
theorem K74_2 : zRk 74 B74_2 = true := zRw_ok (by decide +kernel)
noncomputable def B74_3 : List zRow := [(0, .iload_n 0, 1, (0, 0, 0)), (1, .iconst 1, 1, (0, 0, 0)), (2, .if_icmp .lt 13, 3, (0, 0, 0))]
theorem K74_3 : zRk 74 B74_3 = true := zRw_ok (by decide +kernel)
noncomputable def B75_0 : List zRow := [(13, .iconst 0, 1, (0, 0, 0))]
theorem K75_0 : zRk 75 B75_0 = true := zRw_ok (by decide +kernel)
noncomputable def B75_1 : List zRow := [(9, .iconst 1, 1, (0, 0, 0)), (10, .goto 4, 3, (0, 0, 0))]
theorem K75_1 : zRk 75 B75_1 = true := zRw_ok (by decide +kernel)
noncomputable def B75_2 : List zRow := [(0, .aload_n 0, 1, (0, 0, 0)), (1, .getfield 34, 3, (1, 1, 0)), (4, .bipush 30, 2, (0, 0, 0)), (6, .if_icmp .lt 7, 3, (0, 0, 0))]
theorem K75_2 : zRk 75 B75_2 = true := zRw_ok (by decide +kernel)
noncomputable def B77_0 : List zRow := [(0, .aload_n 0, 1, (0, 0, 0)), (1, .iload_n 1, 1, (0, 0, 0))]
theorem K77_0 : zRk 77 B77_0 = true := zRw_ok (by decide +kernel)
noncomputable def B77_1 : List zRow := [(18, .iload_n 2, 1, (0, 0, 0))]
theorem K77_1 : zRk 77 B77_1 = true := zRw_ok (by decide +kernel)
noncomputable def B77_2 : List zRow := [(8, .iconst 0, 1, (0, 0, 0)), (9, .iload_n 2, 1, (0, 0, 0)), (10, .iconst 2, 1, (0, 0, 0)), (11, .isub, 1, (0, 0, 0)), (12, .invokestatic 97, 3, (5004, 0, 0)), (15, .goto 4, 3, (0, 0, 0))]
theorem K77_2 : zRk 77 B77_2 = true := zRw_ok (by decide +kernel)
noncomputable def B77_3 : List zRow := [(5, .ifCond .eq 13, 3, (0, 0, 0))]
theorem K77_3 : zRk 77 B77_3 = true := zRw_ok (by decide +kernel)
noncomputable def B81_0 : List zRow := [(59, .iload_n 2, 1, (0, 0, 0)), (60, .iload_n 0, 1, (0, 0, 0)), (61, .if_icmp .le 12, 3, (0, 0, 0))]
theorem K81_0 : zRk 81 B81_0 = true := zRw_ok (by decide +kernel)
noncomputable def B81_1 : List zRow := [(46, .iload_n 1, 1, (0, 0, 0)), (47, .ifCond .ge 12, 3, (0, 0, 0))]
theorem K81_1 : zRk 81 B81_1 = true := zRw_ok (by decide +kernel)
noncomputable def B81_2 : List zRow := [(0, .iload_n 1, 1, (0, 0, 0)), (1, .iload_n 2, 1, (0, 0, 0)), (2, .if_icmp .le 44, 3, (0, 0, 0))]
theorem K81_2 : zRk 81 B81_2 = true := zRw_ok (by decide +kernel)
noncomputable def B80_0 : List zRow := [(0, .aload_n 0, 1, (0, 0, 0)), (1, .arraylength, 1, (0, 0, 0)), (2, .iload_n 1, 1, (0, 0, 0)), (3, .iload_n 2, 1, (0, 0, 0))]
theorem K80_0 : zRk 80 B80_0 = true := zRw_ok (by decide +kernel)
noncomputable def B80_1 : List zRow := [(7, .iload_n 1, 1, (0, 0, 0)), (8, .istore 4, 2, (0, 0, 0))]
theorem K80_1 : zRk 80 B80_1 = true := zRw_ok (by decide +kernel)
noncomputable def B80_2 : List zRow := [(16, .aload_n 0, 1, (0, 0, 0)), (17, .iload 4, 2, (0, 0, 0)), (19, .iload_n 3, 1, (0, 0, 0)), (20, .iastore, 1, (0, 0, 0)), (21, .iinc 4 1, 3, (0, 0, 0)), (24, .goto (-14), 3, (0, 0, 0))]
theorem K80_2 : zRk 80 B80_2 = true := zRw_ok (by decide +kernel)
noncomputable def B80_3 : List zRow := [(10, .iload 4, 2, (0, 0, 0)), (12, .iload_n 2, 1, (0, 0, 0)), (13, .if_icmp .ge 14, 3, (0, 0, 0))]
theorem K80_3 : zRk 80 B80_3 = true := zRw_ok (by decide +kernel)
noncomputable def B86_0 : List zRow := [(0, .ldc 87, 2, (0, 0, 1000000)), (2, .istore_n 2, 1, (0, 0, 0)), (3, .iload_n 1, 1, (0, 0, 0)), (4, .bipush 6, 2, (0, 0, 0)), (6, .imul, 1, (0, 0, 0)), (7, .istore_n 3, 1, (0, 0, 0))]
theorem K86_0 : zRk 86 B86_0 = true := zRw_ok (by decide +kernel)
noncomputable def B86_1 : List zRow := [(54, .aload_n 0, 1, (0, 0, 0)), (55, .getfield 27, 3, (1, 8, 5243002)), (58, .iload_n 1, 1, (0, 0, 0)), (59, .iload_n 2, 1, (0, 0, 0)), (60, .iastore, 1, (0, 0, 0))]
theorem K86_1 : zRk 86 B86_1 = true := zRw_ok (by decide +kernel)
noncomputable def B86_2 : List zRow := [(41, .aload_n 0, 1, (0, 0, 0)), (42, .getfield 15, 3, (1, 4, 5243602)), (45, .iload_n 3, 1, (0, 0, 0)), (46, .iaload, 1, (0, 0, 0)), (47, .istore_n 2, 1, (0, 0, 0))]
theorem K86_2 : zRk 86 B86_2 = true := zRw_ok (by decide +kernel)
noncomputable def B86_3 : List zRow := [(31, .aload_n 0, 1, (0, 0, 0)), (32, .getfield 15, 3, (1, 4, 5243602)), (35, .iload_n 3, 1, (0, 0, 0)), (36, .iaload, 1, (0, 0, 0)), (37, .iload_n 2, 1, (0, 0, 0)), (38, .if_icmp .ge 10, 3, (0, 0, 0))]
theorem K86_3 : zRk 86 B86_3 = true := zRw_ok (by decide +kernel)
noncomputable def B86_4 : List zRow := [(18, .aload_n 0, 1, (0, 0, 0)), (19, .getfield 15, 3, (1, 4, 5243602)), (22, .iload_n 3, 1, (0, 0, 0)), (23, .iaload, 1, (0, 0, 0)), (24, .aload_n 0, 1, (0, 0, 0)), (25, .getfield 30, 3, (1, 0, 0)), (28, .if_icmp .le 20, 3, (0, 0, 0))]
theorem K86_4 : zRk 86 B86_4 = true := zRw_ok (by decide +kernel)
noncomputable def B86_5 : List zRow := [(8, .iload_n 3, 1, (0, 0, 0)), (9, .iload_n 1, 1, (0, 0, 0)), (10, .iconst 1, 1, (0, 0, 0)), (11, .iadd, 1, (0, 0, 0)), (12, .bipush 6, 2, (0, 0, 0)), (14, .imul, 1, (0, 0, 0)), (15, .if_icmp .ge 39, 3, (0, 0, 0))]
theorem K86_5 : zRk 86 B86_5 = true := zRw_ok (by decide +kernel)
noncomputable def B86_6 : List zRow := [(48, .iinc 3 1, 3, (0, 0, 0)), (51, .goto (-43), 3, (0, 0, 0))]
theorem K86_6 : zRk 86 B86_6 = true := zRw_ok (by decide +kernel)
noncomputable def B83_0 : List zRow := [(0, .iload_n 0, 1, (0, 0, 0)), (1, .bipush 10, 2, (0, 0, 0)), (3, .idiv, 1, (0, 0, 0)), (4, .iload_n 1, 1, (0, 0, 0)), (5, .bipush 10, 2, (0, 0, 0)), (7, .idiv, 1, (0, 0, 0)), (8, .isub, 1, (0, 0, 0)), (9, .invokestatic 80, 3, (5002, 0, 0)), (12, .iload_n 0, 1, (0, 0, 0)), (13, .bipush 10, 2, (0, 0, 0)), (15, .irem, 1, (0, 0, 0)), (16, .iload_n 1, 1, (0, 0, 0)), (17, .bipush 10, 2, (0, 0, 0)), (19, .irem, 1, (0, 0, 0)), (20, .isub, 1, (0, 0, 0)), (21, .invokestatic 80, 3, (5002, 0, 0)), (24, .iadd, 1, (0, 0, 0))]
theorem K83_0 : zRk 83 B83_0 = true := zRw_ok (by decide +kernel)
noncomputable def B82_0 : List zRow := [(0, .aload_n 0, 1, (0, 0, 0)), (1, .getfield 15, 3, (9, 8, 5242906)), (4, .iload_n 1, 1, (0, 0, 0)), (5, .iaload, 1, (0, 0, 0)), (6, .iload_n 2, 1, (0, 0, 0))]
theorem K82_0 : zRk 82 B82_0 = true := zRw_ok (by decide +kernel)
noncomputable def B82_1 : List zRow := [(32, .iconst 0, 1, (0, 0, 0))]
theorem K82_1 : zRk 82 B82_1 = true := zRw_ok (by decide +kernel)
noncomputable def B82_2 : List zRow := [(23, .iload_n 3, 1, (0, 0, 0)), (24, .iload 4, 2, (0, 0, 0)), (26, .iconst 2, 1, (0, 0, 0)), (27, .idiv, 1, (0, 0, 0)), (28, .isub, 1, (0, 0, 0)), (29, .goto 4, 3, (0, 0, 0))]
theorem K82_2 : zRk 82 B82_2 = true := zRw_ok (by decide +kernel)
noncomputable def B82_3 : List zRow := [(17, .iload 4, 2, (0, 0, 0)), (19, .iload_n 3, 1, (0, 0, 0)), (20, .if_icmp .gt 12, 3, (0, 0, 0))]
theorem K82_3 : zRk 82 B82_3 = true := zRw_ok (by decide +kernel)
noncomputable def B82_4 : List zRow := [(10, .istore 4, 2, (0, 0, 0)), (12, .iload_n 3, 1, (0, 0, 0)), (13, .iconst 1, 1, (0, 0, 0)), (14, .if_icmp .lt 18, 3, (0, 0, 0))]
theorem K82_4 : zRk 82 B82_4 = true := zRw_ok (by decide +kernel)
noncomputable def B85_0 : List zRow := [(46, .iconst 1, 1, (0, 0, 0)), (47, .goto 4, 3, (0, 0, 0))]
theorem K85_0 : zRk 85 B85_0 = true := zRw_ok (by decide +kernel)
noncomputable def B85_1 : List zRow := [(32, .aload_n 0, 1, (0, 0, 0)), (33, .getfield 15, 3, (1, 4, 5243602)), (36, .iload 5, 2, (0, 0, 0)), (38, .iaload, 1, (0, 0, 0)), (39, .aload_n 0, 1, (0, 0, 0)), (40, .getfield 30, 3, (1, 0, 0)), (43, .if_icmp .gt 7, 3, (0, 0, 0))]
theorem K85_1 : zRk 85 B85_1 = true := zRw_ok (by decide +kernel)
noncomputable def B85_2 : List zRow := [(0, .iload_n 2, 1, (0, 0, 0)), (1, .bipush 6, 2, (0, 0, 0)), (3, .imul, 1, (0, 0, 0)), (4, .iload_n 3, 1, (0, 0, 0)), (5, .iadd, 1, (0, 0, 0)), (6, .istore 5, 2, (0, 0, 0)), (8, .aload_n 0, 1, (0, 0, 0)), (9, .getfield 30, 3, (1, 0, 0)), (12, .aload_n 1, 1, (0, 0, 0)), (13, .getfield 84, 3, (9, 9, 5242906)), (16, .iload_n 3, 1, (0, 0, 0)), (17, .iaload, 1, (0, 0, 0)), (18, .iadd, 1, (0, 0, 0)), (19, .istore 6, 2, (0, 0, 0)), (21, .aload_n 0, 1, (0, 0, 0)), (22, .getfield 15, 3, (1, 4, 5243602)), (25, .iload 5, 2, (0, 0, 0)), (27, .iaload, 1, (0, 0, 0)), (28, .iconst (-1), 1, (0, 0, 0)), (29, .if_icmp .eq 21, 3, (0, 0, 0))]
theorem K85_2 : zRk 85 B85_2 = true := zRw_ok (by decide +kernel)
noncomputable def B85_3 : List zRow := [(100, .iload 4, 2, (0, 0, 0)), (102, .aload_n 0, 1, (0, 0, 0)), (103, .getfield 18, 3, (1, 5, 5243602)), (106, .iload 5, 2, (0, 0, 0)), (108, .iaload, 1, (0, 0, 0)), (109, .if_icmp .le 21, 3, (0, 0, 0))]
theorem K85_3 : zRk 85 B85_3 = true := zRw_ok (by decide +kernel)
noncomputable def B85_4 : List zRow := [(88, .iload 6, 2, (0, 0, 0)), (90, .aload_n 0, 1, (0, 0, 0)), (91, .getfield 15, 3, (1, 4, 5243602)), (94, .iload 5, 2, (0, 0, 0)), (96, .iaload, 1, (0, 0, 0)), (97, .if_icmp .ne 33, 3, (0, 0, 0))]
theorem K85_4 : zRk 85 B85_4 = true := zRw_ok (by decide +kernel)
noncomputable def B85_5 : List zRow := [(76, .iload 6, 2, (0, 0, 0)), (78, .aload_n 0, 1, (0, 0, 0)), (79, .getfield 15, 3, (1, 4, 5243602)), (82, .iload 5, 2, (0, 0, 0)), (84, .iaload, 1, (0, 0, 0)), (85, .if_icmp .lt 27, 3, (0, 0, 0))]
theorem K85_5 : zRk 85 B85_5 = true := zRw_ok (by decide +kernel)
noncomputable def B85_6 : List zRow := [(65, .aload_n 0, 1, (0, 0, 0)), (66, .getfield 15, 3, (1, 4, 5243602)), (69, .iload 5, 2, (0, 0, 0)), (71, .iaload, 1, (0, 0, 0)), (72, .iconst (-1), 1, (0, 0, 0)), (73, .if_icmp .eq 39, 3, (0, 0, 0))]
theorem K85_6 : zRk 85 B85_6 = true := zRw_ok (by decide +kernel)
noncomputable def B85_7 : List zRow := [(59, .iload 7, 2, (0, 0, 0)), (61, .ifCond .eq 4, 3, (0, 0, 0))]
theorem K85_7 : zRk 85 B85_7 = true := zRw_ok (by decide +kernel)
noncomputable def B85_8 : List zRow := [(51, .istore 7, 2, (0, 0, 0)), (53, .iload 4, 2, (0, 0, 0)), (55, .iconst 1, 1, (0, 0, 0)), (56, .if_icmp .lt 8, 3, (0, 0, 0))]
theorem K85_8 : zRk 85 B85_8 = true := zRw_ok (by decide +kernel)
noncomputable def B85_9 : List zRow := [(112, .aload_n 0, 1, (0, 0, 0)), (113, .getfield 15, 3, (1, 4, 5243602)), (116, .iload 5, 2, (0, 0, 0)), (118, .iload 6, 2, (0, 0, 0)), (120, .iastore, 1, (0, 0, 0)), (121, .aload_n 0, 1, (0, 0, 0)), (122, .getfield 18, 3, (1, 5, 5243602)), (125, .iload 5, 2, (0, 0, 0)), (127, .iload 4, 2, (0, 0, 0)), (129, .iastore, 1, (0, 0, 0))]
theorem K85_9 : zRk 85 B85_9 = true := zRw_ok (by decide +kernel)
noncomputable def B85_10 : List zRow := [(50, .iconst 0, 1, (0, 0, 0))]
theorem K85_10 : zRk 85 B85_10 = true := zRw_ok (by decide +kernel)
noncomputable def B79_0 : List zRow := [(15, .iload 6, 2, (0, 0, 0)), (17, .bipush 8, 2, (0, 0, 0)), (19, .imul, 1, (0, 0, 0)), (20, .istore 7, 2, (0, 0, 0)), (22, .aload_n 0, 1, (0, 0, 0)), (23, .getfield 21, 3, (1, 6, 5243842)), (26, .iload 7, 2, (0, 0, 0)), (28, .iconst 0, 1, (0, 0, 0)), (29, .iadd, 1, (0, 0, 0)), (30, .iload 4, 2, (0, 0, 0)), (32, .iastore, 1, (0, 0, 0)), (33, .aload_n 0, 1, (0, 0, 0)), (34, .getfield 21, 3, (1, 6, 5243842)), (37, .iload 7, 2, (0, 0, 0)), (39, .iconst 1, 1, (0, 0, 0)), (40, .iadd, 1, (0, 0, 0)), (41, .iload_n 2, 1, (0, 0, 0)), (42, .iastore, 1, (0, 0, 0)), (43, .aload_n 0, 1, (0, 0, 0)), (44, .getfield 21, 3, (1, 6, 5243842)), (47, .iload 7, 2, (0, 0, 0)), (49, .iconst 2, 1, (0, 0, 0)), (50, .iadd, 1, (0, 0, 0)), (51, .aload_n 0, 1, (0, 0, 0)), (52, .getfield 30, 3, (1, 0, 0)), (55, .iastore, 1, (0, 0, 0)), (56, .aload_n 0, 1, (0, 0, 0)), (57, .getfield 21, 3, (1, 6, 5243842)), (60, .iload 7, 2, (0, 0, 0)), (62, .iconst 3, 1, (0, 0, 0)), (63, .iadd, 1, (0, 0, 0)), (64, .iload_n 3, 1, (0, 0, 0)), (65, .iastore, 1, (0, 0, 0)), (66, .aload_n 0, 1, (0, 0, 0)), (67, .getfield 21, 3, (1, 6, 5243842)), (70, .iload 7, 2, (0, 0, 0)), (72, .iconst 4, 1, (0, 0, 0)), (73, .iadd, 1, (0, 0, 0)), (74, .iload 5, 2, (0, 0, 0)), (76, .iastore, 1, (0, 0, 0)), (77, .aload_n 0, 1, (0, 0, 0)), (78, .getfield 21, 3, (1, 6, 5243842)), (81, .iload 7, 2, (0, 0, 0)), (83, .iconst 5, 1, (0, 0, 0)), (84, .iadd, 1, (0, 0, 0)), (85, .iconst 1, 1, (0, 0, 0)), (86, .iload_n 2, 1, (0, 0, 0)), (87, .ishl, 1, (0, 0, 0)), (88, .iastore, 1, (0, 0, 0)), (89, .aload_n 0, 1, (0, 0, 0)), (90, .getfield 21, 3, (1, 6, 5243842)), (93, .iload 7, 2, (0, 0, 0)), (95, .bipush 6, 2, (0, 0, 0)), (97, .iadd, 1, (0, 0, 0)), (98, .iconst 0, 1, (0, 0, 0)), (99, .iastore, 1, (0, 0, 0)), (100, .aload_n 0, 1, (0, 0, 0)), (101, .getfield 21, 3, (1, 6, 5243842)), (104, .iload 7, 2, (0, 0, 0)), (106, .bipush 7, 2, (0, 0, 0)), (108, .iadd, 1, (0, 0, 0)), (109, .iconst 0, 1, (0, 0, 0)), (110, .iastore, 1, (0, 0, 0)), (111, .aload_n 0, 1, (0, 0, 0)), (112, .getfield 15, 3, (1, 4, 5243602)), (115, .iload 6, 2, (0, 0, 0)), (117, .bipush 6, 2, (0, 0, 0)), (119, .imul, 1, (0, 0, 0)), (120, .iload 6, 2, (0, 0, 0)), (122, .iconst 1, 1, (0, 0, 0)), (123, .iadd, 1, (0, 0, 0)), (124, .bipush 6, 2, (0, 0, 0)), (126, .imul, 1, (0, 0, 0)), (127, .iconst (-1), 1, (0, 0, 0))]
theorem K79_0 : zRk 79 B79_0 = true := zRw_ok (by decide +kernel)
noncomputable def B79_1 : List zRow := [(131, .aload_n 0, 1, (0, 0, 0)), (132, .iload 6, 2, (0, 0, 0)), (134, .iconst 1, 1, (0, 0, 0)), (135, .iadd, 1, (0, 0, 0)), (136, .putfield 34, 3, (1, 1, 0)), (139, .iconst 0, 1, (0, 0, 0)), (140, .istore 8, 2, (0, 0, 0))]
theorem K79_1 : zRk 79 B79_1 = true := zRw_ok (by decide +kernel)
noncomputable def B79_2 : List zRow := [(13, .iconst (-1), 1, (0, 0, 0))]
theorem K79_2 : zRk 79 B79_2 = true := zRw_ok (by decide +kernel)
noncomputable def B79_3 : List zRow := [(0, .aload_n 0, 1, (0, 0, 0)), (1, .getfield 34, 3, (1, 1, 0)), (4, .istore 6, 2, (0, 0, 0)), (6, .iload 6, 2, (0, 0, 0)), (8, .bipush 30, 2, (0, 0, 0)), (10, .if_icmp .lt 5, 3, (0, 0, 0))]
theorem K79_3 : zRk 79 B79_3 = true := zRw_ok (by decide +kernel)
noncomputable def B79_4 : List zRow := [(175, .aload_n 0, 1, (0, 0, 0)), (176, .iload 6, 2, (0, 0, 0))]
theorem K79_4 : zRk 79 B79_4 = true := zRw_ok (by decide +kernel)
noncomputable def B79_5 : List zRow := [(181, .iload 6, 2, (0, 0, 0))]
theorem K79_5 : zRk 79 B79_5 = true := zRw_ok (by decide +kernel)
noncomputable def B79_6 : List zRow := [(151, .aload_n 0, 1, (0, 0, 0)), (152, .aload_n 1, 1, (0, 0, 0)), (153, .iload 6, 2, (0, 0, 0)), (155, .iload 8, 2, (0, 0, 0)), (157, .aload_n 1, 1, (0, 0, 0)), (158, .iload 8, 2, (0, 0, 0)), (160, .iload_n 3, 1, (0, 0, 0)), (161, .iload 5, 2, (0, 0, 0))]
theorem K79_6 : zRk 79 B79_6 = true := zRw_ok (by decide +kernel)
noncomputable def B79_7 : List zRow := [(169, .iinc 8 1, 3, (0, 0, 0)), (172, .goto (-30), 3, (0, 0, 0))]
theorem K79_7 : zRk 79 B79_7 = true := zRw_ok (by decide +kernel)
noncomputable def B79_8 : List zRow := [(142, .iload 8, 2, (0, 0, 0)), (144, .aload_n 1, 1, (0, 0, 0)), (145, .getfield 69, 3, (9, 2, 0)), (148, .if_icmp .ge 27, 3, (0, 0, 0))]
theorem K79_8 : zRk 79 B79_8 = true := zRw_ok (by decide +kernel)
noncomputable def B76_0 : List zRow := [(0, .aload_n 0, 1, (0, 0, 0)), (1, .getfield 9, 3, (1, 3, 5242906)), (4, .iload_n 2, 1, (0, 0, 0)), (5, .iaload, 1, (0, 0, 0)), (6, .istore 5, 2, (0, 0, 0)), (8, .aload_n 0, 1, (0, 0, 0)), (9, .aload_n 1, 1, (0, 0, 0)), (10, .iload_n 2, 1, (0, 0, 0)), (11, .iload 5, 2, (0, 0, 0)), (13, .iload_n 3, 1, (0, 0, 0)), (14, .aload_n 1, 1, (0, 0, 0)), (15, .iload 5, 2, (0, 0, 0)), (17, .iload 4, 2, (0, 0, 0))]
theorem K76_0 : zRk 76 B76_0 = true := zRw_ok (by decide +kernel)
noncomputable def B73_0 : List zRow := [(0, .aload_n 0, 1, (0, 0, 0)), (1, .iload_n 1, 1, (0, 0, 0))]
theorem K73_0 : zRk 73 B73_0 = true := zRw_ok (by decide +kernel)
noncomputable def B73_1 : List zRow := [(36, .iconst (-1), 1, (0, 0, 0))]
theorem K73_1 : zRk 73 B73_1 = true := zRw_ok (by decide +kernel)
noncomputable def B73_2 : List zRow := [(8, .iload_n 3, 1, (0, 0, 0))]
theorem K73_2 : zRk 73 B73_2 = true := zRw_ok (by decide +kernel)
noncomputable def B73_3 : List zRow := [(26, .aload_n 0, 1, (0, 0, 0)), (27, .getfield 56, 3, (11, 6, 7))]
theorem K73_3 : zRk 73 B73_3 = true := zRw_ok (by decide +kernel)
noncomputable def B73_4 : List zRow := [(38, .aload_n 0, 1, (0, 0, 0)), (39, .getfield 66, 3, (11, 8, 35)), (42, .aload_n 0, 1, (0, 0, 0)), (43, .getfield 56, 3, (11, 6, 7))]
theorem K73_4 : zRk 73 B73_4 = true := zRw_ok (by decide +kernel)
noncomputable def B73_5 : List zRow := [(49, .aload_n 0, 1, (0, 0, 0)), (50, .getfield 56, 3, (11, 6, 7)), (53, .aload_n 0, 1, (0, 0, 0)), (54, .getfield 19, 3, (11, 1, 39)), (57, .iload_n 1, 1, (0, 0, 0)), (58, .iload_n 2, 1, (0, 0, 0)), (59, .iload_n 3, 1, (0, 0, 0))]
theorem K73_5 : zRk 73 B73_5 = true := zRw_ok (by decide +kernel)
noncomputable def B73_6 : List zRow := [(33, .ifCond .eq 5, 3, (0, 0, 0))]
theorem K73_6 : zRk 73 B73_6 = true := zRw_ok (by decide +kernel)
noncomputable def B73_7 : List zRow := [(20, .iload_n 2, 1, (0, 0, 0)), (21, .bipush 99, 2, (0, 0, 0)), (23, .if_icmp .gt 13, 3, (0, 0, 0))]
theorem K73_7 : zRk 73 B73_7 = true := zRw_ok (by decide +kernel)
noncomputable def B73_8 : List zRow := [(15, .iload_n 2, 1, (0, 0, 0)), (16, .iconst 1, 1, (0, 0, 0)), (17, .if_icmp .lt 19, 3, (0, 0, 0))]
theorem K73_8 : zRk 73 B73_8 = true := zRw_ok (by decide +kernel)
noncomputable def B73_9 : List zRow := [(12, .ifCond .eq 24, 3, (0, 0, 0))]
theorem K73_9 : zRk 73 B73_9 = true := zRw_ok (by decide +kernel)
noncomputable def B73_10 : List zRow := [(5, .ifCond .eq 31, 3, (0, 0, 0))]
theorem K73_10 : zRk 73 B73_10 = true := zRw_ok (by decide +kernel)
noncomputable def B228_0 : List zRow := [(0, .iload_n 2, 1, (0, 0, 0)), (1, .aload_n 0, 1, (0, 0, 0)), (2, .getfield 13, 3, (12, 14, 5251442)), (5, .bipush 97, 2, (0, 0, 0)), (7, .iload_n 1, 1, (0, 0, 0))]
theorem K228_0 : zRk 228 B228_0 = true := zRw_ok (by decide +kernel)
noncomputable def B228_1 : List zRow := [(17, .iconst 0, 1, (0, 0, 0))]
theorem K228_1 : zRk 228 B228_1 = true := zRw_ok (by decide +kernel)
noncomputable def B228_2 : List zRow := [(13, .iconst 2, 1, (0, 0, 0)), (14, .goto 4, 3, (0, 0, 0))]
theorem K228_2 : zRk 228 B228_2 = true := zRw_ok (by decide +kernel)
noncomputable def B228_3 : List zRow := [(8, .iadd, 1, (0, 0, 0)), (9, .iaload, 1, (0, 0, 0)), (10, .ifCond .le 7, 3, (0, 0, 0))]
theorem K228_3 : zRk 228 B228_3 = true := zRw_ok (by decide +kernel)
noncomputable def B228_4 : List zRow := [(28, .iload_n 3, 1, (0, 0, 0))]
theorem K228_4 : zRk 228 B228_4 = true := zRw_ok (by decide +kernel)
noncomputable def B228_5 : List zRow := [(24, .iconst 0, 1, (0, 0, 0)), (25, .goto 4, 3, (0, 0, 0))]
theorem K228_5 : zRk 228 B228_5 = true := zRw_ok (by decide +kernel)
noncomputable def B228_6 : List zRow := [(18, .isub, 1, (0, 0, 0)), (19, .istore_n 3, 1, (0, 0, 0)), (20, .iload_n 3, 1, (0, 0, 0)), (21, .ifCond .ge 7, 3, (0, 0, 0))]
theorem K228_6 : zRk 228 B228_6 = true := zRw_ok (by decide +kernel)
