noncomputable def B114_0 : List zRow := [(0, .aload_n 0, 1, (0, 0, 0)), (1, .iload_n 1, 1, (0, 0, 0))]
theorem K114_0 : zRk 114 B114_0 = true := zRw_ok (by decide +kernel)
noncomputable def B114_1 : List zRow := [(15, .iconst (-1), 1, (0, 0, 0))]
theorem K114_1 : zRk 114 B114_1 = true := zRw_ok (by decide +kernel)
noncomputable def B114_2 : List zRow := [(8, .iload_n 2, 1, (0, 0, 0))]
theorem K114_2 : zRk 114 B114_2 = true := zRw_ok (by decide +kernel)
noncomputable def B114_3 : List zRow := [(17, .aload_n 0, 1, (0, 0, 0)), (18, .getfield 60, 3, (11, 7, 135)), (21, .aload_n 0, 1, (0, 0, 0)), (22, .getfield 56, 3, (11, 6, 7))]
theorem K114_3 : zRk 114 B114_3 = true := zRw_ok (by decide +kernel)
noncomputable def B114_4 : List zRow := [(28, .aload_n 0, 1, (0, 0, 0)), (29, .getfield 60, 3, (11, 7, 135)), (32, .aload_n 0, 1, (0, 0, 0)), (33, .getfield 19, 3, (11, 1, 39)), (36, .iload_n 2, 1, (0, 0, 0))]
theorem K114_4 : zRk 114 B114_4 = true := zRw_ok (by decide +kernel)
noncomputable def B114_5 : List zRow := [(40, .pop, 1, (0, 0, 0)), (41, .aload_n 0, 1, (0, 0, 0)), (42, .getfield 60, 3, (11, 7, 135)), (45, .iload_n 1, 1, (0, 0, 0)), (46, .iconst 5, 1, (0, 0, 0))]
theorem K114_5 : zRk 114 B114_5 = true := zRw_ok (by decide +kernel)
noncomputable def B114_6 : List zRow := [(12, .ifCond .ne 5, 3, (0, 0, 0))]
theorem K114_6 : zRk 114 B114_6 = true := zRw_ok (by decide +kernel)
noncomputable def B114_7 : List zRow := [(5, .ifCond .eq 10, 3, (0, 0, 0))]
theorem K114_7 : zRk 114 B114_7 = true := zRw_ok (by decide +kernel)
noncomputable def B255_0 : List zRow := [(0, .aload_n 0, 1, (0, 0, 0)), (1, .iconst 0, 1, (0, 0, 0)), (2, .putfield 81, 3, (12, 0, 0)), (5, .aload_n 0, 1, (0, 0, 0)), (6, .iload_n 1, 1, (0, 0, 0))]
theorem K255_0 : zRk 255 B255_0 = true := zRw_ok (by decide +kernel)
noncomputable def B255_1 : List zRow := [(20, .iconst (-1), 1, (0, 0, 0))]
theorem K255_1 : zRk 255 B255_1 = true := zRw_ok (by decide +kernel)
noncomputable def B255_2 : List zRow := [(13, .iload_n 2, 1, (0, 0, 0))]
theorem K255_2 : zRk 255 B255_2 = true := zRw_ok (by decide +kernel)
noncomputable def B255_3 : List zRow := [(22, .aload_n 0, 1, (0, 0, 0))]
theorem K255_3 : zRk 255 B255_3 = true := zRw_ok (by decide +kernel)
noncomputable def B255_4 : List zRow := [(26, .aload_n 0, 1, (0, 0, 0)), (27, .iload_n 2, 1, (0, 0, 0))]
theorem K255_4 : zRk 255 B255_4 = true := zRw_ok (by decide +kernel)
noncomputable def B255_5 : List zRow := [(31, .pop, 1, (0, 0, 0)), (32, .aload_n 0, 1, (0, 0, 0)), (33, .iload_n 1, 1, (0, 0, 0)), (34, .iconst 5, 1, (0, 0, 0))]
theorem K255_5 : zRk 255 B255_5 = true := zRw_ok (by decide +kernel)
noncomputable def B255_6 : List zRow := [(38, .istore_n 3, 1, (0, 0, 0)), (39, .aload_n 0, 1, (0, 0, 0))]
theorem K255_6 : zRk 255 B255_6 = true := zRw_ok (by decide +kernel)
noncomputable def B255_7 : List zRow := [(43, .iload_n 3, 1, (0, 0, 0))]
theorem K255_7 : zRk 255 B255_7 = true := zRw_ok (by decide +kernel)
noncomputable def B255_8 : List zRow := [(17, .ifCond .ne 5, 3, (0, 0, 0))]
theorem K255_8 : zRk 255 B255_8 = true := zRw_ok (by decide +kernel)
noncomputable def B255_9 : List zRow := [(10, .ifCond .eq 10, 3, (0, 0, 0))]
theorem K255_9 : zRk 255 B255_9 = true := zRw_ok (by decide +kernel)
noncomputable def B115_0 : List zRow := [(0, .aload_n 0, 1, (0, 0, 0)), (1, .iload_n 1, 1, (0, 0, 0))]
theorem K115_0 : zRk 115 B115_0 = true := zRw_ok (by decide +kernel)
noncomputable def B115_1 : List zRow := [(27, .iconst (-1), 1, (0, 0, 0))]
theorem K115_1 : zRk 115 B115_1 = true := zRw_ok (by decide +kernel)
noncomputable def B115_2 : List zRow := [(8, .aload_n 0, 1, (0, 0, 0)), (9, .iload_n 2, 1, (0, 0, 0))]
theorem K115_2 : zRk 115 B115_2 = true := zRw_ok (by decide +kernel)
noncomputable def B115_3 : List zRow := [(29, .aload_n 0, 1, (0, 0, 0)), (30, .getfield 60, 3, (11, 7, 135)), (33, .aload_n 0, 1, (0, 0, 0)), (34, .getfield 56, 3, (11, 6, 7))]
theorem K115_3 : zRk 115 B115_3 = true := zRw_ok (by decide +kernel)
noncomputable def B115_4 : List zRow := [(40, .aload_n 0, 1, (0, 0, 0)), (41, .getfield 60, 3, (11, 7, 135)), (44, .aload_n 0, 1, (0, 0, 0)), (45, .getfield 19, 3, (11, 1, 39)), (48, .iload_n 3, 1, (0, 0, 0))]
theorem K115_4 : zRk 115 B115_4 = true := zRw_ok (by decide +kernel)
noncomputable def B115_5 : List zRow := [(52, .pop, 1, (0, 0, 0)), (53, .aload_n 0, 1, (0, 0, 0)), (54, .getfield 56, 3, (11, 6, 7)), (57, .getfield 208, 3, (1, 2, 0)), (60, .istore 4, 2, (0, 0, 0))]
theorem K115_5 : zRk 115 B115_5 = true := zRw_ok (by decide +kernel)
noncomputable def B115_6 : List zRow := [(21, .iload_n 3, 1, (0, 0, 0)), (22, .bipush 100, 2, (0, 0, 0)), (24, .if_icmp .le 5, 3, (0, 0, 0))]
theorem K115_6 : zRk 115 B115_6 = true := zRw_ok (by decide +kernel)
noncomputable def B115_7 : List zRow := [(16, .iload_n 3, 1, (0, 0, 0)), (17, .iconst 1, 1, (0, 0, 0)), (18, .if_icmp .lt 9, 3, (0, 0, 0))]
theorem K115_7 : zRk 115 B115_7 = true := zRw_ok (by decide +kernel)
noncomputable def B115_8 : List zRow := [(13, .ifCond .eq 14, 3, (0, 0, 0))]
theorem K115_8 : zRk 115 B115_8 = true := zRw_ok (by decide +kernel)
noncomputable def B115_9 : List zRow := [(5, .ifCond .eq 22, 3, (0, 0, 0))]
theorem K115_9 : zRk 115 B115_9 = true := zRw_ok (by decide +kernel)
noncomputable def B115_10 : List zRow := [(122, .iconst (-1), 1, (0, 0, 0))]
theorem K115_10 : zRk 115 B115_10 = true := zRw_ok (by decide +kernel)
noncomputable def B115_11 : List zRow := [(74, .aload_n 0, 1, (0, 0, 0)), (75, .getfield 60, 3, (11, 7, 135)), (78, .iload 4, 2, (0, 0, 0)), (80, .iconst 0, 1, (0, 0, 0))]
theorem K115_11 : zRk 115 B115_11 = true := zRw_ok (by decide +kernel)
noncomputable def B115_12 : List zRow := [(88, .aload_n 0, 1, (0, 0, 0)), (89, .getfield 60, 3, (11, 7, 135)), (92, .iload 4, 2, (0, 0, 0)), (94, .iconst 4, 1, (0, 0, 0))]
theorem K115_12 : zRk 115 B115_12 = true := zRw_ok (by decide +kernel)
noncomputable def B115_13 : List zRow := [(98, .iload_n 1, 1, (0, 0, 0))]
theorem K115_13 : zRk 115 B115_13 = true := zRw_ok (by decide +kernel)
noncomputable def B115_14 : List zRow := [(105, .aload_n 0, 1, (0, 0, 0)), (106, .getfield 60, 3, (11, 7, 135)), (109, .iload 4, 2, (0, 0, 0)), (111, .iconst 2, 1, (0, 0, 0))]
theorem K115_14 : zRk 115 B115_14 = true := zRw_ok (by decide +kernel)
noncomputable def B115_15 : List zRow := [(102, .ifCond .eq 14, 3, (0, 0, 0))]
theorem K115_15 : zRk 115 B115_15 = true := zRw_ok (by decide +kernel)
noncomputable def B115_16 : List zRow := [(84, .iload_n 2, 1, (0, 0, 0)), (85, .if_icmp .ne 31, 3, (0, 0, 0))]
theorem K115_16 : zRk 115 B115_16 = true := zRw_ok (by decide +kernel)
noncomputable def B115_17 : List zRow := [(62, .iload 4, 2, (0, 0, 0)), (64, .aload_n 0, 1, (0, 0, 0)), (65, .getfield 60, 3, (11, 7, 135)), (68, .getfield 208, 3, (1, 2, 0)), (71, .if_icmp .ge 51, 3, (0, 0, 0))]
theorem K115_17 : zRk 115 B115_17 = true := zRw_ok (by decide +kernel)
noncomputable def B115_18 : List zRow := [(116, .iinc 4 1, 3, (0, 0, 0)), (119, .goto (-57), 3, (0, 0, 0))]
theorem K115_18 : zRk 115 B115_18 = true := zRw_ok (by decide +kernel)
noncomputable def B256_0 : List zRow := [(0, .aload_n 0, 1, (0, 0, 0)), (1, .iconst 0, 1, (0, 0, 0)), (2, .putfield 81, 3, (12, 0, 0)), (5, .aload_n 0, 1, (0, 0, 0)), (6, .iload_n 1, 1, (0, 0, 0))]
theorem K256_0 : zRk 256 B256_0 = true := zRw_ok (by decide +kernel)
noncomputable def B256_1 : List zRow := [(31, .iconst (-1), 1, (0, 0, 0))]
theorem K256_1 : zRk 256 B256_1 = true := zRw_ok (by decide +kernel)
noncomputable def B256_2 : List zRow := [(13, .aload_n 0, 1, (0, 0, 0)), (14, .iload_n 2, 1, (0, 0, 0))]
theorem K256_2 : zRk 256 B256_2 = true := zRw_ok (by decide +kernel)
noncomputable def B256_3 : List zRow := [(21, .iload_n 3, 1, (0, 0, 0)), (22, .iconst 1, 1, (0, 0, 0)), (23, .bipush 100, 2, (0, 0, 0))]
theorem K256_3 : zRk 256 B256_3 = true := zRw_ok (by decide +kernel)
noncomputable def B256_4 : List zRow := [(33, .aload_n 0, 1, (0, 0, 0))]
theorem K256_4 : zRk 256 B256_4 = true := zRw_ok (by decide +kernel)
noncomputable def B256_5 : List zRow := [(37, .aload_n 0, 1, (0, 0, 0)), (38, .getfield 13, 3, (12, 14, 5251442)), (41, .sipush 997, 3, (0, 0, 0)), (44, .iaload, 1, (0, 0, 0)), (45, .istore 4, 2, (0, 0, 0)), (47, .aload_n 0, 1, (0, 0, 0)), (48, .iload_n 3, 1, (0, 0, 0))]
theorem K256_5 : zRk 256 B256_5 = true := zRw_ok (by decide +kernel)
noncomputable def B256_6 : List zRow := [(52, .pop, 1, (0, 0, 0)), (53, .iconst (-1), 1, (0, 0, 0)), (54, .istore 5, 2, (0, 0, 0)), (56, .iload 4, 2, (0, 0, 0)), (58, .istore 6, 2, (0, 0, 0))]
theorem K256_6 : zRk 256 B256_6 = true := zRw_ok (by decide +kernel)
noncomputable def B256_7 : List zRow := [(28, .ifCond .ne 5, 3, (0, 0, 0))]
theorem K256_7 : zRk 256 B256_7 = true := zRw_ok (by decide +kernel)
noncomputable def B256_8 : List zRow := [(18, .ifCond .eq 13, 3, (0, 0, 0))]
theorem K256_8 : zRk 256 B256_8 = true := zRw_ok (by decide +kernel)
noncomputable def B256_9 : List zRow := [(10, .ifCond .eq 21, 3, (0, 0, 0))]
theorem K256_9 : zRk 256 B256_9 = true := zRw_ok (by decide +kernel)
noncomputable def B256_10 : List zRow := [(79, .aload_n 0, 1, (0, 0, 0)), (80, .getfield 13, 3, (12, 14, 5251442)), (83, .sipush 998, 3, (0, 0, 0)), (86, .iconst 5, 1, (0, 0, 0)), (87, .iload 6, 2, (0, 0, 0))]
theorem K256_10 : zRk 256 B256_10 = true := zRw_ok (by decide +kernel)
noncomputable def B256_11 : List zRow := [(89, .imul, 1, (0, 0, 0))]
theorem K256_11 : zRk 256 B256_11 = true := zRw_ok (by decide +kernel)
noncomputable def B256_12 : List zRow := [(96, .aload_n 0, 1, (0, 0, 0)), (97, .getfield 13, 3, (12, 14, 5251442)), (100, .sipush 998, 3, (0, 0, 0)), (103, .iconst 5, 1, (0, 0, 0)), (104, .iload 6, 2, (0, 0, 0))]
theorem K256_12 : zRk 256 B256_12 = true := zRw_ok (by decide +kernel)
noncomputable def B256_13 : List zRow := [(106, .imul, 1, (0, 0, 0))]
theorem K256_13 : zRk 256 B256_13 = true := zRw_ok (by decide +kernel)
noncomputable def B256_14 : List zRow := [(107, .iadd, 1, (0, 0, 0)), (108, .iconst 4, 1, (0, 0, 0)), (109, .iadd, 1, (0, 0, 0)), (110, .iaload, 1, (0, 0, 0)), (111, .iload_n 1, 1, (0, 0, 0))]
theorem K256_14 : zRk 256 B256_14 = true := zRw_ok (by decide +kernel)
noncomputable def B256_15 : List zRow := [(118, .aload_n 0, 1, (0, 0, 0)), (119, .getfield 13, 3, (12, 14, 5251442)), (122, .sipush 998, 3, (0, 0, 0)), (125, .iconst 5, 1, (0, 0, 0)), (126, .iload 6, 2, (0, 0, 0))]
theorem K256_15 : zRk 256 B256_15 = true := zRw_ok (by decide +kernel)
noncomputable def B256_16 : List zRow := [(128, .imul, 1, (0, 0, 0))]
theorem K256_16 : zRk 256 B256_16 = true := zRw_ok (by decide +kernel)
noncomputable def B256_17 : List zRow := [(129, .iadd, 1, (0, 0, 0)), (130, .iconst 2, 1, (0, 0, 0)), (131, .iadd, 1, (0, 0, 0)), (132, .iaload, 1, (0, 0, 0)), (133, .istore 5, 2, (0, 0, 0))]
theorem K256_17 : zRk 256 B256_17 = true := zRw_ok (by decide +kernel)
noncomputable def B256_18 : List zRow := [(115, .ifCond .eq 20, 3, (0, 0, 0))]
theorem K256_18 : zRk 256 B256_18 = true := zRw_ok (by decide +kernel)
noncomputable def B256_19 : List zRow := [(90, .iadd, 1, (0, 0, 0)), (91, .iaload, 1, (0, 0, 0)), (92, .iload_n 2, 1, (0, 0, 0)), (93, .if_icmp .ne 42, 3, (0, 0, 0))]
theorem K256_19 : zRk 256 B256_19 = true := zRw_ok (by decide +kernel)
noncomputable def B256_20 : List zRow := [(73, .iload 5, 2, (0, 0, 0)), (75, .iconst (-1), 1, (0, 0, 0)), (76, .if_icmp .ne 65, 3, (0, 0, 0))]
theorem K256_20 : zRk 256 B256_20 = true := zRw_ok (by decide +kernel)
noncomputable def B256_21 : List zRow := [(60, .iload 6, 2, (0, 0, 0)), (62, .aload_n 0, 1, (0, 0, 0)), (63, .getfield 13, 3, (12, 14, 5251442)), (66, .sipush 997, 3, (0, 0, 0)), (69, .iaload, 1, (0, 0, 0)), (70, .if_icmp .ge 71, 3, (0, 0, 0))]
theorem K256_21 : zRk 256 B256_21 = true := zRw_ok (by decide +kernel)
noncomputable def B256_22 : List zRow := [(135, .iinc 6 1, 3, (0, 0, 0)), (138, .goto (-78), 3, (0, 0, 0))]
theorem K256_22 : zRk 256 B256_22 = true := zRw_ok (by decide +kernel)
noncomputable def B256_23 : List zRow := [(141, .aload_n 0, 1, (0, 0, 0))]
theorem K256_23 : zRk 256 B256_23 = true := zRw_ok (by decide +kernel)
noncomputable def B256_24 : List zRow := [(145, .iload 5, 2, (0, 0, 0))]
theorem K256_24 : zRk 256 B256_24 = true := zRw_ok (by decide +kernel)
noncomputable def B116_0 : List zRow := [(0, .aload_n 0, 1, (0, 0, 0)), (1, .iload_n 1, 1, (0, 0, 0))]
theorem K116_0 : zRk 116 B116_0 = true := zRw_ok (by decide +kernel)
noncomputable def B116_1 : List zRow := [(23, .iconst (-1), 1, (0, 0, 0))]
theorem K116_1 : zRk 116 B116_1 = true := zRw_ok (by decide +kernel)
noncomputable def B116_2 : List zRow := [(8, .aload_n 0, 1, (0, 0, 0)), (9, .iload_n 2, 1, (0, 0, 0))]
theorem K116_2 : zRk 116 B116_2 = true := zRw_ok (by decide +kernel)
noncomputable def B116_3 : List zRow := [(16, .iload_n 3, 1, (0, 0, 0))]
theorem K116_3 : zRk 116 B116_3 = true := zRw_ok (by decide +kernel)
noncomputable def B116_4 : List zRow := [(25, .aload_n 0, 1, (0, 0, 0)), (26, .getfield 60, 3, (11, 7, 135)), (29, .aload_n 0, 1, (0, 0, 0)), (30, .getfield 56, 3, (11, 6, 7))]
theorem K116_4 : zRk 116 B116_4 = true := zRw_ok (by decide +kernel)
noncomputable def B116_5 : List zRow := [(36, .iconst 0, 1, (0, 0, 0)), (37, .istore 4, 2, (0, 0, 0)), (39, .iconst 0, 1, (0, 0, 0)), (40, .istore 5, 2, (0, 0, 0))]
theorem K116_5 : zRk 116 B116_5 = true := zRw_ok (by decide +kernel)
noncomputable def B116_6 : List zRow := [(20, .ifCond .ne 5, 3, (0, 0, 0))]
theorem K116_6 : zRk 116 B116_6 = true := zRw_ok (by decide +kernel)
noncomputable def B116_7 : List zRow := [(13, .ifCond .eq 10, 3, (0, 0, 0))]
theorem K116_7 : zRk 116 B116_7 = true := zRw_ok (by decide +kernel)
noncomputable def B116_8 : List zRow := [(5, .ifCond .eq 18, 3, (0, 0, 0))]
theorem K116_8 : zRk 116 B116_8 = true := zRw_ok (by decide +kernel)
noncomputable def B116_9 : List zRow := [(103, .iload 4, 2, (0, 0, 0))]
theorem K116_9 : zRk 116 B116_9 = true := zRw_ok (by decide +kernel)
noncomputable def B116_10 : List zRow := [(61, .aload_n 0, 1, (0, 0, 0)), (62, .getfield 60, 3, (11, 7, 135)), (65, .aload_n 0, 1, (0, 0, 0)), (66, .getfield 19, 3, (11, 1, 39)), (69, .iconst 0, 1, (0, 0, 0))]
theorem K116_10 : zRk 116 B116_10 = true := zRw_ok (by decide +kernel)
noncomputable def B116_11 : List zRow := [(94, .iinc 4 1, 3, (0, 0, 0))]
theorem K116_11 : zRk 116 B116_11 = true := zRw_ok (by decide +kernel)
noncomputable def B116_12 : List zRow := [(73, .aload_n 0, 1, (0, 0, 0)), (74, .getfield 60, 3, (11, 7, 135)), (77, .getfield 177, 3, (1, 3, 5242906)), (80, .iload_n 1, 1, (0, 0, 0)), (81, .iaload, 1, (0, 0, 0)), (82, .aload_n 0, 1, (0, 0, 0)), (83, .getfield 60, 3, (11, 7, 135)), (86, .getfield 177, 3, (1, 3, 5242906)), (89, .iload_n 2, 1, (0, 0, 0)), (90, .iaload, 1, (0, 0, 0)), (91, .if_icmp .ne 6, 3, (0, 0, 0))]
theorem K116_12 : zRk 116 B116_12 = true := zRw_ok (by decide +kernel)
noncomputable def B116_13 : List zRow := [(48, .aload_n 0, 1, (0, 0, 0)), (49, .getfield 60, 3, (11, 7, 135)), (52, .getfield 159, 3, (1, 0, 0)), (55, .sipush 400, 3, (0, 0, 0)), (58, .if_icmp .ge 45, 3, (0, 0, 0))]
theorem K116_13 : zRk 116 B116_13 = true := zRw_ok (by decide +kernel)
noncomputable def B116_14 : List zRow := [(42, .iload 5, 2, (0, 0, 0)), (44, .iload_n 3, 1, (0, 0, 0)), (45, .if_icmp .ge 58, 3, (0, 0, 0))]
theorem K116_14 : zRk 116 B116_14 = true := zRw_ok (by decide +kernel)
noncomputable def B116_15 : List zRow := [(97, .iinc 5 1, 3, (0, 0, 0)), (100, .goto (-58), 3, (0, 0, 0))]
theorem K116_15 : zRk 116 B116_15 = true := zRw_ok (by decide +kernel)
noncomputable def B257_0 : List zRow := [(0, .aload_n 0, 1, (0, 0, 0)), (1, .iconst 0, 1, (0, 0, 0)), (2, .putfield 81, 3, (12, 0, 0)), (5, .aload_n 0, 1, (0, 0, 0)), (6, .iload_n 1, 1, (0, 0, 0))]
theorem K257_0 : zRk 257 B257_0 = true := zRw_ok (by decide +kernel)
noncomputable def B257_1 : List zRow := [(28, .iconst (-1), 1, (0, 0, 0))]
theorem K257_1 : zRk 257 B257_1 = true := zRw_ok (by decide +kernel)
noncomputable def B257_2 : List zRow := [(13, .aload_n 0, 1, (0, 0, 0)), (14, .iload_n 2, 1, (0, 0, 0))]
theorem K257_2 : zRk 257 B257_2 = true := zRw_ok (by decide +kernel)
noncomputable def B257_3 : List zRow := [(21, .iload_n 3, 1, (0, 0, 0))]
theorem K257_3 : zRk 257 B257_3 = true := zRw_ok (by decide +kernel)
noncomputable def B257_4 : List zRow := [(30, .aload_n 0, 1, (0, 0, 0))]
theorem K257_4 : zRk 257 B257_4 = true := zRw_ok (by decide +kernel)
noncomputable def B257_5 : List zRow := [(34, .iconst 0, 1, (0, 0, 0)), (35, .istore 4, 2, (0, 0, 0)), (37, .iconst 0, 1, (0, 0, 0)), (38, .istore 5, 2, (0, 0, 0))]
theorem K257_5 : zRk 257 B257_5 = true := zRw_ok (by decide +kernel)
noncomputable def B257_6 : List zRow := [(25, .ifCond .ne 5, 3, (0, 0, 0))]
theorem K257_6 : zRk 257 B257_6 = true := zRw_ok (by decide +kernel)
noncomputable def B257_7 : List zRow := [(18, .ifCond .eq 10, 3, (0, 0, 0))]
theorem K257_7 : zRk 257 B257_7 = true := zRw_ok (by decide +kernel)
noncomputable def B257_8 : List zRow := [(10, .ifCond .eq 18, 3, (0, 0, 0))]
theorem K257_8 : zRk 257 B257_8 = true := zRw_ok (by decide +kernel)
noncomputable def B257_9 : List zRow := [(60, .aload_n 0, 1, (0, 0, 0)), (61, .getfield 13, 3, (12, 14, 5251442)), (64, .sipush 209, 3, (0, 0, 0)), (67, .dup2, 1, (0, 0, 0)), (68, .iaload, 1, (0, 0, 0)), (69, .iconst 1, 1, (0, 0, 0)), (70, .iadd, 1, (0, 0, 0)), (71, .iastore, 1, (0, 0, 0)), (72, .aload_n 0, 1, (0, 0, 0)), (73, .aload_n 0, 1, (0, 0, 0)), (74, .getfield 13, 3, (12, 14, 5251442)), (77, .sipush 209, 3, (0, 0, 0)), (80, .iaload, 1, (0, 0, 0))]
theorem K257_9 : zRk 257 B257_9 = true := zRw_ok (by decide +kernel)
noncomputable def B257_10 : List zRow := [(84, .aload_n 0, 1, (0, 0, 0)), (85, .getfield 13, 3, (12, 14, 5251442)), (88, .sipush 210, 3, (0, 0, 0)), (91, .iload_n 1, 1, (0, 0, 0))]
theorem K257_10 : zRk 257 B257_10 = true := zRw_ok (by decide +kernel)
noncomputable def B257_11 : List zRow := [(92, .iadd, 1, (0, 0, 0)), (93, .iaload, 1, (0, 0, 0)), (94, .aload_n 0, 1, (0, 0, 0)), (95, .getfield 13, 3, (12, 14, 5251442)), (98, .sipush 210, 3, (0, 0, 0)), (101, .iload_n 2, 1, (0, 0, 0))]
theorem K257_11 : zRk 257 B257_11 = true := zRw_ok (by decide +kernel)
noncomputable def B257_12 : List zRow := [(107, .iinc 4 1, 3, (0, 0, 0))]
theorem K257_12 : zRk 257 B257_12 = true := zRw_ok (by decide +kernel)
noncomputable def B257_13 : List zRow := [(102, .iadd, 1, (0, 0, 0)), (103, .iaload, 1, (0, 0, 0)), (104, .if_icmp .ne 6, 3, (0, 0, 0))]
theorem K257_13 : zRk 257 B257_13 = true := zRw_ok (by decide +kernel)
noncomputable def B257_14 : List zRow := [(46, .aload_n 0, 1, (0, 0, 0)), (47, .getfield 13, 3, (12, 14, 5251442)), (50, .sipush 209, 3, (0, 0, 0)), (53, .iaload, 1, (0, 0, 0)), (54, .sipush 400, 3, (0, 0, 0)), (57, .if_icmp .ge 59, 3, (0, 0, 0))]
theorem K257_14 : zRk 257 B257_14 = true := zRw_ok (by decide +kernel)
noncomputable def B257_15 : List zRow := [(40, .iload 5, 2, (0, 0, 0)), (42, .iload_n 3, 1, (0, 0, 0)), (43, .if_icmp .ge 73, 3, (0, 0, 0))]
theorem K257_15 : zRk 257 B257_15 = true := zRw_ok (by decide +kernel)
noncomputable def B257_16 : List zRow := [(110, .iinc 5 1, 3, (0, 0, 0)), (113, .goto (-73), 3, (0, 0, 0))]
theorem K257_16 : zRk 257 B257_16 = true := zRw_ok (by decide +kernel)
noncomputable def B257_17 : List zRow := [(116, .aload_n 0, 1, (0, 0, 0))]
theorem K257_17 : zRk 257 B257_17 = true := zRw_ok (by decide +kernel)
noncomputable def B257_18 : List zRow := [(120, .iload 4, 2, (0, 0, 0))]
theorem K257_18 : zRk 257 B257_18 = true := zRw_ok (by decide +kernel)
noncomputable def B117_0 : List zRow := [(0, .aload_n 0, 1, (0, 0, 0)), (1, .getfield 19, 3, (11, 1, 39)), (4, .iload_n 1, 1, (0, 0, 0))]
theorem K117_0 : zRk 117 B117_0 = true := zRw_ok (by decide +kernel)
noncomputable def B117_1 : List zRow := [(13, .aload_n 0, 1, (0, 0, 0)), (14, .getfield 19, 3, (11, 1, 39)), (17, .iload_n 1, 1, (0, 0, 0)), (18, .iconst 0, 1, (0, 0, 0)), (19, .iload_n 2, 1, (0, 0, 0)), (20, .invokestatic 166, 3, (5004, 0, 0))]
theorem K117_1 : zRk 117 B117_1 = true := zRw_ok (by decide +kernel)
noncomputable def B117_2 : List zRow := [(26, .istore_n 3, 1, (0, 0, 0)), (27, .iconst (-1), 1, (0, 0, 0)), (28, .istore 4, 2, (0, 0, 0)), (30, .iconst 0, 1, (0, 0, 0)), (31, .istore 5, 2, (0, 0, 0)), (33, .iconst 0, 1, (0, 0, 0)), (34, .istore 6, 2, (0, 0, 0))]
theorem K117_2 : zRk 117 B117_2 = true := zRw_ok (by decide +kernel)
noncomputable def B117_3 : List zRow := [(11, .iconst (-1), 1, (0, 0, 0))]
theorem K117_3 : zRk 117 B117_3 = true := zRw_ok (by decide +kernel)
noncomputable def B117_4 : List zRow := [(8, .ifCond .ne 5, 3, (0, 0, 0))]
theorem K117_4 : zRk 117 B117_4 = true := zRw_ok (by decide +kernel)
noncomputable def B117_5 : List zRow := [(95, .iload 4, 2, (0, 0, 0))]
theorem K117_5 : zRk 117 B117_5 = true := zRw_ok (by decide +kernel)
noncomputable def B117_6 : List zRow := [(48, .aload_n 0, 1, (0, 0, 0)), (49, .getfield 19, 3, (11, 1, 39)), (52, .iload 6, 2, (0, 0, 0)), (54, .iload_n 1, 1, (0, 0, 0)), (55, .iload_n 3, 1, (0, 0, 0))]
theorem K117_6 : zRk 117 B117_6 = true := zRw_ok (by decide +kernel)
noncomputable def B117_7 : List zRow := [(81, .iload 7, 2, (0, 0, 0)), (83, .istore 5, 2, (0, 0, 0)), (85, .iload 6, 2, (0, 0, 0)), (87, .istore 4, 2, (0, 0, 0))]
theorem K117_7 : zRk 117 B117_7 = true := zRw_ok (by decide +kernel)
noncomputable def B117_8 : List zRow := [(59, .aload_n 0, 1, (0, 0, 0)), (60, .getfield 19, 3, (11, 1, 39)), (63, .getfield 156, 3, (9, 10, 5242906)), (66, .iload 6, 2, (0, 0, 0)), (68, .iaload, 1, (0, 0, 0)), (69, .invokestatic 288, 3, (5003, 0, 0)), (72, .istore 7, 2, (0, 0, 0)), (74, .iload 7, 2, (0, 0, 0)), (76, .iload 5, 2, (0, 0, 0)), (78, .if_icmp .le 11, 3, (0, 0, 0))]
theorem K117_8 : zRk 117 B117_8 = true := zRw_ok (by decide +kernel)
noncomputable def B117_9 : List zRow := [(36, .iload 6, 2, (0, 0, 0)), (38, .aload_n 0, 1, (0, 0, 0)), (39, .getfield 19, 3, (11, 1, 39)), (42, .getfield 282, 3, (9, 2, 0)), (45, .if_icmp .ge 50, 3, (0, 0, 0))]
theorem K117_9 : zRk 117 B117_9 = true := zRw_ok (by decide +kernel)
noncomputable def B117_10 : List zRow := [(89, .iinc 6 1, 3, (0, 0, 0)), (92, .goto (-56), 3, (0, 0, 0))]
theorem K117_10 : zRk 117 B117_10 = true := zRw_ok (by decide +kernel)
noncomputable def B259_0 : List zRow := [(33, .iconst 0, 1, (0, 0, 0))]
theorem K259_0 : zRk 259 B259_0 = true := zRw_ok (by decide +kernel)
noncomputable def B259_1 : List zRow := [(4, .iload_n 2, 1, (0, 0, 0)), (5, .aload_n 0, 1, (0, 0, 0)), (6, .iload_n 1, 1, (0, 0, 0))]
theorem K259_1 : zRk 259 B259_1 = true := zRw_ok (by decide +kernel)
noncomputable def B259_2 : List zRow := [(17, .iload_n 3, 1, (0, 0, 0)), (18, .iload_n 2, 1, (0, 0, 0)), (19, .aload_n 0, 1, (0, 0, 0)), (20, .iload_n 1, 1, (0, 0, 0))]
theorem K259_2 : zRk 259 B259_2 = true := zRw_ok (by decide +kernel)
noncomputable def B259_3 : List zRow := [(27, .iconst 2, 1, (0, 0, 0)), (28, .idiv, 1, (0, 0, 0)), (29, .isub, 1, (0, 0, 0)), (30, .goto 4, 3, (0, 0, 0))]
theorem K259_3 : zRk 259 B259_3 = true := zRw_ok (by decide +kernel)
noncomputable def B259_4 : List zRow := [(13, .iload_n 3, 1, (0, 0, 0)), (14, .if_icmp .gt 19, 3, (0, 0, 0))]
theorem K259_4 : zRk 259 B259_4 = true := zRw_ok (by decide +kernel)
noncomputable def B259_5 : List zRow := [(0, .iload_n 3, 1, (0, 0, 0)), (1, .ifCond .le 32, 3, (0, 0, 0))]
theorem K259_5 : zRk 259 B259_5 = true := zRw_ok (by decide +kernel)
noncomputable def B258_0 : List zRow := [(0, .aload_n 0, 1, (0, 0, 0)), (1, .iconst 0, 1, (0, 0, 0)), (2, .putfield 81, 3, (12, 0, 0)), (5, .aload_n 0, 1, (0, 0, 0)), (6, .iload_n 1, 1, (0, 0, 0))]
theorem K258_0 : zRk 258 B258_0 = true := zRw_ok (by decide +kernel)
noncomputable def B258_1 : List zRow := [(23, .iconst (-1), 1, (0, 0, 0))]
theorem K258_1 : zRk 258 B258_1 = true := zRw_ok (by decide +kernel)
noncomputable def B258_2 : List zRow := [(13, .iload_n 2, 1, (0, 0, 0)), (14, .iconst 1, 1, (0, 0, 0)), (15, .bipush 9, 2, (0, 0, 0))]
theorem K258_2 : zRk 258 B258_2 = true := zRw_ok (by decide +kernel)
noncomputable def B258_3 : List zRow := [(25, .iconst (-1), 1, (0, 0, 0)), (26, .istore_n 3, 1, (0, 0, 0)), (27, .iconst 0, 1, (0, 0, 0)), (28, .istore 4, 2, (0, 0, 0)), (30, .iconst 0, 1, (0, 0, 0)), (31, .istore 5, 2, (0, 0, 0))]
theorem K258_3 : zRk 258 B258_3 = true := zRw_ok (by decide +kernel)
noncomputable def B258_4 : List zRow := [(20, .ifCond .ne 5, 3, (0, 0, 0))]
theorem K258_4 : zRk 258 B258_4 = true := zRw_ok (by decide +kernel)
noncomputable def B258_5 : List zRow := [(10, .ifCond .eq 13, 3, (0, 0, 0))]
theorem K258_5 : zRk 258 B258_5 = true := zRw_ok (by decide +kernel)
noncomputable def B258_6 : List zRow := [(91, .iload_n 3, 1, (0, 0, 0))]
theorem K258_6 : zRk 258 B258_6 = true := zRw_ok (by decide +kernel)
noncomputable def B258_7 : List zRow := [(44, .aload_n 0, 1, (0, 0, 0)), (45, .iload 5, 2, (0, 0, 0)), (47, .iload_n 1, 1, (0, 0, 0)), (48, .aload_n 0, 1, (0, 0, 0)), (49, .iload_n 1, 1, (0, 0, 0)), (50, .iload_n 2, 1, (0, 0, 0))]
theorem K258_7 : zRk 258 B258_7 = true := zRw_ok (by decide +kernel)
noncomputable def B258_8 : List zRow := [(57, .aload_n 0, 1, (0, 0, 0)), (58, .iload 5, 2, (0, 0, 0))]
theorem K258_8 : zRk 258 B258_8 = true := zRw_ok (by decide +kernel)
noncomputable def B258_9 : List zRow := [(78, .iload 5, 2, (0, 0, 0)), (80, .istore_n 3, 1, (0, 0, 0)), (81, .iload 6, 2, (0, 0, 0)), (83, .istore 4, 2, (0, 0, 0))]
theorem K258_9 : zRk 258 B258_9 = true := zRw_ok (by decide +kernel)
noncomputable def B258_10 : List zRow := [(75, .goto 10, 3, (0, 0, 0))]
theorem K258_10 : zRk 258 B258_10 = true := zRw_ok (by decide +kernel)
noncomputable def B258_11 : List zRow := [(66, .istore 6, 2, (0, 0, 0)), (68, .iload 6, 2, (0, 0, 0)), (70, .iload 4, 2, (0, 0, 0)), (72, .if_icmp .gt 6, 3, (0, 0, 0))]
theorem K258_11 : zRk 258 B258_11 = true := zRw_ok (by decide +kernel)
noncomputable def B258_12 : List zRow := [(33, .iload 5, 2, (0, 0, 0)), (35, .aload_n 0, 1, (0, 0, 0)), (36, .getfield 13, 3, (12, 14, 5251442)), (39, .iconst 2, 1, (0, 0, 0)), (40, .iaload, 1, (0, 0, 0)), (41, .if_icmp .ge 50, 3, (0, 0, 0))]
theorem K258_12 : zRk 258 B258_12 = true := zRw_ok (by decide +kernel)
noncomputable def B258_13 : List zRow := [(85, .iinc 5 1, 3, (0, 0, 0)), (88, .goto (-55), 3, (0, 0, 0))]
theorem K258_13 : zRk 258 B258_13 = true := zRw_ok (by decide +kernel)
noncomputable def B119_0 : List zRow := [(28, .iconst 0, 1, (0, 0, 0))]
theorem K119_0 : zRk 119 B119_0 = true := zRw_ok (by decide +kernel)
noncomputable def B119_1 : List zRow := [(30, .iconst 0, 1, (0, 0, 0)), (31, .istore 4, 2, (0, 0, 0))]
theorem K119_1 : zRk 119 B119_1 = true := zRw_ok (by decide +kernel)
noncomputable def B119_2 : List zRow := [(18, .iload_n 3, 1, (0, 0, 0)), (19, .iconst 3, 1, (0, 0, 0)), (20, .imul, 1, (0, 0, 0)), (21, .aload_n 1, 1, (0, 0, 0)), (22, .getfield 24, 3, (5, 1, 0)), (25, .if_icmp .eq 5, 3, (0, 0, 0))]
theorem K119_2 : zRk 119 B119_2 = true := zRw_ok (by decide +kernel)
noncomputable def B119_3 : List zRow := [(12, .iload_n 3, 1, (0, 0, 0)), (13, .bipush 6, 2, (0, 0, 0)), (15, .if_icmp .gt 13, 3, (0, 0, 0))]
theorem K119_3 : zRk 119 B119_3 = true := zRw_ok (by decide +kernel)
noncomputable def B119_4 : List zRow := [(0, .aload_n 1, 1, (0, 0, 0)), (1, .getfield 24, 3, (5, 1, 0)), (4, .iconst 3, 1, (0, 0, 0)), (5, .idiv, 1, (0, 0, 0)), (6, .istore_n 3, 1, (0, 0, 0)), (7, .iload_n 3, 1, (0, 0, 0)), (8, .iconst 1, 1, (0, 0, 0)), (9, .if_icmp .lt 19, 3, (0, 0, 0))]
theorem K119_4 : zRk 119 B119_4 = true := zRw_ok (by decide +kernel)
noncomputable def B119_5 : List zRow := [(126, .aload_n 0, 1, (0, 0, 0)), (127, .iload_n 3, 1, (0, 0, 0)), (128, .putfield 42, 3, (4, 2, 0)), (131, .iconst 1, 1, (0, 0, 0))]
theorem K119_5 : zRk 119 B119_5 = true := zRw_ok (by decide +kernel)
noncomputable def B119_6 : List zRow := [(118, .iconst 0, 1, (0, 0, 0))]
theorem K119_6 : zRk 119 B119_6 = true := zRw_ok (by decide +kernel)
noncomputable def B119_7 : List zRow := [(105, .aload_n 0, 1, (0, 0, 0)), (106, .getfield 21, 3, (4, 5, 5242906)), (109, .iload 4, 2, (0, 0, 0)), (111, .iaload, 1, (0, 0, 0))]
theorem K119_7 : zRk 119 B119_7 = true := zRw_ok (by decide +kernel)
noncomputable def B119_8 : List zRow := [(120, .iinc 4 1, 3, (0, 0, 0)), (123, .goto (-90), 3, (0, 0, 0))]
theorem K119_8 : zRk 119 B119_8 = true := zRw_ok (by decide +kernel)
noncomputable def B119_9 : List zRow := [(115, .ifCond .ne 5, 3, (0, 0, 0))]
theorem K119_9 : zRk 119 B119_9 = true := zRw_ok (by decide +kernel)
noncomputable def B119_10 : List zRow := [(39, .aload_n 0, 1, (0, 0, 0)), (40, .getfield 15, 3, (4, 3, 5242906)), (43, .iload 4, 2, (0, 0, 0)), (45, .aload_n 1, 1, (0, 0, 0)), (46, .getfield 30, 3, (5, 0, 5246642)), (49, .iload 4, 2, (0, 0, 0)), (51, .iconst 3, 1, (0, 0, 0)), (52, .imul, 1, (0, 0, 0)), (53, .iaload, 1, (0, 0, 0)), (54, .iastore, 1, (0, 0, 0)), (55, .aload_n 0, 1, (0, 0, 0)), (56, .getfield 18, 3, (4, 4, 5242906)), (59, .iload 4, 2, (0, 0, 0)), (61, .aload_n 1, 1, (0, 0, 0)), (62, .getfield 30, 3, (5, 0, 5246642)), (65, .iload 4, 2, (0, 0, 0)), (67, .iconst 3, 1, (0, 0, 0)), (68, .imul, 1, (0, 0, 0)), (69, .iconst 1, 1, (0, 0, 0)), (70, .iadd, 1, (0, 0, 0)), (71, .iaload, 1, (0, 0, 0)), (72, .iastore, 1, (0, 0, 0)), (73, .aload_n 0, 1, (0, 0, 0)), (74, .getfield 21, 3, (4, 5, 5242906)), (77, .iload 4, 2, (0, 0, 0)), (79, .aload_n 1, 1, (0, 0, 0)), (80, .getfield 30, 3, (5, 0, 5246642)), (83, .iload 4, 2, (0, 0, 0)), (85, .iconst 3, 1, (0, 0, 0)), (86, .imul, 1, (0, 0, 0)), (87, .iconst 2, 1, (0, 0, 0)), (88, .iadd, 1, (0, 0, 0)), (89, .iaload, 1, (0, 0, 0)), (90, .iastore, 1, (0, 0, 0)), (91, .aload_n 0, 1, (0, 0, 0)), (92, .getfield 15, 3, (4, 3, 5242906)), (95, .iload 4, 2, (0, 0, 0)), (97, .iaload, 1, (0, 0, 0)), (98, .aload_n 2, 1, (0, 0, 0)), (99, .getfield 33, 3, (9, 2, 0)), (102, .if_icmp .ge 16, 3, (0, 0, 0))]
theorem K119_10 : zRk 119 B119_10 = true := zRw_ok (by decide +kernel)
noncomputable def B119_11 : List zRow := [(33, .iload 4, 2, (0, 0, 0)), (35, .iload_n 3, 1, (0, 0, 0)), (36, .if_icmp .ge 90, 3, (0, 0, 0))]
theorem K119_11 : zRk 119 B119_11 = true := zRw_ok (by decide +kernel)
noncomputable def B122_0 : List zRow := [(0, .iconst 0, 1, (0, 0, 0)), (1, .istore_n 3, 1, (0, 0, 0))]
theorem K122_0 : zRk 122 B122_0 = true := zRw_ok (by decide +kernel)
noncomputable def B122_1 : List zRow := [(80, .iconst 0, 1, (0, 0, 0))]
theorem K122_1 : zRk 122 B122_1 = true := zRw_ok (by decide +kernel)
noncomputable def B122_2 : List zRow := [(12, .iconst 0, 1, (0, 0, 0)), (13, .istore 4, 2, (0, 0, 0)), (15, .iconst 0, 1, (0, 0, 0)), (16, .istore 5, 2, (0, 0, 0))]
theorem K122_2 : zRk 122 B122_2 = true := zRw_ok (by decide +kernel)
noncomputable def B122_3 : List zRow := [(2, .iload_n 3, 1, (0, 0, 0)), (3, .iconst 1, 1, (0, 0, 0)), (4, .aload_n 0, 1, (0, 0, 0)), (5, .getfield 33, 3, (9, 2, 0)), (8, .ishl, 1, (0, 0, 0)), (9, .if_icmp .ge 71, 3, (0, 0, 0))]
theorem K122_3 : zRk 122 B122_3 = true := zRw_ok (by decide +kernel)
noncomputable def B122_4 : List zRow := [(64, .iload_n 3, 1, (0, 0, 0)), (65, .iload_n 1, 1, (0, 0, 0))]
theorem K122_4 : zRk 122 B122_4 = true := zRw_ok (by decide +kernel)
noncomputable def B122_5 : List zRow := [(72, .iconst 1, 1, (0, 0, 0))]
theorem K122_5 : zRk 122 B122_5 = true := zRw_ok (by decide +kernel)
noncomputable def B122_6 : List zRow := [(69, .ifCond .eq 5, 3, (0, 0, 0))]
theorem K122_6 : zRk 122 B122_6 = true := zRw_ok (by decide +kernel)
noncomputable def B122_7 : List zRow := [(58, .iload 4, 2, (0, 0, 0)), (60, .iload_n 2, 1, (0, 0, 0)), (61, .if_icmp .ne 13, 3, (0, 0, 0))]
theorem K122_7 : zRk 122 B122_7 = true := zRw_ok (by decide +kernel)
noncomputable def B122_8 : List zRow := [(27, .iload 4, 2, (0, 0, 0)), (29, .iload_n 3, 1, (0, 0, 0)), (30, .iload 5, 2, (0, 0, 0))]
theorem K122_8 : zRk 122 B122_8 = true := zRw_ok (by decide +kernel)
noncomputable def B122_9 : List zRow := [(48, .iconst 0, 1, (0, 0, 0))]
theorem K122_9 : zRk 122 B122_9 = true := zRw_ok (by decide +kernel)
noncomputable def B122_10 : List zRow := [(38, .aload_n 0, 1, (0, 0, 0)), (39, .getfield 71, 3, (9, 9, 5242906)), (42, .iload 5, 2, (0, 0, 0)), (44, .iaload, 1, (0, 0, 0)), (45, .goto 4, 3, (0, 0, 0))]
theorem K122_10 : zRk 122 B122_10 = true := zRw_ok (by decide +kernel)
noncomputable def B122_11 : List zRow := [(35, .ifCond .eq 13, 3, (0, 0, 0))]
theorem K122_11 : zRk 122 B122_11 = true := zRw_ok (by decide +kernel)
noncomputable def B122_12 : List zRow := [(18, .iload 5, 2, (0, 0, 0)), (20, .aload_n 0, 1, (0, 0, 0)), (21, .getfield 33, 3, (9, 2, 0)), (24, .if_icmp .ge 34, 3, (0, 0, 0))]
theorem K122_12 : zRk 122 B122_12 = true := zRw_ok (by decide +kernel)
noncomputable def B122_13 : List zRow := [(49, .iadd, 1, (0, 0, 0)), (50, .istore 4, 2, (0, 0, 0)), (52, .iinc 5 1, 3, (0, 0, 0)), (55, .goto (-37), 3, (0, 0, 0))]
theorem K122_13 : zRk 122 B122_13 = true := zRw_ok (by decide +kernel)
noncomputable def B122_14 : List zRow := [(74, .iinc 3 1, 3, (0, 0, 0)), (77, .goto (-75), 3, (0, 0, 0))]
theorem K122_14 : zRk 122 B122_14 = true := zRw_ok (by decide +kernel)
noncomputable def B121_0 : List zRow := [(0, .iconst 0, 1, (0, 0, 0)), (1, .istore_n 3, 1, (0, 0, 0))]
theorem K121_0 : zRk 121 B121_0 = true := zRw_ok (by decide +kernel)
noncomputable def B121_1 : List zRow := [(39, .iconst 1, 1, (0, 0, 0))]
theorem K121_1 : zRk 121 B121_1 = true := zRw_ok (by decide +kernel)
noncomputable def B121_2 : List zRow := [(10, .aload_n 1, 1, (0, 0, 0)), (11, .aload_n 0, 1, (0, 0, 0)), (12, .getfield 15, 3, (4, 3, 5242906)), (15, .iload_n 3, 1, (0, 0, 0)), (16, .iaload, 1, (0, 0, 0)), (17, .aload_n 0, 1, (0, 0, 0)), (18, .getfield 18, 3, (4, 4, 5242906)), (21, .iload_n 3, 1, (0, 0, 0)), (22, .iaload, 1, (0, 0, 0)), (23, .iload_n 2, 1, (0, 0, 0)), (24, .isub, 1, (0, 0, 0))]
theorem K121_2 : zRk 121 B121_2 = true := zRw_ok (by decide +kernel)
noncomputable def B121_3 : List zRow := [(33, .iinc 3 1, 3, (0, 0, 0)), (36, .goto (-34), 3, (0, 0, 0))]
theorem K121_3 : zRk 121 B121_3 = true := zRw_ok (by decide +kernel)
noncomputable def B121_4 : List zRow := [(31, .iconst 0, 1, (0, 0, 0))]
theorem K121_4 : zRk 121 B121_4 = true := zRw_ok (by decide +kernel)
noncomputable def B121_5 : List zRow := [(28, .ifCond .ne 5, 3, (0, 0, 0))]
theorem K121_5 : zRk 121 B121_5 = true := zRw_ok (by decide +kernel)
noncomputable def B121_6 : List zRow := [(2, .iload_n 3, 1, (0, 0, 0)), (3, .aload_n 0, 1, (0, 0, 0)), (4, .getfield 42, 3, (4, 2, 0)), (7, .if_icmp .ge 32, 3, (0, 0, 0))]
theorem K121_6 : zRk 121 B121_6 = true := zRw_ok (by decide +kernel)
noncomputable def B125_0 : List zRow := [(15, .iconst 0, 1, (0, 0, 0))]
theorem K125_0 : zRk 125 B125_0 = true := zRw_ok (by decide +kernel)
noncomputable def B125_1 : List zRow := [(11, .iconst 1, 1, (0, 0, 0)), (12, .goto 4, 3, (0, 0, 0))]
theorem K125_1 : zRk 125 B125_1 = true := zRw_ok (by decide +kernel)
noncomputable def B125_2 : List zRow := [(0, .aload_n 0, 1, (0, 0, 0)), (1, .getfield 27, 3, (1, 8, 5243002)), (4, .iload_n 1, 1, (0, 0, 0)), (5, .iaload, 1, (0, 0, 0)), (6, .ldc 87, 2, (0, 0, 1000000)), (8, .if_icmp .eq 7, 3, (0, 0, 0))]
theorem K125_2 : zRk 125 B125_2 = true := zRw_ok (by decide +kernel)
noncomputable def B124_0 : List zRow := [(0, .aload_n 0, 1, (0, 0, 0)), (1, .iload_n 2, 1, (0, 0, 0))]
theorem K124_0 : zRk 124 B124_0 = true := zRw_ok (by decide +kernel)
noncomputable def B124_1 : List zRow := [(10, .aload_n 0, 1, (0, 0, 0)), (11, .aload_n 0, 1, (0, 0, 0)), (12, .getfield 27, 3, (1, 8, 5243002)), (15, .iload_n 2, 1, (0, 0, 0)), (16, .iaload, 1, (0, 0, 0)), (17, .putfield 30, 3, (1, 0, 0)), (20, .aload_n 0, 1, (0, 0, 0)), (21, .aload_n 1, 1, (0, 0, 0)), (22, .iload_n 2, 1, (0, 0, 0)), (23, .iconst 0, 1, (0, 0, 0))]
theorem K124_1 : zRk 124 B124_1 = true := zRw_ok (by decide +kernel)
noncomputable def B124_2 : List zRow := [(27, .iconst 1, 1, (0, 0, 0))]
theorem K124_2 : zRk 124 B124_2 = true := zRw_ok (by decide +kernel)
noncomputable def B124_3 : List zRow := [(8, .iconst 0, 1, (0, 0, 0))]
theorem K124_3 : zRk 124 B124_3 = true := zRw_ok (by decide +kernel)
noncomputable def B124_4 : List zRow := [(5, .ifCond .ne 5, 3, (0, 0, 0))]
theorem K124_4 : zRk 124 B124_4 = true := zRw_ok (by decide +kernel)
noncomputable def B126_0 : List zRow := [(0, .iconst 0, 1, (0, 0, 0)), (1, .istore_n 3, 1, (0, 0, 0))]
theorem K126_0 : zRk 126 B126_0 = true := zRw_ok (by decide +kernel)
noncomputable def B126_1 : List zRow := [(63, .iconst 0, 1, (0, 0, 0))]
theorem K126_1 : zRk 126 B126_1 = true := zRw_ok (by decide +kernel)
noncomputable def B126_2 : List zRow := [(10, .aload_n 1, 1, (0, 0, 0)), (11, .iload_n 3, 1, (0, 0, 0)), (12, .iconst 1, 1, (0, 0, 0))]
theorem K126_2 : zRk 126 B126_2 = true := zRw_ok (by decide +kernel)
noncomputable def B126_3 : List zRow := [(25, .aload_n 1, 1, (0, 0, 0)), (26, .iload_n 3, 1, (0, 0, 0)), (27, .iconst 2, 1, (0, 0, 0))]
theorem K126_3 : zRk 126 B126_3 = true := zRw_ok (by decide +kernel)
noncomputable def B126_4 : List zRow := [(40, .aload_n 1, 1, (0, 0, 0)), (41, .iload_n 3, 1, (0, 0, 0)), (42, .iconst 3, 1, (0, 0, 0))]
theorem K126_4 : zRk 126 B126_4 = true := zRw_ok (by decide +kernel)
noncomputable def B126_5 : List zRow := [(55, .iconst 1, 1, (0, 0, 0))]
theorem K126_5 : zRk 126 B126_5 = true := zRw_ok (by decide +kernel)
noncomputable def B126_6 : List zRow := [(46, .aload_n 0, 1, (0, 0, 0)), (47, .getfield 21, 3, (4, 5, 5242906)), (50, .iload_n 2, 1, (0, 0, 0)), (51, .iaload, 1, (0, 0, 0)), (52, .if_icmp .ne 5, 3, (0, 0, 0))]
theorem K126_6 : zRk 126 B126_6 = true := zRw_ok (by decide +kernel)
noncomputable def B126_7 : List zRow := [(31, .aload_n 0, 1, (0, 0, 0)), (32, .getfield 18, 3, (4, 4, 5242906)), (35, .iload_n 2, 1, (0, 0, 0)), (36, .iaload, 1, (0, 0, 0)), (37, .if_icmp .ne 20, 3, (0, 0, 0))]
theorem K126_7 : zRk 126 B126_7 = true := zRw_ok (by decide +kernel)
noncomputable def B126_8 : List zRow := [(16, .aload_n 0, 1, (0, 0, 0)), (17, .getfield 15, 3, (4, 3, 5242906)), (20, .iload_n 2, 1, (0, 0, 0)), (21, .iaload, 1, (0, 0, 0)), (22, .if_icmp .ne 35, 3, (0, 0, 0))]
theorem K126_8 : zRk 126 B126_8 = true := zRw_ok (by decide +kernel)
noncomputable def B126_9 : List zRow := [(2, .iload_n 3, 1, (0, 0, 0)), (3, .aload_n 1, 1, (0, 0, 0)), (4, .getfield 81, 3, (1, 2, 0)), (7, .if_icmp .ge 56, 3, (0, 0, 0))]
theorem K126_9 : zRk 126 B126_9 = true := zRw_ok (by decide +kernel)
noncomputable def B126_10 : List zRow := [(57, .iinc 3 1, 3, (0, 0, 0)), (60, .goto (-58), 3, (0, 0, 0))]
theorem K126_10 : zRk 126 B126_10 = true := zRw_ok (by decide +kernel)
