def laX10_isChange_0 : List (Nat × Instr × Nat) := [(0, .iload_n 1, 1), (1, .ifCond .le 30, 3), (4, .aload_n 0, 1), (5, .getfield 118, 3), (8, .iload_n 1, 1), (9, .iaload, 1), (10, .bipush 6, 2), (12, .irem, 1), (13, .aload_n 0, 1), (14, .getfield 118, 3), (17, .iload_n 1, 1), (18, .iconst 1, 1), (19, .isub, 1), (20, .iaload, 1), (21, .bipush 6, 2), (23, .irem, 1), (24, .if_icmp .eq 7, 3), (27, .iconst 1, 1), (28, .goto 4, 3), (31, .iconst 0, 1), (32, .ireturn, 1)]
theorem aX10_isChange_0 : decAll cX10_isChange laX10_isChange_0 = true := by decide +kernel
theorem dX10_isChange_0 : decode cX10_isChange 0 = .ok (.iload_n 1, 1) := decAll_at aX10_isChange_0 0 rfl
theorem dX10_isChange_1 : decode cX10_isChange 1 = .ok (.ifCond .le 30, 3) := decAll_at aX10_isChange_0 1 rfl
theorem dX10_isChange_4 : decode cX10_isChange 4 = .ok (.aload_n 0, 1) := decAll_at aX10_isChange_0 2 rfl
theorem dX10_isChange_5 : decode cX10_isChange 5 = .ok (.getfield 118, 3) := decAll_at aX10_isChange_0 3 rfl
theorem dX10_isChange_8 : decode cX10_isChange 8 = .ok (.iload_n 1, 1) := decAll_at aX10_isChange_0 4 rfl
theorem dX10_isChange_9 : decode cX10_isChange 9 = .ok (.iaload, 1) := decAll_at aX10_isChange_0 5 rfl
theorem dX10_isChange_10 : decode cX10_isChange 10 = .ok (.bipush 6, 2) := decAll_at aX10_isChange_0 6 rfl
theorem dX10_isChange_12 : decode cX10_isChange 12 = .ok (.irem, 1) := decAll_at aX10_isChange_0 7 rfl
theorem dX10_isChange_13 : decode cX10_isChange 13 = .ok (.aload_n 0, 1) := decAll_at aX10_isChange_0 8 rfl
theorem dX10_isChange_14 : decode cX10_isChange 14 = .ok (.getfield 118, 3) := decAll_at aX10_isChange_0 9 rfl
theorem dX10_isChange_17 : decode cX10_isChange 17 = .ok (.iload_n 1, 1) := decAll_at aX10_isChange_0 10 rfl
theorem dX10_isChange_18 : decode cX10_isChange 18 = .ok (.iconst 1, 1) := decAll_at aX10_isChange_0 11 rfl
theorem dX10_isChange_19 : decode cX10_isChange 19 = .ok (.isub, 1) := decAll_at aX10_isChange_0 12 rfl
theorem dX10_isChange_20 : decode cX10_isChange 20 = .ok (.iaload, 1) := decAll_at aX10_isChange_0 13 rfl
theorem dX10_isChange_21 : decode cX10_isChange 21 = .ok (.bipush 6, 2) := decAll_at aX10_isChange_0 14 rfl
theorem dX10_isChange_23 : decode cX10_isChange 23 = .ok (.irem, 1) := decAll_at aX10_isChange_0 15 rfl
theorem dX10_isChange_24 : decode cX10_isChange 24 = .ok (.if_icmp .eq 7, 3) := decAll_at aX10_isChange_0 16 rfl
theorem dX10_isChange_27 : decode cX10_isChange 27 = .ok (.iconst 1, 1) := decAll_at aX10_isChange_0 17 rfl
theorem dX10_isChange_28 : decode cX10_isChange 28 = .ok (.goto 4, 3) := decAll_at aX10_isChange_0 18 rfl
theorem dX10_isChange_31 : decode cX10_isChange 31 = .ok (.iconst 0, 1) := decAll_at aX10_isChange_0 19 rfl
theorem dX10_isChange_32 : decode cX10_isChange 32 = .ok (.ireturn, 1) := decAll_at aX10_isChange_0 20 rfl
def laX10_runs_0 : List (Nat × Instr × Nat) := [(0, .aload_n 0, 1), (1, .iconst (-1), 1), (2, .putfield 464, 3), (5, .aload_n 0, 1), (6, .iconst 0, 1), (7, .putfield 467, 3), (10, .aload_n 0, 1), (11, .iconst 0, 1), (12, .invokevirtual 470, 3), (15, .aload_n 0, 1), (16, .getfield 127, 3), (19, .iconst 0, 1), (20, .iconst 0, 1), (21, .iastore, 1), (22, .iconst 0, 1), (23, .istore_n 1, 1), (24, .iload_n 1, 1), (25, .aload_n 0, 1), (26, .getfield 160, 3), (29, .if_icmp .ge 100, 3), (32, .aload_n 0, 1), (33, .getfield 464, 3), (36, .iconst (-1), 1), (37, .if_icmp .ne 92, 3), (40, .aload_n 0, 1), (41, .iload_n 1, 1), (42, .aload_n 0, 1), (43, .getfield 118, 3), (46, .iload_n 1, 1), (47, .iaload, 1), (48, .invokevirtual 473, 3), (51, .ifCond .ne 11, 3), (54, .aload_n 0, 1), (55, .iload_n 1, 1), (56, .putfield 464, 3), (59, .goto 64, 3), (62, .aload_n 0, 1), (63, .getfield 124, 3), (66, .iload_n 1, 1), (67, .aload_n 0, 1), (68, .getfield 461, 3), (71, .aload_n 0, 1), (72, .iload_n 1, 1), (73, .invokevirtual 476, 3), (76, .ifCond .eq 10, 3), (79, .aload_n 0, 1), (80, .getfield 13, 3), (83, .goto 4, 3), (86, .iconst 0, 1), (87, .iadd, 1), (88, .iastore, 1), (89, .aload_n 0, 1), (90, .dup, 1), (91, .getfield 467, 3), (94, .aload_n 0, 1), (95, .iload_n 1, 1), (96, .invokevirtual 476, 3), (99, .ifCond .eq 7, 3), (102, .iconst 1, 1), (103, .goto 4, 3), (106, .iconst 0, 1), (107, .iadd, 1), (108, .putfield 467, 3), (111, .aload_n 0, 1)]
theorem aX10_runs_0 : decAll cX10_runs laX10_runs_0 = true := by decide +kernel
theorem dX10_runs_0 : decode cX10_runs 0 = .ok (.aload_n 0, 1) := decAll_at aX10_runs_0 0 rfl
theorem dX10_runs_1 : decode cX10_runs 1 = .ok (.iconst (-1), 1) := decAll_at aX10_runs_0 1 rfl
theorem dX10_runs_2 : decode cX10_runs 2 = .ok (.putfield 464, 3) := decAll_at aX10_runs_0 2 rfl
theorem dX10_runs_5 : decode cX10_runs 5 = .ok (.aload_n 0, 1) := decAll_at aX10_runs_0 3 rfl
theorem dX10_runs_6 : decode cX10_runs 6 = .ok (.iconst 0, 1) := decAll_at aX10_runs_0 4 rfl
theorem dX10_runs_7 : decode cX10_runs 7 = .ok (.putfield 467, 3) := decAll_at aX10_runs_0 5 rfl
theorem dX10_runs_10 : decode cX10_runs 10 = .ok (.aload_n 0, 1) := decAll_at aX10_runs_0 6 rfl
theorem dX10_runs_11 : decode cX10_runs 11 = .ok (.iconst 0, 1) := decAll_at aX10_runs_0 7 rfl
theorem dX10_runs_12 : decode cX10_runs 12 = .ok (.invokevirtual 470, 3) := decAll_at aX10_runs_0 8 rfl
theorem dX10_runs_15 : decode cX10_runs 15 = .ok (.aload_n 0, 1) := decAll_at aX10_runs_0 9 rfl
theorem dX10_runs_16 : decode cX10_runs 16 = .ok (.getfield 127, 3) := decAll_at aX10_runs_0 10 rfl
theorem dX10_runs_19 : decode cX10_runs 19 = .ok (.iconst 0, 1) := decAll_at aX10_runs_0 11 rfl
theorem dX10_runs_20 : decode cX10_runs 20 = .ok (.iconst 0, 1) := decAll_at aX10_runs_0 12 rfl
theorem dX10_runs_21 : decode cX10_runs 21 = .ok (.iastore, 1) := decAll_at aX10_runs_0 13 rfl
theorem dX10_runs_22 : decode cX10_runs 22 = .ok (.iconst 0, 1) := decAll_at aX10_runs_0 14 rfl
theorem dX10_runs_23 : decode cX10_runs 23 = .ok (.istore_n 1, 1) := decAll_at aX10_runs_0 15 rfl
theorem dX10_runs_24 : decode cX10_runs 24 = .ok (.iload_n 1, 1) := decAll_at aX10_runs_0 16 rfl
theorem dX10_runs_25 : decode cX10_runs 25 = .ok (.aload_n 0, 1) := decAll_at aX10_runs_0 17 rfl
theorem dX10_runs_26 : decode cX10_runs 26 = .ok (.getfield 160, 3) := decAll_at aX10_runs_0 18 rfl
theorem dX10_runs_29 : decode cX10_runs 29 = .ok (.if_icmp .ge 100, 3) := decAll_at aX10_runs_0 19 rfl
theorem dX10_runs_32 : decode cX10_runs 32 = .ok (.aload_n 0, 1) := decAll_at aX10_runs_0 20 rfl
theorem dX10_runs_33 : decode cX10_runs 33 = .ok (.getfield 464, 3) := decAll_at aX10_runs_0 21 rfl
theorem dX10_runs_36 : decode cX10_runs 36 = .ok (.iconst (-1), 1) := decAll_at aX10_runs_0 22 rfl
theorem dX10_runs_37 : decode cX10_runs 37 = .ok (.if_icmp .ne 92, 3) := decAll_at aX10_runs_0 23 rfl
theorem dX10_runs_40 : decode cX10_runs 40 = .ok (.aload_n 0, 1) := decAll_at aX10_runs_0 24 rfl
theorem dX10_runs_41 : decode cX10_runs 41 = .ok (.iload_n 1, 1) := decAll_at aX10_runs_0 25 rfl
theorem dX10_runs_42 : decode cX10_runs 42 = .ok (.aload_n 0, 1) := decAll_at aX10_runs_0 26 rfl
theorem dX10_runs_43 : decode cX10_runs 43 = .ok (.getfield 118, 3) := decAll_at aX10_runs_0 27 rfl
theorem dX10_runs_46 : decode cX10_runs 46 = .ok (.iload_n 1, 1) := decAll_at aX10_runs_0 28 rfl
theorem dX10_runs_47 : decode cX10_runs 47 = .ok (.iaload, 1) := decAll_at aX10_runs_0 29 rfl
theorem dX10_runs_48 : decode cX10_runs 48 = .ok (.invokevirtual 473, 3) := decAll_at aX10_runs_0 30 rfl
theorem dX10_runs_51 : decode cX10_runs 51 = .ok (.ifCond .ne 11, 3) := decAll_at aX10_runs_0 31 rfl
theorem dX10_runs_54 : decode cX10_runs 54 = .ok (.aload_n 0, 1) := decAll_at aX10_runs_0 32 rfl
theorem dX10_runs_55 : decode cX10_runs 55 = .ok (.iload_n 1, 1) := decAll_at aX10_runs_0 33 rfl
theorem dX10_runs_56 : decode cX10_runs 56 = .ok (.putfield 464, 3) := decAll_at aX10_runs_0 34 rfl
theorem dX10_runs_59 : decode cX10_runs 59 = .ok (.goto 64, 3) := decAll_at aX10_runs_0 35 rfl
theorem dX10_runs_62 : decode cX10_runs 62 = .ok (.aload_n 0, 1) := decAll_at aX10_runs_0 36 rfl
theorem dX10_runs_63 : decode cX10_runs 63 = .ok (.getfield 124, 3) := decAll_at aX10_runs_0 37 rfl
theorem dX10_runs_66 : decode cX10_runs 66 = .ok (.iload_n 1, 1) := decAll_at aX10_runs_0 38 rfl
theorem dX10_runs_67 : decode cX10_runs 67 = .ok (.aload_n 0, 1) := decAll_at aX10_runs_0 39 rfl
theorem dX10_runs_68 : decode cX10_runs 68 = .ok (.getfield 461, 3) := decAll_at aX10_runs_0 40 rfl
theorem dX10_runs_71 : decode cX10_runs 71 = .ok (.aload_n 0, 1) := decAll_at aX10_runs_0 41 rfl
theorem dX10_runs_72 : decode cX10_runs 72 = .ok (.iload_n 1, 1) := decAll_at aX10_runs_0 42 rfl
theorem dX10_runs_73 : decode cX10_runs 73 = .ok (.invokevirtual 476, 3) := decAll_at aX10_runs_0 43 rfl
theorem dX10_runs_76 : decode cX10_runs 76 = .ok (.ifCond .eq 10, 3) := decAll_at aX10_runs_0 44 rfl
theorem dX10_runs_79 : decode cX10_runs 79 = .ok (.aload_n 0, 1) := decAll_at aX10_runs_0 45 rfl
theorem dX10_runs_80 : decode cX10_runs 80 = .ok (.getfield 13, 3) := decAll_at aX10_runs_0 46 rfl
theorem dX10_runs_83 : decode cX10_runs 83 = .ok (.goto 4, 3) := decAll_at aX10_runs_0 47 rfl
theorem dX10_runs_86 : decode cX10_runs 86 = .ok (.iconst 0, 1) := decAll_at aX10_runs_0 48 rfl
theorem dX10_runs_87 : decode cX10_runs 87 = .ok (.iadd, 1) := decAll_at aX10_runs_0 49 rfl
theorem dX10_runs_88 : decode cX10_runs 88 = .ok (.iastore, 1) := decAll_at aX10_runs_0 50 rfl
theorem dX10_runs_89 : decode cX10_runs 89 = .ok (.aload_n 0, 1) := decAll_at aX10_runs_0 51 rfl
theorem dX10_runs_90 : decode cX10_runs 90 = .ok (.dup, 1) := decAll_at aX10_runs_0 52 rfl
theorem dX10_runs_91 : decode cX10_runs 91 = .ok (.getfield 467, 3) := decAll_at aX10_runs_0 53 rfl
theorem dX10_runs_94 : decode cX10_runs 94 = .ok (.aload_n 0, 1) := decAll_at aX10_runs_0 54 rfl
theorem dX10_runs_95 : decode cX10_runs 95 = .ok (.iload_n 1, 1) := decAll_at aX10_runs_0 55 rfl
theorem dX10_runs_96 : decode cX10_runs 96 = .ok (.invokevirtual 476, 3) := decAll_at aX10_runs_0 56 rfl
theorem dX10_runs_99 : decode cX10_runs 99 = .ok (.ifCond .eq 7, 3) := decAll_at aX10_runs_0 57 rfl
theorem dX10_runs_102 : decode cX10_runs 102 = .ok (.iconst 1, 1) := decAll_at aX10_runs_0 58 rfl
theorem dX10_runs_103 : decode cX10_runs 103 = .ok (.goto 4, 3) := decAll_at aX10_runs_0 59 rfl
theorem dX10_runs_106 : decode cX10_runs 106 = .ok (.iconst 0, 1) := decAll_at aX10_runs_0 60 rfl
theorem dX10_runs_107 : decode cX10_runs 107 = .ok (.iadd, 1) := decAll_at aX10_runs_0 61 rfl
theorem dX10_runs_108 : decode cX10_runs 108 = .ok (.putfield 467, 3) := decAll_at aX10_runs_0 62 rfl
theorem dX10_runs_111 : decode cX10_runs 111 = .ok (.aload_n 0, 1) := decAll_at aX10_runs_0 63 rfl
def laX10_runs_1 : List (Nat × Instr × Nat) := [(112, .getfield 127, 3), (115, .iload_n 1, 1), (116, .iconst 1, 1), (117, .iadd, 1), (118, .aload_n 0, 1), (119, .invokevirtual 479, 3), (122, .iastore, 1), (123, .iinc 1 1, 3), (126, .goto (-102), 3), (129, .return_, 1)]
theorem aX10_runs_1 : decAll cX10_runs laX10_runs_1 = true := by decide +kernel
theorem dX10_runs_112 : decode cX10_runs 112 = .ok (.getfield 127, 3) := decAll_at aX10_runs_1 0 rfl
theorem dX10_runs_115 : decode cX10_runs 115 = .ok (.iload_n 1, 1) := decAll_at aX10_runs_1 1 rfl
theorem dX10_runs_116 : decode cX10_runs 116 = .ok (.iconst 1, 1) := decAll_at aX10_runs_1 2 rfl
theorem dX10_runs_117 : decode cX10_runs 117 = .ok (.iadd, 1) := decAll_at aX10_runs_1 3 rfl
theorem dX10_runs_118 : decode cX10_runs 118 = .ok (.aload_n 0, 1) := decAll_at aX10_runs_1 4 rfl
theorem dX10_runs_119 : decode cX10_runs 119 = .ok (.invokevirtual 479, 3) := decAll_at aX10_runs_1 5 rfl
theorem dX10_runs_122 : decode cX10_runs 122 = .ok (.iastore, 1) := decAll_at aX10_runs_1 6 rfl
theorem dX10_runs_123 : decode cX10_runs 123 = .ok (.iinc 1 1, 3) := decAll_at aX10_runs_1 7 rfl
theorem dX10_runs_126 : decode cX10_runs 126 = .ok (.goto (-102), 3) := decAll_at aX10_runs_1 8 rfl
theorem dX10_runs_129 : decode cX10_runs 129 = .ok (.return_, 1) := decAll_at aX10_runs_1 9 rfl
def laX10_gone_0 : List (Nat × Instr × Nat) := [(0, .aload_n 0, 1), (1, .getfield 464, 3), (4, .iconst (-1), 1), (5, .if_icmp .ne 10, 3), (8, .aload_n 0, 1), (9, .getfield 160, 3), (12, .goto 7, 3), (15, .aload_n 0, 1), (16, .getfield 464, 3), (19, .ireturn, 1)]
theorem aX10_gone_0 : decAll cX10_gone laX10_gone_0 = true := by decide +kernel
theorem dX10_gone_0 : decode cX10_gone 0 = .ok (.aload_n 0, 1) := decAll_at aX10_gone_0 0 rfl
theorem dX10_gone_1 : decode cX10_gone 1 = .ok (.getfield 464, 3) := decAll_at aX10_gone_0 1 rfl
theorem dX10_gone_4 : decode cX10_gone 4 = .ok (.iconst (-1), 1) := decAll_at aX10_gone_0 2 rfl
theorem dX10_gone_5 : decode cX10_gone 5 = .ok (.if_icmp .ne 10, 3) := decAll_at aX10_gone_0 3 rfl
theorem dX10_gone_8 : decode cX10_gone 8 = .ok (.aload_n 0, 1) := decAll_at aX10_gone_0 4 rfl
theorem dX10_gone_9 : decode cX10_gone 9 = .ok (.getfield 160, 3) := decAll_at aX10_gone_0 5 rfl
theorem dX10_gone_12 : decode cX10_gone 12 = .ok (.goto 7, 3) := decAll_at aX10_gone_0 6 rfl
theorem dX10_gone_15 : decode cX10_gone 15 = .ok (.aload_n 0, 1) := decAll_at aX10_gone_0 7 rfl
theorem dX10_gone_16 : decode cX10_gone 16 = .ok (.getfield 464, 3) := decAll_at aX10_gone_0 8 rfl
theorem dX10_gone_19 : decode cX10_gone 19 = .ok (.ireturn, 1) := decAll_at aX10_gone_0 9 rfl
def laX10_ran_0 : List (Nat × Instr × Nat) := [(0, .iload_n 1, 1), (1, .i2l, 1), (2, .lconst 0, 1), (3, .ldc2_w 482, 3), (6, .invokestatic 153, 3), (9, .ifCond .ne 5, 3), (12, .iconst (-1), 1), (13, .ireturn, 1), (14, .aload_n 0, 1), (15, .getfield 169, 3), (18, .ifCond .ne 6, 3), (21, .bipush (-2), 2), (23, .ireturn, 1), (24, .aload_n 0, 1), (25, .invokevirtual 484, 3), (28, .iconst 0, 1), (29, .istore_n 2, 1), (30, .iconst 0, 1), (31, .istore_n 3, 1), (32, .iload_n 3, 1), (33, .aload_n 0, 1), (34, .invokevirtual 487, 3), (37, .if_icmp .ge 18, 3), (40, .iload_n 2, 1), (41, .aload_n 0, 1), (42, .getfield 124, 3), (45, .iload_n 3, 1), (46, .iaload, 1), (47, .iadd, 1), (48, .istore_n 2, 1), (49, .iinc 3 1, 3), (52, .goto (-20), 3), (55, .iload_n 1, 1), (56, .ifCond .ne 7, 3), (59, .iload_n 2, 1), (60, .goto 36, 3), (63, .iload_n 1, 1), (64, .iconst 1, 1), (65, .if_icmp .ne 15, 3), (68, .aload_n 0, 1), (69, .getfield 127, 3), (72, .aload_n 0, 1), (73, .invokevirtual 487, 3), (76, .iaload, 1), (77, .goto 19, 3), (80, .iload_n 1, 1), (81, .iconst 2, 1), (82, .if_icmp .ne 10, 3), (85, .aload_n 0, 1), (86, .getfield 464, 3), (89, .goto 7, 3), (92, .aload_n 0, 1), (93, .getfield 467, 3), (96, .ireturn, 1)]
theorem aX10_ran_0 : decAll cX10_ran laX10_ran_0 = true := by decide +kernel
theorem dX10_ran_0 : decode cX10_ran 0 = .ok (.iload_n 1, 1) := decAll_at aX10_ran_0 0 rfl
theorem dX10_ran_1 : decode cX10_ran 1 = .ok (.i2l, 1) := decAll_at aX10_ran_0 1 rfl
theorem dX10_ran_2 : decode cX10_ran 2 = .ok (.lconst 0, 1) := decAll_at aX10_ran_0 2 rfl
theorem dX10_ran_3 : decode cX10_ran 3 = .ok (.ldc2_w 482, 3) := decAll_at aX10_ran_0 3 rfl
theorem dX10_ran_6 : decode cX10_ran 6 = .ok (.invokestatic 153, 3) := decAll_at aX10_ran_0 4 rfl
theorem dX10_ran_9 : decode cX10_ran 9 = .ok (.ifCond .ne 5, 3) := decAll_at aX10_ran_0 5 rfl
theorem dX10_ran_12 : decode cX10_ran 12 = .ok (.iconst (-1), 1) := decAll_at aX10_ran_0 6 rfl
theorem dX10_ran_13 : decode cX10_ran 13 = .ok (.ireturn, 1) := decAll_at aX10_ran_0 7 rfl
theorem dX10_ran_14 : decode cX10_ran 14 = .ok (.aload_n 0, 1) := decAll_at aX10_ran_0 8 rfl
theorem dX10_ran_15 : decode cX10_ran 15 = .ok (.getfield 169, 3) := decAll_at aX10_ran_0 9 rfl
theorem dX10_ran_18 : decode cX10_ran 18 = .ok (.ifCond .ne 6, 3) := decAll_at aX10_ran_0 10 rfl
theorem dX10_ran_21 : decode cX10_ran 21 = .ok (.bipush (-2), 2) := decAll_at aX10_ran_0 11 rfl
theorem dX10_ran_23 : decode cX10_ran 23 = .ok (.ireturn, 1) := decAll_at aX10_ran_0 12 rfl
theorem dX10_ran_24 : decode cX10_ran 24 = .ok (.aload_n 0, 1) := decAll_at aX10_ran_0 13 rfl
theorem dX10_ran_25 : decode cX10_ran 25 = .ok (.invokevirtual 484, 3) := decAll_at aX10_ran_0 14 rfl
theorem dX10_ran_28 : decode cX10_ran 28 = .ok (.iconst 0, 1) := decAll_at aX10_ran_0 15 rfl
theorem dX10_ran_29 : decode cX10_ran 29 = .ok (.istore_n 2, 1) := decAll_at aX10_ran_0 16 rfl
theorem dX10_ran_30 : decode cX10_ran 30 = .ok (.iconst 0, 1) := decAll_at aX10_ran_0 17 rfl
theorem dX10_ran_31 : decode cX10_ran 31 = .ok (.istore_n 3, 1) := decAll_at aX10_ran_0 18 rfl
theorem dX10_ran_32 : decode cX10_ran 32 = .ok (.iload_n 3, 1) := decAll_at aX10_ran_0 19 rfl
theorem dX10_ran_33 : decode cX10_ran 33 = .ok (.aload_n 0, 1) := decAll_at aX10_ran_0 20 rfl
theorem dX10_ran_34 : decode cX10_ran 34 = .ok (.invokevirtual 487, 3) := decAll_at aX10_ran_0 21 rfl
theorem dX10_ran_37 : decode cX10_ran 37 = .ok (.if_icmp .ge 18, 3) := decAll_at aX10_ran_0 22 rfl
theorem dX10_ran_40 : decode cX10_ran 40 = .ok (.iload_n 2, 1) := decAll_at aX10_ran_0 23 rfl
theorem dX10_ran_41 : decode cX10_ran 41 = .ok (.aload_n 0, 1) := decAll_at aX10_ran_0 24 rfl
theorem dX10_ran_42 : decode cX10_ran 42 = .ok (.getfield 124, 3) := decAll_at aX10_ran_0 25 rfl
theorem dX10_ran_45 : decode cX10_ran 45 = .ok (.iload_n 3, 1) := decAll_at aX10_ran_0 26 rfl
theorem dX10_ran_46 : decode cX10_ran 46 = .ok (.iaload, 1) := decAll_at aX10_ran_0 27 rfl
theorem dX10_ran_47 : decode cX10_ran 47 = .ok (.iadd, 1) := decAll_at aX10_ran_0 28 rfl
theorem dX10_ran_48 : decode cX10_ran 48 = .ok (.istore_n 2, 1) := decAll_at aX10_ran_0 29 rfl
theorem dX10_ran_49 : decode cX10_ran 49 = .ok (.iinc 3 1, 3) := decAll_at aX10_ran_0 30 rfl
theorem dX10_ran_52 : decode cX10_ran 52 = .ok (.goto (-20), 3) := decAll_at aX10_ran_0 31 rfl
theorem dX10_ran_55 : decode cX10_ran 55 = .ok (.iload_n 1, 1) := decAll_at aX10_ran_0 32 rfl
theorem dX10_ran_56 : decode cX10_ran 56 = .ok (.ifCond .ne 7, 3) := decAll_at aX10_ran_0 33 rfl
theorem dX10_ran_59 : decode cX10_ran 59 = .ok (.iload_n 2, 1) := decAll_at aX10_ran_0 34 rfl
theorem dX10_ran_60 : decode cX10_ran 60 = .ok (.goto 36, 3) := decAll_at aX10_ran_0 35 rfl
theorem dX10_ran_63 : decode cX10_ran 63 = .ok (.iload_n 1, 1) := decAll_at aX10_ran_0 36 rfl
theorem dX10_ran_64 : decode cX10_ran 64 = .ok (.iconst 1, 1) := decAll_at aX10_ran_0 37 rfl
theorem dX10_ran_65 : decode cX10_ran 65 = .ok (.if_icmp .ne 15, 3) := decAll_at aX10_ran_0 38 rfl
theorem dX10_ran_68 : decode cX10_ran 68 = .ok (.aload_n 0, 1) := decAll_at aX10_ran_0 39 rfl
theorem dX10_ran_69 : decode cX10_ran 69 = .ok (.getfield 127, 3) := decAll_at aX10_ran_0 40 rfl
theorem dX10_ran_72 : decode cX10_ran 72 = .ok (.aload_n 0, 1) := decAll_at aX10_ran_0 41 rfl
theorem dX10_ran_73 : decode cX10_ran 73 = .ok (.invokevirtual 487, 3) := decAll_at aX10_ran_0 42 rfl
theorem dX10_ran_76 : decode cX10_ran 76 = .ok (.iaload, 1) := decAll_at aX10_ran_0 43 rfl
theorem dX10_ran_77 : decode cX10_ran 77 = .ok (.goto 19, 3) := decAll_at aX10_ran_0 44 rfl
theorem dX10_ran_80 : decode cX10_ran 80 = .ok (.iload_n 1, 1) := decAll_at aX10_ran_0 45 rfl
theorem dX10_ran_81 : decode cX10_ran 81 = .ok (.iconst 2, 1) := decAll_at aX10_ran_0 46 rfl
theorem dX10_ran_82 : decode cX10_ran 82 = .ok (.if_icmp .ne 10, 3) := decAll_at aX10_ran_0 47 rfl
theorem dX10_ran_85 : decode cX10_ran 85 = .ok (.aload_n 0, 1) := decAll_at aX10_ran_0 48 rfl
theorem dX10_ran_86 : decode cX10_ran 86 = .ok (.getfield 464, 3) := decAll_at aX10_ran_0 49 rfl
theorem dX10_ran_89 : decode cX10_ran 89 = .ok (.goto 7, 3) := decAll_at aX10_ran_0 50 rfl
theorem dX10_ran_92 : decode cX10_ran 92 = .ok (.aload_n 0, 1) := decAll_at aX10_ran_0 51 rfl
theorem dX10_ran_93 : decode cX10_ran 93 = .ok (.getfield 467, 3) := decAll_at aX10_ran_0 52 rfl
theorem dX10_ran_96 : decode cX10_ran 96 = .ok (.ireturn, 1) := decAll_at aX10_ran_0 53 rfl
def laX10_gap_0 : List (Nat × Instr × Nat) := [(0, .aload_n 0, 1), (1, .getfield 169, 3), (4, .ifCond .eq 11, 3), (7, .aload_n 0, 1), (8, .iload_n 1, 1), (9, .invokevirtual 351, 3), (12, .ifCond .ne 5, 3), (15, .iconst (-1), 1), (16, .ireturn, 1), (17, .aload_n 0, 1), (18, .invokevirtual 484, 3), (21, .iload_n 1, 1), (22, .aload_n 0, 1), (23, .invokevirtual 487, 3), (26, .if_icmp .le 6, 3), (29, .bipush (-2), 2), (31, .ireturn, 1), (32, .aload_n 0, 1), (33, .aload_n 0, 1), (34, .getfield 127, 3), (37, .iload_n 1, 1), (38, .iaload, 1), (39, .invokevirtual 470, 3), (42, .aload_n 0, 1), (43, .aload_n 0, 1), (44, .getfield 118, 3), (47, .iload_n 1, 1), (48, .iaload, 1), (49, .bipush 6, 2), (51, .idiv, 1), (52, .iload_n 1, 1), (53, .invokevirtual 452, 3), (56, .bipush 60, 2), (58, .istore_n 2, 1), (59, .iconst 0, 1), (60, .istore_n 3, 1), (61, .iconst 0, 1), (62, .istore 4, 2), (64, .iload 4, 2), (66, .aload_n 0, 1), (67, .getfield 150, 3), (70, .if_icmp .ge 68, 3), (73, .aload_n 0, 1), (74, .iload 4, 2), (76, .aload_n 0, 1), (77, .iload 4, 2), (79, .aload_n 0, 1), (80, .getfield 118, 3), (83, .iload_n 1, 1), (84, .iaload, 1), (85, .bipush 6, 2), (87, .irem, 1), (88, .iload_n 1, 1), (89, .invokevirtual 449, 3), (92, .aload_n 0, 1), (93, .getfield 121, 3), (96, .iload 4, 2), (98, .iaload, 1), (99, .iload_n 1, 1), (100, .iconst 0, 1), (101, .invokevirtual 354, 3), (104, .istore 5, 2), (106, .iload 5, 2), (108, .iload_n 2, 1)]
theorem aX10_gap_0 : decAll cX10_gap laX10_gap_0 = true := by decide +kernel
theorem dX10_gap_0 : decode cX10_gap 0 = .ok (.aload_n 0, 1) := decAll_at aX10_gap_0 0 rfl
theorem dX10_gap_1 : decode cX10_gap 1 = .ok (.getfield 169, 3) := decAll_at aX10_gap_0 1 rfl
theorem dX10_gap_4 : decode cX10_gap 4 = .ok (.ifCond .eq 11, 3) := decAll_at aX10_gap_0 2 rfl
theorem dX10_gap_7 : decode cX10_gap 7 = .ok (.aload_n 0, 1) := decAll_at aX10_gap_0 3 rfl
theorem dX10_gap_8 : decode cX10_gap 8 = .ok (.iload_n 1, 1) := decAll_at aX10_gap_0 4 rfl
theorem dX10_gap_9 : decode cX10_gap 9 = .ok (.invokevirtual 351, 3) := decAll_at aX10_gap_0 5 rfl
theorem dX10_gap_12 : decode cX10_gap 12 = .ok (.ifCond .ne 5, 3) := decAll_at aX10_gap_0 6 rfl
theorem dX10_gap_15 : decode cX10_gap 15 = .ok (.iconst (-1), 1) := decAll_at aX10_gap_0 7 rfl
theorem dX10_gap_16 : decode cX10_gap 16 = .ok (.ireturn, 1) := decAll_at aX10_gap_0 8 rfl
theorem dX10_gap_17 : decode cX10_gap 17 = .ok (.aload_n 0, 1) := decAll_at aX10_gap_0 9 rfl
theorem dX10_gap_18 : decode cX10_gap 18 = .ok (.invokevirtual 484, 3) := decAll_at aX10_gap_0 10 rfl
theorem dX10_gap_21 : decode cX10_gap 21 = .ok (.iload_n 1, 1) := decAll_at aX10_gap_0 11 rfl
theorem dX10_gap_22 : decode cX10_gap 22 = .ok (.aload_n 0, 1) := decAll_at aX10_gap_0 12 rfl
theorem dX10_gap_23 : decode cX10_gap 23 = .ok (.invokevirtual 487, 3) := decAll_at aX10_gap_0 13 rfl
theorem dX10_gap_26 : decode cX10_gap 26 = .ok (.if_icmp .le 6, 3) := decAll_at aX10_gap_0 14 rfl
theorem dX10_gap_29 : decode cX10_gap 29 = .ok (.bipush (-2), 2) := decAll_at aX10_gap_0 15 rfl
theorem dX10_gap_31 : decode cX10_gap 31 = .ok (.ireturn, 1) := decAll_at aX10_gap_0 16 rfl
theorem dX10_gap_32 : decode cX10_gap 32 = .ok (.aload_n 0, 1) := decAll_at aX10_gap_0 17 rfl
theorem dX10_gap_33 : decode cX10_gap 33 = .ok (.aload_n 0, 1) := decAll_at aX10_gap_0 18 rfl
theorem dX10_gap_34 : decode cX10_gap 34 = .ok (.getfield 127, 3) := decAll_at aX10_gap_0 19 rfl
theorem dX10_gap_37 : decode cX10_gap 37 = .ok (.iload_n 1, 1) := decAll_at aX10_gap_0 20 rfl
theorem dX10_gap_38 : decode cX10_gap 38 = .ok (.iaload, 1) := decAll_at aX10_gap_0 21 rfl
theorem dX10_gap_39 : decode cX10_gap 39 = .ok (.invokevirtual 470, 3) := decAll_at aX10_gap_0 22 rfl
theorem dX10_gap_42 : decode cX10_gap 42 = .ok (.aload_n 0, 1) := decAll_at aX10_gap_0 23 rfl
theorem dX10_gap_43 : decode cX10_gap 43 = .ok (.aload_n 0, 1) := decAll_at aX10_gap_0 24 rfl
theorem dX10_gap_44 : decode cX10_gap 44 = .ok (.getfield 118, 3) := decAll_at aX10_gap_0 25 rfl
theorem dX10_gap_47 : decode cX10_gap 47 = .ok (.iload_n 1, 1) := decAll_at aX10_gap_0 26 rfl
theorem dX10_gap_48 : decode cX10_gap 48 = .ok (.iaload, 1) := decAll_at aX10_gap_0 27 rfl
theorem dX10_gap_49 : decode cX10_gap 49 = .ok (.bipush 6, 2) := decAll_at aX10_gap_0 28 rfl
theorem dX10_gap_51 : decode cX10_gap 51 = .ok (.idiv, 1) := decAll_at aX10_gap_0 29 rfl
theorem dX10_gap_52 : decode cX10_gap 52 = .ok (.iload_n 1, 1) := decAll_at aX10_gap_0 30 rfl
theorem dX10_gap_53 : decode cX10_gap 53 = .ok (.invokevirtual 452, 3) := decAll_at aX10_gap_0 31 rfl
theorem dX10_gap_56 : decode cX10_gap 56 = .ok (.bipush 60, 2) := decAll_at aX10_gap_0 32 rfl
theorem dX10_gap_58 : decode cX10_gap 58 = .ok (.istore_n 2, 1) := decAll_at aX10_gap_0 33 rfl
theorem dX10_gap_59 : decode cX10_gap 59 = .ok (.iconst 0, 1) := decAll_at aX10_gap_0 34 rfl
theorem dX10_gap_60 : decode cX10_gap 60 = .ok (.istore_n 3, 1) := decAll_at aX10_gap_0 35 rfl
theorem dX10_gap_61 : decode cX10_gap 61 = .ok (.iconst 0, 1) := decAll_at aX10_gap_0 36 rfl
theorem dX10_gap_62 : decode cX10_gap 62 = .ok (.istore 4, 2) := decAll_at aX10_gap_0 37 rfl
theorem dX10_gap_64 : decode cX10_gap 64 = .ok (.iload 4, 2) := decAll_at aX10_gap_0 38 rfl
theorem dX10_gap_66 : decode cX10_gap 66 = .ok (.aload_n 0, 1) := decAll_at aX10_gap_0 39 rfl
theorem dX10_gap_67 : decode cX10_gap 67 = .ok (.getfield 150, 3) := decAll_at aX10_gap_0 40 rfl
theorem dX10_gap_70 : decode cX10_gap 70 = .ok (.if_icmp .ge 68, 3) := decAll_at aX10_gap_0 41 rfl
theorem dX10_gap_73 : decode cX10_gap 73 = .ok (.aload_n 0, 1) := decAll_at aX10_gap_0 42 rfl
theorem dX10_gap_74 : decode cX10_gap 74 = .ok (.iload 4, 2) := decAll_at aX10_gap_0 43 rfl
theorem dX10_gap_76 : decode cX10_gap 76 = .ok (.aload_n 0, 1) := decAll_at aX10_gap_0 44 rfl
theorem dX10_gap_77 : decode cX10_gap 77 = .ok (.iload 4, 2) := decAll_at aX10_gap_0 45 rfl
theorem dX10_gap_79 : decode cX10_gap 79 = .ok (.aload_n 0, 1) := decAll_at aX10_gap_0 46 rfl
theorem dX10_gap_80 : decode cX10_gap 80 = .ok (.getfield 118, 3) := decAll_at aX10_gap_0 47 rfl
theorem dX10_gap_83 : decode cX10_gap 83 = .ok (.iload_n 1, 1) := decAll_at aX10_gap_0 48 rfl
theorem dX10_gap_84 : decode cX10_gap 84 = .ok (.iaload, 1) := decAll_at aX10_gap_0 49 rfl
theorem dX10_gap_85 : decode cX10_gap 85 = .ok (.bipush 6, 2) := decAll_at aX10_gap_0 50 rfl
theorem dX10_gap_87 : decode cX10_gap 87 = .ok (.irem, 1) := decAll_at aX10_gap_0 51 rfl
theorem dX10_gap_88 : decode cX10_gap 88 = .ok (.iload_n 1, 1) := decAll_at aX10_gap_0 52 rfl
theorem dX10_gap_89 : decode cX10_gap 89 = .ok (.invokevirtual 449, 3) := decAll_at aX10_gap_0 53 rfl
theorem dX10_gap_92 : decode cX10_gap 92 = .ok (.aload_n 0, 1) := decAll_at aX10_gap_0 54 rfl
theorem dX10_gap_93 : decode cX10_gap 93 = .ok (.getfield 121, 3) := decAll_at aX10_gap_0 55 rfl
theorem dX10_gap_96 : decode cX10_gap 96 = .ok (.iload 4, 2) := decAll_at aX10_gap_0 56 rfl
theorem dX10_gap_98 : decode cX10_gap 98 = .ok (.iaload, 1) := decAll_at aX10_gap_0 57 rfl
theorem dX10_gap_99 : decode cX10_gap 99 = .ok (.iload_n 1, 1) := decAll_at aX10_gap_0 58 rfl
theorem dX10_gap_100 : decode cX10_gap 100 = .ok (.iconst 0, 1) := decAll_at aX10_gap_0 59 rfl
theorem dX10_gap_101 : decode cX10_gap 101 = .ok (.invokevirtual 354, 3) := decAll_at aX10_gap_0 60 rfl
theorem dX10_gap_104 : decode cX10_gap 104 = .ok (.istore 5, 2) := decAll_at aX10_gap_0 61 rfl
theorem dX10_gap_106 : decode cX10_gap 106 = .ok (.iload 5, 2) := decAll_at aX10_gap_0 62 rfl
theorem dX10_gap_108 : decode cX10_gap 108 = .ok (.iload_n 2, 1) := decAll_at aX10_gap_0 63 rfl
def laX10_gap_1 : List (Nat × Instr × Nat) := [(109, .if_icmp .ge 8, 3), (112, .iload 5, 2), (114, .goto 4, 3), (117, .iload_n 2, 1), (118, .istore_n 2, 1), (119, .iload 5, 2), (121, .iload_n 3, 1), (122, .if_icmp .le 8, 3), (125, .iload 5, 2), (127, .goto 4, 3), (130, .iload_n 3, 1), (131, .istore_n 3, 1), (132, .iinc 4 1, 3), (135, .goto (-71), 3), (138, .iload_n 2, 1), (139, .ifCond .ne 8, 3), (142, .bipush (-2), 2), (144, .goto 16, 3), (147, .aload_n 0, 1), (148, .iload_n 1, 1), (149, .iload_n 2, 1), (150, .invokevirtual 390, 3), (153, .aload_n 0, 1), (154, .iload_n 1, 1), (155, .iload_n 3, 1), (156, .invokevirtual 390, 3), (159, .isub, 1), (160, .ireturn, 1)]
theorem aX10_gap_1 : decAll cX10_gap laX10_gap_1 = true := by decide +kernel
theorem dX10_gap_109 : decode cX10_gap 109 = .ok (.if_icmp .ge 8, 3) := decAll_at aX10_gap_1 0 rfl
theorem dX10_gap_112 : decode cX10_gap 112 = .ok (.iload 5, 2) := decAll_at aX10_gap_1 1 rfl
theorem dX10_gap_114 : decode cX10_gap 114 = .ok (.goto 4, 3) := decAll_at aX10_gap_1 2 rfl
theorem dX10_gap_117 : decode cX10_gap 117 = .ok (.iload_n 2, 1) := decAll_at aX10_gap_1 3 rfl
theorem dX10_gap_118 : decode cX10_gap 118 = .ok (.istore_n 2, 1) := decAll_at aX10_gap_1 4 rfl
theorem dX10_gap_119 : decode cX10_gap 119 = .ok (.iload 5, 2) := decAll_at aX10_gap_1 5 rfl
theorem dX10_gap_121 : decode cX10_gap 121 = .ok (.iload_n 3, 1) := decAll_at aX10_gap_1 6 rfl
theorem dX10_gap_122 : decode cX10_gap 122 = .ok (.if_icmp .le 8, 3) := decAll_at aX10_gap_1 7 rfl
theorem dX10_gap_125 : decode cX10_gap 125 = .ok (.iload 5, 2) := decAll_at aX10_gap_1 8 rfl
theorem dX10_gap_127 : decode cX10_gap 127 = .ok (.goto 4, 3) := decAll_at aX10_gap_1 9 rfl
theorem dX10_gap_130 : decode cX10_gap 130 = .ok (.iload_n 3, 1) := decAll_at aX10_gap_1 10 rfl
theorem dX10_gap_131 : decode cX10_gap 131 = .ok (.istore_n 3, 1) := decAll_at aX10_gap_1 11 rfl
theorem dX10_gap_132 : decode cX10_gap 132 = .ok (.iinc 4 1, 3) := decAll_at aX10_gap_1 12 rfl
theorem dX10_gap_135 : decode cX10_gap 135 = .ok (.goto (-71), 3) := decAll_at aX10_gap_1 13 rfl
theorem dX10_gap_138 : decode cX10_gap 138 = .ok (.iload_n 2, 1) := decAll_at aX10_gap_1 14 rfl
theorem dX10_gap_139 : decode cX10_gap 139 = .ok (.ifCond .ne 8, 3) := decAll_at aX10_gap_1 15 rfl
theorem dX10_gap_142 : decode cX10_gap 142 = .ok (.bipush (-2), 2) := decAll_at aX10_gap_1 16 rfl
theorem dX10_gap_144 : decode cX10_gap 144 = .ok (.goto 16, 3) := decAll_at aX10_gap_1 17 rfl
theorem dX10_gap_147 : decode cX10_gap 147 = .ok (.aload_n 0, 1) := decAll_at aX10_gap_1 18 rfl
theorem dX10_gap_148 : decode cX10_gap 148 = .ok (.iload_n 1, 1) := decAll_at aX10_gap_1 19 rfl
theorem dX10_gap_149 : decode cX10_gap 149 = .ok (.iload_n 2, 1) := decAll_at aX10_gap_1 20 rfl
theorem dX10_gap_150 : decode cX10_gap 150 = .ok (.invokevirtual 390, 3) := decAll_at aX10_gap_1 21 rfl
theorem dX10_gap_153 : decode cX10_gap 153 = .ok (.aload_n 0, 1) := decAll_at aX10_gap_1 22 rfl
theorem dX10_gap_154 : decode cX10_gap 154 = .ok (.iload_n 1, 1) := decAll_at aX10_gap_1 23 rfl
theorem dX10_gap_155 : decode cX10_gap 155 = .ok (.iload_n 3, 1) := decAll_at aX10_gap_1 24 rfl
theorem dX10_gap_156 : decode cX10_gap 156 = .ok (.invokevirtual 390, 3) := decAll_at aX10_gap_1 25 rfl
theorem dX10_gap_159 : decode cX10_gap 159 = .ok (.isub, 1) := decAll_at aX10_gap_1 26 rfl
theorem dX10_gap_160 : decode cX10_gap 160 = .ok (.ireturn, 1) := decAll_at aX10_gap_1 27 rfl
def laX10_stateOf_0 : List (Nat × Instr × Nat) := [(0, .bipush 7, 2), (2, .iload_n 0, 1), (3, .imul, 1), (4, .iload_n 1, 1), (5, .iadd, 1), (6, .sipush 1296, 3), (9, .imul, 1), (10, .iload_n 2, 1), (11, .iadd, 1), (12, .ireturn, 1)]
theorem aX10_stateOf_0 : decAll cX10_stateOf laX10_stateOf_0 = true := by decide +kernel
theorem dX10_stateOf_0 : decode cX10_stateOf 0 = .ok (.bipush 7, 2) := decAll_at aX10_stateOf_0 0 rfl
theorem dX10_stateOf_2 : decode cX10_stateOf 2 = .ok (.iload_n 0, 1) := decAll_at aX10_stateOf_0 1 rfl
theorem dX10_stateOf_3 : decode cX10_stateOf 3 = .ok (.imul, 1) := decAll_at aX10_stateOf_0 2 rfl
theorem dX10_stateOf_4 : decode cX10_stateOf 4 = .ok (.iload_n 1, 1) := decAll_at aX10_stateOf_0 3 rfl
theorem dX10_stateOf_5 : decode cX10_stateOf 5 = .ok (.iadd, 1) := decAll_at aX10_stateOf_0 4 rfl
theorem dX10_stateOf_6 : decode cX10_stateOf 6 = .ok (.sipush 1296, 3) := decAll_at aX10_stateOf_0 5 rfl
theorem dX10_stateOf_9 : decode cX10_stateOf 9 = .ok (.imul, 1) := decAll_at aX10_stateOf_0 6 rfl
theorem dX10_stateOf_10 : decode cX10_stateOf 10 = .ok (.iload_n 2, 1) := decAll_at aX10_stateOf_0 7 rfl
theorem dX10_stateOf_11 : decode cX10_stateOf 11 = .ok (.iadd, 1) := decAll_at aX10_stateOf_0 8 rfl
theorem dX10_stateOf_12 : decode cX10_stateOf 12 = .ok (.ireturn, 1) := decAll_at aX10_stateOf_0 9 rfl
def laX10_changeTime_0 : List (Nat × Instr × Nat) := [(0, .iload_n 1, 1), (1, .bipush 6, 2), (3, .if_icmp .eq 8, 3), (6, .iload_n 1, 1), (7, .iload_n 2, 1), (8, .if_icmp .ne 7, 3), (11, .iconst 0, 1), (12, .goto 7, 3), (15, .aload_n 0, 1), (16, .getfield 13, 3), (19, .ireturn, 1)]
theorem aX10_changeTime_0 : decAll cX10_changeTime laX10_changeTime_0 = true := by decide +kernel
theorem dX10_changeTime_0 : decode cX10_changeTime 0 = .ok (.iload_n 1, 1) := decAll_at aX10_changeTime_0 0 rfl
theorem dX10_changeTime_1 : decode cX10_changeTime 1 = .ok (.bipush 6, 2) := decAll_at aX10_changeTime_0 1 rfl
theorem dX10_changeTime_3 : decode cX10_changeTime 3 = .ok (.if_icmp .eq 8, 3) := decAll_at aX10_changeTime_0 2 rfl
theorem dX10_changeTime_6 : decode cX10_changeTime 6 = .ok (.iload_n 1, 1) := decAll_at aX10_changeTime_0 3 rfl
theorem dX10_changeTime_7 : decode cX10_changeTime 7 = .ok (.iload_n 2, 1) := decAll_at aX10_changeTime_0 4 rfl
theorem dX10_changeTime_8 : decode cX10_changeTime 8 = .ok (.if_icmp .ne 7, 3) := decAll_at aX10_changeTime_0 5 rfl
theorem dX10_changeTime_11 : decode cX10_changeTime 11 = .ok (.iconst 0, 1) := decAll_at aX10_changeTime_0 6 rfl
theorem dX10_changeTime_12 : decode cX10_changeTime 12 = .ok (.goto 7, 3) := decAll_at aX10_changeTime_0 7 rfl
theorem dX10_changeTime_15 : decode cX10_changeTime 15 = .ok (.aload_n 0, 1) := decAll_at aX10_changeTime_0 8 rfl
theorem dX10_changeTime_16 : decode cX10_changeTime 16 = .ok (.getfield 13, 3) := decAll_at aX10_changeTime_0 9 rfl
theorem dX10_changeTime_19 : decode cX10_changeTime 19 = .ok (.ireturn, 1) := decAll_at aX10_changeTime_0 10 rfl
def laX10_mayAct_0 : List (Nat × Instr × Nat) := [(0, .aload_n 0, 1), (1, .getfield 179, 3), (4, .iload_n 1, 1), (5, .bipush 6, 2), (7, .irem, 1), (8, .invokestatic 399, 3), (11, .ireturn, 1)]
theorem aX10_mayAct_0 : decAll cX10_mayAct laX10_mayAct_0 = true := by decide +kernel
theorem dX10_mayAct_0 : decode cX10_mayAct 0 = .ok (.aload_n 0, 1) := decAll_at aX10_mayAct_0 0 rfl
theorem dX10_mayAct_1 : decode cX10_mayAct 1 = .ok (.getfield 179, 3) := decAll_at aX10_mayAct_0 1 rfl
theorem dX10_mayAct_4 : decode cX10_mayAct 4 = .ok (.iload_n 1, 1) := decAll_at aX10_mayAct_0 2 rfl
theorem dX10_mayAct_5 : decode cX10_mayAct 5 = .ok (.bipush 6, 2) := decAll_at aX10_mayAct_0 3 rfl
theorem dX10_mayAct_7 : decode cX10_mayAct 7 = .ok (.irem, 1) := decAll_at aX10_mayAct_0 4 rfl
theorem dX10_mayAct_8 : decode cX10_mayAct 8 = .ok (.invokestatic 399, 3) := decAll_at aX10_mayAct_0 5 rfl
theorem dX10_mayAct_11 : decode cX10_mayAct 11 = .ok (.ireturn, 1) := decAll_at aX10_mayAct_0 6 rfl
def laX10_reaches_0 : List (Nat × Instr × Nat) := [(0, .iconst 0, 1), (1, .istore_n 1, 1), (2, .iload_n 1, 1), (3, .aload_n 0, 1), (4, .getfield 160, 3), (7, .if_icmp .gt 50, 3), (10, .iconst 0, 1), (11, .istore_n 2, 1), (12, .iload_n 2, 1), (13, .bipush 6, 2), (15, .if_icmp .gt 36, 3), (18, .iconst 0, 1), (19, .istore_n 3, 1), (20, .iload_n 3, 1), (21, .sipush 1296, 3), (24, .if_icmp .ge 21, 3), (27, .aload_n 0, 1), (28, .getfield 131, 3), (31, .iload_n 1, 1), (32, .iload_n 2, 1), (33, .iload_n 3, 1), (34, .invokestatic 490, 3), (37, .iconst 0, 1), (38, .bastore, 1), (39, .iinc 3 1, 3), (42, .goto (-22), 3), (45, .iinc 2 1, 3), (48, .goto (-36), 3), (51, .iinc 1 1, 3), (54, .goto (-52), 3), (57, .aload_n 0, 1), (58, .getfield 131, 3), (61, .iconst 0, 1), (62, .bipush 6, 2), (64, .iconst 0, 1), (65, .invokestatic 490, 3), (68, .iconst 1, 1), (69, .bastore, 1), (70, .iconst 0, 1), (71, .istore_n 1, 1), (72, .iload_n 1, 1), (73, .aload_n 0, 1), (74, .getfield 160, 3), (77, .if_icmp .ge 119, 3), (80, .iconst 0, 1), (81, .istore_n 2, 1), (82, .iload_n 2, 1), (83, .bipush 6, 2), (85, .if_icmp .gt 105, 3), (88, .iconst 0, 1), (89, .istore_n 3, 1), (90, .iload_n 3, 1), (91, .sipush 1296, 3), (94, .if_icmp .ge 90, 3), (97, .aload_n 0, 1), (98, .getfield 131, 3), (101, .iload_n 1, 1), (102, .iload_n 2, 1), (103, .iload_n 3, 1), (104, .invokestatic 490, 3), (107, .baload, 1), (108, .ifCond .ne 6, 3), (111, .goto 67, 3), (114, .iconst 0, 1)]
theorem aX10_reaches_0 : decAll cX10_reaches laX10_reaches_0 = true := by decide +kernel
theorem dX10_reaches_0 : decode cX10_reaches 0 = .ok (.iconst 0, 1) := decAll_at aX10_reaches_0 0 rfl
theorem dX10_reaches_1 : decode cX10_reaches 1 = .ok (.istore_n 1, 1) := decAll_at aX10_reaches_0 1 rfl
theorem dX10_reaches_2 : decode cX10_reaches 2 = .ok (.iload_n 1, 1) := decAll_at aX10_reaches_0 2 rfl
theorem dX10_reaches_3 : decode cX10_reaches 3 = .ok (.aload_n 0, 1) := decAll_at aX10_reaches_0 3 rfl
theorem dX10_reaches_4 : decode cX10_reaches 4 = .ok (.getfield 160, 3) := decAll_at aX10_reaches_0 4 rfl
theorem dX10_reaches_7 : decode cX10_reaches 7 = .ok (.if_icmp .gt 50, 3) := decAll_at aX10_reaches_0 5 rfl
theorem dX10_reaches_10 : decode cX10_reaches 10 = .ok (.iconst 0, 1) := decAll_at aX10_reaches_0 6 rfl
theorem dX10_reaches_11 : decode cX10_reaches 11 = .ok (.istore_n 2, 1) := decAll_at aX10_reaches_0 7 rfl
theorem dX10_reaches_12 : decode cX10_reaches 12 = .ok (.iload_n 2, 1) := decAll_at aX10_reaches_0 8 rfl
theorem dX10_reaches_13 : decode cX10_reaches 13 = .ok (.bipush 6, 2) := decAll_at aX10_reaches_0 9 rfl
theorem dX10_reaches_15 : decode cX10_reaches 15 = .ok (.if_icmp .gt 36, 3) := decAll_at aX10_reaches_0 10 rfl
theorem dX10_reaches_18 : decode cX10_reaches 18 = .ok (.iconst 0, 1) := decAll_at aX10_reaches_0 11 rfl
theorem dX10_reaches_19 : decode cX10_reaches 19 = .ok (.istore_n 3, 1) := decAll_at aX10_reaches_0 12 rfl
theorem dX10_reaches_20 : decode cX10_reaches 20 = .ok (.iload_n 3, 1) := decAll_at aX10_reaches_0 13 rfl
theorem dX10_reaches_21 : decode cX10_reaches 21 = .ok (.sipush 1296, 3) := decAll_at aX10_reaches_0 14 rfl
theorem dX10_reaches_24 : decode cX10_reaches 24 = .ok (.if_icmp .ge 21, 3) := decAll_at aX10_reaches_0 15 rfl
theorem dX10_reaches_27 : decode cX10_reaches 27 = .ok (.aload_n 0, 1) := decAll_at aX10_reaches_0 16 rfl
theorem dX10_reaches_28 : decode cX10_reaches 28 = .ok (.getfield 131, 3) := decAll_at aX10_reaches_0 17 rfl
theorem dX10_reaches_31 : decode cX10_reaches 31 = .ok (.iload_n 1, 1) := decAll_at aX10_reaches_0 18 rfl
theorem dX10_reaches_32 : decode cX10_reaches 32 = .ok (.iload_n 2, 1) := decAll_at aX10_reaches_0 19 rfl
theorem dX10_reaches_33 : decode cX10_reaches 33 = .ok (.iload_n 3, 1) := decAll_at aX10_reaches_0 20 rfl
theorem dX10_reaches_34 : decode cX10_reaches 34 = .ok (.invokestatic 490, 3) := decAll_at aX10_reaches_0 21 rfl
theorem dX10_reaches_37 : decode cX10_reaches 37 = .ok (.iconst 0, 1) := decAll_at aX10_reaches_0 22 rfl
theorem dX10_reaches_38 : decode cX10_reaches 38 = .ok (.bastore, 1) := decAll_at aX10_reaches_0 23 rfl
theorem dX10_reaches_39 : decode cX10_reaches 39 = .ok (.iinc 3 1, 3) := decAll_at aX10_reaches_0 24 rfl
theorem dX10_reaches_42 : decode cX10_reaches 42 = .ok (.goto (-22), 3) := decAll_at aX10_reaches_0 25 rfl
theorem dX10_reaches_45 : decode cX10_reaches 45 = .ok (.iinc 2 1, 3) := decAll_at aX10_reaches_0 26 rfl
theorem dX10_reaches_48 : decode cX10_reaches 48 = .ok (.goto (-36), 3) := decAll_at aX10_reaches_0 27 rfl
theorem dX10_reaches_51 : decode cX10_reaches 51 = .ok (.iinc 1 1, 3) := decAll_at aX10_reaches_0 28 rfl
theorem dX10_reaches_54 : decode cX10_reaches 54 = .ok (.goto (-52), 3) := decAll_at aX10_reaches_0 29 rfl
theorem dX10_reaches_57 : decode cX10_reaches 57 = .ok (.aload_n 0, 1) := decAll_at aX10_reaches_0 30 rfl
theorem dX10_reaches_58 : decode cX10_reaches 58 = .ok (.getfield 131, 3) := decAll_at aX10_reaches_0 31 rfl
theorem dX10_reaches_61 : decode cX10_reaches 61 = .ok (.iconst 0, 1) := decAll_at aX10_reaches_0 32 rfl
theorem dX10_reaches_62 : decode cX10_reaches 62 = .ok (.bipush 6, 2) := decAll_at aX10_reaches_0 33 rfl
theorem dX10_reaches_64 : decode cX10_reaches 64 = .ok (.iconst 0, 1) := decAll_at aX10_reaches_0 34 rfl
theorem dX10_reaches_65 : decode cX10_reaches 65 = .ok (.invokestatic 490, 3) := decAll_at aX10_reaches_0 35 rfl
theorem dX10_reaches_68 : decode cX10_reaches 68 = .ok (.iconst 1, 1) := decAll_at aX10_reaches_0 36 rfl
theorem dX10_reaches_69 : decode cX10_reaches 69 = .ok (.bastore, 1) := decAll_at aX10_reaches_0 37 rfl
theorem dX10_reaches_70 : decode cX10_reaches 70 = .ok (.iconst 0, 1) := decAll_at aX10_reaches_0 38 rfl
theorem dX10_reaches_71 : decode cX10_reaches 71 = .ok (.istore_n 1, 1) := decAll_at aX10_reaches_0 39 rfl
theorem dX10_reaches_72 : decode cX10_reaches 72 = .ok (.iload_n 1, 1) := decAll_at aX10_reaches_0 40 rfl
theorem dX10_reaches_73 : decode cX10_reaches 73 = .ok (.aload_n 0, 1) := decAll_at aX10_reaches_0 41 rfl
theorem dX10_reaches_74 : decode cX10_reaches 74 = .ok (.getfield 160, 3) := decAll_at aX10_reaches_0 42 rfl
theorem dX10_reaches_77 : decode cX10_reaches 77 = .ok (.if_icmp .ge 119, 3) := decAll_at aX10_reaches_0 43 rfl
theorem dX10_reaches_80 : decode cX10_reaches 80 = .ok (.iconst 0, 1) := decAll_at aX10_reaches_0 44 rfl
theorem dX10_reaches_81 : decode cX10_reaches 81 = .ok (.istore_n 2, 1) := decAll_at aX10_reaches_0 45 rfl
theorem dX10_reaches_82 : decode cX10_reaches 82 = .ok (.iload_n 2, 1) := decAll_at aX10_reaches_0 46 rfl
theorem dX10_reaches_83 : decode cX10_reaches 83 = .ok (.bipush 6, 2) := decAll_at aX10_reaches_0 47 rfl
theorem dX10_reaches_85 : decode cX10_reaches 85 = .ok (.if_icmp .gt 105, 3) := decAll_at aX10_reaches_0 48 rfl
theorem dX10_reaches_88 : decode cX10_reaches 88 = .ok (.iconst 0, 1) := decAll_at aX10_reaches_0 49 rfl
theorem dX10_reaches_89 : decode cX10_reaches 89 = .ok (.istore_n 3, 1) := decAll_at aX10_reaches_0 50 rfl
theorem dX10_reaches_90 : decode cX10_reaches 90 = .ok (.iload_n 3, 1) := decAll_at aX10_reaches_0 51 rfl
theorem dX10_reaches_91 : decode cX10_reaches 91 = .ok (.sipush 1296, 3) := decAll_at aX10_reaches_0 52 rfl
theorem dX10_reaches_94 : decode cX10_reaches 94 = .ok (.if_icmp .ge 90, 3) := decAll_at aX10_reaches_0 53 rfl
theorem dX10_reaches_97 : decode cX10_reaches 97 = .ok (.aload_n 0, 1) := decAll_at aX10_reaches_0 54 rfl
theorem dX10_reaches_98 : decode cX10_reaches 98 = .ok (.getfield 131, 3) := decAll_at aX10_reaches_0 55 rfl
theorem dX10_reaches_101 : decode cX10_reaches 101 = .ok (.iload_n 1, 1) := decAll_at aX10_reaches_0 56 rfl
theorem dX10_reaches_102 : decode cX10_reaches 102 = .ok (.iload_n 2, 1) := decAll_at aX10_reaches_0 57 rfl
theorem dX10_reaches_103 : decode cX10_reaches 103 = .ok (.iload_n 3, 1) := decAll_at aX10_reaches_0 58 rfl
theorem dX10_reaches_104 : decode cX10_reaches 104 = .ok (.invokestatic 490, 3) := decAll_at aX10_reaches_0 59 rfl
theorem dX10_reaches_107 : decode cX10_reaches 107 = .ok (.baload, 1) := decAll_at aX10_reaches_0 60 rfl
theorem dX10_reaches_108 : decode cX10_reaches 108 = .ok (.ifCond .ne 6, 3) := decAll_at aX10_reaches_0 61 rfl
theorem dX10_reaches_111 : decode cX10_reaches 111 = .ok (.goto 67, 3) := decAll_at aX10_reaches_0 62 rfl
theorem dX10_reaches_114 : decode cX10_reaches 114 = .ok (.iconst 0, 1) := decAll_at aX10_reaches_0 63 rfl
def laX10_reaches_1 : List (Nat × Instr × Nat) := [(115, .istore 4, 2), (117, .iload 4, 2), (119, .bipush 18, 2), (121, .if_icmp .ge 57, 3), (124, .aload_n 0, 1), (125, .iload 4, 2), (127, .invokevirtual 493, 3), (130, .ifCond .ne 6, 3), (133, .goto 39, 3), (136, .aload_n 0, 1), (137, .iload_n 3, 1), (138, .invokevirtual 470, 3), (141, .aload_n 0, 1), (142, .iload_n 1, 1), (143, .iload 4, 2), (145, .invokevirtual 473, 3), (148, .ifCond .eq 24, 3), (151, .aload_n 0, 1), (152, .getfield 131, 3), (155, .iload_n 1, 1), (156, .iconst 1, 1), (157, .iadd, 1), (158, .iload 4, 2), (160, .bipush 6, 2), (162, .irem, 1), (163, .aload_n 0, 1), (164, .invokevirtual 479, 3), (167, .invokestatic 490, 3), (170, .iconst 1, 1), (171, .bastore, 1), (172, .iinc 4 1, 3), (175, .goto (-58), 3), (178, .iinc 3 1, 3), (181, .goto (-91), 3), (184, .iinc 2 1, 3), (187, .goto (-105), 3), (190, .iinc 1 1, 3), (193, .goto (-121), 3), (196, .return_, 1)]
theorem aX10_reaches_1 : decAll cX10_reaches laX10_reaches_1 = true := by decide +kernel
theorem dX10_reaches_115 : decode cX10_reaches 115 = .ok (.istore 4, 2) := decAll_at aX10_reaches_1 0 rfl
theorem dX10_reaches_117 : decode cX10_reaches 117 = .ok (.iload 4, 2) := decAll_at aX10_reaches_1 1 rfl
theorem dX10_reaches_119 : decode cX10_reaches 119 = .ok (.bipush 18, 2) := decAll_at aX10_reaches_1 2 rfl
theorem dX10_reaches_121 : decode cX10_reaches 121 = .ok (.if_icmp .ge 57, 3) := decAll_at aX10_reaches_1 3 rfl
theorem dX10_reaches_124 : decode cX10_reaches 124 = .ok (.aload_n 0, 1) := decAll_at aX10_reaches_1 4 rfl
theorem dX10_reaches_125 : decode cX10_reaches 125 = .ok (.iload 4, 2) := decAll_at aX10_reaches_1 5 rfl
theorem dX10_reaches_127 : decode cX10_reaches 127 = .ok (.invokevirtual 493, 3) := decAll_at aX10_reaches_1 6 rfl
theorem dX10_reaches_130 : decode cX10_reaches 130 = .ok (.ifCond .ne 6, 3) := decAll_at aX10_reaches_1 7 rfl
theorem dX10_reaches_133 : decode cX10_reaches 133 = .ok (.goto 39, 3) := decAll_at aX10_reaches_1 8 rfl
theorem dX10_reaches_136 : decode cX10_reaches 136 = .ok (.aload_n 0, 1) := decAll_at aX10_reaches_1 9 rfl
theorem dX10_reaches_137 : decode cX10_reaches 137 = .ok (.iload_n 3, 1) := decAll_at aX10_reaches_1 10 rfl
theorem dX10_reaches_138 : decode cX10_reaches 138 = .ok (.invokevirtual 470, 3) := decAll_at aX10_reaches_1 11 rfl
theorem dX10_reaches_141 : decode cX10_reaches 141 = .ok (.aload_n 0, 1) := decAll_at aX10_reaches_1 12 rfl
theorem dX10_reaches_142 : decode cX10_reaches 142 = .ok (.iload_n 1, 1) := decAll_at aX10_reaches_1 13 rfl
theorem dX10_reaches_143 : decode cX10_reaches 143 = .ok (.iload 4, 2) := decAll_at aX10_reaches_1 14 rfl
theorem dX10_reaches_145 : decode cX10_reaches 145 = .ok (.invokevirtual 473, 3) := decAll_at aX10_reaches_1 15 rfl
theorem dX10_reaches_148 : decode cX10_reaches 148 = .ok (.ifCond .eq 24, 3) := decAll_at aX10_reaches_1 16 rfl
theorem dX10_reaches_151 : decode cX10_reaches 151 = .ok (.aload_n 0, 1) := decAll_at aX10_reaches_1 17 rfl
theorem dX10_reaches_152 : decode cX10_reaches 152 = .ok (.getfield 131, 3) := decAll_at aX10_reaches_1 18 rfl
theorem dX10_reaches_155 : decode cX10_reaches 155 = .ok (.iload_n 1, 1) := decAll_at aX10_reaches_1 19 rfl
theorem dX10_reaches_156 : decode cX10_reaches 156 = .ok (.iconst 1, 1) := decAll_at aX10_reaches_1 20 rfl
theorem dX10_reaches_157 : decode cX10_reaches 157 = .ok (.iadd, 1) := decAll_at aX10_reaches_1 21 rfl
theorem dX10_reaches_158 : decode cX10_reaches 158 = .ok (.iload 4, 2) := decAll_at aX10_reaches_1 22 rfl
theorem dX10_reaches_160 : decode cX10_reaches 160 = .ok (.bipush 6, 2) := decAll_at aX10_reaches_1 23 rfl
theorem dX10_reaches_162 : decode cX10_reaches 162 = .ok (.irem, 1) := decAll_at aX10_reaches_1 24 rfl
theorem dX10_reaches_163 : decode cX10_reaches 163 = .ok (.aload_n 0, 1) := decAll_at aX10_reaches_1 25 rfl
theorem dX10_reaches_164 : decode cX10_reaches 164 = .ok (.invokevirtual 479, 3) := decAll_at aX10_reaches_1 26 rfl
theorem dX10_reaches_167 : decode cX10_reaches 167 = .ok (.invokestatic 490, 3) := decAll_at aX10_reaches_1 27 rfl
theorem dX10_reaches_170 : decode cX10_reaches 170 = .ok (.iconst 1, 1) := decAll_at aX10_reaches_1 28 rfl
theorem dX10_reaches_171 : decode cX10_reaches 171 = .ok (.bastore, 1) := decAll_at aX10_reaches_1 29 rfl
theorem dX10_reaches_172 : decode cX10_reaches 172 = .ok (.iinc 4 1, 3) := decAll_at aX10_reaches_1 30 rfl
theorem dX10_reaches_175 : decode cX10_reaches 175 = .ok (.goto (-58), 3) := decAll_at aX10_reaches_1 31 rfl
theorem dX10_reaches_178 : decode cX10_reaches 178 = .ok (.iinc 3 1, 3) := decAll_at aX10_reaches_1 32 rfl
theorem dX10_reaches_181 : decode cX10_reaches 181 = .ok (.goto (-91), 3) := decAll_at aX10_reaches_1 33 rfl
theorem dX10_reaches_184 : decode cX10_reaches 184 = .ok (.iinc 2 1, 3) := decAll_at aX10_reaches_1 34 rfl
theorem dX10_reaches_187 : decode cX10_reaches 187 = .ok (.goto (-105), 3) := decAll_at aX10_reaches_1 35 rfl
theorem dX10_reaches_190 : decode cX10_reaches 190 = .ok (.iinc 1 1, 3) := decAll_at aX10_reaches_1 36 rfl
theorem dX10_reaches_193 : decode cX10_reaches 193 = .ok (.goto (-121), 3) := decAll_at aX10_reaches_1 37 rfl
theorem dX10_reaches_196 : decode cX10_reaches 196 = .ok (.return_, 1) := decAll_at aX10_reaches_1 38 rfl
def laX10_endBy_0 : List (Nat × Instr × Nat) := [(0, .aload_n 0, 1), (1, .iload_n 3, 1), (2, .invokevirtual 470, 3), (5, .aload_n 0, 1), (6, .iload 4, 2), (8, .invokevirtual 493, 3), (11, .ifCond .eq 13, 3), (14, .aload_n 0, 1), (15, .iload_n 1, 1), (16, .iload 4, 2), (18, .invokevirtual 473, 3), (21, .ifCond .ne 7, 3), (24, .ldc_w 430, 3), (27, .ireturn, 1), (28, .aload_n 0, 1), (29, .getfield 134, 3), (32, .iload_n 1, 1), (33, .iconst 1, 1), (34, .iadd, 1), (35, .iload 4, 2), (37, .bipush 6, 2), (39, .irem, 1), (40, .aload_n 0, 1), (41, .invokevirtual 479, 3), (44, .invokestatic 490, 3), (47, .iaload, 1), (48, .istore 5, 2), (50, .iload 5, 2), (52, .ldc_w 430, 3), (55, .if_icmp .ne 9, 3), (58, .ldc_w 430, 3), (61, .goto 21, 3), (64, .aload_n 0, 1), (65, .getfield 461, 3), (68, .aload_n 0, 1), (69, .iload_n 2, 1), (70, .iload 4, 2), (72, .bipush 6, 2), (74, .irem, 1), (75, .invokevirtual 496, 3), (78, .iadd, 1), (79, .iload 5, 2), (81, .iadd, 1), (82, .ireturn, 1)]
theorem aX10_endBy_0 : decAll cX10_endBy laX10_endBy_0 = true := by decide +kernel
theorem dX10_endBy_0 : decode cX10_endBy 0 = .ok (.aload_n 0, 1) := decAll_at aX10_endBy_0 0 rfl
theorem dX10_endBy_1 : decode cX10_endBy 1 = .ok (.iload_n 3, 1) := decAll_at aX10_endBy_0 1 rfl
theorem dX10_endBy_2 : decode cX10_endBy 2 = .ok (.invokevirtual 470, 3) := decAll_at aX10_endBy_0 2 rfl
theorem dX10_endBy_5 : decode cX10_endBy 5 = .ok (.aload_n 0, 1) := decAll_at aX10_endBy_0 3 rfl
theorem dX10_endBy_6 : decode cX10_endBy 6 = .ok (.iload 4, 2) := decAll_at aX10_endBy_0 4 rfl
theorem dX10_endBy_8 : decode cX10_endBy 8 = .ok (.invokevirtual 493, 3) := decAll_at aX10_endBy_0 5 rfl
theorem dX10_endBy_11 : decode cX10_endBy 11 = .ok (.ifCond .eq 13, 3) := decAll_at aX10_endBy_0 6 rfl
theorem dX10_endBy_14 : decode cX10_endBy 14 = .ok (.aload_n 0, 1) := decAll_at aX10_endBy_0 7 rfl
theorem dX10_endBy_15 : decode cX10_endBy 15 = .ok (.iload_n 1, 1) := decAll_at aX10_endBy_0 8 rfl
theorem dX10_endBy_16 : decode cX10_endBy 16 = .ok (.iload 4, 2) := decAll_at aX10_endBy_0 9 rfl
theorem dX10_endBy_18 : decode cX10_endBy 18 = .ok (.invokevirtual 473, 3) := decAll_at aX10_endBy_0 10 rfl
theorem dX10_endBy_21 : decode cX10_endBy 21 = .ok (.ifCond .ne 7, 3) := decAll_at aX10_endBy_0 11 rfl
theorem dX10_endBy_24 : decode cX10_endBy 24 = .ok (.ldc_w 430, 3) := decAll_at aX10_endBy_0 12 rfl
theorem dX10_endBy_27 : decode cX10_endBy 27 = .ok (.ireturn, 1) := decAll_at aX10_endBy_0 13 rfl
theorem dX10_endBy_28 : decode cX10_endBy 28 = .ok (.aload_n 0, 1) := decAll_at aX10_endBy_0 14 rfl
theorem dX10_endBy_29 : decode cX10_endBy 29 = .ok (.getfield 134, 3) := decAll_at aX10_endBy_0 15 rfl
theorem dX10_endBy_32 : decode cX10_endBy 32 = .ok (.iload_n 1, 1) := decAll_at aX10_endBy_0 16 rfl
theorem dX10_endBy_33 : decode cX10_endBy 33 = .ok (.iconst 1, 1) := decAll_at aX10_endBy_0 17 rfl
theorem dX10_endBy_34 : decode cX10_endBy 34 = .ok (.iadd, 1) := decAll_at aX10_endBy_0 18 rfl
theorem dX10_endBy_35 : decode cX10_endBy 35 = .ok (.iload 4, 2) := decAll_at aX10_endBy_0 19 rfl
theorem dX10_endBy_37 : decode cX10_endBy 37 = .ok (.bipush 6, 2) := decAll_at aX10_endBy_0 20 rfl
theorem dX10_endBy_39 : decode cX10_endBy 39 = .ok (.irem, 1) := decAll_at aX10_endBy_0 21 rfl
theorem dX10_endBy_40 : decode cX10_endBy 40 = .ok (.aload_n 0, 1) := decAll_at aX10_endBy_0 22 rfl
theorem dX10_endBy_41 : decode cX10_endBy 41 = .ok (.invokevirtual 479, 3) := decAll_at aX10_endBy_0 23 rfl
theorem dX10_endBy_44 : decode cX10_endBy 44 = .ok (.invokestatic 490, 3) := decAll_at aX10_endBy_0 24 rfl
theorem dX10_endBy_47 : decode cX10_endBy 47 = .ok (.iaload, 1) := decAll_at aX10_endBy_0 25 rfl
theorem dX10_endBy_48 : decode cX10_endBy 48 = .ok (.istore 5, 2) := decAll_at aX10_endBy_0 26 rfl
theorem dX10_endBy_50 : decode cX10_endBy 50 = .ok (.iload 5, 2) := decAll_at aX10_endBy_0 27 rfl
theorem dX10_endBy_52 : decode cX10_endBy 52 = .ok (.ldc_w 430, 3) := decAll_at aX10_endBy_0 28 rfl
theorem dX10_endBy_55 : decode cX10_endBy 55 = .ok (.if_icmp .ne 9, 3) := decAll_at aX10_endBy_0 29 rfl
theorem dX10_endBy_58 : decode cX10_endBy 58 = .ok (.ldc_w 430, 3) := decAll_at aX10_endBy_0 30 rfl
theorem dX10_endBy_61 : decode cX10_endBy 61 = .ok (.goto 21, 3) := decAll_at aX10_endBy_0 31 rfl
theorem dX10_endBy_64 : decode cX10_endBy 64 = .ok (.aload_n 0, 1) := decAll_at aX10_endBy_0 32 rfl
theorem dX10_endBy_65 : decode cX10_endBy 65 = .ok (.getfield 461, 3) := decAll_at aX10_endBy_0 33 rfl
theorem dX10_endBy_68 : decode cX10_endBy 68 = .ok (.aload_n 0, 1) := decAll_at aX10_endBy_0 34 rfl
theorem dX10_endBy_69 : decode cX10_endBy 69 = .ok (.iload_n 2, 1) := decAll_at aX10_endBy_0 35 rfl
theorem dX10_endBy_70 : decode cX10_endBy 70 = .ok (.iload 4, 2) := decAll_at aX10_endBy_0 36 rfl
theorem dX10_endBy_72 : decode cX10_endBy 72 = .ok (.bipush 6, 2) := decAll_at aX10_endBy_0 37 rfl
theorem dX10_endBy_74 : decode cX10_endBy 74 = .ok (.irem, 1) := decAll_at aX10_endBy_0 38 rfl
theorem dX10_endBy_75 : decode cX10_endBy 75 = .ok (.invokevirtual 496, 3) := decAll_at aX10_endBy_0 39 rfl
theorem dX10_endBy_78 : decode cX10_endBy 78 = .ok (.iadd, 1) := decAll_at aX10_endBy_0 40 rfl
theorem dX10_endBy_79 : decode cX10_endBy 79 = .ok (.iload 5, 2) := decAll_at aX10_endBy_0 41 rfl
theorem dX10_endBy_81 : decode cX10_endBy 81 = .ok (.iadd, 1) := decAll_at aX10_endBy_0 42 rfl
theorem dX10_endBy_82 : decode cX10_endBy 82 = .ok (.ireturn, 1) := decAll_at aX10_endBy_0 43 rfl
def laX10_laysBest_0 : List (Nat × Instr × Nat) := [(0, .aload_n 0, 1), (1, .invokevirtual 499, 3), (4, .aload_n 0, 1), (5, .getfield 160, 3), (8, .istore_n 1, 1), (9, .iload_n 1, 1), (10, .ifCond .lt 147, 3), (13, .iconst 0, 1), (14, .istore_n 2, 1), (15, .iload_n 2, 1), (16, .bipush 6, 2), (18, .if_icmp .gt 133, 3), (21, .iconst 0, 1), (22, .istore_n 3, 1), (23, .iload_n 3, 1), (24, .sipush 1296, 3), (27, .if_icmp .ge 118, 3), (30, .iload_n 1, 1), (31, .iload_n 2, 1), (32, .iload_n 3, 1), (33, .invokestatic 490, 3), (36, .istore 4, 2), (38, .aload_n 0, 1), (39, .getfield 131, 3), (42, .iload 4, 2), (44, .baload, 1), (45, .ifCond .ne 6, 3), (48, .goto 91, 3), (51, .aload_n 0, 1), (52, .getfield 134, 3), (55, .iload 4, 2), (57, .iload_n 1, 1), (58, .aload_n 0, 1), (59, .getfield 160, 3), (62, .if_icmp .ne 7, 3), (65, .iconst 0, 1), (66, .goto 6, 3), (69, .ldc_w 430, 3), (72, .iastore, 1), (73, .iconst 0, 1), (74, .istore 5, 2), (76, .iload 5, 2), (78, .bipush 18, 2), (80, .if_icmp .ge 59, 3), (83, .iload_n 1, 1), (84, .aload_n 0, 1), (85, .getfield 160, 3), (88, .if_icmp .ge 51, 3), (91, .aload_n 0, 1), (92, .iload_n 1, 1), (93, .iload_n 2, 1), (94, .iload_n 3, 1), (95, .iload 5, 2), (97, .invokevirtual 502, 3), (100, .istore 6, 2), (102, .aload_n 0, 1), (103, .getfield 134, 3), (106, .iload 4, 2), (108, .iload 6, 2), (110, .aload_n 0, 1), (111, .getfield 134, 3), (114, .iload 4, 2), (116, .iaload, 1), (117, .if_icmp .ge 8, 3)]
theorem aX10_laysBest_0 : decAll cX10_laysBest laX10_laysBest_0 = true := by decide +kernel
theorem dX10_laysBest_0 : decode cX10_laysBest 0 = .ok (.aload_n 0, 1) := decAll_at aX10_laysBest_0 0 rfl
theorem dX10_laysBest_1 : decode cX10_laysBest 1 = .ok (.invokevirtual 499, 3) := decAll_at aX10_laysBest_0 1 rfl
theorem dX10_laysBest_4 : decode cX10_laysBest 4 = .ok (.aload_n 0, 1) := decAll_at aX10_laysBest_0 2 rfl
theorem dX10_laysBest_5 : decode cX10_laysBest 5 = .ok (.getfield 160, 3) := decAll_at aX10_laysBest_0 3 rfl
theorem dX10_laysBest_8 : decode cX10_laysBest 8 = .ok (.istore_n 1, 1) := decAll_at aX10_laysBest_0 4 rfl
theorem dX10_laysBest_9 : decode cX10_laysBest 9 = .ok (.iload_n 1, 1) := decAll_at aX10_laysBest_0 5 rfl
theorem dX10_laysBest_10 : decode cX10_laysBest 10 = .ok (.ifCond .lt 147, 3) := decAll_at aX10_laysBest_0 6 rfl
theorem dX10_laysBest_13 : decode cX10_laysBest 13 = .ok (.iconst 0, 1) := decAll_at aX10_laysBest_0 7 rfl
theorem dX10_laysBest_14 : decode cX10_laysBest 14 = .ok (.istore_n 2, 1) := decAll_at aX10_laysBest_0 8 rfl
theorem dX10_laysBest_15 : decode cX10_laysBest 15 = .ok (.iload_n 2, 1) := decAll_at aX10_laysBest_0 9 rfl
theorem dX10_laysBest_16 : decode cX10_laysBest 16 = .ok (.bipush 6, 2) := decAll_at aX10_laysBest_0 10 rfl
theorem dX10_laysBest_18 : decode cX10_laysBest 18 = .ok (.if_icmp .gt 133, 3) := decAll_at aX10_laysBest_0 11 rfl
theorem dX10_laysBest_21 : decode cX10_laysBest 21 = .ok (.iconst 0, 1) := decAll_at aX10_laysBest_0 12 rfl
theorem dX10_laysBest_22 : decode cX10_laysBest 22 = .ok (.istore_n 3, 1) := decAll_at aX10_laysBest_0 13 rfl
theorem dX10_laysBest_23 : decode cX10_laysBest 23 = .ok (.iload_n 3, 1) := decAll_at aX10_laysBest_0 14 rfl
theorem dX10_laysBest_24 : decode cX10_laysBest 24 = .ok (.sipush 1296, 3) := decAll_at aX10_laysBest_0 15 rfl
theorem dX10_laysBest_27 : decode cX10_laysBest 27 = .ok (.if_icmp .ge 118, 3) := decAll_at aX10_laysBest_0 16 rfl
theorem dX10_laysBest_30 : decode cX10_laysBest 30 = .ok (.iload_n 1, 1) := decAll_at aX10_laysBest_0 17 rfl
theorem dX10_laysBest_31 : decode cX10_laysBest 31 = .ok (.iload_n 2, 1) := decAll_at aX10_laysBest_0 18 rfl
theorem dX10_laysBest_32 : decode cX10_laysBest 32 = .ok (.iload_n 3, 1) := decAll_at aX10_laysBest_0 19 rfl
theorem dX10_laysBest_33 : decode cX10_laysBest 33 = .ok (.invokestatic 490, 3) := decAll_at aX10_laysBest_0 20 rfl
theorem dX10_laysBest_36 : decode cX10_laysBest 36 = .ok (.istore 4, 2) := decAll_at aX10_laysBest_0 21 rfl
theorem dX10_laysBest_38 : decode cX10_laysBest 38 = .ok (.aload_n 0, 1) := decAll_at aX10_laysBest_0 22 rfl
theorem dX10_laysBest_39 : decode cX10_laysBest 39 = .ok (.getfield 131, 3) := decAll_at aX10_laysBest_0 23 rfl
theorem dX10_laysBest_42 : decode cX10_laysBest 42 = .ok (.iload 4, 2) := decAll_at aX10_laysBest_0 24 rfl
theorem dX10_laysBest_44 : decode cX10_laysBest 44 = .ok (.baload, 1) := decAll_at aX10_laysBest_0 25 rfl
theorem dX10_laysBest_45 : decode cX10_laysBest 45 = .ok (.ifCond .ne 6, 3) := decAll_at aX10_laysBest_0 26 rfl
theorem dX10_laysBest_48 : decode cX10_laysBest 48 = .ok (.goto 91, 3) := decAll_at aX10_laysBest_0 27 rfl
theorem dX10_laysBest_51 : decode cX10_laysBest 51 = .ok (.aload_n 0, 1) := decAll_at aX10_laysBest_0 28 rfl
theorem dX10_laysBest_52 : decode cX10_laysBest 52 = .ok (.getfield 134, 3) := decAll_at aX10_laysBest_0 29 rfl
theorem dX10_laysBest_55 : decode cX10_laysBest 55 = .ok (.iload 4, 2) := decAll_at aX10_laysBest_0 30 rfl
theorem dX10_laysBest_57 : decode cX10_laysBest 57 = .ok (.iload_n 1, 1) := decAll_at aX10_laysBest_0 31 rfl
theorem dX10_laysBest_58 : decode cX10_laysBest 58 = .ok (.aload_n 0, 1) := decAll_at aX10_laysBest_0 32 rfl
theorem dX10_laysBest_59 : decode cX10_laysBest 59 = .ok (.getfield 160, 3) := decAll_at aX10_laysBest_0 33 rfl
theorem dX10_laysBest_62 : decode cX10_laysBest 62 = .ok (.if_icmp .ne 7, 3) := decAll_at aX10_laysBest_0 34 rfl
theorem dX10_laysBest_65 : decode cX10_laysBest 65 = .ok (.iconst 0, 1) := decAll_at aX10_laysBest_0 35 rfl
theorem dX10_laysBest_66 : decode cX10_laysBest 66 = .ok (.goto 6, 3) := decAll_at aX10_laysBest_0 36 rfl
theorem dX10_laysBest_69 : decode cX10_laysBest 69 = .ok (.ldc_w 430, 3) := decAll_at aX10_laysBest_0 37 rfl
theorem dX10_laysBest_72 : decode cX10_laysBest 72 = .ok (.iastore, 1) := decAll_at aX10_laysBest_0 38 rfl
theorem dX10_laysBest_73 : decode cX10_laysBest 73 = .ok (.iconst 0, 1) := decAll_at aX10_laysBest_0 39 rfl
theorem dX10_laysBest_74 : decode cX10_laysBest 74 = .ok (.istore 5, 2) := decAll_at aX10_laysBest_0 40 rfl
theorem dX10_laysBest_76 : decode cX10_laysBest 76 = .ok (.iload 5, 2) := decAll_at aX10_laysBest_0 41 rfl
theorem dX10_laysBest_78 : decode cX10_laysBest 78 = .ok (.bipush 18, 2) := decAll_at aX10_laysBest_0 42 rfl
theorem dX10_laysBest_80 : decode cX10_laysBest 80 = .ok (.if_icmp .ge 59, 3) := decAll_at aX10_laysBest_0 43 rfl
theorem dX10_laysBest_83 : decode cX10_laysBest 83 = .ok (.iload_n 1, 1) := decAll_at aX10_laysBest_0 44 rfl
theorem dX10_laysBest_84 : decode cX10_laysBest 84 = .ok (.aload_n 0, 1) := decAll_at aX10_laysBest_0 45 rfl
theorem dX10_laysBest_85 : decode cX10_laysBest 85 = .ok (.getfield 160, 3) := decAll_at aX10_laysBest_0 46 rfl
theorem dX10_laysBest_88 : decode cX10_laysBest 88 = .ok (.if_icmp .ge 51, 3) := decAll_at aX10_laysBest_0 47 rfl
theorem dX10_laysBest_91 : decode cX10_laysBest 91 = .ok (.aload_n 0, 1) := decAll_at aX10_laysBest_0 48 rfl
theorem dX10_laysBest_92 : decode cX10_laysBest 92 = .ok (.iload_n 1, 1) := decAll_at aX10_laysBest_0 49 rfl
theorem dX10_laysBest_93 : decode cX10_laysBest 93 = .ok (.iload_n 2, 1) := decAll_at aX10_laysBest_0 50 rfl
theorem dX10_laysBest_94 : decode cX10_laysBest 94 = .ok (.iload_n 3, 1) := decAll_at aX10_laysBest_0 51 rfl
theorem dX10_laysBest_95 : decode cX10_laysBest 95 = .ok (.iload 5, 2) := decAll_at aX10_laysBest_0 52 rfl
theorem dX10_laysBest_97 : decode cX10_laysBest 97 = .ok (.invokevirtual 502, 3) := decAll_at aX10_laysBest_0 53 rfl
theorem dX10_laysBest_100 : decode cX10_laysBest 100 = .ok (.istore 6, 2) := decAll_at aX10_laysBest_0 54 rfl
theorem dX10_laysBest_102 : decode cX10_laysBest 102 = .ok (.aload_n 0, 1) := decAll_at aX10_laysBest_0 55 rfl
theorem dX10_laysBest_103 : decode cX10_laysBest 103 = .ok (.getfield 134, 3) := decAll_at aX10_laysBest_0 56 rfl
theorem dX10_laysBest_106 : decode cX10_laysBest 106 = .ok (.iload 4, 2) := decAll_at aX10_laysBest_0 57 rfl
theorem dX10_laysBest_108 : decode cX10_laysBest 108 = .ok (.iload 6, 2) := decAll_at aX10_laysBest_0 58 rfl
theorem dX10_laysBest_110 : decode cX10_laysBest 110 = .ok (.aload_n 0, 1) := decAll_at aX10_laysBest_0 59 rfl
theorem dX10_laysBest_111 : decode cX10_laysBest 111 = .ok (.getfield 134, 3) := decAll_at aX10_laysBest_0 60 rfl
theorem dX10_laysBest_114 : decode cX10_laysBest 114 = .ok (.iload 4, 2) := decAll_at aX10_laysBest_0 61 rfl
theorem dX10_laysBest_116 : decode cX10_laysBest 116 = .ok (.iaload, 1) := decAll_at aX10_laysBest_0 62 rfl
theorem dX10_laysBest_117 : decode cX10_laysBest 117 = .ok (.if_icmp .ge 8, 3) := decAll_at aX10_laysBest_0 63 rfl
def laX10_laysBest_1 : List (Nat × Instr × Nat) := [(120, .iload 6, 2), (122, .goto 10, 3), (125, .aload_n 0, 1), (126, .getfield 134, 3), (129, .iload 4, 2), (131, .iaload, 1), (132, .iastore, 1), (133, .iinc 5 1, 3), (136, .goto (-60), 3), (139, .iinc 3 1, 3), (142, .goto (-119), 3), (145, .iinc 2 1, 3), (148, .goto (-133), 3), (151, .iinc 1 (-1), 3), (154, .goto (-145), 3), (157, .return_, 1)]
theorem aX10_laysBest_1 : decAll cX10_laysBest laX10_laysBest_1 = true := by decide +kernel
theorem dX10_laysBest_120 : decode cX10_laysBest 120 = .ok (.iload 6, 2) := decAll_at aX10_laysBest_1 0 rfl
theorem dX10_laysBest_122 : decode cX10_laysBest 122 = .ok (.goto 10, 3) := decAll_at aX10_laysBest_1 1 rfl
theorem dX10_laysBest_125 : decode cX10_laysBest 125 = .ok (.aload_n 0, 1) := decAll_at aX10_laysBest_1 2 rfl
theorem dX10_laysBest_126 : decode cX10_laysBest 126 = .ok (.getfield 134, 3) := decAll_at aX10_laysBest_1 3 rfl
theorem dX10_laysBest_129 : decode cX10_laysBest 129 = .ok (.iload 4, 2) := decAll_at aX10_laysBest_1 4 rfl
theorem dX10_laysBest_131 : decode cX10_laysBest 131 = .ok (.iaload, 1) := decAll_at aX10_laysBest_1 5 rfl
theorem dX10_laysBest_132 : decode cX10_laysBest 132 = .ok (.iastore, 1) := decAll_at aX10_laysBest_1 6 rfl
theorem dX10_laysBest_133 : decode cX10_laysBest 133 = .ok (.iinc 5 1, 3) := decAll_at aX10_laysBest_1 7 rfl
theorem dX10_laysBest_136 : decode cX10_laysBest 136 = .ok (.goto (-60), 3) := decAll_at aX10_laysBest_1 8 rfl
theorem dX10_laysBest_139 : decode cX10_laysBest 139 = .ok (.iinc 3 1, 3) := decAll_at aX10_laysBest_1 9 rfl
theorem dX10_laysBest_142 : decode cX10_laysBest 142 = .ok (.goto (-119), 3) := decAll_at aX10_laysBest_1 10 rfl
theorem dX10_laysBest_145 : decode cX10_laysBest 145 = .ok (.iinc 2 1, 3) := decAll_at aX10_laysBest_1 11 rfl
theorem dX10_laysBest_148 : decode cX10_laysBest 148 = .ok (.goto (-133), 3) := decAll_at aX10_laysBest_1 12 rfl
theorem dX10_laysBest_151 : decode cX10_laysBest 151 = .ok (.iinc 1 (-1), 3) := decAll_at aX10_laysBest_1 13 rfl
theorem dX10_laysBest_154 : decode cX10_laysBest 154 = .ok (.goto (-145), 3) := decAll_at aX10_laysBest_1 14 rfl
theorem dX10_laysBest_157 : decode cX10_laysBest 157 = .ok (.return_, 1) := decAll_at aX10_laysBest_1 15 rfl
def laX10_isTold_0 : List (Nat × Instr × Nat) := [(0, .aload_n 0, 1), (1, .getfield 150, 3), (4, .iconst 4, 1), (5, .if_icmp .gt 14, 3), (8, .aload_n 0, 1), (9, .getfield 179, 3), (12, .ifCond .eq 7, 3), (15, .iconst 1, 1), (16, .goto 4, 3), (19, .iconst 0, 1), (20, .ireturn, 1)]
theorem aX10_isTold_0 : decAll cX10_isTold laX10_isTold_0 = true := by decide +kernel
theorem dX10_isTold_0 : decode cX10_isTold 0 = .ok (.aload_n 0, 1) := decAll_at aX10_isTold_0 0 rfl
theorem dX10_isTold_1 : decode cX10_isTold 1 = .ok (.getfield 150, 3) := decAll_at aX10_isTold_0 1 rfl
theorem dX10_isTold_4 : decode cX10_isTold 4 = .ok (.iconst 4, 1) := decAll_at aX10_isTold_0 2 rfl
theorem dX10_isTold_5 : decode cX10_isTold 5 = .ok (.if_icmp .gt 14, 3) := decAll_at aX10_isTold_0 3 rfl
theorem dX10_isTold_8 : decode cX10_isTold 8 = .ok (.aload_n 0, 1) := decAll_at aX10_isTold_0 4 rfl
theorem dX10_isTold_9 : decode cX10_isTold 9 = .ok (.getfield 179, 3) := decAll_at aX10_isTold_0 5 rfl
theorem dX10_isTold_12 : decode cX10_isTold 12 = .ok (.ifCond .eq 7, 3) := decAll_at aX10_isTold_0 6 rfl
theorem dX10_isTold_15 : decode cX10_isTold 15 = .ok (.iconst 1, 1) := decAll_at aX10_isTold_0 7 rfl
theorem dX10_isTold_16 : decode cX10_isTold 16 = .ok (.goto 4, 3) := decAll_at aX10_isTold_0 8 rfl
theorem dX10_isTold_19 : decode cX10_isTold 19 = .ok (.iconst 0, 1) := decAll_at aX10_isTold_0 9 rfl
theorem dX10_isTold_20 : decode cX10_isTold 20 = .ok (.ireturn, 1) := decAll_at aX10_isTold_0 10 rfl
def laX10_best_0 : List (Nat × Instr × Nat) := [(0, .aload_n 0, 1), (1, .getfield 150, 3), (4, .ifCond .eq 23, 3), (7, .aload_n 0, 1), (8, .getfield 160, 3), (11, .ifCond .eq 16, 3), (14, .iload_n 1, 1), (15, .iconst (-1), 1), (16, .if_icmp .eq 13, 3), (19, .aload_n 0, 1), (20, .iload_n 1, 1), (21, .invokevirtual 351, 3), (24, .ifCond .ne 5, 3), (27, .iconst (-1), 1), (28, .ireturn, 1), (29, .aload_n 0, 1), (30, .invokevirtual 506, 3), (33, .ifCond .ne 6, 3), (36, .bipush (-2), 2), (38, .ireturn, 1), (39, .aload_n 0, 1), (40, .invokevirtual 509, 3), (43, .aload_n 0, 1), (44, .getfield 134, 3), (47, .iconst 0, 1), (48, .bipush 6, 2), (50, .iconst 0, 1), (51, .invokestatic 490, 3), (54, .iaload, 1), (55, .istore_n 2, 1), (56, .iload_n 2, 1), (57, .ldc_w 430, 3), (60, .if_icmp .ne 6, 3), (63, .bipush (-2), 2), (65, .ireturn, 1), (66, .iload_n 1, 1), (67, .iconst (-1), 1), (68, .if_icmp .ne 5, 3), (71, .iload_n 2, 1), (72, .ireturn, 1), (73, .bipush 6, 2), (75, .istore_n 3, 1), (76, .iconst 0, 1), (77, .istore 4, 2), (79, .iconst 0, 1), (80, .istore 5, 2), (82, .iconst 0, 1), (83, .istore 6, 2), (85, .iload 6, 2), (87, .iload_n 1, 1), (88, .if_icmp .gt 73, 3), (91, .iconst 0, 1), (92, .istore 5, 2), (94, .aload_n 0, 1), (95, .iload 6, 2), (97, .iload_n 3, 1), (98, .iload 4, 2), (100, .iload 5, 2), (102, .invokevirtual 502, 3), (105, .aload_n 0, 1), (106, .getfield 134, 3), (109, .iload 6, 2), (111, .iload_n 3, 1), (112, .iload 4, 2)]
theorem aX10_best_0 : decAll cX10_best laX10_best_0 = true := by decide +kernel
theorem dX10_best_0 : decode cX10_best 0 = .ok (.aload_n 0, 1) := decAll_at aX10_best_0 0 rfl
theorem dX10_best_1 : decode cX10_best 1 = .ok (.getfield 150, 3) := decAll_at aX10_best_0 1 rfl
theorem dX10_best_4 : decode cX10_best 4 = .ok (.ifCond .eq 23, 3) := decAll_at aX10_best_0 2 rfl
theorem dX10_best_7 : decode cX10_best 7 = .ok (.aload_n 0, 1) := decAll_at aX10_best_0 3 rfl
theorem dX10_best_8 : decode cX10_best 8 = .ok (.getfield 160, 3) := decAll_at aX10_best_0 4 rfl
theorem dX10_best_11 : decode cX10_best 11 = .ok (.ifCond .eq 16, 3) := decAll_at aX10_best_0 5 rfl
theorem dX10_best_14 : decode cX10_best 14 = .ok (.iload_n 1, 1) := decAll_at aX10_best_0 6 rfl
theorem dX10_best_15 : decode cX10_best 15 = .ok (.iconst (-1), 1) := decAll_at aX10_best_0 7 rfl
theorem dX10_best_16 : decode cX10_best 16 = .ok (.if_icmp .eq 13, 3) := decAll_at aX10_best_0 8 rfl
theorem dX10_best_19 : decode cX10_best 19 = .ok (.aload_n 0, 1) := decAll_at aX10_best_0 9 rfl
theorem dX10_best_20 : decode cX10_best 20 = .ok (.iload_n 1, 1) := decAll_at aX10_best_0 10 rfl
theorem dX10_best_21 : decode cX10_best 21 = .ok (.invokevirtual 351, 3) := decAll_at aX10_best_0 11 rfl
theorem dX10_best_24 : decode cX10_best 24 = .ok (.ifCond .ne 5, 3) := decAll_at aX10_best_0 12 rfl
theorem dX10_best_27 : decode cX10_best 27 = .ok (.iconst (-1), 1) := decAll_at aX10_best_0 13 rfl
theorem dX10_best_28 : decode cX10_best 28 = .ok (.ireturn, 1) := decAll_at aX10_best_0 14 rfl
theorem dX10_best_29 : decode cX10_best 29 = .ok (.aload_n 0, 1) := decAll_at aX10_best_0 15 rfl
theorem dX10_best_30 : decode cX10_best 30 = .ok (.invokevirtual 506, 3) := decAll_at aX10_best_0 16 rfl
theorem dX10_best_33 : decode cX10_best 33 = .ok (.ifCond .ne 6, 3) := decAll_at aX10_best_0 17 rfl
theorem dX10_best_36 : decode cX10_best 36 = .ok (.bipush (-2), 2) := decAll_at aX10_best_0 18 rfl
theorem dX10_best_38 : decode cX10_best 38 = .ok (.ireturn, 1) := decAll_at aX10_best_0 19 rfl
theorem dX10_best_39 : decode cX10_best 39 = .ok (.aload_n 0, 1) := decAll_at aX10_best_0 20 rfl
theorem dX10_best_40 : decode cX10_best 40 = .ok (.invokevirtual 509, 3) := decAll_at aX10_best_0 21 rfl
theorem dX10_best_43 : decode cX10_best 43 = .ok (.aload_n 0, 1) := decAll_at aX10_best_0 22 rfl
theorem dX10_best_44 : decode cX10_best 44 = .ok (.getfield 134, 3) := decAll_at aX10_best_0 23 rfl
theorem dX10_best_47 : decode cX10_best 47 = .ok (.iconst 0, 1) := decAll_at aX10_best_0 24 rfl
theorem dX10_best_48 : decode cX10_best 48 = .ok (.bipush 6, 2) := decAll_at aX10_best_0 25 rfl
theorem dX10_best_50 : decode cX10_best 50 = .ok (.iconst 0, 1) := decAll_at aX10_best_0 26 rfl
theorem dX10_best_51 : decode cX10_best 51 = .ok (.invokestatic 490, 3) := decAll_at aX10_best_0 27 rfl
theorem dX10_best_54 : decode cX10_best 54 = .ok (.iaload, 1) := decAll_at aX10_best_0 28 rfl
theorem dX10_best_55 : decode cX10_best 55 = .ok (.istore_n 2, 1) := decAll_at aX10_best_0 29 rfl
theorem dX10_best_56 : decode cX10_best 56 = .ok (.iload_n 2, 1) := decAll_at aX10_best_0 30 rfl
theorem dX10_best_57 : decode cX10_best 57 = .ok (.ldc_w 430, 3) := decAll_at aX10_best_0 31 rfl
theorem dX10_best_60 : decode cX10_best 60 = .ok (.if_icmp .ne 6, 3) := decAll_at aX10_best_0 32 rfl
theorem dX10_best_63 : decode cX10_best 63 = .ok (.bipush (-2), 2) := decAll_at aX10_best_0 33 rfl
theorem dX10_best_65 : decode cX10_best 65 = .ok (.ireturn, 1) := decAll_at aX10_best_0 34 rfl
theorem dX10_best_66 : decode cX10_best 66 = .ok (.iload_n 1, 1) := decAll_at aX10_best_0 35 rfl
theorem dX10_best_67 : decode cX10_best 67 = .ok (.iconst (-1), 1) := decAll_at aX10_best_0 36 rfl
theorem dX10_best_68 : decode cX10_best 68 = .ok (.if_icmp .ne 5, 3) := decAll_at aX10_best_0 37 rfl
theorem dX10_best_71 : decode cX10_best 71 = .ok (.iload_n 2, 1) := decAll_at aX10_best_0 38 rfl
theorem dX10_best_72 : decode cX10_best 72 = .ok (.ireturn, 1) := decAll_at aX10_best_0 39 rfl
theorem dX10_best_73 : decode cX10_best 73 = .ok (.bipush 6, 2) := decAll_at aX10_best_0 40 rfl
theorem dX10_best_75 : decode cX10_best 75 = .ok (.istore_n 3, 1) := decAll_at aX10_best_0 41 rfl
theorem dX10_best_76 : decode cX10_best 76 = .ok (.iconst 0, 1) := decAll_at aX10_best_0 42 rfl
theorem dX10_best_77 : decode cX10_best 77 = .ok (.istore 4, 2) := decAll_at aX10_best_0 43 rfl
theorem dX10_best_79 : decode cX10_best 79 = .ok (.iconst 0, 1) := decAll_at aX10_best_0 44 rfl
theorem dX10_best_80 : decode cX10_best 80 = .ok (.istore 5, 2) := decAll_at aX10_best_0 45 rfl
theorem dX10_best_82 : decode cX10_best 82 = .ok (.iconst 0, 1) := decAll_at aX10_best_0 46 rfl
theorem dX10_best_83 : decode cX10_best 83 = .ok (.istore 6, 2) := decAll_at aX10_best_0 47 rfl
theorem dX10_best_85 : decode cX10_best 85 = .ok (.iload 6, 2) := decAll_at aX10_best_0 48 rfl
theorem dX10_best_87 : decode cX10_best 87 = .ok (.iload_n 1, 1) := decAll_at aX10_best_0 49 rfl
theorem dX10_best_88 : decode cX10_best 88 = .ok (.if_icmp .gt 73, 3) := decAll_at aX10_best_0 50 rfl
theorem dX10_best_91 : decode cX10_best 91 = .ok (.iconst 0, 1) := decAll_at aX10_best_0 51 rfl
theorem dX10_best_92 : decode cX10_best 92 = .ok (.istore 5, 2) := decAll_at aX10_best_0 52 rfl
theorem dX10_best_94 : decode cX10_best 94 = .ok (.aload_n 0, 1) := decAll_at aX10_best_0 53 rfl
theorem dX10_best_95 : decode cX10_best 95 = .ok (.iload 6, 2) := decAll_at aX10_best_0 54 rfl
theorem dX10_best_97 : decode cX10_best 97 = .ok (.iload_n 3, 1) := decAll_at aX10_best_0 55 rfl
theorem dX10_best_98 : decode cX10_best 98 = .ok (.iload 4, 2) := decAll_at aX10_best_0 56 rfl
theorem dX10_best_100 : decode cX10_best 100 = .ok (.iload 5, 2) := decAll_at aX10_best_0 57 rfl
theorem dX10_best_102 : decode cX10_best 102 = .ok (.invokevirtual 502, 3) := decAll_at aX10_best_0 58 rfl
theorem dX10_best_105 : decode cX10_best 105 = .ok (.aload_n 0, 1) := decAll_at aX10_best_0 59 rfl
theorem dX10_best_106 : decode cX10_best 106 = .ok (.getfield 134, 3) := decAll_at aX10_best_0 60 rfl
theorem dX10_best_109 : decode cX10_best 109 = .ok (.iload 6, 2) := decAll_at aX10_best_0 61 rfl
theorem dX10_best_111 : decode cX10_best 111 = .ok (.iload_n 3, 1) := decAll_at aX10_best_0 62 rfl
theorem dX10_best_112 : decode cX10_best 112 = .ok (.iload 4, 2) := decAll_at aX10_best_0 63 rfl
def laX10_best_1 : List (Nat × Instr × Nat) := [(114, .invokestatic 490, 3), (117, .iaload, 1), (118, .if_icmp .eq 9, 3), (121, .iinc 5 1, 3), (124, .goto (-30), 3), (127, .aload_n 0, 1), (128, .iload 4, 2), (130, .invokevirtual 470, 3), (133, .aload_n 0, 1), (134, .iload 6, 2), (136, .iload 5, 2), (138, .invokevirtual 473, 3), (141, .istore 7, 2), (143, .aload_n 0, 1), (144, .invokevirtual 479, 3), (147, .istore 4, 2), (149, .iload 5, 2), (151, .bipush 6, 2), (153, .irem, 1), (154, .istore_n 3, 1), (155, .iinc 6 1, 3), (158, .goto (-73), 3), (161, .iload 5, 2), (163, .ireturn, 1)]
theorem aX10_best_1 : decAll cX10_best laX10_best_1 = true := by decide +kernel
theorem dX10_best_114 : decode cX10_best 114 = .ok (.invokestatic 490, 3) := decAll_at aX10_best_1 0 rfl
theorem dX10_best_117 : decode cX10_best 117 = .ok (.iaload, 1) := decAll_at aX10_best_1 1 rfl
theorem dX10_best_118 : decode cX10_best 118 = .ok (.if_icmp .eq 9, 3) := decAll_at aX10_best_1 2 rfl
theorem dX10_best_121 : decode cX10_best 121 = .ok (.iinc 5 1, 3) := decAll_at aX10_best_1 3 rfl
theorem dX10_best_124 : decode cX10_best 124 = .ok (.goto (-30), 3) := decAll_at aX10_best_1 4 rfl
theorem dX10_best_127 : decode cX10_best 127 = .ok (.aload_n 0, 1) := decAll_at aX10_best_1 5 rfl
theorem dX10_best_128 : decode cX10_best 128 = .ok (.iload 4, 2) := decAll_at aX10_best_1 6 rfl
theorem dX10_best_130 : decode cX10_best 130 = .ok (.invokevirtual 470, 3) := decAll_at aX10_best_1 7 rfl
theorem dX10_best_133 : decode cX10_best 133 = .ok (.aload_n 0, 1) := decAll_at aX10_best_1 8 rfl
theorem dX10_best_134 : decode cX10_best 134 = .ok (.iload 6, 2) := decAll_at aX10_best_1 9 rfl
theorem dX10_best_136 : decode cX10_best 136 = .ok (.iload 5, 2) := decAll_at aX10_best_1 10 rfl
theorem dX10_best_138 : decode cX10_best 138 = .ok (.invokevirtual 473, 3) := decAll_at aX10_best_1 11 rfl
theorem dX10_best_141 : decode cX10_best 141 = .ok (.istore 7, 2) := decAll_at aX10_best_1 12 rfl
theorem dX10_best_143 : decode cX10_best 143 = .ok (.aload_n 0, 1) := decAll_at aX10_best_1 13 rfl
theorem dX10_best_144 : decode cX10_best 144 = .ok (.invokevirtual 479, 3) := decAll_at aX10_best_1 14 rfl
theorem dX10_best_147 : decode cX10_best 147 = .ok (.istore 4, 2) := decAll_at aX10_best_1 15 rfl
theorem dX10_best_149 : decode cX10_best 149 = .ok (.iload 5, 2) := decAll_at aX10_best_1 16 rfl
theorem dX10_best_151 : decode cX10_best 151 = .ok (.bipush 6, 2) := decAll_at aX10_best_1 17 rfl
theorem dX10_best_153 : decode cX10_best 153 = .ok (.irem, 1) := decAll_at aX10_best_1 18 rfl
theorem dX10_best_154 : decode cX10_best 154 = .ok (.istore_n 3, 1) := decAll_at aX10_best_1 19 rfl
theorem dX10_best_155 : decode cX10_best 155 = .ok (.iinc 6 1, 3) := decAll_at aX10_best_1 20 rfl
theorem dX10_best_158 : decode cX10_best 158 = .ok (.goto (-73), 3) := decAll_at aX10_best_1 21 rfl
theorem dX10_best_161 : decode cX10_best 161 = .ok (.iload 5, 2) := decAll_at aX10_best_1 22 rfl
theorem dX10_best_163 : decode cX10_best 163 = .ok (.ireturn, 1) := decAll_at aX10_best_1 23 rfl
def laX10_cellOf_0 : List (Nat × Instr × Nat) := [(0, .sipush 1296, 3), (3, .iload_n 0, 1), (4, .imul, 1), (5, .iload_n 1, 1), (6, .iadd, 1), (7, .bipush 10, 2), (9, .imul, 1), (10, .iload_n 2, 1), (11, .iadd, 1), (12, .ireturn, 1)]
theorem aX10_cellOf_0 : decAll cX10_cellOf laX10_cellOf_0 = true := by decide +kernel
theorem dX10_cellOf_0 : decode cX10_cellOf 0 = .ok (.sipush 1296, 3) := decAll_at aX10_cellOf_0 0 rfl
theorem dX10_cellOf_3 : decode cX10_cellOf 3 = .ok (.iload_n 0, 1) := decAll_at aX10_cellOf_0 1 rfl
theorem dX10_cellOf_4 : decode cX10_cellOf 4 = .ok (.imul, 1) := decAll_at aX10_cellOf_0 2 rfl
theorem dX10_cellOf_5 : decode cX10_cellOf 5 = .ok (.iload_n 1, 1) := decAll_at aX10_cellOf_0 3 rfl
theorem dX10_cellOf_6 : decode cX10_cellOf 6 = .ok (.iadd, 1) := decAll_at aX10_cellOf_0 4 rfl
theorem dX10_cellOf_7 : decode cX10_cellOf 7 = .ok (.bipush 10, 2) := decAll_at aX10_cellOf_0 5 rfl
theorem dX10_cellOf_9 : decode cX10_cellOf 9 = .ok (.imul, 1) := decAll_at aX10_cellOf_0 6 rfl
theorem dX10_cellOf_10 : decode cX10_cellOf 10 = .ok (.iload_n 2, 1) := decAll_at aX10_cellOf_0 7 rfl
theorem dX10_cellOf_11 : decode cX10_cellOf 11 = .ok (.iadd, 1) := decAll_at aX10_cellOf_0 8 rfl
theorem dX10_cellOf_12 : decode cX10_cellOf 12 = .ok (.ireturn, 1) := decAll_at aX10_cellOf_0 9 rfl
def laX10_goesFrom_0 : List (Nat × Instr × Nat) := [(0, .iload_n 1, 1), (1, .ifCond .ne 7, 3), (4, .iconst 0, 1), (5, .goto 15, 3), (8, .aload_n 0, 1), (9, .getfield 138, 3), (12, .iload_n 2, 1), (13, .iload_n 3, 1), (14, .iload 4, 2), (16, .invokestatic 512, 3), (19, .iaload, 1), (20, .istore 5, 2), (22, .iconst 0, 1), (23, .istore 6, 2), (25, .iload 6, 2), (27, .bipush 18, 2), (29, .if_icmp .ge 124, 3), (32, .iload_n 1, 1), (33, .ifCond .eq 12, 3), (36, .iload 6, 2), (38, .bipush 6, 2), (40, .irem, 1), (41, .iload_n 2, 1), (42, .if_icmp .ne 8, 3), (45, .iload 4, 2), (47, .goto 7, 3), (50, .iload 4, 2), (52, .iconst 1, 1), (53, .iadd, 1), (54, .istore 7, 2), (56, .aload_n 0, 1), (57, .iload_n 3, 1), (58, .invokevirtual 470, 3), (61, .aload_n 0, 1), (62, .iload 6, 2), (64, .invokevirtual 493, 3), (67, .ifCond .eq 80, 3), (70, .iload 7, 2), (72, .bipush 10, 2), (74, .if_icmp .ge 73, 3), (77, .aload_n 0, 1), (78, .iload_n 1, 1), (79, .iload 6, 2), (81, .invokevirtual 473, 3), (84, .ifCond .ne 6, 3), (87, .goto 60, 3), (90, .iload 6, 2), (92, .bipush 6, 2), (94, .irem, 1), (95, .aload_n 0, 1), (96, .invokevirtual 479, 3), (99, .iload 7, 2), (101, .invokestatic 512, 3), (104, .istore 8, 2), (106, .aload_n 0, 1), (107, .getfield 141, 3), (110, .iload 8, 2), (112, .iload 5, 2), (114, .aload_n 0, 1), (115, .getfield 461, 3), (118, .iadd, 1), (119, .aload_n 0, 1), (120, .getfield 141, 3), (123, .iload 8, 2)]
theorem aX10_goesFrom_0 : decAll cX10_goesFrom laX10_goesFrom_0 = true := by decide +kernel
theorem dX10_goesFrom_0 : decode cX10_goesFrom 0 = .ok (.iload_n 1, 1) := decAll_at aX10_goesFrom_0 0 rfl
theorem dX10_goesFrom_1 : decode cX10_goesFrom 1 = .ok (.ifCond .ne 7, 3) := decAll_at aX10_goesFrom_0 1 rfl
theorem dX10_goesFrom_4 : decode cX10_goesFrom 4 = .ok (.iconst 0, 1) := decAll_at aX10_goesFrom_0 2 rfl
theorem dX10_goesFrom_5 : decode cX10_goesFrom 5 = .ok (.goto 15, 3) := decAll_at aX10_goesFrom_0 3 rfl
theorem dX10_goesFrom_8 : decode cX10_goesFrom 8 = .ok (.aload_n 0, 1) := decAll_at aX10_goesFrom_0 4 rfl
theorem dX10_goesFrom_9 : decode cX10_goesFrom 9 = .ok (.getfield 138, 3) := decAll_at aX10_goesFrom_0 5 rfl
theorem dX10_goesFrom_12 : decode cX10_goesFrom 12 = .ok (.iload_n 2, 1) := decAll_at aX10_goesFrom_0 6 rfl
theorem dX10_goesFrom_13 : decode cX10_goesFrom 13 = .ok (.iload_n 3, 1) := decAll_at aX10_goesFrom_0 7 rfl
theorem dX10_goesFrom_14 : decode cX10_goesFrom 14 = .ok (.iload 4, 2) := decAll_at aX10_goesFrom_0 8 rfl
theorem dX10_goesFrom_16 : decode cX10_goesFrom 16 = .ok (.invokestatic 512, 3) := decAll_at aX10_goesFrom_0 9 rfl
theorem dX10_goesFrom_19 : decode cX10_goesFrom 19 = .ok (.iaload, 1) := decAll_at aX10_goesFrom_0 10 rfl
theorem dX10_goesFrom_20 : decode cX10_goesFrom 20 = .ok (.istore 5, 2) := decAll_at aX10_goesFrom_0 11 rfl
theorem dX10_goesFrom_22 : decode cX10_goesFrom 22 = .ok (.iconst 0, 1) := decAll_at aX10_goesFrom_0 12 rfl
theorem dX10_goesFrom_23 : decode cX10_goesFrom 23 = .ok (.istore 6, 2) := decAll_at aX10_goesFrom_0 13 rfl
theorem dX10_goesFrom_25 : decode cX10_goesFrom 25 = .ok (.iload 6, 2) := decAll_at aX10_goesFrom_0 14 rfl
theorem dX10_goesFrom_27 : decode cX10_goesFrom 27 = .ok (.bipush 18, 2) := decAll_at aX10_goesFrom_0 15 rfl
theorem dX10_goesFrom_29 : decode cX10_goesFrom 29 = .ok (.if_icmp .ge 124, 3) := decAll_at aX10_goesFrom_0 16 rfl
theorem dX10_goesFrom_32 : decode cX10_goesFrom 32 = .ok (.iload_n 1, 1) := decAll_at aX10_goesFrom_0 17 rfl
theorem dX10_goesFrom_33 : decode cX10_goesFrom 33 = .ok (.ifCond .eq 12, 3) := decAll_at aX10_goesFrom_0 18 rfl
theorem dX10_goesFrom_36 : decode cX10_goesFrom 36 = .ok (.iload 6, 2) := decAll_at aX10_goesFrom_0 19 rfl
theorem dX10_goesFrom_38 : decode cX10_goesFrom 38 = .ok (.bipush 6, 2) := decAll_at aX10_goesFrom_0 20 rfl
theorem dX10_goesFrom_40 : decode cX10_goesFrom 40 = .ok (.irem, 1) := decAll_at aX10_goesFrom_0 21 rfl
theorem dX10_goesFrom_41 : decode cX10_goesFrom 41 = .ok (.iload_n 2, 1) := decAll_at aX10_goesFrom_0 22 rfl
theorem dX10_goesFrom_42 : decode cX10_goesFrom 42 = .ok (.if_icmp .ne 8, 3) := decAll_at aX10_goesFrom_0 23 rfl
theorem dX10_goesFrom_45 : decode cX10_goesFrom 45 = .ok (.iload 4, 2) := decAll_at aX10_goesFrom_0 24 rfl
theorem dX10_goesFrom_47 : decode cX10_goesFrom 47 = .ok (.goto 7, 3) := decAll_at aX10_goesFrom_0 25 rfl
theorem dX10_goesFrom_50 : decode cX10_goesFrom 50 = .ok (.iload 4, 2) := decAll_at aX10_goesFrom_0 26 rfl
theorem dX10_goesFrom_52 : decode cX10_goesFrom 52 = .ok (.iconst 1, 1) := decAll_at aX10_goesFrom_0 27 rfl
theorem dX10_goesFrom_53 : decode cX10_goesFrom 53 = .ok (.iadd, 1) := decAll_at aX10_goesFrom_0 28 rfl
theorem dX10_goesFrom_54 : decode cX10_goesFrom 54 = .ok (.istore 7, 2) := decAll_at aX10_goesFrom_0 29 rfl
theorem dX10_goesFrom_56 : decode cX10_goesFrom 56 = .ok (.aload_n 0, 1) := decAll_at aX10_goesFrom_0 30 rfl
theorem dX10_goesFrom_57 : decode cX10_goesFrom 57 = .ok (.iload_n 3, 1) := decAll_at aX10_goesFrom_0 31 rfl
theorem dX10_goesFrom_58 : decode cX10_goesFrom 58 = .ok (.invokevirtual 470, 3) := decAll_at aX10_goesFrom_0 32 rfl
theorem dX10_goesFrom_61 : decode cX10_goesFrom 61 = .ok (.aload_n 0, 1) := decAll_at aX10_goesFrom_0 33 rfl
theorem dX10_goesFrom_62 : decode cX10_goesFrom 62 = .ok (.iload 6, 2) := decAll_at aX10_goesFrom_0 34 rfl
theorem dX10_goesFrom_64 : decode cX10_goesFrom 64 = .ok (.invokevirtual 493, 3) := decAll_at aX10_goesFrom_0 35 rfl
theorem dX10_goesFrom_67 : decode cX10_goesFrom 67 = .ok (.ifCond .eq 80, 3) := decAll_at aX10_goesFrom_0 36 rfl
theorem dX10_goesFrom_70 : decode cX10_goesFrom 70 = .ok (.iload 7, 2) := decAll_at aX10_goesFrom_0 37 rfl
theorem dX10_goesFrom_72 : decode cX10_goesFrom 72 = .ok (.bipush 10, 2) := decAll_at aX10_goesFrom_0 38 rfl
theorem dX10_goesFrom_74 : decode cX10_goesFrom 74 = .ok (.if_icmp .ge 73, 3) := decAll_at aX10_goesFrom_0 39 rfl
theorem dX10_goesFrom_77 : decode cX10_goesFrom 77 = .ok (.aload_n 0, 1) := decAll_at aX10_goesFrom_0 40 rfl
theorem dX10_goesFrom_78 : decode cX10_goesFrom 78 = .ok (.iload_n 1, 1) := decAll_at aX10_goesFrom_0 41 rfl
theorem dX10_goesFrom_79 : decode cX10_goesFrom 79 = .ok (.iload 6, 2) := decAll_at aX10_goesFrom_0 42 rfl
theorem dX10_goesFrom_81 : decode cX10_goesFrom 81 = .ok (.invokevirtual 473, 3) := decAll_at aX10_goesFrom_0 43 rfl
theorem dX10_goesFrom_84 : decode cX10_goesFrom 84 = .ok (.ifCond .ne 6, 3) := decAll_at aX10_goesFrom_0 44 rfl
theorem dX10_goesFrom_87 : decode cX10_goesFrom 87 = .ok (.goto 60, 3) := decAll_at aX10_goesFrom_0 45 rfl
theorem dX10_goesFrom_90 : decode cX10_goesFrom 90 = .ok (.iload 6, 2) := decAll_at aX10_goesFrom_0 46 rfl
theorem dX10_goesFrom_92 : decode cX10_goesFrom 92 = .ok (.bipush 6, 2) := decAll_at aX10_goesFrom_0 47 rfl
theorem dX10_goesFrom_94 : decode cX10_goesFrom 94 = .ok (.irem, 1) := decAll_at aX10_goesFrom_0 48 rfl
theorem dX10_goesFrom_95 : decode cX10_goesFrom 95 = .ok (.aload_n 0, 1) := decAll_at aX10_goesFrom_0 49 rfl
theorem dX10_goesFrom_96 : decode cX10_goesFrom 96 = .ok (.invokevirtual 479, 3) := decAll_at aX10_goesFrom_0 50 rfl
theorem dX10_goesFrom_99 : decode cX10_goesFrom 99 = .ok (.iload 7, 2) := decAll_at aX10_goesFrom_0 51 rfl
theorem dX10_goesFrom_101 : decode cX10_goesFrom 101 = .ok (.invokestatic 512, 3) := decAll_at aX10_goesFrom_0 52 rfl
theorem dX10_goesFrom_104 : decode cX10_goesFrom 104 = .ok (.istore 8, 2) := decAll_at aX10_goesFrom_0 53 rfl
theorem dX10_goesFrom_106 : decode cX10_goesFrom 106 = .ok (.aload_n 0, 1) := decAll_at aX10_goesFrom_0 54 rfl
theorem dX10_goesFrom_107 : decode cX10_goesFrom 107 = .ok (.getfield 141, 3) := decAll_at aX10_goesFrom_0 55 rfl
theorem dX10_goesFrom_110 : decode cX10_goesFrom 110 = .ok (.iload 8, 2) := decAll_at aX10_goesFrom_0 56 rfl
theorem dX10_goesFrom_112 : decode cX10_goesFrom 112 = .ok (.iload 5, 2) := decAll_at aX10_goesFrom_0 57 rfl
theorem dX10_goesFrom_114 : decode cX10_goesFrom 114 = .ok (.aload_n 0, 1) := decAll_at aX10_goesFrom_0 58 rfl
theorem dX10_goesFrom_115 : decode cX10_goesFrom 115 = .ok (.getfield 461, 3) := decAll_at aX10_goesFrom_0 59 rfl
theorem dX10_goesFrom_118 : decode cX10_goesFrom 118 = .ok (.iadd, 1) := decAll_at aX10_goesFrom_0 60 rfl
theorem dX10_goesFrom_119 : decode cX10_goesFrom 119 = .ok (.aload_n 0, 1) := decAll_at aX10_goesFrom_0 61 rfl
theorem dX10_goesFrom_120 : decode cX10_goesFrom 120 = .ok (.getfield 141, 3) := decAll_at aX10_goesFrom_0 62 rfl
theorem dX10_goesFrom_123 : decode cX10_goesFrom 123 = .ok (.iload 8, 2) := decAll_at aX10_goesFrom_0 63 rfl
def laX10_goesFrom_1 : List (Nat × Instr × Nat) := [(125, .iaload, 1), (126, .if_icmp .ge 13, 3), (129, .iload 5, 2), (131, .aload_n 0, 1), (132, .getfield 461, 3), (135, .iadd, 1), (136, .goto 10, 3), (139, .aload_n 0, 1), (140, .getfield 141, 3), (143, .iload 8, 2), (145, .iaload, 1), (146, .iastore, 1), (147, .iinc 6 1, 3), (150, .goto (-125), 3), (153, .return_, 1)]
theorem aX10_goesFrom_1 : decAll cX10_goesFrom laX10_goesFrom_1 = true := by decide +kernel
theorem dX10_goesFrom_125 : decode cX10_goesFrom 125 = .ok (.iaload, 1) := decAll_at aX10_goesFrom_1 0 rfl
theorem dX10_goesFrom_126 : decode cX10_goesFrom 126 = .ok (.if_icmp .ge 13, 3) := decAll_at aX10_goesFrom_1 1 rfl
theorem dX10_goesFrom_129 : decode cX10_goesFrom 129 = .ok (.iload 5, 2) := decAll_at aX10_goesFrom_1 2 rfl
theorem dX10_goesFrom_131 : decode cX10_goesFrom 131 = .ok (.aload_n 0, 1) := decAll_at aX10_goesFrom_1 3 rfl
theorem dX10_goesFrom_132 : decode cX10_goesFrom 132 = .ok (.getfield 461, 3) := decAll_at aX10_goesFrom_1 4 rfl
theorem dX10_goesFrom_135 : decode cX10_goesFrom 135 = .ok (.iadd, 1) := decAll_at aX10_goesFrom_1 5 rfl
theorem dX10_goesFrom_136 : decode cX10_goesFrom 136 = .ok (.goto 10, 3) := decAll_at aX10_goesFrom_1 6 rfl
theorem dX10_goesFrom_139 : decode cX10_goesFrom 139 = .ok (.aload_n 0, 1) := decAll_at aX10_goesFrom_1 7 rfl
theorem dX10_goesFrom_140 : decode cX10_goesFrom 140 = .ok (.getfield 141, 3) := decAll_at aX10_goesFrom_1 8 rfl
theorem dX10_goesFrom_143 : decode cX10_goesFrom 143 = .ok (.iload 8, 2) := decAll_at aX10_goesFrom_1 9 rfl
theorem dX10_goesFrom_145 : decode cX10_goesFrom 145 = .ok (.iaload, 1) := decAll_at aX10_goesFrom_1 10 rfl
theorem dX10_goesFrom_146 : decode cX10_goesFrom 146 = .ok (.iastore, 1) := decAll_at aX10_goesFrom_1 11 rfl
theorem dX10_goesFrom_147 : decode cX10_goesFrom 147 = .ok (.iinc 6 1, 3) := decAll_at aX10_goesFrom_1 12 rfl
theorem dX10_goesFrom_150 : decode cX10_goesFrom 150 = .ok (.goto (-125), 3) := decAll_at aX10_goesFrom_1 13 rfl
theorem dX10_goesFrom_153 : decode cX10_goesFrom 153 = .ok (.return_, 1) := decAll_at aX10_goesFrom_1 14 rfl
def laX10_laysChanges_0 : List (Nat × Instr × Nat) := [(0, .iconst 0, 1), (1, .istore_n 1, 1), (2, .iload_n 1, 1), (3, .aload_n 0, 1), (4, .getfield 160, 3), (7, .if_icmp .ge 125, 3), (10, .iconst 0, 1), (11, .istore_n 2, 1), (12, .iload_n 2, 1), (13, .ldc 137, 2), (15, .if_icmp .ge 18, 3), (18, .aload_n 0, 1), (19, .getfield 141, 3), (22, .iload_n 2, 1), (23, .ldc_w 430, 3), (26, .iastore, 1), (27, .iinc 2 1, 3), (30, .goto (-18), 3), (33, .iload_n 1, 1), (34, .ifCond .ne 11, 3), (37, .aload_n 0, 1), (38, .iconst 0, 1), (39, .iconst 0, 1), (40, .iconst 0, 1), (41, .iconst 0, 1), (42, .invokevirtual 515, 3), (45, .iconst 0, 1), (46, .istore_n 2, 1), (47, .iload_n 2, 1), (48, .ldc 137, 2), (50, .if_icmp .ge 50, 3), (53, .iload_n 1, 1), (54, .ifCond .le 46, 3), (57, .aload_n 0, 1), (58, .getfield 138, 3), (61, .iload_n 2, 1), (62, .iaload, 1), (63, .ldc_w 430, 3), (66, .if_icmp .ge 28, 3), (69, .aload_n 0, 1), (70, .iload_n 1, 1), (71, .iload_n 2, 1), (72, .bipush 10, 2), (74, .idiv, 1), (75, .sipush 1296, 3), (78, .idiv, 1), (79, .iload_n 2, 1), (80, .bipush 10, 2), (82, .idiv, 1), (83, .sipush 1296, 3), (86, .irem, 1), (87, .iload_n 2, 1), (88, .bipush 10, 2), (90, .irem, 1), (91, .invokevirtual 515, 3), (94, .iinc 2 1, 3), (97, .goto (-50), 3), (100, .iconst 0, 1), (101, .istore_n 2, 1), (102, .iload_n 2, 1), (103, .ldc 137, 2), (105, .if_icmp .ge 21, 3), (108, .aload_n 0, 1), (109, .getfield 138, 3)]
theorem aX10_laysChanges_0 : decAll cX10_laysChanges laX10_laysChanges_0 = true := by decide +kernel
theorem dX10_laysChanges_0 : decode cX10_laysChanges 0 = .ok (.iconst 0, 1) := decAll_at aX10_laysChanges_0 0 rfl
theorem dX10_laysChanges_1 : decode cX10_laysChanges 1 = .ok (.istore_n 1, 1) := decAll_at aX10_laysChanges_0 1 rfl
theorem dX10_laysChanges_2 : decode cX10_laysChanges 2 = .ok (.iload_n 1, 1) := decAll_at aX10_laysChanges_0 2 rfl
theorem dX10_laysChanges_3 : decode cX10_laysChanges 3 = .ok (.aload_n 0, 1) := decAll_at aX10_laysChanges_0 3 rfl
theorem dX10_laysChanges_4 : decode cX10_laysChanges 4 = .ok (.getfield 160, 3) := decAll_at aX10_laysChanges_0 4 rfl
theorem dX10_laysChanges_7 : decode cX10_laysChanges 7 = .ok (.if_icmp .ge 125, 3) := decAll_at aX10_laysChanges_0 5 rfl
theorem dX10_laysChanges_10 : decode cX10_laysChanges 10 = .ok (.iconst 0, 1) := decAll_at aX10_laysChanges_0 6 rfl
theorem dX10_laysChanges_11 : decode cX10_laysChanges 11 = .ok (.istore_n 2, 1) := decAll_at aX10_laysChanges_0 7 rfl
theorem dX10_laysChanges_12 : decode cX10_laysChanges 12 = .ok (.iload_n 2, 1) := decAll_at aX10_laysChanges_0 8 rfl
theorem dX10_laysChanges_13 : decode cX10_laysChanges 13 = .ok (.ldc 137, 2) := decAll_at aX10_laysChanges_0 9 rfl
theorem dX10_laysChanges_15 : decode cX10_laysChanges 15 = .ok (.if_icmp .ge 18, 3) := decAll_at aX10_laysChanges_0 10 rfl
theorem dX10_laysChanges_18 : decode cX10_laysChanges 18 = .ok (.aload_n 0, 1) := decAll_at aX10_laysChanges_0 11 rfl
theorem dX10_laysChanges_19 : decode cX10_laysChanges 19 = .ok (.getfield 141, 3) := decAll_at aX10_laysChanges_0 12 rfl
theorem dX10_laysChanges_22 : decode cX10_laysChanges 22 = .ok (.iload_n 2, 1) := decAll_at aX10_laysChanges_0 13 rfl
theorem dX10_laysChanges_23 : decode cX10_laysChanges 23 = .ok (.ldc_w 430, 3) := decAll_at aX10_laysChanges_0 14 rfl
theorem dX10_laysChanges_26 : decode cX10_laysChanges 26 = .ok (.iastore, 1) := decAll_at aX10_laysChanges_0 15 rfl
theorem dX10_laysChanges_27 : decode cX10_laysChanges 27 = .ok (.iinc 2 1, 3) := decAll_at aX10_laysChanges_0 16 rfl
theorem dX10_laysChanges_30 : decode cX10_laysChanges 30 = .ok (.goto (-18), 3) := decAll_at aX10_laysChanges_0 17 rfl
theorem dX10_laysChanges_33 : decode cX10_laysChanges 33 = .ok (.iload_n 1, 1) := decAll_at aX10_laysChanges_0 18 rfl
theorem dX10_laysChanges_34 : decode cX10_laysChanges 34 = .ok (.ifCond .ne 11, 3) := decAll_at aX10_laysChanges_0 19 rfl
theorem dX10_laysChanges_37 : decode cX10_laysChanges 37 = .ok (.aload_n 0, 1) := decAll_at aX10_laysChanges_0 20 rfl
theorem dX10_laysChanges_38 : decode cX10_laysChanges 38 = .ok (.iconst 0, 1) := decAll_at aX10_laysChanges_0 21 rfl
theorem dX10_laysChanges_39 : decode cX10_laysChanges 39 = .ok (.iconst 0, 1) := decAll_at aX10_laysChanges_0 22 rfl
theorem dX10_laysChanges_40 : decode cX10_laysChanges 40 = .ok (.iconst 0, 1) := decAll_at aX10_laysChanges_0 23 rfl
theorem dX10_laysChanges_41 : decode cX10_laysChanges 41 = .ok (.iconst 0, 1) := decAll_at aX10_laysChanges_0 24 rfl
theorem dX10_laysChanges_42 : decode cX10_laysChanges 42 = .ok (.invokevirtual 515, 3) := decAll_at aX10_laysChanges_0 25 rfl
theorem dX10_laysChanges_45 : decode cX10_laysChanges 45 = .ok (.iconst 0, 1) := decAll_at aX10_laysChanges_0 26 rfl
theorem dX10_laysChanges_46 : decode cX10_laysChanges 46 = .ok (.istore_n 2, 1) := decAll_at aX10_laysChanges_0 27 rfl
theorem dX10_laysChanges_47 : decode cX10_laysChanges 47 = .ok (.iload_n 2, 1) := decAll_at aX10_laysChanges_0 28 rfl
theorem dX10_laysChanges_48 : decode cX10_laysChanges 48 = .ok (.ldc 137, 2) := decAll_at aX10_laysChanges_0 29 rfl
theorem dX10_laysChanges_50 : decode cX10_laysChanges 50 = .ok (.if_icmp .ge 50, 3) := decAll_at aX10_laysChanges_0 30 rfl
theorem dX10_laysChanges_53 : decode cX10_laysChanges 53 = .ok (.iload_n 1, 1) := decAll_at aX10_laysChanges_0 31 rfl
theorem dX10_laysChanges_54 : decode cX10_laysChanges 54 = .ok (.ifCond .le 46, 3) := decAll_at aX10_laysChanges_0 32 rfl
theorem dX10_laysChanges_57 : decode cX10_laysChanges 57 = .ok (.aload_n 0, 1) := decAll_at aX10_laysChanges_0 33 rfl
theorem dX10_laysChanges_58 : decode cX10_laysChanges 58 = .ok (.getfield 138, 3) := decAll_at aX10_laysChanges_0 34 rfl
theorem dX10_laysChanges_61 : decode cX10_laysChanges 61 = .ok (.iload_n 2, 1) := decAll_at aX10_laysChanges_0 35 rfl
theorem dX10_laysChanges_62 : decode cX10_laysChanges 62 = .ok (.iaload, 1) := decAll_at aX10_laysChanges_0 36 rfl
theorem dX10_laysChanges_63 : decode cX10_laysChanges 63 = .ok (.ldc_w 430, 3) := decAll_at aX10_laysChanges_0 37 rfl
theorem dX10_laysChanges_66 : decode cX10_laysChanges 66 = .ok (.if_icmp .ge 28, 3) := decAll_at aX10_laysChanges_0 38 rfl
theorem dX10_laysChanges_69 : decode cX10_laysChanges 69 = .ok (.aload_n 0, 1) := decAll_at aX10_laysChanges_0 39 rfl
theorem dX10_laysChanges_70 : decode cX10_laysChanges 70 = .ok (.iload_n 1, 1) := decAll_at aX10_laysChanges_0 40 rfl
theorem dX10_laysChanges_71 : decode cX10_laysChanges 71 = .ok (.iload_n 2, 1) := decAll_at aX10_laysChanges_0 41 rfl
theorem dX10_laysChanges_72 : decode cX10_laysChanges 72 = .ok (.bipush 10, 2) := decAll_at aX10_laysChanges_0 42 rfl
theorem dX10_laysChanges_74 : decode cX10_laysChanges 74 = .ok (.idiv, 1) := decAll_at aX10_laysChanges_0 43 rfl
theorem dX10_laysChanges_75 : decode cX10_laysChanges 75 = .ok (.sipush 1296, 3) := decAll_at aX10_laysChanges_0 44 rfl
theorem dX10_laysChanges_78 : decode cX10_laysChanges 78 = .ok (.idiv, 1) := decAll_at aX10_laysChanges_0 45 rfl
theorem dX10_laysChanges_79 : decode cX10_laysChanges 79 = .ok (.iload_n 2, 1) := decAll_at aX10_laysChanges_0 46 rfl
theorem dX10_laysChanges_80 : decode cX10_laysChanges 80 = .ok (.bipush 10, 2) := decAll_at aX10_laysChanges_0 47 rfl
theorem dX10_laysChanges_82 : decode cX10_laysChanges 82 = .ok (.idiv, 1) := decAll_at aX10_laysChanges_0 48 rfl
theorem dX10_laysChanges_83 : decode cX10_laysChanges 83 = .ok (.sipush 1296, 3) := decAll_at aX10_laysChanges_0 49 rfl
theorem dX10_laysChanges_86 : decode cX10_laysChanges 86 = .ok (.irem, 1) := decAll_at aX10_laysChanges_0 50 rfl
theorem dX10_laysChanges_87 : decode cX10_laysChanges 87 = .ok (.iload_n 2, 1) := decAll_at aX10_laysChanges_0 51 rfl
theorem dX10_laysChanges_88 : decode cX10_laysChanges 88 = .ok (.bipush 10, 2) := decAll_at aX10_laysChanges_0 52 rfl
theorem dX10_laysChanges_90 : decode cX10_laysChanges 90 = .ok (.irem, 1) := decAll_at aX10_laysChanges_0 53 rfl
theorem dX10_laysChanges_91 : decode cX10_laysChanges 91 = .ok (.invokevirtual 515, 3) := decAll_at aX10_laysChanges_0 54 rfl
theorem dX10_laysChanges_94 : decode cX10_laysChanges 94 = .ok (.iinc 2 1, 3) := decAll_at aX10_laysChanges_0 55 rfl
theorem dX10_laysChanges_97 : decode cX10_laysChanges 97 = .ok (.goto (-50), 3) := decAll_at aX10_laysChanges_0 56 rfl
theorem dX10_laysChanges_100 : decode cX10_laysChanges 100 = .ok (.iconst 0, 1) := decAll_at aX10_laysChanges_0 57 rfl
theorem dX10_laysChanges_101 : decode cX10_laysChanges 101 = .ok (.istore_n 2, 1) := decAll_at aX10_laysChanges_0 58 rfl
theorem dX10_laysChanges_102 : decode cX10_laysChanges 102 = .ok (.iload_n 2, 1) := decAll_at aX10_laysChanges_0 59 rfl
theorem dX10_laysChanges_103 : decode cX10_laysChanges 103 = .ok (.ldc 137, 2) := decAll_at aX10_laysChanges_0 60 rfl
theorem dX10_laysChanges_105 : decode cX10_laysChanges 105 = .ok (.if_icmp .ge 21, 3) := decAll_at aX10_laysChanges_0 61 rfl
theorem dX10_laysChanges_108 : decode cX10_laysChanges 108 = .ok (.aload_n 0, 1) := decAll_at aX10_laysChanges_0 62 rfl
theorem dX10_laysChanges_109 : decode cX10_laysChanges 109 = .ok (.getfield 138, 3) := decAll_at aX10_laysChanges_0 63 rfl
def laX10_laysChanges_1 : List (Nat × Instr × Nat) := [(112, .iload_n 2, 1), (113, .aload_n 0, 1), (114, .getfield 141, 3), (117, .iload_n 2, 1), (118, .iaload, 1), (119, .iastore, 1), (120, .iinc 2 1, 3), (123, .goto (-21), 3), (126, .iinc 1 1, 3), (129, .goto (-127), 3), (132, .iconst 0, 1), (133, .istore_n 1, 1), (134, .iload_n 1, 1), (135, .bipush 10, 2), (137, .if_icmp .ge 18, 3), (140, .aload_n 0, 1), (141, .getfield 144, 3), (144, .iload_n 1, 1), (145, .ldc_w 430, 3), (148, .iastore, 1), (149, .iinc 1 1, 3), (152, .goto (-18), 3), (155, .iconst 0, 1), (156, .istore_n 1, 1), (157, .iload_n 1, 1), (158, .ldc 137, 2), (160, .if_icmp .ge 54, 3), (163, .aload_n 0, 1), (164, .getfield 144, 3), (167, .iload_n 1, 1), (168, .bipush 10, 2), (170, .irem, 1), (171, .aload_n 0, 1), (172, .getfield 138, 3), (175, .iload_n 1, 1), (176, .iaload, 1), (177, .aload_n 0, 1), (178, .getfield 144, 3), (181, .iload_n 1, 1), (182, .bipush 10, 2), (184, .irem, 1), (185, .iaload, 1), (186, .if_icmp .ge 12, 3), (189, .aload_n 0, 1), (190, .getfield 138, 3), (193, .iload_n 1, 1), (194, .iaload, 1), (195, .goto 12, 3), (198, .aload_n 0, 1), (199, .getfield 144, 3), (202, .iload_n 1, 1), (203, .bipush 10, 2), (205, .irem, 1), (206, .iaload, 1), (207, .iastore, 1), (208, .iinc 1 1, 3), (211, .goto (-54), 3), (214, .return_, 1)]
theorem aX10_laysChanges_1 : decAll cX10_laysChanges laX10_laysChanges_1 = true := by decide +kernel
theorem dX10_laysChanges_112 : decode cX10_laysChanges 112 = .ok (.iload_n 2, 1) := decAll_at aX10_laysChanges_1 0 rfl
theorem dX10_laysChanges_113 : decode cX10_laysChanges 113 = .ok (.aload_n 0, 1) := decAll_at aX10_laysChanges_1 1 rfl
theorem dX10_laysChanges_114 : decode cX10_laysChanges 114 = .ok (.getfield 141, 3) := decAll_at aX10_laysChanges_1 2 rfl
theorem dX10_laysChanges_117 : decode cX10_laysChanges 117 = .ok (.iload_n 2, 1) := decAll_at aX10_laysChanges_1 3 rfl
theorem dX10_laysChanges_118 : decode cX10_laysChanges 118 = .ok (.iaload, 1) := decAll_at aX10_laysChanges_1 4 rfl
theorem dX10_laysChanges_119 : decode cX10_laysChanges 119 = .ok (.iastore, 1) := decAll_at aX10_laysChanges_1 5 rfl
theorem dX10_laysChanges_120 : decode cX10_laysChanges 120 = .ok (.iinc 2 1, 3) := decAll_at aX10_laysChanges_1 6 rfl
theorem dX10_laysChanges_123 : decode cX10_laysChanges 123 = .ok (.goto (-21), 3) := decAll_at aX10_laysChanges_1 7 rfl
theorem dX10_laysChanges_126 : decode cX10_laysChanges 126 = .ok (.iinc 1 1, 3) := decAll_at aX10_laysChanges_1 8 rfl
theorem dX10_laysChanges_129 : decode cX10_laysChanges 129 = .ok (.goto (-127), 3) := decAll_at aX10_laysChanges_1 9 rfl
theorem dX10_laysChanges_132 : decode cX10_laysChanges 132 = .ok (.iconst 0, 1) := decAll_at aX10_laysChanges_1 10 rfl
theorem dX10_laysChanges_133 : decode cX10_laysChanges 133 = .ok (.istore_n 1, 1) := decAll_at aX10_laysChanges_1 11 rfl
theorem dX10_laysChanges_134 : decode cX10_laysChanges 134 = .ok (.iload_n 1, 1) := decAll_at aX10_laysChanges_1 12 rfl
theorem dX10_laysChanges_135 : decode cX10_laysChanges 135 = .ok (.bipush 10, 2) := decAll_at aX10_laysChanges_1 13 rfl
theorem dX10_laysChanges_137 : decode cX10_laysChanges 137 = .ok (.if_icmp .ge 18, 3) := decAll_at aX10_laysChanges_1 14 rfl
theorem dX10_laysChanges_140 : decode cX10_laysChanges 140 = .ok (.aload_n 0, 1) := decAll_at aX10_laysChanges_1 15 rfl
theorem dX10_laysChanges_141 : decode cX10_laysChanges 141 = .ok (.getfield 144, 3) := decAll_at aX10_laysChanges_1 16 rfl
theorem dX10_laysChanges_144 : decode cX10_laysChanges 144 = .ok (.iload_n 1, 1) := decAll_at aX10_laysChanges_1 17 rfl
theorem dX10_laysChanges_145 : decode cX10_laysChanges 145 = .ok (.ldc_w 430, 3) := decAll_at aX10_laysChanges_1 18 rfl
theorem dX10_laysChanges_148 : decode cX10_laysChanges 148 = .ok (.iastore, 1) := decAll_at aX10_laysChanges_1 19 rfl
theorem dX10_laysChanges_149 : decode cX10_laysChanges 149 = .ok (.iinc 1 1, 3) := decAll_at aX10_laysChanges_1 20 rfl
theorem dX10_laysChanges_152 : decode cX10_laysChanges 152 = .ok (.goto (-18), 3) := decAll_at aX10_laysChanges_1 21 rfl
theorem dX10_laysChanges_155 : decode cX10_laysChanges 155 = .ok (.iconst 0, 1) := decAll_at aX10_laysChanges_1 22 rfl
theorem dX10_laysChanges_156 : decode cX10_laysChanges 156 = .ok (.istore_n 1, 1) := decAll_at aX10_laysChanges_1 23 rfl
theorem dX10_laysChanges_157 : decode cX10_laysChanges 157 = .ok (.iload_n 1, 1) := decAll_at aX10_laysChanges_1 24 rfl
theorem dX10_laysChanges_158 : decode cX10_laysChanges 158 = .ok (.ldc 137, 2) := decAll_at aX10_laysChanges_1 25 rfl
theorem dX10_laysChanges_160 : decode cX10_laysChanges 160 = .ok (.if_icmp .ge 54, 3) := decAll_at aX10_laysChanges_1 26 rfl
theorem dX10_laysChanges_163 : decode cX10_laysChanges 163 = .ok (.aload_n 0, 1) := decAll_at aX10_laysChanges_1 27 rfl
theorem dX10_laysChanges_164 : decode cX10_laysChanges 164 = .ok (.getfield 144, 3) := decAll_at aX10_laysChanges_1 28 rfl
theorem dX10_laysChanges_167 : decode cX10_laysChanges 167 = .ok (.iload_n 1, 1) := decAll_at aX10_laysChanges_1 29 rfl
theorem dX10_laysChanges_168 : decode cX10_laysChanges 168 = .ok (.bipush 10, 2) := decAll_at aX10_laysChanges_1 30 rfl
theorem dX10_laysChanges_170 : decode cX10_laysChanges 170 = .ok (.irem, 1) := decAll_at aX10_laysChanges_1 31 rfl
theorem dX10_laysChanges_171 : decode cX10_laysChanges 171 = .ok (.aload_n 0, 1) := decAll_at aX10_laysChanges_1 32 rfl
theorem dX10_laysChanges_172 : decode cX10_laysChanges 172 = .ok (.getfield 138, 3) := decAll_at aX10_laysChanges_1 33 rfl
theorem dX10_laysChanges_175 : decode cX10_laysChanges 175 = .ok (.iload_n 1, 1) := decAll_at aX10_laysChanges_1 34 rfl
theorem dX10_laysChanges_176 : decode cX10_laysChanges 176 = .ok (.iaload, 1) := decAll_at aX10_laysChanges_1 35 rfl
theorem dX10_laysChanges_177 : decode cX10_laysChanges 177 = .ok (.aload_n 0, 1) := decAll_at aX10_laysChanges_1 36 rfl
theorem dX10_laysChanges_178 : decode cX10_laysChanges 178 = .ok (.getfield 144, 3) := decAll_at aX10_laysChanges_1 37 rfl
theorem dX10_laysChanges_181 : decode cX10_laysChanges 181 = .ok (.iload_n 1, 1) := decAll_at aX10_laysChanges_1 38 rfl
theorem dX10_laysChanges_182 : decode cX10_laysChanges 182 = .ok (.bipush 10, 2) := decAll_at aX10_laysChanges_1 39 rfl
theorem dX10_laysChanges_184 : decode cX10_laysChanges 184 = .ok (.irem, 1) := decAll_at aX10_laysChanges_1 40 rfl
theorem dX10_laysChanges_185 : decode cX10_laysChanges 185 = .ok (.iaload, 1) := decAll_at aX10_laysChanges_1 41 rfl
theorem dX10_laysChanges_186 : decode cX10_laysChanges 186 = .ok (.if_icmp .ge 12, 3) := decAll_at aX10_laysChanges_1 42 rfl
theorem dX10_laysChanges_189 : decode cX10_laysChanges 189 = .ok (.aload_n 0, 1) := decAll_at aX10_laysChanges_1 43 rfl
theorem dX10_laysChanges_190 : decode cX10_laysChanges 190 = .ok (.getfield 138, 3) := decAll_at aX10_laysChanges_1 44 rfl
theorem dX10_laysChanges_193 : decode cX10_laysChanges 193 = .ok (.iload_n 1, 1) := decAll_at aX10_laysChanges_1 45 rfl
theorem dX10_laysChanges_194 : decode cX10_laysChanges 194 = .ok (.iaload, 1) := decAll_at aX10_laysChanges_1 46 rfl
theorem dX10_laysChanges_195 : decode cX10_laysChanges 195 = .ok (.goto 12, 3) := decAll_at aX10_laysChanges_1 47 rfl
theorem dX10_laysChanges_198 : decode cX10_laysChanges 198 = .ok (.aload_n 0, 1) := decAll_at aX10_laysChanges_1 48 rfl
theorem dX10_laysChanges_199 : decode cX10_laysChanges 199 = .ok (.getfield 144, 3) := decAll_at aX10_laysChanges_1 49 rfl
theorem dX10_laysChanges_202 : decode cX10_laysChanges 202 = .ok (.iload_n 1, 1) := decAll_at aX10_laysChanges_1 50 rfl
theorem dX10_laysChanges_203 : decode cX10_laysChanges 203 = .ok (.bipush 10, 2) := decAll_at aX10_laysChanges_1 51 rfl
theorem dX10_laysChanges_205 : decode cX10_laysChanges 205 = .ok (.irem, 1) := decAll_at aX10_laysChanges_1 52 rfl
theorem dX10_laysChanges_206 : decode cX10_laysChanges 206 = .ok (.iaload, 1) := decAll_at aX10_laysChanges_1 53 rfl
theorem dX10_laysChanges_207 : decode cX10_laysChanges 207 = .ok (.iastore, 1) := decAll_at aX10_laysChanges_1 54 rfl
theorem dX10_laysChanges_208 : decode cX10_laysChanges 208 = .ok (.iinc 1 1, 3) := decAll_at aX10_laysChanges_1 55 rfl
theorem dX10_laysChanges_211 : decode cX10_laysChanges 211 = .ok (.goto (-54), 3) := decAll_at aX10_laysChanges_1 56 rfl
theorem dX10_laysChanges_214 : decode cX10_laysChanges 214 = .ok (.return_, 1) := decAll_at aX10_laysChanges_1 57 rfl
def laX10_often_0 : List (Nat × Instr × Nat) := [(0, .aload_n 0, 1), (1, .getfield 150, 3), (4, .ifCond .eq 22, 3), (7, .aload_n 0, 1), (8, .getfield 160, 3), (11, .ifCond .eq 15, 3), (14, .iload_n 1, 1), (15, .i2l, 1), (16, .lconst 0, 1), (17, .ldc2_w 482, 3), (20, .invokestatic 153, 3), (23, .ifCond .ne 5, 3), (26, .iconst (-1), 1), (27, .ireturn, 1), (28, .aload_n 0, 1), (29, .invokevirtual 506, 3), (32, .ifCond .ne 6, 3), (35, .bipush (-2), 2), (37, .ireturn, 1), (38, .aload_n 0, 1), (39, .invokevirtual 519, 3), (42, .ldc_w 430, 3), (45, .istore_n 2, 1), (46, .iconst 0, 1), (47, .istore_n 3, 1), (48, .iload_n 3, 1), (49, .iload_n 1, 1), (50, .if_icmp .gt 52, 3), (53, .aload_n 0, 1), (54, .getfield 144, 3), (57, .iload_n 3, 1), (58, .iaload, 1), (59, .ldc_w 430, 3), (62, .if_icmp .ge 34, 3), (65, .aload_n 0, 1), (66, .getfield 144, 3), (69, .iload_n 3, 1), (70, .iaload, 1), (71, .iload_n 3, 1), (72, .aload_n 0, 1), (73, .getfield 13, 3), (76, .imul, 1), (77, .iadd, 1), (78, .iload_n 2, 1), (79, .if_icmp .ge 17, 3), (82, .aload_n 0, 1), (83, .getfield 144, 3), (86, .iload_n 3, 1), (87, .iaload, 1), (88, .iload_n 3, 1), (89, .aload_n 0, 1), (90, .getfield 13, 3), (93, .imul, 1), (94, .iadd, 1), (95, .istore_n 2, 1), (96, .iinc 3 1, 3), (99, .goto (-51), 3), (102, .iload_n 2, 1), (103, .ldc_w 430, 3), (106, .if_icmp .ne 8, 3), (109, .bipush (-2), 2), (111, .goto 4, 3), (114, .iload_n 2, 1), (115, .ireturn, 1)]
theorem aX10_often_0 : decAll cX10_often laX10_often_0 = true := by decide +kernel
theorem dX10_often_0 : decode cX10_often 0 = .ok (.aload_n 0, 1) := decAll_at aX10_often_0 0 rfl
theorem dX10_often_1 : decode cX10_often 1 = .ok (.getfield 150, 3) := decAll_at aX10_often_0 1 rfl
theorem dX10_often_4 : decode cX10_often 4 = .ok (.ifCond .eq 22, 3) := decAll_at aX10_often_0 2 rfl
theorem dX10_often_7 : decode cX10_often 7 = .ok (.aload_n 0, 1) := decAll_at aX10_often_0 3 rfl
theorem dX10_often_8 : decode cX10_often 8 = .ok (.getfield 160, 3) := decAll_at aX10_often_0 4 rfl
theorem dX10_often_11 : decode cX10_often 11 = .ok (.ifCond .eq 15, 3) := decAll_at aX10_often_0 5 rfl
theorem dX10_often_14 : decode cX10_often 14 = .ok (.iload_n 1, 1) := decAll_at aX10_often_0 6 rfl
theorem dX10_often_15 : decode cX10_often 15 = .ok (.i2l, 1) := decAll_at aX10_often_0 7 rfl
theorem dX10_often_16 : decode cX10_often 16 = .ok (.lconst 0, 1) := decAll_at aX10_often_0 8 rfl
theorem dX10_often_17 : decode cX10_often 17 = .ok (.ldc2_w 482, 3) := decAll_at aX10_often_0 9 rfl
theorem dX10_often_20 : decode cX10_often 20 = .ok (.invokestatic 153, 3) := decAll_at aX10_often_0 10 rfl
theorem dX10_often_23 : decode cX10_often 23 = .ok (.ifCond .ne 5, 3) := decAll_at aX10_often_0 11 rfl
theorem dX10_often_26 : decode cX10_often 26 = .ok (.iconst (-1), 1) := decAll_at aX10_often_0 12 rfl
theorem dX10_often_27 : decode cX10_often 27 = .ok (.ireturn, 1) := decAll_at aX10_often_0 13 rfl
theorem dX10_often_28 : decode cX10_often 28 = .ok (.aload_n 0, 1) := decAll_at aX10_often_0 14 rfl
theorem dX10_often_29 : decode cX10_often 29 = .ok (.invokevirtual 506, 3) := decAll_at aX10_often_0 15 rfl
theorem dX10_often_32 : decode cX10_often 32 = .ok (.ifCond .ne 6, 3) := decAll_at aX10_often_0 16 rfl
theorem dX10_often_35 : decode cX10_often 35 = .ok (.bipush (-2), 2) := decAll_at aX10_often_0 17 rfl
theorem dX10_often_37 : decode cX10_often 37 = .ok (.ireturn, 1) := decAll_at aX10_often_0 18 rfl
theorem dX10_often_38 : decode cX10_often 38 = .ok (.aload_n 0, 1) := decAll_at aX10_often_0 19 rfl
theorem dX10_often_39 : decode cX10_often 39 = .ok (.invokevirtual 519, 3) := decAll_at aX10_often_0 20 rfl
theorem dX10_often_42 : decode cX10_often 42 = .ok (.ldc_w 430, 3) := decAll_at aX10_often_0 21 rfl
theorem dX10_often_45 : decode cX10_often 45 = .ok (.istore_n 2, 1) := decAll_at aX10_often_0 22 rfl
theorem dX10_often_46 : decode cX10_often 46 = .ok (.iconst 0, 1) := decAll_at aX10_often_0 23 rfl
theorem dX10_often_47 : decode cX10_often 47 = .ok (.istore_n 3, 1) := decAll_at aX10_often_0 24 rfl
theorem dX10_often_48 : decode cX10_often 48 = .ok (.iload_n 3, 1) := decAll_at aX10_often_0 25 rfl
theorem dX10_often_49 : decode cX10_often 49 = .ok (.iload_n 1, 1) := decAll_at aX10_often_0 26 rfl
theorem dX10_often_50 : decode cX10_often 50 = .ok (.if_icmp .gt 52, 3) := decAll_at aX10_often_0 27 rfl
theorem dX10_often_53 : decode cX10_often 53 = .ok (.aload_n 0, 1) := decAll_at aX10_often_0 28 rfl
theorem dX10_often_54 : decode cX10_often 54 = .ok (.getfield 144, 3) := decAll_at aX10_often_0 29 rfl
theorem dX10_often_57 : decode cX10_often 57 = .ok (.iload_n 3, 1) := decAll_at aX10_often_0 30 rfl
theorem dX10_often_58 : decode cX10_often 58 = .ok (.iaload, 1) := decAll_at aX10_often_0 31 rfl
theorem dX10_often_59 : decode cX10_often 59 = .ok (.ldc_w 430, 3) := decAll_at aX10_often_0 32 rfl
theorem dX10_often_62 : decode cX10_often 62 = .ok (.if_icmp .ge 34, 3) := decAll_at aX10_often_0 33 rfl
theorem dX10_often_65 : decode cX10_often 65 = .ok (.aload_n 0, 1) := decAll_at aX10_often_0 34 rfl
theorem dX10_often_66 : decode cX10_often 66 = .ok (.getfield 144, 3) := decAll_at aX10_often_0 35 rfl
theorem dX10_often_69 : decode cX10_often 69 = .ok (.iload_n 3, 1) := decAll_at aX10_often_0 36 rfl
theorem dX10_often_70 : decode cX10_often 70 = .ok (.iaload, 1) := decAll_at aX10_often_0 37 rfl
theorem dX10_often_71 : decode cX10_often 71 = .ok (.iload_n 3, 1) := decAll_at aX10_often_0 38 rfl
theorem dX10_often_72 : decode cX10_often 72 = .ok (.aload_n 0, 1) := decAll_at aX10_often_0 39 rfl
theorem dX10_often_73 : decode cX10_often 73 = .ok (.getfield 13, 3) := decAll_at aX10_often_0 40 rfl
theorem dX10_often_76 : decode cX10_often 76 = .ok (.imul, 1) := decAll_at aX10_often_0 41 rfl
theorem dX10_often_77 : decode cX10_often 77 = .ok (.iadd, 1) := decAll_at aX10_often_0 42 rfl
theorem dX10_often_78 : decode cX10_often 78 = .ok (.iload_n 2, 1) := decAll_at aX10_often_0 43 rfl
theorem dX10_often_79 : decode cX10_often 79 = .ok (.if_icmp .ge 17, 3) := decAll_at aX10_often_0 44 rfl
theorem dX10_often_82 : decode cX10_often 82 = .ok (.aload_n 0, 1) := decAll_at aX10_often_0 45 rfl
theorem dX10_often_83 : decode cX10_often 83 = .ok (.getfield 144, 3) := decAll_at aX10_often_0 46 rfl
theorem dX10_often_86 : decode cX10_often 86 = .ok (.iload_n 3, 1) := decAll_at aX10_often_0 47 rfl
theorem dX10_often_87 : decode cX10_often 87 = .ok (.iaload, 1) := decAll_at aX10_often_0 48 rfl
theorem dX10_often_88 : decode cX10_often 88 = .ok (.iload_n 3, 1) := decAll_at aX10_often_0 49 rfl
theorem dX10_often_89 : decode cX10_often 89 = .ok (.aload_n 0, 1) := decAll_at aX10_often_0 50 rfl
theorem dX10_often_90 : decode cX10_often 90 = .ok (.getfield 13, 3) := decAll_at aX10_often_0 51 rfl
theorem dX10_often_93 : decode cX10_often 93 = .ok (.imul, 1) := decAll_at aX10_often_0 52 rfl
theorem dX10_often_94 : decode cX10_often 94 = .ok (.iadd, 1) := decAll_at aX10_often_0 53 rfl
theorem dX10_often_95 : decode cX10_often 95 = .ok (.istore_n 2, 1) := decAll_at aX10_often_0 54 rfl
theorem dX10_often_96 : decode cX10_often 96 = .ok (.iinc 3 1, 3) := decAll_at aX10_often_0 55 rfl
theorem dX10_often_99 : decode cX10_often 99 = .ok (.goto (-51), 3) := decAll_at aX10_often_0 56 rfl
theorem dX10_often_102 : decode cX10_often 102 = .ok (.iload_n 2, 1) := decAll_at aX10_often_0 57 rfl
theorem dX10_often_103 : decode cX10_often 103 = .ok (.ldc_w 430, 3) := decAll_at aX10_often_0 58 rfl
theorem dX10_often_106 : decode cX10_often 106 = .ok (.if_icmp .ne 8, 3) := decAll_at aX10_often_0 59 rfl
theorem dX10_often_109 : decode cX10_often 109 = .ok (.bipush (-2), 2) := decAll_at aX10_often_0 60 rfl
theorem dX10_often_111 : decode cX10_often 111 = .ok (.goto 4, 3) := decAll_at aX10_often_0 61 rfl
theorem dX10_often_114 : decode cX10_often 114 = .ok (.iload_n 2, 1) := decAll_at aX10_often_0 62 rfl
theorem dX10_often_115 : decode cX10_often 115 = .ok (.ireturn, 1) := decAll_at aX10_often_0 63 rfl
def laX10_edge_0 : List (Nat × Instr × Nat) := [(0, .aload_n 0, 1), (1, .getfield 150, 3), (4, .ifCond .eq 10, 3), (7, .aload_n 0, 1), (8, .getfield 160, 3), (11, .ifCond .ne 5, 3), (14, .iconst (-1), 1), (15, .ireturn, 1), (16, .aload_n 0, 1), (17, .invokevirtual 506, 3), (20, .ifCond .ne 6, 3), (23, .bipush (-2), 2), (25, .ireturn, 1), (26, .aload_n 0, 1), (27, .invokevirtual 519, 3), (30, .aload_n 0, 1), (31, .getfield 144, 3), (34, .iconst 0, 1), (35, .iaload, 1), (36, .ldc_w 430, 3), (39, .if_icmp .ne 6, 3), (42, .bipush (-2), 2), (44, .ireturn, 1), (45, .iconst 0, 1), (46, .istore_n 1, 1), (47, .iload_n 1, 1), (48, .bipush 120, 2), (50, .if_icmp .gt 72, 3), (53, .iconst 1, 1), (54, .istore_n 2, 1), (55, .iconst 1, 1), (56, .istore_n 3, 1), (57, .iload_n 3, 1), (58, .bipush 10, 2), (60, .if_icmp .ge 50, 3), (63, .iload_n 2, 1), (64, .ifCond .eq 38, 3), (67, .aload_n 0, 1), (68, .getfield 144, 3), (71, .iload_n 3, 1), (72, .iaload, 1), (73, .ldc_w 430, 3), (76, .if_icmp .eq 22, 3), (79, .aload_n 0, 1), (80, .getfield 144, 3), (83, .iload_n 3, 1), (84, .iaload, 1), (85, .iload_n 3, 1), (86, .iload_n 1, 1), (87, .imul, 1), (88, .iadd, 1), (89, .aload_n 0, 1), (90, .getfield 144, 3), (93, .iconst 0, 1), (94, .iaload, 1), (95, .if_icmp .lt 7, 3), (98, .iconst 1, 1), (99, .goto 4, 3), (102, .iconst 0, 1), (103, .istore_n 2, 1), (104, .iinc 3 1, 3), (107, .goto (-50), 3), (110, .iload_n 2, 1), (111, .ifCond .eq 5, 3)]
theorem aX10_edge_0 : decAll cX10_edge laX10_edge_0 = true := by decide +kernel
theorem dX10_edge_0 : decode cX10_edge 0 = .ok (.aload_n 0, 1) := decAll_at aX10_edge_0 0 rfl
theorem dX10_edge_1 : decode cX10_edge 1 = .ok (.getfield 150, 3) := decAll_at aX10_edge_0 1 rfl
theorem dX10_edge_4 : decode cX10_edge 4 = .ok (.ifCond .eq 10, 3) := decAll_at aX10_edge_0 2 rfl
theorem dX10_edge_7 : decode cX10_edge 7 = .ok (.aload_n 0, 1) := decAll_at aX10_edge_0 3 rfl
theorem dX10_edge_8 : decode cX10_edge 8 = .ok (.getfield 160, 3) := decAll_at aX10_edge_0 4 rfl
theorem dX10_edge_11 : decode cX10_edge 11 = .ok (.ifCond .ne 5, 3) := decAll_at aX10_edge_0 5 rfl
theorem dX10_edge_14 : decode cX10_edge 14 = .ok (.iconst (-1), 1) := decAll_at aX10_edge_0 6 rfl
theorem dX10_edge_15 : decode cX10_edge 15 = .ok (.ireturn, 1) := decAll_at aX10_edge_0 7 rfl
theorem dX10_edge_16 : decode cX10_edge 16 = .ok (.aload_n 0, 1) := decAll_at aX10_edge_0 8 rfl
theorem dX10_edge_17 : decode cX10_edge 17 = .ok (.invokevirtual 506, 3) := decAll_at aX10_edge_0 9 rfl
theorem dX10_edge_20 : decode cX10_edge 20 = .ok (.ifCond .ne 6, 3) := decAll_at aX10_edge_0 10 rfl
theorem dX10_edge_23 : decode cX10_edge 23 = .ok (.bipush (-2), 2) := decAll_at aX10_edge_0 11 rfl
theorem dX10_edge_25 : decode cX10_edge 25 = .ok (.ireturn, 1) := decAll_at aX10_edge_0 12 rfl
theorem dX10_edge_26 : decode cX10_edge 26 = .ok (.aload_n 0, 1) := decAll_at aX10_edge_0 13 rfl
theorem dX10_edge_27 : decode cX10_edge 27 = .ok (.invokevirtual 519, 3) := decAll_at aX10_edge_0 14 rfl
theorem dX10_edge_30 : decode cX10_edge 30 = .ok (.aload_n 0, 1) := decAll_at aX10_edge_0 15 rfl
theorem dX10_edge_31 : decode cX10_edge 31 = .ok (.getfield 144, 3) := decAll_at aX10_edge_0 16 rfl
theorem dX10_edge_34 : decode cX10_edge 34 = .ok (.iconst 0, 1) := decAll_at aX10_edge_0 17 rfl
theorem dX10_edge_35 : decode cX10_edge 35 = .ok (.iaload, 1) := decAll_at aX10_edge_0 18 rfl
theorem dX10_edge_36 : decode cX10_edge 36 = .ok (.ldc_w 430, 3) := decAll_at aX10_edge_0 19 rfl
theorem dX10_edge_39 : decode cX10_edge 39 = .ok (.if_icmp .ne 6, 3) := decAll_at aX10_edge_0 20 rfl
theorem dX10_edge_42 : decode cX10_edge 42 = .ok (.bipush (-2), 2) := decAll_at aX10_edge_0 21 rfl
theorem dX10_edge_44 : decode cX10_edge 44 = .ok (.ireturn, 1) := decAll_at aX10_edge_0 22 rfl
theorem dX10_edge_45 : decode cX10_edge 45 = .ok (.iconst 0, 1) := decAll_at aX10_edge_0 23 rfl
theorem dX10_edge_46 : decode cX10_edge 46 = .ok (.istore_n 1, 1) := decAll_at aX10_edge_0 24 rfl
theorem dX10_edge_47 : decode cX10_edge 47 = .ok (.iload_n 1, 1) := decAll_at aX10_edge_0 25 rfl
theorem dX10_edge_48 : decode cX10_edge 48 = .ok (.bipush 120, 2) := decAll_at aX10_edge_0 26 rfl
theorem dX10_edge_50 : decode cX10_edge 50 = .ok (.if_icmp .gt 72, 3) := decAll_at aX10_edge_0 27 rfl
theorem dX10_edge_53 : decode cX10_edge 53 = .ok (.iconst 1, 1) := decAll_at aX10_edge_0 28 rfl
theorem dX10_edge_54 : decode cX10_edge 54 = .ok (.istore_n 2, 1) := decAll_at aX10_edge_0 29 rfl
theorem dX10_edge_55 : decode cX10_edge 55 = .ok (.iconst 1, 1) := decAll_at aX10_edge_0 30 rfl
theorem dX10_edge_56 : decode cX10_edge 56 = .ok (.istore_n 3, 1) := decAll_at aX10_edge_0 31 rfl
theorem dX10_edge_57 : decode cX10_edge 57 = .ok (.iload_n 3, 1) := decAll_at aX10_edge_0 32 rfl
theorem dX10_edge_58 : decode cX10_edge 58 = .ok (.bipush 10, 2) := decAll_at aX10_edge_0 33 rfl
theorem dX10_edge_60 : decode cX10_edge 60 = .ok (.if_icmp .ge 50, 3) := decAll_at aX10_edge_0 34 rfl
theorem dX10_edge_63 : decode cX10_edge 63 = .ok (.iload_n 2, 1) := decAll_at aX10_edge_0 35 rfl
theorem dX10_edge_64 : decode cX10_edge 64 = .ok (.ifCond .eq 38, 3) := decAll_at aX10_edge_0 36 rfl
theorem dX10_edge_67 : decode cX10_edge 67 = .ok (.aload_n 0, 1) := decAll_at aX10_edge_0 37 rfl
theorem dX10_edge_68 : decode cX10_edge 68 = .ok (.getfield 144, 3) := decAll_at aX10_edge_0 38 rfl
theorem dX10_edge_71 : decode cX10_edge 71 = .ok (.iload_n 3, 1) := decAll_at aX10_edge_0 39 rfl
theorem dX10_edge_72 : decode cX10_edge 72 = .ok (.iaload, 1) := decAll_at aX10_edge_0 40 rfl
theorem dX10_edge_73 : decode cX10_edge 73 = .ok (.ldc_w 430, 3) := decAll_at aX10_edge_0 41 rfl
theorem dX10_edge_76 : decode cX10_edge 76 = .ok (.if_icmp .eq 22, 3) := decAll_at aX10_edge_0 42 rfl
theorem dX10_edge_79 : decode cX10_edge 79 = .ok (.aload_n 0, 1) := decAll_at aX10_edge_0 43 rfl
theorem dX10_edge_80 : decode cX10_edge 80 = .ok (.getfield 144, 3) := decAll_at aX10_edge_0 44 rfl
theorem dX10_edge_83 : decode cX10_edge 83 = .ok (.iload_n 3, 1) := decAll_at aX10_edge_0 45 rfl
theorem dX10_edge_84 : decode cX10_edge 84 = .ok (.iaload, 1) := decAll_at aX10_edge_0 46 rfl
theorem dX10_edge_85 : decode cX10_edge 85 = .ok (.iload_n 3, 1) := decAll_at aX10_edge_0 47 rfl
theorem dX10_edge_86 : decode cX10_edge 86 = .ok (.iload_n 1, 1) := decAll_at aX10_edge_0 48 rfl
theorem dX10_edge_87 : decode cX10_edge 87 = .ok (.imul, 1) := decAll_at aX10_edge_0 49 rfl
theorem dX10_edge_88 : decode cX10_edge 88 = .ok (.iadd, 1) := decAll_at aX10_edge_0 50 rfl
theorem dX10_edge_89 : decode cX10_edge 89 = .ok (.aload_n 0, 1) := decAll_at aX10_edge_0 51 rfl
theorem dX10_edge_90 : decode cX10_edge 90 = .ok (.getfield 144, 3) := decAll_at aX10_edge_0 52 rfl
theorem dX10_edge_93 : decode cX10_edge 93 = .ok (.iconst 0, 1) := decAll_at aX10_edge_0 53 rfl
theorem dX10_edge_94 : decode cX10_edge 94 = .ok (.iaload, 1) := decAll_at aX10_edge_0 54 rfl
theorem dX10_edge_95 : decode cX10_edge 95 = .ok (.if_icmp .lt 7, 3) := decAll_at aX10_edge_0 55 rfl
theorem dX10_edge_98 : decode cX10_edge 98 = .ok (.iconst 1, 1) := decAll_at aX10_edge_0 56 rfl
theorem dX10_edge_99 : decode cX10_edge 99 = .ok (.goto 4, 3) := decAll_at aX10_edge_0 57 rfl
theorem dX10_edge_102 : decode cX10_edge 102 = .ok (.iconst 0, 1) := decAll_at aX10_edge_0 58 rfl
theorem dX10_edge_103 : decode cX10_edge 103 = .ok (.istore_n 2, 1) := decAll_at aX10_edge_0 59 rfl
theorem dX10_edge_104 : decode cX10_edge 104 = .ok (.iinc 3 1, 3) := decAll_at aX10_edge_0 60 rfl
theorem dX10_edge_107 : decode cX10_edge 107 = .ok (.goto (-50), 3) := decAll_at aX10_edge_0 61 rfl
theorem dX10_edge_110 : decode cX10_edge 110 = .ok (.iload_n 2, 1) := decAll_at aX10_edge_0 62 rfl
theorem dX10_edge_111 : decode cX10_edge 111 = .ok (.ifCond .eq 5, 3) := decAll_at aX10_edge_0 63 rfl
def laX10_edge_1 : List (Nat × Instr × Nat) := [(114, .iload_n 1, 1), (115, .ireturn, 1), (116, .iinc 1 1, 3), (119, .goto (-72), 3), (122, .bipush (-2), 2), (124, .ireturn, 1)]
theorem aX10_edge_1 : decAll cX10_edge laX10_edge_1 = true := by decide +kernel
theorem dX10_edge_114 : decode cX10_edge 114 = .ok (.iload_n 1, 1) := decAll_at aX10_edge_1 0 rfl
theorem dX10_edge_115 : decode cX10_edge 115 = .ok (.ireturn, 1) := decAll_at aX10_edge_1 1 rfl
theorem dX10_edge_116 : decode cX10_edge 116 = .ok (.iinc 1 1, 3) := decAll_at aX10_edge_1 2 rfl
theorem dX10_edge_119 : decode cX10_edge 119 = .ok (.goto (-72), 3) := decAll_at aX10_edge_1 3 rfl
theorem dX10_edge_122 : decode cX10_edge 122 = .ok (.bipush (-2), 2) := decAll_at aX10_edge_1 4 rfl
theorem dX10_edge_124 : decode cX10_edge 124 = .ok (.ireturn, 1) := decAll_at aX10_edge_1 5 rfl
def laX10_setPace_0 : List (Nat × Instr × Nat) := [(0, .bipush 60, 2), (2, .istore 4, 2), (4, .iconst 0, 1), (5, .istore 5, 2), (7, .iload 5, 2), (9, .aload_n 0, 1), (10, .getfield 150, 3), (13, .if_icmp .ge 49, 3), (16, .iload_n 1, 1), (17, .iload 5, 2), (19, .invokestatic 399, 3), (22, .ifCond .ne 6, 3), (25, .goto 31, 3), (28, .aload_n 0, 1), (29, .iload 5, 2), (31, .iconst 0, 1), (32, .iconst 0, 1), (33, .iload_n 2, 1), (34, .iload_n 3, 1), (35, .invokevirtual 354, 3), (38, .istore 6, 2), (40, .iload 6, 2), (42, .iload 4, 2), (44, .if_icmp .ge 8, 3), (47, .iload 6, 2), (49, .goto 5, 3), (52, .iload 4, 2), (54, .istore 4, 2), (56, .iinc 5 1, 3), (59, .goto (-52), 3), (62, .iload 4, 2), (64, .ireturn, 1)]
theorem aX10_setPace_0 : decAll cX10_setPace laX10_setPace_0 = true := by decide +kernel
theorem dX10_setPace_0 : decode cX10_setPace 0 = .ok (.bipush 60, 2) := decAll_at aX10_setPace_0 0 rfl
theorem dX10_setPace_2 : decode cX10_setPace 2 = .ok (.istore 4, 2) := decAll_at aX10_setPace_0 1 rfl
theorem dX10_setPace_4 : decode cX10_setPace 4 = .ok (.iconst 0, 1) := decAll_at aX10_setPace_0 2 rfl
theorem dX10_setPace_5 : decode cX10_setPace 5 = .ok (.istore 5, 2) := decAll_at aX10_setPace_0 3 rfl
theorem dX10_setPace_7 : decode cX10_setPace 7 = .ok (.iload 5, 2) := decAll_at aX10_setPace_0 4 rfl
theorem dX10_setPace_9 : decode cX10_setPace 9 = .ok (.aload_n 0, 1) := decAll_at aX10_setPace_0 5 rfl
theorem dX10_setPace_10 : decode cX10_setPace 10 = .ok (.getfield 150, 3) := decAll_at aX10_setPace_0 6 rfl
theorem dX10_setPace_13 : decode cX10_setPace 13 = .ok (.if_icmp .ge 49, 3) := decAll_at aX10_setPace_0 7 rfl
theorem dX10_setPace_16 : decode cX10_setPace 16 = .ok (.iload_n 1, 1) := decAll_at aX10_setPace_0 8 rfl
theorem dX10_setPace_17 : decode cX10_setPace 17 = .ok (.iload 5, 2) := decAll_at aX10_setPace_0 9 rfl
theorem dX10_setPace_19 : decode cX10_setPace 19 = .ok (.invokestatic 399, 3) := decAll_at aX10_setPace_0 10 rfl
theorem dX10_setPace_22 : decode cX10_setPace 22 = .ok (.ifCond .ne 6, 3) := decAll_at aX10_setPace_0 11 rfl
theorem dX10_setPace_25 : decode cX10_setPace 25 = .ok (.goto 31, 3) := decAll_at aX10_setPace_0 12 rfl
theorem dX10_setPace_28 : decode cX10_setPace 28 = .ok (.aload_n 0, 1) := decAll_at aX10_setPace_0 13 rfl
theorem dX10_setPace_29 : decode cX10_setPace 29 = .ok (.iload 5, 2) := decAll_at aX10_setPace_0 14 rfl
theorem dX10_setPace_31 : decode cX10_setPace 31 = .ok (.iconst 0, 1) := decAll_at aX10_setPace_0 15 rfl
theorem dX10_setPace_32 : decode cX10_setPace 32 = .ok (.iconst 0, 1) := decAll_at aX10_setPace_0 16 rfl
theorem dX10_setPace_33 : decode cX10_setPace 33 = .ok (.iload_n 2, 1) := decAll_at aX10_setPace_0 17 rfl
theorem dX10_setPace_34 : decode cX10_setPace 34 = .ok (.iload_n 3, 1) := decAll_at aX10_setPace_0 18 rfl
theorem dX10_setPace_35 : decode cX10_setPace 35 = .ok (.invokevirtual 354, 3) := decAll_at aX10_setPace_0 19 rfl
theorem dX10_setPace_38 : decode cX10_setPace 38 = .ok (.istore 6, 2) := decAll_at aX10_setPace_0 20 rfl
theorem dX10_setPace_40 : decode cX10_setPace 40 = .ok (.iload 6, 2) := decAll_at aX10_setPace_0 21 rfl
theorem dX10_setPace_42 : decode cX10_setPace 42 = .ok (.iload 4, 2) := decAll_at aX10_setPace_0 22 rfl
theorem dX10_setPace_44 : decode cX10_setPace 44 = .ok (.if_icmp .ge 8, 3) := decAll_at aX10_setPace_0 23 rfl
theorem dX10_setPace_47 : decode cX10_setPace 47 = .ok (.iload 6, 2) := decAll_at aX10_setPace_0 24 rfl
theorem dX10_setPace_49 : decode cX10_setPace 49 = .ok (.goto 5, 3) := decAll_at aX10_setPace_0 25 rfl
theorem dX10_setPace_52 : decode cX10_setPace 52 = .ok (.iload 4, 2) := decAll_at aX10_setPace_0 26 rfl
theorem dX10_setPace_54 : decode cX10_setPace 54 = .ok (.istore 4, 2) := decAll_at aX10_setPace_0 27 rfl
theorem dX10_setPace_56 : decode cX10_setPace 56 = .ok (.iinc 5 1, 3) := decAll_at aX10_setPace_0 28 rfl
theorem dX10_setPace_59 : decode cX10_setPace 59 = .ok (.goto (-52), 3) := decAll_at aX10_setPace_0 29 rfl
theorem dX10_setPace_62 : decode cX10_setPace 62 = .ok (.iload 4, 2) := decAll_at aX10_setPace_0 30 rfl
theorem dX10_setPace_64 : decode cX10_setPace 64 = .ok (.ireturn, 1) := decAll_at aX10_setPace_0 31 rfl
def laX10_goneIn_0 : List (Nat × Instr × Nat) := [(0, .iload_n 2, 1), (1, .istore_n 3, 1), (2, .iconst 0, 1), (3, .istore 4, 2), (5, .iconst 0, 1), (6, .istore 5, 2), (8, .iload 5, 2), (10, .aload_n 0, 1), (11, .getfield 160, 3), (14, .if_icmp .ge 125, 3), (17, .iload_n 1, 1), (18, .ifCond .ne 8, 3), (21, .iload 5, 2), (23, .goto 12, 3), (26, .aload_n 0, 1), (27, .getfield 160, 3), (30, .iconst 1, 1), (31, .isub, 1), (32, .iload 5, 2), (34, .isub, 1), (35, .istore 6, 2), (37, .aload_n 0, 1), (38, .getfield 147, 3), (41, .bipush 10, 2), (43, .iload_n 1, 1), (44, .imul, 1), (45, .iload 6, 2), (47, .iadd, 1), (48, .iaload, 1), (49, .istore 7, 2), (51, .aload_n 0, 1), (52, .iload 6, 2), (54, .iload 7, 2), (56, .invokevirtual 390, 3), (59, .istore 8, 2), (61, .iload_n 3, 1), (62, .iload 8, 2), (64, .if_icmp .lt 26, 3), (67, .iload_n 3, 1), (68, .iload 8, 2), (70, .isub, 1), (71, .istore_n 3, 1), (72, .iload 4, 2), (74, .bipush 10, 2), (76, .aload_n 0, 1), (77, .getfield 37, 3), (80, .iload 6, 2), (82, .iaload, 1), (83, .imul, 1), (84, .iadd, 1), (85, .istore 4, 2), (87, .goto 46, 3), (90, .iload 7, 2), (92, .iload_n 3, 1), (93, .imul, 1), (94, .bipush 60, 2), (96, .idiv, 1), (97, .istore 9, 2), (99, .iload 4, 2), (101, .iload 9, 2), (103, .bipush 10, 2), (105, .aload_n 0, 1), (106, .getfield 37, 3), (109, .iload 6, 2)]
theorem aX10_goneIn_0 : decAll cX10_goneIn laX10_goneIn_0 = true := by decide +kernel
theorem dX10_goneIn_0 : decode cX10_goneIn 0 = .ok (.iload_n 2, 1) := decAll_at aX10_goneIn_0 0 rfl
theorem dX10_goneIn_1 : decode cX10_goneIn 1 = .ok (.istore_n 3, 1) := decAll_at aX10_goneIn_0 1 rfl
theorem dX10_goneIn_2 : decode cX10_goneIn 2 = .ok (.iconst 0, 1) := decAll_at aX10_goneIn_0 2 rfl
theorem dX10_goneIn_3 : decode cX10_goneIn 3 = .ok (.istore 4, 2) := decAll_at aX10_goneIn_0 3 rfl
theorem dX10_goneIn_5 : decode cX10_goneIn 5 = .ok (.iconst 0, 1) := decAll_at aX10_goneIn_0 4 rfl
theorem dX10_goneIn_6 : decode cX10_goneIn 6 = .ok (.istore 5, 2) := decAll_at aX10_goneIn_0 5 rfl
theorem dX10_goneIn_8 : decode cX10_goneIn 8 = .ok (.iload 5, 2) := decAll_at aX10_goneIn_0 6 rfl
theorem dX10_goneIn_10 : decode cX10_goneIn 10 = .ok (.aload_n 0, 1) := decAll_at aX10_goneIn_0 7 rfl
theorem dX10_goneIn_11 : decode cX10_goneIn 11 = .ok (.getfield 160, 3) := decAll_at aX10_goneIn_0 8 rfl
theorem dX10_goneIn_14 : decode cX10_goneIn 14 = .ok (.if_icmp .ge 125, 3) := decAll_at aX10_goneIn_0 9 rfl
theorem dX10_goneIn_17 : decode cX10_goneIn 17 = .ok (.iload_n 1, 1) := decAll_at aX10_goneIn_0 10 rfl
theorem dX10_goneIn_18 : decode cX10_goneIn 18 = .ok (.ifCond .ne 8, 3) := decAll_at aX10_goneIn_0 11 rfl
theorem dX10_goneIn_21 : decode cX10_goneIn 21 = .ok (.iload 5, 2) := decAll_at aX10_goneIn_0 12 rfl
theorem dX10_goneIn_23 : decode cX10_goneIn 23 = .ok (.goto 12, 3) := decAll_at aX10_goneIn_0 13 rfl
theorem dX10_goneIn_26 : decode cX10_goneIn 26 = .ok (.aload_n 0, 1) := decAll_at aX10_goneIn_0 14 rfl
theorem dX10_goneIn_27 : decode cX10_goneIn 27 = .ok (.getfield 160, 3) := decAll_at aX10_goneIn_0 15 rfl
theorem dX10_goneIn_30 : decode cX10_goneIn 30 = .ok (.iconst 1, 1) := decAll_at aX10_goneIn_0 16 rfl
theorem dX10_goneIn_31 : decode cX10_goneIn 31 = .ok (.isub, 1) := decAll_at aX10_goneIn_0 17 rfl
theorem dX10_goneIn_32 : decode cX10_goneIn 32 = .ok (.iload 5, 2) := decAll_at aX10_goneIn_0 18 rfl
theorem dX10_goneIn_34 : decode cX10_goneIn 34 = .ok (.isub, 1) := decAll_at aX10_goneIn_0 19 rfl
theorem dX10_goneIn_35 : decode cX10_goneIn 35 = .ok (.istore 6, 2) := decAll_at aX10_goneIn_0 20 rfl
theorem dX10_goneIn_37 : decode cX10_goneIn 37 = .ok (.aload_n 0, 1) := decAll_at aX10_goneIn_0 21 rfl
theorem dX10_goneIn_38 : decode cX10_goneIn 38 = .ok (.getfield 147, 3) := decAll_at aX10_goneIn_0 22 rfl
theorem dX10_goneIn_41 : decode cX10_goneIn 41 = .ok (.bipush 10, 2) := decAll_at aX10_goneIn_0 23 rfl
theorem dX10_goneIn_43 : decode cX10_goneIn 43 = .ok (.iload_n 1, 1) := decAll_at aX10_goneIn_0 24 rfl
theorem dX10_goneIn_44 : decode cX10_goneIn 44 = .ok (.imul, 1) := decAll_at aX10_goneIn_0 25 rfl
theorem dX10_goneIn_45 : decode cX10_goneIn 45 = .ok (.iload 6, 2) := decAll_at aX10_goneIn_0 26 rfl
theorem dX10_goneIn_47 : decode cX10_goneIn 47 = .ok (.iadd, 1) := decAll_at aX10_goneIn_0 27 rfl
theorem dX10_goneIn_48 : decode cX10_goneIn 48 = .ok (.iaload, 1) := decAll_at aX10_goneIn_0 28 rfl
theorem dX10_goneIn_49 : decode cX10_goneIn 49 = .ok (.istore 7, 2) := decAll_at aX10_goneIn_0 29 rfl
theorem dX10_goneIn_51 : decode cX10_goneIn 51 = .ok (.aload_n 0, 1) := decAll_at aX10_goneIn_0 30 rfl
theorem dX10_goneIn_52 : decode cX10_goneIn 52 = .ok (.iload 6, 2) := decAll_at aX10_goneIn_0 31 rfl
theorem dX10_goneIn_54 : decode cX10_goneIn 54 = .ok (.iload 7, 2) := decAll_at aX10_goneIn_0 32 rfl
theorem dX10_goneIn_56 : decode cX10_goneIn 56 = .ok (.invokevirtual 390, 3) := decAll_at aX10_goneIn_0 33 rfl
theorem dX10_goneIn_59 : decode cX10_goneIn 59 = .ok (.istore 8, 2) := decAll_at aX10_goneIn_0 34 rfl
theorem dX10_goneIn_61 : decode cX10_goneIn 61 = .ok (.iload_n 3, 1) := decAll_at aX10_goneIn_0 35 rfl
theorem dX10_goneIn_62 : decode cX10_goneIn 62 = .ok (.iload 8, 2) := decAll_at aX10_goneIn_0 36 rfl
theorem dX10_goneIn_64 : decode cX10_goneIn 64 = .ok (.if_icmp .lt 26, 3) := decAll_at aX10_goneIn_0 37 rfl
theorem dX10_goneIn_67 : decode cX10_goneIn 67 = .ok (.iload_n 3, 1) := decAll_at aX10_goneIn_0 38 rfl
theorem dX10_goneIn_68 : decode cX10_goneIn 68 = .ok (.iload 8, 2) := decAll_at aX10_goneIn_0 39 rfl
theorem dX10_goneIn_70 : decode cX10_goneIn 70 = .ok (.isub, 1) := decAll_at aX10_goneIn_0 40 rfl
theorem dX10_goneIn_71 : decode cX10_goneIn 71 = .ok (.istore_n 3, 1) := decAll_at aX10_goneIn_0 41 rfl
theorem dX10_goneIn_72 : decode cX10_goneIn 72 = .ok (.iload 4, 2) := decAll_at aX10_goneIn_0 42 rfl
theorem dX10_goneIn_74 : decode cX10_goneIn 74 = .ok (.bipush 10, 2) := decAll_at aX10_goneIn_0 43 rfl
theorem dX10_goneIn_76 : decode cX10_goneIn 76 = .ok (.aload_n 0, 1) := decAll_at aX10_goneIn_0 44 rfl
theorem dX10_goneIn_77 : decode cX10_goneIn 77 = .ok (.getfield 37, 3) := decAll_at aX10_goneIn_0 45 rfl
theorem dX10_goneIn_80 : decode cX10_goneIn 80 = .ok (.iload 6, 2) := decAll_at aX10_goneIn_0 46 rfl
theorem dX10_goneIn_82 : decode cX10_goneIn 82 = .ok (.iaload, 1) := decAll_at aX10_goneIn_0 47 rfl
theorem dX10_goneIn_83 : decode cX10_goneIn 83 = .ok (.imul, 1) := decAll_at aX10_goneIn_0 48 rfl
theorem dX10_goneIn_84 : decode cX10_goneIn 84 = .ok (.iadd, 1) := decAll_at aX10_goneIn_0 49 rfl
theorem dX10_goneIn_85 : decode cX10_goneIn 85 = .ok (.istore 4, 2) := decAll_at aX10_goneIn_0 50 rfl
theorem dX10_goneIn_87 : decode cX10_goneIn 87 = .ok (.goto 46, 3) := decAll_at aX10_goneIn_0 51 rfl
theorem dX10_goneIn_90 : decode cX10_goneIn 90 = .ok (.iload 7, 2) := decAll_at aX10_goneIn_0 52 rfl
theorem dX10_goneIn_92 : decode cX10_goneIn 92 = .ok (.iload_n 3, 1) := decAll_at aX10_goneIn_0 53 rfl
theorem dX10_goneIn_93 : decode cX10_goneIn 93 = .ok (.imul, 1) := decAll_at aX10_goneIn_0 54 rfl
theorem dX10_goneIn_94 : decode cX10_goneIn 94 = .ok (.bipush 60, 2) := decAll_at aX10_goneIn_0 55 rfl
theorem dX10_goneIn_96 : decode cX10_goneIn 96 = .ok (.idiv, 1) := decAll_at aX10_goneIn_0 56 rfl
theorem dX10_goneIn_97 : decode cX10_goneIn 97 = .ok (.istore 9, 2) := decAll_at aX10_goneIn_0 57 rfl
theorem dX10_goneIn_99 : decode cX10_goneIn 99 = .ok (.iload 4, 2) := decAll_at aX10_goneIn_0 58 rfl
theorem dX10_goneIn_101 : decode cX10_goneIn 101 = .ok (.iload 9, 2) := decAll_at aX10_goneIn_0 59 rfl
theorem dX10_goneIn_103 : decode cX10_goneIn 103 = .ok (.bipush 10, 2) := decAll_at aX10_goneIn_0 60 rfl
theorem dX10_goneIn_105 : decode cX10_goneIn 105 = .ok (.aload_n 0, 1) := decAll_at aX10_goneIn_0 61 rfl
theorem dX10_goneIn_106 : decode cX10_goneIn 106 = .ok (.getfield 37, 3) := decAll_at aX10_goneIn_0 62 rfl
theorem dX10_goneIn_109 : decode cX10_goneIn 109 = .ok (.iload 6, 2) := decAll_at aX10_goneIn_0 63 rfl
def laX10_goneIn_1 : List (Nat × Instr × Nat) := [(111, .iaload, 1), (112, .imul, 1), (113, .if_icmp .ge 8, 3), (116, .iload 9, 2), (118, .goto 13, 3), (121, .bipush 10, 2), (123, .aload_n 0, 1), (124, .getfield 37, 3), (127, .iload 6, 2), (129, .iaload, 1), (130, .imul, 1), (131, .iadd, 1), (132, .ireturn, 1), (133, .iinc 5 1, 3), (136, .goto (-128), 3), (139, .iload 4, 2), (141, .ireturn, 1)]
theorem aX10_goneIn_1 : decAll cX10_goneIn laX10_goneIn_1 = true := by decide +kernel
theorem dX10_goneIn_111 : decode cX10_goneIn 111 = .ok (.iaload, 1) := decAll_at aX10_goneIn_1 0 rfl
theorem dX10_goneIn_112 : decode cX10_goneIn 112 = .ok (.imul, 1) := decAll_at aX10_goneIn_1 1 rfl
theorem dX10_goneIn_113 : decode cX10_goneIn 113 = .ok (.if_icmp .ge 8, 3) := decAll_at aX10_goneIn_1 2 rfl
theorem dX10_goneIn_116 : decode cX10_goneIn 116 = .ok (.iload 9, 2) := decAll_at aX10_goneIn_1 3 rfl
theorem dX10_goneIn_118 : decode cX10_goneIn 118 = .ok (.goto 13, 3) := decAll_at aX10_goneIn_1 4 rfl
theorem dX10_goneIn_121 : decode cX10_goneIn 121 = .ok (.bipush 10, 2) := decAll_at aX10_goneIn_1 5 rfl
theorem dX10_goneIn_123 : decode cX10_goneIn 123 = .ok (.aload_n 0, 1) := decAll_at aX10_goneIn_1 6 rfl
theorem dX10_goneIn_124 : decode cX10_goneIn 124 = .ok (.getfield 37, 3) := decAll_at aX10_goneIn_1 7 rfl
theorem dX10_goneIn_127 : decode cX10_goneIn 127 = .ok (.iload 6, 2) := decAll_at aX10_goneIn_1 8 rfl
theorem dX10_goneIn_129 : decode cX10_goneIn 129 = .ok (.iaload, 1) := decAll_at aX10_goneIn_1 9 rfl
theorem dX10_goneIn_130 : decode cX10_goneIn 130 = .ok (.imul, 1) := decAll_at aX10_goneIn_1 10 rfl
theorem dX10_goneIn_131 : decode cX10_goneIn 131 = .ok (.iadd, 1) := decAll_at aX10_goneIn_1 11 rfl
theorem dX10_goneIn_132 : decode cX10_goneIn 132 = .ok (.ireturn, 1) := decAll_at aX10_goneIn_1 12 rfl
theorem dX10_goneIn_133 : decode cX10_goneIn 133 = .ok (.iinc 5 1, 3) := decAll_at aX10_goneIn_1 13 rfl
theorem dX10_goneIn_136 : decode cX10_goneIn 136 = .ok (.goto (-128), 3) := decAll_at aX10_goneIn_1 14 rfl
theorem dX10_goneIn_139 : decode cX10_goneIn 139 = .ok (.iload 4, 2) := decAll_at aX10_goneIn_1 15 rfl
theorem dX10_goneIn_141 : decode cX10_goneIn 141 = .ok (.ireturn, 1) := decAll_at aX10_goneIn_1 16 rfl
def laX10_bands_0 : List (Nat × Instr × Nat) := [(0, .aload_n 0, 1), (1, .getfield 160, 3), (4, .ifCond .eq 47, 3), (7, .iload_n 1, 1), (8, .i2l, 1), (9, .lconst 1, 1), (10, .aload_n 0, 1), (11, .invokevirtual 414, 3), (14, .i2l, 1), (15, .invokestatic 153, 3), (18, .ifCond .eq 33, 3), (21, .iload_n 2, 1), (22, .i2l, 1), (23, .lconst 1, 1), (24, .aload_n 0, 1), (25, .invokevirtual 414, 3), (28, .i2l, 1), (29, .invokestatic 153, 3), (32, .ifCond .eq 19, 3), (35, .iload_n 1, 1), (36, .iload_n 2, 1), (37, .iand, 1), (38, .ifCond .ne 13, 3), (41, .iload_n 3, 1), (42, .i2l, 1), (43, .lconst 0, 1), (44, .lconst 1, 1), (45, .invokestatic 153, 3), (48, .ifCond .ne 5, 3), (51, .iconst (-1), 1), (52, .ireturn, 1), (53, .iconst 0, 1), (54, .istore 4, 2), (56, .iconst 0, 1), (57, .istore 5, 2), (59, .iload 5, 2), (61, .aload_n 0, 1), (62, .getfield 160, 3), (65, .if_icmp .ge 83, 3), (68, .aload_n 0, 1), (69, .getfield 147, 3), (72, .iload 5, 2), (74, .aload_n 0, 1), (75, .iload_n 1, 1), (76, .iload 5, 2), (78, .iconst 0, 1), (79, .invokevirtual 522, 3), (82, .iastore, 1), (83, .aload_n 0, 1), (84, .getfield 147, 3), (87, .bipush 10, 2), (89, .iload 5, 2), (91, .iadd, 1), (92, .aload_n 0, 1), (93, .iload_n 2, 1), (94, .iload 5, 2), (96, .iconst 1, 1), (97, .invokevirtual 522, 3), (100, .iastore, 1), (101, .aload_n 0, 1), (102, .getfield 147, 3), (105, .iload 5, 2), (107, .iaload, 1), (108, .ifCond .eq 16, 3)]
theorem aX10_bands_0 : decAll cX10_bands laX10_bands_0 = true := by decide +kernel
theorem dX10_bands_0 : decode cX10_bands 0 = .ok (.aload_n 0, 1) := decAll_at aX10_bands_0 0 rfl
theorem dX10_bands_1 : decode cX10_bands 1 = .ok (.getfield 160, 3) := decAll_at aX10_bands_0 1 rfl
theorem dX10_bands_4 : decode cX10_bands 4 = .ok (.ifCond .eq 47, 3) := decAll_at aX10_bands_0 2 rfl
theorem dX10_bands_7 : decode cX10_bands 7 = .ok (.iload_n 1, 1) := decAll_at aX10_bands_0 3 rfl
theorem dX10_bands_8 : decode cX10_bands 8 = .ok (.i2l, 1) := decAll_at aX10_bands_0 4 rfl
theorem dX10_bands_9 : decode cX10_bands 9 = .ok (.lconst 1, 1) := decAll_at aX10_bands_0 5 rfl
theorem dX10_bands_10 : decode cX10_bands 10 = .ok (.aload_n 0, 1) := decAll_at aX10_bands_0 6 rfl
theorem dX10_bands_11 : decode cX10_bands 11 = .ok (.invokevirtual 414, 3) := decAll_at aX10_bands_0 7 rfl
theorem dX10_bands_14 : decode cX10_bands 14 = .ok (.i2l, 1) := decAll_at aX10_bands_0 8 rfl
theorem dX10_bands_15 : decode cX10_bands 15 = .ok (.invokestatic 153, 3) := decAll_at aX10_bands_0 9 rfl
theorem dX10_bands_18 : decode cX10_bands 18 = .ok (.ifCond .eq 33, 3) := decAll_at aX10_bands_0 10 rfl
theorem dX10_bands_21 : decode cX10_bands 21 = .ok (.iload_n 2, 1) := decAll_at aX10_bands_0 11 rfl
theorem dX10_bands_22 : decode cX10_bands 22 = .ok (.i2l, 1) := decAll_at aX10_bands_0 12 rfl
theorem dX10_bands_23 : decode cX10_bands 23 = .ok (.lconst 1, 1) := decAll_at aX10_bands_0 13 rfl
theorem dX10_bands_24 : decode cX10_bands 24 = .ok (.aload_n 0, 1) := decAll_at aX10_bands_0 14 rfl
theorem dX10_bands_25 : decode cX10_bands 25 = .ok (.invokevirtual 414, 3) := decAll_at aX10_bands_0 15 rfl
theorem dX10_bands_28 : decode cX10_bands 28 = .ok (.i2l, 1) := decAll_at aX10_bands_0 16 rfl
theorem dX10_bands_29 : decode cX10_bands 29 = .ok (.invokestatic 153, 3) := decAll_at aX10_bands_0 17 rfl
theorem dX10_bands_32 : decode cX10_bands 32 = .ok (.ifCond .eq 19, 3) := decAll_at aX10_bands_0 18 rfl
theorem dX10_bands_35 : decode cX10_bands 35 = .ok (.iload_n 1, 1) := decAll_at aX10_bands_0 19 rfl
theorem dX10_bands_36 : decode cX10_bands 36 = .ok (.iload_n 2, 1) := decAll_at aX10_bands_0 20 rfl
theorem dX10_bands_37 : decode cX10_bands 37 = .ok (.iand, 1) := decAll_at aX10_bands_0 21 rfl
theorem dX10_bands_38 : decode cX10_bands 38 = .ok (.ifCond .ne 13, 3) := decAll_at aX10_bands_0 22 rfl
theorem dX10_bands_41 : decode cX10_bands 41 = .ok (.iload_n 3, 1) := decAll_at aX10_bands_0 23 rfl
theorem dX10_bands_42 : decode cX10_bands 42 = .ok (.i2l, 1) := decAll_at aX10_bands_0 24 rfl
theorem dX10_bands_43 : decode cX10_bands 43 = .ok (.lconst 0, 1) := decAll_at aX10_bands_0 25 rfl
theorem dX10_bands_44 : decode cX10_bands 44 = .ok (.lconst 1, 1) := decAll_at aX10_bands_0 26 rfl
theorem dX10_bands_45 : decode cX10_bands 45 = .ok (.invokestatic 153, 3) := decAll_at aX10_bands_0 27 rfl
theorem dX10_bands_48 : decode cX10_bands 48 = .ok (.ifCond .ne 5, 3) := decAll_at aX10_bands_0 28 rfl
theorem dX10_bands_51 : decode cX10_bands 51 = .ok (.iconst (-1), 1) := decAll_at aX10_bands_0 29 rfl
theorem dX10_bands_52 : decode cX10_bands 52 = .ok (.ireturn, 1) := decAll_at aX10_bands_0 30 rfl
theorem dX10_bands_53 : decode cX10_bands 53 = .ok (.iconst 0, 1) := decAll_at aX10_bands_0 31 rfl
theorem dX10_bands_54 : decode cX10_bands 54 = .ok (.istore 4, 2) := decAll_at aX10_bands_0 32 rfl
theorem dX10_bands_56 : decode cX10_bands 56 = .ok (.iconst 0, 1) := decAll_at aX10_bands_0 33 rfl
theorem dX10_bands_57 : decode cX10_bands 57 = .ok (.istore 5, 2) := decAll_at aX10_bands_0 34 rfl
theorem dX10_bands_59 : decode cX10_bands 59 = .ok (.iload 5, 2) := decAll_at aX10_bands_0 35 rfl
theorem dX10_bands_61 : decode cX10_bands 61 = .ok (.aload_n 0, 1) := decAll_at aX10_bands_0 36 rfl
theorem dX10_bands_62 : decode cX10_bands 62 = .ok (.getfield 160, 3) := decAll_at aX10_bands_0 37 rfl
theorem dX10_bands_65 : decode cX10_bands 65 = .ok (.if_icmp .ge 83, 3) := decAll_at aX10_bands_0 38 rfl
theorem dX10_bands_68 : decode cX10_bands 68 = .ok (.aload_n 0, 1) := decAll_at aX10_bands_0 39 rfl
theorem dX10_bands_69 : decode cX10_bands 69 = .ok (.getfield 147, 3) := decAll_at aX10_bands_0 40 rfl
theorem dX10_bands_72 : decode cX10_bands 72 = .ok (.iload 5, 2) := decAll_at aX10_bands_0 41 rfl
theorem dX10_bands_74 : decode cX10_bands 74 = .ok (.aload_n 0, 1) := decAll_at aX10_bands_0 42 rfl
theorem dX10_bands_75 : decode cX10_bands 75 = .ok (.iload_n 1, 1) := decAll_at aX10_bands_0 43 rfl
theorem dX10_bands_76 : decode cX10_bands 76 = .ok (.iload 5, 2) := decAll_at aX10_bands_0 44 rfl
theorem dX10_bands_78 : decode cX10_bands 78 = .ok (.iconst 0, 1) := decAll_at aX10_bands_0 45 rfl
theorem dX10_bands_79 : decode cX10_bands 79 = .ok (.invokevirtual 522, 3) := decAll_at aX10_bands_0 46 rfl
theorem dX10_bands_82 : decode cX10_bands 82 = .ok (.iastore, 1) := decAll_at aX10_bands_0 47 rfl
theorem dX10_bands_83 : decode cX10_bands 83 = .ok (.aload_n 0, 1) := decAll_at aX10_bands_0 48 rfl
theorem dX10_bands_84 : decode cX10_bands 84 = .ok (.getfield 147, 3) := decAll_at aX10_bands_0 49 rfl
theorem dX10_bands_87 : decode cX10_bands 87 = .ok (.bipush 10, 2) := decAll_at aX10_bands_0 50 rfl
theorem dX10_bands_89 : decode cX10_bands 89 = .ok (.iload 5, 2) := decAll_at aX10_bands_0 51 rfl
theorem dX10_bands_91 : decode cX10_bands 91 = .ok (.iadd, 1) := decAll_at aX10_bands_0 52 rfl
theorem dX10_bands_92 : decode cX10_bands 92 = .ok (.aload_n 0, 1) := decAll_at aX10_bands_0 53 rfl
theorem dX10_bands_93 : decode cX10_bands 93 = .ok (.iload_n 2, 1) := decAll_at aX10_bands_0 54 rfl
theorem dX10_bands_94 : decode cX10_bands 94 = .ok (.iload 5, 2) := decAll_at aX10_bands_0 55 rfl
theorem dX10_bands_96 : decode cX10_bands 96 = .ok (.iconst 1, 1) := decAll_at aX10_bands_0 56 rfl
theorem dX10_bands_97 : decode cX10_bands 97 = .ok (.invokevirtual 522, 3) := decAll_at aX10_bands_0 57 rfl
theorem dX10_bands_100 : decode cX10_bands 100 = .ok (.iastore, 1) := decAll_at aX10_bands_0 58 rfl
theorem dX10_bands_101 : decode cX10_bands 101 = .ok (.aload_n 0, 1) := decAll_at aX10_bands_0 59 rfl
theorem dX10_bands_102 : decode cX10_bands 102 = .ok (.getfield 147, 3) := decAll_at aX10_bands_0 60 rfl
theorem dX10_bands_105 : decode cX10_bands 105 = .ok (.iload 5, 2) := decAll_at aX10_bands_0 61 rfl
theorem dX10_bands_107 : decode cX10_bands 107 = .ok (.iaload, 1) := decAll_at aX10_bands_0 62 rfl
theorem dX10_bands_108 : decode cX10_bands 108 = .ok (.ifCond .eq 16, 3) := decAll_at aX10_bands_0 63 rfl
def laX10_bands_1 : List (Nat × Instr × Nat) := [(111, .aload_n 0, 1), (112, .getfield 147, 3), (115, .bipush 10, 2), (117, .iload 5, 2), (119, .iadd, 1), (120, .iaload, 1), (121, .ifCond .ne 6, 3), (124, .bipush (-2), 2), (126, .ireturn, 1), (127, .iload 4, 2), (129, .bipush 10, 2), (131, .aload_n 0, 1), (132, .getfield 37, 3), (135, .iload 5, 2), (137, .iaload, 1), (138, .imul, 1), (139, .iadd, 1), (140, .istore 4, 2), (142, .iinc 5 1, 3), (145, .goto (-86), 3), (148, .iconst 0, 1), (149, .istore 5, 2), (151, .aload_n 0, 1), (152, .iconst 0, 1), (153, .iload 5, 2), (155, .invokevirtual 526, 3), (158, .aload_n 0, 1), (159, .iconst 1, 1), (160, .iload 5, 2), (162, .invokevirtual 526, 3), (165, .iadd, 1), (166, .iload 4, 2), (168, .if_icmp .ge 9, 3), (171, .iinc 5 1, 3), (174, .goto (-23), 3), (177, .iload_n 3, 1), (178, .ifCond .ne 8, 3), (181, .iload 5, 2), (183, .goto 10, 3), (186, .aload_n 0, 1), (187, .iconst 0, 1), (188, .iload 5, 2), (190, .invokevirtual 526, 3), (193, .ireturn, 1)]
theorem aX10_bands_1 : decAll cX10_bands laX10_bands_1 = true := by decide +kernel
theorem dX10_bands_111 : decode cX10_bands 111 = .ok (.aload_n 0, 1) := decAll_at aX10_bands_1 0 rfl
theorem dX10_bands_112 : decode cX10_bands 112 = .ok (.getfield 147, 3) := decAll_at aX10_bands_1 1 rfl
theorem dX10_bands_115 : decode cX10_bands 115 = .ok (.bipush 10, 2) := decAll_at aX10_bands_1 2 rfl
theorem dX10_bands_117 : decode cX10_bands 117 = .ok (.iload 5, 2) := decAll_at aX10_bands_1 3 rfl
theorem dX10_bands_119 : decode cX10_bands 119 = .ok (.iadd, 1) := decAll_at aX10_bands_1 4 rfl
theorem dX10_bands_120 : decode cX10_bands 120 = .ok (.iaload, 1) := decAll_at aX10_bands_1 5 rfl
theorem dX10_bands_121 : decode cX10_bands 121 = .ok (.ifCond .ne 6, 3) := decAll_at aX10_bands_1 6 rfl
theorem dX10_bands_124 : decode cX10_bands 124 = .ok (.bipush (-2), 2) := decAll_at aX10_bands_1 7 rfl
theorem dX10_bands_126 : decode cX10_bands 126 = .ok (.ireturn, 1) := decAll_at aX10_bands_1 8 rfl
theorem dX10_bands_127 : decode cX10_bands 127 = .ok (.iload 4, 2) := decAll_at aX10_bands_1 9 rfl
theorem dX10_bands_129 : decode cX10_bands 129 = .ok (.bipush 10, 2) := decAll_at aX10_bands_1 10 rfl
theorem dX10_bands_131 : decode cX10_bands 131 = .ok (.aload_n 0, 1) := decAll_at aX10_bands_1 11 rfl
theorem dX10_bands_132 : decode cX10_bands 132 = .ok (.getfield 37, 3) := decAll_at aX10_bands_1 12 rfl
theorem dX10_bands_135 : decode cX10_bands 135 = .ok (.iload 5, 2) := decAll_at aX10_bands_1 13 rfl
theorem dX10_bands_137 : decode cX10_bands 137 = .ok (.iaload, 1) := decAll_at aX10_bands_1 14 rfl
theorem dX10_bands_138 : decode cX10_bands 138 = .ok (.imul, 1) := decAll_at aX10_bands_1 15 rfl
theorem dX10_bands_139 : decode cX10_bands 139 = .ok (.iadd, 1) := decAll_at aX10_bands_1 16 rfl
theorem dX10_bands_140 : decode cX10_bands 140 = .ok (.istore 4, 2) := decAll_at aX10_bands_1 17 rfl
theorem dX10_bands_142 : decode cX10_bands 142 = .ok (.iinc 5 1, 3) := decAll_at aX10_bands_1 18 rfl
theorem dX10_bands_145 : decode cX10_bands 145 = .ok (.goto (-86), 3) := decAll_at aX10_bands_1 19 rfl
theorem dX10_bands_148 : decode cX10_bands 148 = .ok (.iconst 0, 1) := decAll_at aX10_bands_1 20 rfl
theorem dX10_bands_149 : decode cX10_bands 149 = .ok (.istore 5, 2) := decAll_at aX10_bands_1 21 rfl
theorem dX10_bands_151 : decode cX10_bands 151 = .ok (.aload_n 0, 1) := decAll_at aX10_bands_1 22 rfl
theorem dX10_bands_152 : decode cX10_bands 152 = .ok (.iconst 0, 1) := decAll_at aX10_bands_1 23 rfl
theorem dX10_bands_153 : decode cX10_bands 153 = .ok (.iload 5, 2) := decAll_at aX10_bands_1 24 rfl
theorem dX10_bands_155 : decode cX10_bands 155 = .ok (.invokevirtual 526, 3) := decAll_at aX10_bands_1 25 rfl
theorem dX10_bands_158 : decode cX10_bands 158 = .ok (.aload_n 0, 1) := decAll_at aX10_bands_1 26 rfl
theorem dX10_bands_159 : decode cX10_bands 159 = .ok (.iconst 1, 1) := decAll_at aX10_bands_1 27 rfl
theorem dX10_bands_160 : decode cX10_bands 160 = .ok (.iload 5, 2) := decAll_at aX10_bands_1 28 rfl
theorem dX10_bands_162 : decode cX10_bands 162 = .ok (.invokevirtual 526, 3) := decAll_at aX10_bands_1 29 rfl
theorem dX10_bands_165 : decode cX10_bands 165 = .ok (.iadd, 1) := decAll_at aX10_bands_1 30 rfl
theorem dX10_bands_166 : decode cX10_bands 166 = .ok (.iload 4, 2) := decAll_at aX10_bands_1 31 rfl
theorem dX10_bands_168 : decode cX10_bands 168 = .ok (.if_icmp .ge 9, 3) := decAll_at aX10_bands_1 32 rfl
theorem dX10_bands_171 : decode cX10_bands 171 = .ok (.iinc 5 1, 3) := decAll_at aX10_bands_1 33 rfl
theorem dX10_bands_174 : decode cX10_bands 174 = .ok (.goto (-23), 3) := decAll_at aX10_bands_1 34 rfl
theorem dX10_bands_177 : decode cX10_bands 177 = .ok (.iload_n 3, 1) := decAll_at aX10_bands_1 35 rfl
theorem dX10_bands_178 : decode cX10_bands 178 = .ok (.ifCond .ne 8, 3) := decAll_at aX10_bands_1 36 rfl
theorem dX10_bands_181 : decode cX10_bands 181 = .ok (.iload 5, 2) := decAll_at aX10_bands_1 37 rfl
theorem dX10_bands_183 : decode cX10_bands 183 = .ok (.goto 10, 3) := decAll_at aX10_bands_1 38 rfl
theorem dX10_bands_186 : decode cX10_bands 186 = .ok (.aload_n 0, 1) := decAll_at aX10_bands_1 39 rfl
theorem dX10_bands_187 : decode cX10_bands 187 = .ok (.iconst 0, 1) := decAll_at aX10_bands_1 40 rfl
theorem dX10_bands_188 : decode cX10_bands 188 = .ok (.iload 5, 2) := decAll_at aX10_bands_1 41 rfl
theorem dX10_bands_190 : decode cX10_bands 190 = .ok (.invokevirtual 526, 3) := decAll_at aX10_bands_1 42 rfl
theorem dX10_bands_193 : decode cX10_bands 193 = .ok (.ireturn, 1) := decAll_at aX10_bands_1 43 rfl
def laX10_kettle_0 : List (Nat × Instr × Nat) := [(0, .aload_n 0, 1), (1, .getfield 169, 3), (4, .ifCond .eq 11, 3), (7, .aload_n 0, 1), (8, .iload_n 1, 1), (9, .invokevirtual 411, 3), (12, .ifCond .ne 5, 3), (15, .iconst (-1), 1), (16, .ireturn, 1), (17, .aload_n 0, 1), (18, .invokevirtual 484, 3), (21, .bipush (-2), 2), (23, .istore_n 2, 1), (24, .iconst 0, 1), (25, .istore_n 3, 1), (26, .iconst 0, 1), (27, .istore 4, 2), (29, .iload 4, 2), (31, .aload_n 0, 1), (32, .getfield 150, 3), (35, .if_icmp .ge 86, 3), (38, .iconst 0, 1), (39, .istore 5, 2), (41, .iconst 0, 1), (42, .istore 6, 2), (44, .iload 6, 2), (46, .aload_n 0, 1), (47, .invokevirtual 487, 3), (50, .if_icmp .ge 50, 3), (53, .iload 5, 2), (55, .aload_n 0, 1), (56, .getfield 115, 3), (59, .bipush 9, 2), (61, .aload_n 0, 1), (62, .getfield 118, 3), (65, .iload 6, 2), (67, .iaload, 1), (68, .bipush 6, 2), (70, .irem, 1), (71, .imul, 1), (72, .iload_n 1, 1), (73, .iadd, 1), (74, .iaload, 1), (75, .iload 4, 2), (77, .if_icmp .ne 13, 3), (80, .aload_n 0, 1), (81, .getfield 37, 3), (84, .iload 6, 2), (86, .iaload, 1), (87, .goto 4, 3), (90, .iconst 0, 1), (91, .iadd, 1), (92, .istore 5, 2), (94, .iinc 6 1, 3), (97, .goto (-53), 3), (100, .iload 5, 2), (102, .iload_n 3, 1), (103, .if_icmp .gt 6, 3), (106, .goto 9, 3), (109, .iload 4, 2), (111, .istore_n 2, 1), (112, .iload 5, 2), (114, .istore_n 3, 1), (115, .iinc 4 1, 3)]
theorem aX10_kettle_0 : decAll cX10_kettle laX10_kettle_0 = true := by decide +kernel
theorem dX10_kettle_0 : decode cX10_kettle 0 = .ok (.aload_n 0, 1) := decAll_at aX10_kettle_0 0 rfl
theorem dX10_kettle_1 : decode cX10_kettle 1 = .ok (.getfield 169, 3) := decAll_at aX10_kettle_0 1 rfl
theorem dX10_kettle_4 : decode cX10_kettle 4 = .ok (.ifCond .eq 11, 3) := decAll_at aX10_kettle_0 2 rfl
theorem dX10_kettle_7 : decode cX10_kettle 7 = .ok (.aload_n 0, 1) := decAll_at aX10_kettle_0 3 rfl
theorem dX10_kettle_8 : decode cX10_kettle 8 = .ok (.iload_n 1, 1) := decAll_at aX10_kettle_0 4 rfl
theorem dX10_kettle_9 : decode cX10_kettle 9 = .ok (.invokevirtual 411, 3) := decAll_at aX10_kettle_0 5 rfl
theorem dX10_kettle_12 : decode cX10_kettle 12 = .ok (.ifCond .ne 5, 3) := decAll_at aX10_kettle_0 6 rfl
theorem dX10_kettle_15 : decode cX10_kettle 15 = .ok (.iconst (-1), 1) := decAll_at aX10_kettle_0 7 rfl
theorem dX10_kettle_16 : decode cX10_kettle 16 = .ok (.ireturn, 1) := decAll_at aX10_kettle_0 8 rfl
theorem dX10_kettle_17 : decode cX10_kettle 17 = .ok (.aload_n 0, 1) := decAll_at aX10_kettle_0 9 rfl
theorem dX10_kettle_18 : decode cX10_kettle 18 = .ok (.invokevirtual 484, 3) := decAll_at aX10_kettle_0 10 rfl
theorem dX10_kettle_21 : decode cX10_kettle 21 = .ok (.bipush (-2), 2) := decAll_at aX10_kettle_0 11 rfl
theorem dX10_kettle_23 : decode cX10_kettle 23 = .ok (.istore_n 2, 1) := decAll_at aX10_kettle_0 12 rfl
theorem dX10_kettle_24 : decode cX10_kettle 24 = .ok (.iconst 0, 1) := decAll_at aX10_kettle_0 13 rfl
theorem dX10_kettle_25 : decode cX10_kettle 25 = .ok (.istore_n 3, 1) := decAll_at aX10_kettle_0 14 rfl
theorem dX10_kettle_26 : decode cX10_kettle 26 = .ok (.iconst 0, 1) := decAll_at aX10_kettle_0 15 rfl
theorem dX10_kettle_27 : decode cX10_kettle 27 = .ok (.istore 4, 2) := decAll_at aX10_kettle_0 16 rfl
theorem dX10_kettle_29 : decode cX10_kettle 29 = .ok (.iload 4, 2) := decAll_at aX10_kettle_0 17 rfl
theorem dX10_kettle_31 : decode cX10_kettle 31 = .ok (.aload_n 0, 1) := decAll_at aX10_kettle_0 18 rfl
theorem dX10_kettle_32 : decode cX10_kettle 32 = .ok (.getfield 150, 3) := decAll_at aX10_kettle_0 19 rfl
theorem dX10_kettle_35 : decode cX10_kettle 35 = .ok (.if_icmp .ge 86, 3) := decAll_at aX10_kettle_0 20 rfl
theorem dX10_kettle_38 : decode cX10_kettle 38 = .ok (.iconst 0, 1) := decAll_at aX10_kettle_0 21 rfl
theorem dX10_kettle_39 : decode cX10_kettle 39 = .ok (.istore 5, 2) := decAll_at aX10_kettle_0 22 rfl
theorem dX10_kettle_41 : decode cX10_kettle 41 = .ok (.iconst 0, 1) := decAll_at aX10_kettle_0 23 rfl
theorem dX10_kettle_42 : decode cX10_kettle 42 = .ok (.istore 6, 2) := decAll_at aX10_kettle_0 24 rfl
theorem dX10_kettle_44 : decode cX10_kettle 44 = .ok (.iload 6, 2) := decAll_at aX10_kettle_0 25 rfl
theorem dX10_kettle_46 : decode cX10_kettle 46 = .ok (.aload_n 0, 1) := decAll_at aX10_kettle_0 26 rfl
theorem dX10_kettle_47 : decode cX10_kettle 47 = .ok (.invokevirtual 487, 3) := decAll_at aX10_kettle_0 27 rfl
theorem dX10_kettle_50 : decode cX10_kettle 50 = .ok (.if_icmp .ge 50, 3) := decAll_at aX10_kettle_0 28 rfl
theorem dX10_kettle_53 : decode cX10_kettle 53 = .ok (.iload 5, 2) := decAll_at aX10_kettle_0 29 rfl
theorem dX10_kettle_55 : decode cX10_kettle 55 = .ok (.aload_n 0, 1) := decAll_at aX10_kettle_0 30 rfl
theorem dX10_kettle_56 : decode cX10_kettle 56 = .ok (.getfield 115, 3) := decAll_at aX10_kettle_0 31 rfl
theorem dX10_kettle_59 : decode cX10_kettle 59 = .ok (.bipush 9, 2) := decAll_at aX10_kettle_0 32 rfl
theorem dX10_kettle_61 : decode cX10_kettle 61 = .ok (.aload_n 0, 1) := decAll_at aX10_kettle_0 33 rfl
theorem dX10_kettle_62 : decode cX10_kettle 62 = .ok (.getfield 118, 3) := decAll_at aX10_kettle_0 34 rfl
theorem dX10_kettle_65 : decode cX10_kettle 65 = .ok (.iload 6, 2) := decAll_at aX10_kettle_0 35 rfl
theorem dX10_kettle_67 : decode cX10_kettle 67 = .ok (.iaload, 1) := decAll_at aX10_kettle_0 36 rfl
theorem dX10_kettle_68 : decode cX10_kettle 68 = .ok (.bipush 6, 2) := decAll_at aX10_kettle_0 37 rfl
theorem dX10_kettle_70 : decode cX10_kettle 70 = .ok (.irem, 1) := decAll_at aX10_kettle_0 38 rfl
theorem dX10_kettle_71 : decode cX10_kettle 71 = .ok (.imul, 1) := decAll_at aX10_kettle_0 39 rfl
theorem dX10_kettle_72 : decode cX10_kettle 72 = .ok (.iload_n 1, 1) := decAll_at aX10_kettle_0 40 rfl
theorem dX10_kettle_73 : decode cX10_kettle 73 = .ok (.iadd, 1) := decAll_at aX10_kettle_0 41 rfl
theorem dX10_kettle_74 : decode cX10_kettle 74 = .ok (.iaload, 1) := decAll_at aX10_kettle_0 42 rfl
theorem dX10_kettle_75 : decode cX10_kettle 75 = .ok (.iload 4, 2) := decAll_at aX10_kettle_0 43 rfl
theorem dX10_kettle_77 : decode cX10_kettle 77 = .ok (.if_icmp .ne 13, 3) := decAll_at aX10_kettle_0 44 rfl
theorem dX10_kettle_80 : decode cX10_kettle 80 = .ok (.aload_n 0, 1) := decAll_at aX10_kettle_0 45 rfl
theorem dX10_kettle_81 : decode cX10_kettle 81 = .ok (.getfield 37, 3) := decAll_at aX10_kettle_0 46 rfl
theorem dX10_kettle_84 : decode cX10_kettle 84 = .ok (.iload 6, 2) := decAll_at aX10_kettle_0 47 rfl
theorem dX10_kettle_86 : decode cX10_kettle 86 = .ok (.iaload, 1) := decAll_at aX10_kettle_0 48 rfl
theorem dX10_kettle_87 : decode cX10_kettle 87 = .ok (.goto 4, 3) := decAll_at aX10_kettle_0 49 rfl
theorem dX10_kettle_90 : decode cX10_kettle 90 = .ok (.iconst 0, 1) := decAll_at aX10_kettle_0 50 rfl
theorem dX10_kettle_91 : decode cX10_kettle 91 = .ok (.iadd, 1) := decAll_at aX10_kettle_0 51 rfl
theorem dX10_kettle_92 : decode cX10_kettle 92 = .ok (.istore 5, 2) := decAll_at aX10_kettle_0 52 rfl
theorem dX10_kettle_94 : decode cX10_kettle 94 = .ok (.iinc 6 1, 3) := decAll_at aX10_kettle_0 53 rfl
theorem dX10_kettle_97 : decode cX10_kettle 97 = .ok (.goto (-53), 3) := decAll_at aX10_kettle_0 54 rfl
theorem dX10_kettle_100 : decode cX10_kettle 100 = .ok (.iload 5, 2) := decAll_at aX10_kettle_0 55 rfl
theorem dX10_kettle_102 : decode cX10_kettle 102 = .ok (.iload_n 3, 1) := decAll_at aX10_kettle_0 56 rfl
theorem dX10_kettle_103 : decode cX10_kettle 103 = .ok (.if_icmp .gt 6, 3) := decAll_at aX10_kettle_0 57 rfl
theorem dX10_kettle_106 : decode cX10_kettle 106 = .ok (.goto 9, 3) := decAll_at aX10_kettle_0 58 rfl
theorem dX10_kettle_109 : decode cX10_kettle 109 = .ok (.iload 4, 2) := decAll_at aX10_kettle_0 59 rfl
theorem dX10_kettle_111 : decode cX10_kettle 111 = .ok (.istore_n 2, 1) := decAll_at aX10_kettle_0 60 rfl
theorem dX10_kettle_112 : decode cX10_kettle 112 = .ok (.iload 5, 2) := decAll_at aX10_kettle_0 61 rfl
theorem dX10_kettle_114 : decode cX10_kettle 114 = .ok (.istore_n 3, 1) := decAll_at aX10_kettle_0 62 rfl
theorem dX10_kettle_115 : decode cX10_kettle 115 = .ok (.iinc 4 1, 3) := decAll_at aX10_kettle_0 63 rfl
def laX10_kettle_1 : List (Nat × Instr × Nat) := [(118, .goto (-89), 3), (121, .iload_n 2, 1), (122, .ireturn, 1)]
theorem aX10_kettle_1 : decAll cX10_kettle laX10_kettle_1 = true := by decide +kernel
theorem dX10_kettle_118 : decode cX10_kettle 118 = .ok (.goto (-89), 3) := decAll_at aX10_kettle_1 0 rfl
theorem dX10_kettle_121 : decode cX10_kettle 121 = .ok (.iload_n 2, 1) := decAll_at aX10_kettle_1 1 rfl
theorem dX10_kettle_122 : decode cX10_kettle 122 = .ok (.ireturn, 1) := decAll_at aX10_kettle_1 2 rfl
def laX10_numberAt_0 : List (Nat × Instr × Nat) := [(0, .iconst 0, 1), (1, .istore_n 2, 1), (2, .iconst 0, 1), (3, .istore_n 3, 1), (4, .iload_n 3, 1), (5, .iconst 4, 1), (6, .if_icmp .ge 29, 3), (9, .iload_n 2, 1), (10, .bipush 8, 2), (12, .ishl, 1), (13, .aload_n 0, 1), (14, .getfield 7, 3), (17, .iconst 4, 1), (18, .iload_n 1, 1), (19, .imul, 1), (20, .iload_n 3, 1), (21, .iadd, 1), (22, .baload, 1), (23, .sipush 255, 3), (26, .iand, 1), (27, .ior, 1), (28, .istore_n 2, 1), (29, .iinc 3 1, 3), (32, .goto (-28), 3), (35, .iload_n 2, 1), (36, .ireturn, 1)]
theorem aX10_numberAt_0 : decAll cX10_numberAt laX10_numberAt_0 = true := by decide +kernel
theorem dX10_numberAt_0 : decode cX10_numberAt 0 = .ok (.iconst 0, 1) := decAll_at aX10_numberAt_0 0 rfl
theorem dX10_numberAt_1 : decode cX10_numberAt 1 = .ok (.istore_n 2, 1) := decAll_at aX10_numberAt_0 1 rfl
theorem dX10_numberAt_2 : decode cX10_numberAt 2 = .ok (.iconst 0, 1) := decAll_at aX10_numberAt_0 2 rfl
theorem dX10_numberAt_3 : decode cX10_numberAt 3 = .ok (.istore_n 3, 1) := decAll_at aX10_numberAt_0 3 rfl
theorem dX10_numberAt_4 : decode cX10_numberAt 4 = .ok (.iload_n 3, 1) := decAll_at aX10_numberAt_0 4 rfl
theorem dX10_numberAt_5 : decode cX10_numberAt 5 = .ok (.iconst 4, 1) := decAll_at aX10_numberAt_0 5 rfl
theorem dX10_numberAt_6 : decode cX10_numberAt 6 = .ok (.if_icmp .ge 29, 3) := decAll_at aX10_numberAt_0 6 rfl
theorem dX10_numberAt_9 : decode cX10_numberAt 9 = .ok (.iload_n 2, 1) := decAll_at aX10_numberAt_0 7 rfl
theorem dX10_numberAt_10 : decode cX10_numberAt 10 = .ok (.bipush 8, 2) := decAll_at aX10_numberAt_0 8 rfl
theorem dX10_numberAt_12 : decode cX10_numberAt 12 = .ok (.ishl, 1) := decAll_at aX10_numberAt_0 9 rfl
theorem dX10_numberAt_13 : decode cX10_numberAt 13 = .ok (.aload_n 0, 1) := decAll_at aX10_numberAt_0 10 rfl
theorem dX10_numberAt_14 : decode cX10_numberAt 14 = .ok (.getfield 7, 3) := decAll_at aX10_numberAt_0 11 rfl
theorem dX10_numberAt_17 : decode cX10_numberAt 17 = .ok (.iconst 4, 1) := decAll_at aX10_numberAt_0 12 rfl
theorem dX10_numberAt_18 : decode cX10_numberAt 18 = .ok (.iload_n 1, 1) := decAll_at aX10_numberAt_0 13 rfl
theorem dX10_numberAt_19 : decode cX10_numberAt 19 = .ok (.imul, 1) := decAll_at aX10_numberAt_0 14 rfl
theorem dX10_numberAt_20 : decode cX10_numberAt 20 = .ok (.iload_n 3, 1) := decAll_at aX10_numberAt_0 15 rfl
theorem dX10_numberAt_21 : decode cX10_numberAt 21 = .ok (.iadd, 1) := decAll_at aX10_numberAt_0 16 rfl
theorem dX10_numberAt_22 : decode cX10_numberAt 22 = .ok (.baload, 1) := decAll_at aX10_numberAt_0 17 rfl
theorem dX10_numberAt_23 : decode cX10_numberAt 23 = .ok (.sipush 255, 3) := decAll_at aX10_numberAt_0 18 rfl
theorem dX10_numberAt_26 : decode cX10_numberAt 26 = .ok (.iand, 1) := decAll_at aX10_numberAt_0 19 rfl
theorem dX10_numberAt_27 : decode cX10_numberAt 27 = .ok (.ior, 1) := decAll_at aX10_numberAt_0 20 rfl
theorem dX10_numberAt_28 : decode cX10_numberAt 28 = .ok (.istore_n 2, 1) := decAll_at aX10_numberAt_0 21 rfl
theorem dX10_numberAt_29 : decode cX10_numberAt 29 = .ok (.iinc 3 1, 3) := decAll_at aX10_numberAt_0 22 rfl
theorem dX10_numberAt_32 : decode cX10_numberAt 32 = .ok (.goto (-28), 3) := decAll_at aX10_numberAt_0 23 rfl
theorem dX10_numberAt_35 : decode cX10_numberAt 35 = .ok (.iload_n 2, 1) := decAll_at aX10_numberAt_0 24 rfl
theorem dX10_numberAt_36 : decode cX10_numberAt 36 = .ok (.ireturn, 1) := decAll_at aX10_numberAt_0 25 rfl
def laX10_check_0 : List (Nat × Instr × Nat) := [(0, .aload_n 0, 1), (1, .getfield 169, 3), (4, .ifCond .eq 17, 3), (7, .iload_n 1, 1), (8, .ifCond .lt 13, 3), (11, .iload_n 1, 1), (12, .aload_n 0, 1), (13, .getfield 188, 3), (16, .iconst 4, 1), (17, .idiv, 1), (18, .if_icmp .le 6, 3), (21, .bipush (-2), 2), (23, .ireturn, 1), (24, .aload_n 0, 1), (25, .iconst 0, 1), (26, .putfield 188, 3), (29, .aload_n 0, 1), (30, .invokevirtual 484, 3), (33, .iconst 0, 1), (34, .istore_n 2, 1), (35, .iload_n 2, 1), (36, .aload_n 0, 1), (37, .invokevirtual 487, 3), (40, .if_icmp .ge 32, 3), (43, .iload_n 2, 1), (44, .iload_n 1, 1), (45, .if_icmp .ne 5, 3), (48, .iload_n 1, 1), (49, .ireturn, 1), (50, .aload_n 0, 1), (51, .iload_n 2, 1), (52, .invokevirtual 529, 3), (55, .aload_n 0, 1), (56, .getfield 124, 3), (59, .iload_n 2, 1), (60, .iaload, 1), (61, .if_icmp .eq 5, 3), (64, .iload_n 2, 1), (65, .ireturn, 1), (66, .iinc 2 1, 3), (69, .goto (-34), 3), (72, .iload_n 1, 1), (73, .aload_n 0, 1), (74, .invokevirtual 487, 3), (77, .if_icmp .ne 7, 3), (80, .iconst (-1), 1), (81, .goto 7, 3), (84, .aload_n 0, 1), (85, .invokevirtual 487, 3), (88, .ireturn, 1)]
theorem aX10_check_0 : decAll cX10_check laX10_check_0 = true := by decide +kernel
theorem dX10_check_0 : decode cX10_check 0 = .ok (.aload_n 0, 1) := decAll_at aX10_check_0 0 rfl
theorem dX10_check_1 : decode cX10_check 1 = .ok (.getfield 169, 3) := decAll_at aX10_check_0 1 rfl
theorem dX10_check_4 : decode cX10_check 4 = .ok (.ifCond .eq 17, 3) := decAll_at aX10_check_0 2 rfl
theorem dX10_check_7 : decode cX10_check 7 = .ok (.iload_n 1, 1) := decAll_at aX10_check_0 3 rfl
theorem dX10_check_8 : decode cX10_check 8 = .ok (.ifCond .lt 13, 3) := decAll_at aX10_check_0 4 rfl
theorem dX10_check_11 : decode cX10_check 11 = .ok (.iload_n 1, 1) := decAll_at aX10_check_0 5 rfl
theorem dX10_check_12 : decode cX10_check 12 = .ok (.aload_n 0, 1) := decAll_at aX10_check_0 6 rfl
theorem dX10_check_13 : decode cX10_check 13 = .ok (.getfield 188, 3) := decAll_at aX10_check_0 7 rfl
theorem dX10_check_16 : decode cX10_check 16 = .ok (.iconst 4, 1) := decAll_at aX10_check_0 8 rfl
theorem dX10_check_17 : decode cX10_check 17 = .ok (.idiv, 1) := decAll_at aX10_check_0 9 rfl
theorem dX10_check_18 : decode cX10_check 18 = .ok (.if_icmp .le 6, 3) := decAll_at aX10_check_0 10 rfl
theorem dX10_check_21 : decode cX10_check 21 = .ok (.bipush (-2), 2) := decAll_at aX10_check_0 11 rfl
theorem dX10_check_23 : decode cX10_check 23 = .ok (.ireturn, 1) := decAll_at aX10_check_0 12 rfl
theorem dX10_check_24 : decode cX10_check 24 = .ok (.aload_n 0, 1) := decAll_at aX10_check_0 13 rfl
theorem dX10_check_25 : decode cX10_check 25 = .ok (.iconst 0, 1) := decAll_at aX10_check_0 14 rfl
theorem dX10_check_26 : decode cX10_check 26 = .ok (.putfield 188, 3) := decAll_at aX10_check_0 15 rfl
theorem dX10_check_29 : decode cX10_check 29 = .ok (.aload_n 0, 1) := decAll_at aX10_check_0 16 rfl
theorem dX10_check_30 : decode cX10_check 30 = .ok (.invokevirtual 484, 3) := decAll_at aX10_check_0 17 rfl
theorem dX10_check_33 : decode cX10_check 33 = .ok (.iconst 0, 1) := decAll_at aX10_check_0 18 rfl
theorem dX10_check_34 : decode cX10_check 34 = .ok (.istore_n 2, 1) := decAll_at aX10_check_0 19 rfl
theorem dX10_check_35 : decode cX10_check 35 = .ok (.iload_n 2, 1) := decAll_at aX10_check_0 20 rfl
theorem dX10_check_36 : decode cX10_check 36 = .ok (.aload_n 0, 1) := decAll_at aX10_check_0 21 rfl
theorem dX10_check_37 : decode cX10_check 37 = .ok (.invokevirtual 487, 3) := decAll_at aX10_check_0 22 rfl
theorem dX10_check_40 : decode cX10_check 40 = .ok (.if_icmp .ge 32, 3) := decAll_at aX10_check_0 23 rfl
theorem dX10_check_43 : decode cX10_check 43 = .ok (.iload_n 2, 1) := decAll_at aX10_check_0 24 rfl
theorem dX10_check_44 : decode cX10_check 44 = .ok (.iload_n 1, 1) := decAll_at aX10_check_0 25 rfl
theorem dX10_check_45 : decode cX10_check 45 = .ok (.if_icmp .ne 5, 3) := decAll_at aX10_check_0 26 rfl
theorem dX10_check_48 : decode cX10_check 48 = .ok (.iload_n 1, 1) := decAll_at aX10_check_0 27 rfl
theorem dX10_check_49 : decode cX10_check 49 = .ok (.ireturn, 1) := decAll_at aX10_check_0 28 rfl
theorem dX10_check_50 : decode cX10_check 50 = .ok (.aload_n 0, 1) := decAll_at aX10_check_0 29 rfl
theorem dX10_check_51 : decode cX10_check 51 = .ok (.iload_n 2, 1) := decAll_at aX10_check_0 30 rfl
theorem dX10_check_52 : decode cX10_check 52 = .ok (.invokevirtual 529, 3) := decAll_at aX10_check_0 31 rfl
theorem dX10_check_55 : decode cX10_check 55 = .ok (.aload_n 0, 1) := decAll_at aX10_check_0 32 rfl
theorem dX10_check_56 : decode cX10_check 56 = .ok (.getfield 124, 3) := decAll_at aX10_check_0 33 rfl
theorem dX10_check_59 : decode cX10_check 59 = .ok (.iload_n 2, 1) := decAll_at aX10_check_0 34 rfl
theorem dX10_check_60 : decode cX10_check 60 = .ok (.iaload, 1) := decAll_at aX10_check_0 35 rfl
theorem dX10_check_61 : decode cX10_check 61 = .ok (.if_icmp .eq 5, 3) := decAll_at aX10_check_0 36 rfl
theorem dX10_check_64 : decode cX10_check 64 = .ok (.iload_n 2, 1) := decAll_at aX10_check_0 37 rfl
theorem dX10_check_65 : decode cX10_check 65 = .ok (.ireturn, 1) := decAll_at aX10_check_0 38 rfl
theorem dX10_check_66 : decode cX10_check 66 = .ok (.iinc 2 1, 3) := decAll_at aX10_check_0 39 rfl
theorem dX10_check_69 : decode cX10_check 69 = .ok (.goto (-34), 3) := decAll_at aX10_check_0 40 rfl
theorem dX10_check_72 : decode cX10_check 72 = .ok (.iload_n 1, 1) := decAll_at aX10_check_0 41 rfl
theorem dX10_check_73 : decode cX10_check 73 = .ok (.aload_n 0, 1) := decAll_at aX10_check_0 42 rfl
theorem dX10_check_74 : decode cX10_check 74 = .ok (.invokevirtual 487, 3) := decAll_at aX10_check_0 43 rfl
theorem dX10_check_77 : decode cX10_check 77 = .ok (.if_icmp .ne 7, 3) := decAll_at aX10_check_0 44 rfl
theorem dX10_check_80 : decode cX10_check 80 = .ok (.iconst (-1), 1) := decAll_at aX10_check_0 45 rfl
theorem dX10_check_81 : decode cX10_check 81 = .ok (.goto 7, 3) := decAll_at aX10_check_0 46 rfl
theorem dX10_check_84 : decode cX10_check 84 = .ok (.aload_n 0, 1) := decAll_at aX10_check_0 47 rfl
theorem dX10_check_85 : decode cX10_check 85 = .ok (.invokevirtual 487, 3) := decAll_at aX10_check_0 48 rfl
theorem dX10_check_88 : decode cX10_check 88 = .ok (.ireturn, 1) := decAll_at aX10_check_0 49 rfl
def laX10_count_0 : List (Nat × Instr × Nat) := [(0, .aload_n 0, 1), (1, .iload_n 1, 1), (2, .bipush 10, 2), (4, .isub, 1), (5, .invokevirtual 351, 3), (8, .ifCond .eq 12, 3), (11, .aload_n 0, 1), (12, .iload_n 1, 1), (13, .bipush 10, 2), (15, .isub, 1), (16, .invokevirtual 434, 3), (19, .ireturn, 1), (20, .iload_n 1, 1), (21, .tableswitch 95 0 7 #[47, 52, 57, 62, 67, 72, 77, 82], 47), (68, .aload_n 0, 1), (69, .getfield 150, 3), (72, .ireturn, 1), (73, .aload_n 0, 1), (74, .getfield 157, 3), (77, .ireturn, 1), (78, .aload_n 0, 1), (79, .getfield 160, 3), (82, .ireturn, 1), (83, .aload_n 0, 1), (84, .getfield 301, 3), (87, .ireturn, 1), (88, .aload_n 0, 1), (89, .getfield 188, 3), (92, .ireturn, 1), (93, .aload_n 0, 1), (94, .getfield 13, 3), (97, .ireturn, 1), (98, .aload_n 0, 1), (99, .getfield 179, 3), (102, .ireturn, 1), (103, .aload_n 0, 1), (104, .getfield 169, 3), (107, .ifCond .eq 7, 3), (110, .iconst 1, 1), (111, .goto 4, 3), (114, .iconst 0, 1), (115, .ireturn, 1), (116, .iconst (-1), 1), (117, .ireturn, 1)]
theorem aX10_count_0 : decAll cX10_count laX10_count_0 = true := by decide +kernel
theorem dX10_count_0 : decode cX10_count 0 = .ok (.aload_n 0, 1) := decAll_at aX10_count_0 0 rfl
theorem dX10_count_1 : decode cX10_count 1 = .ok (.iload_n 1, 1) := decAll_at aX10_count_0 1 rfl
theorem dX10_count_2 : decode cX10_count 2 = .ok (.bipush 10, 2) := decAll_at aX10_count_0 2 rfl
theorem dX10_count_4 : decode cX10_count 4 = .ok (.isub, 1) := decAll_at aX10_count_0 3 rfl
theorem dX10_count_5 : decode cX10_count 5 = .ok (.invokevirtual 351, 3) := decAll_at aX10_count_0 4 rfl
theorem dX10_count_8 : decode cX10_count 8 = .ok (.ifCond .eq 12, 3) := decAll_at aX10_count_0 5 rfl
theorem dX10_count_11 : decode cX10_count 11 = .ok (.aload_n 0, 1) := decAll_at aX10_count_0 6 rfl
theorem dX10_count_12 : decode cX10_count 12 = .ok (.iload_n 1, 1) := decAll_at aX10_count_0 7 rfl
theorem dX10_count_13 : decode cX10_count 13 = .ok (.bipush 10, 2) := decAll_at aX10_count_0 8 rfl
theorem dX10_count_15 : decode cX10_count 15 = .ok (.isub, 1) := decAll_at aX10_count_0 9 rfl
theorem dX10_count_16 : decode cX10_count 16 = .ok (.invokevirtual 434, 3) := decAll_at aX10_count_0 10 rfl
theorem dX10_count_19 : decode cX10_count 19 = .ok (.ireturn, 1) := decAll_at aX10_count_0 11 rfl
theorem dX10_count_20 : decode cX10_count 20 = .ok (.iload_n 1, 1) := decAll_at aX10_count_0 12 rfl
theorem dX10_count_21 : decode cX10_count 21 = .ok (.tableswitch 95 0 7 #[47, 52, 57, 62, 67, 72, 77, 82], 47) := decAll_at aX10_count_0 13 rfl
theorem dX10_count_68 : decode cX10_count 68 = .ok (.aload_n 0, 1) := decAll_at aX10_count_0 14 rfl
theorem dX10_count_69 : decode cX10_count 69 = .ok (.getfield 150, 3) := decAll_at aX10_count_0 15 rfl
theorem dX10_count_72 : decode cX10_count 72 = .ok (.ireturn, 1) := decAll_at aX10_count_0 16 rfl
theorem dX10_count_73 : decode cX10_count 73 = .ok (.aload_n 0, 1) := decAll_at aX10_count_0 17 rfl
theorem dX10_count_74 : decode cX10_count 74 = .ok (.getfield 157, 3) := decAll_at aX10_count_0 18 rfl
theorem dX10_count_77 : decode cX10_count 77 = .ok (.ireturn, 1) := decAll_at aX10_count_0 19 rfl
theorem dX10_count_78 : decode cX10_count 78 = .ok (.aload_n 0, 1) := decAll_at aX10_count_0 20 rfl
theorem dX10_count_79 : decode cX10_count 79 = .ok (.getfield 160, 3) := decAll_at aX10_count_0 21 rfl
theorem dX10_count_82 : decode cX10_count 82 = .ok (.ireturn, 1) := decAll_at aX10_count_0 22 rfl
theorem dX10_count_83 : decode cX10_count 83 = .ok (.aload_n 0, 1) := decAll_at aX10_count_0 23 rfl
theorem dX10_count_84 : decode cX10_count 84 = .ok (.getfield 301, 3) := decAll_at aX10_count_0 24 rfl
theorem dX10_count_87 : decode cX10_count 87 = .ok (.ireturn, 1) := decAll_at aX10_count_0 25 rfl
theorem dX10_count_88 : decode cX10_count 88 = .ok (.aload_n 0, 1) := decAll_at aX10_count_0 26 rfl
theorem dX10_count_89 : decode cX10_count 89 = .ok (.getfield 188, 3) := decAll_at aX10_count_0 27 rfl
theorem dX10_count_92 : decode cX10_count 92 = .ok (.ireturn, 1) := decAll_at aX10_count_0 28 rfl
theorem dX10_count_93 : decode cX10_count 93 = .ok (.aload_n 0, 1) := decAll_at aX10_count_0 29 rfl
theorem dX10_count_94 : decode cX10_count 94 = .ok (.getfield 13, 3) := decAll_at aX10_count_0 30 rfl
theorem dX10_count_97 : decode cX10_count 97 = .ok (.ireturn, 1) := decAll_at aX10_count_0 31 rfl
theorem dX10_count_98 : decode cX10_count 98 = .ok (.aload_n 0, 1) := decAll_at aX10_count_0 32 rfl
theorem dX10_count_99 : decode cX10_count 99 = .ok (.getfield 179, 3) := decAll_at aX10_count_0 33 rfl
theorem dX10_count_102 : decode cX10_count 102 = .ok (.ireturn, 1) := decAll_at aX10_count_0 34 rfl
theorem dX10_count_103 : decode cX10_count 103 = .ok (.aload_n 0, 1) := decAll_at aX10_count_0 35 rfl
theorem dX10_count_104 : decode cX10_count 104 = .ok (.getfield 169, 3) := decAll_at aX10_count_0 36 rfl
theorem dX10_count_107 : decode cX10_count 107 = .ok (.ifCond .eq 7, 3) := decAll_at aX10_count_0 37 rfl
theorem dX10_count_110 : decode cX10_count 110 = .ok (.iconst 1, 1) := decAll_at aX10_count_0 38 rfl
theorem dX10_count_111 : decode cX10_count 111 = .ok (.goto 4, 3) := decAll_at aX10_count_0 39 rfl
theorem dX10_count_114 : decode cX10_count 114 = .ok (.iconst 0, 1) := decAll_at aX10_count_0 40 rfl
theorem dX10_count_115 : decode cX10_count 115 = .ok (.ireturn, 1) := decAll_at aX10_count_0 41 rfl
theorem dX10_count_116 : decode cX10_count 116 = .ok (.iconst (-1), 1) := decAll_at aX10_count_0 42 rfl
theorem dX10_count_117 : decode cX10_count 117 = .ok (.ireturn, 1) := decAll_at aX10_count_0 43 rfl
def laJ7_fill_d0a16_0 : List (Nat × Instr × Nat) := [(0, .iconst 0, 1), (1, .istore_n 3, 1), (2, .aload_n 0, 1), (3, .arraylength, 1), (4, .istore 4, 2), (6, .iload_n 3, 1), (7, .iload 4, 2), (9, .if_icmp .ge 13, 3), (12, .aload_n 0, 1), (13, .iload_n 3, 1), (14, .lload_n 1, 1), (15, .lastore, 1), (16, .iinc 3 1, 3), (19, .goto (-13), 3), (22, .return_, 1)]
theorem aJ7_fill_d0a16_0 : decAll cJ7_fill_d0a16 laJ7_fill_d0a16_0 = true := by decide +kernel
theorem dJ7_fill_d0a16_0 : decode cJ7_fill_d0a16 0 = .ok (.iconst 0, 1) := decAll_at aJ7_fill_d0a16_0 0 rfl
theorem dJ7_fill_d0a16_1 : decode cJ7_fill_d0a16 1 = .ok (.istore_n 3, 1) := decAll_at aJ7_fill_d0a16_0 1 rfl
theorem dJ7_fill_d0a16_2 : decode cJ7_fill_d0a16 2 = .ok (.aload_n 0, 1) := decAll_at aJ7_fill_d0a16_0 2 rfl
theorem dJ7_fill_d0a16_3 : decode cJ7_fill_d0a16 3 = .ok (.arraylength, 1) := decAll_at aJ7_fill_d0a16_0 3 rfl
theorem dJ7_fill_d0a16_4 : decode cJ7_fill_d0a16 4 = .ok (.istore 4, 2) := decAll_at aJ7_fill_d0a16_0 4 rfl
theorem dJ7_fill_d0a16_6 : decode cJ7_fill_d0a16 6 = .ok (.iload_n 3, 1) := decAll_at aJ7_fill_d0a16_0 5 rfl
theorem dJ7_fill_d0a16_7 : decode cJ7_fill_d0a16 7 = .ok (.iload 4, 2) := decAll_at aJ7_fill_d0a16_0 6 rfl
theorem dJ7_fill_d0a16_9 : decode cJ7_fill_d0a16 9 = .ok (.if_icmp .ge 13, 3) := decAll_at aJ7_fill_d0a16_0 7 rfl
theorem dJ7_fill_d0a16_12 : decode cJ7_fill_d0a16 12 = .ok (.aload_n 0, 1) := decAll_at aJ7_fill_d0a16_0 8 rfl
theorem dJ7_fill_d0a16_13 : decode cJ7_fill_d0a16 13 = .ok (.iload_n 3, 1) := decAll_at aJ7_fill_d0a16_0 9 rfl
theorem dJ7_fill_d0a16_14 : decode cJ7_fill_d0a16 14 = .ok (.lload_n 1, 1) := decAll_at aJ7_fill_d0a16_0 10 rfl
theorem dJ7_fill_d0a16_15 : decode cJ7_fill_d0a16 15 = .ok (.lastore, 1) := decAll_at aJ7_fill_d0a16_0 11 rfl
theorem dJ7_fill_d0a16_16 : decode cJ7_fill_d0a16 16 = .ok (.iinc 3 1, 3) := decAll_at aJ7_fill_d0a16_0 12 rfl
theorem dJ7_fill_d0a16_19 : decode cJ7_fill_d0a16 19 = .ok (.goto (-13), 3) := decAll_at aJ7_fill_d0a16_0 13 rfl
theorem dJ7_fill_d0a16_22 : decode cJ7_fill_d0a16 22 = .ok (.return_, 1) := decAll_at aJ7_fill_d0a16_0 14 rfl
def laJ7_fill_53178_0 : List (Nat × Instr × Nat) := [(0, .iconst 0, 1), (1, .istore_n 2, 1), (2, .aload_n 0, 1), (3, .arraylength, 1), (4, .istore_n 3, 1), (5, .iload_n 2, 1), (6, .iload_n 3, 1), (7, .if_icmp .ge 13, 3), (10, .aload_n 0, 1), (11, .iload_n 2, 1), (12, .iload_n 1, 1), (13, .iastore, 1), (14, .iinc 2 1, 3), (17, .goto (-12), 3), (20, .return_, 1)]
theorem aJ7_fill_53178_0 : decAll cJ7_fill_53178 laJ7_fill_53178_0 = true := by decide +kernel
theorem dJ7_fill_53178_0 : decode cJ7_fill_53178 0 = .ok (.iconst 0, 1) := decAll_at aJ7_fill_53178_0 0 rfl
theorem dJ7_fill_53178_1 : decode cJ7_fill_53178 1 = .ok (.istore_n 2, 1) := decAll_at aJ7_fill_53178_0 1 rfl
theorem dJ7_fill_53178_2 : decode cJ7_fill_53178 2 = .ok (.aload_n 0, 1) := decAll_at aJ7_fill_53178_0 2 rfl
theorem dJ7_fill_53178_3 : decode cJ7_fill_53178 3 = .ok (.arraylength, 1) := decAll_at aJ7_fill_53178_0 3 rfl
theorem dJ7_fill_53178_4 : decode cJ7_fill_53178 4 = .ok (.istore_n 3, 1) := decAll_at aJ7_fill_53178_0 4 rfl
theorem dJ7_fill_53178_5 : decode cJ7_fill_53178 5 = .ok (.iload_n 2, 1) := decAll_at aJ7_fill_53178_0 5 rfl
theorem dJ7_fill_53178_6 : decode cJ7_fill_53178 6 = .ok (.iload_n 3, 1) := decAll_at aJ7_fill_53178_0 6 rfl
theorem dJ7_fill_53178_7 : decode cJ7_fill_53178 7 = .ok (.if_icmp .ge 13, 3) := decAll_at aJ7_fill_53178_0 7 rfl
theorem dJ7_fill_53178_10 : decode cJ7_fill_53178 10 = .ok (.aload_n 0, 1) := decAll_at aJ7_fill_53178_0 8 rfl
theorem dJ7_fill_53178_11 : decode cJ7_fill_53178 11 = .ok (.iload_n 2, 1) := decAll_at aJ7_fill_53178_0 9 rfl
theorem dJ7_fill_53178_12 : decode cJ7_fill_53178 12 = .ok (.iload_n 1, 1) := decAll_at aJ7_fill_53178_0 10 rfl
theorem dJ7_fill_53178_13 : decode cJ7_fill_53178 13 = .ok (.iastore, 1) := decAll_at aJ7_fill_53178_0 11 rfl
theorem dJ7_fill_53178_14 : decode cJ7_fill_53178 14 = .ok (.iinc 2 1, 3) := decAll_at aJ7_fill_53178_0 12 rfl
theorem dJ7_fill_53178_17 : decode cJ7_fill_53178 17 = .ok (.goto (-12), 3) := decAll_at aJ7_fill_53178_0 13 rfl
theorem dJ7_fill_53178_20 : decode cJ7_fill_53178 20 = .ok (.return_, 1) := decAll_at aJ7_fill_53178_0 14 rfl
def laL_law_0 : List (Nat × Instr × Nat) := [(0, .new 7, 3), (3, .dup, 1), (4, .invokespecial 9, 3), (7, .astore_n 1, 1), (8, .new 10, 3), (11, .dup, 1), (12, .invokespecial 12, 3), (15, .astore_n 2, 1), (16, .iconst 0, 1), (17, .istore_n 3, 1), (18, .iload_n 3, 1), (19, .aload_n 0, 1), (20, .arraylength, 1), (21, .bipush 6, 2), (23, .isub, 1), (24, .if_icmp .gt 1226, 3), (27, .aload_n 0, 1), (28, .iload_n 3, 1), (29, .iaload, 1), (30, .bipush 31, 2), (32, .iand, 1), (33, .tableswitch 1211 0 29 #[135, 168, 211, 244, 293, 316, 379, 402, 455, 508, 561, 604, 637, 680, 723, 776, 819, 852, 895, 948, 971, 994, 1017, 1040, 1063, 1086, 1099, 1142, 1165, 1188], 135), (168, .aload_n 1, 1), (169, .aload_n 0, 1), (170, .iload_n 3, 1), (171, .iconst 1, 1), (172, .iadd, 1), (173, .iaload, 1), (174, .aload_n 0, 1), (175, .iload_n 3, 1), (176, .iconst 2, 1), (177, .iadd, 1), (178, .iaload, 1), (179, .invokevirtual 13, 3), (182, .pop, 1), (183, .aload_n 2, 1), (184, .aload_n 0, 1), (185, .iload_n 3, 1), (186, .iconst 1, 1), (187, .iadd, 1), (188, .iaload, 1), (189, .aload_n 0, 1), (190, .iload_n 3, 1), (191, .iconst 2, 1), (192, .iadd, 1), (193, .iaload, 1), (194, .invokevirtual 17, 3), (197, .pop, 1), (198, .goto 1046, 3), (201, .aload_n 1, 1), (202, .aload_n 0, 1), (203, .iload_n 3, 1), (204, .iconst 1, 1), (205, .iadd, 1), (206, .iaload, 1), (207, .aload_n 0, 1), (208, .iload_n 3, 1), (209, .iconst 2, 1), (210, .iadd, 1), (211, .iaload, 1), (212, .aload_n 0, 1), (213, .iload_n 3, 1), (214, .iconst 3, 1), (215, .iadd, 1)]
theorem aL_law_0 : decAll cL_law laL_law_0 = true := by decide +kernel
theorem dL_law_0 : decode cL_law 0 = .ok (.new 7, 3) := decAll_at aL_law_0 0 rfl
theorem dL_law_3 : decode cL_law 3 = .ok (.dup, 1) := decAll_at aL_law_0 1 rfl
theorem dL_law_4 : decode cL_law 4 = .ok (.invokespecial 9, 3) := decAll_at aL_law_0 2 rfl
theorem dL_law_7 : decode cL_law 7 = .ok (.astore_n 1, 1) := decAll_at aL_law_0 3 rfl
theorem dL_law_8 : decode cL_law 8 = .ok (.new 10, 3) := decAll_at aL_law_0 4 rfl
theorem dL_law_11 : decode cL_law 11 = .ok (.dup, 1) := decAll_at aL_law_0 5 rfl
theorem dL_law_12 : decode cL_law 12 = .ok (.invokespecial 12, 3) := decAll_at aL_law_0 6 rfl
theorem dL_law_15 : decode cL_law 15 = .ok (.astore_n 2, 1) := decAll_at aL_law_0 7 rfl
theorem dL_law_16 : decode cL_law 16 = .ok (.iconst 0, 1) := decAll_at aL_law_0 8 rfl
theorem dL_law_17 : decode cL_law 17 = .ok (.istore_n 3, 1) := decAll_at aL_law_0 9 rfl
theorem dL_law_18 : decode cL_law 18 = .ok (.iload_n 3, 1) := decAll_at aL_law_0 10 rfl
theorem dL_law_19 : decode cL_law 19 = .ok (.aload_n 0, 1) := decAll_at aL_law_0 11 rfl
theorem dL_law_20 : decode cL_law 20 = .ok (.arraylength, 1) := decAll_at aL_law_0 12 rfl
theorem dL_law_21 : decode cL_law 21 = .ok (.bipush 6, 2) := decAll_at aL_law_0 13 rfl
theorem dL_law_23 : decode cL_law 23 = .ok (.isub, 1) := decAll_at aL_law_0 14 rfl
theorem dL_law_24 : decode cL_law 24 = .ok (.if_icmp .gt 1226, 3) := decAll_at aL_law_0 15 rfl
theorem dL_law_27 : decode cL_law 27 = .ok (.aload_n 0, 1) := decAll_at aL_law_0 16 rfl
theorem dL_law_28 : decode cL_law 28 = .ok (.iload_n 3, 1) := decAll_at aL_law_0 17 rfl
theorem dL_law_29 : decode cL_law 29 = .ok (.iaload, 1) := decAll_at aL_law_0 18 rfl
theorem dL_law_30 : decode cL_law 30 = .ok (.bipush 31, 2) := decAll_at aL_law_0 19 rfl
theorem dL_law_32 : decode cL_law 32 = .ok (.iand, 1) := decAll_at aL_law_0 20 rfl
theorem dL_law_33 : decode cL_law 33 = .ok (.tableswitch 1211 0 29 #[135, 168, 211, 244, 293, 316, 379, 402, 455, 508, 561, 604, 637, 680, 723, 776, 819, 852, 895, 948, 971, 994, 1017, 1040, 1063, 1086, 1099, 1142, 1165, 1188], 135) := decAll_at aL_law_0 21 rfl
theorem dL_law_168 : decode cL_law 168 = .ok (.aload_n 1, 1) := decAll_at aL_law_0 22 rfl
theorem dL_law_169 : decode cL_law 169 = .ok (.aload_n 0, 1) := decAll_at aL_law_0 23 rfl
theorem dL_law_170 : decode cL_law 170 = .ok (.iload_n 3, 1) := decAll_at aL_law_0 24 rfl
theorem dL_law_171 : decode cL_law 171 = .ok (.iconst 1, 1) := decAll_at aL_law_0 25 rfl
theorem dL_law_172 : decode cL_law 172 = .ok (.iadd, 1) := decAll_at aL_law_0 26 rfl
theorem dL_law_173 : decode cL_law 173 = .ok (.iaload, 1) := decAll_at aL_law_0 27 rfl
theorem dL_law_174 : decode cL_law 174 = .ok (.aload_n 0, 1) := decAll_at aL_law_0 28 rfl
theorem dL_law_175 : decode cL_law 175 = .ok (.iload_n 3, 1) := decAll_at aL_law_0 29 rfl
theorem dL_law_176 : decode cL_law 176 = .ok (.iconst 2, 1) := decAll_at aL_law_0 30 rfl
theorem dL_law_177 : decode cL_law 177 = .ok (.iadd, 1) := decAll_at aL_law_0 31 rfl
theorem dL_law_178 : decode cL_law 178 = .ok (.iaload, 1) := decAll_at aL_law_0 32 rfl
theorem dL_law_179 : decode cL_law 179 = .ok (.invokevirtual 13, 3) := decAll_at aL_law_0 33 rfl
theorem dL_law_182 : decode cL_law 182 = .ok (.pop, 1) := decAll_at aL_law_0 34 rfl
theorem dL_law_183 : decode cL_law 183 = .ok (.aload_n 2, 1) := decAll_at aL_law_0 35 rfl
theorem dL_law_184 : decode cL_law 184 = .ok (.aload_n 0, 1) := decAll_at aL_law_0 36 rfl
theorem dL_law_185 : decode cL_law 185 = .ok (.iload_n 3, 1) := decAll_at aL_law_0 37 rfl
theorem dL_law_186 : decode cL_law 186 = .ok (.iconst 1, 1) := decAll_at aL_law_0 38 rfl
theorem dL_law_187 : decode cL_law 187 = .ok (.iadd, 1) := decAll_at aL_law_0 39 rfl
theorem dL_law_188 : decode cL_law 188 = .ok (.iaload, 1) := decAll_at aL_law_0 40 rfl
theorem dL_law_189 : decode cL_law 189 = .ok (.aload_n 0, 1) := decAll_at aL_law_0 41 rfl
theorem dL_law_190 : decode cL_law 190 = .ok (.iload_n 3, 1) := decAll_at aL_law_0 42 rfl
theorem dL_law_191 : decode cL_law 191 = .ok (.iconst 2, 1) := decAll_at aL_law_0 43 rfl
theorem dL_law_192 : decode cL_law 192 = .ok (.iadd, 1) := decAll_at aL_law_0 44 rfl
theorem dL_law_193 : decode cL_law 193 = .ok (.iaload, 1) := decAll_at aL_law_0 45 rfl
theorem dL_law_194 : decode cL_law 194 = .ok (.invokevirtual 17, 3) := decAll_at aL_law_0 46 rfl
theorem dL_law_197 : decode cL_law 197 = .ok (.pop, 1) := decAll_at aL_law_0 47 rfl
theorem dL_law_198 : decode cL_law 198 = .ok (.goto 1046, 3) := decAll_at aL_law_0 48 rfl
theorem dL_law_201 : decode cL_law 201 = .ok (.aload_n 1, 1) := decAll_at aL_law_0 49 rfl
theorem dL_law_202 : decode cL_law 202 = .ok (.aload_n 0, 1) := decAll_at aL_law_0 50 rfl
theorem dL_law_203 : decode cL_law 203 = .ok (.iload_n 3, 1) := decAll_at aL_law_0 51 rfl
theorem dL_law_204 : decode cL_law 204 = .ok (.iconst 1, 1) := decAll_at aL_law_0 52 rfl
theorem dL_law_205 : decode cL_law 205 = .ok (.iadd, 1) := decAll_at aL_law_0 53 rfl
theorem dL_law_206 : decode cL_law 206 = .ok (.iaload, 1) := decAll_at aL_law_0 54 rfl
theorem dL_law_207 : decode cL_law 207 = .ok (.aload_n 0, 1) := decAll_at aL_law_0 55 rfl
theorem dL_law_208 : decode cL_law 208 = .ok (.iload_n 3, 1) := decAll_at aL_law_0 56 rfl
theorem dL_law_209 : decode cL_law 209 = .ok (.iconst 2, 1) := decAll_at aL_law_0 57 rfl
theorem dL_law_210 : decode cL_law 210 = .ok (.iadd, 1) := decAll_at aL_law_0 58 rfl
theorem dL_law_211 : decode cL_law 211 = .ok (.iaload, 1) := decAll_at aL_law_0 59 rfl
theorem dL_law_212 : decode cL_law 212 = .ok (.aload_n 0, 1) := decAll_at aL_law_0 60 rfl
theorem dL_law_213 : decode cL_law 213 = .ok (.iload_n 3, 1) := decAll_at aL_law_0 61 rfl
theorem dL_law_214 : decode cL_law 214 = .ok (.iconst 3, 1) := decAll_at aL_law_0 62 rfl
theorem dL_law_215 : decode cL_law 215 = .ok (.iadd, 1) := decAll_at aL_law_0 63 rfl
def laL_law_1 : List (Nat × Instr × Nat) := [(216, .iaload, 1), (217, .invokevirtual 18, 3), (220, .pop, 1), (221, .aload_n 2, 1), (222, .aload_n 0, 1), (223, .iload_n 3, 1), (224, .iconst 1, 1), (225, .iadd, 1), (226, .iaload, 1), (227, .aload_n 0, 1), (228, .iload_n 3, 1), (229, .iconst 2, 1), (230, .iadd, 1), (231, .iaload, 1), (232, .aload_n 0, 1), (233, .iload_n 3, 1), (234, .iconst 3, 1), (235, .iadd, 1), (236, .iaload, 1), (237, .invokevirtual 22, 3), (240, .pop, 1), (241, .goto 1003, 3), (244, .aload_n 1, 1), (245, .aload_n 0, 1), (246, .iload_n 3, 1), (247, .iconst 1, 1), (248, .iadd, 1), (249, .iaload, 1), (250, .aload_n 0, 1), (251, .iload_n 3, 1), (252, .iconst 2, 1), (253, .iadd, 1), (254, .iaload, 1), (255, .invokevirtual 23, 3), (258, .pop, 1), (259, .aload_n 2, 1), (260, .aload_n 0, 1), (261, .iload_n 3, 1), (262, .iconst 1, 1), (263, .iadd, 1), (264, .iaload, 1), (265, .aload_n 0, 1), (266, .iload_n 3, 1), (267, .iconst 2, 1), (268, .iadd, 1), (269, .iaload, 1), (270, .invokevirtual 26, 3), (273, .pop, 1), (274, .goto 970, 3), (277, .aload_n 1, 1), (278, .aload_n 0, 1), (279, .iload_n 3, 1), (280, .iconst 1, 1), (281, .iadd, 1), (282, .iaload, 1), (283, .aload_n 0, 1), (284, .iload_n 3, 1), (285, .iconst 2, 1), (286, .iadd, 1), (287, .iaload, 1), (288, .ifCond .eq 7, 3), (291, .iconst 1, 1), (292, .goto 4, 3), (295, .iconst 0, 1)]
theorem aL_law_1 : decAll cL_law laL_law_1 = true := by decide +kernel
theorem dL_law_216 : decode cL_law 216 = .ok (.iaload, 1) := decAll_at aL_law_1 0 rfl
theorem dL_law_217 : decode cL_law 217 = .ok (.invokevirtual 18, 3) := decAll_at aL_law_1 1 rfl
theorem dL_law_220 : decode cL_law 220 = .ok (.pop, 1) := decAll_at aL_law_1 2 rfl
theorem dL_law_221 : decode cL_law 221 = .ok (.aload_n 2, 1) := decAll_at aL_law_1 3 rfl
theorem dL_law_222 : decode cL_law 222 = .ok (.aload_n 0, 1) := decAll_at aL_law_1 4 rfl
theorem dL_law_223 : decode cL_law 223 = .ok (.iload_n 3, 1) := decAll_at aL_law_1 5 rfl
theorem dL_law_224 : decode cL_law 224 = .ok (.iconst 1, 1) := decAll_at aL_law_1 6 rfl
theorem dL_law_225 : decode cL_law 225 = .ok (.iadd, 1) := decAll_at aL_law_1 7 rfl
theorem dL_law_226 : decode cL_law 226 = .ok (.iaload, 1) := decAll_at aL_law_1 8 rfl
theorem dL_law_227 : decode cL_law 227 = .ok (.aload_n 0, 1) := decAll_at aL_law_1 9 rfl
theorem dL_law_228 : decode cL_law 228 = .ok (.iload_n 3, 1) := decAll_at aL_law_1 10 rfl
theorem dL_law_229 : decode cL_law 229 = .ok (.iconst 2, 1) := decAll_at aL_law_1 11 rfl
theorem dL_law_230 : decode cL_law 230 = .ok (.iadd, 1) := decAll_at aL_law_1 12 rfl
theorem dL_law_231 : decode cL_law 231 = .ok (.iaload, 1) := decAll_at aL_law_1 13 rfl
theorem dL_law_232 : decode cL_law 232 = .ok (.aload_n 0, 1) := decAll_at aL_law_1 14 rfl
theorem dL_law_233 : decode cL_law 233 = .ok (.iload_n 3, 1) := decAll_at aL_law_1 15 rfl
theorem dL_law_234 : decode cL_law 234 = .ok (.iconst 3, 1) := decAll_at aL_law_1 16 rfl
theorem dL_law_235 : decode cL_law 235 = .ok (.iadd, 1) := decAll_at aL_law_1 17 rfl
theorem dL_law_236 : decode cL_law 236 = .ok (.iaload, 1) := decAll_at aL_law_1 18 rfl
theorem dL_law_237 : decode cL_law 237 = .ok (.invokevirtual 22, 3) := decAll_at aL_law_1 19 rfl
theorem dL_law_240 : decode cL_law 240 = .ok (.pop, 1) := decAll_at aL_law_1 20 rfl
theorem dL_law_241 : decode cL_law 241 = .ok (.goto 1003, 3) := decAll_at aL_law_1 21 rfl
theorem dL_law_244 : decode cL_law 244 = .ok (.aload_n 1, 1) := decAll_at aL_law_1 22 rfl
theorem dL_law_245 : decode cL_law 245 = .ok (.aload_n 0, 1) := decAll_at aL_law_1 23 rfl
theorem dL_law_246 : decode cL_law 246 = .ok (.iload_n 3, 1) := decAll_at aL_law_1 24 rfl
theorem dL_law_247 : decode cL_law 247 = .ok (.iconst 1, 1) := decAll_at aL_law_1 25 rfl
theorem dL_law_248 : decode cL_law 248 = .ok (.iadd, 1) := decAll_at aL_law_1 26 rfl
theorem dL_law_249 : decode cL_law 249 = .ok (.iaload, 1) := decAll_at aL_law_1 27 rfl
theorem dL_law_250 : decode cL_law 250 = .ok (.aload_n 0, 1) := decAll_at aL_law_1 28 rfl
theorem dL_law_251 : decode cL_law 251 = .ok (.iload_n 3, 1) := decAll_at aL_law_1 29 rfl
theorem dL_law_252 : decode cL_law 252 = .ok (.iconst 2, 1) := decAll_at aL_law_1 30 rfl
theorem dL_law_253 : decode cL_law 253 = .ok (.iadd, 1) := decAll_at aL_law_1 31 rfl
theorem dL_law_254 : decode cL_law 254 = .ok (.iaload, 1) := decAll_at aL_law_1 32 rfl
theorem dL_law_255 : decode cL_law 255 = .ok (.invokevirtual 23, 3) := decAll_at aL_law_1 33 rfl
theorem dL_law_258 : decode cL_law 258 = .ok (.pop, 1) := decAll_at aL_law_1 34 rfl
theorem dL_law_259 : decode cL_law 259 = .ok (.aload_n 2, 1) := decAll_at aL_law_1 35 rfl
theorem dL_law_260 : decode cL_law 260 = .ok (.aload_n 0, 1) := decAll_at aL_law_1 36 rfl
theorem dL_law_261 : decode cL_law 261 = .ok (.iload_n 3, 1) := decAll_at aL_law_1 37 rfl
theorem dL_law_262 : decode cL_law 262 = .ok (.iconst 1, 1) := decAll_at aL_law_1 38 rfl
theorem dL_law_263 : decode cL_law 263 = .ok (.iadd, 1) := decAll_at aL_law_1 39 rfl
theorem dL_law_264 : decode cL_law 264 = .ok (.iaload, 1) := decAll_at aL_law_1 40 rfl
theorem dL_law_265 : decode cL_law 265 = .ok (.aload_n 0, 1) := decAll_at aL_law_1 41 rfl
theorem dL_law_266 : decode cL_law 266 = .ok (.iload_n 3, 1) := decAll_at aL_law_1 42 rfl
theorem dL_law_267 : decode cL_law 267 = .ok (.iconst 2, 1) := decAll_at aL_law_1 43 rfl
theorem dL_law_268 : decode cL_law 268 = .ok (.iadd, 1) := decAll_at aL_law_1 44 rfl
theorem dL_law_269 : decode cL_law 269 = .ok (.iaload, 1) := decAll_at aL_law_1 45 rfl
theorem dL_law_270 : decode cL_law 270 = .ok (.invokevirtual 26, 3) := decAll_at aL_law_1 46 rfl
theorem dL_law_273 : decode cL_law 273 = .ok (.pop, 1) := decAll_at aL_law_1 47 rfl
theorem dL_law_274 : decode cL_law 274 = .ok (.goto 970, 3) := decAll_at aL_law_1 48 rfl
theorem dL_law_277 : decode cL_law 277 = .ok (.aload_n 1, 1) := decAll_at aL_law_1 49 rfl
theorem dL_law_278 : decode cL_law 278 = .ok (.aload_n 0, 1) := decAll_at aL_law_1 50 rfl
theorem dL_law_279 : decode cL_law 279 = .ok (.iload_n 3, 1) := decAll_at aL_law_1 51 rfl
theorem dL_law_280 : decode cL_law 280 = .ok (.iconst 1, 1) := decAll_at aL_law_1 52 rfl
theorem dL_law_281 : decode cL_law 281 = .ok (.iadd, 1) := decAll_at aL_law_1 53 rfl
theorem dL_law_282 : decode cL_law 282 = .ok (.iaload, 1) := decAll_at aL_law_1 54 rfl
theorem dL_law_283 : decode cL_law 283 = .ok (.aload_n 0, 1) := decAll_at aL_law_1 55 rfl
theorem dL_law_284 : decode cL_law 284 = .ok (.iload_n 3, 1) := decAll_at aL_law_1 56 rfl
theorem dL_law_285 : decode cL_law 285 = .ok (.iconst 2, 1) := decAll_at aL_law_1 57 rfl
theorem dL_law_286 : decode cL_law 286 = .ok (.iadd, 1) := decAll_at aL_law_1 58 rfl
theorem dL_law_287 : decode cL_law 287 = .ok (.iaload, 1) := decAll_at aL_law_1 59 rfl
theorem dL_law_288 : decode cL_law 288 = .ok (.ifCond .eq 7, 3) := decAll_at aL_law_1 60 rfl
theorem dL_law_291 : decode cL_law 291 = .ok (.iconst 1, 1) := decAll_at aL_law_1 61 rfl
theorem dL_law_292 : decode cL_law 292 = .ok (.goto 4, 3) := decAll_at aL_law_1 62 rfl
theorem dL_law_295 : decode cL_law 295 = .ok (.iconst 0, 1) := decAll_at aL_law_1 63 rfl
def laL_law_2 : List (Nat × Instr × Nat) := [(296, .invokevirtual 27, 3), (299, .pop, 1), (300, .aload_n 2, 1), (301, .aload_n 0, 1), (302, .iload_n 3, 1), (303, .iconst 1, 1), (304, .iadd, 1), (305, .iaload, 1), (306, .aload_n 0, 1), (307, .iload_n 3, 1), (308, .iconst 2, 1), (309, .iadd, 1), (310, .iaload, 1), (311, .ifCond .eq 7, 3), (314, .iconst 1, 1), (315, .goto 4, 3), (318, .iconst 0, 1), (319, .invokevirtual 31, 3), (322, .pop, 1), (323, .goto 921, 3), (326, .aload_n 1, 1), (327, .aload_n 0, 1), (328, .iload_n 3, 1), (329, .iconst 1, 1), (330, .iadd, 1), (331, .iaload, 1), (332, .invokevirtual 32, 3), (335, .pop, 1), (336, .aload_n 2, 1), (337, .aload_n 0, 1), (338, .iload_n 3, 1), (339, .iconst 1, 1), (340, .iadd, 1), (341, .iaload, 1), (342, .invokevirtual 36, 3), (345, .pop, 1), (346, .goto 898, 3), (349, .aload_n 1, 1), (350, .aload_n 0, 1), (351, .iload_n 3, 1), (352, .iconst 1, 1), (353, .iadd, 1), (354, .iaload, 1), (355, .aload_n 0, 1), (356, .iload_n 3, 1), (357, .iconst 2, 1), (358, .iadd, 1), (359, .iaload, 1), (360, .aload_n 0, 1), (361, .iload_n 3, 1), (362, .iconst 3, 1), (363, .iadd, 1), (364, .iaload, 1), (365, .aload_n 0, 1), (366, .iload_n 3, 1), (367, .iconst 4, 1), (368, .iadd, 1), (369, .iaload, 1), (370, .aload_n 0, 1), (371, .iload_n 3, 1), (372, .iconst 5, 1), (373, .iadd, 1), (374, .iaload, 1), (375, .invokevirtual 37, 3)]
theorem aL_law_2 : decAll cL_law laL_law_2 = true := by decide +kernel
theorem dL_law_296 : decode cL_law 296 = .ok (.invokevirtual 27, 3) := decAll_at aL_law_2 0 rfl
theorem dL_law_299 : decode cL_law 299 = .ok (.pop, 1) := decAll_at aL_law_2 1 rfl
theorem dL_law_300 : decode cL_law 300 = .ok (.aload_n 2, 1) := decAll_at aL_law_2 2 rfl
theorem dL_law_301 : decode cL_law 301 = .ok (.aload_n 0, 1) := decAll_at aL_law_2 3 rfl
theorem dL_law_302 : decode cL_law 302 = .ok (.iload_n 3, 1) := decAll_at aL_law_2 4 rfl
theorem dL_law_303 : decode cL_law 303 = .ok (.iconst 1, 1) := decAll_at aL_law_2 5 rfl
theorem dL_law_304 : decode cL_law 304 = .ok (.iadd, 1) := decAll_at aL_law_2 6 rfl
theorem dL_law_305 : decode cL_law 305 = .ok (.iaload, 1) := decAll_at aL_law_2 7 rfl
theorem dL_law_306 : decode cL_law 306 = .ok (.aload_n 0, 1) := decAll_at aL_law_2 8 rfl
theorem dL_law_307 : decode cL_law 307 = .ok (.iload_n 3, 1) := decAll_at aL_law_2 9 rfl
theorem dL_law_308 : decode cL_law 308 = .ok (.iconst 2, 1) := decAll_at aL_law_2 10 rfl
theorem dL_law_309 : decode cL_law 309 = .ok (.iadd, 1) := decAll_at aL_law_2 11 rfl
theorem dL_law_310 : decode cL_law 310 = .ok (.iaload, 1) := decAll_at aL_law_2 12 rfl
theorem dL_law_311 : decode cL_law 311 = .ok (.ifCond .eq 7, 3) := decAll_at aL_law_2 13 rfl
theorem dL_law_314 : decode cL_law 314 = .ok (.iconst 1, 1) := decAll_at aL_law_2 14 rfl
theorem dL_law_315 : decode cL_law 315 = .ok (.goto 4, 3) := decAll_at aL_law_2 15 rfl
theorem dL_law_318 : decode cL_law 318 = .ok (.iconst 0, 1) := decAll_at aL_law_2 16 rfl
theorem dL_law_319 : decode cL_law 319 = .ok (.invokevirtual 31, 3) := decAll_at aL_law_2 17 rfl
theorem dL_law_322 : decode cL_law 322 = .ok (.pop, 1) := decAll_at aL_law_2 18 rfl
theorem dL_law_323 : decode cL_law 323 = .ok (.goto 921, 3) := decAll_at aL_law_2 19 rfl
theorem dL_law_326 : decode cL_law 326 = .ok (.aload_n 1, 1) := decAll_at aL_law_2 20 rfl
theorem dL_law_327 : decode cL_law 327 = .ok (.aload_n 0, 1) := decAll_at aL_law_2 21 rfl
theorem dL_law_328 : decode cL_law 328 = .ok (.iload_n 3, 1) := decAll_at aL_law_2 22 rfl
theorem dL_law_329 : decode cL_law 329 = .ok (.iconst 1, 1) := decAll_at aL_law_2 23 rfl
theorem dL_law_330 : decode cL_law 330 = .ok (.iadd, 1) := decAll_at aL_law_2 24 rfl
theorem dL_law_331 : decode cL_law 331 = .ok (.iaload, 1) := decAll_at aL_law_2 25 rfl
theorem dL_law_332 : decode cL_law 332 = .ok (.invokevirtual 32, 3) := decAll_at aL_law_2 26 rfl
theorem dL_law_335 : decode cL_law 335 = .ok (.pop, 1) := decAll_at aL_law_2 27 rfl
theorem dL_law_336 : decode cL_law 336 = .ok (.aload_n 2, 1) := decAll_at aL_law_2 28 rfl
theorem dL_law_337 : decode cL_law 337 = .ok (.aload_n 0, 1) := decAll_at aL_law_2 29 rfl
theorem dL_law_338 : decode cL_law 338 = .ok (.iload_n 3, 1) := decAll_at aL_law_2 30 rfl
theorem dL_law_339 : decode cL_law 339 = .ok (.iconst 1, 1) := decAll_at aL_law_2 31 rfl
theorem dL_law_340 : decode cL_law 340 = .ok (.iadd, 1) := decAll_at aL_law_2 32 rfl
theorem dL_law_341 : decode cL_law 341 = .ok (.iaload, 1) := decAll_at aL_law_2 33 rfl
theorem dL_law_342 : decode cL_law 342 = .ok (.invokevirtual 36, 3) := decAll_at aL_law_2 34 rfl
theorem dL_law_345 : decode cL_law 345 = .ok (.pop, 1) := decAll_at aL_law_2 35 rfl
theorem dL_law_346 : decode cL_law 346 = .ok (.goto 898, 3) := decAll_at aL_law_2 36 rfl
theorem dL_law_349 : decode cL_law 349 = .ok (.aload_n 1, 1) := decAll_at aL_law_2 37 rfl
theorem dL_law_350 : decode cL_law 350 = .ok (.aload_n 0, 1) := decAll_at aL_law_2 38 rfl
theorem dL_law_351 : decode cL_law 351 = .ok (.iload_n 3, 1) := decAll_at aL_law_2 39 rfl
theorem dL_law_352 : decode cL_law 352 = .ok (.iconst 1, 1) := decAll_at aL_law_2 40 rfl
theorem dL_law_353 : decode cL_law 353 = .ok (.iadd, 1) := decAll_at aL_law_2 41 rfl
theorem dL_law_354 : decode cL_law 354 = .ok (.iaload, 1) := decAll_at aL_law_2 42 rfl
theorem dL_law_355 : decode cL_law 355 = .ok (.aload_n 0, 1) := decAll_at aL_law_2 43 rfl
theorem dL_law_356 : decode cL_law 356 = .ok (.iload_n 3, 1) := decAll_at aL_law_2 44 rfl
theorem dL_law_357 : decode cL_law 357 = .ok (.iconst 2, 1) := decAll_at aL_law_2 45 rfl
theorem dL_law_358 : decode cL_law 358 = .ok (.iadd, 1) := decAll_at aL_law_2 46 rfl
theorem dL_law_359 : decode cL_law 359 = .ok (.iaload, 1) := decAll_at aL_law_2 47 rfl
theorem dL_law_360 : decode cL_law 360 = .ok (.aload_n 0, 1) := decAll_at aL_law_2 48 rfl
theorem dL_law_361 : decode cL_law 361 = .ok (.iload_n 3, 1) := decAll_at aL_law_2 49 rfl
theorem dL_law_362 : decode cL_law 362 = .ok (.iconst 3, 1) := decAll_at aL_law_2 50 rfl
theorem dL_law_363 : decode cL_law 363 = .ok (.iadd, 1) := decAll_at aL_law_2 51 rfl
theorem dL_law_364 : decode cL_law 364 = .ok (.iaload, 1) := decAll_at aL_law_2 52 rfl
theorem dL_law_365 : decode cL_law 365 = .ok (.aload_n 0, 1) := decAll_at aL_law_2 53 rfl
theorem dL_law_366 : decode cL_law 366 = .ok (.iload_n 3, 1) := decAll_at aL_law_2 54 rfl
theorem dL_law_367 : decode cL_law 367 = .ok (.iconst 4, 1) := decAll_at aL_law_2 55 rfl
theorem dL_law_368 : decode cL_law 368 = .ok (.iadd, 1) := decAll_at aL_law_2 56 rfl
theorem dL_law_369 : decode cL_law 369 = .ok (.iaload, 1) := decAll_at aL_law_2 57 rfl
theorem dL_law_370 : decode cL_law 370 = .ok (.aload_n 0, 1) := decAll_at aL_law_2 58 rfl
theorem dL_law_371 : decode cL_law 371 = .ok (.iload_n 3, 1) := decAll_at aL_law_2 59 rfl
theorem dL_law_372 : decode cL_law 372 = .ok (.iconst 5, 1) := decAll_at aL_law_2 60 rfl
theorem dL_law_373 : decode cL_law 373 = .ok (.iadd, 1) := decAll_at aL_law_2 61 rfl
theorem dL_law_374 : decode cL_law 374 = .ok (.iaload, 1) := decAll_at aL_law_2 62 rfl
theorem dL_law_375 : decode cL_law 375 = .ok (.invokevirtual 37, 3) := decAll_at aL_law_2 63 rfl
def laL_law_3 : List (Nat × Instr × Nat) := [(378, .pop, 1), (379, .aload_n 2, 1), (380, .aload_n 0, 1), (381, .iload_n 3, 1), (382, .iconst 1, 1), (383, .iadd, 1), (384, .iaload, 1), (385, .aload_n 0, 1), (386, .iload_n 3, 1), (387, .iconst 2, 1), (388, .iadd, 1), (389, .iaload, 1), (390, .aload_n 0, 1), (391, .iload_n 3, 1), (392, .iconst 3, 1), (393, .iadd, 1), (394, .iaload, 1), (395, .aload_n 0, 1), (396, .iload_n 3, 1), (397, .iconst 4, 1), (398, .iadd, 1), (399, .iaload, 1), (400, .aload_n 0, 1), (401, .iload_n 3, 1), (402, .iconst 5, 1), (403, .iadd, 1), (404, .iaload, 1), (405, .invokevirtual 41, 3), (408, .pop, 1), (409, .goto 835, 3), (412, .aload_n 1, 1), (413, .aload_n 0, 1), (414, .iload_n 3, 1), (415, .iconst 1, 1), (416, .iadd, 1), (417, .iaload, 1), (418, .invokevirtual 42, 3), (421, .pop, 1), (422, .aload_n 2, 1), (423, .aload_n 0, 1), (424, .iload_n 3, 1), (425, .iconst 1, 1), (426, .iadd, 1), (427, .iaload, 1), (428, .invokevirtual 46, 3), (431, .pop, 1), (432, .goto 812, 3), (435, .aload_n 1, 1), (436, .aload_n 0, 1), (437, .iload_n 3, 1), (438, .iconst 1, 1), (439, .iadd, 1), (440, .iaload, 1), (441, .aload_n 0, 1), (442, .iload_n 3, 1), (443, .iconst 2, 1), (444, .iadd, 1), (445, .iaload, 1), (446, .aload_n 0, 1), (447, .iload_n 3, 1), (448, .iconst 3, 1), (449, .iadd, 1), (450, .iaload, 1), (451, .aload_n 0, 1)]
theorem aL_law_3 : decAll cL_law laL_law_3 = true := by decide +kernel
theorem dL_law_378 : decode cL_law 378 = .ok (.pop, 1) := decAll_at aL_law_3 0 rfl
theorem dL_law_379 : decode cL_law 379 = .ok (.aload_n 2, 1) := decAll_at aL_law_3 1 rfl
theorem dL_law_380 : decode cL_law 380 = .ok (.aload_n 0, 1) := decAll_at aL_law_3 2 rfl
theorem dL_law_381 : decode cL_law 381 = .ok (.iload_n 3, 1) := decAll_at aL_law_3 3 rfl
theorem dL_law_382 : decode cL_law 382 = .ok (.iconst 1, 1) := decAll_at aL_law_3 4 rfl
theorem dL_law_383 : decode cL_law 383 = .ok (.iadd, 1) := decAll_at aL_law_3 5 rfl
theorem dL_law_384 : decode cL_law 384 = .ok (.iaload, 1) := decAll_at aL_law_3 6 rfl
theorem dL_law_385 : decode cL_law 385 = .ok (.aload_n 0, 1) := decAll_at aL_law_3 7 rfl
theorem dL_law_386 : decode cL_law 386 = .ok (.iload_n 3, 1) := decAll_at aL_law_3 8 rfl
theorem dL_law_387 : decode cL_law 387 = .ok (.iconst 2, 1) := decAll_at aL_law_3 9 rfl
theorem dL_law_388 : decode cL_law 388 = .ok (.iadd, 1) := decAll_at aL_law_3 10 rfl
theorem dL_law_389 : decode cL_law 389 = .ok (.iaload, 1) := decAll_at aL_law_3 11 rfl
theorem dL_law_390 : decode cL_law 390 = .ok (.aload_n 0, 1) := decAll_at aL_law_3 12 rfl
theorem dL_law_391 : decode cL_law 391 = .ok (.iload_n 3, 1) := decAll_at aL_law_3 13 rfl
theorem dL_law_392 : decode cL_law 392 = .ok (.iconst 3, 1) := decAll_at aL_law_3 14 rfl
theorem dL_law_393 : decode cL_law 393 = .ok (.iadd, 1) := decAll_at aL_law_3 15 rfl
theorem dL_law_394 : decode cL_law 394 = .ok (.iaload, 1) := decAll_at aL_law_3 16 rfl
theorem dL_law_395 : decode cL_law 395 = .ok (.aload_n 0, 1) := decAll_at aL_law_3 17 rfl
theorem dL_law_396 : decode cL_law 396 = .ok (.iload_n 3, 1) := decAll_at aL_law_3 18 rfl
theorem dL_law_397 : decode cL_law 397 = .ok (.iconst 4, 1) := decAll_at aL_law_3 19 rfl
theorem dL_law_398 : decode cL_law 398 = .ok (.iadd, 1) := decAll_at aL_law_3 20 rfl
theorem dL_law_399 : decode cL_law 399 = .ok (.iaload, 1) := decAll_at aL_law_3 21 rfl
theorem dL_law_400 : decode cL_law 400 = .ok (.aload_n 0, 1) := decAll_at aL_law_3 22 rfl
theorem dL_law_401 : decode cL_law 401 = .ok (.iload_n 3, 1) := decAll_at aL_law_3 23 rfl
theorem dL_law_402 : decode cL_law 402 = .ok (.iconst 5, 1) := decAll_at aL_law_3 24 rfl
theorem dL_law_403 : decode cL_law 403 = .ok (.iadd, 1) := decAll_at aL_law_3 25 rfl
theorem dL_law_404 : decode cL_law 404 = .ok (.iaload, 1) := decAll_at aL_law_3 26 rfl
theorem dL_law_405 : decode cL_law 405 = .ok (.invokevirtual 41, 3) := decAll_at aL_law_3 27 rfl
theorem dL_law_408 : decode cL_law 408 = .ok (.pop, 1) := decAll_at aL_law_3 28 rfl
theorem dL_law_409 : decode cL_law 409 = .ok (.goto 835, 3) := decAll_at aL_law_3 29 rfl
theorem dL_law_412 : decode cL_law 412 = .ok (.aload_n 1, 1) := decAll_at aL_law_3 30 rfl
theorem dL_law_413 : decode cL_law 413 = .ok (.aload_n 0, 1) := decAll_at aL_law_3 31 rfl
theorem dL_law_414 : decode cL_law 414 = .ok (.iload_n 3, 1) := decAll_at aL_law_3 32 rfl
theorem dL_law_415 : decode cL_law 415 = .ok (.iconst 1, 1) := decAll_at aL_law_3 33 rfl
theorem dL_law_416 : decode cL_law 416 = .ok (.iadd, 1) := decAll_at aL_law_3 34 rfl
theorem dL_law_417 : decode cL_law 417 = .ok (.iaload, 1) := decAll_at aL_law_3 35 rfl
theorem dL_law_418 : decode cL_law 418 = .ok (.invokevirtual 42, 3) := decAll_at aL_law_3 36 rfl
theorem dL_law_421 : decode cL_law 421 = .ok (.pop, 1) := decAll_at aL_law_3 37 rfl
theorem dL_law_422 : decode cL_law 422 = .ok (.aload_n 2, 1) := decAll_at aL_law_3 38 rfl
theorem dL_law_423 : decode cL_law 423 = .ok (.aload_n 0, 1) := decAll_at aL_law_3 39 rfl
theorem dL_law_424 : decode cL_law 424 = .ok (.iload_n 3, 1) := decAll_at aL_law_3 40 rfl
theorem dL_law_425 : decode cL_law 425 = .ok (.iconst 1, 1) := decAll_at aL_law_3 41 rfl
theorem dL_law_426 : decode cL_law 426 = .ok (.iadd, 1) := decAll_at aL_law_3 42 rfl
theorem dL_law_427 : decode cL_law 427 = .ok (.iaload, 1) := decAll_at aL_law_3 43 rfl
theorem dL_law_428 : decode cL_law 428 = .ok (.invokevirtual 46, 3) := decAll_at aL_law_3 44 rfl
theorem dL_law_431 : decode cL_law 431 = .ok (.pop, 1) := decAll_at aL_law_3 45 rfl
theorem dL_law_432 : decode cL_law 432 = .ok (.goto 812, 3) := decAll_at aL_law_3 46 rfl
theorem dL_law_435 : decode cL_law 435 = .ok (.aload_n 1, 1) := decAll_at aL_law_3 47 rfl
theorem dL_law_436 : decode cL_law 436 = .ok (.aload_n 0, 1) := decAll_at aL_law_3 48 rfl
theorem dL_law_437 : decode cL_law 437 = .ok (.iload_n 3, 1) := decAll_at aL_law_3 49 rfl
theorem dL_law_438 : decode cL_law 438 = .ok (.iconst 1, 1) := decAll_at aL_law_3 50 rfl
theorem dL_law_439 : decode cL_law 439 = .ok (.iadd, 1) := decAll_at aL_law_3 51 rfl
theorem dL_law_440 : decode cL_law 440 = .ok (.iaload, 1) := decAll_at aL_law_3 52 rfl
theorem dL_law_441 : decode cL_law 441 = .ok (.aload_n 0, 1) := decAll_at aL_law_3 53 rfl
theorem dL_law_442 : decode cL_law 442 = .ok (.iload_n 3, 1) := decAll_at aL_law_3 54 rfl
theorem dL_law_443 : decode cL_law 443 = .ok (.iconst 2, 1) := decAll_at aL_law_3 55 rfl
theorem dL_law_444 : decode cL_law 444 = .ok (.iadd, 1) := decAll_at aL_law_3 56 rfl
theorem dL_law_445 : decode cL_law 445 = .ok (.iaload, 1) := decAll_at aL_law_3 57 rfl
theorem dL_law_446 : decode cL_law 446 = .ok (.aload_n 0, 1) := decAll_at aL_law_3 58 rfl
theorem dL_law_447 : decode cL_law 447 = .ok (.iload_n 3, 1) := decAll_at aL_law_3 59 rfl
theorem dL_law_448 : decode cL_law 448 = .ok (.iconst 3, 1) := decAll_at aL_law_3 60 rfl
theorem dL_law_449 : decode cL_law 449 = .ok (.iadd, 1) := decAll_at aL_law_3 61 rfl
theorem dL_law_450 : decode cL_law 450 = .ok (.iaload, 1) := decAll_at aL_law_3 62 rfl
theorem dL_law_451 : decode cL_law 451 = .ok (.aload_n 0, 1) := decAll_at aL_law_3 63 rfl
def laL_law_4 : List (Nat × Instr × Nat) := [(452, .iload_n 3, 1), (453, .iconst 4, 1), (454, .iadd, 1), (455, .iaload, 1), (456, .invokevirtual 47, 3), (459, .pop, 1), (460, .aload_n 2, 1), (461, .aload_n 0, 1), (462, .iload_n 3, 1), (463, .iconst 1, 1), (464, .iadd, 1), (465, .iaload, 1), (466, .aload_n 0, 1), (467, .iload_n 3, 1), (468, .iconst 2, 1), (469, .iadd, 1), (470, .iaload, 1), (471, .aload_n 0, 1), (472, .iload_n 3, 1), (473, .iconst 3, 1), (474, .iadd, 1), (475, .iaload, 1), (476, .aload_n 0, 1), (477, .iload_n 3, 1), (478, .iconst 4, 1), (479, .iadd, 1), (480, .iaload, 1), (481, .invokevirtual 51, 3), (484, .pop, 1), (485, .goto 759, 3), (488, .aload_n 1, 1), (489, .aload_n 0, 1), (490, .iload_n 3, 1), (491, .iconst 1, 1), (492, .iadd, 1), (493, .iaload, 1), (494, .aload_n 0, 1), (495, .iload_n 3, 1), (496, .iconst 2, 1), (497, .iadd, 1), (498, .iaload, 1), (499, .aload_n 0, 1), (500, .iload_n 3, 1), (501, .iconst 3, 1), (502, .iadd, 1), (503, .iaload, 1), (504, .aload_n 0, 1), (505, .iload_n 3, 1), (506, .iconst 4, 1), (507, .iadd, 1), (508, .iaload, 1), (509, .invokevirtual 52, 3), (512, .pop, 1), (513, .aload_n 2, 1), (514, .aload_n 0, 1), (515, .iload_n 3, 1), (516, .iconst 1, 1), (517, .iadd, 1), (518, .iaload, 1), (519, .aload_n 0, 1), (520, .iload_n 3, 1), (521, .iconst 2, 1), (522, .iadd, 1), (523, .iaload, 1)]
theorem aL_law_4 : decAll cL_law laL_law_4 = true := by decide +kernel
theorem dL_law_452 : decode cL_law 452 = .ok (.iload_n 3, 1) := decAll_at aL_law_4 0 rfl
theorem dL_law_453 : decode cL_law 453 = .ok (.iconst 4, 1) := decAll_at aL_law_4 1 rfl
theorem dL_law_454 : decode cL_law 454 = .ok (.iadd, 1) := decAll_at aL_law_4 2 rfl
theorem dL_law_455 : decode cL_law 455 = .ok (.iaload, 1) := decAll_at aL_law_4 3 rfl
theorem dL_law_456 : decode cL_law 456 = .ok (.invokevirtual 47, 3) := decAll_at aL_law_4 4 rfl
theorem dL_law_459 : decode cL_law 459 = .ok (.pop, 1) := decAll_at aL_law_4 5 rfl
theorem dL_law_460 : decode cL_law 460 = .ok (.aload_n 2, 1) := decAll_at aL_law_4 6 rfl
theorem dL_law_461 : decode cL_law 461 = .ok (.aload_n 0, 1) := decAll_at aL_law_4 7 rfl
theorem dL_law_462 : decode cL_law 462 = .ok (.iload_n 3, 1) := decAll_at aL_law_4 8 rfl
theorem dL_law_463 : decode cL_law 463 = .ok (.iconst 1, 1) := decAll_at aL_law_4 9 rfl
theorem dL_law_464 : decode cL_law 464 = .ok (.iadd, 1) := decAll_at aL_law_4 10 rfl
theorem dL_law_465 : decode cL_law 465 = .ok (.iaload, 1) := decAll_at aL_law_4 11 rfl
theorem dL_law_466 : decode cL_law 466 = .ok (.aload_n 0, 1) := decAll_at aL_law_4 12 rfl
theorem dL_law_467 : decode cL_law 467 = .ok (.iload_n 3, 1) := decAll_at aL_law_4 13 rfl
theorem dL_law_468 : decode cL_law 468 = .ok (.iconst 2, 1) := decAll_at aL_law_4 14 rfl
theorem dL_law_469 : decode cL_law 469 = .ok (.iadd, 1) := decAll_at aL_law_4 15 rfl
theorem dL_law_470 : decode cL_law 470 = .ok (.iaload, 1) := decAll_at aL_law_4 16 rfl
theorem dL_law_471 : decode cL_law 471 = .ok (.aload_n 0, 1) := decAll_at aL_law_4 17 rfl
theorem dL_law_472 : decode cL_law 472 = .ok (.iload_n 3, 1) := decAll_at aL_law_4 18 rfl
theorem dL_law_473 : decode cL_law 473 = .ok (.iconst 3, 1) := decAll_at aL_law_4 19 rfl
theorem dL_law_474 : decode cL_law 474 = .ok (.iadd, 1) := decAll_at aL_law_4 20 rfl
theorem dL_law_475 : decode cL_law 475 = .ok (.iaload, 1) := decAll_at aL_law_4 21 rfl
theorem dL_law_476 : decode cL_law 476 = .ok (.aload_n 0, 1) := decAll_at aL_law_4 22 rfl
theorem dL_law_477 : decode cL_law 477 = .ok (.iload_n 3, 1) := decAll_at aL_law_4 23 rfl
theorem dL_law_478 : decode cL_law 478 = .ok (.iconst 4, 1) := decAll_at aL_law_4 24 rfl
theorem dL_law_479 : decode cL_law 479 = .ok (.iadd, 1) := decAll_at aL_law_4 25 rfl
theorem dL_law_480 : decode cL_law 480 = .ok (.iaload, 1) := decAll_at aL_law_4 26 rfl
theorem dL_law_481 : decode cL_law 481 = .ok (.invokevirtual 51, 3) := decAll_at aL_law_4 27 rfl
theorem dL_law_484 : decode cL_law 484 = .ok (.pop, 1) := decAll_at aL_law_4 28 rfl
theorem dL_law_485 : decode cL_law 485 = .ok (.goto 759, 3) := decAll_at aL_law_4 29 rfl
theorem dL_law_488 : decode cL_law 488 = .ok (.aload_n 1, 1) := decAll_at aL_law_4 30 rfl
theorem dL_law_489 : decode cL_law 489 = .ok (.aload_n 0, 1) := decAll_at aL_law_4 31 rfl
theorem dL_law_490 : decode cL_law 490 = .ok (.iload_n 3, 1) := decAll_at aL_law_4 32 rfl
theorem dL_law_491 : decode cL_law 491 = .ok (.iconst 1, 1) := decAll_at aL_law_4 33 rfl
theorem dL_law_492 : decode cL_law 492 = .ok (.iadd, 1) := decAll_at aL_law_4 34 rfl
theorem dL_law_493 : decode cL_law 493 = .ok (.iaload, 1) := decAll_at aL_law_4 35 rfl
theorem dL_law_494 : decode cL_law 494 = .ok (.aload_n 0, 1) := decAll_at aL_law_4 36 rfl
theorem dL_law_495 : decode cL_law 495 = .ok (.iload_n 3, 1) := decAll_at aL_law_4 37 rfl
theorem dL_law_496 : decode cL_law 496 = .ok (.iconst 2, 1) := decAll_at aL_law_4 38 rfl
theorem dL_law_497 : decode cL_law 497 = .ok (.iadd, 1) := decAll_at aL_law_4 39 rfl
theorem dL_law_498 : decode cL_law 498 = .ok (.iaload, 1) := decAll_at aL_law_4 40 rfl
theorem dL_law_499 : decode cL_law 499 = .ok (.aload_n 0, 1) := decAll_at aL_law_4 41 rfl
theorem dL_law_500 : decode cL_law 500 = .ok (.iload_n 3, 1) := decAll_at aL_law_4 42 rfl
theorem dL_law_501 : decode cL_law 501 = .ok (.iconst 3, 1) := decAll_at aL_law_4 43 rfl
theorem dL_law_502 : decode cL_law 502 = .ok (.iadd, 1) := decAll_at aL_law_4 44 rfl
theorem dL_law_503 : decode cL_law 503 = .ok (.iaload, 1) := decAll_at aL_law_4 45 rfl
theorem dL_law_504 : decode cL_law 504 = .ok (.aload_n 0, 1) := decAll_at aL_law_4 46 rfl
theorem dL_law_505 : decode cL_law 505 = .ok (.iload_n 3, 1) := decAll_at aL_law_4 47 rfl
theorem dL_law_506 : decode cL_law 506 = .ok (.iconst 4, 1) := decAll_at aL_law_4 48 rfl
theorem dL_law_507 : decode cL_law 507 = .ok (.iadd, 1) := decAll_at aL_law_4 49 rfl
theorem dL_law_508 : decode cL_law 508 = .ok (.iaload, 1) := decAll_at aL_law_4 50 rfl
theorem dL_law_509 : decode cL_law 509 = .ok (.invokevirtual 52, 3) := decAll_at aL_law_4 51 rfl
theorem dL_law_512 : decode cL_law 512 = .ok (.pop, 1) := decAll_at aL_law_4 52 rfl
theorem dL_law_513 : decode cL_law 513 = .ok (.aload_n 2, 1) := decAll_at aL_law_4 53 rfl
theorem dL_law_514 : decode cL_law 514 = .ok (.aload_n 0, 1) := decAll_at aL_law_4 54 rfl
theorem dL_law_515 : decode cL_law 515 = .ok (.iload_n 3, 1) := decAll_at aL_law_4 55 rfl
theorem dL_law_516 : decode cL_law 516 = .ok (.iconst 1, 1) := decAll_at aL_law_4 56 rfl
theorem dL_law_517 : decode cL_law 517 = .ok (.iadd, 1) := decAll_at aL_law_4 57 rfl
theorem dL_law_518 : decode cL_law 518 = .ok (.iaload, 1) := decAll_at aL_law_4 58 rfl
theorem dL_law_519 : decode cL_law 519 = .ok (.aload_n 0, 1) := decAll_at aL_law_4 59 rfl
theorem dL_law_520 : decode cL_law 520 = .ok (.iload_n 3, 1) := decAll_at aL_law_4 60 rfl
theorem dL_law_521 : decode cL_law 521 = .ok (.iconst 2, 1) := decAll_at aL_law_4 61 rfl
theorem dL_law_522 : decode cL_law 522 = .ok (.iadd, 1) := decAll_at aL_law_4 62 rfl
theorem dL_law_523 : decode cL_law 523 = .ok (.iaload, 1) := decAll_at aL_law_4 63 rfl
def laL_law_5 : List (Nat × Instr × Nat) := [(524, .aload_n 0, 1), (525, .iload_n 3, 1), (526, .iconst 3, 1), (527, .iadd, 1), (528, .iaload, 1), (529, .aload_n 0, 1), (530, .iload_n 3, 1), (531, .iconst 4, 1), (532, .iadd, 1), (533, .iaload, 1), (534, .invokevirtual 55, 3), (537, .pop, 1), (538, .goto 706, 3), (541, .aload_n 1, 1), (542, .aload_n 0, 1), (543, .iload_n 3, 1), (544, .iconst 1, 1), (545, .iadd, 1), (546, .iaload, 1), (547, .aload_n 0, 1), (548, .iload_n 3, 1), (549, .iconst 2, 1), (550, .iadd, 1), (551, .iaload, 1), (552, .aload_n 0, 1), (553, .iload_n 3, 1), (554, .iconst 3, 1), (555, .iadd, 1), (556, .iaload, 1), (557, .aload_n 0, 1), (558, .iload_n 3, 1), (559, .iconst 4, 1), (560, .iadd, 1), (561, .iaload, 1), (562, .invokevirtual 56, 3), (565, .pop, 1), (566, .aload_n 2, 1), (567, .aload_n 0, 1), (568, .iload_n 3, 1), (569, .iconst 1, 1), (570, .iadd, 1), (571, .iaload, 1), (572, .aload_n 0, 1), (573, .iload_n 3, 1), (574, .iconst 2, 1), (575, .iadd, 1), (576, .iaload, 1), (577, .aload_n 0, 1), (578, .iload_n 3, 1), (579, .iconst 3, 1), (580, .iadd, 1), (581, .iaload, 1), (582, .aload_n 0, 1), (583, .iload_n 3, 1), (584, .iconst 4, 1), (585, .iadd, 1), (586, .iaload, 1), (587, .invokevirtual 59, 3), (590, .pop, 1), (591, .goto 653, 3), (594, .aload_n 1, 1), (595, .aload_n 0, 1), (596, .iload_n 3, 1), (597, .iconst 1, 1)]
theorem aL_law_5 : decAll cL_law laL_law_5 = true := by decide +kernel
theorem dL_law_524 : decode cL_law 524 = .ok (.aload_n 0, 1) := decAll_at aL_law_5 0 rfl
theorem dL_law_525 : decode cL_law 525 = .ok (.iload_n 3, 1) := decAll_at aL_law_5 1 rfl
theorem dL_law_526 : decode cL_law 526 = .ok (.iconst 3, 1) := decAll_at aL_law_5 2 rfl
theorem dL_law_527 : decode cL_law 527 = .ok (.iadd, 1) := decAll_at aL_law_5 3 rfl
theorem dL_law_528 : decode cL_law 528 = .ok (.iaload, 1) := decAll_at aL_law_5 4 rfl
theorem dL_law_529 : decode cL_law 529 = .ok (.aload_n 0, 1) := decAll_at aL_law_5 5 rfl
theorem dL_law_530 : decode cL_law 530 = .ok (.iload_n 3, 1) := decAll_at aL_law_5 6 rfl
theorem dL_law_531 : decode cL_law 531 = .ok (.iconst 4, 1) := decAll_at aL_law_5 7 rfl
theorem dL_law_532 : decode cL_law 532 = .ok (.iadd, 1) := decAll_at aL_law_5 8 rfl
theorem dL_law_533 : decode cL_law 533 = .ok (.iaload, 1) := decAll_at aL_law_5 9 rfl
theorem dL_law_534 : decode cL_law 534 = .ok (.invokevirtual 55, 3) := decAll_at aL_law_5 10 rfl
theorem dL_law_537 : decode cL_law 537 = .ok (.pop, 1) := decAll_at aL_law_5 11 rfl
theorem dL_law_538 : decode cL_law 538 = .ok (.goto 706, 3) := decAll_at aL_law_5 12 rfl
theorem dL_law_541 : decode cL_law 541 = .ok (.aload_n 1, 1) := decAll_at aL_law_5 13 rfl
theorem dL_law_542 : decode cL_law 542 = .ok (.aload_n 0, 1) := decAll_at aL_law_5 14 rfl
theorem dL_law_543 : decode cL_law 543 = .ok (.iload_n 3, 1) := decAll_at aL_law_5 15 rfl
theorem dL_law_544 : decode cL_law 544 = .ok (.iconst 1, 1) := decAll_at aL_law_5 16 rfl
theorem dL_law_545 : decode cL_law 545 = .ok (.iadd, 1) := decAll_at aL_law_5 17 rfl
theorem dL_law_546 : decode cL_law 546 = .ok (.iaload, 1) := decAll_at aL_law_5 18 rfl
theorem dL_law_547 : decode cL_law 547 = .ok (.aload_n 0, 1) := decAll_at aL_law_5 19 rfl
theorem dL_law_548 : decode cL_law 548 = .ok (.iload_n 3, 1) := decAll_at aL_law_5 20 rfl
theorem dL_law_549 : decode cL_law 549 = .ok (.iconst 2, 1) := decAll_at aL_law_5 21 rfl
theorem dL_law_550 : decode cL_law 550 = .ok (.iadd, 1) := decAll_at aL_law_5 22 rfl
theorem dL_law_551 : decode cL_law 551 = .ok (.iaload, 1) := decAll_at aL_law_5 23 rfl
theorem dL_law_552 : decode cL_law 552 = .ok (.aload_n 0, 1) := decAll_at aL_law_5 24 rfl
theorem dL_law_553 : decode cL_law 553 = .ok (.iload_n 3, 1) := decAll_at aL_law_5 25 rfl
theorem dL_law_554 : decode cL_law 554 = .ok (.iconst 3, 1) := decAll_at aL_law_5 26 rfl
theorem dL_law_555 : decode cL_law 555 = .ok (.iadd, 1) := decAll_at aL_law_5 27 rfl
theorem dL_law_556 : decode cL_law 556 = .ok (.iaload, 1) := decAll_at aL_law_5 28 rfl
theorem dL_law_557 : decode cL_law 557 = .ok (.aload_n 0, 1) := decAll_at aL_law_5 29 rfl
theorem dL_law_558 : decode cL_law 558 = .ok (.iload_n 3, 1) := decAll_at aL_law_5 30 rfl
theorem dL_law_559 : decode cL_law 559 = .ok (.iconst 4, 1) := decAll_at aL_law_5 31 rfl
theorem dL_law_560 : decode cL_law 560 = .ok (.iadd, 1) := decAll_at aL_law_5 32 rfl
theorem dL_law_561 : decode cL_law 561 = .ok (.iaload, 1) := decAll_at aL_law_5 33 rfl
theorem dL_law_562 : decode cL_law 562 = .ok (.invokevirtual 56, 3) := decAll_at aL_law_5 34 rfl
theorem dL_law_565 : decode cL_law 565 = .ok (.pop, 1) := decAll_at aL_law_5 35 rfl
theorem dL_law_566 : decode cL_law 566 = .ok (.aload_n 2, 1) := decAll_at aL_law_5 36 rfl
theorem dL_law_567 : decode cL_law 567 = .ok (.aload_n 0, 1) := decAll_at aL_law_5 37 rfl
theorem dL_law_568 : decode cL_law 568 = .ok (.iload_n 3, 1) := decAll_at aL_law_5 38 rfl
theorem dL_law_569 : decode cL_law 569 = .ok (.iconst 1, 1) := decAll_at aL_law_5 39 rfl
theorem dL_law_570 : decode cL_law 570 = .ok (.iadd, 1) := decAll_at aL_law_5 40 rfl
theorem dL_law_571 : decode cL_law 571 = .ok (.iaload, 1) := decAll_at aL_law_5 41 rfl
theorem dL_law_572 : decode cL_law 572 = .ok (.aload_n 0, 1) := decAll_at aL_law_5 42 rfl
theorem dL_law_573 : decode cL_law 573 = .ok (.iload_n 3, 1) := decAll_at aL_law_5 43 rfl
theorem dL_law_574 : decode cL_law 574 = .ok (.iconst 2, 1) := decAll_at aL_law_5 44 rfl
theorem dL_law_575 : decode cL_law 575 = .ok (.iadd, 1) := decAll_at aL_law_5 45 rfl
theorem dL_law_576 : decode cL_law 576 = .ok (.iaload, 1) := decAll_at aL_law_5 46 rfl
theorem dL_law_577 : decode cL_law 577 = .ok (.aload_n 0, 1) := decAll_at aL_law_5 47 rfl
theorem dL_law_578 : decode cL_law 578 = .ok (.iload_n 3, 1) := decAll_at aL_law_5 48 rfl
theorem dL_law_579 : decode cL_law 579 = .ok (.iconst 3, 1) := decAll_at aL_law_5 49 rfl
theorem dL_law_580 : decode cL_law 580 = .ok (.iadd, 1) := decAll_at aL_law_5 50 rfl
theorem dL_law_581 : decode cL_law 581 = .ok (.iaload, 1) := decAll_at aL_law_5 51 rfl
theorem dL_law_582 : decode cL_law 582 = .ok (.aload_n 0, 1) := decAll_at aL_law_5 52 rfl
theorem dL_law_583 : decode cL_law 583 = .ok (.iload_n 3, 1) := decAll_at aL_law_5 53 rfl
theorem dL_law_584 : decode cL_law 584 = .ok (.iconst 4, 1) := decAll_at aL_law_5 54 rfl
theorem dL_law_585 : decode cL_law 585 = .ok (.iadd, 1) := decAll_at aL_law_5 55 rfl
theorem dL_law_586 : decode cL_law 586 = .ok (.iaload, 1) := decAll_at aL_law_5 56 rfl
theorem dL_law_587 : decode cL_law 587 = .ok (.invokevirtual 59, 3) := decAll_at aL_law_5 57 rfl
theorem dL_law_590 : decode cL_law 590 = .ok (.pop, 1) := decAll_at aL_law_5 58 rfl
theorem dL_law_591 : decode cL_law 591 = .ok (.goto 653, 3) := decAll_at aL_law_5 59 rfl
theorem dL_law_594 : decode cL_law 594 = .ok (.aload_n 1, 1) := decAll_at aL_law_5 60 rfl
theorem dL_law_595 : decode cL_law 595 = .ok (.aload_n 0, 1) := decAll_at aL_law_5 61 rfl
theorem dL_law_596 : decode cL_law 596 = .ok (.iload_n 3, 1) := decAll_at aL_law_5 62 rfl
theorem dL_law_597 : decode cL_law 597 = .ok (.iconst 1, 1) := decAll_at aL_law_5 63 rfl
def laL_law_6 : List (Nat × Instr × Nat) := [(598, .iadd, 1), (599, .iaload, 1), (600, .aload_n 0, 1), (601, .iload_n 3, 1), (602, .iconst 2, 1), (603, .iadd, 1), (604, .iaload, 1), (605, .aload_n 0, 1), (606, .iload_n 3, 1), (607, .iconst 3, 1), (608, .iadd, 1), (609, .iaload, 1), (610, .invokevirtual 60, 3), (613, .pop, 1), (614, .aload_n 2, 1), (615, .aload_n 0, 1), (616, .iload_n 3, 1), (617, .iconst 1, 1), (618, .iadd, 1), (619, .iaload, 1), (620, .aload_n 0, 1), (621, .iload_n 3, 1), (622, .iconst 2, 1), (623, .iadd, 1), (624, .iaload, 1), (625, .aload_n 0, 1), (626, .iload_n 3, 1), (627, .iconst 3, 1), (628, .iadd, 1), (629, .iaload, 1), (630, .invokevirtual 63, 3), (633, .pop, 1), (634, .goto 610, 3), (637, .aload_n 1, 1), (638, .aload_n 0, 1), (639, .iload_n 3, 1), (640, .iconst 1, 1), (641, .iadd, 1), (642, .iaload, 1), (643, .aload_n 0, 1), (644, .iload_n 3, 1), (645, .iconst 2, 1), (646, .iadd, 1), (647, .iaload, 1), (648, .invokevirtual 64, 3), (651, .pop, 1), (652, .aload_n 2, 1), (653, .aload_n 0, 1), (654, .iload_n 3, 1), (655, .iconst 1, 1), (656, .iadd, 1), (657, .iaload, 1), (658, .aload_n 0, 1), (659, .iload_n 3, 1), (660, .iconst 2, 1), (661, .iadd, 1), (662, .iaload, 1), (663, .invokevirtual 67, 3), (666, .pop, 1), (667, .goto 577, 3), (670, .aload_n 1, 1), (671, .aload_n 0, 1), (672, .iload_n 3, 1), (673, .iconst 1, 1)]
theorem aL_law_6 : decAll cL_law laL_law_6 = true := by decide +kernel
theorem dL_law_598 : decode cL_law 598 = .ok (.iadd, 1) := decAll_at aL_law_6 0 rfl
theorem dL_law_599 : decode cL_law 599 = .ok (.iaload, 1) := decAll_at aL_law_6 1 rfl
theorem dL_law_600 : decode cL_law 600 = .ok (.aload_n 0, 1) := decAll_at aL_law_6 2 rfl
theorem dL_law_601 : decode cL_law 601 = .ok (.iload_n 3, 1) := decAll_at aL_law_6 3 rfl
theorem dL_law_602 : decode cL_law 602 = .ok (.iconst 2, 1) := decAll_at aL_law_6 4 rfl
theorem dL_law_603 : decode cL_law 603 = .ok (.iadd, 1) := decAll_at aL_law_6 5 rfl
theorem dL_law_604 : decode cL_law 604 = .ok (.iaload, 1) := decAll_at aL_law_6 6 rfl
theorem dL_law_605 : decode cL_law 605 = .ok (.aload_n 0, 1) := decAll_at aL_law_6 7 rfl
theorem dL_law_606 : decode cL_law 606 = .ok (.iload_n 3, 1) := decAll_at aL_law_6 8 rfl
theorem dL_law_607 : decode cL_law 607 = .ok (.iconst 3, 1) := decAll_at aL_law_6 9 rfl
theorem dL_law_608 : decode cL_law 608 = .ok (.iadd, 1) := decAll_at aL_law_6 10 rfl
theorem dL_law_609 : decode cL_law 609 = .ok (.iaload, 1) := decAll_at aL_law_6 11 rfl
theorem dL_law_610 : decode cL_law 610 = .ok (.invokevirtual 60, 3) := decAll_at aL_law_6 12 rfl
theorem dL_law_613 : decode cL_law 613 = .ok (.pop, 1) := decAll_at aL_law_6 13 rfl
theorem dL_law_614 : decode cL_law 614 = .ok (.aload_n 2, 1) := decAll_at aL_law_6 14 rfl
theorem dL_law_615 : decode cL_law 615 = .ok (.aload_n 0, 1) := decAll_at aL_law_6 15 rfl
theorem dL_law_616 : decode cL_law 616 = .ok (.iload_n 3, 1) := decAll_at aL_law_6 16 rfl
theorem dL_law_617 : decode cL_law 617 = .ok (.iconst 1, 1) := decAll_at aL_law_6 17 rfl
theorem dL_law_618 : decode cL_law 618 = .ok (.iadd, 1) := decAll_at aL_law_6 18 rfl
theorem dL_law_619 : decode cL_law 619 = .ok (.iaload, 1) := decAll_at aL_law_6 19 rfl
theorem dL_law_620 : decode cL_law 620 = .ok (.aload_n 0, 1) := decAll_at aL_law_6 20 rfl
theorem dL_law_621 : decode cL_law 621 = .ok (.iload_n 3, 1) := decAll_at aL_law_6 21 rfl
theorem dL_law_622 : decode cL_law 622 = .ok (.iconst 2, 1) := decAll_at aL_law_6 22 rfl
theorem dL_law_623 : decode cL_law 623 = .ok (.iadd, 1) := decAll_at aL_law_6 23 rfl
theorem dL_law_624 : decode cL_law 624 = .ok (.iaload, 1) := decAll_at aL_law_6 24 rfl
theorem dL_law_625 : decode cL_law 625 = .ok (.aload_n 0, 1) := decAll_at aL_law_6 25 rfl
theorem dL_law_626 : decode cL_law 626 = .ok (.iload_n 3, 1) := decAll_at aL_law_6 26 rfl
theorem dL_law_627 : decode cL_law 627 = .ok (.iconst 3, 1) := decAll_at aL_law_6 27 rfl
theorem dL_law_628 : decode cL_law 628 = .ok (.iadd, 1) := decAll_at aL_law_6 28 rfl
theorem dL_law_629 : decode cL_law 629 = .ok (.iaload, 1) := decAll_at aL_law_6 29 rfl
theorem dL_law_630 : decode cL_law 630 = .ok (.invokevirtual 63, 3) := decAll_at aL_law_6 30 rfl
theorem dL_law_633 : decode cL_law 633 = .ok (.pop, 1) := decAll_at aL_law_6 31 rfl
theorem dL_law_634 : decode cL_law 634 = .ok (.goto 610, 3) := decAll_at aL_law_6 32 rfl
theorem dL_law_637 : decode cL_law 637 = .ok (.aload_n 1, 1) := decAll_at aL_law_6 33 rfl
theorem dL_law_638 : decode cL_law 638 = .ok (.aload_n 0, 1) := decAll_at aL_law_6 34 rfl
theorem dL_law_639 : decode cL_law 639 = .ok (.iload_n 3, 1) := decAll_at aL_law_6 35 rfl
theorem dL_law_640 : decode cL_law 640 = .ok (.iconst 1, 1) := decAll_at aL_law_6 36 rfl
theorem dL_law_641 : decode cL_law 641 = .ok (.iadd, 1) := decAll_at aL_law_6 37 rfl
theorem dL_law_642 : decode cL_law 642 = .ok (.iaload, 1) := decAll_at aL_law_6 38 rfl
theorem dL_law_643 : decode cL_law 643 = .ok (.aload_n 0, 1) := decAll_at aL_law_6 39 rfl
theorem dL_law_644 : decode cL_law 644 = .ok (.iload_n 3, 1) := decAll_at aL_law_6 40 rfl
theorem dL_law_645 : decode cL_law 645 = .ok (.iconst 2, 1) := decAll_at aL_law_6 41 rfl
theorem dL_law_646 : decode cL_law 646 = .ok (.iadd, 1) := decAll_at aL_law_6 42 rfl
theorem dL_law_647 : decode cL_law 647 = .ok (.iaload, 1) := decAll_at aL_law_6 43 rfl
theorem dL_law_648 : decode cL_law 648 = .ok (.invokevirtual 64, 3) := decAll_at aL_law_6 44 rfl
theorem dL_law_651 : decode cL_law 651 = .ok (.pop, 1) := decAll_at aL_law_6 45 rfl
theorem dL_law_652 : decode cL_law 652 = .ok (.aload_n 2, 1) := decAll_at aL_law_6 46 rfl
theorem dL_law_653 : decode cL_law 653 = .ok (.aload_n 0, 1) := decAll_at aL_law_6 47 rfl
theorem dL_law_654 : decode cL_law 654 = .ok (.iload_n 3, 1) := decAll_at aL_law_6 48 rfl
theorem dL_law_655 : decode cL_law 655 = .ok (.iconst 1, 1) := decAll_at aL_law_6 49 rfl
theorem dL_law_656 : decode cL_law 656 = .ok (.iadd, 1) := decAll_at aL_law_6 50 rfl
theorem dL_law_657 : decode cL_law 657 = .ok (.iaload, 1) := decAll_at aL_law_6 51 rfl
theorem dL_law_658 : decode cL_law 658 = .ok (.aload_n 0, 1) := decAll_at aL_law_6 52 rfl
theorem dL_law_659 : decode cL_law 659 = .ok (.iload_n 3, 1) := decAll_at aL_law_6 53 rfl
theorem dL_law_660 : decode cL_law 660 = .ok (.iconst 2, 1) := decAll_at aL_law_6 54 rfl
theorem dL_law_661 : decode cL_law 661 = .ok (.iadd, 1) := decAll_at aL_law_6 55 rfl
theorem dL_law_662 : decode cL_law 662 = .ok (.iaload, 1) := decAll_at aL_law_6 56 rfl
theorem dL_law_663 : decode cL_law 663 = .ok (.invokevirtual 67, 3) := decAll_at aL_law_6 57 rfl
theorem dL_law_666 : decode cL_law 666 = .ok (.pop, 1) := decAll_at aL_law_6 58 rfl
theorem dL_law_667 : decode cL_law 667 = .ok (.goto 577, 3) := decAll_at aL_law_6 59 rfl
theorem dL_law_670 : decode cL_law 670 = .ok (.aload_n 1, 1) := decAll_at aL_law_6 60 rfl
theorem dL_law_671 : decode cL_law 671 = .ok (.aload_n 0, 1) := decAll_at aL_law_6 61 rfl
theorem dL_law_672 : decode cL_law 672 = .ok (.iload_n 3, 1) := decAll_at aL_law_6 62 rfl
theorem dL_law_673 : decode cL_law 673 = .ok (.iconst 1, 1) := decAll_at aL_law_6 63 rfl
def laL_law_7 : List (Nat × Instr × Nat) := [(674, .iadd, 1), (675, .iaload, 1), (676, .aload_n 0, 1), (677, .iload_n 3, 1), (678, .iconst 2, 1), (679, .iadd, 1), (680, .iaload, 1), (681, .aload_n 0, 1), (682, .iload_n 3, 1), (683, .iconst 3, 1), (684, .iadd, 1), (685, .iaload, 1), (686, .invokevirtual 68, 3), (689, .pop, 1), (690, .aload_n 2, 1), (691, .aload_n 0, 1), (692, .iload_n 3, 1), (693, .iconst 1, 1), (694, .iadd, 1), (695, .iaload, 1), (696, .aload_n 0, 1), (697, .iload_n 3, 1), (698, .iconst 2, 1), (699, .iadd, 1), (700, .iaload, 1), (701, .aload_n 0, 1), (702, .iload_n 3, 1), (703, .iconst 3, 1), (704, .iadd, 1), (705, .iaload, 1), (706, .invokevirtual 71, 3), (709, .pop, 1), (710, .goto 534, 3), (713, .aload_n 1, 1), (714, .aload_n 0, 1), (715, .iload_n 3, 1), (716, .iconst 1, 1), (717, .iadd, 1), (718, .iaload, 1), (719, .aload_n 0, 1), (720, .iload_n 3, 1), (721, .iconst 2, 1), (722, .iadd, 1), (723, .iaload, 1), (724, .aload_n 0, 1), (725, .iload_n 3, 1), (726, .iconst 3, 1), (727, .iadd, 1), (728, .iaload, 1), (729, .invokevirtual 72, 3), (732, .pop, 1), (733, .aload_n 2, 1), (734, .aload_n 0, 1), (735, .iload_n 3, 1), (736, .iconst 1, 1), (737, .iadd, 1), (738, .iaload, 1), (739, .aload_n 0, 1), (740, .iload_n 3, 1), (741, .iconst 2, 1), (742, .iadd, 1), (743, .iaload, 1), (744, .aload_n 0, 1), (745, .iload_n 3, 1)]
theorem aL_law_7 : decAll cL_law laL_law_7 = true := by decide +kernel
theorem dL_law_674 : decode cL_law 674 = .ok (.iadd, 1) := decAll_at aL_law_7 0 rfl
theorem dL_law_675 : decode cL_law 675 = .ok (.iaload, 1) := decAll_at aL_law_7 1 rfl
theorem dL_law_676 : decode cL_law 676 = .ok (.aload_n 0, 1) := decAll_at aL_law_7 2 rfl
theorem dL_law_677 : decode cL_law 677 = .ok (.iload_n 3, 1) := decAll_at aL_law_7 3 rfl
theorem dL_law_678 : decode cL_law 678 = .ok (.iconst 2, 1) := decAll_at aL_law_7 4 rfl
theorem dL_law_679 : decode cL_law 679 = .ok (.iadd, 1) := decAll_at aL_law_7 5 rfl
theorem dL_law_680 : decode cL_law 680 = .ok (.iaload, 1) := decAll_at aL_law_7 6 rfl
theorem dL_law_681 : decode cL_law 681 = .ok (.aload_n 0, 1) := decAll_at aL_law_7 7 rfl
theorem dL_law_682 : decode cL_law 682 = .ok (.iload_n 3, 1) := decAll_at aL_law_7 8 rfl
theorem dL_law_683 : decode cL_law 683 = .ok (.iconst 3, 1) := decAll_at aL_law_7 9 rfl
theorem dL_law_684 : decode cL_law 684 = .ok (.iadd, 1) := decAll_at aL_law_7 10 rfl
theorem dL_law_685 : decode cL_law 685 = .ok (.iaload, 1) := decAll_at aL_law_7 11 rfl
theorem dL_law_686 : decode cL_law 686 = .ok (.invokevirtual 68, 3) := decAll_at aL_law_7 12 rfl
theorem dL_law_689 : decode cL_law 689 = .ok (.pop, 1) := decAll_at aL_law_7 13 rfl
theorem dL_law_690 : decode cL_law 690 = .ok (.aload_n 2, 1) := decAll_at aL_law_7 14 rfl
theorem dL_law_691 : decode cL_law 691 = .ok (.aload_n 0, 1) := decAll_at aL_law_7 15 rfl
theorem dL_law_692 : decode cL_law 692 = .ok (.iload_n 3, 1) := decAll_at aL_law_7 16 rfl
theorem dL_law_693 : decode cL_law 693 = .ok (.iconst 1, 1) := decAll_at aL_law_7 17 rfl
theorem dL_law_694 : decode cL_law 694 = .ok (.iadd, 1) := decAll_at aL_law_7 18 rfl
theorem dL_law_695 : decode cL_law 695 = .ok (.iaload, 1) := decAll_at aL_law_7 19 rfl
theorem dL_law_696 : decode cL_law 696 = .ok (.aload_n 0, 1) := decAll_at aL_law_7 20 rfl
theorem dL_law_697 : decode cL_law 697 = .ok (.iload_n 3, 1) := decAll_at aL_law_7 21 rfl
theorem dL_law_698 : decode cL_law 698 = .ok (.iconst 2, 1) := decAll_at aL_law_7 22 rfl
theorem dL_law_699 : decode cL_law 699 = .ok (.iadd, 1) := decAll_at aL_law_7 23 rfl
theorem dL_law_700 : decode cL_law 700 = .ok (.iaload, 1) := decAll_at aL_law_7 24 rfl
theorem dL_law_701 : decode cL_law 701 = .ok (.aload_n 0, 1) := decAll_at aL_law_7 25 rfl
theorem dL_law_702 : decode cL_law 702 = .ok (.iload_n 3, 1) := decAll_at aL_law_7 26 rfl
theorem dL_law_703 : decode cL_law 703 = .ok (.iconst 3, 1) := decAll_at aL_law_7 27 rfl
theorem dL_law_704 : decode cL_law 704 = .ok (.iadd, 1) := decAll_at aL_law_7 28 rfl
theorem dL_law_705 : decode cL_law 705 = .ok (.iaload, 1) := decAll_at aL_law_7 29 rfl
theorem dL_law_706 : decode cL_law 706 = .ok (.invokevirtual 71, 3) := decAll_at aL_law_7 30 rfl
theorem dL_law_709 : decode cL_law 709 = .ok (.pop, 1) := decAll_at aL_law_7 31 rfl
theorem dL_law_710 : decode cL_law 710 = .ok (.goto 534, 3) := decAll_at aL_law_7 32 rfl
theorem dL_law_713 : decode cL_law 713 = .ok (.aload_n 1, 1) := decAll_at aL_law_7 33 rfl
theorem dL_law_714 : decode cL_law 714 = .ok (.aload_n 0, 1) := decAll_at aL_law_7 34 rfl
theorem dL_law_715 : decode cL_law 715 = .ok (.iload_n 3, 1) := decAll_at aL_law_7 35 rfl
theorem dL_law_716 : decode cL_law 716 = .ok (.iconst 1, 1) := decAll_at aL_law_7 36 rfl
theorem dL_law_717 : decode cL_law 717 = .ok (.iadd, 1) := decAll_at aL_law_7 37 rfl
theorem dL_law_718 : decode cL_law 718 = .ok (.iaload, 1) := decAll_at aL_law_7 38 rfl
theorem dL_law_719 : decode cL_law 719 = .ok (.aload_n 0, 1) := decAll_at aL_law_7 39 rfl
theorem dL_law_720 : decode cL_law 720 = .ok (.iload_n 3, 1) := decAll_at aL_law_7 40 rfl
theorem dL_law_721 : decode cL_law 721 = .ok (.iconst 2, 1) := decAll_at aL_law_7 41 rfl
theorem dL_law_722 : decode cL_law 722 = .ok (.iadd, 1) := decAll_at aL_law_7 42 rfl
theorem dL_law_723 : decode cL_law 723 = .ok (.iaload, 1) := decAll_at aL_law_7 43 rfl
theorem dL_law_724 : decode cL_law 724 = .ok (.aload_n 0, 1) := decAll_at aL_law_7 44 rfl
theorem dL_law_725 : decode cL_law 725 = .ok (.iload_n 3, 1) := decAll_at aL_law_7 45 rfl
theorem dL_law_726 : decode cL_law 726 = .ok (.iconst 3, 1) := decAll_at aL_law_7 46 rfl
theorem dL_law_727 : decode cL_law 727 = .ok (.iadd, 1) := decAll_at aL_law_7 47 rfl
theorem dL_law_728 : decode cL_law 728 = .ok (.iaload, 1) := decAll_at aL_law_7 48 rfl
theorem dL_law_729 : decode cL_law 729 = .ok (.invokevirtual 72, 3) := decAll_at aL_law_7 49 rfl
theorem dL_law_732 : decode cL_law 732 = .ok (.pop, 1) := decAll_at aL_law_7 50 rfl
theorem dL_law_733 : decode cL_law 733 = .ok (.aload_n 2, 1) := decAll_at aL_law_7 51 rfl
theorem dL_law_734 : decode cL_law 734 = .ok (.aload_n 0, 1) := decAll_at aL_law_7 52 rfl
theorem dL_law_735 : decode cL_law 735 = .ok (.iload_n 3, 1) := decAll_at aL_law_7 53 rfl
theorem dL_law_736 : decode cL_law 736 = .ok (.iconst 1, 1) := decAll_at aL_law_7 54 rfl
theorem dL_law_737 : decode cL_law 737 = .ok (.iadd, 1) := decAll_at aL_law_7 55 rfl
theorem dL_law_738 : decode cL_law 738 = .ok (.iaload, 1) := decAll_at aL_law_7 56 rfl
theorem dL_law_739 : decode cL_law 739 = .ok (.aload_n 0, 1) := decAll_at aL_law_7 57 rfl
theorem dL_law_740 : decode cL_law 740 = .ok (.iload_n 3, 1) := decAll_at aL_law_7 58 rfl
theorem dL_law_741 : decode cL_law 741 = .ok (.iconst 2, 1) := decAll_at aL_law_7 59 rfl
theorem dL_law_742 : decode cL_law 742 = .ok (.iadd, 1) := decAll_at aL_law_7 60 rfl
theorem dL_law_743 : decode cL_law 743 = .ok (.iaload, 1) := decAll_at aL_law_7 61 rfl
theorem dL_law_744 : decode cL_law 744 = .ok (.aload_n 0, 1) := decAll_at aL_law_7 62 rfl
theorem dL_law_745 : decode cL_law 745 = .ok (.iload_n 3, 1) := decAll_at aL_law_7 63 rfl
def laL_law_8 : List (Nat × Instr × Nat) := [(746, .iconst 3, 1), (747, .iadd, 1), (748, .iaload, 1), (749, .invokevirtual 75, 3), (752, .pop, 1), (753, .goto 491, 3), (756, .aload_n 1, 1), (757, .aload_n 0, 1), (758, .iload_n 3, 1), (759, .iconst 1, 1), (760, .iadd, 1), (761, .iaload, 1), (762, .aload_n 0, 1), (763, .iload_n 3, 1), (764, .iconst 2, 1), (765, .iadd, 1), (766, .iaload, 1), (767, .aload_n 0, 1), (768, .iload_n 3, 1), (769, .iconst 3, 1), (770, .iadd, 1), (771, .iaload, 1), (772, .aload_n 0, 1), (773, .iload_n 3, 1), (774, .iconst 4, 1), (775, .iadd, 1), (776, .iaload, 1), (777, .invokevirtual 76, 3), (780, .pop, 1), (781, .aload_n 2, 1), (782, .aload_n 0, 1), (783, .iload_n 3, 1), (784, .iconst 1, 1), (785, .iadd, 1), (786, .iaload, 1), (787, .aload_n 0, 1), (788, .iload_n 3, 1), (789, .iconst 2, 1), (790, .iadd, 1), (791, .iaload, 1), (792, .aload_n 0, 1), (793, .iload_n 3, 1), (794, .iconst 3, 1), (795, .iadd, 1), (796, .iaload, 1), (797, .aload_n 0, 1), (798, .iload_n 3, 1), (799, .iconst 4, 1), (800, .iadd, 1), (801, .iaload, 1), (802, .invokevirtual 79, 3), (805, .pop, 1), (806, .goto 438, 3), (809, .aload_n 1, 1), (810, .aload_n 0, 1), (811, .iload_n 3, 1), (812, .iconst 1, 1), (813, .iadd, 1), (814, .iaload, 1), (815, .aload_n 0, 1), (816, .iload_n 3, 1), (817, .iconst 2, 1), (818, .iadd, 1), (819, .iaload, 1)]
theorem aL_law_8 : decAll cL_law laL_law_8 = true := by decide +kernel
theorem dL_law_746 : decode cL_law 746 = .ok (.iconst 3, 1) := decAll_at aL_law_8 0 rfl
theorem dL_law_747 : decode cL_law 747 = .ok (.iadd, 1) := decAll_at aL_law_8 1 rfl
theorem dL_law_748 : decode cL_law 748 = .ok (.iaload, 1) := decAll_at aL_law_8 2 rfl
theorem dL_law_749 : decode cL_law 749 = .ok (.invokevirtual 75, 3) := decAll_at aL_law_8 3 rfl
theorem dL_law_752 : decode cL_law 752 = .ok (.pop, 1) := decAll_at aL_law_8 4 rfl
theorem dL_law_753 : decode cL_law 753 = .ok (.goto 491, 3) := decAll_at aL_law_8 5 rfl
theorem dL_law_756 : decode cL_law 756 = .ok (.aload_n 1, 1) := decAll_at aL_law_8 6 rfl
theorem dL_law_757 : decode cL_law 757 = .ok (.aload_n 0, 1) := decAll_at aL_law_8 7 rfl
theorem dL_law_758 : decode cL_law 758 = .ok (.iload_n 3, 1) := decAll_at aL_law_8 8 rfl
theorem dL_law_759 : decode cL_law 759 = .ok (.iconst 1, 1) := decAll_at aL_law_8 9 rfl
theorem dL_law_760 : decode cL_law 760 = .ok (.iadd, 1) := decAll_at aL_law_8 10 rfl
theorem dL_law_761 : decode cL_law 761 = .ok (.iaload, 1) := decAll_at aL_law_8 11 rfl
theorem dL_law_762 : decode cL_law 762 = .ok (.aload_n 0, 1) := decAll_at aL_law_8 12 rfl
theorem dL_law_763 : decode cL_law 763 = .ok (.iload_n 3, 1) := decAll_at aL_law_8 13 rfl
theorem dL_law_764 : decode cL_law 764 = .ok (.iconst 2, 1) := decAll_at aL_law_8 14 rfl
theorem dL_law_765 : decode cL_law 765 = .ok (.iadd, 1) := decAll_at aL_law_8 15 rfl
theorem dL_law_766 : decode cL_law 766 = .ok (.iaload, 1) := decAll_at aL_law_8 16 rfl
theorem dL_law_767 : decode cL_law 767 = .ok (.aload_n 0, 1) := decAll_at aL_law_8 17 rfl
theorem dL_law_768 : decode cL_law 768 = .ok (.iload_n 3, 1) := decAll_at aL_law_8 18 rfl
theorem dL_law_769 : decode cL_law 769 = .ok (.iconst 3, 1) := decAll_at aL_law_8 19 rfl
theorem dL_law_770 : decode cL_law 770 = .ok (.iadd, 1) := decAll_at aL_law_8 20 rfl
theorem dL_law_771 : decode cL_law 771 = .ok (.iaload, 1) := decAll_at aL_law_8 21 rfl
theorem dL_law_772 : decode cL_law 772 = .ok (.aload_n 0, 1) := decAll_at aL_law_8 22 rfl
theorem dL_law_773 : decode cL_law 773 = .ok (.iload_n 3, 1) := decAll_at aL_law_8 23 rfl
theorem dL_law_774 : decode cL_law 774 = .ok (.iconst 4, 1) := decAll_at aL_law_8 24 rfl
theorem dL_law_775 : decode cL_law 775 = .ok (.iadd, 1) := decAll_at aL_law_8 25 rfl
theorem dL_law_776 : decode cL_law 776 = .ok (.iaload, 1) := decAll_at aL_law_8 26 rfl
theorem dL_law_777 : decode cL_law 777 = .ok (.invokevirtual 76, 3) := decAll_at aL_law_8 27 rfl
theorem dL_law_780 : decode cL_law 780 = .ok (.pop, 1) := decAll_at aL_law_8 28 rfl
theorem dL_law_781 : decode cL_law 781 = .ok (.aload_n 2, 1) := decAll_at aL_law_8 29 rfl
theorem dL_law_782 : decode cL_law 782 = .ok (.aload_n 0, 1) := decAll_at aL_law_8 30 rfl
theorem dL_law_783 : decode cL_law 783 = .ok (.iload_n 3, 1) := decAll_at aL_law_8 31 rfl
theorem dL_law_784 : decode cL_law 784 = .ok (.iconst 1, 1) := decAll_at aL_law_8 32 rfl
theorem dL_law_785 : decode cL_law 785 = .ok (.iadd, 1) := decAll_at aL_law_8 33 rfl
theorem dL_law_786 : decode cL_law 786 = .ok (.iaload, 1) := decAll_at aL_law_8 34 rfl
theorem dL_law_787 : decode cL_law 787 = .ok (.aload_n 0, 1) := decAll_at aL_law_8 35 rfl
theorem dL_law_788 : decode cL_law 788 = .ok (.iload_n 3, 1) := decAll_at aL_law_8 36 rfl
theorem dL_law_789 : decode cL_law 789 = .ok (.iconst 2, 1) := decAll_at aL_law_8 37 rfl
theorem dL_law_790 : decode cL_law 790 = .ok (.iadd, 1) := decAll_at aL_law_8 38 rfl
theorem dL_law_791 : decode cL_law 791 = .ok (.iaload, 1) := decAll_at aL_law_8 39 rfl
theorem dL_law_792 : decode cL_law 792 = .ok (.aload_n 0, 1) := decAll_at aL_law_8 40 rfl
theorem dL_law_793 : decode cL_law 793 = .ok (.iload_n 3, 1) := decAll_at aL_law_8 41 rfl
theorem dL_law_794 : decode cL_law 794 = .ok (.iconst 3, 1) := decAll_at aL_law_8 42 rfl
theorem dL_law_795 : decode cL_law 795 = .ok (.iadd, 1) := decAll_at aL_law_8 43 rfl
theorem dL_law_796 : decode cL_law 796 = .ok (.iaload, 1) := decAll_at aL_law_8 44 rfl
theorem dL_law_797 : decode cL_law 797 = .ok (.aload_n 0, 1) := decAll_at aL_law_8 45 rfl
theorem dL_law_798 : decode cL_law 798 = .ok (.iload_n 3, 1) := decAll_at aL_law_8 46 rfl
theorem dL_law_799 : decode cL_law 799 = .ok (.iconst 4, 1) := decAll_at aL_law_8 47 rfl
theorem dL_law_800 : decode cL_law 800 = .ok (.iadd, 1) := decAll_at aL_law_8 48 rfl
theorem dL_law_801 : decode cL_law 801 = .ok (.iaload, 1) := decAll_at aL_law_8 49 rfl
theorem dL_law_802 : decode cL_law 802 = .ok (.invokevirtual 79, 3) := decAll_at aL_law_8 50 rfl
theorem dL_law_805 : decode cL_law 805 = .ok (.pop, 1) := decAll_at aL_law_8 51 rfl
theorem dL_law_806 : decode cL_law 806 = .ok (.goto 438, 3) := decAll_at aL_law_8 52 rfl
theorem dL_law_809 : decode cL_law 809 = .ok (.aload_n 1, 1) := decAll_at aL_law_8 53 rfl
theorem dL_law_810 : decode cL_law 810 = .ok (.aload_n 0, 1) := decAll_at aL_law_8 54 rfl
theorem dL_law_811 : decode cL_law 811 = .ok (.iload_n 3, 1) := decAll_at aL_law_8 55 rfl
theorem dL_law_812 : decode cL_law 812 = .ok (.iconst 1, 1) := decAll_at aL_law_8 56 rfl
theorem dL_law_813 : decode cL_law 813 = .ok (.iadd, 1) := decAll_at aL_law_8 57 rfl
theorem dL_law_814 : decode cL_law 814 = .ok (.iaload, 1) := decAll_at aL_law_8 58 rfl
theorem dL_law_815 : decode cL_law 815 = .ok (.aload_n 0, 1) := decAll_at aL_law_8 59 rfl
theorem dL_law_816 : decode cL_law 816 = .ok (.iload_n 3, 1) := decAll_at aL_law_8 60 rfl
theorem dL_law_817 : decode cL_law 817 = .ok (.iconst 2, 1) := decAll_at aL_law_8 61 rfl
theorem dL_law_818 : decode cL_law 818 = .ok (.iadd, 1) := decAll_at aL_law_8 62 rfl
theorem dL_law_819 : decode cL_law 819 = .ok (.iaload, 1) := decAll_at aL_law_8 63 rfl
def laL_law_9 : List (Nat × Instr × Nat) := [(820, .aload_n 0, 1), (821, .iload_n 3, 1), (822, .iconst 3, 1), (823, .iadd, 1), (824, .iaload, 1), (825, .invokevirtual 80, 3), (828, .pop, 1), (829, .aload_n 2, 1), (830, .aload_n 0, 1), (831, .iload_n 3, 1), (832, .iconst 1, 1), (833, .iadd, 1), (834, .iaload, 1), (835, .aload_n 0, 1), (836, .iload_n 3, 1), (837, .iconst 2, 1), (838, .iadd, 1), (839, .iaload, 1), (840, .aload_n 0, 1), (841, .iload_n 3, 1), (842, .iconst 3, 1), (843, .iadd, 1), (844, .iaload, 1), (845, .invokevirtual 83, 3), (848, .pop, 1), (849, .goto 395, 3), (852, .aload_n 1, 1), (853, .aload_n 0, 1), (854, .iload_n 3, 1), (855, .iconst 1, 1), (856, .iadd, 1), (857, .iaload, 1), (858, .aload_n 0, 1), (859, .iload_n 3, 1), (860, .iconst 2, 1), (861, .iadd, 1), (862, .iaload, 1), (863, .invokevirtual 84, 3), (866, .pop, 1), (867, .aload_n 2, 1), (868, .aload_n 0, 1), (869, .iload_n 3, 1), (870, .iconst 1, 1), (871, .iadd, 1), (872, .iaload, 1), (873, .aload_n 0, 1), (874, .iload_n 3, 1), (875, .iconst 2, 1), (876, .iadd, 1), (877, .iaload, 1), (878, .invokevirtual 87, 3), (881, .pop, 1), (882, .goto 362, 3), (885, .aload_n 1, 1), (886, .aload_n 0, 1), (887, .iload_n 3, 1), (888, .iconst 1, 1), (889, .iadd, 1), (890, .iaload, 1), (891, .aload_n 0, 1), (892, .iload_n 3, 1), (893, .iconst 2, 1), (894, .iadd, 1), (895, .iaload, 1)]
theorem aL_law_9 : decAll cL_law laL_law_9 = true := by decide +kernel
theorem dL_law_820 : decode cL_law 820 = .ok (.aload_n 0, 1) := decAll_at aL_law_9 0 rfl
theorem dL_law_821 : decode cL_law 821 = .ok (.iload_n 3, 1) := decAll_at aL_law_9 1 rfl
theorem dL_law_822 : decode cL_law 822 = .ok (.iconst 3, 1) := decAll_at aL_law_9 2 rfl
theorem dL_law_823 : decode cL_law 823 = .ok (.iadd, 1) := decAll_at aL_law_9 3 rfl
theorem dL_law_824 : decode cL_law 824 = .ok (.iaload, 1) := decAll_at aL_law_9 4 rfl
theorem dL_law_825 : decode cL_law 825 = .ok (.invokevirtual 80, 3) := decAll_at aL_law_9 5 rfl
theorem dL_law_828 : decode cL_law 828 = .ok (.pop, 1) := decAll_at aL_law_9 6 rfl
theorem dL_law_829 : decode cL_law 829 = .ok (.aload_n 2, 1) := decAll_at aL_law_9 7 rfl
theorem dL_law_830 : decode cL_law 830 = .ok (.aload_n 0, 1) := decAll_at aL_law_9 8 rfl
theorem dL_law_831 : decode cL_law 831 = .ok (.iload_n 3, 1) := decAll_at aL_law_9 9 rfl
theorem dL_law_832 : decode cL_law 832 = .ok (.iconst 1, 1) := decAll_at aL_law_9 10 rfl
theorem dL_law_833 : decode cL_law 833 = .ok (.iadd, 1) := decAll_at aL_law_9 11 rfl
theorem dL_law_834 : decode cL_law 834 = .ok (.iaload, 1) := decAll_at aL_law_9 12 rfl
theorem dL_law_835 : decode cL_law 835 = .ok (.aload_n 0, 1) := decAll_at aL_law_9 13 rfl
theorem dL_law_836 : decode cL_law 836 = .ok (.iload_n 3, 1) := decAll_at aL_law_9 14 rfl
theorem dL_law_837 : decode cL_law 837 = .ok (.iconst 2, 1) := decAll_at aL_law_9 15 rfl
theorem dL_law_838 : decode cL_law 838 = .ok (.iadd, 1) := decAll_at aL_law_9 16 rfl
theorem dL_law_839 : decode cL_law 839 = .ok (.iaload, 1) := decAll_at aL_law_9 17 rfl
theorem dL_law_840 : decode cL_law 840 = .ok (.aload_n 0, 1) := decAll_at aL_law_9 18 rfl
theorem dL_law_841 : decode cL_law 841 = .ok (.iload_n 3, 1) := decAll_at aL_law_9 19 rfl
theorem dL_law_842 : decode cL_law 842 = .ok (.iconst 3, 1) := decAll_at aL_law_9 20 rfl
theorem dL_law_843 : decode cL_law 843 = .ok (.iadd, 1) := decAll_at aL_law_9 21 rfl
theorem dL_law_844 : decode cL_law 844 = .ok (.iaload, 1) := decAll_at aL_law_9 22 rfl
theorem dL_law_845 : decode cL_law 845 = .ok (.invokevirtual 83, 3) := decAll_at aL_law_9 23 rfl
theorem dL_law_848 : decode cL_law 848 = .ok (.pop, 1) := decAll_at aL_law_9 24 rfl
theorem dL_law_849 : decode cL_law 849 = .ok (.goto 395, 3) := decAll_at aL_law_9 25 rfl
theorem dL_law_852 : decode cL_law 852 = .ok (.aload_n 1, 1) := decAll_at aL_law_9 26 rfl
theorem dL_law_853 : decode cL_law 853 = .ok (.aload_n 0, 1) := decAll_at aL_law_9 27 rfl
theorem dL_law_854 : decode cL_law 854 = .ok (.iload_n 3, 1) := decAll_at aL_law_9 28 rfl
theorem dL_law_855 : decode cL_law 855 = .ok (.iconst 1, 1) := decAll_at aL_law_9 29 rfl
theorem dL_law_856 : decode cL_law 856 = .ok (.iadd, 1) := decAll_at aL_law_9 30 rfl
theorem dL_law_857 : decode cL_law 857 = .ok (.iaload, 1) := decAll_at aL_law_9 31 rfl
theorem dL_law_858 : decode cL_law 858 = .ok (.aload_n 0, 1) := decAll_at aL_law_9 32 rfl
theorem dL_law_859 : decode cL_law 859 = .ok (.iload_n 3, 1) := decAll_at aL_law_9 33 rfl
theorem dL_law_860 : decode cL_law 860 = .ok (.iconst 2, 1) := decAll_at aL_law_9 34 rfl
theorem dL_law_861 : decode cL_law 861 = .ok (.iadd, 1) := decAll_at aL_law_9 35 rfl
theorem dL_law_862 : decode cL_law 862 = .ok (.iaload, 1) := decAll_at aL_law_9 36 rfl
theorem dL_law_863 : decode cL_law 863 = .ok (.invokevirtual 84, 3) := decAll_at aL_law_9 37 rfl
theorem dL_law_866 : decode cL_law 866 = .ok (.pop, 1) := decAll_at aL_law_9 38 rfl
theorem dL_law_867 : decode cL_law 867 = .ok (.aload_n 2, 1) := decAll_at aL_law_9 39 rfl
theorem dL_law_868 : decode cL_law 868 = .ok (.aload_n 0, 1) := decAll_at aL_law_9 40 rfl
theorem dL_law_869 : decode cL_law 869 = .ok (.iload_n 3, 1) := decAll_at aL_law_9 41 rfl
theorem dL_law_870 : decode cL_law 870 = .ok (.iconst 1, 1) := decAll_at aL_law_9 42 rfl
theorem dL_law_871 : decode cL_law 871 = .ok (.iadd, 1) := decAll_at aL_law_9 43 rfl
theorem dL_law_872 : decode cL_law 872 = .ok (.iaload, 1) := decAll_at aL_law_9 44 rfl
theorem dL_law_873 : decode cL_law 873 = .ok (.aload_n 0, 1) := decAll_at aL_law_9 45 rfl
theorem dL_law_874 : decode cL_law 874 = .ok (.iload_n 3, 1) := decAll_at aL_law_9 46 rfl
theorem dL_law_875 : decode cL_law 875 = .ok (.iconst 2, 1) := decAll_at aL_law_9 47 rfl
theorem dL_law_876 : decode cL_law 876 = .ok (.iadd, 1) := decAll_at aL_law_9 48 rfl
theorem dL_law_877 : decode cL_law 877 = .ok (.iaload, 1) := decAll_at aL_law_9 49 rfl
theorem dL_law_878 : decode cL_law 878 = .ok (.invokevirtual 87, 3) := decAll_at aL_law_9 50 rfl
theorem dL_law_881 : decode cL_law 881 = .ok (.pop, 1) := decAll_at aL_law_9 51 rfl
theorem dL_law_882 : decode cL_law 882 = .ok (.goto 362, 3) := decAll_at aL_law_9 52 rfl
theorem dL_law_885 : decode cL_law 885 = .ok (.aload_n 1, 1) := decAll_at aL_law_9 53 rfl
theorem dL_law_886 : decode cL_law 886 = .ok (.aload_n 0, 1) := decAll_at aL_law_9 54 rfl
theorem dL_law_887 : decode cL_law 887 = .ok (.iload_n 3, 1) := decAll_at aL_law_9 55 rfl
theorem dL_law_888 : decode cL_law 888 = .ok (.iconst 1, 1) := decAll_at aL_law_9 56 rfl
theorem dL_law_889 : decode cL_law 889 = .ok (.iadd, 1) := decAll_at aL_law_9 57 rfl
theorem dL_law_890 : decode cL_law 890 = .ok (.iaload, 1) := decAll_at aL_law_9 58 rfl
theorem dL_law_891 : decode cL_law 891 = .ok (.aload_n 0, 1) := decAll_at aL_law_9 59 rfl
theorem dL_law_892 : decode cL_law 892 = .ok (.iload_n 3, 1) := decAll_at aL_law_9 60 rfl
theorem dL_law_893 : decode cL_law 893 = .ok (.iconst 2, 1) := decAll_at aL_law_9 61 rfl
theorem dL_law_894 : decode cL_law 894 = .ok (.iadd, 1) := decAll_at aL_law_9 62 rfl
theorem dL_law_895 : decode cL_law 895 = .ok (.iaload, 1) := decAll_at aL_law_9 63 rfl
def laL_law_10 : List (Nat × Instr × Nat) := [(896, .aload_n 0, 1), (897, .iload_n 3, 1), (898, .iconst 3, 1), (899, .iadd, 1), (900, .iaload, 1), (901, .invokevirtual 88, 3), (904, .pop, 1), (905, .aload_n 2, 1), (906, .aload_n 0, 1), (907, .iload_n 3, 1), (908, .iconst 1, 1), (909, .iadd, 1), (910, .iaload, 1), (911, .aload_n 0, 1), (912, .iload_n 3, 1), (913, .iconst 2, 1), (914, .iadd, 1), (915, .iaload, 1), (916, .aload_n 0, 1), (917, .iload_n 3, 1), (918, .iconst 3, 1), (919, .iadd, 1), (920, .iaload, 1), (921, .invokevirtual 91, 3), (924, .pop, 1), (925, .goto 319, 3), (928, .aload_n 1, 1), (929, .aload_n 0, 1), (930, .iload_n 3, 1), (931, .iconst 1, 1), (932, .iadd, 1), (933, .iaload, 1), (934, .aload_n 0, 1), (935, .iload_n 3, 1), (936, .iconst 2, 1), (937, .iadd, 1), (938, .iaload, 1), (939, .aload_n 0, 1), (940, .iload_n 3, 1), (941, .iconst 3, 1), (942, .iadd, 1), (943, .iaload, 1), (944, .aload_n 0, 1), (945, .iload_n 3, 1), (946, .iconst 4, 1), (947, .iadd, 1), (948, .iaload, 1), (949, .invokevirtual 92, 3), (952, .pop, 1), (953, .aload_n 2, 1), (954, .aload_n 0, 1), (955, .iload_n 3, 1), (956, .iconst 1, 1), (957, .iadd, 1), (958, .iaload, 1), (959, .aload_n 0, 1), (960, .iload_n 3, 1), (961, .iconst 2, 1), (962, .iadd, 1), (963, .iaload, 1), (964, .aload_n 0, 1), (965, .iload_n 3, 1), (966, .iconst 3, 1), (967, .iadd, 1)]
theorem aL_law_10 : decAll cL_law laL_law_10 = true := by decide +kernel
theorem dL_law_896 : decode cL_law 896 = .ok (.aload_n 0, 1) := decAll_at aL_law_10 0 rfl
theorem dL_law_897 : decode cL_law 897 = .ok (.iload_n 3, 1) := decAll_at aL_law_10 1 rfl
theorem dL_law_898 : decode cL_law 898 = .ok (.iconst 3, 1) := decAll_at aL_law_10 2 rfl
theorem dL_law_899 : decode cL_law 899 = .ok (.iadd, 1) := decAll_at aL_law_10 3 rfl
theorem dL_law_900 : decode cL_law 900 = .ok (.iaload, 1) := decAll_at aL_law_10 4 rfl
theorem dL_law_901 : decode cL_law 901 = .ok (.invokevirtual 88, 3) := decAll_at aL_law_10 5 rfl
theorem dL_law_904 : decode cL_law 904 = .ok (.pop, 1) := decAll_at aL_law_10 6 rfl
theorem dL_law_905 : decode cL_law 905 = .ok (.aload_n 2, 1) := decAll_at aL_law_10 7 rfl
theorem dL_law_906 : decode cL_law 906 = .ok (.aload_n 0, 1) := decAll_at aL_law_10 8 rfl
theorem dL_law_907 : decode cL_law 907 = .ok (.iload_n 3, 1) := decAll_at aL_law_10 9 rfl
theorem dL_law_908 : decode cL_law 908 = .ok (.iconst 1, 1) := decAll_at aL_law_10 10 rfl
theorem dL_law_909 : decode cL_law 909 = .ok (.iadd, 1) := decAll_at aL_law_10 11 rfl
theorem dL_law_910 : decode cL_law 910 = .ok (.iaload, 1) := decAll_at aL_law_10 12 rfl
theorem dL_law_911 : decode cL_law 911 = .ok (.aload_n 0, 1) := decAll_at aL_law_10 13 rfl
theorem dL_law_912 : decode cL_law 912 = .ok (.iload_n 3, 1) := decAll_at aL_law_10 14 rfl
theorem dL_law_913 : decode cL_law 913 = .ok (.iconst 2, 1) := decAll_at aL_law_10 15 rfl
theorem dL_law_914 : decode cL_law 914 = .ok (.iadd, 1) := decAll_at aL_law_10 16 rfl
theorem dL_law_915 : decode cL_law 915 = .ok (.iaload, 1) := decAll_at aL_law_10 17 rfl
theorem dL_law_916 : decode cL_law 916 = .ok (.aload_n 0, 1) := decAll_at aL_law_10 18 rfl
theorem dL_law_917 : decode cL_law 917 = .ok (.iload_n 3, 1) := decAll_at aL_law_10 19 rfl
theorem dL_law_918 : decode cL_law 918 = .ok (.iconst 3, 1) := decAll_at aL_law_10 20 rfl
theorem dL_law_919 : decode cL_law 919 = .ok (.iadd, 1) := decAll_at aL_law_10 21 rfl
theorem dL_law_920 : decode cL_law 920 = .ok (.iaload, 1) := decAll_at aL_law_10 22 rfl
theorem dL_law_921 : decode cL_law 921 = .ok (.invokevirtual 91, 3) := decAll_at aL_law_10 23 rfl
theorem dL_law_924 : decode cL_law 924 = .ok (.pop, 1) := decAll_at aL_law_10 24 rfl
theorem dL_law_925 : decode cL_law 925 = .ok (.goto 319, 3) := decAll_at aL_law_10 25 rfl
theorem dL_law_928 : decode cL_law 928 = .ok (.aload_n 1, 1) := decAll_at aL_law_10 26 rfl
theorem dL_law_929 : decode cL_law 929 = .ok (.aload_n 0, 1) := decAll_at aL_law_10 27 rfl
theorem dL_law_930 : decode cL_law 930 = .ok (.iload_n 3, 1) := decAll_at aL_law_10 28 rfl
theorem dL_law_931 : decode cL_law 931 = .ok (.iconst 1, 1) := decAll_at aL_law_10 29 rfl
theorem dL_law_932 : decode cL_law 932 = .ok (.iadd, 1) := decAll_at aL_law_10 30 rfl
theorem dL_law_933 : decode cL_law 933 = .ok (.iaload, 1) := decAll_at aL_law_10 31 rfl
theorem dL_law_934 : decode cL_law 934 = .ok (.aload_n 0, 1) := decAll_at aL_law_10 32 rfl
theorem dL_law_935 : decode cL_law 935 = .ok (.iload_n 3, 1) := decAll_at aL_law_10 33 rfl
theorem dL_law_936 : decode cL_law 936 = .ok (.iconst 2, 1) := decAll_at aL_law_10 34 rfl
theorem dL_law_937 : decode cL_law 937 = .ok (.iadd, 1) := decAll_at aL_law_10 35 rfl
theorem dL_law_938 : decode cL_law 938 = .ok (.iaload, 1) := decAll_at aL_law_10 36 rfl
theorem dL_law_939 : decode cL_law 939 = .ok (.aload_n 0, 1) := decAll_at aL_law_10 37 rfl
theorem dL_law_940 : decode cL_law 940 = .ok (.iload_n 3, 1) := decAll_at aL_law_10 38 rfl
theorem dL_law_941 : decode cL_law 941 = .ok (.iconst 3, 1) := decAll_at aL_law_10 39 rfl
theorem dL_law_942 : decode cL_law 942 = .ok (.iadd, 1) := decAll_at aL_law_10 40 rfl
theorem dL_law_943 : decode cL_law 943 = .ok (.iaload, 1) := decAll_at aL_law_10 41 rfl
theorem dL_law_944 : decode cL_law 944 = .ok (.aload_n 0, 1) := decAll_at aL_law_10 42 rfl
theorem dL_law_945 : decode cL_law 945 = .ok (.iload_n 3, 1) := decAll_at aL_law_10 43 rfl
theorem dL_law_946 : decode cL_law 946 = .ok (.iconst 4, 1) := decAll_at aL_law_10 44 rfl
theorem dL_law_947 : decode cL_law 947 = .ok (.iadd, 1) := decAll_at aL_law_10 45 rfl
theorem dL_law_948 : decode cL_law 948 = .ok (.iaload, 1) := decAll_at aL_law_10 46 rfl
theorem dL_law_949 : decode cL_law 949 = .ok (.invokevirtual 92, 3) := decAll_at aL_law_10 47 rfl
theorem dL_law_952 : decode cL_law 952 = .ok (.pop, 1) := decAll_at aL_law_10 48 rfl
theorem dL_law_953 : decode cL_law 953 = .ok (.aload_n 2, 1) := decAll_at aL_law_10 49 rfl
theorem dL_law_954 : decode cL_law 954 = .ok (.aload_n 0, 1) := decAll_at aL_law_10 50 rfl
theorem dL_law_955 : decode cL_law 955 = .ok (.iload_n 3, 1) := decAll_at aL_law_10 51 rfl
theorem dL_law_956 : decode cL_law 956 = .ok (.iconst 1, 1) := decAll_at aL_law_10 52 rfl
theorem dL_law_957 : decode cL_law 957 = .ok (.iadd, 1) := decAll_at aL_law_10 53 rfl
theorem dL_law_958 : decode cL_law 958 = .ok (.iaload, 1) := decAll_at aL_law_10 54 rfl
theorem dL_law_959 : decode cL_law 959 = .ok (.aload_n 0, 1) := decAll_at aL_law_10 55 rfl
theorem dL_law_960 : decode cL_law 960 = .ok (.iload_n 3, 1) := decAll_at aL_law_10 56 rfl
theorem dL_law_961 : decode cL_law 961 = .ok (.iconst 2, 1) := decAll_at aL_law_10 57 rfl
theorem dL_law_962 : decode cL_law 962 = .ok (.iadd, 1) := decAll_at aL_law_10 58 rfl
theorem dL_law_963 : decode cL_law 963 = .ok (.iaload, 1) := decAll_at aL_law_10 59 rfl
theorem dL_law_964 : decode cL_law 964 = .ok (.aload_n 0, 1) := decAll_at aL_law_10 60 rfl
theorem dL_law_965 : decode cL_law 965 = .ok (.iload_n 3, 1) := decAll_at aL_law_10 61 rfl
theorem dL_law_966 : decode cL_law 966 = .ok (.iconst 3, 1) := decAll_at aL_law_10 62 rfl
theorem dL_law_967 : decode cL_law 967 = .ok (.iadd, 1) := decAll_at aL_law_10 63 rfl
def laL_law_11 : List (Nat × Instr × Nat) := [(968, .iaload, 1), (969, .aload_n 0, 1), (970, .iload_n 3, 1), (971, .iconst 4, 1), (972, .iadd, 1), (973, .iaload, 1), (974, .invokevirtual 95, 3), (977, .pop, 1), (978, .goto 266, 3), (981, .aload_n 1, 1), (982, .aload_n 0, 1), (983, .iload_n 3, 1), (984, .iconst 1, 1), (985, .iadd, 1), (986, .iaload, 1), (987, .invokevirtual 96, 3), (990, .pop, 1), (991, .aload_n 2, 1), (992, .aload_n 0, 1), (993, .iload_n 3, 1), (994, .iconst 1, 1), (995, .iadd, 1), (996, .iaload, 1), (997, .invokevirtual 99, 3), (1000, .pop, 1), (1001, .goto 243, 3), (1004, .aload_n 1, 1), (1005, .aload_n 0, 1), (1006, .iload_n 3, 1), (1007, .iconst 1, 1), (1008, .iadd, 1), (1009, .iaload, 1), (1010, .invokevirtual 100, 3), (1013, .aload_n 2, 1), (1014, .aload_n 0, 1), (1015, .iload_n 3, 1), (1016, .iconst 1, 1), (1017, .iadd, 1), (1018, .iaload, 1), (1019, .invokevirtual 103, 3), (1022, .if_icmp .eq 222, 3), (1025, .iconst 0, 1), (1026, .ireturn, 1), (1027, .aload_n 1, 1), (1028, .aload_n 0, 1), (1029, .iload_n 3, 1), (1030, .iconst 1, 1), (1031, .iadd, 1), (1032, .iaload, 1), (1033, .invokevirtual 104, 3), (1036, .pop, 1), (1037, .aload_n 2, 1), (1038, .aload_n 0, 1), (1039, .iload_n 3, 1), (1040, .iconst 1, 1), (1041, .iadd, 1), (1042, .iaload, 1), (1043, .invokevirtual 107, 3), (1046, .pop, 1), (1047, .goto 197, 3), (1050, .aload_n 1, 1), (1051, .aload_n 0, 1), (1052, .iload_n 3, 1), (1053, .iconst 1, 1)]
theorem aL_law_11 : decAll cL_law laL_law_11 = true := by decide +kernel
theorem dL_law_968 : decode cL_law 968 = .ok (.iaload, 1) := decAll_at aL_law_11 0 rfl
theorem dL_law_969 : decode cL_law 969 = .ok (.aload_n 0, 1) := decAll_at aL_law_11 1 rfl
theorem dL_law_970 : decode cL_law 970 = .ok (.iload_n 3, 1) := decAll_at aL_law_11 2 rfl
theorem dL_law_971 : decode cL_law 971 = .ok (.iconst 4, 1) := decAll_at aL_law_11 3 rfl
theorem dL_law_972 : decode cL_law 972 = .ok (.iadd, 1) := decAll_at aL_law_11 4 rfl
theorem dL_law_973 : decode cL_law 973 = .ok (.iaload, 1) := decAll_at aL_law_11 5 rfl
theorem dL_law_974 : decode cL_law 974 = .ok (.invokevirtual 95, 3) := decAll_at aL_law_11 6 rfl
theorem dL_law_977 : decode cL_law 977 = .ok (.pop, 1) := decAll_at aL_law_11 7 rfl
theorem dL_law_978 : decode cL_law 978 = .ok (.goto 266, 3) := decAll_at aL_law_11 8 rfl
theorem dL_law_981 : decode cL_law 981 = .ok (.aload_n 1, 1) := decAll_at aL_law_11 9 rfl
theorem dL_law_982 : decode cL_law 982 = .ok (.aload_n 0, 1) := decAll_at aL_law_11 10 rfl
theorem dL_law_983 : decode cL_law 983 = .ok (.iload_n 3, 1) := decAll_at aL_law_11 11 rfl
theorem dL_law_984 : decode cL_law 984 = .ok (.iconst 1, 1) := decAll_at aL_law_11 12 rfl
theorem dL_law_985 : decode cL_law 985 = .ok (.iadd, 1) := decAll_at aL_law_11 13 rfl
theorem dL_law_986 : decode cL_law 986 = .ok (.iaload, 1) := decAll_at aL_law_11 14 rfl
theorem dL_law_987 : decode cL_law 987 = .ok (.invokevirtual 96, 3) := decAll_at aL_law_11 15 rfl
theorem dL_law_990 : decode cL_law 990 = .ok (.pop, 1) := decAll_at aL_law_11 16 rfl
theorem dL_law_991 : decode cL_law 991 = .ok (.aload_n 2, 1) := decAll_at aL_law_11 17 rfl
theorem dL_law_992 : decode cL_law 992 = .ok (.aload_n 0, 1) := decAll_at aL_law_11 18 rfl
theorem dL_law_993 : decode cL_law 993 = .ok (.iload_n 3, 1) := decAll_at aL_law_11 19 rfl
theorem dL_law_994 : decode cL_law 994 = .ok (.iconst 1, 1) := decAll_at aL_law_11 20 rfl
theorem dL_law_995 : decode cL_law 995 = .ok (.iadd, 1) := decAll_at aL_law_11 21 rfl
theorem dL_law_996 : decode cL_law 996 = .ok (.iaload, 1) := decAll_at aL_law_11 22 rfl
theorem dL_law_997 : decode cL_law 997 = .ok (.invokevirtual 99, 3) := decAll_at aL_law_11 23 rfl
theorem dL_law_1000 : decode cL_law 1000 = .ok (.pop, 1) := decAll_at aL_law_11 24 rfl
theorem dL_law_1001 : decode cL_law 1001 = .ok (.goto 243, 3) := decAll_at aL_law_11 25 rfl
theorem dL_law_1004 : decode cL_law 1004 = .ok (.aload_n 1, 1) := decAll_at aL_law_11 26 rfl
theorem dL_law_1005 : decode cL_law 1005 = .ok (.aload_n 0, 1) := decAll_at aL_law_11 27 rfl
theorem dL_law_1006 : decode cL_law 1006 = .ok (.iload_n 3, 1) := decAll_at aL_law_11 28 rfl
theorem dL_law_1007 : decode cL_law 1007 = .ok (.iconst 1, 1) := decAll_at aL_law_11 29 rfl
theorem dL_law_1008 : decode cL_law 1008 = .ok (.iadd, 1) := decAll_at aL_law_11 30 rfl
theorem dL_law_1009 : decode cL_law 1009 = .ok (.iaload, 1) := decAll_at aL_law_11 31 rfl
theorem dL_law_1010 : decode cL_law 1010 = .ok (.invokevirtual 100, 3) := decAll_at aL_law_11 32 rfl
theorem dL_law_1013 : decode cL_law 1013 = .ok (.aload_n 2, 1) := decAll_at aL_law_11 33 rfl
theorem dL_law_1014 : decode cL_law 1014 = .ok (.aload_n 0, 1) := decAll_at aL_law_11 34 rfl
theorem dL_law_1015 : decode cL_law 1015 = .ok (.iload_n 3, 1) := decAll_at aL_law_11 35 rfl
theorem dL_law_1016 : decode cL_law 1016 = .ok (.iconst 1, 1) := decAll_at aL_law_11 36 rfl
theorem dL_law_1017 : decode cL_law 1017 = .ok (.iadd, 1) := decAll_at aL_law_11 37 rfl
theorem dL_law_1018 : decode cL_law 1018 = .ok (.iaload, 1) := decAll_at aL_law_11 38 rfl
theorem dL_law_1019 : decode cL_law 1019 = .ok (.invokevirtual 103, 3) := decAll_at aL_law_11 39 rfl
theorem dL_law_1022 : decode cL_law 1022 = .ok (.if_icmp .eq 222, 3) := decAll_at aL_law_11 40 rfl
theorem dL_law_1025 : decode cL_law 1025 = .ok (.iconst 0, 1) := decAll_at aL_law_11 41 rfl
theorem dL_law_1026 : decode cL_law 1026 = .ok (.ireturn, 1) := decAll_at aL_law_11 42 rfl
theorem dL_law_1027 : decode cL_law 1027 = .ok (.aload_n 1, 1) := decAll_at aL_law_11 43 rfl
theorem dL_law_1028 : decode cL_law 1028 = .ok (.aload_n 0, 1) := decAll_at aL_law_11 44 rfl
theorem dL_law_1029 : decode cL_law 1029 = .ok (.iload_n 3, 1) := decAll_at aL_law_11 45 rfl
theorem dL_law_1030 : decode cL_law 1030 = .ok (.iconst 1, 1) := decAll_at aL_law_11 46 rfl
theorem dL_law_1031 : decode cL_law 1031 = .ok (.iadd, 1) := decAll_at aL_law_11 47 rfl
theorem dL_law_1032 : decode cL_law 1032 = .ok (.iaload, 1) := decAll_at aL_law_11 48 rfl
theorem dL_law_1033 : decode cL_law 1033 = .ok (.invokevirtual 104, 3) := decAll_at aL_law_11 49 rfl
theorem dL_law_1036 : decode cL_law 1036 = .ok (.pop, 1) := decAll_at aL_law_11 50 rfl
theorem dL_law_1037 : decode cL_law 1037 = .ok (.aload_n 2, 1) := decAll_at aL_law_11 51 rfl
theorem dL_law_1038 : decode cL_law 1038 = .ok (.aload_n 0, 1) := decAll_at aL_law_11 52 rfl
theorem dL_law_1039 : decode cL_law 1039 = .ok (.iload_n 3, 1) := decAll_at aL_law_11 53 rfl
theorem dL_law_1040 : decode cL_law 1040 = .ok (.iconst 1, 1) := decAll_at aL_law_11 54 rfl
theorem dL_law_1041 : decode cL_law 1041 = .ok (.iadd, 1) := decAll_at aL_law_11 55 rfl
theorem dL_law_1042 : decode cL_law 1042 = .ok (.iaload, 1) := decAll_at aL_law_11 56 rfl
theorem dL_law_1043 : decode cL_law 1043 = .ok (.invokevirtual 107, 3) := decAll_at aL_law_11 57 rfl
theorem dL_law_1046 : decode cL_law 1046 = .ok (.pop, 1) := decAll_at aL_law_11 58 rfl
theorem dL_law_1047 : decode cL_law 1047 = .ok (.goto 197, 3) := decAll_at aL_law_11 59 rfl
theorem dL_law_1050 : decode cL_law 1050 = .ok (.aload_n 1, 1) := decAll_at aL_law_11 60 rfl
theorem dL_law_1051 : decode cL_law 1051 = .ok (.aload_n 0, 1) := decAll_at aL_law_11 61 rfl
theorem dL_law_1052 : decode cL_law 1052 = .ok (.iload_n 3, 1) := decAll_at aL_law_11 62 rfl
theorem dL_law_1053 : decode cL_law 1053 = .ok (.iconst 1, 1) := decAll_at aL_law_11 63 rfl
def laL_law_12 : List (Nat × Instr × Nat) := [(1054, .iadd, 1), (1055, .iaload, 1), (1056, .invokevirtual 108, 3), (1059, .pop, 1), (1060, .aload_n 2, 1), (1061, .aload_n 0, 1), (1062, .iload_n 3, 1), (1063, .iconst 1, 1), (1064, .iadd, 1), (1065, .iaload, 1), (1066, .invokevirtual 111, 3), (1069, .pop, 1), (1070, .goto 174, 3), (1073, .aload_n 1, 1), (1074, .aload_n 0, 1), (1075, .iload_n 3, 1), (1076, .iconst 1, 1), (1077, .iadd, 1), (1078, .iaload, 1), (1079, .invokevirtual 112, 3), (1082, .pop, 1), (1083, .aload_n 2, 1), (1084, .aload_n 0, 1), (1085, .iload_n 3, 1), (1086, .iconst 1, 1), (1087, .iadd, 1), (1088, .iaload, 1), (1089, .invokevirtual 115, 3), (1092, .pop, 1), (1093, .goto 151, 3), (1096, .aload_n 1, 1), (1097, .aload_n 0, 1), (1098, .iload_n 3, 1), (1099, .iconst 1, 1), (1100, .iadd, 1), (1101, .iaload, 1), (1102, .invokevirtual 116, 3), (1105, .pop, 1), (1106, .aload_n 2, 1), (1107, .aload_n 0, 1), (1108, .iload_n 3, 1), (1109, .iconst 1, 1), (1110, .iadd, 1), (1111, .iaload, 1), (1112, .invokevirtual 119, 3), (1115, .pop, 1), (1116, .goto 128, 3), (1119, .aload_n 1, 1), (1120, .invokevirtual 120, 3), (1123, .pop, 1), (1124, .aload_n 2, 1), (1125, .invokevirtual 124, 3), (1128, .pop, 1), (1129, .goto 115, 3), (1132, .aload_n 1, 1), (1133, .aload_n 0, 1), (1134, .iload_n 3, 1), (1135, .iconst 1, 1), (1136, .iadd, 1), (1137, .iaload, 1), (1138, .aload_n 0, 1), (1139, .iload_n 3, 1), (1140, .iconst 2, 1), (1141, .iadd, 1)]
theorem aL_law_12 : decAll cL_law laL_law_12 = true := by decide +kernel
theorem dL_law_1054 : decode cL_law 1054 = .ok (.iadd, 1) := decAll_at aL_law_12 0 rfl
theorem dL_law_1055 : decode cL_law 1055 = .ok (.iaload, 1) := decAll_at aL_law_12 1 rfl
theorem dL_law_1056 : decode cL_law 1056 = .ok (.invokevirtual 108, 3) := decAll_at aL_law_12 2 rfl
theorem dL_law_1059 : decode cL_law 1059 = .ok (.pop, 1) := decAll_at aL_law_12 3 rfl
theorem dL_law_1060 : decode cL_law 1060 = .ok (.aload_n 2, 1) := decAll_at aL_law_12 4 rfl
theorem dL_law_1061 : decode cL_law 1061 = .ok (.aload_n 0, 1) := decAll_at aL_law_12 5 rfl
theorem dL_law_1062 : decode cL_law 1062 = .ok (.iload_n 3, 1) := decAll_at aL_law_12 6 rfl
theorem dL_law_1063 : decode cL_law 1063 = .ok (.iconst 1, 1) := decAll_at aL_law_12 7 rfl
theorem dL_law_1064 : decode cL_law 1064 = .ok (.iadd, 1) := decAll_at aL_law_12 8 rfl
theorem dL_law_1065 : decode cL_law 1065 = .ok (.iaload, 1) := decAll_at aL_law_12 9 rfl
theorem dL_law_1066 : decode cL_law 1066 = .ok (.invokevirtual 111, 3) := decAll_at aL_law_12 10 rfl
theorem dL_law_1069 : decode cL_law 1069 = .ok (.pop, 1) := decAll_at aL_law_12 11 rfl
theorem dL_law_1070 : decode cL_law 1070 = .ok (.goto 174, 3) := decAll_at aL_law_12 12 rfl
theorem dL_law_1073 : decode cL_law 1073 = .ok (.aload_n 1, 1) := decAll_at aL_law_12 13 rfl
theorem dL_law_1074 : decode cL_law 1074 = .ok (.aload_n 0, 1) := decAll_at aL_law_12 14 rfl
theorem dL_law_1075 : decode cL_law 1075 = .ok (.iload_n 3, 1) := decAll_at aL_law_12 15 rfl
theorem dL_law_1076 : decode cL_law 1076 = .ok (.iconst 1, 1) := decAll_at aL_law_12 16 rfl
theorem dL_law_1077 : decode cL_law 1077 = .ok (.iadd, 1) := decAll_at aL_law_12 17 rfl
theorem dL_law_1078 : decode cL_law 1078 = .ok (.iaload, 1) := decAll_at aL_law_12 18 rfl
theorem dL_law_1079 : decode cL_law 1079 = .ok (.invokevirtual 112, 3) := decAll_at aL_law_12 19 rfl
theorem dL_law_1082 : decode cL_law 1082 = .ok (.pop, 1) := decAll_at aL_law_12 20 rfl
theorem dL_law_1083 : decode cL_law 1083 = .ok (.aload_n 2, 1) := decAll_at aL_law_12 21 rfl
theorem dL_law_1084 : decode cL_law 1084 = .ok (.aload_n 0, 1) := decAll_at aL_law_12 22 rfl
theorem dL_law_1085 : decode cL_law 1085 = .ok (.iload_n 3, 1) := decAll_at aL_law_12 23 rfl
theorem dL_law_1086 : decode cL_law 1086 = .ok (.iconst 1, 1) := decAll_at aL_law_12 24 rfl
theorem dL_law_1087 : decode cL_law 1087 = .ok (.iadd, 1) := decAll_at aL_law_12 25 rfl
theorem dL_law_1088 : decode cL_law 1088 = .ok (.iaload, 1) := decAll_at aL_law_12 26 rfl
theorem dL_law_1089 : decode cL_law 1089 = .ok (.invokevirtual 115, 3) := decAll_at aL_law_12 27 rfl
theorem dL_law_1092 : decode cL_law 1092 = .ok (.pop, 1) := decAll_at aL_law_12 28 rfl
theorem dL_law_1093 : decode cL_law 1093 = .ok (.goto 151, 3) := decAll_at aL_law_12 29 rfl
theorem dL_law_1096 : decode cL_law 1096 = .ok (.aload_n 1, 1) := decAll_at aL_law_12 30 rfl
theorem dL_law_1097 : decode cL_law 1097 = .ok (.aload_n 0, 1) := decAll_at aL_law_12 31 rfl
theorem dL_law_1098 : decode cL_law 1098 = .ok (.iload_n 3, 1) := decAll_at aL_law_12 32 rfl
theorem dL_law_1099 : decode cL_law 1099 = .ok (.iconst 1, 1) := decAll_at aL_law_12 33 rfl
theorem dL_law_1100 : decode cL_law 1100 = .ok (.iadd, 1) := decAll_at aL_law_12 34 rfl
theorem dL_law_1101 : decode cL_law 1101 = .ok (.iaload, 1) := decAll_at aL_law_12 35 rfl
theorem dL_law_1102 : decode cL_law 1102 = .ok (.invokevirtual 116, 3) := decAll_at aL_law_12 36 rfl
theorem dL_law_1105 : decode cL_law 1105 = .ok (.pop, 1) := decAll_at aL_law_12 37 rfl
theorem dL_law_1106 : decode cL_law 1106 = .ok (.aload_n 2, 1) := decAll_at aL_law_12 38 rfl
theorem dL_law_1107 : decode cL_law 1107 = .ok (.aload_n 0, 1) := decAll_at aL_law_12 39 rfl
theorem dL_law_1108 : decode cL_law 1108 = .ok (.iload_n 3, 1) := decAll_at aL_law_12 40 rfl
theorem dL_law_1109 : decode cL_law 1109 = .ok (.iconst 1, 1) := decAll_at aL_law_12 41 rfl
theorem dL_law_1110 : decode cL_law 1110 = .ok (.iadd, 1) := decAll_at aL_law_12 42 rfl
theorem dL_law_1111 : decode cL_law 1111 = .ok (.iaload, 1) := decAll_at aL_law_12 43 rfl
theorem dL_law_1112 : decode cL_law 1112 = .ok (.invokevirtual 119, 3) := decAll_at aL_law_12 44 rfl
theorem dL_law_1115 : decode cL_law 1115 = .ok (.pop, 1) := decAll_at aL_law_12 45 rfl
theorem dL_law_1116 : decode cL_law 1116 = .ok (.goto 128, 3) := decAll_at aL_law_12 46 rfl
theorem dL_law_1119 : decode cL_law 1119 = .ok (.aload_n 1, 1) := decAll_at aL_law_12 47 rfl
theorem dL_law_1120 : decode cL_law 1120 = .ok (.invokevirtual 120, 3) := decAll_at aL_law_12 48 rfl
theorem dL_law_1123 : decode cL_law 1123 = .ok (.pop, 1) := decAll_at aL_law_12 49 rfl
theorem dL_law_1124 : decode cL_law 1124 = .ok (.aload_n 2, 1) := decAll_at aL_law_12 50 rfl
theorem dL_law_1125 : decode cL_law 1125 = .ok (.invokevirtual 124, 3) := decAll_at aL_law_12 51 rfl
theorem dL_law_1128 : decode cL_law 1128 = .ok (.pop, 1) := decAll_at aL_law_12 52 rfl
theorem dL_law_1129 : decode cL_law 1129 = .ok (.goto 115, 3) := decAll_at aL_law_12 53 rfl
theorem dL_law_1132 : decode cL_law 1132 = .ok (.aload_n 1, 1) := decAll_at aL_law_12 54 rfl
theorem dL_law_1133 : decode cL_law 1133 = .ok (.aload_n 0, 1) := decAll_at aL_law_12 55 rfl
theorem dL_law_1134 : decode cL_law 1134 = .ok (.iload_n 3, 1) := decAll_at aL_law_12 56 rfl
theorem dL_law_1135 : decode cL_law 1135 = .ok (.iconst 1, 1) := decAll_at aL_law_12 57 rfl
theorem dL_law_1136 : decode cL_law 1136 = .ok (.iadd, 1) := decAll_at aL_law_12 58 rfl
theorem dL_law_1137 : decode cL_law 1137 = .ok (.iaload, 1) := decAll_at aL_law_12 59 rfl
theorem dL_law_1138 : decode cL_law 1138 = .ok (.aload_n 0, 1) := decAll_at aL_law_12 60 rfl
theorem dL_law_1139 : decode cL_law 1139 = .ok (.iload_n 3, 1) := decAll_at aL_law_12 61 rfl
theorem dL_law_1140 : decode cL_law 1140 = .ok (.iconst 2, 1) := decAll_at aL_law_12 62 rfl
theorem dL_law_1141 : decode cL_law 1141 = .ok (.iadd, 1) := decAll_at aL_law_12 63 rfl
def laL_law_13 : List (Nat × Instr × Nat) := [(1142, .iaload, 1), (1143, .aload_n 0, 1), (1144, .iload_n 3, 1), (1145, .iconst 3, 1), (1146, .iadd, 1), (1147, .iaload, 1), (1148, .invokevirtual 125, 3), (1151, .pop, 1), (1152, .aload_n 2, 1), (1153, .aload_n 0, 1), (1154, .iload_n 3, 1), (1155, .iconst 1, 1), (1156, .iadd, 1), (1157, .iaload, 1), (1158, .aload_n 0, 1), (1159, .iload_n 3, 1), (1160, .iconst 2, 1), (1161, .iadd, 1), (1162, .iaload, 1), (1163, .aload_n 0, 1), (1164, .iload_n 3, 1), (1165, .iconst 3, 1), (1166, .iadd, 1), (1167, .iaload, 1), (1168, .invokevirtual 128, 3), (1171, .pop, 1), (1172, .goto 72, 3), (1175, .aload_n 1, 1), (1176, .aload_n 0, 1), (1177, .iload_n 3, 1), (1178, .iconst 1, 1), (1179, .iadd, 1), (1180, .iaload, 1), (1181, .invokevirtual 129, 3), (1184, .pop, 1), (1185, .aload_n 2, 1), (1186, .aload_n 0, 1), (1187, .iload_n 3, 1), (1188, .iconst 1, 1), (1189, .iadd, 1), (1190, .iaload, 1), (1191, .invokevirtual 132, 3), (1194, .pop, 1), (1195, .goto 49, 3), (1198, .aload_n 1, 1), (1199, .aload_n 0, 1), (1200, .iload_n 3, 1), (1201, .iconst 1, 1), (1202, .iadd, 1), (1203, .iaload, 1), (1204, .invokevirtual 133, 3), (1207, .pop, 1), (1208, .aload_n 2, 1), (1209, .aload_n 0, 1), (1210, .iload_n 3, 1), (1211, .iconst 1, 1), (1212, .iadd, 1), (1213, .iaload, 1), (1214, .invokevirtual 136, 3), (1217, .pop, 1), (1218, .goto 26, 3), (1221, .aload_n 1, 1), (1222, .aload_n 0, 1), (1223, .iload_n 3, 1)]
theorem aL_law_13 : decAll cL_law laL_law_13 = true := by decide +kernel
theorem dL_law_1142 : decode cL_law 1142 = .ok (.iaload, 1) := decAll_at aL_law_13 0 rfl
theorem dL_law_1143 : decode cL_law 1143 = .ok (.aload_n 0, 1) := decAll_at aL_law_13 1 rfl
theorem dL_law_1144 : decode cL_law 1144 = .ok (.iload_n 3, 1) := decAll_at aL_law_13 2 rfl
theorem dL_law_1145 : decode cL_law 1145 = .ok (.iconst 3, 1) := decAll_at aL_law_13 3 rfl
theorem dL_law_1146 : decode cL_law 1146 = .ok (.iadd, 1) := decAll_at aL_law_13 4 rfl
theorem dL_law_1147 : decode cL_law 1147 = .ok (.iaload, 1) := decAll_at aL_law_13 5 rfl
theorem dL_law_1148 : decode cL_law 1148 = .ok (.invokevirtual 125, 3) := decAll_at aL_law_13 6 rfl
theorem dL_law_1151 : decode cL_law 1151 = .ok (.pop, 1) := decAll_at aL_law_13 7 rfl
theorem dL_law_1152 : decode cL_law 1152 = .ok (.aload_n 2, 1) := decAll_at aL_law_13 8 rfl
theorem dL_law_1153 : decode cL_law 1153 = .ok (.aload_n 0, 1) := decAll_at aL_law_13 9 rfl
theorem dL_law_1154 : decode cL_law 1154 = .ok (.iload_n 3, 1) := decAll_at aL_law_13 10 rfl
theorem dL_law_1155 : decode cL_law 1155 = .ok (.iconst 1, 1) := decAll_at aL_law_13 11 rfl
theorem dL_law_1156 : decode cL_law 1156 = .ok (.iadd, 1) := decAll_at aL_law_13 12 rfl
theorem dL_law_1157 : decode cL_law 1157 = .ok (.iaload, 1) := decAll_at aL_law_13 13 rfl
theorem dL_law_1158 : decode cL_law 1158 = .ok (.aload_n 0, 1) := decAll_at aL_law_13 14 rfl
theorem dL_law_1159 : decode cL_law 1159 = .ok (.iload_n 3, 1) := decAll_at aL_law_13 15 rfl
theorem dL_law_1160 : decode cL_law 1160 = .ok (.iconst 2, 1) := decAll_at aL_law_13 16 rfl
theorem dL_law_1161 : decode cL_law 1161 = .ok (.iadd, 1) := decAll_at aL_law_13 17 rfl
theorem dL_law_1162 : decode cL_law 1162 = .ok (.iaload, 1) := decAll_at aL_law_13 18 rfl
theorem dL_law_1163 : decode cL_law 1163 = .ok (.aload_n 0, 1) := decAll_at aL_law_13 19 rfl
theorem dL_law_1164 : decode cL_law 1164 = .ok (.iload_n 3, 1) := decAll_at aL_law_13 20 rfl
theorem dL_law_1165 : decode cL_law 1165 = .ok (.iconst 3, 1) := decAll_at aL_law_13 21 rfl
theorem dL_law_1166 : decode cL_law 1166 = .ok (.iadd, 1) := decAll_at aL_law_13 22 rfl
theorem dL_law_1167 : decode cL_law 1167 = .ok (.iaload, 1) := decAll_at aL_law_13 23 rfl
theorem dL_law_1168 : decode cL_law 1168 = .ok (.invokevirtual 128, 3) := decAll_at aL_law_13 24 rfl
theorem dL_law_1171 : decode cL_law 1171 = .ok (.pop, 1) := decAll_at aL_law_13 25 rfl
theorem dL_law_1172 : decode cL_law 1172 = .ok (.goto 72, 3) := decAll_at aL_law_13 26 rfl
theorem dL_law_1175 : decode cL_law 1175 = .ok (.aload_n 1, 1) := decAll_at aL_law_13 27 rfl
theorem dL_law_1176 : decode cL_law 1176 = .ok (.aload_n 0, 1) := decAll_at aL_law_13 28 rfl
theorem dL_law_1177 : decode cL_law 1177 = .ok (.iload_n 3, 1) := decAll_at aL_law_13 29 rfl
theorem dL_law_1178 : decode cL_law 1178 = .ok (.iconst 1, 1) := decAll_at aL_law_13 30 rfl
theorem dL_law_1179 : decode cL_law 1179 = .ok (.iadd, 1) := decAll_at aL_law_13 31 rfl
theorem dL_law_1180 : decode cL_law 1180 = .ok (.iaload, 1) := decAll_at aL_law_13 32 rfl
theorem dL_law_1181 : decode cL_law 1181 = .ok (.invokevirtual 129, 3) := decAll_at aL_law_13 33 rfl
theorem dL_law_1184 : decode cL_law 1184 = .ok (.pop, 1) := decAll_at aL_law_13 34 rfl
theorem dL_law_1185 : decode cL_law 1185 = .ok (.aload_n 2, 1) := decAll_at aL_law_13 35 rfl
theorem dL_law_1186 : decode cL_law 1186 = .ok (.aload_n 0, 1) := decAll_at aL_law_13 36 rfl
theorem dL_law_1187 : decode cL_law 1187 = .ok (.iload_n 3, 1) := decAll_at aL_law_13 37 rfl
theorem dL_law_1188 : decode cL_law 1188 = .ok (.iconst 1, 1) := decAll_at aL_law_13 38 rfl
theorem dL_law_1189 : decode cL_law 1189 = .ok (.iadd, 1) := decAll_at aL_law_13 39 rfl
theorem dL_law_1190 : decode cL_law 1190 = .ok (.iaload, 1) := decAll_at aL_law_13 40 rfl
theorem dL_law_1191 : decode cL_law 1191 = .ok (.invokevirtual 132, 3) := decAll_at aL_law_13 41 rfl
theorem dL_law_1194 : decode cL_law 1194 = .ok (.pop, 1) := decAll_at aL_law_13 42 rfl
theorem dL_law_1195 : decode cL_law 1195 = .ok (.goto 49, 3) := decAll_at aL_law_13 43 rfl
theorem dL_law_1198 : decode cL_law 1198 = .ok (.aload_n 1, 1) := decAll_at aL_law_13 44 rfl
theorem dL_law_1199 : decode cL_law 1199 = .ok (.aload_n 0, 1) := decAll_at aL_law_13 45 rfl
theorem dL_law_1200 : decode cL_law 1200 = .ok (.iload_n 3, 1) := decAll_at aL_law_13 46 rfl
theorem dL_law_1201 : decode cL_law 1201 = .ok (.iconst 1, 1) := decAll_at aL_law_13 47 rfl
theorem dL_law_1202 : decode cL_law 1202 = .ok (.iadd, 1) := decAll_at aL_law_13 48 rfl
theorem dL_law_1203 : decode cL_law 1203 = .ok (.iaload, 1) := decAll_at aL_law_13 49 rfl
theorem dL_law_1204 : decode cL_law 1204 = .ok (.invokevirtual 133, 3) := decAll_at aL_law_13 50 rfl
theorem dL_law_1207 : decode cL_law 1207 = .ok (.pop, 1) := decAll_at aL_law_13 51 rfl
theorem dL_law_1208 : decode cL_law 1208 = .ok (.aload_n 2, 1) := decAll_at aL_law_13 52 rfl
theorem dL_law_1209 : decode cL_law 1209 = .ok (.aload_n 0, 1) := decAll_at aL_law_13 53 rfl
theorem dL_law_1210 : decode cL_law 1210 = .ok (.iload_n 3, 1) := decAll_at aL_law_13 54 rfl
theorem dL_law_1211 : decode cL_law 1211 = .ok (.iconst 1, 1) := decAll_at aL_law_13 55 rfl
theorem dL_law_1212 : decode cL_law 1212 = .ok (.iadd, 1) := decAll_at aL_law_13 56 rfl
theorem dL_law_1213 : decode cL_law 1213 = .ok (.iaload, 1) := decAll_at aL_law_13 57 rfl
theorem dL_law_1214 : decode cL_law 1214 = .ok (.invokevirtual 136, 3) := decAll_at aL_law_13 58 rfl
theorem dL_law_1217 : decode cL_law 1217 = .ok (.pop, 1) := decAll_at aL_law_13 59 rfl
theorem dL_law_1218 : decode cL_law 1218 = .ok (.goto 26, 3) := decAll_at aL_law_13 60 rfl
theorem dL_law_1221 : decode cL_law 1221 = .ok (.aload_n 1, 1) := decAll_at aL_law_13 61 rfl
theorem dL_law_1222 : decode cL_law 1222 = .ok (.aload_n 0, 1) := decAll_at aL_law_13 62 rfl
theorem dL_law_1223 : decode cL_law 1223 = .ok (.iload_n 3, 1) := decAll_at aL_law_13 63 rfl
def laL_law_14 : List (Nat × Instr × Nat) := [(1224, .iconst 1, 1), (1225, .iadd, 1), (1226, .iaload, 1), (1227, .invokevirtual 137, 3), (1230, .pop, 1), (1231, .aload_n 2, 1), (1232, .aload_n 0, 1), (1233, .iload_n 3, 1), (1234, .iconst 1, 1), (1235, .iadd, 1), (1236, .iaload, 1), (1237, .invokevirtual 140, 3), (1240, .pop, 1), (1241, .goto 3, 3), (1244, .iinc 3 6, 3), (1247, .goto (-1229), 3), (1250, .iconst 1, 1), (1251, .ireturn, 1)]
theorem aL_law_14 : decAll cL_law laL_law_14 = true := by decide +kernel
theorem dL_law_1224 : decode cL_law 1224 = .ok (.iconst 1, 1) := decAll_at aL_law_14 0 rfl
theorem dL_law_1225 : decode cL_law 1225 = .ok (.iadd, 1) := decAll_at aL_law_14 1 rfl
theorem dL_law_1226 : decode cL_law 1226 = .ok (.iaload, 1) := decAll_at aL_law_14 2 rfl
theorem dL_law_1227 : decode cL_law 1227 = .ok (.invokevirtual 137, 3) := decAll_at aL_law_14 3 rfl
theorem dL_law_1230 : decode cL_law 1230 = .ok (.pop, 1) := decAll_at aL_law_14 4 rfl
theorem dL_law_1231 : decode cL_law 1231 = .ok (.aload_n 2, 1) := decAll_at aL_law_14 5 rfl
theorem dL_law_1232 : decode cL_law 1232 = .ok (.aload_n 0, 1) := decAll_at aL_law_14 6 rfl
theorem dL_law_1233 : decode cL_law 1233 = .ok (.iload_n 3, 1) := decAll_at aL_law_14 7 rfl
theorem dL_law_1234 : decode cL_law 1234 = .ok (.iconst 1, 1) := decAll_at aL_law_14 8 rfl
theorem dL_law_1235 : decode cL_law 1235 = .ok (.iadd, 1) := decAll_at aL_law_14 9 rfl
theorem dL_law_1236 : decode cL_law 1236 = .ok (.iaload, 1) := decAll_at aL_law_14 10 rfl
theorem dL_law_1237 : decode cL_law 1237 = .ok (.invokevirtual 140, 3) := decAll_at aL_law_14 11 rfl
theorem dL_law_1240 : decode cL_law 1240 = .ok (.pop, 1) := decAll_at aL_law_14 12 rfl
theorem dL_law_1241 : decode cL_law 1241 = .ok (.goto 3, 3) := decAll_at aL_law_14 13 rfl
theorem dL_law_1244 : decode cL_law 1244 = .ok (.iinc 3 6, 3) := decAll_at aL_law_14 14 rfl
theorem dL_law_1247 : decode cL_law 1247 = .ok (.goto (-1229), 3) := decAll_at aL_law_14 15 rfl
theorem dL_law_1250 : decode cL_law 1250 = .ok (.iconst 1, 1) := decAll_at aL_law_14 16 rfl
theorem dL_law_1251 : decode cL_law 1251 = .ok (.ireturn, 1) := decAll_at aL_law_14 17 rfl
