def laX7_pacedBy_0 : List (Nat × Instr × Nat) := [(0, .bipush 60, 2), (2, .istore_n 3, 1), (3, .iconst 0, 1), (4, .istore 4, 2), (6, .iload 4, 2), (8, .aload_n 0, 1), (9, .getfield 47, 3), (12, .getfield 119, 3), (15, .if_icmp .ge 86, 3), (18, .iload_n 1, 1), (19, .iconst 4, 1), (20, .imul, 1), (21, .iload 4, 2), (23, .iadd, 1), (24, .istore 5, 2), (26, .iload 5, 2), (28, .bipush 6, 2), (30, .imul, 1), (31, .aload_n 0, 1), (32, .getfield 29, 3), (35, .iload 4, 2), (37, .iaload, 1), (38, .iadd, 1), (39, .istore 6, 2), (41, .aload_n 0, 1), (42, .getfield 35, 3), (45, .iload 6, 2), (47, .iaload, 1), (48, .iconst (-1), 1), (49, .if_icmp .ne 34, 3), (52, .aload_n 0, 1), (53, .getfield 35, 3), (56, .iload 6, 2), (58, .aload_n 0, 1), (59, .getfield 51, 3), (62, .iload 4, 2), (64, .aload_n 0, 1), (65, .getfield 32, 3), (68, .iload 5, 2), (70, .iaload, 1), (71, .aload_n 0, 1), (72, .getfield 29, 3), (75, .iload 4, 2), (77, .iaload, 1), (78, .iload_n 2, 1), (79, .invokevirtual 155, 3), (82, .iastore, 1), (83, .iload_n 3, 1), (84, .aload_n 0, 1), (85, .getfield 35, 3), (88, .iload 6, 2), (90, .iaload, 1), (91, .invokestatic 161, 3), (94, .istore_n 3, 1), (95, .iinc 4 1, 3), (98, .goto (-92), 3), (101, .iload_n 3, 1), (102, .ireturn, 1)]
theorem aX7_pacedBy_0 : decAll cX7_pacedBy laX7_pacedBy_0 = true := by decide +kernel
theorem dX7_pacedBy_0 : decode cX7_pacedBy 0 = .ok (.bipush 60, 2) := decAll_at aX7_pacedBy_0 0 rfl
theorem dX7_pacedBy_2 : decode cX7_pacedBy 2 = .ok (.istore_n 3, 1) := decAll_at aX7_pacedBy_0 1 rfl
theorem dX7_pacedBy_3 : decode cX7_pacedBy 3 = .ok (.iconst 0, 1) := decAll_at aX7_pacedBy_0 2 rfl
theorem dX7_pacedBy_4 : decode cX7_pacedBy 4 = .ok (.istore 4, 2) := decAll_at aX7_pacedBy_0 3 rfl
theorem dX7_pacedBy_6 : decode cX7_pacedBy 6 = .ok (.iload 4, 2) := decAll_at aX7_pacedBy_0 4 rfl
theorem dX7_pacedBy_8 : decode cX7_pacedBy 8 = .ok (.aload_n 0, 1) := decAll_at aX7_pacedBy_0 5 rfl
theorem dX7_pacedBy_9 : decode cX7_pacedBy 9 = .ok (.getfield 47, 3) := decAll_at aX7_pacedBy_0 6 rfl
theorem dX7_pacedBy_12 : decode cX7_pacedBy 12 = .ok (.getfield 119, 3) := decAll_at aX7_pacedBy_0 7 rfl
theorem dX7_pacedBy_15 : decode cX7_pacedBy 15 = .ok (.if_icmp .ge 86, 3) := decAll_at aX7_pacedBy_0 8 rfl
theorem dX7_pacedBy_18 : decode cX7_pacedBy 18 = .ok (.iload_n 1, 1) := decAll_at aX7_pacedBy_0 9 rfl
theorem dX7_pacedBy_19 : decode cX7_pacedBy 19 = .ok (.iconst 4, 1) := decAll_at aX7_pacedBy_0 10 rfl
theorem dX7_pacedBy_20 : decode cX7_pacedBy 20 = .ok (.imul, 1) := decAll_at aX7_pacedBy_0 11 rfl
theorem dX7_pacedBy_21 : decode cX7_pacedBy 21 = .ok (.iload 4, 2) := decAll_at aX7_pacedBy_0 12 rfl
theorem dX7_pacedBy_23 : decode cX7_pacedBy 23 = .ok (.iadd, 1) := decAll_at aX7_pacedBy_0 13 rfl
theorem dX7_pacedBy_24 : decode cX7_pacedBy 24 = .ok (.istore 5, 2) := decAll_at aX7_pacedBy_0 14 rfl
theorem dX7_pacedBy_26 : decode cX7_pacedBy 26 = .ok (.iload 5, 2) := decAll_at aX7_pacedBy_0 15 rfl
theorem dX7_pacedBy_28 : decode cX7_pacedBy 28 = .ok (.bipush 6, 2) := decAll_at aX7_pacedBy_0 16 rfl
theorem dX7_pacedBy_30 : decode cX7_pacedBy 30 = .ok (.imul, 1) := decAll_at aX7_pacedBy_0 17 rfl
theorem dX7_pacedBy_31 : decode cX7_pacedBy 31 = .ok (.aload_n 0, 1) := decAll_at aX7_pacedBy_0 18 rfl
theorem dX7_pacedBy_32 : decode cX7_pacedBy 32 = .ok (.getfield 29, 3) := decAll_at aX7_pacedBy_0 19 rfl
theorem dX7_pacedBy_35 : decode cX7_pacedBy 35 = .ok (.iload 4, 2) := decAll_at aX7_pacedBy_0 20 rfl
theorem dX7_pacedBy_37 : decode cX7_pacedBy 37 = .ok (.iaload, 1) := decAll_at aX7_pacedBy_0 21 rfl
theorem dX7_pacedBy_38 : decode cX7_pacedBy 38 = .ok (.iadd, 1) := decAll_at aX7_pacedBy_0 22 rfl
theorem dX7_pacedBy_39 : decode cX7_pacedBy 39 = .ok (.istore 6, 2) := decAll_at aX7_pacedBy_0 23 rfl
theorem dX7_pacedBy_41 : decode cX7_pacedBy 41 = .ok (.aload_n 0, 1) := decAll_at aX7_pacedBy_0 24 rfl
theorem dX7_pacedBy_42 : decode cX7_pacedBy 42 = .ok (.getfield 35, 3) := decAll_at aX7_pacedBy_0 25 rfl
theorem dX7_pacedBy_45 : decode cX7_pacedBy 45 = .ok (.iload 6, 2) := decAll_at aX7_pacedBy_0 26 rfl
theorem dX7_pacedBy_47 : decode cX7_pacedBy 47 = .ok (.iaload, 1) := decAll_at aX7_pacedBy_0 27 rfl
theorem dX7_pacedBy_48 : decode cX7_pacedBy 48 = .ok (.iconst (-1), 1) := decAll_at aX7_pacedBy_0 28 rfl
theorem dX7_pacedBy_49 : decode cX7_pacedBy 49 = .ok (.if_icmp .ne 34, 3) := decAll_at aX7_pacedBy_0 29 rfl
theorem dX7_pacedBy_52 : decode cX7_pacedBy 52 = .ok (.aload_n 0, 1) := decAll_at aX7_pacedBy_0 30 rfl
theorem dX7_pacedBy_53 : decode cX7_pacedBy 53 = .ok (.getfield 35, 3) := decAll_at aX7_pacedBy_0 31 rfl
theorem dX7_pacedBy_56 : decode cX7_pacedBy 56 = .ok (.iload 6, 2) := decAll_at aX7_pacedBy_0 32 rfl
theorem dX7_pacedBy_58 : decode cX7_pacedBy 58 = .ok (.aload_n 0, 1) := decAll_at aX7_pacedBy_0 33 rfl
theorem dX7_pacedBy_59 : decode cX7_pacedBy 59 = .ok (.getfield 51, 3) := decAll_at aX7_pacedBy_0 34 rfl
theorem dX7_pacedBy_62 : decode cX7_pacedBy 62 = .ok (.iload 4, 2) := decAll_at aX7_pacedBy_0 35 rfl
theorem dX7_pacedBy_64 : decode cX7_pacedBy 64 = .ok (.aload_n 0, 1) := decAll_at aX7_pacedBy_0 36 rfl
theorem dX7_pacedBy_65 : decode cX7_pacedBy 65 = .ok (.getfield 32, 3) := decAll_at aX7_pacedBy_0 37 rfl
theorem dX7_pacedBy_68 : decode cX7_pacedBy 68 = .ok (.iload 5, 2) := decAll_at aX7_pacedBy_0 38 rfl
theorem dX7_pacedBy_70 : decode cX7_pacedBy 70 = .ok (.iaload, 1) := decAll_at aX7_pacedBy_0 39 rfl
theorem dX7_pacedBy_71 : decode cX7_pacedBy 71 = .ok (.aload_n 0, 1) := decAll_at aX7_pacedBy_0 40 rfl
theorem dX7_pacedBy_72 : decode cX7_pacedBy 72 = .ok (.getfield 29, 3) := decAll_at aX7_pacedBy_0 41 rfl
theorem dX7_pacedBy_75 : decode cX7_pacedBy 75 = .ok (.iload 4, 2) := decAll_at aX7_pacedBy_0 42 rfl
theorem dX7_pacedBy_77 : decode cX7_pacedBy 77 = .ok (.iaload, 1) := decAll_at aX7_pacedBy_0 43 rfl
theorem dX7_pacedBy_78 : decode cX7_pacedBy 78 = .ok (.iload_n 2, 1) := decAll_at aX7_pacedBy_0 44 rfl
theorem dX7_pacedBy_79 : decode cX7_pacedBy 79 = .ok (.invokevirtual 155, 3) := decAll_at aX7_pacedBy_0 45 rfl
theorem dX7_pacedBy_82 : decode cX7_pacedBy 82 = .ok (.iastore, 1) := decAll_at aX7_pacedBy_0 46 rfl
theorem dX7_pacedBy_83 : decode cX7_pacedBy 83 = .ok (.iload_n 3, 1) := decAll_at aX7_pacedBy_0 47 rfl
theorem dX7_pacedBy_84 : decode cX7_pacedBy 84 = .ok (.aload_n 0, 1) := decAll_at aX7_pacedBy_0 48 rfl
theorem dX7_pacedBy_85 : decode cX7_pacedBy 85 = .ok (.getfield 35, 3) := decAll_at aX7_pacedBy_0 49 rfl
theorem dX7_pacedBy_88 : decode cX7_pacedBy 88 = .ok (.iload 6, 2) := decAll_at aX7_pacedBy_0 50 rfl
theorem dX7_pacedBy_90 : decode cX7_pacedBy 90 = .ok (.iaload, 1) := decAll_at aX7_pacedBy_0 51 rfl
theorem dX7_pacedBy_91 : decode cX7_pacedBy 91 = .ok (.invokestatic 161, 3) := decAll_at aX7_pacedBy_0 52 rfl
theorem dX7_pacedBy_94 : decode cX7_pacedBy 94 = .ok (.istore_n 3, 1) := decAll_at aX7_pacedBy_0 53 rfl
theorem dX7_pacedBy_95 : decode cX7_pacedBy 95 = .ok (.iinc 4 1, 3) := decAll_at aX7_pacedBy_0 54 rfl
theorem dX7_pacedBy_98 : decode cX7_pacedBy 98 = .ok (.goto (-92), 3) := decAll_at aX7_pacedBy_0 55 rfl
theorem dX7_pacedBy_101 : decode cX7_pacedBy 101 = .ok (.iload_n 3, 1) := decAll_at aX7_pacedBy_0 56 rfl
theorem dX7_pacedBy_102 : decode cX7_pacedBy 102 = .ok (.ireturn, 1) := decAll_at aX7_pacedBy_0 57 rfl
def laX7_behind_0 : List (Nat × Instr × Nat) := [(0, .iconst 0, 1), (1, .istore 4, 2), (3, .iconst 0, 1), (4, .istore 5, 2), (6, .iload 5, 2), (8, .aload_n 0, 1), (9, .getfield 47, 3), (12, .getfield 119, 3), (15, .if_icmp .ge 102, 3), (18, .iload_n 1, 1), (19, .iconst 4, 1), (20, .imul, 1), (21, .iload 5, 2), (23, .iadd, 1), (24, .istore 6, 2), (26, .iload 6, 2), (28, .bipush 6, 2), (30, .imul, 1), (31, .aload_n 0, 1), (32, .getfield 29, 3), (35, .iload 5, 2), (37, .iaload, 1), (38, .iadd, 1), (39, .istore 7, 2), (41, .aload_n 0, 1), (42, .getfield 44, 3), (45, .iload 7, 2), (47, .iaload, 1), (48, .iload_n 3, 1), (49, .if_icmp .eq 43, 3), (52, .aload_n 0, 1), (53, .getfield 41, 3), (56, .iload 7, 2), (58, .aload_n 0, 1), (59, .getfield 51, 3), (62, .iload 5, 2), (64, .aload_n 0, 1), (65, .getfield 32, 3), (68, .iload 6, 2), (70, .iaload, 1), (71, .aload_n 0, 1), (72, .getfield 29, 3), (75, .iload 5, 2), (77, .iaload, 1), (78, .iload_n 2, 1), (79, .iload_n 3, 1), (80, .invokevirtual 163, 3), (83, .iastore, 1), (84, .aload_n 0, 1), (85, .getfield 44, 3), (88, .iload 7, 2), (90, .iload_n 3, 1), (91, .iastore, 1), (92, .iload 4, 2), (94, .getstatic 135, 3), (97, .iload 5, 2), (99, .iaload, 1), (100, .aload_n 0, 1), (101, .getfield 41, 3), (104, .iload 7, 2), (106, .iaload, 1), (107, .imul, 1), (108, .iadd, 1), (109, .istore 4, 2)]
theorem aX7_behind_0 : decAll cX7_behind laX7_behind_0 = true := by decide +kernel
theorem dX7_behind_0 : decode cX7_behind 0 = .ok (.iconst 0, 1) := decAll_at aX7_behind_0 0 rfl
theorem dX7_behind_1 : decode cX7_behind 1 = .ok (.istore 4, 2) := decAll_at aX7_behind_0 1 rfl
theorem dX7_behind_3 : decode cX7_behind 3 = .ok (.iconst 0, 1) := decAll_at aX7_behind_0 2 rfl
theorem dX7_behind_4 : decode cX7_behind 4 = .ok (.istore 5, 2) := decAll_at aX7_behind_0 3 rfl
theorem dX7_behind_6 : decode cX7_behind 6 = .ok (.iload 5, 2) := decAll_at aX7_behind_0 4 rfl
theorem dX7_behind_8 : decode cX7_behind 8 = .ok (.aload_n 0, 1) := decAll_at aX7_behind_0 5 rfl
theorem dX7_behind_9 : decode cX7_behind 9 = .ok (.getfield 47, 3) := decAll_at aX7_behind_0 6 rfl
theorem dX7_behind_12 : decode cX7_behind 12 = .ok (.getfield 119, 3) := decAll_at aX7_behind_0 7 rfl
theorem dX7_behind_15 : decode cX7_behind 15 = .ok (.if_icmp .ge 102, 3) := decAll_at aX7_behind_0 8 rfl
theorem dX7_behind_18 : decode cX7_behind 18 = .ok (.iload_n 1, 1) := decAll_at aX7_behind_0 9 rfl
theorem dX7_behind_19 : decode cX7_behind 19 = .ok (.iconst 4, 1) := decAll_at aX7_behind_0 10 rfl
theorem dX7_behind_20 : decode cX7_behind 20 = .ok (.imul, 1) := decAll_at aX7_behind_0 11 rfl
theorem dX7_behind_21 : decode cX7_behind 21 = .ok (.iload 5, 2) := decAll_at aX7_behind_0 12 rfl
theorem dX7_behind_23 : decode cX7_behind 23 = .ok (.iadd, 1) := decAll_at aX7_behind_0 13 rfl
theorem dX7_behind_24 : decode cX7_behind 24 = .ok (.istore 6, 2) := decAll_at aX7_behind_0 14 rfl
theorem dX7_behind_26 : decode cX7_behind 26 = .ok (.iload 6, 2) := decAll_at aX7_behind_0 15 rfl
theorem dX7_behind_28 : decode cX7_behind 28 = .ok (.bipush 6, 2) := decAll_at aX7_behind_0 16 rfl
theorem dX7_behind_30 : decode cX7_behind 30 = .ok (.imul, 1) := decAll_at aX7_behind_0 17 rfl
theorem dX7_behind_31 : decode cX7_behind 31 = .ok (.aload_n 0, 1) := decAll_at aX7_behind_0 18 rfl
theorem dX7_behind_32 : decode cX7_behind 32 = .ok (.getfield 29, 3) := decAll_at aX7_behind_0 19 rfl
theorem dX7_behind_35 : decode cX7_behind 35 = .ok (.iload 5, 2) := decAll_at aX7_behind_0 20 rfl
theorem dX7_behind_37 : decode cX7_behind 37 = .ok (.iaload, 1) := decAll_at aX7_behind_0 21 rfl
theorem dX7_behind_38 : decode cX7_behind 38 = .ok (.iadd, 1) := decAll_at aX7_behind_0 22 rfl
theorem dX7_behind_39 : decode cX7_behind 39 = .ok (.istore 7, 2) := decAll_at aX7_behind_0 23 rfl
theorem dX7_behind_41 : decode cX7_behind 41 = .ok (.aload_n 0, 1) := decAll_at aX7_behind_0 24 rfl
theorem dX7_behind_42 : decode cX7_behind 42 = .ok (.getfield 44, 3) := decAll_at aX7_behind_0 25 rfl
theorem dX7_behind_45 : decode cX7_behind 45 = .ok (.iload 7, 2) := decAll_at aX7_behind_0 26 rfl
theorem dX7_behind_47 : decode cX7_behind 47 = .ok (.iaload, 1) := decAll_at aX7_behind_0 27 rfl
theorem dX7_behind_48 : decode cX7_behind 48 = .ok (.iload_n 3, 1) := decAll_at aX7_behind_0 28 rfl
theorem dX7_behind_49 : decode cX7_behind 49 = .ok (.if_icmp .eq 43, 3) := decAll_at aX7_behind_0 29 rfl
theorem dX7_behind_52 : decode cX7_behind 52 = .ok (.aload_n 0, 1) := decAll_at aX7_behind_0 30 rfl
theorem dX7_behind_53 : decode cX7_behind 53 = .ok (.getfield 41, 3) := decAll_at aX7_behind_0 31 rfl
theorem dX7_behind_56 : decode cX7_behind 56 = .ok (.iload 7, 2) := decAll_at aX7_behind_0 32 rfl
theorem dX7_behind_58 : decode cX7_behind 58 = .ok (.aload_n 0, 1) := decAll_at aX7_behind_0 33 rfl
theorem dX7_behind_59 : decode cX7_behind 59 = .ok (.getfield 51, 3) := decAll_at aX7_behind_0 34 rfl
theorem dX7_behind_62 : decode cX7_behind 62 = .ok (.iload 5, 2) := decAll_at aX7_behind_0 35 rfl
theorem dX7_behind_64 : decode cX7_behind 64 = .ok (.aload_n 0, 1) := decAll_at aX7_behind_0 36 rfl
theorem dX7_behind_65 : decode cX7_behind 65 = .ok (.getfield 32, 3) := decAll_at aX7_behind_0 37 rfl
theorem dX7_behind_68 : decode cX7_behind 68 = .ok (.iload 6, 2) := decAll_at aX7_behind_0 38 rfl
theorem dX7_behind_70 : decode cX7_behind 70 = .ok (.iaload, 1) := decAll_at aX7_behind_0 39 rfl
theorem dX7_behind_71 : decode cX7_behind 71 = .ok (.aload_n 0, 1) := decAll_at aX7_behind_0 40 rfl
theorem dX7_behind_72 : decode cX7_behind 72 = .ok (.getfield 29, 3) := decAll_at aX7_behind_0 41 rfl
theorem dX7_behind_75 : decode cX7_behind 75 = .ok (.iload 5, 2) := decAll_at aX7_behind_0 42 rfl
theorem dX7_behind_77 : decode cX7_behind 77 = .ok (.iaload, 1) := decAll_at aX7_behind_0 43 rfl
theorem dX7_behind_78 : decode cX7_behind 78 = .ok (.iload_n 2, 1) := decAll_at aX7_behind_0 44 rfl
theorem dX7_behind_79 : decode cX7_behind 79 = .ok (.iload_n 3, 1) := decAll_at aX7_behind_0 45 rfl
theorem dX7_behind_80 : decode cX7_behind 80 = .ok (.invokevirtual 163, 3) := decAll_at aX7_behind_0 46 rfl
theorem dX7_behind_83 : decode cX7_behind 83 = .ok (.iastore, 1) := decAll_at aX7_behind_0 47 rfl
theorem dX7_behind_84 : decode cX7_behind 84 = .ok (.aload_n 0, 1) := decAll_at aX7_behind_0 48 rfl
theorem dX7_behind_85 : decode cX7_behind 85 = .ok (.getfield 44, 3) := decAll_at aX7_behind_0 49 rfl
theorem dX7_behind_88 : decode cX7_behind 88 = .ok (.iload 7, 2) := decAll_at aX7_behind_0 50 rfl
theorem dX7_behind_90 : decode cX7_behind 90 = .ok (.iload_n 3, 1) := decAll_at aX7_behind_0 51 rfl
theorem dX7_behind_91 : decode cX7_behind 91 = .ok (.iastore, 1) := decAll_at aX7_behind_0 52 rfl
theorem dX7_behind_92 : decode cX7_behind 92 = .ok (.iload 4, 2) := decAll_at aX7_behind_0 53 rfl
theorem dX7_behind_94 : decode cX7_behind 94 = .ok (.getstatic 135, 3) := decAll_at aX7_behind_0 54 rfl
theorem dX7_behind_97 : decode cX7_behind 97 = .ok (.iload 5, 2) := decAll_at aX7_behind_0 55 rfl
theorem dX7_behind_99 : decode cX7_behind 99 = .ok (.iaload, 1) := decAll_at aX7_behind_0 56 rfl
theorem dX7_behind_100 : decode cX7_behind 100 = .ok (.aload_n 0, 1) := decAll_at aX7_behind_0 57 rfl
theorem dX7_behind_101 : decode cX7_behind 101 = .ok (.getfield 41, 3) := decAll_at aX7_behind_0 58 rfl
theorem dX7_behind_104 : decode cX7_behind 104 = .ok (.iload 7, 2) := decAll_at aX7_behind_0 59 rfl
theorem dX7_behind_106 : decode cX7_behind 106 = .ok (.iaload, 1) := decAll_at aX7_behind_0 60 rfl
theorem dX7_behind_107 : decode cX7_behind 107 = .ok (.imul, 1) := decAll_at aX7_behind_0 61 rfl
theorem dX7_behind_108 : decode cX7_behind 108 = .ok (.iadd, 1) := decAll_at aX7_behind_0 62 rfl
theorem dX7_behind_109 : decode cX7_behind 109 = .ok (.istore 4, 2) := decAll_at aX7_behind_0 63 rfl
def laX7_behind_1 : List (Nat × Instr × Nat) := [(111, .iinc 5 1, 3), (114, .goto (-108), 3), (117, .iload 4, 2), (119, .ireturn, 1)]
theorem aX7_behind_1 : decAll cX7_behind laX7_behind_1 = true := by decide +kernel
theorem dX7_behind_111 : decode cX7_behind 111 = .ok (.iinc 5 1, 3) := decAll_at aX7_behind_1 0 rfl
theorem dX7_behind_114 : decode cX7_behind 114 = .ok (.goto (-108), 3) := decAll_at aX7_behind_1 1 rfl
theorem dX7_behind_117 : decode cX7_behind 117 = .ok (.iload 4, 2) := decAll_at aX7_behind_1 2 rfl
theorem dX7_behind_119 : decode cX7_behind 119 = .ok (.ireturn, 1) := decAll_at aX7_behind_1 3 rfl
def laX7_rest_0 : List (Nat × Instr × Nat) := [(0, .iconst 0, 1), (1, .istore_n 2, 1), (2, .iconst 0, 1), (3, .istore_n 3, 1), (4, .iload_n 3, 1), (5, .aload_n 0, 1), (6, .getfield 47, 3), (9, .getfield 119, 3), (12, .if_icmp .ge 94, 3), (15, .iload_n 3, 1), (16, .bipush 6, 2), (18, .imul, 1), (19, .aload_n 0, 1), (20, .getfield 29, 3), (23, .iload_n 3, 1), (24, .iaload, 1), (25, .iadd, 1), (26, .istore 4, 2), (28, .aload_n 0, 1), (29, .getfield 38, 3), (32, .iload 4, 2), (34, .iaload, 1), (35, .iconst (-1), 1), (36, .if_icmp .ne 25, 3), (39, .aload_n 0, 1), (40, .getfield 38, 3), (43, .iload 4, 2), (45, .aload_n 0, 1), (46, .getfield 51, 3), (49, .iload_n 3, 1), (50, .aload_n 0, 1), (51, .getfield 29, 3), (54, .iload_n 3, 1), (55, .iaload, 1), (56, .iload_n 1, 1), (57, .invokevirtual 167, 3), (60, .iastore, 1), (61, .iload_n 2, 1), (62, .ifCond .ne 19, 3), (65, .aload_n 0, 1), (66, .getfield 38, 3), (69, .iload 4, 2), (71, .iaload, 1), (72, .aload_n 0, 1), (73, .getfield 29, 3), (76, .iload_n 3, 1), (77, .iaload, 1), (78, .if_icmp .eq 7, 3), (81, .iconst 1, 1), (82, .goto 4, 3), (85, .iconst 0, 1), (86, .istore_n 2, 1), (87, .aload_n 0, 1), (88, .getfield 29, 3), (91, .iload_n 3, 1), (92, .aload_n 0, 1), (93, .getfield 38, 3), (96, .iload 4, 2), (98, .iaload, 1), (99, .iastore, 1), (100, .iinc 3 1, 3), (103, .goto (-99), 3), (106, .iload_n 2, 1), (107, .ireturn, 1)]
theorem aX7_rest_0 : decAll cX7_rest laX7_rest_0 = true := by decide +kernel
theorem dX7_rest_0 : decode cX7_rest 0 = .ok (.iconst 0, 1) := decAll_at aX7_rest_0 0 rfl
theorem dX7_rest_1 : decode cX7_rest 1 = .ok (.istore_n 2, 1) := decAll_at aX7_rest_0 1 rfl
theorem dX7_rest_2 : decode cX7_rest 2 = .ok (.iconst 0, 1) := decAll_at aX7_rest_0 2 rfl
theorem dX7_rest_3 : decode cX7_rest 3 = .ok (.istore_n 3, 1) := decAll_at aX7_rest_0 3 rfl
theorem dX7_rest_4 : decode cX7_rest 4 = .ok (.iload_n 3, 1) := decAll_at aX7_rest_0 4 rfl
theorem dX7_rest_5 : decode cX7_rest 5 = .ok (.aload_n 0, 1) := decAll_at aX7_rest_0 5 rfl
theorem dX7_rest_6 : decode cX7_rest 6 = .ok (.getfield 47, 3) := decAll_at aX7_rest_0 6 rfl
theorem dX7_rest_9 : decode cX7_rest 9 = .ok (.getfield 119, 3) := decAll_at aX7_rest_0 7 rfl
theorem dX7_rest_12 : decode cX7_rest 12 = .ok (.if_icmp .ge 94, 3) := decAll_at aX7_rest_0 8 rfl
theorem dX7_rest_15 : decode cX7_rest 15 = .ok (.iload_n 3, 1) := decAll_at aX7_rest_0 9 rfl
theorem dX7_rest_16 : decode cX7_rest 16 = .ok (.bipush 6, 2) := decAll_at aX7_rest_0 10 rfl
theorem dX7_rest_18 : decode cX7_rest 18 = .ok (.imul, 1) := decAll_at aX7_rest_0 11 rfl
theorem dX7_rest_19 : decode cX7_rest 19 = .ok (.aload_n 0, 1) := decAll_at aX7_rest_0 12 rfl
theorem dX7_rest_20 : decode cX7_rest 20 = .ok (.getfield 29, 3) := decAll_at aX7_rest_0 13 rfl
theorem dX7_rest_23 : decode cX7_rest 23 = .ok (.iload_n 3, 1) := decAll_at aX7_rest_0 14 rfl
theorem dX7_rest_24 : decode cX7_rest 24 = .ok (.iaload, 1) := decAll_at aX7_rest_0 15 rfl
theorem dX7_rest_25 : decode cX7_rest 25 = .ok (.iadd, 1) := decAll_at aX7_rest_0 16 rfl
theorem dX7_rest_26 : decode cX7_rest 26 = .ok (.istore 4, 2) := decAll_at aX7_rest_0 17 rfl
theorem dX7_rest_28 : decode cX7_rest 28 = .ok (.aload_n 0, 1) := decAll_at aX7_rest_0 18 rfl
theorem dX7_rest_29 : decode cX7_rest 29 = .ok (.getfield 38, 3) := decAll_at aX7_rest_0 19 rfl
theorem dX7_rest_32 : decode cX7_rest 32 = .ok (.iload 4, 2) := decAll_at aX7_rest_0 20 rfl
theorem dX7_rest_34 : decode cX7_rest 34 = .ok (.iaload, 1) := decAll_at aX7_rest_0 21 rfl
theorem dX7_rest_35 : decode cX7_rest 35 = .ok (.iconst (-1), 1) := decAll_at aX7_rest_0 22 rfl
theorem dX7_rest_36 : decode cX7_rest 36 = .ok (.if_icmp .ne 25, 3) := decAll_at aX7_rest_0 23 rfl
theorem dX7_rest_39 : decode cX7_rest 39 = .ok (.aload_n 0, 1) := decAll_at aX7_rest_0 24 rfl
theorem dX7_rest_40 : decode cX7_rest 40 = .ok (.getfield 38, 3) := decAll_at aX7_rest_0 25 rfl
theorem dX7_rest_43 : decode cX7_rest 43 = .ok (.iload 4, 2) := decAll_at aX7_rest_0 26 rfl
theorem dX7_rest_45 : decode cX7_rest 45 = .ok (.aload_n 0, 1) := decAll_at aX7_rest_0 27 rfl
theorem dX7_rest_46 : decode cX7_rest 46 = .ok (.getfield 51, 3) := decAll_at aX7_rest_0 28 rfl
theorem dX7_rest_49 : decode cX7_rest 49 = .ok (.iload_n 3, 1) := decAll_at aX7_rest_0 29 rfl
theorem dX7_rest_50 : decode cX7_rest 50 = .ok (.aload_n 0, 1) := decAll_at aX7_rest_0 30 rfl
theorem dX7_rest_51 : decode cX7_rest 51 = .ok (.getfield 29, 3) := decAll_at aX7_rest_0 31 rfl
theorem dX7_rest_54 : decode cX7_rest 54 = .ok (.iload_n 3, 1) := decAll_at aX7_rest_0 32 rfl
theorem dX7_rest_55 : decode cX7_rest 55 = .ok (.iaload, 1) := decAll_at aX7_rest_0 33 rfl
theorem dX7_rest_56 : decode cX7_rest 56 = .ok (.iload_n 1, 1) := decAll_at aX7_rest_0 34 rfl
theorem dX7_rest_57 : decode cX7_rest 57 = .ok (.invokevirtual 167, 3) := decAll_at aX7_rest_0 35 rfl
theorem dX7_rest_60 : decode cX7_rest 60 = .ok (.iastore, 1) := decAll_at aX7_rest_0 36 rfl
theorem dX7_rest_61 : decode cX7_rest 61 = .ok (.iload_n 2, 1) := decAll_at aX7_rest_0 37 rfl
theorem dX7_rest_62 : decode cX7_rest 62 = .ok (.ifCond .ne 19, 3) := decAll_at aX7_rest_0 38 rfl
theorem dX7_rest_65 : decode cX7_rest 65 = .ok (.aload_n 0, 1) := decAll_at aX7_rest_0 39 rfl
theorem dX7_rest_66 : decode cX7_rest 66 = .ok (.getfield 38, 3) := decAll_at aX7_rest_0 40 rfl
theorem dX7_rest_69 : decode cX7_rest 69 = .ok (.iload 4, 2) := decAll_at aX7_rest_0 41 rfl
theorem dX7_rest_71 : decode cX7_rest 71 = .ok (.iaload, 1) := decAll_at aX7_rest_0 42 rfl
theorem dX7_rest_72 : decode cX7_rest 72 = .ok (.aload_n 0, 1) := decAll_at aX7_rest_0 43 rfl
theorem dX7_rest_73 : decode cX7_rest 73 = .ok (.getfield 29, 3) := decAll_at aX7_rest_0 44 rfl
theorem dX7_rest_76 : decode cX7_rest 76 = .ok (.iload_n 3, 1) := decAll_at aX7_rest_0 45 rfl
theorem dX7_rest_77 : decode cX7_rest 77 = .ok (.iaload, 1) := decAll_at aX7_rest_0 46 rfl
theorem dX7_rest_78 : decode cX7_rest 78 = .ok (.if_icmp .eq 7, 3) := decAll_at aX7_rest_0 47 rfl
theorem dX7_rest_81 : decode cX7_rest 81 = .ok (.iconst 1, 1) := decAll_at aX7_rest_0 48 rfl
theorem dX7_rest_82 : decode cX7_rest 82 = .ok (.goto 4, 3) := decAll_at aX7_rest_0 49 rfl
theorem dX7_rest_85 : decode cX7_rest 85 = .ok (.iconst 0, 1) := decAll_at aX7_rest_0 50 rfl
theorem dX7_rest_86 : decode cX7_rest 86 = .ok (.istore_n 2, 1) := decAll_at aX7_rest_0 51 rfl
theorem dX7_rest_87 : decode cX7_rest 87 = .ok (.aload_n 0, 1) := decAll_at aX7_rest_0 52 rfl
theorem dX7_rest_88 : decode cX7_rest 88 = .ok (.getfield 29, 3) := decAll_at aX7_rest_0 53 rfl
theorem dX7_rest_91 : decode cX7_rest 91 = .ok (.iload_n 3, 1) := decAll_at aX7_rest_0 54 rfl
theorem dX7_rest_92 : decode cX7_rest 92 = .ok (.aload_n 0, 1) := decAll_at aX7_rest_0 55 rfl
theorem dX7_rest_93 : decode cX7_rest 93 = .ok (.getfield 38, 3) := decAll_at aX7_rest_0 56 rfl
theorem dX7_rest_96 : decode cX7_rest 96 = .ok (.iload 4, 2) := decAll_at aX7_rest_0 57 rfl
theorem dX7_rest_98 : decode cX7_rest 98 = .ok (.iaload, 1) := decAll_at aX7_rest_0 58 rfl
theorem dX7_rest_99 : decode cX7_rest 99 = .ok (.iastore, 1) := decAll_at aX7_rest_0 59 rfl
theorem dX7_rest_100 : decode cX7_rest 100 = .ok (.iinc 3 1, 3) := decAll_at aX7_rest_0 60 rfl
theorem dX7_rest_103 : decode cX7_rest 103 = .ok (.goto (-99), 3) := decAll_at aX7_rest_0 61 rfl
theorem dX7_rest_106 : decode cX7_rest 106 = .ok (.iload_n 2, 1) := decAll_at aX7_rest_0 62 rfl
theorem dX7_rest_107 : decode cX7_rest 107 = .ok (.ireturn, 1) := decAll_at aX7_rest_0 63 rfl
def laX7_reach_0 : List (Nat × Instr × Nat) := [(0, .aload_n 0, 1), (1, .getfield 25, 3), (4, .iload_n 3, 1), (5, .baload, 1), (6, .ifCond .ne 30, 3), (9, .aload_n 0, 1), (10, .getfield 25, 3), (13, .iload_n 3, 1), (14, .iconst 1, 1), (15, .bastore, 1), (16, .aload_n 0, 1), (17, .getfield 22, 3), (20, .aload_n 0, 1), (21, .getfield 94, 3), (24, .iload_n 3, 1), (25, .iastore, 1), (26, .aload_n 0, 1), (27, .dup, 1), (28, .getfield 94, 3), (31, .iconst 1, 1), (32, .iadd, 1), (33, .putfield 94, 3), (36, .aload_n 0, 1), (37, .getfield 75, 3), (40, .iconst (-1), 1), (41, .if_icmp .ne 8, 3), (44, .bipush 6, 2), (46, .goto 12, 3), (49, .aload_n 0, 1), (50, .getfield 75, 3), (53, .iconst 1, 1), (54, .iadd, 1), (55, .bipush 6, 2), (57, .imul, 1), (58, .istore 7, 2), (60, .iconst 0, 1), (61, .istore 8, 2), (63, .iload 8, 2), (65, .iload 7, 2), (67, .if_icmp .ge 154, 3), (70, .aload_n 0, 1), (71, .getfield 11, 3), (74, .iload 8, 2), (76, .sipush 1296, 3), (79, .imul, 1), (80, .iload_n 2, 1), (81, .iadd, 1), (82, .laload, 1), (83, .lstore 9, 2), (85, .iload_n 1, 1), (86, .ifCond .le 17, 3), (89, .iload 8, 2), (91, .bipush 6, 2), (93, .irem, 1), (94, .iload 4, 2), (96, .if_icmp .eq 7, 3), (99, .iconst 1, 1), (100, .goto 4, 3), (103, .iconst 0, 1), (104, .istore 11, 2), (106, .iload 8, 2), (108, .bipush 6, 2), (110, .idiv, 1), (111, .iload 11, 2)]
theorem aX7_reach_0 : decAll cX7_reach laX7_reach_0 = true := by decide +kernel
theorem dX7_reach_0 : decode cX7_reach 0 = .ok (.aload_n 0, 1) := decAll_at aX7_reach_0 0 rfl
theorem dX7_reach_1 : decode cX7_reach 1 = .ok (.getfield 25, 3) := decAll_at aX7_reach_0 1 rfl
theorem dX7_reach_4 : decode cX7_reach 4 = .ok (.iload_n 3, 1) := decAll_at aX7_reach_0 2 rfl
theorem dX7_reach_5 : decode cX7_reach 5 = .ok (.baload, 1) := decAll_at aX7_reach_0 3 rfl
theorem dX7_reach_6 : decode cX7_reach 6 = .ok (.ifCond .ne 30, 3) := decAll_at aX7_reach_0 4 rfl
theorem dX7_reach_9 : decode cX7_reach 9 = .ok (.aload_n 0, 1) := decAll_at aX7_reach_0 5 rfl
theorem dX7_reach_10 : decode cX7_reach 10 = .ok (.getfield 25, 3) := decAll_at aX7_reach_0 6 rfl
theorem dX7_reach_13 : decode cX7_reach 13 = .ok (.iload_n 3, 1) := decAll_at aX7_reach_0 7 rfl
theorem dX7_reach_14 : decode cX7_reach 14 = .ok (.iconst 1, 1) := decAll_at aX7_reach_0 8 rfl
theorem dX7_reach_15 : decode cX7_reach 15 = .ok (.bastore, 1) := decAll_at aX7_reach_0 9 rfl
theorem dX7_reach_16 : decode cX7_reach 16 = .ok (.aload_n 0, 1) := decAll_at aX7_reach_0 10 rfl
theorem dX7_reach_17 : decode cX7_reach 17 = .ok (.getfield 22, 3) := decAll_at aX7_reach_0 11 rfl
theorem dX7_reach_20 : decode cX7_reach 20 = .ok (.aload_n 0, 1) := decAll_at aX7_reach_0 12 rfl
theorem dX7_reach_21 : decode cX7_reach 21 = .ok (.getfield 94, 3) := decAll_at aX7_reach_0 13 rfl
theorem dX7_reach_24 : decode cX7_reach 24 = .ok (.iload_n 3, 1) := decAll_at aX7_reach_0 14 rfl
theorem dX7_reach_25 : decode cX7_reach 25 = .ok (.iastore, 1) := decAll_at aX7_reach_0 15 rfl
theorem dX7_reach_26 : decode cX7_reach 26 = .ok (.aload_n 0, 1) := decAll_at aX7_reach_0 16 rfl
theorem dX7_reach_27 : decode cX7_reach 27 = .ok (.dup, 1) := decAll_at aX7_reach_0 17 rfl
theorem dX7_reach_28 : decode cX7_reach 28 = .ok (.getfield 94, 3) := decAll_at aX7_reach_0 18 rfl
theorem dX7_reach_31 : decode cX7_reach 31 = .ok (.iconst 1, 1) := decAll_at aX7_reach_0 19 rfl
theorem dX7_reach_32 : decode cX7_reach 32 = .ok (.iadd, 1) := decAll_at aX7_reach_0 20 rfl
theorem dX7_reach_33 : decode cX7_reach 33 = .ok (.putfield 94, 3) := decAll_at aX7_reach_0 21 rfl
theorem dX7_reach_36 : decode cX7_reach 36 = .ok (.aload_n 0, 1) := decAll_at aX7_reach_0 22 rfl
theorem dX7_reach_37 : decode cX7_reach 37 = .ok (.getfield 75, 3) := decAll_at aX7_reach_0 23 rfl
theorem dX7_reach_40 : decode cX7_reach 40 = .ok (.iconst (-1), 1) := decAll_at aX7_reach_0 24 rfl
theorem dX7_reach_41 : decode cX7_reach 41 = .ok (.if_icmp .ne 8, 3) := decAll_at aX7_reach_0 25 rfl
theorem dX7_reach_44 : decode cX7_reach 44 = .ok (.bipush 6, 2) := decAll_at aX7_reach_0 26 rfl
theorem dX7_reach_46 : decode cX7_reach 46 = .ok (.goto 12, 3) := decAll_at aX7_reach_0 27 rfl
theorem dX7_reach_49 : decode cX7_reach 49 = .ok (.aload_n 0, 1) := decAll_at aX7_reach_0 28 rfl
theorem dX7_reach_50 : decode cX7_reach 50 = .ok (.getfield 75, 3) := decAll_at aX7_reach_0 29 rfl
theorem dX7_reach_53 : decode cX7_reach 53 = .ok (.iconst 1, 1) := decAll_at aX7_reach_0 30 rfl
theorem dX7_reach_54 : decode cX7_reach 54 = .ok (.iadd, 1) := decAll_at aX7_reach_0 31 rfl
theorem dX7_reach_55 : decode cX7_reach 55 = .ok (.bipush 6, 2) := decAll_at aX7_reach_0 32 rfl
theorem dX7_reach_57 : decode cX7_reach 57 = .ok (.imul, 1) := decAll_at aX7_reach_0 33 rfl
theorem dX7_reach_58 : decode cX7_reach 58 = .ok (.istore 7, 2) := decAll_at aX7_reach_0 34 rfl
theorem dX7_reach_60 : decode cX7_reach 60 = .ok (.iconst 0, 1) := decAll_at aX7_reach_0 35 rfl
theorem dX7_reach_61 : decode cX7_reach 61 = .ok (.istore 8, 2) := decAll_at aX7_reach_0 36 rfl
theorem dX7_reach_63 : decode cX7_reach 63 = .ok (.iload 8, 2) := decAll_at aX7_reach_0 37 rfl
theorem dX7_reach_65 : decode cX7_reach 65 = .ok (.iload 7, 2) := decAll_at aX7_reach_0 38 rfl
theorem dX7_reach_67 : decode cX7_reach 67 = .ok (.if_icmp .ge 154, 3) := decAll_at aX7_reach_0 39 rfl
theorem dX7_reach_70 : decode cX7_reach 70 = .ok (.aload_n 0, 1) := decAll_at aX7_reach_0 40 rfl
theorem dX7_reach_71 : decode cX7_reach 71 = .ok (.getfield 11, 3) := decAll_at aX7_reach_0 41 rfl
theorem dX7_reach_74 : decode cX7_reach 74 = .ok (.iload 8, 2) := decAll_at aX7_reach_0 42 rfl
theorem dX7_reach_76 : decode cX7_reach 76 = .ok (.sipush 1296, 3) := decAll_at aX7_reach_0 43 rfl
theorem dX7_reach_79 : decode cX7_reach 79 = .ok (.imul, 1) := decAll_at aX7_reach_0 44 rfl
theorem dX7_reach_80 : decode cX7_reach 80 = .ok (.iload_n 2, 1) := decAll_at aX7_reach_0 45 rfl
theorem dX7_reach_81 : decode cX7_reach 81 = .ok (.iadd, 1) := decAll_at aX7_reach_0 46 rfl
theorem dX7_reach_82 : decode cX7_reach 82 = .ok (.laload, 1) := decAll_at aX7_reach_0 47 rfl
theorem dX7_reach_83 : decode cX7_reach 83 = .ok (.lstore 9, 2) := decAll_at aX7_reach_0 48 rfl
theorem dX7_reach_85 : decode cX7_reach 85 = .ok (.iload_n 1, 1) := decAll_at aX7_reach_0 49 rfl
theorem dX7_reach_86 : decode cX7_reach 86 = .ok (.ifCond .le 17, 3) := decAll_at aX7_reach_0 50 rfl
theorem dX7_reach_89 : decode cX7_reach 89 = .ok (.iload 8, 2) := decAll_at aX7_reach_0 51 rfl
theorem dX7_reach_91 : decode cX7_reach 91 = .ok (.bipush 6, 2) := decAll_at aX7_reach_0 52 rfl
theorem dX7_reach_93 : decode cX7_reach 93 = .ok (.irem, 1) := decAll_at aX7_reach_0 53 rfl
theorem dX7_reach_94 : decode cX7_reach 94 = .ok (.iload 4, 2) := decAll_at aX7_reach_0 54 rfl
theorem dX7_reach_96 : decode cX7_reach 96 = .ok (.if_icmp .eq 7, 3) := decAll_at aX7_reach_0 55 rfl
theorem dX7_reach_99 : decode cX7_reach 99 = .ok (.iconst 1, 1) := decAll_at aX7_reach_0 56 rfl
theorem dX7_reach_100 : decode cX7_reach 100 = .ok (.goto 4, 3) := decAll_at aX7_reach_0 57 rfl
theorem dX7_reach_103 : decode cX7_reach 103 = .ok (.iconst 0, 1) := decAll_at aX7_reach_0 58 rfl
theorem dX7_reach_104 : decode cX7_reach 104 = .ok (.istore 11, 2) := decAll_at aX7_reach_0 59 rfl
theorem dX7_reach_106 : decode cX7_reach 106 = .ok (.iload 8, 2) := decAll_at aX7_reach_0 60 rfl
theorem dX7_reach_108 : decode cX7_reach 108 = .ok (.bipush 6, 2) := decAll_at aX7_reach_0 61 rfl
theorem dX7_reach_110 : decode cX7_reach 110 = .ok (.idiv, 1) := decAll_at aX7_reach_0 62 rfl
theorem dX7_reach_111 : decode cX7_reach 111 = .ok (.iload 11, 2) := decAll_at aX7_reach_0 63 rfl
def laX7_reach_1 : List (Nat × Instr × Nat) := [(113, .ifCond .eq 15, 3), (116, .aload_n 0, 1), (117, .getfield 75, 3), (120, .iconst (-1), 1), (121, .if_icmp .eq 7, 3), (124, .iconst 1, 1), (125, .goto 4, 3), (128, .iconst 0, 1), (129, .iadd, 1), (130, .istore 12, 2), (132, .lload 9, 2), (134, .ldc2_w 59, 3), (137, .lcmp, 1), (138, .ifCond .eq 77, 3), (141, .aload_n 0, 1), (142, .getfield 75, 3), (145, .iconst (-1), 1), (146, .if_icmp .eq 12, 3), (149, .iload 12, 2), (151, .aload_n 0, 1), (152, .getfield 75, 3), (155, .if_icmp .gt 60, 3), (158, .iload 12, 2), (160, .bipush 6, 2), (162, .imul, 1), (163, .iload 4, 2), (165, .iadd, 1), (166, .sipush 1296, 3), (169, .imul, 1), (170, .iload_n 3, 1), (171, .iadd, 1), (172, .istore 13, 2), (174, .aload_n 0, 1), (175, .getfield 15, 3), (178, .iload 13, 2), (180, .aload_n 0, 1), (181, .getfield 15, 3), (184, .iload 13, 2), (186, .laload, 1), (187, .lload 9, 2), (189, .lload 5, 2), (191, .ladd, 1), (192, .iload 11, 2), (194, .ifCond .eq 15, 3), (197, .aload_n 0, 1), (198, .getfield 71, 3), (201, .i2l, 1), (202, .ldc2_w 81, 3), (205, .lmul, 1), (206, .goto 4, 3), (209, .lconst 0, 1), (210, .ladd, 1), (211, .invokestatic 108, 3), (214, .lastore, 1), (215, .iinc 8 1, 3), (218, .goto (-155), 3), (221, .return_, 1)]
theorem aX7_reach_1 : decAll cX7_reach laX7_reach_1 = true := by decide +kernel
theorem dX7_reach_113 : decode cX7_reach 113 = .ok (.ifCond .eq 15, 3) := decAll_at aX7_reach_1 0 rfl
theorem dX7_reach_116 : decode cX7_reach 116 = .ok (.aload_n 0, 1) := decAll_at aX7_reach_1 1 rfl
theorem dX7_reach_117 : decode cX7_reach 117 = .ok (.getfield 75, 3) := decAll_at aX7_reach_1 2 rfl
theorem dX7_reach_120 : decode cX7_reach 120 = .ok (.iconst (-1), 1) := decAll_at aX7_reach_1 3 rfl
theorem dX7_reach_121 : decode cX7_reach 121 = .ok (.if_icmp .eq 7, 3) := decAll_at aX7_reach_1 4 rfl
theorem dX7_reach_124 : decode cX7_reach 124 = .ok (.iconst 1, 1) := decAll_at aX7_reach_1 5 rfl
theorem dX7_reach_125 : decode cX7_reach 125 = .ok (.goto 4, 3) := decAll_at aX7_reach_1 6 rfl
theorem dX7_reach_128 : decode cX7_reach 128 = .ok (.iconst 0, 1) := decAll_at aX7_reach_1 7 rfl
theorem dX7_reach_129 : decode cX7_reach 129 = .ok (.iadd, 1) := decAll_at aX7_reach_1 8 rfl
theorem dX7_reach_130 : decode cX7_reach 130 = .ok (.istore 12, 2) := decAll_at aX7_reach_1 9 rfl
theorem dX7_reach_132 : decode cX7_reach 132 = .ok (.lload 9, 2) := decAll_at aX7_reach_1 10 rfl
theorem dX7_reach_134 : decode cX7_reach 134 = .ok (.ldc2_w 59, 3) := decAll_at aX7_reach_1 11 rfl
theorem dX7_reach_137 : decode cX7_reach 137 = .ok (.lcmp, 1) := decAll_at aX7_reach_1 12 rfl
theorem dX7_reach_138 : decode cX7_reach 138 = .ok (.ifCond .eq 77, 3) := decAll_at aX7_reach_1 13 rfl
theorem dX7_reach_141 : decode cX7_reach 141 = .ok (.aload_n 0, 1) := decAll_at aX7_reach_1 14 rfl
theorem dX7_reach_142 : decode cX7_reach 142 = .ok (.getfield 75, 3) := decAll_at aX7_reach_1 15 rfl
theorem dX7_reach_145 : decode cX7_reach 145 = .ok (.iconst (-1), 1) := decAll_at aX7_reach_1 16 rfl
theorem dX7_reach_146 : decode cX7_reach 146 = .ok (.if_icmp .eq 12, 3) := decAll_at aX7_reach_1 17 rfl
theorem dX7_reach_149 : decode cX7_reach 149 = .ok (.iload 12, 2) := decAll_at aX7_reach_1 18 rfl
theorem dX7_reach_151 : decode cX7_reach 151 = .ok (.aload_n 0, 1) := decAll_at aX7_reach_1 19 rfl
theorem dX7_reach_152 : decode cX7_reach 152 = .ok (.getfield 75, 3) := decAll_at aX7_reach_1 20 rfl
theorem dX7_reach_155 : decode cX7_reach 155 = .ok (.if_icmp .gt 60, 3) := decAll_at aX7_reach_1 21 rfl
theorem dX7_reach_158 : decode cX7_reach 158 = .ok (.iload 12, 2) := decAll_at aX7_reach_1 22 rfl
theorem dX7_reach_160 : decode cX7_reach 160 = .ok (.bipush 6, 2) := decAll_at aX7_reach_1 23 rfl
theorem dX7_reach_162 : decode cX7_reach 162 = .ok (.imul, 1) := decAll_at aX7_reach_1 24 rfl
theorem dX7_reach_163 : decode cX7_reach 163 = .ok (.iload 4, 2) := decAll_at aX7_reach_1 25 rfl
theorem dX7_reach_165 : decode cX7_reach 165 = .ok (.iadd, 1) := decAll_at aX7_reach_1 26 rfl
theorem dX7_reach_166 : decode cX7_reach 166 = .ok (.sipush 1296, 3) := decAll_at aX7_reach_1 27 rfl
theorem dX7_reach_169 : decode cX7_reach 169 = .ok (.imul, 1) := decAll_at aX7_reach_1 28 rfl
theorem dX7_reach_170 : decode cX7_reach 170 = .ok (.iload_n 3, 1) := decAll_at aX7_reach_1 29 rfl
theorem dX7_reach_171 : decode cX7_reach 171 = .ok (.iadd, 1) := decAll_at aX7_reach_1 30 rfl
theorem dX7_reach_172 : decode cX7_reach 172 = .ok (.istore 13, 2) := decAll_at aX7_reach_1 31 rfl
theorem dX7_reach_174 : decode cX7_reach 174 = .ok (.aload_n 0, 1) := decAll_at aX7_reach_1 32 rfl
theorem dX7_reach_175 : decode cX7_reach 175 = .ok (.getfield 15, 3) := decAll_at aX7_reach_1 33 rfl
theorem dX7_reach_178 : decode cX7_reach 178 = .ok (.iload 13, 2) := decAll_at aX7_reach_1 34 rfl
theorem dX7_reach_180 : decode cX7_reach 180 = .ok (.aload_n 0, 1) := decAll_at aX7_reach_1 35 rfl
theorem dX7_reach_181 : decode cX7_reach 181 = .ok (.getfield 15, 3) := decAll_at aX7_reach_1 36 rfl
theorem dX7_reach_184 : decode cX7_reach 184 = .ok (.iload 13, 2) := decAll_at aX7_reach_1 37 rfl
theorem dX7_reach_186 : decode cX7_reach 186 = .ok (.laload, 1) := decAll_at aX7_reach_1 38 rfl
theorem dX7_reach_187 : decode cX7_reach 187 = .ok (.lload 9, 2) := decAll_at aX7_reach_1 39 rfl
theorem dX7_reach_189 : decode cX7_reach 189 = .ok (.lload 5, 2) := decAll_at aX7_reach_1 40 rfl
theorem dX7_reach_191 : decode cX7_reach 191 = .ok (.ladd, 1) := decAll_at aX7_reach_1 41 rfl
theorem dX7_reach_192 : decode cX7_reach 192 = .ok (.iload 11, 2) := decAll_at aX7_reach_1 42 rfl
theorem dX7_reach_194 : decode cX7_reach 194 = .ok (.ifCond .eq 15, 3) := decAll_at aX7_reach_1 43 rfl
theorem dX7_reach_197 : decode cX7_reach 197 = .ok (.aload_n 0, 1) := decAll_at aX7_reach_1 44 rfl
theorem dX7_reach_198 : decode cX7_reach 198 = .ok (.getfield 71, 3) := decAll_at aX7_reach_1 45 rfl
theorem dX7_reach_201 : decode cX7_reach 201 = .ok (.i2l, 1) := decAll_at aX7_reach_1 46 rfl
theorem dX7_reach_202 : decode cX7_reach 202 = .ok (.ldc2_w 81, 3) := decAll_at aX7_reach_1 47 rfl
theorem dX7_reach_205 : decode cX7_reach 205 = .ok (.lmul, 1) := decAll_at aX7_reach_1 48 rfl
theorem dX7_reach_206 : decode cX7_reach 206 = .ok (.goto 4, 3) := decAll_at aX7_reach_1 49 rfl
theorem dX7_reach_209 : decode cX7_reach 209 = .ok (.lconst 0, 1) := decAll_at aX7_reach_1 50 rfl
theorem dX7_reach_210 : decode cX7_reach 210 = .ok (.ladd, 1) := decAll_at aX7_reach_1 51 rfl
theorem dX7_reach_211 : decode cX7_reach 211 = .ok (.invokestatic 108, 3) := decAll_at aX7_reach_1 52 rfl
theorem dX7_reach_214 : decode cX7_reach 214 = .ok (.lastore, 1) := decAll_at aX7_reach_1 53 rfl
theorem dX7_reach_215 : decode cX7_reach 215 = .ok (.iinc 8 1, 3) := decAll_at aX7_reach_1 54 rfl
theorem dX7_reach_218 : decode cX7_reach 218 = .ok (.goto (-155), 3) := decAll_at aX7_reach_1 55 rfl
theorem dX7_reach_221 : decode cX7_reach 221 = .ok (.return_, 1) := decAll_at aX7_reach_1 56 rfl
def laX7_turnOver_0 : List (Nat × Instr × Nat) := [(0, .iconst 0, 1), (1, .istore_n 1, 1), (2, .iload_n 1, 1), (3, .aload_n 0, 1), (4, .getfield 78, 3), (7, .if_icmp .ge 43, 3), (10, .aload_n 0, 1), (11, .getfield 18, 3), (14, .iload_n 1, 1), (15, .iaload, 1), (16, .istore_n 2, 1), (17, .iload_n 2, 1), (18, .aload_n 0, 1), (19, .getfield 11, 3), (22, .arraylength, 1), (23, .if_icmp .ge 21, 3), (26, .aload_n 0, 1), (27, .getfield 11, 3), (30, .iload_n 2, 1), (31, .ldc2_w 59, 3), (34, .lastore, 1), (35, .iinc 2 1296, 6), (41, .goto (-24), 3), (44, .iinc 1 1, 3), (47, .goto (-45), 3), (50, .iconst 0, 1), (51, .istore_n 1, 1), (52, .iload_n 1, 1), (53, .aload_n 0, 1), (54, .getfield 94, 3), (57, .if_icmp .ge 21, 3), (60, .aload_n 0, 1), (61, .getfield 25, 3), (64, .aload_n 0, 1), (65, .getfield 22, 3), (68, .iload_n 1, 1), (69, .iaload, 1), (70, .iconst 0, 1), (71, .bastore, 1), (72, .iinc 1 1, 3), (75, .goto (-23), 3), (78, .aload_n 0, 1), (79, .getfield 11, 3), (82, .astore_n 1, 1), (83, .aload_n 0, 1), (84, .aload_n 0, 1), (85, .getfield 15, 3), (88, .putfield 11, 3), (91, .aload_n 0, 1), (92, .aload_n 1, 1), (93, .putfield 15, 3), (96, .aload_n 0, 1), (97, .getfield 18, 3), (100, .astore_n 2, 1), (101, .aload_n 0, 1), (102, .aload_n 0, 1), (103, .getfield 22, 3), (106, .putfield 18, 3), (109, .aload_n 0, 1), (110, .aload_n 2, 1), (111, .putfield 22, 3), (114, .aload_n 0, 1), (115, .aload_n 0, 1), (116, .getfield 94, 3)]
theorem aX7_turnOver_0 : decAll cX7_turnOver laX7_turnOver_0 = true := by decide +kernel
theorem dX7_turnOver_0 : decode cX7_turnOver 0 = .ok (.iconst 0, 1) := decAll_at aX7_turnOver_0 0 rfl
theorem dX7_turnOver_1 : decode cX7_turnOver 1 = .ok (.istore_n 1, 1) := decAll_at aX7_turnOver_0 1 rfl
theorem dX7_turnOver_2 : decode cX7_turnOver 2 = .ok (.iload_n 1, 1) := decAll_at aX7_turnOver_0 2 rfl
theorem dX7_turnOver_3 : decode cX7_turnOver 3 = .ok (.aload_n 0, 1) := decAll_at aX7_turnOver_0 3 rfl
theorem dX7_turnOver_4 : decode cX7_turnOver 4 = .ok (.getfield 78, 3) := decAll_at aX7_turnOver_0 4 rfl
theorem dX7_turnOver_7 : decode cX7_turnOver 7 = .ok (.if_icmp .ge 43, 3) := decAll_at aX7_turnOver_0 5 rfl
theorem dX7_turnOver_10 : decode cX7_turnOver 10 = .ok (.aload_n 0, 1) := decAll_at aX7_turnOver_0 6 rfl
theorem dX7_turnOver_11 : decode cX7_turnOver 11 = .ok (.getfield 18, 3) := decAll_at aX7_turnOver_0 7 rfl
theorem dX7_turnOver_14 : decode cX7_turnOver 14 = .ok (.iload_n 1, 1) := decAll_at aX7_turnOver_0 8 rfl
theorem dX7_turnOver_15 : decode cX7_turnOver 15 = .ok (.iaload, 1) := decAll_at aX7_turnOver_0 9 rfl
theorem dX7_turnOver_16 : decode cX7_turnOver 16 = .ok (.istore_n 2, 1) := decAll_at aX7_turnOver_0 10 rfl
theorem dX7_turnOver_17 : decode cX7_turnOver 17 = .ok (.iload_n 2, 1) := decAll_at aX7_turnOver_0 11 rfl
theorem dX7_turnOver_18 : decode cX7_turnOver 18 = .ok (.aload_n 0, 1) := decAll_at aX7_turnOver_0 12 rfl
theorem dX7_turnOver_19 : decode cX7_turnOver 19 = .ok (.getfield 11, 3) := decAll_at aX7_turnOver_0 13 rfl
theorem dX7_turnOver_22 : decode cX7_turnOver 22 = .ok (.arraylength, 1) := decAll_at aX7_turnOver_0 14 rfl
theorem dX7_turnOver_23 : decode cX7_turnOver 23 = .ok (.if_icmp .ge 21, 3) := decAll_at aX7_turnOver_0 15 rfl
theorem dX7_turnOver_26 : decode cX7_turnOver 26 = .ok (.aload_n 0, 1) := decAll_at aX7_turnOver_0 16 rfl
theorem dX7_turnOver_27 : decode cX7_turnOver 27 = .ok (.getfield 11, 3) := decAll_at aX7_turnOver_0 17 rfl
theorem dX7_turnOver_30 : decode cX7_turnOver 30 = .ok (.iload_n 2, 1) := decAll_at aX7_turnOver_0 18 rfl
theorem dX7_turnOver_31 : decode cX7_turnOver 31 = .ok (.ldc2_w 59, 3) := decAll_at aX7_turnOver_0 19 rfl
theorem dX7_turnOver_34 : decode cX7_turnOver 34 = .ok (.lastore, 1) := decAll_at aX7_turnOver_0 20 rfl
theorem dX7_turnOver_35 : decode cX7_turnOver 35 = .ok (.iinc 2 1296, 6) := decAll_at aX7_turnOver_0 21 rfl
theorem dX7_turnOver_41 : decode cX7_turnOver 41 = .ok (.goto (-24), 3) := decAll_at aX7_turnOver_0 22 rfl
theorem dX7_turnOver_44 : decode cX7_turnOver 44 = .ok (.iinc 1 1, 3) := decAll_at aX7_turnOver_0 23 rfl
theorem dX7_turnOver_47 : decode cX7_turnOver 47 = .ok (.goto (-45), 3) := decAll_at aX7_turnOver_0 24 rfl
theorem dX7_turnOver_50 : decode cX7_turnOver 50 = .ok (.iconst 0, 1) := decAll_at aX7_turnOver_0 25 rfl
theorem dX7_turnOver_51 : decode cX7_turnOver 51 = .ok (.istore_n 1, 1) := decAll_at aX7_turnOver_0 26 rfl
theorem dX7_turnOver_52 : decode cX7_turnOver 52 = .ok (.iload_n 1, 1) := decAll_at aX7_turnOver_0 27 rfl
theorem dX7_turnOver_53 : decode cX7_turnOver 53 = .ok (.aload_n 0, 1) := decAll_at aX7_turnOver_0 28 rfl
theorem dX7_turnOver_54 : decode cX7_turnOver 54 = .ok (.getfield 94, 3) := decAll_at aX7_turnOver_0 29 rfl
theorem dX7_turnOver_57 : decode cX7_turnOver 57 = .ok (.if_icmp .ge 21, 3) := decAll_at aX7_turnOver_0 30 rfl
theorem dX7_turnOver_60 : decode cX7_turnOver 60 = .ok (.aload_n 0, 1) := decAll_at aX7_turnOver_0 31 rfl
theorem dX7_turnOver_61 : decode cX7_turnOver 61 = .ok (.getfield 25, 3) := decAll_at aX7_turnOver_0 32 rfl
theorem dX7_turnOver_64 : decode cX7_turnOver 64 = .ok (.aload_n 0, 1) := decAll_at aX7_turnOver_0 33 rfl
theorem dX7_turnOver_65 : decode cX7_turnOver 65 = .ok (.getfield 22, 3) := decAll_at aX7_turnOver_0 34 rfl
theorem dX7_turnOver_68 : decode cX7_turnOver 68 = .ok (.iload_n 1, 1) := decAll_at aX7_turnOver_0 35 rfl
theorem dX7_turnOver_69 : decode cX7_turnOver 69 = .ok (.iaload, 1) := decAll_at aX7_turnOver_0 36 rfl
theorem dX7_turnOver_70 : decode cX7_turnOver 70 = .ok (.iconst 0, 1) := decAll_at aX7_turnOver_0 37 rfl
theorem dX7_turnOver_71 : decode cX7_turnOver 71 = .ok (.bastore, 1) := decAll_at aX7_turnOver_0 38 rfl
theorem dX7_turnOver_72 : decode cX7_turnOver 72 = .ok (.iinc 1 1, 3) := decAll_at aX7_turnOver_0 39 rfl
theorem dX7_turnOver_75 : decode cX7_turnOver 75 = .ok (.goto (-23), 3) := decAll_at aX7_turnOver_0 40 rfl
theorem dX7_turnOver_78 : decode cX7_turnOver 78 = .ok (.aload_n 0, 1) := decAll_at aX7_turnOver_0 41 rfl
theorem dX7_turnOver_79 : decode cX7_turnOver 79 = .ok (.getfield 11, 3) := decAll_at aX7_turnOver_0 42 rfl
theorem dX7_turnOver_82 : decode cX7_turnOver 82 = .ok (.astore_n 1, 1) := decAll_at aX7_turnOver_0 43 rfl
theorem dX7_turnOver_83 : decode cX7_turnOver 83 = .ok (.aload_n 0, 1) := decAll_at aX7_turnOver_0 44 rfl
theorem dX7_turnOver_84 : decode cX7_turnOver 84 = .ok (.aload_n 0, 1) := decAll_at aX7_turnOver_0 45 rfl
theorem dX7_turnOver_85 : decode cX7_turnOver 85 = .ok (.getfield 15, 3) := decAll_at aX7_turnOver_0 46 rfl
theorem dX7_turnOver_88 : decode cX7_turnOver 88 = .ok (.putfield 11, 3) := decAll_at aX7_turnOver_0 47 rfl
theorem dX7_turnOver_91 : decode cX7_turnOver 91 = .ok (.aload_n 0, 1) := decAll_at aX7_turnOver_0 48 rfl
theorem dX7_turnOver_92 : decode cX7_turnOver 92 = .ok (.aload_n 1, 1) := decAll_at aX7_turnOver_0 49 rfl
theorem dX7_turnOver_93 : decode cX7_turnOver 93 = .ok (.putfield 15, 3) := decAll_at aX7_turnOver_0 50 rfl
theorem dX7_turnOver_96 : decode cX7_turnOver 96 = .ok (.aload_n 0, 1) := decAll_at aX7_turnOver_0 51 rfl
theorem dX7_turnOver_97 : decode cX7_turnOver 97 = .ok (.getfield 18, 3) := decAll_at aX7_turnOver_0 52 rfl
theorem dX7_turnOver_100 : decode cX7_turnOver 100 = .ok (.astore_n 2, 1) := decAll_at aX7_turnOver_0 53 rfl
theorem dX7_turnOver_101 : decode cX7_turnOver 101 = .ok (.aload_n 0, 1) := decAll_at aX7_turnOver_0 54 rfl
theorem dX7_turnOver_102 : decode cX7_turnOver 102 = .ok (.aload_n 0, 1) := decAll_at aX7_turnOver_0 55 rfl
theorem dX7_turnOver_103 : decode cX7_turnOver 103 = .ok (.getfield 22, 3) := decAll_at aX7_turnOver_0 56 rfl
theorem dX7_turnOver_106 : decode cX7_turnOver 106 = .ok (.putfield 18, 3) := decAll_at aX7_turnOver_0 57 rfl
theorem dX7_turnOver_109 : decode cX7_turnOver 109 = .ok (.aload_n 0, 1) := decAll_at aX7_turnOver_0 58 rfl
theorem dX7_turnOver_110 : decode cX7_turnOver 110 = .ok (.aload_n 2, 1) := decAll_at aX7_turnOver_0 59 rfl
theorem dX7_turnOver_111 : decode cX7_turnOver 111 = .ok (.putfield 22, 3) := decAll_at aX7_turnOver_0 60 rfl
theorem dX7_turnOver_114 : decode cX7_turnOver 114 = .ok (.aload_n 0, 1) := decAll_at aX7_turnOver_0 61 rfl
theorem dX7_turnOver_115 : decode cX7_turnOver 115 = .ok (.aload_n 0, 1) := decAll_at aX7_turnOver_0 62 rfl
theorem dX7_turnOver_116 : decode cX7_turnOver 116 = .ok (.getfield 94, 3) := decAll_at aX7_turnOver_0 63 rfl
def laX7_turnOver_1 : List (Nat × Instr × Nat) := [(119, .putfield 78, 3), (122, .return_, 1)]
theorem aX7_turnOver_1 : decAll cX7_turnOver laX7_turnOver_1 = true := by decide +kernel
theorem dX7_turnOver_119 : decode cX7_turnOver 119 = .ok (.putfield 78, 3) := decAll_at aX7_turnOver_1 0 rfl
theorem dX7_turnOver_122 : decode cX7_turnOver 122 = .ok (.return_, 1) := decAll_at aX7_turnOver_1 1 rfl
def laX8_init_0 : List (Nat × Instr × Nat) := [(0, .aload_n 0, 1), (1, .invokespecial 3, 3), (4, .aload_n 0, 1), (5, .sipush 220, 3), (8, .newarray .int, 2), (10, .putfield 11, 3), (13, .return_, 1)]
theorem aX8_init_0 : decAll cX8_init laX8_init_0 = true := by decide +kernel
theorem dX8_init_0 : decode cX8_init 0 = .ok (.aload_n 0, 1) := decAll_at aX8_init_0 0 rfl
theorem dX8_init_1 : decode cX8_init 1 = .ok (.invokespecial 3, 3) := decAll_at aX8_init_0 1 rfl
theorem dX8_init_4 : decode cX8_init 4 = .ok (.aload_n 0, 1) := decAll_at aX8_init_0 2 rfl
theorem dX8_init_5 : decode cX8_init 5 = .ok (.sipush 220, 3) := decAll_at aX8_init_0 3 rfl
theorem dX8_init_8 : decode cX8_init 8 = .ok (.newarray .int, 2) := decAll_at aX8_init_0 4 rfl
theorem dX8_init_10 : decode cX8_init 10 = .ok (.putfield 11, 3) := decAll_at aX8_init_0 5 rfl
theorem dX8_init_13 : decode cX8_init 13 = .ok (.return_, 1) := decAll_at aX8_init_0 6 rfl
def laX8_append_0 : List (Nat × Instr × Nat) := [(0, .bipush 24, 2), (2, .istore_n 2, 1), (3, .iload_n 2, 1), (4, .ifCond .lt 45, 3), (7, .aload_n 0, 1), (8, .getfield 15, 3), (11, .sipush 220, 3), (14, .if_icmp .ge 35, 3), (17, .aload_n 0, 1), (18, .getfield 11, 3), (21, .aload_n 0, 1), (22, .getfield 15, 3), (25, .iload_n 1, 1), (26, .iload_n 2, 1), (27, .iushr, 1), (28, .sipush 255, 3), (31, .iand, 1), (32, .iastore, 1), (33, .aload_n 0, 1), (34, .dup, 1), (35, .getfield 15, 3), (38, .iconst 1, 1), (39, .iadd, 1), (40, .putfield 15, 3), (43, .iinc 2 (-8), 3), (46, .goto (-43), 3), (49, .return_, 1)]
theorem aX8_append_0 : decAll cX8_append laX8_append_0 = true := by decide +kernel
theorem dX8_append_0 : decode cX8_append 0 = .ok (.bipush 24, 2) := decAll_at aX8_append_0 0 rfl
theorem dX8_append_2 : decode cX8_append 2 = .ok (.istore_n 2, 1) := decAll_at aX8_append_0 1 rfl
theorem dX8_append_3 : decode cX8_append 3 = .ok (.iload_n 2, 1) := decAll_at aX8_append_0 2 rfl
theorem dX8_append_4 : decode cX8_append 4 = .ok (.ifCond .lt 45, 3) := decAll_at aX8_append_0 3 rfl
theorem dX8_append_7 : decode cX8_append 7 = .ok (.aload_n 0, 1) := decAll_at aX8_append_0 4 rfl
theorem dX8_append_8 : decode cX8_append 8 = .ok (.getfield 15, 3) := decAll_at aX8_append_0 5 rfl
theorem dX8_append_11 : decode cX8_append 11 = .ok (.sipush 220, 3) := decAll_at aX8_append_0 6 rfl
theorem dX8_append_14 : decode cX8_append 14 = .ok (.if_icmp .ge 35, 3) := decAll_at aX8_append_0 7 rfl
theorem dX8_append_17 : decode cX8_append 17 = .ok (.aload_n 0, 1) := decAll_at aX8_append_0 8 rfl
theorem dX8_append_18 : decode cX8_append 18 = .ok (.getfield 11, 3) := decAll_at aX8_append_0 9 rfl
theorem dX8_append_21 : decode cX8_append 21 = .ok (.aload_n 0, 1) := decAll_at aX8_append_0 10 rfl
theorem dX8_append_22 : decode cX8_append 22 = .ok (.getfield 15, 3) := decAll_at aX8_append_0 11 rfl
theorem dX8_append_25 : decode cX8_append 25 = .ok (.iload_n 1, 1) := decAll_at aX8_append_0 12 rfl
theorem dX8_append_26 : decode cX8_append 26 = .ok (.iload_n 2, 1) := decAll_at aX8_append_0 13 rfl
theorem dX8_append_27 : decode cX8_append 27 = .ok (.iushr, 1) := decAll_at aX8_append_0 14 rfl
theorem dX8_append_28 : decode cX8_append 28 = .ok (.sipush 255, 3) := decAll_at aX8_append_0 15 rfl
theorem dX8_append_31 : decode cX8_append 31 = .ok (.iand, 1) := decAll_at aX8_append_0 16 rfl
theorem dX8_append_32 : decode cX8_append 32 = .ok (.iastore, 1) := decAll_at aX8_append_0 17 rfl
theorem dX8_append_33 : decode cX8_append 33 = .ok (.aload_n 0, 1) := decAll_at aX8_append_0 18 rfl
theorem dX8_append_34 : decode cX8_append 34 = .ok (.dup, 1) := decAll_at aX8_append_0 19 rfl
theorem dX8_append_35 : decode cX8_append 35 = .ok (.getfield 15, 3) := decAll_at aX8_append_0 20 rfl
theorem dX8_append_38 : decode cX8_append 38 = .ok (.iconst 1, 1) := decAll_at aX8_append_0 21 rfl
theorem dX8_append_39 : decode cX8_append 39 = .ok (.iadd, 1) := decAll_at aX8_append_0 22 rfl
theorem dX8_append_40 : decode cX8_append 40 = .ok (.putfield 15, 3) := decAll_at aX8_append_0 23 rfl
theorem dX8_append_43 : decode cX8_append 43 = .ok (.iinc 2 (-8), 3) := decAll_at aX8_append_0 24 rfl
theorem dX8_append_46 : decode cX8_append 46 = .ok (.goto (-43), 3) := decAll_at aX8_append_0 25 rfl
theorem dX8_append_49 : decode cX8_append 49 = .ok (.return_, 1) := decAll_at aX8_append_0 26 rfl
def laX8_number_0 : List (Nat × Instr × Nat) := [(0, .iconst 4, 1), (1, .iload_n 1, 1), (2, .imul, 1), (3, .istore_n 2, 1), (4, .iload_n 2, 1), (5, .ifCond .lt 12, 3), (8, .iload_n 2, 1), (9, .iconst 3, 1), (10, .iadd, 1), (11, .sipush 220, 3), (14, .if_icmp .lt 5, 3), (17, .iconst (-1), 1), (18, .ireturn, 1), (19, .aload_n 0, 1), (20, .getfield 11, 3), (23, .iload_n 2, 1), (24, .iaload, 1), (25, .bipush 24, 2), (27, .ishl, 1), (28, .aload_n 0, 1), (29, .getfield 11, 3), (32, .iload_n 2, 1), (33, .iconst 1, 1), (34, .iadd, 1), (35, .iaload, 1), (36, .bipush 16, 2), (38, .ishl, 1), (39, .ior, 1), (40, .aload_n 0, 1), (41, .getfield 11, 3), (44, .iload_n 2, 1), (45, .iconst 2, 1), (46, .iadd, 1), (47, .iaload, 1), (48, .bipush 8, 2), (50, .ishl, 1), (51, .ior, 1), (52, .aload_n 0, 1), (53, .getfield 11, 3), (56, .iload_n 2, 1), (57, .iconst 3, 1), (58, .iadd, 1), (59, .iaload, 1), (60, .ior, 1), (61, .ireturn, 1)]
theorem aX8_number_0 : decAll cX8_number laX8_number_0 = true := by decide +kernel
theorem dX8_number_0 : decode cX8_number 0 = .ok (.iconst 4, 1) := decAll_at aX8_number_0 0 rfl
theorem dX8_number_1 : decode cX8_number 1 = .ok (.iload_n 1, 1) := decAll_at aX8_number_0 1 rfl
theorem dX8_number_2 : decode cX8_number 2 = .ok (.imul, 1) := decAll_at aX8_number_0 2 rfl
theorem dX8_number_3 : decode cX8_number 3 = .ok (.istore_n 2, 1) := decAll_at aX8_number_0 3 rfl
theorem dX8_number_4 : decode cX8_number 4 = .ok (.iload_n 2, 1) := decAll_at aX8_number_0 4 rfl
theorem dX8_number_5 : decode cX8_number 5 = .ok (.ifCond .lt 12, 3) := decAll_at aX8_number_0 5 rfl
theorem dX8_number_8 : decode cX8_number 8 = .ok (.iload_n 2, 1) := decAll_at aX8_number_0 6 rfl
theorem dX8_number_9 : decode cX8_number 9 = .ok (.iconst 3, 1) := decAll_at aX8_number_0 7 rfl
theorem dX8_number_10 : decode cX8_number 10 = .ok (.iadd, 1) := decAll_at aX8_number_0 8 rfl
theorem dX8_number_11 : decode cX8_number 11 = .ok (.sipush 220, 3) := decAll_at aX8_number_0 9 rfl
theorem dX8_number_14 : decode cX8_number 14 = .ok (.if_icmp .lt 5, 3) := decAll_at aX8_number_0 10 rfl
theorem dX8_number_17 : decode cX8_number 17 = .ok (.iconst (-1), 1) := decAll_at aX8_number_0 11 rfl
theorem dX8_number_18 : decode cX8_number 18 = .ok (.ireturn, 1) := decAll_at aX8_number_0 12 rfl
theorem dX8_number_19 : decode cX8_number 19 = .ok (.aload_n 0, 1) := decAll_at aX8_number_0 13 rfl
theorem dX8_number_20 : decode cX8_number 20 = .ok (.getfield 11, 3) := decAll_at aX8_number_0 14 rfl
theorem dX8_number_23 : decode cX8_number 23 = .ok (.iload_n 2, 1) := decAll_at aX8_number_0 15 rfl
theorem dX8_number_24 : decode cX8_number 24 = .ok (.iaload, 1) := decAll_at aX8_number_0 16 rfl
theorem dX8_number_25 : decode cX8_number 25 = .ok (.bipush 24, 2) := decAll_at aX8_number_0 17 rfl
theorem dX8_number_27 : decode cX8_number 27 = .ok (.ishl, 1) := decAll_at aX8_number_0 18 rfl
theorem dX8_number_28 : decode cX8_number 28 = .ok (.aload_n 0, 1) := decAll_at aX8_number_0 19 rfl
theorem dX8_number_29 : decode cX8_number 29 = .ok (.getfield 11, 3) := decAll_at aX8_number_0 20 rfl
theorem dX8_number_32 : decode cX8_number 32 = .ok (.iload_n 2, 1) := decAll_at aX8_number_0 21 rfl
theorem dX8_number_33 : decode cX8_number 33 = .ok (.iconst 1, 1) := decAll_at aX8_number_0 22 rfl
theorem dX8_number_34 : decode cX8_number 34 = .ok (.iadd, 1) := decAll_at aX8_number_0 23 rfl
theorem dX8_number_35 : decode cX8_number 35 = .ok (.iaload, 1) := decAll_at aX8_number_0 24 rfl
theorem dX8_number_36 : decode cX8_number 36 = .ok (.bipush 16, 2) := decAll_at aX8_number_0 25 rfl
theorem dX8_number_38 : decode cX8_number 38 = .ok (.ishl, 1) := decAll_at aX8_number_0 26 rfl
theorem dX8_number_39 : decode cX8_number 39 = .ok (.ior, 1) := decAll_at aX8_number_0 27 rfl
theorem dX8_number_40 : decode cX8_number 40 = .ok (.aload_n 0, 1) := decAll_at aX8_number_0 28 rfl
theorem dX8_number_41 : decode cX8_number 41 = .ok (.getfield 11, 3) := decAll_at aX8_number_0 29 rfl
theorem dX8_number_44 : decode cX8_number 44 = .ok (.iload_n 2, 1) := decAll_at aX8_number_0 30 rfl
theorem dX8_number_45 : decode cX8_number 45 = .ok (.iconst 2, 1) := decAll_at aX8_number_0 31 rfl
theorem dX8_number_46 : decode cX8_number 46 = .ok (.iadd, 1) := decAll_at aX8_number_0 32 rfl
theorem dX8_number_47 : decode cX8_number 47 = .ok (.iaload, 1) := decAll_at aX8_number_0 33 rfl
theorem dX8_number_48 : decode cX8_number 48 = .ok (.bipush 8, 2) := decAll_at aX8_number_0 34 rfl
theorem dX8_number_50 : decode cX8_number 50 = .ok (.ishl, 1) := decAll_at aX8_number_0 35 rfl
theorem dX8_number_51 : decode cX8_number 51 = .ok (.ior, 1) := decAll_at aX8_number_0 36 rfl
theorem dX8_number_52 : decode cX8_number 52 = .ok (.aload_n 0, 1) := decAll_at aX8_number_0 37 rfl
theorem dX8_number_53 : decode cX8_number 53 = .ok (.getfield 11, 3) := decAll_at aX8_number_0 38 rfl
theorem dX8_number_56 : decode cX8_number 56 = .ok (.iload_n 2, 1) := decAll_at aX8_number_0 39 rfl
theorem dX8_number_57 : decode cX8_number 57 = .ok (.iconst 3, 1) := decAll_at aX8_number_0 40 rfl
theorem dX8_number_58 : decode cX8_number 58 = .ok (.iadd, 1) := decAll_at aX8_number_0 41 rfl
theorem dX8_number_59 : decode cX8_number 59 = .ok (.iaload, 1) := decAll_at aX8_number_0 42 rfl
theorem dX8_number_60 : decode cX8_number 60 = .ok (.ior, 1) := decAll_at aX8_number_0 43 rfl
theorem dX8_number_61 : decode cX8_number 61 = .ok (.ireturn, 1) := decAll_at aX8_number_0 44 rfl
def laX9_init_0 : List (Nat × Instr × Nat) := [(0, .aload_n 0, 1), (1, .invokespecial 1, 3), (4, .aload_n 0, 1), (5, .new 7, 3), (8, .dup, 1), (9, .invokespecial 9, 3), (12, .putfield 10, 3), (15, .aload_n 0, 1), (16, .new 16, 3), (19, .dup, 1), (20, .invokespecial 18, 3), (23, .putfield 19, 3), (26, .aload_n 0, 1), (27, .new 23, 3), (30, .dup, 1), (31, .invokespecial 25, 3), (34, .putfield 26, 3), (37, .aload_n 0, 1), (38, .new 30, 3), (41, .dup, 1), (42, .aload_n 0, 1), (43, .getfield 10, 3), (46, .invokespecial 32, 3), (49, .putfield 35, 3), (52, .aload_n 0, 1), (53, .new 39, 3), (56, .dup, 1), (57, .aload_n 0, 1), (58, .getfield 19, 3), (61, .aload_n 0, 1), (62, .getfield 26, 3), (65, .invokespecial 41, 3), (68, .putfield 44, 3), (71, .aload_n 0, 1), (72, .new 48, 3), (75, .dup, 1), (76, .aload_n 0, 1), (77, .getfield 19, 3), (80, .aload_n 0, 1), (81, .getfield 44, 3), (84, .invokespecial 50, 3), (87, .putfield 53, 3), (90, .aload_n 0, 1), (91, .new 57, 3), (94, .dup, 1), (95, .aload_n 0, 1), (96, .getfield 19, 3), (99, .aload_n 0, 1), (100, .getfield 44, 3), (103, .invokespecial 59, 3), (106, .putfield 60, 3), (109, .aload_n 0, 1), (110, .new 64, 3), (113, .dup, 1), (114, .aload_n 0, 1), (115, .getfield 19, 3), (118, .aload_n 0, 1), (119, .getfield 44, 3), (122, .aload_n 0, 1), (123, .getfield 60, 3), (126, .invokespecial 66, 3), (129, .putfield 69, 3), (132, .aload_n 0, 1), (133, .new 73, 3)]
theorem aX9_init_0 : decAll cX9_init laX9_init_0 = true := by decide +kernel
theorem dX9_init_0 : decode cX9_init 0 = .ok (.aload_n 0, 1) := decAll_at aX9_init_0 0 rfl
theorem dX9_init_1 : decode cX9_init 1 = .ok (.invokespecial 1, 3) := decAll_at aX9_init_0 1 rfl
theorem dX9_init_4 : decode cX9_init 4 = .ok (.aload_n 0, 1) := decAll_at aX9_init_0 2 rfl
theorem dX9_init_5 : decode cX9_init 5 = .ok (.new 7, 3) := decAll_at aX9_init_0 3 rfl
theorem dX9_init_8 : decode cX9_init 8 = .ok (.dup, 1) := decAll_at aX9_init_0 4 rfl
theorem dX9_init_9 : decode cX9_init 9 = .ok (.invokespecial 9, 3) := decAll_at aX9_init_0 5 rfl
theorem dX9_init_12 : decode cX9_init 12 = .ok (.putfield 10, 3) := decAll_at aX9_init_0 6 rfl
theorem dX9_init_15 : decode cX9_init 15 = .ok (.aload_n 0, 1) := decAll_at aX9_init_0 7 rfl
theorem dX9_init_16 : decode cX9_init 16 = .ok (.new 16, 3) := decAll_at aX9_init_0 8 rfl
theorem dX9_init_19 : decode cX9_init 19 = .ok (.dup, 1) := decAll_at aX9_init_0 9 rfl
theorem dX9_init_20 : decode cX9_init 20 = .ok (.invokespecial 18, 3) := decAll_at aX9_init_0 10 rfl
theorem dX9_init_23 : decode cX9_init 23 = .ok (.putfield 19, 3) := decAll_at aX9_init_0 11 rfl
theorem dX9_init_26 : decode cX9_init 26 = .ok (.aload_n 0, 1) := decAll_at aX9_init_0 12 rfl
theorem dX9_init_27 : decode cX9_init 27 = .ok (.new 23, 3) := decAll_at aX9_init_0 13 rfl
theorem dX9_init_30 : decode cX9_init 30 = .ok (.dup, 1) := decAll_at aX9_init_0 14 rfl
theorem dX9_init_31 : decode cX9_init 31 = .ok (.invokespecial 25, 3) := decAll_at aX9_init_0 15 rfl
theorem dX9_init_34 : decode cX9_init 34 = .ok (.putfield 26, 3) := decAll_at aX9_init_0 16 rfl
theorem dX9_init_37 : decode cX9_init 37 = .ok (.aload_n 0, 1) := decAll_at aX9_init_0 17 rfl
theorem dX9_init_38 : decode cX9_init 38 = .ok (.new 30, 3) := decAll_at aX9_init_0 18 rfl
theorem dX9_init_41 : decode cX9_init 41 = .ok (.dup, 1) := decAll_at aX9_init_0 19 rfl
theorem dX9_init_42 : decode cX9_init 42 = .ok (.aload_n 0, 1) := decAll_at aX9_init_0 20 rfl
theorem dX9_init_43 : decode cX9_init 43 = .ok (.getfield 10, 3) := decAll_at aX9_init_0 21 rfl
theorem dX9_init_46 : decode cX9_init 46 = .ok (.invokespecial 32, 3) := decAll_at aX9_init_0 22 rfl
theorem dX9_init_49 : decode cX9_init 49 = .ok (.putfield 35, 3) := decAll_at aX9_init_0 23 rfl
theorem dX9_init_52 : decode cX9_init 52 = .ok (.aload_n 0, 1) := decAll_at aX9_init_0 24 rfl
theorem dX9_init_53 : decode cX9_init 53 = .ok (.new 39, 3) := decAll_at aX9_init_0 25 rfl
theorem dX9_init_56 : decode cX9_init 56 = .ok (.dup, 1) := decAll_at aX9_init_0 26 rfl
theorem dX9_init_57 : decode cX9_init 57 = .ok (.aload_n 0, 1) := decAll_at aX9_init_0 27 rfl
theorem dX9_init_58 : decode cX9_init 58 = .ok (.getfield 19, 3) := decAll_at aX9_init_0 28 rfl
theorem dX9_init_61 : decode cX9_init 61 = .ok (.aload_n 0, 1) := decAll_at aX9_init_0 29 rfl
theorem dX9_init_62 : decode cX9_init 62 = .ok (.getfield 26, 3) := decAll_at aX9_init_0 30 rfl
theorem dX9_init_65 : decode cX9_init 65 = .ok (.invokespecial 41, 3) := decAll_at aX9_init_0 31 rfl
theorem dX9_init_68 : decode cX9_init 68 = .ok (.putfield 44, 3) := decAll_at aX9_init_0 32 rfl
theorem dX9_init_71 : decode cX9_init 71 = .ok (.aload_n 0, 1) := decAll_at aX9_init_0 33 rfl
theorem dX9_init_72 : decode cX9_init 72 = .ok (.new 48, 3) := decAll_at aX9_init_0 34 rfl
theorem dX9_init_75 : decode cX9_init 75 = .ok (.dup, 1) := decAll_at aX9_init_0 35 rfl
theorem dX9_init_76 : decode cX9_init 76 = .ok (.aload_n 0, 1) := decAll_at aX9_init_0 36 rfl
theorem dX9_init_77 : decode cX9_init 77 = .ok (.getfield 19, 3) := decAll_at aX9_init_0 37 rfl
theorem dX9_init_80 : decode cX9_init 80 = .ok (.aload_n 0, 1) := decAll_at aX9_init_0 38 rfl
theorem dX9_init_81 : decode cX9_init 81 = .ok (.getfield 44, 3) := decAll_at aX9_init_0 39 rfl
theorem dX9_init_84 : decode cX9_init 84 = .ok (.invokespecial 50, 3) := decAll_at aX9_init_0 40 rfl
theorem dX9_init_87 : decode cX9_init 87 = .ok (.putfield 53, 3) := decAll_at aX9_init_0 41 rfl
theorem dX9_init_90 : decode cX9_init 90 = .ok (.aload_n 0, 1) := decAll_at aX9_init_0 42 rfl
theorem dX9_init_91 : decode cX9_init 91 = .ok (.new 57, 3) := decAll_at aX9_init_0 43 rfl
theorem dX9_init_94 : decode cX9_init 94 = .ok (.dup, 1) := decAll_at aX9_init_0 44 rfl
theorem dX9_init_95 : decode cX9_init 95 = .ok (.aload_n 0, 1) := decAll_at aX9_init_0 45 rfl
theorem dX9_init_96 : decode cX9_init 96 = .ok (.getfield 19, 3) := decAll_at aX9_init_0 46 rfl
theorem dX9_init_99 : decode cX9_init 99 = .ok (.aload_n 0, 1) := decAll_at aX9_init_0 47 rfl
theorem dX9_init_100 : decode cX9_init 100 = .ok (.getfield 44, 3) := decAll_at aX9_init_0 48 rfl
theorem dX9_init_103 : decode cX9_init 103 = .ok (.invokespecial 59, 3) := decAll_at aX9_init_0 49 rfl
theorem dX9_init_106 : decode cX9_init 106 = .ok (.putfield 60, 3) := decAll_at aX9_init_0 50 rfl
theorem dX9_init_109 : decode cX9_init 109 = .ok (.aload_n 0, 1) := decAll_at aX9_init_0 51 rfl
theorem dX9_init_110 : decode cX9_init 110 = .ok (.new 64, 3) := decAll_at aX9_init_0 52 rfl
theorem dX9_init_113 : decode cX9_init 113 = .ok (.dup, 1) := decAll_at aX9_init_0 53 rfl
theorem dX9_init_114 : decode cX9_init 114 = .ok (.aload_n 0, 1) := decAll_at aX9_init_0 54 rfl
theorem dX9_init_115 : decode cX9_init 115 = .ok (.getfield 19, 3) := decAll_at aX9_init_0 55 rfl
theorem dX9_init_118 : decode cX9_init 118 = .ok (.aload_n 0, 1) := decAll_at aX9_init_0 56 rfl
theorem dX9_init_119 : decode cX9_init 119 = .ok (.getfield 44, 3) := decAll_at aX9_init_0 57 rfl
theorem dX9_init_122 : decode cX9_init 122 = .ok (.aload_n 0, 1) := decAll_at aX9_init_0 58 rfl
theorem dX9_init_123 : decode cX9_init 123 = .ok (.getfield 60, 3) := decAll_at aX9_init_0 59 rfl
theorem dX9_init_126 : decode cX9_init 126 = .ok (.invokespecial 66, 3) := decAll_at aX9_init_0 60 rfl
theorem dX9_init_129 : decode cX9_init 129 = .ok (.putfield 69, 3) := decAll_at aX9_init_0 61 rfl
theorem dX9_init_132 : decode cX9_init 132 = .ok (.aload_n 0, 1) := decAll_at aX9_init_0 62 rfl
theorem dX9_init_133 : decode cX9_init 133 = .ok (.new 73, 3) := decAll_at aX9_init_0 63 rfl
def laX9_init_1 : List (Nat × Instr × Nat) := [(136, .dup, 1), (137, .aload_n 0, 1), (138, .getfield 19, 3), (141, .aload_n 0, 1), (142, .getfield 44, 3), (145, .invokespecial 75, 3), (148, .putfield 76, 3), (151, .return_, 1)]
theorem aX9_init_1 : decAll cX9_init laX9_init_1 = true := by decide +kernel
theorem dX9_init_136 : decode cX9_init 136 = .ok (.dup, 1) := decAll_at aX9_init_1 0 rfl
theorem dX9_init_137 : decode cX9_init 137 = .ok (.aload_n 0, 1) := decAll_at aX9_init_1 1 rfl
theorem dX9_init_138 : decode cX9_init 138 = .ok (.getfield 19, 3) := decAll_at aX9_init_1 2 rfl
theorem dX9_init_141 : decode cX9_init 141 = .ok (.aload_n 0, 1) := decAll_at aX9_init_1 3 rfl
theorem dX9_init_142 : decode cX9_init 142 = .ok (.getfield 44, 3) := decAll_at aX9_init_1 4 rfl
theorem dX9_init_145 : decode cX9_init 145 = .ok (.invokespecial 75, 3) := decAll_at aX9_init_1 5 rfl
theorem dX9_init_148 : decode cX9_init 148 = .ok (.putfield 76, 3) := decAll_at aX9_init_1 6 rfl
theorem dX9_init_151 : decode cX9_init 151 = .ok (.return_, 1) := decAll_at aX9_init_1 7 rfl
def laX9_walker_0 : List (Nat × Instr × Nat) := [(0, .iload_n 1, 1), (1, .ifCond .lt 26, 3), (4, .iload_n 1, 1), (5, .bipush 9, 2), (7, .if_icmp .gt 20, 3), (10, .iload_n 2, 1), (11, .bipush 20, 2), (13, .if_icmp .lt 14, 3), (16, .iload_n 2, 1), (17, .sipush 250, 3), (20, .if_icmp .gt 7, 3), (23, .iconst 1, 1), (24, .goto 4, 3), (27, .iconst 0, 1), (28, .istore_n 3, 1), (29, .iload_n 3, 1), (30, .ifCond .eq 15, 3), (33, .aload_n 0, 1), (34, .getfield 19, 3), (37, .getfield 80, 3), (40, .bipush 6, 2), (42, .if_icmp .lt 5, 3), (45, .iconst (-1), 1), (46, .ireturn, 1), (47, .aload_n 0, 1), (48, .getfield 19, 3), (51, .getfield 80, 3), (54, .istore 4, 2), (56, .aload_n 0, 1), (57, .getfield 19, 3), (60, .getfield 84, 3), (63, .iload 4, 2), (65, .iload_n 1, 1), (66, .iastore, 1), (67, .aload_n 0, 1), (68, .getfield 19, 3), (71, .getfield 88, 3), (74, .iload 4, 2), (76, .iload_n 2, 1), (77, .iastore, 1), (78, .aload_n 0, 1), (79, .getfield 19, 3), (82, .getfield 91, 3), (85, .iload 4, 2), (87, .iconst 0, 1), (88, .bastore, 1), (89, .aload_n 0, 1), (90, .getfield 19, 3), (93, .dup, 1), (94, .getfield 80, 3), (97, .iconst 1, 1), (98, .iadd, 1), (99, .putfield 80, 3), (102, .aload_n 0, 1), (103, .getfield 60, 3), (106, .iconst 0, 1), (107, .putfield 95, 3), (110, .aload_n 0, 1), (111, .invokevirtual 99, 3), (114, .iload 4, 2), (116, .ireturn, 1)]
theorem aX9_walker_0 : decAll cX9_walker laX9_walker_0 = true := by decide +kernel
theorem dX9_walker_0 : decode cX9_walker 0 = .ok (.iload_n 1, 1) := decAll_at aX9_walker_0 0 rfl
theorem dX9_walker_1 : decode cX9_walker 1 = .ok (.ifCond .lt 26, 3) := decAll_at aX9_walker_0 1 rfl
theorem dX9_walker_4 : decode cX9_walker 4 = .ok (.iload_n 1, 1) := decAll_at aX9_walker_0 2 rfl
theorem dX9_walker_5 : decode cX9_walker 5 = .ok (.bipush 9, 2) := decAll_at aX9_walker_0 3 rfl
theorem dX9_walker_7 : decode cX9_walker 7 = .ok (.if_icmp .gt 20, 3) := decAll_at aX9_walker_0 4 rfl
theorem dX9_walker_10 : decode cX9_walker 10 = .ok (.iload_n 2, 1) := decAll_at aX9_walker_0 5 rfl
theorem dX9_walker_11 : decode cX9_walker 11 = .ok (.bipush 20, 2) := decAll_at aX9_walker_0 6 rfl
theorem dX9_walker_13 : decode cX9_walker 13 = .ok (.if_icmp .lt 14, 3) := decAll_at aX9_walker_0 7 rfl
theorem dX9_walker_16 : decode cX9_walker 16 = .ok (.iload_n 2, 1) := decAll_at aX9_walker_0 8 rfl
theorem dX9_walker_17 : decode cX9_walker 17 = .ok (.sipush 250, 3) := decAll_at aX9_walker_0 9 rfl
theorem dX9_walker_20 : decode cX9_walker 20 = .ok (.if_icmp .gt 7, 3) := decAll_at aX9_walker_0 10 rfl
theorem dX9_walker_23 : decode cX9_walker 23 = .ok (.iconst 1, 1) := decAll_at aX9_walker_0 11 rfl
theorem dX9_walker_24 : decode cX9_walker 24 = .ok (.goto 4, 3) := decAll_at aX9_walker_0 12 rfl
theorem dX9_walker_27 : decode cX9_walker 27 = .ok (.iconst 0, 1) := decAll_at aX9_walker_0 13 rfl
theorem dX9_walker_28 : decode cX9_walker 28 = .ok (.istore_n 3, 1) := decAll_at aX9_walker_0 14 rfl
theorem dX9_walker_29 : decode cX9_walker 29 = .ok (.iload_n 3, 1) := decAll_at aX9_walker_0 15 rfl
theorem dX9_walker_30 : decode cX9_walker 30 = .ok (.ifCond .eq 15, 3) := decAll_at aX9_walker_0 16 rfl
theorem dX9_walker_33 : decode cX9_walker 33 = .ok (.aload_n 0, 1) := decAll_at aX9_walker_0 17 rfl
theorem dX9_walker_34 : decode cX9_walker 34 = .ok (.getfield 19, 3) := decAll_at aX9_walker_0 18 rfl
theorem dX9_walker_37 : decode cX9_walker 37 = .ok (.getfield 80, 3) := decAll_at aX9_walker_0 19 rfl
theorem dX9_walker_40 : decode cX9_walker 40 = .ok (.bipush 6, 2) := decAll_at aX9_walker_0 20 rfl
theorem dX9_walker_42 : decode cX9_walker 42 = .ok (.if_icmp .lt 5, 3) := decAll_at aX9_walker_0 21 rfl
theorem dX9_walker_45 : decode cX9_walker 45 = .ok (.iconst (-1), 1) := decAll_at aX9_walker_0 22 rfl
theorem dX9_walker_46 : decode cX9_walker 46 = .ok (.ireturn, 1) := decAll_at aX9_walker_0 23 rfl
theorem dX9_walker_47 : decode cX9_walker 47 = .ok (.aload_n 0, 1) := decAll_at aX9_walker_0 24 rfl
theorem dX9_walker_48 : decode cX9_walker 48 = .ok (.getfield 19, 3) := decAll_at aX9_walker_0 25 rfl
theorem dX9_walker_51 : decode cX9_walker 51 = .ok (.getfield 80, 3) := decAll_at aX9_walker_0 26 rfl
theorem dX9_walker_54 : decode cX9_walker 54 = .ok (.istore 4, 2) := decAll_at aX9_walker_0 27 rfl
theorem dX9_walker_56 : decode cX9_walker 56 = .ok (.aload_n 0, 1) := decAll_at aX9_walker_0 28 rfl
theorem dX9_walker_57 : decode cX9_walker 57 = .ok (.getfield 19, 3) := decAll_at aX9_walker_0 29 rfl
theorem dX9_walker_60 : decode cX9_walker 60 = .ok (.getfield 84, 3) := decAll_at aX9_walker_0 30 rfl
theorem dX9_walker_63 : decode cX9_walker 63 = .ok (.iload 4, 2) := decAll_at aX9_walker_0 31 rfl
theorem dX9_walker_65 : decode cX9_walker 65 = .ok (.iload_n 1, 1) := decAll_at aX9_walker_0 32 rfl
theorem dX9_walker_66 : decode cX9_walker 66 = .ok (.iastore, 1) := decAll_at aX9_walker_0 33 rfl
theorem dX9_walker_67 : decode cX9_walker 67 = .ok (.aload_n 0, 1) := decAll_at aX9_walker_0 34 rfl
theorem dX9_walker_68 : decode cX9_walker 68 = .ok (.getfield 19, 3) := decAll_at aX9_walker_0 35 rfl
theorem dX9_walker_71 : decode cX9_walker 71 = .ok (.getfield 88, 3) := decAll_at aX9_walker_0 36 rfl
theorem dX9_walker_74 : decode cX9_walker 74 = .ok (.iload 4, 2) := decAll_at aX9_walker_0 37 rfl
theorem dX9_walker_76 : decode cX9_walker 76 = .ok (.iload_n 2, 1) := decAll_at aX9_walker_0 38 rfl
theorem dX9_walker_77 : decode cX9_walker 77 = .ok (.iastore, 1) := decAll_at aX9_walker_0 39 rfl
theorem dX9_walker_78 : decode cX9_walker 78 = .ok (.aload_n 0, 1) := decAll_at aX9_walker_0 40 rfl
theorem dX9_walker_79 : decode cX9_walker 79 = .ok (.getfield 19, 3) := decAll_at aX9_walker_0 41 rfl
theorem dX9_walker_82 : decode cX9_walker 82 = .ok (.getfield 91, 3) := decAll_at aX9_walker_0 42 rfl
theorem dX9_walker_85 : decode cX9_walker 85 = .ok (.iload 4, 2) := decAll_at aX9_walker_0 43 rfl
theorem dX9_walker_87 : decode cX9_walker 87 = .ok (.iconst 0, 1) := decAll_at aX9_walker_0 44 rfl
theorem dX9_walker_88 : decode cX9_walker 88 = .ok (.bastore, 1) := decAll_at aX9_walker_0 45 rfl
theorem dX9_walker_89 : decode cX9_walker 89 = .ok (.aload_n 0, 1) := decAll_at aX9_walker_0 46 rfl
theorem dX9_walker_90 : decode cX9_walker 90 = .ok (.getfield 19, 3) := decAll_at aX9_walker_0 47 rfl
theorem dX9_walker_93 : decode cX9_walker 93 = .ok (.dup, 1) := decAll_at aX9_walker_0 48 rfl
theorem dX9_walker_94 : decode cX9_walker 94 = .ok (.getfield 80, 3) := decAll_at aX9_walker_0 49 rfl
theorem dX9_walker_97 : decode cX9_walker 97 = .ok (.iconst 1, 1) := decAll_at aX9_walker_0 50 rfl
theorem dX9_walker_98 : decode cX9_walker 98 = .ok (.iadd, 1) := decAll_at aX9_walker_0 51 rfl
theorem dX9_walker_99 : decode cX9_walker 99 = .ok (.putfield 80, 3) := decAll_at aX9_walker_0 52 rfl
theorem dX9_walker_102 : decode cX9_walker 102 = .ok (.aload_n 0, 1) := decAll_at aX9_walker_0 53 rfl
theorem dX9_walker_103 : decode cX9_walker 103 = .ok (.getfield 60, 3) := decAll_at aX9_walker_0 54 rfl
theorem dX9_walker_106 : decode cX9_walker 106 = .ok (.iconst 0, 1) := decAll_at aX9_walker_0 55 rfl
theorem dX9_walker_107 : decode cX9_walker 107 = .ok (.putfield 95, 3) := decAll_at aX9_walker_0 56 rfl
theorem dX9_walker_110 : decode cX9_walker 110 = .ok (.aload_n 0, 1) := decAll_at aX9_walker_0 57 rfl
theorem dX9_walker_111 : decode cX9_walker 111 = .ok (.invokevirtual 99, 3) := decAll_at aX9_walker_0 58 rfl
theorem dX9_walker_114 : decode cX9_walker 114 = .ok (.iload 4, 2) := decAll_at aX9_walker_0 59 rfl
theorem dX9_walker_116 : decode cX9_walker 116 = .ok (.ireturn, 1) := decAll_at aX9_walker_0 60 rfl
def laX9_load_0 : List (Nat × Instr × Nat) := [(0, .iload_n 1, 1), (1, .iconst 1, 1), (2, .if_icmp .lt 23, 3), (5, .iload_n 1, 1), (6, .bipush 120, 2), (8, .if_icmp .gt 17, 3), (11, .iload_n 3, 1), (12, .ifCond .lt 13, 3), (15, .iload_n 3, 1), (16, .bipush 20, 2), (18, .if_icmp .gt 7, 3), (21, .iconst 1, 1), (22, .goto 4, 3), (25, .iconst 0, 1), (26, .istore 4, 2), (28, .iload_n 2, 1), (29, .iconst (-1), 1), (30, .if_icmp .eq 14, 3), (33, .aload_n 0, 1), (34, .getfield 19, 3), (37, .iload_n 2, 1), (38, .invokevirtual 102, 3), (41, .ifCond .eq 7, 3), (44, .iconst 1, 1), (45, .goto 4, 3), (48, .iconst 0, 1), (49, .istore 5, 2), (51, .iload 4, 2), (53, .ifCond .eq 20, 3), (56, .iload 5, 2), (58, .ifCond .eq 15, 3), (61, .aload_n 0, 1), (62, .getfield 19, 3), (65, .getfield 106, 3), (68, .bipush 9, 2), (70, .if_icmp .lt 5, 3), (73, .iconst (-1), 1), (74, .ireturn, 1), (75, .aload_n 0, 1), (76, .getfield 19, 3), (79, .getfield 106, 3), (82, .istore 6, 2), (84, .aload_n 0, 1), (85, .getfield 19, 3), (88, .getfield 109, 3), (91, .iload 6, 2), (93, .iload_n 1, 1), (94, .iastore, 1), (95, .aload_n 0, 1), (96, .getfield 19, 3), (99, .getfield 112, 3), (102, .iload 6, 2), (104, .iload_n 2, 1), (105, .iastore, 1), (106, .aload_n 0, 1), (107, .getfield 19, 3), (110, .getfield 115, 3), (113, .iload 6, 2), (115, .iload_n 3, 1), (116, .iastore, 1), (117, .aload_n 0, 1), (118, .getfield 19, 3), (121, .dup, 1), (122, .getfield 106, 3)]
theorem aX9_load_0 : decAll cX9_load laX9_load_0 = true := by decide +kernel
theorem dX9_load_0 : decode cX9_load 0 = .ok (.iload_n 1, 1) := decAll_at aX9_load_0 0 rfl
theorem dX9_load_1 : decode cX9_load 1 = .ok (.iconst 1, 1) := decAll_at aX9_load_0 1 rfl
theorem dX9_load_2 : decode cX9_load 2 = .ok (.if_icmp .lt 23, 3) := decAll_at aX9_load_0 2 rfl
theorem dX9_load_5 : decode cX9_load 5 = .ok (.iload_n 1, 1) := decAll_at aX9_load_0 3 rfl
theorem dX9_load_6 : decode cX9_load 6 = .ok (.bipush 120, 2) := decAll_at aX9_load_0 4 rfl
theorem dX9_load_8 : decode cX9_load 8 = .ok (.if_icmp .gt 17, 3) := decAll_at aX9_load_0 5 rfl
theorem dX9_load_11 : decode cX9_load 11 = .ok (.iload_n 3, 1) := decAll_at aX9_load_0 6 rfl
theorem dX9_load_12 : decode cX9_load 12 = .ok (.ifCond .lt 13, 3) := decAll_at aX9_load_0 7 rfl
theorem dX9_load_15 : decode cX9_load 15 = .ok (.iload_n 3, 1) := decAll_at aX9_load_0 8 rfl
theorem dX9_load_16 : decode cX9_load 16 = .ok (.bipush 20, 2) := decAll_at aX9_load_0 9 rfl
theorem dX9_load_18 : decode cX9_load 18 = .ok (.if_icmp .gt 7, 3) := decAll_at aX9_load_0 10 rfl
theorem dX9_load_21 : decode cX9_load 21 = .ok (.iconst 1, 1) := decAll_at aX9_load_0 11 rfl
theorem dX9_load_22 : decode cX9_load 22 = .ok (.goto 4, 3) := decAll_at aX9_load_0 12 rfl
theorem dX9_load_25 : decode cX9_load 25 = .ok (.iconst 0, 1) := decAll_at aX9_load_0 13 rfl
theorem dX9_load_26 : decode cX9_load 26 = .ok (.istore 4, 2) := decAll_at aX9_load_0 14 rfl
theorem dX9_load_28 : decode cX9_load 28 = .ok (.iload_n 2, 1) := decAll_at aX9_load_0 15 rfl
theorem dX9_load_29 : decode cX9_load 29 = .ok (.iconst (-1), 1) := decAll_at aX9_load_0 16 rfl
theorem dX9_load_30 : decode cX9_load 30 = .ok (.if_icmp .eq 14, 3) := decAll_at aX9_load_0 17 rfl
theorem dX9_load_33 : decode cX9_load 33 = .ok (.aload_n 0, 1) := decAll_at aX9_load_0 18 rfl
theorem dX9_load_34 : decode cX9_load 34 = .ok (.getfield 19, 3) := decAll_at aX9_load_0 19 rfl
theorem dX9_load_37 : decode cX9_load 37 = .ok (.iload_n 2, 1) := decAll_at aX9_load_0 20 rfl
theorem dX9_load_38 : decode cX9_load 38 = .ok (.invokevirtual 102, 3) := decAll_at aX9_load_0 21 rfl
theorem dX9_load_41 : decode cX9_load 41 = .ok (.ifCond .eq 7, 3) := decAll_at aX9_load_0 22 rfl
theorem dX9_load_44 : decode cX9_load 44 = .ok (.iconst 1, 1) := decAll_at aX9_load_0 23 rfl
theorem dX9_load_45 : decode cX9_load 45 = .ok (.goto 4, 3) := decAll_at aX9_load_0 24 rfl
theorem dX9_load_48 : decode cX9_load 48 = .ok (.iconst 0, 1) := decAll_at aX9_load_0 25 rfl
theorem dX9_load_49 : decode cX9_load 49 = .ok (.istore 5, 2) := decAll_at aX9_load_0 26 rfl
theorem dX9_load_51 : decode cX9_load 51 = .ok (.iload 4, 2) := decAll_at aX9_load_0 27 rfl
theorem dX9_load_53 : decode cX9_load 53 = .ok (.ifCond .eq 20, 3) := decAll_at aX9_load_0 28 rfl
theorem dX9_load_56 : decode cX9_load 56 = .ok (.iload 5, 2) := decAll_at aX9_load_0 29 rfl
theorem dX9_load_58 : decode cX9_load 58 = .ok (.ifCond .eq 15, 3) := decAll_at aX9_load_0 30 rfl
theorem dX9_load_61 : decode cX9_load 61 = .ok (.aload_n 0, 1) := decAll_at aX9_load_0 31 rfl
theorem dX9_load_62 : decode cX9_load 62 = .ok (.getfield 19, 3) := decAll_at aX9_load_0 32 rfl
theorem dX9_load_65 : decode cX9_load 65 = .ok (.getfield 106, 3) := decAll_at aX9_load_0 33 rfl
theorem dX9_load_68 : decode cX9_load 68 = .ok (.bipush 9, 2) := decAll_at aX9_load_0 34 rfl
theorem dX9_load_70 : decode cX9_load 70 = .ok (.if_icmp .lt 5, 3) := decAll_at aX9_load_0 35 rfl
theorem dX9_load_73 : decode cX9_load 73 = .ok (.iconst (-1), 1) := decAll_at aX9_load_0 36 rfl
theorem dX9_load_74 : decode cX9_load 74 = .ok (.ireturn, 1) := decAll_at aX9_load_0 37 rfl
theorem dX9_load_75 : decode cX9_load 75 = .ok (.aload_n 0, 1) := decAll_at aX9_load_0 38 rfl
theorem dX9_load_76 : decode cX9_load 76 = .ok (.getfield 19, 3) := decAll_at aX9_load_0 39 rfl
theorem dX9_load_79 : decode cX9_load 79 = .ok (.getfield 106, 3) := decAll_at aX9_load_0 40 rfl
theorem dX9_load_82 : decode cX9_load 82 = .ok (.istore 6, 2) := decAll_at aX9_load_0 41 rfl
theorem dX9_load_84 : decode cX9_load 84 = .ok (.aload_n 0, 1) := decAll_at aX9_load_0 42 rfl
theorem dX9_load_85 : decode cX9_load 85 = .ok (.getfield 19, 3) := decAll_at aX9_load_0 43 rfl
theorem dX9_load_88 : decode cX9_load 88 = .ok (.getfield 109, 3) := decAll_at aX9_load_0 44 rfl
theorem dX9_load_91 : decode cX9_load 91 = .ok (.iload 6, 2) := decAll_at aX9_load_0 45 rfl
theorem dX9_load_93 : decode cX9_load 93 = .ok (.iload_n 1, 1) := decAll_at aX9_load_0 46 rfl
theorem dX9_load_94 : decode cX9_load 94 = .ok (.iastore, 1) := decAll_at aX9_load_0 47 rfl
theorem dX9_load_95 : decode cX9_load 95 = .ok (.aload_n 0, 1) := decAll_at aX9_load_0 48 rfl
theorem dX9_load_96 : decode cX9_load 96 = .ok (.getfield 19, 3) := decAll_at aX9_load_0 49 rfl
theorem dX9_load_99 : decode cX9_load 99 = .ok (.getfield 112, 3) := decAll_at aX9_load_0 50 rfl
theorem dX9_load_102 : decode cX9_load 102 = .ok (.iload 6, 2) := decAll_at aX9_load_0 51 rfl
theorem dX9_load_104 : decode cX9_load 104 = .ok (.iload_n 2, 1) := decAll_at aX9_load_0 52 rfl
theorem dX9_load_105 : decode cX9_load 105 = .ok (.iastore, 1) := decAll_at aX9_load_0 53 rfl
theorem dX9_load_106 : decode cX9_load 106 = .ok (.aload_n 0, 1) := decAll_at aX9_load_0 54 rfl
theorem dX9_load_107 : decode cX9_load 107 = .ok (.getfield 19, 3) := decAll_at aX9_load_0 55 rfl
theorem dX9_load_110 : decode cX9_load 110 = .ok (.getfield 115, 3) := decAll_at aX9_load_0 56 rfl
theorem dX9_load_113 : decode cX9_load 113 = .ok (.iload 6, 2) := decAll_at aX9_load_0 57 rfl
theorem dX9_load_115 : decode cX9_load 115 = .ok (.iload_n 3, 1) := decAll_at aX9_load_0 58 rfl
theorem dX9_load_116 : decode cX9_load 116 = .ok (.iastore, 1) := decAll_at aX9_load_0 59 rfl
theorem dX9_load_117 : decode cX9_load 117 = .ok (.aload_n 0, 1) := decAll_at aX9_load_0 60 rfl
theorem dX9_load_118 : decode cX9_load 118 = .ok (.getfield 19, 3) := decAll_at aX9_load_0 61 rfl
theorem dX9_load_121 : decode cX9_load 121 = .ok (.dup, 1) := decAll_at aX9_load_0 62 rfl
theorem dX9_load_122 : decode cX9_load 122 = .ok (.getfield 106, 3) := decAll_at aX9_load_0 63 rfl
def laX9_load_1 : List (Nat × Instr × Nat) := [(125, .iconst 1, 1), (126, .iadd, 1), (127, .putfield 106, 3), (130, .aload_n 0, 1), (131, .getfield 60, 3), (134, .iconst 0, 1), (135, .putfield 95, 3), (138, .aload_n 0, 1), (139, .getfield 60, 3), (142, .iconst 0, 1), (143, .putfield 118, 3), (146, .aload_n 0, 1), (147, .getfield 69, 3), (150, .iconst 0, 1), (151, .putfield 121, 3), (154, .iload 6, 2), (156, .ireturn, 1)]
theorem aX9_load_1 : decAll cX9_load laX9_load_1 = true := by decide +kernel
theorem dX9_load_125 : decode cX9_load 125 = .ok (.iconst 1, 1) := decAll_at aX9_load_1 0 rfl
theorem dX9_load_126 : decode cX9_load 126 = .ok (.iadd, 1) := decAll_at aX9_load_1 1 rfl
theorem dX9_load_127 : decode cX9_load 127 = .ok (.putfield 106, 3) := decAll_at aX9_load_1 2 rfl
theorem dX9_load_130 : decode cX9_load 130 = .ok (.aload_n 0, 1) := decAll_at aX9_load_1 3 rfl
theorem dX9_load_131 : decode cX9_load 131 = .ok (.getfield 60, 3) := decAll_at aX9_load_1 4 rfl
theorem dX9_load_134 : decode cX9_load 134 = .ok (.iconst 0, 1) := decAll_at aX9_load_1 5 rfl
theorem dX9_load_135 : decode cX9_load 135 = .ok (.putfield 95, 3) := decAll_at aX9_load_1 6 rfl
theorem dX9_load_138 : decode cX9_load 138 = .ok (.aload_n 0, 1) := decAll_at aX9_load_1 7 rfl
theorem dX9_load_139 : decode cX9_load 139 = .ok (.getfield 60, 3) := decAll_at aX9_load_1 8 rfl
theorem dX9_load_142 : decode cX9_load 142 = .ok (.iconst 0, 1) := decAll_at aX9_load_1 9 rfl
theorem dX9_load_143 : decode cX9_load 143 = .ok (.putfield 118, 3) := decAll_at aX9_load_1 10 rfl
theorem dX9_load_146 : decode cX9_load 146 = .ok (.aload_n 0, 1) := decAll_at aX9_load_1 11 rfl
theorem dX9_load_147 : decode cX9_load 147 = .ok (.getfield 69, 3) := decAll_at aX9_load_1 12 rfl
theorem dX9_load_150 : decode cX9_load 150 = .ok (.iconst 0, 1) := decAll_at aX9_load_1 13 rfl
theorem dX9_load_151 : decode cX9_load 151 = .ok (.putfield 121, 3) := decAll_at aX9_load_1 14 rfl
theorem dX9_load_154 : decode cX9_load 154 = .ok (.iload 6, 2) := decAll_at aX9_load_1 15 rfl
theorem dX9_load_156 : decode cX9_load 156 = .ok (.ireturn, 1) := decAll_at aX9_load_1 16 rfl
def laX9_piece_0 : List (Nat × Instr × Nat) := [(0, .iload_n 1, 1), (1, .iconst 1, 1), (2, .if_icmp .lt 25, 3), (5, .iload_n 1, 1), (6, .bipush 20, 2), (8, .if_icmp .gt 19, 3), (11, .iload_n 2, 1), (12, .bipush (-9), 2), (14, .if_icmp .lt 13, 3), (17, .iload_n 2, 1), (18, .bipush 9, 2), (20, .if_icmp .gt 7, 3), (23, .iconst 1, 1), (24, .goto 4, 3), (27, .iconst 0, 1), (28, .istore_n 3, 1), (29, .iload_n 3, 1), (30, .ifCond .eq 15, 3), (33, .aload_n 0, 1), (34, .getfield 19, 3), (37, .getfield 124, 3), (40, .bipush 10, 2), (42, .if_icmp .lt 5, 3), (45, .iconst (-1), 1), (46, .ireturn, 1), (47, .aload_n 0, 1), (48, .getfield 19, 3), (51, .getfield 124, 3), (54, .istore 4, 2), (56, .aload_n 0, 1), (57, .getfield 19, 3), (60, .getfield 127, 3), (63, .iload 4, 2), (65, .iload_n 1, 1), (66, .iastore, 1), (67, .aload_n 0, 1), (68, .getfield 19, 3), (71, .getfield 130, 3), (74, .iload 4, 2), (76, .iload_n 2, 1), (77, .iastore, 1), (78, .aload_n 0, 1), (79, .getfield 19, 3), (82, .dup, 1), (83, .getfield 124, 3), (86, .iconst 1, 1), (87, .iadd, 1), (88, .putfield 124, 3), (91, .aload_n 0, 1), (92, .getfield 60, 3), (95, .iconst 0, 1), (96, .putfield 95, 3), (99, .aload_n 0, 1), (100, .getfield 69, 3), (103, .iconst 0, 1), (104, .putfield 121, 3), (107, .iload 4, 2), (109, .ireturn, 1)]
theorem aX9_piece_0 : decAll cX9_piece laX9_piece_0 = true := by decide +kernel
theorem dX9_piece_0 : decode cX9_piece 0 = .ok (.iload_n 1, 1) := decAll_at aX9_piece_0 0 rfl
theorem dX9_piece_1 : decode cX9_piece 1 = .ok (.iconst 1, 1) := decAll_at aX9_piece_0 1 rfl
theorem dX9_piece_2 : decode cX9_piece 2 = .ok (.if_icmp .lt 25, 3) := decAll_at aX9_piece_0 2 rfl
theorem dX9_piece_5 : decode cX9_piece 5 = .ok (.iload_n 1, 1) := decAll_at aX9_piece_0 3 rfl
theorem dX9_piece_6 : decode cX9_piece 6 = .ok (.bipush 20, 2) := decAll_at aX9_piece_0 4 rfl
theorem dX9_piece_8 : decode cX9_piece 8 = .ok (.if_icmp .gt 19, 3) := decAll_at aX9_piece_0 5 rfl
theorem dX9_piece_11 : decode cX9_piece 11 = .ok (.iload_n 2, 1) := decAll_at aX9_piece_0 6 rfl
theorem dX9_piece_12 : decode cX9_piece 12 = .ok (.bipush (-9), 2) := decAll_at aX9_piece_0 7 rfl
theorem dX9_piece_14 : decode cX9_piece 14 = .ok (.if_icmp .lt 13, 3) := decAll_at aX9_piece_0 8 rfl
theorem dX9_piece_17 : decode cX9_piece 17 = .ok (.iload_n 2, 1) := decAll_at aX9_piece_0 9 rfl
theorem dX9_piece_18 : decode cX9_piece 18 = .ok (.bipush 9, 2) := decAll_at aX9_piece_0 10 rfl
theorem dX9_piece_20 : decode cX9_piece 20 = .ok (.if_icmp .gt 7, 3) := decAll_at aX9_piece_0 11 rfl
theorem dX9_piece_23 : decode cX9_piece 23 = .ok (.iconst 1, 1) := decAll_at aX9_piece_0 12 rfl
theorem dX9_piece_24 : decode cX9_piece 24 = .ok (.goto 4, 3) := decAll_at aX9_piece_0 13 rfl
theorem dX9_piece_27 : decode cX9_piece 27 = .ok (.iconst 0, 1) := decAll_at aX9_piece_0 14 rfl
theorem dX9_piece_28 : decode cX9_piece 28 = .ok (.istore_n 3, 1) := decAll_at aX9_piece_0 15 rfl
theorem dX9_piece_29 : decode cX9_piece 29 = .ok (.iload_n 3, 1) := decAll_at aX9_piece_0 16 rfl
theorem dX9_piece_30 : decode cX9_piece 30 = .ok (.ifCond .eq 15, 3) := decAll_at aX9_piece_0 17 rfl
theorem dX9_piece_33 : decode cX9_piece 33 = .ok (.aload_n 0, 1) := decAll_at aX9_piece_0 18 rfl
theorem dX9_piece_34 : decode cX9_piece 34 = .ok (.getfield 19, 3) := decAll_at aX9_piece_0 19 rfl
theorem dX9_piece_37 : decode cX9_piece 37 = .ok (.getfield 124, 3) := decAll_at aX9_piece_0 20 rfl
theorem dX9_piece_40 : decode cX9_piece 40 = .ok (.bipush 10, 2) := decAll_at aX9_piece_0 21 rfl
theorem dX9_piece_42 : decode cX9_piece 42 = .ok (.if_icmp .lt 5, 3) := decAll_at aX9_piece_0 22 rfl
theorem dX9_piece_45 : decode cX9_piece 45 = .ok (.iconst (-1), 1) := decAll_at aX9_piece_0 23 rfl
theorem dX9_piece_46 : decode cX9_piece 46 = .ok (.ireturn, 1) := decAll_at aX9_piece_0 24 rfl
theorem dX9_piece_47 : decode cX9_piece 47 = .ok (.aload_n 0, 1) := decAll_at aX9_piece_0 25 rfl
theorem dX9_piece_48 : decode cX9_piece 48 = .ok (.getfield 19, 3) := decAll_at aX9_piece_0 26 rfl
theorem dX9_piece_51 : decode cX9_piece 51 = .ok (.getfield 124, 3) := decAll_at aX9_piece_0 27 rfl
theorem dX9_piece_54 : decode cX9_piece 54 = .ok (.istore 4, 2) := decAll_at aX9_piece_0 28 rfl
theorem dX9_piece_56 : decode cX9_piece 56 = .ok (.aload_n 0, 1) := decAll_at aX9_piece_0 29 rfl
theorem dX9_piece_57 : decode cX9_piece 57 = .ok (.getfield 19, 3) := decAll_at aX9_piece_0 30 rfl
theorem dX9_piece_60 : decode cX9_piece 60 = .ok (.getfield 127, 3) := decAll_at aX9_piece_0 31 rfl
theorem dX9_piece_63 : decode cX9_piece 63 = .ok (.iload 4, 2) := decAll_at aX9_piece_0 32 rfl
theorem dX9_piece_65 : decode cX9_piece 65 = .ok (.iload_n 1, 1) := decAll_at aX9_piece_0 33 rfl
theorem dX9_piece_66 : decode cX9_piece 66 = .ok (.iastore, 1) := decAll_at aX9_piece_0 34 rfl
theorem dX9_piece_67 : decode cX9_piece 67 = .ok (.aload_n 0, 1) := decAll_at aX9_piece_0 35 rfl
theorem dX9_piece_68 : decode cX9_piece 68 = .ok (.getfield 19, 3) := decAll_at aX9_piece_0 36 rfl
theorem dX9_piece_71 : decode cX9_piece 71 = .ok (.getfield 130, 3) := decAll_at aX9_piece_0 37 rfl
theorem dX9_piece_74 : decode cX9_piece 74 = .ok (.iload 4, 2) := decAll_at aX9_piece_0 38 rfl
theorem dX9_piece_76 : decode cX9_piece 76 = .ok (.iload_n 2, 1) := decAll_at aX9_piece_0 39 rfl
theorem dX9_piece_77 : decode cX9_piece 77 = .ok (.iastore, 1) := decAll_at aX9_piece_0 40 rfl
theorem dX9_piece_78 : decode cX9_piece 78 = .ok (.aload_n 0, 1) := decAll_at aX9_piece_0 41 rfl
theorem dX9_piece_79 : decode cX9_piece 79 = .ok (.getfield 19, 3) := decAll_at aX9_piece_0 42 rfl
theorem dX9_piece_82 : decode cX9_piece 82 = .ok (.dup, 1) := decAll_at aX9_piece_0 43 rfl
theorem dX9_piece_83 : decode cX9_piece 83 = .ok (.getfield 124, 3) := decAll_at aX9_piece_0 44 rfl
theorem dX9_piece_86 : decode cX9_piece 86 = .ok (.iconst 1, 1) := decAll_at aX9_piece_0 45 rfl
theorem dX9_piece_87 : decode cX9_piece 87 = .ok (.iadd, 1) := decAll_at aX9_piece_0 46 rfl
theorem dX9_piece_88 : decode cX9_piece 88 = .ok (.putfield 124, 3) := decAll_at aX9_piece_0 47 rfl
theorem dX9_piece_91 : decode cX9_piece 91 = .ok (.aload_n 0, 1) := decAll_at aX9_piece_0 48 rfl
theorem dX9_piece_92 : decode cX9_piece 92 = .ok (.getfield 60, 3) := decAll_at aX9_piece_0 49 rfl
theorem dX9_piece_95 : decode cX9_piece 95 = .ok (.iconst 0, 1) := decAll_at aX9_piece_0 50 rfl
theorem dX9_piece_96 : decode cX9_piece 96 = .ok (.putfield 95, 3) := decAll_at aX9_piece_0 51 rfl
theorem dX9_piece_99 : decode cX9_piece 99 = .ok (.aload_n 0, 1) := decAll_at aX9_piece_0 52 rfl
theorem dX9_piece_100 : decode cX9_piece 100 = .ok (.getfield 69, 3) := decAll_at aX9_piece_0 53 rfl
theorem dX9_piece_103 : decode cX9_piece 103 = .ok (.iconst 0, 1) := decAll_at aX9_piece_0 54 rfl
theorem dX9_piece_104 : decode cX9_piece 104 = .ok (.putfield 121, 3) := decAll_at aX9_piece_0 55 rfl
theorem dX9_piece_107 : decode cX9_piece 107 = .ok (.iload 4, 2) := decAll_at aX9_piece_0 56 rfl
theorem dX9_piece_109 : decode cX9_piece 109 = .ok (.ireturn, 1) := decAll_at aX9_piece_0 57 rfl
def laX9_lame_0 : List (Nat × Instr × Nat) := [(0, .aload_n 0, 1), (1, .getfield 19, 3), (4, .iload_n 1, 1), (5, .invokevirtual 102, 3), (8, .ifCond .eq 16, 3), (11, .aload_n 0, 1), (12, .getfield 19, 3), (15, .getfield 91, 3), (18, .iload_n 1, 1), (19, .baload, 1), (20, .iload_n 2, 1), (21, .if_icmp .ne 5, 3), (24, .iconst 0, 1), (25, .ireturn, 1), (26, .aload_n 0, 1), (27, .getfield 19, 3), (30, .getfield 91, 3), (33, .iload_n 1, 1), (34, .iload_n 2, 1), (35, .bastore, 1), (36, .aload_n 0, 1), (37, .invokevirtual 99, 3), (40, .iconst 1, 1), (41, .ireturn, 1)]
theorem aX9_lame_0 : decAll cX9_lame laX9_lame_0 = true := by decide +kernel
theorem dX9_lame_0 : decode cX9_lame 0 = .ok (.aload_n 0, 1) := decAll_at aX9_lame_0 0 rfl
theorem dX9_lame_1 : decode cX9_lame 1 = .ok (.getfield 19, 3) := decAll_at aX9_lame_0 1 rfl
theorem dX9_lame_4 : decode cX9_lame 4 = .ok (.iload_n 1, 1) := decAll_at aX9_lame_0 2 rfl
theorem dX9_lame_5 : decode cX9_lame 5 = .ok (.invokevirtual 102, 3) := decAll_at aX9_lame_0 3 rfl
theorem dX9_lame_8 : decode cX9_lame 8 = .ok (.ifCond .eq 16, 3) := decAll_at aX9_lame_0 4 rfl
theorem dX9_lame_11 : decode cX9_lame 11 = .ok (.aload_n 0, 1) := decAll_at aX9_lame_0 5 rfl
theorem dX9_lame_12 : decode cX9_lame 12 = .ok (.getfield 19, 3) := decAll_at aX9_lame_0 6 rfl
theorem dX9_lame_15 : decode cX9_lame 15 = .ok (.getfield 91, 3) := decAll_at aX9_lame_0 7 rfl
theorem dX9_lame_18 : decode cX9_lame 18 = .ok (.iload_n 1, 1) := decAll_at aX9_lame_0 8 rfl
theorem dX9_lame_19 : decode cX9_lame 19 = .ok (.baload, 1) := decAll_at aX9_lame_0 9 rfl
theorem dX9_lame_20 : decode cX9_lame 20 = .ok (.iload_n 2, 1) := decAll_at aX9_lame_0 10 rfl
theorem dX9_lame_21 : decode cX9_lame 21 = .ok (.if_icmp .ne 5, 3) := decAll_at aX9_lame_0 11 rfl
theorem dX9_lame_24 : decode cX9_lame 24 = .ok (.iconst 0, 1) := decAll_at aX9_lame_0 12 rfl
theorem dX9_lame_25 : decode cX9_lame 25 = .ok (.ireturn, 1) := decAll_at aX9_lame_0 13 rfl
theorem dX9_lame_26 : decode cX9_lame 26 = .ok (.aload_n 0, 1) := decAll_at aX9_lame_0 14 rfl
theorem dX9_lame_27 : decode cX9_lame 27 = .ok (.getfield 19, 3) := decAll_at aX9_lame_0 15 rfl
theorem dX9_lame_30 : decode cX9_lame 30 = .ok (.getfield 91, 3) := decAll_at aX9_lame_0 16 rfl
theorem dX9_lame_33 : decode cX9_lame 33 = .ok (.iload_n 1, 1) := decAll_at aX9_lame_0 17 rfl
theorem dX9_lame_34 : decode cX9_lame 34 = .ok (.iload_n 2, 1) := decAll_at aX9_lame_0 18 rfl
theorem dX9_lame_35 : decode cX9_lame 35 = .ok (.bastore, 1) := decAll_at aX9_lame_0 19 rfl
theorem dX9_lame_36 : decode cX9_lame 36 = .ok (.aload_n 0, 1) := decAll_at aX9_lame_0 20 rfl
theorem dX9_lame_37 : decode cX9_lame 37 = .ok (.invokevirtual 99, 3) := decAll_at aX9_lame_0 21 rfl
theorem dX9_lame_40 : decode cX9_lame 40 = .ok (.iconst 1, 1) := decAll_at aX9_lame_0 22 rfl
theorem dX9_lame_41 : decode cX9_lame 41 = .ok (.ireturn, 1) := decAll_at aX9_lame_0 23 rfl
def laX9_change_0 : List (Nat × Instr × Nat) := [(0, .iload_n 1, 1), (1, .ifCond .lt 9, 3), (4, .iload_n 1, 1), (5, .bipush 120, 2), (7, .if_icmp .le 5, 3), (10, .iconst 0, 1), (11, .ireturn, 1), (12, .aload_n 0, 1), (13, .getfield 60, 3), (16, .iload_n 1, 1), (17, .putfield 133, 3), (20, .iconst 1, 1), (21, .ireturn, 1)]
theorem aX9_change_0 : decAll cX9_change laX9_change_0 = true := by decide +kernel
theorem dX9_change_0 : decode cX9_change 0 = .ok (.iload_n 1, 1) := decAll_at aX9_change_0 0 rfl
theorem dX9_change_1 : decode cX9_change 1 = .ok (.ifCond .lt 9, 3) := decAll_at aX9_change_0 1 rfl
theorem dX9_change_4 : decode cX9_change 4 = .ok (.iload_n 1, 1) := decAll_at aX9_change_0 2 rfl
theorem dX9_change_5 : decode cX9_change 5 = .ok (.bipush 120, 2) := decAll_at aX9_change_0 3 rfl
theorem dX9_change_7 : decode cX9_change 7 = .ok (.if_icmp .le 5, 3) := decAll_at aX9_change_0 4 rfl
theorem dX9_change_10 : decode cX9_change 10 = .ok (.iconst 0, 1) := decAll_at aX9_change_0 5 rfl
theorem dX9_change_11 : decode cX9_change 11 = .ok (.ireturn, 1) := decAll_at aX9_change_0 6 rfl
theorem dX9_change_12 : decode cX9_change 12 = .ok (.aload_n 0, 1) := decAll_at aX9_change_0 7 rfl
theorem dX9_change_13 : decode cX9_change 13 = .ok (.getfield 60, 3) := decAll_at aX9_change_0 8 rfl
theorem dX9_change_16 : decode cX9_change 16 = .ok (.iload_n 1, 1) := decAll_at aX9_change_0 9 rfl
theorem dX9_change_17 : decode cX9_change 17 = .ok (.putfield 133, 3) := decAll_at aX9_change_0 10 rfl
theorem dX9_change_20 : decode cX9_change 20 = .ok (.iconst 1, 1) := decAll_at aX9_change_0 11 rfl
theorem dX9_change_21 : decode cX9_change 21 = .ok (.ireturn, 1) := decAll_at aX9_change_0 12 rfl
def laX9_feed_0 : List (Nat × Instr × Nat) := [(0, .aload_n 0, 1), (1, .getfield 10, 3), (4, .getfield 136, 3), (7, .bipush 20, 2), (9, .iadd, 1), (10, .sipush 220, 3), (13, .if_icmp .le 5, 3), (16, .iconst (-1), 1), (17, .ireturn, 1), (18, .aload_n 0, 1), (19, .getfield 10, 3), (22, .iload_n 1, 1), (23, .invokevirtual 139, 3), (26, .aload_n 0, 1), (27, .getfield 10, 3), (30, .iload_n 2, 1), (31, .invokevirtual 139, 3), (34, .aload_n 0, 1), (35, .getfield 10, 3), (38, .iload_n 3, 1), (39, .invokevirtual 139, 3), (42, .aload_n 0, 1), (43, .getfield 10, 3), (46, .iload 4, 2), (48, .invokevirtual 139, 3), (51, .aload_n 0, 1), (52, .getfield 10, 3), (55, .iload 5, 2), (57, .invokevirtual 139, 3), (60, .aload_n 0, 1), (61, .getfield 10, 3), (64, .getfield 136, 3), (67, .ireturn, 1)]
theorem aX9_feed_0 : decAll cX9_feed laX9_feed_0 = true := by decide +kernel
theorem dX9_feed_0 : decode cX9_feed 0 = .ok (.aload_n 0, 1) := decAll_at aX9_feed_0 0 rfl
theorem dX9_feed_1 : decode cX9_feed 1 = .ok (.getfield 10, 3) := decAll_at aX9_feed_0 1 rfl
theorem dX9_feed_4 : decode cX9_feed 4 = .ok (.getfield 136, 3) := decAll_at aX9_feed_0 2 rfl
theorem dX9_feed_7 : decode cX9_feed 7 = .ok (.bipush 20, 2) := decAll_at aX9_feed_0 3 rfl
theorem dX9_feed_9 : decode cX9_feed 9 = .ok (.iadd, 1) := decAll_at aX9_feed_0 4 rfl
theorem dX9_feed_10 : decode cX9_feed 10 = .ok (.sipush 220, 3) := decAll_at aX9_feed_0 5 rfl
theorem dX9_feed_13 : decode cX9_feed 13 = .ok (.if_icmp .le 5, 3) := decAll_at aX9_feed_0 6 rfl
theorem dX9_feed_16 : decode cX9_feed 16 = .ok (.iconst (-1), 1) := decAll_at aX9_feed_0 7 rfl
theorem dX9_feed_17 : decode cX9_feed 17 = .ok (.ireturn, 1) := decAll_at aX9_feed_0 8 rfl
theorem dX9_feed_18 : decode cX9_feed 18 = .ok (.aload_n 0, 1) := decAll_at aX9_feed_0 9 rfl
theorem dX9_feed_19 : decode cX9_feed 19 = .ok (.getfield 10, 3) := decAll_at aX9_feed_0 10 rfl
theorem dX9_feed_22 : decode cX9_feed 22 = .ok (.iload_n 1, 1) := decAll_at aX9_feed_0 11 rfl
theorem dX9_feed_23 : decode cX9_feed 23 = .ok (.invokevirtual 139, 3) := decAll_at aX9_feed_0 12 rfl
theorem dX9_feed_26 : decode cX9_feed 26 = .ok (.aload_n 0, 1) := decAll_at aX9_feed_0 13 rfl
theorem dX9_feed_27 : decode cX9_feed 27 = .ok (.getfield 10, 3) := decAll_at aX9_feed_0 14 rfl
theorem dX9_feed_30 : decode cX9_feed 30 = .ok (.iload_n 2, 1) := decAll_at aX9_feed_0 15 rfl
theorem dX9_feed_31 : decode cX9_feed 31 = .ok (.invokevirtual 139, 3) := decAll_at aX9_feed_0 16 rfl
theorem dX9_feed_34 : decode cX9_feed 34 = .ok (.aload_n 0, 1) := decAll_at aX9_feed_0 17 rfl
theorem dX9_feed_35 : decode cX9_feed 35 = .ok (.getfield 10, 3) := decAll_at aX9_feed_0 18 rfl
theorem dX9_feed_38 : decode cX9_feed 38 = .ok (.iload_n 3, 1) := decAll_at aX9_feed_0 19 rfl
theorem dX9_feed_39 : decode cX9_feed 39 = .ok (.invokevirtual 139, 3) := decAll_at aX9_feed_0 20 rfl
theorem dX9_feed_42 : decode cX9_feed 42 = .ok (.aload_n 0, 1) := decAll_at aX9_feed_0 21 rfl
theorem dX9_feed_43 : decode cX9_feed 43 = .ok (.getfield 10, 3) := decAll_at aX9_feed_0 22 rfl
theorem dX9_feed_46 : decode cX9_feed 46 = .ok (.iload 4, 2) := decAll_at aX9_feed_0 23 rfl
theorem dX9_feed_48 : decode cX9_feed 48 = .ok (.invokevirtual 139, 3) := decAll_at aX9_feed_0 24 rfl
theorem dX9_feed_51 : decode cX9_feed 51 = .ok (.aload_n 0, 1) := decAll_at aX9_feed_0 25 rfl
theorem dX9_feed_52 : decode cX9_feed 52 = .ok (.getfield 10, 3) := decAll_at aX9_feed_0 26 rfl
theorem dX9_feed_55 : decode cX9_feed 55 = .ok (.iload 5, 2) := decAll_at aX9_feed_0 27 rfl
theorem dX9_feed_57 : decode cX9_feed 57 = .ok (.invokevirtual 139, 3) := decAll_at aX9_feed_0 28 rfl
theorem dX9_feed_60 : decode cX9_feed 60 = .ok (.aload_n 0, 1) := decAll_at aX9_feed_0 29 rfl
theorem dX9_feed_61 : decode cX9_feed 61 = .ok (.getfield 10, 3) := decAll_at aX9_feed_0 30 rfl
theorem dX9_feed_64 : decode cX9_feed 64 = .ok (.getfield 136, 3) := decAll_at aX9_feed_0 31 rfl
theorem dX9_feed_67 : decode cX9_feed 67 = .ok (.ireturn, 1) := decAll_at aX9_feed_0 32 rfl
def laX9_text_0 : List (Nat × Instr × Nat) := [(0, .iload_n 1, 1), (1, .iconst 1, 1), (2, .if_icmp .lt 21, 3), (5, .iload_n 1, 1), (6, .sipush 200, 3), (9, .if_icmp .gt 14, 3), (12, .iload_n 1, 1), (13, .aload_n 0, 1), (14, .getfield 10, 3), (17, .getfield 136, 3), (20, .if_icmp .le 5, 3), (23, .iconst (-1), 1), (24, .ireturn, 1), (25, .aload_n 0, 1), (26, .getfield 35, 3), (29, .iload_n 1, 1), (30, .invokevirtual 143, 3), (33, .istore_n 2, 1), (34, .aload_n 0, 1), (35, .getfield 10, 3), (38, .iconst 0, 1), (39, .putfield 136, 3), (42, .iload_n 2, 1), (43, .ifCond .eq 5, 3), (46, .iload_n 2, 1), (47, .ireturn, 1), (48, .aload_n 0, 1), (49, .getfield 26, 3), (52, .aload_n 0, 1), (53, .getfield 35, 3), (56, .getfield 147, 3), (59, .invokevirtual 150, 3), (62, .aload_n 0, 1), (63, .invokevirtual 99, 3), (66, .aload_n 0, 1), (67, .getfield 26, 3), (70, .getfield 154, 3), (73, .ireturn, 1)]
theorem aX9_text_0 : decAll cX9_text laX9_text_0 = true := by decide +kernel
theorem dX9_text_0 : decode cX9_text 0 = .ok (.iload_n 1, 1) := decAll_at aX9_text_0 0 rfl
theorem dX9_text_1 : decode cX9_text 1 = .ok (.iconst 1, 1) := decAll_at aX9_text_0 1 rfl
theorem dX9_text_2 : decode cX9_text 2 = .ok (.if_icmp .lt 21, 3) := decAll_at aX9_text_0 2 rfl
theorem dX9_text_5 : decode cX9_text 5 = .ok (.iload_n 1, 1) := decAll_at aX9_text_0 3 rfl
theorem dX9_text_6 : decode cX9_text 6 = .ok (.sipush 200, 3) := decAll_at aX9_text_0 4 rfl
theorem dX9_text_9 : decode cX9_text 9 = .ok (.if_icmp .gt 14, 3) := decAll_at aX9_text_0 5 rfl
theorem dX9_text_12 : decode cX9_text 12 = .ok (.iload_n 1, 1) := decAll_at aX9_text_0 6 rfl
theorem dX9_text_13 : decode cX9_text 13 = .ok (.aload_n 0, 1) := decAll_at aX9_text_0 7 rfl
theorem dX9_text_14 : decode cX9_text 14 = .ok (.getfield 10, 3) := decAll_at aX9_text_0 8 rfl
theorem dX9_text_17 : decode cX9_text 17 = .ok (.getfield 136, 3) := decAll_at aX9_text_0 9 rfl
theorem dX9_text_20 : decode cX9_text 20 = .ok (.if_icmp .le 5, 3) := decAll_at aX9_text_0 10 rfl
theorem dX9_text_23 : decode cX9_text 23 = .ok (.iconst (-1), 1) := decAll_at aX9_text_0 11 rfl
theorem dX9_text_24 : decode cX9_text 24 = .ok (.ireturn, 1) := decAll_at aX9_text_0 12 rfl
theorem dX9_text_25 : decode cX9_text 25 = .ok (.aload_n 0, 1) := decAll_at aX9_text_0 13 rfl
theorem dX9_text_26 : decode cX9_text 26 = .ok (.getfield 35, 3) := decAll_at aX9_text_0 14 rfl
theorem dX9_text_29 : decode cX9_text 29 = .ok (.iload_n 1, 1) := decAll_at aX9_text_0 15 rfl
theorem dX9_text_30 : decode cX9_text 30 = .ok (.invokevirtual 143, 3) := decAll_at aX9_text_0 16 rfl
theorem dX9_text_33 : decode cX9_text 33 = .ok (.istore_n 2, 1) := decAll_at aX9_text_0 17 rfl
theorem dX9_text_34 : decode cX9_text 34 = .ok (.aload_n 0, 1) := decAll_at aX9_text_0 18 rfl
theorem dX9_text_35 : decode cX9_text 35 = .ok (.getfield 10, 3) := decAll_at aX9_text_0 19 rfl
theorem dX9_text_38 : decode cX9_text 38 = .ok (.iconst 0, 1) := decAll_at aX9_text_0 20 rfl
theorem dX9_text_39 : decode cX9_text 39 = .ok (.putfield 136, 3) := decAll_at aX9_text_0 21 rfl
theorem dX9_text_42 : decode cX9_text 42 = .ok (.iload_n 2, 1) := decAll_at aX9_text_0 22 rfl
theorem dX9_text_43 : decode cX9_text 43 = .ok (.ifCond .eq 5, 3) := decAll_at aX9_text_0 23 rfl
theorem dX9_text_46 : decode cX9_text 46 = .ok (.iload_n 2, 1) := decAll_at aX9_text_0 24 rfl
theorem dX9_text_47 : decode cX9_text 47 = .ok (.ireturn, 1) := decAll_at aX9_text_0 25 rfl
theorem dX9_text_48 : decode cX9_text 48 = .ok (.aload_n 0, 1) := decAll_at aX9_text_0 26 rfl
theorem dX9_text_49 : decode cX9_text 49 = .ok (.getfield 26, 3) := decAll_at aX9_text_0 27 rfl
theorem dX9_text_52 : decode cX9_text 52 = .ok (.aload_n 0, 1) := decAll_at aX9_text_0 28 rfl
theorem dX9_text_53 : decode cX9_text 53 = .ok (.getfield 35, 3) := decAll_at aX9_text_0 29 rfl
theorem dX9_text_56 : decode cX9_text 56 = .ok (.getfield 147, 3) := decAll_at aX9_text_0 30 rfl
theorem dX9_text_59 : decode cX9_text 59 = .ok (.invokevirtual 150, 3) := decAll_at aX9_text_0 31 rfl
theorem dX9_text_62 : decode cX9_text 62 = .ok (.aload_n 0, 1) := decAll_at aX9_text_0 32 rfl
theorem dX9_text_63 : decode cX9_text 63 = .ok (.invokevirtual 99, 3) := decAll_at aX9_text_0 33 rfl
theorem dX9_text_66 : decode cX9_text 66 = .ok (.aload_n 0, 1) := decAll_at aX9_text_0 34 rfl
theorem dX9_text_67 : decode cX9_text 67 = .ok (.getfield 26, 3) := decAll_at aX9_text_0 35 rfl
theorem dX9_text_70 : decode cX9_text 70 = .ok (.getfield 154, 3) := decAll_at aX9_text_0 36 rfl
theorem dX9_text_73 : decode cX9_text 73 = .ok (.ireturn, 1) := decAll_at aX9_text_0 37 rfl
def laX9_pace_0 : List (Nat × Instr × Nat) := [(0, .iload_n 2, 1), (1, .ifCond .lt 23, 3), (4, .iload_n 2, 1), (5, .sipush 1000, 3), (8, .if_icmp .gt 16, 3), (11, .iload_n 3, 1), (12, .ifCond .lt 12, 3), (15, .iload_n 3, 1), (16, .iconst 5, 1), (17, .if_icmp .gt 7, 3), (20, .iconst 1, 1), (21, .goto 4, 3), (24, .iconst 0, 1), (25, .istore 5, 2), (27, .iload 5, 2), (29, .ifCond .eq 26, 3), (32, .aload_n 0, 1), (33, .getfield 19, 3), (36, .iload_n 1, 1), (37, .invokevirtual 102, 3), (40, .ifCond .eq 15, 3), (43, .aload_n 0, 1), (44, .getfield 19, 3), (47, .iload 4, 2), (49, .invokevirtual 157, 3), (52, .ifCond .ne 5, 3), (55, .iconst (-1), 1), (56, .ireturn, 1), (57, .aload_n 0, 1), (58, .getfield 44, 3), (61, .iload_n 1, 1), (62, .iload_n 2, 1), (63, .iload_n 3, 1), (64, .iload 4, 2), (66, .invokevirtual 160, 3), (69, .ireturn, 1)]
theorem aX9_pace_0 : decAll cX9_pace laX9_pace_0 = true := by decide +kernel
theorem dX9_pace_0 : decode cX9_pace 0 = .ok (.iload_n 2, 1) := decAll_at aX9_pace_0 0 rfl
theorem dX9_pace_1 : decode cX9_pace 1 = .ok (.ifCond .lt 23, 3) := decAll_at aX9_pace_0 1 rfl
theorem dX9_pace_4 : decode cX9_pace 4 = .ok (.iload_n 2, 1) := decAll_at aX9_pace_0 2 rfl
theorem dX9_pace_5 : decode cX9_pace 5 = .ok (.sipush 1000, 3) := decAll_at aX9_pace_0 3 rfl
theorem dX9_pace_8 : decode cX9_pace 8 = .ok (.if_icmp .gt 16, 3) := decAll_at aX9_pace_0 4 rfl
theorem dX9_pace_11 : decode cX9_pace 11 = .ok (.iload_n 3, 1) := decAll_at aX9_pace_0 5 rfl
theorem dX9_pace_12 : decode cX9_pace 12 = .ok (.ifCond .lt 12, 3) := decAll_at aX9_pace_0 6 rfl
theorem dX9_pace_15 : decode cX9_pace 15 = .ok (.iload_n 3, 1) := decAll_at aX9_pace_0 7 rfl
theorem dX9_pace_16 : decode cX9_pace 16 = .ok (.iconst 5, 1) := decAll_at aX9_pace_0 8 rfl
theorem dX9_pace_17 : decode cX9_pace 17 = .ok (.if_icmp .gt 7, 3) := decAll_at aX9_pace_0 9 rfl
theorem dX9_pace_20 : decode cX9_pace 20 = .ok (.iconst 1, 1) := decAll_at aX9_pace_0 10 rfl
theorem dX9_pace_21 : decode cX9_pace 21 = .ok (.goto 4, 3) := decAll_at aX9_pace_0 11 rfl
theorem dX9_pace_24 : decode cX9_pace 24 = .ok (.iconst 0, 1) := decAll_at aX9_pace_0 12 rfl
theorem dX9_pace_25 : decode cX9_pace 25 = .ok (.istore 5, 2) := decAll_at aX9_pace_0 13 rfl
theorem dX9_pace_27 : decode cX9_pace 27 = .ok (.iload 5, 2) := decAll_at aX9_pace_0 14 rfl
theorem dX9_pace_29 : decode cX9_pace 29 = .ok (.ifCond .eq 26, 3) := decAll_at aX9_pace_0 15 rfl
theorem dX9_pace_32 : decode cX9_pace 32 = .ok (.aload_n 0, 1) := decAll_at aX9_pace_0 16 rfl
theorem dX9_pace_33 : decode cX9_pace 33 = .ok (.getfield 19, 3) := decAll_at aX9_pace_0 17 rfl
theorem dX9_pace_36 : decode cX9_pace 36 = .ok (.iload_n 1, 1) := decAll_at aX9_pace_0 18 rfl
theorem dX9_pace_37 : decode cX9_pace 37 = .ok (.invokevirtual 102, 3) := decAll_at aX9_pace_0 19 rfl
theorem dX9_pace_40 : decode cX9_pace 40 = .ok (.ifCond .eq 15, 3) := decAll_at aX9_pace_0 20 rfl
theorem dX9_pace_43 : decode cX9_pace 43 = .ok (.aload_n 0, 1) := decAll_at aX9_pace_0 21 rfl
theorem dX9_pace_44 : decode cX9_pace 44 = .ok (.getfield 19, 3) := decAll_at aX9_pace_0 22 rfl
theorem dX9_pace_47 : decode cX9_pace 47 = .ok (.iload 4, 2) := decAll_at aX9_pace_0 23 rfl
theorem dX9_pace_49 : decode cX9_pace 49 = .ok (.invokevirtual 157, 3) := decAll_at aX9_pace_0 24 rfl
theorem dX9_pace_52 : decode cX9_pace 52 = .ok (.ifCond .ne 5, 3) := decAll_at aX9_pace_0 25 rfl
theorem dX9_pace_55 : decode cX9_pace 55 = .ok (.iconst (-1), 1) := decAll_at aX9_pace_0 26 rfl
theorem dX9_pace_56 : decode cX9_pace 56 = .ok (.ireturn, 1) := decAll_at aX9_pace_0 27 rfl
theorem dX9_pace_57 : decode cX9_pace 57 = .ok (.aload_n 0, 1) := decAll_at aX9_pace_0 28 rfl
theorem dX9_pace_58 : decode cX9_pace 58 = .ok (.getfield 44, 3) := decAll_at aX9_pace_0 29 rfl
theorem dX9_pace_61 : decode cX9_pace 61 = .ok (.iload_n 1, 1) := decAll_at aX9_pace_0 30 rfl
theorem dX9_pace_62 : decode cX9_pace 62 = .ok (.iload_n 2, 1) := decAll_at aX9_pace_0 31 rfl
theorem dX9_pace_63 : decode cX9_pace 63 = .ok (.iload_n 3, 1) := decAll_at aX9_pace_0 32 rfl
theorem dX9_pace_64 : decode cX9_pace 64 = .ok (.iload 4, 2) := decAll_at aX9_pace_0 33 rfl
theorem dX9_pace_66 : decode cX9_pace 66 = .ok (.invokevirtual 160, 3) := decAll_at aX9_pace_0 34 rfl
theorem dX9_pace_69 : decode cX9_pace 69 = .ok (.ireturn, 1) := decAll_at aX9_pace_0 35 rfl
def laX9_carry_0 : List (Nat × Instr × Nat) := [(0, .iload_n 2, 1), (1, .iconst 1, 1), (2, .if_icmp .lt 22, 3), (5, .iload_n 2, 1), (6, .bipush 60, 2), (8, .if_icmp .gt 16, 3), (11, .iload_n 3, 1), (12, .ifCond .lt 12, 3), (15, .iload_n 3, 1), (16, .iconst 5, 1), (17, .if_icmp .gt 7, 3), (20, .iconst 1, 1), (21, .goto 4, 3), (24, .iconst 0, 1), (25, .istore 5, 2), (27, .iload 5, 2), (29, .ifCond .eq 26, 3), (32, .aload_n 0, 1), (33, .getfield 19, 3), (36, .iload_n 1, 1), (37, .invokevirtual 102, 3), (40, .ifCond .eq 15, 3), (43, .aload_n 0, 1), (44, .getfield 19, 3), (47, .iload 4, 2), (49, .invokevirtual 157, 3), (52, .ifCond .ne 6, 3), (55, .bipush (-2), 2), (57, .ireturn, 1), (58, .aload_n 0, 1), (59, .getfield 44, 3), (62, .getfield 164, 3), (65, .aload_n 0, 1), (66, .getfield 44, 3), (69, .iload_n 1, 1), (70, .iload_n 3, 1), (71, .iload 4, 2), (73, .invokevirtual 167, 3), (76, .iload_n 2, 1), (77, .iadd, 1), (78, .iaload, 1), (79, .ireturn, 1)]
theorem aX9_carry_0 : decAll cX9_carry laX9_carry_0 = true := by decide +kernel
theorem dX9_carry_0 : decode cX9_carry 0 = .ok (.iload_n 2, 1) := decAll_at aX9_carry_0 0 rfl
theorem dX9_carry_1 : decode cX9_carry 1 = .ok (.iconst 1, 1) := decAll_at aX9_carry_0 1 rfl
theorem dX9_carry_2 : decode cX9_carry 2 = .ok (.if_icmp .lt 22, 3) := decAll_at aX9_carry_0 2 rfl
theorem dX9_carry_5 : decode cX9_carry 5 = .ok (.iload_n 2, 1) := decAll_at aX9_carry_0 3 rfl
theorem dX9_carry_6 : decode cX9_carry 6 = .ok (.bipush 60, 2) := decAll_at aX9_carry_0 4 rfl
theorem dX9_carry_8 : decode cX9_carry 8 = .ok (.if_icmp .gt 16, 3) := decAll_at aX9_carry_0 5 rfl
theorem dX9_carry_11 : decode cX9_carry 11 = .ok (.iload_n 3, 1) := decAll_at aX9_carry_0 6 rfl
theorem dX9_carry_12 : decode cX9_carry 12 = .ok (.ifCond .lt 12, 3) := decAll_at aX9_carry_0 7 rfl
theorem dX9_carry_15 : decode cX9_carry 15 = .ok (.iload_n 3, 1) := decAll_at aX9_carry_0 8 rfl
theorem dX9_carry_16 : decode cX9_carry 16 = .ok (.iconst 5, 1) := decAll_at aX9_carry_0 9 rfl
theorem dX9_carry_17 : decode cX9_carry 17 = .ok (.if_icmp .gt 7, 3) := decAll_at aX9_carry_0 10 rfl
theorem dX9_carry_20 : decode cX9_carry 20 = .ok (.iconst 1, 1) := decAll_at aX9_carry_0 11 rfl
theorem dX9_carry_21 : decode cX9_carry 21 = .ok (.goto 4, 3) := decAll_at aX9_carry_0 12 rfl
theorem dX9_carry_24 : decode cX9_carry 24 = .ok (.iconst 0, 1) := decAll_at aX9_carry_0 13 rfl
theorem dX9_carry_25 : decode cX9_carry 25 = .ok (.istore 5, 2) := decAll_at aX9_carry_0 14 rfl
theorem dX9_carry_27 : decode cX9_carry 27 = .ok (.iload 5, 2) := decAll_at aX9_carry_0 15 rfl
theorem dX9_carry_29 : decode cX9_carry 29 = .ok (.ifCond .eq 26, 3) := decAll_at aX9_carry_0 16 rfl
theorem dX9_carry_32 : decode cX9_carry 32 = .ok (.aload_n 0, 1) := decAll_at aX9_carry_0 17 rfl
theorem dX9_carry_33 : decode cX9_carry 33 = .ok (.getfield 19, 3) := decAll_at aX9_carry_0 18 rfl
theorem dX9_carry_36 : decode cX9_carry 36 = .ok (.iload_n 1, 1) := decAll_at aX9_carry_0 19 rfl
theorem dX9_carry_37 : decode cX9_carry 37 = .ok (.invokevirtual 102, 3) := decAll_at aX9_carry_0 20 rfl
theorem dX9_carry_40 : decode cX9_carry 40 = .ok (.ifCond .eq 15, 3) := decAll_at aX9_carry_0 21 rfl
theorem dX9_carry_43 : decode cX9_carry 43 = .ok (.aload_n 0, 1) := decAll_at aX9_carry_0 22 rfl
theorem dX9_carry_44 : decode cX9_carry 44 = .ok (.getfield 19, 3) := decAll_at aX9_carry_0 23 rfl
theorem dX9_carry_47 : decode cX9_carry 47 = .ok (.iload 4, 2) := decAll_at aX9_carry_0 24 rfl
theorem dX9_carry_49 : decode cX9_carry 49 = .ok (.invokevirtual 157, 3) := decAll_at aX9_carry_0 25 rfl
theorem dX9_carry_52 : decode cX9_carry 52 = .ok (.ifCond .ne 6, 3) := decAll_at aX9_carry_0 26 rfl
theorem dX9_carry_55 : decode cX9_carry 55 = .ok (.bipush (-2), 2) := decAll_at aX9_carry_0 27 rfl
theorem dX9_carry_57 : decode cX9_carry 57 = .ok (.ireturn, 1) := decAll_at aX9_carry_0 28 rfl
theorem dX9_carry_58 : decode cX9_carry 58 = .ok (.aload_n 0, 1) := decAll_at aX9_carry_0 29 rfl
theorem dX9_carry_59 : decode cX9_carry 59 = .ok (.getfield 44, 3) := decAll_at aX9_carry_0 30 rfl
theorem dX9_carry_62 : decode cX9_carry 62 = .ok (.getfield 164, 3) := decAll_at aX9_carry_0 31 rfl
theorem dX9_carry_65 : decode cX9_carry 65 = .ok (.aload_n 0, 1) := decAll_at aX9_carry_0 32 rfl
theorem dX9_carry_66 : decode cX9_carry 66 = .ok (.getfield 44, 3) := decAll_at aX9_carry_0 33 rfl
theorem dX9_carry_69 : decode cX9_carry 69 = .ok (.iload_n 1, 1) := decAll_at aX9_carry_0 34 rfl
theorem dX9_carry_70 : decode cX9_carry 70 = .ok (.iload_n 3, 1) := decAll_at aX9_carry_0 35 rfl
theorem dX9_carry_71 : decode cX9_carry 71 = .ok (.iload 4, 2) := decAll_at aX9_carry_0 36 rfl
theorem dX9_carry_73 : decode cX9_carry 73 = .ok (.invokevirtual 167, 3) := decAll_at aX9_carry_0 37 rfl
theorem dX9_carry_76 : decode cX9_carry 76 = .ok (.iload_n 2, 1) := decAll_at aX9_carry_0 38 rfl
theorem dX9_carry_77 : decode cX9_carry 77 = .ok (.iadd, 1) := decAll_at aX9_carry_0 39 rfl
theorem dX9_carry_78 : decode cX9_carry 78 = .ok (.iaload, 1) := decAll_at aX9_carry_0 40 rfl
theorem dX9_carry_79 : decode cX9_carry 79 = .ok (.ireturn, 1) := decAll_at aX9_carry_0 41 rfl
def laX9_parts_0 : List (Nat × Instr × Nat) := [(0, .iload_n 1, 1), (1, .ifCond .lt 25, 3), (4, .iload_n 1, 1), (5, .sipush 2400, 3), (8, .if_icmp .gt 18, 3), (11, .iload 4, 2), (13, .ifCond .lt 13, 3), (16, .iload 4, 2), (18, .iconst 2, 1), (19, .if_icmp .gt 7, 3), (22, .iconst 1, 1), (23, .goto 4, 3), (26, .iconst 0, 1), (27, .istore 5, 2), (29, .iload 5, 2), (31, .ifCond .eq 12, 3), (34, .aload_n 0, 1), (35, .iload_n 2, 1), (36, .iload_n 3, 1), (37, .invokevirtual 171, 3), (40, .ifCond .ne 5, 3), (43, .iconst (-1), 1), (44, .ireturn, 1), (45, .aload_n 0, 1), (46, .getfield 44, 3), (49, .iload_n 1, 1), (50, .iload_n 2, 1), (51, .iload_n 3, 1), (52, .invokevirtual 175, 3), (55, .istore 6, 2), (57, .iload 4, 2), (59, .ifCond .ne 6, 3), (62, .iload 6, 2), (64, .ireturn, 1), (65, .iload 4, 2), (67, .iconst 1, 1), (68, .if_icmp .ne 24, 3), (71, .iload 6, 2), (73, .ifCond .ne 7, 3), (76, .iconst 0, 1), (77, .goto 14, 3), (80, .aload_n 0, 1), (81, .getfield 44, 3), (84, .iload 6, 2), (86, .invokevirtual 178, 3), (89, .iload_n 1, 1), (90, .isub, 1), (91, .ireturn, 1), (92, .iload 6, 2), (94, .ifCond .ne 8, 3), (97, .bipush (-2), 2), (99, .goto 13, 3), (102, .aload_n 0, 1), (103, .getfield 19, 3), (106, .iload_n 2, 1), (107, .iload 6, 2), (109, .invokevirtual 181, 3), (112, .ireturn, 1)]
theorem aX9_parts_0 : decAll cX9_parts laX9_parts_0 = true := by decide +kernel
theorem dX9_parts_0 : decode cX9_parts 0 = .ok (.iload_n 1, 1) := decAll_at aX9_parts_0 0 rfl
theorem dX9_parts_1 : decode cX9_parts 1 = .ok (.ifCond .lt 25, 3) := decAll_at aX9_parts_0 1 rfl
theorem dX9_parts_4 : decode cX9_parts 4 = .ok (.iload_n 1, 1) := decAll_at aX9_parts_0 2 rfl
theorem dX9_parts_5 : decode cX9_parts 5 = .ok (.sipush 2400, 3) := decAll_at aX9_parts_0 3 rfl
theorem dX9_parts_8 : decode cX9_parts 8 = .ok (.if_icmp .gt 18, 3) := decAll_at aX9_parts_0 4 rfl
theorem dX9_parts_11 : decode cX9_parts 11 = .ok (.iload 4, 2) := decAll_at aX9_parts_0 5 rfl
theorem dX9_parts_13 : decode cX9_parts 13 = .ok (.ifCond .lt 13, 3) := decAll_at aX9_parts_0 6 rfl
theorem dX9_parts_16 : decode cX9_parts 16 = .ok (.iload 4, 2) := decAll_at aX9_parts_0 7 rfl
theorem dX9_parts_18 : decode cX9_parts 18 = .ok (.iconst 2, 1) := decAll_at aX9_parts_0 8 rfl
theorem dX9_parts_19 : decode cX9_parts 19 = .ok (.if_icmp .gt 7, 3) := decAll_at aX9_parts_0 9 rfl
theorem dX9_parts_22 : decode cX9_parts 22 = .ok (.iconst 1, 1) := decAll_at aX9_parts_0 10 rfl
theorem dX9_parts_23 : decode cX9_parts 23 = .ok (.goto 4, 3) := decAll_at aX9_parts_0 11 rfl
theorem dX9_parts_26 : decode cX9_parts 26 = .ok (.iconst 0, 1) := decAll_at aX9_parts_0 12 rfl
theorem dX9_parts_27 : decode cX9_parts 27 = .ok (.istore 5, 2) := decAll_at aX9_parts_0 13 rfl
theorem dX9_parts_29 : decode cX9_parts 29 = .ok (.iload 5, 2) := decAll_at aX9_parts_0 14 rfl
theorem dX9_parts_31 : decode cX9_parts 31 = .ok (.ifCond .eq 12, 3) := decAll_at aX9_parts_0 15 rfl
theorem dX9_parts_34 : decode cX9_parts 34 = .ok (.aload_n 0, 1) := decAll_at aX9_parts_0 16 rfl
theorem dX9_parts_35 : decode cX9_parts 35 = .ok (.iload_n 2, 1) := decAll_at aX9_parts_0 17 rfl
theorem dX9_parts_36 : decode cX9_parts 36 = .ok (.iload_n 3, 1) := decAll_at aX9_parts_0 18 rfl
theorem dX9_parts_37 : decode cX9_parts 37 = .ok (.invokevirtual 171, 3) := decAll_at aX9_parts_0 19 rfl
theorem dX9_parts_40 : decode cX9_parts 40 = .ok (.ifCond .ne 5, 3) := decAll_at aX9_parts_0 20 rfl
theorem dX9_parts_43 : decode cX9_parts 43 = .ok (.iconst (-1), 1) := decAll_at aX9_parts_0 21 rfl
theorem dX9_parts_44 : decode cX9_parts 44 = .ok (.ireturn, 1) := decAll_at aX9_parts_0 22 rfl
theorem dX9_parts_45 : decode cX9_parts 45 = .ok (.aload_n 0, 1) := decAll_at aX9_parts_0 23 rfl
theorem dX9_parts_46 : decode cX9_parts 46 = .ok (.getfield 44, 3) := decAll_at aX9_parts_0 24 rfl
theorem dX9_parts_49 : decode cX9_parts 49 = .ok (.iload_n 1, 1) := decAll_at aX9_parts_0 25 rfl
theorem dX9_parts_50 : decode cX9_parts 50 = .ok (.iload_n 2, 1) := decAll_at aX9_parts_0 26 rfl
theorem dX9_parts_51 : decode cX9_parts 51 = .ok (.iload_n 3, 1) := decAll_at aX9_parts_0 27 rfl
theorem dX9_parts_52 : decode cX9_parts 52 = .ok (.invokevirtual 175, 3) := decAll_at aX9_parts_0 28 rfl
theorem dX9_parts_55 : decode cX9_parts 55 = .ok (.istore 6, 2) := decAll_at aX9_parts_0 29 rfl
theorem dX9_parts_57 : decode cX9_parts 57 = .ok (.iload 4, 2) := decAll_at aX9_parts_0 30 rfl
theorem dX9_parts_59 : decode cX9_parts 59 = .ok (.ifCond .ne 6, 3) := decAll_at aX9_parts_0 31 rfl
theorem dX9_parts_62 : decode cX9_parts 62 = .ok (.iload 6, 2) := decAll_at aX9_parts_0 32 rfl
theorem dX9_parts_64 : decode cX9_parts 64 = .ok (.ireturn, 1) := decAll_at aX9_parts_0 33 rfl
theorem dX9_parts_65 : decode cX9_parts 65 = .ok (.iload 4, 2) := decAll_at aX9_parts_0 34 rfl
theorem dX9_parts_67 : decode cX9_parts 67 = .ok (.iconst 1, 1) := decAll_at aX9_parts_0 35 rfl
theorem dX9_parts_68 : decode cX9_parts 68 = .ok (.if_icmp .ne 24, 3) := decAll_at aX9_parts_0 36 rfl
theorem dX9_parts_71 : decode cX9_parts 71 = .ok (.iload 6, 2) := decAll_at aX9_parts_0 37 rfl
theorem dX9_parts_73 : decode cX9_parts 73 = .ok (.ifCond .ne 7, 3) := decAll_at aX9_parts_0 38 rfl
theorem dX9_parts_76 : decode cX9_parts 76 = .ok (.iconst 0, 1) := decAll_at aX9_parts_0 39 rfl
theorem dX9_parts_77 : decode cX9_parts 77 = .ok (.goto 14, 3) := decAll_at aX9_parts_0 40 rfl
theorem dX9_parts_80 : decode cX9_parts 80 = .ok (.aload_n 0, 1) := decAll_at aX9_parts_0 41 rfl
theorem dX9_parts_81 : decode cX9_parts 81 = .ok (.getfield 44, 3) := decAll_at aX9_parts_0 42 rfl
theorem dX9_parts_84 : decode cX9_parts 84 = .ok (.iload 6, 2) := decAll_at aX9_parts_0 43 rfl
theorem dX9_parts_86 : decode cX9_parts 86 = .ok (.invokevirtual 178, 3) := decAll_at aX9_parts_0 44 rfl
theorem dX9_parts_89 : decode cX9_parts 89 = .ok (.iload_n 1, 1) := decAll_at aX9_parts_0 45 rfl
theorem dX9_parts_90 : decode cX9_parts 90 = .ok (.isub, 1) := decAll_at aX9_parts_0 46 rfl
theorem dX9_parts_91 : decode cX9_parts 91 = .ok (.ireturn, 1) := decAll_at aX9_parts_0 47 rfl
theorem dX9_parts_92 : decode cX9_parts 92 = .ok (.iload 6, 2) := decAll_at aX9_parts_0 48 rfl
theorem dX9_parts_94 : decode cX9_parts 94 = .ok (.ifCond .ne 8, 3) := decAll_at aX9_parts_0 49 rfl
theorem dX9_parts_97 : decode cX9_parts 97 = .ok (.bipush (-2), 2) := decAll_at aX9_parts_0 50 rfl
theorem dX9_parts_99 : decode cX9_parts 99 = .ok (.goto 13, 3) := decAll_at aX9_parts_0 51 rfl
theorem dX9_parts_102 : decode cX9_parts 102 = .ok (.aload_n 0, 1) := decAll_at aX9_parts_0 52 rfl
theorem dX9_parts_103 : decode cX9_parts 103 = .ok (.getfield 19, 3) := decAll_at aX9_parts_0 53 rfl
theorem dX9_parts_106 : decode cX9_parts 106 = .ok (.iload_n 2, 1) := decAll_at aX9_parts_0 54 rfl
theorem dX9_parts_107 : decode cX9_parts 107 = .ok (.iload 6, 2) := decAll_at aX9_parts_0 55 rfl
theorem dX9_parts_109 : decode cX9_parts 109 = .ok (.invokevirtual 181, 3) := decAll_at aX9_parts_0 56 rfl
theorem dX9_parts_112 : decode cX9_parts 112 = .ok (.ireturn, 1) := decAll_at aX9_parts_0 57 rfl
def laX9_whole_0 : List (Nat × Instr × Nat) := [(0, .iload_n 3, 1), (1, .iconst (-1), 1), (2, .if_icmp .eq 20, 3), (5, .iload_n 3, 1), (6, .bipush 9, 2), (8, .if_icmp .eq 14, 3), (11, .aload_n 0, 1), (12, .getfield 19, 3), (15, .iload_n 3, 1), (16, .invokevirtual 185, 3), (19, .ifCond .eq 7, 3), (22, .iconst 1, 1), (23, .goto 4, 3), (26, .iconst 0, 1), (27, .istore 4, 2), (29, .iload 4, 2), (31, .ifCond .eq 12, 3), (34, .aload_n 0, 1), (35, .iload_n 1, 1), (36, .iload_n 2, 1), (37, .invokevirtual 171, 3), (40, .ifCond .ne 6, 3), (43, .bipush (-3), 2), (45, .ireturn, 1), (46, .aload_n 0, 1), (47, .getfield 53, 3), (50, .iload_n 1, 1), (51, .iload_n 2, 1), (52, .invokevirtual 188, 3), (55, .aload_n 0, 1), (56, .getfield 53, 3), (59, .invokevirtual 192, 3), (62, .istore 5, 2), (64, .iload_n 3, 1), (65, .iconst (-1), 1), (66, .if_icmp .ne 6, 3), (69, .iload 5, 2), (71, .ireturn, 1), (72, .iload 5, 2), (74, .ifCond .ne 6, 3), (77, .bipush (-2), 2), (79, .ireturn, 1), (80, .iload_n 3, 1), (81, .bipush 9, 2), (83, .if_icmp .ne 14, 3), (86, .aload_n 0, 1), (87, .getfield 19, 3), (90, .iload_n 1, 1), (91, .iload 5, 2), (93, .invokevirtual 181, 3), (96, .ireturn, 1), (97, .aload_n 0, 1), (98, .getfield 53, 3), (101, .iload 5, 2), (103, .invokevirtual 196, 3), (106, .aload_n 0, 1), (107, .getfield 53, 3), (110, .getfield 199, 3), (113, .iload_n 3, 1), (114, .iaload, 1), (115, .ireturn, 1)]
theorem aX9_whole_0 : decAll cX9_whole laX9_whole_0 = true := by decide +kernel
theorem dX9_whole_0 : decode cX9_whole 0 = .ok (.iload_n 3, 1) := decAll_at aX9_whole_0 0 rfl
theorem dX9_whole_1 : decode cX9_whole 1 = .ok (.iconst (-1), 1) := decAll_at aX9_whole_0 1 rfl
theorem dX9_whole_2 : decode cX9_whole 2 = .ok (.if_icmp .eq 20, 3) := decAll_at aX9_whole_0 2 rfl
theorem dX9_whole_5 : decode cX9_whole 5 = .ok (.iload_n 3, 1) := decAll_at aX9_whole_0 3 rfl
theorem dX9_whole_6 : decode cX9_whole 6 = .ok (.bipush 9, 2) := decAll_at aX9_whole_0 4 rfl
theorem dX9_whole_8 : decode cX9_whole 8 = .ok (.if_icmp .eq 14, 3) := decAll_at aX9_whole_0 5 rfl
theorem dX9_whole_11 : decode cX9_whole 11 = .ok (.aload_n 0, 1) := decAll_at aX9_whole_0 6 rfl
theorem dX9_whole_12 : decode cX9_whole 12 = .ok (.getfield 19, 3) := decAll_at aX9_whole_0 7 rfl
theorem dX9_whole_15 : decode cX9_whole 15 = .ok (.iload_n 3, 1) := decAll_at aX9_whole_0 8 rfl
theorem dX9_whole_16 : decode cX9_whole 16 = .ok (.invokevirtual 185, 3) := decAll_at aX9_whole_0 9 rfl
theorem dX9_whole_19 : decode cX9_whole 19 = .ok (.ifCond .eq 7, 3) := decAll_at aX9_whole_0 10 rfl
theorem dX9_whole_22 : decode cX9_whole 22 = .ok (.iconst 1, 1) := decAll_at aX9_whole_0 11 rfl
theorem dX9_whole_23 : decode cX9_whole 23 = .ok (.goto 4, 3) := decAll_at aX9_whole_0 12 rfl
theorem dX9_whole_26 : decode cX9_whole 26 = .ok (.iconst 0, 1) := decAll_at aX9_whole_0 13 rfl
theorem dX9_whole_27 : decode cX9_whole 27 = .ok (.istore 4, 2) := decAll_at aX9_whole_0 14 rfl
theorem dX9_whole_29 : decode cX9_whole 29 = .ok (.iload 4, 2) := decAll_at aX9_whole_0 15 rfl
theorem dX9_whole_31 : decode cX9_whole 31 = .ok (.ifCond .eq 12, 3) := decAll_at aX9_whole_0 16 rfl
theorem dX9_whole_34 : decode cX9_whole 34 = .ok (.aload_n 0, 1) := decAll_at aX9_whole_0 17 rfl
theorem dX9_whole_35 : decode cX9_whole 35 = .ok (.iload_n 1, 1) := decAll_at aX9_whole_0 18 rfl
theorem dX9_whole_36 : decode cX9_whole 36 = .ok (.iload_n 2, 1) := decAll_at aX9_whole_0 19 rfl
theorem dX9_whole_37 : decode cX9_whole 37 = .ok (.invokevirtual 171, 3) := decAll_at aX9_whole_0 20 rfl
theorem dX9_whole_40 : decode cX9_whole 40 = .ok (.ifCond .ne 6, 3) := decAll_at aX9_whole_0 21 rfl
theorem dX9_whole_43 : decode cX9_whole 43 = .ok (.bipush (-3), 2) := decAll_at aX9_whole_0 22 rfl
theorem dX9_whole_45 : decode cX9_whole 45 = .ok (.ireturn, 1) := decAll_at aX9_whole_0 23 rfl
theorem dX9_whole_46 : decode cX9_whole 46 = .ok (.aload_n 0, 1) := decAll_at aX9_whole_0 24 rfl
theorem dX9_whole_47 : decode cX9_whole 47 = .ok (.getfield 53, 3) := decAll_at aX9_whole_0 25 rfl
theorem dX9_whole_50 : decode cX9_whole 50 = .ok (.iload_n 1, 1) := decAll_at aX9_whole_0 26 rfl
theorem dX9_whole_51 : decode cX9_whole 51 = .ok (.iload_n 2, 1) := decAll_at aX9_whole_0 27 rfl
theorem dX9_whole_52 : decode cX9_whole 52 = .ok (.invokevirtual 188, 3) := decAll_at aX9_whole_0 28 rfl
theorem dX9_whole_55 : decode cX9_whole 55 = .ok (.aload_n 0, 1) := decAll_at aX9_whole_0 29 rfl
theorem dX9_whole_56 : decode cX9_whole 56 = .ok (.getfield 53, 3) := decAll_at aX9_whole_0 30 rfl
theorem dX9_whole_59 : decode cX9_whole 59 = .ok (.invokevirtual 192, 3) := decAll_at aX9_whole_0 31 rfl
theorem dX9_whole_62 : decode cX9_whole 62 = .ok (.istore 5, 2) := decAll_at aX9_whole_0 32 rfl
theorem dX9_whole_64 : decode cX9_whole 64 = .ok (.iload_n 3, 1) := decAll_at aX9_whole_0 33 rfl
theorem dX9_whole_65 : decode cX9_whole 65 = .ok (.iconst (-1), 1) := decAll_at aX9_whole_0 34 rfl
theorem dX9_whole_66 : decode cX9_whole 66 = .ok (.if_icmp .ne 6, 3) := decAll_at aX9_whole_0 35 rfl
theorem dX9_whole_69 : decode cX9_whole 69 = .ok (.iload 5, 2) := decAll_at aX9_whole_0 36 rfl
theorem dX9_whole_71 : decode cX9_whole 71 = .ok (.ireturn, 1) := decAll_at aX9_whole_0 37 rfl
theorem dX9_whole_72 : decode cX9_whole 72 = .ok (.iload 5, 2) := decAll_at aX9_whole_0 38 rfl
theorem dX9_whole_74 : decode cX9_whole 74 = .ok (.ifCond .ne 6, 3) := decAll_at aX9_whole_0 39 rfl
theorem dX9_whole_77 : decode cX9_whole 77 = .ok (.bipush (-2), 2) := decAll_at aX9_whole_0 40 rfl
theorem dX9_whole_79 : decode cX9_whole 79 = .ok (.ireturn, 1) := decAll_at aX9_whole_0 41 rfl
theorem dX9_whole_80 : decode cX9_whole 80 = .ok (.iload_n 3, 1) := decAll_at aX9_whole_0 42 rfl
theorem dX9_whole_81 : decode cX9_whole 81 = .ok (.bipush 9, 2) := decAll_at aX9_whole_0 43 rfl
theorem dX9_whole_83 : decode cX9_whole 83 = .ok (.if_icmp .ne 14, 3) := decAll_at aX9_whole_0 44 rfl
theorem dX9_whole_86 : decode cX9_whole 86 = .ok (.aload_n 0, 1) := decAll_at aX9_whole_0 45 rfl
theorem dX9_whole_87 : decode cX9_whole 87 = .ok (.getfield 19, 3) := decAll_at aX9_whole_0 46 rfl
theorem dX9_whole_90 : decode cX9_whole 90 = .ok (.iload_n 1, 1) := decAll_at aX9_whole_0 47 rfl
theorem dX9_whole_91 : decode cX9_whole 91 = .ok (.iload 5, 2) := decAll_at aX9_whole_0 48 rfl
theorem dX9_whole_93 : decode cX9_whole 93 = .ok (.invokevirtual 181, 3) := decAll_at aX9_whole_0 49 rfl
theorem dX9_whole_96 : decode cX9_whole 96 = .ok (.ireturn, 1) := decAll_at aX9_whole_0 50 rfl
theorem dX9_whole_97 : decode cX9_whole 97 = .ok (.aload_n 0, 1) := decAll_at aX9_whole_0 51 rfl
theorem dX9_whole_98 : decode cX9_whole 98 = .ok (.getfield 53, 3) := decAll_at aX9_whole_0 52 rfl
theorem dX9_whole_101 : decode cX9_whole 101 = .ok (.iload 5, 2) := decAll_at aX9_whole_0 53 rfl
theorem dX9_whole_103 : decode cX9_whole 103 = .ok (.invokevirtual 196, 3) := decAll_at aX9_whole_0 54 rfl
theorem dX9_whole_106 : decode cX9_whole 106 = .ok (.aload_n 0, 1) := decAll_at aX9_whole_0 55 rfl
theorem dX9_whole_107 : decode cX9_whole 107 = .ok (.getfield 53, 3) := decAll_at aX9_whole_0 56 rfl
theorem dX9_whole_110 : decode cX9_whole 110 = .ok (.getfield 199, 3) := decAll_at aX9_whole_0 57 rfl
theorem dX9_whole_113 : decode cX9_whole 113 = .ok (.iload_n 3, 1) := decAll_at aX9_whole_0 58 rfl
theorem dX9_whole_114 : decode cX9_whole 114 = .ok (.iaload, 1) := decAll_at aX9_whole_0 59 rfl
theorem dX9_whole_115 : decode cX9_whole 115 = .ok (.ireturn, 1) := decAll_at aX9_whole_0 60 rfl
def laX9_wont_0 : List (Nat × Instr × Nat) := [(0, .aload_n 0, 1), (1, .iload_n 1, 1), (2, .iload_n 2, 1), (3, .invokevirtual 171, 3), (6, .ifCond .ne 6, 3), (9, .ldc 202, 2), (11, .ireturn, 1), (12, .aload_n 0, 1), (13, .getfield 53, 3), (16, .iload_n 1, 1), (17, .iload_n 2, 1), (18, .invokevirtual 188, 3), (21, .aload_n 0, 1), (22, .getfield 19, 3), (25, .iload_n 1, 1), (26, .aload_n 0, 1), (27, .getfield 53, 3), (30, .invokevirtual 192, 3), (33, .invokevirtual 181, 3), (36, .istore_n 3, 1), (37, .aload_n 0, 1), (38, .getfield 53, 3), (41, .invokevirtual 203, 3), (44, .aload_n 0, 1), (45, .getfield 19, 3), (48, .iload_n 1, 1), (49, .aload_n 0, 1), (50, .getfield 53, 3), (53, .invokevirtual 192, 3), (56, .invokevirtual 181, 3), (59, .istore 4, 2), (61, .iload_n 3, 1), (62, .ldc 206, 2), (64, .if_icmp .eq 10, 3), (67, .iload 4, 2), (69, .ldc 206, 2), (71, .if_icmp .ne 8, 3), (74, .ldc 202, 2), (76, .goto 7, 3), (79, .iload_n 3, 1), (80, .iload 4, 2), (82, .isub, 1), (83, .ireturn, 1)]
theorem aX9_wont_0 : decAll cX9_wont laX9_wont_0 = true := by decide +kernel
theorem dX9_wont_0 : decode cX9_wont 0 = .ok (.aload_n 0, 1) := decAll_at aX9_wont_0 0 rfl
theorem dX9_wont_1 : decode cX9_wont 1 = .ok (.iload_n 1, 1) := decAll_at aX9_wont_0 1 rfl
theorem dX9_wont_2 : decode cX9_wont 2 = .ok (.iload_n 2, 1) := decAll_at aX9_wont_0 2 rfl
theorem dX9_wont_3 : decode cX9_wont 3 = .ok (.invokevirtual 171, 3) := decAll_at aX9_wont_0 3 rfl
theorem dX9_wont_6 : decode cX9_wont 6 = .ok (.ifCond .ne 6, 3) := decAll_at aX9_wont_0 4 rfl
theorem dX9_wont_9 : decode cX9_wont 9 = .ok (.ldc 202, 2) := decAll_at aX9_wont_0 5 rfl
theorem dX9_wont_11 : decode cX9_wont 11 = .ok (.ireturn, 1) := decAll_at aX9_wont_0 6 rfl
theorem dX9_wont_12 : decode cX9_wont 12 = .ok (.aload_n 0, 1) := decAll_at aX9_wont_0 7 rfl
theorem dX9_wont_13 : decode cX9_wont 13 = .ok (.getfield 53, 3) := decAll_at aX9_wont_0 8 rfl
theorem dX9_wont_16 : decode cX9_wont 16 = .ok (.iload_n 1, 1) := decAll_at aX9_wont_0 9 rfl
theorem dX9_wont_17 : decode cX9_wont 17 = .ok (.iload_n 2, 1) := decAll_at aX9_wont_0 10 rfl
theorem dX9_wont_18 : decode cX9_wont 18 = .ok (.invokevirtual 188, 3) := decAll_at aX9_wont_0 11 rfl
theorem dX9_wont_21 : decode cX9_wont 21 = .ok (.aload_n 0, 1) := decAll_at aX9_wont_0 12 rfl
theorem dX9_wont_22 : decode cX9_wont 22 = .ok (.getfield 19, 3) := decAll_at aX9_wont_0 13 rfl
theorem dX9_wont_25 : decode cX9_wont 25 = .ok (.iload_n 1, 1) := decAll_at aX9_wont_0 14 rfl
theorem dX9_wont_26 : decode cX9_wont 26 = .ok (.aload_n 0, 1) := decAll_at aX9_wont_0 15 rfl
theorem dX9_wont_27 : decode cX9_wont 27 = .ok (.getfield 53, 3) := decAll_at aX9_wont_0 16 rfl
theorem dX9_wont_30 : decode cX9_wont 30 = .ok (.invokevirtual 192, 3) := decAll_at aX9_wont_0 17 rfl
theorem dX9_wont_33 : decode cX9_wont 33 = .ok (.invokevirtual 181, 3) := decAll_at aX9_wont_0 18 rfl
theorem dX9_wont_36 : decode cX9_wont 36 = .ok (.istore_n 3, 1) := decAll_at aX9_wont_0 19 rfl
theorem dX9_wont_37 : decode cX9_wont 37 = .ok (.aload_n 0, 1) := decAll_at aX9_wont_0 20 rfl
theorem dX9_wont_38 : decode cX9_wont 38 = .ok (.getfield 53, 3) := decAll_at aX9_wont_0 21 rfl
theorem dX9_wont_41 : decode cX9_wont 41 = .ok (.invokevirtual 203, 3) := decAll_at aX9_wont_0 22 rfl
theorem dX9_wont_44 : decode cX9_wont 44 = .ok (.aload_n 0, 1) := decAll_at aX9_wont_0 23 rfl
theorem dX9_wont_45 : decode cX9_wont 45 = .ok (.getfield 19, 3) := decAll_at aX9_wont_0 24 rfl
theorem dX9_wont_48 : decode cX9_wont 48 = .ok (.iload_n 1, 1) := decAll_at aX9_wont_0 25 rfl
theorem dX9_wont_49 : decode cX9_wont 49 = .ok (.aload_n 0, 1) := decAll_at aX9_wont_0 26 rfl
theorem dX9_wont_50 : decode cX9_wont 50 = .ok (.getfield 53, 3) := decAll_at aX9_wont_0 27 rfl
theorem dX9_wont_53 : decode cX9_wont 53 = .ok (.invokevirtual 192, 3) := decAll_at aX9_wont_0 28 rfl
theorem dX9_wont_56 : decode cX9_wont 56 = .ok (.invokevirtual 181, 3) := decAll_at aX9_wont_0 29 rfl
theorem dX9_wont_59 : decode cX9_wont 59 = .ok (.istore 4, 2) := decAll_at aX9_wont_0 30 rfl
theorem dX9_wont_61 : decode cX9_wont 61 = .ok (.iload_n 3, 1) := decAll_at aX9_wont_0 31 rfl
theorem dX9_wont_62 : decode cX9_wont 62 = .ok (.ldc 206, 2) := decAll_at aX9_wont_0 32 rfl
theorem dX9_wont_64 : decode cX9_wont 64 = .ok (.if_icmp .eq 10, 3) := decAll_at aX9_wont_0 33 rfl
theorem dX9_wont_67 : decode cX9_wont 67 = .ok (.iload 4, 2) := decAll_at aX9_wont_0 34 rfl
theorem dX9_wont_69 : decode cX9_wont 69 = .ok (.ldc 206, 2) := decAll_at aX9_wont_0 35 rfl
theorem dX9_wont_71 : decode cX9_wont 71 = .ok (.if_icmp .ne 8, 3) := decAll_at aX9_wont_0 36 rfl
theorem dX9_wont_74 : decode cX9_wont 74 = .ok (.ldc 202, 2) := decAll_at aX9_wont_0 37 rfl
theorem dX9_wont_76 : decode cX9_wont 76 = .ok (.goto 7, 3) := decAll_at aX9_wont_0 38 rfl
theorem dX9_wont_79 : decode cX9_wont 79 = .ok (.iload_n 3, 1) := decAll_at aX9_wont_0 39 rfl
theorem dX9_wont_80 : decode cX9_wont 80 = .ok (.iload 4, 2) := decAll_at aX9_wont_0 40 rfl
theorem dX9_wont_82 : decode cX9_wont 82 = .ok (.isub, 1) := decAll_at aX9_wont_0 41 rfl
theorem dX9_wont_83 : decode cX9_wont 83 = .ok (.ireturn, 1) := decAll_at aX9_wont_0 42 rfl
def laX9_who_0 : List (Nat × Instr × Nat) := [(0, .iload_n 3, 1), (1, .ifCond .lt 17, 3), (4, .iload_n 3, 1), (5, .iconst 1, 1), (6, .if_icmp .gt 12, 3), (9, .aload_n 0, 1), (10, .iload_n 1, 1), (11, .iload_n 2, 1), (12, .invokevirtual 171, 3), (15, .ifCond .ne 6, 3), (18, .bipush (-2), 2), (20, .ireturn, 1), (21, .aload_n 0, 1), (22, .getfield 53, 3), (25, .iload_n 1, 1), (26, .iload_n 2, 1), (27, .invokevirtual 188, 3), (30, .aload_n 0, 1), (31, .getfield 53, 3), (34, .invokevirtual 192, 3), (37, .istore 4, 2), (39, .iconst (-1), 1), (40, .istore 5, 2), (42, .iconst 0, 1), (43, .istore 6, 2), (45, .iload 6, 2), (47, .aload_n 0, 1), (48, .getfield 19, 3), (51, .getfield 80, 3), (54, .if_icmp .ge 49, 3), (57, .iload 5, 2), (59, .iconst (-1), 1), (60, .if_icmp .ne 43, 3), (63, .iload 4, 2), (65, .bipush 60, 2), (67, .if_icmp .ge 36, 3), (70, .aload_n 0, 1), (71, .getfield 53, 3), (74, .iload 6, 2), (76, .putfield 207, 3), (79, .aload_n 0, 1), (80, .getfield 53, 3), (83, .iload 4, 2), (85, .iconst 1, 1), (86, .iadd, 1), (87, .invokevirtual 210, 3), (90, .ifCond .eq 7, 3), (93, .iload 6, 2), (95, .istore 5, 2), (97, .iinc 6 1, 3), (100, .goto (-55), 3), (103, .iload_n 3, 1), (104, .ifCond .ne 6, 3), (107, .iload 5, 2), (109, .ireturn, 1), (110, .iload 5, 2), (112, .iconst (-1), 1), (113, .if_icmp .ne 7, 3), (116, .iconst 0, 1), (117, .goto 4, 3), (120, .iconst 1, 1), (121, .ireturn, 1)]
theorem aX9_who_0 : decAll cX9_who laX9_who_0 = true := by decide +kernel
theorem dX9_who_0 : decode cX9_who 0 = .ok (.iload_n 3, 1) := decAll_at aX9_who_0 0 rfl
theorem dX9_who_1 : decode cX9_who 1 = .ok (.ifCond .lt 17, 3) := decAll_at aX9_who_0 1 rfl
theorem dX9_who_4 : decode cX9_who 4 = .ok (.iload_n 3, 1) := decAll_at aX9_who_0 2 rfl
theorem dX9_who_5 : decode cX9_who 5 = .ok (.iconst 1, 1) := decAll_at aX9_who_0 3 rfl
theorem dX9_who_6 : decode cX9_who 6 = .ok (.if_icmp .gt 12, 3) := decAll_at aX9_who_0 4 rfl
theorem dX9_who_9 : decode cX9_who 9 = .ok (.aload_n 0, 1) := decAll_at aX9_who_0 5 rfl
theorem dX9_who_10 : decode cX9_who 10 = .ok (.iload_n 1, 1) := decAll_at aX9_who_0 6 rfl
theorem dX9_who_11 : decode cX9_who 11 = .ok (.iload_n 2, 1) := decAll_at aX9_who_0 7 rfl
theorem dX9_who_12 : decode cX9_who 12 = .ok (.invokevirtual 171, 3) := decAll_at aX9_who_0 8 rfl
theorem dX9_who_15 : decode cX9_who 15 = .ok (.ifCond .ne 6, 3) := decAll_at aX9_who_0 9 rfl
theorem dX9_who_18 : decode cX9_who 18 = .ok (.bipush (-2), 2) := decAll_at aX9_who_0 10 rfl
theorem dX9_who_20 : decode cX9_who 20 = .ok (.ireturn, 1) := decAll_at aX9_who_0 11 rfl
theorem dX9_who_21 : decode cX9_who 21 = .ok (.aload_n 0, 1) := decAll_at aX9_who_0 12 rfl
theorem dX9_who_22 : decode cX9_who 22 = .ok (.getfield 53, 3) := decAll_at aX9_who_0 13 rfl
theorem dX9_who_25 : decode cX9_who 25 = .ok (.iload_n 1, 1) := decAll_at aX9_who_0 14 rfl
theorem dX9_who_26 : decode cX9_who 26 = .ok (.iload_n 2, 1) := decAll_at aX9_who_0 15 rfl
theorem dX9_who_27 : decode cX9_who 27 = .ok (.invokevirtual 188, 3) := decAll_at aX9_who_0 16 rfl
theorem dX9_who_30 : decode cX9_who 30 = .ok (.aload_n 0, 1) := decAll_at aX9_who_0 17 rfl
theorem dX9_who_31 : decode cX9_who 31 = .ok (.getfield 53, 3) := decAll_at aX9_who_0 18 rfl
theorem dX9_who_34 : decode cX9_who 34 = .ok (.invokevirtual 192, 3) := decAll_at aX9_who_0 19 rfl
theorem dX9_who_37 : decode cX9_who 37 = .ok (.istore 4, 2) := decAll_at aX9_who_0 20 rfl
theorem dX9_who_39 : decode cX9_who 39 = .ok (.iconst (-1), 1) := decAll_at aX9_who_0 21 rfl
theorem dX9_who_40 : decode cX9_who 40 = .ok (.istore 5, 2) := decAll_at aX9_who_0 22 rfl
theorem dX9_who_42 : decode cX9_who 42 = .ok (.iconst 0, 1) := decAll_at aX9_who_0 23 rfl
theorem dX9_who_43 : decode cX9_who 43 = .ok (.istore 6, 2) := decAll_at aX9_who_0 24 rfl
theorem dX9_who_45 : decode cX9_who 45 = .ok (.iload 6, 2) := decAll_at aX9_who_0 25 rfl
theorem dX9_who_47 : decode cX9_who 47 = .ok (.aload_n 0, 1) := decAll_at aX9_who_0 26 rfl
theorem dX9_who_48 : decode cX9_who 48 = .ok (.getfield 19, 3) := decAll_at aX9_who_0 27 rfl
theorem dX9_who_51 : decode cX9_who 51 = .ok (.getfield 80, 3) := decAll_at aX9_who_0 28 rfl
theorem dX9_who_54 : decode cX9_who 54 = .ok (.if_icmp .ge 49, 3) := decAll_at aX9_who_0 29 rfl
theorem dX9_who_57 : decode cX9_who 57 = .ok (.iload 5, 2) := decAll_at aX9_who_0 30 rfl
theorem dX9_who_59 : decode cX9_who 59 = .ok (.iconst (-1), 1) := decAll_at aX9_who_0 31 rfl
theorem dX9_who_60 : decode cX9_who 60 = .ok (.if_icmp .ne 43, 3) := decAll_at aX9_who_0 32 rfl
theorem dX9_who_63 : decode cX9_who 63 = .ok (.iload 4, 2) := decAll_at aX9_who_0 33 rfl
theorem dX9_who_65 : decode cX9_who 65 = .ok (.bipush 60, 2) := decAll_at aX9_who_0 34 rfl
theorem dX9_who_67 : decode cX9_who 67 = .ok (.if_icmp .ge 36, 3) := decAll_at aX9_who_0 35 rfl
theorem dX9_who_70 : decode cX9_who 70 = .ok (.aload_n 0, 1) := decAll_at aX9_who_0 36 rfl
theorem dX9_who_71 : decode cX9_who 71 = .ok (.getfield 53, 3) := decAll_at aX9_who_0 37 rfl
theorem dX9_who_74 : decode cX9_who 74 = .ok (.iload 6, 2) := decAll_at aX9_who_0 38 rfl
theorem dX9_who_76 : decode cX9_who 76 = .ok (.putfield 207, 3) := decAll_at aX9_who_0 39 rfl
theorem dX9_who_79 : decode cX9_who 79 = .ok (.aload_n 0, 1) := decAll_at aX9_who_0 40 rfl
theorem dX9_who_80 : decode cX9_who 80 = .ok (.getfield 53, 3) := decAll_at aX9_who_0 41 rfl
theorem dX9_who_83 : decode cX9_who 83 = .ok (.iload 4, 2) := decAll_at aX9_who_0 42 rfl
theorem dX9_who_85 : decode cX9_who 85 = .ok (.iconst 1, 1) := decAll_at aX9_who_0 43 rfl
theorem dX9_who_86 : decode cX9_who 86 = .ok (.iadd, 1) := decAll_at aX9_who_0 44 rfl
theorem dX9_who_87 : decode cX9_who 87 = .ok (.invokevirtual 210, 3) := decAll_at aX9_who_0 45 rfl
theorem dX9_who_90 : decode cX9_who 90 = .ok (.ifCond .eq 7, 3) := decAll_at aX9_who_0 46 rfl
theorem dX9_who_93 : decode cX9_who 93 = .ok (.iload 6, 2) := decAll_at aX9_who_0 47 rfl
theorem dX9_who_95 : decode cX9_who 95 = .ok (.istore 5, 2) := decAll_at aX9_who_0 48 rfl
theorem dX9_who_97 : decode cX9_who 97 = .ok (.iinc 6 1, 3) := decAll_at aX9_who_0 49 rfl
theorem dX9_who_100 : decode cX9_who 100 = .ok (.goto (-55), 3) := decAll_at aX9_who_0 50 rfl
theorem dX9_who_103 : decode cX9_who 103 = .ok (.iload_n 3, 1) := decAll_at aX9_who_0 51 rfl
theorem dX9_who_104 : decode cX9_who 104 = .ok (.ifCond .ne 6, 3) := decAll_at aX9_who_0 52 rfl
theorem dX9_who_107 : decode cX9_who 107 = .ok (.iload 5, 2) := decAll_at aX9_who_0 53 rfl
theorem dX9_who_109 : decode cX9_who 109 = .ok (.ireturn, 1) := decAll_at aX9_who_0 54 rfl
theorem dX9_who_110 : decode cX9_who 110 = .ok (.iload 5, 2) := decAll_at aX9_who_0 55 rfl
theorem dX9_who_112 : decode cX9_who 112 = .ok (.iconst (-1), 1) := decAll_at aX9_who_0 56 rfl
theorem dX9_who_113 : decode cX9_who 113 = .ok (.if_icmp .ne 7, 3) := decAll_at aX9_who_0 57 rfl
theorem dX9_who_116 : decode cX9_who 116 = .ok (.iconst 0, 1) := decAll_at aX9_who_0 58 rfl
theorem dX9_who_117 : decode cX9_who 117 = .ok (.goto 4, 3) := decAll_at aX9_who_0 59 rfl
theorem dX9_who_120 : decode cX9_who 120 = .ok (.iconst 1, 1) := decAll_at aX9_who_0 60 rfl
theorem dX9_who_121 : decode cX9_who 121 = .ok (.ireturn, 1) := decAll_at aX9_who_0 61 rfl
def laX9_pounds_0 : List (Nat × Instr × Nat) := [(0, .aload_n 0, 1), (1, .getfield 19, 3), (4, .iload_n 1, 1), (5, .invokevirtual 185, 3), (8, .ifCond .eq 12, 3), (11, .aload_n 0, 1), (12, .iload_n 2, 1), (13, .iload_n 3, 1), (14, .invokevirtual 171, 3), (17, .ifCond .ne 5, 3), (20, .iconst (-1), 1), (21, .ireturn, 1), (22, .aload_n 0, 1), (23, .getfield 53, 3), (26, .iload_n 2, 1), (27, .iload_n 3, 1), (28, .invokevirtual 188, 3), (31, .aload_n 0, 1), (32, .getfield 53, 3), (35, .invokevirtual 192, 3), (38, .iconst 1, 1), (39, .iadd, 1), (40, .istore 4, 2), (42, .aload_n 0, 1), (43, .getfield 53, 3), (46, .getfield 213, 3), (49, .iload_n 1, 1), (50, .iaload, 1), (51, .istore 5, 2), (53, .aload_n 0, 1), (54, .getfield 53, 3), (57, .getfield 213, 3), (60, .iload_n 1, 1), (61, .iconst 0, 1), (62, .iastore, 1), (63, .iload 4, 2), (65, .bipush 60, 2), (67, .if_icmp .gt 15, 3), (70, .aload_n 0, 1), (71, .getfield 53, 3), (74, .iload 4, 2), (76, .invokevirtual 210, 3), (79, .ifCond .ne 6, 3), (82, .bipush (-2), 2), (84, .ireturn, 1), (85, .iconst 1, 1), (86, .istore 6, 2), (88, .iload 5, 2), (90, .istore 7, 2), (92, .iconst 0, 1), (93, .istore 8, 2), (95, .iload 8, 2), (97, .bipush 64, 2), (99, .if_icmp .ge 64, 3), (102, .iload 6, 2), (104, .iload 7, 2), (106, .if_icmp .ge 57, 3), (109, .iload 6, 2), (111, .iload 7, 2), (113, .iadd, 1), (114, .iconst 2, 1), (115, .idiv, 1), (116, .istore 9, 2), (118, .aload_n 0, 1)]
theorem aX9_pounds_0 : decAll cX9_pounds laX9_pounds_0 = true := by decide +kernel
theorem dX9_pounds_0 : decode cX9_pounds 0 = .ok (.aload_n 0, 1) := decAll_at aX9_pounds_0 0 rfl
theorem dX9_pounds_1 : decode cX9_pounds 1 = .ok (.getfield 19, 3) := decAll_at aX9_pounds_0 1 rfl
theorem dX9_pounds_4 : decode cX9_pounds 4 = .ok (.iload_n 1, 1) := decAll_at aX9_pounds_0 2 rfl
theorem dX9_pounds_5 : decode cX9_pounds 5 = .ok (.invokevirtual 185, 3) := decAll_at aX9_pounds_0 3 rfl
theorem dX9_pounds_8 : decode cX9_pounds 8 = .ok (.ifCond .eq 12, 3) := decAll_at aX9_pounds_0 4 rfl
theorem dX9_pounds_11 : decode cX9_pounds 11 = .ok (.aload_n 0, 1) := decAll_at aX9_pounds_0 5 rfl
theorem dX9_pounds_12 : decode cX9_pounds 12 = .ok (.iload_n 2, 1) := decAll_at aX9_pounds_0 6 rfl
theorem dX9_pounds_13 : decode cX9_pounds 13 = .ok (.iload_n 3, 1) := decAll_at aX9_pounds_0 7 rfl
theorem dX9_pounds_14 : decode cX9_pounds 14 = .ok (.invokevirtual 171, 3) := decAll_at aX9_pounds_0 8 rfl
theorem dX9_pounds_17 : decode cX9_pounds 17 = .ok (.ifCond .ne 5, 3) := decAll_at aX9_pounds_0 9 rfl
theorem dX9_pounds_20 : decode cX9_pounds 20 = .ok (.iconst (-1), 1) := decAll_at aX9_pounds_0 10 rfl
theorem dX9_pounds_21 : decode cX9_pounds 21 = .ok (.ireturn, 1) := decAll_at aX9_pounds_0 11 rfl
theorem dX9_pounds_22 : decode cX9_pounds 22 = .ok (.aload_n 0, 1) := decAll_at aX9_pounds_0 12 rfl
theorem dX9_pounds_23 : decode cX9_pounds 23 = .ok (.getfield 53, 3) := decAll_at aX9_pounds_0 13 rfl
theorem dX9_pounds_26 : decode cX9_pounds 26 = .ok (.iload_n 2, 1) := decAll_at aX9_pounds_0 14 rfl
theorem dX9_pounds_27 : decode cX9_pounds 27 = .ok (.iload_n 3, 1) := decAll_at aX9_pounds_0 15 rfl
theorem dX9_pounds_28 : decode cX9_pounds 28 = .ok (.invokevirtual 188, 3) := decAll_at aX9_pounds_0 16 rfl
theorem dX9_pounds_31 : decode cX9_pounds 31 = .ok (.aload_n 0, 1) := decAll_at aX9_pounds_0 17 rfl
theorem dX9_pounds_32 : decode cX9_pounds 32 = .ok (.getfield 53, 3) := decAll_at aX9_pounds_0 18 rfl
theorem dX9_pounds_35 : decode cX9_pounds 35 = .ok (.invokevirtual 192, 3) := decAll_at aX9_pounds_0 19 rfl
theorem dX9_pounds_38 : decode cX9_pounds 38 = .ok (.iconst 1, 1) := decAll_at aX9_pounds_0 20 rfl
theorem dX9_pounds_39 : decode cX9_pounds 39 = .ok (.iadd, 1) := decAll_at aX9_pounds_0 21 rfl
theorem dX9_pounds_40 : decode cX9_pounds 40 = .ok (.istore 4, 2) := decAll_at aX9_pounds_0 22 rfl
theorem dX9_pounds_42 : decode cX9_pounds 42 = .ok (.aload_n 0, 1) := decAll_at aX9_pounds_0 23 rfl
theorem dX9_pounds_43 : decode cX9_pounds 43 = .ok (.getfield 53, 3) := decAll_at aX9_pounds_0 24 rfl
theorem dX9_pounds_46 : decode cX9_pounds 46 = .ok (.getfield 213, 3) := decAll_at aX9_pounds_0 25 rfl
theorem dX9_pounds_49 : decode cX9_pounds 49 = .ok (.iload_n 1, 1) := decAll_at aX9_pounds_0 26 rfl
theorem dX9_pounds_50 : decode cX9_pounds 50 = .ok (.iaload, 1) := decAll_at aX9_pounds_0 27 rfl
theorem dX9_pounds_51 : decode cX9_pounds 51 = .ok (.istore 5, 2) := decAll_at aX9_pounds_0 28 rfl
theorem dX9_pounds_53 : decode cX9_pounds 53 = .ok (.aload_n 0, 1) := decAll_at aX9_pounds_0 29 rfl
theorem dX9_pounds_54 : decode cX9_pounds 54 = .ok (.getfield 53, 3) := decAll_at aX9_pounds_0 30 rfl
theorem dX9_pounds_57 : decode cX9_pounds 57 = .ok (.getfield 213, 3) := decAll_at aX9_pounds_0 31 rfl
theorem dX9_pounds_60 : decode cX9_pounds 60 = .ok (.iload_n 1, 1) := decAll_at aX9_pounds_0 32 rfl
theorem dX9_pounds_61 : decode cX9_pounds 61 = .ok (.iconst 0, 1) := decAll_at aX9_pounds_0 33 rfl
theorem dX9_pounds_62 : decode cX9_pounds 62 = .ok (.iastore, 1) := decAll_at aX9_pounds_0 34 rfl
theorem dX9_pounds_63 : decode cX9_pounds 63 = .ok (.iload 4, 2) := decAll_at aX9_pounds_0 35 rfl
theorem dX9_pounds_65 : decode cX9_pounds 65 = .ok (.bipush 60, 2) := decAll_at aX9_pounds_0 36 rfl
theorem dX9_pounds_67 : decode cX9_pounds 67 = .ok (.if_icmp .gt 15, 3) := decAll_at aX9_pounds_0 37 rfl
theorem dX9_pounds_70 : decode cX9_pounds 70 = .ok (.aload_n 0, 1) := decAll_at aX9_pounds_0 38 rfl
theorem dX9_pounds_71 : decode cX9_pounds 71 = .ok (.getfield 53, 3) := decAll_at aX9_pounds_0 39 rfl
theorem dX9_pounds_74 : decode cX9_pounds 74 = .ok (.iload 4, 2) := decAll_at aX9_pounds_0 40 rfl
theorem dX9_pounds_76 : decode cX9_pounds 76 = .ok (.invokevirtual 210, 3) := decAll_at aX9_pounds_0 41 rfl
theorem dX9_pounds_79 : decode cX9_pounds 79 = .ok (.ifCond .ne 6, 3) := decAll_at aX9_pounds_0 42 rfl
theorem dX9_pounds_82 : decode cX9_pounds 82 = .ok (.bipush (-2), 2) := decAll_at aX9_pounds_0 43 rfl
theorem dX9_pounds_84 : decode cX9_pounds 84 = .ok (.ireturn, 1) := decAll_at aX9_pounds_0 44 rfl
theorem dX9_pounds_85 : decode cX9_pounds 85 = .ok (.iconst 1, 1) := decAll_at aX9_pounds_0 45 rfl
theorem dX9_pounds_86 : decode cX9_pounds 86 = .ok (.istore 6, 2) := decAll_at aX9_pounds_0 46 rfl
theorem dX9_pounds_88 : decode cX9_pounds 88 = .ok (.iload 5, 2) := decAll_at aX9_pounds_0 47 rfl
theorem dX9_pounds_90 : decode cX9_pounds 90 = .ok (.istore 7, 2) := decAll_at aX9_pounds_0 48 rfl
theorem dX9_pounds_92 : decode cX9_pounds 92 = .ok (.iconst 0, 1) := decAll_at aX9_pounds_0 49 rfl
theorem dX9_pounds_93 : decode cX9_pounds 93 = .ok (.istore 8, 2) := decAll_at aX9_pounds_0 50 rfl
theorem dX9_pounds_95 : decode cX9_pounds 95 = .ok (.iload 8, 2) := decAll_at aX9_pounds_0 51 rfl
theorem dX9_pounds_97 : decode cX9_pounds 97 = .ok (.bipush 64, 2) := decAll_at aX9_pounds_0 52 rfl
theorem dX9_pounds_99 : decode cX9_pounds 99 = .ok (.if_icmp .ge 64, 3) := decAll_at aX9_pounds_0 53 rfl
theorem dX9_pounds_102 : decode cX9_pounds 102 = .ok (.iload 6, 2) := decAll_at aX9_pounds_0 54 rfl
theorem dX9_pounds_104 : decode cX9_pounds 104 = .ok (.iload 7, 2) := decAll_at aX9_pounds_0 55 rfl
theorem dX9_pounds_106 : decode cX9_pounds 106 = .ok (.if_icmp .ge 57, 3) := decAll_at aX9_pounds_0 56 rfl
theorem dX9_pounds_109 : decode cX9_pounds 109 = .ok (.iload 6, 2) := decAll_at aX9_pounds_0 57 rfl
theorem dX9_pounds_111 : decode cX9_pounds 111 = .ok (.iload 7, 2) := decAll_at aX9_pounds_0 58 rfl
theorem dX9_pounds_113 : decode cX9_pounds 113 = .ok (.iadd, 1) := decAll_at aX9_pounds_0 59 rfl
theorem dX9_pounds_114 : decode cX9_pounds 114 = .ok (.iconst 2, 1) := decAll_at aX9_pounds_0 60 rfl
theorem dX9_pounds_115 : decode cX9_pounds 115 = .ok (.idiv, 1) := decAll_at aX9_pounds_0 61 rfl
theorem dX9_pounds_116 : decode cX9_pounds 116 = .ok (.istore 9, 2) := decAll_at aX9_pounds_0 62 rfl
theorem dX9_pounds_118 : decode cX9_pounds 118 = .ok (.aload_n 0, 1) := decAll_at aX9_pounds_0 63 rfl
def laX9_pounds_1 : List (Nat × Instr × Nat) := [(119, .getfield 53, 3), (122, .getfield 213, 3), (125, .iload_n 1, 1), (126, .iload 5, 2), (128, .iload 9, 2), (130, .isub, 1), (131, .iastore, 1), (132, .aload_n 0, 1), (133, .getfield 53, 3), (136, .iload 4, 2), (138, .invokevirtual 210, 3), (141, .ifCond .eq 10, 3), (144, .iload 9, 2), (146, .istore 7, 2), (148, .goto 9, 3), (151, .iload 9, 2), (153, .iconst 1, 1), (154, .iadd, 1), (155, .istore 6, 2), (157, .iinc 8 1, 3), (160, .goto (-65), 3), (163, .iload 6, 2), (165, .ireturn, 1)]
theorem aX9_pounds_1 : decAll cX9_pounds laX9_pounds_1 = true := by decide +kernel
theorem dX9_pounds_119 : decode cX9_pounds 119 = .ok (.getfield 53, 3) := decAll_at aX9_pounds_1 0 rfl
theorem dX9_pounds_122 : decode cX9_pounds 122 = .ok (.getfield 213, 3) := decAll_at aX9_pounds_1 1 rfl
theorem dX9_pounds_125 : decode cX9_pounds 125 = .ok (.iload_n 1, 1) := decAll_at aX9_pounds_1 2 rfl
theorem dX9_pounds_126 : decode cX9_pounds 126 = .ok (.iload 5, 2) := decAll_at aX9_pounds_1 3 rfl
theorem dX9_pounds_128 : decode cX9_pounds 128 = .ok (.iload 9, 2) := decAll_at aX9_pounds_1 4 rfl
theorem dX9_pounds_130 : decode cX9_pounds 130 = .ok (.isub, 1) := decAll_at aX9_pounds_1 5 rfl
theorem dX9_pounds_131 : decode cX9_pounds 131 = .ok (.iastore, 1) := decAll_at aX9_pounds_1 6 rfl
theorem dX9_pounds_132 : decode cX9_pounds 132 = .ok (.aload_n 0, 1) := decAll_at aX9_pounds_1 7 rfl
theorem dX9_pounds_133 : decode cX9_pounds 133 = .ok (.getfield 53, 3) := decAll_at aX9_pounds_1 8 rfl
theorem dX9_pounds_136 : decode cX9_pounds 136 = .ok (.iload 4, 2) := decAll_at aX9_pounds_1 9 rfl
theorem dX9_pounds_138 : decode cX9_pounds 138 = .ok (.invokevirtual 210, 3) := decAll_at aX9_pounds_1 10 rfl
theorem dX9_pounds_141 : decode cX9_pounds 141 = .ok (.ifCond .eq 10, 3) := decAll_at aX9_pounds_1 11 rfl
theorem dX9_pounds_144 : decode cX9_pounds 144 = .ok (.iload 9, 2) := decAll_at aX9_pounds_1 12 rfl
theorem dX9_pounds_146 : decode cX9_pounds 146 = .ok (.istore 7, 2) := decAll_at aX9_pounds_1 13 rfl
theorem dX9_pounds_148 : decode cX9_pounds 148 = .ok (.goto 9, 3) := decAll_at aX9_pounds_1 14 rfl
theorem dX9_pounds_151 : decode cX9_pounds 151 = .ok (.iload 9, 2) := decAll_at aX9_pounds_1 15 rfl
theorem dX9_pounds_153 : decode cX9_pounds 153 = .ok (.iconst 1, 1) := decAll_at aX9_pounds_1 16 rfl
theorem dX9_pounds_154 : decode cX9_pounds 154 = .ok (.iadd, 1) := decAll_at aX9_pounds_1 17 rfl
theorem dX9_pounds_155 : decode cX9_pounds 155 = .ok (.istore 6, 2) := decAll_at aX9_pounds_1 18 rfl
theorem dX9_pounds_157 : decode cX9_pounds 157 = .ok (.iinc 8 1, 3) := decAll_at aX9_pounds_1 19 rfl
theorem dX9_pounds_160 : decode cX9_pounds 160 = .ok (.goto (-65), 3) := decAll_at aX9_pounds_1 20 rfl
theorem dX9_pounds_163 : decode cX9_pounds 163 = .ok (.iload 6, 2) := decAll_at aX9_pounds_1 21 rfl
theorem dX9_pounds_165 : decode cX9_pounds 165 = .ok (.ireturn, 1) := decAll_at aX9_pounds_1 22 rfl
def laX9_ahead_0 : List (Nat × Instr × Nat) := [(0, .iload_n 3, 1), (1, .ifCond .lt 25, 3), (4, .iload_n 3, 1), (5, .sipush 600, 3), (8, .if_icmp .gt 18, 3), (11, .iload 4, 2), (13, .ifCond .lt 13, 3), (16, .iload 4, 2), (18, .iconst 2, 1), (19, .if_icmp .gt 7, 3), (22, .iconst 1, 1), (23, .goto 4, 3), (26, .iconst 0, 1), (27, .istore 5, 2), (29, .iload 5, 2), (31, .ifCond .eq 23, 3), (34, .aload_n 0, 1), (35, .getfield 19, 3), (38, .getfield 80, 3), (41, .iconst 3, 1), (42, .if_icmp .lt 12, 3), (45, .aload_n 0, 1), (46, .iload_n 1, 1), (47, .iload_n 2, 1), (48, .invokevirtual 171, 3), (51, .ifCond .ne 5, 3), (54, .iconst (-1), 1), (55, .ireturn, 1), (56, .ldc 206, 2), (58, .istore 6, 2), (60, .iconst (-1), 1), (61, .istore 7, 2), (63, .iconst (-1), 1), (64, .istore 8, 2), (66, .iconst 0, 1), (67, .istore 9, 2), (69, .iload 9, 2), (71, .aload_n 0, 1), (72, .getfield 19, 3), (75, .getfield 80, 3), (78, .if_icmp .ge 67, 3), (81, .iload 9, 2), (83, .iconst 1, 1), (84, .iadd, 1), (85, .istore 10, 2), (87, .iload 10, 2), (89, .aload_n 0, 1), (90, .getfield 19, 3), (93, .getfield 80, 3), (96, .if_icmp .ge 43, 3), (99, .aload_n 0, 1), (100, .iload_n 1, 1), (101, .iload_n 2, 1), (102, .iload_n 3, 1), (103, .iload 9, 2), (105, .iload 10, 2), (107, .iload 6, 2), (109, .invokevirtual 214, 3), (112, .istore 11, 2), (114, .iload 11, 2), (116, .iload 6, 2), (118, .if_icmp .ge 15, 3), (121, .iload 11, 2), (123, .istore 6, 2)]
theorem aX9_ahead_0 : decAll cX9_ahead laX9_ahead_0 = true := by decide +kernel
theorem dX9_ahead_0 : decode cX9_ahead 0 = .ok (.iload_n 3, 1) := decAll_at aX9_ahead_0 0 rfl
theorem dX9_ahead_1 : decode cX9_ahead 1 = .ok (.ifCond .lt 25, 3) := decAll_at aX9_ahead_0 1 rfl
theorem dX9_ahead_4 : decode cX9_ahead 4 = .ok (.iload_n 3, 1) := decAll_at aX9_ahead_0 2 rfl
theorem dX9_ahead_5 : decode cX9_ahead 5 = .ok (.sipush 600, 3) := decAll_at aX9_ahead_0 3 rfl
theorem dX9_ahead_8 : decode cX9_ahead 8 = .ok (.if_icmp .gt 18, 3) := decAll_at aX9_ahead_0 4 rfl
theorem dX9_ahead_11 : decode cX9_ahead 11 = .ok (.iload 4, 2) := decAll_at aX9_ahead_0 5 rfl
theorem dX9_ahead_13 : decode cX9_ahead 13 = .ok (.ifCond .lt 13, 3) := decAll_at aX9_ahead_0 6 rfl
theorem dX9_ahead_16 : decode cX9_ahead 16 = .ok (.iload 4, 2) := decAll_at aX9_ahead_0 7 rfl
theorem dX9_ahead_18 : decode cX9_ahead 18 = .ok (.iconst 2, 1) := decAll_at aX9_ahead_0 8 rfl
theorem dX9_ahead_19 : decode cX9_ahead 19 = .ok (.if_icmp .gt 7, 3) := decAll_at aX9_ahead_0 9 rfl
theorem dX9_ahead_22 : decode cX9_ahead 22 = .ok (.iconst 1, 1) := decAll_at aX9_ahead_0 10 rfl
theorem dX9_ahead_23 : decode cX9_ahead 23 = .ok (.goto 4, 3) := decAll_at aX9_ahead_0 11 rfl
theorem dX9_ahead_26 : decode cX9_ahead 26 = .ok (.iconst 0, 1) := decAll_at aX9_ahead_0 12 rfl
theorem dX9_ahead_27 : decode cX9_ahead 27 = .ok (.istore 5, 2) := decAll_at aX9_ahead_0 13 rfl
theorem dX9_ahead_29 : decode cX9_ahead 29 = .ok (.iload 5, 2) := decAll_at aX9_ahead_0 14 rfl
theorem dX9_ahead_31 : decode cX9_ahead 31 = .ok (.ifCond .eq 23, 3) := decAll_at aX9_ahead_0 15 rfl
theorem dX9_ahead_34 : decode cX9_ahead 34 = .ok (.aload_n 0, 1) := decAll_at aX9_ahead_0 16 rfl
theorem dX9_ahead_35 : decode cX9_ahead 35 = .ok (.getfield 19, 3) := decAll_at aX9_ahead_0 17 rfl
theorem dX9_ahead_38 : decode cX9_ahead 38 = .ok (.getfield 80, 3) := decAll_at aX9_ahead_0 18 rfl
theorem dX9_ahead_41 : decode cX9_ahead 41 = .ok (.iconst 3, 1) := decAll_at aX9_ahead_0 19 rfl
theorem dX9_ahead_42 : decode cX9_ahead 42 = .ok (.if_icmp .lt 12, 3) := decAll_at aX9_ahead_0 20 rfl
theorem dX9_ahead_45 : decode cX9_ahead 45 = .ok (.aload_n 0, 1) := decAll_at aX9_ahead_0 21 rfl
theorem dX9_ahead_46 : decode cX9_ahead 46 = .ok (.iload_n 1, 1) := decAll_at aX9_ahead_0 22 rfl
theorem dX9_ahead_47 : decode cX9_ahead 47 = .ok (.iload_n 2, 1) := decAll_at aX9_ahead_0 23 rfl
theorem dX9_ahead_48 : decode cX9_ahead 48 = .ok (.invokevirtual 171, 3) := decAll_at aX9_ahead_0 24 rfl
theorem dX9_ahead_51 : decode cX9_ahead 51 = .ok (.ifCond .ne 5, 3) := decAll_at aX9_ahead_0 25 rfl
theorem dX9_ahead_54 : decode cX9_ahead 54 = .ok (.iconst (-1), 1) := decAll_at aX9_ahead_0 26 rfl
theorem dX9_ahead_55 : decode cX9_ahead 55 = .ok (.ireturn, 1) := decAll_at aX9_ahead_0 27 rfl
theorem dX9_ahead_56 : decode cX9_ahead 56 = .ok (.ldc 206, 2) := decAll_at aX9_ahead_0 28 rfl
theorem dX9_ahead_58 : decode cX9_ahead 58 = .ok (.istore 6, 2) := decAll_at aX9_ahead_0 29 rfl
theorem dX9_ahead_60 : decode cX9_ahead 60 = .ok (.iconst (-1), 1) := decAll_at aX9_ahead_0 30 rfl
theorem dX9_ahead_61 : decode cX9_ahead 61 = .ok (.istore 7, 2) := decAll_at aX9_ahead_0 31 rfl
theorem dX9_ahead_63 : decode cX9_ahead 63 = .ok (.iconst (-1), 1) := decAll_at aX9_ahead_0 32 rfl
theorem dX9_ahead_64 : decode cX9_ahead 64 = .ok (.istore 8, 2) := decAll_at aX9_ahead_0 33 rfl
theorem dX9_ahead_66 : decode cX9_ahead 66 = .ok (.iconst 0, 1) := decAll_at aX9_ahead_0 34 rfl
theorem dX9_ahead_67 : decode cX9_ahead 67 = .ok (.istore 9, 2) := decAll_at aX9_ahead_0 35 rfl
theorem dX9_ahead_69 : decode cX9_ahead 69 = .ok (.iload 9, 2) := decAll_at aX9_ahead_0 36 rfl
theorem dX9_ahead_71 : decode cX9_ahead 71 = .ok (.aload_n 0, 1) := decAll_at aX9_ahead_0 37 rfl
theorem dX9_ahead_72 : decode cX9_ahead 72 = .ok (.getfield 19, 3) := decAll_at aX9_ahead_0 38 rfl
theorem dX9_ahead_75 : decode cX9_ahead 75 = .ok (.getfield 80, 3) := decAll_at aX9_ahead_0 39 rfl
theorem dX9_ahead_78 : decode cX9_ahead 78 = .ok (.if_icmp .ge 67, 3) := decAll_at aX9_ahead_0 40 rfl
theorem dX9_ahead_81 : decode cX9_ahead 81 = .ok (.iload 9, 2) := decAll_at aX9_ahead_0 41 rfl
theorem dX9_ahead_83 : decode cX9_ahead 83 = .ok (.iconst 1, 1) := decAll_at aX9_ahead_0 42 rfl
theorem dX9_ahead_84 : decode cX9_ahead 84 = .ok (.iadd, 1) := decAll_at aX9_ahead_0 43 rfl
theorem dX9_ahead_85 : decode cX9_ahead 85 = .ok (.istore 10, 2) := decAll_at aX9_ahead_0 44 rfl
theorem dX9_ahead_87 : decode cX9_ahead 87 = .ok (.iload 10, 2) := decAll_at aX9_ahead_0 45 rfl
theorem dX9_ahead_89 : decode cX9_ahead 89 = .ok (.aload_n 0, 1) := decAll_at aX9_ahead_0 46 rfl
theorem dX9_ahead_90 : decode cX9_ahead 90 = .ok (.getfield 19, 3) := decAll_at aX9_ahead_0 47 rfl
theorem dX9_ahead_93 : decode cX9_ahead 93 = .ok (.getfield 80, 3) := decAll_at aX9_ahead_0 48 rfl
theorem dX9_ahead_96 : decode cX9_ahead 96 = .ok (.if_icmp .ge 43, 3) := decAll_at aX9_ahead_0 49 rfl
theorem dX9_ahead_99 : decode cX9_ahead 99 = .ok (.aload_n 0, 1) := decAll_at aX9_ahead_0 50 rfl
theorem dX9_ahead_100 : decode cX9_ahead 100 = .ok (.iload_n 1, 1) := decAll_at aX9_ahead_0 51 rfl
theorem dX9_ahead_101 : decode cX9_ahead 101 = .ok (.iload_n 2, 1) := decAll_at aX9_ahead_0 52 rfl
theorem dX9_ahead_102 : decode cX9_ahead 102 = .ok (.iload_n 3, 1) := decAll_at aX9_ahead_0 53 rfl
theorem dX9_ahead_103 : decode cX9_ahead 103 = .ok (.iload 9, 2) := decAll_at aX9_ahead_0 54 rfl
theorem dX9_ahead_105 : decode cX9_ahead 105 = .ok (.iload 10, 2) := decAll_at aX9_ahead_0 55 rfl
theorem dX9_ahead_107 : decode cX9_ahead 107 = .ok (.iload 6, 2) := decAll_at aX9_ahead_0 56 rfl
theorem dX9_ahead_109 : decode cX9_ahead 109 = .ok (.invokevirtual 214, 3) := decAll_at aX9_ahead_0 57 rfl
theorem dX9_ahead_112 : decode cX9_ahead 112 = .ok (.istore 11, 2) := decAll_at aX9_ahead_0 58 rfl
theorem dX9_ahead_114 : decode cX9_ahead 114 = .ok (.iload 11, 2) := decAll_at aX9_ahead_0 59 rfl
theorem dX9_ahead_116 : decode cX9_ahead 116 = .ok (.iload 6, 2) := decAll_at aX9_ahead_0 60 rfl
theorem dX9_ahead_118 : decode cX9_ahead 118 = .ok (.if_icmp .ge 15, 3) := decAll_at aX9_ahead_0 61 rfl
theorem dX9_ahead_121 : decode cX9_ahead 121 = .ok (.iload 11, 2) := decAll_at aX9_ahead_0 62 rfl
theorem dX9_ahead_123 : decode cX9_ahead 123 = .ok (.istore 6, 2) := decAll_at aX9_ahead_0 63 rfl
def laX9_ahead_1 : List (Nat × Instr × Nat) := [(125, .iload 9, 2), (127, .istore 7, 2), (129, .iload 10, 2), (131, .istore 8, 2), (133, .iinc 10 1, 3), (136, .goto (-49), 3), (139, .iinc 9 1, 3), (142, .goto (-73), 3), (145, .iload 6, 2), (147, .ldc 206, 2), (149, .if_icmp .ne 6, 3), (152, .bipush (-2), 2), (154, .ireturn, 1), (155, .iload 4, 2), (157, .ifCond .ne 6, 3), (160, .iload 6, 2), (162, .ireturn, 1), (163, .iload 4, 2), (165, .iconst 1, 1), (166, .if_icmp .ne 8, 3), (169, .iload 7, 2), (171, .goto 5, 3), (174, .iload 8, 2), (176, .ireturn, 1)]
theorem aX9_ahead_1 : decAll cX9_ahead laX9_ahead_1 = true := by decide +kernel
theorem dX9_ahead_125 : decode cX9_ahead 125 = .ok (.iload 9, 2) := decAll_at aX9_ahead_1 0 rfl
theorem dX9_ahead_127 : decode cX9_ahead 127 = .ok (.istore 7, 2) := decAll_at aX9_ahead_1 1 rfl
theorem dX9_ahead_129 : decode cX9_ahead 129 = .ok (.iload 10, 2) := decAll_at aX9_ahead_1 2 rfl
theorem dX9_ahead_131 : decode cX9_ahead 131 = .ok (.istore 8, 2) := decAll_at aX9_ahead_1 3 rfl
theorem dX9_ahead_133 : decode cX9_ahead 133 = .ok (.iinc 10 1, 3) := decAll_at aX9_ahead_1 4 rfl
theorem dX9_ahead_136 : decode cX9_ahead 136 = .ok (.goto (-49), 3) := decAll_at aX9_ahead_1 5 rfl
theorem dX9_ahead_139 : decode cX9_ahead 139 = .ok (.iinc 9 1, 3) := decAll_at aX9_ahead_1 6 rfl
theorem dX9_ahead_142 : decode cX9_ahead 142 = .ok (.goto (-73), 3) := decAll_at aX9_ahead_1 7 rfl
theorem dX9_ahead_145 : decode cX9_ahead 145 = .ok (.iload 6, 2) := decAll_at aX9_ahead_1 8 rfl
theorem dX9_ahead_147 : decode cX9_ahead 147 = .ok (.ldc 206, 2) := decAll_at aX9_ahead_1 9 rfl
theorem dX9_ahead_149 : decode cX9_ahead 149 = .ok (.if_icmp .ne 6, 3) := decAll_at aX9_ahead_1 10 rfl
theorem dX9_ahead_152 : decode cX9_ahead 152 = .ok (.bipush (-2), 2) := decAll_at aX9_ahead_1 11 rfl
theorem dX9_ahead_154 : decode cX9_ahead 154 = .ok (.ireturn, 1) := decAll_at aX9_ahead_1 12 rfl
theorem dX9_ahead_155 : decode cX9_ahead 155 = .ok (.iload 4, 2) := decAll_at aX9_ahead_1 13 rfl
theorem dX9_ahead_157 : decode cX9_ahead 157 = .ok (.ifCond .ne 6, 3) := decAll_at aX9_ahead_1 14 rfl
theorem dX9_ahead_160 : decode cX9_ahead 160 = .ok (.iload 6, 2) := decAll_at aX9_ahead_1 15 rfl
theorem dX9_ahead_162 : decode cX9_ahead 162 = .ok (.ireturn, 1) := decAll_at aX9_ahead_1 16 rfl
theorem dX9_ahead_163 : decode cX9_ahead 163 = .ok (.iload 4, 2) := decAll_at aX9_ahead_1 17 rfl
theorem dX9_ahead_165 : decode cX9_ahead 165 = .ok (.iconst 1, 1) := decAll_at aX9_ahead_1 18 rfl
theorem dX9_ahead_166 : decode cX9_ahead 166 = .ok (.if_icmp .ne 8, 3) := decAll_at aX9_ahead_1 19 rfl
theorem dX9_ahead_169 : decode cX9_ahead 169 = .ok (.iload 7, 2) := decAll_at aX9_ahead_1 20 rfl
theorem dX9_ahead_171 : decode cX9_ahead 171 = .ok (.goto 5, 3) := decAll_at aX9_ahead_1 21 rfl
theorem dX9_ahead_174 : decode cX9_ahead 174 = .ok (.iload 8, 2) := decAll_at aX9_ahead_1 22 rfl
theorem dX9_ahead_176 : decode cX9_ahead 176 = .ok (.ireturn, 1) := decAll_at aX9_ahead_1 23 rfl
def laX9_stages_0 : List (Nat × Instr × Nat) := [(0, .iload_n 3, 1), (1, .iconst 1, 1), (2, .if_icmp .lt 17, 3), (5, .iload_n 3, 1), (6, .iconst 5, 1), (7, .if_icmp .gt 12, 3), (10, .aload_n 0, 1), (11, .iload_n 1, 1), (12, .iload_n 2, 1), (13, .invokevirtual 171, 3), (16, .ifCond .ne 5, 3), (19, .iconst (-1), 1), (20, .ireturn, 1), (21, .aload_n 0, 1), (22, .iload_n 1, 1), (23, .iload_n 2, 1), (24, .iload_n 3, 1), (25, .invokevirtual 218, 3), (28, .istore 4, 2), (30, .iload 4, 2), (32, .ldc 206, 2), (34, .if_icmp .ne 8, 3), (37, .bipush (-2), 2), (39, .goto 5, 3), (42, .iload 4, 2), (44, .ireturn, 1)]
theorem aX9_stages_0 : decAll cX9_stages laX9_stages_0 = true := by decide +kernel
theorem dX9_stages_0 : decode cX9_stages 0 = .ok (.iload_n 3, 1) := decAll_at aX9_stages_0 0 rfl
theorem dX9_stages_1 : decode cX9_stages 1 = .ok (.iconst 1, 1) := decAll_at aX9_stages_0 1 rfl
theorem dX9_stages_2 : decode cX9_stages 2 = .ok (.if_icmp .lt 17, 3) := decAll_at aX9_stages_0 2 rfl
theorem dX9_stages_5 : decode cX9_stages 5 = .ok (.iload_n 3, 1) := decAll_at aX9_stages_0 3 rfl
theorem dX9_stages_6 : decode cX9_stages 6 = .ok (.iconst 5, 1) := decAll_at aX9_stages_0 4 rfl
theorem dX9_stages_7 : decode cX9_stages 7 = .ok (.if_icmp .gt 12, 3) := decAll_at aX9_stages_0 5 rfl
theorem dX9_stages_10 : decode cX9_stages 10 = .ok (.aload_n 0, 1) := decAll_at aX9_stages_0 6 rfl
theorem dX9_stages_11 : decode cX9_stages 11 = .ok (.iload_n 1, 1) := decAll_at aX9_stages_0 7 rfl
theorem dX9_stages_12 : decode cX9_stages 12 = .ok (.iload_n 2, 1) := decAll_at aX9_stages_0 8 rfl
theorem dX9_stages_13 : decode cX9_stages 13 = .ok (.invokevirtual 171, 3) := decAll_at aX9_stages_0 9 rfl
theorem dX9_stages_16 : decode cX9_stages 16 = .ok (.ifCond .ne 5, 3) := decAll_at aX9_stages_0 10 rfl
theorem dX9_stages_19 : decode cX9_stages 19 = .ok (.iconst (-1), 1) := decAll_at aX9_stages_0 11 rfl
theorem dX9_stages_20 : decode cX9_stages 20 = .ok (.ireturn, 1) := decAll_at aX9_stages_0 12 rfl
theorem dX9_stages_21 : decode cX9_stages 21 = .ok (.aload_n 0, 1) := decAll_at aX9_stages_0 13 rfl
theorem dX9_stages_22 : decode cX9_stages 22 = .ok (.iload_n 1, 1) := decAll_at aX9_stages_0 14 rfl
theorem dX9_stages_23 : decode cX9_stages 23 = .ok (.iload_n 2, 1) := decAll_at aX9_stages_0 15 rfl
theorem dX9_stages_24 : decode cX9_stages 24 = .ok (.iload_n 3, 1) := decAll_at aX9_stages_0 16 rfl
theorem dX9_stages_25 : decode cX9_stages 25 = .ok (.invokevirtual 218, 3) := decAll_at aX9_stages_0 17 rfl
theorem dX9_stages_28 : decode cX9_stages 28 = .ok (.istore 4, 2) := decAll_at aX9_stages_0 18 rfl
theorem dX9_stages_30 : decode cX9_stages 30 = .ok (.iload 4, 2) := decAll_at aX9_stages_0 19 rfl
theorem dX9_stages_32 : decode cX9_stages 32 = .ok (.ldc 206, 2) := decAll_at aX9_stages_0 20 rfl
theorem dX9_stages_34 : decode cX9_stages 34 = .ok (.if_icmp .ne 8, 3) := decAll_at aX9_stages_0 21 rfl
theorem dX9_stages_37 : decode cX9_stages 37 = .ok (.bipush (-2), 2) := decAll_at aX9_stages_0 22 rfl
theorem dX9_stages_39 : decode cX9_stages 39 = .ok (.goto 5, 3) := decAll_at aX9_stages_0 23 rfl
theorem dX9_stages_42 : decode cX9_stages 42 = .ok (.iload 4, 2) := decAll_at aX9_stages_0 24 rfl
theorem dX9_stages_44 : decode cX9_stages 44 = .ok (.ireturn, 1) := decAll_at aX9_stages_0 25 rfl
def laX9_goes_0 : List (Nat × Instr × Nat) := [(0, .aload_n 0, 1), (1, .iload_n 1, 1), (2, .iload_n 2, 1), (3, .invokevirtual 171, 3), (6, .ifCond .ne 5, 3), (9, .iconst (-1), 1), (10, .ireturn, 1), (11, .ldc 206, 2), (13, .istore_n 3, 1), (14, .bipush (-2), 2), (16, .istore 4, 2), (18, .iconst 1, 1), (19, .istore 5, 2), (21, .iload 5, 2), (23, .iconst 5, 1), (24, .if_icmp .gt 32, 3), (27, .aload_n 0, 1), (28, .iload_n 1, 1), (29, .iload_n 2, 1), (30, .iload 5, 2), (32, .invokevirtual 218, 3), (35, .istore 6, 2), (37, .iload 6, 2), (39, .iload_n 3, 1), (40, .if_icmp .ge 10, 3), (43, .iload 6, 2), (45, .istore_n 3, 1), (46, .iload 5, 2), (48, .istore 4, 2), (50, .iinc 5 1, 3), (53, .goto (-32), 3), (56, .iload 4, 2), (58, .ireturn, 1)]
theorem aX9_goes_0 : decAll cX9_goes laX9_goes_0 = true := by decide +kernel
theorem dX9_goes_0 : decode cX9_goes 0 = .ok (.aload_n 0, 1) := decAll_at aX9_goes_0 0 rfl
theorem dX9_goes_1 : decode cX9_goes 1 = .ok (.iload_n 1, 1) := decAll_at aX9_goes_0 1 rfl
theorem dX9_goes_2 : decode cX9_goes 2 = .ok (.iload_n 2, 1) := decAll_at aX9_goes_0 2 rfl
theorem dX9_goes_3 : decode cX9_goes 3 = .ok (.invokevirtual 171, 3) := decAll_at aX9_goes_0 3 rfl
theorem dX9_goes_6 : decode cX9_goes 6 = .ok (.ifCond .ne 5, 3) := decAll_at aX9_goes_0 4 rfl
theorem dX9_goes_9 : decode cX9_goes 9 = .ok (.iconst (-1), 1) := decAll_at aX9_goes_0 5 rfl
theorem dX9_goes_10 : decode cX9_goes 10 = .ok (.ireturn, 1) := decAll_at aX9_goes_0 6 rfl
theorem dX9_goes_11 : decode cX9_goes 11 = .ok (.ldc 206, 2) := decAll_at aX9_goes_0 7 rfl
theorem dX9_goes_13 : decode cX9_goes 13 = .ok (.istore_n 3, 1) := decAll_at aX9_goes_0 8 rfl
theorem dX9_goes_14 : decode cX9_goes 14 = .ok (.bipush (-2), 2) := decAll_at aX9_goes_0 9 rfl
theorem dX9_goes_16 : decode cX9_goes 16 = .ok (.istore 4, 2) := decAll_at aX9_goes_0 10 rfl
theorem dX9_goes_18 : decode cX9_goes 18 = .ok (.iconst 1, 1) := decAll_at aX9_goes_0 11 rfl
theorem dX9_goes_19 : decode cX9_goes 19 = .ok (.istore 5, 2) := decAll_at aX9_goes_0 12 rfl
theorem dX9_goes_21 : decode cX9_goes 21 = .ok (.iload 5, 2) := decAll_at aX9_goes_0 13 rfl
theorem dX9_goes_23 : decode cX9_goes 23 = .ok (.iconst 5, 1) := decAll_at aX9_goes_0 14 rfl
theorem dX9_goes_24 : decode cX9_goes 24 = .ok (.if_icmp .gt 32, 3) := decAll_at aX9_goes_0 15 rfl
theorem dX9_goes_27 : decode cX9_goes 27 = .ok (.aload_n 0, 1) := decAll_at aX9_goes_0 16 rfl
theorem dX9_goes_28 : decode cX9_goes 28 = .ok (.iload_n 1, 1) := decAll_at aX9_goes_0 17 rfl
theorem dX9_goes_29 : decode cX9_goes 29 = .ok (.iload_n 2, 1) := decAll_at aX9_goes_0 18 rfl
theorem dX9_goes_30 : decode cX9_goes 30 = .ok (.iload 5, 2) := decAll_at aX9_goes_0 19 rfl
theorem dX9_goes_32 : decode cX9_goes 32 = .ok (.invokevirtual 218, 3) := decAll_at aX9_goes_0 20 rfl
theorem dX9_goes_35 : decode cX9_goes 35 = .ok (.istore 6, 2) := decAll_at aX9_goes_0 21 rfl
theorem dX9_goes_37 : decode cX9_goes 37 = .ok (.iload 6, 2) := decAll_at aX9_goes_0 22 rfl
theorem dX9_goes_39 : decode cX9_goes 39 = .ok (.iload_n 3, 1) := decAll_at aX9_goes_0 23 rfl
theorem dX9_goes_40 : decode cX9_goes 40 = .ok (.if_icmp .ge 10, 3) := decAll_at aX9_goes_0 24 rfl
theorem dX9_goes_43 : decode cX9_goes 43 = .ok (.iload 6, 2) := decAll_at aX9_goes_0 25 rfl
theorem dX9_goes_45 : decode cX9_goes 45 = .ok (.istore_n 3, 1) := decAll_at aX9_goes_0 26 rfl
theorem dX9_goes_46 : decode cX9_goes 46 = .ok (.iload 5, 2) := decAll_at aX9_goes_0 27 rfl
theorem dX9_goes_48 : decode cX9_goes 48 = .ok (.istore 4, 2) := decAll_at aX9_goes_0 28 rfl
theorem dX9_goes_50 : decode cX9_goes 50 = .ok (.iinc 5 1, 3) := decAll_at aX9_goes_0 29 rfl
theorem dX9_goes_53 : decode cX9_goes 53 = .ok (.goto (-32), 3) := decAll_at aX9_goes_0 30 rfl
theorem dX9_goes_56 : decode cX9_goes 56 = .ok (.iload 4, 2) := decAll_at aX9_goes_0 31 rfl
theorem dX9_goes_58 : decode cX9_goes 58 = .ok (.ireturn, 1) := decAll_at aX9_goes_0 32 rfl
def laX9_carried_0 : List (Nat × Instr × Nat) := [(0, .iload_n 3, 1), (1, .ifCond .lt 17, 3), (4, .iload_n 3, 1), (5, .iconst 1, 1), (6, .if_icmp .gt 12, 3), (9, .aload_n 0, 1), (10, .iload_n 1, 1), (11, .iload_n 2, 1), (12, .invokevirtual 171, 3), (15, .ifCond .ne 6, 3), (18, .bipush (-3), 2), (20, .ireturn, 1), (21, .aload_n 0, 1), (22, .getfield 53, 3), (25, .iload_n 1, 1), (26, .iload_n 2, 1), (27, .invokevirtual 188, 3), (30, .aload_n 0, 1), (31, .getfield 19, 3), (34, .iload_n 1, 1), (35, .aload_n 0, 1), (36, .getfield 53, 3), (39, .invokevirtual 192, 3), (42, .invokevirtual 181, 3), (45, .istore 4, 2), (47, .iconst (-1), 1), (48, .istore 5, 2), (50, .iconst 0, 1), (51, .istore 6, 2), (53, .iload 6, 2), (55, .aload_n 0, 1), (56, .getfield 19, 3), (59, .getfield 80, 3), (62, .if_icmp .ge 87, 3), (65, .aload_n 0, 1), (66, .getfield 19, 3), (69, .getfield 80, 3), (72, .iconst 1, 1), (73, .if_icmp .le 76, 3), (76, .aload_n 0, 1), (77, .getfield 53, 3), (80, .iload_n 1, 1), (81, .iload_n 2, 1), (82, .invokevirtual 188, 3), (85, .aload_n 0, 1), (86, .getfield 53, 3), (89, .iload 6, 2), (91, .invokevirtual 221, 3), (94, .aload_n 0, 1), (95, .getfield 53, 3), (98, .aload_n 0, 1), (99, .getfield 19, 3), (102, .getfield 88, 3), (105, .iload 6, 2), (107, .iaload, 1), (108, .invokevirtual 224, 3), (111, .aload_n 0, 1), (112, .getfield 19, 3), (115, .iload_n 1, 1), (116, .aload_n 0, 1), (117, .getfield 53, 3), (120, .invokevirtual 192, 3), (123, .invokevirtual 181, 3), (126, .istore 7, 2)]
theorem aX9_carried_0 : decAll cX9_carried laX9_carried_0 = true := by decide +kernel
theorem dX9_carried_0 : decode cX9_carried 0 = .ok (.iload_n 3, 1) := decAll_at aX9_carried_0 0 rfl
theorem dX9_carried_1 : decode cX9_carried 1 = .ok (.ifCond .lt 17, 3) := decAll_at aX9_carried_0 1 rfl
theorem dX9_carried_4 : decode cX9_carried 4 = .ok (.iload_n 3, 1) := decAll_at aX9_carried_0 2 rfl
theorem dX9_carried_5 : decode cX9_carried 5 = .ok (.iconst 1, 1) := decAll_at aX9_carried_0 3 rfl
theorem dX9_carried_6 : decode cX9_carried 6 = .ok (.if_icmp .gt 12, 3) := decAll_at aX9_carried_0 4 rfl
theorem dX9_carried_9 : decode cX9_carried 9 = .ok (.aload_n 0, 1) := decAll_at aX9_carried_0 5 rfl
theorem dX9_carried_10 : decode cX9_carried 10 = .ok (.iload_n 1, 1) := decAll_at aX9_carried_0 6 rfl
theorem dX9_carried_11 : decode cX9_carried 11 = .ok (.iload_n 2, 1) := decAll_at aX9_carried_0 7 rfl
theorem dX9_carried_12 : decode cX9_carried 12 = .ok (.invokevirtual 171, 3) := decAll_at aX9_carried_0 8 rfl
theorem dX9_carried_15 : decode cX9_carried 15 = .ok (.ifCond .ne 6, 3) := decAll_at aX9_carried_0 9 rfl
theorem dX9_carried_18 : decode cX9_carried 18 = .ok (.bipush (-3), 2) := decAll_at aX9_carried_0 10 rfl
theorem dX9_carried_20 : decode cX9_carried 20 = .ok (.ireturn, 1) := decAll_at aX9_carried_0 11 rfl
theorem dX9_carried_21 : decode cX9_carried 21 = .ok (.aload_n 0, 1) := decAll_at aX9_carried_0 12 rfl
theorem dX9_carried_22 : decode cX9_carried 22 = .ok (.getfield 53, 3) := decAll_at aX9_carried_0 13 rfl
theorem dX9_carried_25 : decode cX9_carried 25 = .ok (.iload_n 1, 1) := decAll_at aX9_carried_0 14 rfl
theorem dX9_carried_26 : decode cX9_carried 26 = .ok (.iload_n 2, 1) := decAll_at aX9_carried_0 15 rfl
theorem dX9_carried_27 : decode cX9_carried 27 = .ok (.invokevirtual 188, 3) := decAll_at aX9_carried_0 16 rfl
theorem dX9_carried_30 : decode cX9_carried 30 = .ok (.aload_n 0, 1) := decAll_at aX9_carried_0 17 rfl
theorem dX9_carried_31 : decode cX9_carried 31 = .ok (.getfield 19, 3) := decAll_at aX9_carried_0 18 rfl
theorem dX9_carried_34 : decode cX9_carried 34 = .ok (.iload_n 1, 1) := decAll_at aX9_carried_0 19 rfl
theorem dX9_carried_35 : decode cX9_carried 35 = .ok (.aload_n 0, 1) := decAll_at aX9_carried_0 20 rfl
theorem dX9_carried_36 : decode cX9_carried 36 = .ok (.getfield 53, 3) := decAll_at aX9_carried_0 21 rfl
theorem dX9_carried_39 : decode cX9_carried 39 = .ok (.invokevirtual 192, 3) := decAll_at aX9_carried_0 22 rfl
theorem dX9_carried_42 : decode cX9_carried 42 = .ok (.invokevirtual 181, 3) := decAll_at aX9_carried_0 23 rfl
theorem dX9_carried_45 : decode cX9_carried 45 = .ok (.istore 4, 2) := decAll_at aX9_carried_0 24 rfl
theorem dX9_carried_47 : decode cX9_carried 47 = .ok (.iconst (-1), 1) := decAll_at aX9_carried_0 25 rfl
theorem dX9_carried_48 : decode cX9_carried 48 = .ok (.istore 5, 2) := decAll_at aX9_carried_0 26 rfl
theorem dX9_carried_50 : decode cX9_carried 50 = .ok (.iconst 0, 1) := decAll_at aX9_carried_0 27 rfl
theorem dX9_carried_51 : decode cX9_carried 51 = .ok (.istore 6, 2) := decAll_at aX9_carried_0 28 rfl
theorem dX9_carried_53 : decode cX9_carried 53 = .ok (.iload 6, 2) := decAll_at aX9_carried_0 29 rfl
theorem dX9_carried_55 : decode cX9_carried 55 = .ok (.aload_n 0, 1) := decAll_at aX9_carried_0 30 rfl
theorem dX9_carried_56 : decode cX9_carried 56 = .ok (.getfield 19, 3) := decAll_at aX9_carried_0 31 rfl
theorem dX9_carried_59 : decode cX9_carried 59 = .ok (.getfield 80, 3) := decAll_at aX9_carried_0 32 rfl
theorem dX9_carried_62 : decode cX9_carried 62 = .ok (.if_icmp .ge 87, 3) := decAll_at aX9_carried_0 33 rfl
theorem dX9_carried_65 : decode cX9_carried 65 = .ok (.aload_n 0, 1) := decAll_at aX9_carried_0 34 rfl
theorem dX9_carried_66 : decode cX9_carried 66 = .ok (.getfield 19, 3) := decAll_at aX9_carried_0 35 rfl
theorem dX9_carried_69 : decode cX9_carried 69 = .ok (.getfield 80, 3) := decAll_at aX9_carried_0 36 rfl
theorem dX9_carried_72 : decode cX9_carried 72 = .ok (.iconst 1, 1) := decAll_at aX9_carried_0 37 rfl
theorem dX9_carried_73 : decode cX9_carried 73 = .ok (.if_icmp .le 76, 3) := decAll_at aX9_carried_0 38 rfl
theorem dX9_carried_76 : decode cX9_carried 76 = .ok (.aload_n 0, 1) := decAll_at aX9_carried_0 39 rfl
theorem dX9_carried_77 : decode cX9_carried 77 = .ok (.getfield 53, 3) := decAll_at aX9_carried_0 40 rfl
theorem dX9_carried_80 : decode cX9_carried 80 = .ok (.iload_n 1, 1) := decAll_at aX9_carried_0 41 rfl
theorem dX9_carried_81 : decode cX9_carried 81 = .ok (.iload_n 2, 1) := decAll_at aX9_carried_0 42 rfl
theorem dX9_carried_82 : decode cX9_carried 82 = .ok (.invokevirtual 188, 3) := decAll_at aX9_carried_0 43 rfl
theorem dX9_carried_85 : decode cX9_carried 85 = .ok (.aload_n 0, 1) := decAll_at aX9_carried_0 44 rfl
theorem dX9_carried_86 : decode cX9_carried 86 = .ok (.getfield 53, 3) := decAll_at aX9_carried_0 45 rfl
theorem dX9_carried_89 : decode cX9_carried 89 = .ok (.iload 6, 2) := decAll_at aX9_carried_0 46 rfl
theorem dX9_carried_91 : decode cX9_carried 91 = .ok (.invokevirtual 221, 3) := decAll_at aX9_carried_0 47 rfl
theorem dX9_carried_94 : decode cX9_carried 94 = .ok (.aload_n 0, 1) := decAll_at aX9_carried_0 48 rfl
theorem dX9_carried_95 : decode cX9_carried 95 = .ok (.getfield 53, 3) := decAll_at aX9_carried_0 49 rfl
theorem dX9_carried_98 : decode cX9_carried 98 = .ok (.aload_n 0, 1) := decAll_at aX9_carried_0 50 rfl
theorem dX9_carried_99 : decode cX9_carried 99 = .ok (.getfield 19, 3) := decAll_at aX9_carried_0 51 rfl
theorem dX9_carried_102 : decode cX9_carried 102 = .ok (.getfield 88, 3) := decAll_at aX9_carried_0 52 rfl
theorem dX9_carried_105 : decode cX9_carried 105 = .ok (.iload 6, 2) := decAll_at aX9_carried_0 53 rfl
theorem dX9_carried_107 : decode cX9_carried 107 = .ok (.iaload, 1) := decAll_at aX9_carried_0 54 rfl
theorem dX9_carried_108 : decode cX9_carried 108 = .ok (.invokevirtual 224, 3) := decAll_at aX9_carried_0 55 rfl
theorem dX9_carried_111 : decode cX9_carried 111 = .ok (.aload_n 0, 1) := decAll_at aX9_carried_0 56 rfl
theorem dX9_carried_112 : decode cX9_carried 112 = .ok (.getfield 19, 3) := decAll_at aX9_carried_0 57 rfl
theorem dX9_carried_115 : decode cX9_carried 115 = .ok (.iload_n 1, 1) := decAll_at aX9_carried_0 58 rfl
theorem dX9_carried_116 : decode cX9_carried 116 = .ok (.aload_n 0, 1) := decAll_at aX9_carried_0 59 rfl
theorem dX9_carried_117 : decode cX9_carried 117 = .ok (.getfield 53, 3) := decAll_at aX9_carried_0 60 rfl
theorem dX9_carried_120 : decode cX9_carried 120 = .ok (.invokevirtual 192, 3) := decAll_at aX9_carried_0 61 rfl
theorem dX9_carried_123 : decode cX9_carried 123 = .ok (.invokevirtual 181, 3) := decAll_at aX9_carried_0 62 rfl
theorem dX9_carried_126 : decode cX9_carried 126 = .ok (.istore 7, 2) := decAll_at aX9_carried_0 63 rfl
def laX9_carried_1 : List (Nat × Instr × Nat) := [(128, .iload 7, 2), (130, .iload 4, 2), (132, .if_icmp .ge 11, 3), (135, .iload 7, 2), (137, .istore 4, 2), (139, .iload 6, 2), (141, .istore 5, 2), (143, .iinc 6 1, 3), (146, .goto (-93), 3), (149, .iload 4, 2), (151, .ldc 206, 2), (153, .if_icmp .ne 6, 3), (156, .bipush (-2), 2), (158, .ireturn, 1), (159, .iload_n 3, 1), (160, .ifCond .ne 8, 3), (163, .iload 5, 2), (165, .goto 5, 3), (168, .iload 4, 2), (170, .ireturn, 1)]
theorem aX9_carried_1 : decAll cX9_carried laX9_carried_1 = true := by decide +kernel
theorem dX9_carried_128 : decode cX9_carried 128 = .ok (.iload 7, 2) := decAll_at aX9_carried_1 0 rfl
theorem dX9_carried_130 : decode cX9_carried 130 = .ok (.iload 4, 2) := decAll_at aX9_carried_1 1 rfl
theorem dX9_carried_132 : decode cX9_carried 132 = .ok (.if_icmp .ge 11, 3) := decAll_at aX9_carried_1 2 rfl
theorem dX9_carried_135 : decode cX9_carried 135 = .ok (.iload 7, 2) := decAll_at aX9_carried_1 3 rfl
theorem dX9_carried_137 : decode cX9_carried 137 = .ok (.istore 4, 2) := decAll_at aX9_carried_1 4 rfl
theorem dX9_carried_139 : decode cX9_carried 139 = .ok (.iload 6, 2) := decAll_at aX9_carried_1 5 rfl
theorem dX9_carried_141 : decode cX9_carried 141 = .ok (.istore 5, 2) := decAll_at aX9_carried_1 6 rfl
theorem dX9_carried_143 : decode cX9_carried 143 = .ok (.iinc 6 1, 3) := decAll_at aX9_carried_1 7 rfl
theorem dX9_carried_146 : decode cX9_carried 146 = .ok (.goto (-93), 3) := decAll_at aX9_carried_1 8 rfl
theorem dX9_carried_149 : decode cX9_carried 149 = .ok (.iload 4, 2) := decAll_at aX9_carried_1 9 rfl
theorem dX9_carried_151 : decode cX9_carried 151 = .ok (.ldc 206, 2) := decAll_at aX9_carried_1 10 rfl
theorem dX9_carried_153 : decode cX9_carried 153 = .ok (.if_icmp .ne 6, 3) := decAll_at aX9_carried_1 11 rfl
theorem dX9_carried_156 : decode cX9_carried 156 = .ok (.bipush (-2), 2) := decAll_at aX9_carried_1 12 rfl
theorem dX9_carried_158 : decode cX9_carried 158 = .ok (.ireturn, 1) := decAll_at aX9_carried_1 13 rfl
theorem dX9_carried_159 : decode cX9_carried 159 = .ok (.iload_n 3, 1) := decAll_at aX9_carried_1 14 rfl
theorem dX9_carried_160 : decode cX9_carried 160 = .ok (.ifCond .ne 8, 3) := decAll_at aX9_carried_1 15 rfl
theorem dX9_carried_163 : decode cX9_carried 163 = .ok (.iload 5, 2) := decAll_at aX9_carried_1 16 rfl
theorem dX9_carried_165 : decode cX9_carried 165 = .ok (.goto 5, 3) := decAll_at aX9_carried_1 17 rfl
theorem dX9_carried_168 : decode cX9_carried 168 = .ok (.iload 4, 2) := decAll_at aX9_carried_1 18 rfl
theorem dX9_carried_170 : decode cX9_carried 170 = .ok (.ireturn, 1) := decAll_at aX9_carried_1 19 rfl
def laX9_mule_0 : List (Nat × Instr × Nat) := [(0, .iload_n 1, 1), (1, .iconst 1, 1), (2, .if_icmp .lt 41, 3), (5, .iload_n 1, 1), (6, .sipush 500, 3), (9, .if_icmp .gt 34, 3), (12, .iload_n 2, 1), (13, .iconst 1, 1), (14, .if_icmp .lt 29, 3), (17, .iload_n 2, 1), (18, .aload_n 0, 1), (19, .getfield 19, 3), (22, .getfield 124, 3), (25, .if_icmp .gt 18, 3), (28, .iload 4, 2), (30, .ifCond .lt 13, 3), (33, .iload 4, 2), (35, .iconst 1, 1), (36, .if_icmp .gt 7, 3), (39, .iconst 1, 1), (40, .goto 4, 3), (43, .iconst 0, 1), (44, .istore 5, 2), (46, .iload 5, 2), (48, .ifCond .eq 12, 3), (51, .aload_n 0, 1), (52, .iconst 0, 1), (53, .iload_n 3, 1), (54, .invokevirtual 171, 3), (57, .ifCond .ne 5, 3), (60, .iconst (-1), 1), (61, .ireturn, 1), (62, .ldc 206, 2), (64, .istore 6, 2), (66, .iconst (-1), 1), (67, .istore 7, 2), (69, .iconst 0, 1), (70, .istore 8, 2), (72, .iload 8, 2), (74, .iload_n 2, 1), (75, .iadd, 1), (76, .aload_n 0, 1), (77, .getfield 19, 3), (80, .getfield 124, 3), (83, .if_icmp .gt 38, 3), (86, .aload_n 0, 1), (87, .iload_n 1, 1), (88, .iload 8, 2), (90, .iload 8, 2), (92, .iload_n 2, 1), (93, .iadd, 1), (94, .iload_n 3, 1), (95, .invokevirtual 227, 3), (98, .istore 9, 2), (100, .iload 9, 2), (102, .iload 6, 2), (104, .if_icmp .ge 11, 3), (107, .iload 9, 2), (109, .istore 6, 2), (111, .iload 8, 2), (113, .istore 7, 2), (115, .iinc 8 1, 3), (118, .goto (-46), 3), (121, .iload 6, 2)]
theorem aX9_mule_0 : decAll cX9_mule laX9_mule_0 = true := by decide +kernel
theorem dX9_mule_0 : decode cX9_mule 0 = .ok (.iload_n 1, 1) := decAll_at aX9_mule_0 0 rfl
theorem dX9_mule_1 : decode cX9_mule 1 = .ok (.iconst 1, 1) := decAll_at aX9_mule_0 1 rfl
theorem dX9_mule_2 : decode cX9_mule 2 = .ok (.if_icmp .lt 41, 3) := decAll_at aX9_mule_0 2 rfl
theorem dX9_mule_5 : decode cX9_mule 5 = .ok (.iload_n 1, 1) := decAll_at aX9_mule_0 3 rfl
theorem dX9_mule_6 : decode cX9_mule 6 = .ok (.sipush 500, 3) := decAll_at aX9_mule_0 4 rfl
theorem dX9_mule_9 : decode cX9_mule 9 = .ok (.if_icmp .gt 34, 3) := decAll_at aX9_mule_0 5 rfl
theorem dX9_mule_12 : decode cX9_mule 12 = .ok (.iload_n 2, 1) := decAll_at aX9_mule_0 6 rfl
theorem dX9_mule_13 : decode cX9_mule 13 = .ok (.iconst 1, 1) := decAll_at aX9_mule_0 7 rfl
theorem dX9_mule_14 : decode cX9_mule 14 = .ok (.if_icmp .lt 29, 3) := decAll_at aX9_mule_0 8 rfl
theorem dX9_mule_17 : decode cX9_mule 17 = .ok (.iload_n 2, 1) := decAll_at aX9_mule_0 9 rfl
theorem dX9_mule_18 : decode cX9_mule 18 = .ok (.aload_n 0, 1) := decAll_at aX9_mule_0 10 rfl
theorem dX9_mule_19 : decode cX9_mule 19 = .ok (.getfield 19, 3) := decAll_at aX9_mule_0 11 rfl
theorem dX9_mule_22 : decode cX9_mule 22 = .ok (.getfield 124, 3) := decAll_at aX9_mule_0 12 rfl
theorem dX9_mule_25 : decode cX9_mule 25 = .ok (.if_icmp .gt 18, 3) := decAll_at aX9_mule_0 13 rfl
theorem dX9_mule_28 : decode cX9_mule 28 = .ok (.iload 4, 2) := decAll_at aX9_mule_0 14 rfl
theorem dX9_mule_30 : decode cX9_mule 30 = .ok (.ifCond .lt 13, 3) := decAll_at aX9_mule_0 15 rfl
theorem dX9_mule_33 : decode cX9_mule 33 = .ok (.iload 4, 2) := decAll_at aX9_mule_0 16 rfl
theorem dX9_mule_35 : decode cX9_mule 35 = .ok (.iconst 1, 1) := decAll_at aX9_mule_0 17 rfl
theorem dX9_mule_36 : decode cX9_mule 36 = .ok (.if_icmp .gt 7, 3) := decAll_at aX9_mule_0 18 rfl
theorem dX9_mule_39 : decode cX9_mule 39 = .ok (.iconst 1, 1) := decAll_at aX9_mule_0 19 rfl
theorem dX9_mule_40 : decode cX9_mule 40 = .ok (.goto 4, 3) := decAll_at aX9_mule_0 20 rfl
theorem dX9_mule_43 : decode cX9_mule 43 = .ok (.iconst 0, 1) := decAll_at aX9_mule_0 21 rfl
theorem dX9_mule_44 : decode cX9_mule 44 = .ok (.istore 5, 2) := decAll_at aX9_mule_0 22 rfl
theorem dX9_mule_46 : decode cX9_mule 46 = .ok (.iload 5, 2) := decAll_at aX9_mule_0 23 rfl
theorem dX9_mule_48 : decode cX9_mule 48 = .ok (.ifCond .eq 12, 3) := decAll_at aX9_mule_0 24 rfl
theorem dX9_mule_51 : decode cX9_mule 51 = .ok (.aload_n 0, 1) := decAll_at aX9_mule_0 25 rfl
theorem dX9_mule_52 : decode cX9_mule 52 = .ok (.iconst 0, 1) := decAll_at aX9_mule_0 26 rfl
theorem dX9_mule_53 : decode cX9_mule 53 = .ok (.iload_n 3, 1) := decAll_at aX9_mule_0 27 rfl
theorem dX9_mule_54 : decode cX9_mule 54 = .ok (.invokevirtual 171, 3) := decAll_at aX9_mule_0 28 rfl
theorem dX9_mule_57 : decode cX9_mule 57 = .ok (.ifCond .ne 5, 3) := decAll_at aX9_mule_0 29 rfl
theorem dX9_mule_60 : decode cX9_mule 60 = .ok (.iconst (-1), 1) := decAll_at aX9_mule_0 30 rfl
theorem dX9_mule_61 : decode cX9_mule 61 = .ok (.ireturn, 1) := decAll_at aX9_mule_0 31 rfl
theorem dX9_mule_62 : decode cX9_mule 62 = .ok (.ldc 206, 2) := decAll_at aX9_mule_0 32 rfl
theorem dX9_mule_64 : decode cX9_mule 64 = .ok (.istore 6, 2) := decAll_at aX9_mule_0 33 rfl
theorem dX9_mule_66 : decode cX9_mule 66 = .ok (.iconst (-1), 1) := decAll_at aX9_mule_0 34 rfl
theorem dX9_mule_67 : decode cX9_mule 67 = .ok (.istore 7, 2) := decAll_at aX9_mule_0 35 rfl
theorem dX9_mule_69 : decode cX9_mule 69 = .ok (.iconst 0, 1) := decAll_at aX9_mule_0 36 rfl
theorem dX9_mule_70 : decode cX9_mule 70 = .ok (.istore 8, 2) := decAll_at aX9_mule_0 37 rfl
theorem dX9_mule_72 : decode cX9_mule 72 = .ok (.iload 8, 2) := decAll_at aX9_mule_0 38 rfl
theorem dX9_mule_74 : decode cX9_mule 74 = .ok (.iload_n 2, 1) := decAll_at aX9_mule_0 39 rfl
theorem dX9_mule_75 : decode cX9_mule 75 = .ok (.iadd, 1) := decAll_at aX9_mule_0 40 rfl
theorem dX9_mule_76 : decode cX9_mule 76 = .ok (.aload_n 0, 1) := decAll_at aX9_mule_0 41 rfl
theorem dX9_mule_77 : decode cX9_mule 77 = .ok (.getfield 19, 3) := decAll_at aX9_mule_0 42 rfl
theorem dX9_mule_80 : decode cX9_mule 80 = .ok (.getfield 124, 3) := decAll_at aX9_mule_0 43 rfl
theorem dX9_mule_83 : decode cX9_mule 83 = .ok (.if_icmp .gt 38, 3) := decAll_at aX9_mule_0 44 rfl
theorem dX9_mule_86 : decode cX9_mule 86 = .ok (.aload_n 0, 1) := decAll_at aX9_mule_0 45 rfl
theorem dX9_mule_87 : decode cX9_mule 87 = .ok (.iload_n 1, 1) := decAll_at aX9_mule_0 46 rfl
theorem dX9_mule_88 : decode cX9_mule 88 = .ok (.iload 8, 2) := decAll_at aX9_mule_0 47 rfl
theorem dX9_mule_90 : decode cX9_mule 90 = .ok (.iload 8, 2) := decAll_at aX9_mule_0 48 rfl
theorem dX9_mule_92 : decode cX9_mule 92 = .ok (.iload_n 2, 1) := decAll_at aX9_mule_0 49 rfl
theorem dX9_mule_93 : decode cX9_mule 93 = .ok (.iadd, 1) := decAll_at aX9_mule_0 50 rfl
theorem dX9_mule_94 : decode cX9_mule 94 = .ok (.iload_n 3, 1) := decAll_at aX9_mule_0 51 rfl
theorem dX9_mule_95 : decode cX9_mule 95 = .ok (.invokevirtual 227, 3) := decAll_at aX9_mule_0 52 rfl
theorem dX9_mule_98 : decode cX9_mule 98 = .ok (.istore 9, 2) := decAll_at aX9_mule_0 53 rfl
theorem dX9_mule_100 : decode cX9_mule 100 = .ok (.iload 9, 2) := decAll_at aX9_mule_0 54 rfl
theorem dX9_mule_102 : decode cX9_mule 102 = .ok (.iload 6, 2) := decAll_at aX9_mule_0 55 rfl
theorem dX9_mule_104 : decode cX9_mule 104 = .ok (.if_icmp .ge 11, 3) := decAll_at aX9_mule_0 56 rfl
theorem dX9_mule_107 : decode cX9_mule 107 = .ok (.iload 9, 2) := decAll_at aX9_mule_0 57 rfl
theorem dX9_mule_109 : decode cX9_mule 109 = .ok (.istore 6, 2) := decAll_at aX9_mule_0 58 rfl
theorem dX9_mule_111 : decode cX9_mule 111 = .ok (.iload 8, 2) := decAll_at aX9_mule_0 59 rfl
theorem dX9_mule_113 : decode cX9_mule 113 = .ok (.istore 7, 2) := decAll_at aX9_mule_0 60 rfl
theorem dX9_mule_115 : decode cX9_mule 115 = .ok (.iinc 8 1, 3) := decAll_at aX9_mule_0 61 rfl
theorem dX9_mule_118 : decode cX9_mule 118 = .ok (.goto (-46), 3) := decAll_at aX9_mule_0 62 rfl
theorem dX9_mule_121 : decode cX9_mule 121 = .ok (.iload 6, 2) := decAll_at aX9_mule_0 63 rfl
def laX9_mule_1 : List (Nat × Instr × Nat) := [(123, .ldc 206, 2), (125, .if_icmp .ne 6, 3), (128, .bipush (-2), 2), (130, .ireturn, 1), (131, .iload 4, 2), (133, .ifCond .ne 8, 3), (136, .iload 7, 2), (138, .goto 5, 3), (141, .iload 6, 2), (143, .ireturn, 1)]
theorem aX9_mule_1 : decAll cX9_mule laX9_mule_1 = true := by decide +kernel
theorem dX9_mule_123 : decode cX9_mule 123 = .ok (.ldc 206, 2) := decAll_at aX9_mule_1 0 rfl
theorem dX9_mule_125 : decode cX9_mule 125 = .ok (.if_icmp .ne 6, 3) := decAll_at aX9_mule_1 1 rfl
theorem dX9_mule_128 : decode cX9_mule 128 = .ok (.bipush (-2), 2) := decAll_at aX9_mule_1 2 rfl
theorem dX9_mule_130 : decode cX9_mule 130 = .ok (.ireturn, 1) := decAll_at aX9_mule_1 3 rfl
theorem dX9_mule_131 : decode cX9_mule 131 = .ok (.iload 4, 2) := decAll_at aX9_mule_1 4 rfl
theorem dX9_mule_133 : decode cX9_mule 133 = .ok (.ifCond .ne 8, 3) := decAll_at aX9_mule_1 5 rfl
theorem dX9_mule_136 : decode cX9_mule 136 = .ok (.iload 7, 2) := decAll_at aX9_mule_1 6 rfl
theorem dX9_mule_138 : decode cX9_mule 138 = .ok (.goto 5, 3) := decAll_at aX9_mule_1 7 rfl
theorem dX9_mule_141 : decode cX9_mule 141 = .ok (.iload 6, 2) := decAll_at aX9_mule_1 8 rfl
theorem dX9_mule_143 : decode cX9_mule 143 = .ok (.ireturn, 1) := decAll_at aX9_mule_1 9 rfl
def laX9_plan_0 : List (Nat × Instr × Nat) := [(0, .iload_n 1, 1), (1, .ifCond .lt 26, 3), (4, .iload_n 1, 1), (5, .bipush 6, 2), (7, .if_icmp .ge 20, 3), (10, .aload_n 0, 1), (11, .getfield 10, 3), (14, .getfield 136, 3), (17, .aload_n 0, 1), (18, .getfield 19, 3), (21, .getfield 106, 3), (24, .if_icmp .ge 5, 3), (27, .iconst 0, 1), (28, .ireturn, 1), (29, .iconst 1, 1), (30, .istore_n 2, 1), (31, .iconst 0, 1), (32, .istore_n 3, 1), (33, .iload_n 3, 1), (34, .aload_n 0, 1), (35, .getfield 19, 3), (38, .getfield 106, 3), (41, .if_icmp .ge 81, 3), (44, .aload_n 0, 1), (45, .getfield 10, 3), (48, .getfield 230, 3), (51, .iload_n 3, 1), (52, .iaload, 1), (53, .istore 4, 2), (55, .aload_n 0, 1), (56, .getfield 19, 3), (59, .getfield 112, 3), (62, .iload_n 3, 1), (63, .iaload, 1), (64, .iconst (-1), 1), (65, .if_icmp .eq 17, 3), (68, .aload_n 0, 1), (69, .getfield 19, 3), (72, .getfield 112, 3), (75, .iload_n 3, 1), (76, .iaload, 1), (77, .iload 4, 2), (79, .if_icmp .ne 7, 3), (82, .iconst 1, 1), (83, .goto 4, 3), (86, .iconst 0, 1), (87, .istore 5, 2), (89, .iload_n 2, 1), (90, .ifCond .eq 24, 3), (93, .aload_n 0, 1), (94, .getfield 19, 3), (97, .iload 4, 2), (99, .invokevirtual 102, 3), (102, .ifCond .eq 12, 3), (105, .iload 5, 2), (107, .ifCond .eq 7, 3), (110, .iconst 1, 1), (111, .goto 4, 3), (114, .iconst 0, 1), (115, .istore_n 2, 1), (116, .iinc 3 1, 3), (119, .goto (-86), 3), (122, .aload_n 0, 1), (123, .getfield 10, 3)]
theorem aX9_plan_0 : decAll cX9_plan laX9_plan_0 = true := by decide +kernel
theorem dX9_plan_0 : decode cX9_plan 0 = .ok (.iload_n 1, 1) := decAll_at aX9_plan_0 0 rfl
theorem dX9_plan_1 : decode cX9_plan 1 = .ok (.ifCond .lt 26, 3) := decAll_at aX9_plan_0 1 rfl
theorem dX9_plan_4 : decode cX9_plan 4 = .ok (.iload_n 1, 1) := decAll_at aX9_plan_0 2 rfl
theorem dX9_plan_5 : decode cX9_plan 5 = .ok (.bipush 6, 2) := decAll_at aX9_plan_0 3 rfl
theorem dX9_plan_7 : decode cX9_plan 7 = .ok (.if_icmp .ge 20, 3) := decAll_at aX9_plan_0 4 rfl
theorem dX9_plan_10 : decode cX9_plan 10 = .ok (.aload_n 0, 1) := decAll_at aX9_plan_0 5 rfl
theorem dX9_plan_11 : decode cX9_plan 11 = .ok (.getfield 10, 3) := decAll_at aX9_plan_0 6 rfl
theorem dX9_plan_14 : decode cX9_plan 14 = .ok (.getfield 136, 3) := decAll_at aX9_plan_0 7 rfl
theorem dX9_plan_17 : decode cX9_plan 17 = .ok (.aload_n 0, 1) := decAll_at aX9_plan_0 8 rfl
theorem dX9_plan_18 : decode cX9_plan 18 = .ok (.getfield 19, 3) := decAll_at aX9_plan_0 9 rfl
theorem dX9_plan_21 : decode cX9_plan 21 = .ok (.getfield 106, 3) := decAll_at aX9_plan_0 10 rfl
theorem dX9_plan_24 : decode cX9_plan 24 = .ok (.if_icmp .ge 5, 3) := decAll_at aX9_plan_0 11 rfl
theorem dX9_plan_27 : decode cX9_plan 27 = .ok (.iconst 0, 1) := decAll_at aX9_plan_0 12 rfl
theorem dX9_plan_28 : decode cX9_plan 28 = .ok (.ireturn, 1) := decAll_at aX9_plan_0 13 rfl
theorem dX9_plan_29 : decode cX9_plan 29 = .ok (.iconst 1, 1) := decAll_at aX9_plan_0 14 rfl
theorem dX9_plan_30 : decode cX9_plan 30 = .ok (.istore_n 2, 1) := decAll_at aX9_plan_0 15 rfl
theorem dX9_plan_31 : decode cX9_plan 31 = .ok (.iconst 0, 1) := decAll_at aX9_plan_0 16 rfl
theorem dX9_plan_32 : decode cX9_plan 32 = .ok (.istore_n 3, 1) := decAll_at aX9_plan_0 17 rfl
theorem dX9_plan_33 : decode cX9_plan 33 = .ok (.iload_n 3, 1) := decAll_at aX9_plan_0 18 rfl
theorem dX9_plan_34 : decode cX9_plan 34 = .ok (.aload_n 0, 1) := decAll_at aX9_plan_0 19 rfl
theorem dX9_plan_35 : decode cX9_plan 35 = .ok (.getfield 19, 3) := decAll_at aX9_plan_0 20 rfl
theorem dX9_plan_38 : decode cX9_plan 38 = .ok (.getfield 106, 3) := decAll_at aX9_plan_0 21 rfl
theorem dX9_plan_41 : decode cX9_plan 41 = .ok (.if_icmp .ge 81, 3) := decAll_at aX9_plan_0 22 rfl
theorem dX9_plan_44 : decode cX9_plan 44 = .ok (.aload_n 0, 1) := decAll_at aX9_plan_0 23 rfl
theorem dX9_plan_45 : decode cX9_plan 45 = .ok (.getfield 10, 3) := decAll_at aX9_plan_0 24 rfl
theorem dX9_plan_48 : decode cX9_plan 48 = .ok (.getfield 230, 3) := decAll_at aX9_plan_0 25 rfl
theorem dX9_plan_51 : decode cX9_plan 51 = .ok (.iload_n 3, 1) := decAll_at aX9_plan_0 26 rfl
theorem dX9_plan_52 : decode cX9_plan 52 = .ok (.iaload, 1) := decAll_at aX9_plan_0 27 rfl
theorem dX9_plan_53 : decode cX9_plan 53 = .ok (.istore 4, 2) := decAll_at aX9_plan_0 28 rfl
theorem dX9_plan_55 : decode cX9_plan 55 = .ok (.aload_n 0, 1) := decAll_at aX9_plan_0 29 rfl
theorem dX9_plan_56 : decode cX9_plan 56 = .ok (.getfield 19, 3) := decAll_at aX9_plan_0 30 rfl
theorem dX9_plan_59 : decode cX9_plan 59 = .ok (.getfield 112, 3) := decAll_at aX9_plan_0 31 rfl
theorem dX9_plan_62 : decode cX9_plan 62 = .ok (.iload_n 3, 1) := decAll_at aX9_plan_0 32 rfl
theorem dX9_plan_63 : decode cX9_plan 63 = .ok (.iaload, 1) := decAll_at aX9_plan_0 33 rfl
theorem dX9_plan_64 : decode cX9_plan 64 = .ok (.iconst (-1), 1) := decAll_at aX9_plan_0 34 rfl
theorem dX9_plan_65 : decode cX9_plan 65 = .ok (.if_icmp .eq 17, 3) := decAll_at aX9_plan_0 35 rfl
theorem dX9_plan_68 : decode cX9_plan 68 = .ok (.aload_n 0, 1) := decAll_at aX9_plan_0 36 rfl
theorem dX9_plan_69 : decode cX9_plan 69 = .ok (.getfield 19, 3) := decAll_at aX9_plan_0 37 rfl
theorem dX9_plan_72 : decode cX9_plan 72 = .ok (.getfield 112, 3) := decAll_at aX9_plan_0 38 rfl
theorem dX9_plan_75 : decode cX9_plan 75 = .ok (.iload_n 3, 1) := decAll_at aX9_plan_0 39 rfl
theorem dX9_plan_76 : decode cX9_plan 76 = .ok (.iaload, 1) := decAll_at aX9_plan_0 40 rfl
theorem dX9_plan_77 : decode cX9_plan 77 = .ok (.iload 4, 2) := decAll_at aX9_plan_0 41 rfl
theorem dX9_plan_79 : decode cX9_plan 79 = .ok (.if_icmp .ne 7, 3) := decAll_at aX9_plan_0 42 rfl
theorem dX9_plan_82 : decode cX9_plan 82 = .ok (.iconst 1, 1) := decAll_at aX9_plan_0 43 rfl
theorem dX9_plan_83 : decode cX9_plan 83 = .ok (.goto 4, 3) := decAll_at aX9_plan_0 44 rfl
theorem dX9_plan_86 : decode cX9_plan 86 = .ok (.iconst 0, 1) := decAll_at aX9_plan_0 45 rfl
theorem dX9_plan_87 : decode cX9_plan 87 = .ok (.istore 5, 2) := decAll_at aX9_plan_0 46 rfl
theorem dX9_plan_89 : decode cX9_plan 89 = .ok (.iload_n 2, 1) := decAll_at aX9_plan_0 47 rfl
theorem dX9_plan_90 : decode cX9_plan 90 = .ok (.ifCond .eq 24, 3) := decAll_at aX9_plan_0 48 rfl
theorem dX9_plan_93 : decode cX9_plan 93 = .ok (.aload_n 0, 1) := decAll_at aX9_plan_0 49 rfl
theorem dX9_plan_94 : decode cX9_plan 94 = .ok (.getfield 19, 3) := decAll_at aX9_plan_0 50 rfl
theorem dX9_plan_97 : decode cX9_plan 97 = .ok (.iload 4, 2) := decAll_at aX9_plan_0 51 rfl
theorem dX9_plan_99 : decode cX9_plan 99 = .ok (.invokevirtual 102, 3) := decAll_at aX9_plan_0 52 rfl
theorem dX9_plan_102 : decode cX9_plan 102 = .ok (.ifCond .eq 12, 3) := decAll_at aX9_plan_0 53 rfl
theorem dX9_plan_105 : decode cX9_plan 105 = .ok (.iload 5, 2) := decAll_at aX9_plan_0 54 rfl
theorem dX9_plan_107 : decode cX9_plan 107 = .ok (.ifCond .eq 7, 3) := decAll_at aX9_plan_0 55 rfl
theorem dX9_plan_110 : decode cX9_plan 110 = .ok (.iconst 1, 1) := decAll_at aX9_plan_0 56 rfl
theorem dX9_plan_111 : decode cX9_plan 111 = .ok (.goto 4, 3) := decAll_at aX9_plan_0 57 rfl
theorem dX9_plan_114 : decode cX9_plan 114 = .ok (.iconst 0, 1) := decAll_at aX9_plan_0 58 rfl
theorem dX9_plan_115 : decode cX9_plan 115 = .ok (.istore_n 2, 1) := decAll_at aX9_plan_0 59 rfl
theorem dX9_plan_116 : decode cX9_plan 116 = .ok (.iinc 3 1, 3) := decAll_at aX9_plan_0 60 rfl
theorem dX9_plan_119 : decode cX9_plan 119 = .ok (.goto (-86), 3) := decAll_at aX9_plan_0 61 rfl
theorem dX9_plan_122 : decode cX9_plan 122 = .ok (.aload_n 0, 1) := decAll_at aX9_plan_0 62 rfl
theorem dX9_plan_123 : decode cX9_plan 123 = .ok (.getfield 10, 3) := decAll_at aX9_plan_0 63 rfl
def laX9_plan_1 : List (Nat × Instr × Nat) := [(126, .iconst 0, 1), (127, .putfield 136, 3), (130, .iload_n 2, 1), (131, .ifCond .eq 62, 3), (134, .aload_n 0, 1), (135, .getfield 10, 3), (138, .getfield 230, 3), (141, .iconst 0, 1), (142, .aload_n 0, 1), (143, .getfield 60, 3), (146, .getfield 233, 3), (149, .iload_n 1, 1), (150, .aaload, 1), (151, .iconst 0, 1), (152, .aload_n 0, 1), (153, .getfield 19, 3), (156, .getfield 106, 3), (159, .invokestatic 237, 3), (162, .aload_n 0, 1), (163, .getfield 60, 3), (166, .dup, 1), (167, .getfield 118, 3), (170, .iconst 1, 1), (171, .iload_n 1, 1), (172, .ishl, 1), (173, .ior, 1), (174, .putfield 118, 3), (177, .aload_n 0, 1), (178, .getfield 60, 3), (181, .iconst 0, 1), (182, .putfield 95, 3), (185, .aload_n 0, 1), (186, .getfield 69, 3), (189, .iconst 0, 1), (190, .putfield 121, 3), (193, .iload_n 2, 1), (194, .ireturn, 1)]
theorem aX9_plan_1 : decAll cX9_plan laX9_plan_1 = true := by decide +kernel
theorem dX9_plan_126 : decode cX9_plan 126 = .ok (.iconst 0, 1) := decAll_at aX9_plan_1 0 rfl
theorem dX9_plan_127 : decode cX9_plan 127 = .ok (.putfield 136, 3) := decAll_at aX9_plan_1 1 rfl
theorem dX9_plan_130 : decode cX9_plan 130 = .ok (.iload_n 2, 1) := decAll_at aX9_plan_1 2 rfl
theorem dX9_plan_131 : decode cX9_plan 131 = .ok (.ifCond .eq 62, 3) := decAll_at aX9_plan_1 3 rfl
theorem dX9_plan_134 : decode cX9_plan 134 = .ok (.aload_n 0, 1) := decAll_at aX9_plan_1 4 rfl
theorem dX9_plan_135 : decode cX9_plan 135 = .ok (.getfield 10, 3) := decAll_at aX9_plan_1 5 rfl
theorem dX9_plan_138 : decode cX9_plan 138 = .ok (.getfield 230, 3) := decAll_at aX9_plan_1 6 rfl
theorem dX9_plan_141 : decode cX9_plan 141 = .ok (.iconst 0, 1) := decAll_at aX9_plan_1 7 rfl
theorem dX9_plan_142 : decode cX9_plan 142 = .ok (.aload_n 0, 1) := decAll_at aX9_plan_1 8 rfl
theorem dX9_plan_143 : decode cX9_plan 143 = .ok (.getfield 60, 3) := decAll_at aX9_plan_1 9 rfl
theorem dX9_plan_146 : decode cX9_plan 146 = .ok (.getfield 233, 3) := decAll_at aX9_plan_1 10 rfl
theorem dX9_plan_149 : decode cX9_plan 149 = .ok (.iload_n 1, 1) := decAll_at aX9_plan_1 11 rfl
theorem dX9_plan_150 : decode cX9_plan 150 = .ok (.aaload, 1) := decAll_at aX9_plan_1 12 rfl
theorem dX9_plan_151 : decode cX9_plan 151 = .ok (.iconst 0, 1) := decAll_at aX9_plan_1 13 rfl
theorem dX9_plan_152 : decode cX9_plan 152 = .ok (.aload_n 0, 1) := decAll_at aX9_plan_1 14 rfl
theorem dX9_plan_153 : decode cX9_plan 153 = .ok (.getfield 19, 3) := decAll_at aX9_plan_1 15 rfl
theorem dX9_plan_156 : decode cX9_plan 156 = .ok (.getfield 106, 3) := decAll_at aX9_plan_1 16 rfl
theorem dX9_plan_159 : decode cX9_plan 159 = .ok (.invokestatic 237, 3) := decAll_at aX9_plan_1 17 rfl
theorem dX9_plan_162 : decode cX9_plan 162 = .ok (.aload_n 0, 1) := decAll_at aX9_plan_1 18 rfl
theorem dX9_plan_163 : decode cX9_plan 163 = .ok (.getfield 60, 3) := decAll_at aX9_plan_1 19 rfl
theorem dX9_plan_166 : decode cX9_plan 166 = .ok (.dup, 1) := decAll_at aX9_plan_1 20 rfl
theorem dX9_plan_167 : decode cX9_plan 167 = .ok (.getfield 118, 3) := decAll_at aX9_plan_1 21 rfl
theorem dX9_plan_170 : decode cX9_plan 170 = .ok (.iconst 1, 1) := decAll_at aX9_plan_1 22 rfl
theorem dX9_plan_171 : decode cX9_plan 171 = .ok (.iload_n 1, 1) := decAll_at aX9_plan_1 23 rfl
theorem dX9_plan_172 : decode cX9_plan 172 = .ok (.ishl, 1) := decAll_at aX9_plan_1 24 rfl
theorem dX9_plan_173 : decode cX9_plan 173 = .ok (.ior, 1) := decAll_at aX9_plan_1 25 rfl
theorem dX9_plan_174 : decode cX9_plan 174 = .ok (.putfield 118, 3) := decAll_at aX9_plan_1 26 rfl
theorem dX9_plan_177 : decode cX9_plan 177 = .ok (.aload_n 0, 1) := decAll_at aX9_plan_1 27 rfl
theorem dX9_plan_178 : decode cX9_plan 178 = .ok (.getfield 60, 3) := decAll_at aX9_plan_1 28 rfl
theorem dX9_plan_181 : decode cX9_plan 181 = .ok (.iconst 0, 1) := decAll_at aX9_plan_1 29 rfl
theorem dX9_plan_182 : decode cX9_plan 182 = .ok (.putfield 95, 3) := decAll_at aX9_plan_1 30 rfl
theorem dX9_plan_185 : decode cX9_plan 185 = .ok (.aload_n 0, 1) := decAll_at aX9_plan_1 31 rfl
theorem dX9_plan_186 : decode cX9_plan 186 = .ok (.getfield 69, 3) := decAll_at aX9_plan_1 32 rfl
theorem dX9_plan_189 : decode cX9_plan 189 = .ok (.iconst 0, 1) := decAll_at aX9_plan_1 33 rfl
theorem dX9_plan_190 : decode cX9_plan 190 = .ok (.putfield 121, 3) := decAll_at aX9_plan_1 34 rfl
theorem dX9_plan_193 : decode cX9_plan 193 = .ok (.iload_n 2, 1) := decAll_at aX9_plan_1 35 rfl
theorem dX9_plan_194 : decode cX9_plan 194 = .ok (.ireturn, 1) := decAll_at aX9_plan_1 36 rfl
def laX9_march_0 : List (Nat × Instr × Nat) := [(0, .iload_n 1, 1), (1, .iconst 1, 1), (2, .if_icmp .lt 35, 3), (5, .iload_n 1, 1), (6, .aload_n 0, 1), (7, .getfield 19, 3), (10, .getfield 124, 3), (13, .if_icmp .ne 24, 3), (16, .aload_n 0, 1), (17, .getfield 19, 3), (20, .getfield 80, 3), (23, .ifCond .eq 14, 3), (26, .aload_n 0, 1), (27, .getfield 10, 3), (30, .getfield 136, 3), (33, .iload_n 1, 1), (34, .if_icmp .ge 5, 3), (37, .iconst 0, 1), (38, .ireturn, 1), (39, .iconst 1, 1), (40, .istore_n 2, 1), (41, .iconst 0, 1), (42, .istore_n 3, 1), (43, .iload_n 3, 1), (44, .iload_n 1, 1), (45, .if_icmp .ge 54, 3), (48, .aload_n 0, 1), (49, .getfield 10, 3), (52, .getfield 230, 3), (55, .iload_n 3, 1), (56, .iaload, 1), (57, .istore 4, 2), (59, .iload_n 2, 1), (60, .ifCond .eq 31, 3), (63, .iload 4, 2), (65, .bipush 6, 2), (67, .idiv, 1), (68, .iconst 2, 1), (69, .if_icmp .gt 22, 3), (72, .aload_n 0, 1), (73, .getfield 60, 3), (76, .iload 4, 2), (78, .bipush 6, 2), (80, .irem, 1), (81, .invokevirtual 243, 3), (84, .ifCond .eq 7, 3), (87, .iconst 1, 1), (88, .goto 4, 3), (91, .iconst 0, 1), (92, .istore_n 2, 1), (93, .iinc 3 1, 3), (96, .goto (-53), 3), (99, .aload_n 0, 1), (100, .getfield 10, 3), (103, .iconst 0, 1), (104, .putfield 136, 3), (107, .iload_n 2, 1), (108, .ifCond .eq 31, 3), (111, .aload_n 0, 1), (112, .getfield 10, 3), (115, .getfield 230, 3), (118, .iconst 0, 1), (119, .aload_n 0, 1), (120, .getfield 60, 3)]
theorem aX9_march_0 : decAll cX9_march laX9_march_0 = true := by decide +kernel
theorem dX9_march_0 : decode cX9_march 0 = .ok (.iload_n 1, 1) := decAll_at aX9_march_0 0 rfl
theorem dX9_march_1 : decode cX9_march 1 = .ok (.iconst 1, 1) := decAll_at aX9_march_0 1 rfl
theorem dX9_march_2 : decode cX9_march 2 = .ok (.if_icmp .lt 35, 3) := decAll_at aX9_march_0 2 rfl
theorem dX9_march_5 : decode cX9_march 5 = .ok (.iload_n 1, 1) := decAll_at aX9_march_0 3 rfl
theorem dX9_march_6 : decode cX9_march 6 = .ok (.aload_n 0, 1) := decAll_at aX9_march_0 4 rfl
theorem dX9_march_7 : decode cX9_march 7 = .ok (.getfield 19, 3) := decAll_at aX9_march_0 5 rfl
theorem dX9_march_10 : decode cX9_march 10 = .ok (.getfield 124, 3) := decAll_at aX9_march_0 6 rfl
theorem dX9_march_13 : decode cX9_march 13 = .ok (.if_icmp .ne 24, 3) := decAll_at aX9_march_0 7 rfl
theorem dX9_march_16 : decode cX9_march 16 = .ok (.aload_n 0, 1) := decAll_at aX9_march_0 8 rfl
theorem dX9_march_17 : decode cX9_march 17 = .ok (.getfield 19, 3) := decAll_at aX9_march_0 9 rfl
theorem dX9_march_20 : decode cX9_march 20 = .ok (.getfield 80, 3) := decAll_at aX9_march_0 10 rfl
theorem dX9_march_23 : decode cX9_march 23 = .ok (.ifCond .eq 14, 3) := decAll_at aX9_march_0 11 rfl
theorem dX9_march_26 : decode cX9_march 26 = .ok (.aload_n 0, 1) := decAll_at aX9_march_0 12 rfl
theorem dX9_march_27 : decode cX9_march 27 = .ok (.getfield 10, 3) := decAll_at aX9_march_0 13 rfl
theorem dX9_march_30 : decode cX9_march 30 = .ok (.getfield 136, 3) := decAll_at aX9_march_0 14 rfl
theorem dX9_march_33 : decode cX9_march 33 = .ok (.iload_n 1, 1) := decAll_at aX9_march_0 15 rfl
theorem dX9_march_34 : decode cX9_march 34 = .ok (.if_icmp .ge 5, 3) := decAll_at aX9_march_0 16 rfl
theorem dX9_march_37 : decode cX9_march 37 = .ok (.iconst 0, 1) := decAll_at aX9_march_0 17 rfl
theorem dX9_march_38 : decode cX9_march 38 = .ok (.ireturn, 1) := decAll_at aX9_march_0 18 rfl
theorem dX9_march_39 : decode cX9_march 39 = .ok (.iconst 1, 1) := decAll_at aX9_march_0 19 rfl
theorem dX9_march_40 : decode cX9_march 40 = .ok (.istore_n 2, 1) := decAll_at aX9_march_0 20 rfl
theorem dX9_march_41 : decode cX9_march 41 = .ok (.iconst 0, 1) := decAll_at aX9_march_0 21 rfl
theorem dX9_march_42 : decode cX9_march 42 = .ok (.istore_n 3, 1) := decAll_at aX9_march_0 22 rfl
theorem dX9_march_43 : decode cX9_march 43 = .ok (.iload_n 3, 1) := decAll_at aX9_march_0 23 rfl
theorem dX9_march_44 : decode cX9_march 44 = .ok (.iload_n 1, 1) := decAll_at aX9_march_0 24 rfl
theorem dX9_march_45 : decode cX9_march 45 = .ok (.if_icmp .ge 54, 3) := decAll_at aX9_march_0 25 rfl
theorem dX9_march_48 : decode cX9_march 48 = .ok (.aload_n 0, 1) := decAll_at aX9_march_0 26 rfl
theorem dX9_march_49 : decode cX9_march 49 = .ok (.getfield 10, 3) := decAll_at aX9_march_0 27 rfl
theorem dX9_march_52 : decode cX9_march 52 = .ok (.getfield 230, 3) := decAll_at aX9_march_0 28 rfl
theorem dX9_march_55 : decode cX9_march 55 = .ok (.iload_n 3, 1) := decAll_at aX9_march_0 29 rfl
theorem dX9_march_56 : decode cX9_march 56 = .ok (.iaload, 1) := decAll_at aX9_march_0 30 rfl
theorem dX9_march_57 : decode cX9_march 57 = .ok (.istore 4, 2) := decAll_at aX9_march_0 31 rfl
theorem dX9_march_59 : decode cX9_march 59 = .ok (.iload_n 2, 1) := decAll_at aX9_march_0 32 rfl
theorem dX9_march_60 : decode cX9_march 60 = .ok (.ifCond .eq 31, 3) := decAll_at aX9_march_0 33 rfl
theorem dX9_march_63 : decode cX9_march 63 = .ok (.iload 4, 2) := decAll_at aX9_march_0 34 rfl
theorem dX9_march_65 : decode cX9_march 65 = .ok (.bipush 6, 2) := decAll_at aX9_march_0 35 rfl
theorem dX9_march_67 : decode cX9_march 67 = .ok (.idiv, 1) := decAll_at aX9_march_0 36 rfl
theorem dX9_march_68 : decode cX9_march 68 = .ok (.iconst 2, 1) := decAll_at aX9_march_0 37 rfl
theorem dX9_march_69 : decode cX9_march 69 = .ok (.if_icmp .gt 22, 3) := decAll_at aX9_march_0 38 rfl
theorem dX9_march_72 : decode cX9_march 72 = .ok (.aload_n 0, 1) := decAll_at aX9_march_0 39 rfl
theorem dX9_march_73 : decode cX9_march 73 = .ok (.getfield 60, 3) := decAll_at aX9_march_0 40 rfl
theorem dX9_march_76 : decode cX9_march 76 = .ok (.iload 4, 2) := decAll_at aX9_march_0 41 rfl
theorem dX9_march_78 : decode cX9_march 78 = .ok (.bipush 6, 2) := decAll_at aX9_march_0 42 rfl
theorem dX9_march_80 : decode cX9_march 80 = .ok (.irem, 1) := decAll_at aX9_march_0 43 rfl
theorem dX9_march_81 : decode cX9_march 81 = .ok (.invokevirtual 243, 3) := decAll_at aX9_march_0 44 rfl
theorem dX9_march_84 : decode cX9_march 84 = .ok (.ifCond .eq 7, 3) := decAll_at aX9_march_0 45 rfl
theorem dX9_march_87 : decode cX9_march 87 = .ok (.iconst 1, 1) := decAll_at aX9_march_0 46 rfl
theorem dX9_march_88 : decode cX9_march 88 = .ok (.goto 4, 3) := decAll_at aX9_march_0 47 rfl
theorem dX9_march_91 : decode cX9_march 91 = .ok (.iconst 0, 1) := decAll_at aX9_march_0 48 rfl
theorem dX9_march_92 : decode cX9_march 92 = .ok (.istore_n 2, 1) := decAll_at aX9_march_0 49 rfl
theorem dX9_march_93 : decode cX9_march 93 = .ok (.iinc 3 1, 3) := decAll_at aX9_march_0 50 rfl
theorem dX9_march_96 : decode cX9_march 96 = .ok (.goto (-53), 3) := decAll_at aX9_march_0 51 rfl
theorem dX9_march_99 : decode cX9_march 99 = .ok (.aload_n 0, 1) := decAll_at aX9_march_0 52 rfl
theorem dX9_march_100 : decode cX9_march 100 = .ok (.getfield 10, 3) := decAll_at aX9_march_0 53 rfl
theorem dX9_march_103 : decode cX9_march 103 = .ok (.iconst 0, 1) := decAll_at aX9_march_0 54 rfl
theorem dX9_march_104 : decode cX9_march 104 = .ok (.putfield 136, 3) := decAll_at aX9_march_0 55 rfl
theorem dX9_march_107 : decode cX9_march 107 = .ok (.iload_n 2, 1) := decAll_at aX9_march_0 56 rfl
theorem dX9_march_108 : decode cX9_march 108 = .ok (.ifCond .eq 31, 3) := decAll_at aX9_march_0 57 rfl
theorem dX9_march_111 : decode cX9_march 111 = .ok (.aload_n 0, 1) := decAll_at aX9_march_0 58 rfl
theorem dX9_march_112 : decode cX9_march 112 = .ok (.getfield 10, 3) := decAll_at aX9_march_0 59 rfl
theorem dX9_march_115 : decode cX9_march 115 = .ok (.getfield 230, 3) := decAll_at aX9_march_0 60 rfl
theorem dX9_march_118 : decode cX9_march 118 = .ok (.iconst 0, 1) := decAll_at aX9_march_0 61 rfl
theorem dX9_march_119 : decode cX9_march 119 = .ok (.aload_n 0, 1) := decAll_at aX9_march_0 62 rfl
theorem dX9_march_120 : decode cX9_march 120 = .ok (.getfield 60, 3) := decAll_at aX9_march_0 63 rfl
def laX9_march_1 : List (Nat × Instr × Nat) := [(123, .getfield 246, 3), (126, .iconst 0, 1), (127, .iload_n 1, 1), (128, .invokestatic 237, 3), (131, .aload_n 0, 1), (132, .getfield 60, 3), (135, .iconst 1, 1), (136, .putfield 95, 3), (139, .iload_n 2, 1), (140, .ireturn, 1)]
theorem aX9_march_1 : decAll cX9_march laX9_march_1 = true := by decide +kernel
theorem dX9_march_123 : decode cX9_march 123 = .ok (.getfield 246, 3) := decAll_at aX9_march_1 0 rfl
theorem dX9_march_126 : decode cX9_march 126 = .ok (.iconst 0, 1) := decAll_at aX9_march_1 1 rfl
theorem dX9_march_127 : decode cX9_march 127 = .ok (.iload_n 1, 1) := decAll_at aX9_march_1 2 rfl
theorem dX9_march_128 : decode cX9_march 128 = .ok (.invokestatic 237, 3) := decAll_at aX9_march_1 3 rfl
theorem dX9_march_131 : decode cX9_march 131 = .ok (.aload_n 0, 1) := decAll_at aX9_march_1 4 rfl
theorem dX9_march_132 : decode cX9_march 132 = .ok (.getfield 60, 3) := decAll_at aX9_march_1 5 rfl
theorem dX9_march_135 : decode cX9_march 135 = .ok (.iconst 1, 1) := decAll_at aX9_march_1 6 rfl
theorem dX9_march_136 : decode cX9_march 136 = .ok (.putfield 95, 3) := decAll_at aX9_march_1 7 rfl
theorem dX9_march_139 : decode cX9_march 139 = .ok (.iload_n 2, 1) := decAll_at aX9_march_1 8 rfl
theorem dX9_march_140 : decode cX9_march 140 = .ok (.ireturn, 1) := decAll_at aX9_march_1 9 rfl
def laX9_ran_0 : List (Nat × Instr × Nat) := [(0, .iload_n 1, 1), (1, .ifCond .lt 8, 3), (4, .iload_n 1, 1), (5, .iconst 3, 1), (6, .if_icmp .le 5, 3), (9, .iconst (-1), 1), (10, .ireturn, 1), (11, .aload_n 0, 1), (12, .getfield 60, 3), (15, .getfield 95, 3), (18, .ifCond .ne 6, 3), (21, .bipush (-2), 2), (23, .ireturn, 1), (24, .aload_n 0, 1), (25, .getfield 60, 3), (28, .invokevirtual 247, 3), (31, .iload_n 1, 1), (32, .ifCond .ne 11, 3), (35, .aload_n 0, 1), (36, .getfield 60, 3), (39, .invokevirtual 250, 3), (42, .ireturn, 1), (43, .iload_n 1, 1), (44, .iconst 1, 1), (45, .if_icmp .ne 11, 3), (48, .aload_n 0, 1), (49, .getfield 60, 3), (52, .invokevirtual 253, 3), (55, .ireturn, 1), (56, .iload_n 1, 1), (57, .iconst 2, 1), (58, .if_icmp .ne 32, 3), (61, .aload_n 0, 1), (62, .getfield 60, 3), (65, .getfield 256, 3), (68, .aload_n 0, 1), (69, .getfield 19, 3), (72, .getfield 124, 3), (75, .if_icmp .ge 13, 3), (78, .aload_n 0, 1), (79, .getfield 60, 3), (82, .getfield 256, 3), (85, .goto 4, 3), (88, .iconst (-1), 1), (89, .ireturn, 1), (90, .aload_n 0, 1), (91, .getfield 60, 3), (94, .invokevirtual 259, 3), (97, .ireturn, 1)]
theorem aX9_ran_0 : decAll cX9_ran laX9_ran_0 = true := by decide +kernel
theorem dX9_ran_0 : decode cX9_ran 0 = .ok (.iload_n 1, 1) := decAll_at aX9_ran_0 0 rfl
theorem dX9_ran_1 : decode cX9_ran 1 = .ok (.ifCond .lt 8, 3) := decAll_at aX9_ran_0 1 rfl
theorem dX9_ran_4 : decode cX9_ran 4 = .ok (.iload_n 1, 1) := decAll_at aX9_ran_0 2 rfl
theorem dX9_ran_5 : decode cX9_ran 5 = .ok (.iconst 3, 1) := decAll_at aX9_ran_0 3 rfl
theorem dX9_ran_6 : decode cX9_ran 6 = .ok (.if_icmp .le 5, 3) := decAll_at aX9_ran_0 4 rfl
theorem dX9_ran_9 : decode cX9_ran 9 = .ok (.iconst (-1), 1) := decAll_at aX9_ran_0 5 rfl
theorem dX9_ran_10 : decode cX9_ran 10 = .ok (.ireturn, 1) := decAll_at aX9_ran_0 6 rfl
theorem dX9_ran_11 : decode cX9_ran 11 = .ok (.aload_n 0, 1) := decAll_at aX9_ran_0 7 rfl
theorem dX9_ran_12 : decode cX9_ran 12 = .ok (.getfield 60, 3) := decAll_at aX9_ran_0 8 rfl
theorem dX9_ran_15 : decode cX9_ran 15 = .ok (.getfield 95, 3) := decAll_at aX9_ran_0 9 rfl
theorem dX9_ran_18 : decode cX9_ran 18 = .ok (.ifCond .ne 6, 3) := decAll_at aX9_ran_0 10 rfl
theorem dX9_ran_21 : decode cX9_ran 21 = .ok (.bipush (-2), 2) := decAll_at aX9_ran_0 11 rfl
theorem dX9_ran_23 : decode cX9_ran 23 = .ok (.ireturn, 1) := decAll_at aX9_ran_0 12 rfl
theorem dX9_ran_24 : decode cX9_ran 24 = .ok (.aload_n 0, 1) := decAll_at aX9_ran_0 13 rfl
theorem dX9_ran_25 : decode cX9_ran 25 = .ok (.getfield 60, 3) := decAll_at aX9_ran_0 14 rfl
theorem dX9_ran_28 : decode cX9_ran 28 = .ok (.invokevirtual 247, 3) := decAll_at aX9_ran_0 15 rfl
theorem dX9_ran_31 : decode cX9_ran 31 = .ok (.iload_n 1, 1) := decAll_at aX9_ran_0 16 rfl
theorem dX9_ran_32 : decode cX9_ran 32 = .ok (.ifCond .ne 11, 3) := decAll_at aX9_ran_0 17 rfl
theorem dX9_ran_35 : decode cX9_ran 35 = .ok (.aload_n 0, 1) := decAll_at aX9_ran_0 18 rfl
theorem dX9_ran_36 : decode cX9_ran 36 = .ok (.getfield 60, 3) := decAll_at aX9_ran_0 19 rfl
theorem dX9_ran_39 : decode cX9_ran 39 = .ok (.invokevirtual 250, 3) := decAll_at aX9_ran_0 20 rfl
theorem dX9_ran_42 : decode cX9_ran 42 = .ok (.ireturn, 1) := decAll_at aX9_ran_0 21 rfl
theorem dX9_ran_43 : decode cX9_ran 43 = .ok (.iload_n 1, 1) := decAll_at aX9_ran_0 22 rfl
theorem dX9_ran_44 : decode cX9_ran 44 = .ok (.iconst 1, 1) := decAll_at aX9_ran_0 23 rfl
theorem dX9_ran_45 : decode cX9_ran 45 = .ok (.if_icmp .ne 11, 3) := decAll_at aX9_ran_0 24 rfl
theorem dX9_ran_48 : decode cX9_ran 48 = .ok (.aload_n 0, 1) := decAll_at aX9_ran_0 25 rfl
theorem dX9_ran_49 : decode cX9_ran 49 = .ok (.getfield 60, 3) := decAll_at aX9_ran_0 26 rfl
theorem dX9_ran_52 : decode cX9_ran 52 = .ok (.invokevirtual 253, 3) := decAll_at aX9_ran_0 27 rfl
theorem dX9_ran_55 : decode cX9_ran 55 = .ok (.ireturn, 1) := decAll_at aX9_ran_0 28 rfl
theorem dX9_ran_56 : decode cX9_ran 56 = .ok (.iload_n 1, 1) := decAll_at aX9_ran_0 29 rfl
theorem dX9_ran_57 : decode cX9_ran 57 = .ok (.iconst 2, 1) := decAll_at aX9_ran_0 30 rfl
theorem dX9_ran_58 : decode cX9_ran 58 = .ok (.if_icmp .ne 32, 3) := decAll_at aX9_ran_0 31 rfl
theorem dX9_ran_61 : decode cX9_ran 61 = .ok (.aload_n 0, 1) := decAll_at aX9_ran_0 32 rfl
theorem dX9_ran_62 : decode cX9_ran 62 = .ok (.getfield 60, 3) := decAll_at aX9_ran_0 33 rfl
theorem dX9_ran_65 : decode cX9_ran 65 = .ok (.getfield 256, 3) := decAll_at aX9_ran_0 34 rfl
theorem dX9_ran_68 : decode cX9_ran 68 = .ok (.aload_n 0, 1) := decAll_at aX9_ran_0 35 rfl
theorem dX9_ran_69 : decode cX9_ran 69 = .ok (.getfield 19, 3) := decAll_at aX9_ran_0 36 rfl
theorem dX9_ran_72 : decode cX9_ran 72 = .ok (.getfield 124, 3) := decAll_at aX9_ran_0 37 rfl
theorem dX9_ran_75 : decode cX9_ran 75 = .ok (.if_icmp .ge 13, 3) := decAll_at aX9_ran_0 38 rfl
theorem dX9_ran_78 : decode cX9_ran 78 = .ok (.aload_n 0, 1) := decAll_at aX9_ran_0 39 rfl
theorem dX9_ran_79 : decode cX9_ran 79 = .ok (.getfield 60, 3) := decAll_at aX9_ran_0 40 rfl
theorem dX9_ran_82 : decode cX9_ran 82 = .ok (.getfield 256, 3) := decAll_at aX9_ran_0 41 rfl
theorem dX9_ran_85 : decode cX9_ran 85 = .ok (.goto 4, 3) := decAll_at aX9_ran_0 42 rfl
theorem dX9_ran_88 : decode cX9_ran 88 = .ok (.iconst (-1), 1) := decAll_at aX9_ran_0 43 rfl
theorem dX9_ran_89 : decode cX9_ran 89 = .ok (.ireturn, 1) := decAll_at aX9_ran_0 44 rfl
theorem dX9_ran_90 : decode cX9_ran 90 = .ok (.aload_n 0, 1) := decAll_at aX9_ran_0 45 rfl
theorem dX9_ran_91 : decode cX9_ran 91 = .ok (.getfield 60, 3) := decAll_at aX9_ran_0 46 rfl
theorem dX9_ran_94 : decode cX9_ran 94 = .ok (.invokevirtual 259, 3) := decAll_at aX9_ran_0 47 rfl
theorem dX9_ran_97 : decode cX9_ran 97 = .ok (.ireturn, 1) := decAll_at aX9_ran_0 48 rfl
def laX9_gap_0 : List (Nat × Instr × Nat) := [(0, .aload_n 0, 1), (1, .getfield 60, 3), (4, .getfield 95, 3), (7, .ifCond .eq 14, 3), (10, .aload_n 0, 1), (11, .getfield 19, 3), (14, .iload_n 1, 1), (15, .invokevirtual 157, 3), (18, .ifCond .ne 5, 3), (21, .iconst (-1), 1), (22, .ireturn, 1), (23, .aload_n 0, 1), (24, .getfield 60, 3), (27, .invokevirtual 247, 3), (30, .iload_n 1, 1), (31, .aload_n 0, 1), (32, .getfield 60, 3), (35, .getfield 256, 3), (38, .if_icmp .lt 6, 3), (41, .bipush (-2), 2), (43, .ireturn, 1), (44, .ldc 206, 2), (46, .istore_n 2, 1), (47, .iconst 0, 1), (48, .istore_n 3, 1), (49, .aload_n 0, 1), (50, .getfield 60, 3), (53, .getfield 246, 3), (56, .iload_n 1, 1), (57, .iaload, 1), (58, .bipush 6, 2), (60, .irem, 1), (61, .istore 4, 2), (63, .iconst 0, 1), (64, .istore 5, 2), (66, .iload 5, 2), (68, .aload_n 0, 1), (69, .getfield 19, 3), (72, .getfield 80, 3), (75, .if_icmp .ge 75, 3), (78, .aload_n 0, 1), (79, .getfield 60, 3), (82, .iload 4, 2), (84, .iload 5, 2), (86, .iload_n 1, 1), (87, .invokevirtual 262, 3), (90, .istore 6, 2), (92, .aload_n 0, 1), (93, .getfield 44, 3), (96, .iload 5, 2), (98, .iload 6, 2), (100, .aload_n 0, 1), (101, .getfield 60, 3), (104, .getfield 265, 3), (107, .iload_n 1, 1), (108, .aaload, 1), (109, .iload 5, 2), (111, .iaload, 1), (112, .iload_n 1, 1), (113, .invokevirtual 160, 3), (116, .istore 7, 2), (118, .aload_n 0, 1), (119, .getfield 19, 3), (122, .iload_n 1, 1)]
theorem aX9_gap_0 : decAll cX9_gap laX9_gap_0 = true := by decide +kernel
theorem dX9_gap_0 : decode cX9_gap 0 = .ok (.aload_n 0, 1) := decAll_at aX9_gap_0 0 rfl
theorem dX9_gap_1 : decode cX9_gap 1 = .ok (.getfield 60, 3) := decAll_at aX9_gap_0 1 rfl
theorem dX9_gap_4 : decode cX9_gap 4 = .ok (.getfield 95, 3) := decAll_at aX9_gap_0 2 rfl
theorem dX9_gap_7 : decode cX9_gap 7 = .ok (.ifCond .eq 14, 3) := decAll_at aX9_gap_0 3 rfl
theorem dX9_gap_10 : decode cX9_gap 10 = .ok (.aload_n 0, 1) := decAll_at aX9_gap_0 4 rfl
theorem dX9_gap_11 : decode cX9_gap 11 = .ok (.getfield 19, 3) := decAll_at aX9_gap_0 5 rfl
theorem dX9_gap_14 : decode cX9_gap 14 = .ok (.iload_n 1, 1) := decAll_at aX9_gap_0 6 rfl
theorem dX9_gap_15 : decode cX9_gap 15 = .ok (.invokevirtual 157, 3) := decAll_at aX9_gap_0 7 rfl
theorem dX9_gap_18 : decode cX9_gap 18 = .ok (.ifCond .ne 5, 3) := decAll_at aX9_gap_0 8 rfl
theorem dX9_gap_21 : decode cX9_gap 21 = .ok (.iconst (-1), 1) := decAll_at aX9_gap_0 9 rfl
theorem dX9_gap_22 : decode cX9_gap 22 = .ok (.ireturn, 1) := decAll_at aX9_gap_0 10 rfl
theorem dX9_gap_23 : decode cX9_gap 23 = .ok (.aload_n 0, 1) := decAll_at aX9_gap_0 11 rfl
theorem dX9_gap_24 : decode cX9_gap 24 = .ok (.getfield 60, 3) := decAll_at aX9_gap_0 12 rfl
theorem dX9_gap_27 : decode cX9_gap 27 = .ok (.invokevirtual 247, 3) := decAll_at aX9_gap_0 13 rfl
theorem dX9_gap_30 : decode cX9_gap 30 = .ok (.iload_n 1, 1) := decAll_at aX9_gap_0 14 rfl
theorem dX9_gap_31 : decode cX9_gap 31 = .ok (.aload_n 0, 1) := decAll_at aX9_gap_0 15 rfl
theorem dX9_gap_32 : decode cX9_gap 32 = .ok (.getfield 60, 3) := decAll_at aX9_gap_0 16 rfl
theorem dX9_gap_35 : decode cX9_gap 35 = .ok (.getfield 256, 3) := decAll_at aX9_gap_0 17 rfl
theorem dX9_gap_38 : decode cX9_gap 38 = .ok (.if_icmp .lt 6, 3) := decAll_at aX9_gap_0 18 rfl
theorem dX9_gap_41 : decode cX9_gap 41 = .ok (.bipush (-2), 2) := decAll_at aX9_gap_0 19 rfl
theorem dX9_gap_43 : decode cX9_gap 43 = .ok (.ireturn, 1) := decAll_at aX9_gap_0 20 rfl
theorem dX9_gap_44 : decode cX9_gap 44 = .ok (.ldc 206, 2) := decAll_at aX9_gap_0 21 rfl
theorem dX9_gap_46 : decode cX9_gap 46 = .ok (.istore_n 2, 1) := decAll_at aX9_gap_0 22 rfl
theorem dX9_gap_47 : decode cX9_gap 47 = .ok (.iconst 0, 1) := decAll_at aX9_gap_0 23 rfl
theorem dX9_gap_48 : decode cX9_gap 48 = .ok (.istore_n 3, 1) := decAll_at aX9_gap_0 24 rfl
theorem dX9_gap_49 : decode cX9_gap 49 = .ok (.aload_n 0, 1) := decAll_at aX9_gap_0 25 rfl
theorem dX9_gap_50 : decode cX9_gap 50 = .ok (.getfield 60, 3) := decAll_at aX9_gap_0 26 rfl
theorem dX9_gap_53 : decode cX9_gap 53 = .ok (.getfield 246, 3) := decAll_at aX9_gap_0 27 rfl
theorem dX9_gap_56 : decode cX9_gap 56 = .ok (.iload_n 1, 1) := decAll_at aX9_gap_0 28 rfl
theorem dX9_gap_57 : decode cX9_gap 57 = .ok (.iaload, 1) := decAll_at aX9_gap_0 29 rfl
theorem dX9_gap_58 : decode cX9_gap 58 = .ok (.bipush 6, 2) := decAll_at aX9_gap_0 30 rfl
theorem dX9_gap_60 : decode cX9_gap 60 = .ok (.irem, 1) := decAll_at aX9_gap_0 31 rfl
theorem dX9_gap_61 : decode cX9_gap 61 = .ok (.istore 4, 2) := decAll_at aX9_gap_0 32 rfl
theorem dX9_gap_63 : decode cX9_gap 63 = .ok (.iconst 0, 1) := decAll_at aX9_gap_0 33 rfl
theorem dX9_gap_64 : decode cX9_gap 64 = .ok (.istore 5, 2) := decAll_at aX9_gap_0 34 rfl
theorem dX9_gap_66 : decode cX9_gap 66 = .ok (.iload 5, 2) := decAll_at aX9_gap_0 35 rfl
theorem dX9_gap_68 : decode cX9_gap 68 = .ok (.aload_n 0, 1) := decAll_at aX9_gap_0 36 rfl
theorem dX9_gap_69 : decode cX9_gap 69 = .ok (.getfield 19, 3) := decAll_at aX9_gap_0 37 rfl
theorem dX9_gap_72 : decode cX9_gap 72 = .ok (.getfield 80, 3) := decAll_at aX9_gap_0 38 rfl
theorem dX9_gap_75 : decode cX9_gap 75 = .ok (.if_icmp .ge 75, 3) := decAll_at aX9_gap_0 39 rfl
theorem dX9_gap_78 : decode cX9_gap 78 = .ok (.aload_n 0, 1) := decAll_at aX9_gap_0 40 rfl
theorem dX9_gap_79 : decode cX9_gap 79 = .ok (.getfield 60, 3) := decAll_at aX9_gap_0 41 rfl
theorem dX9_gap_82 : decode cX9_gap 82 = .ok (.iload 4, 2) := decAll_at aX9_gap_0 42 rfl
theorem dX9_gap_84 : decode cX9_gap 84 = .ok (.iload 5, 2) := decAll_at aX9_gap_0 43 rfl
theorem dX9_gap_86 : decode cX9_gap 86 = .ok (.iload_n 1, 1) := decAll_at aX9_gap_0 44 rfl
theorem dX9_gap_87 : decode cX9_gap 87 = .ok (.invokevirtual 262, 3) := decAll_at aX9_gap_0 45 rfl
theorem dX9_gap_90 : decode cX9_gap 90 = .ok (.istore 6, 2) := decAll_at aX9_gap_0 46 rfl
theorem dX9_gap_92 : decode cX9_gap 92 = .ok (.aload_n 0, 1) := decAll_at aX9_gap_0 47 rfl
theorem dX9_gap_93 : decode cX9_gap 93 = .ok (.getfield 44, 3) := decAll_at aX9_gap_0 48 rfl
theorem dX9_gap_96 : decode cX9_gap 96 = .ok (.iload 5, 2) := decAll_at aX9_gap_0 49 rfl
theorem dX9_gap_98 : decode cX9_gap 98 = .ok (.iload 6, 2) := decAll_at aX9_gap_0 50 rfl
theorem dX9_gap_100 : decode cX9_gap 100 = .ok (.aload_n 0, 1) := decAll_at aX9_gap_0 51 rfl
theorem dX9_gap_101 : decode cX9_gap 101 = .ok (.getfield 60, 3) := decAll_at aX9_gap_0 52 rfl
theorem dX9_gap_104 : decode cX9_gap 104 = .ok (.getfield 265, 3) := decAll_at aX9_gap_0 53 rfl
theorem dX9_gap_107 : decode cX9_gap 107 = .ok (.iload_n 1, 1) := decAll_at aX9_gap_0 54 rfl
theorem dX9_gap_108 : decode cX9_gap 108 = .ok (.aaload, 1) := decAll_at aX9_gap_0 55 rfl
theorem dX9_gap_109 : decode cX9_gap 109 = .ok (.iload 5, 2) := decAll_at aX9_gap_0 56 rfl
theorem dX9_gap_111 : decode cX9_gap 111 = .ok (.iaload, 1) := decAll_at aX9_gap_0 57 rfl
theorem dX9_gap_112 : decode cX9_gap 112 = .ok (.iload_n 1, 1) := decAll_at aX9_gap_0 58 rfl
theorem dX9_gap_113 : decode cX9_gap 113 = .ok (.invokevirtual 160, 3) := decAll_at aX9_gap_0 59 rfl
theorem dX9_gap_116 : decode cX9_gap 116 = .ok (.istore 7, 2) := decAll_at aX9_gap_0 60 rfl
theorem dX9_gap_118 : decode cX9_gap 118 = .ok (.aload_n 0, 1) := decAll_at aX9_gap_0 61 rfl
theorem dX9_gap_119 : decode cX9_gap 119 = .ok (.getfield 19, 3) := decAll_at aX9_gap_0 62 rfl
theorem dX9_gap_122 : decode cX9_gap 122 = .ok (.iload_n 1, 1) := decAll_at aX9_gap_0 63 rfl
def laX9_gap_1 : List (Nat × Instr × Nat) := [(123, .iload 7, 2), (125, .invokevirtual 181, 3), (128, .istore 8, 2), (130, .iload_n 2, 1), (131, .iload 8, 2), (133, .invokestatic 268, 3), (136, .istore_n 2, 1), (137, .iload_n 3, 1), (138, .iload 8, 2), (140, .invokestatic 273, 3), (143, .istore_n 3, 1), (144, .iinc 5 1, 3), (147, .goto (-81), 3), (150, .iload_n 3, 1), (151, .iload_n 2, 1), (152, .isub, 1), (153, .ireturn, 1)]
theorem aX9_gap_1 : decAll cX9_gap laX9_gap_1 = true := by decide +kernel
theorem dX9_gap_123 : decode cX9_gap 123 = .ok (.iload 7, 2) := decAll_at aX9_gap_1 0 rfl
theorem dX9_gap_125 : decode cX9_gap 125 = .ok (.invokevirtual 181, 3) := decAll_at aX9_gap_1 1 rfl
theorem dX9_gap_128 : decode cX9_gap 128 = .ok (.istore 8, 2) := decAll_at aX9_gap_1 2 rfl
theorem dX9_gap_130 : decode cX9_gap 130 = .ok (.iload_n 2, 1) := decAll_at aX9_gap_1 3 rfl
theorem dX9_gap_131 : decode cX9_gap 131 = .ok (.iload 8, 2) := decAll_at aX9_gap_1 4 rfl
theorem dX9_gap_133 : decode cX9_gap 133 = .ok (.invokestatic 268, 3) := decAll_at aX9_gap_1 5 rfl
theorem dX9_gap_136 : decode cX9_gap 136 = .ok (.istore_n 2, 1) := decAll_at aX9_gap_1 6 rfl
theorem dX9_gap_137 : decode cX9_gap 137 = .ok (.iload_n 3, 1) := decAll_at aX9_gap_1 7 rfl
theorem dX9_gap_138 : decode cX9_gap 138 = .ok (.iload 8, 2) := decAll_at aX9_gap_1 8 rfl
theorem dX9_gap_140 : decode cX9_gap 140 = .ok (.invokestatic 273, 3) := decAll_at aX9_gap_1 9 rfl
theorem dX9_gap_143 : decode cX9_gap 143 = .ok (.istore_n 3, 1) := decAll_at aX9_gap_1 10 rfl
theorem dX9_gap_144 : decode cX9_gap 144 = .ok (.iinc 5 1, 3) := decAll_at aX9_gap_1 11 rfl
theorem dX9_gap_147 : decode cX9_gap 147 = .ok (.goto (-81), 3) := decAll_at aX9_gap_1 12 rfl
theorem dX9_gap_150 : decode cX9_gap 150 = .ok (.iload_n 3, 1) := decAll_at aX9_gap_1 13 rfl
theorem dX9_gap_151 : decode cX9_gap 151 = .ok (.iload_n 2, 1) := decAll_at aX9_gap_1 14 rfl
theorem dX9_gap_152 : decode cX9_gap 152 = .ok (.isub, 1) := decAll_at aX9_gap_1 15 rfl
theorem dX9_gap_153 : decode cX9_gap 153 = .ok (.ireturn, 1) := decAll_at aX9_gap_1 16 rfl
def laX9_best_0 : List (Nat × Instr × Nat) := [(0, .iload_n 1, 1), (1, .iconst (-1), 1), (2, .if_icmp .eq 14, 3), (5, .aload_n 0, 1), (6, .getfield 19, 3), (9, .iload_n 1, 1), (10, .invokevirtual 157, 3), (13, .ifCond .eq 7, 3), (16, .iconst 1, 1), (17, .goto 4, 3), (20, .iconst 0, 1), (21, .istore_n 2, 1), (22, .iload_n 2, 1), (23, .ifCond .eq 23, 3), (26, .aload_n 0, 1), (27, .getfield 19, 3), (30, .getfield 80, 3), (33, .ifCond .eq 13, 3), (36, .aload_n 0, 1), (37, .getfield 19, 3), (40, .getfield 124, 3), (43, .ifCond .ne 5, 3), (46, .iconst (-1), 1), (47, .ireturn, 1), (48, .aload_n 0, 1), (49, .getfield 19, 3), (52, .getfield 80, 3), (55, .iconst 4, 1), (56, .if_icmp .le 6, 3), (59, .bipush (-2), 2), (61, .ireturn, 1), (62, .aload_n 0, 1), (63, .getfield 69, 3), (66, .aload_n 0, 1), (67, .getfield 60, 3), (70, .getfield 133, 3), (73, .iconst (-1), 1), (74, .invokevirtual 276, 3), (77, .aload_n 0, 1), (78, .getfield 69, 3), (81, .invokevirtual 279, 3), (84, .ldc 206, 2), (86, .if_icmp .ne 6, 3), (89, .bipush (-2), 2), (91, .ireturn, 1), (92, .iload_n 1, 1), (93, .iconst (-1), 1), (94, .if_icmp .ne 13, 3), (97, .aload_n 0, 1), (98, .getfield 69, 3), (101, .invokevirtual 279, 3), (104, .goto 11, 3), (107, .aload_n 0, 1), (108, .getfield 69, 3), (111, .iload_n 1, 1), (112, .invokevirtual 281, 3), (115, .ireturn, 1)]
theorem aX9_best_0 : decAll cX9_best laX9_best_0 = true := by decide +kernel
theorem dX9_best_0 : decode cX9_best 0 = .ok (.iload_n 1, 1) := decAll_at aX9_best_0 0 rfl
theorem dX9_best_1 : decode cX9_best 1 = .ok (.iconst (-1), 1) := decAll_at aX9_best_0 1 rfl
theorem dX9_best_2 : decode cX9_best 2 = .ok (.if_icmp .eq 14, 3) := decAll_at aX9_best_0 2 rfl
theorem dX9_best_5 : decode cX9_best 5 = .ok (.aload_n 0, 1) := decAll_at aX9_best_0 3 rfl
theorem dX9_best_6 : decode cX9_best 6 = .ok (.getfield 19, 3) := decAll_at aX9_best_0 4 rfl
theorem dX9_best_9 : decode cX9_best 9 = .ok (.iload_n 1, 1) := decAll_at aX9_best_0 5 rfl
theorem dX9_best_10 : decode cX9_best 10 = .ok (.invokevirtual 157, 3) := decAll_at aX9_best_0 6 rfl
theorem dX9_best_13 : decode cX9_best 13 = .ok (.ifCond .eq 7, 3) := decAll_at aX9_best_0 7 rfl
theorem dX9_best_16 : decode cX9_best 16 = .ok (.iconst 1, 1) := decAll_at aX9_best_0 8 rfl
theorem dX9_best_17 : decode cX9_best 17 = .ok (.goto 4, 3) := decAll_at aX9_best_0 9 rfl
theorem dX9_best_20 : decode cX9_best 20 = .ok (.iconst 0, 1) := decAll_at aX9_best_0 10 rfl
theorem dX9_best_21 : decode cX9_best 21 = .ok (.istore_n 2, 1) := decAll_at aX9_best_0 11 rfl
theorem dX9_best_22 : decode cX9_best 22 = .ok (.iload_n 2, 1) := decAll_at aX9_best_0 12 rfl
theorem dX9_best_23 : decode cX9_best 23 = .ok (.ifCond .eq 23, 3) := decAll_at aX9_best_0 13 rfl
theorem dX9_best_26 : decode cX9_best 26 = .ok (.aload_n 0, 1) := decAll_at aX9_best_0 14 rfl
theorem dX9_best_27 : decode cX9_best 27 = .ok (.getfield 19, 3) := decAll_at aX9_best_0 15 rfl
theorem dX9_best_30 : decode cX9_best 30 = .ok (.getfield 80, 3) := decAll_at aX9_best_0 16 rfl
theorem dX9_best_33 : decode cX9_best 33 = .ok (.ifCond .eq 13, 3) := decAll_at aX9_best_0 17 rfl
theorem dX9_best_36 : decode cX9_best 36 = .ok (.aload_n 0, 1) := decAll_at aX9_best_0 18 rfl
theorem dX9_best_37 : decode cX9_best 37 = .ok (.getfield 19, 3) := decAll_at aX9_best_0 19 rfl
theorem dX9_best_40 : decode cX9_best 40 = .ok (.getfield 124, 3) := decAll_at aX9_best_0 20 rfl
theorem dX9_best_43 : decode cX9_best 43 = .ok (.ifCond .ne 5, 3) := decAll_at aX9_best_0 21 rfl
theorem dX9_best_46 : decode cX9_best 46 = .ok (.iconst (-1), 1) := decAll_at aX9_best_0 22 rfl
theorem dX9_best_47 : decode cX9_best 47 = .ok (.ireturn, 1) := decAll_at aX9_best_0 23 rfl
theorem dX9_best_48 : decode cX9_best 48 = .ok (.aload_n 0, 1) := decAll_at aX9_best_0 24 rfl
theorem dX9_best_49 : decode cX9_best 49 = .ok (.getfield 19, 3) := decAll_at aX9_best_0 25 rfl
theorem dX9_best_52 : decode cX9_best 52 = .ok (.getfield 80, 3) := decAll_at aX9_best_0 26 rfl
theorem dX9_best_55 : decode cX9_best 55 = .ok (.iconst 4, 1) := decAll_at aX9_best_0 27 rfl
theorem dX9_best_56 : decode cX9_best 56 = .ok (.if_icmp .le 6, 3) := decAll_at aX9_best_0 28 rfl
theorem dX9_best_59 : decode cX9_best 59 = .ok (.bipush (-2), 2) := decAll_at aX9_best_0 29 rfl
theorem dX9_best_61 : decode cX9_best 61 = .ok (.ireturn, 1) := decAll_at aX9_best_0 30 rfl
theorem dX9_best_62 : decode cX9_best 62 = .ok (.aload_n 0, 1) := decAll_at aX9_best_0 31 rfl
theorem dX9_best_63 : decode cX9_best 63 = .ok (.getfield 69, 3) := decAll_at aX9_best_0 32 rfl
theorem dX9_best_66 : decode cX9_best 66 = .ok (.aload_n 0, 1) := decAll_at aX9_best_0 33 rfl
theorem dX9_best_67 : decode cX9_best 67 = .ok (.getfield 60, 3) := decAll_at aX9_best_0 34 rfl
theorem dX9_best_70 : decode cX9_best 70 = .ok (.getfield 133, 3) := decAll_at aX9_best_0 35 rfl
theorem dX9_best_73 : decode cX9_best 73 = .ok (.iconst (-1), 1) := decAll_at aX9_best_0 36 rfl
theorem dX9_best_74 : decode cX9_best 74 = .ok (.invokevirtual 276, 3) := decAll_at aX9_best_0 37 rfl
theorem dX9_best_77 : decode cX9_best 77 = .ok (.aload_n 0, 1) := decAll_at aX9_best_0 38 rfl
theorem dX9_best_78 : decode cX9_best 78 = .ok (.getfield 69, 3) := decAll_at aX9_best_0 39 rfl
theorem dX9_best_81 : decode cX9_best 81 = .ok (.invokevirtual 279, 3) := decAll_at aX9_best_0 40 rfl
theorem dX9_best_84 : decode cX9_best 84 = .ok (.ldc 206, 2) := decAll_at aX9_best_0 41 rfl
theorem dX9_best_86 : decode cX9_best 86 = .ok (.if_icmp .ne 6, 3) := decAll_at aX9_best_0 42 rfl
theorem dX9_best_89 : decode cX9_best 89 = .ok (.bipush (-2), 2) := decAll_at aX9_best_0 43 rfl
theorem dX9_best_91 : decode cX9_best 91 = .ok (.ireturn, 1) := decAll_at aX9_best_0 44 rfl
theorem dX9_best_92 : decode cX9_best 92 = .ok (.iload_n 1, 1) := decAll_at aX9_best_0 45 rfl
theorem dX9_best_93 : decode cX9_best 93 = .ok (.iconst (-1), 1) := decAll_at aX9_best_0 46 rfl
theorem dX9_best_94 : decode cX9_best 94 = .ok (.if_icmp .ne 13, 3) := decAll_at aX9_best_0 47 rfl
theorem dX9_best_97 : decode cX9_best 97 = .ok (.aload_n 0, 1) := decAll_at aX9_best_0 48 rfl
theorem dX9_best_98 : decode cX9_best 98 = .ok (.getfield 69, 3) := decAll_at aX9_best_0 49 rfl
theorem dX9_best_101 : decode cX9_best 101 = .ok (.invokevirtual 279, 3) := decAll_at aX9_best_0 50 rfl
theorem dX9_best_104 : decode cX9_best 104 = .ok (.goto 11, 3) := decAll_at aX9_best_0 51 rfl
theorem dX9_best_107 : decode cX9_best 107 = .ok (.aload_n 0, 1) := decAll_at aX9_best_0 52 rfl
theorem dX9_best_108 : decode cX9_best 108 = .ok (.getfield 69, 3) := decAll_at aX9_best_0 53 rfl
theorem dX9_best_111 : decode cX9_best 111 = .ok (.iload_n 1, 1) := decAll_at aX9_best_0 54 rfl
theorem dX9_best_112 : decode cX9_best 112 = .ok (.invokevirtual 281, 3) := decAll_at aX9_best_0 55 rfl
theorem dX9_best_115 : decode cX9_best 115 = .ok (.ireturn, 1) := decAll_at aX9_best_0 56 rfl
def laX9_often_0 : List (Nat × Instr × Nat) := [(0, .iload_n 1, 1), (1, .ifCond .lt 28, 3), (4, .iload_n 1, 1), (5, .iconst 3, 1), (6, .if_icmp .gt 23, 3), (9, .aload_n 0, 1), (10, .getfield 19, 3), (13, .getfield 80, 3), (16, .ifCond .eq 13, 3), (19, .aload_n 0, 1), (20, .getfield 19, 3), (23, .getfield 124, 3), (26, .ifCond .ne 5, 3), (29, .iconst (-1), 1), (30, .ireturn, 1), (31, .aload_n 0, 1), (32, .getfield 19, 3), (35, .getfield 80, 3), (38, .iconst 4, 1), (39, .if_icmp .le 6, 3), (42, .bipush (-2), 2), (44, .ireturn, 1), (45, .aload_n 0, 1), (46, .getfield 69, 3), (49, .aload_n 0, 1), (50, .getfield 60, 3), (53, .getfield 133, 3), (56, .iload_n 1, 1), (57, .invokevirtual 276, 3), (60, .aload_n 0, 1), (61, .getfield 69, 3), (64, .invokevirtual 279, 3), (67, .ldc 206, 2), (69, .if_icmp .ne 8, 3), (72, .bipush (-2), 2), (74, .goto 10, 3), (77, .aload_n 0, 1), (78, .getfield 69, 3), (81, .invokevirtual 279, 3), (84, .ireturn, 1)]
theorem aX9_often_0 : decAll cX9_often laX9_often_0 = true := by decide +kernel
theorem dX9_often_0 : decode cX9_often 0 = .ok (.iload_n 1, 1) := decAll_at aX9_often_0 0 rfl
theorem dX9_often_1 : decode cX9_often 1 = .ok (.ifCond .lt 28, 3) := decAll_at aX9_often_0 1 rfl
theorem dX9_often_4 : decode cX9_often 4 = .ok (.iload_n 1, 1) := decAll_at aX9_often_0 2 rfl
theorem dX9_often_5 : decode cX9_often 5 = .ok (.iconst 3, 1) := decAll_at aX9_often_0 3 rfl
theorem dX9_often_6 : decode cX9_often 6 = .ok (.if_icmp .gt 23, 3) := decAll_at aX9_often_0 4 rfl
theorem dX9_often_9 : decode cX9_often 9 = .ok (.aload_n 0, 1) := decAll_at aX9_often_0 5 rfl
theorem dX9_often_10 : decode cX9_often 10 = .ok (.getfield 19, 3) := decAll_at aX9_often_0 6 rfl
theorem dX9_often_13 : decode cX9_often 13 = .ok (.getfield 80, 3) := decAll_at aX9_often_0 7 rfl
theorem dX9_often_16 : decode cX9_often 16 = .ok (.ifCond .eq 13, 3) := decAll_at aX9_often_0 8 rfl
theorem dX9_often_19 : decode cX9_often 19 = .ok (.aload_n 0, 1) := decAll_at aX9_often_0 9 rfl
theorem dX9_often_20 : decode cX9_often 20 = .ok (.getfield 19, 3) := decAll_at aX9_often_0 10 rfl
theorem dX9_often_23 : decode cX9_often 23 = .ok (.getfield 124, 3) := decAll_at aX9_often_0 11 rfl
theorem dX9_often_26 : decode cX9_often 26 = .ok (.ifCond .ne 5, 3) := decAll_at aX9_often_0 12 rfl
theorem dX9_often_29 : decode cX9_often 29 = .ok (.iconst (-1), 1) := decAll_at aX9_often_0 13 rfl
theorem dX9_often_30 : decode cX9_often 30 = .ok (.ireturn, 1) := decAll_at aX9_often_0 14 rfl
theorem dX9_often_31 : decode cX9_often 31 = .ok (.aload_n 0, 1) := decAll_at aX9_often_0 15 rfl
theorem dX9_often_32 : decode cX9_often 32 = .ok (.getfield 19, 3) := decAll_at aX9_often_0 16 rfl
theorem dX9_often_35 : decode cX9_often 35 = .ok (.getfield 80, 3) := decAll_at aX9_often_0 17 rfl
theorem dX9_often_38 : decode cX9_often 38 = .ok (.iconst 4, 1) := decAll_at aX9_often_0 18 rfl
theorem dX9_often_39 : decode cX9_often 39 = .ok (.if_icmp .le 6, 3) := decAll_at aX9_often_0 19 rfl
theorem dX9_often_42 : decode cX9_often 42 = .ok (.bipush (-2), 2) := decAll_at aX9_often_0 20 rfl
theorem dX9_often_44 : decode cX9_often 44 = .ok (.ireturn, 1) := decAll_at aX9_often_0 21 rfl
theorem dX9_often_45 : decode cX9_often 45 = .ok (.aload_n 0, 1) := decAll_at aX9_often_0 22 rfl
theorem dX9_often_46 : decode cX9_often 46 = .ok (.getfield 69, 3) := decAll_at aX9_often_0 23 rfl
theorem dX9_often_49 : decode cX9_often 49 = .ok (.aload_n 0, 1) := decAll_at aX9_often_0 24 rfl
theorem dX9_often_50 : decode cX9_often 50 = .ok (.getfield 60, 3) := decAll_at aX9_often_0 25 rfl
theorem dX9_often_53 : decode cX9_often 53 = .ok (.getfield 133, 3) := decAll_at aX9_often_0 26 rfl
theorem dX9_often_56 : decode cX9_often 56 = .ok (.iload_n 1, 1) := decAll_at aX9_often_0 27 rfl
theorem dX9_often_57 : decode cX9_often 57 = .ok (.invokevirtual 276, 3) := decAll_at aX9_often_0 28 rfl
theorem dX9_often_60 : decode cX9_often 60 = .ok (.aload_n 0, 1) := decAll_at aX9_often_0 29 rfl
theorem dX9_often_61 : decode cX9_often 61 = .ok (.getfield 69, 3) := decAll_at aX9_often_0 30 rfl
theorem dX9_often_64 : decode cX9_often 64 = .ok (.invokevirtual 279, 3) := decAll_at aX9_often_0 31 rfl
theorem dX9_often_67 : decode cX9_often 67 = .ok (.ldc 206, 2) := decAll_at aX9_often_0 32 rfl
theorem dX9_often_69 : decode cX9_often 69 = .ok (.if_icmp .ne 8, 3) := decAll_at aX9_often_0 33 rfl
theorem dX9_often_72 : decode cX9_often 72 = .ok (.bipush (-2), 2) := decAll_at aX9_often_0 34 rfl
theorem dX9_often_74 : decode cX9_often 74 = .ok (.goto 10, 3) := decAll_at aX9_often_0 35 rfl
theorem dX9_often_77 : decode cX9_often 77 = .ok (.aload_n 0, 1) := decAll_at aX9_often_0 36 rfl
theorem dX9_often_78 : decode cX9_often 78 = .ok (.getfield 69, 3) := decAll_at aX9_often_0 37 rfl
theorem dX9_often_81 : decode cX9_often 81 = .ok (.invokevirtual 279, 3) := decAll_at aX9_often_0 38 rfl
theorem dX9_often_84 : decode cX9_often 84 = .ok (.ireturn, 1) := decAll_at aX9_often_0 39 rfl
def laX9_edge_0 : List (Nat × Instr × Nat) := [(0, .aload_n 0, 1), (1, .getfield 19, 3), (4, .getfield 80, 3), (7, .ifCond .eq 13, 3), (10, .aload_n 0, 1), (11, .getfield 19, 3), (14, .getfield 124, 3), (17, .ifCond .ne 5, 3), (20, .iconst (-1), 1), (21, .ireturn, 1), (22, .aload_n 0, 1), (23, .getfield 19, 3), (26, .getfield 80, 3), (29, .iconst 4, 1), (30, .if_icmp .le 6, 3), (33, .bipush (-2), 2), (35, .ireturn, 1), (36, .aload_n 0, 1), (37, .getfield 69, 3), (40, .iconst 0, 1), (41, .iconst 0, 1), (42, .invokevirtual 276, 3), (45, .aload_n 0, 1), (46, .getfield 69, 3), (49, .invokevirtual 279, 3), (52, .istore_n 1, 1), (53, .iconst 0, 1), (54, .istore_n 2, 1), (55, .iconst 0, 1), (56, .istore_n 3, 1), (57, .iload_n 3, 1), (58, .bipush 121, 2), (60, .if_icmp .gt 75, 3), (63, .iload_n 1, 1), (64, .ldc 206, 2), (66, .if_icmp .ge 69, 3), (69, .iload_n 2, 1), (70, .bipush 120, 2), (72, .if_icmp .gt 63, 3), (75, .aload_n 0, 1), (76, .getfield 69, 3), (79, .iload_n 2, 1), (80, .iconst (-1), 1), (81, .invokevirtual 276, 3), (84, .iload_n 1, 1), (85, .aload_n 0, 1), (86, .getfield 69, 3), (89, .invokevirtual 279, 3), (92, .isub, 1), (93, .istore 4, 2), (95, .aload_n 0, 1), (96, .getfield 69, 3), (99, .invokevirtual 284, 3), (102, .istore 5, 2), (104, .iload 4, 2), (106, .ifCond .le 8, 3), (109, .iload 5, 2), (111, .ifCond .gt 5, 3), (114, .iload_n 2, 1), (115, .ireturn, 1), (116, .iload_n 2, 1), (117, .iload 4, 2), (119, .iload 5, 2), (121, .iadd, 1)]
theorem aX9_edge_0 : decAll cX9_edge laX9_edge_0 = true := by decide +kernel
theorem dX9_edge_0 : decode cX9_edge 0 = .ok (.aload_n 0, 1) := decAll_at aX9_edge_0 0 rfl
theorem dX9_edge_1 : decode cX9_edge 1 = .ok (.getfield 19, 3) := decAll_at aX9_edge_0 1 rfl
theorem dX9_edge_4 : decode cX9_edge 4 = .ok (.getfield 80, 3) := decAll_at aX9_edge_0 2 rfl
theorem dX9_edge_7 : decode cX9_edge 7 = .ok (.ifCond .eq 13, 3) := decAll_at aX9_edge_0 3 rfl
theorem dX9_edge_10 : decode cX9_edge 10 = .ok (.aload_n 0, 1) := decAll_at aX9_edge_0 4 rfl
theorem dX9_edge_11 : decode cX9_edge 11 = .ok (.getfield 19, 3) := decAll_at aX9_edge_0 5 rfl
theorem dX9_edge_14 : decode cX9_edge 14 = .ok (.getfield 124, 3) := decAll_at aX9_edge_0 6 rfl
theorem dX9_edge_17 : decode cX9_edge 17 = .ok (.ifCond .ne 5, 3) := decAll_at aX9_edge_0 7 rfl
theorem dX9_edge_20 : decode cX9_edge 20 = .ok (.iconst (-1), 1) := decAll_at aX9_edge_0 8 rfl
theorem dX9_edge_21 : decode cX9_edge 21 = .ok (.ireturn, 1) := decAll_at aX9_edge_0 9 rfl
theorem dX9_edge_22 : decode cX9_edge 22 = .ok (.aload_n 0, 1) := decAll_at aX9_edge_0 10 rfl
theorem dX9_edge_23 : decode cX9_edge 23 = .ok (.getfield 19, 3) := decAll_at aX9_edge_0 11 rfl
theorem dX9_edge_26 : decode cX9_edge 26 = .ok (.getfield 80, 3) := decAll_at aX9_edge_0 12 rfl
theorem dX9_edge_29 : decode cX9_edge 29 = .ok (.iconst 4, 1) := decAll_at aX9_edge_0 13 rfl
theorem dX9_edge_30 : decode cX9_edge 30 = .ok (.if_icmp .le 6, 3) := decAll_at aX9_edge_0 14 rfl
theorem dX9_edge_33 : decode cX9_edge 33 = .ok (.bipush (-2), 2) := decAll_at aX9_edge_0 15 rfl
theorem dX9_edge_35 : decode cX9_edge 35 = .ok (.ireturn, 1) := decAll_at aX9_edge_0 16 rfl
theorem dX9_edge_36 : decode cX9_edge 36 = .ok (.aload_n 0, 1) := decAll_at aX9_edge_0 17 rfl
theorem dX9_edge_37 : decode cX9_edge 37 = .ok (.getfield 69, 3) := decAll_at aX9_edge_0 18 rfl
theorem dX9_edge_40 : decode cX9_edge 40 = .ok (.iconst 0, 1) := decAll_at aX9_edge_0 19 rfl
theorem dX9_edge_41 : decode cX9_edge 41 = .ok (.iconst 0, 1) := decAll_at aX9_edge_0 20 rfl
theorem dX9_edge_42 : decode cX9_edge 42 = .ok (.invokevirtual 276, 3) := decAll_at aX9_edge_0 21 rfl
theorem dX9_edge_45 : decode cX9_edge 45 = .ok (.aload_n 0, 1) := decAll_at aX9_edge_0 22 rfl
theorem dX9_edge_46 : decode cX9_edge 46 = .ok (.getfield 69, 3) := decAll_at aX9_edge_0 23 rfl
theorem dX9_edge_49 : decode cX9_edge 49 = .ok (.invokevirtual 279, 3) := decAll_at aX9_edge_0 24 rfl
theorem dX9_edge_52 : decode cX9_edge 52 = .ok (.istore_n 1, 1) := decAll_at aX9_edge_0 25 rfl
theorem dX9_edge_53 : decode cX9_edge 53 = .ok (.iconst 0, 1) := decAll_at aX9_edge_0 26 rfl
theorem dX9_edge_54 : decode cX9_edge 54 = .ok (.istore_n 2, 1) := decAll_at aX9_edge_0 27 rfl
theorem dX9_edge_55 : decode cX9_edge 55 = .ok (.iconst 0, 1) := decAll_at aX9_edge_0 28 rfl
theorem dX9_edge_56 : decode cX9_edge 56 = .ok (.istore_n 3, 1) := decAll_at aX9_edge_0 29 rfl
theorem dX9_edge_57 : decode cX9_edge 57 = .ok (.iload_n 3, 1) := decAll_at aX9_edge_0 30 rfl
theorem dX9_edge_58 : decode cX9_edge 58 = .ok (.bipush 121, 2) := decAll_at aX9_edge_0 31 rfl
theorem dX9_edge_60 : decode cX9_edge 60 = .ok (.if_icmp .gt 75, 3) := decAll_at aX9_edge_0 32 rfl
theorem dX9_edge_63 : decode cX9_edge 63 = .ok (.iload_n 1, 1) := decAll_at aX9_edge_0 33 rfl
theorem dX9_edge_64 : decode cX9_edge 64 = .ok (.ldc 206, 2) := decAll_at aX9_edge_0 34 rfl
theorem dX9_edge_66 : decode cX9_edge 66 = .ok (.if_icmp .ge 69, 3) := decAll_at aX9_edge_0 35 rfl
theorem dX9_edge_69 : decode cX9_edge 69 = .ok (.iload_n 2, 1) := decAll_at aX9_edge_0 36 rfl
theorem dX9_edge_70 : decode cX9_edge 70 = .ok (.bipush 120, 2) := decAll_at aX9_edge_0 37 rfl
theorem dX9_edge_72 : decode cX9_edge 72 = .ok (.if_icmp .gt 63, 3) := decAll_at aX9_edge_0 38 rfl
theorem dX9_edge_75 : decode cX9_edge 75 = .ok (.aload_n 0, 1) := decAll_at aX9_edge_0 39 rfl
theorem dX9_edge_76 : decode cX9_edge 76 = .ok (.getfield 69, 3) := decAll_at aX9_edge_0 40 rfl
theorem dX9_edge_79 : decode cX9_edge 79 = .ok (.iload_n 2, 1) := decAll_at aX9_edge_0 41 rfl
theorem dX9_edge_80 : decode cX9_edge 80 = .ok (.iconst (-1), 1) := decAll_at aX9_edge_0 42 rfl
theorem dX9_edge_81 : decode cX9_edge 81 = .ok (.invokevirtual 276, 3) := decAll_at aX9_edge_0 43 rfl
theorem dX9_edge_84 : decode cX9_edge 84 = .ok (.iload_n 1, 1) := decAll_at aX9_edge_0 44 rfl
theorem dX9_edge_85 : decode cX9_edge 85 = .ok (.aload_n 0, 1) := decAll_at aX9_edge_0 45 rfl
theorem dX9_edge_86 : decode cX9_edge 86 = .ok (.getfield 69, 3) := decAll_at aX9_edge_0 46 rfl
theorem dX9_edge_89 : decode cX9_edge 89 = .ok (.invokevirtual 279, 3) := decAll_at aX9_edge_0 47 rfl
theorem dX9_edge_92 : decode cX9_edge 92 = .ok (.isub, 1) := decAll_at aX9_edge_0 48 rfl
theorem dX9_edge_93 : decode cX9_edge 93 = .ok (.istore 4, 2) := decAll_at aX9_edge_0 49 rfl
theorem dX9_edge_95 : decode cX9_edge 95 = .ok (.aload_n 0, 1) := decAll_at aX9_edge_0 50 rfl
theorem dX9_edge_96 : decode cX9_edge 96 = .ok (.getfield 69, 3) := decAll_at aX9_edge_0 51 rfl
theorem dX9_edge_99 : decode cX9_edge 99 = .ok (.invokevirtual 284, 3) := decAll_at aX9_edge_0 52 rfl
theorem dX9_edge_102 : decode cX9_edge 102 = .ok (.istore 5, 2) := decAll_at aX9_edge_0 53 rfl
theorem dX9_edge_104 : decode cX9_edge 104 = .ok (.iload 4, 2) := decAll_at aX9_edge_0 54 rfl
theorem dX9_edge_106 : decode cX9_edge 106 = .ok (.ifCond .le 8, 3) := decAll_at aX9_edge_0 55 rfl
theorem dX9_edge_109 : decode cX9_edge 109 = .ok (.iload 5, 2) := decAll_at aX9_edge_0 56 rfl
theorem dX9_edge_111 : decode cX9_edge 111 = .ok (.ifCond .gt 5, 3) := decAll_at aX9_edge_0 57 rfl
theorem dX9_edge_114 : decode cX9_edge 114 = .ok (.iload_n 2, 1) := decAll_at aX9_edge_0 58 rfl
theorem dX9_edge_115 : decode cX9_edge 115 = .ok (.ireturn, 1) := decAll_at aX9_edge_0 59 rfl
theorem dX9_edge_116 : decode cX9_edge 116 = .ok (.iload_n 2, 1) := decAll_at aX9_edge_0 60 rfl
theorem dX9_edge_117 : decode cX9_edge 117 = .ok (.iload 4, 2) := decAll_at aX9_edge_0 61 rfl
theorem dX9_edge_119 : decode cX9_edge 119 = .ok (.iload 5, 2) := decAll_at aX9_edge_0 62 rfl
theorem dX9_edge_121 : decode cX9_edge 121 = .ok (.iadd, 1) := decAll_at aX9_edge_0 63 rfl
def laX9_edge_1 : List (Nat × Instr × Nat) := [(122, .iconst 1, 1), (123, .isub, 1), (124, .iload 5, 2), (126, .idiv, 1), (127, .iadd, 1), (128, .istore_n 2, 1), (129, .iinc 3 1, 3), (132, .goto (-75), 3), (135, .bipush (-2), 2), (137, .ireturn, 1)]
theorem aX9_edge_1 : decAll cX9_edge laX9_edge_1 = true := by decide +kernel
theorem dX9_edge_122 : decode cX9_edge 122 = .ok (.iconst 1, 1) := decAll_at aX9_edge_1 0 rfl
theorem dX9_edge_123 : decode cX9_edge 123 = .ok (.isub, 1) := decAll_at aX9_edge_1 1 rfl
theorem dX9_edge_124 : decode cX9_edge 124 = .ok (.iload 5, 2) := decAll_at aX9_edge_1 2 rfl
theorem dX9_edge_126 : decode cX9_edge 126 = .ok (.idiv, 1) := decAll_at aX9_edge_1 3 rfl
theorem dX9_edge_127 : decode cX9_edge 127 = .ok (.iadd, 1) := decAll_at aX9_edge_1 4 rfl
theorem dX9_edge_128 : decode cX9_edge 128 = .ok (.istore_n 2, 1) := decAll_at aX9_edge_1 5 rfl
theorem dX9_edge_129 : decode cX9_edge 129 = .ok (.iinc 3 1, 3) := decAll_at aX9_edge_1 6 rfl
theorem dX9_edge_132 : decode cX9_edge 132 = .ok (.goto (-75), 3) := decAll_at aX9_edge_1 7 rfl
theorem dX9_edge_135 : decode cX9_edge 135 = .ok (.bipush (-2), 2) := decAll_at aX9_edge_1 8 rfl
theorem dX9_edge_137 : decode cX9_edge 137 = .ok (.ireturn, 1) := decAll_at aX9_edge_1 9 rfl
def laX9_bands_0 : List (Nat × Instr × Nat) := [(0, .iconst 1, 1), (1, .aload_n 0, 1), (2, .getfield 19, 3), (5, .getfield 80, 3), (8, .ishl, 1), (9, .istore 4, 2), (11, .iload_n 1, 1), (12, .ifCond .le 29, 3), (15, .iload_n 1, 1), (16, .iload 4, 2), (18, .if_icmp .ge 23, 3), (21, .iload_n 2, 1), (22, .ifCond .le 19, 3), (25, .iload_n 2, 1), (26, .iload 4, 2), (28, .if_icmp .ge 13, 3), (31, .iload_n 1, 1), (32, .iload_n 2, 1), (33, .iand, 1), (34, .ifCond .ne 7, 3), (37, .iconst 1, 1), (38, .goto 4, 3), (41, .iconst 0, 1), (42, .istore 5, 2), (44, .iload 5, 2), (46, .ifCond .eq 22, 3), (49, .iload_n 3, 1), (50, .ifCond .lt 18, 3), (53, .iload_n 3, 1), (54, .iconst 1, 1), (55, .if_icmp .gt 13, 3), (58, .aload_n 0, 1), (59, .getfield 19, 3), (62, .getfield 124, 3), (65, .ifCond .ne 5, 3), (68, .iconst (-1), 1), (69, .ireturn, 1), (70, .aload_n 0, 1), (71, .getfield 76, 3), (74, .iload_n 1, 1), (75, .iload_n 2, 1), (76, .invokevirtual 285, 3), (79, .ifCond .ne 6, 3), (82, .bipush (-2), 2), (84, .ireturn, 1), (85, .aload_n 0, 1), (86, .getfield 76, 3), (89, .invokevirtual 288, 3), (92, .istore 6, 2), (94, .iload_n 3, 1), (95, .ifCond .ne 8, 3), (98, .iload 6, 2), (100, .goto 12, 3), (103, .aload_n 0, 1), (104, .getfield 76, 3), (107, .iload 6, 2), (109, .invokevirtual 291, 3), (112, .ireturn, 1)]
theorem aX9_bands_0 : decAll cX9_bands laX9_bands_0 = true := by decide +kernel
theorem dX9_bands_0 : decode cX9_bands 0 = .ok (.iconst 1, 1) := decAll_at aX9_bands_0 0 rfl
theorem dX9_bands_1 : decode cX9_bands 1 = .ok (.aload_n 0, 1) := decAll_at aX9_bands_0 1 rfl
theorem dX9_bands_2 : decode cX9_bands 2 = .ok (.getfield 19, 3) := decAll_at aX9_bands_0 2 rfl
theorem dX9_bands_5 : decode cX9_bands 5 = .ok (.getfield 80, 3) := decAll_at aX9_bands_0 3 rfl
theorem dX9_bands_8 : decode cX9_bands 8 = .ok (.ishl, 1) := decAll_at aX9_bands_0 4 rfl
theorem dX9_bands_9 : decode cX9_bands 9 = .ok (.istore 4, 2) := decAll_at aX9_bands_0 5 rfl
theorem dX9_bands_11 : decode cX9_bands 11 = .ok (.iload_n 1, 1) := decAll_at aX9_bands_0 6 rfl
theorem dX9_bands_12 : decode cX9_bands 12 = .ok (.ifCond .le 29, 3) := decAll_at aX9_bands_0 7 rfl
theorem dX9_bands_15 : decode cX9_bands 15 = .ok (.iload_n 1, 1) := decAll_at aX9_bands_0 8 rfl
theorem dX9_bands_16 : decode cX9_bands 16 = .ok (.iload 4, 2) := decAll_at aX9_bands_0 9 rfl
theorem dX9_bands_18 : decode cX9_bands 18 = .ok (.if_icmp .ge 23, 3) := decAll_at aX9_bands_0 10 rfl
theorem dX9_bands_21 : decode cX9_bands 21 = .ok (.iload_n 2, 1) := decAll_at aX9_bands_0 11 rfl
theorem dX9_bands_22 : decode cX9_bands 22 = .ok (.ifCond .le 19, 3) := decAll_at aX9_bands_0 12 rfl
theorem dX9_bands_25 : decode cX9_bands 25 = .ok (.iload_n 2, 1) := decAll_at aX9_bands_0 13 rfl
theorem dX9_bands_26 : decode cX9_bands 26 = .ok (.iload 4, 2) := decAll_at aX9_bands_0 14 rfl
theorem dX9_bands_28 : decode cX9_bands 28 = .ok (.if_icmp .ge 13, 3) := decAll_at aX9_bands_0 15 rfl
theorem dX9_bands_31 : decode cX9_bands 31 = .ok (.iload_n 1, 1) := decAll_at aX9_bands_0 16 rfl
theorem dX9_bands_32 : decode cX9_bands 32 = .ok (.iload_n 2, 1) := decAll_at aX9_bands_0 17 rfl
theorem dX9_bands_33 : decode cX9_bands 33 = .ok (.iand, 1) := decAll_at aX9_bands_0 18 rfl
theorem dX9_bands_34 : decode cX9_bands 34 = .ok (.ifCond .ne 7, 3) := decAll_at aX9_bands_0 19 rfl
theorem dX9_bands_37 : decode cX9_bands 37 = .ok (.iconst 1, 1) := decAll_at aX9_bands_0 20 rfl
theorem dX9_bands_38 : decode cX9_bands 38 = .ok (.goto 4, 3) := decAll_at aX9_bands_0 21 rfl
theorem dX9_bands_41 : decode cX9_bands 41 = .ok (.iconst 0, 1) := decAll_at aX9_bands_0 22 rfl
theorem dX9_bands_42 : decode cX9_bands 42 = .ok (.istore 5, 2) := decAll_at aX9_bands_0 23 rfl
theorem dX9_bands_44 : decode cX9_bands 44 = .ok (.iload 5, 2) := decAll_at aX9_bands_0 24 rfl
theorem dX9_bands_46 : decode cX9_bands 46 = .ok (.ifCond .eq 22, 3) := decAll_at aX9_bands_0 25 rfl
theorem dX9_bands_49 : decode cX9_bands 49 = .ok (.iload_n 3, 1) := decAll_at aX9_bands_0 26 rfl
theorem dX9_bands_50 : decode cX9_bands 50 = .ok (.ifCond .lt 18, 3) := decAll_at aX9_bands_0 27 rfl
theorem dX9_bands_53 : decode cX9_bands 53 = .ok (.iload_n 3, 1) := decAll_at aX9_bands_0 28 rfl
theorem dX9_bands_54 : decode cX9_bands 54 = .ok (.iconst 1, 1) := decAll_at aX9_bands_0 29 rfl
theorem dX9_bands_55 : decode cX9_bands 55 = .ok (.if_icmp .gt 13, 3) := decAll_at aX9_bands_0 30 rfl
theorem dX9_bands_58 : decode cX9_bands 58 = .ok (.aload_n 0, 1) := decAll_at aX9_bands_0 31 rfl
theorem dX9_bands_59 : decode cX9_bands 59 = .ok (.getfield 19, 3) := decAll_at aX9_bands_0 32 rfl
theorem dX9_bands_62 : decode cX9_bands 62 = .ok (.getfield 124, 3) := decAll_at aX9_bands_0 33 rfl
theorem dX9_bands_65 : decode cX9_bands 65 = .ok (.ifCond .ne 5, 3) := decAll_at aX9_bands_0 34 rfl
theorem dX9_bands_68 : decode cX9_bands 68 = .ok (.iconst (-1), 1) := decAll_at aX9_bands_0 35 rfl
theorem dX9_bands_69 : decode cX9_bands 69 = .ok (.ireturn, 1) := decAll_at aX9_bands_0 36 rfl
theorem dX9_bands_70 : decode cX9_bands 70 = .ok (.aload_n 0, 1) := decAll_at aX9_bands_0 37 rfl
theorem dX9_bands_71 : decode cX9_bands 71 = .ok (.getfield 76, 3) := decAll_at aX9_bands_0 38 rfl
theorem dX9_bands_74 : decode cX9_bands 74 = .ok (.iload_n 1, 1) := decAll_at aX9_bands_0 39 rfl
theorem dX9_bands_75 : decode cX9_bands 75 = .ok (.iload_n 2, 1) := decAll_at aX9_bands_0 40 rfl
theorem dX9_bands_76 : decode cX9_bands 76 = .ok (.invokevirtual 285, 3) := decAll_at aX9_bands_0 41 rfl
theorem dX9_bands_79 : decode cX9_bands 79 = .ok (.ifCond .ne 6, 3) := decAll_at aX9_bands_0 42 rfl
theorem dX9_bands_82 : decode cX9_bands 82 = .ok (.bipush (-2), 2) := decAll_at aX9_bands_0 43 rfl
theorem dX9_bands_84 : decode cX9_bands 84 = .ok (.ireturn, 1) := decAll_at aX9_bands_0 44 rfl
theorem dX9_bands_85 : decode cX9_bands 85 = .ok (.aload_n 0, 1) := decAll_at aX9_bands_0 45 rfl
theorem dX9_bands_86 : decode cX9_bands 86 = .ok (.getfield 76, 3) := decAll_at aX9_bands_0 46 rfl
theorem dX9_bands_89 : decode cX9_bands 89 = .ok (.invokevirtual 288, 3) := decAll_at aX9_bands_0 47 rfl
theorem dX9_bands_92 : decode cX9_bands 92 = .ok (.istore 6, 2) := decAll_at aX9_bands_0 48 rfl
theorem dX9_bands_94 : decode cX9_bands 94 = .ok (.iload_n 3, 1) := decAll_at aX9_bands_0 49 rfl
theorem dX9_bands_95 : decode cX9_bands 95 = .ok (.ifCond .ne 8, 3) := decAll_at aX9_bands_0 50 rfl
theorem dX9_bands_98 : decode cX9_bands 98 = .ok (.iload 6, 2) := decAll_at aX9_bands_0 51 rfl
theorem dX9_bands_100 : decode cX9_bands 100 = .ok (.goto 12, 3) := decAll_at aX9_bands_0 52 rfl
theorem dX9_bands_103 : decode cX9_bands 103 = .ok (.aload_n 0, 1) := decAll_at aX9_bands_0 53 rfl
theorem dX9_bands_104 : decode cX9_bands 104 = .ok (.getfield 76, 3) := decAll_at aX9_bands_0 54 rfl
theorem dX9_bands_107 : decode cX9_bands 107 = .ok (.iload 6, 2) := decAll_at aX9_bands_0 55 rfl
theorem dX9_bands_109 : decode cX9_bands 109 = .ok (.invokevirtual 291, 3) := decAll_at aX9_bands_0 56 rfl
theorem dX9_bands_112 : decode cX9_bands 112 = .ok (.ireturn, 1) := decAll_at aX9_bands_0 57 rfl
def laX9_kettle_0 : List (Nat × Instr × Nat) := [(0, .aload_n 0, 1), (1, .getfield 19, 3), (4, .iload_n 1, 1), (5, .invokevirtual 185, 3), (8, .ifCond .eq 13, 3), (11, .aload_n 0, 1), (12, .getfield 60, 3), (15, .getfield 95, 3), (18, .ifCond .ne 5, 3), (21, .iconst (-1), 1), (22, .ireturn, 1), (23, .aload_n 0, 1), (24, .getfield 60, 3), (27, .invokevirtual 247, 3), (30, .iconst 0, 1), (31, .istore_n 2, 1), (32, .bipush (-2), 2), (34, .istore_n 3, 1), (35, .iconst 0, 1), (36, .istore 4, 2), (38, .iload 4, 2), (40, .aload_n 0, 1), (41, .getfield 19, 3), (44, .getfield 80, 3), (47, .if_icmp .ge 33, 3), (50, .aload_n 0, 1), (51, .getfield 60, 3), (54, .iload_n 1, 1), (55, .iload 4, 2), (57, .invokevirtual 294, 3), (60, .istore 5, 2), (62, .iload 5, 2), (64, .iload_n 2, 1), (65, .if_icmp .le 9, 3), (68, .iload 5, 2), (70, .istore_n 2, 1), (71, .iload 4, 2), (73, .istore_n 3, 1), (74, .iinc 4 1, 3), (77, .goto (-39), 3), (80, .iload_n 3, 1), (81, .ireturn, 1)]
theorem aX9_kettle_0 : decAll cX9_kettle laX9_kettle_0 = true := by decide +kernel
theorem dX9_kettle_0 : decode cX9_kettle 0 = .ok (.aload_n 0, 1) := decAll_at aX9_kettle_0 0 rfl
theorem dX9_kettle_1 : decode cX9_kettle 1 = .ok (.getfield 19, 3) := decAll_at aX9_kettle_0 1 rfl
theorem dX9_kettle_4 : decode cX9_kettle 4 = .ok (.iload_n 1, 1) := decAll_at aX9_kettle_0 2 rfl
theorem dX9_kettle_5 : decode cX9_kettle 5 = .ok (.invokevirtual 185, 3) := decAll_at aX9_kettle_0 3 rfl
theorem dX9_kettle_8 : decode cX9_kettle 8 = .ok (.ifCond .eq 13, 3) := decAll_at aX9_kettle_0 4 rfl
theorem dX9_kettle_11 : decode cX9_kettle 11 = .ok (.aload_n 0, 1) := decAll_at aX9_kettle_0 5 rfl
theorem dX9_kettle_12 : decode cX9_kettle 12 = .ok (.getfield 60, 3) := decAll_at aX9_kettle_0 6 rfl
theorem dX9_kettle_15 : decode cX9_kettle 15 = .ok (.getfield 95, 3) := decAll_at aX9_kettle_0 7 rfl
theorem dX9_kettle_18 : decode cX9_kettle 18 = .ok (.ifCond .ne 5, 3) := decAll_at aX9_kettle_0 8 rfl
theorem dX9_kettle_21 : decode cX9_kettle 21 = .ok (.iconst (-1), 1) := decAll_at aX9_kettle_0 9 rfl
theorem dX9_kettle_22 : decode cX9_kettle 22 = .ok (.ireturn, 1) := decAll_at aX9_kettle_0 10 rfl
theorem dX9_kettle_23 : decode cX9_kettle 23 = .ok (.aload_n 0, 1) := decAll_at aX9_kettle_0 11 rfl
theorem dX9_kettle_24 : decode cX9_kettle 24 = .ok (.getfield 60, 3) := decAll_at aX9_kettle_0 12 rfl
theorem dX9_kettle_27 : decode cX9_kettle 27 = .ok (.invokevirtual 247, 3) := decAll_at aX9_kettle_0 13 rfl
theorem dX9_kettle_30 : decode cX9_kettle 30 = .ok (.iconst 0, 1) := decAll_at aX9_kettle_0 14 rfl
theorem dX9_kettle_31 : decode cX9_kettle 31 = .ok (.istore_n 2, 1) := decAll_at aX9_kettle_0 15 rfl
theorem dX9_kettle_32 : decode cX9_kettle 32 = .ok (.bipush (-2), 2) := decAll_at aX9_kettle_0 16 rfl
theorem dX9_kettle_34 : decode cX9_kettle 34 = .ok (.istore_n 3, 1) := decAll_at aX9_kettle_0 17 rfl
theorem dX9_kettle_35 : decode cX9_kettle 35 = .ok (.iconst 0, 1) := decAll_at aX9_kettle_0 18 rfl
theorem dX9_kettle_36 : decode cX9_kettle 36 = .ok (.istore 4, 2) := decAll_at aX9_kettle_0 19 rfl
theorem dX9_kettle_38 : decode cX9_kettle 38 = .ok (.iload 4, 2) := decAll_at aX9_kettle_0 20 rfl
theorem dX9_kettle_40 : decode cX9_kettle 40 = .ok (.aload_n 0, 1) := decAll_at aX9_kettle_0 21 rfl
theorem dX9_kettle_41 : decode cX9_kettle 41 = .ok (.getfield 19, 3) := decAll_at aX9_kettle_0 22 rfl
theorem dX9_kettle_44 : decode cX9_kettle 44 = .ok (.getfield 80, 3) := decAll_at aX9_kettle_0 23 rfl
theorem dX9_kettle_47 : decode cX9_kettle 47 = .ok (.if_icmp .ge 33, 3) := decAll_at aX9_kettle_0 24 rfl
theorem dX9_kettle_50 : decode cX9_kettle 50 = .ok (.aload_n 0, 1) := decAll_at aX9_kettle_0 25 rfl
theorem dX9_kettle_51 : decode cX9_kettle 51 = .ok (.getfield 60, 3) := decAll_at aX9_kettle_0 26 rfl
theorem dX9_kettle_54 : decode cX9_kettle 54 = .ok (.iload_n 1, 1) := decAll_at aX9_kettle_0 27 rfl
theorem dX9_kettle_55 : decode cX9_kettle 55 = .ok (.iload 4, 2) := decAll_at aX9_kettle_0 28 rfl
theorem dX9_kettle_57 : decode cX9_kettle 57 = .ok (.invokevirtual 294, 3) := decAll_at aX9_kettle_0 29 rfl
theorem dX9_kettle_60 : decode cX9_kettle 60 = .ok (.istore 5, 2) := decAll_at aX9_kettle_0 30 rfl
theorem dX9_kettle_62 : decode cX9_kettle 62 = .ok (.iload 5, 2) := decAll_at aX9_kettle_0 31 rfl
theorem dX9_kettle_64 : decode cX9_kettle 64 = .ok (.iload_n 2, 1) := decAll_at aX9_kettle_0 32 rfl
theorem dX9_kettle_65 : decode cX9_kettle 65 = .ok (.if_icmp .le 9, 3) := decAll_at aX9_kettle_0 33 rfl
theorem dX9_kettle_68 : decode cX9_kettle 68 = .ok (.iload 5, 2) := decAll_at aX9_kettle_0 34 rfl
theorem dX9_kettle_70 : decode cX9_kettle 70 = .ok (.istore_n 2, 1) := decAll_at aX9_kettle_0 35 rfl
theorem dX9_kettle_71 : decode cX9_kettle 71 = .ok (.iload 4, 2) := decAll_at aX9_kettle_0 36 rfl
theorem dX9_kettle_73 : decode cX9_kettle 73 = .ok (.istore_n 3, 1) := decAll_at aX9_kettle_0 37 rfl
theorem dX9_kettle_74 : decode cX9_kettle 74 = .ok (.iinc 4 1, 3) := decAll_at aX9_kettle_0 38 rfl
theorem dX9_kettle_77 : decode cX9_kettle 77 = .ok (.goto (-39), 3) := decAll_at aX9_kettle_0 39 rfl
theorem dX9_kettle_80 : decode cX9_kettle 80 = .ok (.iload_n 3, 1) := decAll_at aX9_kettle_0 40 rfl
theorem dX9_kettle_81 : decode cX9_kettle 81 = .ok (.ireturn, 1) := decAll_at aX9_kettle_0 41 rfl
def laX9_check_0 : List (Nat × Instr × Nat) := [(0, .aload_n 0, 1), (1, .getfield 60, 3), (4, .getfield 95, 3), (7, .ifCond .eq 20, 3), (10, .iload_n 1, 1), (11, .ifCond .lt 16, 3), (14, .iload_n 1, 1), (15, .aload_n 0, 1), (16, .getfield 10, 3), (19, .getfield 136, 3), (22, .iconst 4, 1), (23, .idiv, 1), (24, .if_icmp .le 6, 3), (27, .bipush (-2), 2), (29, .ireturn, 1), (30, .aload_n 0, 1), (31, .getfield 60, 3), (34, .invokevirtual 247, 3), (37, .iload_n 1, 1), (38, .aload_n 0, 1), (39, .getfield 60, 3), (42, .getfield 256, 3), (45, .invokestatic 268, 3), (48, .istore_n 2, 1), (49, .iload_n 1, 1), (50, .aload_n 0, 1), (51, .getfield 60, 3), (54, .getfield 256, 3), (57, .if_icmp .ne 7, 3), (60, .iconst (-1), 1), (61, .goto 4, 3), (64, .iload_n 2, 1), (65, .istore_n 3, 1), (66, .iload_n 2, 1), (67, .iconst 1, 1), (68, .isub, 1), (69, .istore 4, 2), (71, .iload 4, 2), (73, .ifCond .lt 34, 3), (76, .aload_n 0, 1), (77, .getfield 10, 3), (80, .iload 4, 2), (82, .invokevirtual 297, 3), (85, .aload_n 0, 1), (86, .getfield 60, 3), (89, .getfield 300, 3), (92, .iload 4, 2), (94, .iaload, 1), (95, .if_icmp .eq 6, 3), (98, .iload 4, 2), (100, .istore_n 3, 1), (101, .iinc 4 (-1), 3), (104, .goto (-33), 3), (107, .aload_n 0, 1), (108, .getfield 10, 3), (111, .iconst 0, 1), (112, .putfield 136, 3), (115, .iload_n 3, 1), (116, .ireturn, 1)]
theorem aX9_check_0 : decAll cX9_check laX9_check_0 = true := by decide +kernel
theorem dX9_check_0 : decode cX9_check 0 = .ok (.aload_n 0, 1) := decAll_at aX9_check_0 0 rfl
theorem dX9_check_1 : decode cX9_check 1 = .ok (.getfield 60, 3) := decAll_at aX9_check_0 1 rfl
theorem dX9_check_4 : decode cX9_check 4 = .ok (.getfield 95, 3) := decAll_at aX9_check_0 2 rfl
theorem dX9_check_7 : decode cX9_check 7 = .ok (.ifCond .eq 20, 3) := decAll_at aX9_check_0 3 rfl
theorem dX9_check_10 : decode cX9_check 10 = .ok (.iload_n 1, 1) := decAll_at aX9_check_0 4 rfl
theorem dX9_check_11 : decode cX9_check 11 = .ok (.ifCond .lt 16, 3) := decAll_at aX9_check_0 5 rfl
theorem dX9_check_14 : decode cX9_check 14 = .ok (.iload_n 1, 1) := decAll_at aX9_check_0 6 rfl
theorem dX9_check_15 : decode cX9_check 15 = .ok (.aload_n 0, 1) := decAll_at aX9_check_0 7 rfl
theorem dX9_check_16 : decode cX9_check 16 = .ok (.getfield 10, 3) := decAll_at aX9_check_0 8 rfl
theorem dX9_check_19 : decode cX9_check 19 = .ok (.getfield 136, 3) := decAll_at aX9_check_0 9 rfl
theorem dX9_check_22 : decode cX9_check 22 = .ok (.iconst 4, 1) := decAll_at aX9_check_0 10 rfl
theorem dX9_check_23 : decode cX9_check 23 = .ok (.idiv, 1) := decAll_at aX9_check_0 11 rfl
theorem dX9_check_24 : decode cX9_check 24 = .ok (.if_icmp .le 6, 3) := decAll_at aX9_check_0 12 rfl
theorem dX9_check_27 : decode cX9_check 27 = .ok (.bipush (-2), 2) := decAll_at aX9_check_0 13 rfl
theorem dX9_check_29 : decode cX9_check 29 = .ok (.ireturn, 1) := decAll_at aX9_check_0 14 rfl
theorem dX9_check_30 : decode cX9_check 30 = .ok (.aload_n 0, 1) := decAll_at aX9_check_0 15 rfl
theorem dX9_check_31 : decode cX9_check 31 = .ok (.getfield 60, 3) := decAll_at aX9_check_0 16 rfl
theorem dX9_check_34 : decode cX9_check 34 = .ok (.invokevirtual 247, 3) := decAll_at aX9_check_0 17 rfl
theorem dX9_check_37 : decode cX9_check 37 = .ok (.iload_n 1, 1) := decAll_at aX9_check_0 18 rfl
theorem dX9_check_38 : decode cX9_check 38 = .ok (.aload_n 0, 1) := decAll_at aX9_check_0 19 rfl
theorem dX9_check_39 : decode cX9_check 39 = .ok (.getfield 60, 3) := decAll_at aX9_check_0 20 rfl
theorem dX9_check_42 : decode cX9_check 42 = .ok (.getfield 256, 3) := decAll_at aX9_check_0 21 rfl
theorem dX9_check_45 : decode cX9_check 45 = .ok (.invokestatic 268, 3) := decAll_at aX9_check_0 22 rfl
theorem dX9_check_48 : decode cX9_check 48 = .ok (.istore_n 2, 1) := decAll_at aX9_check_0 23 rfl
theorem dX9_check_49 : decode cX9_check 49 = .ok (.iload_n 1, 1) := decAll_at aX9_check_0 24 rfl
theorem dX9_check_50 : decode cX9_check 50 = .ok (.aload_n 0, 1) := decAll_at aX9_check_0 25 rfl
theorem dX9_check_51 : decode cX9_check 51 = .ok (.getfield 60, 3) := decAll_at aX9_check_0 26 rfl
theorem dX9_check_54 : decode cX9_check 54 = .ok (.getfield 256, 3) := decAll_at aX9_check_0 27 rfl
theorem dX9_check_57 : decode cX9_check 57 = .ok (.if_icmp .ne 7, 3) := decAll_at aX9_check_0 28 rfl
theorem dX9_check_60 : decode cX9_check 60 = .ok (.iconst (-1), 1) := decAll_at aX9_check_0 29 rfl
theorem dX9_check_61 : decode cX9_check 61 = .ok (.goto 4, 3) := decAll_at aX9_check_0 30 rfl
theorem dX9_check_64 : decode cX9_check 64 = .ok (.iload_n 2, 1) := decAll_at aX9_check_0 31 rfl
theorem dX9_check_65 : decode cX9_check 65 = .ok (.istore_n 3, 1) := decAll_at aX9_check_0 32 rfl
theorem dX9_check_66 : decode cX9_check 66 = .ok (.iload_n 2, 1) := decAll_at aX9_check_0 33 rfl
theorem dX9_check_67 : decode cX9_check 67 = .ok (.iconst 1, 1) := decAll_at aX9_check_0 34 rfl
theorem dX9_check_68 : decode cX9_check 68 = .ok (.isub, 1) := decAll_at aX9_check_0 35 rfl
theorem dX9_check_69 : decode cX9_check 69 = .ok (.istore 4, 2) := decAll_at aX9_check_0 36 rfl
theorem dX9_check_71 : decode cX9_check 71 = .ok (.iload 4, 2) := decAll_at aX9_check_0 37 rfl
theorem dX9_check_73 : decode cX9_check 73 = .ok (.ifCond .lt 34, 3) := decAll_at aX9_check_0 38 rfl
theorem dX9_check_76 : decode cX9_check 76 = .ok (.aload_n 0, 1) := decAll_at aX9_check_0 39 rfl
theorem dX9_check_77 : decode cX9_check 77 = .ok (.getfield 10, 3) := decAll_at aX9_check_0 40 rfl
theorem dX9_check_80 : decode cX9_check 80 = .ok (.iload 4, 2) := decAll_at aX9_check_0 41 rfl
theorem dX9_check_82 : decode cX9_check 82 = .ok (.invokevirtual 297, 3) := decAll_at aX9_check_0 42 rfl
theorem dX9_check_85 : decode cX9_check 85 = .ok (.aload_n 0, 1) := decAll_at aX9_check_0 43 rfl
theorem dX9_check_86 : decode cX9_check 86 = .ok (.getfield 60, 3) := decAll_at aX9_check_0 44 rfl
theorem dX9_check_89 : decode cX9_check 89 = .ok (.getfield 300, 3) := decAll_at aX9_check_0 45 rfl
theorem dX9_check_92 : decode cX9_check 92 = .ok (.iload 4, 2) := decAll_at aX9_check_0 46 rfl
theorem dX9_check_94 : decode cX9_check 94 = .ok (.iaload, 1) := decAll_at aX9_check_0 47 rfl
theorem dX9_check_95 : decode cX9_check 95 = .ok (.if_icmp .eq 6, 3) := decAll_at aX9_check_0 48 rfl
theorem dX9_check_98 : decode cX9_check 98 = .ok (.iload 4, 2) := decAll_at aX9_check_0 49 rfl
theorem dX9_check_100 : decode cX9_check 100 = .ok (.istore_n 3, 1) := decAll_at aX9_check_0 50 rfl
theorem dX9_check_101 : decode cX9_check 101 = .ok (.iinc 4 (-1), 3) := decAll_at aX9_check_0 51 rfl
theorem dX9_check_104 : decode cX9_check 104 = .ok (.goto (-33), 3) := decAll_at aX9_check_0 52 rfl
theorem dX9_check_107 : decode cX9_check 107 = .ok (.aload_n 0, 1) := decAll_at aX9_check_0 53 rfl
theorem dX9_check_108 : decode cX9_check 108 = .ok (.getfield 10, 3) := decAll_at aX9_check_0 54 rfl
theorem dX9_check_111 : decode cX9_check 111 = .ok (.iconst 0, 1) := decAll_at aX9_check_0 55 rfl
theorem dX9_check_112 : decode cX9_check 112 = .ok (.putfield 136, 3) := decAll_at aX9_check_0 56 rfl
theorem dX9_check_115 : decode cX9_check 115 = .ok (.iload_n 3, 1) := decAll_at aX9_check_0 57 rfl
theorem dX9_check_116 : decode cX9_check 116 = .ok (.ireturn, 1) := decAll_at aX9_check_0 58 rfl
def laX9_count_0 : List (Nat × Instr × Nat) := [(0, .iload_n 1, 1), (1, .bipush 10, 2), (3, .if_icmp .lt 29, 3), (6, .aload_n 0, 1), (7, .getfield 19, 3), (10, .iload_n 1, 1), (11, .bipush 10, 2), (13, .isub, 1), (14, .invokevirtual 157, 3), (17, .ifCond .eq 15, 3), (20, .aload_n 0, 1), (21, .getfield 19, 3), (24, .iload_n 1, 1), (25, .bipush 10, 2), (27, .isub, 1), (28, .invokevirtual 303, 3), (31, .ireturn, 1), (32, .iload_n 1, 1), (33, .tableswitch 119 0 7 #[47, 55, 63, 71, 79, 87, 95, 103], 47), (80, .aload_n 0, 1), (81, .getfield 19, 3), (84, .getfield 80, 3), (87, .ireturn, 1), (88, .aload_n 0, 1), (89, .getfield 19, 3), (92, .getfield 106, 3), (95, .ireturn, 1), (96, .aload_n 0, 1), (97, .getfield 19, 3), (100, .getfield 124, 3), (103, .ireturn, 1), (104, .aload_n 0, 1), (105, .getfield 26, 3), (108, .getfield 154, 3), (111, .ireturn, 1), (112, .aload_n 0, 1), (113, .getfield 10, 3), (116, .getfield 136, 3), (119, .ireturn, 1), (120, .aload_n 0, 1), (121, .getfield 60, 3), (124, .getfield 133, 3), (127, .ireturn, 1), (128, .aload_n 0, 1), (129, .getfield 60, 3), (132, .getfield 118, 3), (135, .ireturn, 1), (136, .aload_n 0, 1), (137, .getfield 60, 3), (140, .getfield 95, 3), (143, .ifCond .eq 7, 3), (146, .iconst 1, 1), (147, .goto 4, 3), (150, .iconst 0, 1), (151, .ireturn, 1), (152, .iconst (-1), 1), (153, .ireturn, 1)]
theorem aX9_count_0 : decAll cX9_count laX9_count_0 = true := by decide +kernel
theorem dX9_count_0 : decode cX9_count 0 = .ok (.iload_n 1, 1) := decAll_at aX9_count_0 0 rfl
theorem dX9_count_1 : decode cX9_count 1 = .ok (.bipush 10, 2) := decAll_at aX9_count_0 1 rfl
theorem dX9_count_3 : decode cX9_count 3 = .ok (.if_icmp .lt 29, 3) := decAll_at aX9_count_0 2 rfl
theorem dX9_count_6 : decode cX9_count 6 = .ok (.aload_n 0, 1) := decAll_at aX9_count_0 3 rfl
theorem dX9_count_7 : decode cX9_count 7 = .ok (.getfield 19, 3) := decAll_at aX9_count_0 4 rfl
theorem dX9_count_10 : decode cX9_count 10 = .ok (.iload_n 1, 1) := decAll_at aX9_count_0 5 rfl
theorem dX9_count_11 : decode cX9_count 11 = .ok (.bipush 10, 2) := decAll_at aX9_count_0 6 rfl
theorem dX9_count_13 : decode cX9_count 13 = .ok (.isub, 1) := decAll_at aX9_count_0 7 rfl
theorem dX9_count_14 : decode cX9_count 14 = .ok (.invokevirtual 157, 3) := decAll_at aX9_count_0 8 rfl
theorem dX9_count_17 : decode cX9_count 17 = .ok (.ifCond .eq 15, 3) := decAll_at aX9_count_0 9 rfl
theorem dX9_count_20 : decode cX9_count 20 = .ok (.aload_n 0, 1) := decAll_at aX9_count_0 10 rfl
theorem dX9_count_21 : decode cX9_count 21 = .ok (.getfield 19, 3) := decAll_at aX9_count_0 11 rfl
theorem dX9_count_24 : decode cX9_count 24 = .ok (.iload_n 1, 1) := decAll_at aX9_count_0 12 rfl
theorem dX9_count_25 : decode cX9_count 25 = .ok (.bipush 10, 2) := decAll_at aX9_count_0 13 rfl
theorem dX9_count_27 : decode cX9_count 27 = .ok (.isub, 1) := decAll_at aX9_count_0 14 rfl
theorem dX9_count_28 : decode cX9_count 28 = .ok (.invokevirtual 303, 3) := decAll_at aX9_count_0 15 rfl
theorem dX9_count_31 : decode cX9_count 31 = .ok (.ireturn, 1) := decAll_at aX9_count_0 16 rfl
theorem dX9_count_32 : decode cX9_count 32 = .ok (.iload_n 1, 1) := decAll_at aX9_count_0 17 rfl
theorem dX9_count_33 : decode cX9_count 33 = .ok (.tableswitch 119 0 7 #[47, 55, 63, 71, 79, 87, 95, 103], 47) := decAll_at aX9_count_0 18 rfl
theorem dX9_count_80 : decode cX9_count 80 = .ok (.aload_n 0, 1) := decAll_at aX9_count_0 19 rfl
theorem dX9_count_81 : decode cX9_count 81 = .ok (.getfield 19, 3) := decAll_at aX9_count_0 20 rfl
theorem dX9_count_84 : decode cX9_count 84 = .ok (.getfield 80, 3) := decAll_at aX9_count_0 21 rfl
theorem dX9_count_87 : decode cX9_count 87 = .ok (.ireturn, 1) := decAll_at aX9_count_0 22 rfl
theorem dX9_count_88 : decode cX9_count 88 = .ok (.aload_n 0, 1) := decAll_at aX9_count_0 23 rfl
theorem dX9_count_89 : decode cX9_count 89 = .ok (.getfield 19, 3) := decAll_at aX9_count_0 24 rfl
theorem dX9_count_92 : decode cX9_count 92 = .ok (.getfield 106, 3) := decAll_at aX9_count_0 25 rfl
theorem dX9_count_95 : decode cX9_count 95 = .ok (.ireturn, 1) := decAll_at aX9_count_0 26 rfl
theorem dX9_count_96 : decode cX9_count 96 = .ok (.aload_n 0, 1) := decAll_at aX9_count_0 27 rfl
theorem dX9_count_97 : decode cX9_count 97 = .ok (.getfield 19, 3) := decAll_at aX9_count_0 28 rfl
theorem dX9_count_100 : decode cX9_count 100 = .ok (.getfield 124, 3) := decAll_at aX9_count_0 29 rfl
theorem dX9_count_103 : decode cX9_count 103 = .ok (.ireturn, 1) := decAll_at aX9_count_0 30 rfl
theorem dX9_count_104 : decode cX9_count 104 = .ok (.aload_n 0, 1) := decAll_at aX9_count_0 31 rfl
theorem dX9_count_105 : decode cX9_count 105 = .ok (.getfield 26, 3) := decAll_at aX9_count_0 32 rfl
theorem dX9_count_108 : decode cX9_count 108 = .ok (.getfield 154, 3) := decAll_at aX9_count_0 33 rfl
theorem dX9_count_111 : decode cX9_count 111 = .ok (.ireturn, 1) := decAll_at aX9_count_0 34 rfl
theorem dX9_count_112 : decode cX9_count 112 = .ok (.aload_n 0, 1) := decAll_at aX9_count_0 35 rfl
theorem dX9_count_113 : decode cX9_count 113 = .ok (.getfield 10, 3) := decAll_at aX9_count_0 36 rfl
theorem dX9_count_116 : decode cX9_count 116 = .ok (.getfield 136, 3) := decAll_at aX9_count_0 37 rfl
theorem dX9_count_119 : decode cX9_count 119 = .ok (.ireturn, 1) := decAll_at aX9_count_0 38 rfl
theorem dX9_count_120 : decode cX9_count 120 = .ok (.aload_n 0, 1) := decAll_at aX9_count_0 39 rfl
theorem dX9_count_121 : decode cX9_count 121 = .ok (.getfield 60, 3) := decAll_at aX9_count_0 40 rfl
theorem dX9_count_124 : decode cX9_count 124 = .ok (.getfield 133, 3) := decAll_at aX9_count_0 41 rfl
theorem dX9_count_127 : decode cX9_count 127 = .ok (.ireturn, 1) := decAll_at aX9_count_0 42 rfl
theorem dX9_count_128 : decode cX9_count 128 = .ok (.aload_n 0, 1) := decAll_at aX9_count_0 43 rfl
theorem dX9_count_129 : decode cX9_count 129 = .ok (.getfield 60, 3) := decAll_at aX9_count_0 44 rfl
theorem dX9_count_132 : decode cX9_count 132 = .ok (.getfield 118, 3) := decAll_at aX9_count_0 45 rfl
theorem dX9_count_135 : decode cX9_count 135 = .ok (.ireturn, 1) := decAll_at aX9_count_0 46 rfl
theorem dX9_count_136 : decode cX9_count 136 = .ok (.aload_n 0, 1) := decAll_at aX9_count_0 47 rfl
theorem dX9_count_137 : decode cX9_count 137 = .ok (.getfield 60, 3) := decAll_at aX9_count_0 48 rfl
theorem dX9_count_140 : decode cX9_count 140 = .ok (.getfield 95, 3) := decAll_at aX9_count_0 49 rfl
theorem dX9_count_143 : decode cX9_count 143 = .ok (.ifCond .eq 7, 3) := decAll_at aX9_count_0 50 rfl
theorem dX9_count_146 : decode cX9_count 146 = .ok (.iconst 1, 1) := decAll_at aX9_count_0 51 rfl
theorem dX9_count_147 : decode cX9_count 147 = .ok (.goto 4, 3) := decAll_at aX9_count_0 52 rfl
theorem dX9_count_150 : decode cX9_count 150 = .ok (.iconst 0, 1) := decAll_at aX9_count_0 53 rfl
theorem dX9_count_151 : decode cX9_count 151 = .ok (.ireturn, 1) := decAll_at aX9_count_0 54 rfl
theorem dX9_count_152 : decode cX9_count 152 = .ok (.iconst (-1), 1) := decAll_at aX9_count_0 55 rfl
theorem dX9_count_153 : decode cX9_count 153 = .ok (.ireturn, 1) := decAll_at aX9_count_0 56 rfl
def laX9_forget_0 : List (Nat × Instr × Nat) := [(0, .aload_n 0, 1), (1, .getfield 44, 3), (4, .dup, 1), (5, .getfield 306, 3), (8, .iconst 1, 1), (9, .iadd, 1), (10, .putfield 306, 3), (13, .aload_n 0, 1), (14, .getfield 69, 3), (17, .iconst 0, 1), (18, .putfield 121, 3), (21, .return_, 1)]
theorem aX9_forget_0 : decAll cX9_forget laX9_forget_0 = true := by decide +kernel
theorem dX9_forget_0 : decode cX9_forget 0 = .ok (.aload_n 0, 1) := decAll_at aX9_forget_0 0 rfl
theorem dX9_forget_1 : decode cX9_forget 1 = .ok (.getfield 44, 3) := decAll_at aX9_forget_0 1 rfl
theorem dX9_forget_4 : decode cX9_forget 4 = .ok (.dup, 1) := decAll_at aX9_forget_0 2 rfl
theorem dX9_forget_5 : decode cX9_forget 5 = .ok (.getfield 306, 3) := decAll_at aX9_forget_0 3 rfl
theorem dX9_forget_8 : decode cX9_forget 8 = .ok (.iconst 1, 1) := decAll_at aX9_forget_0 4 rfl
theorem dX9_forget_9 : decode cX9_forget 9 = .ok (.iadd, 1) := decAll_at aX9_forget_0 5 rfl
theorem dX9_forget_10 : decode cX9_forget 10 = .ok (.putfield 306, 3) := decAll_at aX9_forget_0 6 rfl
theorem dX9_forget_13 : decode cX9_forget 13 = .ok (.aload_n 0, 1) := decAll_at aX9_forget_0 7 rfl
theorem dX9_forget_14 : decode cX9_forget 14 = .ok (.getfield 69, 3) := decAll_at aX9_forget_0 8 rfl
theorem dX9_forget_17 : decode cX9_forget 17 = .ok (.iconst 0, 1) := decAll_at aX9_forget_0 9 rfl
theorem dX9_forget_18 : decode cX9_forget 18 = .ok (.putfield 121, 3) := decAll_at aX9_forget_0 10 rfl
theorem dX9_forget_21 : decode cX9_forget 21 = .ok (.return_, 1) := decAll_at aX9_forget_0 11 rfl
def laX9_standsOn_0 : List (Nat × Instr × Nat) := [(0, .aload_n 0, 1), (1, .getfield 19, 3), (4, .getfield 80, 3), (7, .ifCond .le 29, 3), (10, .aload_n 0, 1), (11, .getfield 19, 3), (14, .iload_n 1, 1), (15, .invokevirtual 157, 3), (18, .ifCond .eq 18, 3), (21, .iload_n 2, 1), (22, .ifCond .lt 14, 3), (25, .iload_n 2, 1), (26, .ldc_w 309, 3), (29, .if_icmp .ge 7, 3), (32, .iconst 1, 1), (33, .goto 4, 3), (36, .iconst 0, 1), (37, .ireturn, 1)]
theorem aX9_standsOn_0 : decAll cX9_standsOn laX9_standsOn_0 = true := by decide +kernel
theorem dX9_standsOn_0 : decode cX9_standsOn 0 = .ok (.aload_n 0, 1) := decAll_at aX9_standsOn_0 0 rfl
theorem dX9_standsOn_1 : decode cX9_standsOn 1 = .ok (.getfield 19, 3) := decAll_at aX9_standsOn_0 1 rfl
theorem dX9_standsOn_4 : decode cX9_standsOn 4 = .ok (.getfield 80, 3) := decAll_at aX9_standsOn_0 2 rfl
theorem dX9_standsOn_7 : decode cX9_standsOn 7 = .ok (.ifCond .le 29, 3) := decAll_at aX9_standsOn_0 3 rfl
theorem dX9_standsOn_10 : decode cX9_standsOn 10 = .ok (.aload_n 0, 1) := decAll_at aX9_standsOn_0 4 rfl
theorem dX9_standsOn_11 : decode cX9_standsOn 11 = .ok (.getfield 19, 3) := decAll_at aX9_standsOn_0 5 rfl
theorem dX9_standsOn_14 : decode cX9_standsOn 14 = .ok (.iload_n 1, 1) := decAll_at aX9_standsOn_0 6 rfl
theorem dX9_standsOn_15 : decode cX9_standsOn 15 = .ok (.invokevirtual 157, 3) := decAll_at aX9_standsOn_0 7 rfl
theorem dX9_standsOn_18 : decode cX9_standsOn 18 = .ok (.ifCond .eq 18, 3) := decAll_at aX9_standsOn_0 8 rfl
theorem dX9_standsOn_21 : decode cX9_standsOn 21 = .ok (.iload_n 2, 1) := decAll_at aX9_standsOn_0 9 rfl
theorem dX9_standsOn_22 : decode cX9_standsOn 22 = .ok (.ifCond .lt 14, 3) := decAll_at aX9_standsOn_0 10 rfl
theorem dX9_standsOn_25 : decode cX9_standsOn 25 = .ok (.iload_n 2, 1) := decAll_at aX9_standsOn_0 11 rfl
theorem dX9_standsOn_26 : decode cX9_standsOn 26 = .ok (.ldc_w 309, 3) := decAll_at aX9_standsOn_0 12 rfl
theorem dX9_standsOn_29 : decode cX9_standsOn 29 = .ok (.if_icmp .ge 7, 3) := decAll_at aX9_standsOn_0 13 rfl
theorem dX9_standsOn_32 : decode cX9_standsOn 32 = .ok (.iconst 1, 1) := decAll_at aX9_standsOn_0 14 rfl
theorem dX9_standsOn_33 : decode cX9_standsOn 33 = .ok (.goto 4, 3) := decAll_at aX9_standsOn_0 15 rfl
theorem dX9_standsOn_36 : decode cX9_standsOn 36 = .ok (.iconst 0, 1) := decAll_at aX9_standsOn_0 16 rfl
theorem dX9_standsOn_37 : decode cX9_standsOn 37 = .ok (.ireturn, 1) := decAll_at aX9_standsOn_0 17 rfl
def laX9_minutesWithAhead_0 : List (Nat × Instr × Nat) := [(0, .aload_n 0, 1), (1, .getfield 44, 3), (4, .iload 4, 2), (6, .iconst 0, 1), (7, .iload_n 2, 1), (8, .iload 4, 2), (10, .invokestatic 310, 3), (13, .iload_n 1, 1), (14, .invokevirtual 160, 3), (17, .istore 7, 2), (19, .aload_n 0, 1), (20, .getfield 44, 3), (23, .iload 5, 2), (25, .iconst 0, 1), (26, .iload_n 2, 1), (27, .iload 5, 2), (29, .invokestatic 310, 3), (32, .iload_n 1, 1), (33, .invokevirtual 160, 3), (36, .istore 8, 2), (38, .aload_n 0, 1), (39, .getfield 19, 3), (42, .iload_n 1, 1), (43, .iload 7, 2), (45, .iload 8, 2), (47, .invokestatic 268, 3), (50, .invokevirtual 181, 3), (53, .iload_n 3, 1), (54, .iadd, 1), (55, .istore 9, 2), (57, .iload 9, 2), (59, .iload 6, 2), (61, .if_icmp .lt 6, 3), (64, .ldc 206, 2), (66, .ireturn, 1), (67, .aload_n 0, 1), (68, .getfield 53, 3), (71, .iload_n 1, 1), (72, .iload_n 2, 1), (73, .invokevirtual 188, 3), (76, .aload_n 0, 1), (77, .getfield 53, 3), (80, .iload 4, 2), (82, .invokevirtual 221, 3), (85, .aload_n 0, 1), (86, .getfield 53, 3), (89, .iload 5, 2), (91, .invokevirtual 221, 3), (94, .iload 9, 2), (96, .aload_n 0, 1), (97, .getfield 19, 3), (100, .iload_n 1, 1), (101, .aload_n 0, 1), (102, .getfield 53, 3), (105, .invokevirtual 192, 3), (108, .invokevirtual 181, 3), (111, .invokestatic 273, 3), (114, .ireturn, 1)]
theorem aX9_minutesWithAhead_0 : decAll cX9_minutesWithAhead laX9_minutesWithAhead_0 = true := by decide +kernel
theorem dX9_minutesWithAhead_0 : decode cX9_minutesWithAhead 0 = .ok (.aload_n 0, 1) := decAll_at aX9_minutesWithAhead_0 0 rfl
theorem dX9_minutesWithAhead_1 : decode cX9_minutesWithAhead 1 = .ok (.getfield 44, 3) := decAll_at aX9_minutesWithAhead_0 1 rfl
theorem dX9_minutesWithAhead_4 : decode cX9_minutesWithAhead 4 = .ok (.iload 4, 2) := decAll_at aX9_minutesWithAhead_0 2 rfl
theorem dX9_minutesWithAhead_6 : decode cX9_minutesWithAhead 6 = .ok (.iconst 0, 1) := decAll_at aX9_minutesWithAhead_0 3 rfl
theorem dX9_minutesWithAhead_7 : decode cX9_minutesWithAhead 7 = .ok (.iload_n 2, 1) := decAll_at aX9_minutesWithAhead_0 4 rfl
theorem dX9_minutesWithAhead_8 : decode cX9_minutesWithAhead 8 = .ok (.iload 4, 2) := decAll_at aX9_minutesWithAhead_0 5 rfl
theorem dX9_minutesWithAhead_10 : decode cX9_minutesWithAhead 10 = .ok (.invokestatic 310, 3) := decAll_at aX9_minutesWithAhead_0 6 rfl
theorem dX9_minutesWithAhead_13 : decode cX9_minutesWithAhead 13 = .ok (.iload_n 1, 1) := decAll_at aX9_minutesWithAhead_0 7 rfl
theorem dX9_minutesWithAhead_14 : decode cX9_minutesWithAhead 14 = .ok (.invokevirtual 160, 3) := decAll_at aX9_minutesWithAhead_0 8 rfl
theorem dX9_minutesWithAhead_17 : decode cX9_minutesWithAhead 17 = .ok (.istore 7, 2) := decAll_at aX9_minutesWithAhead_0 9 rfl
theorem dX9_minutesWithAhead_19 : decode cX9_minutesWithAhead 19 = .ok (.aload_n 0, 1) := decAll_at aX9_minutesWithAhead_0 10 rfl
theorem dX9_minutesWithAhead_20 : decode cX9_minutesWithAhead 20 = .ok (.getfield 44, 3) := decAll_at aX9_minutesWithAhead_0 11 rfl
theorem dX9_minutesWithAhead_23 : decode cX9_minutesWithAhead 23 = .ok (.iload 5, 2) := decAll_at aX9_minutesWithAhead_0 12 rfl
theorem dX9_minutesWithAhead_25 : decode cX9_minutesWithAhead 25 = .ok (.iconst 0, 1) := decAll_at aX9_minutesWithAhead_0 13 rfl
theorem dX9_minutesWithAhead_26 : decode cX9_minutesWithAhead 26 = .ok (.iload_n 2, 1) := decAll_at aX9_minutesWithAhead_0 14 rfl
theorem dX9_minutesWithAhead_27 : decode cX9_minutesWithAhead 27 = .ok (.iload 5, 2) := decAll_at aX9_minutesWithAhead_0 15 rfl
theorem dX9_minutesWithAhead_29 : decode cX9_minutesWithAhead 29 = .ok (.invokestatic 310, 3) := decAll_at aX9_minutesWithAhead_0 16 rfl
theorem dX9_minutesWithAhead_32 : decode cX9_minutesWithAhead 32 = .ok (.iload_n 1, 1) := decAll_at aX9_minutesWithAhead_0 17 rfl
theorem dX9_minutesWithAhead_33 : decode cX9_minutesWithAhead 33 = .ok (.invokevirtual 160, 3) := decAll_at aX9_minutesWithAhead_0 18 rfl
theorem dX9_minutesWithAhead_36 : decode cX9_minutesWithAhead 36 = .ok (.istore 8, 2) := decAll_at aX9_minutesWithAhead_0 19 rfl
theorem dX9_minutesWithAhead_38 : decode cX9_minutesWithAhead 38 = .ok (.aload_n 0, 1) := decAll_at aX9_minutesWithAhead_0 20 rfl
theorem dX9_minutesWithAhead_39 : decode cX9_minutesWithAhead 39 = .ok (.getfield 19, 3) := decAll_at aX9_minutesWithAhead_0 21 rfl
theorem dX9_minutesWithAhead_42 : decode cX9_minutesWithAhead 42 = .ok (.iload_n 1, 1) := decAll_at aX9_minutesWithAhead_0 22 rfl
theorem dX9_minutesWithAhead_43 : decode cX9_minutesWithAhead 43 = .ok (.iload 7, 2) := decAll_at aX9_minutesWithAhead_0 23 rfl
theorem dX9_minutesWithAhead_45 : decode cX9_minutesWithAhead 45 = .ok (.iload 8, 2) := decAll_at aX9_minutesWithAhead_0 24 rfl
theorem dX9_minutesWithAhead_47 : decode cX9_minutesWithAhead 47 = .ok (.invokestatic 268, 3) := decAll_at aX9_minutesWithAhead_0 25 rfl
theorem dX9_minutesWithAhead_50 : decode cX9_minutesWithAhead 50 = .ok (.invokevirtual 181, 3) := decAll_at aX9_minutesWithAhead_0 26 rfl
theorem dX9_minutesWithAhead_53 : decode cX9_minutesWithAhead 53 = .ok (.iload_n 3, 1) := decAll_at aX9_minutesWithAhead_0 27 rfl
theorem dX9_minutesWithAhead_54 : decode cX9_minutesWithAhead 54 = .ok (.iadd, 1) := decAll_at aX9_minutesWithAhead_0 28 rfl
theorem dX9_minutesWithAhead_55 : decode cX9_minutesWithAhead 55 = .ok (.istore 9, 2) := decAll_at aX9_minutesWithAhead_0 29 rfl
theorem dX9_minutesWithAhead_57 : decode cX9_minutesWithAhead 57 = .ok (.iload 9, 2) := decAll_at aX9_minutesWithAhead_0 30 rfl
theorem dX9_minutesWithAhead_59 : decode cX9_minutesWithAhead 59 = .ok (.iload 6, 2) := decAll_at aX9_minutesWithAhead_0 31 rfl
theorem dX9_minutesWithAhead_61 : decode cX9_minutesWithAhead 61 = .ok (.if_icmp .lt 6, 3) := decAll_at aX9_minutesWithAhead_0 32 rfl
theorem dX9_minutesWithAhead_64 : decode cX9_minutesWithAhead 64 = .ok (.ldc 206, 2) := decAll_at aX9_minutesWithAhead_0 33 rfl
theorem dX9_minutesWithAhead_66 : decode cX9_minutesWithAhead 66 = .ok (.ireturn, 1) := decAll_at aX9_minutesWithAhead_0 34 rfl
theorem dX9_minutesWithAhead_67 : decode cX9_minutesWithAhead 67 = .ok (.aload_n 0, 1) := decAll_at aX9_minutesWithAhead_0 35 rfl
theorem dX9_minutesWithAhead_68 : decode cX9_minutesWithAhead 68 = .ok (.getfield 53, 3) := decAll_at aX9_minutesWithAhead_0 36 rfl
theorem dX9_minutesWithAhead_71 : decode cX9_minutesWithAhead 71 = .ok (.iload_n 1, 1) := decAll_at aX9_minutesWithAhead_0 37 rfl
theorem dX9_minutesWithAhead_72 : decode cX9_minutesWithAhead 72 = .ok (.iload_n 2, 1) := decAll_at aX9_minutesWithAhead_0 38 rfl
theorem dX9_minutesWithAhead_73 : decode cX9_minutesWithAhead 73 = .ok (.invokevirtual 188, 3) := decAll_at aX9_minutesWithAhead_0 39 rfl
theorem dX9_minutesWithAhead_76 : decode cX9_minutesWithAhead 76 = .ok (.aload_n 0, 1) := decAll_at aX9_minutesWithAhead_0 40 rfl
theorem dX9_minutesWithAhead_77 : decode cX9_minutesWithAhead 77 = .ok (.getfield 53, 3) := decAll_at aX9_minutesWithAhead_0 41 rfl
theorem dX9_minutesWithAhead_80 : decode cX9_minutesWithAhead 80 = .ok (.iload 4, 2) := decAll_at aX9_minutesWithAhead_0 42 rfl
theorem dX9_minutesWithAhead_82 : decode cX9_minutesWithAhead 82 = .ok (.invokevirtual 221, 3) := decAll_at aX9_minutesWithAhead_0 43 rfl
theorem dX9_minutesWithAhead_85 : decode cX9_minutesWithAhead 85 = .ok (.aload_n 0, 1) := decAll_at aX9_minutesWithAhead_0 44 rfl
theorem dX9_minutesWithAhead_86 : decode cX9_minutesWithAhead 86 = .ok (.getfield 53, 3) := decAll_at aX9_minutesWithAhead_0 45 rfl
theorem dX9_minutesWithAhead_89 : decode cX9_minutesWithAhead 89 = .ok (.iload 5, 2) := decAll_at aX9_minutesWithAhead_0 46 rfl
theorem dX9_minutesWithAhead_91 : decode cX9_minutesWithAhead 91 = .ok (.invokevirtual 221, 3) := decAll_at aX9_minutesWithAhead_0 47 rfl
theorem dX9_minutesWithAhead_94 : decode cX9_minutesWithAhead 94 = .ok (.iload 9, 2) := decAll_at aX9_minutesWithAhead_0 48 rfl
theorem dX9_minutesWithAhead_96 : decode cX9_minutesWithAhead 96 = .ok (.aload_n 0, 1) := decAll_at aX9_minutesWithAhead_0 49 rfl
theorem dX9_minutesWithAhead_97 : decode cX9_minutesWithAhead 97 = .ok (.getfield 19, 3) := decAll_at aX9_minutesWithAhead_0 50 rfl
theorem dX9_minutesWithAhead_100 : decode cX9_minutesWithAhead 100 = .ok (.iload_n 1, 1) := decAll_at aX9_minutesWithAhead_0 51 rfl
theorem dX9_minutesWithAhead_101 : decode cX9_minutesWithAhead 101 = .ok (.aload_n 0, 1) := decAll_at aX9_minutesWithAhead_0 52 rfl
theorem dX9_minutesWithAhead_102 : decode cX9_minutesWithAhead 102 = .ok (.getfield 53, 3) := decAll_at aX9_minutesWithAhead_0 53 rfl
theorem dX9_minutesWithAhead_105 : decode cX9_minutesWithAhead 105 = .ok (.invokevirtual 192, 3) := decAll_at aX9_minutesWithAhead_0 54 rfl
theorem dX9_minutesWithAhead_108 : decode cX9_minutesWithAhead 108 = .ok (.invokevirtual 181, 3) := decAll_at aX9_minutesWithAhead_0 55 rfl
theorem dX9_minutesWithAhead_111 : decode cX9_minutesWithAhead 111 = .ok (.invokestatic 273, 3) := decAll_at aX9_minutesWithAhead_0 56 rfl
theorem dX9_minutesWithAhead_114 : decode cX9_minutesWithAhead 114 = .ok (.ireturn, 1) := decAll_at aX9_minutesWithAhead_0 57 rfl
def laX9_minutesByStages_0 : List (Nat × Instr × Nat) := [(0, .iload_n 3, 1), (1, .iconst 1, 1), (2, .if_icmp .ge 6, 3), (5, .ldc 206, 2), (7, .ireturn, 1), (8, .aload_n 0, 1), (9, .getfield 19, 3), (12, .iload_n 1, 1), (13, .invokevirtual 303, 3), (16, .iload_n 3, 1), (17, .iadd, 1), (18, .iconst 1, 1), (19, .isub, 1), (20, .iload_n 3, 1), (21, .idiv, 1), (22, .istore 4, 2), (24, .aload_n 0, 1), (25, .getfield 44, 3), (28, .iload 4, 2), (30, .iload_n 1, 1), (31, .iload_n 2, 1), (32, .invokevirtual 175, 3), (35, .istore 5, 2), (37, .iload 5, 2), (39, .ifCond .ne 6, 3), (42, .ldc 206, 2), (44, .ireturn, 1), (45, .bipush 60, 2), (47, .istore 6, 2), (49, .iconst 0, 1), (50, .istore 7, 2), (52, .iload 7, 2), (54, .aload_n 0, 1), (55, .getfield 19, 3), (58, .getfield 80, 3), (61, .if_icmp .ge 33, 3), (64, .iload 6, 2), (66, .aload_n 0, 1), (67, .getfield 44, 3), (70, .iload 7, 2), (72, .iconst 0, 1), (73, .iload_n 2, 1), (74, .iload 7, 2), (76, .invokestatic 310, 3), (79, .iload_n 1, 1), (80, .invokevirtual 160, 3), (83, .invokestatic 268, 3), (86, .istore 6, 2), (88, .iinc 7 1, 3), (91, .goto (-39), 3), (94, .iload_n 3, 1), (95, .aload_n 0, 1), (96, .getfield 19, 3), (99, .iload_n 1, 1), (100, .iload 5, 2), (102, .invokevirtual 181, 3), (105, .imul, 1), (106, .iload_n 3, 1), (107, .iconst 1, 1), (108, .isub, 1), (109, .aload_n 0, 1), (110, .getfield 19, 3), (113, .iload_n 1, 1), (114, .iload 6, 2)]
theorem aX9_minutesByStages_0 : decAll cX9_minutesByStages laX9_minutesByStages_0 = true := by decide +kernel
theorem dX9_minutesByStages_0 : decode cX9_minutesByStages 0 = .ok (.iload_n 3, 1) := decAll_at aX9_minutesByStages_0 0 rfl
theorem dX9_minutesByStages_1 : decode cX9_minutesByStages 1 = .ok (.iconst 1, 1) := decAll_at aX9_minutesByStages_0 1 rfl
theorem dX9_minutesByStages_2 : decode cX9_minutesByStages 2 = .ok (.if_icmp .ge 6, 3) := decAll_at aX9_minutesByStages_0 2 rfl
theorem dX9_minutesByStages_5 : decode cX9_minutesByStages 5 = .ok (.ldc 206, 2) := decAll_at aX9_minutesByStages_0 3 rfl
theorem dX9_minutesByStages_7 : decode cX9_minutesByStages 7 = .ok (.ireturn, 1) := decAll_at aX9_minutesByStages_0 4 rfl
theorem dX9_minutesByStages_8 : decode cX9_minutesByStages 8 = .ok (.aload_n 0, 1) := decAll_at aX9_minutesByStages_0 5 rfl
theorem dX9_minutesByStages_9 : decode cX9_minutesByStages 9 = .ok (.getfield 19, 3) := decAll_at aX9_minutesByStages_0 6 rfl
theorem dX9_minutesByStages_12 : decode cX9_minutesByStages 12 = .ok (.iload_n 1, 1) := decAll_at aX9_minutesByStages_0 7 rfl
theorem dX9_minutesByStages_13 : decode cX9_minutesByStages 13 = .ok (.invokevirtual 303, 3) := decAll_at aX9_minutesByStages_0 8 rfl
theorem dX9_minutesByStages_16 : decode cX9_minutesByStages 16 = .ok (.iload_n 3, 1) := decAll_at aX9_minutesByStages_0 9 rfl
theorem dX9_minutesByStages_17 : decode cX9_minutesByStages 17 = .ok (.iadd, 1) := decAll_at aX9_minutesByStages_0 10 rfl
theorem dX9_minutesByStages_18 : decode cX9_minutesByStages 18 = .ok (.iconst 1, 1) := decAll_at aX9_minutesByStages_0 11 rfl
theorem dX9_minutesByStages_19 : decode cX9_minutesByStages 19 = .ok (.isub, 1) := decAll_at aX9_minutesByStages_0 12 rfl
theorem dX9_minutesByStages_20 : decode cX9_minutesByStages 20 = .ok (.iload_n 3, 1) := decAll_at aX9_minutesByStages_0 13 rfl
theorem dX9_minutesByStages_21 : decode cX9_minutesByStages 21 = .ok (.idiv, 1) := decAll_at aX9_minutesByStages_0 14 rfl
theorem dX9_minutesByStages_22 : decode cX9_minutesByStages 22 = .ok (.istore 4, 2) := decAll_at aX9_minutesByStages_0 15 rfl
theorem dX9_minutesByStages_24 : decode cX9_minutesByStages 24 = .ok (.aload_n 0, 1) := decAll_at aX9_minutesByStages_0 16 rfl
theorem dX9_minutesByStages_25 : decode cX9_minutesByStages 25 = .ok (.getfield 44, 3) := decAll_at aX9_minutesByStages_0 17 rfl
theorem dX9_minutesByStages_28 : decode cX9_minutesByStages 28 = .ok (.iload 4, 2) := decAll_at aX9_minutesByStages_0 18 rfl
theorem dX9_minutesByStages_30 : decode cX9_minutesByStages 30 = .ok (.iload_n 1, 1) := decAll_at aX9_minutesByStages_0 19 rfl
theorem dX9_minutesByStages_31 : decode cX9_minutesByStages 31 = .ok (.iload_n 2, 1) := decAll_at aX9_minutesByStages_0 20 rfl
theorem dX9_minutesByStages_32 : decode cX9_minutesByStages 32 = .ok (.invokevirtual 175, 3) := decAll_at aX9_minutesByStages_0 21 rfl
theorem dX9_minutesByStages_35 : decode cX9_minutesByStages 35 = .ok (.istore 5, 2) := decAll_at aX9_minutesByStages_0 22 rfl
theorem dX9_minutesByStages_37 : decode cX9_minutesByStages 37 = .ok (.iload 5, 2) := decAll_at aX9_minutesByStages_0 23 rfl
theorem dX9_minutesByStages_39 : decode cX9_minutesByStages 39 = .ok (.ifCond .ne 6, 3) := decAll_at aX9_minutesByStages_0 24 rfl
theorem dX9_minutesByStages_42 : decode cX9_minutesByStages 42 = .ok (.ldc 206, 2) := decAll_at aX9_minutesByStages_0 25 rfl
theorem dX9_minutesByStages_44 : decode cX9_minutesByStages 44 = .ok (.ireturn, 1) := decAll_at aX9_minutesByStages_0 26 rfl
theorem dX9_minutesByStages_45 : decode cX9_minutesByStages 45 = .ok (.bipush 60, 2) := decAll_at aX9_minutesByStages_0 27 rfl
theorem dX9_minutesByStages_47 : decode cX9_minutesByStages 47 = .ok (.istore 6, 2) := decAll_at aX9_minutesByStages_0 28 rfl
theorem dX9_minutesByStages_49 : decode cX9_minutesByStages 49 = .ok (.iconst 0, 1) := decAll_at aX9_minutesByStages_0 29 rfl
theorem dX9_minutesByStages_50 : decode cX9_minutesByStages 50 = .ok (.istore 7, 2) := decAll_at aX9_minutesByStages_0 30 rfl
theorem dX9_minutesByStages_52 : decode cX9_minutesByStages 52 = .ok (.iload 7, 2) := decAll_at aX9_minutesByStages_0 31 rfl
theorem dX9_minutesByStages_54 : decode cX9_minutesByStages 54 = .ok (.aload_n 0, 1) := decAll_at aX9_minutesByStages_0 32 rfl
theorem dX9_minutesByStages_55 : decode cX9_minutesByStages 55 = .ok (.getfield 19, 3) := decAll_at aX9_minutesByStages_0 33 rfl
theorem dX9_minutesByStages_58 : decode cX9_minutesByStages 58 = .ok (.getfield 80, 3) := decAll_at aX9_minutesByStages_0 34 rfl
theorem dX9_minutesByStages_61 : decode cX9_minutesByStages 61 = .ok (.if_icmp .ge 33, 3) := decAll_at aX9_minutesByStages_0 35 rfl
theorem dX9_minutesByStages_64 : decode cX9_minutesByStages 64 = .ok (.iload 6, 2) := decAll_at aX9_minutesByStages_0 36 rfl
theorem dX9_minutesByStages_66 : decode cX9_minutesByStages 66 = .ok (.aload_n 0, 1) := decAll_at aX9_minutesByStages_0 37 rfl
theorem dX9_minutesByStages_67 : decode cX9_minutesByStages 67 = .ok (.getfield 44, 3) := decAll_at aX9_minutesByStages_0 38 rfl
theorem dX9_minutesByStages_70 : decode cX9_minutesByStages 70 = .ok (.iload 7, 2) := decAll_at aX9_minutesByStages_0 39 rfl
theorem dX9_minutesByStages_72 : decode cX9_minutesByStages 72 = .ok (.iconst 0, 1) := decAll_at aX9_minutesByStages_0 40 rfl
theorem dX9_minutesByStages_73 : decode cX9_minutesByStages 73 = .ok (.iload_n 2, 1) := decAll_at aX9_minutesByStages_0 41 rfl
theorem dX9_minutesByStages_74 : decode cX9_minutesByStages 74 = .ok (.iload 7, 2) := decAll_at aX9_minutesByStages_0 42 rfl
theorem dX9_minutesByStages_76 : decode cX9_minutesByStages 76 = .ok (.invokestatic 310, 3) := decAll_at aX9_minutesByStages_0 43 rfl
theorem dX9_minutesByStages_79 : decode cX9_minutesByStages 79 = .ok (.iload_n 1, 1) := decAll_at aX9_minutesByStages_0 44 rfl
theorem dX9_minutesByStages_80 : decode cX9_minutesByStages 80 = .ok (.invokevirtual 160, 3) := decAll_at aX9_minutesByStages_0 45 rfl
theorem dX9_minutesByStages_83 : decode cX9_minutesByStages 83 = .ok (.invokestatic 268, 3) := decAll_at aX9_minutesByStages_0 46 rfl
theorem dX9_minutesByStages_86 : decode cX9_minutesByStages 86 = .ok (.istore 6, 2) := decAll_at aX9_minutesByStages_0 47 rfl
theorem dX9_minutesByStages_88 : decode cX9_minutesByStages 88 = .ok (.iinc 7 1, 3) := decAll_at aX9_minutesByStages_0 48 rfl
theorem dX9_minutesByStages_91 : decode cX9_minutesByStages 91 = .ok (.goto (-39), 3) := decAll_at aX9_minutesByStages_0 49 rfl
theorem dX9_minutesByStages_94 : decode cX9_minutesByStages 94 = .ok (.iload_n 3, 1) := decAll_at aX9_minutesByStages_0 50 rfl
theorem dX9_minutesByStages_95 : decode cX9_minutesByStages 95 = .ok (.aload_n 0, 1) := decAll_at aX9_minutesByStages_0 51 rfl
theorem dX9_minutesByStages_96 : decode cX9_minutesByStages 96 = .ok (.getfield 19, 3) := decAll_at aX9_minutesByStages_0 52 rfl
theorem dX9_minutesByStages_99 : decode cX9_minutesByStages 99 = .ok (.iload_n 1, 1) := decAll_at aX9_minutesByStages_0 53 rfl
theorem dX9_minutesByStages_100 : decode cX9_minutesByStages 100 = .ok (.iload 5, 2) := decAll_at aX9_minutesByStages_0 54 rfl
theorem dX9_minutesByStages_102 : decode cX9_minutesByStages 102 = .ok (.invokevirtual 181, 3) := decAll_at aX9_minutesByStages_0 55 rfl
theorem dX9_minutesByStages_105 : decode cX9_minutesByStages 105 = .ok (.imul, 1) := decAll_at aX9_minutesByStages_0 56 rfl
theorem dX9_minutesByStages_106 : decode cX9_minutesByStages 106 = .ok (.iload_n 3, 1) := decAll_at aX9_minutesByStages_0 57 rfl
theorem dX9_minutesByStages_107 : decode cX9_minutesByStages 107 = .ok (.iconst 1, 1) := decAll_at aX9_minutesByStages_0 58 rfl
theorem dX9_minutesByStages_108 : decode cX9_minutesByStages 108 = .ok (.isub, 1) := decAll_at aX9_minutesByStages_0 59 rfl
theorem dX9_minutesByStages_109 : decode cX9_minutesByStages 109 = .ok (.aload_n 0, 1) := decAll_at aX9_minutesByStages_0 60 rfl
theorem dX9_minutesByStages_110 : decode cX9_minutesByStages 110 = .ok (.getfield 19, 3) := decAll_at aX9_minutesByStages_0 61 rfl
theorem dX9_minutesByStages_113 : decode cX9_minutesByStages 113 = .ok (.iload_n 1, 1) := decAll_at aX9_minutesByStages_0 62 rfl
theorem dX9_minutesByStages_114 : decode cX9_minutesByStages 114 = .ok (.iload 6, 2) := decAll_at aX9_minutesByStages_0 63 rfl
def laX9_minutesByStages_1 : List (Nat × Instr × Nat) := [(116, .invokevirtual 181, 3), (119, .imul, 1), (120, .iadd, 1), (121, .ireturn, 1)]
theorem aX9_minutesByStages_1 : decAll cX9_minutesByStages laX9_minutesByStages_1 = true := by decide +kernel
theorem dX9_minutesByStages_116 : decode cX9_minutesByStages 116 = .ok (.invokevirtual 181, 3) := decAll_at aX9_minutesByStages_1 0 rfl
theorem dX9_minutesByStages_119 : decode cX9_minutesByStages 119 = .ok (.imul, 1) := decAll_at aX9_minutesByStages_1 1 rfl
theorem dX9_minutesByStages_120 : decode cX9_minutesByStages 120 = .ok (.iadd, 1) := decAll_at aX9_minutesByStages_1 2 rfl
theorem dX9_minutesByStages_121 : decode cX9_minutesByStages 121 = .ok (.ireturn, 1) := decAll_at aX9_minutesByStages_1 3 rfl
def laX9_minutesWithMule_0 : List (Nat × Instr × Nat) := [(0, .iconst 0, 1), (1, .istore 5, 2), (3, .iconst 0, 1), (4, .istore 6, 2), (6, .iload 6, 2), (8, .aload_n 0, 1), (9, .getfield 19, 3), (12, .getfield 124, 3), (15, .if_icmp .ge 81, 3), (18, .aload_n 0, 1), (19, .getfield 19, 3), (22, .iload 6, 2), (24, .invokevirtual 303, 3), (27, .istore 7, 2), (29, .iload 6, 2), (31, .iload_n 2, 1), (32, .if_icmp .lt 19, 3), (35, .iload 6, 2), (37, .iload_n 3, 1), (38, .if_icmp .ge 13, 3), (41, .iconst 0, 1), (42, .iload 7, 2), (44, .iload_n 1, 1), (45, .isub, 1), (46, .invokestatic 273, 3), (49, .istore 7, 2), (51, .aload_n 0, 1), (52, .getfield 44, 3), (55, .iload 7, 2), (57, .iload 6, 2), (59, .iload 4, 2), (61, .invokevirtual 175, 3), (64, .istore 8, 2), (66, .iload 8, 2), (68, .ifCond .ne 6, 3), (71, .ldc 206, 2), (73, .ireturn, 1), (74, .iload 5, 2), (76, .aload_n 0, 1), (77, .getfield 19, 3), (80, .iload 6, 2), (82, .iload 8, 2), (84, .invokevirtual 181, 3), (87, .iadd, 1), (88, .istore 5, 2), (90, .iinc 6 1, 3), (93, .goto (-87), 3), (96, .iload 5, 2), (98, .ireturn, 1)]
theorem aX9_minutesWithMule_0 : decAll cX9_minutesWithMule laX9_minutesWithMule_0 = true := by decide +kernel
theorem dX9_minutesWithMule_0 : decode cX9_minutesWithMule 0 = .ok (.iconst 0, 1) := decAll_at aX9_minutesWithMule_0 0 rfl
theorem dX9_minutesWithMule_1 : decode cX9_minutesWithMule 1 = .ok (.istore 5, 2) := decAll_at aX9_minutesWithMule_0 1 rfl
theorem dX9_minutesWithMule_3 : decode cX9_minutesWithMule 3 = .ok (.iconst 0, 1) := decAll_at aX9_minutesWithMule_0 2 rfl
theorem dX9_minutesWithMule_4 : decode cX9_minutesWithMule 4 = .ok (.istore 6, 2) := decAll_at aX9_minutesWithMule_0 3 rfl
theorem dX9_minutesWithMule_6 : decode cX9_minutesWithMule 6 = .ok (.iload 6, 2) := decAll_at aX9_minutesWithMule_0 4 rfl
theorem dX9_minutesWithMule_8 : decode cX9_minutesWithMule 8 = .ok (.aload_n 0, 1) := decAll_at aX9_minutesWithMule_0 5 rfl
theorem dX9_minutesWithMule_9 : decode cX9_minutesWithMule 9 = .ok (.getfield 19, 3) := decAll_at aX9_minutesWithMule_0 6 rfl
theorem dX9_minutesWithMule_12 : decode cX9_minutesWithMule 12 = .ok (.getfield 124, 3) := decAll_at aX9_minutesWithMule_0 7 rfl
theorem dX9_minutesWithMule_15 : decode cX9_minutesWithMule 15 = .ok (.if_icmp .ge 81, 3) := decAll_at aX9_minutesWithMule_0 8 rfl
theorem dX9_minutesWithMule_18 : decode cX9_minutesWithMule 18 = .ok (.aload_n 0, 1) := decAll_at aX9_minutesWithMule_0 9 rfl
theorem dX9_minutesWithMule_19 : decode cX9_minutesWithMule 19 = .ok (.getfield 19, 3) := decAll_at aX9_minutesWithMule_0 10 rfl
theorem dX9_minutesWithMule_22 : decode cX9_minutesWithMule 22 = .ok (.iload 6, 2) := decAll_at aX9_minutesWithMule_0 11 rfl
theorem dX9_minutesWithMule_24 : decode cX9_minutesWithMule 24 = .ok (.invokevirtual 303, 3) := decAll_at aX9_minutesWithMule_0 12 rfl
theorem dX9_minutesWithMule_27 : decode cX9_minutesWithMule 27 = .ok (.istore 7, 2) := decAll_at aX9_minutesWithMule_0 13 rfl
theorem dX9_minutesWithMule_29 : decode cX9_minutesWithMule 29 = .ok (.iload 6, 2) := decAll_at aX9_minutesWithMule_0 14 rfl
theorem dX9_minutesWithMule_31 : decode cX9_minutesWithMule 31 = .ok (.iload_n 2, 1) := decAll_at aX9_minutesWithMule_0 15 rfl
theorem dX9_minutesWithMule_32 : decode cX9_minutesWithMule 32 = .ok (.if_icmp .lt 19, 3) := decAll_at aX9_minutesWithMule_0 16 rfl
theorem dX9_minutesWithMule_35 : decode cX9_minutesWithMule 35 = .ok (.iload 6, 2) := decAll_at aX9_minutesWithMule_0 17 rfl
theorem dX9_minutesWithMule_37 : decode cX9_minutesWithMule 37 = .ok (.iload_n 3, 1) := decAll_at aX9_minutesWithMule_0 18 rfl
theorem dX9_minutesWithMule_38 : decode cX9_minutesWithMule 38 = .ok (.if_icmp .ge 13, 3) := decAll_at aX9_minutesWithMule_0 19 rfl
theorem dX9_minutesWithMule_41 : decode cX9_minutesWithMule 41 = .ok (.iconst 0, 1) := decAll_at aX9_minutesWithMule_0 20 rfl
theorem dX9_minutesWithMule_42 : decode cX9_minutesWithMule 42 = .ok (.iload 7, 2) := decAll_at aX9_minutesWithMule_0 21 rfl
theorem dX9_minutesWithMule_44 : decode cX9_minutesWithMule 44 = .ok (.iload_n 1, 1) := decAll_at aX9_minutesWithMule_0 22 rfl
theorem dX9_minutesWithMule_45 : decode cX9_minutesWithMule 45 = .ok (.isub, 1) := decAll_at aX9_minutesWithMule_0 23 rfl
theorem dX9_minutesWithMule_46 : decode cX9_minutesWithMule 46 = .ok (.invokestatic 273, 3) := decAll_at aX9_minutesWithMule_0 24 rfl
theorem dX9_minutesWithMule_49 : decode cX9_minutesWithMule 49 = .ok (.istore 7, 2) := decAll_at aX9_minutesWithMule_0 25 rfl
theorem dX9_minutesWithMule_51 : decode cX9_minutesWithMule 51 = .ok (.aload_n 0, 1) := decAll_at aX9_minutesWithMule_0 26 rfl
theorem dX9_minutesWithMule_52 : decode cX9_minutesWithMule 52 = .ok (.getfield 44, 3) := decAll_at aX9_minutesWithMule_0 27 rfl
theorem dX9_minutesWithMule_55 : decode cX9_minutesWithMule 55 = .ok (.iload 7, 2) := decAll_at aX9_minutesWithMule_0 28 rfl
theorem dX9_minutesWithMule_57 : decode cX9_minutesWithMule 57 = .ok (.iload 6, 2) := decAll_at aX9_minutesWithMule_0 29 rfl
theorem dX9_minutesWithMule_59 : decode cX9_minutesWithMule 59 = .ok (.iload 4, 2) := decAll_at aX9_minutesWithMule_0 30 rfl
theorem dX9_minutesWithMule_61 : decode cX9_minutesWithMule 61 = .ok (.invokevirtual 175, 3) := decAll_at aX9_minutesWithMule_0 31 rfl
theorem dX9_minutesWithMule_64 : decode cX9_minutesWithMule 64 = .ok (.istore 8, 2) := decAll_at aX9_minutesWithMule_0 32 rfl
theorem dX9_minutesWithMule_66 : decode cX9_minutesWithMule 66 = .ok (.iload 8, 2) := decAll_at aX9_minutesWithMule_0 33 rfl
theorem dX9_minutesWithMule_68 : decode cX9_minutesWithMule 68 = .ok (.ifCond .ne 6, 3) := decAll_at aX9_minutesWithMule_0 34 rfl
theorem dX9_minutesWithMule_71 : decode cX9_minutesWithMule 71 = .ok (.ldc 206, 2) := decAll_at aX9_minutesWithMule_0 35 rfl
theorem dX9_minutesWithMule_73 : decode cX9_minutesWithMule 73 = .ok (.ireturn, 1) := decAll_at aX9_minutesWithMule_0 36 rfl
theorem dX9_minutesWithMule_74 : decode cX9_minutesWithMule 74 = .ok (.iload 5, 2) := decAll_at aX9_minutesWithMule_0 37 rfl
theorem dX9_minutesWithMule_76 : decode cX9_minutesWithMule 76 = .ok (.aload_n 0, 1) := decAll_at aX9_minutesWithMule_0 38 rfl
theorem dX9_minutesWithMule_77 : decode cX9_minutesWithMule 77 = .ok (.getfield 19, 3) := decAll_at aX9_minutesWithMule_0 39 rfl
theorem dX9_minutesWithMule_80 : decode cX9_minutesWithMule 80 = .ok (.iload 6, 2) := decAll_at aX9_minutesWithMule_0 40 rfl
theorem dX9_minutesWithMule_82 : decode cX9_minutesWithMule 82 = .ok (.iload 8, 2) := decAll_at aX9_minutesWithMule_0 41 rfl
theorem dX9_minutesWithMule_84 : decode cX9_minutesWithMule 84 = .ok (.invokevirtual 181, 3) := decAll_at aX9_minutesWithMule_0 42 rfl
theorem dX9_minutesWithMule_87 : decode cX9_minutesWithMule 87 = .ok (.iadd, 1) := decAll_at aX9_minutesWithMule_0 43 rfl
theorem dX9_minutesWithMule_88 : decode cX9_minutesWithMule 88 = .ok (.istore 5, 2) := decAll_at aX9_minutesWithMule_0 44 rfl
theorem dX9_minutesWithMule_90 : decode cX9_minutesWithMule 90 = .ok (.iinc 6 1, 3) := decAll_at aX9_minutesWithMule_0 45 rfl
theorem dX9_minutesWithMule_93 : decode cX9_minutesWithMule 93 = .ok (.goto (-87), 3) := decAll_at aX9_minutesWithMule_0 46 rfl
theorem dX9_minutesWithMule_96 : decode cX9_minutesWithMule 96 = .ok (.iload 5, 2) := decAll_at aX9_minutesWithMule_0 47 rfl
theorem dX9_minutesWithMule_98 : decode cX9_minutesWithMule 98 = .ok (.ireturn, 1) := decAll_at aX9_minutesWithMule_0 48 rfl
def laX9_digit_0 : List (Nat × Instr × Nat) := [(0, .iload_n 0, 1), (1, .getstatic 313, 3), (4, .iload_n 1, 1), (5, .iaload, 1), (6, .idiv, 1), (7, .bipush 6, 2), (9, .irem, 1), (10, .ireturn, 1)]
theorem aX9_digit_0 : decAll cX9_digit laX9_digit_0 = true := by decide +kernel
theorem dX9_digit_0 : decode cX9_digit 0 = .ok (.iload_n 0, 1) := decAll_at aX9_digit_0 0 rfl
theorem dX9_digit_1 : decode cX9_digit 1 = .ok (.getstatic 313, 3) := decAll_at aX9_digit_0 1 rfl
theorem dX9_digit_4 : decode cX9_digit 4 = .ok (.iload_n 1, 1) := decAll_at aX9_digit_0 2 rfl
theorem dX9_digit_5 : decode cX9_digit 5 = .ok (.iaload, 1) := decAll_at aX9_digit_0 3 rfl
theorem dX9_digit_6 : decode cX9_digit 6 = .ok (.idiv, 1) := decAll_at aX9_digit_0 4 rfl
theorem dX9_digit_7 : decode cX9_digit 7 = .ok (.bipush 6, 2) := decAll_at aX9_digit_0 5 rfl
theorem dX9_digit_9 : decode cX9_digit 9 = .ok (.irem, 1) := decAll_at aX9_digit_0 6 rfl
theorem dX9_digit_10 : decode cX9_digit 10 = .ok (.ireturn, 1) := decAll_at aX9_digit_0 7 rfl
def laX10_init_0 : List (Nat × Instr × Nat) := [(0, .aload_n 0, 1), (1, .invokespecial 1, 3), (4, .aload_n 0, 1), (5, .sipush 220, 3), (8, .newarray .byte, 2), (10, .putfield 7, 3), (13, .aload_n 0, 1), (14, .bipush 10, 2), (16, .putfield 13, 3), (19, .aload_n 0, 1), (20, .bipush 6, 2), (22, .newarray .int, 2), (24, .putfield 17, 3), (27, .aload_n 0, 1), (28, .bipush 6, 2), (30, .newarray .int, 2), (32, .putfield 21, 3), (35, .aload_n 0, 1), (36, .bipush 6, 2), (38, .newarray .boolean, 2), (40, .putfield 24, 3), (43, .aload_n 0, 1), (44, .bipush 10, 2), (46, .newarray .int, 2), (48, .putfield 28, 3), (51, .aload_n 0, 1), (52, .bipush 10, 2), (54, .newarray .int, 2), (56, .putfield 31, 3), (59, .aload_n 0, 1), (60, .bipush 10, 2), (62, .newarray .int, 2), (64, .putfield 34, 3), (67, .aload_n 0, 1), (68, .bipush 10, 2), (70, .newarray .int, 2), (72, .putfield 37, 3), (75, .aload_n 0, 1), (76, .bipush 10, 2), (78, .newarray .int, 2), (80, .putfield 40, 3), (83, .aload_n 0, 1), (84, .bipush 14, 2), (86, .newarray .int, 2), (88, .putfield 43, 3), (91, .aload_n 0, 1), (92, .bipush 14, 2), (94, .newarray .int, 2), (96, .putfield 46, 3), (99, .aload_n 0, 1), (100, .bipush 14, 2), (102, .newarray .int, 2), (104, .putfield 49, 3), (107, .aload_n 0, 1), (108, .bipush 14, 2), (110, .newarray .int, 2), (112, .putfield 52, 3), (115, .aload_n 0, 1), (116, .sipush 200, 3), (119, .newarray .int, 2), (121, .putfield 55, 3), (124, .aload_n 0, 1), (125, .sipush 200, 3), (128, .newarray .int, 2)]
theorem aX10_init_0 : decAll cX10_init laX10_init_0 = true := by decide +kernel
theorem dX10_init_0 : decode cX10_init 0 = .ok (.aload_n 0, 1) := decAll_at aX10_init_0 0 rfl
theorem dX10_init_1 : decode cX10_init 1 = .ok (.invokespecial 1, 3) := decAll_at aX10_init_0 1 rfl
theorem dX10_init_4 : decode cX10_init 4 = .ok (.aload_n 0, 1) := decAll_at aX10_init_0 2 rfl
theorem dX10_init_5 : decode cX10_init 5 = .ok (.sipush 220, 3) := decAll_at aX10_init_0 3 rfl
theorem dX10_init_8 : decode cX10_init 8 = .ok (.newarray .byte, 2) := decAll_at aX10_init_0 4 rfl
theorem dX10_init_10 : decode cX10_init 10 = .ok (.putfield 7, 3) := decAll_at aX10_init_0 5 rfl
theorem dX10_init_13 : decode cX10_init 13 = .ok (.aload_n 0, 1) := decAll_at aX10_init_0 6 rfl
theorem dX10_init_14 : decode cX10_init 14 = .ok (.bipush 10, 2) := decAll_at aX10_init_0 7 rfl
theorem dX10_init_16 : decode cX10_init 16 = .ok (.putfield 13, 3) := decAll_at aX10_init_0 8 rfl
theorem dX10_init_19 : decode cX10_init 19 = .ok (.aload_n 0, 1) := decAll_at aX10_init_0 9 rfl
theorem dX10_init_20 : decode cX10_init 20 = .ok (.bipush 6, 2) := decAll_at aX10_init_0 10 rfl
theorem dX10_init_22 : decode cX10_init 22 = .ok (.newarray .int, 2) := decAll_at aX10_init_0 11 rfl
theorem dX10_init_24 : decode cX10_init 24 = .ok (.putfield 17, 3) := decAll_at aX10_init_0 12 rfl
theorem dX10_init_27 : decode cX10_init 27 = .ok (.aload_n 0, 1) := decAll_at aX10_init_0 13 rfl
theorem dX10_init_28 : decode cX10_init 28 = .ok (.bipush 6, 2) := decAll_at aX10_init_0 14 rfl
theorem dX10_init_30 : decode cX10_init 30 = .ok (.newarray .int, 2) := decAll_at aX10_init_0 15 rfl
theorem dX10_init_32 : decode cX10_init 32 = .ok (.putfield 21, 3) := decAll_at aX10_init_0 16 rfl
theorem dX10_init_35 : decode cX10_init 35 = .ok (.aload_n 0, 1) := decAll_at aX10_init_0 17 rfl
theorem dX10_init_36 : decode cX10_init 36 = .ok (.bipush 6, 2) := decAll_at aX10_init_0 18 rfl
theorem dX10_init_38 : decode cX10_init 38 = .ok (.newarray .boolean, 2) := decAll_at aX10_init_0 19 rfl
theorem dX10_init_40 : decode cX10_init 40 = .ok (.putfield 24, 3) := decAll_at aX10_init_0 20 rfl
theorem dX10_init_43 : decode cX10_init 43 = .ok (.aload_n 0, 1) := decAll_at aX10_init_0 21 rfl
theorem dX10_init_44 : decode cX10_init 44 = .ok (.bipush 10, 2) := decAll_at aX10_init_0 22 rfl
theorem dX10_init_46 : decode cX10_init 46 = .ok (.newarray .int, 2) := decAll_at aX10_init_0 23 rfl
theorem dX10_init_48 : decode cX10_init 48 = .ok (.putfield 28, 3) := decAll_at aX10_init_0 24 rfl
theorem dX10_init_51 : decode cX10_init 51 = .ok (.aload_n 0, 1) := decAll_at aX10_init_0 25 rfl
theorem dX10_init_52 : decode cX10_init 52 = .ok (.bipush 10, 2) := decAll_at aX10_init_0 26 rfl
theorem dX10_init_54 : decode cX10_init 54 = .ok (.newarray .int, 2) := decAll_at aX10_init_0 27 rfl
theorem dX10_init_56 : decode cX10_init 56 = .ok (.putfield 31, 3) := decAll_at aX10_init_0 28 rfl
theorem dX10_init_59 : decode cX10_init 59 = .ok (.aload_n 0, 1) := decAll_at aX10_init_0 29 rfl
theorem dX10_init_60 : decode cX10_init 60 = .ok (.bipush 10, 2) := decAll_at aX10_init_0 30 rfl
theorem dX10_init_62 : decode cX10_init 62 = .ok (.newarray .int, 2) := decAll_at aX10_init_0 31 rfl
theorem dX10_init_64 : decode cX10_init 64 = .ok (.putfield 34, 3) := decAll_at aX10_init_0 32 rfl
theorem dX10_init_67 : decode cX10_init 67 = .ok (.aload_n 0, 1) := decAll_at aX10_init_0 33 rfl
theorem dX10_init_68 : decode cX10_init 68 = .ok (.bipush 10, 2) := decAll_at aX10_init_0 34 rfl
theorem dX10_init_70 : decode cX10_init 70 = .ok (.newarray .int, 2) := decAll_at aX10_init_0 35 rfl
theorem dX10_init_72 : decode cX10_init 72 = .ok (.putfield 37, 3) := decAll_at aX10_init_0 36 rfl
theorem dX10_init_75 : decode cX10_init 75 = .ok (.aload_n 0, 1) := decAll_at aX10_init_0 37 rfl
theorem dX10_init_76 : decode cX10_init 76 = .ok (.bipush 10, 2) := decAll_at aX10_init_0 38 rfl
theorem dX10_init_78 : decode cX10_init 78 = .ok (.newarray .int, 2) := decAll_at aX10_init_0 39 rfl
theorem dX10_init_80 : decode cX10_init 80 = .ok (.putfield 40, 3) := decAll_at aX10_init_0 40 rfl
theorem dX10_init_83 : decode cX10_init 83 = .ok (.aload_n 0, 1) := decAll_at aX10_init_0 41 rfl
theorem dX10_init_84 : decode cX10_init 84 = .ok (.bipush 14, 2) := decAll_at aX10_init_0 42 rfl
theorem dX10_init_86 : decode cX10_init 86 = .ok (.newarray .int, 2) := decAll_at aX10_init_0 43 rfl
theorem dX10_init_88 : decode cX10_init 88 = .ok (.putfield 43, 3) := decAll_at aX10_init_0 44 rfl
theorem dX10_init_91 : decode cX10_init 91 = .ok (.aload_n 0, 1) := decAll_at aX10_init_0 45 rfl
theorem dX10_init_92 : decode cX10_init 92 = .ok (.bipush 14, 2) := decAll_at aX10_init_0 46 rfl
theorem dX10_init_94 : decode cX10_init 94 = .ok (.newarray .int, 2) := decAll_at aX10_init_0 47 rfl
theorem dX10_init_96 : decode cX10_init 96 = .ok (.putfield 46, 3) := decAll_at aX10_init_0 48 rfl
theorem dX10_init_99 : decode cX10_init 99 = .ok (.aload_n 0, 1) := decAll_at aX10_init_0 49 rfl
theorem dX10_init_100 : decode cX10_init 100 = .ok (.bipush 14, 2) := decAll_at aX10_init_0 50 rfl
theorem dX10_init_102 : decode cX10_init 102 = .ok (.newarray .int, 2) := decAll_at aX10_init_0 51 rfl
theorem dX10_init_104 : decode cX10_init 104 = .ok (.putfield 49, 3) := decAll_at aX10_init_0 52 rfl
theorem dX10_init_107 : decode cX10_init 107 = .ok (.aload_n 0, 1) := decAll_at aX10_init_0 53 rfl
theorem dX10_init_108 : decode cX10_init 108 = .ok (.bipush 14, 2) := decAll_at aX10_init_0 54 rfl
theorem dX10_init_110 : decode cX10_init 110 = .ok (.newarray .int, 2) := decAll_at aX10_init_0 55 rfl
theorem dX10_init_112 : decode cX10_init 112 = .ok (.putfield 52, 3) := decAll_at aX10_init_0 56 rfl
theorem dX10_init_115 : decode cX10_init 115 = .ok (.aload_n 0, 1) := decAll_at aX10_init_0 57 rfl
theorem dX10_init_116 : decode cX10_init 116 = .ok (.sipush 200, 3) := decAll_at aX10_init_0 58 rfl
theorem dX10_init_119 : decode cX10_init 119 = .ok (.newarray .int, 2) := decAll_at aX10_init_0 59 rfl
theorem dX10_init_121 : decode cX10_init 121 = .ok (.putfield 55, 3) := decAll_at aX10_init_0 60 rfl
theorem dX10_init_124 : decode cX10_init 124 = .ok (.aload_n 0, 1) := decAll_at aX10_init_0 61 rfl
theorem dX10_init_125 : decode cX10_init 125 = .ok (.sipush 200, 3) := decAll_at aX10_init_0 62 rfl
theorem dX10_init_128 : decode cX10_init 128 = .ok (.newarray .int, 2) := decAll_at aX10_init_0 63 rfl
def laX10_init_1 : List (Nat × Instr × Nat) := [(130, .putfield 58, 3), (133, .aload_n 0, 1), (134, .bipush 14, 2), (136, .newarray .int, 2), (138, .putfield 61, 3), (141, .aload_n 0, 1), (142, .bipush 14, 2), (144, .newarray .int, 2), (146, .putfield 64, 3), (149, .aload_n 0, 1), (150, .bipush 14, 2), (152, .newarray .int, 2), (154, .putfield 67, 3), (157, .aload_n 0, 1), (158, .bipush 14, 2), (160, .newarray .int, 2), (162, .putfield 70, 3), (165, .aload_n 0, 1), (166, .sipush 200, 3), (169, .newarray .int, 2), (171, .putfield 73, 3), (174, .aload_n 0, 1), (175, .sipush 200, 3), (178, .newarray .int, 2), (180, .putfield 76, 3), (183, .aload_n 0, 1), (184, .sipush 240, 3), (187, .newarray .int, 2), (189, .putfield 79, 3), (192, .aload_n 0, 1), (193, .sipush 240, 3), (196, .newarray .int, 2), (198, .putfield 82, 3), (201, .aload_n 0, 1), (202, .sipush 240, 3), (205, .newarray .boolean, 2), (207, .putfield 85, 3), (210, .aload_n 0, 1), (211, .sipush 2406, 3), (214, .newarray .int, 2), (216, .putfield 88, 3), (219, .aload_n 0, 1), (220, .bipush 10, 2), (222, .newarray .int, 2), (224, .putfield 91, 3), (227, .aload_n 0, 1), (228, .bipush 10, 2), (230, .newarray .int, 2), (232, .putfield 94, 3), (235, .aload_n 0, 1), (236, .bipush 6, 2), (238, .newarray .int, 2), (240, .putfield 97, 3), (243, .aload_n 0, 1), (244, .bipush 10, 2), (246, .newarray .int, 2), (248, .putfield 100, 3), (251, .aload_n 0, 1), (252, .sipush 1024, 3), (255, .newarray .boolean, 2), (257, .putfield 103, 3), (260, .aload_n 0, 1), (261, .sipush 1024, 3), (264, .newarray .int, 2)]
theorem aX10_init_1 : decAll cX10_init laX10_init_1 = true := by decide +kernel
theorem dX10_init_130 : decode cX10_init 130 = .ok (.putfield 58, 3) := decAll_at aX10_init_1 0 rfl
theorem dX10_init_133 : decode cX10_init 133 = .ok (.aload_n 0, 1) := decAll_at aX10_init_1 1 rfl
theorem dX10_init_134 : decode cX10_init 134 = .ok (.bipush 14, 2) := decAll_at aX10_init_1 2 rfl
theorem dX10_init_136 : decode cX10_init 136 = .ok (.newarray .int, 2) := decAll_at aX10_init_1 3 rfl
theorem dX10_init_138 : decode cX10_init 138 = .ok (.putfield 61, 3) := decAll_at aX10_init_1 4 rfl
theorem dX10_init_141 : decode cX10_init 141 = .ok (.aload_n 0, 1) := decAll_at aX10_init_1 5 rfl
theorem dX10_init_142 : decode cX10_init 142 = .ok (.bipush 14, 2) := decAll_at aX10_init_1 6 rfl
theorem dX10_init_144 : decode cX10_init 144 = .ok (.newarray .int, 2) := decAll_at aX10_init_1 7 rfl
theorem dX10_init_146 : decode cX10_init 146 = .ok (.putfield 64, 3) := decAll_at aX10_init_1 8 rfl
theorem dX10_init_149 : decode cX10_init 149 = .ok (.aload_n 0, 1) := decAll_at aX10_init_1 9 rfl
theorem dX10_init_150 : decode cX10_init 150 = .ok (.bipush 14, 2) := decAll_at aX10_init_1 10 rfl
theorem dX10_init_152 : decode cX10_init 152 = .ok (.newarray .int, 2) := decAll_at aX10_init_1 11 rfl
theorem dX10_init_154 : decode cX10_init 154 = .ok (.putfield 67, 3) := decAll_at aX10_init_1 12 rfl
theorem dX10_init_157 : decode cX10_init 157 = .ok (.aload_n 0, 1) := decAll_at aX10_init_1 13 rfl
theorem dX10_init_158 : decode cX10_init 158 = .ok (.bipush 14, 2) := decAll_at aX10_init_1 14 rfl
theorem dX10_init_160 : decode cX10_init 160 = .ok (.newarray .int, 2) := decAll_at aX10_init_1 15 rfl
theorem dX10_init_162 : decode cX10_init 162 = .ok (.putfield 70, 3) := decAll_at aX10_init_1 16 rfl
theorem dX10_init_165 : decode cX10_init 165 = .ok (.aload_n 0, 1) := decAll_at aX10_init_1 17 rfl
theorem dX10_init_166 : decode cX10_init 166 = .ok (.sipush 200, 3) := decAll_at aX10_init_1 18 rfl
theorem dX10_init_169 : decode cX10_init 169 = .ok (.newarray .int, 2) := decAll_at aX10_init_1 19 rfl
theorem dX10_init_171 : decode cX10_init 171 = .ok (.putfield 73, 3) := decAll_at aX10_init_1 20 rfl
theorem dX10_init_174 : decode cX10_init 174 = .ok (.aload_n 0, 1) := decAll_at aX10_init_1 21 rfl
theorem dX10_init_175 : decode cX10_init 175 = .ok (.sipush 200, 3) := decAll_at aX10_init_1 22 rfl
theorem dX10_init_178 : decode cX10_init 178 = .ok (.newarray .int, 2) := decAll_at aX10_init_1 23 rfl
theorem dX10_init_180 : decode cX10_init 180 = .ok (.putfield 76, 3) := decAll_at aX10_init_1 24 rfl
theorem dX10_init_183 : decode cX10_init 183 = .ok (.aload_n 0, 1) := decAll_at aX10_init_1 25 rfl
theorem dX10_init_184 : decode cX10_init 184 = .ok (.sipush 240, 3) := decAll_at aX10_init_1 26 rfl
theorem dX10_init_187 : decode cX10_init 187 = .ok (.newarray .int, 2) := decAll_at aX10_init_1 27 rfl
theorem dX10_init_189 : decode cX10_init 189 = .ok (.putfield 79, 3) := decAll_at aX10_init_1 28 rfl
theorem dX10_init_192 : decode cX10_init 192 = .ok (.aload_n 0, 1) := decAll_at aX10_init_1 29 rfl
theorem dX10_init_193 : decode cX10_init 193 = .ok (.sipush 240, 3) := decAll_at aX10_init_1 30 rfl
theorem dX10_init_196 : decode cX10_init 196 = .ok (.newarray .int, 2) := decAll_at aX10_init_1 31 rfl
theorem dX10_init_198 : decode cX10_init 198 = .ok (.putfield 82, 3) := decAll_at aX10_init_1 32 rfl
theorem dX10_init_201 : decode cX10_init 201 = .ok (.aload_n 0, 1) := decAll_at aX10_init_1 33 rfl
theorem dX10_init_202 : decode cX10_init 202 = .ok (.sipush 240, 3) := decAll_at aX10_init_1 34 rfl
theorem dX10_init_205 : decode cX10_init 205 = .ok (.newarray .boolean, 2) := decAll_at aX10_init_1 35 rfl
theorem dX10_init_207 : decode cX10_init 207 = .ok (.putfield 85, 3) := decAll_at aX10_init_1 36 rfl
theorem dX10_init_210 : decode cX10_init 210 = .ok (.aload_n 0, 1) := decAll_at aX10_init_1 37 rfl
theorem dX10_init_211 : decode cX10_init 211 = .ok (.sipush 2406, 3) := decAll_at aX10_init_1 38 rfl
theorem dX10_init_214 : decode cX10_init 214 = .ok (.newarray .int, 2) := decAll_at aX10_init_1 39 rfl
theorem dX10_init_216 : decode cX10_init 216 = .ok (.putfield 88, 3) := decAll_at aX10_init_1 40 rfl
theorem dX10_init_219 : decode cX10_init 219 = .ok (.aload_n 0, 1) := decAll_at aX10_init_1 41 rfl
theorem dX10_init_220 : decode cX10_init 220 = .ok (.bipush 10, 2) := decAll_at aX10_init_1 42 rfl
theorem dX10_init_222 : decode cX10_init 222 = .ok (.newarray .int, 2) := decAll_at aX10_init_1 43 rfl
theorem dX10_init_224 : decode cX10_init 224 = .ok (.putfield 91, 3) := decAll_at aX10_init_1 44 rfl
theorem dX10_init_227 : decode cX10_init 227 = .ok (.aload_n 0, 1) := decAll_at aX10_init_1 45 rfl
theorem dX10_init_228 : decode cX10_init 228 = .ok (.bipush 10, 2) := decAll_at aX10_init_1 46 rfl
theorem dX10_init_230 : decode cX10_init 230 = .ok (.newarray .int, 2) := decAll_at aX10_init_1 47 rfl
theorem dX10_init_232 : decode cX10_init 232 = .ok (.putfield 94, 3) := decAll_at aX10_init_1 48 rfl
theorem dX10_init_235 : decode cX10_init 235 = .ok (.aload_n 0, 1) := decAll_at aX10_init_1 49 rfl
theorem dX10_init_236 : decode cX10_init 236 = .ok (.bipush 6, 2) := decAll_at aX10_init_1 50 rfl
theorem dX10_init_238 : decode cX10_init 238 = .ok (.newarray .int, 2) := decAll_at aX10_init_1 51 rfl
theorem dX10_init_240 : decode cX10_init 240 = .ok (.putfield 97, 3) := decAll_at aX10_init_1 52 rfl
theorem dX10_init_243 : decode cX10_init 243 = .ok (.aload_n 0, 1) := decAll_at aX10_init_1 53 rfl
theorem dX10_init_244 : decode cX10_init 244 = .ok (.bipush 10, 2) := decAll_at aX10_init_1 54 rfl
theorem dX10_init_246 : decode cX10_init 246 = .ok (.newarray .int, 2) := decAll_at aX10_init_1 55 rfl
theorem dX10_init_248 : decode cX10_init 248 = .ok (.putfield 100, 3) := decAll_at aX10_init_1 56 rfl
theorem dX10_init_251 : decode cX10_init 251 = .ok (.aload_n 0, 1) := decAll_at aX10_init_1 57 rfl
theorem dX10_init_252 : decode cX10_init 252 = .ok (.sipush 1024, 3) := decAll_at aX10_init_1 58 rfl
theorem dX10_init_255 : decode cX10_init 255 = .ok (.newarray .boolean, 2) := decAll_at aX10_init_1 59 rfl
theorem dX10_init_257 : decode cX10_init 257 = .ok (.putfield 103, 3) := decAll_at aX10_init_1 60 rfl
theorem dX10_init_260 : decode cX10_init 260 = .ok (.aload_n 0, 1) := decAll_at aX10_init_1 61 rfl
theorem dX10_init_261 : decode cX10_init 261 = .ok (.sipush 1024, 3) := decAll_at aX10_init_1 62 rfl
theorem dX10_init_264 : decode cX10_init 264 = .ok (.newarray .int, 2) := decAll_at aX10_init_1 63 rfl
def laX10_init_2 : List (Nat × Instr × Nat) := [(266, .putfield 106, 3), (269, .aload_n 0, 1), (270, .bipush 10, 2), (272, .newarray .int, 2), (274, .putfield 109, 3), (277, .aload_n 0, 1), (278, .bipush 10, 2), (280, .newarray .int, 2), (282, .putfield 112, 3), (285, .aload_n 0, 1), (286, .bipush 54, 2), (288, .newarray .int, 2), (290, .putfield 115, 3), (293, .aload_n 0, 1), (294, .bipush 10, 2), (296, .newarray .int, 2), (298, .putfield 118, 3), (301, .aload_n 0, 1), (302, .bipush 6, 2), (304, .newarray .int, 2), (306, .putfield 121, 3), (309, .aload_n 0, 1), (310, .bipush 10, 2), (312, .newarray .int, 2), (314, .putfield 124, 3), (317, .aload_n 0, 1), (318, .bipush 11, 2), (320, .newarray .int, 2), (322, .putfield 127, 3), (325, .aload_n 0, 1), (326, .ldc 130, 2), (328, .newarray .boolean, 2), (330, .putfield 131, 3), (333, .aload_n 0, 1), (334, .ldc 130, 2), (336, .newarray .int, 2), (338, .putfield 134, 3), (341, .aload_n 0, 1), (342, .ldc 137, 2), (344, .newarray .int, 2), (346, .putfield 138, 3), (349, .aload_n 0, 1), (350, .ldc 137, 2), (352, .newarray .int, 2), (354, .putfield 141, 3), (357, .aload_n 0, 1), (358, .bipush 10, 2), (360, .newarray .int, 2), (362, .putfield 144, 3), (365, .aload_n 0, 1), (366, .bipush 20, 2), (368, .newarray .int, 2), (370, .putfield 147, 3), (373, .iconst 0, 1), (374, .istore_n 1, 1), (375, .iload_n 1, 1), (376, .bipush 9, 2), (378, .if_icmp .ge 16, 3), (381, .aload_n 0, 1), (382, .getfield 31, 3), (385, .iload_n 1, 1), (386, .iconst (-1), 1), (387, .iastore, 1), (388, .iinc 1 1, 3)]
theorem aX10_init_2 : decAll cX10_init laX10_init_2 = true := by decide +kernel
theorem dX10_init_266 : decode cX10_init 266 = .ok (.putfield 106, 3) := decAll_at aX10_init_2 0 rfl
theorem dX10_init_269 : decode cX10_init 269 = .ok (.aload_n 0, 1) := decAll_at aX10_init_2 1 rfl
theorem dX10_init_270 : decode cX10_init 270 = .ok (.bipush 10, 2) := decAll_at aX10_init_2 2 rfl
theorem dX10_init_272 : decode cX10_init 272 = .ok (.newarray .int, 2) := decAll_at aX10_init_2 3 rfl
theorem dX10_init_274 : decode cX10_init 274 = .ok (.putfield 109, 3) := decAll_at aX10_init_2 4 rfl
theorem dX10_init_277 : decode cX10_init 277 = .ok (.aload_n 0, 1) := decAll_at aX10_init_2 5 rfl
theorem dX10_init_278 : decode cX10_init 278 = .ok (.bipush 10, 2) := decAll_at aX10_init_2 6 rfl
theorem dX10_init_280 : decode cX10_init 280 = .ok (.newarray .int, 2) := decAll_at aX10_init_2 7 rfl
theorem dX10_init_282 : decode cX10_init 282 = .ok (.putfield 112, 3) := decAll_at aX10_init_2 8 rfl
theorem dX10_init_285 : decode cX10_init 285 = .ok (.aload_n 0, 1) := decAll_at aX10_init_2 9 rfl
theorem dX10_init_286 : decode cX10_init 286 = .ok (.bipush 54, 2) := decAll_at aX10_init_2 10 rfl
theorem dX10_init_288 : decode cX10_init 288 = .ok (.newarray .int, 2) := decAll_at aX10_init_2 11 rfl
theorem dX10_init_290 : decode cX10_init 290 = .ok (.putfield 115, 3) := decAll_at aX10_init_2 12 rfl
theorem dX10_init_293 : decode cX10_init 293 = .ok (.aload_n 0, 1) := decAll_at aX10_init_2 13 rfl
theorem dX10_init_294 : decode cX10_init 294 = .ok (.bipush 10, 2) := decAll_at aX10_init_2 14 rfl
theorem dX10_init_296 : decode cX10_init 296 = .ok (.newarray .int, 2) := decAll_at aX10_init_2 15 rfl
theorem dX10_init_298 : decode cX10_init 298 = .ok (.putfield 118, 3) := decAll_at aX10_init_2 16 rfl
theorem dX10_init_301 : decode cX10_init 301 = .ok (.aload_n 0, 1) := decAll_at aX10_init_2 17 rfl
theorem dX10_init_302 : decode cX10_init 302 = .ok (.bipush 6, 2) := decAll_at aX10_init_2 18 rfl
theorem dX10_init_304 : decode cX10_init 304 = .ok (.newarray .int, 2) := decAll_at aX10_init_2 19 rfl
theorem dX10_init_306 : decode cX10_init 306 = .ok (.putfield 121, 3) := decAll_at aX10_init_2 20 rfl
theorem dX10_init_309 : decode cX10_init 309 = .ok (.aload_n 0, 1) := decAll_at aX10_init_2 21 rfl
theorem dX10_init_310 : decode cX10_init 310 = .ok (.bipush 10, 2) := decAll_at aX10_init_2 22 rfl
theorem dX10_init_312 : decode cX10_init 312 = .ok (.newarray .int, 2) := decAll_at aX10_init_2 23 rfl
theorem dX10_init_314 : decode cX10_init 314 = .ok (.putfield 124, 3) := decAll_at aX10_init_2 24 rfl
theorem dX10_init_317 : decode cX10_init 317 = .ok (.aload_n 0, 1) := decAll_at aX10_init_2 25 rfl
theorem dX10_init_318 : decode cX10_init 318 = .ok (.bipush 11, 2) := decAll_at aX10_init_2 26 rfl
theorem dX10_init_320 : decode cX10_init 320 = .ok (.newarray .int, 2) := decAll_at aX10_init_2 27 rfl
theorem dX10_init_322 : decode cX10_init 322 = .ok (.putfield 127, 3) := decAll_at aX10_init_2 28 rfl
theorem dX10_init_325 : decode cX10_init 325 = .ok (.aload_n 0, 1) := decAll_at aX10_init_2 29 rfl
theorem dX10_init_326 : decode cX10_init 326 = .ok (.ldc 130, 2) := decAll_at aX10_init_2 30 rfl
theorem dX10_init_328 : decode cX10_init 328 = .ok (.newarray .boolean, 2) := decAll_at aX10_init_2 31 rfl
theorem dX10_init_330 : decode cX10_init 330 = .ok (.putfield 131, 3) := decAll_at aX10_init_2 32 rfl
theorem dX10_init_333 : decode cX10_init 333 = .ok (.aload_n 0, 1) := decAll_at aX10_init_2 33 rfl
theorem dX10_init_334 : decode cX10_init 334 = .ok (.ldc 130, 2) := decAll_at aX10_init_2 34 rfl
theorem dX10_init_336 : decode cX10_init 336 = .ok (.newarray .int, 2) := decAll_at aX10_init_2 35 rfl
theorem dX10_init_338 : decode cX10_init 338 = .ok (.putfield 134, 3) := decAll_at aX10_init_2 36 rfl
theorem dX10_init_341 : decode cX10_init 341 = .ok (.aload_n 0, 1) := decAll_at aX10_init_2 37 rfl
theorem dX10_init_342 : decode cX10_init 342 = .ok (.ldc 137, 2) := decAll_at aX10_init_2 38 rfl
theorem dX10_init_344 : decode cX10_init 344 = .ok (.newarray .int, 2) := decAll_at aX10_init_2 39 rfl
theorem dX10_init_346 : decode cX10_init 346 = .ok (.putfield 138, 3) := decAll_at aX10_init_2 40 rfl
theorem dX10_init_349 : decode cX10_init 349 = .ok (.aload_n 0, 1) := decAll_at aX10_init_2 41 rfl
theorem dX10_init_350 : decode cX10_init 350 = .ok (.ldc 137, 2) := decAll_at aX10_init_2 42 rfl
theorem dX10_init_352 : decode cX10_init 352 = .ok (.newarray .int, 2) := decAll_at aX10_init_2 43 rfl
theorem dX10_init_354 : decode cX10_init 354 = .ok (.putfield 141, 3) := decAll_at aX10_init_2 44 rfl
theorem dX10_init_357 : decode cX10_init 357 = .ok (.aload_n 0, 1) := decAll_at aX10_init_2 45 rfl
theorem dX10_init_358 : decode cX10_init 358 = .ok (.bipush 10, 2) := decAll_at aX10_init_2 46 rfl
theorem dX10_init_360 : decode cX10_init 360 = .ok (.newarray .int, 2) := decAll_at aX10_init_2 47 rfl
theorem dX10_init_362 : decode cX10_init 362 = .ok (.putfield 144, 3) := decAll_at aX10_init_2 48 rfl
theorem dX10_init_365 : decode cX10_init 365 = .ok (.aload_n 0, 1) := decAll_at aX10_init_2 49 rfl
theorem dX10_init_366 : decode cX10_init 366 = .ok (.bipush 20, 2) := decAll_at aX10_init_2 50 rfl
theorem dX10_init_368 : decode cX10_init 368 = .ok (.newarray .int, 2) := decAll_at aX10_init_2 51 rfl
theorem dX10_init_370 : decode cX10_init 370 = .ok (.putfield 147, 3) := decAll_at aX10_init_2 52 rfl
theorem dX10_init_373 : decode cX10_init 373 = .ok (.iconst 0, 1) := decAll_at aX10_init_2 53 rfl
theorem dX10_init_374 : decode cX10_init 374 = .ok (.istore_n 1, 1) := decAll_at aX10_init_2 54 rfl
theorem dX10_init_375 : decode cX10_init 375 = .ok (.iload_n 1, 1) := decAll_at aX10_init_2 55 rfl
theorem dX10_init_376 : decode cX10_init 376 = .ok (.bipush 9, 2) := decAll_at aX10_init_2 56 rfl
theorem dX10_init_378 : decode cX10_init 378 = .ok (.if_icmp .ge 16, 3) := decAll_at aX10_init_2 57 rfl
theorem dX10_init_381 : decode cX10_init 381 = .ok (.aload_n 0, 1) := decAll_at aX10_init_2 58 rfl
theorem dX10_init_382 : decode cX10_init 382 = .ok (.getfield 31, 3) := decAll_at aX10_init_2 59 rfl
theorem dX10_init_385 : decode cX10_init 385 = .ok (.iload_n 1, 1) := decAll_at aX10_init_2 60 rfl
theorem dX10_init_386 : decode cX10_init 386 = .ok (.iconst (-1), 1) := decAll_at aX10_init_2 61 rfl
theorem dX10_init_387 : decode cX10_init 387 = .ok (.iastore, 1) := decAll_at aX10_init_2 62 rfl
theorem dX10_init_388 : decode cX10_init 388 = .ok (.iinc 1 1, 3) := decAll_at aX10_init_2 63 rfl
def laX10_init_3 : List (Nat × Instr × Nat) := [(391, .goto (-16), 3), (394, .return_, 1)]
theorem aX10_init_3 : decAll cX10_init laX10_init_3 = true := by decide +kernel
theorem dX10_init_391 : decode cX10_init 391 = .ok (.goto (-16), 3) := decAll_at aX10_init_3 0 rfl
theorem dX10_init_394 : decode cX10_init 394 = .ok (.return_, 1) := decAll_at aX10_init_3 1 rfl
def laX10_lies_0 : List (Nat × Instr × Nat) := [(0, .lload_n 0, 1), (1, .lload_n 2, 1), (2, .lcmp, 1), (3, .ifCond .lt 14, 3), (6, .lload_n 0, 1), (7, .lload 4, 2), (9, .lcmp, 1), (10, .ifCond .gt 7, 3), (13, .iconst 1, 1), (14, .goto 4, 3), (17, .iconst 0, 1), (18, .ireturn, 1)]
theorem aX10_lies_0 : decAll cX10_lies laX10_lies_0 = true := by decide +kernel
theorem dX10_lies_0 : decode cX10_lies 0 = .ok (.lload_n 0, 1) := decAll_at aX10_lies_0 0 rfl
theorem dX10_lies_1 : decode cX10_lies 1 = .ok (.lload_n 2, 1) := decAll_at aX10_lies_0 1 rfl
theorem dX10_lies_2 : decode cX10_lies 2 = .ok (.lcmp, 1) := decAll_at aX10_lies_0 2 rfl
theorem dX10_lies_3 : decode cX10_lies 3 = .ok (.ifCond .lt 14, 3) := decAll_at aX10_lies_0 3 rfl
theorem dX10_lies_6 : decode cX10_lies 6 = .ok (.lload_n 0, 1) := decAll_at aX10_lies_0 4 rfl
theorem dX10_lies_7 : decode cX10_lies 7 = .ok (.lload 4, 2) := decAll_at aX10_lies_0 5 rfl
theorem dX10_lies_9 : decode cX10_lies 9 = .ok (.lcmp, 1) := decAll_at aX10_lies_0 6 rfl
theorem dX10_lies_10 : decode cX10_lies 10 = .ok (.ifCond .gt 7, 3) := decAll_at aX10_lies_0 7 rfl
theorem dX10_lies_13 : decode cX10_lies 13 = .ok (.iconst 1, 1) := decAll_at aX10_lies_0 8 rfl
theorem dX10_lies_14 : decode cX10_lies 14 = .ok (.goto 4, 3) := decAll_at aX10_lies_0 9 rfl
theorem dX10_lies_17 : decode cX10_lies 17 = .ok (.iconst 0, 1) := decAll_at aX10_lies_0 10 rfl
theorem dX10_lies_18 : decode cX10_lies 18 = .ok (.ireturn, 1) := decAll_at aX10_lies_0 11 rfl
def laX10_has_0 : List (Nat × Instr × Nat) := [(0, .iload_n 0, 1), (1, .iload_n 1, 1), (2, .ishr, 1), (3, .iconst 1, 1), (4, .iand, 1), (5, .iconst 1, 1), (6, .if_icmp .ne 7, 3), (9, .iconst 1, 1), (10, .goto 4, 3), (13, .iconst 0, 1), (14, .ireturn, 1)]
theorem aX10_has_0 : decAll cX10_has laX10_has_0 = true := by decide +kernel
theorem dX10_has_0 : decode cX10_has 0 = .ok (.iload_n 0, 1) := decAll_at aX10_has_0 0 rfl
theorem dX10_has_1 : decode cX10_has 1 = .ok (.iload_n 1, 1) := decAll_at aX10_has_0 1 rfl
theorem dX10_has_2 : decode cX10_has 2 = .ok (.ishr, 1) := decAll_at aX10_has_0 2 rfl
theorem dX10_has_3 : decode cX10_has 3 = .ok (.iconst 1, 1) := decAll_at aX10_has_0 3 rfl
theorem dX10_has_4 : decode cX10_has 4 = .ok (.iand, 1) := decAll_at aX10_has_0 4 rfl
theorem dX10_has_5 : decode cX10_has 5 = .ok (.iconst 1, 1) := decAll_at aX10_has_0 5 rfl
theorem dX10_has_6 : decode cX10_has 6 = .ok (.if_icmp .ne 7, 3) := decAll_at aX10_has_0 6 rfl
theorem dX10_has_9 : decode cX10_has 9 = .ok (.iconst 1, 1) := decAll_at aX10_has_0 7 rfl
theorem dX10_has_10 : decode cX10_has 10 = .ok (.goto 4, 3) := decAll_at aX10_has_0 8 rfl
theorem dX10_has_13 : decode cX10_has 13 = .ok (.iconst 0, 1) := decAll_at aX10_has_0 9 rfl
theorem dX10_has_14 : decode cX10_has 14 = .ok (.ireturn, 1) := decAll_at aX10_has_0 10 rfl
def laX10_held_0 : List (Nat × Instr × Nat) := [(0, .iload_n 0, 1), (1, .iload_n 1, 1), (2, .if_icmp .ge 7, 3), (5, .iload_n 1, 1), (6, .goto 13, 3), (9, .iload_n 0, 1), (10, .iload_n 2, 1), (11, .if_icmp .le 7, 3), (14, .iload_n 2, 1), (15, .goto 4, 3), (18, .iload_n 0, 1), (19, .ireturn, 1)]
theorem aX10_held_0 : decAll cX10_held laX10_held_0 = true := by decide +kernel
theorem dX10_held_0 : decode cX10_held 0 = .ok (.iload_n 0, 1) := decAll_at aX10_held_0 0 rfl
theorem dX10_held_1 : decode cX10_held 1 = .ok (.iload_n 1, 1) := decAll_at aX10_held_0 1 rfl
theorem dX10_held_2 : decode cX10_held 2 = .ok (.if_icmp .ge 7, 3) := decAll_at aX10_held_0 2 rfl
theorem dX10_held_5 : decode cX10_held 5 = .ok (.iload_n 1, 1) := decAll_at aX10_held_0 3 rfl
theorem dX10_held_6 : decode cX10_held 6 = .ok (.goto 13, 3) := decAll_at aX10_held_0 4 rfl
theorem dX10_held_9 : decode cX10_held 9 = .ok (.iload_n 0, 1) := decAll_at aX10_held_0 5 rfl
theorem dX10_held_10 : decode cX10_held 10 = .ok (.iload_n 2, 1) := decAll_at aX10_held_0 6 rfl
theorem dX10_held_11 : decode cX10_held 11 = .ok (.if_icmp .le 7, 3) := decAll_at aX10_held_0 7 rfl
theorem dX10_held_14 : decode cX10_held 14 = .ok (.iload_n 2, 1) := decAll_at aX10_held_0 8 rfl
theorem dX10_held_15 : decode cX10_held 15 = .ok (.goto 4, 3) := decAll_at aX10_held_0 9 rfl
theorem dX10_held_18 : decode cX10_held 18 = .ok (.iload_n 0, 1) := decAll_at aX10_held_0 10 rfl
theorem dX10_held_19 : decode cX10_held 19 = .ok (.ireturn, 1) := decAll_at aX10_held_0 11 rfl
def laX10_isWalker_0 : List (Nat × Instr × Nat) := [(0, .iload_n 1, 1), (1, .i2l, 1), (2, .lconst 0, 1), (3, .aload_n 0, 1), (4, .getfield 150, 3), (7, .iconst 1, 1), (8, .isub, 1), (9, .i2l, 1), (10, .invokestatic 153, 3), (13, .ireturn, 1)]
theorem aX10_isWalker_0 : decAll cX10_isWalker laX10_isWalker_0 = true := by decide +kernel
theorem dX10_isWalker_0 : decode cX10_isWalker 0 = .ok (.iload_n 1, 1) := decAll_at aX10_isWalker_0 0 rfl
theorem dX10_isWalker_1 : decode cX10_isWalker 1 = .ok (.i2l, 1) := decAll_at aX10_isWalker_0 1 rfl
theorem dX10_isWalker_2 : decode cX10_isWalker 2 = .ok (.lconst 0, 1) := decAll_at aX10_isWalker_0 2 rfl
theorem dX10_isWalker_3 : decode cX10_isWalker 3 = .ok (.aload_n 0, 1) := decAll_at aX10_isWalker_0 3 rfl
theorem dX10_isWalker_4 : decode cX10_isWalker 4 = .ok (.getfield 150, 3) := decAll_at aX10_isWalker_0 4 rfl
theorem dX10_isWalker_7 : decode cX10_isWalker 7 = .ok (.iconst 1, 1) := decAll_at aX10_isWalker_0 5 rfl
theorem dX10_isWalker_8 : decode cX10_isWalker 8 = .ok (.isub, 1) := decAll_at aX10_isWalker_0 6 rfl
theorem dX10_isWalker_9 : decode cX10_isWalker 9 = .ok (.i2l, 1) := decAll_at aX10_isWalker_0 7 rfl
theorem dX10_isWalker_10 : decode cX10_isWalker 10 = .ok (.invokestatic 153, 3) := decAll_at aX10_isWalker_0 8 rfl
theorem dX10_isWalker_13 : decode cX10_isWalker 13 = .ok (.ireturn, 1) := decAll_at aX10_isWalker_0 9 rfl
def laX10_isLoad_0 : List (Nat × Instr × Nat) := [(0, .iload_n 1, 1), (1, .i2l, 1), (2, .lconst 0, 1), (3, .aload_n 0, 1), (4, .getfield 157, 3), (7, .iconst 1, 1), (8, .isub, 1), (9, .i2l, 1), (10, .invokestatic 153, 3), (13, .ireturn, 1)]
theorem aX10_isLoad_0 : decAll cX10_isLoad laX10_isLoad_0 = true := by decide +kernel
theorem dX10_isLoad_0 : decode cX10_isLoad 0 = .ok (.iload_n 1, 1) := decAll_at aX10_isLoad_0 0 rfl
theorem dX10_isLoad_1 : decode cX10_isLoad 1 = .ok (.i2l, 1) := decAll_at aX10_isLoad_0 1 rfl
theorem dX10_isLoad_2 : decode cX10_isLoad 2 = .ok (.lconst 0, 1) := decAll_at aX10_isLoad_0 2 rfl
theorem dX10_isLoad_3 : decode cX10_isLoad 3 = .ok (.aload_n 0, 1) := decAll_at aX10_isLoad_0 3 rfl
theorem dX10_isLoad_4 : decode cX10_isLoad 4 = .ok (.getfield 157, 3) := decAll_at aX10_isLoad_0 4 rfl
theorem dX10_isLoad_7 : decode cX10_isLoad 7 = .ok (.iconst 1, 1) := decAll_at aX10_isLoad_0 5 rfl
theorem dX10_isLoad_8 : decode cX10_isLoad 8 = .ok (.isub, 1) := decAll_at aX10_isLoad_0 6 rfl
theorem dX10_isLoad_9 : decode cX10_isLoad 9 = .ok (.i2l, 1) := decAll_at aX10_isLoad_0 7 rfl
theorem dX10_isLoad_10 : decode cX10_isLoad 10 = .ok (.invokestatic 153, 3) := decAll_at aX10_isLoad_0 8 rfl
theorem dX10_isLoad_13 : decode cX10_isLoad 13 = .ok (.ireturn, 1) := decAll_at aX10_isLoad_0 9 rfl
def laX10_isPiece_0 : List (Nat × Instr × Nat) := [(0, .iload_n 1, 1), (1, .i2l, 1), (2, .lconst 0, 1), (3, .aload_n 0, 1), (4, .getfield 160, 3), (7, .iconst 1, 1), (8, .isub, 1), (9, .i2l, 1), (10, .invokestatic 153, 3), (13, .ireturn, 1)]
theorem aX10_isPiece_0 : decAll cX10_isPiece laX10_isPiece_0 = true := by decide +kernel
theorem dX10_isPiece_0 : decode cX10_isPiece 0 = .ok (.iload_n 1, 1) := decAll_at aX10_isPiece_0 0 rfl
theorem dX10_isPiece_1 : decode cX10_isPiece 1 = .ok (.i2l, 1) := decAll_at aX10_isPiece_0 1 rfl
theorem dX10_isPiece_2 : decode cX10_isPiece 2 = .ok (.lconst 0, 1) := decAll_at aX10_isPiece_0 2 rfl
theorem dX10_isPiece_3 : decode cX10_isPiece 3 = .ok (.aload_n 0, 1) := decAll_at aX10_isPiece_0 3 rfl
theorem dX10_isPiece_4 : decode cX10_isPiece 4 = .ok (.getfield 160, 3) := decAll_at aX10_isPiece_0 4 rfl
theorem dX10_isPiece_7 : decode cX10_isPiece 7 = .ok (.iconst 1, 1) := decAll_at aX10_isPiece_0 5 rfl
theorem dX10_isPiece_8 : decode cX10_isPiece 8 = .ok (.isub, 1) := decAll_at aX10_isPiece_0 6 rfl
theorem dX10_isPiece_9 : decode cX10_isPiece 9 = .ok (.i2l, 1) := decAll_at aX10_isPiece_0 7 rfl
theorem dX10_isPiece_10 : decode cX10_isPiece 10 = .ok (.invokestatic 153, 3) := decAll_at aX10_isPiece_0 8 rfl
theorem dX10_isPiece_13 : decode cX10_isPiece 13 = .ok (.ireturn, 1) := decAll_at aX10_isPiece_0 9 rfl
def laX10_walker_0 : List (Nat × Instr × Nat) := [(0, .aload_n 0, 1), (1, .getfield 150, 3), (4, .bipush 6, 2), (6, .if_icmp .eq 29, 3), (9, .iload_n 1, 1), (10, .i2l, 1), (11, .lconst 0, 1), (12, .ldc2_w 163, 3), (15, .invokestatic 153, 3), (18, .ifCond .eq 17, 3), (21, .iload_n 2, 1), (22, .i2l, 1), (23, .ldc2_w 165, 3), (26, .ldc2_w 167, 3), (29, .invokestatic 153, 3), (32, .ifCond .ne 5, 3), (35, .iconst (-1), 1), (36, .ireturn, 1), (37, .aload_n 0, 1), (38, .getfield 17, 3), (41, .aload_n 0, 1), (42, .getfield 150, 3), (45, .iload_n 1, 1), (46, .iastore, 1), (47, .aload_n 0, 1), (48, .getfield 21, 3), (51, .aload_n 0, 1), (52, .getfield 150, 3), (55, .iload_n 2, 1), (56, .iastore, 1), (57, .aload_n 0, 1), (58, .dup, 1), (59, .getfield 150, 3), (62, .iconst 1, 1), (63, .iadd, 1), (64, .putfield 150, 3), (67, .aload_n 0, 1), (68, .iconst 0, 1), (69, .putfield 169, 3), (72, .aload_n 0, 1), (73, .getfield 150, 3), (76, .iconst 1, 1), (77, .isub, 1), (78, .ireturn, 1)]
theorem aX10_walker_0 : decAll cX10_walker laX10_walker_0 = true := by decide +kernel
theorem dX10_walker_0 : decode cX10_walker 0 = .ok (.aload_n 0, 1) := decAll_at aX10_walker_0 0 rfl
theorem dX10_walker_1 : decode cX10_walker 1 = .ok (.getfield 150, 3) := decAll_at aX10_walker_0 1 rfl
theorem dX10_walker_4 : decode cX10_walker 4 = .ok (.bipush 6, 2) := decAll_at aX10_walker_0 2 rfl
theorem dX10_walker_6 : decode cX10_walker 6 = .ok (.if_icmp .eq 29, 3) := decAll_at aX10_walker_0 3 rfl
theorem dX10_walker_9 : decode cX10_walker 9 = .ok (.iload_n 1, 1) := decAll_at aX10_walker_0 4 rfl
theorem dX10_walker_10 : decode cX10_walker 10 = .ok (.i2l, 1) := decAll_at aX10_walker_0 5 rfl
theorem dX10_walker_11 : decode cX10_walker 11 = .ok (.lconst 0, 1) := decAll_at aX10_walker_0 6 rfl
theorem dX10_walker_12 : decode cX10_walker 12 = .ok (.ldc2_w 163, 3) := decAll_at aX10_walker_0 7 rfl
theorem dX10_walker_15 : decode cX10_walker 15 = .ok (.invokestatic 153, 3) := decAll_at aX10_walker_0 8 rfl
theorem dX10_walker_18 : decode cX10_walker 18 = .ok (.ifCond .eq 17, 3) := decAll_at aX10_walker_0 9 rfl
theorem dX10_walker_21 : decode cX10_walker 21 = .ok (.iload_n 2, 1) := decAll_at aX10_walker_0 10 rfl
theorem dX10_walker_22 : decode cX10_walker 22 = .ok (.i2l, 1) := decAll_at aX10_walker_0 11 rfl
theorem dX10_walker_23 : decode cX10_walker 23 = .ok (.ldc2_w 165, 3) := decAll_at aX10_walker_0 12 rfl
theorem dX10_walker_26 : decode cX10_walker 26 = .ok (.ldc2_w 167, 3) := decAll_at aX10_walker_0 13 rfl
theorem dX10_walker_29 : decode cX10_walker 29 = .ok (.invokestatic 153, 3) := decAll_at aX10_walker_0 14 rfl
theorem dX10_walker_32 : decode cX10_walker 32 = .ok (.ifCond .ne 5, 3) := decAll_at aX10_walker_0 15 rfl
theorem dX10_walker_35 : decode cX10_walker 35 = .ok (.iconst (-1), 1) := decAll_at aX10_walker_0 16 rfl
theorem dX10_walker_36 : decode cX10_walker 36 = .ok (.ireturn, 1) := decAll_at aX10_walker_0 17 rfl
theorem dX10_walker_37 : decode cX10_walker 37 = .ok (.aload_n 0, 1) := decAll_at aX10_walker_0 18 rfl
theorem dX10_walker_38 : decode cX10_walker 38 = .ok (.getfield 17, 3) := decAll_at aX10_walker_0 19 rfl
theorem dX10_walker_41 : decode cX10_walker 41 = .ok (.aload_n 0, 1) := decAll_at aX10_walker_0 20 rfl
theorem dX10_walker_42 : decode cX10_walker 42 = .ok (.getfield 150, 3) := decAll_at aX10_walker_0 21 rfl
theorem dX10_walker_45 : decode cX10_walker 45 = .ok (.iload_n 1, 1) := decAll_at aX10_walker_0 22 rfl
theorem dX10_walker_46 : decode cX10_walker 46 = .ok (.iastore, 1) := decAll_at aX10_walker_0 23 rfl
theorem dX10_walker_47 : decode cX10_walker 47 = .ok (.aload_n 0, 1) := decAll_at aX10_walker_0 24 rfl
theorem dX10_walker_48 : decode cX10_walker 48 = .ok (.getfield 21, 3) := decAll_at aX10_walker_0 25 rfl
theorem dX10_walker_51 : decode cX10_walker 51 = .ok (.aload_n 0, 1) := decAll_at aX10_walker_0 26 rfl
theorem dX10_walker_52 : decode cX10_walker 52 = .ok (.getfield 150, 3) := decAll_at aX10_walker_0 27 rfl
theorem dX10_walker_55 : decode cX10_walker 55 = .ok (.iload_n 2, 1) := decAll_at aX10_walker_0 28 rfl
theorem dX10_walker_56 : decode cX10_walker 56 = .ok (.iastore, 1) := decAll_at aX10_walker_0 29 rfl
theorem dX10_walker_57 : decode cX10_walker 57 = .ok (.aload_n 0, 1) := decAll_at aX10_walker_0 30 rfl
theorem dX10_walker_58 : decode cX10_walker 58 = .ok (.dup, 1) := decAll_at aX10_walker_0 31 rfl
theorem dX10_walker_59 : decode cX10_walker 59 = .ok (.getfield 150, 3) := decAll_at aX10_walker_0 32 rfl
theorem dX10_walker_62 : decode cX10_walker 62 = .ok (.iconst 1, 1) := decAll_at aX10_walker_0 33 rfl
theorem dX10_walker_63 : decode cX10_walker 63 = .ok (.iadd, 1) := decAll_at aX10_walker_0 34 rfl
theorem dX10_walker_64 : decode cX10_walker 64 = .ok (.putfield 150, 3) := decAll_at aX10_walker_0 35 rfl
theorem dX10_walker_67 : decode cX10_walker 67 = .ok (.aload_n 0, 1) := decAll_at aX10_walker_0 36 rfl
theorem dX10_walker_68 : decode cX10_walker 68 = .ok (.iconst 0, 1) := decAll_at aX10_walker_0 37 rfl
theorem dX10_walker_69 : decode cX10_walker 69 = .ok (.putfield 169, 3) := decAll_at aX10_walker_0 38 rfl
theorem dX10_walker_72 : decode cX10_walker 72 = .ok (.aload_n 0, 1) := decAll_at aX10_walker_0 39 rfl
theorem dX10_walker_73 : decode cX10_walker 73 = .ok (.getfield 150, 3) := decAll_at aX10_walker_0 40 rfl
theorem dX10_walker_76 : decode cX10_walker 76 = .ok (.iconst 1, 1) := decAll_at aX10_walker_0 41 rfl
theorem dX10_walker_77 : decode cX10_walker 77 = .ok (.isub, 1) := decAll_at aX10_walker_0 42 rfl
theorem dX10_walker_78 : decode cX10_walker 78 = .ok (.ireturn, 1) := decAll_at aX10_walker_0 43 rfl
def laX10_load_0 : List (Nat × Instr × Nat) := [(0, .aload_n 0, 1), (1, .getfield 157, 3), (4, .bipush 9, 2), (6, .if_icmp .eq 40, 3), (9, .iload_n 1, 1), (10, .i2l, 1), (11, .lconst 1, 1), (12, .ldc2_w 173, 3), (15, .invokestatic 153, 3), (18, .ifCond .eq 28, 3), (21, .iload_n 2, 1), (22, .iconst (-1), 1), (23, .if_icmp .eq 11, 3), (26, .aload_n 0, 1), (27, .iload_n 2, 1), (28, .invokevirtual 175, 3), (31, .ifCond .eq 15, 3), (34, .iload_n 3, 1), (35, .i2l, 1), (36, .lconst 0, 1), (37, .ldc2_w 165, 3), (40, .invokestatic 153, 3), (43, .ifCond .ne 5, 3), (46, .iconst (-1), 1), (47, .ireturn, 1), (48, .aload_n 0, 1), (49, .getfield 28, 3), (52, .aload_n 0, 1), (53, .getfield 157, 3), (56, .iload_n 1, 1), (57, .iastore, 1), (58, .aload_n 0, 1), (59, .getfield 31, 3), (62, .aload_n 0, 1), (63, .getfield 157, 3), (66, .iload_n 2, 1), (67, .iastore, 1), (68, .aload_n 0, 1), (69, .getfield 34, 3), (72, .aload_n 0, 1), (73, .getfield 157, 3), (76, .iload_n 3, 1), (77, .iastore, 1), (78, .aload_n 0, 1), (79, .dup, 1), (80, .getfield 157, 3), (83, .iconst 1, 1), (84, .iadd, 1), (85, .putfield 157, 3), (88, .aload_n 0, 1), (89, .iconst 0, 1), (90, .putfield 179, 3), (93, .aload_n 0, 1), (94, .iconst 0, 1), (95, .putfield 169, 3), (98, .aload_n 0, 1), (99, .getfield 157, 3), (102, .iconst 1, 1), (103, .isub, 1), (104, .ireturn, 1)]
theorem aX10_load_0 : decAll cX10_load laX10_load_0 = true := by decide +kernel
theorem dX10_load_0 : decode cX10_load 0 = .ok (.aload_n 0, 1) := decAll_at aX10_load_0 0 rfl
theorem dX10_load_1 : decode cX10_load 1 = .ok (.getfield 157, 3) := decAll_at aX10_load_0 1 rfl
theorem dX10_load_4 : decode cX10_load 4 = .ok (.bipush 9, 2) := decAll_at aX10_load_0 2 rfl
theorem dX10_load_6 : decode cX10_load 6 = .ok (.if_icmp .eq 40, 3) := decAll_at aX10_load_0 3 rfl
theorem dX10_load_9 : decode cX10_load 9 = .ok (.iload_n 1, 1) := decAll_at aX10_load_0 4 rfl
theorem dX10_load_10 : decode cX10_load 10 = .ok (.i2l, 1) := decAll_at aX10_load_0 5 rfl
theorem dX10_load_11 : decode cX10_load 11 = .ok (.lconst 1, 1) := decAll_at aX10_load_0 6 rfl
theorem dX10_load_12 : decode cX10_load 12 = .ok (.ldc2_w 173, 3) := decAll_at aX10_load_0 7 rfl
theorem dX10_load_15 : decode cX10_load 15 = .ok (.invokestatic 153, 3) := decAll_at aX10_load_0 8 rfl
theorem dX10_load_18 : decode cX10_load 18 = .ok (.ifCond .eq 28, 3) := decAll_at aX10_load_0 9 rfl
theorem dX10_load_21 : decode cX10_load 21 = .ok (.iload_n 2, 1) := decAll_at aX10_load_0 10 rfl
theorem dX10_load_22 : decode cX10_load 22 = .ok (.iconst (-1), 1) := decAll_at aX10_load_0 11 rfl
theorem dX10_load_23 : decode cX10_load 23 = .ok (.if_icmp .eq 11, 3) := decAll_at aX10_load_0 12 rfl
theorem dX10_load_26 : decode cX10_load 26 = .ok (.aload_n 0, 1) := decAll_at aX10_load_0 13 rfl
theorem dX10_load_27 : decode cX10_load 27 = .ok (.iload_n 2, 1) := decAll_at aX10_load_0 14 rfl
theorem dX10_load_28 : decode cX10_load 28 = .ok (.invokevirtual 175, 3) := decAll_at aX10_load_0 15 rfl
theorem dX10_load_31 : decode cX10_load 31 = .ok (.ifCond .eq 15, 3) := decAll_at aX10_load_0 16 rfl
theorem dX10_load_34 : decode cX10_load 34 = .ok (.iload_n 3, 1) := decAll_at aX10_load_0 17 rfl
theorem dX10_load_35 : decode cX10_load 35 = .ok (.i2l, 1) := decAll_at aX10_load_0 18 rfl
theorem dX10_load_36 : decode cX10_load 36 = .ok (.lconst 0, 1) := decAll_at aX10_load_0 19 rfl
theorem dX10_load_37 : decode cX10_load 37 = .ok (.ldc2_w 165, 3) := decAll_at aX10_load_0 20 rfl
theorem dX10_load_40 : decode cX10_load 40 = .ok (.invokestatic 153, 3) := decAll_at aX10_load_0 21 rfl
theorem dX10_load_43 : decode cX10_load 43 = .ok (.ifCond .ne 5, 3) := decAll_at aX10_load_0 22 rfl
theorem dX10_load_46 : decode cX10_load 46 = .ok (.iconst (-1), 1) := decAll_at aX10_load_0 23 rfl
theorem dX10_load_47 : decode cX10_load 47 = .ok (.ireturn, 1) := decAll_at aX10_load_0 24 rfl
theorem dX10_load_48 : decode cX10_load 48 = .ok (.aload_n 0, 1) := decAll_at aX10_load_0 25 rfl
theorem dX10_load_49 : decode cX10_load 49 = .ok (.getfield 28, 3) := decAll_at aX10_load_0 26 rfl
theorem dX10_load_52 : decode cX10_load 52 = .ok (.aload_n 0, 1) := decAll_at aX10_load_0 27 rfl
theorem dX10_load_53 : decode cX10_load 53 = .ok (.getfield 157, 3) := decAll_at aX10_load_0 28 rfl
theorem dX10_load_56 : decode cX10_load 56 = .ok (.iload_n 1, 1) := decAll_at aX10_load_0 29 rfl
theorem dX10_load_57 : decode cX10_load 57 = .ok (.iastore, 1) := decAll_at aX10_load_0 30 rfl
theorem dX10_load_58 : decode cX10_load 58 = .ok (.aload_n 0, 1) := decAll_at aX10_load_0 31 rfl
theorem dX10_load_59 : decode cX10_load 59 = .ok (.getfield 31, 3) := decAll_at aX10_load_0 32 rfl
theorem dX10_load_62 : decode cX10_load 62 = .ok (.aload_n 0, 1) := decAll_at aX10_load_0 33 rfl
theorem dX10_load_63 : decode cX10_load 63 = .ok (.getfield 157, 3) := decAll_at aX10_load_0 34 rfl
theorem dX10_load_66 : decode cX10_load 66 = .ok (.iload_n 2, 1) := decAll_at aX10_load_0 35 rfl
theorem dX10_load_67 : decode cX10_load 67 = .ok (.iastore, 1) := decAll_at aX10_load_0 36 rfl
theorem dX10_load_68 : decode cX10_load 68 = .ok (.aload_n 0, 1) := decAll_at aX10_load_0 37 rfl
theorem dX10_load_69 : decode cX10_load 69 = .ok (.getfield 34, 3) := decAll_at aX10_load_0 38 rfl
theorem dX10_load_72 : decode cX10_load 72 = .ok (.aload_n 0, 1) := decAll_at aX10_load_0 39 rfl
theorem dX10_load_73 : decode cX10_load 73 = .ok (.getfield 157, 3) := decAll_at aX10_load_0 40 rfl
theorem dX10_load_76 : decode cX10_load 76 = .ok (.iload_n 3, 1) := decAll_at aX10_load_0 41 rfl
theorem dX10_load_77 : decode cX10_load 77 = .ok (.iastore, 1) := decAll_at aX10_load_0 42 rfl
theorem dX10_load_78 : decode cX10_load 78 = .ok (.aload_n 0, 1) := decAll_at aX10_load_0 43 rfl
theorem dX10_load_79 : decode cX10_load 79 = .ok (.dup, 1) := decAll_at aX10_load_0 44 rfl
theorem dX10_load_80 : decode cX10_load 80 = .ok (.getfield 157, 3) := decAll_at aX10_load_0 45 rfl
theorem dX10_load_83 : decode cX10_load 83 = .ok (.iconst 1, 1) := decAll_at aX10_load_0 46 rfl
theorem dX10_load_84 : decode cX10_load 84 = .ok (.iadd, 1) := decAll_at aX10_load_0 47 rfl
theorem dX10_load_85 : decode cX10_load 85 = .ok (.putfield 157, 3) := decAll_at aX10_load_0 48 rfl
theorem dX10_load_88 : decode cX10_load 88 = .ok (.aload_n 0, 1) := decAll_at aX10_load_0 49 rfl
theorem dX10_load_89 : decode cX10_load 89 = .ok (.iconst 0, 1) := decAll_at aX10_load_0 50 rfl
theorem dX10_load_90 : decode cX10_load 90 = .ok (.putfield 179, 3) := decAll_at aX10_load_0 51 rfl
theorem dX10_load_93 : decode cX10_load 93 = .ok (.aload_n 0, 1) := decAll_at aX10_load_0 52 rfl
theorem dX10_load_94 : decode cX10_load 94 = .ok (.iconst 0, 1) := decAll_at aX10_load_0 53 rfl
theorem dX10_load_95 : decode cX10_load 95 = .ok (.putfield 169, 3) := decAll_at aX10_load_0 54 rfl
theorem dX10_load_98 : decode cX10_load 98 = .ok (.aload_n 0, 1) := decAll_at aX10_load_0 55 rfl
theorem dX10_load_99 : decode cX10_load 99 = .ok (.getfield 157, 3) := decAll_at aX10_load_0 56 rfl
theorem dX10_load_102 : decode cX10_load 102 = .ok (.iconst 1, 1) := decAll_at aX10_load_0 57 rfl
theorem dX10_load_103 : decode cX10_load 103 = .ok (.isub, 1) := decAll_at aX10_load_0 58 rfl
theorem dX10_load_104 : decode cX10_load 104 = .ok (.ireturn, 1) := decAll_at aX10_load_0 59 rfl
def laX10_piece_0 : List (Nat × Instr × Nat) := [(0, .aload_n 0, 1), (1, .getfield 160, 3), (4, .bipush 10, 2), (6, .if_icmp .eq 29, 3), (9, .iload_n 1, 1), (10, .i2l, 1), (11, .lconst 1, 1), (12, .ldc2_w 165, 3), (15, .invokestatic 153, 3), (18, .ifCond .eq 17, 3), (21, .iload_n 2, 1), (22, .i2l, 1), (23, .ldc2_w 182, 3), (26, .ldc2_w 163, 3), (29, .invokestatic 153, 3), (32, .ifCond .ne 5, 3), (35, .iconst (-1), 1), (36, .ireturn, 1), (37, .aload_n 0, 1), (38, .getfield 37, 3), (41, .aload_n 0, 1), (42, .getfield 160, 3), (45, .iload_n 1, 1), (46, .iastore, 1), (47, .aload_n 0, 1), (48, .getfield 40, 3), (51, .aload_n 0, 1), (52, .getfield 160, 3), (55, .iload_n 2, 1), (56, .iastore, 1), (57, .aload_n 0, 1), (58, .dup, 1), (59, .getfield 160, 3), (62, .iconst 1, 1), (63, .iadd, 1), (64, .putfield 160, 3), (67, .aload_n 0, 1), (68, .iconst 0, 1), (69, .putfield 169, 3), (72, .aload_n 0, 1), (73, .getfield 160, 3), (76, .iconst 1, 1), (77, .isub, 1), (78, .ireturn, 1)]
theorem aX10_piece_0 : decAll cX10_piece laX10_piece_0 = true := by decide +kernel
theorem dX10_piece_0 : decode cX10_piece 0 = .ok (.aload_n 0, 1) := decAll_at aX10_piece_0 0 rfl
theorem dX10_piece_1 : decode cX10_piece 1 = .ok (.getfield 160, 3) := decAll_at aX10_piece_0 1 rfl
theorem dX10_piece_4 : decode cX10_piece 4 = .ok (.bipush 10, 2) := decAll_at aX10_piece_0 2 rfl
theorem dX10_piece_6 : decode cX10_piece 6 = .ok (.if_icmp .eq 29, 3) := decAll_at aX10_piece_0 3 rfl
theorem dX10_piece_9 : decode cX10_piece 9 = .ok (.iload_n 1, 1) := decAll_at aX10_piece_0 4 rfl
theorem dX10_piece_10 : decode cX10_piece 10 = .ok (.i2l, 1) := decAll_at aX10_piece_0 5 rfl
theorem dX10_piece_11 : decode cX10_piece 11 = .ok (.lconst 1, 1) := decAll_at aX10_piece_0 6 rfl
theorem dX10_piece_12 : decode cX10_piece 12 = .ok (.ldc2_w 165, 3) := decAll_at aX10_piece_0 7 rfl
theorem dX10_piece_15 : decode cX10_piece 15 = .ok (.invokestatic 153, 3) := decAll_at aX10_piece_0 8 rfl
theorem dX10_piece_18 : decode cX10_piece 18 = .ok (.ifCond .eq 17, 3) := decAll_at aX10_piece_0 9 rfl
theorem dX10_piece_21 : decode cX10_piece 21 = .ok (.iload_n 2, 1) := decAll_at aX10_piece_0 10 rfl
theorem dX10_piece_22 : decode cX10_piece 22 = .ok (.i2l, 1) := decAll_at aX10_piece_0 11 rfl
theorem dX10_piece_23 : decode cX10_piece 23 = .ok (.ldc2_w 182, 3) := decAll_at aX10_piece_0 12 rfl
theorem dX10_piece_26 : decode cX10_piece 26 = .ok (.ldc2_w 163, 3) := decAll_at aX10_piece_0 13 rfl
theorem dX10_piece_29 : decode cX10_piece 29 = .ok (.invokestatic 153, 3) := decAll_at aX10_piece_0 14 rfl
theorem dX10_piece_32 : decode cX10_piece 32 = .ok (.ifCond .ne 5, 3) := decAll_at aX10_piece_0 15 rfl
theorem dX10_piece_35 : decode cX10_piece 35 = .ok (.iconst (-1), 1) := decAll_at aX10_piece_0 16 rfl
theorem dX10_piece_36 : decode cX10_piece 36 = .ok (.ireturn, 1) := decAll_at aX10_piece_0 17 rfl
theorem dX10_piece_37 : decode cX10_piece 37 = .ok (.aload_n 0, 1) := decAll_at aX10_piece_0 18 rfl
theorem dX10_piece_38 : decode cX10_piece 38 = .ok (.getfield 37, 3) := decAll_at aX10_piece_0 19 rfl
theorem dX10_piece_41 : decode cX10_piece 41 = .ok (.aload_n 0, 1) := decAll_at aX10_piece_0 20 rfl
theorem dX10_piece_42 : decode cX10_piece 42 = .ok (.getfield 160, 3) := decAll_at aX10_piece_0 21 rfl
theorem dX10_piece_45 : decode cX10_piece 45 = .ok (.iload_n 1, 1) := decAll_at aX10_piece_0 22 rfl
theorem dX10_piece_46 : decode cX10_piece 46 = .ok (.iastore, 1) := decAll_at aX10_piece_0 23 rfl
theorem dX10_piece_47 : decode cX10_piece 47 = .ok (.aload_n 0, 1) := decAll_at aX10_piece_0 24 rfl
theorem dX10_piece_48 : decode cX10_piece 48 = .ok (.getfield 40, 3) := decAll_at aX10_piece_0 25 rfl
theorem dX10_piece_51 : decode cX10_piece 51 = .ok (.aload_n 0, 1) := decAll_at aX10_piece_0 26 rfl
theorem dX10_piece_52 : decode cX10_piece 52 = .ok (.getfield 160, 3) := decAll_at aX10_piece_0 27 rfl
theorem dX10_piece_55 : decode cX10_piece 55 = .ok (.iload_n 2, 1) := decAll_at aX10_piece_0 28 rfl
theorem dX10_piece_56 : decode cX10_piece 56 = .ok (.iastore, 1) := decAll_at aX10_piece_0 29 rfl
theorem dX10_piece_57 : decode cX10_piece 57 = .ok (.aload_n 0, 1) := decAll_at aX10_piece_0 30 rfl
theorem dX10_piece_58 : decode cX10_piece 58 = .ok (.dup, 1) := decAll_at aX10_piece_0 31 rfl
theorem dX10_piece_59 : decode cX10_piece 59 = .ok (.getfield 160, 3) := decAll_at aX10_piece_0 32 rfl
theorem dX10_piece_62 : decode cX10_piece 62 = .ok (.iconst 1, 1) := decAll_at aX10_piece_0 33 rfl
theorem dX10_piece_63 : decode cX10_piece 63 = .ok (.iadd, 1) := decAll_at aX10_piece_0 34 rfl
theorem dX10_piece_64 : decode cX10_piece 64 = .ok (.putfield 160, 3) := decAll_at aX10_piece_0 35 rfl
theorem dX10_piece_67 : decode cX10_piece 67 = .ok (.aload_n 0, 1) := decAll_at aX10_piece_0 36 rfl
theorem dX10_piece_68 : decode cX10_piece 68 = .ok (.iconst 0, 1) := decAll_at aX10_piece_0 37 rfl
theorem dX10_piece_69 : decode cX10_piece 69 = .ok (.putfield 169, 3) := decAll_at aX10_piece_0 38 rfl
theorem dX10_piece_72 : decode cX10_piece 72 = .ok (.aload_n 0, 1) := decAll_at aX10_piece_0 39 rfl
theorem dX10_piece_73 : decode cX10_piece 73 = .ok (.getfield 160, 3) := decAll_at aX10_piece_0 40 rfl
theorem dX10_piece_76 : decode cX10_piece 76 = .ok (.iconst 1, 1) := decAll_at aX10_piece_0 41 rfl
theorem dX10_piece_77 : decode cX10_piece 77 = .ok (.isub, 1) := decAll_at aX10_piece_0 42 rfl
theorem dX10_piece_78 : decode cX10_piece 78 = .ok (.ireturn, 1) := decAll_at aX10_piece_0 43 rfl
def laX10_lame_0 : List (Nat × Instr × Nat) := [(0, .aload_n 0, 1), (1, .iload_n 1, 1), (2, .invokevirtual 175, 3), (5, .ifCond .eq 13, 3), (8, .aload_n 0, 1), (9, .getfield 24, 3), (12, .iload_n 1, 1), (13, .baload, 1), (14, .iload_n 2, 1), (15, .if_icmp .ne 5, 3), (18, .iconst 0, 1), (19, .ireturn, 1), (20, .aload_n 0, 1), (21, .getfield 24, 3), (24, .iload_n 1, 1), (25, .iload_n 2, 1), (26, .bastore, 1), (27, .iconst 1, 1), (28, .ireturn, 1)]
theorem aX10_lame_0 : decAll cX10_lame laX10_lame_0 = true := by decide +kernel
theorem dX10_lame_0 : decode cX10_lame 0 = .ok (.aload_n 0, 1) := decAll_at aX10_lame_0 0 rfl
theorem dX10_lame_1 : decode cX10_lame 1 = .ok (.iload_n 1, 1) := decAll_at aX10_lame_0 1 rfl
theorem dX10_lame_2 : decode cX10_lame 2 = .ok (.invokevirtual 175, 3) := decAll_at aX10_lame_0 2 rfl
theorem dX10_lame_5 : decode cX10_lame 5 = .ok (.ifCond .eq 13, 3) := decAll_at aX10_lame_0 3 rfl
theorem dX10_lame_8 : decode cX10_lame 8 = .ok (.aload_n 0, 1) := decAll_at aX10_lame_0 4 rfl
theorem dX10_lame_9 : decode cX10_lame 9 = .ok (.getfield 24, 3) := decAll_at aX10_lame_0 5 rfl
theorem dX10_lame_12 : decode cX10_lame 12 = .ok (.iload_n 1, 1) := decAll_at aX10_lame_0 6 rfl
theorem dX10_lame_13 : decode cX10_lame 13 = .ok (.baload, 1) := decAll_at aX10_lame_0 7 rfl
theorem dX10_lame_14 : decode cX10_lame 14 = .ok (.iload_n 2, 1) := decAll_at aX10_lame_0 8 rfl
theorem dX10_lame_15 : decode cX10_lame 15 = .ok (.if_icmp .ne 5, 3) := decAll_at aX10_lame_0 9 rfl
theorem dX10_lame_18 : decode cX10_lame 18 = .ok (.iconst 0, 1) := decAll_at aX10_lame_0 10 rfl
theorem dX10_lame_19 : decode cX10_lame 19 = .ok (.ireturn, 1) := decAll_at aX10_lame_0 11 rfl
theorem dX10_lame_20 : decode cX10_lame 20 = .ok (.aload_n 0, 1) := decAll_at aX10_lame_0 12 rfl
theorem dX10_lame_21 : decode cX10_lame 21 = .ok (.getfield 24, 3) := decAll_at aX10_lame_0 13 rfl
theorem dX10_lame_24 : decode cX10_lame 24 = .ok (.iload_n 1, 1) := decAll_at aX10_lame_0 14 rfl
theorem dX10_lame_25 : decode cX10_lame 25 = .ok (.iload_n 2, 1) := decAll_at aX10_lame_0 15 rfl
theorem dX10_lame_26 : decode cX10_lame 26 = .ok (.bastore, 1) := decAll_at aX10_lame_0 16 rfl
theorem dX10_lame_27 : decode cX10_lame 27 = .ok (.iconst 1, 1) := decAll_at aX10_lame_0 17 rfl
theorem dX10_lame_28 : decode cX10_lame 28 = .ok (.ireturn, 1) := decAll_at aX10_lame_0 18 rfl
def laX10_change_0 : List (Nat × Instr × Nat) := [(0, .iload_n 1, 1), (1, .i2l, 1), (2, .lconst 0, 1), (3, .ldc2_w 173, 3), (6, .invokestatic 153, 3), (9, .ifCond .ne 5, 3), (12, .iconst 0, 1), (13, .ireturn, 1), (14, .aload_n 0, 1), (15, .iload_n 1, 1), (16, .putfield 13, 3), (19, .iconst 1, 1), (20, .ireturn, 1)]
theorem aX10_change_0 : decAll cX10_change laX10_change_0 = true := by decide +kernel
theorem dX10_change_0 : decode cX10_change 0 = .ok (.iload_n 1, 1) := decAll_at aX10_change_0 0 rfl
theorem dX10_change_1 : decode cX10_change 1 = .ok (.i2l, 1) := decAll_at aX10_change_0 1 rfl
theorem dX10_change_2 : decode cX10_change 2 = .ok (.lconst 0, 1) := decAll_at aX10_change_0 2 rfl
theorem dX10_change_3 : decode cX10_change 3 = .ok (.ldc2_w 173, 3) := decAll_at aX10_change_0 3 rfl
theorem dX10_change_6 : decode cX10_change 6 = .ok (.invokestatic 153, 3) := decAll_at aX10_change_0 4 rfl
theorem dX10_change_9 : decode cX10_change 9 = .ok (.ifCond .ne 5, 3) := decAll_at aX10_change_0 5 rfl
theorem dX10_change_12 : decode cX10_change 12 = .ok (.iconst 0, 1) := decAll_at aX10_change_0 6 rfl
theorem dX10_change_13 : decode cX10_change 13 = .ok (.ireturn, 1) := decAll_at aX10_change_0 7 rfl
theorem dX10_change_14 : decode cX10_change 14 = .ok (.aload_n 0, 1) := decAll_at aX10_change_0 8 rfl
theorem dX10_change_15 : decode cX10_change 15 = .ok (.iload_n 1, 1) := decAll_at aX10_change_0 9 rfl
theorem dX10_change_16 : decode cX10_change 16 = .ok (.putfield 13, 3) := decAll_at aX10_change_0 10 rfl
theorem dX10_change_19 : decode cX10_change 19 = .ok (.iconst 1, 1) := decAll_at aX10_change_0 11 rfl
theorem dX10_change_20 : decode cX10_change 20 = .ok (.ireturn, 1) := decAll_at aX10_change_0 12 rfl
def laX10_poundsOf_0 : List (Nat × Instr × Nat) := [(0, .aload_n 0, 1), (1, .getfield 28, 3), (4, .iload_n 1, 1), (5, .iaload, 1), (6, .aload_n 0, 1), (7, .getfield 34, 3), (10, .iload_n 1, 1), (11, .iaload, 1), (12, .iload_n 2, 1), (13, .imul, 1), (14, .isub, 1), (15, .ifCond .ge 7, 3), (18, .iconst 0, 1), (19, .goto 18, 3), (22, .aload_n 0, 1), (23, .getfield 28, 3), (26, .iload_n 1, 1), (27, .iaload, 1), (28, .aload_n 0, 1), (29, .getfield 34, 3), (32, .iload_n 1, 1), (33, .iaload, 1), (34, .iload_n 2, 1), (35, .imul, 1), (36, .isub, 1), (37, .ireturn, 1)]
theorem aX10_poundsOf_0 : decAll cX10_poundsOf laX10_poundsOf_0 = true := by decide +kernel
theorem dX10_poundsOf_0 : decode cX10_poundsOf 0 = .ok (.aload_n 0, 1) := decAll_at aX10_poundsOf_0 0 rfl
theorem dX10_poundsOf_1 : decode cX10_poundsOf 1 = .ok (.getfield 28, 3) := decAll_at aX10_poundsOf_0 1 rfl
theorem dX10_poundsOf_4 : decode cX10_poundsOf 4 = .ok (.iload_n 1, 1) := decAll_at aX10_poundsOf_0 2 rfl
theorem dX10_poundsOf_5 : decode cX10_poundsOf 5 = .ok (.iaload, 1) := decAll_at aX10_poundsOf_0 3 rfl
theorem dX10_poundsOf_6 : decode cX10_poundsOf 6 = .ok (.aload_n 0, 1) := decAll_at aX10_poundsOf_0 4 rfl
theorem dX10_poundsOf_7 : decode cX10_poundsOf 7 = .ok (.getfield 34, 3) := decAll_at aX10_poundsOf_0 5 rfl
theorem dX10_poundsOf_10 : decode cX10_poundsOf 10 = .ok (.iload_n 1, 1) := decAll_at aX10_poundsOf_0 6 rfl
theorem dX10_poundsOf_11 : decode cX10_poundsOf 11 = .ok (.iaload, 1) := decAll_at aX10_poundsOf_0 7 rfl
theorem dX10_poundsOf_12 : decode cX10_poundsOf 12 = .ok (.iload_n 2, 1) := decAll_at aX10_poundsOf_0 8 rfl
theorem dX10_poundsOf_13 : decode cX10_poundsOf 13 = .ok (.imul, 1) := decAll_at aX10_poundsOf_0 9 rfl
theorem dX10_poundsOf_14 : decode cX10_poundsOf 14 = .ok (.isub, 1) := decAll_at aX10_poundsOf_0 10 rfl
theorem dX10_poundsOf_15 : decode cX10_poundsOf 15 = .ok (.ifCond .ge 7, 3) := decAll_at aX10_poundsOf_0 11 rfl
theorem dX10_poundsOf_18 : decode cX10_poundsOf 18 = .ok (.iconst 0, 1) := decAll_at aX10_poundsOf_0 12 rfl
theorem dX10_poundsOf_19 : decode cX10_poundsOf 19 = .ok (.goto 18, 3) := decAll_at aX10_poundsOf_0 13 rfl
theorem dX10_poundsOf_22 : decode cX10_poundsOf 22 = .ok (.aload_n 0, 1) := decAll_at aX10_poundsOf_0 14 rfl
theorem dX10_poundsOf_23 : decode cX10_poundsOf 23 = .ok (.getfield 28, 3) := decAll_at aX10_poundsOf_0 15 rfl
theorem dX10_poundsOf_26 : decode cX10_poundsOf 26 = .ok (.iload_n 1, 1) := decAll_at aX10_poundsOf_0 16 rfl
theorem dX10_poundsOf_27 : decode cX10_poundsOf 27 = .ok (.iaload, 1) := decAll_at aX10_poundsOf_0 17 rfl
theorem dX10_poundsOf_28 : decode cX10_poundsOf 28 = .ok (.aload_n 0, 1) := decAll_at aX10_poundsOf_0 18 rfl
theorem dX10_poundsOf_29 : decode cX10_poundsOf 29 = .ok (.getfield 34, 3) := decAll_at aX10_poundsOf_0 19 rfl
theorem dX10_poundsOf_32 : decode cX10_poundsOf 32 = .ok (.iload_n 1, 1) := decAll_at aX10_poundsOf_0 20 rfl
theorem dX10_poundsOf_33 : decode cX10_poundsOf 33 = .ok (.iaload, 1) := decAll_at aX10_poundsOf_0 21 rfl
theorem dX10_poundsOf_34 : decode cX10_poundsOf 34 = .ok (.iload_n 2, 1) := decAll_at aX10_poundsOf_0 22 rfl
theorem dX10_poundsOf_35 : decode cX10_poundsOf 35 = .ok (.imul, 1) := decAll_at aX10_poundsOf_0 23 rfl
theorem dX10_poundsOf_36 : decode cX10_poundsOf 36 = .ok (.isub, 1) := decAll_at aX10_poundsOf_0 24 rfl
theorem dX10_poundsOf_37 : decode cX10_poundsOf 37 = .ok (.ireturn, 1) := decAll_at aX10_poundsOf_0 25 rfl
def laX10_allPounds_0 : List (Nat × Instr × Nat) := [(0, .iconst 0, 1), (1, .istore_n 2, 1), (2, .iconst 0, 1), (3, .istore_n 3, 1), (4, .iload_n 3, 1), (5, .aload_n 0, 1), (6, .getfield 157, 3), (9, .if_icmp .ge 18, 3), (12, .iload_n 2, 1), (13, .aload_n 0, 1), (14, .iload_n 3, 1), (15, .iload_n 1, 1), (16, .invokevirtual 184, 3), (19, .iadd, 1), (20, .istore_n 2, 1), (21, .iinc 3 1, 3), (24, .goto (-20), 3), (27, .iload_n 2, 1), (28, .ireturn, 1)]
theorem aX10_allPounds_0 : decAll cX10_allPounds laX10_allPounds_0 = true := by decide +kernel
theorem dX10_allPounds_0 : decode cX10_allPounds 0 = .ok (.iconst 0, 1) := decAll_at aX10_allPounds_0 0 rfl
theorem dX10_allPounds_1 : decode cX10_allPounds 1 = .ok (.istore_n 2, 1) := decAll_at aX10_allPounds_0 1 rfl
theorem dX10_allPounds_2 : decode cX10_allPounds 2 = .ok (.iconst 0, 1) := decAll_at aX10_allPounds_0 2 rfl
theorem dX10_allPounds_3 : decode cX10_allPounds 3 = .ok (.istore_n 3, 1) := decAll_at aX10_allPounds_0 3 rfl
theorem dX10_allPounds_4 : decode cX10_allPounds 4 = .ok (.iload_n 3, 1) := decAll_at aX10_allPounds_0 4 rfl
theorem dX10_allPounds_5 : decode cX10_allPounds 5 = .ok (.aload_n 0, 1) := decAll_at aX10_allPounds_0 5 rfl
theorem dX10_allPounds_6 : decode cX10_allPounds 6 = .ok (.getfield 157, 3) := decAll_at aX10_allPounds_0 6 rfl
theorem dX10_allPounds_9 : decode cX10_allPounds 9 = .ok (.if_icmp .ge 18, 3) := decAll_at aX10_allPounds_0 7 rfl
theorem dX10_allPounds_12 : decode cX10_allPounds 12 = .ok (.iload_n 2, 1) := decAll_at aX10_allPounds_0 8 rfl
theorem dX10_allPounds_13 : decode cX10_allPounds 13 = .ok (.aload_n 0, 1) := decAll_at aX10_allPounds_0 9 rfl
theorem dX10_allPounds_14 : decode cX10_allPounds 14 = .ok (.iload_n 3, 1) := decAll_at aX10_allPounds_0 10 rfl
theorem dX10_allPounds_15 : decode cX10_allPounds 15 = .ok (.iload_n 1, 1) := decAll_at aX10_allPounds_0 11 rfl
theorem dX10_allPounds_16 : decode cX10_allPounds 16 = .ok (.invokevirtual 184, 3) := decAll_at aX10_allPounds_0 12 rfl
theorem dX10_allPounds_19 : decode cX10_allPounds 19 = .ok (.iadd, 1) := decAll_at aX10_allPounds_0 13 rfl
theorem dX10_allPounds_20 : decode cX10_allPounds 20 = .ok (.istore_n 2, 1) := decAll_at aX10_allPounds_0 14 rfl
theorem dX10_allPounds_21 : decode cX10_allPounds 21 = .ok (.iinc 3 1, 3) := decAll_at aX10_allPounds_0 15 rfl
theorem dX10_allPounds_24 : decode cX10_allPounds 24 = .ok (.goto (-20), 3) := decAll_at aX10_allPounds_0 16 rfl
theorem dX10_allPounds_27 : decode cX10_allPounds 27 = .ok (.iload_n 2, 1) := decAll_at aX10_allPounds_0 17 rfl
theorem dX10_allPounds_28 : decode cX10_allPounds 28 = .ok (.ireturn, 1) := decAll_at aX10_allPounds_0 18 rfl
def laX10_push_0 : List (Nat × Instr × Nat) := [(0, .bipush 24, 2), (2, .istore_n 2, 1), (3, .iload_n 2, 1), (4, .ifCond .lt 32, 3), (7, .aload_n 0, 1), (8, .getfield 7, 3), (11, .aload_n 0, 1), (12, .getfield 188, 3), (15, .iload_n 1, 1), (16, .iload_n 2, 1), (17, .ishr, 1), (18, .i2b, 1), (19, .bastore, 1), (20, .aload_n 0, 1), (21, .dup, 1), (22, .getfield 188, 3), (25, .iconst 1, 1), (26, .iadd, 1), (27, .putfield 188, 3), (30, .iinc 2 (-8), 3), (33, .goto (-30), 3), (36, .return_, 1)]
theorem aX10_push_0 : decAll cX10_push laX10_push_0 = true := by decide +kernel
theorem dX10_push_0 : decode cX10_push 0 = .ok (.bipush 24, 2) := decAll_at aX10_push_0 0 rfl
theorem dX10_push_2 : decode cX10_push 2 = .ok (.istore_n 2, 1) := decAll_at aX10_push_0 1 rfl
theorem dX10_push_3 : decode cX10_push 3 = .ok (.iload_n 2, 1) := decAll_at aX10_push_0 2 rfl
theorem dX10_push_4 : decode cX10_push 4 = .ok (.ifCond .lt 32, 3) := decAll_at aX10_push_0 3 rfl
theorem dX10_push_7 : decode cX10_push 7 = .ok (.aload_n 0, 1) := decAll_at aX10_push_0 4 rfl
theorem dX10_push_8 : decode cX10_push 8 = .ok (.getfield 7, 3) := decAll_at aX10_push_0 5 rfl
theorem dX10_push_11 : decode cX10_push 11 = .ok (.aload_n 0, 1) := decAll_at aX10_push_0 6 rfl
theorem dX10_push_12 : decode cX10_push 12 = .ok (.getfield 188, 3) := decAll_at aX10_push_0 7 rfl
theorem dX10_push_15 : decode cX10_push 15 = .ok (.iload_n 1, 1) := decAll_at aX10_push_0 8 rfl
theorem dX10_push_16 : decode cX10_push 16 = .ok (.iload_n 2, 1) := decAll_at aX10_push_0 9 rfl
theorem dX10_push_17 : decode cX10_push 17 = .ok (.ishr, 1) := decAll_at aX10_push_0 10 rfl
theorem dX10_push_18 : decode cX10_push 18 = .ok (.i2b, 1) := decAll_at aX10_push_0 11 rfl
theorem dX10_push_19 : decode cX10_push 19 = .ok (.bastore, 1) := decAll_at aX10_push_0 12 rfl
theorem dX10_push_20 : decode cX10_push 20 = .ok (.aload_n 0, 1) := decAll_at aX10_push_0 13 rfl
theorem dX10_push_21 : decode cX10_push 21 = .ok (.dup, 1) := decAll_at aX10_push_0 14 rfl
theorem dX10_push_22 : decode cX10_push 22 = .ok (.getfield 188, 3) := decAll_at aX10_push_0 15 rfl
theorem dX10_push_25 : decode cX10_push 25 = .ok (.iconst 1, 1) := decAll_at aX10_push_0 16 rfl
theorem dX10_push_26 : decode cX10_push 26 = .ok (.iadd, 1) := decAll_at aX10_push_0 17 rfl
theorem dX10_push_27 : decode cX10_push 27 = .ok (.putfield 188, 3) := decAll_at aX10_push_0 18 rfl
theorem dX10_push_30 : decode cX10_push 30 = .ok (.iinc 2 (-8), 3) := decAll_at aX10_push_0 19 rfl
theorem dX10_push_33 : decode cX10_push 33 = .ok (.goto (-30), 3) := decAll_at aX10_push_0 20 rfl
theorem dX10_push_36 : decode cX10_push 36 = .ok (.return_, 1) := decAll_at aX10_push_0 21 rfl
def laX10_feed_0 : List (Nat × Instr × Nat) := [(0, .aload_n 0, 1), (1, .getfield 188, 3), (4, .bipush 20, 2), (6, .iadd, 1), (7, .sipush 220, 3), (10, .if_icmp .le 5, 3), (13, .iconst (-1), 1), (14, .ireturn, 1), (15, .aload_n 0, 1), (16, .iload_n 1, 1), (17, .invokevirtual 191, 3), (20, .aload_n 0, 1), (21, .iload_n 2, 1), (22, .invokevirtual 191, 3), (25, .aload_n 0, 1), (26, .iload_n 3, 1), (27, .invokevirtual 191, 3), (30, .aload_n 0, 1), (31, .iload 4, 2), (33, .invokevirtual 191, 3), (36, .aload_n 0, 1), (37, .iload 5, 2), (39, .invokevirtual 191, 3), (42, .aload_n 0, 1), (43, .getfield 188, 3), (46, .ireturn, 1)]
theorem aX10_feed_0 : decAll cX10_feed laX10_feed_0 = true := by decide +kernel
theorem dX10_feed_0 : decode cX10_feed 0 = .ok (.aload_n 0, 1) := decAll_at aX10_feed_0 0 rfl
theorem dX10_feed_1 : decode cX10_feed 1 = .ok (.getfield 188, 3) := decAll_at aX10_feed_0 1 rfl
theorem dX10_feed_4 : decode cX10_feed 4 = .ok (.bipush 20, 2) := decAll_at aX10_feed_0 2 rfl
theorem dX10_feed_6 : decode cX10_feed 6 = .ok (.iadd, 1) := decAll_at aX10_feed_0 3 rfl
theorem dX10_feed_7 : decode cX10_feed 7 = .ok (.sipush 220, 3) := decAll_at aX10_feed_0 4 rfl
theorem dX10_feed_10 : decode cX10_feed 10 = .ok (.if_icmp .le 5, 3) := decAll_at aX10_feed_0 5 rfl
theorem dX10_feed_13 : decode cX10_feed 13 = .ok (.iconst (-1), 1) := decAll_at aX10_feed_0 6 rfl
theorem dX10_feed_14 : decode cX10_feed 14 = .ok (.ireturn, 1) := decAll_at aX10_feed_0 7 rfl
theorem dX10_feed_15 : decode cX10_feed 15 = .ok (.aload_n 0, 1) := decAll_at aX10_feed_0 8 rfl
theorem dX10_feed_16 : decode cX10_feed 16 = .ok (.iload_n 1, 1) := decAll_at aX10_feed_0 9 rfl
theorem dX10_feed_17 : decode cX10_feed 17 = .ok (.invokevirtual 191, 3) := decAll_at aX10_feed_0 10 rfl
theorem dX10_feed_20 : decode cX10_feed 20 = .ok (.aload_n 0, 1) := decAll_at aX10_feed_0 11 rfl
theorem dX10_feed_21 : decode cX10_feed 21 = .ok (.iload_n 2, 1) := decAll_at aX10_feed_0 12 rfl
theorem dX10_feed_22 : decode cX10_feed 22 = .ok (.invokevirtual 191, 3) := decAll_at aX10_feed_0 13 rfl
theorem dX10_feed_25 : decode cX10_feed 25 = .ok (.aload_n 0, 1) := decAll_at aX10_feed_0 14 rfl
theorem dX10_feed_26 : decode cX10_feed 26 = .ok (.iload_n 3, 1) := decAll_at aX10_feed_0 15 rfl
theorem dX10_feed_27 : decode cX10_feed 27 = .ok (.invokevirtual 191, 3) := decAll_at aX10_feed_0 16 rfl
theorem dX10_feed_30 : decode cX10_feed 30 = .ok (.aload_n 0, 1) := decAll_at aX10_feed_0 17 rfl
theorem dX10_feed_31 : decode cX10_feed 31 = .ok (.iload 4, 2) := decAll_at aX10_feed_0 18 rfl
theorem dX10_feed_33 : decode cX10_feed 33 = .ok (.invokevirtual 191, 3) := decAll_at aX10_feed_0 19 rfl
theorem dX10_feed_36 : decode cX10_feed 36 = .ok (.aload_n 0, 1) := decAll_at aX10_feed_0 20 rfl
theorem dX10_feed_37 : decode cX10_feed 37 = .ok (.iload 5, 2) := decAll_at aX10_feed_0 21 rfl
theorem dX10_feed_39 : decode cX10_feed 39 = .ok (.invokevirtual 191, 3) := decAll_at aX10_feed_0 22 rfl
theorem dX10_feed_42 : decode cX10_feed 42 = .ok (.aload_n 0, 1) := decAll_at aX10_feed_0 23 rfl
theorem dX10_feed_43 : decode cX10_feed 43 = .ok (.getfield 188, 3) := decAll_at aX10_feed_0 24 rfl
theorem dX10_feed_46 : decode cX10_feed 46 = .ok (.ireturn, 1) := decAll_at aX10_feed_0 25 rfl
def laX10_here_0 : List (Nat × Instr × Nat) := [(0, .aload_n 0, 1), (1, .getfield 195, 3), (4, .aload_n 0, 1), (5, .getfield 198, 3), (8, .if_icmp .ge 19, 3), (11, .aload_n 0, 1), (12, .getfield 7, 3), (15, .aload_n 0, 1), (16, .getfield 195, 3), (19, .baload, 1), (20, .sipush 255, 3), (23, .iand, 1), (24, .goto 4, 3), (27, .iconst 0, 1), (28, .ireturn, 1)]
theorem aX10_here_0 : decAll cX10_here laX10_here_0 = true := by decide +kernel
theorem dX10_here_0 : decode cX10_here 0 = .ok (.aload_n 0, 1) := decAll_at aX10_here_0 0 rfl
theorem dX10_here_1 : decode cX10_here 1 = .ok (.getfield 195, 3) := decAll_at aX10_here_0 1 rfl
theorem dX10_here_4 : decode cX10_here 4 = .ok (.aload_n 0, 1) := decAll_at aX10_here_0 2 rfl
theorem dX10_here_5 : decode cX10_here 5 = .ok (.getfield 198, 3) := decAll_at aX10_here_0 3 rfl
theorem dX10_here_8 : decode cX10_here 8 = .ok (.if_icmp .ge 19, 3) := decAll_at aX10_here_0 4 rfl
theorem dX10_here_11 : decode cX10_here 11 = .ok (.aload_n 0, 1) := decAll_at aX10_here_0 5 rfl
theorem dX10_here_12 : decode cX10_here 12 = .ok (.getfield 7, 3) := decAll_at aX10_here_0 6 rfl
theorem dX10_here_15 : decode cX10_here 15 = .ok (.aload_n 0, 1) := decAll_at aX10_here_0 7 rfl
theorem dX10_here_16 : decode cX10_here 16 = .ok (.getfield 195, 3) := decAll_at aX10_here_0 8 rfl
theorem dX10_here_19 : decode cX10_here 19 = .ok (.baload, 1) := decAll_at aX10_here_0 9 rfl
theorem dX10_here_20 : decode cX10_here 20 = .ok (.sipush 255, 3) := decAll_at aX10_here_0 10 rfl
theorem dX10_here_23 : decode cX10_here 23 = .ok (.iand, 1) := decAll_at aX10_here_0 11 rfl
theorem dX10_here_24 : decode cX10_here 24 = .ok (.goto 4, 3) := decAll_at aX10_here_0 12 rfl
theorem dX10_here_27 : decode cX10_here 27 = .ok (.iconst 0, 1) := decAll_at aX10_here_0 13 rfl
theorem dX10_here_28 : decode cX10_here 28 = .ok (.ireturn, 1) := decAll_at aX10_here_0 14 rfl
def laX10_wrongs_0 : List (Nat × Instr × Nat) := [(0, .aload_n 0, 1), (1, .aload_n 0, 1), (2, .getfield 201, 3), (5, .ifCond .ge 10, 3), (8, .aload_n 0, 1), (9, .getfield 201, 3), (12, .goto 10, 3), (15, .sipush (-1000), 3), (18, .iload_n 1, 1), (19, .imul, 1), (20, .iload_n 2, 1), (21, .isub, 1), (22, .putfield 201, 3), (25, .return_, 1)]
theorem aX10_wrongs_0 : decAll cX10_wrongs laX10_wrongs_0 = true := by decide +kernel
theorem dX10_wrongs_0 : decode cX10_wrongs 0 = .ok (.aload_n 0, 1) := decAll_at aX10_wrongs_0 0 rfl
theorem dX10_wrongs_1 : decode cX10_wrongs 1 = .ok (.aload_n 0, 1) := decAll_at aX10_wrongs_0 1 rfl
theorem dX10_wrongs_2 : decode cX10_wrongs 2 = .ok (.getfield 201, 3) := decAll_at aX10_wrongs_0 2 rfl
theorem dX10_wrongs_5 : decode cX10_wrongs 5 = .ok (.ifCond .ge 10, 3) := decAll_at aX10_wrongs_0 3 rfl
theorem dX10_wrongs_8 : decode cX10_wrongs 8 = .ok (.aload_n 0, 1) := decAll_at aX10_wrongs_0 4 rfl
theorem dX10_wrongs_9 : decode cX10_wrongs 9 = .ok (.getfield 201, 3) := decAll_at aX10_wrongs_0 5 rfl
theorem dX10_wrongs_12 : decode cX10_wrongs 12 = .ok (.goto 10, 3) := decAll_at aX10_wrongs_0 6 rfl
theorem dX10_wrongs_15 : decode cX10_wrongs 15 = .ok (.sipush (-1000), 3) := decAll_at aX10_wrongs_0 7 rfl
theorem dX10_wrongs_18 : decode cX10_wrongs 18 = .ok (.iload_n 1, 1) := decAll_at aX10_wrongs_0 8 rfl
theorem dX10_wrongs_19 : decode cX10_wrongs 19 = .ok (.imul, 1) := decAll_at aX10_wrongs_0 9 rfl
theorem dX10_wrongs_20 : decode cX10_wrongs 20 = .ok (.iload_n 2, 1) := decAll_at aX10_wrongs_0 10 rfl
theorem dX10_wrongs_21 : decode cX10_wrongs 21 = .ok (.isub, 1) := decAll_at aX10_wrongs_0 11 rfl
theorem dX10_wrongs_22 : decode cX10_wrongs 22 = .ok (.putfield 201, 3) := decAll_at aX10_wrongs_0 12 rfl
theorem dX10_wrongs_25 : decode cX10_wrongs 25 = .ok (.return_, 1) := decAll_at aX10_wrongs_0 13 rfl
def laX10_isGood_0 : List (Nat × Instr × Nat) := [(0, .aload_n 0, 1), (1, .getfield 201, 3), (4, .ifCond .ne 7, 3), (7, .iconst 1, 1), (8, .goto 4, 3), (11, .iconst 0, 1), (12, .ireturn, 1)]
theorem aX10_isGood_0 : decAll cX10_isGood laX10_isGood_0 = true := by decide +kernel
theorem dX10_isGood_0 : decode cX10_isGood 0 = .ok (.aload_n 0, 1) := decAll_at aX10_isGood_0 0 rfl
theorem dX10_isGood_1 : decode cX10_isGood 1 = .ok (.getfield 201, 3) := decAll_at aX10_isGood_0 1 rfl
theorem dX10_isGood_4 : decode cX10_isGood 4 = .ok (.ifCond .ne 7, 3) := decAll_at aX10_isGood_0 2 rfl
theorem dX10_isGood_7 : decode cX10_isGood 7 = .ok (.iconst 1, 1) := decAll_at aX10_isGood_0 3 rfl
theorem dX10_isGood_8 : decode cX10_isGood 8 = .ok (.goto 4, 3) := decAll_at aX10_isGood_0 4 rfl
theorem dX10_isGood_11 : decode cX10_isGood 11 = .ok (.iconst 0, 1) := decAll_at aX10_isGood_0 5 rfl
theorem dX10_isGood_12 : decode cX10_isGood 12 = .ok (.ireturn, 1) := decAll_at aX10_isGood_0 6 rfl
