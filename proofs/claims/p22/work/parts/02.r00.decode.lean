def laX0_init_0 : List (Nat × Instr × Nat) := [(0, .aload_n 0, 1), (1, .invokespecial 3, 3), (4, .aload_n 0, 1), (5, .bipush 6, 2), (7, .newarray .int, 2), (9, .putfield 9, 3), (12, .aload_n 0, 1), (13, .bipush 6, 2), (15, .newarray .int, 2), (17, .putfield 15, 3), (20, .aload_n 0, 1), (21, .bipush 6, 2), (23, .newarray .boolean, 2), (25, .putfield 18, 3), (28, .aload_n 0, 1), (29, .bipush 9, 2), (31, .newarray .int, 2), (33, .putfield 22, 3), (36, .aload_n 0, 1), (37, .bipush 9, 2), (39, .newarray .int, 2), (41, .putfield 25, 3), (44, .aload_n 0, 1), (45, .bipush 9, 2), (47, .newarray .int, 2), (49, .putfield 28, 3), (52, .aload_n 0, 1), (53, .bipush 10, 2), (55, .newarray .int, 2), (57, .putfield 31, 3), (60, .aload_n 0, 1), (61, .bipush 10, 2), (63, .newarray .int, 2), (65, .putfield 34, 3), (68, .return_, 1)]
theorem aX0_init_0 : decAll cX0_init laX0_init_0 = true := by decide +kernel
theorem dX0_init_0 : decode cX0_init 0 = .ok (.aload_n 0, 1) := decAll_at aX0_init_0 0 rfl
theorem dX0_init_1 : decode cX0_init 1 = .ok (.invokespecial 3, 3) := decAll_at aX0_init_0 1 rfl
theorem dX0_init_4 : decode cX0_init 4 = .ok (.aload_n 0, 1) := decAll_at aX0_init_0 2 rfl
theorem dX0_init_5 : decode cX0_init 5 = .ok (.bipush 6, 2) := decAll_at aX0_init_0 3 rfl
theorem dX0_init_7 : decode cX0_init 7 = .ok (.newarray .int, 2) := decAll_at aX0_init_0 4 rfl
theorem dX0_init_9 : decode cX0_init 9 = .ok (.putfield 9, 3) := decAll_at aX0_init_0 5 rfl
theorem dX0_init_12 : decode cX0_init 12 = .ok (.aload_n 0, 1) := decAll_at aX0_init_0 6 rfl
theorem dX0_init_13 : decode cX0_init 13 = .ok (.bipush 6, 2) := decAll_at aX0_init_0 7 rfl
theorem dX0_init_15 : decode cX0_init 15 = .ok (.newarray .int, 2) := decAll_at aX0_init_0 8 rfl
theorem dX0_init_17 : decode cX0_init 17 = .ok (.putfield 15, 3) := decAll_at aX0_init_0 9 rfl
theorem dX0_init_20 : decode cX0_init 20 = .ok (.aload_n 0, 1) := decAll_at aX0_init_0 10 rfl
theorem dX0_init_21 : decode cX0_init 21 = .ok (.bipush 6, 2) := decAll_at aX0_init_0 11 rfl
theorem dX0_init_23 : decode cX0_init 23 = .ok (.newarray .boolean, 2) := decAll_at aX0_init_0 12 rfl
theorem dX0_init_25 : decode cX0_init 25 = .ok (.putfield 18, 3) := decAll_at aX0_init_0 13 rfl
theorem dX0_init_28 : decode cX0_init 28 = .ok (.aload_n 0, 1) := decAll_at aX0_init_0 14 rfl
theorem dX0_init_29 : decode cX0_init 29 = .ok (.bipush 9, 2) := decAll_at aX0_init_0 15 rfl
theorem dX0_init_31 : decode cX0_init 31 = .ok (.newarray .int, 2) := decAll_at aX0_init_0 16 rfl
theorem dX0_init_33 : decode cX0_init 33 = .ok (.putfield 22, 3) := decAll_at aX0_init_0 17 rfl
theorem dX0_init_36 : decode cX0_init 36 = .ok (.aload_n 0, 1) := decAll_at aX0_init_0 18 rfl
theorem dX0_init_37 : decode cX0_init 37 = .ok (.bipush 9, 2) := decAll_at aX0_init_0 19 rfl
theorem dX0_init_39 : decode cX0_init 39 = .ok (.newarray .int, 2) := decAll_at aX0_init_0 20 rfl
theorem dX0_init_41 : decode cX0_init 41 = .ok (.putfield 25, 3) := decAll_at aX0_init_0 21 rfl
theorem dX0_init_44 : decode cX0_init 44 = .ok (.aload_n 0, 1) := decAll_at aX0_init_0 22 rfl
theorem dX0_init_45 : decode cX0_init 45 = .ok (.bipush 9, 2) := decAll_at aX0_init_0 23 rfl
theorem dX0_init_47 : decode cX0_init 47 = .ok (.newarray .int, 2) := decAll_at aX0_init_0 24 rfl
theorem dX0_init_49 : decode cX0_init 49 = .ok (.putfield 28, 3) := decAll_at aX0_init_0 25 rfl
theorem dX0_init_52 : decode cX0_init 52 = .ok (.aload_n 0, 1) := decAll_at aX0_init_0 26 rfl
theorem dX0_init_53 : decode cX0_init 53 = .ok (.bipush 10, 2) := decAll_at aX0_init_0 27 rfl
theorem dX0_init_55 : decode cX0_init 55 = .ok (.newarray .int, 2) := decAll_at aX0_init_0 28 rfl
theorem dX0_init_57 : decode cX0_init 57 = .ok (.putfield 31, 3) := decAll_at aX0_init_0 29 rfl
theorem dX0_init_60 : decode cX0_init 60 = .ok (.aload_n 0, 1) := decAll_at aX0_init_0 30 rfl
theorem dX0_init_61 : decode cX0_init 61 = .ok (.bipush 10, 2) := decAll_at aX0_init_0 31 rfl
theorem dX0_init_63 : decode cX0_init 63 = .ok (.newarray .int, 2) := decAll_at aX0_init_0 32 rfl
theorem dX0_init_65 : decode cX0_init 65 = .ok (.putfield 34, 3) := decAll_at aX0_init_0 33 rfl
theorem dX0_init_68 : decode cX0_init 68 = .ok (.return_, 1) := decAll_at aX0_init_0 34 rfl
def laX0_hasWalker_0 : List (Nat × Instr × Nat) := [(0, .iload_n 1, 1), (1, .ifCond .lt 15, 3), (4, .iload_n 1, 1), (5, .aload_n 0, 1), (6, .getfield 37, 3), (9, .if_icmp .ge 7, 3), (12, .iconst 1, 1), (13, .goto 4, 3), (16, .iconst 0, 1), (17, .ireturn, 1)]
theorem aX0_hasWalker_0 : decAll cX0_hasWalker laX0_hasWalker_0 = true := by decide +kernel
theorem dX0_hasWalker_0 : decode cX0_hasWalker 0 = .ok (.iload_n 1, 1) := decAll_at aX0_hasWalker_0 0 rfl
theorem dX0_hasWalker_1 : decode cX0_hasWalker 1 = .ok (.ifCond .lt 15, 3) := decAll_at aX0_hasWalker_0 1 rfl
theorem dX0_hasWalker_4 : decode cX0_hasWalker 4 = .ok (.iload_n 1, 1) := decAll_at aX0_hasWalker_0 2 rfl
theorem dX0_hasWalker_5 : decode cX0_hasWalker 5 = .ok (.aload_n 0, 1) := decAll_at aX0_hasWalker_0 3 rfl
theorem dX0_hasWalker_6 : decode cX0_hasWalker 6 = .ok (.getfield 37, 3) := decAll_at aX0_hasWalker_0 4 rfl
theorem dX0_hasWalker_9 : decode cX0_hasWalker 9 = .ok (.if_icmp .ge 7, 3) := decAll_at aX0_hasWalker_0 5 rfl
theorem dX0_hasWalker_12 : decode cX0_hasWalker 12 = .ok (.iconst 1, 1) := decAll_at aX0_hasWalker_0 6 rfl
theorem dX0_hasWalker_13 : decode cX0_hasWalker 13 = .ok (.goto 4, 3) := decAll_at aX0_hasWalker_0 7 rfl
theorem dX0_hasWalker_16 : decode cX0_hasWalker 16 = .ok (.iconst 0, 1) := decAll_at aX0_hasWalker_0 8 rfl
theorem dX0_hasWalker_17 : decode cX0_hasWalker 17 = .ok (.ireturn, 1) := decAll_at aX0_hasWalker_0 9 rfl
def laX0_hasLoad_0 : List (Nat × Instr × Nat) := [(0, .iload_n 1, 1), (1, .ifCond .lt 15, 3), (4, .iload_n 1, 1), (5, .aload_n 0, 1), (6, .getfield 41, 3), (9, .if_icmp .ge 7, 3), (12, .iconst 1, 1), (13, .goto 4, 3), (16, .iconst 0, 1), (17, .ireturn, 1)]
theorem aX0_hasLoad_0 : decAll cX0_hasLoad laX0_hasLoad_0 = true := by decide +kernel
theorem dX0_hasLoad_0 : decode cX0_hasLoad 0 = .ok (.iload_n 1, 1) := decAll_at aX0_hasLoad_0 0 rfl
theorem dX0_hasLoad_1 : decode cX0_hasLoad 1 = .ok (.ifCond .lt 15, 3) := decAll_at aX0_hasLoad_0 1 rfl
theorem dX0_hasLoad_4 : decode cX0_hasLoad 4 = .ok (.iload_n 1, 1) := decAll_at aX0_hasLoad_0 2 rfl
theorem dX0_hasLoad_5 : decode cX0_hasLoad 5 = .ok (.aload_n 0, 1) := decAll_at aX0_hasLoad_0 3 rfl
theorem dX0_hasLoad_6 : decode cX0_hasLoad 6 = .ok (.getfield 41, 3) := decAll_at aX0_hasLoad_0 4 rfl
theorem dX0_hasLoad_9 : decode cX0_hasLoad 9 = .ok (.if_icmp .ge 7, 3) := decAll_at aX0_hasLoad_0 5 rfl
theorem dX0_hasLoad_12 : decode cX0_hasLoad 12 = .ok (.iconst 1, 1) := decAll_at aX0_hasLoad_0 6 rfl
theorem dX0_hasLoad_13 : decode cX0_hasLoad 13 = .ok (.goto 4, 3) := decAll_at aX0_hasLoad_0 7 rfl
theorem dX0_hasLoad_16 : decode cX0_hasLoad 16 = .ok (.iconst 0, 1) := decAll_at aX0_hasLoad_0 8 rfl
theorem dX0_hasLoad_17 : decode cX0_hasLoad 17 = .ok (.ireturn, 1) := decAll_at aX0_hasLoad_0 9 rfl
def laX0_hasPiece_0 : List (Nat × Instr × Nat) := [(0, .iload_n 1, 1), (1, .ifCond .lt 15, 3), (4, .iload_n 1, 1), (5, .aload_n 0, 1), (6, .getfield 44, 3), (9, .if_icmp .ge 7, 3), (12, .iconst 1, 1), (13, .goto 4, 3), (16, .iconst 0, 1), (17, .ireturn, 1)]
theorem aX0_hasPiece_0 : decAll cX0_hasPiece laX0_hasPiece_0 = true := by decide +kernel
theorem dX0_hasPiece_0 : decode cX0_hasPiece 0 = .ok (.iload_n 1, 1) := decAll_at aX0_hasPiece_0 0 rfl
theorem dX0_hasPiece_1 : decode cX0_hasPiece 1 = .ok (.ifCond .lt 15, 3) := decAll_at aX0_hasPiece_0 1 rfl
theorem dX0_hasPiece_4 : decode cX0_hasPiece 4 = .ok (.iload_n 1, 1) := decAll_at aX0_hasPiece_0 2 rfl
theorem dX0_hasPiece_5 : decode cX0_hasPiece 5 = .ok (.aload_n 0, 1) := decAll_at aX0_hasPiece_0 3 rfl
theorem dX0_hasPiece_6 : decode cX0_hasPiece 6 = .ok (.getfield 44, 3) := decAll_at aX0_hasPiece_0 4 rfl
theorem dX0_hasPiece_9 : decode cX0_hasPiece 9 = .ok (.if_icmp .ge 7, 3) := decAll_at aX0_hasPiece_0 5 rfl
theorem dX0_hasPiece_12 : decode cX0_hasPiece 12 = .ok (.iconst 1, 1) := decAll_at aX0_hasPiece_0 6 rfl
theorem dX0_hasPiece_13 : decode cX0_hasPiece 13 = .ok (.goto 4, 3) := decAll_at aX0_hasPiece_0 7 rfl
theorem dX0_hasPiece_16 : decode cX0_hasPiece 16 = .ok (.iconst 0, 1) := decAll_at aX0_hasPiece_0 8 rfl
theorem dX0_hasPiece_17 : decode cX0_hasPiece 17 = .ok (.ireturn, 1) := decAll_at aX0_hasPiece_0 9 rfl
def laX0_heftAt_0 : List (Nat × Instr × Nat) := [(0, .iconst 0, 1), (1, .aload_n 0, 1), (2, .getfield 22, 3), (5, .iload_n 1, 1), (6, .iaload, 1), (7, .aload_n 0, 1), (8, .getfield 28, 3), (11, .iload_n 1, 1), (12, .iaload, 1), (13, .iload_n 2, 1), (14, .imul, 1), (15, .isub, 1), (16, .invokestatic 47, 3), (19, .ireturn, 1)]
theorem aX0_heftAt_0 : decAll cX0_heftAt laX0_heftAt_0 = true := by decide +kernel
theorem dX0_heftAt_0 : decode cX0_heftAt 0 = .ok (.iconst 0, 1) := decAll_at aX0_heftAt_0 0 rfl
theorem dX0_heftAt_1 : decode cX0_heftAt 1 = .ok (.aload_n 0, 1) := decAll_at aX0_heftAt_0 1 rfl
theorem dX0_heftAt_2 : decode cX0_heftAt 2 = .ok (.getfield 22, 3) := decAll_at aX0_heftAt_0 2 rfl
theorem dX0_heftAt_5 : decode cX0_heftAt 5 = .ok (.iload_n 1, 1) := decAll_at aX0_heftAt_0 3 rfl
theorem dX0_heftAt_6 : decode cX0_heftAt 6 = .ok (.iaload, 1) := decAll_at aX0_heftAt_0 4 rfl
theorem dX0_heftAt_7 : decode cX0_heftAt 7 = .ok (.aload_n 0, 1) := decAll_at aX0_heftAt_0 5 rfl
theorem dX0_heftAt_8 : decode cX0_heftAt 8 = .ok (.getfield 28, 3) := decAll_at aX0_heftAt_0 6 rfl
theorem dX0_heftAt_11 : decode cX0_heftAt 11 = .ok (.iload_n 1, 1) := decAll_at aX0_heftAt_0 7 rfl
theorem dX0_heftAt_12 : decode cX0_heftAt 12 = .ok (.iaload, 1) := decAll_at aX0_heftAt_0 8 rfl
theorem dX0_heftAt_13 : decode cX0_heftAt 13 = .ok (.iload_n 2, 1) := decAll_at aX0_heftAt_0 9 rfl
theorem dX0_heftAt_14 : decode cX0_heftAt 14 = .ok (.imul, 1) := decAll_at aX0_heftAt_0 10 rfl
theorem dX0_heftAt_15 : decode cX0_heftAt 15 = .ok (.isub, 1) := decAll_at aX0_heftAt_0 11 rfl
theorem dX0_heftAt_16 : decode cX0_heftAt 16 = .ok (.invokestatic 47, 3) := decAll_at aX0_heftAt_0 12 rfl
theorem dX0_heftAt_19 : decode cX0_heftAt 19 = .ok (.ireturn, 1) := decAll_at aX0_heftAt_0 13 rfl
def laX0_allHeftAt_0 : List (Nat × Instr × Nat) := [(0, .iconst 0, 1), (1, .istore_n 2, 1), (2, .iconst 0, 1), (3, .istore_n 3, 1), (4, .iload_n 3, 1), (5, .aload_n 0, 1), (6, .getfield 41, 3), (9, .if_icmp .ge 18, 3), (12, .iload_n 2, 1), (13, .aload_n 0, 1), (14, .iload_n 3, 1), (15, .iload_n 1, 1), (16, .invokevirtual 53, 3), (19, .iadd, 1), (20, .istore_n 2, 1), (21, .iinc 3 1, 3), (24, .goto (-20), 3), (27, .iload_n 2, 1), (28, .ireturn, 1)]
theorem aX0_allHeftAt_0 : decAll cX0_allHeftAt laX0_allHeftAt_0 = true := by decide +kernel
theorem dX0_allHeftAt_0 : decode cX0_allHeftAt 0 = .ok (.iconst 0, 1) := decAll_at aX0_allHeftAt_0 0 rfl
theorem dX0_allHeftAt_1 : decode cX0_allHeftAt 1 = .ok (.istore_n 2, 1) := decAll_at aX0_allHeftAt_0 1 rfl
theorem dX0_allHeftAt_2 : decode cX0_allHeftAt 2 = .ok (.iconst 0, 1) := decAll_at aX0_allHeftAt_0 2 rfl
theorem dX0_allHeftAt_3 : decode cX0_allHeftAt 3 = .ok (.istore_n 3, 1) := decAll_at aX0_allHeftAt_0 3 rfl
theorem dX0_allHeftAt_4 : decode cX0_allHeftAt 4 = .ok (.iload_n 3, 1) := decAll_at aX0_allHeftAt_0 4 rfl
theorem dX0_allHeftAt_5 : decode cX0_allHeftAt 5 = .ok (.aload_n 0, 1) := decAll_at aX0_allHeftAt_0 5 rfl
theorem dX0_allHeftAt_6 : decode cX0_allHeftAt 6 = .ok (.getfield 41, 3) := decAll_at aX0_allHeftAt_0 6 rfl
theorem dX0_allHeftAt_9 : decode cX0_allHeftAt 9 = .ok (.if_icmp .ge 18, 3) := decAll_at aX0_allHeftAt_0 7 rfl
theorem dX0_allHeftAt_12 : decode cX0_allHeftAt 12 = .ok (.iload_n 2, 1) := decAll_at aX0_allHeftAt_0 8 rfl
theorem dX0_allHeftAt_13 : decode cX0_allHeftAt 13 = .ok (.aload_n 0, 1) := decAll_at aX0_allHeftAt_0 9 rfl
theorem dX0_allHeftAt_14 : decode cX0_allHeftAt 14 = .ok (.iload_n 3, 1) := decAll_at aX0_allHeftAt_0 10 rfl
theorem dX0_allHeftAt_15 : decode cX0_allHeftAt 15 = .ok (.iload_n 1, 1) := decAll_at aX0_allHeftAt_0 11 rfl
theorem dX0_allHeftAt_16 : decode cX0_allHeftAt 16 = .ok (.invokevirtual 53, 3) := decAll_at aX0_allHeftAt_0 12 rfl
theorem dX0_allHeftAt_19 : decode cX0_allHeftAt 19 = .ok (.iadd, 1) := decAll_at aX0_allHeftAt_0 13 rfl
theorem dX0_allHeftAt_20 : decode cX0_allHeftAt 20 = .ok (.istore_n 2, 1) := decAll_at aX0_allHeftAt_0 14 rfl
theorem dX0_allHeftAt_21 : decode cX0_allHeftAt 21 = .ok (.iinc 3 1, 3) := decAll_at aX0_allHeftAt_0 15 rfl
theorem dX0_allHeftAt_24 : decode cX0_allHeftAt 24 = .ok (.goto (-20), 3) := decAll_at aX0_allHeftAt_0 16 rfl
theorem dX0_allHeftAt_27 : decode cX0_allHeftAt 27 = .ok (.iload_n 2, 1) := decAll_at aX0_allHeftAt_0 17 rfl
theorem dX0_allHeftAt_28 : decode cX0_allHeftAt 28 = .ok (.ireturn, 1) := decAll_at aX0_allHeftAt_0 18 rfl
def laX0_minutes_0 : List (Nat × Instr × Nat) := [(0, .iload_n 2, 1), (1, .iconst 1, 1), (2, .if_icmp .ge 8, 3), (5, .ldc 56, 2), (7, .goto 19, 3), (10, .sipush 600, 3), (13, .aload_n 0, 1), (14, .getfield 31, 3), (17, .iload_n 1, 1), (18, .iaload, 1), (19, .imul, 1), (20, .iload_n 2, 1), (21, .iadd, 1), (22, .iconst 1, 1), (23, .isub, 1), (24, .iload_n 2, 1), (25, .idiv, 1), (26, .ireturn, 1)]
theorem aX0_minutes_0 : decAll cX0_minutes laX0_minutes_0 = true := by decide +kernel
theorem dX0_minutes_0 : decode cX0_minutes 0 = .ok (.iload_n 2, 1) := decAll_at aX0_minutes_0 0 rfl
theorem dX0_minutes_1 : decode cX0_minutes 1 = .ok (.iconst 1, 1) := decAll_at aX0_minutes_0 1 rfl
theorem dX0_minutes_2 : decode cX0_minutes 2 = .ok (.if_icmp .ge 8, 3) := decAll_at aX0_minutes_0 2 rfl
theorem dX0_minutes_5 : decode cX0_minutes 5 = .ok (.ldc 56, 2) := decAll_at aX0_minutes_0 3 rfl
theorem dX0_minutes_7 : decode cX0_minutes 7 = .ok (.goto 19, 3) := decAll_at aX0_minutes_0 4 rfl
theorem dX0_minutes_10 : decode cX0_minutes 10 = .ok (.sipush 600, 3) := decAll_at aX0_minutes_0 5 rfl
theorem dX0_minutes_13 : decode cX0_minutes 13 = .ok (.aload_n 0, 1) := decAll_at aX0_minutes_0 6 rfl
theorem dX0_minutes_14 : decode cX0_minutes 14 = .ok (.getfield 31, 3) := decAll_at aX0_minutes_0 7 rfl
theorem dX0_minutes_17 : decode cX0_minutes 17 = .ok (.iload_n 1, 1) := decAll_at aX0_minutes_0 8 rfl
theorem dX0_minutes_18 : decode cX0_minutes 18 = .ok (.iaload, 1) := decAll_at aX0_minutes_0 9 rfl
theorem dX0_minutes_19 : decode cX0_minutes 19 = .ok (.imul, 1) := decAll_at aX0_minutes_0 10 rfl
theorem dX0_minutes_20 : decode cX0_minutes 20 = .ok (.iload_n 2, 1) := decAll_at aX0_minutes_0 11 rfl
theorem dX0_minutes_21 : decode cX0_minutes 21 = .ok (.iadd, 1) := decAll_at aX0_minutes_0 12 rfl
theorem dX0_minutes_22 : decode cX0_minutes 22 = .ok (.iconst 1, 1) := decAll_at aX0_minutes_0 13 rfl
theorem dX0_minutes_23 : decode cX0_minutes 23 = .ok (.isub, 1) := decAll_at aX0_minutes_0 14 rfl
theorem dX0_minutes_24 : decode cX0_minutes 24 = .ok (.iload_n 2, 1) := decAll_at aX0_minutes_0 15 rfl
theorem dX0_minutes_25 : decode cX0_minutes 25 = .ok (.idiv, 1) := decAll_at aX0_minutes_0 16 rfl
theorem dX0_minutes_26 : decode cX0_minutes 26 = .ok (.ireturn, 1) := decAll_at aX0_minutes_0 17 rfl
def laX1_init_0 : List (Nat × Instr × Nat) := [(0, .aload_n 0, 1), (1, .invokespecial 3, 3), (4, .aload_n 0, 1), (5, .bipush 6, 2), (7, .bipush 9, 2), (9, .multianewarray 9 2, 4), (13, .putfield 11, 3), (16, .aload_n 0, 1), (17, .bipush 10, 2), (19, .putfield 16, 3), (22, .aload_n 0, 1), (23, .bipush 10, 2), (25, .newarray .int, 2), (27, .putfield 20, 3), (30, .aload_n 0, 1), (31, .bipush 10, 2), (33, .newarray .int, 2), (35, .putfield 24, 3), (38, .aload_n 0, 1), (39, .bipush 10, 2), (41, .bipush 6, 2), (43, .multianewarray 9 2, 4), (47, .putfield 27, 3), (50, .aload_n 0, 1), (51, .bipush 6, 2), (53, .newarray .int, 2), (55, .putfield 30, 3), (58, .aload_n 0, 1), (59, .aload_n 1, 1), (60, .putfield 33, 3), (63, .aload_n 0, 1), (64, .aload_n 2, 1), (65, .putfield 37, 3), (68, .return_, 1)]
theorem aX1_init_0 : decAll cX1_init laX1_init_0 = true := by decide +kernel
theorem dX1_init_0 : decode cX1_init 0 = .ok (.aload_n 0, 1) := decAll_at aX1_init_0 0 rfl
theorem dX1_init_1 : decode cX1_init 1 = .ok (.invokespecial 3, 3) := decAll_at aX1_init_0 1 rfl
theorem dX1_init_4 : decode cX1_init 4 = .ok (.aload_n 0, 1) := decAll_at aX1_init_0 2 rfl
theorem dX1_init_5 : decode cX1_init 5 = .ok (.bipush 6, 2) := decAll_at aX1_init_0 3 rfl
theorem dX1_init_7 : decode cX1_init 7 = .ok (.bipush 9, 2) := decAll_at aX1_init_0 4 rfl
theorem dX1_init_9 : decode cX1_init 9 = .ok (.multianewarray 9 2, 4) := decAll_at aX1_init_0 5 rfl
theorem dX1_init_13 : decode cX1_init 13 = .ok (.putfield 11, 3) := decAll_at aX1_init_0 6 rfl
theorem dX1_init_16 : decode cX1_init 16 = .ok (.aload_n 0, 1) := decAll_at aX1_init_0 7 rfl
theorem dX1_init_17 : decode cX1_init 17 = .ok (.bipush 10, 2) := decAll_at aX1_init_0 8 rfl
theorem dX1_init_19 : decode cX1_init 19 = .ok (.putfield 16, 3) := decAll_at aX1_init_0 9 rfl
theorem dX1_init_22 : decode cX1_init 22 = .ok (.aload_n 0, 1) := decAll_at aX1_init_0 10 rfl
theorem dX1_init_23 : decode cX1_init 23 = .ok (.bipush 10, 2) := decAll_at aX1_init_0 11 rfl
theorem dX1_init_25 : decode cX1_init 25 = .ok (.newarray .int, 2) := decAll_at aX1_init_0 12 rfl
theorem dX1_init_27 : decode cX1_init 27 = .ok (.putfield 20, 3) := decAll_at aX1_init_0 13 rfl
theorem dX1_init_30 : decode cX1_init 30 = .ok (.aload_n 0, 1) := decAll_at aX1_init_0 14 rfl
theorem dX1_init_31 : decode cX1_init 31 = .ok (.bipush 10, 2) := decAll_at aX1_init_0 15 rfl
theorem dX1_init_33 : decode cX1_init 33 = .ok (.newarray .int, 2) := decAll_at aX1_init_0 16 rfl
theorem dX1_init_35 : decode cX1_init 35 = .ok (.putfield 24, 3) := decAll_at aX1_init_0 17 rfl
theorem dX1_init_38 : decode cX1_init 38 = .ok (.aload_n 0, 1) := decAll_at aX1_init_0 18 rfl
theorem dX1_init_39 : decode cX1_init 39 = .ok (.bipush 10, 2) := decAll_at aX1_init_0 19 rfl
theorem dX1_init_41 : decode cX1_init 41 = .ok (.bipush 6, 2) := decAll_at aX1_init_0 20 rfl
theorem dX1_init_43 : decode cX1_init 43 = .ok (.multianewarray 9 2, 4) := decAll_at aX1_init_0 21 rfl
theorem dX1_init_47 : decode cX1_init 47 = .ok (.putfield 27, 3) := decAll_at aX1_init_0 22 rfl
theorem dX1_init_50 : decode cX1_init 50 = .ok (.aload_n 0, 1) := decAll_at aX1_init_0 23 rfl
theorem dX1_init_51 : decode cX1_init 51 = .ok (.bipush 6, 2) := decAll_at aX1_init_0 24 rfl
theorem dX1_init_53 : decode cX1_init 53 = .ok (.newarray .int, 2) := decAll_at aX1_init_0 25 rfl
theorem dX1_init_55 : decode cX1_init 55 = .ok (.putfield 30, 3) := decAll_at aX1_init_0 26 rfl
theorem dX1_init_58 : decode cX1_init 58 = .ok (.aload_n 0, 1) := decAll_at aX1_init_0 27 rfl
theorem dX1_init_59 : decode cX1_init 59 = .ok (.aload_n 1, 1) := decAll_at aX1_init_0 28 rfl
theorem dX1_init_60 : decode cX1_init 60 = .ok (.putfield 33, 3) := decAll_at aX1_init_0 29 rfl
theorem dX1_init_63 : decode cX1_init 63 = .ok (.aload_n 0, 1) := decAll_at aX1_init_0 30 rfl
theorem dX1_init_64 : decode cX1_init 64 = .ok (.aload_n 2, 1) := decAll_at aX1_init_0 31 rfl
theorem dX1_init_65 : decode cX1_init 65 = .ok (.putfield 37, 3) := decAll_at aX1_init_0 32 rfl
theorem dX1_init_68 : decode cX1_init 68 = .ok (.return_, 1) := decAll_at aX1_init_0 33 rfl
def laX1_isTold_0 : List (Nat × Instr × Nat) := [(0, .iload_n 1, 1), (1, .ifCond .lt 24, 3), (4, .iload_n 1, 1), (5, .bipush 6, 2), (7, .if_icmp .ge 18, 3), (10, .aload_n 0, 1), (11, .getfield 41, 3), (14, .iload_n 1, 1), (15, .ishr, 1), (16, .iconst 1, 1), (17, .iand, 1), (18, .ifCond .eq 7, 3), (21, .iconst 1, 1), (22, .goto 4, 3), (25, .iconst 0, 1), (26, .ireturn, 1)]
theorem aX1_isTold_0 : decAll cX1_isTold laX1_isTold_0 = true := by decide +kernel
theorem dX1_isTold_0 : decode cX1_isTold 0 = .ok (.iload_n 1, 1) := decAll_at aX1_isTold_0 0 rfl
theorem dX1_isTold_1 : decode cX1_isTold 1 = .ok (.ifCond .lt 24, 3) := decAll_at aX1_isTold_0 1 rfl
theorem dX1_isTold_4 : decode cX1_isTold 4 = .ok (.iload_n 1, 1) := decAll_at aX1_isTold_0 2 rfl
theorem dX1_isTold_5 : decode cX1_isTold 5 = .ok (.bipush 6, 2) := decAll_at aX1_isTold_0 3 rfl
theorem dX1_isTold_7 : decode cX1_isTold 7 = .ok (.if_icmp .ge 18, 3) := decAll_at aX1_isTold_0 4 rfl
theorem dX1_isTold_10 : decode cX1_isTold 10 = .ok (.aload_n 0, 1) := decAll_at aX1_isTold_0 5 rfl
theorem dX1_isTold_11 : decode cX1_isTold 11 = .ok (.getfield 41, 3) := decAll_at aX1_isTold_0 6 rfl
theorem dX1_isTold_14 : decode cX1_isTold 14 = .ok (.iload_n 1, 1) := decAll_at aX1_isTold_0 7 rfl
theorem dX1_isTold_15 : decode cX1_isTold 15 = .ok (.ishr, 1) := decAll_at aX1_isTold_0 8 rfl
theorem dX1_isTold_16 : decode cX1_isTold 16 = .ok (.iconst 1, 1) := decAll_at aX1_isTold_0 9 rfl
theorem dX1_isTold_17 : decode cX1_isTold 17 = .ok (.iand, 1) := decAll_at aX1_isTold_0 10 rfl
theorem dX1_isTold_18 : decode cX1_isTold 18 = .ok (.ifCond .eq 7, 3) := decAll_at aX1_isTold_0 11 rfl
theorem dX1_isTold_21 : decode cX1_isTold 21 = .ok (.iconst 1, 1) := decAll_at aX1_isTold_0 12 rfl
theorem dX1_isTold_22 : decode cX1_isTold 22 = .ok (.goto 4, 3) := decAll_at aX1_isTold_0 13 rfl
theorem dX1_isTold_25 : decode cX1_isTold 25 = .ok (.iconst 0, 1) := decAll_at aX1_isTold_0 14 rfl
theorem dX1_isTold_26 : decode cX1_isTold 26 = .ok (.ireturn, 1) := decAll_at aX1_isTold_0 15 rfl
def laX1_burden_0 : List (Nat × Instr × Nat) := [(0, .iconst 0, 1), (1, .istore 4, 2), (3, .iconst 0, 1), (4, .istore 5, 2), (6, .iload 5, 2), (8, .aload_n 0, 1), (9, .getfield 33, 3), (12, .getfield 44, 3), (15, .if_icmp .ge 37, 3), (18, .aload_n 0, 1), (19, .getfield 11, 3), (22, .iload_n 1, 1), (23, .aaload, 1), (24, .iload 5, 2), (26, .iaload, 1), (27, .iload_n 2, 1), (28, .if_icmp .ne 18, 3), (31, .iload 4, 2), (33, .aload_n 0, 1), (34, .getfield 33, 3), (37, .iload 5, 2), (39, .iload_n 3, 1), (40, .invokevirtual 49, 3), (43, .iadd, 1), (44, .istore 4, 2), (46, .iinc 5 1, 3), (49, .goto (-43), 3), (52, .iload 4, 2), (54, .ireturn, 1)]
theorem aX1_burden_0 : decAll cX1_burden laX1_burden_0 = true := by decide +kernel
theorem dX1_burden_0 : decode cX1_burden 0 = .ok (.iconst 0, 1) := decAll_at aX1_burden_0 0 rfl
theorem dX1_burden_1 : decode cX1_burden 1 = .ok (.istore 4, 2) := decAll_at aX1_burden_0 1 rfl
theorem dX1_burden_3 : decode cX1_burden 3 = .ok (.iconst 0, 1) := decAll_at aX1_burden_0 2 rfl
theorem dX1_burden_4 : decode cX1_burden 4 = .ok (.istore 5, 2) := decAll_at aX1_burden_0 3 rfl
theorem dX1_burden_6 : decode cX1_burden 6 = .ok (.iload 5, 2) := decAll_at aX1_burden_0 4 rfl
theorem dX1_burden_8 : decode cX1_burden 8 = .ok (.aload_n 0, 1) := decAll_at aX1_burden_0 5 rfl
theorem dX1_burden_9 : decode cX1_burden 9 = .ok (.getfield 33, 3) := decAll_at aX1_burden_0 6 rfl
theorem dX1_burden_12 : decode cX1_burden 12 = .ok (.getfield 44, 3) := decAll_at aX1_burden_0 7 rfl
theorem dX1_burden_15 : decode cX1_burden 15 = .ok (.if_icmp .ge 37, 3) := decAll_at aX1_burden_0 8 rfl
theorem dX1_burden_18 : decode cX1_burden 18 = .ok (.aload_n 0, 1) := decAll_at aX1_burden_0 9 rfl
theorem dX1_burden_19 : decode cX1_burden 19 = .ok (.getfield 11, 3) := decAll_at aX1_burden_0 10 rfl
theorem dX1_burden_22 : decode cX1_burden 22 = .ok (.iload_n 1, 1) := decAll_at aX1_burden_0 11 rfl
theorem dX1_burden_23 : decode cX1_burden 23 = .ok (.aaload, 1) := decAll_at aX1_burden_0 12 rfl
theorem dX1_burden_24 : decode cX1_burden 24 = .ok (.iload 5, 2) := decAll_at aX1_burden_0 13 rfl
theorem dX1_burden_26 : decode cX1_burden 26 = .ok (.iaload, 1) := decAll_at aX1_burden_0 14 rfl
theorem dX1_burden_27 : decode cX1_burden 27 = .ok (.iload_n 2, 1) := decAll_at aX1_burden_0 15 rfl
theorem dX1_burden_28 : decode cX1_burden 28 = .ok (.if_icmp .ne 18, 3) := decAll_at aX1_burden_0 16 rfl
theorem dX1_burden_31 : decode cX1_burden 31 = .ok (.iload 4, 2) := decAll_at aX1_burden_0 17 rfl
theorem dX1_burden_33 : decode cX1_burden 33 = .ok (.aload_n 0, 1) := decAll_at aX1_burden_0 18 rfl
theorem dX1_burden_34 : decode cX1_burden 34 = .ok (.getfield 33, 3) := decAll_at aX1_burden_0 19 rfl
theorem dX1_burden_37 : decode cX1_burden 37 = .ok (.iload 5, 2) := decAll_at aX1_burden_0 20 rfl
theorem dX1_burden_39 : decode cX1_burden 39 = .ok (.iload_n 3, 1) := decAll_at aX1_burden_0 21 rfl
theorem dX1_burden_40 : decode cX1_burden 40 = .ok (.invokevirtual 49, 3) := decAll_at aX1_burden_0 22 rfl
theorem dX1_burden_43 : decode cX1_burden 43 = .ok (.iadd, 1) := decAll_at aX1_burden_0 23 rfl
theorem dX1_burden_44 : decode cX1_burden 44 = .ok (.istore 4, 2) := decAll_at aX1_burden_0 24 rfl
theorem dX1_burden_46 : decode cX1_burden 46 = .ok (.iinc 5 1, 3) := decAll_at aX1_burden_0 25 rfl
theorem dX1_burden_49 : decode cX1_burden 49 = .ok (.goto (-43), 3) := decAll_at aX1_burden_0 26 rfl
theorem dX1_burden_52 : decode cX1_burden 52 = .ok (.iload 4, 2) := decAll_at aX1_burden_0 27 rfl
theorem dX1_burden_54 : decode cX1_burden 54 = .ok (.ireturn, 1) := decAll_at aX1_burden_0 28 rfl
def laX1_changesAt_0 : List (Nat × Instr × Nat) := [(0, .iload_n 1, 1), (1, .ifCond .le 30, 3), (4, .aload_n 0, 1), (5, .getfield 20, 3), (8, .iload_n 1, 1), (9, .iaload, 1), (10, .bipush 6, 2), (12, .irem, 1), (13, .aload_n 0, 1), (14, .getfield 20, 3), (17, .iload_n 1, 1), (18, .iconst 1, 1), (19, .isub, 1), (20, .iaload, 1), (21, .bipush 6, 2), (23, .irem, 1), (24, .if_icmp .eq 7, 3), (27, .iconst 1, 1), (28, .goto 4, 3), (31, .iconst 0, 1), (32, .ireturn, 1)]
theorem aX1_changesAt_0 : decAll cX1_changesAt laX1_changesAt_0 = true := by decide +kernel
theorem dX1_changesAt_0 : decode cX1_changesAt 0 = .ok (.iload_n 1, 1) := decAll_at aX1_changesAt_0 0 rfl
theorem dX1_changesAt_1 : decode cX1_changesAt 1 = .ok (.ifCond .le 30, 3) := decAll_at aX1_changesAt_0 1 rfl
theorem dX1_changesAt_4 : decode cX1_changesAt 4 = .ok (.aload_n 0, 1) := decAll_at aX1_changesAt_0 2 rfl
theorem dX1_changesAt_5 : decode cX1_changesAt 5 = .ok (.getfield 20, 3) := decAll_at aX1_changesAt_0 3 rfl
theorem dX1_changesAt_8 : decode cX1_changesAt 8 = .ok (.iload_n 1, 1) := decAll_at aX1_changesAt_0 4 rfl
theorem dX1_changesAt_9 : decode cX1_changesAt 9 = .ok (.iaload, 1) := decAll_at aX1_changesAt_0 5 rfl
theorem dX1_changesAt_10 : decode cX1_changesAt 10 = .ok (.bipush 6, 2) := decAll_at aX1_changesAt_0 6 rfl
theorem dX1_changesAt_12 : decode cX1_changesAt 12 = .ok (.irem, 1) := decAll_at aX1_changesAt_0 7 rfl
theorem dX1_changesAt_13 : decode cX1_changesAt 13 = .ok (.aload_n 0, 1) := decAll_at aX1_changesAt_0 8 rfl
theorem dX1_changesAt_14 : decode cX1_changesAt 14 = .ok (.getfield 20, 3) := decAll_at aX1_changesAt_0 9 rfl
theorem dX1_changesAt_17 : decode cX1_changesAt 17 = .ok (.iload_n 1, 1) := decAll_at aX1_changesAt_0 10 rfl
theorem dX1_changesAt_18 : decode cX1_changesAt 18 = .ok (.iconst 1, 1) := decAll_at aX1_changesAt_0 11 rfl
theorem dX1_changesAt_19 : decode cX1_changesAt 19 = .ok (.isub, 1) := decAll_at aX1_changesAt_0 12 rfl
theorem dX1_changesAt_20 : decode cX1_changesAt 20 = .ok (.iaload, 1) := decAll_at aX1_changesAt_0 13 rfl
theorem dX1_changesAt_21 : decode cX1_changesAt 21 = .ok (.bipush 6, 2) := decAll_at aX1_changesAt_0 14 rfl
theorem dX1_changesAt_23 : decode cX1_changesAt 23 = .ok (.irem, 1) := decAll_at aX1_changesAt_0 15 rfl
theorem dX1_changesAt_24 : decode cX1_changesAt 24 = .ok (.if_icmp .eq 7, 3) := decAll_at aX1_changesAt_0 16 rfl
theorem dX1_changesAt_27 : decode cX1_changesAt 27 = .ok (.iconst 1, 1) := decAll_at aX1_changesAt_0 17 rfl
theorem dX1_changesAt_28 : decode cX1_changesAt 28 = .ok (.goto 4, 3) := decAll_at aX1_changesAt_0 18 rfl
theorem dX1_changesAt_31 : decode cX1_changesAt 31 = .ok (.iconst 0, 1) := decAll_at aX1_changesAt_0 19 rfl
theorem dX1_changesAt_32 : decode cX1_changesAt 32 = .ok (.ireturn, 1) := decAll_at aX1_changesAt_0 20 rfl
def laX1_follow_0 : List (Nat × Instr × Nat) := [(0, .aload_n 0, 1), (1, .iconst 0, 1), (2, .putfield 53, 3), (5, .aload_n 0, 1), (6, .getfield 30, 3), (9, .iconst 0, 1), (10, .invokestatic 56, 3), (13, .iconst 0, 1), (14, .istore_n 1, 1), (15, .iload_n 1, 1), (16, .aload_n 0, 1), (17, .getfield 33, 3), (20, .getfield 62, 3), (23, .if_icmp .ge 44, 3), (26, .aload_n 0, 1), (27, .iload_n 1, 1), (28, .invokevirtual 65, 3), (31, .istore_n 2, 1), (32, .iload_n 2, 1), (33, .ifCond .ne 4, 3), (36, .return_, 1), (37, .aload_n 0, 1), (38, .iload_n 1, 1), (39, .aload_n 0, 1), (40, .getfield 33, 3), (43, .iload_n 1, 1), (44, .iload_n 2, 1), (45, .invokevirtual 69, 3), (48, .invokevirtual 72, 3), (51, .aload_n 0, 1), (52, .dup, 1), (53, .getfield 53, 3), (56, .iconst 1, 1), (57, .iadd, 1), (58, .putfield 53, 3), (61, .iinc 1 1, 3), (64, .goto (-49), 3), (67, .return_, 1)]
theorem aX1_follow_0 : decAll cX1_follow laX1_follow_0 = true := by decide +kernel
theorem dX1_follow_0 : decode cX1_follow 0 = .ok (.aload_n 0, 1) := decAll_at aX1_follow_0 0 rfl
theorem dX1_follow_1 : decode cX1_follow 1 = .ok (.iconst 0, 1) := decAll_at aX1_follow_0 1 rfl
theorem dX1_follow_2 : decode cX1_follow 2 = .ok (.putfield 53, 3) := decAll_at aX1_follow_0 2 rfl
theorem dX1_follow_5 : decode cX1_follow 5 = .ok (.aload_n 0, 1) := decAll_at aX1_follow_0 3 rfl
theorem dX1_follow_6 : decode cX1_follow 6 = .ok (.getfield 30, 3) := decAll_at aX1_follow_0 4 rfl
theorem dX1_follow_9 : decode cX1_follow 9 = .ok (.iconst 0, 1) := decAll_at aX1_follow_0 5 rfl
theorem dX1_follow_10 : decode cX1_follow 10 = .ok (.invokestatic 56, 3) := decAll_at aX1_follow_0 6 rfl
theorem dX1_follow_13 : decode cX1_follow 13 = .ok (.iconst 0, 1) := decAll_at aX1_follow_0 7 rfl
theorem dX1_follow_14 : decode cX1_follow 14 = .ok (.istore_n 1, 1) := decAll_at aX1_follow_0 8 rfl
theorem dX1_follow_15 : decode cX1_follow 15 = .ok (.iload_n 1, 1) := decAll_at aX1_follow_0 9 rfl
theorem dX1_follow_16 : decode cX1_follow 16 = .ok (.aload_n 0, 1) := decAll_at aX1_follow_0 10 rfl
theorem dX1_follow_17 : decode cX1_follow 17 = .ok (.getfield 33, 3) := decAll_at aX1_follow_0 11 rfl
theorem dX1_follow_20 : decode cX1_follow 20 = .ok (.getfield 62, 3) := decAll_at aX1_follow_0 12 rfl
theorem dX1_follow_23 : decode cX1_follow 23 = .ok (.if_icmp .ge 44, 3) := decAll_at aX1_follow_0 13 rfl
theorem dX1_follow_26 : decode cX1_follow 26 = .ok (.aload_n 0, 1) := decAll_at aX1_follow_0 14 rfl
theorem dX1_follow_27 : decode cX1_follow 27 = .ok (.iload_n 1, 1) := decAll_at aX1_follow_0 15 rfl
theorem dX1_follow_28 : decode cX1_follow 28 = .ok (.invokevirtual 65, 3) := decAll_at aX1_follow_0 16 rfl
theorem dX1_follow_31 : decode cX1_follow 31 = .ok (.istore_n 2, 1) := decAll_at aX1_follow_0 17 rfl
theorem dX1_follow_32 : decode cX1_follow 32 = .ok (.iload_n 2, 1) := decAll_at aX1_follow_0 18 rfl
theorem dX1_follow_33 : decode cX1_follow 33 = .ok (.ifCond .ne 4, 3) := decAll_at aX1_follow_0 19 rfl
theorem dX1_follow_36 : decode cX1_follow 36 = .ok (.return_, 1) := decAll_at aX1_follow_0 20 rfl
theorem dX1_follow_37 : decode cX1_follow 37 = .ok (.aload_n 0, 1) := decAll_at aX1_follow_0 21 rfl
theorem dX1_follow_38 : decode cX1_follow 38 = .ok (.iload_n 1, 1) := decAll_at aX1_follow_0 22 rfl
theorem dX1_follow_39 : decode cX1_follow 39 = .ok (.aload_n 0, 1) := decAll_at aX1_follow_0 23 rfl
theorem dX1_follow_40 : decode cX1_follow 40 = .ok (.getfield 33, 3) := decAll_at aX1_follow_0 24 rfl
theorem dX1_follow_43 : decode cX1_follow 43 = .ok (.iload_n 1, 1) := decAll_at aX1_follow_0 25 rfl
theorem dX1_follow_44 : decode cX1_follow 44 = .ok (.iload_n 2, 1) := decAll_at aX1_follow_0 26 rfl
theorem dX1_follow_45 : decode cX1_follow 45 = .ok (.invokevirtual 69, 3) := decAll_at aX1_follow_0 27 rfl
theorem dX1_follow_48 : decode cX1_follow 48 = .ok (.invokevirtual 72, 3) := decAll_at aX1_follow_0 28 rfl
theorem dX1_follow_51 : decode cX1_follow 51 = .ok (.aload_n 0, 1) := decAll_at aX1_follow_0 29 rfl
theorem dX1_follow_52 : decode cX1_follow 52 = .ok (.dup, 1) := decAll_at aX1_follow_0 30 rfl
theorem dX1_follow_53 : decode cX1_follow 53 = .ok (.getfield 53, 3) := decAll_at aX1_follow_0 31 rfl
theorem dX1_follow_56 : decode cX1_follow 56 = .ok (.iconst 1, 1) := decAll_at aX1_follow_0 32 rfl
theorem dX1_follow_57 : decode cX1_follow 57 = .ok (.iadd, 1) := decAll_at aX1_follow_0 33 rfl
theorem dX1_follow_58 : decode cX1_follow 58 = .ok (.putfield 53, 3) := decAll_at aX1_follow_0 34 rfl
theorem dX1_follow_61 : decode cX1_follow 61 = .ok (.iinc 1 1, 3) := decAll_at aX1_follow_0 35 rfl
theorem dX1_follow_64 : decode cX1_follow 64 = .ok (.goto (-49), 3) := decAll_at aX1_follow_0 36 rfl
theorem dX1_follow_67 : decode cX1_follow 67 = .ok (.return_, 1) := decAll_at aX1_follow_0 37 rfl
def laX1_restedPace_0 : List (Nat × Instr × Nat) := [(0, .aload_n 0, 1), (1, .getfield 20, 3), (4, .iload_n 1, 1), (5, .iaload, 1), (6, .bipush 6, 2), (8, .irem, 1), (9, .istore_n 2, 1), (10, .bipush 60, 2), (12, .istore_n 3, 1), (13, .iconst 0, 1), (14, .istore 4, 2), (16, .iload 4, 2), (18, .aload_n 0, 1), (19, .getfield 33, 3), (22, .getfield 76, 3), (25, .if_icmp .ge 91, 3), (28, .aload_n 0, 1), (29, .getfield 30, 3), (32, .iload 4, 2), (34, .iaload, 1), (35, .istore 5, 2), (37, .iconst 0, 1), (38, .istore 6, 2), (40, .iload 6, 2), (42, .aload_n 0, 1), (43, .getfield 20, 3), (46, .iload_n 1, 1), (47, .iaload, 1), (48, .bipush 6, 2), (50, .idiv, 1), (51, .if_icmp .ge 23, 3), (54, .aload_n 0, 1), (55, .getfield 37, 3), (58, .iload 4, 2), (60, .iload 5, 2), (62, .iload_n 1, 1), (63, .invokevirtual 79, 3), (66, .istore 5, 2), (68, .iinc 6 1, 3), (71, .goto (-31), 3), (74, .aload_n 0, 1), (75, .getfield 27, 3), (78, .iload_n 1, 1), (79, .aaload, 1), (80, .iload 4, 2), (82, .iload 5, 2), (84, .iastore, 1), (85, .iload_n 3, 1), (86, .aload_n 0, 1), (87, .getfield 37, 3), (90, .iload 4, 2), (92, .aload_n 0, 1), (93, .iload_n 2, 1), (94, .iload 4, 2), (96, .iload_n 1, 1), (97, .invokevirtual 85, 3), (100, .iload 5, 2), (102, .iload_n 1, 1), (103, .invokevirtual 88, 3), (106, .invokestatic 92, 3), (109, .istore_n 3, 1), (110, .iinc 4 1, 3), (113, .goto (-97), 3), (116, .iload_n 3, 1)]
theorem aX1_restedPace_0 : decAll cX1_restedPace laX1_restedPace_0 = true := by decide +kernel
theorem dX1_restedPace_0 : decode cX1_restedPace 0 = .ok (.aload_n 0, 1) := decAll_at aX1_restedPace_0 0 rfl
theorem dX1_restedPace_1 : decode cX1_restedPace 1 = .ok (.getfield 20, 3) := decAll_at aX1_restedPace_0 1 rfl
theorem dX1_restedPace_4 : decode cX1_restedPace 4 = .ok (.iload_n 1, 1) := decAll_at aX1_restedPace_0 2 rfl
theorem dX1_restedPace_5 : decode cX1_restedPace 5 = .ok (.iaload, 1) := decAll_at aX1_restedPace_0 3 rfl
theorem dX1_restedPace_6 : decode cX1_restedPace 6 = .ok (.bipush 6, 2) := decAll_at aX1_restedPace_0 4 rfl
theorem dX1_restedPace_8 : decode cX1_restedPace 8 = .ok (.irem, 1) := decAll_at aX1_restedPace_0 5 rfl
theorem dX1_restedPace_9 : decode cX1_restedPace 9 = .ok (.istore_n 2, 1) := decAll_at aX1_restedPace_0 6 rfl
theorem dX1_restedPace_10 : decode cX1_restedPace 10 = .ok (.bipush 60, 2) := decAll_at aX1_restedPace_0 7 rfl
theorem dX1_restedPace_12 : decode cX1_restedPace 12 = .ok (.istore_n 3, 1) := decAll_at aX1_restedPace_0 8 rfl
theorem dX1_restedPace_13 : decode cX1_restedPace 13 = .ok (.iconst 0, 1) := decAll_at aX1_restedPace_0 9 rfl
theorem dX1_restedPace_14 : decode cX1_restedPace 14 = .ok (.istore 4, 2) := decAll_at aX1_restedPace_0 10 rfl
theorem dX1_restedPace_16 : decode cX1_restedPace 16 = .ok (.iload 4, 2) := decAll_at aX1_restedPace_0 11 rfl
theorem dX1_restedPace_18 : decode cX1_restedPace 18 = .ok (.aload_n 0, 1) := decAll_at aX1_restedPace_0 12 rfl
theorem dX1_restedPace_19 : decode cX1_restedPace 19 = .ok (.getfield 33, 3) := decAll_at aX1_restedPace_0 13 rfl
theorem dX1_restedPace_22 : decode cX1_restedPace 22 = .ok (.getfield 76, 3) := decAll_at aX1_restedPace_0 14 rfl
theorem dX1_restedPace_25 : decode cX1_restedPace 25 = .ok (.if_icmp .ge 91, 3) := decAll_at aX1_restedPace_0 15 rfl
theorem dX1_restedPace_28 : decode cX1_restedPace 28 = .ok (.aload_n 0, 1) := decAll_at aX1_restedPace_0 16 rfl
theorem dX1_restedPace_29 : decode cX1_restedPace 29 = .ok (.getfield 30, 3) := decAll_at aX1_restedPace_0 17 rfl
theorem dX1_restedPace_32 : decode cX1_restedPace 32 = .ok (.iload 4, 2) := decAll_at aX1_restedPace_0 18 rfl
theorem dX1_restedPace_34 : decode cX1_restedPace 34 = .ok (.iaload, 1) := decAll_at aX1_restedPace_0 19 rfl
theorem dX1_restedPace_35 : decode cX1_restedPace 35 = .ok (.istore 5, 2) := decAll_at aX1_restedPace_0 20 rfl
theorem dX1_restedPace_37 : decode cX1_restedPace 37 = .ok (.iconst 0, 1) := decAll_at aX1_restedPace_0 21 rfl
theorem dX1_restedPace_38 : decode cX1_restedPace 38 = .ok (.istore 6, 2) := decAll_at aX1_restedPace_0 22 rfl
theorem dX1_restedPace_40 : decode cX1_restedPace 40 = .ok (.iload 6, 2) := decAll_at aX1_restedPace_0 23 rfl
theorem dX1_restedPace_42 : decode cX1_restedPace 42 = .ok (.aload_n 0, 1) := decAll_at aX1_restedPace_0 24 rfl
theorem dX1_restedPace_43 : decode cX1_restedPace 43 = .ok (.getfield 20, 3) := decAll_at aX1_restedPace_0 25 rfl
theorem dX1_restedPace_46 : decode cX1_restedPace 46 = .ok (.iload_n 1, 1) := decAll_at aX1_restedPace_0 26 rfl
theorem dX1_restedPace_47 : decode cX1_restedPace 47 = .ok (.iaload, 1) := decAll_at aX1_restedPace_0 27 rfl
theorem dX1_restedPace_48 : decode cX1_restedPace 48 = .ok (.bipush 6, 2) := decAll_at aX1_restedPace_0 28 rfl
theorem dX1_restedPace_50 : decode cX1_restedPace 50 = .ok (.idiv, 1) := decAll_at aX1_restedPace_0 29 rfl
theorem dX1_restedPace_51 : decode cX1_restedPace 51 = .ok (.if_icmp .ge 23, 3) := decAll_at aX1_restedPace_0 30 rfl
theorem dX1_restedPace_54 : decode cX1_restedPace 54 = .ok (.aload_n 0, 1) := decAll_at aX1_restedPace_0 31 rfl
theorem dX1_restedPace_55 : decode cX1_restedPace 55 = .ok (.getfield 37, 3) := decAll_at aX1_restedPace_0 32 rfl
theorem dX1_restedPace_58 : decode cX1_restedPace 58 = .ok (.iload 4, 2) := decAll_at aX1_restedPace_0 33 rfl
theorem dX1_restedPace_60 : decode cX1_restedPace 60 = .ok (.iload 5, 2) := decAll_at aX1_restedPace_0 34 rfl
theorem dX1_restedPace_62 : decode cX1_restedPace 62 = .ok (.iload_n 1, 1) := decAll_at aX1_restedPace_0 35 rfl
theorem dX1_restedPace_63 : decode cX1_restedPace 63 = .ok (.invokevirtual 79, 3) := decAll_at aX1_restedPace_0 36 rfl
theorem dX1_restedPace_66 : decode cX1_restedPace 66 = .ok (.istore 5, 2) := decAll_at aX1_restedPace_0 37 rfl
theorem dX1_restedPace_68 : decode cX1_restedPace 68 = .ok (.iinc 6 1, 3) := decAll_at aX1_restedPace_0 38 rfl
theorem dX1_restedPace_71 : decode cX1_restedPace 71 = .ok (.goto (-31), 3) := decAll_at aX1_restedPace_0 39 rfl
theorem dX1_restedPace_74 : decode cX1_restedPace 74 = .ok (.aload_n 0, 1) := decAll_at aX1_restedPace_0 40 rfl
theorem dX1_restedPace_75 : decode cX1_restedPace 75 = .ok (.getfield 27, 3) := decAll_at aX1_restedPace_0 41 rfl
theorem dX1_restedPace_78 : decode cX1_restedPace 78 = .ok (.iload_n 1, 1) := decAll_at aX1_restedPace_0 42 rfl
theorem dX1_restedPace_79 : decode cX1_restedPace 79 = .ok (.aaload, 1) := decAll_at aX1_restedPace_0 43 rfl
theorem dX1_restedPace_80 : decode cX1_restedPace 80 = .ok (.iload 4, 2) := decAll_at aX1_restedPace_0 44 rfl
theorem dX1_restedPace_82 : decode cX1_restedPace 82 = .ok (.iload 5, 2) := decAll_at aX1_restedPace_0 45 rfl
theorem dX1_restedPace_84 : decode cX1_restedPace 84 = .ok (.iastore, 1) := decAll_at aX1_restedPace_0 46 rfl
theorem dX1_restedPace_85 : decode cX1_restedPace 85 = .ok (.iload_n 3, 1) := decAll_at aX1_restedPace_0 47 rfl
theorem dX1_restedPace_86 : decode cX1_restedPace 86 = .ok (.aload_n 0, 1) := decAll_at aX1_restedPace_0 48 rfl
theorem dX1_restedPace_87 : decode cX1_restedPace 87 = .ok (.getfield 37, 3) := decAll_at aX1_restedPace_0 49 rfl
theorem dX1_restedPace_90 : decode cX1_restedPace 90 = .ok (.iload 4, 2) := decAll_at aX1_restedPace_0 50 rfl
theorem dX1_restedPace_92 : decode cX1_restedPace 92 = .ok (.aload_n 0, 1) := decAll_at aX1_restedPace_0 51 rfl
theorem dX1_restedPace_93 : decode cX1_restedPace 93 = .ok (.iload_n 2, 1) := decAll_at aX1_restedPace_0 52 rfl
theorem dX1_restedPace_94 : decode cX1_restedPace 94 = .ok (.iload 4, 2) := decAll_at aX1_restedPace_0 53 rfl
theorem dX1_restedPace_96 : decode cX1_restedPace 96 = .ok (.iload_n 1, 1) := decAll_at aX1_restedPace_0 54 rfl
theorem dX1_restedPace_97 : decode cX1_restedPace 97 = .ok (.invokevirtual 85, 3) := decAll_at aX1_restedPace_0 55 rfl
theorem dX1_restedPace_100 : decode cX1_restedPace 100 = .ok (.iload 5, 2) := decAll_at aX1_restedPace_0 56 rfl
theorem dX1_restedPace_102 : decode cX1_restedPace 102 = .ok (.iload_n 1, 1) := decAll_at aX1_restedPace_0 57 rfl
theorem dX1_restedPace_103 : decode cX1_restedPace 103 = .ok (.invokevirtual 88, 3) := decAll_at aX1_restedPace_0 58 rfl
theorem dX1_restedPace_106 : decode cX1_restedPace 106 = .ok (.invokestatic 92, 3) := decAll_at aX1_restedPace_0 59 rfl
theorem dX1_restedPace_109 : decode cX1_restedPace 109 = .ok (.istore_n 3, 1) := decAll_at aX1_restedPace_0 60 rfl
theorem dX1_restedPace_110 : decode cX1_restedPace 110 = .ok (.iinc 4 1, 3) := decAll_at aX1_restedPace_0 61 rfl
theorem dX1_restedPace_113 : decode cX1_restedPace 113 = .ok (.goto (-97), 3) := decAll_at aX1_restedPace_0 62 rfl
theorem dX1_restedPace_116 : decode cX1_restedPace 116 = .ok (.iload_n 3, 1) := decAll_at aX1_restedPace_0 63 rfl
def laX1_restedPace_1 : List (Nat × Instr × Nat) := [(117, .ireturn, 1)]
theorem aX1_restedPace_1 : decAll cX1_restedPace laX1_restedPace_1 = true := by decide +kernel
theorem dX1_restedPace_117 : decode cX1_restedPace 117 = .ok (.ireturn, 1) := decAll_at aX1_restedPace_1 0 rfl
def laX1_step_0 : List (Nat × Instr × Nat) := [(0, .aload_n 0, 1), (1, .getfield 20, 3), (4, .iload_n 1, 1), (5, .iaload, 1), (6, .bipush 6, 2), (8, .irem, 1), (9, .istore_n 3, 1), (10, .iconst 0, 1), (11, .istore 4, 2), (13, .iload 4, 2), (15, .aload_n 0, 1), (16, .getfield 33, 3), (19, .getfield 76, 3), (22, .if_icmp .ge 44, 3), (25, .aload_n 0, 1), (26, .getfield 30, 3), (29, .iload 4, 2), (31, .aload_n 0, 1), (32, .getfield 37, 3), (35, .iload 4, 2), (37, .aload_n 0, 1), (38, .iload_n 3, 1), (39, .iload 4, 2), (41, .iload_n 1, 1), (42, .invokevirtual 85, 3), (45, .aload_n 0, 1), (46, .getfield 27, 3), (49, .iload_n 1, 1), (50, .aaload, 1), (51, .iload 4, 2), (53, .iaload, 1), (54, .iload_n 1, 1), (55, .iload_n 2, 1), (56, .invokevirtual 97, 3), (59, .iastore, 1), (60, .iinc 4 1, 3), (63, .goto (-50), 3), (66, .aload_n 0, 1), (67, .iload_n 1, 1), (68, .invokevirtual 101, 3), (71, .ifCond .eq 10, 3), (74, .aload_n 0, 1), (75, .getfield 16, 3), (78, .goto 4, 3), (81, .iconst 0, 1), (82, .istore 4, 2), (84, .aload_n 0, 1), (85, .getfield 24, 3), (88, .iload_n 1, 1), (89, .iload_n 2, 1), (90, .bipush 30, 2), (92, .aload_n 0, 1), (93, .getfield 20, 3), (96, .iload_n 1, 1), (97, .iaload, 1), (98, .bipush 6, 2), (100, .idiv, 1), (101, .imul, 1), (102, .iadd, 1), (103, .iload 4, 2), (105, .iadd, 1), (106, .iastore, 1), (107, .return_, 1)]
theorem aX1_step_0 : decAll cX1_step laX1_step_0 = true := by decide +kernel
theorem dX1_step_0 : decode cX1_step 0 = .ok (.aload_n 0, 1) := decAll_at aX1_step_0 0 rfl
theorem dX1_step_1 : decode cX1_step 1 = .ok (.getfield 20, 3) := decAll_at aX1_step_0 1 rfl
theorem dX1_step_4 : decode cX1_step 4 = .ok (.iload_n 1, 1) := decAll_at aX1_step_0 2 rfl
theorem dX1_step_5 : decode cX1_step 5 = .ok (.iaload, 1) := decAll_at aX1_step_0 3 rfl
theorem dX1_step_6 : decode cX1_step 6 = .ok (.bipush 6, 2) := decAll_at aX1_step_0 4 rfl
theorem dX1_step_8 : decode cX1_step 8 = .ok (.irem, 1) := decAll_at aX1_step_0 5 rfl
theorem dX1_step_9 : decode cX1_step 9 = .ok (.istore_n 3, 1) := decAll_at aX1_step_0 6 rfl
theorem dX1_step_10 : decode cX1_step 10 = .ok (.iconst 0, 1) := decAll_at aX1_step_0 7 rfl
theorem dX1_step_11 : decode cX1_step 11 = .ok (.istore 4, 2) := decAll_at aX1_step_0 8 rfl
theorem dX1_step_13 : decode cX1_step 13 = .ok (.iload 4, 2) := decAll_at aX1_step_0 9 rfl
theorem dX1_step_15 : decode cX1_step 15 = .ok (.aload_n 0, 1) := decAll_at aX1_step_0 10 rfl
theorem dX1_step_16 : decode cX1_step 16 = .ok (.getfield 33, 3) := decAll_at aX1_step_0 11 rfl
theorem dX1_step_19 : decode cX1_step 19 = .ok (.getfield 76, 3) := decAll_at aX1_step_0 12 rfl
theorem dX1_step_22 : decode cX1_step 22 = .ok (.if_icmp .ge 44, 3) := decAll_at aX1_step_0 13 rfl
theorem dX1_step_25 : decode cX1_step 25 = .ok (.aload_n 0, 1) := decAll_at aX1_step_0 14 rfl
theorem dX1_step_26 : decode cX1_step 26 = .ok (.getfield 30, 3) := decAll_at aX1_step_0 15 rfl
theorem dX1_step_29 : decode cX1_step 29 = .ok (.iload 4, 2) := decAll_at aX1_step_0 16 rfl
theorem dX1_step_31 : decode cX1_step 31 = .ok (.aload_n 0, 1) := decAll_at aX1_step_0 17 rfl
theorem dX1_step_32 : decode cX1_step 32 = .ok (.getfield 37, 3) := decAll_at aX1_step_0 18 rfl
theorem dX1_step_35 : decode cX1_step 35 = .ok (.iload 4, 2) := decAll_at aX1_step_0 19 rfl
theorem dX1_step_37 : decode cX1_step 37 = .ok (.aload_n 0, 1) := decAll_at aX1_step_0 20 rfl
theorem dX1_step_38 : decode cX1_step 38 = .ok (.iload_n 3, 1) := decAll_at aX1_step_0 21 rfl
theorem dX1_step_39 : decode cX1_step 39 = .ok (.iload 4, 2) := decAll_at aX1_step_0 22 rfl
theorem dX1_step_41 : decode cX1_step 41 = .ok (.iload_n 1, 1) := decAll_at aX1_step_0 23 rfl
theorem dX1_step_42 : decode cX1_step 42 = .ok (.invokevirtual 85, 3) := decAll_at aX1_step_0 24 rfl
theorem dX1_step_45 : decode cX1_step 45 = .ok (.aload_n 0, 1) := decAll_at aX1_step_0 25 rfl
theorem dX1_step_46 : decode cX1_step 46 = .ok (.getfield 27, 3) := decAll_at aX1_step_0 26 rfl
theorem dX1_step_49 : decode cX1_step 49 = .ok (.iload_n 1, 1) := decAll_at aX1_step_0 27 rfl
theorem dX1_step_50 : decode cX1_step 50 = .ok (.aaload, 1) := decAll_at aX1_step_0 28 rfl
theorem dX1_step_51 : decode cX1_step 51 = .ok (.iload 4, 2) := decAll_at aX1_step_0 29 rfl
theorem dX1_step_53 : decode cX1_step 53 = .ok (.iaload, 1) := decAll_at aX1_step_0 30 rfl
theorem dX1_step_54 : decode cX1_step 54 = .ok (.iload_n 1, 1) := decAll_at aX1_step_0 31 rfl
theorem dX1_step_55 : decode cX1_step 55 = .ok (.iload_n 2, 1) := decAll_at aX1_step_0 32 rfl
theorem dX1_step_56 : decode cX1_step 56 = .ok (.invokevirtual 97, 3) := decAll_at aX1_step_0 33 rfl
theorem dX1_step_59 : decode cX1_step 59 = .ok (.iastore, 1) := decAll_at aX1_step_0 34 rfl
theorem dX1_step_60 : decode cX1_step 60 = .ok (.iinc 4 1, 3) := decAll_at aX1_step_0 35 rfl
theorem dX1_step_63 : decode cX1_step 63 = .ok (.goto (-50), 3) := decAll_at aX1_step_0 36 rfl
theorem dX1_step_66 : decode cX1_step 66 = .ok (.aload_n 0, 1) := decAll_at aX1_step_0 37 rfl
theorem dX1_step_67 : decode cX1_step 67 = .ok (.iload_n 1, 1) := decAll_at aX1_step_0 38 rfl
theorem dX1_step_68 : decode cX1_step 68 = .ok (.invokevirtual 101, 3) := decAll_at aX1_step_0 39 rfl
theorem dX1_step_71 : decode cX1_step 71 = .ok (.ifCond .eq 10, 3) := decAll_at aX1_step_0 40 rfl
theorem dX1_step_74 : decode cX1_step 74 = .ok (.aload_n 0, 1) := decAll_at aX1_step_0 41 rfl
theorem dX1_step_75 : decode cX1_step 75 = .ok (.getfield 16, 3) := decAll_at aX1_step_0 42 rfl
theorem dX1_step_78 : decode cX1_step 78 = .ok (.goto 4, 3) := decAll_at aX1_step_0 43 rfl
theorem dX1_step_81 : decode cX1_step 81 = .ok (.iconst 0, 1) := decAll_at aX1_step_0 44 rfl
theorem dX1_step_82 : decode cX1_step 82 = .ok (.istore 4, 2) := decAll_at aX1_step_0 45 rfl
theorem dX1_step_84 : decode cX1_step 84 = .ok (.aload_n 0, 1) := decAll_at aX1_step_0 46 rfl
theorem dX1_step_85 : decode cX1_step 85 = .ok (.getfield 24, 3) := decAll_at aX1_step_0 47 rfl
theorem dX1_step_88 : decode cX1_step 88 = .ok (.iload_n 1, 1) := decAll_at aX1_step_0 48 rfl
theorem dX1_step_89 : decode cX1_step 89 = .ok (.iload_n 2, 1) := decAll_at aX1_step_0 49 rfl
theorem dX1_step_90 : decode cX1_step 90 = .ok (.bipush 30, 2) := decAll_at aX1_step_0 50 rfl
theorem dX1_step_92 : decode cX1_step 92 = .ok (.aload_n 0, 1) := decAll_at aX1_step_0 51 rfl
theorem dX1_step_93 : decode cX1_step 93 = .ok (.getfield 20, 3) := decAll_at aX1_step_0 52 rfl
theorem dX1_step_96 : decode cX1_step 96 = .ok (.iload_n 1, 1) := decAll_at aX1_step_0 53 rfl
theorem dX1_step_97 : decode cX1_step 97 = .ok (.iaload, 1) := decAll_at aX1_step_0 54 rfl
theorem dX1_step_98 : decode cX1_step 98 = .ok (.bipush 6, 2) := decAll_at aX1_step_0 55 rfl
theorem dX1_step_100 : decode cX1_step 100 = .ok (.idiv, 1) := decAll_at aX1_step_0 56 rfl
theorem dX1_step_101 : decode cX1_step 101 = .ok (.imul, 1) := decAll_at aX1_step_0 57 rfl
theorem dX1_step_102 : decode cX1_step 102 = .ok (.iadd, 1) := decAll_at aX1_step_0 58 rfl
theorem dX1_step_103 : decode cX1_step 103 = .ok (.iload 4, 2) := decAll_at aX1_step_0 59 rfl
theorem dX1_step_105 : decode cX1_step 105 = .ok (.iadd, 1) := decAll_at aX1_step_0 60 rfl
theorem dX1_step_106 : decode cX1_step 106 = .ok (.iastore, 1) := decAll_at aX1_step_0 61 rfl
theorem dX1_step_107 : decode cX1_step 107 = .ok (.return_, 1) := decAll_at aX1_step_0 62 rfl
def laX1_allMinutes_0 : List (Nat × Instr × Nat) := [(0, .iconst 0, 1), (1, .istore_n 1, 1), (2, .iconst 0, 1), (3, .istore_n 2, 1), (4, .iload_n 2, 1), (5, .aload_n 0, 1), (6, .getfield 53, 3), (9, .if_icmp .ge 18, 3), (12, .iload_n 1, 1), (13, .aload_n 0, 1), (14, .getfield 24, 3), (17, .iload_n 2, 1), (18, .iaload, 1), (19, .iadd, 1), (20, .istore_n 1, 1), (21, .iinc 2 1, 3), (24, .goto (-20), 3), (27, .iload_n 1, 1), (28, .ireturn, 1)]
theorem aX1_allMinutes_0 : decAll cX1_allMinutes laX1_allMinutes_0 = true := by decide +kernel
theorem dX1_allMinutes_0 : decode cX1_allMinutes 0 = .ok (.iconst 0, 1) := decAll_at aX1_allMinutes_0 0 rfl
theorem dX1_allMinutes_1 : decode cX1_allMinutes 1 = .ok (.istore_n 1, 1) := decAll_at aX1_allMinutes_0 1 rfl
theorem dX1_allMinutes_2 : decode cX1_allMinutes 2 = .ok (.iconst 0, 1) := decAll_at aX1_allMinutes_0 2 rfl
theorem dX1_allMinutes_3 : decode cX1_allMinutes 3 = .ok (.istore_n 2, 1) := decAll_at aX1_allMinutes_0 3 rfl
theorem dX1_allMinutes_4 : decode cX1_allMinutes 4 = .ok (.iload_n 2, 1) := decAll_at aX1_allMinutes_0 4 rfl
theorem dX1_allMinutes_5 : decode cX1_allMinutes 5 = .ok (.aload_n 0, 1) := decAll_at aX1_allMinutes_0 5 rfl
theorem dX1_allMinutes_6 : decode cX1_allMinutes 6 = .ok (.getfield 53, 3) := decAll_at aX1_allMinutes_0 6 rfl
theorem dX1_allMinutes_9 : decode cX1_allMinutes 9 = .ok (.if_icmp .ge 18, 3) := decAll_at aX1_allMinutes_0 7 rfl
theorem dX1_allMinutes_12 : decode cX1_allMinutes 12 = .ok (.iload_n 1, 1) := decAll_at aX1_allMinutes_0 8 rfl
theorem dX1_allMinutes_13 : decode cX1_allMinutes 13 = .ok (.aload_n 0, 1) := decAll_at aX1_allMinutes_0 9 rfl
theorem dX1_allMinutes_14 : decode cX1_allMinutes 14 = .ok (.getfield 24, 3) := decAll_at aX1_allMinutes_0 10 rfl
theorem dX1_allMinutes_17 : decode cX1_allMinutes 17 = .ok (.iload_n 2, 1) := decAll_at aX1_allMinutes_0 11 rfl
theorem dX1_allMinutes_18 : decode cX1_allMinutes 18 = .ok (.iaload, 1) := decAll_at aX1_allMinutes_0 12 rfl
theorem dX1_allMinutes_19 : decode cX1_allMinutes 19 = .ok (.iadd, 1) := decAll_at aX1_allMinutes_0 13 rfl
theorem dX1_allMinutes_20 : decode cX1_allMinutes 20 = .ok (.istore_n 1, 1) := decAll_at aX1_allMinutes_0 14 rfl
theorem dX1_allMinutes_21 : decode cX1_allMinutes 21 = .ok (.iinc 2 1, 3) := decAll_at aX1_allMinutes_0 15 rfl
theorem dX1_allMinutes_24 : decode cX1_allMinutes 24 = .ok (.goto (-20), 3) := decAll_at aX1_allMinutes_0 16 rfl
theorem dX1_allMinutes_27 : decode cX1_allMinutes 27 = .ok (.iload_n 1, 1) := decAll_at aX1_allMinutes_0 17 rfl
theorem dX1_allMinutes_28 : decode cX1_allMinutes 28 = .ok (.ireturn, 1) := decAll_at aX1_allMinutes_0 18 rfl
def laX1_tiredness_0 : List (Nat × Instr × Nat) := [(0, .iconst 0, 1), (1, .istore_n 1, 1), (2, .iconst 0, 1), (3, .istore_n 2, 1), (4, .iload_n 2, 1), (5, .aload_n 0, 1), (6, .getfield 33, 3), (9, .getfield 76, 3), (12, .if_icmp .ge 24, 3), (15, .iload_n 1, 1), (16, .aload_n 0, 1), (17, .getfield 30, 3), (20, .iload_n 2, 1), (21, .iaload, 1), (22, .getstatic 105, 3), (25, .iload_n 2, 1), (26, .iaload, 1), (27, .imul, 1), (28, .iadd, 1), (29, .istore_n 1, 1), (30, .iinc 2 1, 3), (33, .goto (-29), 3), (36, .iload_n 1, 1), (37, .ireturn, 1)]
theorem aX1_tiredness_0 : decAll cX1_tiredness laX1_tiredness_0 = true := by decide +kernel
theorem dX1_tiredness_0 : decode cX1_tiredness 0 = .ok (.iconst 0, 1) := decAll_at aX1_tiredness_0 0 rfl
theorem dX1_tiredness_1 : decode cX1_tiredness 1 = .ok (.istore_n 1, 1) := decAll_at aX1_tiredness_0 1 rfl
theorem dX1_tiredness_2 : decode cX1_tiredness 2 = .ok (.iconst 0, 1) := decAll_at aX1_tiredness_0 2 rfl
theorem dX1_tiredness_3 : decode cX1_tiredness 3 = .ok (.istore_n 2, 1) := decAll_at aX1_tiredness_0 3 rfl
theorem dX1_tiredness_4 : decode cX1_tiredness 4 = .ok (.iload_n 2, 1) := decAll_at aX1_tiredness_0 4 rfl
theorem dX1_tiredness_5 : decode cX1_tiredness 5 = .ok (.aload_n 0, 1) := decAll_at aX1_tiredness_0 5 rfl
theorem dX1_tiredness_6 : decode cX1_tiredness 6 = .ok (.getfield 33, 3) := decAll_at aX1_tiredness_0 6 rfl
theorem dX1_tiredness_9 : decode cX1_tiredness 9 = .ok (.getfield 76, 3) := decAll_at aX1_tiredness_0 7 rfl
theorem dX1_tiredness_12 : decode cX1_tiredness 12 = .ok (.if_icmp .ge 24, 3) := decAll_at aX1_tiredness_0 8 rfl
theorem dX1_tiredness_15 : decode cX1_tiredness 15 = .ok (.iload_n 1, 1) := decAll_at aX1_tiredness_0 9 rfl
theorem dX1_tiredness_16 : decode cX1_tiredness 16 = .ok (.aload_n 0, 1) := decAll_at aX1_tiredness_0 10 rfl
theorem dX1_tiredness_17 : decode cX1_tiredness 17 = .ok (.getfield 30, 3) := decAll_at aX1_tiredness_0 11 rfl
theorem dX1_tiredness_20 : decode cX1_tiredness 20 = .ok (.iload_n 2, 1) := decAll_at aX1_tiredness_0 12 rfl
theorem dX1_tiredness_21 : decode cX1_tiredness 21 = .ok (.iaload, 1) := decAll_at aX1_tiredness_0 13 rfl
theorem dX1_tiredness_22 : decode cX1_tiredness 22 = .ok (.getstatic 105, 3) := decAll_at aX1_tiredness_0 14 rfl
theorem dX1_tiredness_25 : decode cX1_tiredness 25 = .ok (.iload_n 2, 1) := decAll_at aX1_tiredness_0 15 rfl
theorem dX1_tiredness_26 : decode cX1_tiredness 26 = .ok (.iaload, 1) := decAll_at aX1_tiredness_0 16 rfl
theorem dX1_tiredness_27 : decode cX1_tiredness 27 = .ok (.imul, 1) := decAll_at aX1_tiredness_0 17 rfl
theorem dX1_tiredness_28 : decode cX1_tiredness 28 = .ok (.iadd, 1) := decAll_at aX1_tiredness_0 18 rfl
theorem dX1_tiredness_29 : decode cX1_tiredness 29 = .ok (.istore_n 1, 1) := decAll_at aX1_tiredness_0 19 rfl
theorem dX1_tiredness_30 : decode cX1_tiredness 30 = .ok (.iinc 2 1, 3) := decAll_at aX1_tiredness_0 20 rfl
theorem dX1_tiredness_33 : decode cX1_tiredness 33 = .ok (.goto (-29), 3) := decAll_at aX1_tiredness_0 21 rfl
theorem dX1_tiredness_36 : decode cX1_tiredness 36 = .ok (.iload_n 1, 1) := decAll_at aX1_tiredness_0 22 rfl
theorem dX1_tiredness_37 : decode cX1_tiredness 37 = .ok (.ireturn, 1) := decAll_at aX1_tiredness_0 23 rfl
def laX1_changes_0 : List (Nat × Instr × Nat) := [(0, .iconst 0, 1), (1, .istore_n 1, 1), (2, .iconst 0, 1), (3, .istore_n 2, 1), (4, .iload_n 2, 1), (5, .aload_n 0, 1), (6, .getfield 53, 3), (9, .if_icmp .ge 25, 3), (12, .iload_n 1, 1), (13, .aload_n 0, 1), (14, .iload_n 2, 1), (15, .invokevirtual 101, 3), (18, .ifCond .eq 7, 3), (21, .iconst 1, 1), (22, .goto 4, 3), (25, .iconst 0, 1), (26, .iadd, 1), (27, .istore_n 1, 1), (28, .iinc 2 1, 3), (31, .goto (-27), 3), (34, .iload_n 1, 1), (35, .ireturn, 1)]
theorem aX1_changes_0 : decAll cX1_changes laX1_changes_0 = true := by decide +kernel
theorem dX1_changes_0 : decode cX1_changes 0 = .ok (.iconst 0, 1) := decAll_at aX1_changes_0 0 rfl
theorem dX1_changes_1 : decode cX1_changes 1 = .ok (.istore_n 1, 1) := decAll_at aX1_changes_0 1 rfl
theorem dX1_changes_2 : decode cX1_changes 2 = .ok (.iconst 0, 1) := decAll_at aX1_changes_0 2 rfl
theorem dX1_changes_3 : decode cX1_changes 3 = .ok (.istore_n 2, 1) := decAll_at aX1_changes_0 3 rfl
theorem dX1_changes_4 : decode cX1_changes 4 = .ok (.iload_n 2, 1) := decAll_at aX1_changes_0 4 rfl
theorem dX1_changes_5 : decode cX1_changes 5 = .ok (.aload_n 0, 1) := decAll_at aX1_changes_0 5 rfl
theorem dX1_changes_6 : decode cX1_changes 6 = .ok (.getfield 53, 3) := decAll_at aX1_changes_0 6 rfl
theorem dX1_changes_9 : decode cX1_changes 9 = .ok (.if_icmp .ge 25, 3) := decAll_at aX1_changes_0 7 rfl
theorem dX1_changes_12 : decode cX1_changes 12 = .ok (.iload_n 1, 1) := decAll_at aX1_changes_0 8 rfl
theorem dX1_changes_13 : decode cX1_changes 13 = .ok (.aload_n 0, 1) := decAll_at aX1_changes_0 9 rfl
theorem dX1_changes_14 : decode cX1_changes 14 = .ok (.iload_n 2, 1) := decAll_at aX1_changes_0 10 rfl
theorem dX1_changes_15 : decode cX1_changes 15 = .ok (.invokevirtual 101, 3) := decAll_at aX1_changes_0 11 rfl
theorem dX1_changes_18 : decode cX1_changes 18 = .ok (.ifCond .eq 7, 3) := decAll_at aX1_changes_0 12 rfl
theorem dX1_changes_21 : decode cX1_changes 21 = .ok (.iconst 1, 1) := decAll_at aX1_changes_0 13 rfl
theorem dX1_changes_22 : decode cX1_changes 22 = .ok (.goto 4, 3) := decAll_at aX1_changes_0 14 rfl
theorem dX1_changes_25 : decode cX1_changes 25 = .ok (.iconst 0, 1) := decAll_at aX1_changes_0 15 rfl
theorem dX1_changes_26 : decode cX1_changes 26 = .ok (.iadd, 1) := decAll_at aX1_changes_0 16 rfl
theorem dX1_changes_27 : decode cX1_changes 27 = .ok (.istore_n 1, 1) := decAll_at aX1_changes_0 17 rfl
theorem dX1_changes_28 : decode cX1_changes 28 = .ok (.iinc 2 1, 3) := decAll_at aX1_changes_0 18 rfl
theorem dX1_changes_31 : decode cX1_changes 31 = .ok (.goto (-27), 3) := decAll_at aX1_changes_0 19 rfl
theorem dX1_changes_34 : decode cX1_changes 34 = .ok (.iload_n 1, 1) := decAll_at aX1_changes_0 20 rfl
theorem dX1_changes_35 : decode cX1_changes 35 = .ok (.ireturn, 1) := decAll_at aX1_changes_0 21 rfl
def laX1_milesWith_0 : List (Nat × Instr × Nat) := [(0, .iconst 0, 1), (1, .istore_n 3, 1), (2, .iconst 0, 1), (3, .istore 4, 2), (5, .iload 4, 2), (7, .aload_n 0, 1), (8, .getfield 53, 3), (11, .if_icmp .ge 43, 3), (14, .aload_n 0, 1), (15, .getfield 11, 3), (18, .aload_n 0, 1), (19, .getfield 20, 3), (22, .iload 4, 2), (24, .iaload, 1), (25, .bipush 6, 2), (27, .irem, 1), (28, .aaload, 1), (29, .iload_n 1, 1), (30, .iaload, 1), (31, .iload_n 2, 1), (32, .if_icmp .ne 16, 3), (35, .iload_n 3, 1), (36, .aload_n 0, 1), (37, .getfield 33, 3), (40, .getfield 108, 3), (43, .iload 4, 2), (45, .iaload, 1), (46, .iadd, 1), (47, .istore_n 3, 1), (48, .iinc 4 1, 3), (51, .goto (-46), 3), (54, .iload_n 3, 1), (55, .ireturn, 1)]
theorem aX1_milesWith_0 : decAll cX1_milesWith laX1_milesWith_0 = true := by decide +kernel
theorem dX1_milesWith_0 : decode cX1_milesWith 0 = .ok (.iconst 0, 1) := decAll_at aX1_milesWith_0 0 rfl
theorem dX1_milesWith_1 : decode cX1_milesWith 1 = .ok (.istore_n 3, 1) := decAll_at aX1_milesWith_0 1 rfl
theorem dX1_milesWith_2 : decode cX1_milesWith 2 = .ok (.iconst 0, 1) := decAll_at aX1_milesWith_0 2 rfl
theorem dX1_milesWith_3 : decode cX1_milesWith 3 = .ok (.istore 4, 2) := decAll_at aX1_milesWith_0 3 rfl
theorem dX1_milesWith_5 : decode cX1_milesWith 5 = .ok (.iload 4, 2) := decAll_at aX1_milesWith_0 4 rfl
theorem dX1_milesWith_7 : decode cX1_milesWith 7 = .ok (.aload_n 0, 1) := decAll_at aX1_milesWith_0 5 rfl
theorem dX1_milesWith_8 : decode cX1_milesWith 8 = .ok (.getfield 53, 3) := decAll_at aX1_milesWith_0 6 rfl
theorem dX1_milesWith_11 : decode cX1_milesWith 11 = .ok (.if_icmp .ge 43, 3) := decAll_at aX1_milesWith_0 7 rfl
theorem dX1_milesWith_14 : decode cX1_milesWith 14 = .ok (.aload_n 0, 1) := decAll_at aX1_milesWith_0 8 rfl
theorem dX1_milesWith_15 : decode cX1_milesWith 15 = .ok (.getfield 11, 3) := decAll_at aX1_milesWith_0 9 rfl
theorem dX1_milesWith_18 : decode cX1_milesWith 18 = .ok (.aload_n 0, 1) := decAll_at aX1_milesWith_0 10 rfl
theorem dX1_milesWith_19 : decode cX1_milesWith 19 = .ok (.getfield 20, 3) := decAll_at aX1_milesWith_0 11 rfl
theorem dX1_milesWith_22 : decode cX1_milesWith 22 = .ok (.iload 4, 2) := decAll_at aX1_milesWith_0 12 rfl
theorem dX1_milesWith_24 : decode cX1_milesWith 24 = .ok (.iaload, 1) := decAll_at aX1_milesWith_0 13 rfl
theorem dX1_milesWith_25 : decode cX1_milesWith 25 = .ok (.bipush 6, 2) := decAll_at aX1_milesWith_0 14 rfl
theorem dX1_milesWith_27 : decode cX1_milesWith 27 = .ok (.irem, 1) := decAll_at aX1_milesWith_0 15 rfl
theorem dX1_milesWith_28 : decode cX1_milesWith 28 = .ok (.aaload, 1) := decAll_at aX1_milesWith_0 16 rfl
theorem dX1_milesWith_29 : decode cX1_milesWith 29 = .ok (.iload_n 1, 1) := decAll_at aX1_milesWith_0 17 rfl
theorem dX1_milesWith_30 : decode cX1_milesWith 30 = .ok (.iaload, 1) := decAll_at aX1_milesWith_0 18 rfl
theorem dX1_milesWith_31 : decode cX1_milesWith 31 = .ok (.iload_n 2, 1) := decAll_at aX1_milesWith_0 19 rfl
theorem dX1_milesWith_32 : decode cX1_milesWith 32 = .ok (.if_icmp .ne 16, 3) := decAll_at aX1_milesWith_0 20 rfl
theorem dX1_milesWith_35 : decode cX1_milesWith 35 = .ok (.iload_n 3, 1) := decAll_at aX1_milesWith_0 21 rfl
theorem dX1_milesWith_36 : decode cX1_milesWith 36 = .ok (.aload_n 0, 1) := decAll_at aX1_milesWith_0 22 rfl
theorem dX1_milesWith_37 : decode cX1_milesWith 37 = .ok (.getfield 33, 3) := decAll_at aX1_milesWith_0 23 rfl
theorem dX1_milesWith_40 : decode cX1_milesWith 40 = .ok (.getfield 108, 3) := decAll_at aX1_milesWith_0 24 rfl
theorem dX1_milesWith_43 : decode cX1_milesWith 43 = .ok (.iload 4, 2) := decAll_at aX1_milesWith_0 25 rfl
theorem dX1_milesWith_45 : decode cX1_milesWith 45 = .ok (.iaload, 1) := decAll_at aX1_milesWith_0 26 rfl
theorem dX1_milesWith_46 : decode cX1_milesWith 46 = .ok (.iadd, 1) := decAll_at aX1_milesWith_0 27 rfl
theorem dX1_milesWith_47 : decode cX1_milesWith 47 = .ok (.istore_n 3, 1) := decAll_at aX1_milesWith_0 28 rfl
theorem dX1_milesWith_48 : decode cX1_milesWith 48 = .ok (.iinc 4 1, 3) := decAll_at aX1_milesWith_0 29 rfl
theorem dX1_milesWith_51 : decode cX1_milesWith 51 = .ok (.goto (-46), 3) := decAll_at aX1_milesWith_0 30 rfl
theorem dX1_milesWith_54 : decode cX1_milesWith 54 = .ok (.iload_n 3, 1) := decAll_at aX1_milesWith_0 31 rfl
theorem dX1_milesWith_55 : decode cX1_milesWith 55 = .ok (.ireturn, 1) := decAll_at aX1_milesWith_0 32 rfl
def laX2_init_0 : List (Nat × Instr × Nat) := [(0, .aload_n 0, 1), (1, .invokespecial 3, 3), (4, .aload_n 0, 1), (5, .bipush 10, 2), (7, .newarray .int, 2), (9, .putfield 9, 3), (12, .aload_n 0, 1), (13, .bipush 10, 2), (15, .newarray .int, 2), (17, .putfield 15, 3), (20, .aload_n 0, 1), (21, .aload_n 1, 1), (22, .putfield 18, 3), (25, .aload_n 0, 1), (26, .aload_n 2, 1), (27, .putfield 22, 3), (30, .return_, 1)]
theorem aX2_init_0 : decAll cX2_init laX2_init_0 = true := by decide +kernel
theorem dX2_init_0 : decode cX2_init 0 = .ok (.aload_n 0, 1) := decAll_at aX2_init_0 0 rfl
theorem dX2_init_1 : decode cX2_init 1 = .ok (.invokespecial 3, 3) := decAll_at aX2_init_0 1 rfl
theorem dX2_init_4 : decode cX2_init 4 = .ok (.aload_n 0, 1) := decAll_at aX2_init_0 2 rfl
theorem dX2_init_5 : decode cX2_init 5 = .ok (.bipush 10, 2) := decAll_at aX2_init_0 3 rfl
theorem dX2_init_7 : decode cX2_init 7 = .ok (.newarray .int, 2) := decAll_at aX2_init_0 4 rfl
theorem dX2_init_9 : decode cX2_init 9 = .ok (.putfield 9, 3) := decAll_at aX2_init_0 5 rfl
theorem dX2_init_12 : decode cX2_init 12 = .ok (.aload_n 0, 1) := decAll_at aX2_init_0 6 rfl
theorem dX2_init_13 : decode cX2_init 13 = .ok (.bipush 10, 2) := decAll_at aX2_init_0 7 rfl
theorem dX2_init_15 : decode cX2_init 15 = .ok (.newarray .int, 2) := decAll_at aX2_init_0 8 rfl
theorem dX2_init_17 : decode cX2_init 17 = .ok (.putfield 15, 3) := decAll_at aX2_init_0 9 rfl
theorem dX2_init_20 : decode cX2_init 20 = .ok (.aload_n 0, 1) := decAll_at aX2_init_0 10 rfl
theorem dX2_init_21 : decode cX2_init 21 = .ok (.aload_n 1, 1) := decAll_at aX2_init_0 11 rfl
theorem dX2_init_22 : decode cX2_init 22 = .ok (.putfield 18, 3) := decAll_at aX2_init_0 12 rfl
theorem dX2_init_25 : decode cX2_init 25 = .ok (.aload_n 0, 1) := decAll_at aX2_init_0 13 rfl
theorem dX2_init_26 : decode cX2_init 26 = .ok (.aload_n 2, 1) := decAll_at aX2_init_0 14 rfl
theorem dX2_init_27 : decode cX2_init 27 = .ok (.putfield 22, 3) := decAll_at aX2_init_0 15 rfl
theorem dX2_init_30 : decode cX2_init 30 = .ok (.return_, 1) := decAll_at aX2_init_0 16 rfl
def laX2_prepare_0 : List (Nat × Instr × Nat) := [(0, .iconst 1, 1), (1, .istore_n 3, 1), (2, .iconst 0, 1), (3, .istore 4, 2), (5, .iload 4, 2), (7, .aload_n 0, 1), (8, .getfield 18, 3), (11, .getfield 26, 3), (14, .if_icmp .ge 154, 3), (17, .aload_n 0, 1), (18, .getfield 9, 3), (21, .iload 4, 2), (23, .bipush 60, 2), (25, .iastore, 1), (26, .aload_n 0, 1), (27, .getfield 15, 3), (30, .iload 4, 2), (32, .bipush 60, 2), (34, .iastore, 1), (35, .iconst 0, 1), (36, .istore 5, 2), (38, .iload 5, 2), (40, .aload_n 0, 1), (41, .getfield 18, 3), (44, .getfield 32, 3), (47, .if_icmp .ge 85, 3), (50, .iload_n 1, 1), (51, .iload 5, 2), (53, .ishr, 1), (54, .iconst 1, 1), (55, .iand, 1), (56, .ifCond .eq 33, 3), (59, .aload_n 0, 1), (60, .getfield 9, 3), (63, .iload 4, 2), (65, .aload_n 0, 1), (66, .getfield 9, 3), (69, .iload 4, 2), (71, .iaload, 1), (72, .aload_n 0, 1), (73, .getfield 22, 3), (76, .iload 5, 2), (78, .iconst 0, 1), (79, .iconst 0, 1), (80, .iload 4, 2), (82, .invokevirtual 35, 3), (85, .invokestatic 41, 3), (88, .iastore, 1), (89, .iload_n 2, 1), (90, .iload 5, 2), (92, .ishr, 1), (93, .iconst 1, 1), (94, .iand, 1), (95, .ifCond .eq 31, 3), (98, .aload_n 0, 1), (99, .getfield 15, 3), (102, .iload 4, 2), (104, .aload_n 0, 1), (105, .getfield 15, 3), (108, .iload 4, 2), (110, .iaload, 1), (111, .aload_n 0, 1), (112, .getfield 22, 3), (115, .iload 5, 2)]
theorem aX2_prepare_0 : decAll cX2_prepare laX2_prepare_0 = true := by decide +kernel
theorem dX2_prepare_0 : decode cX2_prepare 0 = .ok (.iconst 1, 1) := decAll_at aX2_prepare_0 0 rfl
theorem dX2_prepare_1 : decode cX2_prepare 1 = .ok (.istore_n 3, 1) := decAll_at aX2_prepare_0 1 rfl
theorem dX2_prepare_2 : decode cX2_prepare 2 = .ok (.iconst 0, 1) := decAll_at aX2_prepare_0 2 rfl
theorem dX2_prepare_3 : decode cX2_prepare 3 = .ok (.istore 4, 2) := decAll_at aX2_prepare_0 3 rfl
theorem dX2_prepare_5 : decode cX2_prepare 5 = .ok (.iload 4, 2) := decAll_at aX2_prepare_0 4 rfl
theorem dX2_prepare_7 : decode cX2_prepare 7 = .ok (.aload_n 0, 1) := decAll_at aX2_prepare_0 5 rfl
theorem dX2_prepare_8 : decode cX2_prepare 8 = .ok (.getfield 18, 3) := decAll_at aX2_prepare_0 6 rfl
theorem dX2_prepare_11 : decode cX2_prepare 11 = .ok (.getfield 26, 3) := decAll_at aX2_prepare_0 7 rfl
theorem dX2_prepare_14 : decode cX2_prepare 14 = .ok (.if_icmp .ge 154, 3) := decAll_at aX2_prepare_0 8 rfl
theorem dX2_prepare_17 : decode cX2_prepare 17 = .ok (.aload_n 0, 1) := decAll_at aX2_prepare_0 9 rfl
theorem dX2_prepare_18 : decode cX2_prepare 18 = .ok (.getfield 9, 3) := decAll_at aX2_prepare_0 10 rfl
theorem dX2_prepare_21 : decode cX2_prepare 21 = .ok (.iload 4, 2) := decAll_at aX2_prepare_0 11 rfl
theorem dX2_prepare_23 : decode cX2_prepare 23 = .ok (.bipush 60, 2) := decAll_at aX2_prepare_0 12 rfl
theorem dX2_prepare_25 : decode cX2_prepare 25 = .ok (.iastore, 1) := decAll_at aX2_prepare_0 13 rfl
theorem dX2_prepare_26 : decode cX2_prepare 26 = .ok (.aload_n 0, 1) := decAll_at aX2_prepare_0 14 rfl
theorem dX2_prepare_27 : decode cX2_prepare 27 = .ok (.getfield 15, 3) := decAll_at aX2_prepare_0 15 rfl
theorem dX2_prepare_30 : decode cX2_prepare 30 = .ok (.iload 4, 2) := decAll_at aX2_prepare_0 16 rfl
theorem dX2_prepare_32 : decode cX2_prepare 32 = .ok (.bipush 60, 2) := decAll_at aX2_prepare_0 17 rfl
theorem dX2_prepare_34 : decode cX2_prepare 34 = .ok (.iastore, 1) := decAll_at aX2_prepare_0 18 rfl
theorem dX2_prepare_35 : decode cX2_prepare 35 = .ok (.iconst 0, 1) := decAll_at aX2_prepare_0 19 rfl
theorem dX2_prepare_36 : decode cX2_prepare 36 = .ok (.istore 5, 2) := decAll_at aX2_prepare_0 20 rfl
theorem dX2_prepare_38 : decode cX2_prepare 38 = .ok (.iload 5, 2) := decAll_at aX2_prepare_0 21 rfl
theorem dX2_prepare_40 : decode cX2_prepare 40 = .ok (.aload_n 0, 1) := decAll_at aX2_prepare_0 22 rfl
theorem dX2_prepare_41 : decode cX2_prepare 41 = .ok (.getfield 18, 3) := decAll_at aX2_prepare_0 23 rfl
theorem dX2_prepare_44 : decode cX2_prepare 44 = .ok (.getfield 32, 3) := decAll_at aX2_prepare_0 24 rfl
theorem dX2_prepare_47 : decode cX2_prepare 47 = .ok (.if_icmp .ge 85, 3) := decAll_at aX2_prepare_0 25 rfl
theorem dX2_prepare_50 : decode cX2_prepare 50 = .ok (.iload_n 1, 1) := decAll_at aX2_prepare_0 26 rfl
theorem dX2_prepare_51 : decode cX2_prepare 51 = .ok (.iload 5, 2) := decAll_at aX2_prepare_0 27 rfl
theorem dX2_prepare_53 : decode cX2_prepare 53 = .ok (.ishr, 1) := decAll_at aX2_prepare_0 28 rfl
theorem dX2_prepare_54 : decode cX2_prepare 54 = .ok (.iconst 1, 1) := decAll_at aX2_prepare_0 29 rfl
theorem dX2_prepare_55 : decode cX2_prepare 55 = .ok (.iand, 1) := decAll_at aX2_prepare_0 30 rfl
theorem dX2_prepare_56 : decode cX2_prepare 56 = .ok (.ifCond .eq 33, 3) := decAll_at aX2_prepare_0 31 rfl
theorem dX2_prepare_59 : decode cX2_prepare 59 = .ok (.aload_n 0, 1) := decAll_at aX2_prepare_0 32 rfl
theorem dX2_prepare_60 : decode cX2_prepare 60 = .ok (.getfield 9, 3) := decAll_at aX2_prepare_0 33 rfl
theorem dX2_prepare_63 : decode cX2_prepare 63 = .ok (.iload 4, 2) := decAll_at aX2_prepare_0 34 rfl
theorem dX2_prepare_65 : decode cX2_prepare 65 = .ok (.aload_n 0, 1) := decAll_at aX2_prepare_0 35 rfl
theorem dX2_prepare_66 : decode cX2_prepare 66 = .ok (.getfield 9, 3) := decAll_at aX2_prepare_0 36 rfl
theorem dX2_prepare_69 : decode cX2_prepare 69 = .ok (.iload 4, 2) := decAll_at aX2_prepare_0 37 rfl
theorem dX2_prepare_71 : decode cX2_prepare 71 = .ok (.iaload, 1) := decAll_at aX2_prepare_0 38 rfl
theorem dX2_prepare_72 : decode cX2_prepare 72 = .ok (.aload_n 0, 1) := decAll_at aX2_prepare_0 39 rfl
theorem dX2_prepare_73 : decode cX2_prepare 73 = .ok (.getfield 22, 3) := decAll_at aX2_prepare_0 40 rfl
theorem dX2_prepare_76 : decode cX2_prepare 76 = .ok (.iload 5, 2) := decAll_at aX2_prepare_0 41 rfl
theorem dX2_prepare_78 : decode cX2_prepare 78 = .ok (.iconst 0, 1) := decAll_at aX2_prepare_0 42 rfl
theorem dX2_prepare_79 : decode cX2_prepare 79 = .ok (.iconst 0, 1) := decAll_at aX2_prepare_0 43 rfl
theorem dX2_prepare_80 : decode cX2_prepare 80 = .ok (.iload 4, 2) := decAll_at aX2_prepare_0 44 rfl
theorem dX2_prepare_82 : decode cX2_prepare 82 = .ok (.invokevirtual 35, 3) := decAll_at aX2_prepare_0 45 rfl
theorem dX2_prepare_85 : decode cX2_prepare 85 = .ok (.invokestatic 41, 3) := decAll_at aX2_prepare_0 46 rfl
theorem dX2_prepare_88 : decode cX2_prepare 88 = .ok (.iastore, 1) := decAll_at aX2_prepare_0 47 rfl
theorem dX2_prepare_89 : decode cX2_prepare 89 = .ok (.iload_n 2, 1) := decAll_at aX2_prepare_0 48 rfl
theorem dX2_prepare_90 : decode cX2_prepare 90 = .ok (.iload 5, 2) := decAll_at aX2_prepare_0 49 rfl
theorem dX2_prepare_92 : decode cX2_prepare 92 = .ok (.ishr, 1) := decAll_at aX2_prepare_0 50 rfl
theorem dX2_prepare_93 : decode cX2_prepare 93 = .ok (.iconst 1, 1) := decAll_at aX2_prepare_0 51 rfl
theorem dX2_prepare_94 : decode cX2_prepare 94 = .ok (.iand, 1) := decAll_at aX2_prepare_0 52 rfl
theorem dX2_prepare_95 : decode cX2_prepare 95 = .ok (.ifCond .eq 31, 3) := decAll_at aX2_prepare_0 53 rfl
theorem dX2_prepare_98 : decode cX2_prepare 98 = .ok (.aload_n 0, 1) := decAll_at aX2_prepare_0 54 rfl
theorem dX2_prepare_99 : decode cX2_prepare 99 = .ok (.getfield 15, 3) := decAll_at aX2_prepare_0 55 rfl
theorem dX2_prepare_102 : decode cX2_prepare 102 = .ok (.iload 4, 2) := decAll_at aX2_prepare_0 56 rfl
theorem dX2_prepare_104 : decode cX2_prepare 104 = .ok (.aload_n 0, 1) := decAll_at aX2_prepare_0 57 rfl
theorem dX2_prepare_105 : decode cX2_prepare 105 = .ok (.getfield 15, 3) := decAll_at aX2_prepare_0 58 rfl
theorem dX2_prepare_108 : decode cX2_prepare 108 = .ok (.iload 4, 2) := decAll_at aX2_prepare_0 59 rfl
theorem dX2_prepare_110 : decode cX2_prepare 110 = .ok (.iaload, 1) := decAll_at aX2_prepare_0 60 rfl
theorem dX2_prepare_111 : decode cX2_prepare 111 = .ok (.aload_n 0, 1) := decAll_at aX2_prepare_0 61 rfl
theorem dX2_prepare_112 : decode cX2_prepare 112 = .ok (.getfield 22, 3) := decAll_at aX2_prepare_0 62 rfl
theorem dX2_prepare_115 : decode cX2_prepare 115 = .ok (.iload 5, 2) := decAll_at aX2_prepare_0 63 rfl
def laX2_prepare_1 : List (Nat × Instr × Nat) := [(117, .iload 4, 2), (119, .invokevirtual 47, 3), (122, .invokestatic 41, 3), (125, .iastore, 1), (126, .iinc 5 1, 3), (129, .goto (-91), 3), (132, .iload_n 3, 1), (133, .ifCond .eq 27, 3), (136, .aload_n 0, 1), (137, .getfield 9, 3), (140, .iload 4, 2), (142, .iaload, 1), (143, .ifCond .le 17, 3), (146, .aload_n 0, 1), (147, .getfield 15, 3), (150, .iload 4, 2), (152, .iaload, 1), (153, .ifCond .le 7, 3), (156, .iconst 1, 1), (157, .goto 4, 3), (160, .iconst 0, 1), (161, .istore_n 3, 1), (162, .iinc 4 1, 3), (165, .goto (-160), 3), (168, .iload_n 3, 1), (169, .ireturn, 1)]
theorem aX2_prepare_1 : decAll cX2_prepare laX2_prepare_1 = true := by decide +kernel
theorem dX2_prepare_117 : decode cX2_prepare 117 = .ok (.iload 4, 2) := decAll_at aX2_prepare_1 0 rfl
theorem dX2_prepare_119 : decode cX2_prepare 119 = .ok (.invokevirtual 47, 3) := decAll_at aX2_prepare_1 1 rfl
theorem dX2_prepare_122 : decode cX2_prepare 122 = .ok (.invokestatic 41, 3) := decAll_at aX2_prepare_1 2 rfl
theorem dX2_prepare_125 : decode cX2_prepare 125 = .ok (.iastore, 1) := decAll_at aX2_prepare_1 3 rfl
theorem dX2_prepare_126 : decode cX2_prepare 126 = .ok (.iinc 5 1, 3) := decAll_at aX2_prepare_1 4 rfl
theorem dX2_prepare_129 : decode cX2_prepare 129 = .ok (.goto (-91), 3) := decAll_at aX2_prepare_1 5 rfl
theorem dX2_prepare_132 : decode cX2_prepare 132 = .ok (.iload_n 3, 1) := decAll_at aX2_prepare_1 6 rfl
theorem dX2_prepare_133 : decode cX2_prepare 133 = .ok (.ifCond .eq 27, 3) := decAll_at aX2_prepare_1 7 rfl
theorem dX2_prepare_136 : decode cX2_prepare 136 = .ok (.aload_n 0, 1) := decAll_at aX2_prepare_1 8 rfl
theorem dX2_prepare_137 : decode cX2_prepare 137 = .ok (.getfield 9, 3) := decAll_at aX2_prepare_1 9 rfl
theorem dX2_prepare_140 : decode cX2_prepare 140 = .ok (.iload 4, 2) := decAll_at aX2_prepare_1 10 rfl
theorem dX2_prepare_142 : decode cX2_prepare 142 = .ok (.iaload, 1) := decAll_at aX2_prepare_1 11 rfl
theorem dX2_prepare_143 : decode cX2_prepare 143 = .ok (.ifCond .le 17, 3) := decAll_at aX2_prepare_1 12 rfl
theorem dX2_prepare_146 : decode cX2_prepare 146 = .ok (.aload_n 0, 1) := decAll_at aX2_prepare_1 13 rfl
theorem dX2_prepare_147 : decode cX2_prepare 147 = .ok (.getfield 15, 3) := decAll_at aX2_prepare_1 14 rfl
theorem dX2_prepare_150 : decode cX2_prepare 150 = .ok (.iload 4, 2) := decAll_at aX2_prepare_1 15 rfl
theorem dX2_prepare_152 : decode cX2_prepare 152 = .ok (.iaload, 1) := decAll_at aX2_prepare_1 16 rfl
theorem dX2_prepare_153 : decode cX2_prepare 153 = .ok (.ifCond .le 7, 3) := decAll_at aX2_prepare_1 17 rfl
theorem dX2_prepare_156 : decode cX2_prepare 156 = .ok (.iconst 1, 1) := decAll_at aX2_prepare_1 18 rfl
theorem dX2_prepare_157 : decode cX2_prepare 157 = .ok (.goto 4, 3) := decAll_at aX2_prepare_1 19 rfl
theorem dX2_prepare_160 : decode cX2_prepare 160 = .ok (.iconst 0, 1) := decAll_at aX2_prepare_1 20 rfl
theorem dX2_prepare_161 : decode cX2_prepare 161 = .ok (.istore_n 3, 1) := decAll_at aX2_prepare_1 21 rfl
theorem dX2_prepare_162 : decode cX2_prepare 162 = .ok (.iinc 4 1, 3) := decAll_at aX2_prepare_1 22 rfl
theorem dX2_prepare_165 : decode cX2_prepare 165 = .ok (.goto (-160), 3) := decAll_at aX2_prepare_1 23 rfl
theorem dX2_prepare_168 : decode cX2_prepare 168 = .ok (.iload_n 3, 1) := decAll_at aX2_prepare_1 24 rfl
theorem dX2_prepare_169 : decode cX2_prepare 169 = .ok (.ireturn, 1) := decAll_at aX2_prepare_1 25 rfl
def laX2_minute_0 : List (Nat × Instr × Nat) := [(0, .iconst 0, 1), (1, .istore_n 1, 1), (2, .iconst 0, 1), (3, .istore_n 2, 1), (4, .iconst 0, 1), (5, .istore_n 3, 1), (6, .iconst 0, 1), (7, .istore 4, 2), (9, .iload 4, 2), (11, .aload_n 0, 1), (12, .getfield 18, 3), (15, .getfield 26, 3), (18, .if_icmp .ge 44, 3), (21, .iload_n 2, 1), (22, .aload_n 0, 1), (23, .getfield 18, 3), (26, .iload 4, 2), (28, .aload_n 0, 1), (29, .getfield 9, 3), (32, .iload 4, 2), (34, .iaload, 1), (35, .invokevirtual 50, 3), (38, .iadd, 1), (39, .istore_n 2, 1), (40, .iload_n 3, 1), (41, .bipush 10, 2), (43, .aload_n 0, 1), (44, .getfield 18, 3), (47, .getfield 53, 3), (50, .iload 4, 2), (52, .iaload, 1), (53, .imul, 1), (54, .iadd, 1), (55, .istore_n 3, 1), (56, .iinc 4 1, 3), (59, .goto (-50), 3), (62, .iconst 0, 1), (63, .istore 4, 2), (65, .iload 4, 2), (67, .bipush 64, 2), (69, .if_icmp .ge 49, 3), (72, .iload_n 1, 1), (73, .iload_n 2, 1), (74, .if_icmp .ge 44, 3), (77, .iload_n 1, 1), (78, .iload_n 2, 1), (79, .iadd, 1), (80, .iconst 2, 1), (81, .idiv, 1), (82, .istore 5, 2), (84, .aload_n 0, 1), (85, .iload 5, 2), (87, .invokevirtual 56, 3), (90, .aload_n 0, 1), (91, .iload 5, 2), (93, .invokevirtual 60, 3), (96, .iadd, 1), (97, .iload_n 3, 1), (98, .if_icmp .lt 9, 3), (101, .iload 5, 2), (103, .istore_n 2, 1), (104, .goto 8, 3), (107, .iload 5, 2), (109, .iconst 1, 1)]
theorem aX2_minute_0 : decAll cX2_minute laX2_minute_0 = true := by decide +kernel
theorem dX2_minute_0 : decode cX2_minute 0 = .ok (.iconst 0, 1) := decAll_at aX2_minute_0 0 rfl
theorem dX2_minute_1 : decode cX2_minute 1 = .ok (.istore_n 1, 1) := decAll_at aX2_minute_0 1 rfl
theorem dX2_minute_2 : decode cX2_minute 2 = .ok (.iconst 0, 1) := decAll_at aX2_minute_0 2 rfl
theorem dX2_minute_3 : decode cX2_minute 3 = .ok (.istore_n 2, 1) := decAll_at aX2_minute_0 3 rfl
theorem dX2_minute_4 : decode cX2_minute 4 = .ok (.iconst 0, 1) := decAll_at aX2_minute_0 4 rfl
theorem dX2_minute_5 : decode cX2_minute 5 = .ok (.istore_n 3, 1) := decAll_at aX2_minute_0 5 rfl
theorem dX2_minute_6 : decode cX2_minute 6 = .ok (.iconst 0, 1) := decAll_at aX2_minute_0 6 rfl
theorem dX2_minute_7 : decode cX2_minute 7 = .ok (.istore 4, 2) := decAll_at aX2_minute_0 7 rfl
theorem dX2_minute_9 : decode cX2_minute 9 = .ok (.iload 4, 2) := decAll_at aX2_minute_0 8 rfl
theorem dX2_minute_11 : decode cX2_minute 11 = .ok (.aload_n 0, 1) := decAll_at aX2_minute_0 9 rfl
theorem dX2_minute_12 : decode cX2_minute 12 = .ok (.getfield 18, 3) := decAll_at aX2_minute_0 10 rfl
theorem dX2_minute_15 : decode cX2_minute 15 = .ok (.getfield 26, 3) := decAll_at aX2_minute_0 11 rfl
theorem dX2_minute_18 : decode cX2_minute 18 = .ok (.if_icmp .ge 44, 3) := decAll_at aX2_minute_0 12 rfl
theorem dX2_minute_21 : decode cX2_minute 21 = .ok (.iload_n 2, 1) := decAll_at aX2_minute_0 13 rfl
theorem dX2_minute_22 : decode cX2_minute 22 = .ok (.aload_n 0, 1) := decAll_at aX2_minute_0 14 rfl
theorem dX2_minute_23 : decode cX2_minute 23 = .ok (.getfield 18, 3) := decAll_at aX2_minute_0 15 rfl
theorem dX2_minute_26 : decode cX2_minute 26 = .ok (.iload 4, 2) := decAll_at aX2_minute_0 16 rfl
theorem dX2_minute_28 : decode cX2_minute 28 = .ok (.aload_n 0, 1) := decAll_at aX2_minute_0 17 rfl
theorem dX2_minute_29 : decode cX2_minute 29 = .ok (.getfield 9, 3) := decAll_at aX2_minute_0 18 rfl
theorem dX2_minute_32 : decode cX2_minute 32 = .ok (.iload 4, 2) := decAll_at aX2_minute_0 19 rfl
theorem dX2_minute_34 : decode cX2_minute 34 = .ok (.iaload, 1) := decAll_at aX2_minute_0 20 rfl
theorem dX2_minute_35 : decode cX2_minute 35 = .ok (.invokevirtual 50, 3) := decAll_at aX2_minute_0 21 rfl
theorem dX2_minute_38 : decode cX2_minute 38 = .ok (.iadd, 1) := decAll_at aX2_minute_0 22 rfl
theorem dX2_minute_39 : decode cX2_minute 39 = .ok (.istore_n 2, 1) := decAll_at aX2_minute_0 23 rfl
theorem dX2_minute_40 : decode cX2_minute 40 = .ok (.iload_n 3, 1) := decAll_at aX2_minute_0 24 rfl
theorem dX2_minute_41 : decode cX2_minute 41 = .ok (.bipush 10, 2) := decAll_at aX2_minute_0 25 rfl
theorem dX2_minute_43 : decode cX2_minute 43 = .ok (.aload_n 0, 1) := decAll_at aX2_minute_0 26 rfl
theorem dX2_minute_44 : decode cX2_minute 44 = .ok (.getfield 18, 3) := decAll_at aX2_minute_0 27 rfl
theorem dX2_minute_47 : decode cX2_minute 47 = .ok (.getfield 53, 3) := decAll_at aX2_minute_0 28 rfl
theorem dX2_minute_50 : decode cX2_minute 50 = .ok (.iload 4, 2) := decAll_at aX2_minute_0 29 rfl
theorem dX2_minute_52 : decode cX2_minute 52 = .ok (.iaload, 1) := decAll_at aX2_minute_0 30 rfl
theorem dX2_minute_53 : decode cX2_minute 53 = .ok (.imul, 1) := decAll_at aX2_minute_0 31 rfl
theorem dX2_minute_54 : decode cX2_minute 54 = .ok (.iadd, 1) := decAll_at aX2_minute_0 32 rfl
theorem dX2_minute_55 : decode cX2_minute 55 = .ok (.istore_n 3, 1) := decAll_at aX2_minute_0 33 rfl
theorem dX2_minute_56 : decode cX2_minute 56 = .ok (.iinc 4 1, 3) := decAll_at aX2_minute_0 34 rfl
theorem dX2_minute_59 : decode cX2_minute 59 = .ok (.goto (-50), 3) := decAll_at aX2_minute_0 35 rfl
theorem dX2_minute_62 : decode cX2_minute 62 = .ok (.iconst 0, 1) := decAll_at aX2_minute_0 36 rfl
theorem dX2_minute_63 : decode cX2_minute 63 = .ok (.istore 4, 2) := decAll_at aX2_minute_0 37 rfl
theorem dX2_minute_65 : decode cX2_minute 65 = .ok (.iload 4, 2) := decAll_at aX2_minute_0 38 rfl
theorem dX2_minute_67 : decode cX2_minute 67 = .ok (.bipush 64, 2) := decAll_at aX2_minute_0 39 rfl
theorem dX2_minute_69 : decode cX2_minute 69 = .ok (.if_icmp .ge 49, 3) := decAll_at aX2_minute_0 40 rfl
theorem dX2_minute_72 : decode cX2_minute 72 = .ok (.iload_n 1, 1) := decAll_at aX2_minute_0 41 rfl
theorem dX2_minute_73 : decode cX2_minute 73 = .ok (.iload_n 2, 1) := decAll_at aX2_minute_0 42 rfl
theorem dX2_minute_74 : decode cX2_minute 74 = .ok (.if_icmp .ge 44, 3) := decAll_at aX2_minute_0 43 rfl
theorem dX2_minute_77 : decode cX2_minute 77 = .ok (.iload_n 1, 1) := decAll_at aX2_minute_0 44 rfl
theorem dX2_minute_78 : decode cX2_minute 78 = .ok (.iload_n 2, 1) := decAll_at aX2_minute_0 45 rfl
theorem dX2_minute_79 : decode cX2_minute 79 = .ok (.iadd, 1) := decAll_at aX2_minute_0 46 rfl
theorem dX2_minute_80 : decode cX2_minute 80 = .ok (.iconst 2, 1) := decAll_at aX2_minute_0 47 rfl
theorem dX2_minute_81 : decode cX2_minute 81 = .ok (.idiv, 1) := decAll_at aX2_minute_0 48 rfl
theorem dX2_minute_82 : decode cX2_minute 82 = .ok (.istore 5, 2) := decAll_at aX2_minute_0 49 rfl
theorem dX2_minute_84 : decode cX2_minute 84 = .ok (.aload_n 0, 1) := decAll_at aX2_minute_0 50 rfl
theorem dX2_minute_85 : decode cX2_minute 85 = .ok (.iload 5, 2) := decAll_at aX2_minute_0 51 rfl
theorem dX2_minute_87 : decode cX2_minute 87 = .ok (.invokevirtual 56, 3) := decAll_at aX2_minute_0 52 rfl
theorem dX2_minute_90 : decode cX2_minute 90 = .ok (.aload_n 0, 1) := decAll_at aX2_minute_0 53 rfl
theorem dX2_minute_91 : decode cX2_minute 91 = .ok (.iload 5, 2) := decAll_at aX2_minute_0 54 rfl
theorem dX2_minute_93 : decode cX2_minute 93 = .ok (.invokevirtual 60, 3) := decAll_at aX2_minute_0 55 rfl
theorem dX2_minute_96 : decode cX2_minute 96 = .ok (.iadd, 1) := decAll_at aX2_minute_0 56 rfl
theorem dX2_minute_97 : decode cX2_minute 97 = .ok (.iload_n 3, 1) := decAll_at aX2_minute_0 57 rfl
theorem dX2_minute_98 : decode cX2_minute 98 = .ok (.if_icmp .lt 9, 3) := decAll_at aX2_minute_0 58 rfl
theorem dX2_minute_101 : decode cX2_minute 101 = .ok (.iload 5, 2) := decAll_at aX2_minute_0 59 rfl
theorem dX2_minute_103 : decode cX2_minute 103 = .ok (.istore_n 2, 1) := decAll_at aX2_minute_0 60 rfl
theorem dX2_minute_104 : decode cX2_minute 104 = .ok (.goto 8, 3) := decAll_at aX2_minute_0 61 rfl
theorem dX2_minute_107 : decode cX2_minute 107 = .ok (.iload 5, 2) := decAll_at aX2_minute_0 62 rfl
theorem dX2_minute_109 : decode cX2_minute 109 = .ok (.iconst 1, 1) := decAll_at aX2_minute_0 63 rfl
def laX2_minute_1 : List (Nat × Instr × Nat) := [(110, .iadd, 1), (111, .istore_n 1, 1), (112, .iinc 4 1, 3), (115, .goto (-50), 3), (118, .iload_n 1, 1), (119, .ireturn, 1)]
theorem aX2_minute_1 : decAll cX2_minute laX2_minute_1 = true := by decide +kernel
theorem dX2_minute_110 : decode cX2_minute 110 = .ok (.iadd, 1) := decAll_at aX2_minute_1 0 rfl
theorem dX2_minute_111 : decode cX2_minute 111 = .ok (.istore_n 1, 1) := decAll_at aX2_minute_1 1 rfl
theorem dX2_minute_112 : decode cX2_minute 112 = .ok (.iinc 4 1, 3) := decAll_at aX2_minute_1 2 rfl
theorem dX2_minute_115 : decode cX2_minute 115 = .ok (.goto (-50), 3) := decAll_at aX2_minute_1 3 rfl
theorem dX2_minute_118 : decode cX2_minute 118 = .ok (.iload_n 1, 1) := decAll_at aX2_minute_1 4 rfl
theorem dX2_minute_119 : decode cX2_minute 119 = .ok (.ireturn, 1) := decAll_at aX2_minute_1 5 rfl
def laX2_goneByFirst_0 : List (Nat × Instr × Nat) := [(0, .aload_n 0, 1), (1, .aload_n 0, 1), (2, .getfield 9, 3), (5, .iconst 0, 1), (6, .iconst 1, 1), (7, .iload_n 1, 1), (8, .invokevirtual 63, 3), (11, .ireturn, 1)]
theorem aX2_goneByFirst_0 : decAll cX2_goneByFirst laX2_goneByFirst_0 = true := by decide +kernel
theorem dX2_goneByFirst_0 : decode cX2_goneByFirst 0 = .ok (.aload_n 0, 1) := decAll_at aX2_goneByFirst_0 0 rfl
theorem dX2_goneByFirst_1 : decode cX2_goneByFirst 1 = .ok (.aload_n 0, 1) := decAll_at aX2_goneByFirst_0 1 rfl
theorem dX2_goneByFirst_2 : decode cX2_goneByFirst 2 = .ok (.getfield 9, 3) := decAll_at aX2_goneByFirst_0 2 rfl
theorem dX2_goneByFirst_5 : decode cX2_goneByFirst 5 = .ok (.iconst 0, 1) := decAll_at aX2_goneByFirst_0 3 rfl
theorem dX2_goneByFirst_6 : decode cX2_goneByFirst 6 = .ok (.iconst 1, 1) := decAll_at aX2_goneByFirst_0 4 rfl
theorem dX2_goneByFirst_7 : decode cX2_goneByFirst 7 = .ok (.iload_n 1, 1) := decAll_at aX2_goneByFirst_0 5 rfl
theorem dX2_goneByFirst_8 : decode cX2_goneByFirst 8 = .ok (.invokevirtual 63, 3) := decAll_at aX2_goneByFirst_0 6 rfl
theorem dX2_goneByFirst_11 : decode cX2_goneByFirst 11 = .ok (.ireturn, 1) := decAll_at aX2_goneByFirst_0 7 rfl
def laX2_goneBySecond_0 : List (Nat × Instr × Nat) := [(0, .aload_n 0, 1), (1, .aload_n 0, 1), (2, .getfield 15, 3), (5, .aload_n 0, 1), (6, .getfield 18, 3), (9, .getfield 26, 3), (12, .iconst 1, 1), (13, .isub, 1), (14, .iconst (-1), 1), (15, .iload_n 1, 1), (16, .invokevirtual 63, 3), (19, .ireturn, 1)]
theorem aX2_goneBySecond_0 : decAll cX2_goneBySecond laX2_goneBySecond_0 = true := by decide +kernel
theorem dX2_goneBySecond_0 : decode cX2_goneBySecond 0 = .ok (.aload_n 0, 1) := decAll_at aX2_goneBySecond_0 0 rfl
theorem dX2_goneBySecond_1 : decode cX2_goneBySecond 1 = .ok (.aload_n 0, 1) := decAll_at aX2_goneBySecond_0 1 rfl
theorem dX2_goneBySecond_2 : decode cX2_goneBySecond 2 = .ok (.getfield 15, 3) := decAll_at aX2_goneBySecond_0 2 rfl
theorem dX2_goneBySecond_5 : decode cX2_goneBySecond 5 = .ok (.aload_n 0, 1) := decAll_at aX2_goneBySecond_0 3 rfl
theorem dX2_goneBySecond_6 : decode cX2_goneBySecond 6 = .ok (.getfield 18, 3) := decAll_at aX2_goneBySecond_0 4 rfl
theorem dX2_goneBySecond_9 : decode cX2_goneBySecond 9 = .ok (.getfield 26, 3) := decAll_at aX2_goneBySecond_0 5 rfl
theorem dX2_goneBySecond_12 : decode cX2_goneBySecond 12 = .ok (.iconst 1, 1) := decAll_at aX2_goneBySecond_0 6 rfl
theorem dX2_goneBySecond_13 : decode cX2_goneBySecond 13 = .ok (.isub, 1) := decAll_at aX2_goneBySecond_0 7 rfl
theorem dX2_goneBySecond_14 : decode cX2_goneBySecond 14 = .ok (.iconst (-1), 1) := decAll_at aX2_goneBySecond_0 8 rfl
theorem dX2_goneBySecond_15 : decode cX2_goneBySecond 15 = .ok (.iload_n 1, 1) := decAll_at aX2_goneBySecond_0 9 rfl
theorem dX2_goneBySecond_16 : decode cX2_goneBySecond 16 = .ok (.invokevirtual 63, 3) := decAll_at aX2_goneBySecond_0 10 rfl
theorem dX2_goneBySecond_19 : decode cX2_goneBySecond 19 = .ok (.ireturn, 1) := decAll_at aX2_goneBySecond_0 11 rfl
def laX2_gone_0 : List (Nat × Instr × Nat) := [(0, .iload 4, 2), (2, .istore 5, 2), (4, .iconst 0, 1), (5, .istore 6, 2), (7, .iconst 0, 1), (8, .istore 7, 2), (10, .iload 7, 2), (12, .aload_n 0, 1), (13, .getfield 18, 3), (16, .getfield 26, 3), (19, .if_icmp .ge 73, 3), (22, .iload 5, 2), (24, .ifCond .le 68, 3), (27, .iload_n 2, 1), (28, .iload_n 3, 1), (29, .iload 7, 2), (31, .imul, 1), (32, .iadd, 1), (33, .istore 8, 2), (35, .aload_n 1, 1), (36, .iload 8, 2), (38, .iaload, 1), (39, .istore 9, 2), (41, .iload 6, 2), (43, .bipush 10, 2), (45, .aload_n 0, 1), (46, .getfield 18, 3), (49, .getfield 53, 3), (52, .iload 8, 2), (54, .iaload, 1), (55, .imul, 1), (56, .iload 9, 2), (58, .iload 5, 2), (60, .imul, 1), (61, .bipush 60, 2), (63, .idiv, 1), (64, .invokestatic 41, 3), (67, .iadd, 1), (68, .istore 6, 2), (70, .iload 5, 2), (72, .aload_n 0, 1), (73, .getfield 18, 3), (76, .iload 8, 2), (78, .iload 9, 2), (80, .invokevirtual 50, 3), (83, .isub, 1), (84, .istore 5, 2), (86, .iinc 7 1, 3), (89, .goto (-79), 3), (92, .iload 6, 2), (94, .ireturn, 1)]
theorem aX2_gone_0 : decAll cX2_gone laX2_gone_0 = true := by decide +kernel
theorem dX2_gone_0 : decode cX2_gone 0 = .ok (.iload 4, 2) := decAll_at aX2_gone_0 0 rfl
theorem dX2_gone_2 : decode cX2_gone 2 = .ok (.istore 5, 2) := decAll_at aX2_gone_0 1 rfl
theorem dX2_gone_4 : decode cX2_gone 4 = .ok (.iconst 0, 1) := decAll_at aX2_gone_0 2 rfl
theorem dX2_gone_5 : decode cX2_gone 5 = .ok (.istore 6, 2) := decAll_at aX2_gone_0 3 rfl
theorem dX2_gone_7 : decode cX2_gone 7 = .ok (.iconst 0, 1) := decAll_at aX2_gone_0 4 rfl
theorem dX2_gone_8 : decode cX2_gone 8 = .ok (.istore 7, 2) := decAll_at aX2_gone_0 5 rfl
theorem dX2_gone_10 : decode cX2_gone 10 = .ok (.iload 7, 2) := decAll_at aX2_gone_0 6 rfl
theorem dX2_gone_12 : decode cX2_gone 12 = .ok (.aload_n 0, 1) := decAll_at aX2_gone_0 7 rfl
theorem dX2_gone_13 : decode cX2_gone 13 = .ok (.getfield 18, 3) := decAll_at aX2_gone_0 8 rfl
theorem dX2_gone_16 : decode cX2_gone 16 = .ok (.getfield 26, 3) := decAll_at aX2_gone_0 9 rfl
theorem dX2_gone_19 : decode cX2_gone 19 = .ok (.if_icmp .ge 73, 3) := decAll_at aX2_gone_0 10 rfl
theorem dX2_gone_22 : decode cX2_gone 22 = .ok (.iload 5, 2) := decAll_at aX2_gone_0 11 rfl
theorem dX2_gone_24 : decode cX2_gone 24 = .ok (.ifCond .le 68, 3) := decAll_at aX2_gone_0 12 rfl
theorem dX2_gone_27 : decode cX2_gone 27 = .ok (.iload_n 2, 1) := decAll_at aX2_gone_0 13 rfl
theorem dX2_gone_28 : decode cX2_gone 28 = .ok (.iload_n 3, 1) := decAll_at aX2_gone_0 14 rfl
theorem dX2_gone_29 : decode cX2_gone 29 = .ok (.iload 7, 2) := decAll_at aX2_gone_0 15 rfl
theorem dX2_gone_31 : decode cX2_gone 31 = .ok (.imul, 1) := decAll_at aX2_gone_0 16 rfl
theorem dX2_gone_32 : decode cX2_gone 32 = .ok (.iadd, 1) := decAll_at aX2_gone_0 17 rfl
theorem dX2_gone_33 : decode cX2_gone 33 = .ok (.istore 8, 2) := decAll_at aX2_gone_0 18 rfl
theorem dX2_gone_35 : decode cX2_gone 35 = .ok (.aload_n 1, 1) := decAll_at aX2_gone_0 19 rfl
theorem dX2_gone_36 : decode cX2_gone 36 = .ok (.iload 8, 2) := decAll_at aX2_gone_0 20 rfl
theorem dX2_gone_38 : decode cX2_gone 38 = .ok (.iaload, 1) := decAll_at aX2_gone_0 21 rfl
theorem dX2_gone_39 : decode cX2_gone 39 = .ok (.istore 9, 2) := decAll_at aX2_gone_0 22 rfl
theorem dX2_gone_41 : decode cX2_gone 41 = .ok (.iload 6, 2) := decAll_at aX2_gone_0 23 rfl
theorem dX2_gone_43 : decode cX2_gone 43 = .ok (.bipush 10, 2) := decAll_at aX2_gone_0 24 rfl
theorem dX2_gone_45 : decode cX2_gone 45 = .ok (.aload_n 0, 1) := decAll_at aX2_gone_0 25 rfl
theorem dX2_gone_46 : decode cX2_gone 46 = .ok (.getfield 18, 3) := decAll_at aX2_gone_0 26 rfl
theorem dX2_gone_49 : decode cX2_gone 49 = .ok (.getfield 53, 3) := decAll_at aX2_gone_0 27 rfl
theorem dX2_gone_52 : decode cX2_gone 52 = .ok (.iload 8, 2) := decAll_at aX2_gone_0 28 rfl
theorem dX2_gone_54 : decode cX2_gone 54 = .ok (.iaload, 1) := decAll_at aX2_gone_0 29 rfl
theorem dX2_gone_55 : decode cX2_gone 55 = .ok (.imul, 1) := decAll_at aX2_gone_0 30 rfl
theorem dX2_gone_56 : decode cX2_gone 56 = .ok (.iload 9, 2) := decAll_at aX2_gone_0 31 rfl
theorem dX2_gone_58 : decode cX2_gone 58 = .ok (.iload 5, 2) := decAll_at aX2_gone_0 32 rfl
theorem dX2_gone_60 : decode cX2_gone 60 = .ok (.imul, 1) := decAll_at aX2_gone_0 33 rfl
theorem dX2_gone_61 : decode cX2_gone 61 = .ok (.bipush 60, 2) := decAll_at aX2_gone_0 34 rfl
theorem dX2_gone_63 : decode cX2_gone 63 = .ok (.idiv, 1) := decAll_at aX2_gone_0 35 rfl
theorem dX2_gone_64 : decode cX2_gone 64 = .ok (.invokestatic 41, 3) := decAll_at aX2_gone_0 36 rfl
theorem dX2_gone_67 : decode cX2_gone 67 = .ok (.iadd, 1) := decAll_at aX2_gone_0 37 rfl
theorem dX2_gone_68 : decode cX2_gone 68 = .ok (.istore 6, 2) := decAll_at aX2_gone_0 38 rfl
theorem dX2_gone_70 : decode cX2_gone 70 = .ok (.iload 5, 2) := decAll_at aX2_gone_0 39 rfl
theorem dX2_gone_72 : decode cX2_gone 72 = .ok (.aload_n 0, 1) := decAll_at aX2_gone_0 40 rfl
theorem dX2_gone_73 : decode cX2_gone 73 = .ok (.getfield 18, 3) := decAll_at aX2_gone_0 41 rfl
theorem dX2_gone_76 : decode cX2_gone 76 = .ok (.iload 8, 2) := decAll_at aX2_gone_0 42 rfl
theorem dX2_gone_78 : decode cX2_gone 78 = .ok (.iload 9, 2) := decAll_at aX2_gone_0 43 rfl
theorem dX2_gone_80 : decode cX2_gone 80 = .ok (.invokevirtual 50, 3) := decAll_at aX2_gone_0 44 rfl
theorem dX2_gone_83 : decode cX2_gone 83 = .ok (.isub, 1) := decAll_at aX2_gone_0 45 rfl
theorem dX2_gone_84 : decode cX2_gone 84 = .ok (.istore 5, 2) := decAll_at aX2_gone_0 46 rfl
theorem dX2_gone_86 : decode cX2_gone 86 = .ok (.iinc 7 1, 3) := decAll_at aX2_gone_0 47 rfl
theorem dX2_gone_89 : decode cX2_gone 89 = .ok (.goto (-79), 3) := decAll_at aX2_gone_0 48 rfl
theorem dX2_gone_92 : decode cX2_gone 92 = .ok (.iload 6, 2) := decAll_at aX2_gone_0 49 rfl
theorem dX2_gone_94 : decode cX2_gone 94 = .ok (.ireturn, 1) := decAll_at aX2_gone_0 50 rfl
def laX3_init_0 : List (Nat × Instr × Nat) := [(0, .aload_n 0, 1), (1, .invokespecial 3, 3), (4, .aload_n 0, 1), (5, .iconst 1, 1), (6, .putfield 9, 3), (9, .aload_n 0, 1), (10, .sipush 21960, 3), (13, .newarray .int, 2), (15, .putfield 15, 3), (18, .aload_n 0, 1), (19, .sipush 360, 3), (22, .newarray .int, 2), (24, .putfield 19, 3), (27, .aload_n 0, 1), (28, .bipush 6, 2), (30, .newarray .int, 2), (32, .putfield 22, 3), (35, .aload_n 0, 1), (36, .aload_n 1, 1), (37, .putfield 25, 3), (40, .aload_n 0, 1), (41, .aload_n 2, 1), (42, .putfield 29, 3), (45, .return_, 1)]
theorem aX3_init_0 : decAll cX3_init laX3_init_0 = true := by decide +kernel
theorem dX3_init_0 : decode cX3_init 0 = .ok (.aload_n 0, 1) := decAll_at aX3_init_0 0 rfl
theorem dX3_init_1 : decode cX3_init 1 = .ok (.invokespecial 3, 3) := decAll_at aX3_init_0 1 rfl
theorem dX3_init_4 : decode cX3_init 4 = .ok (.aload_n 0, 1) := decAll_at aX3_init_0 2 rfl
theorem dX3_init_5 : decode cX3_init 5 = .ok (.iconst 1, 1) := decAll_at aX3_init_0 3 rfl
theorem dX3_init_6 : decode cX3_init 6 = .ok (.putfield 9, 3) := decAll_at aX3_init_0 4 rfl
theorem dX3_init_9 : decode cX3_init 9 = .ok (.aload_n 0, 1) := decAll_at aX3_init_0 5 rfl
theorem dX3_init_10 : decode cX3_init 10 = .ok (.sipush 21960, 3) := decAll_at aX3_init_0 6 rfl
theorem dX3_init_13 : decode cX3_init 13 = .ok (.newarray .int, 2) := decAll_at aX3_init_0 7 rfl
theorem dX3_init_15 : decode cX3_init 15 = .ok (.putfield 15, 3) := decAll_at aX3_init_0 8 rfl
theorem dX3_init_18 : decode cX3_init 18 = .ok (.aload_n 0, 1) := decAll_at aX3_init_0 9 rfl
theorem dX3_init_19 : decode cX3_init 19 = .ok (.sipush 360, 3) := decAll_at aX3_init_0 10 rfl
theorem dX3_init_22 : decode cX3_init 22 = .ok (.newarray .int, 2) := decAll_at aX3_init_0 11 rfl
theorem dX3_init_24 : decode cX3_init 24 = .ok (.putfield 19, 3) := decAll_at aX3_init_0 12 rfl
theorem dX3_init_27 : decode cX3_init 27 = .ok (.aload_n 0, 1) := decAll_at aX3_init_0 13 rfl
theorem dX3_init_28 : decode cX3_init 28 = .ok (.bipush 6, 2) := decAll_at aX3_init_0 14 rfl
theorem dX3_init_30 : decode cX3_init 30 = .ok (.newarray .int, 2) := decAll_at aX3_init_0 15 rfl
theorem dX3_init_32 : decode cX3_init 32 = .ok (.putfield 22, 3) := decAll_at aX3_init_0 16 rfl
theorem dX3_init_35 : decode cX3_init 35 = .ok (.aload_n 0, 1) := decAll_at aX3_init_0 17 rfl
theorem dX3_init_36 : decode cX3_init 36 = .ok (.aload_n 1, 1) := decAll_at aX3_init_0 18 rfl
theorem dX3_init_37 : decode cX3_init 37 = .ok (.putfield 25, 3) := decAll_at aX3_init_0 19 rfl
theorem dX3_init_40 : decode cX3_init 40 = .ok (.aload_n 0, 1) := decAll_at aX3_init_0 20 rfl
theorem dX3_init_41 : decode cX3_init 41 = .ok (.aload_n 2, 1) := decAll_at aX3_init_0 21 rfl
theorem dX3_init_42 : decode cX3_init 42 = .ok (.putfield 29, 3) := decAll_at aX3_init_0 22 rfl
theorem dX3_init_45 : decode cX3_init 45 = .ok (.return_, 1) := decAll_at aX3_init_0 23 rfl
def laX3_describe_0 : List (Nat × Instr × Nat) := [(0, .aload_n 0, 1), (1, .getfield 29, 3), (4, .getfield 33, 3), (7, .astore 5, 2), (9, .aload 5, 2), (11, .iconst 0, 1), (12, .iload_n 1, 1), (13, .iastore, 1), (14, .aload 5, 2), (16, .iconst 1, 1), (17, .aload_n 0, 1), (18, .getfield 25, 3), (21, .getfield 38, 3), (24, .iload_n 1, 1), (25, .iaload, 1), (26, .iastore, 1), (27, .aload 5, 2), (29, .iconst 2, 1), (30, .aload_n 0, 1), (31, .getfield 25, 3), (34, .getfield 43, 3), (37, .iload_n 1, 1), (38, .iaload, 1), (39, .iastore, 1), (40, .aload 5, 2), (42, .iconst 3, 1), (43, .iload_n 2, 1), (44, .iastore, 1), (45, .aload 5, 2), (47, .iconst 4, 1), (48, .iload_n 3, 1), (49, .iastore, 1), (50, .aload 5, 2), (52, .iconst 5, 1), (53, .aload_n 0, 1), (54, .getfield 25, 3), (57, .getfield 46, 3), (60, .iload 4, 2), (62, .iaload, 1), (63, .iastore, 1), (64, .aload 5, 2), (66, .bipush 6, 2), (68, .aload_n 0, 1), (69, .getfield 25, 3), (72, .getfield 49, 3), (75, .iload 4, 2), (77, .iaload, 1), (78, .iastore, 1), (79, .aload 5, 2), (81, .bipush 7, 2), (83, .iload 4, 2), (85, .iastore, 1), (86, .aload 5, 2), (88, .bipush 8, 2), (90, .aload_n 0, 1), (91, .getfield 25, 3), (94, .getfield 52, 3), (97, .iastore, 1), (98, .aload 5, 2), (100, .bipush 9, 2), (102, .iconst 0, 1), (103, .iastore, 1), (104, .return_, 1)]
theorem aX3_describe_0 : decAll cX3_describe laX3_describe_0 = true := by decide +kernel
theorem dX3_describe_0 : decode cX3_describe 0 = .ok (.aload_n 0, 1) := decAll_at aX3_describe_0 0 rfl
theorem dX3_describe_1 : decode cX3_describe 1 = .ok (.getfield 29, 3) := decAll_at aX3_describe_0 1 rfl
theorem dX3_describe_4 : decode cX3_describe 4 = .ok (.getfield 33, 3) := decAll_at aX3_describe_0 2 rfl
theorem dX3_describe_7 : decode cX3_describe 7 = .ok (.astore 5, 2) := decAll_at aX3_describe_0 3 rfl
theorem dX3_describe_9 : decode cX3_describe 9 = .ok (.aload 5, 2) := decAll_at aX3_describe_0 4 rfl
theorem dX3_describe_11 : decode cX3_describe 11 = .ok (.iconst 0, 1) := decAll_at aX3_describe_0 5 rfl
theorem dX3_describe_12 : decode cX3_describe 12 = .ok (.iload_n 1, 1) := decAll_at aX3_describe_0 6 rfl
theorem dX3_describe_13 : decode cX3_describe 13 = .ok (.iastore, 1) := decAll_at aX3_describe_0 7 rfl
theorem dX3_describe_14 : decode cX3_describe 14 = .ok (.aload 5, 2) := decAll_at aX3_describe_0 8 rfl
theorem dX3_describe_16 : decode cX3_describe 16 = .ok (.iconst 1, 1) := decAll_at aX3_describe_0 9 rfl
theorem dX3_describe_17 : decode cX3_describe 17 = .ok (.aload_n 0, 1) := decAll_at aX3_describe_0 10 rfl
theorem dX3_describe_18 : decode cX3_describe 18 = .ok (.getfield 25, 3) := decAll_at aX3_describe_0 11 rfl
theorem dX3_describe_21 : decode cX3_describe 21 = .ok (.getfield 38, 3) := decAll_at aX3_describe_0 12 rfl
theorem dX3_describe_24 : decode cX3_describe 24 = .ok (.iload_n 1, 1) := decAll_at aX3_describe_0 13 rfl
theorem dX3_describe_25 : decode cX3_describe 25 = .ok (.iaload, 1) := decAll_at aX3_describe_0 14 rfl
theorem dX3_describe_26 : decode cX3_describe 26 = .ok (.iastore, 1) := decAll_at aX3_describe_0 15 rfl
theorem dX3_describe_27 : decode cX3_describe 27 = .ok (.aload 5, 2) := decAll_at aX3_describe_0 16 rfl
theorem dX3_describe_29 : decode cX3_describe 29 = .ok (.iconst 2, 1) := decAll_at aX3_describe_0 17 rfl
theorem dX3_describe_30 : decode cX3_describe 30 = .ok (.aload_n 0, 1) := decAll_at aX3_describe_0 18 rfl
theorem dX3_describe_31 : decode cX3_describe 31 = .ok (.getfield 25, 3) := decAll_at aX3_describe_0 19 rfl
theorem dX3_describe_34 : decode cX3_describe 34 = .ok (.getfield 43, 3) := decAll_at aX3_describe_0 20 rfl
theorem dX3_describe_37 : decode cX3_describe 37 = .ok (.iload_n 1, 1) := decAll_at aX3_describe_0 21 rfl
theorem dX3_describe_38 : decode cX3_describe 38 = .ok (.iaload, 1) := decAll_at aX3_describe_0 22 rfl
theorem dX3_describe_39 : decode cX3_describe 39 = .ok (.iastore, 1) := decAll_at aX3_describe_0 23 rfl
theorem dX3_describe_40 : decode cX3_describe 40 = .ok (.aload 5, 2) := decAll_at aX3_describe_0 24 rfl
theorem dX3_describe_42 : decode cX3_describe 42 = .ok (.iconst 3, 1) := decAll_at aX3_describe_0 25 rfl
theorem dX3_describe_43 : decode cX3_describe 43 = .ok (.iload_n 2, 1) := decAll_at aX3_describe_0 26 rfl
theorem dX3_describe_44 : decode cX3_describe 44 = .ok (.iastore, 1) := decAll_at aX3_describe_0 27 rfl
theorem dX3_describe_45 : decode cX3_describe 45 = .ok (.aload 5, 2) := decAll_at aX3_describe_0 28 rfl
theorem dX3_describe_47 : decode cX3_describe 47 = .ok (.iconst 4, 1) := decAll_at aX3_describe_0 29 rfl
theorem dX3_describe_48 : decode cX3_describe 48 = .ok (.iload_n 3, 1) := decAll_at aX3_describe_0 30 rfl
theorem dX3_describe_49 : decode cX3_describe 49 = .ok (.iastore, 1) := decAll_at aX3_describe_0 31 rfl
theorem dX3_describe_50 : decode cX3_describe 50 = .ok (.aload 5, 2) := decAll_at aX3_describe_0 32 rfl
theorem dX3_describe_52 : decode cX3_describe 52 = .ok (.iconst 5, 1) := decAll_at aX3_describe_0 33 rfl
theorem dX3_describe_53 : decode cX3_describe 53 = .ok (.aload_n 0, 1) := decAll_at aX3_describe_0 34 rfl
theorem dX3_describe_54 : decode cX3_describe 54 = .ok (.getfield 25, 3) := decAll_at aX3_describe_0 35 rfl
theorem dX3_describe_57 : decode cX3_describe 57 = .ok (.getfield 46, 3) := decAll_at aX3_describe_0 36 rfl
theorem dX3_describe_60 : decode cX3_describe 60 = .ok (.iload 4, 2) := decAll_at aX3_describe_0 37 rfl
theorem dX3_describe_62 : decode cX3_describe 62 = .ok (.iaload, 1) := decAll_at aX3_describe_0 38 rfl
theorem dX3_describe_63 : decode cX3_describe 63 = .ok (.iastore, 1) := decAll_at aX3_describe_0 39 rfl
theorem dX3_describe_64 : decode cX3_describe 64 = .ok (.aload 5, 2) := decAll_at aX3_describe_0 40 rfl
theorem dX3_describe_66 : decode cX3_describe 66 = .ok (.bipush 6, 2) := decAll_at aX3_describe_0 41 rfl
theorem dX3_describe_68 : decode cX3_describe 68 = .ok (.aload_n 0, 1) := decAll_at aX3_describe_0 42 rfl
theorem dX3_describe_69 : decode cX3_describe 69 = .ok (.getfield 25, 3) := decAll_at aX3_describe_0 43 rfl
theorem dX3_describe_72 : decode cX3_describe 72 = .ok (.getfield 49, 3) := decAll_at aX3_describe_0 44 rfl
theorem dX3_describe_75 : decode cX3_describe 75 = .ok (.iload 4, 2) := decAll_at aX3_describe_0 45 rfl
theorem dX3_describe_77 : decode cX3_describe 77 = .ok (.iaload, 1) := decAll_at aX3_describe_0 46 rfl
theorem dX3_describe_78 : decode cX3_describe 78 = .ok (.iastore, 1) := decAll_at aX3_describe_0 47 rfl
theorem dX3_describe_79 : decode cX3_describe 79 = .ok (.aload 5, 2) := decAll_at aX3_describe_0 48 rfl
theorem dX3_describe_81 : decode cX3_describe 81 = .ok (.bipush 7, 2) := decAll_at aX3_describe_0 49 rfl
theorem dX3_describe_83 : decode cX3_describe 83 = .ok (.iload 4, 2) := decAll_at aX3_describe_0 50 rfl
theorem dX3_describe_85 : decode cX3_describe 85 = .ok (.iastore, 1) := decAll_at aX3_describe_0 51 rfl
theorem dX3_describe_86 : decode cX3_describe 86 = .ok (.aload 5, 2) := decAll_at aX3_describe_0 52 rfl
theorem dX3_describe_88 : decode cX3_describe 88 = .ok (.bipush 8, 2) := decAll_at aX3_describe_0 53 rfl
theorem dX3_describe_90 : decode cX3_describe 90 = .ok (.aload_n 0, 1) := decAll_at aX3_describe_0 54 rfl
theorem dX3_describe_91 : decode cX3_describe 91 = .ok (.getfield 25, 3) := decAll_at aX3_describe_0 55 rfl
theorem dX3_describe_94 : decode cX3_describe 94 = .ok (.getfield 52, 3) := decAll_at aX3_describe_0 56 rfl
theorem dX3_describe_97 : decode cX3_describe 97 = .ok (.iastore, 1) := decAll_at aX3_describe_0 57 rfl
theorem dX3_describe_98 : decode cX3_describe 98 = .ok (.aload 5, 2) := decAll_at aX3_describe_0 58 rfl
theorem dX3_describe_100 : decode cX3_describe 100 = .ok (.bipush 9, 2) := decAll_at aX3_describe_0 59 rfl
theorem dX3_describe_102 : decode cX3_describe 102 = .ok (.iconst 0, 1) := decAll_at aX3_describe_0 60 rfl
theorem dX3_describe_103 : decode cX3_describe 103 = .ok (.iastore, 1) := decAll_at aX3_describe_0 61 rfl
theorem dX3_describe_104 : decode cX3_describe 104 = .ok (.return_, 1) := decAll_at aX3_describe_0 62 rfl
def laX3_limped_0 : List (Nat × Instr × Nat) := [(0, .aload_n 0, 1), (1, .getfield 25, 3), (4, .getfield 55, 3), (7, .iload_n 1, 1), (8, .baload, 1), (9, .ifCond .eq 9, 3), (12, .iload_n 2, 1), (13, .iconst 2, 1), (14, .idiv, 1), (15, .goto 4, 3), (18, .iload_n 2, 1), (19, .ireturn, 1)]
theorem aX3_limped_0 : decAll cX3_limped laX3_limped_0 = true := by decide +kernel
theorem dX3_limped_0 : decode cX3_limped 0 = .ok (.aload_n 0, 1) := decAll_at aX3_limped_0 0 rfl
theorem dX3_limped_1 : decode cX3_limped 1 = .ok (.getfield 25, 3) := decAll_at aX3_limped_0 1 rfl
theorem dX3_limped_4 : decode cX3_limped 4 = .ok (.getfield 55, 3) := decAll_at aX3_limped_0 2 rfl
theorem dX3_limped_7 : decode cX3_limped 7 = .ok (.iload_n 1, 1) := decAll_at aX3_limped_0 3 rfl
theorem dX3_limped_8 : decode cX3_limped 8 = .ok (.baload, 1) := decAll_at aX3_limped_0 4 rfl
theorem dX3_limped_9 : decode cX3_limped 9 = .ok (.ifCond .eq 9, 3) := decAll_at aX3_limped_0 5 rfl
theorem dX3_limped_12 : decode cX3_limped 12 = .ok (.iload_n 2, 1) := decAll_at aX3_limped_0 6 rfl
theorem dX3_limped_13 : decode cX3_limped 13 = .ok (.iconst 2, 1) := decAll_at aX3_limped_0 7 rfl
theorem dX3_limped_14 : decode cX3_limped 14 = .ok (.idiv, 1) := decAll_at aX3_limped_0 8 rfl
theorem dX3_limped_15 : decode cX3_limped 15 = .ok (.goto 4, 3) := decAll_at aX3_limped_0 9 rfl
theorem dX3_limped_18 : decode cX3_limped 18 = .ok (.iload_n 2, 1) := decAll_at aX3_limped_0 10 rfl
theorem dX3_limped_19 : decode cX3_limped 19 = .ok (.ireturn, 1) := decAll_at aX3_limped_0 11 rfl
def laX3_paceOf_0 : List (Nat × Instr × Nat) := [(0, .aload_n 0, 1), (1, .iload_n 1, 1), (2, .iload_n 2, 1), (3, .iload_n 3, 1), (4, .iload 4, 2), (6, .invokevirtual 59, 3), (9, .aload_n 0, 1), (10, .iload_n 1, 1), (11, .aload_n 0, 1), (12, .getfield 29, 3), (15, .bipush 118, 2), (17, .iconst 0, 1), (18, .bipush 60, 2), (20, .invokevirtual 63, 3), (23, .invokevirtual 67, 3), (26, .ireturn, 1)]
theorem aX3_paceOf_0 : decAll cX3_paceOf laX3_paceOf_0 = true := by decide +kernel
theorem dX3_paceOf_0 : decode cX3_paceOf 0 = .ok (.aload_n 0, 1) := decAll_at aX3_paceOf_0 0 rfl
theorem dX3_paceOf_1 : decode cX3_paceOf 1 = .ok (.iload_n 1, 1) := decAll_at aX3_paceOf_0 1 rfl
theorem dX3_paceOf_2 : decode cX3_paceOf 2 = .ok (.iload_n 2, 1) := decAll_at aX3_paceOf_0 2 rfl
theorem dX3_paceOf_3 : decode cX3_paceOf 3 = .ok (.iload_n 3, 1) := decAll_at aX3_paceOf_0 3 rfl
theorem dX3_paceOf_4 : decode cX3_paceOf 4 = .ok (.iload 4, 2) := decAll_at aX3_paceOf_0 4 rfl
theorem dX3_paceOf_6 : decode cX3_paceOf 6 = .ok (.invokevirtual 59, 3) := decAll_at aX3_paceOf_0 5 rfl
theorem dX3_paceOf_9 : decode cX3_paceOf 9 = .ok (.aload_n 0, 1) := decAll_at aX3_paceOf_0 6 rfl
theorem dX3_paceOf_10 : decode cX3_paceOf 10 = .ok (.iload_n 1, 1) := decAll_at aX3_paceOf_0 7 rfl
theorem dX3_paceOf_11 : decode cX3_paceOf 11 = .ok (.aload_n 0, 1) := decAll_at aX3_paceOf_0 8 rfl
theorem dX3_paceOf_12 : decode cX3_paceOf 12 = .ok (.getfield 29, 3) := decAll_at aX3_paceOf_0 9 rfl
theorem dX3_paceOf_15 : decode cX3_paceOf 15 = .ok (.bipush 118, 2) := decAll_at aX3_paceOf_0 10 rfl
theorem dX3_paceOf_17 : decode cX3_paceOf 17 = .ok (.iconst 0, 1) := decAll_at aX3_paceOf_0 11 rfl
theorem dX3_paceOf_18 : decode cX3_paceOf 18 = .ok (.bipush 60, 2) := decAll_at aX3_paceOf_0 12 rfl
theorem dX3_paceOf_20 : decode cX3_paceOf 20 = .ok (.invokevirtual 63, 3) := decAll_at aX3_paceOf_0 13 rfl
theorem dX3_paceOf_23 : decode cX3_paceOf 23 = .ok (.invokevirtual 67, 3) := decAll_at aX3_paceOf_0 14 rfl
theorem dX3_paceOf_26 : decode cX3_paceOf 26 = .ok (.ireturn, 1) := decAll_at aX3_paceOf_0 15 rfl
def laX3_paceBack_0 : List (Nat × Instr × Nat) := [(0, .aload_n 0, 1), (1, .iload_n 1, 1), (2, .iconst 0, 1), (3, .iconst 0, 1), (4, .iload_n 2, 1), (5, .invokevirtual 59, 3), (8, .aload_n 0, 1), (9, .getfield 29, 3), (12, .getfield 33, 3), (15, .iconst 5, 1), (16, .aload_n 0, 1), (17, .getfield 25, 3), (20, .getfield 46, 3), (23, .iload_n 2, 1), (24, .iaload, 1), (25, .ineg, 1), (26, .iastore, 1), (27, .aload_n 0, 1), (28, .iload_n 1, 1), (29, .aload_n 0, 1), (30, .getfield 29, 3), (33, .bipush 118, 2), (35, .iconst 0, 1), (36, .bipush 60, 2), (38, .invokevirtual 63, 3), (41, .invokevirtual 67, 3), (44, .ireturn, 1)]
theorem aX3_paceBack_0 : decAll cX3_paceBack laX3_paceBack_0 = true := by decide +kernel
theorem dX3_paceBack_0 : decode cX3_paceBack 0 = .ok (.aload_n 0, 1) := decAll_at aX3_paceBack_0 0 rfl
theorem dX3_paceBack_1 : decode cX3_paceBack 1 = .ok (.iload_n 1, 1) := decAll_at aX3_paceBack_0 1 rfl
theorem dX3_paceBack_2 : decode cX3_paceBack 2 = .ok (.iconst 0, 1) := decAll_at aX3_paceBack_0 2 rfl
theorem dX3_paceBack_3 : decode cX3_paceBack 3 = .ok (.iconst 0, 1) := decAll_at aX3_paceBack_0 3 rfl
theorem dX3_paceBack_4 : decode cX3_paceBack 4 = .ok (.iload_n 2, 1) := decAll_at aX3_paceBack_0 4 rfl
theorem dX3_paceBack_5 : decode cX3_paceBack 5 = .ok (.invokevirtual 59, 3) := decAll_at aX3_paceBack_0 5 rfl
theorem dX3_paceBack_8 : decode cX3_paceBack 8 = .ok (.aload_n 0, 1) := decAll_at aX3_paceBack_0 6 rfl
theorem dX3_paceBack_9 : decode cX3_paceBack 9 = .ok (.getfield 29, 3) := decAll_at aX3_paceBack_0 7 rfl
theorem dX3_paceBack_12 : decode cX3_paceBack 12 = .ok (.getfield 33, 3) := decAll_at aX3_paceBack_0 8 rfl
theorem dX3_paceBack_15 : decode cX3_paceBack 15 = .ok (.iconst 5, 1) := decAll_at aX3_paceBack_0 9 rfl
theorem dX3_paceBack_16 : decode cX3_paceBack 16 = .ok (.aload_n 0, 1) := decAll_at aX3_paceBack_0 10 rfl
theorem dX3_paceBack_17 : decode cX3_paceBack 17 = .ok (.getfield 25, 3) := decAll_at aX3_paceBack_0 11 rfl
theorem dX3_paceBack_20 : decode cX3_paceBack 20 = .ok (.getfield 46, 3) := decAll_at aX3_paceBack_0 12 rfl
theorem dX3_paceBack_23 : decode cX3_paceBack 23 = .ok (.iload_n 2, 1) := decAll_at aX3_paceBack_0 13 rfl
theorem dX3_paceBack_24 : decode cX3_paceBack 24 = .ok (.iaload, 1) := decAll_at aX3_paceBack_0 14 rfl
theorem dX3_paceBack_25 : decode cX3_paceBack 25 = .ok (.ineg, 1) := decAll_at aX3_paceBack_0 15 rfl
theorem dX3_paceBack_26 : decode cX3_paceBack 26 = .ok (.iastore, 1) := decAll_at aX3_paceBack_0 16 rfl
theorem dX3_paceBack_27 : decode cX3_paceBack 27 = .ok (.aload_n 0, 1) := decAll_at aX3_paceBack_0 17 rfl
theorem dX3_paceBack_28 : decode cX3_paceBack 28 = .ok (.iload_n 1, 1) := decAll_at aX3_paceBack_0 18 rfl
theorem dX3_paceBack_29 : decode cX3_paceBack 29 = .ok (.aload_n 0, 1) := decAll_at aX3_paceBack_0 19 rfl
theorem dX3_paceBack_30 : decode cX3_paceBack 30 = .ok (.getfield 29, 3) := decAll_at aX3_paceBack_0 20 rfl
theorem dX3_paceBack_33 : decode cX3_paceBack 33 = .ok (.bipush 118, 2) := decAll_at aX3_paceBack_0 21 rfl
theorem dX3_paceBack_35 : decode cX3_paceBack 35 = .ok (.iconst 0, 1) := decAll_at aX3_paceBack_0 22 rfl
theorem dX3_paceBack_36 : decode cX3_paceBack 36 = .ok (.bipush 60, 2) := decAll_at aX3_paceBack_0 23 rfl
theorem dX3_paceBack_38 : decode cX3_paceBack 38 = .ok (.invokevirtual 63, 3) := decAll_at aX3_paceBack_0 24 rfl
theorem dX3_paceBack_41 : decode cX3_paceBack 41 = .ok (.invokevirtual 67, 3) := decAll_at aX3_paceBack_0 25 rfl
theorem dX3_paceBack_44 : decode cX3_paceBack 44 = .ok (.ireturn, 1) := decAll_at aX3_paceBack_0 26 rfl
def laX3_tiredBehind_0 : List (Nat × Instr × Nat) := [(0, .aload_n 0, 1), (1, .iload_n 1, 1), (2, .iload_n 2, 1), (3, .iload_n 3, 1), (4, .iload 4, 2), (6, .invokevirtual 59, 3), (9, .aload_n 0, 1), (10, .getfield 29, 3), (13, .getfield 33, 3), (16, .bipush 9, 2), (18, .iload 5, 2), (20, .iastore, 1), (21, .aload_n 0, 1), (22, .getfield 29, 3), (25, .bipush 103, 2), (27, .bipush (-5), 2), (29, .iconst 5, 1), (30, .invokevirtual 63, 3), (33, .istore 6, 2), (35, .iconst 0, 1), (36, .iconst 5, 1), (37, .iload_n 3, 1), (38, .iload 6, 2), (40, .iadd, 1), (41, .invokestatic 71, 3), (44, .invokestatic 76, 3), (47, .ireturn, 1)]
theorem aX3_tiredBehind_0 : decAll cX3_tiredBehind laX3_tiredBehind_0 = true := by decide +kernel
theorem dX3_tiredBehind_0 : decode cX3_tiredBehind 0 = .ok (.aload_n 0, 1) := decAll_at aX3_tiredBehind_0 0 rfl
theorem dX3_tiredBehind_1 : decode cX3_tiredBehind 1 = .ok (.iload_n 1, 1) := decAll_at aX3_tiredBehind_0 1 rfl
theorem dX3_tiredBehind_2 : decode cX3_tiredBehind 2 = .ok (.iload_n 2, 1) := decAll_at aX3_tiredBehind_0 2 rfl
theorem dX3_tiredBehind_3 : decode cX3_tiredBehind 3 = .ok (.iload_n 3, 1) := decAll_at aX3_tiredBehind_0 3 rfl
theorem dX3_tiredBehind_4 : decode cX3_tiredBehind 4 = .ok (.iload 4, 2) := decAll_at aX3_tiredBehind_0 4 rfl
theorem dX3_tiredBehind_6 : decode cX3_tiredBehind 6 = .ok (.invokevirtual 59, 3) := decAll_at aX3_tiredBehind_0 5 rfl
theorem dX3_tiredBehind_9 : decode cX3_tiredBehind 9 = .ok (.aload_n 0, 1) := decAll_at aX3_tiredBehind_0 6 rfl
theorem dX3_tiredBehind_10 : decode cX3_tiredBehind 10 = .ok (.getfield 29, 3) := decAll_at aX3_tiredBehind_0 7 rfl
theorem dX3_tiredBehind_13 : decode cX3_tiredBehind 13 = .ok (.getfield 33, 3) := decAll_at aX3_tiredBehind_0 8 rfl
theorem dX3_tiredBehind_16 : decode cX3_tiredBehind 16 = .ok (.bipush 9, 2) := decAll_at aX3_tiredBehind_0 9 rfl
theorem dX3_tiredBehind_18 : decode cX3_tiredBehind 18 = .ok (.iload 5, 2) := decAll_at aX3_tiredBehind_0 10 rfl
theorem dX3_tiredBehind_20 : decode cX3_tiredBehind 20 = .ok (.iastore, 1) := decAll_at aX3_tiredBehind_0 11 rfl
theorem dX3_tiredBehind_21 : decode cX3_tiredBehind 21 = .ok (.aload_n 0, 1) := decAll_at aX3_tiredBehind_0 12 rfl
theorem dX3_tiredBehind_22 : decode cX3_tiredBehind 22 = .ok (.getfield 29, 3) := decAll_at aX3_tiredBehind_0 13 rfl
theorem dX3_tiredBehind_25 : decode cX3_tiredBehind 25 = .ok (.bipush 103, 2) := decAll_at aX3_tiredBehind_0 14 rfl
theorem dX3_tiredBehind_27 : decode cX3_tiredBehind 27 = .ok (.bipush (-5), 2) := decAll_at aX3_tiredBehind_0 15 rfl
theorem dX3_tiredBehind_29 : decode cX3_tiredBehind 29 = .ok (.iconst 5, 1) := decAll_at aX3_tiredBehind_0 16 rfl
theorem dX3_tiredBehind_30 : decode cX3_tiredBehind 30 = .ok (.invokevirtual 63, 3) := decAll_at aX3_tiredBehind_0 17 rfl
theorem dX3_tiredBehind_33 : decode cX3_tiredBehind 33 = .ok (.istore 6, 2) := decAll_at aX3_tiredBehind_0 18 rfl
theorem dX3_tiredBehind_35 : decode cX3_tiredBehind 35 = .ok (.iconst 0, 1) := decAll_at aX3_tiredBehind_0 19 rfl
theorem dX3_tiredBehind_36 : decode cX3_tiredBehind 36 = .ok (.iconst 5, 1) := decAll_at aX3_tiredBehind_0 20 rfl
theorem dX3_tiredBehind_37 : decode cX3_tiredBehind 37 = .ok (.iload_n 3, 1) := decAll_at aX3_tiredBehind_0 21 rfl
theorem dX3_tiredBehind_38 : decode cX3_tiredBehind 38 = .ok (.iload 6, 2) := decAll_at aX3_tiredBehind_0 22 rfl
theorem dX3_tiredBehind_40 : decode cX3_tiredBehind 40 = .ok (.iadd, 1) := decAll_at aX3_tiredBehind_0 23 rfl
theorem dX3_tiredBehind_41 : decode cX3_tiredBehind 41 = .ok (.invokestatic 71, 3) := decAll_at aX3_tiredBehind_0 24 rfl
theorem dX3_tiredBehind_44 : decode cX3_tiredBehind 44 = .ok (.invokestatic 76, 3) := decAll_at aX3_tiredBehind_0 25 rfl
theorem dX3_tiredBehind_47 : decode cX3_tiredBehind 47 = .ok (.ireturn, 1) := decAll_at aX3_tiredBehind_0 26 rfl
def laX3_tiredRested_0 : List (Nat × Instr × Nat) := [(0, .aload_n 0, 1), (1, .iload_n 1, 1), (2, .iconst 0, 1), (3, .iload_n 2, 1), (4, .iload_n 3, 1), (5, .invokevirtual 59, 3), (8, .aload_n 0, 1), (9, .getfield 29, 3), (12, .getfield 33, 3), (15, .iconst 5, 1), (16, .iconst 0, 1), (17, .iastore, 1), (18, .aload_n 0, 1), (19, .getfield 29, 3), (22, .getfield 33, 3), (25, .bipush 6, 2), (27, .iconst 0, 1), (28, .iastore, 1), (29, .iconst 0, 1), (30, .iload_n 2, 1), (31, .aload_n 0, 1), (32, .getfield 29, 3), (35, .bipush 114, 2), (37, .iconst 0, 1), (38, .iconst 5, 1), (39, .invokevirtual 63, 3), (42, .isub, 1), (43, .invokestatic 76, 3), (46, .ireturn, 1)]
theorem aX3_tiredRested_0 : decAll cX3_tiredRested laX3_tiredRested_0 = true := by decide +kernel
theorem dX3_tiredRested_0 : decode cX3_tiredRested 0 = .ok (.aload_n 0, 1) := decAll_at aX3_tiredRested_0 0 rfl
theorem dX3_tiredRested_1 : decode cX3_tiredRested 1 = .ok (.iload_n 1, 1) := decAll_at aX3_tiredRested_0 1 rfl
theorem dX3_tiredRested_2 : decode cX3_tiredRested 2 = .ok (.iconst 0, 1) := decAll_at aX3_tiredRested_0 2 rfl
theorem dX3_tiredRested_3 : decode cX3_tiredRested 3 = .ok (.iload_n 2, 1) := decAll_at aX3_tiredRested_0 3 rfl
theorem dX3_tiredRested_4 : decode cX3_tiredRested 4 = .ok (.iload_n 3, 1) := decAll_at aX3_tiredRested_0 4 rfl
theorem dX3_tiredRested_5 : decode cX3_tiredRested 5 = .ok (.invokevirtual 59, 3) := decAll_at aX3_tiredRested_0 5 rfl
theorem dX3_tiredRested_8 : decode cX3_tiredRested 8 = .ok (.aload_n 0, 1) := decAll_at aX3_tiredRested_0 6 rfl
theorem dX3_tiredRested_9 : decode cX3_tiredRested 9 = .ok (.getfield 29, 3) := decAll_at aX3_tiredRested_0 7 rfl
theorem dX3_tiredRested_12 : decode cX3_tiredRested 12 = .ok (.getfield 33, 3) := decAll_at aX3_tiredRested_0 8 rfl
theorem dX3_tiredRested_15 : decode cX3_tiredRested 15 = .ok (.iconst 5, 1) := decAll_at aX3_tiredRested_0 9 rfl
theorem dX3_tiredRested_16 : decode cX3_tiredRested 16 = .ok (.iconst 0, 1) := decAll_at aX3_tiredRested_0 10 rfl
theorem dX3_tiredRested_17 : decode cX3_tiredRested 17 = .ok (.iastore, 1) := decAll_at aX3_tiredRested_0 11 rfl
theorem dX3_tiredRested_18 : decode cX3_tiredRested 18 = .ok (.aload_n 0, 1) := decAll_at aX3_tiredRested_0 12 rfl
theorem dX3_tiredRested_19 : decode cX3_tiredRested 19 = .ok (.getfield 29, 3) := decAll_at aX3_tiredRested_0 13 rfl
theorem dX3_tiredRested_22 : decode cX3_tiredRested 22 = .ok (.getfield 33, 3) := decAll_at aX3_tiredRested_0 14 rfl
theorem dX3_tiredRested_25 : decode cX3_tiredRested 25 = .ok (.bipush 6, 2) := decAll_at aX3_tiredRested_0 15 rfl
theorem dX3_tiredRested_27 : decode cX3_tiredRested 27 = .ok (.iconst 0, 1) := decAll_at aX3_tiredRested_0 16 rfl
theorem dX3_tiredRested_28 : decode cX3_tiredRested 28 = .ok (.iastore, 1) := decAll_at aX3_tiredRested_0 17 rfl
theorem dX3_tiredRested_29 : decode cX3_tiredRested 29 = .ok (.iconst 0, 1) := decAll_at aX3_tiredRested_0 18 rfl
theorem dX3_tiredRested_30 : decode cX3_tiredRested 30 = .ok (.iload_n 2, 1) := decAll_at aX3_tiredRested_0 19 rfl
theorem dX3_tiredRested_31 : decode cX3_tiredRested 31 = .ok (.aload_n 0, 1) := decAll_at aX3_tiredRested_0 20 rfl
theorem dX3_tiredRested_32 : decode cX3_tiredRested 32 = .ok (.getfield 29, 3) := decAll_at aX3_tiredRested_0 21 rfl
theorem dX3_tiredRested_35 : decode cX3_tiredRested 35 = .ok (.bipush 114, 2) := decAll_at aX3_tiredRested_0 22 rfl
theorem dX3_tiredRested_37 : decode cX3_tiredRested 37 = .ok (.iconst 0, 1) := decAll_at aX3_tiredRested_0 23 rfl
theorem dX3_tiredRested_38 : decode cX3_tiredRested 38 = .ok (.iconst 5, 1) := decAll_at aX3_tiredRested_0 24 rfl
theorem dX3_tiredRested_39 : decode cX3_tiredRested 39 = .ok (.invokevirtual 63, 3) := decAll_at aX3_tiredRested_0 25 rfl
theorem dX3_tiredRested_42 : decode cX3_tiredRested 42 = .ok (.isub, 1) := decAll_at aX3_tiredRested_0 26 rfl
theorem dX3_tiredRested_43 : decode cX3_tiredRested 43 = .ok (.invokestatic 76, 3) := decAll_at aX3_tiredRested_0 27 rfl
theorem dX3_tiredRested_46 : decode cX3_tiredRested 46 = .ok (.ireturn, 1) := decAll_at aX3_tiredRested_0 28 rfl
def laX3_capsFrom_0 : List (Nat × Instr × Nat) := [(0, .iload_n 1, 1), (1, .bipush 6, 2), (3, .imul, 1), (4, .iload_n 2, 1), (5, .iadd, 1), (6, .bipush 10, 2), (8, .imul, 1), (9, .iload_n 3, 1), (10, .iadd, 1), (11, .istore 4, 2), (13, .aload_n 0, 1), (14, .getfield 19, 3), (17, .iload 4, 2), (19, .iaload, 1), (20, .aload_n 0, 1), (21, .getfield 9, 3), (24, .if_icmp .eq 26, 3), (27, .aload_n 0, 1), (28, .iload 4, 2), (30, .bipush 61, 2), (32, .imul, 1), (33, .iload_n 1, 1), (34, .iload_n 2, 1), (35, .iload_n 3, 1), (36, .invokevirtual 79, 3), (39, .aload_n 0, 1), (40, .getfield 19, 3), (43, .iload 4, 2), (45, .aload_n 0, 1), (46, .getfield 9, 3), (49, .iastore, 1), (50, .iload 4, 2), (52, .bipush 61, 2), (54, .imul, 1), (55, .ireturn, 1)]
theorem aX3_capsFrom_0 : decAll cX3_capsFrom laX3_capsFrom_0 = true := by decide +kernel
theorem dX3_capsFrom_0 : decode cX3_capsFrom 0 = .ok (.iload_n 1, 1) := decAll_at aX3_capsFrom_0 0 rfl
theorem dX3_capsFrom_1 : decode cX3_capsFrom 1 = .ok (.bipush 6, 2) := decAll_at aX3_capsFrom_0 1 rfl
theorem dX3_capsFrom_3 : decode cX3_capsFrom 3 = .ok (.imul, 1) := decAll_at aX3_capsFrom_0 2 rfl
theorem dX3_capsFrom_4 : decode cX3_capsFrom 4 = .ok (.iload_n 2, 1) := decAll_at aX3_capsFrom_0 3 rfl
theorem dX3_capsFrom_5 : decode cX3_capsFrom 5 = .ok (.iadd, 1) := decAll_at aX3_capsFrom_0 4 rfl
theorem dX3_capsFrom_6 : decode cX3_capsFrom 6 = .ok (.bipush 10, 2) := decAll_at aX3_capsFrom_0 5 rfl
theorem dX3_capsFrom_8 : decode cX3_capsFrom 8 = .ok (.imul, 1) := decAll_at aX3_capsFrom_0 6 rfl
theorem dX3_capsFrom_9 : decode cX3_capsFrom 9 = .ok (.iload_n 3, 1) := decAll_at aX3_capsFrom_0 7 rfl
theorem dX3_capsFrom_10 : decode cX3_capsFrom 10 = .ok (.iadd, 1) := decAll_at aX3_capsFrom_0 8 rfl
theorem dX3_capsFrom_11 : decode cX3_capsFrom 11 = .ok (.istore 4, 2) := decAll_at aX3_capsFrom_0 9 rfl
theorem dX3_capsFrom_13 : decode cX3_capsFrom 13 = .ok (.aload_n 0, 1) := decAll_at aX3_capsFrom_0 10 rfl
theorem dX3_capsFrom_14 : decode cX3_capsFrom 14 = .ok (.getfield 19, 3) := decAll_at aX3_capsFrom_0 11 rfl
theorem dX3_capsFrom_17 : decode cX3_capsFrom 17 = .ok (.iload 4, 2) := decAll_at aX3_capsFrom_0 12 rfl
theorem dX3_capsFrom_19 : decode cX3_capsFrom 19 = .ok (.iaload, 1) := decAll_at aX3_capsFrom_0 13 rfl
theorem dX3_capsFrom_20 : decode cX3_capsFrom 20 = .ok (.aload_n 0, 1) := decAll_at aX3_capsFrom_0 14 rfl
theorem dX3_capsFrom_21 : decode cX3_capsFrom 21 = .ok (.getfield 9, 3) := decAll_at aX3_capsFrom_0 15 rfl
theorem dX3_capsFrom_24 : decode cX3_capsFrom 24 = .ok (.if_icmp .eq 26, 3) := decAll_at aX3_capsFrom_0 16 rfl
theorem dX3_capsFrom_27 : decode cX3_capsFrom 27 = .ok (.aload_n 0, 1) := decAll_at aX3_capsFrom_0 17 rfl
theorem dX3_capsFrom_28 : decode cX3_capsFrom 28 = .ok (.iload 4, 2) := decAll_at aX3_capsFrom_0 18 rfl
theorem dX3_capsFrom_30 : decode cX3_capsFrom 30 = .ok (.bipush 61, 2) := decAll_at aX3_capsFrom_0 19 rfl
theorem dX3_capsFrom_32 : decode cX3_capsFrom 32 = .ok (.imul, 1) := decAll_at aX3_capsFrom_0 20 rfl
theorem dX3_capsFrom_33 : decode cX3_capsFrom 33 = .ok (.iload_n 1, 1) := decAll_at aX3_capsFrom_0 21 rfl
theorem dX3_capsFrom_34 : decode cX3_capsFrom 34 = .ok (.iload_n 2, 1) := decAll_at aX3_capsFrom_0 22 rfl
theorem dX3_capsFrom_35 : decode cX3_capsFrom 35 = .ok (.iload_n 3, 1) := decAll_at aX3_capsFrom_0 23 rfl
theorem dX3_capsFrom_36 : decode cX3_capsFrom 36 = .ok (.invokevirtual 79, 3) := decAll_at aX3_capsFrom_0 24 rfl
theorem dX3_capsFrom_39 : decode cX3_capsFrom 39 = .ok (.aload_n 0, 1) := decAll_at aX3_capsFrom_0 25 rfl
theorem dX3_capsFrom_40 : decode cX3_capsFrom 40 = .ok (.getfield 19, 3) := decAll_at aX3_capsFrom_0 26 rfl
theorem dX3_capsFrom_43 : decode cX3_capsFrom 43 = .ok (.iload 4, 2) := decAll_at aX3_capsFrom_0 27 rfl
theorem dX3_capsFrom_45 : decode cX3_capsFrom 45 = .ok (.aload_n 0, 1) := decAll_at aX3_capsFrom_0 28 rfl
theorem dX3_capsFrom_46 : decode cX3_capsFrom 46 = .ok (.getfield 9, 3) := decAll_at aX3_capsFrom_0 29 rfl
theorem dX3_capsFrom_49 : decode cX3_capsFrom 49 = .ok (.iastore, 1) := decAll_at aX3_capsFrom_0 30 rfl
theorem dX3_capsFrom_50 : decode cX3_capsFrom 50 = .ok (.iload 4, 2) := decAll_at aX3_capsFrom_0 31 rfl
theorem dX3_capsFrom_52 : decode cX3_capsFrom 52 = .ok (.bipush 61, 2) := decAll_at aX3_capsFrom_0 32 rfl
theorem dX3_capsFrom_54 : decode cX3_capsFrom 54 = .ok (.imul, 1) := decAll_at aX3_capsFrom_0 33 rfl
theorem dX3_capsFrom_55 : decode cX3_capsFrom 55 = .ok (.ireturn, 1) := decAll_at aX3_capsFrom_0 34 rfl
def laX3_reckonCaps_0 : List (Nat × Instr × Nat) := [(0, .aload_n 0, 1), (1, .iload_n 2, 1), (2, .iconst 0, 1), (3, .iload_n 3, 1), (4, .iload 4, 2), (6, .invokevirtual 59, 3), (9, .bipush 60, 2), (11, .istore 5, 2), (13, .iconst 0, 1), (14, .istore 6, 2), (16, .iload 6, 2), (18, .sipush 400, 3), (21, .if_icmp .gt 70, 3), (24, .iload 5, 2), (26, .ifCond .le 65, 3), (29, .aload_n 0, 1), (30, .getfield 29, 3), (33, .getfield 33, 3), (36, .iconst 3, 1), (37, .iload 6, 2), (39, .iastore, 1), (40, .aload_n 0, 1), (41, .iload_n 2, 1), (42, .aload_n 0, 1), (43, .getfield 29, 3), (46, .bipush 118, 2), (48, .iconst 0, 1), (49, .bipush 60, 2), (51, .invokevirtual 63, 3), (54, .invokevirtual 67, 3), (57, .istore 7, 2), (59, .iload 5, 2), (61, .iload 7, 2), (63, .if_icmp .le 22, 3), (66, .aload_n 0, 1), (67, .getfield 15, 3), (70, .iload_n 1, 1), (71, .iload 5, 2), (73, .iadd, 1), (74, .iload 6, 2), (76, .iconst 1, 1), (77, .isub, 1), (78, .iastore, 1), (79, .iinc 5 (-1), 3), (82, .goto (-23), 3), (85, .iinc 6 1, 3), (88, .goto (-72), 3), (91, .iload 5, 2), (93, .ifCond .le 21, 3), (96, .aload_n 0, 1), (97, .getfield 15, 3), (100, .iload_n 1, 1), (101, .iload 5, 2), (103, .iadd, 1), (104, .sipush 400, 3), (107, .iastore, 1), (108, .iinc 5 (-1), 3), (111, .goto (-20), 3), (114, .return_, 1)]
theorem aX3_reckonCaps_0 : decAll cX3_reckonCaps laX3_reckonCaps_0 = true := by decide +kernel
theorem dX3_reckonCaps_0 : decode cX3_reckonCaps 0 = .ok (.aload_n 0, 1) := decAll_at aX3_reckonCaps_0 0 rfl
theorem dX3_reckonCaps_1 : decode cX3_reckonCaps 1 = .ok (.iload_n 2, 1) := decAll_at aX3_reckonCaps_0 1 rfl
theorem dX3_reckonCaps_2 : decode cX3_reckonCaps 2 = .ok (.iconst 0, 1) := decAll_at aX3_reckonCaps_0 2 rfl
theorem dX3_reckonCaps_3 : decode cX3_reckonCaps 3 = .ok (.iload_n 3, 1) := decAll_at aX3_reckonCaps_0 3 rfl
theorem dX3_reckonCaps_4 : decode cX3_reckonCaps 4 = .ok (.iload 4, 2) := decAll_at aX3_reckonCaps_0 4 rfl
theorem dX3_reckonCaps_6 : decode cX3_reckonCaps 6 = .ok (.invokevirtual 59, 3) := decAll_at aX3_reckonCaps_0 5 rfl
theorem dX3_reckonCaps_9 : decode cX3_reckonCaps 9 = .ok (.bipush 60, 2) := decAll_at aX3_reckonCaps_0 6 rfl
theorem dX3_reckonCaps_11 : decode cX3_reckonCaps 11 = .ok (.istore 5, 2) := decAll_at aX3_reckonCaps_0 7 rfl
theorem dX3_reckonCaps_13 : decode cX3_reckonCaps 13 = .ok (.iconst 0, 1) := decAll_at aX3_reckonCaps_0 8 rfl
theorem dX3_reckonCaps_14 : decode cX3_reckonCaps 14 = .ok (.istore 6, 2) := decAll_at aX3_reckonCaps_0 9 rfl
theorem dX3_reckonCaps_16 : decode cX3_reckonCaps 16 = .ok (.iload 6, 2) := decAll_at aX3_reckonCaps_0 10 rfl
theorem dX3_reckonCaps_18 : decode cX3_reckonCaps 18 = .ok (.sipush 400, 3) := decAll_at aX3_reckonCaps_0 11 rfl
theorem dX3_reckonCaps_21 : decode cX3_reckonCaps 21 = .ok (.if_icmp .gt 70, 3) := decAll_at aX3_reckonCaps_0 12 rfl
theorem dX3_reckonCaps_24 : decode cX3_reckonCaps 24 = .ok (.iload 5, 2) := decAll_at aX3_reckonCaps_0 13 rfl
theorem dX3_reckonCaps_26 : decode cX3_reckonCaps 26 = .ok (.ifCond .le 65, 3) := decAll_at aX3_reckonCaps_0 14 rfl
theorem dX3_reckonCaps_29 : decode cX3_reckonCaps 29 = .ok (.aload_n 0, 1) := decAll_at aX3_reckonCaps_0 15 rfl
theorem dX3_reckonCaps_30 : decode cX3_reckonCaps 30 = .ok (.getfield 29, 3) := decAll_at aX3_reckonCaps_0 16 rfl
theorem dX3_reckonCaps_33 : decode cX3_reckonCaps 33 = .ok (.getfield 33, 3) := decAll_at aX3_reckonCaps_0 17 rfl
theorem dX3_reckonCaps_36 : decode cX3_reckonCaps 36 = .ok (.iconst 3, 1) := decAll_at aX3_reckonCaps_0 18 rfl
theorem dX3_reckonCaps_37 : decode cX3_reckonCaps 37 = .ok (.iload 6, 2) := decAll_at aX3_reckonCaps_0 19 rfl
theorem dX3_reckonCaps_39 : decode cX3_reckonCaps 39 = .ok (.iastore, 1) := decAll_at aX3_reckonCaps_0 20 rfl
theorem dX3_reckonCaps_40 : decode cX3_reckonCaps 40 = .ok (.aload_n 0, 1) := decAll_at aX3_reckonCaps_0 21 rfl
theorem dX3_reckonCaps_41 : decode cX3_reckonCaps 41 = .ok (.iload_n 2, 1) := decAll_at aX3_reckonCaps_0 22 rfl
theorem dX3_reckonCaps_42 : decode cX3_reckonCaps 42 = .ok (.aload_n 0, 1) := decAll_at aX3_reckonCaps_0 23 rfl
theorem dX3_reckonCaps_43 : decode cX3_reckonCaps 43 = .ok (.getfield 29, 3) := decAll_at aX3_reckonCaps_0 24 rfl
theorem dX3_reckonCaps_46 : decode cX3_reckonCaps 46 = .ok (.bipush 118, 2) := decAll_at aX3_reckonCaps_0 25 rfl
theorem dX3_reckonCaps_48 : decode cX3_reckonCaps 48 = .ok (.iconst 0, 1) := decAll_at aX3_reckonCaps_0 26 rfl
theorem dX3_reckonCaps_49 : decode cX3_reckonCaps 49 = .ok (.bipush 60, 2) := decAll_at aX3_reckonCaps_0 27 rfl
theorem dX3_reckonCaps_51 : decode cX3_reckonCaps 51 = .ok (.invokevirtual 63, 3) := decAll_at aX3_reckonCaps_0 28 rfl
theorem dX3_reckonCaps_54 : decode cX3_reckonCaps 54 = .ok (.invokevirtual 67, 3) := decAll_at aX3_reckonCaps_0 29 rfl
theorem dX3_reckonCaps_57 : decode cX3_reckonCaps 57 = .ok (.istore 7, 2) := decAll_at aX3_reckonCaps_0 30 rfl
theorem dX3_reckonCaps_59 : decode cX3_reckonCaps 59 = .ok (.iload 5, 2) := decAll_at aX3_reckonCaps_0 31 rfl
theorem dX3_reckonCaps_61 : decode cX3_reckonCaps 61 = .ok (.iload 7, 2) := decAll_at aX3_reckonCaps_0 32 rfl
theorem dX3_reckonCaps_63 : decode cX3_reckonCaps 63 = .ok (.if_icmp .le 22, 3) := decAll_at aX3_reckonCaps_0 33 rfl
theorem dX3_reckonCaps_66 : decode cX3_reckonCaps 66 = .ok (.aload_n 0, 1) := decAll_at aX3_reckonCaps_0 34 rfl
theorem dX3_reckonCaps_67 : decode cX3_reckonCaps 67 = .ok (.getfield 15, 3) := decAll_at aX3_reckonCaps_0 35 rfl
theorem dX3_reckonCaps_70 : decode cX3_reckonCaps 70 = .ok (.iload_n 1, 1) := decAll_at aX3_reckonCaps_0 36 rfl
theorem dX3_reckonCaps_71 : decode cX3_reckonCaps 71 = .ok (.iload 5, 2) := decAll_at aX3_reckonCaps_0 37 rfl
theorem dX3_reckonCaps_73 : decode cX3_reckonCaps 73 = .ok (.iadd, 1) := decAll_at aX3_reckonCaps_0 38 rfl
theorem dX3_reckonCaps_74 : decode cX3_reckonCaps 74 = .ok (.iload 6, 2) := decAll_at aX3_reckonCaps_0 39 rfl
theorem dX3_reckonCaps_76 : decode cX3_reckonCaps 76 = .ok (.iconst 1, 1) := decAll_at aX3_reckonCaps_0 40 rfl
theorem dX3_reckonCaps_77 : decode cX3_reckonCaps 77 = .ok (.isub, 1) := decAll_at aX3_reckonCaps_0 41 rfl
theorem dX3_reckonCaps_78 : decode cX3_reckonCaps 78 = .ok (.iastore, 1) := decAll_at aX3_reckonCaps_0 42 rfl
theorem dX3_reckonCaps_79 : decode cX3_reckonCaps 79 = .ok (.iinc 5 (-1), 3) := decAll_at aX3_reckonCaps_0 43 rfl
theorem dX3_reckonCaps_82 : decode cX3_reckonCaps 82 = .ok (.goto (-23), 3) := decAll_at aX3_reckonCaps_0 44 rfl
theorem dX3_reckonCaps_85 : decode cX3_reckonCaps 85 = .ok (.iinc 6 1, 3) := decAll_at aX3_reckonCaps_0 45 rfl
theorem dX3_reckonCaps_88 : decode cX3_reckonCaps 88 = .ok (.goto (-72), 3) := decAll_at aX3_reckonCaps_0 46 rfl
theorem dX3_reckonCaps_91 : decode cX3_reckonCaps 91 = .ok (.iload 5, 2) := decAll_at aX3_reckonCaps_0 47 rfl
theorem dX3_reckonCaps_93 : decode cX3_reckonCaps 93 = .ok (.ifCond .le 21, 3) := decAll_at aX3_reckonCaps_0 48 rfl
theorem dX3_reckonCaps_96 : decode cX3_reckonCaps 96 = .ok (.aload_n 0, 1) := decAll_at aX3_reckonCaps_0 49 rfl
theorem dX3_reckonCaps_97 : decode cX3_reckonCaps 97 = .ok (.getfield 15, 3) := decAll_at aX3_reckonCaps_0 50 rfl
theorem dX3_reckonCaps_100 : decode cX3_reckonCaps 100 = .ok (.iload_n 1, 1) := decAll_at aX3_reckonCaps_0 51 rfl
theorem dX3_reckonCaps_101 : decode cX3_reckonCaps 101 = .ok (.iload 5, 2) := decAll_at aX3_reckonCaps_0 52 rfl
theorem dX3_reckonCaps_103 : decode cX3_reckonCaps 103 = .ok (.iadd, 1) := decAll_at aX3_reckonCaps_0 53 rfl
theorem dX3_reckonCaps_104 : decode cX3_reckonCaps 104 = .ok (.sipush 400, 3) := decAll_at aX3_reckonCaps_0 54 rfl
theorem dX3_reckonCaps_107 : decode cX3_reckonCaps 107 = .ok (.iastore, 1) := decAll_at aX3_reckonCaps_0 55 rfl
theorem dX3_reckonCaps_108 : decode cX3_reckonCaps 108 = .ok (.iinc 5 (-1), 3) := decAll_at aX3_reckonCaps_0 56 rfl
theorem dX3_reckonCaps_111 : decode cX3_reckonCaps 111 = .ok (.goto (-20), 3) := decAll_at aX3_reckonCaps_0 57 rfl
theorem dX3_reckonCaps_114 : decode cX3_reckonCaps 114 = .ok (.return_, 1) := decAll_at aX3_reckonCaps_0 58 rfl
def laX3_sharedPace_0 : List (Nat × Instr × Nat) := [(0, .iconst 0, 1), (1, .istore 4, 2), (3, .iload 4, 2), (5, .aload_n 0, 1), (6, .getfield 25, 3), (9, .getfield 52, 3), (12, .if_icmp .ge 29, 3), (15, .aload_n 0, 1), (16, .getfield 22, 3), (19, .iload 4, 2), (21, .aload_n 0, 1), (22, .iload 4, 2), (24, .iload_n 3, 1), (25, .iload 4, 2), (27, .invokestatic 82, 3), (30, .iload_n 2, 1), (31, .invokevirtual 85, 3), (34, .iastore, 1), (35, .iinc 4 1, 3), (38, .goto (-35), 3), (41, .iconst 0, 1), (42, .istore 4, 2), (44, .bipush 60, 2), (46, .istore 5, 2), (48, .iconst 0, 1), (49, .istore 6, 2), (51, .iload 6, 2), (53, .bipush 64, 2), (55, .if_icmp .ge 50, 3), (58, .iload 4, 2), (60, .iload 5, 2), (62, .if_icmp .ge 43, 3), (65, .iload 4, 2), (67, .iload 5, 2), (69, .iadd, 1), (70, .iconst 1, 1), (71, .iadd, 1), (72, .iconst 2, 1), (73, .idiv, 1), (74, .istore 7, 2), (76, .aload_n 0, 1), (77, .iload 7, 2), (79, .invokevirtual 88, 3), (82, .iload_n 1, 1), (83, .if_icmp .lt 10, 3), (86, .iload 7, 2), (88, .istore 4, 2), (90, .goto 9, 3), (93, .iload 7, 2), (95, .iconst 1, 1), (96, .isub, 1), (97, .istore 5, 2), (99, .iinc 6 1, 3), (102, .goto (-51), 3), (105, .iload 4, 2), (107, .ireturn, 1)]
theorem aX3_sharedPace_0 : decAll cX3_sharedPace laX3_sharedPace_0 = true := by decide +kernel
theorem dX3_sharedPace_0 : decode cX3_sharedPace 0 = .ok (.iconst 0, 1) := decAll_at aX3_sharedPace_0 0 rfl
theorem dX3_sharedPace_1 : decode cX3_sharedPace 1 = .ok (.istore 4, 2) := decAll_at aX3_sharedPace_0 1 rfl
theorem dX3_sharedPace_3 : decode cX3_sharedPace 3 = .ok (.iload 4, 2) := decAll_at aX3_sharedPace_0 2 rfl
theorem dX3_sharedPace_5 : decode cX3_sharedPace 5 = .ok (.aload_n 0, 1) := decAll_at aX3_sharedPace_0 3 rfl
theorem dX3_sharedPace_6 : decode cX3_sharedPace 6 = .ok (.getfield 25, 3) := decAll_at aX3_sharedPace_0 4 rfl
theorem dX3_sharedPace_9 : decode cX3_sharedPace 9 = .ok (.getfield 52, 3) := decAll_at aX3_sharedPace_0 5 rfl
theorem dX3_sharedPace_12 : decode cX3_sharedPace 12 = .ok (.if_icmp .ge 29, 3) := decAll_at aX3_sharedPace_0 6 rfl
theorem dX3_sharedPace_15 : decode cX3_sharedPace 15 = .ok (.aload_n 0, 1) := decAll_at aX3_sharedPace_0 7 rfl
theorem dX3_sharedPace_16 : decode cX3_sharedPace 16 = .ok (.getfield 22, 3) := decAll_at aX3_sharedPace_0 8 rfl
theorem dX3_sharedPace_19 : decode cX3_sharedPace 19 = .ok (.iload 4, 2) := decAll_at aX3_sharedPace_0 9 rfl
theorem dX3_sharedPace_21 : decode cX3_sharedPace 21 = .ok (.aload_n 0, 1) := decAll_at aX3_sharedPace_0 10 rfl
theorem dX3_sharedPace_22 : decode cX3_sharedPace 22 = .ok (.iload 4, 2) := decAll_at aX3_sharedPace_0 11 rfl
theorem dX3_sharedPace_24 : decode cX3_sharedPace 24 = .ok (.iload_n 3, 1) := decAll_at aX3_sharedPace_0 12 rfl
theorem dX3_sharedPace_25 : decode cX3_sharedPace 25 = .ok (.iload 4, 2) := decAll_at aX3_sharedPace_0 13 rfl
theorem dX3_sharedPace_27 : decode cX3_sharedPace 27 = .ok (.invokestatic 82, 3) := decAll_at aX3_sharedPace_0 14 rfl
theorem dX3_sharedPace_30 : decode cX3_sharedPace 30 = .ok (.iload_n 2, 1) := decAll_at aX3_sharedPace_0 15 rfl
theorem dX3_sharedPace_31 : decode cX3_sharedPace 31 = .ok (.invokevirtual 85, 3) := decAll_at aX3_sharedPace_0 16 rfl
theorem dX3_sharedPace_34 : decode cX3_sharedPace 34 = .ok (.iastore, 1) := decAll_at aX3_sharedPace_0 17 rfl
theorem dX3_sharedPace_35 : decode cX3_sharedPace 35 = .ok (.iinc 4 1, 3) := decAll_at aX3_sharedPace_0 18 rfl
theorem dX3_sharedPace_38 : decode cX3_sharedPace 38 = .ok (.goto (-35), 3) := decAll_at aX3_sharedPace_0 19 rfl
theorem dX3_sharedPace_41 : decode cX3_sharedPace 41 = .ok (.iconst 0, 1) := decAll_at aX3_sharedPace_0 20 rfl
theorem dX3_sharedPace_42 : decode cX3_sharedPace 42 = .ok (.istore 4, 2) := decAll_at aX3_sharedPace_0 21 rfl
theorem dX3_sharedPace_44 : decode cX3_sharedPace 44 = .ok (.bipush 60, 2) := decAll_at aX3_sharedPace_0 22 rfl
theorem dX3_sharedPace_46 : decode cX3_sharedPace 46 = .ok (.istore 5, 2) := decAll_at aX3_sharedPace_0 23 rfl
theorem dX3_sharedPace_48 : decode cX3_sharedPace 48 = .ok (.iconst 0, 1) := decAll_at aX3_sharedPace_0 24 rfl
theorem dX3_sharedPace_49 : decode cX3_sharedPace 49 = .ok (.istore 6, 2) := decAll_at aX3_sharedPace_0 25 rfl
theorem dX3_sharedPace_51 : decode cX3_sharedPace 51 = .ok (.iload 6, 2) := decAll_at aX3_sharedPace_0 26 rfl
theorem dX3_sharedPace_53 : decode cX3_sharedPace 53 = .ok (.bipush 64, 2) := decAll_at aX3_sharedPace_0 27 rfl
theorem dX3_sharedPace_55 : decode cX3_sharedPace 55 = .ok (.if_icmp .ge 50, 3) := decAll_at aX3_sharedPace_0 28 rfl
theorem dX3_sharedPace_58 : decode cX3_sharedPace 58 = .ok (.iload 4, 2) := decAll_at aX3_sharedPace_0 29 rfl
theorem dX3_sharedPace_60 : decode cX3_sharedPace 60 = .ok (.iload 5, 2) := decAll_at aX3_sharedPace_0 30 rfl
theorem dX3_sharedPace_62 : decode cX3_sharedPace 62 = .ok (.if_icmp .ge 43, 3) := decAll_at aX3_sharedPace_0 31 rfl
theorem dX3_sharedPace_65 : decode cX3_sharedPace 65 = .ok (.iload 4, 2) := decAll_at aX3_sharedPace_0 32 rfl
theorem dX3_sharedPace_67 : decode cX3_sharedPace 67 = .ok (.iload 5, 2) := decAll_at aX3_sharedPace_0 33 rfl
theorem dX3_sharedPace_69 : decode cX3_sharedPace 69 = .ok (.iadd, 1) := decAll_at aX3_sharedPace_0 34 rfl
theorem dX3_sharedPace_70 : decode cX3_sharedPace 70 = .ok (.iconst 1, 1) := decAll_at aX3_sharedPace_0 35 rfl
theorem dX3_sharedPace_71 : decode cX3_sharedPace 71 = .ok (.iadd, 1) := decAll_at aX3_sharedPace_0 36 rfl
theorem dX3_sharedPace_72 : decode cX3_sharedPace 72 = .ok (.iconst 2, 1) := decAll_at aX3_sharedPace_0 37 rfl
theorem dX3_sharedPace_73 : decode cX3_sharedPace 73 = .ok (.idiv, 1) := decAll_at aX3_sharedPace_0 38 rfl
theorem dX3_sharedPace_74 : decode cX3_sharedPace 74 = .ok (.istore 7, 2) := decAll_at aX3_sharedPace_0 39 rfl
theorem dX3_sharedPace_76 : decode cX3_sharedPace 76 = .ok (.aload_n 0, 1) := decAll_at aX3_sharedPace_0 40 rfl
theorem dX3_sharedPace_77 : decode cX3_sharedPace 77 = .ok (.iload 7, 2) := decAll_at aX3_sharedPace_0 41 rfl
theorem dX3_sharedPace_79 : decode cX3_sharedPace 79 = .ok (.invokevirtual 88, 3) := decAll_at aX3_sharedPace_0 42 rfl
theorem dX3_sharedPace_82 : decode cX3_sharedPace 82 = .ok (.iload_n 1, 1) := decAll_at aX3_sharedPace_0 43 rfl
theorem dX3_sharedPace_83 : decode cX3_sharedPace 83 = .ok (.if_icmp .lt 10, 3) := decAll_at aX3_sharedPace_0 44 rfl
theorem dX3_sharedPace_86 : decode cX3_sharedPace 86 = .ok (.iload 7, 2) := decAll_at aX3_sharedPace_0 45 rfl
theorem dX3_sharedPace_88 : decode cX3_sharedPace 88 = .ok (.istore 4, 2) := decAll_at aX3_sharedPace_0 46 rfl
theorem dX3_sharedPace_90 : decode cX3_sharedPace 90 = .ok (.goto 9, 3) := decAll_at aX3_sharedPace_0 47 rfl
theorem dX3_sharedPace_93 : decode cX3_sharedPace 93 = .ok (.iload 7, 2) := decAll_at aX3_sharedPace_0 48 rfl
theorem dX3_sharedPace_95 : decode cX3_sharedPace 95 = .ok (.iconst 1, 1) := decAll_at aX3_sharedPace_0 49 rfl
theorem dX3_sharedPace_96 : decode cX3_sharedPace 96 = .ok (.isub, 1) := decAll_at aX3_sharedPace_0 50 rfl
theorem dX3_sharedPace_97 : decode cX3_sharedPace 97 = .ok (.istore 5, 2) := decAll_at aX3_sharedPace_0 51 rfl
theorem dX3_sharedPace_99 : decode cX3_sharedPace 99 = .ok (.iinc 6 1, 3) := decAll_at aX3_sharedPace_0 52 rfl
theorem dX3_sharedPace_102 : decode cX3_sharedPace 102 = .ok (.goto (-51), 3) := decAll_at aX3_sharedPace_0 53 rfl
theorem dX3_sharedPace_105 : decode cX3_sharedPace 105 = .ok (.iload 4, 2) := decAll_at aX3_sharedPace_0 54 rfl
theorem dX3_sharedPace_107 : decode cX3_sharedPace 107 = .ok (.ireturn, 1) := decAll_at aX3_sharedPace_0 55 rfl
def laX3_together_0 : List (Nat × Instr × Nat) := [(0, .iconst 0, 1), (1, .istore_n 2, 1), (2, .iconst 0, 1), (3, .istore_n 3, 1), (4, .iload_n 3, 1), (5, .aload_n 0, 1), (6, .getfield 25, 3), (9, .getfield 52, 3), (12, .if_icmp .ge 36, 3), (15, .aload_n 0, 1), (16, .getfield 15, 3), (19, .aload_n 0, 1), (20, .getfield 22, 3), (23, .iload_n 3, 1), (24, .iaload, 1), (25, .iload_n 1, 1), (26, .iadd, 1), (27, .iaload, 1), (28, .istore 4, 2), (30, .iload 4, 2), (32, .ifCond .ge 5, 3), (35, .iconst (-1), 1), (36, .ireturn, 1), (37, .iload_n 2, 1), (38, .iload 4, 2), (40, .iadd, 1), (41, .istore_n 2, 1), (42, .iinc 3 1, 3), (45, .goto (-41), 3), (48, .iload_n 2, 1), (49, .ireturn, 1)]
theorem aX3_together_0 : decAll cX3_together laX3_together_0 = true := by decide +kernel
theorem dX3_together_0 : decode cX3_together 0 = .ok (.iconst 0, 1) := decAll_at aX3_together_0 0 rfl
theorem dX3_together_1 : decode cX3_together 1 = .ok (.istore_n 2, 1) := decAll_at aX3_together_0 1 rfl
theorem dX3_together_2 : decode cX3_together 2 = .ok (.iconst 0, 1) := decAll_at aX3_together_0 2 rfl
theorem dX3_together_3 : decode cX3_together 3 = .ok (.istore_n 3, 1) := decAll_at aX3_together_0 3 rfl
theorem dX3_together_4 : decode cX3_together 4 = .ok (.iload_n 3, 1) := decAll_at aX3_together_0 4 rfl
theorem dX3_together_5 : decode cX3_together 5 = .ok (.aload_n 0, 1) := decAll_at aX3_together_0 5 rfl
theorem dX3_together_6 : decode cX3_together 6 = .ok (.getfield 25, 3) := decAll_at aX3_together_0 6 rfl
theorem dX3_together_9 : decode cX3_together 9 = .ok (.getfield 52, 3) := decAll_at aX3_together_0 7 rfl
theorem dX3_together_12 : decode cX3_together 12 = .ok (.if_icmp .ge 36, 3) := decAll_at aX3_together_0 8 rfl
theorem dX3_together_15 : decode cX3_together 15 = .ok (.aload_n 0, 1) := decAll_at aX3_together_0 9 rfl
theorem dX3_together_16 : decode cX3_together 16 = .ok (.getfield 15, 3) := decAll_at aX3_together_0 10 rfl
theorem dX3_together_19 : decode cX3_together 19 = .ok (.aload_n 0, 1) := decAll_at aX3_together_0 11 rfl
theorem dX3_together_20 : decode cX3_together 20 = .ok (.getfield 22, 3) := decAll_at aX3_together_0 12 rfl
theorem dX3_together_23 : decode cX3_together 23 = .ok (.iload_n 3, 1) := decAll_at aX3_together_0 13 rfl
theorem dX3_together_24 : decode cX3_together 24 = .ok (.iaload, 1) := decAll_at aX3_together_0 14 rfl
theorem dX3_together_25 : decode cX3_together 25 = .ok (.iload_n 1, 1) := decAll_at aX3_together_0 15 rfl
theorem dX3_together_26 : decode cX3_together 26 = .ok (.iadd, 1) := decAll_at aX3_together_0 16 rfl
theorem dX3_together_27 : decode cX3_together 27 = .ok (.iaload, 1) := decAll_at aX3_together_0 17 rfl
theorem dX3_together_28 : decode cX3_together 28 = .ok (.istore 4, 2) := decAll_at aX3_together_0 18 rfl
theorem dX3_together_30 : decode cX3_together 30 = .ok (.iload 4, 2) := decAll_at aX3_together_0 19 rfl
theorem dX3_together_32 : decode cX3_together 32 = .ok (.ifCond .ge 5, 3) := decAll_at aX3_together_0 20 rfl
theorem dX3_together_35 : decode cX3_together 35 = .ok (.iconst (-1), 1) := decAll_at aX3_together_0 21 rfl
theorem dX3_together_36 : decode cX3_together 36 = .ok (.ireturn, 1) := decAll_at aX3_together_0 22 rfl
theorem dX3_together_37 : decode cX3_together 37 = .ok (.iload_n 2, 1) := decAll_at aX3_together_0 23 rfl
theorem dX3_together_38 : decode cX3_together 38 = .ok (.iload 4, 2) := decAll_at aX3_together_0 24 rfl
theorem dX3_together_40 : decode cX3_together 40 = .ok (.iadd, 1) := decAll_at aX3_together_0 25 rfl
theorem dX3_together_41 : decode cX3_together 41 = .ok (.istore_n 2, 1) := decAll_at aX3_together_0 26 rfl
theorem dX3_together_42 : decode cX3_together 42 = .ok (.iinc 3 1, 3) := decAll_at aX3_together_0 27 rfl
theorem dX3_together_45 : decode cX3_together 45 = .ok (.goto (-41), 3) := decAll_at aX3_together_0 28 rfl
theorem dX3_together_48 : decode cX3_together 48 = .ok (.iload_n 2, 1) := decAll_at aX3_together_0 29 rfl
theorem dX3_together_49 : decode cX3_together 49 = .ok (.ireturn, 1) := decAll_at aX3_together_0 30 rfl
def laX4_init_0 : List (Nat × Instr × Nat) := [(0, .aload_n 0, 1), (1, .invokespecial 3, 3), (4, .aload_n 0, 1), (5, .bipush 10, 2), (7, .newarray .int, 2), (9, .putfield 11, 3), (12, .aload_n 0, 1), (13, .bipush 10, 2), (15, .newarray .int, 2), (17, .putfield 15, 3), (20, .aload_n 0, 1), (21, .bipush 10, 2), (23, .newarray .int, 2), (25, .putfield 18, 3), (28, .aload_n 0, 1), (29, .bipush 6, 2), (31, .newarray .boolean, 2), (33, .putfield 21, 3), (36, .aload_n 0, 1), (37, .bipush 6, 2), (39, .newarray .int, 2), (41, .putfield 25, 3), (44, .aload_n 0, 1), (45, .bipush 6, 2), (47, .newarray .int, 2), (49, .putfield 28, 3), (52, .aload_n 0, 1), (53, .bipush 10, 2), (55, .newarray .int, 2), (57, .putfield 31, 3), (60, .aload_n 0, 1), (61, .sipush 1024, 3), (64, .newarray .int, 2), (66, .putfield 34, 3), (69, .aload_n 0, 1), (70, .aload_n 1, 1), (71, .putfield 37, 3), (74, .aload_n 0, 1), (75, .aload_n 2, 1), (76, .putfield 41, 3), (79, .return_, 1)]
theorem aX4_init_0 : decAll cX4_init laX4_init_0 = true := by decide +kernel
theorem dX4_init_0 : decode cX4_init 0 = .ok (.aload_n 0, 1) := decAll_at aX4_init_0 0 rfl
theorem dX4_init_1 : decode cX4_init 1 = .ok (.invokespecial 3, 3) := decAll_at aX4_init_0 1 rfl
theorem dX4_init_4 : decode cX4_init 4 = .ok (.aload_n 0, 1) := decAll_at aX4_init_0 2 rfl
theorem dX4_init_5 : decode cX4_init 5 = .ok (.bipush 10, 2) := decAll_at aX4_init_0 3 rfl
theorem dX4_init_7 : decode cX4_init 7 = .ok (.newarray .int, 2) := decAll_at aX4_init_0 4 rfl
theorem dX4_init_9 : decode cX4_init 9 = .ok (.putfield 11, 3) := decAll_at aX4_init_0 5 rfl
theorem dX4_init_12 : decode cX4_init 12 = .ok (.aload_n 0, 1) := decAll_at aX4_init_0 6 rfl
theorem dX4_init_13 : decode cX4_init 13 = .ok (.bipush 10, 2) := decAll_at aX4_init_0 7 rfl
theorem dX4_init_15 : decode cX4_init 15 = .ok (.newarray .int, 2) := decAll_at aX4_init_0 8 rfl
theorem dX4_init_17 : decode cX4_init 17 = .ok (.putfield 15, 3) := decAll_at aX4_init_0 9 rfl
theorem dX4_init_20 : decode cX4_init 20 = .ok (.aload_n 0, 1) := decAll_at aX4_init_0 10 rfl
theorem dX4_init_21 : decode cX4_init 21 = .ok (.bipush 10, 2) := decAll_at aX4_init_0 11 rfl
theorem dX4_init_23 : decode cX4_init 23 = .ok (.newarray .int, 2) := decAll_at aX4_init_0 12 rfl
theorem dX4_init_25 : decode cX4_init 25 = .ok (.putfield 18, 3) := decAll_at aX4_init_0 13 rfl
theorem dX4_init_28 : decode cX4_init 28 = .ok (.aload_n 0, 1) := decAll_at aX4_init_0 14 rfl
theorem dX4_init_29 : decode cX4_init 29 = .ok (.bipush 6, 2) := decAll_at aX4_init_0 15 rfl
theorem dX4_init_31 : decode cX4_init 31 = .ok (.newarray .boolean, 2) := decAll_at aX4_init_0 16 rfl
theorem dX4_init_33 : decode cX4_init 33 = .ok (.putfield 21, 3) := decAll_at aX4_init_0 17 rfl
theorem dX4_init_36 : decode cX4_init 36 = .ok (.aload_n 0, 1) := decAll_at aX4_init_0 18 rfl
theorem dX4_init_37 : decode cX4_init 37 = .ok (.bipush 6, 2) := decAll_at aX4_init_0 19 rfl
theorem dX4_init_39 : decode cX4_init 39 = .ok (.newarray .int, 2) := decAll_at aX4_init_0 20 rfl
theorem dX4_init_41 : decode cX4_init 41 = .ok (.putfield 25, 3) := decAll_at aX4_init_0 21 rfl
theorem dX4_init_44 : decode cX4_init 44 = .ok (.aload_n 0, 1) := decAll_at aX4_init_0 22 rfl
theorem dX4_init_45 : decode cX4_init 45 = .ok (.bipush 6, 2) := decAll_at aX4_init_0 23 rfl
theorem dX4_init_47 : decode cX4_init 47 = .ok (.newarray .int, 2) := decAll_at aX4_init_0 24 rfl
theorem dX4_init_49 : decode cX4_init 49 = .ok (.putfield 28, 3) := decAll_at aX4_init_0 25 rfl
theorem dX4_init_52 : decode cX4_init 52 = .ok (.aload_n 0, 1) := decAll_at aX4_init_0 26 rfl
theorem dX4_init_53 : decode cX4_init 53 = .ok (.bipush 10, 2) := decAll_at aX4_init_0 27 rfl
theorem dX4_init_55 : decode cX4_init 55 = .ok (.newarray .int, 2) := decAll_at aX4_init_0 28 rfl
theorem dX4_init_57 : decode cX4_init 57 = .ok (.putfield 31, 3) := decAll_at aX4_init_0 29 rfl
theorem dX4_init_60 : decode cX4_init 60 = .ok (.aload_n 0, 1) := decAll_at aX4_init_0 30 rfl
theorem dX4_init_61 : decode cX4_init 61 = .ok (.sipush 1024, 3) := decAll_at aX4_init_0 31 rfl
theorem dX4_init_64 : decode cX4_init 64 = .ok (.newarray .int, 2) := decAll_at aX4_init_0 32 rfl
theorem dX4_init_66 : decode cX4_init 66 = .ok (.putfield 34, 3) := decAll_at aX4_init_0 33 rfl
theorem dX4_init_69 : decode cX4_init 69 = .ok (.aload_n 0, 1) := decAll_at aX4_init_0 34 rfl
theorem dX4_init_70 : decode cX4_init 70 = .ok (.aload_n 1, 1) := decAll_at aX4_init_0 35 rfl
theorem dX4_init_71 : decode cX4_init 71 = .ok (.putfield 37, 3) := decAll_at aX4_init_0 36 rfl
theorem dX4_init_74 : decode cX4_init 74 = .ok (.aload_n 0, 1) := decAll_at aX4_init_0 37 rfl
theorem dX4_init_75 : decode cX4_init 75 = .ok (.aload_n 2, 1) := decAll_at aX4_init_0 38 rfl
theorem dX4_init_76 : decode cX4_init 76 = .ok (.putfield 41, 3) := decAll_at aX4_init_0 39 rfl
theorem dX4_init_79 : decode cX4_init 79 = .ok (.return_, 1) := decAll_at aX4_init_0 40 rfl
def laX4_begin_0 : List (Nat × Instr × Nat) := [(0, .aload_n 0, 1), (1, .iconst (-1), 1), (2, .putfield 45, 3), (5, .aload_n 0, 1), (6, .aload_n 0, 1), (7, .getfield 37, 3), (10, .getfield 49, 3), (13, .putfield 54, 3), (16, .iconst 0, 1), (17, .istore_n 3, 1), (18, .iload_n 3, 1), (19, .aload_n 0, 1), (20, .getfield 54, 3), (23, .if_icmp .ge 39, 3), (26, .aload_n 0, 1), (27, .getfield 11, 3), (30, .iload_n 3, 1), (31, .aload_n 0, 1), (32, .getfield 37, 3), (35, .iload_n 3, 1), (36, .iload_n 1, 1), (37, .invokevirtual 55, 3), (40, .iastore, 1), (41, .aload_n 0, 1), (42, .getfield 18, 3), (45, .iload_n 3, 1), (46, .aload_n 0, 1), (47, .getfield 37, 3), (50, .getfield 59, 3), (53, .iload_n 3, 1), (54, .iaload, 1), (55, .iastore, 1), (56, .iinc 3 1, 3), (59, .goto (-41), 3), (62, .iconst 0, 1), (63, .istore_n 3, 1), (64, .iload_n 3, 1), (65, .bipush 6, 2), (67, .if_icmp .ge 60, 3), (70, .aload_n 0, 1), (71, .getfield 21, 3), (74, .iload_n 3, 1), (75, .iload_n 3, 1), (76, .aload_n 0, 1), (77, .getfield 37, 3), (80, .getfield 62, 3), (83, .if_icmp .ge 7, 3), (86, .iconst 1, 1), (87, .goto 4, 3), (90, .iconst 0, 1), (91, .bastore, 1), (92, .aload_n 0, 1), (93, .getfield 21, 3), (96, .iload_n 3, 1), (97, .baload, 1), (98, .ifCond .eq 23, 3), (101, .aload_n 0, 1), (102, .getfield 25, 3), (105, .iload_n 3, 1), (106, .aload_n 0, 1), (107, .getfield 41, 3), (110, .iload_n 3, 1), (111, .iload_n 2, 1), (112, .iload_n 3, 1)]
theorem aX4_begin_0 : decAll cX4_begin laX4_begin_0 = true := by decide +kernel
theorem dX4_begin_0 : decode cX4_begin 0 = .ok (.aload_n 0, 1) := decAll_at aX4_begin_0 0 rfl
theorem dX4_begin_1 : decode cX4_begin 1 = .ok (.iconst (-1), 1) := decAll_at aX4_begin_0 1 rfl
theorem dX4_begin_2 : decode cX4_begin 2 = .ok (.putfield 45, 3) := decAll_at aX4_begin_0 2 rfl
theorem dX4_begin_5 : decode cX4_begin 5 = .ok (.aload_n 0, 1) := decAll_at aX4_begin_0 3 rfl
theorem dX4_begin_6 : decode cX4_begin 6 = .ok (.aload_n 0, 1) := decAll_at aX4_begin_0 4 rfl
theorem dX4_begin_7 : decode cX4_begin 7 = .ok (.getfield 37, 3) := decAll_at aX4_begin_0 5 rfl
theorem dX4_begin_10 : decode cX4_begin 10 = .ok (.getfield 49, 3) := decAll_at aX4_begin_0 6 rfl
theorem dX4_begin_13 : decode cX4_begin 13 = .ok (.putfield 54, 3) := decAll_at aX4_begin_0 7 rfl
theorem dX4_begin_16 : decode cX4_begin 16 = .ok (.iconst 0, 1) := decAll_at aX4_begin_0 8 rfl
theorem dX4_begin_17 : decode cX4_begin 17 = .ok (.istore_n 3, 1) := decAll_at aX4_begin_0 9 rfl
theorem dX4_begin_18 : decode cX4_begin 18 = .ok (.iload_n 3, 1) := decAll_at aX4_begin_0 10 rfl
theorem dX4_begin_19 : decode cX4_begin 19 = .ok (.aload_n 0, 1) := decAll_at aX4_begin_0 11 rfl
theorem dX4_begin_20 : decode cX4_begin 20 = .ok (.getfield 54, 3) := decAll_at aX4_begin_0 12 rfl
theorem dX4_begin_23 : decode cX4_begin 23 = .ok (.if_icmp .ge 39, 3) := decAll_at aX4_begin_0 13 rfl
theorem dX4_begin_26 : decode cX4_begin 26 = .ok (.aload_n 0, 1) := decAll_at aX4_begin_0 14 rfl
theorem dX4_begin_27 : decode cX4_begin 27 = .ok (.getfield 11, 3) := decAll_at aX4_begin_0 15 rfl
theorem dX4_begin_30 : decode cX4_begin 30 = .ok (.iload_n 3, 1) := decAll_at aX4_begin_0 16 rfl
theorem dX4_begin_31 : decode cX4_begin 31 = .ok (.aload_n 0, 1) := decAll_at aX4_begin_0 17 rfl
theorem dX4_begin_32 : decode cX4_begin 32 = .ok (.getfield 37, 3) := decAll_at aX4_begin_0 18 rfl
theorem dX4_begin_35 : decode cX4_begin 35 = .ok (.iload_n 3, 1) := decAll_at aX4_begin_0 19 rfl
theorem dX4_begin_36 : decode cX4_begin 36 = .ok (.iload_n 1, 1) := decAll_at aX4_begin_0 20 rfl
theorem dX4_begin_37 : decode cX4_begin 37 = .ok (.invokevirtual 55, 3) := decAll_at aX4_begin_0 21 rfl
theorem dX4_begin_40 : decode cX4_begin 40 = .ok (.iastore, 1) := decAll_at aX4_begin_0 22 rfl
theorem dX4_begin_41 : decode cX4_begin 41 = .ok (.aload_n 0, 1) := decAll_at aX4_begin_0 23 rfl
theorem dX4_begin_42 : decode cX4_begin 42 = .ok (.getfield 18, 3) := decAll_at aX4_begin_0 24 rfl
theorem dX4_begin_45 : decode cX4_begin 45 = .ok (.iload_n 3, 1) := decAll_at aX4_begin_0 25 rfl
theorem dX4_begin_46 : decode cX4_begin 46 = .ok (.aload_n 0, 1) := decAll_at aX4_begin_0 26 rfl
theorem dX4_begin_47 : decode cX4_begin 47 = .ok (.getfield 37, 3) := decAll_at aX4_begin_0 27 rfl
theorem dX4_begin_50 : decode cX4_begin 50 = .ok (.getfield 59, 3) := decAll_at aX4_begin_0 28 rfl
theorem dX4_begin_53 : decode cX4_begin 53 = .ok (.iload_n 3, 1) := decAll_at aX4_begin_0 29 rfl
theorem dX4_begin_54 : decode cX4_begin 54 = .ok (.iaload, 1) := decAll_at aX4_begin_0 30 rfl
theorem dX4_begin_55 : decode cX4_begin 55 = .ok (.iastore, 1) := decAll_at aX4_begin_0 31 rfl
theorem dX4_begin_56 : decode cX4_begin 56 = .ok (.iinc 3 1, 3) := decAll_at aX4_begin_0 32 rfl
theorem dX4_begin_59 : decode cX4_begin 59 = .ok (.goto (-41), 3) := decAll_at aX4_begin_0 33 rfl
theorem dX4_begin_62 : decode cX4_begin 62 = .ok (.iconst 0, 1) := decAll_at aX4_begin_0 34 rfl
theorem dX4_begin_63 : decode cX4_begin 63 = .ok (.istore_n 3, 1) := decAll_at aX4_begin_0 35 rfl
theorem dX4_begin_64 : decode cX4_begin 64 = .ok (.iload_n 3, 1) := decAll_at aX4_begin_0 36 rfl
theorem dX4_begin_65 : decode cX4_begin 65 = .ok (.bipush 6, 2) := decAll_at aX4_begin_0 37 rfl
theorem dX4_begin_67 : decode cX4_begin 67 = .ok (.if_icmp .ge 60, 3) := decAll_at aX4_begin_0 38 rfl
theorem dX4_begin_70 : decode cX4_begin 70 = .ok (.aload_n 0, 1) := decAll_at aX4_begin_0 39 rfl
theorem dX4_begin_71 : decode cX4_begin 71 = .ok (.getfield 21, 3) := decAll_at aX4_begin_0 40 rfl
theorem dX4_begin_74 : decode cX4_begin 74 = .ok (.iload_n 3, 1) := decAll_at aX4_begin_0 41 rfl
theorem dX4_begin_75 : decode cX4_begin 75 = .ok (.iload_n 3, 1) := decAll_at aX4_begin_0 42 rfl
theorem dX4_begin_76 : decode cX4_begin 76 = .ok (.aload_n 0, 1) := decAll_at aX4_begin_0 43 rfl
theorem dX4_begin_77 : decode cX4_begin 77 = .ok (.getfield 37, 3) := decAll_at aX4_begin_0 44 rfl
theorem dX4_begin_80 : decode cX4_begin 80 = .ok (.getfield 62, 3) := decAll_at aX4_begin_0 45 rfl
theorem dX4_begin_83 : decode cX4_begin 83 = .ok (.if_icmp .ge 7, 3) := decAll_at aX4_begin_0 46 rfl
theorem dX4_begin_86 : decode cX4_begin 86 = .ok (.iconst 1, 1) := decAll_at aX4_begin_0 47 rfl
theorem dX4_begin_87 : decode cX4_begin 87 = .ok (.goto 4, 3) := decAll_at aX4_begin_0 48 rfl
theorem dX4_begin_90 : decode cX4_begin 90 = .ok (.iconst 0, 1) := decAll_at aX4_begin_0 49 rfl
theorem dX4_begin_91 : decode cX4_begin 91 = .ok (.bastore, 1) := decAll_at aX4_begin_0 50 rfl
theorem dX4_begin_92 : decode cX4_begin 92 = .ok (.aload_n 0, 1) := decAll_at aX4_begin_0 51 rfl
theorem dX4_begin_93 : decode cX4_begin 93 = .ok (.getfield 21, 3) := decAll_at aX4_begin_0 52 rfl
theorem dX4_begin_96 : decode cX4_begin 96 = .ok (.iload_n 3, 1) := decAll_at aX4_begin_0 53 rfl
theorem dX4_begin_97 : decode cX4_begin 97 = .ok (.baload, 1) := decAll_at aX4_begin_0 54 rfl
theorem dX4_begin_98 : decode cX4_begin 98 = .ok (.ifCond .eq 23, 3) := decAll_at aX4_begin_0 55 rfl
theorem dX4_begin_101 : decode cX4_begin 101 = .ok (.aload_n 0, 1) := decAll_at aX4_begin_0 56 rfl
theorem dX4_begin_102 : decode cX4_begin 102 = .ok (.getfield 25, 3) := decAll_at aX4_begin_0 57 rfl
theorem dX4_begin_105 : decode cX4_begin 105 = .ok (.iload_n 3, 1) := decAll_at aX4_begin_0 58 rfl
theorem dX4_begin_106 : decode cX4_begin 106 = .ok (.aload_n 0, 1) := decAll_at aX4_begin_0 59 rfl
theorem dX4_begin_107 : decode cX4_begin 107 = .ok (.getfield 41, 3) := decAll_at aX4_begin_0 60 rfl
theorem dX4_begin_110 : decode cX4_begin 110 = .ok (.iload_n 3, 1) := decAll_at aX4_begin_0 61 rfl
theorem dX4_begin_111 : decode cX4_begin 111 = .ok (.iload_n 2, 1) := decAll_at aX4_begin_0 62 rfl
theorem dX4_begin_112 : decode cX4_begin 112 = .ok (.iload_n 3, 1) := decAll_at aX4_begin_0 63 rfl
def laX4_begin_1 : List (Nat × Instr × Nat) := [(113, .invokestatic 65, 3), (116, .iload_n 1, 1), (117, .invokevirtual 68, 3), (120, .iastore, 1), (121, .iinc 3 1, 3), (124, .goto (-60), 3), (127, .return_, 1)]
theorem aX4_begin_1 : decAll cX4_begin laX4_begin_1 = true := by decide +kernel
theorem dX4_begin_113 : decode cX4_begin 113 = .ok (.invokestatic 65, 3) := decAll_at aX4_begin_1 0 rfl
theorem dX4_begin_116 : decode cX4_begin 116 = .ok (.iload_n 1, 1) := decAll_at aX4_begin_1 1 rfl
theorem dX4_begin_117 : decode cX4_begin 117 = .ok (.invokevirtual 68, 3) := decAll_at aX4_begin_1 2 rfl
theorem dX4_begin_120 : decode cX4_begin 120 = .ok (.iastore, 1) := decAll_at aX4_begin_1 3 rfl
theorem dX4_begin_121 : decode cX4_begin 121 = .ok (.iinc 3 1, 3) := decAll_at aX4_begin_1 4 rfl
theorem dX4_begin_124 : decode cX4_begin 124 = .ok (.goto (-60), 3) := decAll_at aX4_begin_1 5 rfl
theorem dX4_begin_127 : decode cX4_begin 127 = .ok (.return_, 1) := decAll_at aX4_begin_1 6 rfl
def laX4_freeAll_0 : List (Nat × Instr × Nat) := [(0, .iconst 0, 1), (1, .istore_n 1, 1), (2, .iload_n 1, 1), (3, .aload_n 0, 1), (4, .getfield 54, 3), (7, .if_icmp .ge 16, 3), (10, .aload_n 0, 1), (11, .getfield 18, 3), (14, .iload_n 1, 1), (15, .iconst (-1), 1), (16, .iastore, 1), (17, .iinc 1 1, 3), (20, .goto (-18), 3), (23, .return_, 1)]
theorem aX4_freeAll_0 : decAll cX4_freeAll laX4_freeAll_0 = true := by decide +kernel
theorem dX4_freeAll_0 : decode cX4_freeAll 0 = .ok (.iconst 0, 1) := decAll_at aX4_freeAll_0 0 rfl
theorem dX4_freeAll_1 : decode cX4_freeAll 1 = .ok (.istore_n 1, 1) := decAll_at aX4_freeAll_0 1 rfl
theorem dX4_freeAll_2 : decode cX4_freeAll 2 = .ok (.iload_n 1, 1) := decAll_at aX4_freeAll_0 2 rfl
theorem dX4_freeAll_3 : decode cX4_freeAll 3 = .ok (.aload_n 0, 1) := decAll_at aX4_freeAll_0 3 rfl
theorem dX4_freeAll_4 : decode cX4_freeAll 4 = .ok (.getfield 54, 3) := decAll_at aX4_freeAll_0 4 rfl
theorem dX4_freeAll_7 : decode cX4_freeAll 7 = .ok (.if_icmp .ge 16, 3) := decAll_at aX4_freeAll_0 5 rfl
theorem dX4_freeAll_10 : decode cX4_freeAll 10 = .ok (.aload_n 0, 1) := decAll_at aX4_freeAll_0 6 rfl
theorem dX4_freeAll_11 : decode cX4_freeAll 11 = .ok (.getfield 18, 3) := decAll_at aX4_freeAll_0 7 rfl
theorem dX4_freeAll_14 : decode cX4_freeAll 14 = .ok (.iload_n 1, 1) := decAll_at aX4_freeAll_0 8 rfl
theorem dX4_freeAll_15 : decode cX4_freeAll 15 = .ok (.iconst (-1), 1) := decAll_at aX4_freeAll_0 9 rfl
theorem dX4_freeAll_16 : decode cX4_freeAll 16 = .ok (.iastore, 1) := decAll_at aX4_freeAll_0 10 rfl
theorem dX4_freeAll_17 : decode cX4_freeAll 17 = .ok (.iinc 1 1, 3) := decAll_at aX4_freeAll_0 11 rfl
theorem dX4_freeAll_20 : decode cX4_freeAll 20 = .ok (.goto (-18), 3) := decAll_at aX4_freeAll_0 12 rfl
theorem dX4_freeAll_23 : decode cX4_freeAll 23 = .ok (.return_, 1) := decAll_at aX4_freeAll_0 13 rfl
def laX4_leaveOut_0 : List (Nat × Instr × Nat) := [(0, .aload_n 0, 1), (1, .getfield 21, 3), (4, .iload_n 1, 1), (5, .iconst 0, 1), (6, .bastore, 1), (7, .iconst 0, 1), (8, .istore_n 2, 1), (9, .iload_n 2, 1), (10, .aload_n 0, 1), (11, .getfield 54, 3), (14, .if_icmp .ge 26, 3), (17, .aload_n 0, 1), (18, .getfield 18, 3), (21, .iload_n 2, 1), (22, .iaload, 1), (23, .iload_n 1, 1), (24, .if_icmp .ne 10, 3), (27, .aload_n 0, 1), (28, .getfield 18, 3), (31, .iload_n 2, 1), (32, .iconst (-1), 1), (33, .iastore, 1), (34, .iinc 2 1, 3), (37, .goto (-28), 3), (40, .return_, 1)]
theorem aX4_leaveOut_0 : decAll cX4_leaveOut laX4_leaveOut_0 = true := by decide +kernel
theorem dX4_leaveOut_0 : decode cX4_leaveOut 0 = .ok (.aload_n 0, 1) := decAll_at aX4_leaveOut_0 0 rfl
theorem dX4_leaveOut_1 : decode cX4_leaveOut 1 = .ok (.getfield 21, 3) := decAll_at aX4_leaveOut_0 1 rfl
theorem dX4_leaveOut_4 : decode cX4_leaveOut 4 = .ok (.iload_n 1, 1) := decAll_at aX4_leaveOut_0 2 rfl
theorem dX4_leaveOut_5 : decode cX4_leaveOut 5 = .ok (.iconst 0, 1) := decAll_at aX4_leaveOut_0 3 rfl
theorem dX4_leaveOut_6 : decode cX4_leaveOut 6 = .ok (.bastore, 1) := decAll_at aX4_leaveOut_0 4 rfl
theorem dX4_leaveOut_7 : decode cX4_leaveOut 7 = .ok (.iconst 0, 1) := decAll_at aX4_leaveOut_0 5 rfl
theorem dX4_leaveOut_8 : decode cX4_leaveOut 8 = .ok (.istore_n 2, 1) := decAll_at aX4_leaveOut_0 6 rfl
theorem dX4_leaveOut_9 : decode cX4_leaveOut 9 = .ok (.iload_n 2, 1) := decAll_at aX4_leaveOut_0 7 rfl
theorem dX4_leaveOut_10 : decode cX4_leaveOut 10 = .ok (.aload_n 0, 1) := decAll_at aX4_leaveOut_0 8 rfl
theorem dX4_leaveOut_11 : decode cX4_leaveOut 11 = .ok (.getfield 54, 3) := decAll_at aX4_leaveOut_0 9 rfl
theorem dX4_leaveOut_14 : decode cX4_leaveOut 14 = .ok (.if_icmp .ge 26, 3) := decAll_at aX4_leaveOut_0 10 rfl
theorem dX4_leaveOut_17 : decode cX4_leaveOut 17 = .ok (.aload_n 0, 1) := decAll_at aX4_leaveOut_0 11 rfl
theorem dX4_leaveOut_18 : decode cX4_leaveOut 18 = .ok (.getfield 18, 3) := decAll_at aX4_leaveOut_0 12 rfl
theorem dX4_leaveOut_21 : decode cX4_leaveOut 21 = .ok (.iload_n 2, 1) := decAll_at aX4_leaveOut_0 13 rfl
theorem dX4_leaveOut_22 : decode cX4_leaveOut 22 = .ok (.iaload, 1) := decAll_at aX4_leaveOut_0 14 rfl
theorem dX4_leaveOut_23 : decode cX4_leaveOut 23 = .ok (.iload_n 1, 1) := decAll_at aX4_leaveOut_0 15 rfl
theorem dX4_leaveOut_24 : decode cX4_leaveOut 24 = .ok (.if_icmp .ne 10, 3) := decAll_at aX4_leaveOut_0 16 rfl
theorem dX4_leaveOut_27 : decode cX4_leaveOut 27 = .ok (.aload_n 0, 1) := decAll_at aX4_leaveOut_0 17 rfl
theorem dX4_leaveOut_28 : decode cX4_leaveOut 28 = .ok (.getfield 18, 3) := decAll_at aX4_leaveOut_0 18 rfl
theorem dX4_leaveOut_31 : decode cX4_leaveOut 31 = .ok (.iload_n 2, 1) := decAll_at aX4_leaveOut_0 19 rfl
theorem dX4_leaveOut_32 : decode cX4_leaveOut 32 = .ok (.iconst (-1), 1) := decAll_at aX4_leaveOut_0 20 rfl
theorem dX4_leaveOut_33 : decode cX4_leaveOut 33 = .ok (.iastore, 1) := decAll_at aX4_leaveOut_0 21 rfl
theorem dX4_leaveOut_34 : decode cX4_leaveOut 34 = .ok (.iinc 2 1, 3) := decAll_at aX4_leaveOut_0 22 rfl
theorem dX4_leaveOut_37 : decode cX4_leaveOut 37 = .ok (.goto (-28), 3) := decAll_at aX4_leaveOut_0 23 rfl
theorem dX4_leaveOut_40 : decode cX4_leaveOut 40 = .ok (.return_, 1) := decAll_at aX4_leaveOut_0 24 rfl
def laX4_addLoad_0 : List (Nat × Instr × Nat) := [(0, .aload_n 0, 1), (1, .getfield 54, 3), (4, .bipush 10, 2), (6, .if_icmp .ge 33, 3), (9, .aload_n 0, 1), (10, .getfield 11, 3), (13, .aload_n 0, 1), (14, .getfield 54, 3), (17, .iload_n 1, 1), (18, .iastore, 1), (19, .aload_n 0, 1), (20, .getfield 18, 3), (23, .aload_n 0, 1), (24, .getfield 54, 3), (27, .iconst (-1), 1), (28, .iastore, 1), (29, .aload_n 0, 1), (30, .dup, 1), (31, .getfield 54, 3), (34, .iconst 1, 1), (35, .iadd, 1), (36, .putfield 54, 3), (39, .return_, 1)]
theorem aX4_addLoad_0 : decAll cX4_addLoad laX4_addLoad_0 = true := by decide +kernel
theorem dX4_addLoad_0 : decode cX4_addLoad 0 = .ok (.aload_n 0, 1) := decAll_at aX4_addLoad_0 0 rfl
theorem dX4_addLoad_1 : decode cX4_addLoad 1 = .ok (.getfield 54, 3) := decAll_at aX4_addLoad_0 1 rfl
theorem dX4_addLoad_4 : decode cX4_addLoad 4 = .ok (.bipush 10, 2) := decAll_at aX4_addLoad_0 2 rfl
theorem dX4_addLoad_6 : decode cX4_addLoad 6 = .ok (.if_icmp .ge 33, 3) := decAll_at aX4_addLoad_0 3 rfl
theorem dX4_addLoad_9 : decode cX4_addLoad 9 = .ok (.aload_n 0, 1) := decAll_at aX4_addLoad_0 4 rfl
theorem dX4_addLoad_10 : decode cX4_addLoad 10 = .ok (.getfield 11, 3) := decAll_at aX4_addLoad_0 5 rfl
theorem dX4_addLoad_13 : decode cX4_addLoad 13 = .ok (.aload_n 0, 1) := decAll_at aX4_addLoad_0 6 rfl
theorem dX4_addLoad_14 : decode cX4_addLoad 14 = .ok (.getfield 54, 3) := decAll_at aX4_addLoad_0 7 rfl
theorem dX4_addLoad_17 : decode cX4_addLoad 17 = .ok (.iload_n 1, 1) := decAll_at aX4_addLoad_0 8 rfl
theorem dX4_addLoad_18 : decode cX4_addLoad 18 = .ok (.iastore, 1) := decAll_at aX4_addLoad_0 9 rfl
theorem dX4_addLoad_19 : decode cX4_addLoad 19 = .ok (.aload_n 0, 1) := decAll_at aX4_addLoad_0 10 rfl
theorem dX4_addLoad_20 : decode cX4_addLoad 20 = .ok (.getfield 18, 3) := decAll_at aX4_addLoad_0 11 rfl
theorem dX4_addLoad_23 : decode cX4_addLoad 23 = .ok (.aload_n 0, 1) := decAll_at aX4_addLoad_0 12 rfl
theorem dX4_addLoad_24 : decode cX4_addLoad 24 = .ok (.getfield 54, 3) := decAll_at aX4_addLoad_0 13 rfl
theorem dX4_addLoad_27 : decode cX4_addLoad 27 = .ok (.iconst (-1), 1) := decAll_at aX4_addLoad_0 14 rfl
theorem dX4_addLoad_28 : decode cX4_addLoad 28 = .ok (.iastore, 1) := decAll_at aX4_addLoad_0 15 rfl
theorem dX4_addLoad_29 : decode cX4_addLoad 29 = .ok (.aload_n 0, 1) := decAll_at aX4_addLoad_0 16 rfl
theorem dX4_addLoad_30 : decode cX4_addLoad 30 = .ok (.dup, 1) := decAll_at aX4_addLoad_0 17 rfl
theorem dX4_addLoad_31 : decode cX4_addLoad 31 = .ok (.getfield 54, 3) := decAll_at aX4_addLoad_0 18 rfl
theorem dX4_addLoad_34 : decode cX4_addLoad 34 = .ok (.iconst 1, 1) := decAll_at aX4_addLoad_0 19 rfl
theorem dX4_addLoad_35 : decode cX4_addLoad 35 = .ok (.iadd, 1) := decAll_at aX4_addLoad_0 20 rfl
theorem dX4_addLoad_36 : decode cX4_addLoad 36 = .ok (.putfield 54, 3) := decAll_at aX4_addLoad_0 21 rfl
theorem dX4_addLoad_39 : decode cX4_addLoad 39 = .ok (.return_, 1) := decAll_at aX4_addLoad_0 22 rfl
def laX4_greatest_0 : List (Nat × Instr × Nat) := [(0, .iconst 0, 1), (1, .istore_n 1, 1), (2, .bipush 60, 2), (4, .istore_n 2, 1), (5, .iconst 0, 1), (6, .istore_n 3, 1), (7, .iload_n 3, 1), (8, .bipush 64, 2), (10, .if_icmp .ge 43, 3), (13, .iload_n 1, 1), (14, .iload_n 2, 1), (15, .if_icmp .ge 38, 3), (18, .iload_n 1, 1), (19, .iload_n 2, 1), (20, .iadd, 1), (21, .iconst 1, 1), (22, .iadd, 1), (23, .iconst 2, 1), (24, .idiv, 1), (25, .istore 4, 2), (27, .aload_n 0, 1), (28, .iload 4, 2), (30, .invokevirtual 73, 3), (33, .ifCond .eq 9, 3), (36, .iload 4, 2), (38, .istore_n 1, 1), (39, .goto 8, 3), (42, .iload 4, 2), (44, .iconst 1, 1), (45, .isub, 1), (46, .istore_n 2, 1), (47, .iinc 3 1, 3), (50, .goto (-43), 3), (53, .iload_n 1, 1), (54, .ireturn, 1)]
theorem aX4_greatest_0 : decAll cX4_greatest laX4_greatest_0 = true := by decide +kernel
theorem dX4_greatest_0 : decode cX4_greatest 0 = .ok (.iconst 0, 1) := decAll_at aX4_greatest_0 0 rfl
theorem dX4_greatest_1 : decode cX4_greatest 1 = .ok (.istore_n 1, 1) := decAll_at aX4_greatest_0 1 rfl
theorem dX4_greatest_2 : decode cX4_greatest 2 = .ok (.bipush 60, 2) := decAll_at aX4_greatest_0 2 rfl
theorem dX4_greatest_4 : decode cX4_greatest 4 = .ok (.istore_n 2, 1) := decAll_at aX4_greatest_0 3 rfl
theorem dX4_greatest_5 : decode cX4_greatest 5 = .ok (.iconst 0, 1) := decAll_at aX4_greatest_0 4 rfl
theorem dX4_greatest_6 : decode cX4_greatest 6 = .ok (.istore_n 3, 1) := decAll_at aX4_greatest_0 5 rfl
theorem dX4_greatest_7 : decode cX4_greatest 7 = .ok (.iload_n 3, 1) := decAll_at aX4_greatest_0 6 rfl
theorem dX4_greatest_8 : decode cX4_greatest 8 = .ok (.bipush 64, 2) := decAll_at aX4_greatest_0 7 rfl
theorem dX4_greatest_10 : decode cX4_greatest 10 = .ok (.if_icmp .ge 43, 3) := decAll_at aX4_greatest_0 8 rfl
theorem dX4_greatest_13 : decode cX4_greatest 13 = .ok (.iload_n 1, 1) := decAll_at aX4_greatest_0 9 rfl
theorem dX4_greatest_14 : decode cX4_greatest 14 = .ok (.iload_n 2, 1) := decAll_at aX4_greatest_0 10 rfl
theorem dX4_greatest_15 : decode cX4_greatest 15 = .ok (.if_icmp .ge 38, 3) := decAll_at aX4_greatest_0 11 rfl
theorem dX4_greatest_18 : decode cX4_greatest 18 = .ok (.iload_n 1, 1) := decAll_at aX4_greatest_0 12 rfl
theorem dX4_greatest_19 : decode cX4_greatest 19 = .ok (.iload_n 2, 1) := decAll_at aX4_greatest_0 13 rfl
theorem dX4_greatest_20 : decode cX4_greatest 20 = .ok (.iadd, 1) := decAll_at aX4_greatest_0 14 rfl
theorem dX4_greatest_21 : decode cX4_greatest 21 = .ok (.iconst 1, 1) := decAll_at aX4_greatest_0 15 rfl
theorem dX4_greatest_22 : decode cX4_greatest 22 = .ok (.iadd, 1) := decAll_at aX4_greatest_0 16 rfl
theorem dX4_greatest_23 : decode cX4_greatest 23 = .ok (.iconst 2, 1) := decAll_at aX4_greatest_0 17 rfl
theorem dX4_greatest_24 : decode cX4_greatest 24 = .ok (.idiv, 1) := decAll_at aX4_greatest_0 18 rfl
theorem dX4_greatest_25 : decode cX4_greatest 25 = .ok (.istore 4, 2) := decAll_at aX4_greatest_0 19 rfl
theorem dX4_greatest_27 : decode cX4_greatest 27 = .ok (.aload_n 0, 1) := decAll_at aX4_greatest_0 20 rfl
theorem dX4_greatest_28 : decode cX4_greatest 28 = .ok (.iload 4, 2) := decAll_at aX4_greatest_0 21 rfl
theorem dX4_greatest_30 : decode cX4_greatest 30 = .ok (.invokevirtual 73, 3) := decAll_at aX4_greatest_0 22 rfl
theorem dX4_greatest_33 : decode cX4_greatest 33 = .ok (.ifCond .eq 9, 3) := decAll_at aX4_greatest_0 23 rfl
theorem dX4_greatest_36 : decode cX4_greatest 36 = .ok (.iload 4, 2) := decAll_at aX4_greatest_0 24 rfl
theorem dX4_greatest_38 : decode cX4_greatest 38 = .ok (.istore_n 1, 1) := decAll_at aX4_greatest_0 25 rfl
theorem dX4_greatest_39 : decode cX4_greatest 39 = .ok (.goto 8, 3) := decAll_at aX4_greatest_0 26 rfl
theorem dX4_greatest_42 : decode cX4_greatest 42 = .ok (.iload 4, 2) := decAll_at aX4_greatest_0 27 rfl
theorem dX4_greatest_44 : decode cX4_greatest 44 = .ok (.iconst 1, 1) := decAll_at aX4_greatest_0 28 rfl
theorem dX4_greatest_45 : decode cX4_greatest 45 = .ok (.isub, 1) := decAll_at aX4_greatest_0 29 rfl
theorem dX4_greatest_46 : decode cX4_greatest 46 = .ok (.istore_n 2, 1) := decAll_at aX4_greatest_0 30 rfl
theorem dX4_greatest_47 : decode cX4_greatest 47 = .ok (.iinc 3 1, 3) := decAll_at aX4_greatest_0 31 rfl
theorem dX4_greatest_50 : decode cX4_greatest 50 = .ok (.goto (-43), 3) := decAll_at aX4_greatest_0 32 rfl
theorem dX4_greatest_53 : decode cX4_greatest 53 = .ok (.iload_n 1, 1) := decAll_at aX4_greatest_0 33 rfl
theorem dX4_greatest_54 : decode cX4_greatest 54 = .ok (.ireturn, 1) := decAll_at aX4_greatest_0 34 rfl
def laX4_fits_0 : List (Nat × Instr × Nat) := [(0, .aload_n 0, 1), (1, .iload_n 1, 1), (2, .invokevirtual 77, 3), (5, .ifCond .eq 15, 3), (8, .aload_n 0, 1), (9, .iconst 0, 1), (10, .invokevirtual 80, 3), (13, .ifCond .eq 7, 3), (16, .iconst 1, 1), (17, .goto 4, 3), (20, .iconst 0, 1), (21, .ireturn, 1)]
theorem aX4_fits_0 : decAll cX4_fits laX4_fits_0 = true := by decide +kernel
theorem dX4_fits_0 : decode cX4_fits 0 = .ok (.aload_n 0, 1) := decAll_at aX4_fits_0 0 rfl
theorem dX4_fits_1 : decode cX4_fits 1 = .ok (.iload_n 1, 1) := decAll_at aX4_fits_0 1 rfl
theorem dX4_fits_2 : decode cX4_fits 2 = .ok (.invokevirtual 77, 3) := decAll_at aX4_fits_0 2 rfl
theorem dX4_fits_5 : decode cX4_fits 5 = .ok (.ifCond .eq 15, 3) := decAll_at aX4_fits_0 3 rfl
theorem dX4_fits_8 : decode cX4_fits 8 = .ok (.aload_n 0, 1) := decAll_at aX4_fits_0 4 rfl
theorem dX4_fits_9 : decode cX4_fits 9 = .ok (.iconst 0, 1) := decAll_at aX4_fits_0 5 rfl
theorem dX4_fits_10 : decode cX4_fits 10 = .ok (.invokevirtual 80, 3) := decAll_at aX4_fits_0 6 rfl
theorem dX4_fits_13 : decode cX4_fits 13 = .ok (.ifCond .eq 7, 3) := decAll_at aX4_fits_0 7 rfl
theorem dX4_fits_16 : decode cX4_fits 16 = .ok (.iconst 1, 1) := decAll_at aX4_fits_0 8 rfl
theorem dX4_fits_17 : decode cX4_fits 17 = .ok (.goto 4, 3) := decAll_at aX4_fits_0 9 rfl
theorem dX4_fits_20 : decode cX4_fits 20 = .ok (.iconst 0, 1) := decAll_at aX4_fits_0 10 rfl
theorem dX4_fits_21 : decode cX4_fits 21 = .ok (.ireturn, 1) := decAll_at aX4_fits_0 11 rfl
def laX4_settle_0 : List (Nat × Instr × Nat) := [(0, .aload_n 0, 1), (1, .iload_n 1, 1), (2, .invokevirtual 77, 3), (5, .istore_n 2, 1), (6, .iconst 0, 1), (7, .istore_n 3, 1), (8, .iload_n 3, 1), (9, .aload_n 0, 1), (10, .getfield 54, 3), (13, .if_icmp .ge 21, 3), (16, .aload_n 0, 1), (17, .getfield 15, 3), (20, .iload_n 3, 1), (21, .aload_n 0, 1), (22, .getfield 18, 3), (25, .iload_n 3, 1), (26, .iaload, 1), (27, .iastore, 1), (28, .iinc 3 1, 3), (31, .goto (-23), 3), (34, .iconst 0, 1), (35, .istore_n 3, 1), (36, .iload_n 3, 1), (37, .aload_n 0, 1), (38, .getfield 83, 3), (41, .if_icmp .ge 114, 3), (44, .iload_n 2, 1), (45, .ifCond .eq 110, 3), (48, .aload_n 0, 1), (49, .getfield 31, 3), (52, .iload_n 3, 1), (53, .iaload, 1), (54, .istore 4, 2), (56, .iconst 0, 1), (57, .istore 5, 2), (59, .iload 5, 2), (61, .bipush 6, 2), (63, .if_icmp .ge 86, 3), (66, .aload_n 0, 1), (67, .getfield 15, 3), (70, .iload 4, 2), (72, .iaload, 1), (73, .iconst (-1), 1), (74, .if_icmp .ne 75, 3), (77, .aload_n 0, 1), (78, .getfield 28, 3), (81, .iload 5, 2), (83, .dup2, 1), (84, .iaload, 1), (85, .aload_n 0, 1), (86, .getfield 11, 3), (89, .iload 4, 2), (91, .iaload, 1), (92, .isub, 1), (93, .iastore, 1), (94, .aload_n 0, 1), (95, .getfield 28, 3), (98, .iload 5, 2), (100, .iaload, 1), (101, .ifCond .lt 25, 3), (104, .aload_n 0, 1), (105, .iload_n 3, 1), (106, .iconst 1, 1), (107, .iadd, 1)]
theorem aX4_settle_0 : decAll cX4_settle laX4_settle_0 = true := by decide +kernel
theorem dX4_settle_0 : decode cX4_settle 0 = .ok (.aload_n 0, 1) := decAll_at aX4_settle_0 0 rfl
theorem dX4_settle_1 : decode cX4_settle 1 = .ok (.iload_n 1, 1) := decAll_at aX4_settle_0 1 rfl
theorem dX4_settle_2 : decode cX4_settle 2 = .ok (.invokevirtual 77, 3) := decAll_at aX4_settle_0 2 rfl
theorem dX4_settle_5 : decode cX4_settle 5 = .ok (.istore_n 2, 1) := decAll_at aX4_settle_0 3 rfl
theorem dX4_settle_6 : decode cX4_settle 6 = .ok (.iconst 0, 1) := decAll_at aX4_settle_0 4 rfl
theorem dX4_settle_7 : decode cX4_settle 7 = .ok (.istore_n 3, 1) := decAll_at aX4_settle_0 5 rfl
theorem dX4_settle_8 : decode cX4_settle 8 = .ok (.iload_n 3, 1) := decAll_at aX4_settle_0 6 rfl
theorem dX4_settle_9 : decode cX4_settle 9 = .ok (.aload_n 0, 1) := decAll_at aX4_settle_0 7 rfl
theorem dX4_settle_10 : decode cX4_settle 10 = .ok (.getfield 54, 3) := decAll_at aX4_settle_0 8 rfl
theorem dX4_settle_13 : decode cX4_settle 13 = .ok (.if_icmp .ge 21, 3) := decAll_at aX4_settle_0 9 rfl
theorem dX4_settle_16 : decode cX4_settle 16 = .ok (.aload_n 0, 1) := decAll_at aX4_settle_0 10 rfl
theorem dX4_settle_17 : decode cX4_settle 17 = .ok (.getfield 15, 3) := decAll_at aX4_settle_0 11 rfl
theorem dX4_settle_20 : decode cX4_settle 20 = .ok (.iload_n 3, 1) := decAll_at aX4_settle_0 12 rfl
theorem dX4_settle_21 : decode cX4_settle 21 = .ok (.aload_n 0, 1) := decAll_at aX4_settle_0 13 rfl
theorem dX4_settle_22 : decode cX4_settle 22 = .ok (.getfield 18, 3) := decAll_at aX4_settle_0 14 rfl
theorem dX4_settle_25 : decode cX4_settle 25 = .ok (.iload_n 3, 1) := decAll_at aX4_settle_0 15 rfl
theorem dX4_settle_26 : decode cX4_settle 26 = .ok (.iaload, 1) := decAll_at aX4_settle_0 16 rfl
theorem dX4_settle_27 : decode cX4_settle 27 = .ok (.iastore, 1) := decAll_at aX4_settle_0 17 rfl
theorem dX4_settle_28 : decode cX4_settle 28 = .ok (.iinc 3 1, 3) := decAll_at aX4_settle_0 18 rfl
theorem dX4_settle_31 : decode cX4_settle 31 = .ok (.goto (-23), 3) := decAll_at aX4_settle_0 19 rfl
theorem dX4_settle_34 : decode cX4_settle 34 = .ok (.iconst 0, 1) := decAll_at aX4_settle_0 20 rfl
theorem dX4_settle_35 : decode cX4_settle 35 = .ok (.istore_n 3, 1) := decAll_at aX4_settle_0 21 rfl
theorem dX4_settle_36 : decode cX4_settle 36 = .ok (.iload_n 3, 1) := decAll_at aX4_settle_0 22 rfl
theorem dX4_settle_37 : decode cX4_settle 37 = .ok (.aload_n 0, 1) := decAll_at aX4_settle_0 23 rfl
theorem dX4_settle_38 : decode cX4_settle 38 = .ok (.getfield 83, 3) := decAll_at aX4_settle_0 24 rfl
theorem dX4_settle_41 : decode cX4_settle 41 = .ok (.if_icmp .ge 114, 3) := decAll_at aX4_settle_0 25 rfl
theorem dX4_settle_44 : decode cX4_settle 44 = .ok (.iload_n 2, 1) := decAll_at aX4_settle_0 26 rfl
theorem dX4_settle_45 : decode cX4_settle 45 = .ok (.ifCond .eq 110, 3) := decAll_at aX4_settle_0 27 rfl
theorem dX4_settle_48 : decode cX4_settle 48 = .ok (.aload_n 0, 1) := decAll_at aX4_settle_0 28 rfl
theorem dX4_settle_49 : decode cX4_settle 49 = .ok (.getfield 31, 3) := decAll_at aX4_settle_0 29 rfl
theorem dX4_settle_52 : decode cX4_settle 52 = .ok (.iload_n 3, 1) := decAll_at aX4_settle_0 30 rfl
theorem dX4_settle_53 : decode cX4_settle 53 = .ok (.iaload, 1) := decAll_at aX4_settle_0 31 rfl
theorem dX4_settle_54 : decode cX4_settle 54 = .ok (.istore 4, 2) := decAll_at aX4_settle_0 32 rfl
theorem dX4_settle_56 : decode cX4_settle 56 = .ok (.iconst 0, 1) := decAll_at aX4_settle_0 33 rfl
theorem dX4_settle_57 : decode cX4_settle 57 = .ok (.istore 5, 2) := decAll_at aX4_settle_0 34 rfl
theorem dX4_settle_59 : decode cX4_settle 59 = .ok (.iload 5, 2) := decAll_at aX4_settle_0 35 rfl
theorem dX4_settle_61 : decode cX4_settle 61 = .ok (.bipush 6, 2) := decAll_at aX4_settle_0 36 rfl
theorem dX4_settle_63 : decode cX4_settle 63 = .ok (.if_icmp .ge 86, 3) := decAll_at aX4_settle_0 37 rfl
theorem dX4_settle_66 : decode cX4_settle 66 = .ok (.aload_n 0, 1) := decAll_at aX4_settle_0 38 rfl
theorem dX4_settle_67 : decode cX4_settle 67 = .ok (.getfield 15, 3) := decAll_at aX4_settle_0 39 rfl
theorem dX4_settle_70 : decode cX4_settle 70 = .ok (.iload 4, 2) := decAll_at aX4_settle_0 40 rfl
theorem dX4_settle_72 : decode cX4_settle 72 = .ok (.iaload, 1) := decAll_at aX4_settle_0 41 rfl
theorem dX4_settle_73 : decode cX4_settle 73 = .ok (.iconst (-1), 1) := decAll_at aX4_settle_0 42 rfl
theorem dX4_settle_74 : decode cX4_settle 74 = .ok (.if_icmp .ne 75, 3) := decAll_at aX4_settle_0 43 rfl
theorem dX4_settle_77 : decode cX4_settle 77 = .ok (.aload_n 0, 1) := decAll_at aX4_settle_0 44 rfl
theorem dX4_settle_78 : decode cX4_settle 78 = .ok (.getfield 28, 3) := decAll_at aX4_settle_0 45 rfl
theorem dX4_settle_81 : decode cX4_settle 81 = .ok (.iload 5, 2) := decAll_at aX4_settle_0 46 rfl
theorem dX4_settle_83 : decode cX4_settle 83 = .ok (.dup2, 1) := decAll_at aX4_settle_0 47 rfl
theorem dX4_settle_84 : decode cX4_settle 84 = .ok (.iaload, 1) := decAll_at aX4_settle_0 48 rfl
theorem dX4_settle_85 : decode cX4_settle 85 = .ok (.aload_n 0, 1) := decAll_at aX4_settle_0 49 rfl
theorem dX4_settle_86 : decode cX4_settle 86 = .ok (.getfield 11, 3) := decAll_at aX4_settle_0 50 rfl
theorem dX4_settle_89 : decode cX4_settle 89 = .ok (.iload 4, 2) := decAll_at aX4_settle_0 51 rfl
theorem dX4_settle_91 : decode cX4_settle 91 = .ok (.iaload, 1) := decAll_at aX4_settle_0 52 rfl
theorem dX4_settle_92 : decode cX4_settle 92 = .ok (.isub, 1) := decAll_at aX4_settle_0 53 rfl
theorem dX4_settle_93 : decode cX4_settle 93 = .ok (.iastore, 1) := decAll_at aX4_settle_0 54 rfl
theorem dX4_settle_94 : decode cX4_settle 94 = .ok (.aload_n 0, 1) := decAll_at aX4_settle_0 55 rfl
theorem dX4_settle_95 : decode cX4_settle 95 = .ok (.getfield 28, 3) := decAll_at aX4_settle_0 56 rfl
theorem dX4_settle_98 : decode cX4_settle 98 = .ok (.iload 5, 2) := decAll_at aX4_settle_0 57 rfl
theorem dX4_settle_100 : decode cX4_settle 100 = .ok (.iaload, 1) := decAll_at aX4_settle_0 58 rfl
theorem dX4_settle_101 : decode cX4_settle 101 = .ok (.ifCond .lt 25, 3) := decAll_at aX4_settle_0 59 rfl
theorem dX4_settle_104 : decode cX4_settle 104 = .ok (.aload_n 0, 1) := decAll_at aX4_settle_0 60 rfl
theorem dX4_settle_105 : decode cX4_settle 105 = .ok (.iload_n 3, 1) := decAll_at aX4_settle_0 61 rfl
theorem dX4_settle_106 : decode cX4_settle 106 = .ok (.iconst 1, 1) := decAll_at aX4_settle_0 62 rfl
theorem dX4_settle_107 : decode cX4_settle 107 = .ok (.iadd, 1) := decAll_at aX4_settle_0 63 rfl
def laX4_settle_1 : List (Nat × Instr × Nat) := [(108, .invokevirtual 80, 3), (111, .ifCond .eq 15, 3), (114, .aload_n 0, 1), (115, .getfield 15, 3), (118, .iload 4, 2), (120, .iload 5, 2), (122, .iastore, 1), (123, .goto 20, 3), (126, .aload_n 0, 1), (127, .getfield 28, 3), (130, .iload 5, 2), (132, .dup2, 1), (133, .iaload, 1), (134, .aload_n 0, 1), (135, .getfield 11, 3), (138, .iload 4, 2), (140, .iaload, 1), (141, .iadd, 1), (142, .iastore, 1), (143, .iinc 5 1, 3), (146, .goto (-87), 3), (149, .iinc 3 1, 3), (152, .goto (-116), 3), (155, .return_, 1)]
theorem aX4_settle_1 : decAll cX4_settle laX4_settle_1 = true := by decide +kernel
theorem dX4_settle_108 : decode cX4_settle 108 = .ok (.invokevirtual 80, 3) := decAll_at aX4_settle_1 0 rfl
theorem dX4_settle_111 : decode cX4_settle 111 = .ok (.ifCond .eq 15, 3) := decAll_at aX4_settle_1 1 rfl
theorem dX4_settle_114 : decode cX4_settle 114 = .ok (.aload_n 0, 1) := decAll_at aX4_settle_1 2 rfl
theorem dX4_settle_115 : decode cX4_settle 115 = .ok (.getfield 15, 3) := decAll_at aX4_settle_1 3 rfl
theorem dX4_settle_118 : decode cX4_settle 118 = .ok (.iload 4, 2) := decAll_at aX4_settle_1 4 rfl
theorem dX4_settle_120 : decode cX4_settle 120 = .ok (.iload 5, 2) := decAll_at aX4_settle_1 5 rfl
theorem dX4_settle_122 : decode cX4_settle 122 = .ok (.iastore, 1) := decAll_at aX4_settle_1 6 rfl
theorem dX4_settle_123 : decode cX4_settle 123 = .ok (.goto 20, 3) := decAll_at aX4_settle_1 7 rfl
theorem dX4_settle_126 : decode cX4_settle 126 = .ok (.aload_n 0, 1) := decAll_at aX4_settle_1 8 rfl
theorem dX4_settle_127 : decode cX4_settle 127 = .ok (.getfield 28, 3) := decAll_at aX4_settle_1 9 rfl
theorem dX4_settle_130 : decode cX4_settle 130 = .ok (.iload 5, 2) := decAll_at aX4_settle_1 10 rfl
theorem dX4_settle_132 : decode cX4_settle 132 = .ok (.dup2, 1) := decAll_at aX4_settle_1 11 rfl
theorem dX4_settle_133 : decode cX4_settle 133 = .ok (.iaload, 1) := decAll_at aX4_settle_1 12 rfl
theorem dX4_settle_134 : decode cX4_settle 134 = .ok (.aload_n 0, 1) := decAll_at aX4_settle_1 13 rfl
theorem dX4_settle_135 : decode cX4_settle 135 = .ok (.getfield 11, 3) := decAll_at aX4_settle_1 14 rfl
theorem dX4_settle_138 : decode cX4_settle 138 = .ok (.iload 4, 2) := decAll_at aX4_settle_1 15 rfl
theorem dX4_settle_140 : decode cX4_settle 140 = .ok (.iaload, 1) := decAll_at aX4_settle_1 16 rfl
theorem dX4_settle_141 : decode cX4_settle 141 = .ok (.iadd, 1) := decAll_at aX4_settle_1 17 rfl
theorem dX4_settle_142 : decode cX4_settle 142 = .ok (.iastore, 1) := decAll_at aX4_settle_1 18 rfl
theorem dX4_settle_143 : decode cX4_settle 143 = .ok (.iinc 5 1, 3) := decAll_at aX4_settle_1 19 rfl
theorem dX4_settle_146 : decode cX4_settle 146 = .ok (.goto (-87), 3) := decAll_at aX4_settle_1 20 rfl
theorem dX4_settle_149 : decode cX4_settle 149 = .ok (.iinc 3 1, 3) := decAll_at aX4_settle_1 21 rfl
theorem dX4_settle_152 : decode cX4_settle 152 = .ok (.goto (-116), 3) := decAll_at aX4_settle_1 22 rfl
theorem dX4_settle_155 : decode cX4_settle 155 = .ok (.return_, 1) := decAll_at aX4_settle_1 23 rfl
def laX4_capAt_0 : List (Nat × Instr × Nat) := [(0, .iload_n 1, 1), (1, .aload_n 0, 1), (2, .getfield 45, 3), (5, .if_icmp .ne 12, 3), (8, .iload_n 2, 1), (9, .iconst 1, 1), (10, .if_icmp .ne 7, 3), (13, .sipush 400, 3), (16, .ireturn, 1), (17, .aload_n 0, 1), (18, .getfield 41, 3), (21, .getfield 86, 3), (24, .aload_n 0, 1), (25, .getfield 25, 3), (28, .iload_n 1, 1), (29, .iaload, 1), (30, .iload_n 1, 1), (31, .aload_n 0, 1), (32, .getfield 45, 3), (35, .if_icmp .ne 9, 3), (38, .iload_n 2, 1), (39, .iconst 1, 1), (40, .isub, 1), (41, .goto 4, 3), (44, .iload_n 2, 1), (45, .iadd, 1), (46, .iaload, 1), (47, .ireturn, 1)]
theorem aX4_capAt_0 : decAll cX4_capAt laX4_capAt_0 = true := by decide +kernel
theorem dX4_capAt_0 : decode cX4_capAt 0 = .ok (.iload_n 1, 1) := decAll_at aX4_capAt_0 0 rfl
theorem dX4_capAt_1 : decode cX4_capAt 1 = .ok (.aload_n 0, 1) := decAll_at aX4_capAt_0 1 rfl
theorem dX4_capAt_2 : decode cX4_capAt 2 = .ok (.getfield 45, 3) := decAll_at aX4_capAt_0 2 rfl
theorem dX4_capAt_5 : decode cX4_capAt 5 = .ok (.if_icmp .ne 12, 3) := decAll_at aX4_capAt_0 3 rfl
theorem dX4_capAt_8 : decode cX4_capAt 8 = .ok (.iload_n 2, 1) := decAll_at aX4_capAt_0 4 rfl
theorem dX4_capAt_9 : decode cX4_capAt 9 = .ok (.iconst 1, 1) := decAll_at aX4_capAt_0 5 rfl
theorem dX4_capAt_10 : decode cX4_capAt 10 = .ok (.if_icmp .ne 7, 3) := decAll_at aX4_capAt_0 6 rfl
theorem dX4_capAt_13 : decode cX4_capAt 13 = .ok (.sipush 400, 3) := decAll_at aX4_capAt_0 7 rfl
theorem dX4_capAt_16 : decode cX4_capAt 16 = .ok (.ireturn, 1) := decAll_at aX4_capAt_0 8 rfl
theorem dX4_capAt_17 : decode cX4_capAt 17 = .ok (.aload_n 0, 1) := decAll_at aX4_capAt_0 9 rfl
theorem dX4_capAt_18 : decode cX4_capAt 18 = .ok (.getfield 41, 3) := decAll_at aX4_capAt_0 10 rfl
theorem dX4_capAt_21 : decode cX4_capAt 21 = .ok (.getfield 86, 3) := decAll_at aX4_capAt_0 11 rfl
theorem dX4_capAt_24 : decode cX4_capAt 24 = .ok (.aload_n 0, 1) := decAll_at aX4_capAt_0 12 rfl
theorem dX4_capAt_25 : decode cX4_capAt 25 = .ok (.getfield 25, 3) := decAll_at aX4_capAt_0 13 rfl
theorem dX4_capAt_28 : decode cX4_capAt 28 = .ok (.iload_n 1, 1) := decAll_at aX4_capAt_0 14 rfl
theorem dX4_capAt_29 : decode cX4_capAt 29 = .ok (.iaload, 1) := decAll_at aX4_capAt_0 15 rfl
theorem dX4_capAt_30 : decode cX4_capAt 30 = .ok (.iload_n 1, 1) := decAll_at aX4_capAt_0 16 rfl
theorem dX4_capAt_31 : decode cX4_capAt 31 = .ok (.aload_n 0, 1) := decAll_at aX4_capAt_0 17 rfl
theorem dX4_capAt_32 : decode cX4_capAt 32 = .ok (.getfield 45, 3) := decAll_at aX4_capAt_0 18 rfl
theorem dX4_capAt_35 : decode cX4_capAt 35 = .ok (.if_icmp .ne 9, 3) := decAll_at aX4_capAt_0 19 rfl
theorem dX4_capAt_38 : decode cX4_capAt 38 = .ok (.iload_n 2, 1) := decAll_at aX4_capAt_0 20 rfl
theorem dX4_capAt_39 : decode cX4_capAt 39 = .ok (.iconst 1, 1) := decAll_at aX4_capAt_0 21 rfl
theorem dX4_capAt_40 : decode cX4_capAt 40 = .ok (.isub, 1) := decAll_at aX4_capAt_0 22 rfl
theorem dX4_capAt_41 : decode cX4_capAt 41 = .ok (.goto 4, 3) := decAll_at aX4_capAt_0 23 rfl
theorem dX4_capAt_44 : decode cX4_capAt 44 = .ok (.iload_n 2, 1) := decAll_at aX4_capAt_0 24 rfl
theorem dX4_capAt_45 : decode cX4_capAt 45 = .ok (.iadd, 1) := decAll_at aX4_capAt_0 25 rfl
theorem dX4_capAt_46 : decode cX4_capAt 46 = .ok (.iaload, 1) := decAll_at aX4_capAt_0 26 rfl
theorem dX4_capAt_47 : decode cX4_capAt 47 = .ok (.ireturn, 1) := decAll_at aX4_capAt_0 27 rfl
def laX4_openRooms_0 : List (Nat × Instr × Nat) := [(0, .iconst 0, 1), (1, .istore_n 2, 1), (2, .iconst 0, 1), (3, .istore_n 3, 1), (4, .iload_n 3, 1), (5, .bipush 6, 2), (7, .if_icmp .ge 76, 3), (10, .aload_n 0, 1), (11, .getfield 28, 3), (14, .iload_n 3, 1), (15, .aload_n 0, 1), (16, .getfield 21, 3), (19, .iload_n 3, 1), (20, .baload, 1), (21, .ifCond .eq 12, 3), (24, .aload_n 0, 1), (25, .iload_n 3, 1), (26, .iload_n 1, 1), (27, .invokevirtual 89, 3), (30, .goto 4, 3), (33, .iconst (-1), 1), (34, .iastore, 1), (35, .aload_n 0, 1), (36, .getfield 21, 3), (39, .iload_n 3, 1), (40, .baload, 1), (41, .ifCond .eq 14, 3), (44, .aload_n 0, 1), (45, .getfield 28, 3), (48, .iload_n 3, 1), (49, .iaload, 1), (50, .ifCond .ge 5, 3), (53, .iconst 0, 1), (54, .ireturn, 1), (55, .iload_n 2, 1), (56, .aload_n 0, 1), (57, .getfield 21, 3), (60, .iload_n 3, 1), (61, .baload, 1), (62, .ifCond .eq 12, 3), (65, .aload_n 0, 1), (66, .getfield 28, 3), (69, .iload_n 3, 1), (70, .iaload, 1), (71, .goto 4, 3), (74, .iconst 0, 1), (75, .iadd, 1), (76, .istore_n 2, 1), (77, .iinc 3 1, 3), (80, .goto (-76), 3), (83, .aload_n 0, 1), (84, .iconst 0, 1), (85, .putfield 83, 3), (88, .iconst 0, 1), (89, .istore_n 3, 1), (90, .iload_n 3, 1), (91, .aload_n 0, 1), (92, .getfield 54, 3), (95, .if_icmp .ge 83, 3), (98, .aload_n 0, 1), (99, .getfield 18, 3), (102, .iload_n 3, 1), (103, .iaload, 1), (104, .istore 4, 2)]
theorem aX4_openRooms_0 : decAll cX4_openRooms laX4_openRooms_0 = true := by decide +kernel
theorem dX4_openRooms_0 : decode cX4_openRooms 0 = .ok (.iconst 0, 1) := decAll_at aX4_openRooms_0 0 rfl
theorem dX4_openRooms_1 : decode cX4_openRooms 1 = .ok (.istore_n 2, 1) := decAll_at aX4_openRooms_0 1 rfl
theorem dX4_openRooms_2 : decode cX4_openRooms 2 = .ok (.iconst 0, 1) := decAll_at aX4_openRooms_0 2 rfl
theorem dX4_openRooms_3 : decode cX4_openRooms 3 = .ok (.istore_n 3, 1) := decAll_at aX4_openRooms_0 3 rfl
theorem dX4_openRooms_4 : decode cX4_openRooms 4 = .ok (.iload_n 3, 1) := decAll_at aX4_openRooms_0 4 rfl
theorem dX4_openRooms_5 : decode cX4_openRooms 5 = .ok (.bipush 6, 2) := decAll_at aX4_openRooms_0 5 rfl
theorem dX4_openRooms_7 : decode cX4_openRooms 7 = .ok (.if_icmp .ge 76, 3) := decAll_at aX4_openRooms_0 6 rfl
theorem dX4_openRooms_10 : decode cX4_openRooms 10 = .ok (.aload_n 0, 1) := decAll_at aX4_openRooms_0 7 rfl
theorem dX4_openRooms_11 : decode cX4_openRooms 11 = .ok (.getfield 28, 3) := decAll_at aX4_openRooms_0 8 rfl
theorem dX4_openRooms_14 : decode cX4_openRooms 14 = .ok (.iload_n 3, 1) := decAll_at aX4_openRooms_0 9 rfl
theorem dX4_openRooms_15 : decode cX4_openRooms 15 = .ok (.aload_n 0, 1) := decAll_at aX4_openRooms_0 10 rfl
theorem dX4_openRooms_16 : decode cX4_openRooms 16 = .ok (.getfield 21, 3) := decAll_at aX4_openRooms_0 11 rfl
theorem dX4_openRooms_19 : decode cX4_openRooms 19 = .ok (.iload_n 3, 1) := decAll_at aX4_openRooms_0 12 rfl
theorem dX4_openRooms_20 : decode cX4_openRooms 20 = .ok (.baload, 1) := decAll_at aX4_openRooms_0 13 rfl
theorem dX4_openRooms_21 : decode cX4_openRooms 21 = .ok (.ifCond .eq 12, 3) := decAll_at aX4_openRooms_0 14 rfl
theorem dX4_openRooms_24 : decode cX4_openRooms 24 = .ok (.aload_n 0, 1) := decAll_at aX4_openRooms_0 15 rfl
theorem dX4_openRooms_25 : decode cX4_openRooms 25 = .ok (.iload_n 3, 1) := decAll_at aX4_openRooms_0 16 rfl
theorem dX4_openRooms_26 : decode cX4_openRooms 26 = .ok (.iload_n 1, 1) := decAll_at aX4_openRooms_0 17 rfl
theorem dX4_openRooms_27 : decode cX4_openRooms 27 = .ok (.invokevirtual 89, 3) := decAll_at aX4_openRooms_0 18 rfl
theorem dX4_openRooms_30 : decode cX4_openRooms 30 = .ok (.goto 4, 3) := decAll_at aX4_openRooms_0 19 rfl
theorem dX4_openRooms_33 : decode cX4_openRooms 33 = .ok (.iconst (-1), 1) := decAll_at aX4_openRooms_0 20 rfl
theorem dX4_openRooms_34 : decode cX4_openRooms 34 = .ok (.iastore, 1) := decAll_at aX4_openRooms_0 21 rfl
theorem dX4_openRooms_35 : decode cX4_openRooms 35 = .ok (.aload_n 0, 1) := decAll_at aX4_openRooms_0 22 rfl
theorem dX4_openRooms_36 : decode cX4_openRooms 36 = .ok (.getfield 21, 3) := decAll_at aX4_openRooms_0 23 rfl
theorem dX4_openRooms_39 : decode cX4_openRooms 39 = .ok (.iload_n 3, 1) := decAll_at aX4_openRooms_0 24 rfl
theorem dX4_openRooms_40 : decode cX4_openRooms 40 = .ok (.baload, 1) := decAll_at aX4_openRooms_0 25 rfl
theorem dX4_openRooms_41 : decode cX4_openRooms 41 = .ok (.ifCond .eq 14, 3) := decAll_at aX4_openRooms_0 26 rfl
theorem dX4_openRooms_44 : decode cX4_openRooms 44 = .ok (.aload_n 0, 1) := decAll_at aX4_openRooms_0 27 rfl
theorem dX4_openRooms_45 : decode cX4_openRooms 45 = .ok (.getfield 28, 3) := decAll_at aX4_openRooms_0 28 rfl
theorem dX4_openRooms_48 : decode cX4_openRooms 48 = .ok (.iload_n 3, 1) := decAll_at aX4_openRooms_0 29 rfl
theorem dX4_openRooms_49 : decode cX4_openRooms 49 = .ok (.iaload, 1) := decAll_at aX4_openRooms_0 30 rfl
theorem dX4_openRooms_50 : decode cX4_openRooms 50 = .ok (.ifCond .ge 5, 3) := decAll_at aX4_openRooms_0 31 rfl
theorem dX4_openRooms_53 : decode cX4_openRooms 53 = .ok (.iconst 0, 1) := decAll_at aX4_openRooms_0 32 rfl
theorem dX4_openRooms_54 : decode cX4_openRooms 54 = .ok (.ireturn, 1) := decAll_at aX4_openRooms_0 33 rfl
theorem dX4_openRooms_55 : decode cX4_openRooms 55 = .ok (.iload_n 2, 1) := decAll_at aX4_openRooms_0 34 rfl
theorem dX4_openRooms_56 : decode cX4_openRooms 56 = .ok (.aload_n 0, 1) := decAll_at aX4_openRooms_0 35 rfl
theorem dX4_openRooms_57 : decode cX4_openRooms 57 = .ok (.getfield 21, 3) := decAll_at aX4_openRooms_0 36 rfl
theorem dX4_openRooms_60 : decode cX4_openRooms 60 = .ok (.iload_n 3, 1) := decAll_at aX4_openRooms_0 37 rfl
theorem dX4_openRooms_61 : decode cX4_openRooms 61 = .ok (.baload, 1) := decAll_at aX4_openRooms_0 38 rfl
theorem dX4_openRooms_62 : decode cX4_openRooms 62 = .ok (.ifCond .eq 12, 3) := decAll_at aX4_openRooms_0 39 rfl
theorem dX4_openRooms_65 : decode cX4_openRooms 65 = .ok (.aload_n 0, 1) := decAll_at aX4_openRooms_0 40 rfl
theorem dX4_openRooms_66 : decode cX4_openRooms 66 = .ok (.getfield 28, 3) := decAll_at aX4_openRooms_0 41 rfl
theorem dX4_openRooms_69 : decode cX4_openRooms 69 = .ok (.iload_n 3, 1) := decAll_at aX4_openRooms_0 42 rfl
theorem dX4_openRooms_70 : decode cX4_openRooms 70 = .ok (.iaload, 1) := decAll_at aX4_openRooms_0 43 rfl
theorem dX4_openRooms_71 : decode cX4_openRooms 71 = .ok (.goto 4, 3) := decAll_at aX4_openRooms_0 44 rfl
theorem dX4_openRooms_74 : decode cX4_openRooms 74 = .ok (.iconst 0, 1) := decAll_at aX4_openRooms_0 45 rfl
theorem dX4_openRooms_75 : decode cX4_openRooms 75 = .ok (.iadd, 1) := decAll_at aX4_openRooms_0 46 rfl
theorem dX4_openRooms_76 : decode cX4_openRooms 76 = .ok (.istore_n 2, 1) := decAll_at aX4_openRooms_0 47 rfl
theorem dX4_openRooms_77 : decode cX4_openRooms 77 = .ok (.iinc 3 1, 3) := decAll_at aX4_openRooms_0 48 rfl
theorem dX4_openRooms_80 : decode cX4_openRooms 80 = .ok (.goto (-76), 3) := decAll_at aX4_openRooms_0 49 rfl
theorem dX4_openRooms_83 : decode cX4_openRooms 83 = .ok (.aload_n 0, 1) := decAll_at aX4_openRooms_0 50 rfl
theorem dX4_openRooms_84 : decode cX4_openRooms 84 = .ok (.iconst 0, 1) := decAll_at aX4_openRooms_0 51 rfl
theorem dX4_openRooms_85 : decode cX4_openRooms 85 = .ok (.putfield 83, 3) := decAll_at aX4_openRooms_0 52 rfl
theorem dX4_openRooms_88 : decode cX4_openRooms 88 = .ok (.iconst 0, 1) := decAll_at aX4_openRooms_0 53 rfl
theorem dX4_openRooms_89 : decode cX4_openRooms 89 = .ok (.istore_n 3, 1) := decAll_at aX4_openRooms_0 54 rfl
theorem dX4_openRooms_90 : decode cX4_openRooms 90 = .ok (.iload_n 3, 1) := decAll_at aX4_openRooms_0 55 rfl
theorem dX4_openRooms_91 : decode cX4_openRooms 91 = .ok (.aload_n 0, 1) := decAll_at aX4_openRooms_0 56 rfl
theorem dX4_openRooms_92 : decode cX4_openRooms 92 = .ok (.getfield 54, 3) := decAll_at aX4_openRooms_0 57 rfl
theorem dX4_openRooms_95 : decode cX4_openRooms 95 = .ok (.if_icmp .ge 83, 3) := decAll_at aX4_openRooms_0 58 rfl
theorem dX4_openRooms_98 : decode cX4_openRooms 98 = .ok (.aload_n 0, 1) := decAll_at aX4_openRooms_0 59 rfl
theorem dX4_openRooms_99 : decode cX4_openRooms 99 = .ok (.getfield 18, 3) := decAll_at aX4_openRooms_0 60 rfl
theorem dX4_openRooms_102 : decode cX4_openRooms 102 = .ok (.iload_n 3, 1) := decAll_at aX4_openRooms_0 61 rfl
theorem dX4_openRooms_103 : decode cX4_openRooms 103 = .ok (.iaload, 1) := decAll_at aX4_openRooms_0 62 rfl
theorem dX4_openRooms_104 : decode cX4_openRooms 104 = .ok (.istore 4, 2) := decAll_at aX4_openRooms_0 63 rfl
def laX4_openRooms_1 : List (Nat × Instr × Nat) := [(106, .iload_n 2, 1), (107, .aload_n 0, 1), (108, .getfield 11, 3), (111, .iload_n 3, 1), (112, .iaload, 1), (113, .isub, 1), (114, .istore_n 2, 1), (115, .iload 4, 2), (117, .iconst (-1), 1), (118, .if_icmp .ne 26, 3), (121, .aload_n 0, 1), (122, .getfield 31, 3), (125, .aload_n 0, 1), (126, .getfield 83, 3), (129, .iload_n 3, 1), (130, .iastore, 1), (131, .aload_n 0, 1), (132, .dup, 1), (133, .getfield 83, 3), (136, .iconst 1, 1), (137, .iadd, 1), (138, .putfield 83, 3), (141, .goto 31, 3), (144, .aload_n 0, 1), (145, .getfield 28, 3), (148, .iload 4, 2), (150, .dup2, 1), (151, .iaload, 1), (152, .aload_n 0, 1), (153, .getfield 11, 3), (156, .iload_n 3, 1), (157, .iaload, 1), (158, .isub, 1), (159, .iastore, 1), (160, .aload_n 0, 1), (161, .getfield 28, 3), (164, .iload 4, 2), (166, .iaload, 1), (167, .ifCond .ge 5, 3), (170, .iconst 0, 1), (171, .ireturn, 1), (172, .iinc 3 1, 3), (175, .goto (-85), 3), (178, .iload_n 2, 1), (179, .ifCond .lt 7, 3), (182, .iconst 1, 1), (183, .goto 4, 3), (186, .iconst 0, 1), (187, .ireturn, 1)]
theorem aX4_openRooms_1 : decAll cX4_openRooms laX4_openRooms_1 = true := by decide +kernel
theorem dX4_openRooms_106 : decode cX4_openRooms 106 = .ok (.iload_n 2, 1) := decAll_at aX4_openRooms_1 0 rfl
theorem dX4_openRooms_107 : decode cX4_openRooms 107 = .ok (.aload_n 0, 1) := decAll_at aX4_openRooms_1 1 rfl
theorem dX4_openRooms_108 : decode cX4_openRooms 108 = .ok (.getfield 11, 3) := decAll_at aX4_openRooms_1 2 rfl
theorem dX4_openRooms_111 : decode cX4_openRooms 111 = .ok (.iload_n 3, 1) := decAll_at aX4_openRooms_1 3 rfl
theorem dX4_openRooms_112 : decode cX4_openRooms 112 = .ok (.iaload, 1) := decAll_at aX4_openRooms_1 4 rfl
theorem dX4_openRooms_113 : decode cX4_openRooms 113 = .ok (.isub, 1) := decAll_at aX4_openRooms_1 5 rfl
theorem dX4_openRooms_114 : decode cX4_openRooms 114 = .ok (.istore_n 2, 1) := decAll_at aX4_openRooms_1 6 rfl
theorem dX4_openRooms_115 : decode cX4_openRooms 115 = .ok (.iload 4, 2) := decAll_at aX4_openRooms_1 7 rfl
theorem dX4_openRooms_117 : decode cX4_openRooms 117 = .ok (.iconst (-1), 1) := decAll_at aX4_openRooms_1 8 rfl
theorem dX4_openRooms_118 : decode cX4_openRooms 118 = .ok (.if_icmp .ne 26, 3) := decAll_at aX4_openRooms_1 9 rfl
theorem dX4_openRooms_121 : decode cX4_openRooms 121 = .ok (.aload_n 0, 1) := decAll_at aX4_openRooms_1 10 rfl
theorem dX4_openRooms_122 : decode cX4_openRooms 122 = .ok (.getfield 31, 3) := decAll_at aX4_openRooms_1 11 rfl
theorem dX4_openRooms_125 : decode cX4_openRooms 125 = .ok (.aload_n 0, 1) := decAll_at aX4_openRooms_1 12 rfl
theorem dX4_openRooms_126 : decode cX4_openRooms 126 = .ok (.getfield 83, 3) := decAll_at aX4_openRooms_1 13 rfl
theorem dX4_openRooms_129 : decode cX4_openRooms 129 = .ok (.iload_n 3, 1) := decAll_at aX4_openRooms_1 14 rfl
theorem dX4_openRooms_130 : decode cX4_openRooms 130 = .ok (.iastore, 1) := decAll_at aX4_openRooms_1 15 rfl
theorem dX4_openRooms_131 : decode cX4_openRooms 131 = .ok (.aload_n 0, 1) := decAll_at aX4_openRooms_1 16 rfl
theorem dX4_openRooms_132 : decode cX4_openRooms 132 = .ok (.dup, 1) := decAll_at aX4_openRooms_1 17 rfl
theorem dX4_openRooms_133 : decode cX4_openRooms 133 = .ok (.getfield 83, 3) := decAll_at aX4_openRooms_1 18 rfl
theorem dX4_openRooms_136 : decode cX4_openRooms 136 = .ok (.iconst 1, 1) := decAll_at aX4_openRooms_1 19 rfl
theorem dX4_openRooms_137 : decode cX4_openRooms 137 = .ok (.iadd, 1) := decAll_at aX4_openRooms_1 20 rfl
theorem dX4_openRooms_138 : decode cX4_openRooms 138 = .ok (.putfield 83, 3) := decAll_at aX4_openRooms_1 21 rfl
theorem dX4_openRooms_141 : decode cX4_openRooms 141 = .ok (.goto 31, 3) := decAll_at aX4_openRooms_1 22 rfl
theorem dX4_openRooms_144 : decode cX4_openRooms 144 = .ok (.aload_n 0, 1) := decAll_at aX4_openRooms_1 23 rfl
theorem dX4_openRooms_145 : decode cX4_openRooms 145 = .ok (.getfield 28, 3) := decAll_at aX4_openRooms_1 24 rfl
theorem dX4_openRooms_148 : decode cX4_openRooms 148 = .ok (.iload 4, 2) := decAll_at aX4_openRooms_1 25 rfl
theorem dX4_openRooms_150 : decode cX4_openRooms 150 = .ok (.dup2, 1) := decAll_at aX4_openRooms_1 26 rfl
theorem dX4_openRooms_151 : decode cX4_openRooms 151 = .ok (.iaload, 1) := decAll_at aX4_openRooms_1 27 rfl
theorem dX4_openRooms_152 : decode cX4_openRooms 152 = .ok (.aload_n 0, 1) := decAll_at aX4_openRooms_1 28 rfl
theorem dX4_openRooms_153 : decode cX4_openRooms 153 = .ok (.getfield 11, 3) := decAll_at aX4_openRooms_1 29 rfl
theorem dX4_openRooms_156 : decode cX4_openRooms 156 = .ok (.iload_n 3, 1) := decAll_at aX4_openRooms_1 30 rfl
theorem dX4_openRooms_157 : decode cX4_openRooms 157 = .ok (.iaload, 1) := decAll_at aX4_openRooms_1 31 rfl
theorem dX4_openRooms_158 : decode cX4_openRooms 158 = .ok (.isub, 1) := decAll_at aX4_openRooms_1 32 rfl
theorem dX4_openRooms_159 : decode cX4_openRooms 159 = .ok (.iastore, 1) := decAll_at aX4_openRooms_1 33 rfl
theorem dX4_openRooms_160 : decode cX4_openRooms 160 = .ok (.aload_n 0, 1) := decAll_at aX4_openRooms_1 34 rfl
theorem dX4_openRooms_161 : decode cX4_openRooms 161 = .ok (.getfield 28, 3) := decAll_at aX4_openRooms_1 35 rfl
theorem dX4_openRooms_164 : decode cX4_openRooms 164 = .ok (.iload 4, 2) := decAll_at aX4_openRooms_1 36 rfl
theorem dX4_openRooms_166 : decode cX4_openRooms 166 = .ok (.iaload, 1) := decAll_at aX4_openRooms_1 37 rfl
theorem dX4_openRooms_167 : decode cX4_openRooms 167 = .ok (.ifCond .ge 5, 3) := decAll_at aX4_openRooms_1 38 rfl
theorem dX4_openRooms_170 : decode cX4_openRooms 170 = .ok (.iconst 0, 1) := decAll_at aX4_openRooms_1 39 rfl
theorem dX4_openRooms_171 : decode cX4_openRooms 171 = .ok (.ireturn, 1) := decAll_at aX4_openRooms_1 40 rfl
theorem dX4_openRooms_172 : decode cX4_openRooms 172 = .ok (.iinc 3 1, 3) := decAll_at aX4_openRooms_1 41 rfl
theorem dX4_openRooms_175 : decode cX4_openRooms 175 = .ok (.goto (-85), 3) := decAll_at aX4_openRooms_1 42 rfl
theorem dX4_openRooms_178 : decode cX4_openRooms 178 = .ok (.iload_n 2, 1) := decAll_at aX4_openRooms_1 43 rfl
theorem dX4_openRooms_179 : decode cX4_openRooms 179 = .ok (.ifCond .lt 7, 3) := decAll_at aX4_openRooms_1 44 rfl
theorem dX4_openRooms_182 : decode cX4_openRooms 182 = .ok (.iconst 1, 1) := decAll_at aX4_openRooms_1 45 rfl
theorem dX4_openRooms_183 : decode cX4_openRooms 183 = .ok (.goto 4, 3) := decAll_at aX4_openRooms_1 46 rfl
theorem dX4_openRooms_186 : decode cX4_openRooms 186 = .ok (.iconst 0, 1) := decAll_at aX4_openRooms_1 47 rfl
theorem dX4_openRooms_187 : decode cX4_openRooms 187 = .ok (.ireturn, 1) := decAll_at aX4_openRooms_1 48 rfl
def laX4_looseFit_0 : List (Nat × Instr × Nat) := [(0, .aload_n 0, 1), (1, .getfield 83, 3), (4, .iload_n 1, 1), (5, .isub, 1), (6, .istore_n 2, 1), (7, .iload_n 2, 1), (8, .ifCond .lt 9, 3), (11, .iload_n 2, 1), (12, .bipush 10, 2), (14, .if_icmp .le 5, 3), (17, .iconst 0, 1), (18, .ireturn, 1), (19, .aload_n 0, 1), (20, .getfield 34, 3), (23, .iconst 0, 1), (24, .iconst 0, 1), (25, .iastore, 1), (26, .iconst 1, 1), (27, .istore_n 3, 1), (28, .iload_n 3, 1), (29, .iconst 1, 1), (30, .iload_n 2, 1), (31, .ishl, 1), (32, .if_icmp .ge 92, 3), (35, .sipush 3072, 3), (38, .istore 4, 2), (40, .iconst 0, 1), (41, .istore 5, 2), (43, .iload 5, 2), (45, .iload_n 2, 1), (46, .if_icmp .ge 54, 3), (49, .iload_n 3, 1), (50, .iload 5, 2), (52, .ishr, 1), (53, .iconst 1, 1), (54, .iand, 1), (55, .ifCond .eq 39, 3), (58, .iload 4, 2), (60, .aload_n 0, 1), (61, .aload_n 0, 1), (62, .getfield 34, 3), (65, .iload_n 3, 1), (66, .iconst 1, 1), (67, .iload 5, 2), (69, .ishl, 1), (70, .ixor, 1), (71, .iaload, 1), (72, .aload_n 0, 1), (73, .getfield 11, 3), (76, .aload_n 0, 1), (77, .getfield 31, 3), (80, .iload_n 1, 1), (81, .iload 5, 2), (83, .iadd, 1), (84, .iaload, 1), (85, .iaload, 1), (86, .invokevirtual 92, 3), (89, .invokestatic 95, 3), (92, .istore 4, 2), (94, .iinc 5 1, 3), (97, .goto (-54), 3), (100, .iload 4, 2), (102, .sipush 3072, 3), (105, .if_icmp .ne 5, 3)]
theorem aX4_looseFit_0 : decAll cX4_looseFit laX4_looseFit_0 = true := by decide +kernel
theorem dX4_looseFit_0 : decode cX4_looseFit 0 = .ok (.aload_n 0, 1) := decAll_at aX4_looseFit_0 0 rfl
theorem dX4_looseFit_1 : decode cX4_looseFit 1 = .ok (.getfield 83, 3) := decAll_at aX4_looseFit_0 1 rfl
theorem dX4_looseFit_4 : decode cX4_looseFit 4 = .ok (.iload_n 1, 1) := decAll_at aX4_looseFit_0 2 rfl
theorem dX4_looseFit_5 : decode cX4_looseFit 5 = .ok (.isub, 1) := decAll_at aX4_looseFit_0 3 rfl
theorem dX4_looseFit_6 : decode cX4_looseFit 6 = .ok (.istore_n 2, 1) := decAll_at aX4_looseFit_0 4 rfl
theorem dX4_looseFit_7 : decode cX4_looseFit 7 = .ok (.iload_n 2, 1) := decAll_at aX4_looseFit_0 5 rfl
theorem dX4_looseFit_8 : decode cX4_looseFit 8 = .ok (.ifCond .lt 9, 3) := decAll_at aX4_looseFit_0 6 rfl
theorem dX4_looseFit_11 : decode cX4_looseFit 11 = .ok (.iload_n 2, 1) := decAll_at aX4_looseFit_0 7 rfl
theorem dX4_looseFit_12 : decode cX4_looseFit 12 = .ok (.bipush 10, 2) := decAll_at aX4_looseFit_0 8 rfl
theorem dX4_looseFit_14 : decode cX4_looseFit 14 = .ok (.if_icmp .le 5, 3) := decAll_at aX4_looseFit_0 9 rfl
theorem dX4_looseFit_17 : decode cX4_looseFit 17 = .ok (.iconst 0, 1) := decAll_at aX4_looseFit_0 10 rfl
theorem dX4_looseFit_18 : decode cX4_looseFit 18 = .ok (.ireturn, 1) := decAll_at aX4_looseFit_0 11 rfl
theorem dX4_looseFit_19 : decode cX4_looseFit 19 = .ok (.aload_n 0, 1) := decAll_at aX4_looseFit_0 12 rfl
theorem dX4_looseFit_20 : decode cX4_looseFit 20 = .ok (.getfield 34, 3) := decAll_at aX4_looseFit_0 13 rfl
theorem dX4_looseFit_23 : decode cX4_looseFit 23 = .ok (.iconst 0, 1) := decAll_at aX4_looseFit_0 14 rfl
theorem dX4_looseFit_24 : decode cX4_looseFit 24 = .ok (.iconst 0, 1) := decAll_at aX4_looseFit_0 15 rfl
theorem dX4_looseFit_25 : decode cX4_looseFit 25 = .ok (.iastore, 1) := decAll_at aX4_looseFit_0 16 rfl
theorem dX4_looseFit_26 : decode cX4_looseFit 26 = .ok (.iconst 1, 1) := decAll_at aX4_looseFit_0 17 rfl
theorem dX4_looseFit_27 : decode cX4_looseFit 27 = .ok (.istore_n 3, 1) := decAll_at aX4_looseFit_0 18 rfl
theorem dX4_looseFit_28 : decode cX4_looseFit 28 = .ok (.iload_n 3, 1) := decAll_at aX4_looseFit_0 19 rfl
theorem dX4_looseFit_29 : decode cX4_looseFit 29 = .ok (.iconst 1, 1) := decAll_at aX4_looseFit_0 20 rfl
theorem dX4_looseFit_30 : decode cX4_looseFit 30 = .ok (.iload_n 2, 1) := decAll_at aX4_looseFit_0 21 rfl
theorem dX4_looseFit_31 : decode cX4_looseFit 31 = .ok (.ishl, 1) := decAll_at aX4_looseFit_0 22 rfl
theorem dX4_looseFit_32 : decode cX4_looseFit 32 = .ok (.if_icmp .ge 92, 3) := decAll_at aX4_looseFit_0 23 rfl
theorem dX4_looseFit_35 : decode cX4_looseFit 35 = .ok (.sipush 3072, 3) := decAll_at aX4_looseFit_0 24 rfl
theorem dX4_looseFit_38 : decode cX4_looseFit 38 = .ok (.istore 4, 2) := decAll_at aX4_looseFit_0 25 rfl
theorem dX4_looseFit_40 : decode cX4_looseFit 40 = .ok (.iconst 0, 1) := decAll_at aX4_looseFit_0 26 rfl
theorem dX4_looseFit_41 : decode cX4_looseFit 41 = .ok (.istore 5, 2) := decAll_at aX4_looseFit_0 27 rfl
theorem dX4_looseFit_43 : decode cX4_looseFit 43 = .ok (.iload 5, 2) := decAll_at aX4_looseFit_0 28 rfl
theorem dX4_looseFit_45 : decode cX4_looseFit 45 = .ok (.iload_n 2, 1) := decAll_at aX4_looseFit_0 29 rfl
theorem dX4_looseFit_46 : decode cX4_looseFit 46 = .ok (.if_icmp .ge 54, 3) := decAll_at aX4_looseFit_0 30 rfl
theorem dX4_looseFit_49 : decode cX4_looseFit 49 = .ok (.iload_n 3, 1) := decAll_at aX4_looseFit_0 31 rfl
theorem dX4_looseFit_50 : decode cX4_looseFit 50 = .ok (.iload 5, 2) := decAll_at aX4_looseFit_0 32 rfl
theorem dX4_looseFit_52 : decode cX4_looseFit 52 = .ok (.ishr, 1) := decAll_at aX4_looseFit_0 33 rfl
theorem dX4_looseFit_53 : decode cX4_looseFit 53 = .ok (.iconst 1, 1) := decAll_at aX4_looseFit_0 34 rfl
theorem dX4_looseFit_54 : decode cX4_looseFit 54 = .ok (.iand, 1) := decAll_at aX4_looseFit_0 35 rfl
theorem dX4_looseFit_55 : decode cX4_looseFit 55 = .ok (.ifCond .eq 39, 3) := decAll_at aX4_looseFit_0 36 rfl
theorem dX4_looseFit_58 : decode cX4_looseFit 58 = .ok (.iload 4, 2) := decAll_at aX4_looseFit_0 37 rfl
theorem dX4_looseFit_60 : decode cX4_looseFit 60 = .ok (.aload_n 0, 1) := decAll_at aX4_looseFit_0 38 rfl
theorem dX4_looseFit_61 : decode cX4_looseFit 61 = .ok (.aload_n 0, 1) := decAll_at aX4_looseFit_0 39 rfl
theorem dX4_looseFit_62 : decode cX4_looseFit 62 = .ok (.getfield 34, 3) := decAll_at aX4_looseFit_0 40 rfl
theorem dX4_looseFit_65 : decode cX4_looseFit 65 = .ok (.iload_n 3, 1) := decAll_at aX4_looseFit_0 41 rfl
theorem dX4_looseFit_66 : decode cX4_looseFit 66 = .ok (.iconst 1, 1) := decAll_at aX4_looseFit_0 42 rfl
theorem dX4_looseFit_67 : decode cX4_looseFit 67 = .ok (.iload 5, 2) := decAll_at aX4_looseFit_0 43 rfl
theorem dX4_looseFit_69 : decode cX4_looseFit 69 = .ok (.ishl, 1) := decAll_at aX4_looseFit_0 44 rfl
theorem dX4_looseFit_70 : decode cX4_looseFit 70 = .ok (.ixor, 1) := decAll_at aX4_looseFit_0 45 rfl
theorem dX4_looseFit_71 : decode cX4_looseFit 71 = .ok (.iaload, 1) := decAll_at aX4_looseFit_0 46 rfl
theorem dX4_looseFit_72 : decode cX4_looseFit 72 = .ok (.aload_n 0, 1) := decAll_at aX4_looseFit_0 47 rfl
theorem dX4_looseFit_73 : decode cX4_looseFit 73 = .ok (.getfield 11, 3) := decAll_at aX4_looseFit_0 48 rfl
theorem dX4_looseFit_76 : decode cX4_looseFit 76 = .ok (.aload_n 0, 1) := decAll_at aX4_looseFit_0 49 rfl
theorem dX4_looseFit_77 : decode cX4_looseFit 77 = .ok (.getfield 31, 3) := decAll_at aX4_looseFit_0 50 rfl
theorem dX4_looseFit_80 : decode cX4_looseFit 80 = .ok (.iload_n 1, 1) := decAll_at aX4_looseFit_0 51 rfl
theorem dX4_looseFit_81 : decode cX4_looseFit 81 = .ok (.iload 5, 2) := decAll_at aX4_looseFit_0 52 rfl
theorem dX4_looseFit_83 : decode cX4_looseFit 83 = .ok (.iadd, 1) := decAll_at aX4_looseFit_0 53 rfl
theorem dX4_looseFit_84 : decode cX4_looseFit 84 = .ok (.iaload, 1) := decAll_at aX4_looseFit_0 54 rfl
theorem dX4_looseFit_85 : decode cX4_looseFit 85 = .ok (.iaload, 1) := decAll_at aX4_looseFit_0 55 rfl
theorem dX4_looseFit_86 : decode cX4_looseFit 86 = .ok (.invokevirtual 92, 3) := decAll_at aX4_looseFit_0 56 rfl
theorem dX4_looseFit_89 : decode cX4_looseFit 89 = .ok (.invokestatic 95, 3) := decAll_at aX4_looseFit_0 57 rfl
theorem dX4_looseFit_92 : decode cX4_looseFit 92 = .ok (.istore 4, 2) := decAll_at aX4_looseFit_0 58 rfl
theorem dX4_looseFit_94 : decode cX4_looseFit 94 = .ok (.iinc 5 1, 3) := decAll_at aX4_looseFit_0 59 rfl
theorem dX4_looseFit_97 : decode cX4_looseFit 97 = .ok (.goto (-54), 3) := decAll_at aX4_looseFit_0 60 rfl
theorem dX4_looseFit_100 : decode cX4_looseFit 100 = .ok (.iload 4, 2) := decAll_at aX4_looseFit_0 61 rfl
theorem dX4_looseFit_102 : decode cX4_looseFit 102 = .ok (.sipush 3072, 3) := decAll_at aX4_looseFit_0 62 rfl
theorem dX4_looseFit_105 : decode cX4_looseFit 105 = .ok (.if_icmp .ne 5, 3) := decAll_at aX4_looseFit_0 63 rfl
def laX4_looseFit_1 : List (Nat × Instr × Nat) := [(108, .iconst 0, 1), (109, .ireturn, 1), (110, .aload_n 0, 1), (111, .getfield 34, 3), (114, .iload_n 3, 1), (115, .iload 4, 2), (117, .iastore, 1), (118, .iinc 3 1, 3), (121, .goto (-93), 3), (124, .iconst 1, 1), (125, .ireturn, 1)]
theorem aX4_looseFit_1 : decAll cX4_looseFit laX4_looseFit_1 = true := by decide +kernel
theorem dX4_looseFit_108 : decode cX4_looseFit 108 = .ok (.iconst 0, 1) := decAll_at aX4_looseFit_1 0 rfl
theorem dX4_looseFit_109 : decode cX4_looseFit 109 = .ok (.ireturn, 1) := decAll_at aX4_looseFit_1 1 rfl
theorem dX4_looseFit_110 : decode cX4_looseFit 110 = .ok (.aload_n 0, 1) := decAll_at aX4_looseFit_1 2 rfl
theorem dX4_looseFit_111 : decode cX4_looseFit 111 = .ok (.getfield 34, 3) := decAll_at aX4_looseFit_1 3 rfl
theorem dX4_looseFit_114 : decode cX4_looseFit 114 = .ok (.iload_n 3, 1) := decAll_at aX4_looseFit_1 4 rfl
theorem dX4_looseFit_115 : decode cX4_looseFit 115 = .ok (.iload 4, 2) := decAll_at aX4_looseFit_1 5 rfl
theorem dX4_looseFit_117 : decode cX4_looseFit 117 = .ok (.iastore, 1) := decAll_at aX4_looseFit_1 6 rfl
theorem dX4_looseFit_118 : decode cX4_looseFit 118 = .ok (.iinc 3 1, 3) := decAll_at aX4_looseFit_1 7 rfl
theorem dX4_looseFit_121 : decode cX4_looseFit 121 = .ok (.goto (-93), 3) := decAll_at aX4_looseFit_1 8 rfl
theorem dX4_looseFit_124 : decode cX4_looseFit 124 = .ok (.iconst 1, 1) := decAll_at aX4_looseFit_1 9 rfl
theorem dX4_looseFit_125 : decode cX4_looseFit 125 = .ok (.ireturn, 1) := decAll_at aX4_looseFit_1 10 rfl
def laX4_placed_0 : List (Nat × Instr × Nat) := [(0, .iload_n 1, 1), (1, .bipush 9, 2), (3, .ishr, 1), (4, .istore_n 3, 1), (5, .iload_n 3, 1), (6, .bipush 6, 2), (8, .if_icmp .ge 23, 3), (11, .iload_n 1, 1), (12, .sipush 511, 3), (15, .iand, 1), (16, .iload_n 2, 1), (17, .iadd, 1), (18, .aload_n 0, 1), (19, .getfield 28, 3), (22, .iload_n 3, 1), (23, .iaload, 1), (24, .if_icmp .gt 7, 3), (27, .iload_n 1, 1), (28, .iload_n 2, 1), (29, .iadd, 1), (30, .ireturn, 1), (31, .iinc 3 1, 3), (34, .iload_n 3, 1), (35, .bipush 6, 2), (37, .if_icmp .ge 26, 3), (40, .iload_n 2, 1), (41, .aload_n 0, 1), (42, .getfield 28, 3), (45, .iload_n 3, 1), (46, .iaload, 1), (47, .if_icmp .gt 10, 3), (50, .iload_n 3, 1), (51, .bipush 9, 2), (53, .ishl, 1), (54, .iload_n 2, 1), (55, .iadd, 1), (56, .ireturn, 1), (57, .iinc 3 1, 3), (60, .goto (-26), 3), (63, .sipush 3072, 3), (66, .ireturn, 1)]
theorem aX4_placed_0 : decAll cX4_placed laX4_placed_0 = true := by decide +kernel
theorem dX4_placed_0 : decode cX4_placed 0 = .ok (.iload_n 1, 1) := decAll_at aX4_placed_0 0 rfl
theorem dX4_placed_1 : decode cX4_placed 1 = .ok (.bipush 9, 2) := decAll_at aX4_placed_0 1 rfl
theorem dX4_placed_3 : decode cX4_placed 3 = .ok (.ishr, 1) := decAll_at aX4_placed_0 2 rfl
theorem dX4_placed_4 : decode cX4_placed 4 = .ok (.istore_n 3, 1) := decAll_at aX4_placed_0 3 rfl
theorem dX4_placed_5 : decode cX4_placed 5 = .ok (.iload_n 3, 1) := decAll_at aX4_placed_0 4 rfl
theorem dX4_placed_6 : decode cX4_placed 6 = .ok (.bipush 6, 2) := decAll_at aX4_placed_0 5 rfl
theorem dX4_placed_8 : decode cX4_placed 8 = .ok (.if_icmp .ge 23, 3) := decAll_at aX4_placed_0 6 rfl
theorem dX4_placed_11 : decode cX4_placed 11 = .ok (.iload_n 1, 1) := decAll_at aX4_placed_0 7 rfl
theorem dX4_placed_12 : decode cX4_placed 12 = .ok (.sipush 511, 3) := decAll_at aX4_placed_0 8 rfl
theorem dX4_placed_15 : decode cX4_placed 15 = .ok (.iand, 1) := decAll_at aX4_placed_0 9 rfl
theorem dX4_placed_16 : decode cX4_placed 16 = .ok (.iload_n 2, 1) := decAll_at aX4_placed_0 10 rfl
theorem dX4_placed_17 : decode cX4_placed 17 = .ok (.iadd, 1) := decAll_at aX4_placed_0 11 rfl
theorem dX4_placed_18 : decode cX4_placed 18 = .ok (.aload_n 0, 1) := decAll_at aX4_placed_0 12 rfl
theorem dX4_placed_19 : decode cX4_placed 19 = .ok (.getfield 28, 3) := decAll_at aX4_placed_0 13 rfl
theorem dX4_placed_22 : decode cX4_placed 22 = .ok (.iload_n 3, 1) := decAll_at aX4_placed_0 14 rfl
theorem dX4_placed_23 : decode cX4_placed 23 = .ok (.iaload, 1) := decAll_at aX4_placed_0 15 rfl
theorem dX4_placed_24 : decode cX4_placed 24 = .ok (.if_icmp .gt 7, 3) := decAll_at aX4_placed_0 16 rfl
theorem dX4_placed_27 : decode cX4_placed 27 = .ok (.iload_n 1, 1) := decAll_at aX4_placed_0 17 rfl
theorem dX4_placed_28 : decode cX4_placed 28 = .ok (.iload_n 2, 1) := decAll_at aX4_placed_0 18 rfl
theorem dX4_placed_29 : decode cX4_placed 29 = .ok (.iadd, 1) := decAll_at aX4_placed_0 19 rfl
theorem dX4_placed_30 : decode cX4_placed 30 = .ok (.ireturn, 1) := decAll_at aX4_placed_0 20 rfl
theorem dX4_placed_31 : decode cX4_placed 31 = .ok (.iinc 3 1, 3) := decAll_at aX4_placed_0 21 rfl
theorem dX4_placed_34 : decode cX4_placed 34 = .ok (.iload_n 3, 1) := decAll_at aX4_placed_0 22 rfl
theorem dX4_placed_35 : decode cX4_placed 35 = .ok (.bipush 6, 2) := decAll_at aX4_placed_0 23 rfl
theorem dX4_placed_37 : decode cX4_placed 37 = .ok (.if_icmp .ge 26, 3) := decAll_at aX4_placed_0 24 rfl
theorem dX4_placed_40 : decode cX4_placed 40 = .ok (.iload_n 2, 1) := decAll_at aX4_placed_0 25 rfl
theorem dX4_placed_41 : decode cX4_placed 41 = .ok (.aload_n 0, 1) := decAll_at aX4_placed_0 26 rfl
theorem dX4_placed_42 : decode cX4_placed 42 = .ok (.getfield 28, 3) := decAll_at aX4_placed_0 27 rfl
theorem dX4_placed_45 : decode cX4_placed 45 = .ok (.iload_n 3, 1) := decAll_at aX4_placed_0 28 rfl
theorem dX4_placed_46 : decode cX4_placed 46 = .ok (.iaload, 1) := decAll_at aX4_placed_0 29 rfl
theorem dX4_placed_47 : decode cX4_placed 47 = .ok (.if_icmp .gt 10, 3) := decAll_at aX4_placed_0 30 rfl
theorem dX4_placed_50 : decode cX4_placed 50 = .ok (.iload_n 3, 1) := decAll_at aX4_placed_0 31 rfl
theorem dX4_placed_51 : decode cX4_placed 51 = .ok (.bipush 9, 2) := decAll_at aX4_placed_0 32 rfl
theorem dX4_placed_53 : decode cX4_placed 53 = .ok (.ishl, 1) := decAll_at aX4_placed_0 33 rfl
theorem dX4_placed_54 : decode cX4_placed 54 = .ok (.iload_n 2, 1) := decAll_at aX4_placed_0 34 rfl
theorem dX4_placed_55 : decode cX4_placed 55 = .ok (.iadd, 1) := decAll_at aX4_placed_0 35 rfl
theorem dX4_placed_56 : decode cX4_placed 56 = .ok (.ireturn, 1) := decAll_at aX4_placed_0 36 rfl
theorem dX4_placed_57 : decode cX4_placed 57 = .ok (.iinc 3 1, 3) := decAll_at aX4_placed_0 37 rfl
theorem dX4_placed_60 : decode cX4_placed 60 = .ok (.goto (-26), 3) := decAll_at aX4_placed_0 38 rfl
theorem dX4_placed_63 : decode cX4_placed 63 = .ok (.sipush 3072, 3) := decAll_at aX4_placed_0 39 rfl
theorem dX4_placed_66 : decode cX4_placed 66 = .ok (.ireturn, 1) := decAll_at aX4_placed_0 40 rfl
def laX5_init_0 : List (Nat × Instr × Nat) := [(0, .aload_n 0, 1), (1, .invokespecial 3, 3), (4, .aload_n 0, 1), (5, .new 9, 3), (8, .dup, 1), (9, .invokespecial 11, 3), (12, .putfield 12, 3), (15, .aload_n 0, 1), (16, .aload_n 1, 1), (17, .putfield 18, 3), (20, .return_, 1)]
theorem aX5_init_0 : decAll cX5_init laX5_init_0 = true := by decide +kernel
theorem dX5_init_0 : decode cX5_init 0 = .ok (.aload_n 0, 1) := decAll_at aX5_init_0 0 rfl
theorem dX5_init_1 : decode cX5_init 1 = .ok (.invokespecial 3, 3) := decAll_at aX5_init_0 1 rfl
theorem dX5_init_4 : decode cX5_init 4 = .ok (.aload_n 0, 1) := decAll_at aX5_init_0 2 rfl
theorem dX5_init_5 : decode cX5_init 5 = .ok (.new 9, 3) := decAll_at aX5_init_0 3 rfl
theorem dX5_init_8 : decode cX5_init 8 = .ok (.dup, 1) := decAll_at aX5_init_0 4 rfl
theorem dX5_init_9 : decode cX5_init 9 = .ok (.invokespecial 11, 3) := decAll_at aX5_init_0 5 rfl
theorem dX5_init_12 : decode cX5_init 12 = .ok (.putfield 12, 3) := decAll_at aX5_init_0 6 rfl
theorem dX5_init_15 : decode cX5_init 15 = .ok (.aload_n 0, 1) := decAll_at aX5_init_0 7 rfl
theorem dX5_init_16 : decode cX5_init 16 = .ok (.aload_n 1, 1) := decAll_at aX5_init_0 8 rfl
theorem dX5_init_17 : decode cX5_init 17 = .ok (.putfield 18, 3) := decAll_at aX5_init_0 9 rfl
theorem dX5_init_20 : decode cX5_init 20 = .ok (.return_, 1) := decAll_at aX5_init_0 10 rfl
def laX5_read_0 : List (Nat × Instr × Nat) := [(0, .aload_n 0, 1), (1, .iload_n 1, 1), (2, .putfield 22, 3), (5, .aload_n 0, 1), (6, .iconst 0, 1), (7, .putfield 26, 3), (10, .aload_n 0, 1), (11, .iconst 0, 1), (12, .putfield 29, 3), (15, .aload_n 0, 1), (16, .iconst 0, 1), (17, .putfield 32, 3), (20, .aload_n 0, 1), (21, .getfield 12, 3), (24, .iconst 0, 1), (25, .putfield 35, 3), (28, .iconst 1, 1), (29, .istore_n 2, 1), (30, .iconst 0, 1), (31, .istore_n 3, 1), (32, .iload_n 3, 1), (33, .bipush 14, 2), (35, .if_icmp .gt 48, 3), (38, .iload_n 2, 1), (39, .ifCond .eq 44, 3), (42, .aload_n 0, 1), (43, .invokevirtual 38, 3), (46, .ifCond .eq 18, 3), (49, .aload_n 0, 1), (50, .getfield 26, 3), (53, .aload_n 0, 1), (54, .getfield 22, 3), (57, .if_icmp .ge 7, 3), (60, .iconst 1, 1), (61, .goto 4, 3), (64, .iconst 0, 1), (65, .istore_n 2, 1), (66, .iload_n 2, 1), (67, .ifCond .eq 10, 3), (70, .aload_n 0, 1), (71, .bipush 59, 2), (73, .invokevirtual 42, 3), (76, .istore_n 2, 1), (77, .iinc 3 1, 3), (80, .goto (-48), 3), (83, .aload_n 0, 1), (84, .getfield 32, 3), (87, .ireturn, 1)]
theorem aX5_read_0 : decAll cX5_read laX5_read_0 = true := by decide +kernel
theorem dX5_read_0 : decode cX5_read 0 = .ok (.aload_n 0, 1) := decAll_at aX5_read_0 0 rfl
theorem dX5_read_1 : decode cX5_read 1 = .ok (.iload_n 1, 1) := decAll_at aX5_read_0 1 rfl
theorem dX5_read_2 : decode cX5_read 2 = .ok (.putfield 22, 3) := decAll_at aX5_read_0 2 rfl
theorem dX5_read_5 : decode cX5_read 5 = .ok (.aload_n 0, 1) := decAll_at aX5_read_0 3 rfl
theorem dX5_read_6 : decode cX5_read 6 = .ok (.iconst 0, 1) := decAll_at aX5_read_0 4 rfl
theorem dX5_read_7 : decode cX5_read 7 = .ok (.putfield 26, 3) := decAll_at aX5_read_0 5 rfl
theorem dX5_read_10 : decode cX5_read 10 = .ok (.aload_n 0, 1) := decAll_at aX5_read_0 6 rfl
theorem dX5_read_11 : decode cX5_read 11 = .ok (.iconst 0, 1) := decAll_at aX5_read_0 7 rfl
theorem dX5_read_12 : decode cX5_read 12 = .ok (.putfield 29, 3) := decAll_at aX5_read_0 8 rfl
theorem dX5_read_15 : decode cX5_read 15 = .ok (.aload_n 0, 1) := decAll_at aX5_read_0 9 rfl
theorem dX5_read_16 : decode cX5_read 16 = .ok (.iconst 0, 1) := decAll_at aX5_read_0 10 rfl
theorem dX5_read_17 : decode cX5_read 17 = .ok (.putfield 32, 3) := decAll_at aX5_read_0 11 rfl
theorem dX5_read_20 : decode cX5_read 20 = .ok (.aload_n 0, 1) := decAll_at aX5_read_0 12 rfl
theorem dX5_read_21 : decode cX5_read 21 = .ok (.getfield 12, 3) := decAll_at aX5_read_0 13 rfl
theorem dX5_read_24 : decode cX5_read 24 = .ok (.iconst 0, 1) := decAll_at aX5_read_0 14 rfl
theorem dX5_read_25 : decode cX5_read 25 = .ok (.putfield 35, 3) := decAll_at aX5_read_0 15 rfl
theorem dX5_read_28 : decode cX5_read 28 = .ok (.iconst 1, 1) := decAll_at aX5_read_0 16 rfl
theorem dX5_read_29 : decode cX5_read 29 = .ok (.istore_n 2, 1) := decAll_at aX5_read_0 17 rfl
theorem dX5_read_30 : decode cX5_read 30 = .ok (.iconst 0, 1) := decAll_at aX5_read_0 18 rfl
theorem dX5_read_31 : decode cX5_read 31 = .ok (.istore_n 3, 1) := decAll_at aX5_read_0 19 rfl
theorem dX5_read_32 : decode cX5_read 32 = .ok (.iload_n 3, 1) := decAll_at aX5_read_0 20 rfl
theorem dX5_read_33 : decode cX5_read 33 = .ok (.bipush 14, 2) := decAll_at aX5_read_0 21 rfl
theorem dX5_read_35 : decode cX5_read 35 = .ok (.if_icmp .gt 48, 3) := decAll_at aX5_read_0 22 rfl
theorem dX5_read_38 : decode cX5_read 38 = .ok (.iload_n 2, 1) := decAll_at aX5_read_0 23 rfl
theorem dX5_read_39 : decode cX5_read 39 = .ok (.ifCond .eq 44, 3) := decAll_at aX5_read_0 24 rfl
theorem dX5_read_42 : decode cX5_read 42 = .ok (.aload_n 0, 1) := decAll_at aX5_read_0 25 rfl
theorem dX5_read_43 : decode cX5_read 43 = .ok (.invokevirtual 38, 3) := decAll_at aX5_read_0 26 rfl
theorem dX5_read_46 : decode cX5_read 46 = .ok (.ifCond .eq 18, 3) := decAll_at aX5_read_0 27 rfl
theorem dX5_read_49 : decode cX5_read 49 = .ok (.aload_n 0, 1) := decAll_at aX5_read_0 28 rfl
theorem dX5_read_50 : decode cX5_read 50 = .ok (.getfield 26, 3) := decAll_at aX5_read_0 29 rfl
theorem dX5_read_53 : decode cX5_read 53 = .ok (.aload_n 0, 1) := decAll_at aX5_read_0 30 rfl
theorem dX5_read_54 : decode cX5_read 54 = .ok (.getfield 22, 3) := decAll_at aX5_read_0 31 rfl
theorem dX5_read_57 : decode cX5_read 57 = .ok (.if_icmp .ge 7, 3) := decAll_at aX5_read_0 32 rfl
theorem dX5_read_60 : decode cX5_read 60 = .ok (.iconst 1, 1) := decAll_at aX5_read_0 33 rfl
theorem dX5_read_61 : decode cX5_read 61 = .ok (.goto 4, 3) := decAll_at aX5_read_0 34 rfl
theorem dX5_read_64 : decode cX5_read 64 = .ok (.iconst 0, 1) := decAll_at aX5_read_0 35 rfl
theorem dX5_read_65 : decode cX5_read 65 = .ok (.istore_n 2, 1) := decAll_at aX5_read_0 36 rfl
theorem dX5_read_66 : decode cX5_read 66 = .ok (.iload_n 2, 1) := decAll_at aX5_read_0 37 rfl
theorem dX5_read_67 : decode cX5_read 67 = .ok (.ifCond .eq 10, 3) := decAll_at aX5_read_0 38 rfl
theorem dX5_read_70 : decode cX5_read 70 = .ok (.aload_n 0, 1) := decAll_at aX5_read_0 39 rfl
theorem dX5_read_71 : decode cX5_read 71 = .ok (.bipush 59, 2) := decAll_at aX5_read_0 40 rfl
theorem dX5_read_73 : decode cX5_read 73 = .ok (.invokevirtual 42, 3) := decAll_at aX5_read_0 41 rfl
theorem dX5_read_76 : decode cX5_read 76 = .ok (.istore_n 2, 1) := decAll_at aX5_read_0 42 rfl
theorem dX5_read_77 : decode cX5_read 77 = .ok (.iinc 3 1, 3) := decAll_at aX5_read_0 43 rfl
theorem dX5_read_80 : decode cX5_read 80 = .ok (.goto (-48), 3) := decAll_at aX5_read_0 44 rfl
theorem dX5_read_83 : decode cX5_read 83 = .ok (.aload_n 0, 1) := decAll_at aX5_read_0 45 rfl
theorem dX5_read_84 : decode cX5_read 84 = .ok (.getfield 32, 3) := decAll_at aX5_read_0 46 rfl
theorem dX5_read_87 : decode cX5_read 87 = .ok (.ireturn, 1) := decAll_at aX5_read_0 47 rfl
def laX5_clause_0 : List (Nat × Instr × Nat) := [(0, .aload_n 0, 1), (1, .aload_n 0, 1), (2, .invokevirtual 46, 3), (5, .putfield 50, 3), (8, .aload_n 0, 1), (9, .getfield 50, 3), (12, .bipush 118, 2), (14, .if_icmp .eq 27, 3), (17, .aload_n 0, 1), (18, .getfield 50, 3), (21, .bipush 103, 2), (23, .if_icmp .eq 18, 3), (26, .aload_n 0, 1), (27, .getfield 50, 3), (30, .bipush 114, 2), (32, .if_icmp .eq 9, 3), (35, .aload_n 0, 1), (36, .iconst 1, 1), (37, .invokevirtual 53, 3), (40, .ireturn, 1), (41, .aload_n 0, 1), (42, .getfield 12, 3), (45, .getfield 35, 3), (48, .bipush 14, 2), (50, .if_icmp .lt 9, 3), (53, .aload_n 0, 1), (54, .iconst 4, 1), (55, .invokevirtual 53, 3), (58, .ireturn, 1), (59, .aload_n 0, 1), (60, .dup, 1), (61, .getfield 26, 3), (64, .iconst 1, 1), (65, .iadd, 1), (66, .putfield 26, 3), (69, .aload_n 0, 1), (70, .getfield 29, 3), (73, .istore_n 1, 1), (74, .aload_n 0, 1), (75, .iconst 0, 1), (76, .invokevirtual 56, 3), (79, .ifCond .eq 21, 3), (82, .aload_n 0, 1), (83, .iconst 0, 1), (84, .iconst 0, 1), (85, .invokevirtual 59, 3), (88, .ifCond .eq 12, 3), (91, .aload_n 0, 1), (92, .bipush 40, 2), (94, .invokevirtual 42, 3), (97, .ifCond .ne 5, 3), (100, .iconst 0, 1), (101, .ireturn, 1), (102, .aload_n 0, 1), (103, .getfield 29, 3), (106, .istore_n 2, 1), (107, .aload_n 0, 1), (108, .iconst 1, 1), (109, .invokevirtual 63, 3), (112, .ifCond .eq 21, 3), (115, .aload_n 0, 1), (116, .iconst 0, 1), (117, .iconst 0, 1), (118, .invokevirtual 59, 3)]
theorem aX5_clause_0 : decAll cX5_clause laX5_clause_0 = true := by decide +kernel
theorem dX5_clause_0 : decode cX5_clause 0 = .ok (.aload_n 0, 1) := decAll_at aX5_clause_0 0 rfl
theorem dX5_clause_1 : decode cX5_clause 1 = .ok (.aload_n 0, 1) := decAll_at aX5_clause_0 1 rfl
theorem dX5_clause_2 : decode cX5_clause 2 = .ok (.invokevirtual 46, 3) := decAll_at aX5_clause_0 2 rfl
theorem dX5_clause_5 : decode cX5_clause 5 = .ok (.putfield 50, 3) := decAll_at aX5_clause_0 3 rfl
theorem dX5_clause_8 : decode cX5_clause 8 = .ok (.aload_n 0, 1) := decAll_at aX5_clause_0 4 rfl
theorem dX5_clause_9 : decode cX5_clause 9 = .ok (.getfield 50, 3) := decAll_at aX5_clause_0 5 rfl
theorem dX5_clause_12 : decode cX5_clause 12 = .ok (.bipush 118, 2) := decAll_at aX5_clause_0 6 rfl
theorem dX5_clause_14 : decode cX5_clause 14 = .ok (.if_icmp .eq 27, 3) := decAll_at aX5_clause_0 7 rfl
theorem dX5_clause_17 : decode cX5_clause 17 = .ok (.aload_n 0, 1) := decAll_at aX5_clause_0 8 rfl
theorem dX5_clause_18 : decode cX5_clause 18 = .ok (.getfield 50, 3) := decAll_at aX5_clause_0 9 rfl
theorem dX5_clause_21 : decode cX5_clause 21 = .ok (.bipush 103, 2) := decAll_at aX5_clause_0 10 rfl
theorem dX5_clause_23 : decode cX5_clause 23 = .ok (.if_icmp .eq 18, 3) := decAll_at aX5_clause_0 11 rfl
theorem dX5_clause_26 : decode cX5_clause 26 = .ok (.aload_n 0, 1) := decAll_at aX5_clause_0 12 rfl
theorem dX5_clause_27 : decode cX5_clause 27 = .ok (.getfield 50, 3) := decAll_at aX5_clause_0 13 rfl
theorem dX5_clause_30 : decode cX5_clause 30 = .ok (.bipush 114, 2) := decAll_at aX5_clause_0 14 rfl
theorem dX5_clause_32 : decode cX5_clause 32 = .ok (.if_icmp .eq 9, 3) := decAll_at aX5_clause_0 15 rfl
theorem dX5_clause_35 : decode cX5_clause 35 = .ok (.aload_n 0, 1) := decAll_at aX5_clause_0 16 rfl
theorem dX5_clause_36 : decode cX5_clause 36 = .ok (.iconst 1, 1) := decAll_at aX5_clause_0 17 rfl
theorem dX5_clause_37 : decode cX5_clause 37 = .ok (.invokevirtual 53, 3) := decAll_at aX5_clause_0 18 rfl
theorem dX5_clause_40 : decode cX5_clause 40 = .ok (.ireturn, 1) := decAll_at aX5_clause_0 19 rfl
theorem dX5_clause_41 : decode cX5_clause 41 = .ok (.aload_n 0, 1) := decAll_at aX5_clause_0 20 rfl
theorem dX5_clause_42 : decode cX5_clause 42 = .ok (.getfield 12, 3) := decAll_at aX5_clause_0 21 rfl
theorem dX5_clause_45 : decode cX5_clause 45 = .ok (.getfield 35, 3) := decAll_at aX5_clause_0 22 rfl
theorem dX5_clause_48 : decode cX5_clause 48 = .ok (.bipush 14, 2) := decAll_at aX5_clause_0 23 rfl
theorem dX5_clause_50 : decode cX5_clause 50 = .ok (.if_icmp .lt 9, 3) := decAll_at aX5_clause_0 24 rfl
theorem dX5_clause_53 : decode cX5_clause 53 = .ok (.aload_n 0, 1) := decAll_at aX5_clause_0 25 rfl
theorem dX5_clause_54 : decode cX5_clause 54 = .ok (.iconst 4, 1) := decAll_at aX5_clause_0 26 rfl
theorem dX5_clause_55 : decode cX5_clause 55 = .ok (.invokevirtual 53, 3) := decAll_at aX5_clause_0 27 rfl
theorem dX5_clause_58 : decode cX5_clause 58 = .ok (.ireturn, 1) := decAll_at aX5_clause_0 28 rfl
theorem dX5_clause_59 : decode cX5_clause 59 = .ok (.aload_n 0, 1) := decAll_at aX5_clause_0 29 rfl
theorem dX5_clause_60 : decode cX5_clause 60 = .ok (.dup, 1) := decAll_at aX5_clause_0 30 rfl
theorem dX5_clause_61 : decode cX5_clause 61 = .ok (.getfield 26, 3) := decAll_at aX5_clause_0 31 rfl
theorem dX5_clause_64 : decode cX5_clause 64 = .ok (.iconst 1, 1) := decAll_at aX5_clause_0 32 rfl
theorem dX5_clause_65 : decode cX5_clause 65 = .ok (.iadd, 1) := decAll_at aX5_clause_0 33 rfl
theorem dX5_clause_66 : decode cX5_clause 66 = .ok (.putfield 26, 3) := decAll_at aX5_clause_0 34 rfl
theorem dX5_clause_69 : decode cX5_clause 69 = .ok (.aload_n 0, 1) := decAll_at aX5_clause_0 35 rfl
theorem dX5_clause_70 : decode cX5_clause 70 = .ok (.getfield 29, 3) := decAll_at aX5_clause_0 36 rfl
theorem dX5_clause_73 : decode cX5_clause 73 = .ok (.istore_n 1, 1) := decAll_at aX5_clause_0 37 rfl
theorem dX5_clause_74 : decode cX5_clause 74 = .ok (.aload_n 0, 1) := decAll_at aX5_clause_0 38 rfl
theorem dX5_clause_75 : decode cX5_clause 75 = .ok (.iconst 0, 1) := decAll_at aX5_clause_0 39 rfl
theorem dX5_clause_76 : decode cX5_clause 76 = .ok (.invokevirtual 56, 3) := decAll_at aX5_clause_0 40 rfl
theorem dX5_clause_79 : decode cX5_clause 79 = .ok (.ifCond .eq 21, 3) := decAll_at aX5_clause_0 41 rfl
theorem dX5_clause_82 : decode cX5_clause 82 = .ok (.aload_n 0, 1) := decAll_at aX5_clause_0 42 rfl
theorem dX5_clause_83 : decode cX5_clause 83 = .ok (.iconst 0, 1) := decAll_at aX5_clause_0 43 rfl
theorem dX5_clause_84 : decode cX5_clause 84 = .ok (.iconst 0, 1) := decAll_at aX5_clause_0 44 rfl
theorem dX5_clause_85 : decode cX5_clause 85 = .ok (.invokevirtual 59, 3) := decAll_at aX5_clause_0 45 rfl
theorem dX5_clause_88 : decode cX5_clause 88 = .ok (.ifCond .eq 12, 3) := decAll_at aX5_clause_0 46 rfl
theorem dX5_clause_91 : decode cX5_clause 91 = .ok (.aload_n 0, 1) := decAll_at aX5_clause_0 47 rfl
theorem dX5_clause_92 : decode cX5_clause 92 = .ok (.bipush 40, 2) := decAll_at aX5_clause_0 48 rfl
theorem dX5_clause_94 : decode cX5_clause 94 = .ok (.invokevirtual 42, 3) := decAll_at aX5_clause_0 49 rfl
theorem dX5_clause_97 : decode cX5_clause 97 = .ok (.ifCond .ne 5, 3) := decAll_at aX5_clause_0 50 rfl
theorem dX5_clause_100 : decode cX5_clause 100 = .ok (.iconst 0, 1) := decAll_at aX5_clause_0 51 rfl
theorem dX5_clause_101 : decode cX5_clause 101 = .ok (.ireturn, 1) := decAll_at aX5_clause_0 52 rfl
theorem dX5_clause_102 : decode cX5_clause 102 = .ok (.aload_n 0, 1) := decAll_at aX5_clause_0 53 rfl
theorem dX5_clause_103 : decode cX5_clause 103 = .ok (.getfield 29, 3) := decAll_at aX5_clause_0 54 rfl
theorem dX5_clause_106 : decode cX5_clause 106 = .ok (.istore_n 2, 1) := decAll_at aX5_clause_0 55 rfl
theorem dX5_clause_107 : decode cX5_clause 107 = .ok (.aload_n 0, 1) := decAll_at aX5_clause_0 56 rfl
theorem dX5_clause_108 : decode cX5_clause 108 = .ok (.iconst 1, 1) := decAll_at aX5_clause_0 57 rfl
theorem dX5_clause_109 : decode cX5_clause 109 = .ok (.invokevirtual 63, 3) := decAll_at aX5_clause_0 58 rfl
theorem dX5_clause_112 : decode cX5_clause 112 = .ok (.ifCond .eq 21, 3) := decAll_at aX5_clause_0 59 rfl
theorem dX5_clause_115 : decode cX5_clause 115 = .ok (.aload_n 0, 1) := decAll_at aX5_clause_0 60 rfl
theorem dX5_clause_116 : decode cX5_clause 116 = .ok (.iconst 0, 1) := decAll_at aX5_clause_0 61 rfl
theorem dX5_clause_117 : decode cX5_clause 117 = .ok (.iconst 0, 1) := decAll_at aX5_clause_0 62 rfl
theorem dX5_clause_118 : decode cX5_clause 118 = .ok (.invokevirtual 59, 3) := decAll_at aX5_clause_0 63 rfl
def laX5_clause_1 : List (Nat × Instr × Nat) := [(121, .ifCond .eq 12, 3), (124, .aload_n 0, 1), (125, .bipush 41, 2), (127, .invokevirtual 42, 3), (130, .ifCond .ne 5, 3), (133, .iconst 0, 1), (134, .ireturn, 1), (135, .aload_n 0, 1), (136, .getfield 12, 3), (139, .getfield 66, 3), (142, .aload_n 0, 1), (143, .getfield 12, 3), (146, .getfield 35, 3), (149, .aload_n 0, 1), (150, .getfield 50, 3), (153, .iastore, 1), (154, .aload_n 0, 1), (155, .getfield 12, 3), (158, .getfield 70, 3), (161, .aload_n 0, 1), (162, .getfield 12, 3), (165, .getfield 35, 3), (168, .iload_n 1, 1), (169, .iastore, 1), (170, .aload_n 0, 1), (171, .getfield 12, 3), (174, .getfield 73, 3), (177, .aload_n 0, 1), (178, .getfield 12, 3), (181, .getfield 35, 3), (184, .iload_n 2, 1), (185, .iastore, 1), (186, .aload_n 0, 1), (187, .getfield 12, 3), (190, .dup, 1), (191, .getfield 35, 3), (194, .iconst 1, 1), (195, .iadd, 1), (196, .putfield 35, 3), (199, .iconst 1, 1), (200, .ireturn, 1)]
theorem aX5_clause_1 : decAll cX5_clause laX5_clause_1 = true := by decide +kernel
theorem dX5_clause_121 : decode cX5_clause 121 = .ok (.ifCond .eq 12, 3) := decAll_at aX5_clause_1 0 rfl
theorem dX5_clause_124 : decode cX5_clause 124 = .ok (.aload_n 0, 1) := decAll_at aX5_clause_1 1 rfl
theorem dX5_clause_125 : decode cX5_clause 125 = .ok (.bipush 41, 2) := decAll_at aX5_clause_1 2 rfl
theorem dX5_clause_127 : decode cX5_clause 127 = .ok (.invokevirtual 42, 3) := decAll_at aX5_clause_1 3 rfl
theorem dX5_clause_130 : decode cX5_clause 130 = .ok (.ifCond .ne 5, 3) := decAll_at aX5_clause_1 4 rfl
theorem dX5_clause_133 : decode cX5_clause 133 = .ok (.iconst 0, 1) := decAll_at aX5_clause_1 5 rfl
theorem dX5_clause_134 : decode cX5_clause 134 = .ok (.ireturn, 1) := decAll_at aX5_clause_1 6 rfl
theorem dX5_clause_135 : decode cX5_clause 135 = .ok (.aload_n 0, 1) := decAll_at aX5_clause_1 7 rfl
theorem dX5_clause_136 : decode cX5_clause 136 = .ok (.getfield 12, 3) := decAll_at aX5_clause_1 8 rfl
theorem dX5_clause_139 : decode cX5_clause 139 = .ok (.getfield 66, 3) := decAll_at aX5_clause_1 9 rfl
theorem dX5_clause_142 : decode cX5_clause 142 = .ok (.aload_n 0, 1) := decAll_at aX5_clause_1 10 rfl
theorem dX5_clause_143 : decode cX5_clause 143 = .ok (.getfield 12, 3) := decAll_at aX5_clause_1 11 rfl
theorem dX5_clause_146 : decode cX5_clause 146 = .ok (.getfield 35, 3) := decAll_at aX5_clause_1 12 rfl
theorem dX5_clause_149 : decode cX5_clause 149 = .ok (.aload_n 0, 1) := decAll_at aX5_clause_1 13 rfl
theorem dX5_clause_150 : decode cX5_clause 150 = .ok (.getfield 50, 3) := decAll_at aX5_clause_1 14 rfl
theorem dX5_clause_153 : decode cX5_clause 153 = .ok (.iastore, 1) := decAll_at aX5_clause_1 15 rfl
theorem dX5_clause_154 : decode cX5_clause 154 = .ok (.aload_n 0, 1) := decAll_at aX5_clause_1 16 rfl
theorem dX5_clause_155 : decode cX5_clause 155 = .ok (.getfield 12, 3) := decAll_at aX5_clause_1 17 rfl
theorem dX5_clause_158 : decode cX5_clause 158 = .ok (.getfield 70, 3) := decAll_at aX5_clause_1 18 rfl
theorem dX5_clause_161 : decode cX5_clause 161 = .ok (.aload_n 0, 1) := decAll_at aX5_clause_1 19 rfl
theorem dX5_clause_162 : decode cX5_clause 162 = .ok (.getfield 12, 3) := decAll_at aX5_clause_1 20 rfl
theorem dX5_clause_165 : decode cX5_clause 165 = .ok (.getfield 35, 3) := decAll_at aX5_clause_1 21 rfl
theorem dX5_clause_168 : decode cX5_clause 168 = .ok (.iload_n 1, 1) := decAll_at aX5_clause_1 22 rfl
theorem dX5_clause_169 : decode cX5_clause 169 = .ok (.iastore, 1) := decAll_at aX5_clause_1 23 rfl
theorem dX5_clause_170 : decode cX5_clause 170 = .ok (.aload_n 0, 1) := decAll_at aX5_clause_1 24 rfl
theorem dX5_clause_171 : decode cX5_clause 171 = .ok (.getfield 12, 3) := decAll_at aX5_clause_1 25 rfl
theorem dX5_clause_174 : decode cX5_clause 174 = .ok (.getfield 73, 3) := decAll_at aX5_clause_1 26 rfl
theorem dX5_clause_177 : decode cX5_clause 177 = .ok (.aload_n 0, 1) := decAll_at aX5_clause_1 27 rfl
theorem dX5_clause_178 : decode cX5_clause 178 = .ok (.getfield 12, 3) := decAll_at aX5_clause_1 28 rfl
theorem dX5_clause_181 : decode cX5_clause 181 = .ok (.getfield 35, 3) := decAll_at aX5_clause_1 29 rfl
theorem dX5_clause_184 : decode cX5_clause 184 = .ok (.iload_n 2, 1) := decAll_at aX5_clause_1 30 rfl
theorem dX5_clause_185 : decode cX5_clause 185 = .ok (.iastore, 1) := decAll_at aX5_clause_1 31 rfl
theorem dX5_clause_186 : decode cX5_clause 186 = .ok (.aload_n 0, 1) := decAll_at aX5_clause_1 32 rfl
theorem dX5_clause_187 : decode cX5_clause 187 = .ok (.getfield 12, 3) := decAll_at aX5_clause_1 33 rfl
theorem dX5_clause_190 : decode cX5_clause 190 = .ok (.dup, 1) := decAll_at aX5_clause_1 34 rfl
theorem dX5_clause_191 : decode cX5_clause 191 = .ok (.getfield 35, 3) := decAll_at aX5_clause_1 35 rfl
theorem dX5_clause_194 : decode cX5_clause 194 = .ok (.iconst 1, 1) := decAll_at aX5_clause_1 36 rfl
theorem dX5_clause_195 : decode cX5_clause 195 = .ok (.iadd, 1) := decAll_at aX5_clause_1 37 rfl
theorem dX5_clause_196 : decode cX5_clause 196 = .ok (.putfield 35, 3) := decAll_at aX5_clause_1 38 rfl
theorem dX5_clause_199 : decode cX5_clause 199 = .ok (.iconst 1, 1) := decAll_at aX5_clause_1 39 rfl
theorem dX5_clause_200 : decode cX5_clause 200 = .ok (.ireturn, 1) := decAll_at aX5_clause_1 40 rfl
def laX5_anyOf_0 : List (Nat × Instr × Nat) := [(0, .aload_n 0, 1), (1, .iload_n 1, 1), (2, .invokevirtual 76, 3), (5, .istore_n 2, 1), (6, .iconst 0, 1), (7, .istore_n 3, 1), (8, .iload_n 3, 1), (9, .sipush 200, 3), (12, .if_icmp .ge 70, 3), (15, .iload_n 2, 1), (16, .ifCond .eq 66, 3), (19, .aload_n 0, 1), (20, .invokevirtual 46, 3), (23, .bipush 124, 2), (25, .if_icmp .ne 57, 3), (28, .aload_n 0, 1), (29, .getfield 29, 3), (32, .istore 4, 2), (34, .aload_n 0, 1), (35, .dup, 1), (36, .getfield 26, 3), (39, .iconst 1, 1), (40, .iadd, 1), (41, .putfield 26, 3), (44, .aload_n 0, 1), (45, .iconst 5, 1), (46, .iconst 0, 1), (47, .invokevirtual 59, 3), (50, .ifCond .eq 24, 3), (53, .aload_n 0, 1), (54, .iload_n 1, 1), (55, .invokevirtual 76, 3), (58, .ifCond .eq 16, 3), (61, .aload_n 0, 1), (62, .iload 4, 2), (64, .invokevirtual 79, 3), (67, .ifCond .eq 7, 3), (70, .iconst 1, 1), (71, .goto 4, 3), (74, .iconst 0, 1), (75, .istore_n 2, 1), (76, .iinc 3 1, 3), (79, .goto (-71), 3), (82, .iload_n 2, 1), (83, .ireturn, 1)]
theorem aX5_anyOf_0 : decAll cX5_anyOf laX5_anyOf_0 = true := by decide +kernel
theorem dX5_anyOf_0 : decode cX5_anyOf 0 = .ok (.aload_n 0, 1) := decAll_at aX5_anyOf_0 0 rfl
theorem dX5_anyOf_1 : decode cX5_anyOf 1 = .ok (.iload_n 1, 1) := decAll_at aX5_anyOf_0 1 rfl
theorem dX5_anyOf_2 : decode cX5_anyOf 2 = .ok (.invokevirtual 76, 3) := decAll_at aX5_anyOf_0 2 rfl
theorem dX5_anyOf_5 : decode cX5_anyOf 5 = .ok (.istore_n 2, 1) := decAll_at aX5_anyOf_0 3 rfl
theorem dX5_anyOf_6 : decode cX5_anyOf 6 = .ok (.iconst 0, 1) := decAll_at aX5_anyOf_0 4 rfl
theorem dX5_anyOf_7 : decode cX5_anyOf 7 = .ok (.istore_n 3, 1) := decAll_at aX5_anyOf_0 5 rfl
theorem dX5_anyOf_8 : decode cX5_anyOf 8 = .ok (.iload_n 3, 1) := decAll_at aX5_anyOf_0 6 rfl
theorem dX5_anyOf_9 : decode cX5_anyOf 9 = .ok (.sipush 200, 3) := decAll_at aX5_anyOf_0 7 rfl
theorem dX5_anyOf_12 : decode cX5_anyOf 12 = .ok (.if_icmp .ge 70, 3) := decAll_at aX5_anyOf_0 8 rfl
theorem dX5_anyOf_15 : decode cX5_anyOf 15 = .ok (.iload_n 2, 1) := decAll_at aX5_anyOf_0 9 rfl
theorem dX5_anyOf_16 : decode cX5_anyOf 16 = .ok (.ifCond .eq 66, 3) := decAll_at aX5_anyOf_0 10 rfl
theorem dX5_anyOf_19 : decode cX5_anyOf 19 = .ok (.aload_n 0, 1) := decAll_at aX5_anyOf_0 11 rfl
theorem dX5_anyOf_20 : decode cX5_anyOf 20 = .ok (.invokevirtual 46, 3) := decAll_at aX5_anyOf_0 12 rfl
theorem dX5_anyOf_23 : decode cX5_anyOf 23 = .ok (.bipush 124, 2) := decAll_at aX5_anyOf_0 13 rfl
theorem dX5_anyOf_25 : decode cX5_anyOf 25 = .ok (.if_icmp .ne 57, 3) := decAll_at aX5_anyOf_0 14 rfl
theorem dX5_anyOf_28 : decode cX5_anyOf 28 = .ok (.aload_n 0, 1) := decAll_at aX5_anyOf_0 15 rfl
theorem dX5_anyOf_29 : decode cX5_anyOf 29 = .ok (.getfield 29, 3) := decAll_at aX5_anyOf_0 16 rfl
theorem dX5_anyOf_32 : decode cX5_anyOf 32 = .ok (.istore 4, 2) := decAll_at aX5_anyOf_0 17 rfl
theorem dX5_anyOf_34 : decode cX5_anyOf 34 = .ok (.aload_n 0, 1) := decAll_at aX5_anyOf_0 18 rfl
theorem dX5_anyOf_35 : decode cX5_anyOf 35 = .ok (.dup, 1) := decAll_at aX5_anyOf_0 19 rfl
theorem dX5_anyOf_36 : decode cX5_anyOf 36 = .ok (.getfield 26, 3) := decAll_at aX5_anyOf_0 20 rfl
theorem dX5_anyOf_39 : decode cX5_anyOf 39 = .ok (.iconst 1, 1) := decAll_at aX5_anyOf_0 21 rfl
theorem dX5_anyOf_40 : decode cX5_anyOf 40 = .ok (.iadd, 1) := decAll_at aX5_anyOf_0 22 rfl
theorem dX5_anyOf_41 : decode cX5_anyOf 41 = .ok (.putfield 26, 3) := decAll_at aX5_anyOf_0 23 rfl
theorem dX5_anyOf_44 : decode cX5_anyOf 44 = .ok (.aload_n 0, 1) := decAll_at aX5_anyOf_0 24 rfl
theorem dX5_anyOf_45 : decode cX5_anyOf 45 = .ok (.iconst 5, 1) := decAll_at aX5_anyOf_0 25 rfl
theorem dX5_anyOf_46 : decode cX5_anyOf 46 = .ok (.iconst 0, 1) := decAll_at aX5_anyOf_0 26 rfl
theorem dX5_anyOf_47 : decode cX5_anyOf 47 = .ok (.invokevirtual 59, 3) := decAll_at aX5_anyOf_0 27 rfl
theorem dX5_anyOf_50 : decode cX5_anyOf 50 = .ok (.ifCond .eq 24, 3) := decAll_at aX5_anyOf_0 28 rfl
theorem dX5_anyOf_53 : decode cX5_anyOf 53 = .ok (.aload_n 0, 1) := decAll_at aX5_anyOf_0 29 rfl
theorem dX5_anyOf_54 : decode cX5_anyOf 54 = .ok (.iload_n 1, 1) := decAll_at aX5_anyOf_0 30 rfl
theorem dX5_anyOf_55 : decode cX5_anyOf 55 = .ok (.invokevirtual 76, 3) := decAll_at aX5_anyOf_0 31 rfl
theorem dX5_anyOf_58 : decode cX5_anyOf 58 = .ok (.ifCond .eq 16, 3) := decAll_at aX5_anyOf_0 32 rfl
theorem dX5_anyOf_61 : decode cX5_anyOf 61 = .ok (.aload_n 0, 1) := decAll_at aX5_anyOf_0 33 rfl
theorem dX5_anyOf_62 : decode cX5_anyOf 62 = .ok (.iload 4, 2) := decAll_at aX5_anyOf_0 34 rfl
theorem dX5_anyOf_64 : decode cX5_anyOf 64 = .ok (.invokevirtual 79, 3) := decAll_at aX5_anyOf_0 35 rfl
theorem dX5_anyOf_67 : decode cX5_anyOf 67 = .ok (.ifCond .eq 7, 3) := decAll_at aX5_anyOf_0 36 rfl
theorem dX5_anyOf_70 : decode cX5_anyOf 70 = .ok (.iconst 1, 1) := decAll_at aX5_anyOf_0 37 rfl
theorem dX5_anyOf_71 : decode cX5_anyOf 71 = .ok (.goto 4, 3) := decAll_at aX5_anyOf_0 38 rfl
theorem dX5_anyOf_74 : decode cX5_anyOf 74 = .ok (.iconst 0, 1) := decAll_at aX5_anyOf_0 39 rfl
theorem dX5_anyOf_75 : decode cX5_anyOf 75 = .ok (.istore_n 2, 1) := decAll_at aX5_anyOf_0 40 rfl
theorem dX5_anyOf_76 : decode cX5_anyOf 76 = .ok (.iinc 3 1, 3) := decAll_at aX5_anyOf_0 41 rfl
theorem dX5_anyOf_79 : decode cX5_anyOf 79 = .ok (.goto (-71), 3) := decAll_at aX5_anyOf_0 42 rfl
theorem dX5_anyOf_82 : decode cX5_anyOf 82 = .ok (.iload_n 2, 1) := decAll_at aX5_anyOf_0 43 rfl
theorem dX5_anyOf_83 : decode cX5_anyOf 83 = .ok (.ireturn, 1) := decAll_at aX5_anyOf_0 44 rfl
def laX5_allOf_0 : List (Nat × Instr × Nat) := [(0, .aload_n 0, 1), (1, .iload_n 1, 1), (2, .invokevirtual 82, 3), (5, .istore_n 2, 1), (6, .iconst 0, 1), (7, .istore_n 3, 1), (8, .iload_n 3, 1), (9, .sipush 200, 3), (12, .if_icmp .ge 70, 3), (15, .iload_n 2, 1), (16, .ifCond .eq 66, 3), (19, .aload_n 0, 1), (20, .invokevirtual 46, 3), (23, .bipush 38, 2), (25, .if_icmp .ne 57, 3), (28, .aload_n 0, 1), (29, .getfield 29, 3), (32, .istore 4, 2), (34, .aload_n 0, 1), (35, .dup, 1), (36, .getfield 26, 3), (39, .iconst 1, 1), (40, .iadd, 1), (41, .putfield 26, 3), (44, .aload_n 0, 1), (45, .iconst 4, 1), (46, .iconst 0, 1), (47, .invokevirtual 59, 3), (50, .ifCond .eq 24, 3), (53, .aload_n 0, 1), (54, .iload_n 1, 1), (55, .invokevirtual 82, 3), (58, .ifCond .eq 16, 3), (61, .aload_n 0, 1), (62, .iload 4, 2), (64, .invokevirtual 79, 3), (67, .ifCond .eq 7, 3), (70, .iconst 1, 1), (71, .goto 4, 3), (74, .iconst 0, 1), (75, .istore_n 2, 1), (76, .iinc 3 1, 3), (79, .goto (-71), 3), (82, .iload_n 2, 1), (83, .ireturn, 1)]
theorem aX5_allOf_0 : decAll cX5_allOf laX5_allOf_0 = true := by decide +kernel
theorem dX5_allOf_0 : decode cX5_allOf 0 = .ok (.aload_n 0, 1) := decAll_at aX5_allOf_0 0 rfl
theorem dX5_allOf_1 : decode cX5_allOf 1 = .ok (.iload_n 1, 1) := decAll_at aX5_allOf_0 1 rfl
theorem dX5_allOf_2 : decode cX5_allOf 2 = .ok (.invokevirtual 82, 3) := decAll_at aX5_allOf_0 2 rfl
theorem dX5_allOf_5 : decode cX5_allOf 5 = .ok (.istore_n 2, 1) := decAll_at aX5_allOf_0 3 rfl
theorem dX5_allOf_6 : decode cX5_allOf 6 = .ok (.iconst 0, 1) := decAll_at aX5_allOf_0 4 rfl
theorem dX5_allOf_7 : decode cX5_allOf 7 = .ok (.istore_n 3, 1) := decAll_at aX5_allOf_0 5 rfl
theorem dX5_allOf_8 : decode cX5_allOf 8 = .ok (.iload_n 3, 1) := decAll_at aX5_allOf_0 6 rfl
theorem dX5_allOf_9 : decode cX5_allOf 9 = .ok (.sipush 200, 3) := decAll_at aX5_allOf_0 7 rfl
theorem dX5_allOf_12 : decode cX5_allOf 12 = .ok (.if_icmp .ge 70, 3) := decAll_at aX5_allOf_0 8 rfl
theorem dX5_allOf_15 : decode cX5_allOf 15 = .ok (.iload_n 2, 1) := decAll_at aX5_allOf_0 9 rfl
theorem dX5_allOf_16 : decode cX5_allOf 16 = .ok (.ifCond .eq 66, 3) := decAll_at aX5_allOf_0 10 rfl
theorem dX5_allOf_19 : decode cX5_allOf 19 = .ok (.aload_n 0, 1) := decAll_at aX5_allOf_0 11 rfl
theorem dX5_allOf_20 : decode cX5_allOf 20 = .ok (.invokevirtual 46, 3) := decAll_at aX5_allOf_0 12 rfl
theorem dX5_allOf_23 : decode cX5_allOf 23 = .ok (.bipush 38, 2) := decAll_at aX5_allOf_0 13 rfl
theorem dX5_allOf_25 : decode cX5_allOf 25 = .ok (.if_icmp .ne 57, 3) := decAll_at aX5_allOf_0 14 rfl
theorem dX5_allOf_28 : decode cX5_allOf 28 = .ok (.aload_n 0, 1) := decAll_at aX5_allOf_0 15 rfl
theorem dX5_allOf_29 : decode cX5_allOf 29 = .ok (.getfield 29, 3) := decAll_at aX5_allOf_0 16 rfl
theorem dX5_allOf_32 : decode cX5_allOf 32 = .ok (.istore 4, 2) := decAll_at aX5_allOf_0 17 rfl
theorem dX5_allOf_34 : decode cX5_allOf 34 = .ok (.aload_n 0, 1) := decAll_at aX5_allOf_0 18 rfl
theorem dX5_allOf_35 : decode cX5_allOf 35 = .ok (.dup, 1) := decAll_at aX5_allOf_0 19 rfl
theorem dX5_allOf_36 : decode cX5_allOf 36 = .ok (.getfield 26, 3) := decAll_at aX5_allOf_0 20 rfl
theorem dX5_allOf_39 : decode cX5_allOf 39 = .ok (.iconst 1, 1) := decAll_at aX5_allOf_0 21 rfl
theorem dX5_allOf_40 : decode cX5_allOf 40 = .ok (.iadd, 1) := decAll_at aX5_allOf_0 22 rfl
theorem dX5_allOf_41 : decode cX5_allOf 41 = .ok (.putfield 26, 3) := decAll_at aX5_allOf_0 23 rfl
theorem dX5_allOf_44 : decode cX5_allOf 44 = .ok (.aload_n 0, 1) := decAll_at aX5_allOf_0 24 rfl
theorem dX5_allOf_45 : decode cX5_allOf 45 = .ok (.iconst 4, 1) := decAll_at aX5_allOf_0 25 rfl
theorem dX5_allOf_46 : decode cX5_allOf 46 = .ok (.iconst 0, 1) := decAll_at aX5_allOf_0 26 rfl
theorem dX5_allOf_47 : decode cX5_allOf 47 = .ok (.invokevirtual 59, 3) := decAll_at aX5_allOf_0 27 rfl
theorem dX5_allOf_50 : decode cX5_allOf 50 = .ok (.ifCond .eq 24, 3) := decAll_at aX5_allOf_0 28 rfl
theorem dX5_allOf_53 : decode cX5_allOf 53 = .ok (.aload_n 0, 1) := decAll_at aX5_allOf_0 29 rfl
theorem dX5_allOf_54 : decode cX5_allOf 54 = .ok (.iload_n 1, 1) := decAll_at aX5_allOf_0 30 rfl
theorem dX5_allOf_55 : decode cX5_allOf 55 = .ok (.invokevirtual 82, 3) := decAll_at aX5_allOf_0 31 rfl
theorem dX5_allOf_58 : decode cX5_allOf 58 = .ok (.ifCond .eq 16, 3) := decAll_at aX5_allOf_0 32 rfl
theorem dX5_allOf_61 : decode cX5_allOf 61 = .ok (.aload_n 0, 1) := decAll_at aX5_allOf_0 33 rfl
theorem dX5_allOf_62 : decode cX5_allOf 62 = .ok (.iload 4, 2) := decAll_at aX5_allOf_0 34 rfl
theorem dX5_allOf_64 : decode cX5_allOf 64 = .ok (.invokevirtual 79, 3) := decAll_at aX5_allOf_0 35 rfl
theorem dX5_allOf_67 : decode cX5_allOf 67 = .ok (.ifCond .eq 7, 3) := decAll_at aX5_allOf_0 36 rfl
theorem dX5_allOf_70 : decode cX5_allOf 70 = .ok (.iconst 1, 1) := decAll_at aX5_allOf_0 37 rfl
theorem dX5_allOf_71 : decode cX5_allOf 71 = .ok (.goto 4, 3) := decAll_at aX5_allOf_0 38 rfl
theorem dX5_allOf_74 : decode cX5_allOf 74 = .ok (.iconst 0, 1) := decAll_at aX5_allOf_0 39 rfl
theorem dX5_allOf_75 : decode cX5_allOf 75 = .ok (.istore_n 2, 1) := decAll_at aX5_allOf_0 40 rfl
theorem dX5_allOf_76 : decode cX5_allOf 76 = .ok (.iinc 3 1, 3) := decAll_at aX5_allOf_0 41 rfl
theorem dX5_allOf_79 : decode cX5_allOf 79 = .ok (.goto (-71), 3) := decAll_at aX5_allOf_0 42 rfl
theorem dX5_allOf_82 : decode cX5_allOf 82 = .ok (.iload_n 2, 1) := decAll_at aX5_allOf_0 43 rfl
theorem dX5_allOf_83 : decode cX5_allOf 83 = .ok (.ireturn, 1) := decAll_at aX5_allOf_0 44 rfl
def laX5_single_0 : List (Nat × Instr × Nat) := [(0, .aload_n 0, 1), (1, .invokevirtual 46, 3), (4, .istore_n 2, 1), (5, .iload_n 2, 1), (6, .bipush 33, 2), (8, .if_icmp .eq 9, 3), (11, .iload_n 2, 1), (12, .bipush 40, 2), (14, .if_icmp .ne 15, 3), (17, .iload_n 1, 1), (18, .bipush 6, 2), (20, .if_icmp .lt 9, 3), (23, .aload_n 0, 1), (24, .iconst 5, 1), (25, .invokevirtual 53, 3), (28, .ireturn, 1), (29, .iload_n 2, 1), (30, .bipush 33, 2), (32, .if_icmp .ne 38, 3), (35, .aload_n 0, 1), (36, .dup, 1), (37, .getfield 26, 3), (40, .iconst 1, 1), (41, .iadd, 1), (42, .putfield 26, 3), (45, .aload_n 0, 1), (46, .iload_n 1, 1), (47, .iconst 1, 1), (48, .iadd, 1), (49, .invokevirtual 82, 3), (52, .ifCond .eq 16, 3), (55, .aload_n 0, 1), (56, .iconst 3, 1), (57, .iconst 0, 1), (58, .invokevirtual 59, 3), (61, .ifCond .eq 7, 3), (64, .iconst 1, 1), (65, .goto 4, 3), (68, .iconst 0, 1), (69, .ireturn, 1), (70, .iload_n 2, 1), (71, .bipush 40, 2), (73, .if_icmp .ne 38, 3), (76, .aload_n 0, 1), (77, .dup, 1), (78, .getfield 26, 3), (81, .iconst 1, 1), (82, .iadd, 1), (83, .putfield 26, 3), (86, .aload_n 0, 1), (87, .iload_n 1, 1), (88, .iconst 1, 1), (89, .iadd, 1), (90, .invokevirtual 63, 3), (93, .ifCond .eq 16, 3), (96, .aload_n 0, 1), (97, .bipush 41, 2), (99, .invokevirtual 42, 3), (102, .ifCond .eq 7, 3), (105, .iconst 1, 1), (106, .goto 4, 3), (109, .iconst 0, 1), (110, .ireturn, 1), (111, .aload_n 0, 1)]
theorem aX5_single_0 : decAll cX5_single laX5_single_0 = true := by decide +kernel
theorem dX5_single_0 : decode cX5_single 0 = .ok (.aload_n 0, 1) := decAll_at aX5_single_0 0 rfl
theorem dX5_single_1 : decode cX5_single 1 = .ok (.invokevirtual 46, 3) := decAll_at aX5_single_0 1 rfl
theorem dX5_single_4 : decode cX5_single 4 = .ok (.istore_n 2, 1) := decAll_at aX5_single_0 2 rfl
theorem dX5_single_5 : decode cX5_single 5 = .ok (.iload_n 2, 1) := decAll_at aX5_single_0 3 rfl
theorem dX5_single_6 : decode cX5_single 6 = .ok (.bipush 33, 2) := decAll_at aX5_single_0 4 rfl
theorem dX5_single_8 : decode cX5_single 8 = .ok (.if_icmp .eq 9, 3) := decAll_at aX5_single_0 5 rfl
theorem dX5_single_11 : decode cX5_single 11 = .ok (.iload_n 2, 1) := decAll_at aX5_single_0 6 rfl
theorem dX5_single_12 : decode cX5_single 12 = .ok (.bipush 40, 2) := decAll_at aX5_single_0 7 rfl
theorem dX5_single_14 : decode cX5_single 14 = .ok (.if_icmp .ne 15, 3) := decAll_at aX5_single_0 8 rfl
theorem dX5_single_17 : decode cX5_single 17 = .ok (.iload_n 1, 1) := decAll_at aX5_single_0 9 rfl
theorem dX5_single_18 : decode cX5_single 18 = .ok (.bipush 6, 2) := decAll_at aX5_single_0 10 rfl
theorem dX5_single_20 : decode cX5_single 20 = .ok (.if_icmp .lt 9, 3) := decAll_at aX5_single_0 11 rfl
theorem dX5_single_23 : decode cX5_single 23 = .ok (.aload_n 0, 1) := decAll_at aX5_single_0 12 rfl
theorem dX5_single_24 : decode cX5_single 24 = .ok (.iconst 5, 1) := decAll_at aX5_single_0 13 rfl
theorem dX5_single_25 : decode cX5_single 25 = .ok (.invokevirtual 53, 3) := decAll_at aX5_single_0 14 rfl
theorem dX5_single_28 : decode cX5_single 28 = .ok (.ireturn, 1) := decAll_at aX5_single_0 15 rfl
theorem dX5_single_29 : decode cX5_single 29 = .ok (.iload_n 2, 1) := decAll_at aX5_single_0 16 rfl
theorem dX5_single_30 : decode cX5_single 30 = .ok (.bipush 33, 2) := decAll_at aX5_single_0 17 rfl
theorem dX5_single_32 : decode cX5_single 32 = .ok (.if_icmp .ne 38, 3) := decAll_at aX5_single_0 18 rfl
theorem dX5_single_35 : decode cX5_single 35 = .ok (.aload_n 0, 1) := decAll_at aX5_single_0 19 rfl
theorem dX5_single_36 : decode cX5_single 36 = .ok (.dup, 1) := decAll_at aX5_single_0 20 rfl
theorem dX5_single_37 : decode cX5_single 37 = .ok (.getfield 26, 3) := decAll_at aX5_single_0 21 rfl
theorem dX5_single_40 : decode cX5_single 40 = .ok (.iconst 1, 1) := decAll_at aX5_single_0 22 rfl
theorem dX5_single_41 : decode cX5_single 41 = .ok (.iadd, 1) := decAll_at aX5_single_0 23 rfl
theorem dX5_single_42 : decode cX5_single 42 = .ok (.putfield 26, 3) := decAll_at aX5_single_0 24 rfl
theorem dX5_single_45 : decode cX5_single 45 = .ok (.aload_n 0, 1) := decAll_at aX5_single_0 25 rfl
theorem dX5_single_46 : decode cX5_single 46 = .ok (.iload_n 1, 1) := decAll_at aX5_single_0 26 rfl
theorem dX5_single_47 : decode cX5_single 47 = .ok (.iconst 1, 1) := decAll_at aX5_single_0 27 rfl
theorem dX5_single_48 : decode cX5_single 48 = .ok (.iadd, 1) := decAll_at aX5_single_0 28 rfl
theorem dX5_single_49 : decode cX5_single 49 = .ok (.invokevirtual 82, 3) := decAll_at aX5_single_0 29 rfl
theorem dX5_single_52 : decode cX5_single 52 = .ok (.ifCond .eq 16, 3) := decAll_at aX5_single_0 30 rfl
theorem dX5_single_55 : decode cX5_single 55 = .ok (.aload_n 0, 1) := decAll_at aX5_single_0 31 rfl
theorem dX5_single_56 : decode cX5_single 56 = .ok (.iconst 3, 1) := decAll_at aX5_single_0 32 rfl
theorem dX5_single_57 : decode cX5_single 57 = .ok (.iconst 0, 1) := decAll_at aX5_single_0 33 rfl
theorem dX5_single_58 : decode cX5_single 58 = .ok (.invokevirtual 59, 3) := decAll_at aX5_single_0 34 rfl
theorem dX5_single_61 : decode cX5_single 61 = .ok (.ifCond .eq 7, 3) := decAll_at aX5_single_0 35 rfl
theorem dX5_single_64 : decode cX5_single 64 = .ok (.iconst 1, 1) := decAll_at aX5_single_0 36 rfl
theorem dX5_single_65 : decode cX5_single 65 = .ok (.goto 4, 3) := decAll_at aX5_single_0 37 rfl
theorem dX5_single_68 : decode cX5_single 68 = .ok (.iconst 0, 1) := decAll_at aX5_single_0 38 rfl
theorem dX5_single_69 : decode cX5_single 69 = .ok (.ireturn, 1) := decAll_at aX5_single_0 39 rfl
theorem dX5_single_70 : decode cX5_single 70 = .ok (.iload_n 2, 1) := decAll_at aX5_single_0 40 rfl
theorem dX5_single_71 : decode cX5_single 71 = .ok (.bipush 40, 2) := decAll_at aX5_single_0 41 rfl
theorem dX5_single_73 : decode cX5_single 73 = .ok (.if_icmp .ne 38, 3) := decAll_at aX5_single_0 42 rfl
theorem dX5_single_76 : decode cX5_single 76 = .ok (.aload_n 0, 1) := decAll_at aX5_single_0 43 rfl
theorem dX5_single_77 : decode cX5_single 77 = .ok (.dup, 1) := decAll_at aX5_single_0 44 rfl
theorem dX5_single_78 : decode cX5_single 78 = .ok (.getfield 26, 3) := decAll_at aX5_single_0 45 rfl
theorem dX5_single_81 : decode cX5_single 81 = .ok (.iconst 1, 1) := decAll_at aX5_single_0 46 rfl
theorem dX5_single_82 : decode cX5_single 82 = .ok (.iadd, 1) := decAll_at aX5_single_0 47 rfl
theorem dX5_single_83 : decode cX5_single 83 = .ok (.putfield 26, 3) := decAll_at aX5_single_0 48 rfl
theorem dX5_single_86 : decode cX5_single 86 = .ok (.aload_n 0, 1) := decAll_at aX5_single_0 49 rfl
theorem dX5_single_87 : decode cX5_single 87 = .ok (.iload_n 1, 1) := decAll_at aX5_single_0 50 rfl
theorem dX5_single_88 : decode cX5_single 88 = .ok (.iconst 1, 1) := decAll_at aX5_single_0 51 rfl
theorem dX5_single_89 : decode cX5_single 89 = .ok (.iadd, 1) := decAll_at aX5_single_0 52 rfl
theorem dX5_single_90 : decode cX5_single 90 = .ok (.invokevirtual 63, 3) := decAll_at aX5_single_0 53 rfl
theorem dX5_single_93 : decode cX5_single 93 = .ok (.ifCond .eq 16, 3) := decAll_at aX5_single_0 54 rfl
theorem dX5_single_96 : decode cX5_single 96 = .ok (.aload_n 0, 1) := decAll_at aX5_single_0 55 rfl
theorem dX5_single_97 : decode cX5_single 97 = .ok (.bipush 41, 2) := decAll_at aX5_single_0 56 rfl
theorem dX5_single_99 : decode cX5_single 99 = .ok (.invokevirtual 42, 3) := decAll_at aX5_single_0 57 rfl
theorem dX5_single_102 : decode cX5_single 102 = .ok (.ifCond .eq 7, 3) := decAll_at aX5_single_0 58 rfl
theorem dX5_single_105 : decode cX5_single 105 = .ok (.iconst 1, 1) := decAll_at aX5_single_0 59 rfl
theorem dX5_single_106 : decode cX5_single 106 = .ok (.goto 4, 3) := decAll_at aX5_single_0 60 rfl
theorem dX5_single_109 : decode cX5_single 109 = .ok (.iconst 0, 1) := decAll_at aX5_single_0 61 rfl
theorem dX5_single_110 : decode cX5_single 110 = .ok (.ireturn, 1) := decAll_at aX5_single_0 62 rfl
theorem dX5_single_111 : decode cX5_single 111 = .ok (.aload_n 0, 1) := decAll_at aX5_single_0 63 rfl
def laX5_single_1 : List (Nat × Instr × Nat) := [(112, .iload_n 1, 1), (113, .invokevirtual 56, 3), (116, .ifCond .ne 5, 3), (119, .iconst 0, 1), (120, .ireturn, 1), (121, .aload_n 0, 1), (122, .invokevirtual 46, 3), (125, .invokestatic 85, 3), (128, .istore_n 3, 1), (129, .iload_n 3, 1), (130, .iconst (-1), 1), (131, .if_icmp .ne 9, 3), (134, .aload_n 0, 1), (135, .iconst 1, 1), (136, .invokevirtual 53, 3), (139, .ireturn, 1), (140, .aload_n 0, 1), (141, .dup, 1), (142, .getfield 26, 3), (145, .iconst 1, 1), (146, .iadd, 1), (147, .putfield 26, 3), (150, .aload_n 0, 1), (151, .iload_n 1, 1), (152, .invokevirtual 56, 3), (155, .ifCond .eq 16, 3), (158, .aload_n 0, 1), (159, .iload_n 3, 1), (160, .iconst 0, 1), (161, .invokevirtual 59, 3), (164, .ifCond .eq 7, 3), (167, .iconst 1, 1), (168, .goto 4, 3), (171, .iconst 0, 1), (172, .ireturn, 1)]
theorem aX5_single_1 : decAll cX5_single laX5_single_1 = true := by decide +kernel
theorem dX5_single_112 : decode cX5_single 112 = .ok (.iload_n 1, 1) := decAll_at aX5_single_1 0 rfl
theorem dX5_single_113 : decode cX5_single 113 = .ok (.invokevirtual 56, 3) := decAll_at aX5_single_1 1 rfl
theorem dX5_single_116 : decode cX5_single 116 = .ok (.ifCond .ne 5, 3) := decAll_at aX5_single_1 2 rfl
theorem dX5_single_119 : decode cX5_single 119 = .ok (.iconst 0, 1) := decAll_at aX5_single_1 3 rfl
theorem dX5_single_120 : decode cX5_single 120 = .ok (.ireturn, 1) := decAll_at aX5_single_1 4 rfl
theorem dX5_single_121 : decode cX5_single 121 = .ok (.aload_n 0, 1) := decAll_at aX5_single_1 5 rfl
theorem dX5_single_122 : decode cX5_single 122 = .ok (.invokevirtual 46, 3) := decAll_at aX5_single_1 6 rfl
theorem dX5_single_125 : decode cX5_single 125 = .ok (.invokestatic 85, 3) := decAll_at aX5_single_1 7 rfl
theorem dX5_single_128 : decode cX5_single 128 = .ok (.istore_n 3, 1) := decAll_at aX5_single_1 8 rfl
theorem dX5_single_129 : decode cX5_single 129 = .ok (.iload_n 3, 1) := decAll_at aX5_single_1 9 rfl
theorem dX5_single_130 : decode cX5_single 130 = .ok (.iconst (-1), 1) := decAll_at aX5_single_1 10 rfl
theorem dX5_single_131 : decode cX5_single 131 = .ok (.if_icmp .ne 9, 3) := decAll_at aX5_single_1 11 rfl
theorem dX5_single_134 : decode cX5_single 134 = .ok (.aload_n 0, 1) := decAll_at aX5_single_1 12 rfl
theorem dX5_single_135 : decode cX5_single 135 = .ok (.iconst 1, 1) := decAll_at aX5_single_1 13 rfl
theorem dX5_single_136 : decode cX5_single 136 = .ok (.invokevirtual 53, 3) := decAll_at aX5_single_1 14 rfl
theorem dX5_single_139 : decode cX5_single 139 = .ok (.ireturn, 1) := decAll_at aX5_single_1 15 rfl
theorem dX5_single_140 : decode cX5_single 140 = .ok (.aload_n 0, 1) := decAll_at aX5_single_1 16 rfl
theorem dX5_single_141 : decode cX5_single 141 = .ok (.dup, 1) := decAll_at aX5_single_1 17 rfl
theorem dX5_single_142 : decode cX5_single 142 = .ok (.getfield 26, 3) := decAll_at aX5_single_1 18 rfl
theorem dX5_single_145 : decode cX5_single 145 = .ok (.iconst 1, 1) := decAll_at aX5_single_1 19 rfl
theorem dX5_single_146 : decode cX5_single 146 = .ok (.iadd, 1) := decAll_at aX5_single_1 20 rfl
theorem dX5_single_147 : decode cX5_single 147 = .ok (.putfield 26, 3) := decAll_at aX5_single_1 21 rfl
theorem dX5_single_150 : decode cX5_single 150 = .ok (.aload_n 0, 1) := decAll_at aX5_single_1 22 rfl
theorem dX5_single_151 : decode cX5_single 151 = .ok (.iload_n 1, 1) := decAll_at aX5_single_1 23 rfl
theorem dX5_single_152 : decode cX5_single 152 = .ok (.invokevirtual 56, 3) := decAll_at aX5_single_1 24 rfl
theorem dX5_single_155 : decode cX5_single 155 = .ok (.ifCond .eq 16, 3) := decAll_at aX5_single_1 25 rfl
theorem dX5_single_158 : decode cX5_single 158 = .ok (.aload_n 0, 1) := decAll_at aX5_single_1 26 rfl
theorem dX5_single_159 : decode cX5_single 159 = .ok (.iload_n 3, 1) := decAll_at aX5_single_1 27 rfl
theorem dX5_single_160 : decode cX5_single 160 = .ok (.iconst 0, 1) := decAll_at aX5_single_1 28 rfl
theorem dX5_single_161 : decode cX5_single 161 = .ok (.invokevirtual 59, 3) := decAll_at aX5_single_1 29 rfl
theorem dX5_single_164 : decode cX5_single 164 = .ok (.ifCond .eq 7, 3) := decAll_at aX5_single_1 30 rfl
theorem dX5_single_167 : decode cX5_single 167 = .ok (.iconst 1, 1) := decAll_at aX5_single_1 31 rfl
theorem dX5_single_168 : decode cX5_single 168 = .ok (.goto 4, 3) := decAll_at aX5_single_1 32 rfl
theorem dX5_single_171 : decode cX5_single 171 = .ok (.iconst 0, 1) := decAll_at aX5_single_1 33 rfl
theorem dX5_single_172 : decode cX5_single 172 = .ok (.ireturn, 1) := decAll_at aX5_single_1 34 rfl
def laX5_sum_0 : List (Nat × Instr × Nat) := [(0, .aload_n 0, 1), (1, .iload_n 1, 1), (2, .invokevirtual 89, 3), (5, .istore_n 2, 1), (6, .iconst 0, 1), (7, .istore_n 3, 1), (8, .iload_n 3, 1), (9, .sipush 200, 3), (12, .if_icmp .ge 83, 3), (15, .iload_n 2, 1), (16, .ifCond .eq 79, 3), (19, .aload_n 0, 1), (20, .invokevirtual 46, 3), (23, .bipush 43, 2), (25, .if_icmp .eq 12, 3), (28, .aload_n 0, 1), (29, .invokevirtual 46, 3), (32, .bipush 45, 2), (34, .if_icmp .ne 61, 3), (37, .aload_n 0, 1), (38, .invokevirtual 46, 3), (41, .bipush 43, 2), (43, .if_icmp .ne 8, 3), (46, .bipush 6, 2), (48, .goto 5, 3), (51, .bipush 7, 2), (53, .istore 4, 2), (55, .aload_n 0, 1), (56, .dup, 1), (57, .getfield 26, 3), (60, .iconst 1, 1), (61, .iadd, 1), (62, .putfield 26, 3), (65, .aload_n 0, 1), (66, .iload_n 1, 1), (67, .invokevirtual 89, 3), (70, .ifCond .eq 17, 3), (73, .aload_n 0, 1), (74, .iload 4, 2), (76, .iconst 0, 1), (77, .invokevirtual 59, 3), (80, .ifCond .eq 7, 3), (83, .iconst 1, 1), (84, .goto 4, 3), (87, .iconst 0, 1), (88, .istore_n 2, 1), (89, .iinc 3 1, 3), (92, .goto (-84), 3), (95, .iload_n 2, 1), (96, .ireturn, 1)]
theorem aX5_sum_0 : decAll cX5_sum laX5_sum_0 = true := by decide +kernel
theorem dX5_sum_0 : decode cX5_sum 0 = .ok (.aload_n 0, 1) := decAll_at aX5_sum_0 0 rfl
theorem dX5_sum_1 : decode cX5_sum 1 = .ok (.iload_n 1, 1) := decAll_at aX5_sum_0 1 rfl
theorem dX5_sum_2 : decode cX5_sum 2 = .ok (.invokevirtual 89, 3) := decAll_at aX5_sum_0 2 rfl
theorem dX5_sum_5 : decode cX5_sum 5 = .ok (.istore_n 2, 1) := decAll_at aX5_sum_0 3 rfl
theorem dX5_sum_6 : decode cX5_sum 6 = .ok (.iconst 0, 1) := decAll_at aX5_sum_0 4 rfl
theorem dX5_sum_7 : decode cX5_sum 7 = .ok (.istore_n 3, 1) := decAll_at aX5_sum_0 5 rfl
theorem dX5_sum_8 : decode cX5_sum 8 = .ok (.iload_n 3, 1) := decAll_at aX5_sum_0 6 rfl
theorem dX5_sum_9 : decode cX5_sum 9 = .ok (.sipush 200, 3) := decAll_at aX5_sum_0 7 rfl
theorem dX5_sum_12 : decode cX5_sum 12 = .ok (.if_icmp .ge 83, 3) := decAll_at aX5_sum_0 8 rfl
theorem dX5_sum_15 : decode cX5_sum 15 = .ok (.iload_n 2, 1) := decAll_at aX5_sum_0 9 rfl
theorem dX5_sum_16 : decode cX5_sum 16 = .ok (.ifCond .eq 79, 3) := decAll_at aX5_sum_0 10 rfl
theorem dX5_sum_19 : decode cX5_sum 19 = .ok (.aload_n 0, 1) := decAll_at aX5_sum_0 11 rfl
theorem dX5_sum_20 : decode cX5_sum 20 = .ok (.invokevirtual 46, 3) := decAll_at aX5_sum_0 12 rfl
theorem dX5_sum_23 : decode cX5_sum 23 = .ok (.bipush 43, 2) := decAll_at aX5_sum_0 13 rfl
theorem dX5_sum_25 : decode cX5_sum 25 = .ok (.if_icmp .eq 12, 3) := decAll_at aX5_sum_0 14 rfl
theorem dX5_sum_28 : decode cX5_sum 28 = .ok (.aload_n 0, 1) := decAll_at aX5_sum_0 15 rfl
theorem dX5_sum_29 : decode cX5_sum 29 = .ok (.invokevirtual 46, 3) := decAll_at aX5_sum_0 16 rfl
theorem dX5_sum_32 : decode cX5_sum 32 = .ok (.bipush 45, 2) := decAll_at aX5_sum_0 17 rfl
theorem dX5_sum_34 : decode cX5_sum 34 = .ok (.if_icmp .ne 61, 3) := decAll_at aX5_sum_0 18 rfl
theorem dX5_sum_37 : decode cX5_sum 37 = .ok (.aload_n 0, 1) := decAll_at aX5_sum_0 19 rfl
theorem dX5_sum_38 : decode cX5_sum 38 = .ok (.invokevirtual 46, 3) := decAll_at aX5_sum_0 20 rfl
theorem dX5_sum_41 : decode cX5_sum 41 = .ok (.bipush 43, 2) := decAll_at aX5_sum_0 21 rfl
theorem dX5_sum_43 : decode cX5_sum 43 = .ok (.if_icmp .ne 8, 3) := decAll_at aX5_sum_0 22 rfl
theorem dX5_sum_46 : decode cX5_sum 46 = .ok (.bipush 6, 2) := decAll_at aX5_sum_0 23 rfl
theorem dX5_sum_48 : decode cX5_sum 48 = .ok (.goto 5, 3) := decAll_at aX5_sum_0 24 rfl
theorem dX5_sum_51 : decode cX5_sum 51 = .ok (.bipush 7, 2) := decAll_at aX5_sum_0 25 rfl
theorem dX5_sum_53 : decode cX5_sum 53 = .ok (.istore 4, 2) := decAll_at aX5_sum_0 26 rfl
theorem dX5_sum_55 : decode cX5_sum 55 = .ok (.aload_n 0, 1) := decAll_at aX5_sum_0 27 rfl
theorem dX5_sum_56 : decode cX5_sum 56 = .ok (.dup, 1) := decAll_at aX5_sum_0 28 rfl
theorem dX5_sum_57 : decode cX5_sum 57 = .ok (.getfield 26, 3) := decAll_at aX5_sum_0 29 rfl
theorem dX5_sum_60 : decode cX5_sum 60 = .ok (.iconst 1, 1) := decAll_at aX5_sum_0 30 rfl
theorem dX5_sum_61 : decode cX5_sum 61 = .ok (.iadd, 1) := decAll_at aX5_sum_0 31 rfl
theorem dX5_sum_62 : decode cX5_sum 62 = .ok (.putfield 26, 3) := decAll_at aX5_sum_0 32 rfl
theorem dX5_sum_65 : decode cX5_sum 65 = .ok (.aload_n 0, 1) := decAll_at aX5_sum_0 33 rfl
theorem dX5_sum_66 : decode cX5_sum 66 = .ok (.iload_n 1, 1) := decAll_at aX5_sum_0 34 rfl
theorem dX5_sum_67 : decode cX5_sum 67 = .ok (.invokevirtual 89, 3) := decAll_at aX5_sum_0 35 rfl
theorem dX5_sum_70 : decode cX5_sum 70 = .ok (.ifCond .eq 17, 3) := decAll_at aX5_sum_0 36 rfl
theorem dX5_sum_73 : decode cX5_sum 73 = .ok (.aload_n 0, 1) := decAll_at aX5_sum_0 37 rfl
theorem dX5_sum_74 : decode cX5_sum 74 = .ok (.iload 4, 2) := decAll_at aX5_sum_0 38 rfl
theorem dX5_sum_76 : decode cX5_sum 76 = .ok (.iconst 0, 1) := decAll_at aX5_sum_0 39 rfl
theorem dX5_sum_77 : decode cX5_sum 77 = .ok (.invokevirtual 59, 3) := decAll_at aX5_sum_0 40 rfl
theorem dX5_sum_80 : decode cX5_sum 80 = .ok (.ifCond .eq 7, 3) := decAll_at aX5_sum_0 41 rfl
theorem dX5_sum_83 : decode cX5_sum 83 = .ok (.iconst 1, 1) := decAll_at aX5_sum_0 42 rfl
theorem dX5_sum_84 : decode cX5_sum 84 = .ok (.goto 4, 3) := decAll_at aX5_sum_0 43 rfl
theorem dX5_sum_87 : decode cX5_sum 87 = .ok (.iconst 0, 1) := decAll_at aX5_sum_0 44 rfl
theorem dX5_sum_88 : decode cX5_sum 88 = .ok (.istore_n 2, 1) := decAll_at aX5_sum_0 45 rfl
theorem dX5_sum_89 : decode cX5_sum 89 = .ok (.iinc 3 1, 3) := decAll_at aX5_sum_0 46 rfl
theorem dX5_sum_92 : decode cX5_sum 92 = .ok (.goto (-84), 3) := decAll_at aX5_sum_0 47 rfl
theorem dX5_sum_95 : decode cX5_sum 95 = .ok (.iload_n 2, 1) := decAll_at aX5_sum_0 48 rfl
theorem dX5_sum_96 : decode cX5_sum 96 = .ok (.ireturn, 1) := decAll_at aX5_sum_0 49 rfl
def laX5_product_0 : List (Nat × Instr × Nat) := [(0, .aload_n 0, 1), (1, .iload_n 1, 1), (2, .invokevirtual 92, 3), (5, .istore_n 2, 1), (6, .iconst 0, 1), (7, .istore_n 3, 1), (8, .iload_n 3, 1), (9, .sipush 200, 3), (12, .if_icmp .ge 67, 3), (15, .iload_n 2, 1), (16, .ifCond .eq 63, 3), (19, .aload_n 0, 1), (20, .invokevirtual 46, 3), (23, .invokestatic 95, 3), (26, .iconst (-1), 1), (27, .if_icmp .eq 52, 3), (30, .aload_n 0, 1), (31, .invokevirtual 46, 3), (34, .invokestatic 95, 3), (37, .istore 4, 2), (39, .aload_n 0, 1), (40, .dup, 1), (41, .getfield 26, 3), (44, .iconst 1, 1), (45, .iadd, 1), (46, .putfield 26, 3), (49, .aload_n 0, 1), (50, .iload_n 1, 1), (51, .invokevirtual 92, 3), (54, .ifCond .eq 17, 3), (57, .aload_n 0, 1), (58, .iload 4, 2), (60, .iconst 0, 1), (61, .invokevirtual 59, 3), (64, .ifCond .eq 7, 3), (67, .iconst 1, 1), (68, .goto 4, 3), (71, .iconst 0, 1), (72, .istore_n 2, 1), (73, .iinc 3 1, 3), (76, .goto (-68), 3), (79, .iload_n 2, 1), (80, .ireturn, 1)]
theorem aX5_product_0 : decAll cX5_product laX5_product_0 = true := by decide +kernel
theorem dX5_product_0 : decode cX5_product 0 = .ok (.aload_n 0, 1) := decAll_at aX5_product_0 0 rfl
theorem dX5_product_1 : decode cX5_product 1 = .ok (.iload_n 1, 1) := decAll_at aX5_product_0 1 rfl
theorem dX5_product_2 : decode cX5_product 2 = .ok (.invokevirtual 92, 3) := decAll_at aX5_product_0 2 rfl
theorem dX5_product_5 : decode cX5_product 5 = .ok (.istore_n 2, 1) := decAll_at aX5_product_0 3 rfl
theorem dX5_product_6 : decode cX5_product 6 = .ok (.iconst 0, 1) := decAll_at aX5_product_0 4 rfl
theorem dX5_product_7 : decode cX5_product 7 = .ok (.istore_n 3, 1) := decAll_at aX5_product_0 5 rfl
theorem dX5_product_8 : decode cX5_product 8 = .ok (.iload_n 3, 1) := decAll_at aX5_product_0 6 rfl
theorem dX5_product_9 : decode cX5_product 9 = .ok (.sipush 200, 3) := decAll_at aX5_product_0 7 rfl
theorem dX5_product_12 : decode cX5_product 12 = .ok (.if_icmp .ge 67, 3) := decAll_at aX5_product_0 8 rfl
theorem dX5_product_15 : decode cX5_product 15 = .ok (.iload_n 2, 1) := decAll_at aX5_product_0 9 rfl
theorem dX5_product_16 : decode cX5_product 16 = .ok (.ifCond .eq 63, 3) := decAll_at aX5_product_0 10 rfl
theorem dX5_product_19 : decode cX5_product 19 = .ok (.aload_n 0, 1) := decAll_at aX5_product_0 11 rfl
theorem dX5_product_20 : decode cX5_product 20 = .ok (.invokevirtual 46, 3) := decAll_at aX5_product_0 12 rfl
theorem dX5_product_23 : decode cX5_product 23 = .ok (.invokestatic 95, 3) := decAll_at aX5_product_0 13 rfl
theorem dX5_product_26 : decode cX5_product 26 = .ok (.iconst (-1), 1) := decAll_at aX5_product_0 14 rfl
theorem dX5_product_27 : decode cX5_product 27 = .ok (.if_icmp .eq 52, 3) := decAll_at aX5_product_0 15 rfl
theorem dX5_product_30 : decode cX5_product 30 = .ok (.aload_n 0, 1) := decAll_at aX5_product_0 16 rfl
theorem dX5_product_31 : decode cX5_product 31 = .ok (.invokevirtual 46, 3) := decAll_at aX5_product_0 17 rfl
theorem dX5_product_34 : decode cX5_product 34 = .ok (.invokestatic 95, 3) := decAll_at aX5_product_0 18 rfl
theorem dX5_product_37 : decode cX5_product 37 = .ok (.istore 4, 2) := decAll_at aX5_product_0 19 rfl
theorem dX5_product_39 : decode cX5_product 39 = .ok (.aload_n 0, 1) := decAll_at aX5_product_0 20 rfl
theorem dX5_product_40 : decode cX5_product 40 = .ok (.dup, 1) := decAll_at aX5_product_0 21 rfl
theorem dX5_product_41 : decode cX5_product 41 = .ok (.getfield 26, 3) := decAll_at aX5_product_0 22 rfl
theorem dX5_product_44 : decode cX5_product 44 = .ok (.iconst 1, 1) := decAll_at aX5_product_0 23 rfl
theorem dX5_product_45 : decode cX5_product 45 = .ok (.iadd, 1) := decAll_at aX5_product_0 24 rfl
theorem dX5_product_46 : decode cX5_product 46 = .ok (.putfield 26, 3) := decAll_at aX5_product_0 25 rfl
theorem dX5_product_49 : decode cX5_product 49 = .ok (.aload_n 0, 1) := decAll_at aX5_product_0 26 rfl
theorem dX5_product_50 : decode cX5_product 50 = .ok (.iload_n 1, 1) := decAll_at aX5_product_0 27 rfl
theorem dX5_product_51 : decode cX5_product 51 = .ok (.invokevirtual 92, 3) := decAll_at aX5_product_0 28 rfl
theorem dX5_product_54 : decode cX5_product 54 = .ok (.ifCond .eq 17, 3) := decAll_at aX5_product_0 29 rfl
theorem dX5_product_57 : decode cX5_product 57 = .ok (.aload_n 0, 1) := decAll_at aX5_product_0 30 rfl
theorem dX5_product_58 : decode cX5_product 58 = .ok (.iload 4, 2) := decAll_at aX5_product_0 31 rfl
theorem dX5_product_60 : decode cX5_product 60 = .ok (.iconst 0, 1) := decAll_at aX5_product_0 32 rfl
theorem dX5_product_61 : decode cX5_product 61 = .ok (.invokevirtual 59, 3) := decAll_at aX5_product_0 33 rfl
theorem dX5_product_64 : decode cX5_product 64 = .ok (.ifCond .eq 7, 3) := decAll_at aX5_product_0 34 rfl
theorem dX5_product_67 : decode cX5_product 67 = .ok (.iconst 1, 1) := decAll_at aX5_product_0 35 rfl
theorem dX5_product_68 : decode cX5_product 68 = .ok (.goto 4, 3) := decAll_at aX5_product_0 36 rfl
theorem dX5_product_71 : decode cX5_product 71 = .ok (.iconst 0, 1) := decAll_at aX5_product_0 37 rfl
theorem dX5_product_72 : decode cX5_product 72 = .ok (.istore_n 2, 1) := decAll_at aX5_product_0 38 rfl
theorem dX5_product_73 : decode cX5_product 73 = .ok (.iinc 3 1, 3) := decAll_at aX5_product_0 39 rfl
theorem dX5_product_76 : decode cX5_product 76 = .ok (.goto (-68), 3) := decAll_at aX5_product_0 40 rfl
theorem dX5_product_79 : decode cX5_product 79 = .ok (.iload_n 2, 1) := decAll_at aX5_product_0 41 rfl
theorem dX5_product_80 : decode cX5_product 80 = .ok (.ireturn, 1) := decAll_at aX5_product_0 42 rfl
def laX5_factor_0 : List (Nat × Instr × Nat) := [(0, .aload_n 0, 1), (1, .invokevirtual 46, 3), (4, .istore_n 2, 1), (5, .iload_n 2, 1), (6, .bipush 91, 2), (8, .if_icmp .ne 50, 3), (11, .iload_n 1, 1), (12, .bipush 6, 2), (14, .if_icmp .lt 9, 3), (17, .aload_n 0, 1), (18, .iconst 5, 1), (19, .invokevirtual 53, 3), (22, .ireturn, 1), (23, .aload_n 0, 1), (24, .dup, 1), (25, .getfield 26, 3), (28, .iconst 1, 1), (29, .iadd, 1), (30, .putfield 26, 3), (33, .aload_n 0, 1), (34, .iload_n 1, 1), (35, .iconst 1, 1), (36, .iadd, 1), (37, .invokevirtual 56, 3), (40, .ifCond .eq 16, 3), (43, .aload_n 0, 1), (44, .bipush 93, 2), (46, .invokevirtual 42, 3), (49, .ifCond .eq 7, 3), (52, .iconst 1, 1), (53, .goto 4, 3), (56, .iconst 0, 1), (57, .ireturn, 1), (58, .iload_n 2, 1), (59, .bipush 48, 2), (61, .if_icmp .lt 14, 3), (64, .iload_n 2, 1), (65, .bipush 57, 2), (67, .if_icmp .gt 8, 3), (70, .aload_n 0, 1), (71, .invokevirtual 98, 3), (74, .ireturn, 1), (75, .aload_n 0, 1), (76, .iload_n 2, 1), (77, .invokevirtual 101, 3), (80, .istore_n 3, 1), (81, .iload_n 3, 1), (82, .iconst (-1), 1), (83, .if_icmp .ne 9, 3), (86, .aload_n 0, 1), (87, .iconst 1, 1), (88, .invokevirtual 53, 3), (91, .ireturn, 1), (92, .aload_n 0, 1), (93, .dup, 1), (94, .getfield 26, 3), (97, .iconst 1, 1), (98, .iadd, 1), (99, .putfield 26, 3), (102, .aload_n 0, 1), (103, .iconst 2, 1), (104, .iload_n 3, 1), (105, .invokevirtual 59, 3), (108, .ireturn, 1)]
theorem aX5_factor_0 : decAll cX5_factor laX5_factor_0 = true := by decide +kernel
theorem dX5_factor_0 : decode cX5_factor 0 = .ok (.aload_n 0, 1) := decAll_at aX5_factor_0 0 rfl
theorem dX5_factor_1 : decode cX5_factor 1 = .ok (.invokevirtual 46, 3) := decAll_at aX5_factor_0 1 rfl
theorem dX5_factor_4 : decode cX5_factor 4 = .ok (.istore_n 2, 1) := decAll_at aX5_factor_0 2 rfl
theorem dX5_factor_5 : decode cX5_factor 5 = .ok (.iload_n 2, 1) := decAll_at aX5_factor_0 3 rfl
theorem dX5_factor_6 : decode cX5_factor 6 = .ok (.bipush 91, 2) := decAll_at aX5_factor_0 4 rfl
theorem dX5_factor_8 : decode cX5_factor 8 = .ok (.if_icmp .ne 50, 3) := decAll_at aX5_factor_0 5 rfl
theorem dX5_factor_11 : decode cX5_factor 11 = .ok (.iload_n 1, 1) := decAll_at aX5_factor_0 6 rfl
theorem dX5_factor_12 : decode cX5_factor 12 = .ok (.bipush 6, 2) := decAll_at aX5_factor_0 7 rfl
theorem dX5_factor_14 : decode cX5_factor 14 = .ok (.if_icmp .lt 9, 3) := decAll_at aX5_factor_0 8 rfl
theorem dX5_factor_17 : decode cX5_factor 17 = .ok (.aload_n 0, 1) := decAll_at aX5_factor_0 9 rfl
theorem dX5_factor_18 : decode cX5_factor 18 = .ok (.iconst 5, 1) := decAll_at aX5_factor_0 10 rfl
theorem dX5_factor_19 : decode cX5_factor 19 = .ok (.invokevirtual 53, 3) := decAll_at aX5_factor_0 11 rfl
theorem dX5_factor_22 : decode cX5_factor 22 = .ok (.ireturn, 1) := decAll_at aX5_factor_0 12 rfl
theorem dX5_factor_23 : decode cX5_factor 23 = .ok (.aload_n 0, 1) := decAll_at aX5_factor_0 13 rfl
theorem dX5_factor_24 : decode cX5_factor 24 = .ok (.dup, 1) := decAll_at aX5_factor_0 14 rfl
theorem dX5_factor_25 : decode cX5_factor 25 = .ok (.getfield 26, 3) := decAll_at aX5_factor_0 15 rfl
theorem dX5_factor_28 : decode cX5_factor 28 = .ok (.iconst 1, 1) := decAll_at aX5_factor_0 16 rfl
theorem dX5_factor_29 : decode cX5_factor 29 = .ok (.iadd, 1) := decAll_at aX5_factor_0 17 rfl
theorem dX5_factor_30 : decode cX5_factor 30 = .ok (.putfield 26, 3) := decAll_at aX5_factor_0 18 rfl
theorem dX5_factor_33 : decode cX5_factor 33 = .ok (.aload_n 0, 1) := decAll_at aX5_factor_0 19 rfl
theorem dX5_factor_34 : decode cX5_factor 34 = .ok (.iload_n 1, 1) := decAll_at aX5_factor_0 20 rfl
theorem dX5_factor_35 : decode cX5_factor 35 = .ok (.iconst 1, 1) := decAll_at aX5_factor_0 21 rfl
theorem dX5_factor_36 : decode cX5_factor 36 = .ok (.iadd, 1) := decAll_at aX5_factor_0 22 rfl
theorem dX5_factor_37 : decode cX5_factor 37 = .ok (.invokevirtual 56, 3) := decAll_at aX5_factor_0 23 rfl
theorem dX5_factor_40 : decode cX5_factor 40 = .ok (.ifCond .eq 16, 3) := decAll_at aX5_factor_0 24 rfl
theorem dX5_factor_43 : decode cX5_factor 43 = .ok (.aload_n 0, 1) := decAll_at aX5_factor_0 25 rfl
theorem dX5_factor_44 : decode cX5_factor 44 = .ok (.bipush 93, 2) := decAll_at aX5_factor_0 26 rfl
theorem dX5_factor_46 : decode cX5_factor 46 = .ok (.invokevirtual 42, 3) := decAll_at aX5_factor_0 27 rfl
theorem dX5_factor_49 : decode cX5_factor 49 = .ok (.ifCond .eq 7, 3) := decAll_at aX5_factor_0 28 rfl
theorem dX5_factor_52 : decode cX5_factor 52 = .ok (.iconst 1, 1) := decAll_at aX5_factor_0 29 rfl
theorem dX5_factor_53 : decode cX5_factor 53 = .ok (.goto 4, 3) := decAll_at aX5_factor_0 30 rfl
theorem dX5_factor_56 : decode cX5_factor 56 = .ok (.iconst 0, 1) := decAll_at aX5_factor_0 31 rfl
theorem dX5_factor_57 : decode cX5_factor 57 = .ok (.ireturn, 1) := decAll_at aX5_factor_0 32 rfl
theorem dX5_factor_58 : decode cX5_factor 58 = .ok (.iload_n 2, 1) := decAll_at aX5_factor_0 33 rfl
theorem dX5_factor_59 : decode cX5_factor 59 = .ok (.bipush 48, 2) := decAll_at aX5_factor_0 34 rfl
theorem dX5_factor_61 : decode cX5_factor 61 = .ok (.if_icmp .lt 14, 3) := decAll_at aX5_factor_0 35 rfl
theorem dX5_factor_64 : decode cX5_factor 64 = .ok (.iload_n 2, 1) := decAll_at aX5_factor_0 36 rfl
theorem dX5_factor_65 : decode cX5_factor 65 = .ok (.bipush 57, 2) := decAll_at aX5_factor_0 37 rfl
theorem dX5_factor_67 : decode cX5_factor 67 = .ok (.if_icmp .gt 8, 3) := decAll_at aX5_factor_0 38 rfl
theorem dX5_factor_70 : decode cX5_factor 70 = .ok (.aload_n 0, 1) := decAll_at aX5_factor_0 39 rfl
theorem dX5_factor_71 : decode cX5_factor 71 = .ok (.invokevirtual 98, 3) := decAll_at aX5_factor_0 40 rfl
theorem dX5_factor_74 : decode cX5_factor 74 = .ok (.ireturn, 1) := decAll_at aX5_factor_0 41 rfl
theorem dX5_factor_75 : decode cX5_factor 75 = .ok (.aload_n 0, 1) := decAll_at aX5_factor_0 42 rfl
theorem dX5_factor_76 : decode cX5_factor 76 = .ok (.iload_n 2, 1) := decAll_at aX5_factor_0 43 rfl
theorem dX5_factor_77 : decode cX5_factor 77 = .ok (.invokevirtual 101, 3) := decAll_at aX5_factor_0 44 rfl
theorem dX5_factor_80 : decode cX5_factor 80 = .ok (.istore_n 3, 1) := decAll_at aX5_factor_0 45 rfl
theorem dX5_factor_81 : decode cX5_factor 81 = .ok (.iload_n 3, 1) := decAll_at aX5_factor_0 46 rfl
theorem dX5_factor_82 : decode cX5_factor 82 = .ok (.iconst (-1), 1) := decAll_at aX5_factor_0 47 rfl
theorem dX5_factor_83 : decode cX5_factor 83 = .ok (.if_icmp .ne 9, 3) := decAll_at aX5_factor_0 48 rfl
theorem dX5_factor_86 : decode cX5_factor 86 = .ok (.aload_n 0, 1) := decAll_at aX5_factor_0 49 rfl
theorem dX5_factor_87 : decode cX5_factor 87 = .ok (.iconst 1, 1) := decAll_at aX5_factor_0 50 rfl
theorem dX5_factor_88 : decode cX5_factor 88 = .ok (.invokevirtual 53, 3) := decAll_at aX5_factor_0 51 rfl
theorem dX5_factor_91 : decode cX5_factor 91 = .ok (.ireturn, 1) := decAll_at aX5_factor_0 52 rfl
theorem dX5_factor_92 : decode cX5_factor 92 = .ok (.aload_n 0, 1) := decAll_at aX5_factor_0 53 rfl
theorem dX5_factor_93 : decode cX5_factor 93 = .ok (.dup, 1) := decAll_at aX5_factor_0 54 rfl
theorem dX5_factor_94 : decode cX5_factor 94 = .ok (.getfield 26, 3) := decAll_at aX5_factor_0 55 rfl
theorem dX5_factor_97 : decode cX5_factor 97 = .ok (.iconst 1, 1) := decAll_at aX5_factor_0 56 rfl
theorem dX5_factor_98 : decode cX5_factor 98 = .ok (.iadd, 1) := decAll_at aX5_factor_0 57 rfl
theorem dX5_factor_99 : decode cX5_factor 99 = .ok (.putfield 26, 3) := decAll_at aX5_factor_0 58 rfl
theorem dX5_factor_102 : decode cX5_factor 102 = .ok (.aload_n 0, 1) := decAll_at aX5_factor_0 59 rfl
theorem dX5_factor_103 : decode cX5_factor 103 = .ok (.iconst 2, 1) := decAll_at aX5_factor_0 60 rfl
theorem dX5_factor_104 : decode cX5_factor 104 = .ok (.iload_n 3, 1) := decAll_at aX5_factor_0 61 rfl
theorem dX5_factor_105 : decode cX5_factor 105 = .ok (.invokevirtual 59, 3) := decAll_at aX5_factor_0 62 rfl
theorem dX5_factor_108 : decode cX5_factor 108 = .ok (.ireturn, 1) := decAll_at aX5_factor_0 63 rfl
def laX5_number_0 : List (Nat × Instr × Nat) := [(0, .iconst 0, 1), (1, .istore_n 1, 1), (2, .iconst 0, 1), (3, .istore_n 2, 1), (4, .iload_n 2, 1), (5, .iconst 5, 1), (6, .if_icmp .gt 61, 3), (9, .aload_n 0, 1), (10, .invokevirtual 46, 3), (13, .bipush 48, 2), (15, .if_icmp .lt 52, 3), (18, .aload_n 0, 1), (19, .invokevirtual 46, 3), (22, .bipush 57, 2), (24, .if_icmp .gt 43, 3), (27, .iload_n 2, 1), (28, .iconst 5, 1), (29, .if_icmp .ne 9, 3), (32, .aload_n 0, 1), (33, .iconst 2, 1), (34, .invokevirtual 53, 3), (37, .ireturn, 1), (38, .iload_n 1, 1), (39, .bipush 10, 2), (41, .imul, 1), (42, .aload_n 0, 1), (43, .invokevirtual 46, 3), (46, .iadd, 1), (47, .bipush 48, 2), (49, .isub, 1), (50, .istore_n 1, 1), (51, .aload_n 0, 1), (52, .dup, 1), (53, .getfield 26, 3), (56, .iconst 1, 1), (57, .iadd, 1), (58, .putfield 26, 3), (61, .iinc 2 1, 3), (64, .goto (-60), 3), (67, .aload_n 0, 1), (68, .iconst 1, 1), (69, .iload_n 1, 1), (70, .invokevirtual 59, 3), (73, .ireturn, 1)]
theorem aX5_number_0 : decAll cX5_number laX5_number_0 = true := by decide +kernel
theorem dX5_number_0 : decode cX5_number 0 = .ok (.iconst 0, 1) := decAll_at aX5_number_0 0 rfl
theorem dX5_number_1 : decode cX5_number 1 = .ok (.istore_n 1, 1) := decAll_at aX5_number_0 1 rfl
theorem dX5_number_2 : decode cX5_number 2 = .ok (.iconst 0, 1) := decAll_at aX5_number_0 2 rfl
theorem dX5_number_3 : decode cX5_number 3 = .ok (.istore_n 2, 1) := decAll_at aX5_number_0 3 rfl
theorem dX5_number_4 : decode cX5_number 4 = .ok (.iload_n 2, 1) := decAll_at aX5_number_0 4 rfl
theorem dX5_number_5 : decode cX5_number 5 = .ok (.iconst 5, 1) := decAll_at aX5_number_0 5 rfl
theorem dX5_number_6 : decode cX5_number 6 = .ok (.if_icmp .gt 61, 3) := decAll_at aX5_number_0 6 rfl
theorem dX5_number_9 : decode cX5_number 9 = .ok (.aload_n 0, 1) := decAll_at aX5_number_0 7 rfl
theorem dX5_number_10 : decode cX5_number 10 = .ok (.invokevirtual 46, 3) := decAll_at aX5_number_0 8 rfl
theorem dX5_number_13 : decode cX5_number 13 = .ok (.bipush 48, 2) := decAll_at aX5_number_0 9 rfl
theorem dX5_number_15 : decode cX5_number 15 = .ok (.if_icmp .lt 52, 3) := decAll_at aX5_number_0 10 rfl
theorem dX5_number_18 : decode cX5_number 18 = .ok (.aload_n 0, 1) := decAll_at aX5_number_0 11 rfl
theorem dX5_number_19 : decode cX5_number 19 = .ok (.invokevirtual 46, 3) := decAll_at aX5_number_0 12 rfl
theorem dX5_number_22 : decode cX5_number 22 = .ok (.bipush 57, 2) := decAll_at aX5_number_0 13 rfl
theorem dX5_number_24 : decode cX5_number 24 = .ok (.if_icmp .gt 43, 3) := decAll_at aX5_number_0 14 rfl
theorem dX5_number_27 : decode cX5_number 27 = .ok (.iload_n 2, 1) := decAll_at aX5_number_0 15 rfl
theorem dX5_number_28 : decode cX5_number 28 = .ok (.iconst 5, 1) := decAll_at aX5_number_0 16 rfl
theorem dX5_number_29 : decode cX5_number 29 = .ok (.if_icmp .ne 9, 3) := decAll_at aX5_number_0 17 rfl
theorem dX5_number_32 : decode cX5_number 32 = .ok (.aload_n 0, 1) := decAll_at aX5_number_0 18 rfl
theorem dX5_number_33 : decode cX5_number 33 = .ok (.iconst 2, 1) := decAll_at aX5_number_0 19 rfl
theorem dX5_number_34 : decode cX5_number 34 = .ok (.invokevirtual 53, 3) := decAll_at aX5_number_0 20 rfl
theorem dX5_number_37 : decode cX5_number 37 = .ok (.ireturn, 1) := decAll_at aX5_number_0 21 rfl
theorem dX5_number_38 : decode cX5_number 38 = .ok (.iload_n 1, 1) := decAll_at aX5_number_0 22 rfl
theorem dX5_number_39 : decode cX5_number 39 = .ok (.bipush 10, 2) := decAll_at aX5_number_0 23 rfl
theorem dX5_number_41 : decode cX5_number 41 = .ok (.imul, 1) := decAll_at aX5_number_0 24 rfl
theorem dX5_number_42 : decode cX5_number 42 = .ok (.aload_n 0, 1) := decAll_at aX5_number_0 25 rfl
theorem dX5_number_43 : decode cX5_number 43 = .ok (.invokevirtual 46, 3) := decAll_at aX5_number_0 26 rfl
theorem dX5_number_46 : decode cX5_number 46 = .ok (.iadd, 1) := decAll_at aX5_number_0 27 rfl
theorem dX5_number_47 : decode cX5_number 47 = .ok (.bipush 48, 2) := decAll_at aX5_number_0 28 rfl
theorem dX5_number_49 : decode cX5_number 49 = .ok (.isub, 1) := decAll_at aX5_number_0 29 rfl
theorem dX5_number_50 : decode cX5_number 50 = .ok (.istore_n 1, 1) := decAll_at aX5_number_0 30 rfl
theorem dX5_number_51 : decode cX5_number 51 = .ok (.aload_n 0, 1) := decAll_at aX5_number_0 31 rfl
theorem dX5_number_52 : decode cX5_number 52 = .ok (.dup, 1) := decAll_at aX5_number_0 32 rfl
theorem dX5_number_53 : decode cX5_number 53 = .ok (.getfield 26, 3) := decAll_at aX5_number_0 33 rfl
theorem dX5_number_56 : decode cX5_number 56 = .ok (.iconst 1, 1) := decAll_at aX5_number_0 34 rfl
theorem dX5_number_57 : decode cX5_number 57 = .ok (.iadd, 1) := decAll_at aX5_number_0 35 rfl
theorem dX5_number_58 : decode cX5_number 58 = .ok (.putfield 26, 3) := decAll_at aX5_number_0 36 rfl
theorem dX5_number_61 : decode cX5_number 61 = .ok (.iinc 2 1, 3) := decAll_at aX5_number_0 37 rfl
theorem dX5_number_64 : decode cX5_number 64 = .ok (.goto (-60), 3) := decAll_at aX5_number_0 38 rfl
theorem dX5_number_67 : decode cX5_number 67 = .ok (.aload_n 0, 1) := decAll_at aX5_number_0 39 rfl
theorem dX5_number_68 : decode cX5_number 68 = .ok (.iconst 1, 1) := decAll_at aX5_number_0 40 rfl
theorem dX5_number_69 : decode cX5_number 69 = .ok (.iload_n 1, 1) := decAll_at aX5_number_0 41 rfl
theorem dX5_number_70 : decode cX5_number 70 = .ok (.invokevirtual 59, 3) := decAll_at aX5_number_0 42 rfl
theorem dX5_number_73 : decode cX5_number 73 = .ok (.ireturn, 1) := decAll_at aX5_number_0 43 rfl
def laX5_indexOf_0 : List (Nat × Instr × Nat) := [(0, .iload_n 1, 1), (1, .tableswitch 140 98 119 #[107, 140, 140, 140, 140, 140, 113, 118, 140, 105, 109, 115, 121, 140, 140, 124, 140, 140, 111, 140, 140, 103], 103), (104, .iconst 0, 1), (105, .ireturn, 1), (106, .iconst 1, 1), (107, .ireturn, 1), (108, .iconst 2, 1), (109, .ireturn, 1), (110, .iconst 3, 1), (111, .ireturn, 1), (112, .iconst 4, 1), (113, .ireturn, 1), (114, .iconst 5, 1), (115, .ireturn, 1), (116, .bipush 6, 2), (118, .ireturn, 1), (119, .bipush 7, 2), (121, .ireturn, 1), (122, .bipush 8, 2), (124, .ireturn, 1), (125, .aload_n 0, 1), (126, .getfield 50, 3), (129, .bipush 103, 2), (131, .if_icmp .ne 8, 3), (134, .bipush 9, 2), (136, .goto 4, 3), (139, .iconst (-1), 1), (140, .ireturn, 1), (141, .iconst (-1), 1), (142, .ireturn, 1)]
theorem aX5_indexOf_0 : decAll cX5_indexOf laX5_indexOf_0 = true := by decide +kernel
theorem dX5_indexOf_0 : decode cX5_indexOf 0 = .ok (.iload_n 1, 1) := decAll_at aX5_indexOf_0 0 rfl
theorem dX5_indexOf_1 : decode cX5_indexOf 1 = .ok (.tableswitch 140 98 119 #[107, 140, 140, 140, 140, 140, 113, 118, 140, 105, 109, 115, 121, 140, 140, 124, 140, 140, 111, 140, 140, 103], 103) := decAll_at aX5_indexOf_0 1 rfl
theorem dX5_indexOf_104 : decode cX5_indexOf 104 = .ok (.iconst 0, 1) := decAll_at aX5_indexOf_0 2 rfl
theorem dX5_indexOf_105 : decode cX5_indexOf 105 = .ok (.ireturn, 1) := decAll_at aX5_indexOf_0 3 rfl
theorem dX5_indexOf_106 : decode cX5_indexOf 106 = .ok (.iconst 1, 1) := decAll_at aX5_indexOf_0 4 rfl
theorem dX5_indexOf_107 : decode cX5_indexOf 107 = .ok (.ireturn, 1) := decAll_at aX5_indexOf_0 5 rfl
theorem dX5_indexOf_108 : decode cX5_indexOf 108 = .ok (.iconst 2, 1) := decAll_at aX5_indexOf_0 6 rfl
theorem dX5_indexOf_109 : decode cX5_indexOf 109 = .ok (.ireturn, 1) := decAll_at aX5_indexOf_0 7 rfl
theorem dX5_indexOf_110 : decode cX5_indexOf 110 = .ok (.iconst 3, 1) := decAll_at aX5_indexOf_0 8 rfl
theorem dX5_indexOf_111 : decode cX5_indexOf 111 = .ok (.ireturn, 1) := decAll_at aX5_indexOf_0 9 rfl
theorem dX5_indexOf_112 : decode cX5_indexOf 112 = .ok (.iconst 4, 1) := decAll_at aX5_indexOf_0 10 rfl
theorem dX5_indexOf_113 : decode cX5_indexOf 113 = .ok (.ireturn, 1) := decAll_at aX5_indexOf_0 11 rfl
theorem dX5_indexOf_114 : decode cX5_indexOf 114 = .ok (.iconst 5, 1) := decAll_at aX5_indexOf_0 12 rfl
theorem dX5_indexOf_115 : decode cX5_indexOf 115 = .ok (.ireturn, 1) := decAll_at aX5_indexOf_0 13 rfl
theorem dX5_indexOf_116 : decode cX5_indexOf 116 = .ok (.bipush 6, 2) := decAll_at aX5_indexOf_0 14 rfl
theorem dX5_indexOf_118 : decode cX5_indexOf 118 = .ok (.ireturn, 1) := decAll_at aX5_indexOf_0 15 rfl
theorem dX5_indexOf_119 : decode cX5_indexOf 119 = .ok (.bipush 7, 2) := decAll_at aX5_indexOf_0 16 rfl
theorem dX5_indexOf_121 : decode cX5_indexOf 121 = .ok (.ireturn, 1) := decAll_at aX5_indexOf_0 17 rfl
theorem dX5_indexOf_122 : decode cX5_indexOf 122 = .ok (.bipush 8, 2) := decAll_at aX5_indexOf_0 18 rfl
theorem dX5_indexOf_124 : decode cX5_indexOf 124 = .ok (.ireturn, 1) := decAll_at aX5_indexOf_0 19 rfl
theorem dX5_indexOf_125 : decode cX5_indexOf 125 = .ok (.aload_n 0, 1) := decAll_at aX5_indexOf_0 20 rfl
theorem dX5_indexOf_126 : decode cX5_indexOf 126 = .ok (.getfield 50, 3) := decAll_at aX5_indexOf_0 21 rfl
theorem dX5_indexOf_129 : decode cX5_indexOf 129 = .ok (.bipush 103, 2) := decAll_at aX5_indexOf_0 22 rfl
theorem dX5_indexOf_131 : decode cX5_indexOf 131 = .ok (.if_icmp .ne 8, 3) := decAll_at aX5_indexOf_0 23 rfl
theorem dX5_indexOf_134 : decode cX5_indexOf 134 = .ok (.bipush 9, 2) := decAll_at aX5_indexOf_0 24 rfl
theorem dX5_indexOf_136 : decode cX5_indexOf 136 = .ok (.goto 4, 3) := decAll_at aX5_indexOf_0 25 rfl
theorem dX5_indexOf_139 : decode cX5_indexOf 139 = .ok (.iconst (-1), 1) := decAll_at aX5_indexOf_0 26 rfl
theorem dX5_indexOf_140 : decode cX5_indexOf 140 = .ok (.ireturn, 1) := decAll_at aX5_indexOf_0 27 rfl
theorem dX5_indexOf_141 : decode cX5_indexOf 141 = .ok (.iconst (-1), 1) := decAll_at aX5_indexOf_0 28 rfl
theorem dX5_indexOf_142 : decode cX5_indexOf 142 = .ok (.ireturn, 1) := decAll_at aX5_indexOf_0 29 rfl
def laX5_comparing_0 : List (Nat × Instr × Nat) := [(0, .iload_n 0, 1), (1, .tableswitch 36 60 62 #[27, 33, 30], 27), (28, .bipush 11, 2), (30, .ireturn, 1), (31, .bipush 12, 2), (33, .ireturn, 1), (34, .bipush 13, 2), (36, .ireturn, 1), (37, .iconst (-1), 1), (38, .ireturn, 1)]
theorem aX5_comparing_0 : decAll cX5_comparing laX5_comparing_0 = true := by decide +kernel
theorem dX5_comparing_0 : decode cX5_comparing 0 = .ok (.iload_n 0, 1) := decAll_at aX5_comparing_0 0 rfl
theorem dX5_comparing_1 : decode cX5_comparing 1 = .ok (.tableswitch 36 60 62 #[27, 33, 30], 27) := decAll_at aX5_comparing_0 1 rfl
theorem dX5_comparing_28 : decode cX5_comparing 28 = .ok (.bipush 11, 2) := decAll_at aX5_comparing_0 2 rfl
theorem dX5_comparing_30 : decode cX5_comparing 30 = .ok (.ireturn, 1) := decAll_at aX5_comparing_0 3 rfl
theorem dX5_comparing_31 : decode cX5_comparing 31 = .ok (.bipush 12, 2) := decAll_at aX5_comparing_0 4 rfl
theorem dX5_comparing_33 : decode cX5_comparing 33 = .ok (.ireturn, 1) := decAll_at aX5_comparing_0 5 rfl
theorem dX5_comparing_34 : decode cX5_comparing 34 = .ok (.bipush 13, 2) := decAll_at aX5_comparing_0 6 rfl
theorem dX5_comparing_36 : decode cX5_comparing 36 = .ok (.ireturn, 1) := decAll_at aX5_comparing_0 7 rfl
theorem dX5_comparing_37 : decode cX5_comparing 37 = .ok (.iconst (-1), 1) := decAll_at aX5_comparing_0 8 rfl
theorem dX5_comparing_38 : decode cX5_comparing 38 = .ok (.ireturn, 1) := decAll_at aX5_comparing_0 9 rfl
def laX5_multiplying_0 : List (Nat × Instr × Nat) := [(0, .iload_n 0, 1), (1, .lookupswitch 44 #[(37, 41), (42, 35), (47, 38)], 35), (36, .bipush 8, 2), (38, .ireturn, 1), (39, .bipush 9, 2), (41, .ireturn, 1), (42, .bipush 10, 2), (44, .ireturn, 1), (45, .iconst (-1), 1), (46, .ireturn, 1)]
theorem aX5_multiplying_0 : decAll cX5_multiplying laX5_multiplying_0 = true := by decide +kernel
theorem dX5_multiplying_0 : decode cX5_multiplying 0 = .ok (.iload_n 0, 1) := decAll_at aX5_multiplying_0 0 rfl
theorem dX5_multiplying_1 : decode cX5_multiplying 1 = .ok (.lookupswitch 44 #[(37, 41), (42, 35), (47, 38)], 35) := decAll_at aX5_multiplying_0 1 rfl
theorem dX5_multiplying_36 : decode cX5_multiplying 36 = .ok (.bipush 8, 2) := decAll_at aX5_multiplying_0 2 rfl
theorem dX5_multiplying_38 : decode cX5_multiplying 38 = .ok (.ireturn, 1) := decAll_at aX5_multiplying_0 3 rfl
theorem dX5_multiplying_39 : decode cX5_multiplying 39 = .ok (.bipush 9, 2) := decAll_at aX5_multiplying_0 4 rfl
theorem dX5_multiplying_41 : decode cX5_multiplying 41 = .ok (.ireturn, 1) := decAll_at aX5_multiplying_0 5 rfl
theorem dX5_multiplying_42 : decode cX5_multiplying 42 = .ok (.bipush 10, 2) := decAll_at aX5_multiplying_0 6 rfl
theorem dX5_multiplying_44 : decode cX5_multiplying 44 = .ok (.ireturn, 1) := decAll_at aX5_multiplying_0 7 rfl
theorem dX5_multiplying_45 : decode cX5_multiplying 45 = .ok (.iconst (-1), 1) := decAll_at aX5_multiplying_0 8 rfl
theorem dX5_multiplying_46 : decode cX5_multiplying 46 = .ok (.ireturn, 1) := decAll_at aX5_multiplying_0 9 rfl
def laX5_sign_0 : List (Nat × Instr × Nat) := [(0, .aload_n 0, 1), (1, .getfield 26, 3), (4, .aload_n 0, 1), (5, .getfield 22, 3), (8, .if_icmp .ge 28, 3), (11, .aload_n 0, 1), (12, .getfield 26, 3), (15, .sipush 220, 3), (18, .if_icmp .ge 18, 3), (21, .aload_n 0, 1), (22, .getfield 18, 3), (25, .getfield 106, 3), (28, .aload_n 0, 1), (29, .getfield 26, 3), (32, .iaload, 1), (33, .goto 4, 3), (36, .iconst (-1), 1), (37, .ireturn, 1)]
theorem aX5_sign_0 : decAll cX5_sign laX5_sign_0 = true := by decide +kernel
theorem dX5_sign_0 : decode cX5_sign 0 = .ok (.aload_n 0, 1) := decAll_at aX5_sign_0 0 rfl
theorem dX5_sign_1 : decode cX5_sign 1 = .ok (.getfield 26, 3) := decAll_at aX5_sign_0 1 rfl
theorem dX5_sign_4 : decode cX5_sign 4 = .ok (.aload_n 0, 1) := decAll_at aX5_sign_0 2 rfl
theorem dX5_sign_5 : decode cX5_sign 5 = .ok (.getfield 22, 3) := decAll_at aX5_sign_0 3 rfl
theorem dX5_sign_8 : decode cX5_sign 8 = .ok (.if_icmp .ge 28, 3) := decAll_at aX5_sign_0 4 rfl
theorem dX5_sign_11 : decode cX5_sign 11 = .ok (.aload_n 0, 1) := decAll_at aX5_sign_0 5 rfl
theorem dX5_sign_12 : decode cX5_sign 12 = .ok (.getfield 26, 3) := decAll_at aX5_sign_0 6 rfl
theorem dX5_sign_15 : decode cX5_sign 15 = .ok (.sipush 220, 3) := decAll_at aX5_sign_0 7 rfl
theorem dX5_sign_18 : decode cX5_sign 18 = .ok (.if_icmp .ge 18, 3) := decAll_at aX5_sign_0 8 rfl
theorem dX5_sign_21 : decode cX5_sign 21 = .ok (.aload_n 0, 1) := decAll_at aX5_sign_0 9 rfl
theorem dX5_sign_22 : decode cX5_sign 22 = .ok (.getfield 18, 3) := decAll_at aX5_sign_0 10 rfl
theorem dX5_sign_25 : decode cX5_sign 25 = .ok (.getfield 106, 3) := decAll_at aX5_sign_0 11 rfl
theorem dX5_sign_28 : decode cX5_sign 28 = .ok (.aload_n 0, 1) := decAll_at aX5_sign_0 12 rfl
theorem dX5_sign_29 : decode cX5_sign 29 = .ok (.getfield 26, 3) := decAll_at aX5_sign_0 13 rfl
theorem dX5_sign_32 : decode cX5_sign 32 = .ok (.iaload, 1) := decAll_at aX5_sign_0 14 rfl
theorem dX5_sign_33 : decode cX5_sign 33 = .ok (.goto 4, 3) := decAll_at aX5_sign_0 15 rfl
theorem dX5_sign_36 : decode cX5_sign 36 = .ok (.iconst (-1), 1) := decAll_at aX5_sign_0 16 rfl
theorem dX5_sign_37 : decode cX5_sign 37 = .ok (.ireturn, 1) := decAll_at aX5_sign_0 17 rfl
def laX5_takes_0 : List (Nat × Instr × Nat) := [(0, .aload_n 0, 1), (1, .invokevirtual 46, 3), (4, .iload_n 1, 1), (5, .if_icmp .eq 9, 3), (8, .aload_n 0, 1), (9, .iconst 1, 1), (10, .invokevirtual 53, 3), (13, .ireturn, 1), (14, .aload_n 0, 1), (15, .dup, 1), (16, .getfield 26, 3), (19, .iconst 1, 1), (20, .iadd, 1), (21, .putfield 26, 3), (24, .iconst 1, 1), (25, .ireturn, 1)]
theorem aX5_takes_0 : decAll cX5_takes laX5_takes_0 = true := by decide +kernel
theorem dX5_takes_0 : decode cX5_takes 0 = .ok (.aload_n 0, 1) := decAll_at aX5_takes_0 0 rfl
theorem dX5_takes_1 : decode cX5_takes 1 = .ok (.invokevirtual 46, 3) := decAll_at aX5_takes_0 1 rfl
theorem dX5_takes_4 : decode cX5_takes 4 = .ok (.iload_n 1, 1) := decAll_at aX5_takes_0 2 rfl
theorem dX5_takes_5 : decode cX5_takes 5 = .ok (.if_icmp .eq 9, 3) := decAll_at aX5_takes_0 3 rfl
theorem dX5_takes_8 : decode cX5_takes 8 = .ok (.aload_n 0, 1) := decAll_at aX5_takes_0 4 rfl
theorem dX5_takes_9 : decode cX5_takes 9 = .ok (.iconst 1, 1) := decAll_at aX5_takes_0 5 rfl
theorem dX5_takes_10 : decode cX5_takes 10 = .ok (.invokevirtual 53, 3) := decAll_at aX5_takes_0 6 rfl
theorem dX5_takes_13 : decode cX5_takes 13 = .ok (.ireturn, 1) := decAll_at aX5_takes_0 7 rfl
theorem dX5_takes_14 : decode cX5_takes 14 = .ok (.aload_n 0, 1) := decAll_at aX5_takes_0 8 rfl
theorem dX5_takes_15 : decode cX5_takes 15 = .ok (.dup, 1) := decAll_at aX5_takes_0 9 rfl
theorem dX5_takes_16 : decode cX5_takes 16 = .ok (.getfield 26, 3) := decAll_at aX5_takes_0 10 rfl
theorem dX5_takes_19 : decode cX5_takes 19 = .ok (.iconst 1, 1) := decAll_at aX5_takes_0 11 rfl
theorem dX5_takes_20 : decode cX5_takes 20 = .ok (.iadd, 1) := decAll_at aX5_takes_0 12 rfl
theorem dX5_takes_21 : decode cX5_takes 21 = .ok (.putfield 26, 3) := decAll_at aX5_takes_0 13 rfl
theorem dX5_takes_24 : decode cX5_takes 24 = .ok (.iconst 1, 1) := decAll_at aX5_takes_0 14 rfl
theorem dX5_takes_25 : decode cX5_takes 25 = .ok (.ireturn, 1) := decAll_at aX5_takes_0 15 rfl
def laX5_fails_0 : List (Nat × Instr × Nat) := [(0, .aload_n 0, 1), (1, .sipush (-1000), 3), (4, .iload_n 1, 1), (5, .imul, 1), (6, .aload_n 0, 1), (7, .getfield 26, 3), (10, .isub, 1), (11, .putfield 32, 3), (14, .iconst 0, 1), (15, .ireturn, 1)]
theorem aX5_fails_0 : decAll cX5_fails laX5_fails_0 = true := by decide +kernel
theorem dX5_fails_0 : decode cX5_fails 0 = .ok (.aload_n 0, 1) := decAll_at aX5_fails_0 0 rfl
theorem dX5_fails_1 : decode cX5_fails 1 = .ok (.sipush (-1000), 3) := decAll_at aX5_fails_0 1 rfl
theorem dX5_fails_4 : decode cX5_fails 4 = .ok (.iload_n 1, 1) := decAll_at aX5_fails_0 2 rfl
theorem dX5_fails_5 : decode cX5_fails 5 = .ok (.imul, 1) := decAll_at aX5_fails_0 3 rfl
theorem dX5_fails_6 : decode cX5_fails 6 = .ok (.aload_n 0, 1) := decAll_at aX5_fails_0 4 rfl
theorem dX5_fails_7 : decode cX5_fails 7 = .ok (.getfield 26, 3) := decAll_at aX5_fails_0 5 rfl
theorem dX5_fails_10 : decode cX5_fails 10 = .ok (.isub, 1) := decAll_at aX5_fails_0 6 rfl
theorem dX5_fails_11 : decode cX5_fails 11 = .ok (.putfield 32, 3) := decAll_at aX5_fails_0 7 rfl
theorem dX5_fails_14 : decode cX5_fails 14 = .ok (.iconst 0, 1) := decAll_at aX5_fails_0 8 rfl
theorem dX5_fails_15 : decode cX5_fails 15 = .ok (.ireturn, 1) := decAll_at aX5_fails_0 9 rfl
def laX5_emit_0 : List (Nat × Instr × Nat) := [(0, .aload_n 0, 1), (1, .getfield 29, 3), (4, .sipush 256, 3), (7, .if_icmp .ge 30, 3), (10, .aload_n 0, 1), (11, .getfield 12, 3), (14, .getfield 109, 3), (17, .aload_n 0, 1), (18, .getfield 29, 3), (21, .iload_n 2, 1), (22, .iconst 4, 1), (23, .ishl, 1), (24, .iload_n 1, 1), (25, .ior, 1), (26, .iastore, 1), (27, .aload_n 0, 1), (28, .dup, 1), (29, .getfield 29, 3), (32, .iconst 1, 1), (33, .iadd, 1), (34, .putfield 29, 3), (37, .iconst 1, 1), (38, .ireturn, 1)]
theorem aX5_emit_0 : decAll cX5_emit laX5_emit_0 = true := by decide +kernel
theorem dX5_emit_0 : decode cX5_emit 0 = .ok (.aload_n 0, 1) := decAll_at aX5_emit_0 0 rfl
theorem dX5_emit_1 : decode cX5_emit 1 = .ok (.getfield 29, 3) := decAll_at aX5_emit_0 1 rfl
theorem dX5_emit_4 : decode cX5_emit 4 = .ok (.sipush 256, 3) := decAll_at aX5_emit_0 2 rfl
theorem dX5_emit_7 : decode cX5_emit 7 = .ok (.if_icmp .ge 30, 3) := decAll_at aX5_emit_0 3 rfl
theorem dX5_emit_10 : decode cX5_emit 10 = .ok (.aload_n 0, 1) := decAll_at aX5_emit_0 4 rfl
theorem dX5_emit_11 : decode cX5_emit 11 = .ok (.getfield 12, 3) := decAll_at aX5_emit_0 5 rfl
theorem dX5_emit_14 : decode cX5_emit 14 = .ok (.getfield 109, 3) := decAll_at aX5_emit_0 6 rfl
theorem dX5_emit_17 : decode cX5_emit 17 = .ok (.aload_n 0, 1) := decAll_at aX5_emit_0 7 rfl
theorem dX5_emit_18 : decode cX5_emit 18 = .ok (.getfield 29, 3) := decAll_at aX5_emit_0 8 rfl
theorem dX5_emit_21 : decode cX5_emit 21 = .ok (.iload_n 2, 1) := decAll_at aX5_emit_0 9 rfl
theorem dX5_emit_22 : decode cX5_emit 22 = .ok (.iconst 4, 1) := decAll_at aX5_emit_0 10 rfl
theorem dX5_emit_23 : decode cX5_emit 23 = .ok (.ishl, 1) := decAll_at aX5_emit_0 11 rfl
theorem dX5_emit_24 : decode cX5_emit 24 = .ok (.iload_n 1, 1) := decAll_at aX5_emit_0 12 rfl
theorem dX5_emit_25 : decode cX5_emit 25 = .ok (.ior, 1) := decAll_at aX5_emit_0 13 rfl
theorem dX5_emit_26 : decode cX5_emit 26 = .ok (.iastore, 1) := decAll_at aX5_emit_0 14 rfl
theorem dX5_emit_27 : decode cX5_emit 27 = .ok (.aload_n 0, 1) := decAll_at aX5_emit_0 15 rfl
theorem dX5_emit_28 : decode cX5_emit 28 = .ok (.dup, 1) := decAll_at aX5_emit_0 16 rfl
theorem dX5_emit_29 : decode cX5_emit 29 = .ok (.getfield 29, 3) := decAll_at aX5_emit_0 17 rfl
theorem dX5_emit_32 : decode cX5_emit 32 = .ok (.iconst 1, 1) := decAll_at aX5_emit_0 18 rfl
theorem dX5_emit_33 : decode cX5_emit 33 = .ok (.iadd, 1) := decAll_at aX5_emit_0 19 rfl
theorem dX5_emit_34 : decode cX5_emit 34 = .ok (.putfield 29, 3) := decAll_at aX5_emit_0 20 rfl
theorem dX5_emit_37 : decode cX5_emit 37 = .ok (.iconst 1, 1) := decAll_at aX5_emit_0 21 rfl
theorem dX5_emit_38 : decode cX5_emit 38 = .ok (.ireturn, 1) := decAll_at aX5_emit_0 22 rfl
def laX5_jumpsHere_0 : List (Nat × Instr × Nat) := [(0, .iload_n 1, 1), (1, .sipush 256, 3), (4, .if_icmp .ge 21, 3), (7, .aload_n 0, 1), (8, .getfield 12, 3), (11, .getfield 109, 3), (14, .iload_n 1, 1), (15, .dup2, 1), (16, .iaload, 1), (17, .aload_n 0, 1), (18, .getfield 29, 3), (21, .iconst 4, 1), (22, .ishl, 1), (23, .ior, 1), (24, .iastore, 1), (25, .iconst 1, 1), (26, .ireturn, 1)]
theorem aX5_jumpsHere_0 : decAll cX5_jumpsHere laX5_jumpsHere_0 = true := by decide +kernel
theorem dX5_jumpsHere_0 : decode cX5_jumpsHere 0 = .ok (.iload_n 1, 1) := decAll_at aX5_jumpsHere_0 0 rfl
theorem dX5_jumpsHere_1 : decode cX5_jumpsHere 1 = .ok (.sipush 256, 3) := decAll_at aX5_jumpsHere_0 1 rfl
theorem dX5_jumpsHere_4 : decode cX5_jumpsHere 4 = .ok (.if_icmp .ge 21, 3) := decAll_at aX5_jumpsHere_0 2 rfl
theorem dX5_jumpsHere_7 : decode cX5_jumpsHere 7 = .ok (.aload_n 0, 1) := decAll_at aX5_jumpsHere_0 3 rfl
theorem dX5_jumpsHere_8 : decode cX5_jumpsHere 8 = .ok (.getfield 12, 3) := decAll_at aX5_jumpsHere_0 4 rfl
theorem dX5_jumpsHere_11 : decode cX5_jumpsHere 11 = .ok (.getfield 109, 3) := decAll_at aX5_jumpsHere_0 5 rfl
theorem dX5_jumpsHere_14 : decode cX5_jumpsHere 14 = .ok (.iload_n 1, 1) := decAll_at aX5_jumpsHere_0 6 rfl
theorem dX5_jumpsHere_15 : decode cX5_jumpsHere 15 = .ok (.dup2, 1) := decAll_at aX5_jumpsHere_0 7 rfl
theorem dX5_jumpsHere_16 : decode cX5_jumpsHere 16 = .ok (.iaload, 1) := decAll_at aX5_jumpsHere_0 8 rfl
theorem dX5_jumpsHere_17 : decode cX5_jumpsHere 17 = .ok (.aload_n 0, 1) := decAll_at aX5_jumpsHere_0 9 rfl
theorem dX5_jumpsHere_18 : decode cX5_jumpsHere 18 = .ok (.getfield 29, 3) := decAll_at aX5_jumpsHere_0 10 rfl
theorem dX5_jumpsHere_21 : decode cX5_jumpsHere 21 = .ok (.iconst 4, 1) := decAll_at aX5_jumpsHere_0 11 rfl
theorem dX5_jumpsHere_22 : decode cX5_jumpsHere 22 = .ok (.ishl, 1) := decAll_at aX5_jumpsHere_0 12 rfl
theorem dX5_jumpsHere_23 : decode cX5_jumpsHere 23 = .ok (.ior, 1) := decAll_at aX5_jumpsHere_0 13 rfl
theorem dX5_jumpsHere_24 : decode cX5_jumpsHere 24 = .ok (.iastore, 1) := decAll_at aX5_jumpsHere_0 14 rfl
theorem dX5_jumpsHere_25 : decode cX5_jumpsHere 25 = .ok (.iconst 1, 1) := decAll_at aX5_jumpsHere_0 15 rfl
theorem dX5_jumpsHere_26 : decode cX5_jumpsHere 26 = .ok (.ireturn, 1) := decAll_at aX5_jumpsHere_0 16 rfl
def laX6_init_0 : List (Nat × Instr × Nat) := [(0, .aload_n 0, 1), (1, .invokespecial 1, 3), (4, .aload_n 0, 1), (5, .sipush 256, 3), (8, .newarray .int, 2), (10, .putfield 9, 3), (13, .aload_n 0, 1), (14, .bipush 14, 2), (16, .newarray .int, 2), (18, .putfield 13, 3), (21, .aload_n 0, 1), (22, .bipush 14, 2), (24, .newarray .int, 2), (26, .putfield 16, 3), (29, .aload_n 0, 1), (30, .bipush 14, 2), (32, .newarray .int, 2), (34, .putfield 19, 3), (37, .aload_n 0, 1), (38, .bipush 10, 2), (40, .newarray .int, 2), (42, .putfield 22, 3), (45, .aload_n 0, 1), (46, .bipush 32, 2), (48, .newarray .int, 2), (50, .putfield 25, 3), (53, .return_, 1)]
theorem aX6_init_0 : decAll cX6_init laX6_init_0 = true := by decide +kernel
theorem dX6_init_0 : decode cX6_init 0 = .ok (.aload_n 0, 1) := decAll_at aX6_init_0 0 rfl
theorem dX6_init_1 : decode cX6_init 1 = .ok (.invokespecial 1, 3) := decAll_at aX6_init_0 1 rfl
theorem dX6_init_4 : decode cX6_init 4 = .ok (.aload_n 0, 1) := decAll_at aX6_init_0 2 rfl
theorem dX6_init_5 : decode cX6_init 5 = .ok (.sipush 256, 3) := decAll_at aX6_init_0 3 rfl
theorem dX6_init_8 : decode cX6_init 8 = .ok (.newarray .int, 2) := decAll_at aX6_init_0 4 rfl
theorem dX6_init_10 : decode cX6_init 10 = .ok (.putfield 9, 3) := decAll_at aX6_init_0 5 rfl
theorem dX6_init_13 : decode cX6_init 13 = .ok (.aload_n 0, 1) := decAll_at aX6_init_0 6 rfl
theorem dX6_init_14 : decode cX6_init 14 = .ok (.bipush 14, 2) := decAll_at aX6_init_0 7 rfl
theorem dX6_init_16 : decode cX6_init 16 = .ok (.newarray .int, 2) := decAll_at aX6_init_0 8 rfl
theorem dX6_init_18 : decode cX6_init 18 = .ok (.putfield 13, 3) := decAll_at aX6_init_0 9 rfl
theorem dX6_init_21 : decode cX6_init 21 = .ok (.aload_n 0, 1) := decAll_at aX6_init_0 10 rfl
theorem dX6_init_22 : decode cX6_init 22 = .ok (.bipush 14, 2) := decAll_at aX6_init_0 11 rfl
theorem dX6_init_24 : decode cX6_init 24 = .ok (.newarray .int, 2) := decAll_at aX6_init_0 12 rfl
theorem dX6_init_26 : decode cX6_init 26 = .ok (.putfield 16, 3) := decAll_at aX6_init_0 13 rfl
theorem dX6_init_29 : decode cX6_init 29 = .ok (.aload_n 0, 1) := decAll_at aX6_init_0 14 rfl
theorem dX6_init_30 : decode cX6_init 30 = .ok (.bipush 14, 2) := decAll_at aX6_init_0 15 rfl
theorem dX6_init_32 : decode cX6_init 32 = .ok (.newarray .int, 2) := decAll_at aX6_init_0 16 rfl
theorem dX6_init_34 : decode cX6_init 34 = .ok (.putfield 19, 3) := decAll_at aX6_init_0 17 rfl
theorem dX6_init_37 : decode cX6_init 37 = .ok (.aload_n 0, 1) := decAll_at aX6_init_0 18 rfl
theorem dX6_init_38 : decode cX6_init 38 = .ok (.bipush 10, 2) := decAll_at aX6_init_0 19 rfl
theorem dX6_init_40 : decode cX6_init 40 = .ok (.newarray .int, 2) := decAll_at aX6_init_0 20 rfl
theorem dX6_init_42 : decode cX6_init 42 = .ok (.putfield 22, 3) := decAll_at aX6_init_0 21 rfl
theorem dX6_init_45 : decode cX6_init 45 = .ok (.aload_n 0, 1) := decAll_at aX6_init_0 22 rfl
theorem dX6_init_46 : decode cX6_init 46 = .ok (.bipush 32, 2) := decAll_at aX6_init_0 23 rfl
theorem dX6_init_48 : decode cX6_init 48 = .ok (.newarray .int, 2) := decAll_at aX6_init_0 24 rfl
theorem dX6_init_50 : decode cX6_init 50 = .ok (.putfield 25, 3) := decAll_at aX6_init_0 25 rfl
theorem dX6_init_53 : decode cX6_init 53 = .ok (.return_, 1) := decAll_at aX6_init_0 26 rfl
def laX6_take_0 : List (Nat × Instr × Nat) := [(0, .aload_n 1, 1), (1, .getfield 9, 3), (4, .iconst 0, 1), (5, .aload_n 0, 1), (6, .getfield 9, 3), (9, .iconst 0, 1), (10, .sipush 256, 3), (13, .invokestatic 28, 3), (16, .aload_n 1, 1), (17, .getfield 13, 3), (20, .iconst 0, 1), (21, .aload_n 0, 1), (22, .getfield 13, 3), (25, .iconst 0, 1), (26, .bipush 14, 2), (28, .invokestatic 28, 3), (31, .aload_n 1, 1), (32, .getfield 16, 3), (35, .iconst 0, 1), (36, .aload_n 0, 1), (37, .getfield 16, 3), (40, .iconst 0, 1), (41, .bipush 14, 2), (43, .invokestatic 28, 3), (46, .aload_n 1, 1), (47, .getfield 19, 3), (50, .iconst 0, 1), (51, .aload_n 0, 1), (52, .getfield 19, 3), (55, .iconst 0, 1), (56, .bipush 14, 2), (58, .invokestatic 28, 3), (61, .aload_n 0, 1), (62, .aload_n 1, 1), (63, .getfield 34, 3), (66, .putfield 34, 3), (69, .return_, 1)]
theorem aX6_take_0 : decAll cX6_take laX6_take_0 = true := by decide +kernel
theorem dX6_take_0 : decode cX6_take 0 = .ok (.aload_n 1, 1) := decAll_at aX6_take_0 0 rfl
theorem dX6_take_1 : decode cX6_take 1 = .ok (.getfield 9, 3) := decAll_at aX6_take_0 1 rfl
theorem dX6_take_4 : decode cX6_take 4 = .ok (.iconst 0, 1) := decAll_at aX6_take_0 2 rfl
theorem dX6_take_5 : decode cX6_take 5 = .ok (.aload_n 0, 1) := decAll_at aX6_take_0 3 rfl
theorem dX6_take_6 : decode cX6_take 6 = .ok (.getfield 9, 3) := decAll_at aX6_take_0 4 rfl
theorem dX6_take_9 : decode cX6_take 9 = .ok (.iconst 0, 1) := decAll_at aX6_take_0 5 rfl
theorem dX6_take_10 : decode cX6_take 10 = .ok (.sipush 256, 3) := decAll_at aX6_take_0 6 rfl
theorem dX6_take_13 : decode cX6_take 13 = .ok (.invokestatic 28, 3) := decAll_at aX6_take_0 7 rfl
theorem dX6_take_16 : decode cX6_take 16 = .ok (.aload_n 1, 1) := decAll_at aX6_take_0 8 rfl
theorem dX6_take_17 : decode cX6_take 17 = .ok (.getfield 13, 3) := decAll_at aX6_take_0 9 rfl
theorem dX6_take_20 : decode cX6_take 20 = .ok (.iconst 0, 1) := decAll_at aX6_take_0 10 rfl
theorem dX6_take_21 : decode cX6_take 21 = .ok (.aload_n 0, 1) := decAll_at aX6_take_0 11 rfl
theorem dX6_take_22 : decode cX6_take 22 = .ok (.getfield 13, 3) := decAll_at aX6_take_0 12 rfl
theorem dX6_take_25 : decode cX6_take 25 = .ok (.iconst 0, 1) := decAll_at aX6_take_0 13 rfl
theorem dX6_take_26 : decode cX6_take 26 = .ok (.bipush 14, 2) := decAll_at aX6_take_0 14 rfl
theorem dX6_take_28 : decode cX6_take 28 = .ok (.invokestatic 28, 3) := decAll_at aX6_take_0 15 rfl
theorem dX6_take_31 : decode cX6_take 31 = .ok (.aload_n 1, 1) := decAll_at aX6_take_0 16 rfl
theorem dX6_take_32 : decode cX6_take 32 = .ok (.getfield 16, 3) := decAll_at aX6_take_0 17 rfl
theorem dX6_take_35 : decode cX6_take 35 = .ok (.iconst 0, 1) := decAll_at aX6_take_0 18 rfl
theorem dX6_take_36 : decode cX6_take 36 = .ok (.aload_n 0, 1) := decAll_at aX6_take_0 19 rfl
theorem dX6_take_37 : decode cX6_take 37 = .ok (.getfield 16, 3) := decAll_at aX6_take_0 20 rfl
theorem dX6_take_40 : decode cX6_take 40 = .ok (.iconst 0, 1) := decAll_at aX6_take_0 21 rfl
theorem dX6_take_41 : decode cX6_take 41 = .ok (.bipush 14, 2) := decAll_at aX6_take_0 22 rfl
theorem dX6_take_43 : decode cX6_take 43 = .ok (.invokestatic 28, 3) := decAll_at aX6_take_0 23 rfl
theorem dX6_take_46 : decode cX6_take 46 = .ok (.aload_n 1, 1) := decAll_at aX6_take_0 24 rfl
theorem dX6_take_47 : decode cX6_take 47 = .ok (.getfield 19, 3) := decAll_at aX6_take_0 25 rfl
theorem dX6_take_50 : decode cX6_take 50 = .ok (.iconst 0, 1) := decAll_at aX6_take_0 26 rfl
theorem dX6_take_51 : decode cX6_take 51 = .ok (.aload_n 0, 1) := decAll_at aX6_take_0 27 rfl
theorem dX6_take_52 : decode cX6_take 52 = .ok (.getfield 19, 3) := decAll_at aX6_take_0 28 rfl
theorem dX6_take_55 : decode cX6_take 55 = .ok (.iconst 0, 1) := decAll_at aX6_take_0 29 rfl
theorem dX6_take_56 : decode cX6_take 56 = .ok (.bipush 14, 2) := decAll_at aX6_take_0 30 rfl
theorem dX6_take_58 : decode cX6_take 58 = .ok (.invokestatic 28, 3) := decAll_at aX6_take_0 31 rfl
theorem dX6_take_61 : decode cX6_take 61 = .ok (.aload_n 0, 1) := decAll_at aX6_take_0 32 rfl
theorem dX6_take_62 : decode cX6_take 62 = .ok (.aload_n 1, 1) := decAll_at aX6_take_0 33 rfl
theorem dX6_take_63 : decode cX6_take 63 = .ok (.getfield 34, 3) := decAll_at aX6_take_0 34 rfl
theorem dX6_take_66 : decode cX6_take 66 = .ok (.putfield 34, 3) := decAll_at aX6_take_0 35 rfl
theorem dX6_take_69 : decode cX6_take 69 = .ok (.return_, 1) := decAll_at aX6_take_0 36 rfl
def laX6_value_0 : List (Nat × Instr × Nat) := [(0, .iconst 0, 1), (1, .istore 4, 2), (3, .iload 4, 2), (5, .aload_n 0, 1), (6, .getfield 34, 3), (9, .if_icmp .ge 54, 3), (12, .aload_n 0, 1), (13, .getfield 13, 3), (16, .iload 4, 2), (18, .iaload, 1), (19, .iload_n 1, 1), (20, .if_icmp .ne 37, 3), (23, .aload_n 0, 1), (24, .aload_n 0, 1), (25, .getfield 19, 3), (28, .iload 4, 2), (30, .iaload, 1), (31, .invokevirtual 38, 3), (34, .ifCond .eq 23, 3), (37, .iload_n 2, 1), (38, .iload_n 3, 1), (39, .aload_n 0, 1), (40, .aload_n 0, 1), (41, .getfield 16, 3), (44, .iload 4, 2), (46, .iaload, 1), (47, .invokevirtual 38, 3), (50, .invokestatic 42, 3), (53, .invokestatic 48, 3), (56, .ireturn, 1), (57, .iinc 4 1, 3), (60, .goto (-57), 3), (63, .iconst 0, 1), (64, .ireturn, 1)]
theorem aX6_value_0 : decAll cX6_value laX6_value_0 = true := by decide +kernel
theorem dX6_value_0 : decode cX6_value 0 = .ok (.iconst 0, 1) := decAll_at aX6_value_0 0 rfl
theorem dX6_value_1 : decode cX6_value 1 = .ok (.istore 4, 2) := decAll_at aX6_value_0 1 rfl
theorem dX6_value_3 : decode cX6_value 3 = .ok (.iload 4, 2) := decAll_at aX6_value_0 2 rfl
theorem dX6_value_5 : decode cX6_value 5 = .ok (.aload_n 0, 1) := decAll_at aX6_value_0 3 rfl
theorem dX6_value_6 : decode cX6_value 6 = .ok (.getfield 34, 3) := decAll_at aX6_value_0 4 rfl
theorem dX6_value_9 : decode cX6_value 9 = .ok (.if_icmp .ge 54, 3) := decAll_at aX6_value_0 5 rfl
theorem dX6_value_12 : decode cX6_value 12 = .ok (.aload_n 0, 1) := decAll_at aX6_value_0 6 rfl
theorem dX6_value_13 : decode cX6_value 13 = .ok (.getfield 13, 3) := decAll_at aX6_value_0 7 rfl
theorem dX6_value_16 : decode cX6_value 16 = .ok (.iload 4, 2) := decAll_at aX6_value_0 8 rfl
theorem dX6_value_18 : decode cX6_value 18 = .ok (.iaload, 1) := decAll_at aX6_value_0 9 rfl
theorem dX6_value_19 : decode cX6_value 19 = .ok (.iload_n 1, 1) := decAll_at aX6_value_0 10 rfl
theorem dX6_value_20 : decode cX6_value 20 = .ok (.if_icmp .ne 37, 3) := decAll_at aX6_value_0 11 rfl
theorem dX6_value_23 : decode cX6_value 23 = .ok (.aload_n 0, 1) := decAll_at aX6_value_0 12 rfl
theorem dX6_value_24 : decode cX6_value 24 = .ok (.aload_n 0, 1) := decAll_at aX6_value_0 13 rfl
theorem dX6_value_25 : decode cX6_value 25 = .ok (.getfield 19, 3) := decAll_at aX6_value_0 14 rfl
theorem dX6_value_28 : decode cX6_value 28 = .ok (.iload 4, 2) := decAll_at aX6_value_0 15 rfl
theorem dX6_value_30 : decode cX6_value 30 = .ok (.iaload, 1) := decAll_at aX6_value_0 16 rfl
theorem dX6_value_31 : decode cX6_value 31 = .ok (.invokevirtual 38, 3) := decAll_at aX6_value_0 17 rfl
theorem dX6_value_34 : decode cX6_value 34 = .ok (.ifCond .eq 23, 3) := decAll_at aX6_value_0 18 rfl
theorem dX6_value_37 : decode cX6_value 37 = .ok (.iload_n 2, 1) := decAll_at aX6_value_0 19 rfl
theorem dX6_value_38 : decode cX6_value 38 = .ok (.iload_n 3, 1) := decAll_at aX6_value_0 20 rfl
theorem dX6_value_39 : decode cX6_value 39 = .ok (.aload_n 0, 1) := decAll_at aX6_value_0 21 rfl
theorem dX6_value_40 : decode cX6_value 40 = .ok (.aload_n 0, 1) := decAll_at aX6_value_0 22 rfl
theorem dX6_value_41 : decode cX6_value 41 = .ok (.getfield 16, 3) := decAll_at aX6_value_0 23 rfl
theorem dX6_value_44 : decode cX6_value 44 = .ok (.iload 4, 2) := decAll_at aX6_value_0 24 rfl
theorem dX6_value_46 : decode cX6_value 46 = .ok (.iaload, 1) := decAll_at aX6_value_0 25 rfl
theorem dX6_value_47 : decode cX6_value 47 = .ok (.invokevirtual 38, 3) := decAll_at aX6_value_0 26 rfl
theorem dX6_value_50 : decode cX6_value 50 = .ok (.invokestatic 42, 3) := decAll_at aX6_value_0 27 rfl
theorem dX6_value_53 : decode cX6_value 53 = .ok (.invokestatic 48, 3) := decAll_at aX6_value_0 28 rfl
theorem dX6_value_56 : decode cX6_value 56 = .ok (.ireturn, 1) := decAll_at aX6_value_0 29 rfl
theorem dX6_value_57 : decode cX6_value 57 = .ok (.iinc 4 1, 3) := decAll_at aX6_value_0 30 rfl
theorem dX6_value_60 : decode cX6_value 60 = .ok (.goto (-57), 3) := decAll_at aX6_value_0 31 rfl
theorem dX6_value_63 : decode cX6_value 63 = .ok (.iconst 0, 1) := decAll_at aX6_value_0 32 rfl
theorem dX6_value_64 : decode cX6_value 64 = .ok (.ireturn, 1) := decAll_at aX6_value_0 33 rfl
def laX6_run_0 : List (Nat × Instr × Nat) := [(0, .iload_n 1, 1), (1, .istore_n 2, 1), (2, .iconst 1, 1), (3, .istore_n 3, 1), (4, .iconst 0, 1), (5, .istore 4, 2), (7, .iload 4, 2), (9, .sipush 256, 3), (12, .if_icmp .ge 396, 3), (15, .iload_n 2, 1), (16, .ifCond .lt 392, 3), (19, .iload_n 2, 1), (20, .sipush 256, 3), (23, .if_icmp .ge 385, 3), (26, .aload_n 0, 1), (27, .getfield 9, 3), (30, .iload_n 2, 1), (31, .iaload, 1), (32, .iconst 4, 1), (33, .ishr, 1), (34, .istore 5, 2), (36, .aload_n 0, 1), (37, .getfield 9, 3), (40, .iload_n 2, 1), (41, .iaload, 1), (42, .bipush 15, 2), (44, .iand, 1), (45, .istore 6, 2), (47, .iinc 2 1, 3), (50, .iload_n 3, 1), (51, .iconst 1, 1), (52, .if_icmp .lt 9, 3), (55, .iload_n 3, 1), (56, .bipush 31, 2), (58, .if_icmp .lt 5, 3), (61, .iconst 0, 1), (62, .ireturn, 1), (63, .iload 6, 2), (65, .ifCond .ne 10, 3), (68, .aload_n 0, 1), (69, .getfield 25, 3), (72, .iload_n 3, 1), (73, .iaload, 1), (74, .ireturn, 1), (75, .iload 6, 2), (77, .iconst 1, 1), (78, .if_icmp .ne 17, 3), (81, .iinc 3 1, 3), (84, .aload_n 0, 1), (85, .getfield 25, 3), (88, .iload_n 3, 1), (89, .iload 5, 2), (91, .iastore, 1), (92, .goto 310, 3), (95, .iload 6, 2), (97, .iconst 2, 1), (98, .if_icmp .ne 38, 3), (101, .iinc 3 1, 3), (104, .aload_n 0, 1), (105, .getfield 25, 3), (108, .iload_n 3, 1), (109, .iload 5, 2), (111, .ifCond .lt 20, 3), (114, .iload 5, 2)]
theorem aX6_run_0 : decAll cX6_run laX6_run_0 = true := by decide +kernel
theorem dX6_run_0 : decode cX6_run 0 = .ok (.iload_n 1, 1) := decAll_at aX6_run_0 0 rfl
theorem dX6_run_1 : decode cX6_run 1 = .ok (.istore_n 2, 1) := decAll_at aX6_run_0 1 rfl
theorem dX6_run_2 : decode cX6_run 2 = .ok (.iconst 1, 1) := decAll_at aX6_run_0 2 rfl
theorem dX6_run_3 : decode cX6_run 3 = .ok (.istore_n 3, 1) := decAll_at aX6_run_0 3 rfl
theorem dX6_run_4 : decode cX6_run 4 = .ok (.iconst 0, 1) := decAll_at aX6_run_0 4 rfl
theorem dX6_run_5 : decode cX6_run 5 = .ok (.istore 4, 2) := decAll_at aX6_run_0 5 rfl
theorem dX6_run_7 : decode cX6_run 7 = .ok (.iload 4, 2) := decAll_at aX6_run_0 6 rfl
theorem dX6_run_9 : decode cX6_run 9 = .ok (.sipush 256, 3) := decAll_at aX6_run_0 7 rfl
theorem dX6_run_12 : decode cX6_run 12 = .ok (.if_icmp .ge 396, 3) := decAll_at aX6_run_0 8 rfl
theorem dX6_run_15 : decode cX6_run 15 = .ok (.iload_n 2, 1) := decAll_at aX6_run_0 9 rfl
theorem dX6_run_16 : decode cX6_run 16 = .ok (.ifCond .lt 392, 3) := decAll_at aX6_run_0 10 rfl
theorem dX6_run_19 : decode cX6_run 19 = .ok (.iload_n 2, 1) := decAll_at aX6_run_0 11 rfl
theorem dX6_run_20 : decode cX6_run 20 = .ok (.sipush 256, 3) := decAll_at aX6_run_0 12 rfl
theorem dX6_run_23 : decode cX6_run 23 = .ok (.if_icmp .ge 385, 3) := decAll_at aX6_run_0 13 rfl
theorem dX6_run_26 : decode cX6_run 26 = .ok (.aload_n 0, 1) := decAll_at aX6_run_0 14 rfl
theorem dX6_run_27 : decode cX6_run 27 = .ok (.getfield 9, 3) := decAll_at aX6_run_0 15 rfl
theorem dX6_run_30 : decode cX6_run 30 = .ok (.iload_n 2, 1) := decAll_at aX6_run_0 16 rfl
theorem dX6_run_31 : decode cX6_run 31 = .ok (.iaload, 1) := decAll_at aX6_run_0 17 rfl
theorem dX6_run_32 : decode cX6_run 32 = .ok (.iconst 4, 1) := decAll_at aX6_run_0 18 rfl
theorem dX6_run_33 : decode cX6_run 33 = .ok (.ishr, 1) := decAll_at aX6_run_0 19 rfl
theorem dX6_run_34 : decode cX6_run 34 = .ok (.istore 5, 2) := decAll_at aX6_run_0 20 rfl
theorem dX6_run_36 : decode cX6_run 36 = .ok (.aload_n 0, 1) := decAll_at aX6_run_0 21 rfl
theorem dX6_run_37 : decode cX6_run 37 = .ok (.getfield 9, 3) := decAll_at aX6_run_0 22 rfl
theorem dX6_run_40 : decode cX6_run 40 = .ok (.iload_n 2, 1) := decAll_at aX6_run_0 23 rfl
theorem dX6_run_41 : decode cX6_run 41 = .ok (.iaload, 1) := decAll_at aX6_run_0 24 rfl
theorem dX6_run_42 : decode cX6_run 42 = .ok (.bipush 15, 2) := decAll_at aX6_run_0 25 rfl
theorem dX6_run_44 : decode cX6_run 44 = .ok (.iand, 1) := decAll_at aX6_run_0 26 rfl
theorem dX6_run_45 : decode cX6_run 45 = .ok (.istore 6, 2) := decAll_at aX6_run_0 27 rfl
theorem dX6_run_47 : decode cX6_run 47 = .ok (.iinc 2 1, 3) := decAll_at aX6_run_0 28 rfl
theorem dX6_run_50 : decode cX6_run 50 = .ok (.iload_n 3, 1) := decAll_at aX6_run_0 29 rfl
theorem dX6_run_51 : decode cX6_run 51 = .ok (.iconst 1, 1) := decAll_at aX6_run_0 30 rfl
theorem dX6_run_52 : decode cX6_run 52 = .ok (.if_icmp .lt 9, 3) := decAll_at aX6_run_0 31 rfl
theorem dX6_run_55 : decode cX6_run 55 = .ok (.iload_n 3, 1) := decAll_at aX6_run_0 32 rfl
theorem dX6_run_56 : decode cX6_run 56 = .ok (.bipush 31, 2) := decAll_at aX6_run_0 33 rfl
theorem dX6_run_58 : decode cX6_run 58 = .ok (.if_icmp .lt 5, 3) := decAll_at aX6_run_0 34 rfl
theorem dX6_run_61 : decode cX6_run 61 = .ok (.iconst 0, 1) := decAll_at aX6_run_0 35 rfl
theorem dX6_run_62 : decode cX6_run 62 = .ok (.ireturn, 1) := decAll_at aX6_run_0 36 rfl
theorem dX6_run_63 : decode cX6_run 63 = .ok (.iload 6, 2) := decAll_at aX6_run_0 37 rfl
theorem dX6_run_65 : decode cX6_run 65 = .ok (.ifCond .ne 10, 3) := decAll_at aX6_run_0 38 rfl
theorem dX6_run_68 : decode cX6_run 68 = .ok (.aload_n 0, 1) := decAll_at aX6_run_0 39 rfl
theorem dX6_run_69 : decode cX6_run 69 = .ok (.getfield 25, 3) := decAll_at aX6_run_0 40 rfl
theorem dX6_run_72 : decode cX6_run 72 = .ok (.iload_n 3, 1) := decAll_at aX6_run_0 41 rfl
theorem dX6_run_73 : decode cX6_run 73 = .ok (.iaload, 1) := decAll_at aX6_run_0 42 rfl
theorem dX6_run_74 : decode cX6_run 74 = .ok (.ireturn, 1) := decAll_at aX6_run_0 43 rfl
theorem dX6_run_75 : decode cX6_run 75 = .ok (.iload 6, 2) := decAll_at aX6_run_0 44 rfl
theorem dX6_run_77 : decode cX6_run 77 = .ok (.iconst 1, 1) := decAll_at aX6_run_0 45 rfl
theorem dX6_run_78 : decode cX6_run 78 = .ok (.if_icmp .ne 17, 3) := decAll_at aX6_run_0 46 rfl
theorem dX6_run_81 : decode cX6_run 81 = .ok (.iinc 3 1, 3) := decAll_at aX6_run_0 47 rfl
theorem dX6_run_84 : decode cX6_run 84 = .ok (.aload_n 0, 1) := decAll_at aX6_run_0 48 rfl
theorem dX6_run_85 : decode cX6_run 85 = .ok (.getfield 25, 3) := decAll_at aX6_run_0 49 rfl
theorem dX6_run_88 : decode cX6_run 88 = .ok (.iload_n 3, 1) := decAll_at aX6_run_0 50 rfl
theorem dX6_run_89 : decode cX6_run 89 = .ok (.iload 5, 2) := decAll_at aX6_run_0 51 rfl
theorem dX6_run_91 : decode cX6_run 91 = .ok (.iastore, 1) := decAll_at aX6_run_0 52 rfl
theorem dX6_run_92 : decode cX6_run 92 = .ok (.goto 310, 3) := decAll_at aX6_run_0 53 rfl
theorem dX6_run_95 : decode cX6_run 95 = .ok (.iload 6, 2) := decAll_at aX6_run_0 54 rfl
theorem dX6_run_97 : decode cX6_run 97 = .ok (.iconst 2, 1) := decAll_at aX6_run_0 55 rfl
theorem dX6_run_98 : decode cX6_run 98 = .ok (.if_icmp .ne 38, 3) := decAll_at aX6_run_0 56 rfl
theorem dX6_run_101 : decode cX6_run 101 = .ok (.iinc 3 1, 3) := decAll_at aX6_run_0 57 rfl
theorem dX6_run_104 : decode cX6_run 104 = .ok (.aload_n 0, 1) := decAll_at aX6_run_0 58 rfl
theorem dX6_run_105 : decode cX6_run 105 = .ok (.getfield 25, 3) := decAll_at aX6_run_0 59 rfl
theorem dX6_run_108 : decode cX6_run 108 = .ok (.iload_n 3, 1) := decAll_at aX6_run_0 60 rfl
theorem dX6_run_109 : decode cX6_run 109 = .ok (.iload 5, 2) := decAll_at aX6_run_0 61 rfl
theorem dX6_run_111 : decode cX6_run 111 = .ok (.ifCond .lt 20, 3) := decAll_at aX6_run_0 62 rfl
theorem dX6_run_114 : decode cX6_run 114 = .ok (.iload 5, 2) := decAll_at aX6_run_0 63 rfl
def laX6_run_1 : List (Nat × Instr × Nat) := [(116, .bipush 10, 2), (118, .if_icmp .ge 13, 3), (121, .aload_n 0, 1), (122, .getfield 22, 3), (125, .iload 5, 2), (127, .iaload, 1), (128, .goto 4, 3), (131, .iconst 0, 1), (132, .iastore, 1), (133, .goto 269, 3), (136, .iload 6, 2), (138, .iconst 3, 1), (139, .if_icmp .ne 20, 3), (142, .aload_n 0, 1), (143, .getfield 25, 3), (146, .iload_n 3, 1), (147, .iconst 1, 1), (148, .aload_n 0, 1), (149, .getfield 25, 3), (152, .iload_n 3, 1), (153, .iaload, 1), (154, .isub, 1), (155, .iastore, 1), (156, .goto 246, 3), (159, .iload 6, 2), (161, .iconst 4, 1), (162, .if_icmp .eq 9, 3), (165, .iload 6, 2), (167, .iconst 5, 1), (168, .if_icmp .ne 43, 3), (171, .aload_n 0, 1), (172, .getfield 25, 3), (175, .iload_n 3, 1), (176, .iaload, 1), (177, .ifCond .eq 7, 3), (180, .iconst 1, 1), (181, .goto 4, 3), (184, .iconst 0, 1), (185, .iload 6, 2), (187, .iconst 5, 1), (188, .if_icmp .ne 7, 3), (191, .iconst 1, 1), (192, .goto 4, 3), (195, .iconst 0, 1), (196, .if_icmp .ne 9, 3), (199, .iload 5, 2), (201, .istore_n 2, 1), (202, .goto 200, 3), (205, .iinc 3 (-1), 3), (208, .goto 194, 3), (211, .aload_n 0, 1), (212, .getfield 25, 3), (215, .iload_n 3, 1), (216, .iaload, 1), (217, .istore 7, 2), (219, .iload 7, 2), (221, .ifCond .ne 19, 3), (224, .iload 6, 2), (226, .bipush 9, 2), (228, .if_icmp .eq 10, 3), (231, .iload 6, 2), (233, .bipush 10, 2), (235, .if_icmp .ne 5, 3), (238, .iconst 0, 1)]
theorem aX6_run_1 : decAll cX6_run laX6_run_1 = true := by decide +kernel
theorem dX6_run_116 : decode cX6_run 116 = .ok (.bipush 10, 2) := decAll_at aX6_run_1 0 rfl
theorem dX6_run_118 : decode cX6_run 118 = .ok (.if_icmp .ge 13, 3) := decAll_at aX6_run_1 1 rfl
theorem dX6_run_121 : decode cX6_run 121 = .ok (.aload_n 0, 1) := decAll_at aX6_run_1 2 rfl
theorem dX6_run_122 : decode cX6_run 122 = .ok (.getfield 22, 3) := decAll_at aX6_run_1 3 rfl
theorem dX6_run_125 : decode cX6_run 125 = .ok (.iload 5, 2) := decAll_at aX6_run_1 4 rfl
theorem dX6_run_127 : decode cX6_run 127 = .ok (.iaload, 1) := decAll_at aX6_run_1 5 rfl
theorem dX6_run_128 : decode cX6_run 128 = .ok (.goto 4, 3) := decAll_at aX6_run_1 6 rfl
theorem dX6_run_131 : decode cX6_run 131 = .ok (.iconst 0, 1) := decAll_at aX6_run_1 7 rfl
theorem dX6_run_132 : decode cX6_run 132 = .ok (.iastore, 1) := decAll_at aX6_run_1 8 rfl
theorem dX6_run_133 : decode cX6_run 133 = .ok (.goto 269, 3) := decAll_at aX6_run_1 9 rfl
theorem dX6_run_136 : decode cX6_run 136 = .ok (.iload 6, 2) := decAll_at aX6_run_1 10 rfl
theorem dX6_run_138 : decode cX6_run 138 = .ok (.iconst 3, 1) := decAll_at aX6_run_1 11 rfl
theorem dX6_run_139 : decode cX6_run 139 = .ok (.if_icmp .ne 20, 3) := decAll_at aX6_run_1 12 rfl
theorem dX6_run_142 : decode cX6_run 142 = .ok (.aload_n 0, 1) := decAll_at aX6_run_1 13 rfl
theorem dX6_run_143 : decode cX6_run 143 = .ok (.getfield 25, 3) := decAll_at aX6_run_1 14 rfl
theorem dX6_run_146 : decode cX6_run 146 = .ok (.iload_n 3, 1) := decAll_at aX6_run_1 15 rfl
theorem dX6_run_147 : decode cX6_run 147 = .ok (.iconst 1, 1) := decAll_at aX6_run_1 16 rfl
theorem dX6_run_148 : decode cX6_run 148 = .ok (.aload_n 0, 1) := decAll_at aX6_run_1 17 rfl
theorem dX6_run_149 : decode cX6_run 149 = .ok (.getfield 25, 3) := decAll_at aX6_run_1 18 rfl
theorem dX6_run_152 : decode cX6_run 152 = .ok (.iload_n 3, 1) := decAll_at aX6_run_1 19 rfl
theorem dX6_run_153 : decode cX6_run 153 = .ok (.iaload, 1) := decAll_at aX6_run_1 20 rfl
theorem dX6_run_154 : decode cX6_run 154 = .ok (.isub, 1) := decAll_at aX6_run_1 21 rfl
theorem dX6_run_155 : decode cX6_run 155 = .ok (.iastore, 1) := decAll_at aX6_run_1 22 rfl
theorem dX6_run_156 : decode cX6_run 156 = .ok (.goto 246, 3) := decAll_at aX6_run_1 23 rfl
theorem dX6_run_159 : decode cX6_run 159 = .ok (.iload 6, 2) := decAll_at aX6_run_1 24 rfl
theorem dX6_run_161 : decode cX6_run 161 = .ok (.iconst 4, 1) := decAll_at aX6_run_1 25 rfl
theorem dX6_run_162 : decode cX6_run 162 = .ok (.if_icmp .eq 9, 3) := decAll_at aX6_run_1 26 rfl
theorem dX6_run_165 : decode cX6_run 165 = .ok (.iload 6, 2) := decAll_at aX6_run_1 27 rfl
theorem dX6_run_167 : decode cX6_run 167 = .ok (.iconst 5, 1) := decAll_at aX6_run_1 28 rfl
theorem dX6_run_168 : decode cX6_run 168 = .ok (.if_icmp .ne 43, 3) := decAll_at aX6_run_1 29 rfl
theorem dX6_run_171 : decode cX6_run 171 = .ok (.aload_n 0, 1) := decAll_at aX6_run_1 30 rfl
theorem dX6_run_172 : decode cX6_run 172 = .ok (.getfield 25, 3) := decAll_at aX6_run_1 31 rfl
theorem dX6_run_175 : decode cX6_run 175 = .ok (.iload_n 3, 1) := decAll_at aX6_run_1 32 rfl
theorem dX6_run_176 : decode cX6_run 176 = .ok (.iaload, 1) := decAll_at aX6_run_1 33 rfl
theorem dX6_run_177 : decode cX6_run 177 = .ok (.ifCond .eq 7, 3) := decAll_at aX6_run_1 34 rfl
theorem dX6_run_180 : decode cX6_run 180 = .ok (.iconst 1, 1) := decAll_at aX6_run_1 35 rfl
theorem dX6_run_181 : decode cX6_run 181 = .ok (.goto 4, 3) := decAll_at aX6_run_1 36 rfl
theorem dX6_run_184 : decode cX6_run 184 = .ok (.iconst 0, 1) := decAll_at aX6_run_1 37 rfl
theorem dX6_run_185 : decode cX6_run 185 = .ok (.iload 6, 2) := decAll_at aX6_run_1 38 rfl
theorem dX6_run_187 : decode cX6_run 187 = .ok (.iconst 5, 1) := decAll_at aX6_run_1 39 rfl
theorem dX6_run_188 : decode cX6_run 188 = .ok (.if_icmp .ne 7, 3) := decAll_at aX6_run_1 40 rfl
theorem dX6_run_191 : decode cX6_run 191 = .ok (.iconst 1, 1) := decAll_at aX6_run_1 41 rfl
theorem dX6_run_192 : decode cX6_run 192 = .ok (.goto 4, 3) := decAll_at aX6_run_1 42 rfl
theorem dX6_run_195 : decode cX6_run 195 = .ok (.iconst 0, 1) := decAll_at aX6_run_1 43 rfl
theorem dX6_run_196 : decode cX6_run 196 = .ok (.if_icmp .ne 9, 3) := decAll_at aX6_run_1 44 rfl
theorem dX6_run_199 : decode cX6_run 199 = .ok (.iload 5, 2) := decAll_at aX6_run_1 45 rfl
theorem dX6_run_201 : decode cX6_run 201 = .ok (.istore_n 2, 1) := decAll_at aX6_run_1 46 rfl
theorem dX6_run_202 : decode cX6_run 202 = .ok (.goto 200, 3) := decAll_at aX6_run_1 47 rfl
theorem dX6_run_205 : decode cX6_run 205 = .ok (.iinc 3 (-1), 3) := decAll_at aX6_run_1 48 rfl
theorem dX6_run_208 : decode cX6_run 208 = .ok (.goto 194, 3) := decAll_at aX6_run_1 49 rfl
theorem dX6_run_211 : decode cX6_run 211 = .ok (.aload_n 0, 1) := decAll_at aX6_run_1 50 rfl
theorem dX6_run_212 : decode cX6_run 212 = .ok (.getfield 25, 3) := decAll_at aX6_run_1 51 rfl
theorem dX6_run_215 : decode cX6_run 215 = .ok (.iload_n 3, 1) := decAll_at aX6_run_1 52 rfl
theorem dX6_run_216 : decode cX6_run 216 = .ok (.iaload, 1) := decAll_at aX6_run_1 53 rfl
theorem dX6_run_217 : decode cX6_run 217 = .ok (.istore 7, 2) := decAll_at aX6_run_1 54 rfl
theorem dX6_run_219 : decode cX6_run 219 = .ok (.iload 7, 2) := decAll_at aX6_run_1 55 rfl
theorem dX6_run_221 : decode cX6_run 221 = .ok (.ifCond .ne 19, 3) := decAll_at aX6_run_1 56 rfl
theorem dX6_run_224 : decode cX6_run 224 = .ok (.iload 6, 2) := decAll_at aX6_run_1 57 rfl
theorem dX6_run_226 : decode cX6_run 226 = .ok (.bipush 9, 2) := decAll_at aX6_run_1 58 rfl
theorem dX6_run_228 : decode cX6_run 228 = .ok (.if_icmp .eq 10, 3) := decAll_at aX6_run_1 59 rfl
theorem dX6_run_231 : decode cX6_run 231 = .ok (.iload 6, 2) := decAll_at aX6_run_1 60 rfl
theorem dX6_run_233 : decode cX6_run 233 = .ok (.bipush 10, 2) := decAll_at aX6_run_1 61 rfl
theorem dX6_run_235 : decode cX6_run 235 = .ok (.if_icmp .ne 5, 3) := decAll_at aX6_run_1 62 rfl
theorem dX6_run_238 : decode cX6_run 238 = .ok (.iconst 0, 1) := decAll_at aX6_run_1 63 rfl
def laX6_run_2 : List (Nat × Instr × Nat) := [(239, .ireturn, 1), (240, .iinc 3 (-1), 3), (243, .aload_n 0, 1), (244, .getfield 25, 3), (247, .iload_n 3, 1), (248, .iaload, 1), (249, .istore 8, 2), (251, .iload 6, 2), (253, .tableswitch 127 6 12 #[43, 53, 63, 73, 83, 93, 110], 43), (296, .iload 8, 2), (298, .iload 7, 2), (300, .iadd, 1), (301, .istore 8, 2), (303, .goto 91, 3), (306, .iload 8, 2), (308, .iload 7, 2), (310, .isub, 1), (311, .istore 8, 2), (313, .goto 81, 3), (316, .iload 8, 2), (318, .iload 7, 2), (320, .imul, 1), (321, .istore 8, 2), (323, .goto 71, 3), (326, .iload 8, 2), (328, .iload 7, 2), (330, .idiv, 1), (331, .istore 8, 2), (333, .goto 61, 3), (336, .iload 8, 2), (338, .iload 7, 2), (340, .irem, 1), (341, .istore 8, 2), (343, .goto 51, 3), (346, .iload 8, 2), (348, .iload 7, 2), (350, .if_icmp .ge 7, 3), (353, .iconst 1, 1), (354, .goto 4, 3), (357, .iconst 0, 1), (358, .istore 8, 2), (360, .goto 34, 3), (363, .iload 8, 2), (365, .iload 7, 2), (367, .if_icmp .le 7, 3), (370, .iconst 1, 1), (371, .goto 4, 3), (374, .iconst 0, 1), (375, .istore 8, 2), (377, .goto 17, 3), (380, .iload 8, 2), (382, .iload 7, 2), (384, .if_icmp .ne 7, 3), (387, .iconst 1, 1), (388, .goto 4, 3), (391, .iconst 0, 1), (392, .istore 8, 2), (394, .aload_n 0, 1), (395, .getfield 25, 3), (398, .iload_n 3, 1), (399, .iload 8, 2), (401, .iastore, 1), (402, .iinc 4 1, 3), (405, .goto (-398), 3)]
theorem aX6_run_2 : decAll cX6_run laX6_run_2 = true := by decide +kernel
theorem dX6_run_239 : decode cX6_run 239 = .ok (.ireturn, 1) := decAll_at aX6_run_2 0 rfl
theorem dX6_run_240 : decode cX6_run 240 = .ok (.iinc 3 (-1), 3) := decAll_at aX6_run_2 1 rfl
theorem dX6_run_243 : decode cX6_run 243 = .ok (.aload_n 0, 1) := decAll_at aX6_run_2 2 rfl
theorem dX6_run_244 : decode cX6_run 244 = .ok (.getfield 25, 3) := decAll_at aX6_run_2 3 rfl
theorem dX6_run_247 : decode cX6_run 247 = .ok (.iload_n 3, 1) := decAll_at aX6_run_2 4 rfl
theorem dX6_run_248 : decode cX6_run 248 = .ok (.iaload, 1) := decAll_at aX6_run_2 5 rfl
theorem dX6_run_249 : decode cX6_run 249 = .ok (.istore 8, 2) := decAll_at aX6_run_2 6 rfl
theorem dX6_run_251 : decode cX6_run 251 = .ok (.iload 6, 2) := decAll_at aX6_run_2 7 rfl
theorem dX6_run_253 : decode cX6_run 253 = .ok (.tableswitch 127 6 12 #[43, 53, 63, 73, 83, 93, 110], 43) := decAll_at aX6_run_2 8 rfl
theorem dX6_run_296 : decode cX6_run 296 = .ok (.iload 8, 2) := decAll_at aX6_run_2 9 rfl
theorem dX6_run_298 : decode cX6_run 298 = .ok (.iload 7, 2) := decAll_at aX6_run_2 10 rfl
theorem dX6_run_300 : decode cX6_run 300 = .ok (.iadd, 1) := decAll_at aX6_run_2 11 rfl
theorem dX6_run_301 : decode cX6_run 301 = .ok (.istore 8, 2) := decAll_at aX6_run_2 12 rfl
theorem dX6_run_303 : decode cX6_run 303 = .ok (.goto 91, 3) := decAll_at aX6_run_2 13 rfl
theorem dX6_run_306 : decode cX6_run 306 = .ok (.iload 8, 2) := decAll_at aX6_run_2 14 rfl
theorem dX6_run_308 : decode cX6_run 308 = .ok (.iload 7, 2) := decAll_at aX6_run_2 15 rfl
theorem dX6_run_310 : decode cX6_run 310 = .ok (.isub, 1) := decAll_at aX6_run_2 16 rfl
theorem dX6_run_311 : decode cX6_run 311 = .ok (.istore 8, 2) := decAll_at aX6_run_2 17 rfl
theorem dX6_run_313 : decode cX6_run 313 = .ok (.goto 81, 3) := decAll_at aX6_run_2 18 rfl
theorem dX6_run_316 : decode cX6_run 316 = .ok (.iload 8, 2) := decAll_at aX6_run_2 19 rfl
theorem dX6_run_318 : decode cX6_run 318 = .ok (.iload 7, 2) := decAll_at aX6_run_2 20 rfl
theorem dX6_run_320 : decode cX6_run 320 = .ok (.imul, 1) := decAll_at aX6_run_2 21 rfl
theorem dX6_run_321 : decode cX6_run 321 = .ok (.istore 8, 2) := decAll_at aX6_run_2 22 rfl
theorem dX6_run_323 : decode cX6_run 323 = .ok (.goto 71, 3) := decAll_at aX6_run_2 23 rfl
theorem dX6_run_326 : decode cX6_run 326 = .ok (.iload 8, 2) := decAll_at aX6_run_2 24 rfl
theorem dX6_run_328 : decode cX6_run 328 = .ok (.iload 7, 2) := decAll_at aX6_run_2 25 rfl
theorem dX6_run_330 : decode cX6_run 330 = .ok (.idiv, 1) := decAll_at aX6_run_2 26 rfl
theorem dX6_run_331 : decode cX6_run 331 = .ok (.istore 8, 2) := decAll_at aX6_run_2 27 rfl
theorem dX6_run_333 : decode cX6_run 333 = .ok (.goto 61, 3) := decAll_at aX6_run_2 28 rfl
theorem dX6_run_336 : decode cX6_run 336 = .ok (.iload 8, 2) := decAll_at aX6_run_2 29 rfl
theorem dX6_run_338 : decode cX6_run 338 = .ok (.iload 7, 2) := decAll_at aX6_run_2 30 rfl
theorem dX6_run_340 : decode cX6_run 340 = .ok (.irem, 1) := decAll_at aX6_run_2 31 rfl
theorem dX6_run_341 : decode cX6_run 341 = .ok (.istore 8, 2) := decAll_at aX6_run_2 32 rfl
theorem dX6_run_343 : decode cX6_run 343 = .ok (.goto 51, 3) := decAll_at aX6_run_2 33 rfl
theorem dX6_run_346 : decode cX6_run 346 = .ok (.iload 8, 2) := decAll_at aX6_run_2 34 rfl
theorem dX6_run_348 : decode cX6_run 348 = .ok (.iload 7, 2) := decAll_at aX6_run_2 35 rfl
theorem dX6_run_350 : decode cX6_run 350 = .ok (.if_icmp .ge 7, 3) := decAll_at aX6_run_2 36 rfl
theorem dX6_run_353 : decode cX6_run 353 = .ok (.iconst 1, 1) := decAll_at aX6_run_2 37 rfl
theorem dX6_run_354 : decode cX6_run 354 = .ok (.goto 4, 3) := decAll_at aX6_run_2 38 rfl
theorem dX6_run_357 : decode cX6_run 357 = .ok (.iconst 0, 1) := decAll_at aX6_run_2 39 rfl
theorem dX6_run_358 : decode cX6_run 358 = .ok (.istore 8, 2) := decAll_at aX6_run_2 40 rfl
theorem dX6_run_360 : decode cX6_run 360 = .ok (.goto 34, 3) := decAll_at aX6_run_2 41 rfl
theorem dX6_run_363 : decode cX6_run 363 = .ok (.iload 8, 2) := decAll_at aX6_run_2 42 rfl
theorem dX6_run_365 : decode cX6_run 365 = .ok (.iload 7, 2) := decAll_at aX6_run_2 43 rfl
theorem dX6_run_367 : decode cX6_run 367 = .ok (.if_icmp .le 7, 3) := decAll_at aX6_run_2 44 rfl
theorem dX6_run_370 : decode cX6_run 370 = .ok (.iconst 1, 1) := decAll_at aX6_run_2 45 rfl
theorem dX6_run_371 : decode cX6_run 371 = .ok (.goto 4, 3) := decAll_at aX6_run_2 46 rfl
theorem dX6_run_374 : decode cX6_run 374 = .ok (.iconst 0, 1) := decAll_at aX6_run_2 47 rfl
theorem dX6_run_375 : decode cX6_run 375 = .ok (.istore 8, 2) := decAll_at aX6_run_2 48 rfl
theorem dX6_run_377 : decode cX6_run 377 = .ok (.goto 17, 3) := decAll_at aX6_run_2 49 rfl
theorem dX6_run_380 : decode cX6_run 380 = .ok (.iload 8, 2) := decAll_at aX6_run_2 50 rfl
theorem dX6_run_382 : decode cX6_run 382 = .ok (.iload 7, 2) := decAll_at aX6_run_2 51 rfl
theorem dX6_run_384 : decode cX6_run 384 = .ok (.if_icmp .ne 7, 3) := decAll_at aX6_run_2 52 rfl
theorem dX6_run_387 : decode cX6_run 387 = .ok (.iconst 1, 1) := decAll_at aX6_run_2 53 rfl
theorem dX6_run_388 : decode cX6_run 388 = .ok (.goto 4, 3) := decAll_at aX6_run_2 54 rfl
theorem dX6_run_391 : decode cX6_run 391 = .ok (.iconst 0, 1) := decAll_at aX6_run_2 55 rfl
theorem dX6_run_392 : decode cX6_run 392 = .ok (.istore 8, 2) := decAll_at aX6_run_2 56 rfl
theorem dX6_run_394 : decode cX6_run 394 = .ok (.aload_n 0, 1) := decAll_at aX6_run_2 57 rfl
theorem dX6_run_395 : decode cX6_run 395 = .ok (.getfield 25, 3) := decAll_at aX6_run_2 58 rfl
theorem dX6_run_398 : decode cX6_run 398 = .ok (.iload_n 3, 1) := decAll_at aX6_run_2 59 rfl
theorem dX6_run_399 : decode cX6_run 399 = .ok (.iload 8, 2) := decAll_at aX6_run_2 60 rfl
theorem dX6_run_401 : decode cX6_run 401 = .ok (.iastore, 1) := decAll_at aX6_run_2 61 rfl
theorem dX6_run_402 : decode cX6_run 402 = .ok (.iinc 4 1, 3) := decAll_at aX6_run_2 62 rfl
theorem dX6_run_405 : decode cX6_run 405 = .ok (.goto (-398), 3) := decAll_at aX6_run_2 63 rfl
def laX6_run_3 : List (Nat × Instr × Nat) := [(408, .iconst 0, 1), (409, .ireturn, 1)]
theorem aX6_run_3 : decAll cX6_run laX6_run_3 = true := by decide +kernel
theorem dX6_run_408 : decode cX6_run 408 = .ok (.iconst 0, 1) := decAll_at aX6_run_3 0 rfl
theorem dX6_run_409 : decode cX6_run 409 = .ok (.ireturn, 1) := decAll_at aX6_run_3 1 rfl
def laX7_init_0 : List (Nat × Instr × Nat) := [(0, .aload_n 0, 1), (1, .invokespecial 3, 3), (4, .aload_n 0, 1), (5, .sipush 31104, 3), (8, .newarray .long, 2), (10, .putfield 11, 3), (13, .aload_n 0, 1), (14, .sipush 31104, 3), (17, .newarray .long, 2), (19, .putfield 15, 3), (22, .aload_n 0, 1), (23, .sipush 1296, 3), (26, .newarray .int, 2), (28, .putfield 18, 3), (31, .aload_n 0, 1), (32, .sipush 1296, 3), (35, .newarray .int, 2), (37, .putfield 22, 3), (40, .aload_n 0, 1), (41, .sipush 1296, 3), (44, .newarray .boolean, 2), (46, .putfield 25, 3), (49, .aload_n 0, 1), (50, .iconst 4, 1), (51, .newarray .int, 2), (53, .putfield 29, 3), (56, .aload_n 0, 1), (57, .bipush 24, 2), (59, .newarray .int, 2), (61, .putfield 32, 3), (64, .aload_n 0, 1), (65, .sipush 144, 3), (68, .newarray .int, 2), (70, .putfield 35, 3), (73, .aload_n 0, 1), (74, .bipush 24, 2), (76, .newarray .int, 2), (78, .putfield 38, 3), (81, .aload_n 0, 1), (82, .sipush 144, 3), (85, .newarray .int, 2), (87, .putfield 41, 3), (90, .aload_n 0, 1), (91, .sipush 144, 3), (94, .newarray .int, 2), (96, .putfield 44, 3), (99, .aload_n 0, 1), (100, .aload_n 1, 1), (101, .putfield 47, 3), (104, .aload_n 0, 1), (105, .aload_n 2, 1), (106, .putfield 51, 3), (109, .aload_n 0, 1), (110, .aload_n 3, 1), (111, .putfield 55, 3), (114, .aload_n 0, 1), (115, .getfield 11, 3), (118, .ldc2_w 59, 3), (121, .invokestatic 61, 3), (124, .aload_n 0, 1), (125, .getfield 15, 3), (128, .ldc2_w 59, 3), (131, .invokestatic 61, 3), (134, .return_, 1)]
theorem aX7_init_0 : decAll cX7_init laX7_init_0 = true := by decide +kernel
theorem dX7_init_0 : decode cX7_init 0 = .ok (.aload_n 0, 1) := decAll_at aX7_init_0 0 rfl
theorem dX7_init_1 : decode cX7_init 1 = .ok (.invokespecial 3, 3) := decAll_at aX7_init_0 1 rfl
theorem dX7_init_4 : decode cX7_init 4 = .ok (.aload_n 0, 1) := decAll_at aX7_init_0 2 rfl
theorem dX7_init_5 : decode cX7_init 5 = .ok (.sipush 31104, 3) := decAll_at aX7_init_0 3 rfl
theorem dX7_init_8 : decode cX7_init 8 = .ok (.newarray .long, 2) := decAll_at aX7_init_0 4 rfl
theorem dX7_init_10 : decode cX7_init 10 = .ok (.putfield 11, 3) := decAll_at aX7_init_0 5 rfl
theorem dX7_init_13 : decode cX7_init 13 = .ok (.aload_n 0, 1) := decAll_at aX7_init_0 6 rfl
theorem dX7_init_14 : decode cX7_init 14 = .ok (.sipush 31104, 3) := decAll_at aX7_init_0 7 rfl
theorem dX7_init_17 : decode cX7_init 17 = .ok (.newarray .long, 2) := decAll_at aX7_init_0 8 rfl
theorem dX7_init_19 : decode cX7_init 19 = .ok (.putfield 15, 3) := decAll_at aX7_init_0 9 rfl
theorem dX7_init_22 : decode cX7_init 22 = .ok (.aload_n 0, 1) := decAll_at aX7_init_0 10 rfl
theorem dX7_init_23 : decode cX7_init 23 = .ok (.sipush 1296, 3) := decAll_at aX7_init_0 11 rfl
theorem dX7_init_26 : decode cX7_init 26 = .ok (.newarray .int, 2) := decAll_at aX7_init_0 12 rfl
theorem dX7_init_28 : decode cX7_init 28 = .ok (.putfield 18, 3) := decAll_at aX7_init_0 13 rfl
theorem dX7_init_31 : decode cX7_init 31 = .ok (.aload_n 0, 1) := decAll_at aX7_init_0 14 rfl
theorem dX7_init_32 : decode cX7_init 32 = .ok (.sipush 1296, 3) := decAll_at aX7_init_0 15 rfl
theorem dX7_init_35 : decode cX7_init 35 = .ok (.newarray .int, 2) := decAll_at aX7_init_0 16 rfl
theorem dX7_init_37 : decode cX7_init 37 = .ok (.putfield 22, 3) := decAll_at aX7_init_0 17 rfl
theorem dX7_init_40 : decode cX7_init 40 = .ok (.aload_n 0, 1) := decAll_at aX7_init_0 18 rfl
theorem dX7_init_41 : decode cX7_init 41 = .ok (.sipush 1296, 3) := decAll_at aX7_init_0 19 rfl
theorem dX7_init_44 : decode cX7_init 44 = .ok (.newarray .boolean, 2) := decAll_at aX7_init_0 20 rfl
theorem dX7_init_46 : decode cX7_init 46 = .ok (.putfield 25, 3) := decAll_at aX7_init_0 21 rfl
theorem dX7_init_49 : decode cX7_init 49 = .ok (.aload_n 0, 1) := decAll_at aX7_init_0 22 rfl
theorem dX7_init_50 : decode cX7_init 50 = .ok (.iconst 4, 1) := decAll_at aX7_init_0 23 rfl
theorem dX7_init_51 : decode cX7_init 51 = .ok (.newarray .int, 2) := decAll_at aX7_init_0 24 rfl
theorem dX7_init_53 : decode cX7_init 53 = .ok (.putfield 29, 3) := decAll_at aX7_init_0 25 rfl
theorem dX7_init_56 : decode cX7_init 56 = .ok (.aload_n 0, 1) := decAll_at aX7_init_0 26 rfl
theorem dX7_init_57 : decode cX7_init 57 = .ok (.bipush 24, 2) := decAll_at aX7_init_0 27 rfl
theorem dX7_init_59 : decode cX7_init 59 = .ok (.newarray .int, 2) := decAll_at aX7_init_0 28 rfl
theorem dX7_init_61 : decode cX7_init 61 = .ok (.putfield 32, 3) := decAll_at aX7_init_0 29 rfl
theorem dX7_init_64 : decode cX7_init 64 = .ok (.aload_n 0, 1) := decAll_at aX7_init_0 30 rfl
theorem dX7_init_65 : decode cX7_init 65 = .ok (.sipush 144, 3) := decAll_at aX7_init_0 31 rfl
theorem dX7_init_68 : decode cX7_init 68 = .ok (.newarray .int, 2) := decAll_at aX7_init_0 32 rfl
theorem dX7_init_70 : decode cX7_init 70 = .ok (.putfield 35, 3) := decAll_at aX7_init_0 33 rfl
theorem dX7_init_73 : decode cX7_init 73 = .ok (.aload_n 0, 1) := decAll_at aX7_init_0 34 rfl
theorem dX7_init_74 : decode cX7_init 74 = .ok (.bipush 24, 2) := decAll_at aX7_init_0 35 rfl
theorem dX7_init_76 : decode cX7_init 76 = .ok (.newarray .int, 2) := decAll_at aX7_init_0 36 rfl
theorem dX7_init_78 : decode cX7_init 78 = .ok (.putfield 38, 3) := decAll_at aX7_init_0 37 rfl
theorem dX7_init_81 : decode cX7_init 81 = .ok (.aload_n 0, 1) := decAll_at aX7_init_0 38 rfl
theorem dX7_init_82 : decode cX7_init 82 = .ok (.sipush 144, 3) := decAll_at aX7_init_0 39 rfl
theorem dX7_init_85 : decode cX7_init 85 = .ok (.newarray .int, 2) := decAll_at aX7_init_0 40 rfl
theorem dX7_init_87 : decode cX7_init 87 = .ok (.putfield 41, 3) := decAll_at aX7_init_0 41 rfl
theorem dX7_init_90 : decode cX7_init 90 = .ok (.aload_n 0, 1) := decAll_at aX7_init_0 42 rfl
theorem dX7_init_91 : decode cX7_init 91 = .ok (.sipush 144, 3) := decAll_at aX7_init_0 43 rfl
theorem dX7_init_94 : decode cX7_init 94 = .ok (.newarray .int, 2) := decAll_at aX7_init_0 44 rfl
theorem dX7_init_96 : decode cX7_init 96 = .ok (.putfield 44, 3) := decAll_at aX7_init_0 45 rfl
theorem dX7_init_99 : decode cX7_init 99 = .ok (.aload_n 0, 1) := decAll_at aX7_init_0 46 rfl
theorem dX7_init_100 : decode cX7_init 100 = .ok (.aload_n 1, 1) := decAll_at aX7_init_0 47 rfl
theorem dX7_init_101 : decode cX7_init 101 = .ok (.putfield 47, 3) := decAll_at aX7_init_0 48 rfl
theorem dX7_init_104 : decode cX7_init 104 = .ok (.aload_n 0, 1) := decAll_at aX7_init_0 49 rfl
theorem dX7_init_105 : decode cX7_init 105 = .ok (.aload_n 2, 1) := decAll_at aX7_init_0 50 rfl
theorem dX7_init_106 : decode cX7_init 106 = .ok (.putfield 51, 3) := decAll_at aX7_init_0 51 rfl
theorem dX7_init_109 : decode cX7_init 109 = .ok (.aload_n 0, 1) := decAll_at aX7_init_0 52 rfl
theorem dX7_init_110 : decode cX7_init 110 = .ok (.aload_n 3, 1) := decAll_at aX7_init_0 53 rfl
theorem dX7_init_111 : decode cX7_init 111 = .ok (.putfield 55, 3) := decAll_at aX7_init_0 54 rfl
theorem dX7_init_114 : decode cX7_init 114 = .ok (.aload_n 0, 1) := decAll_at aX7_init_0 55 rfl
theorem dX7_init_115 : decode cX7_init 115 = .ok (.getfield 11, 3) := decAll_at aX7_init_0 56 rfl
theorem dX7_init_118 : decode cX7_init 118 = .ok (.ldc2_w 59, 3) := decAll_at aX7_init_0 57 rfl
theorem dX7_init_121 : decode cX7_init 121 = .ok (.invokestatic 61, 3) := decAll_at aX7_init_0 58 rfl
theorem dX7_init_124 : decode cX7_init 124 = .ok (.aload_n 0, 1) := decAll_at aX7_init_0 59 rfl
theorem dX7_init_125 : decode cX7_init 125 = .ok (.getfield 15, 3) := decAll_at aX7_init_0 60 rfl
theorem dX7_init_128 : decode cX7_init 128 = .ok (.ldc2_w 59, 3) := decAll_at aX7_init_0 61 rfl
theorem dX7_init_131 : decode cX7_init 131 = .ok (.invokestatic 61, 3) := decAll_at aX7_init_0 62 rfl
theorem dX7_init_134 : decode cX7_init 134 = .ok (.return_, 1) := decAll_at aX7_init_0 63 rfl
def laX7_solve_0 : List (Nat × Instr × Nat) := [(0, .aload_n 0, 1), (1, .getfield 67, 3), (4, .ifCond .eq 20, 3), (7, .aload_n 0, 1), (8, .getfield 71, 3), (11, .iload_n 1, 1), (12, .if_icmp .ne 12, 3), (15, .aload_n 0, 1), (16, .getfield 75, 3), (19, .iload_n 2, 1), (20, .if_icmp .ne 4, 3), (23, .return_, 1), (24, .aload_n 0, 1), (25, .iload_n 1, 1), (26, .putfield 71, 3), (29, .aload_n 0, 1), (30, .iload_n 2, 1), (31, .putfield 75, 3), (34, .aload_n 0, 1), (35, .getfield 11, 3), (38, .iconst 0, 1), (39, .lconst 0, 1), (40, .lastore, 1), (41, .aload_n 0, 1), (42, .getfield 18, 3), (45, .iconst 0, 1), (46, .iconst 0, 1), (47, .iastore, 1), (48, .aload_n 0, 1), (49, .iconst 1, 1), (50, .putfield 78, 3), (53, .ldc2_w 81, 3), (56, .lstore_n 3, 1), (57, .iconst 0, 1), (58, .istore 5, 2), (60, .iload 5, 2), (62, .aload_n 0, 1), (63, .getfield 47, 3), (66, .getfield 83, 3), (69, .if_icmp .ge 62, 3), (72, .lload_n 3, 1), (73, .ldc2_w 88, 3), (76, .ldiv, 1), (77, .lstore_n 3, 1), (78, .aload_n 0, 1), (79, .iload 5, 2), (81, .invokevirtual 90, 3), (84, .aload_n 0, 1), (85, .iconst 0, 1), (86, .putfield 94, 3), (89, .iconst 0, 1), (90, .istore 6, 2), (92, .iload 6, 2), (94, .aload_n 0, 1), (95, .getfield 78, 3), (98, .if_icmp .ge 23, 3), (101, .aload_n 0, 1), (102, .iload 5, 2), (104, .aload_n 0, 1), (105, .getfield 18, 3), (108, .iload 6, 2), (110, .iaload, 1), (111, .lload_n 3, 1), (112, .invokevirtual 97, 3)]
theorem aX7_solve_0 : decAll cX7_solve laX7_solve_0 = true := by decide +kernel
theorem dX7_solve_0 : decode cX7_solve 0 = .ok (.aload_n 0, 1) := decAll_at aX7_solve_0 0 rfl
theorem dX7_solve_1 : decode cX7_solve 1 = .ok (.getfield 67, 3) := decAll_at aX7_solve_0 1 rfl
theorem dX7_solve_4 : decode cX7_solve 4 = .ok (.ifCond .eq 20, 3) := decAll_at aX7_solve_0 2 rfl
theorem dX7_solve_7 : decode cX7_solve 7 = .ok (.aload_n 0, 1) := decAll_at aX7_solve_0 3 rfl
theorem dX7_solve_8 : decode cX7_solve 8 = .ok (.getfield 71, 3) := decAll_at aX7_solve_0 4 rfl
theorem dX7_solve_11 : decode cX7_solve 11 = .ok (.iload_n 1, 1) := decAll_at aX7_solve_0 5 rfl
theorem dX7_solve_12 : decode cX7_solve 12 = .ok (.if_icmp .ne 12, 3) := decAll_at aX7_solve_0 6 rfl
theorem dX7_solve_15 : decode cX7_solve 15 = .ok (.aload_n 0, 1) := decAll_at aX7_solve_0 7 rfl
theorem dX7_solve_16 : decode cX7_solve 16 = .ok (.getfield 75, 3) := decAll_at aX7_solve_0 8 rfl
theorem dX7_solve_19 : decode cX7_solve 19 = .ok (.iload_n 2, 1) := decAll_at aX7_solve_0 9 rfl
theorem dX7_solve_20 : decode cX7_solve 20 = .ok (.if_icmp .ne 4, 3) := decAll_at aX7_solve_0 10 rfl
theorem dX7_solve_23 : decode cX7_solve 23 = .ok (.return_, 1) := decAll_at aX7_solve_0 11 rfl
theorem dX7_solve_24 : decode cX7_solve 24 = .ok (.aload_n 0, 1) := decAll_at aX7_solve_0 12 rfl
theorem dX7_solve_25 : decode cX7_solve 25 = .ok (.iload_n 1, 1) := decAll_at aX7_solve_0 13 rfl
theorem dX7_solve_26 : decode cX7_solve 26 = .ok (.putfield 71, 3) := decAll_at aX7_solve_0 14 rfl
theorem dX7_solve_29 : decode cX7_solve 29 = .ok (.aload_n 0, 1) := decAll_at aX7_solve_0 15 rfl
theorem dX7_solve_30 : decode cX7_solve 30 = .ok (.iload_n 2, 1) := decAll_at aX7_solve_0 16 rfl
theorem dX7_solve_31 : decode cX7_solve 31 = .ok (.putfield 75, 3) := decAll_at aX7_solve_0 17 rfl
theorem dX7_solve_34 : decode cX7_solve 34 = .ok (.aload_n 0, 1) := decAll_at aX7_solve_0 18 rfl
theorem dX7_solve_35 : decode cX7_solve 35 = .ok (.getfield 11, 3) := decAll_at aX7_solve_0 19 rfl
theorem dX7_solve_38 : decode cX7_solve 38 = .ok (.iconst 0, 1) := decAll_at aX7_solve_0 20 rfl
theorem dX7_solve_39 : decode cX7_solve 39 = .ok (.lconst 0, 1) := decAll_at aX7_solve_0 21 rfl
theorem dX7_solve_40 : decode cX7_solve 40 = .ok (.lastore, 1) := decAll_at aX7_solve_0 22 rfl
theorem dX7_solve_41 : decode cX7_solve 41 = .ok (.aload_n 0, 1) := decAll_at aX7_solve_0 23 rfl
theorem dX7_solve_42 : decode cX7_solve 42 = .ok (.getfield 18, 3) := decAll_at aX7_solve_0 24 rfl
theorem dX7_solve_45 : decode cX7_solve 45 = .ok (.iconst 0, 1) := decAll_at aX7_solve_0 25 rfl
theorem dX7_solve_46 : decode cX7_solve 46 = .ok (.iconst 0, 1) := decAll_at aX7_solve_0 26 rfl
theorem dX7_solve_47 : decode cX7_solve 47 = .ok (.iastore, 1) := decAll_at aX7_solve_0 27 rfl
theorem dX7_solve_48 : decode cX7_solve 48 = .ok (.aload_n 0, 1) := decAll_at aX7_solve_0 28 rfl
theorem dX7_solve_49 : decode cX7_solve 49 = .ok (.iconst 1, 1) := decAll_at aX7_solve_0 29 rfl
theorem dX7_solve_50 : decode cX7_solve 50 = .ok (.putfield 78, 3) := decAll_at aX7_solve_0 30 rfl
theorem dX7_solve_53 : decode cX7_solve 53 = .ok (.ldc2_w 81, 3) := decAll_at aX7_solve_0 31 rfl
theorem dX7_solve_56 : decode cX7_solve 56 = .ok (.lstore_n 3, 1) := decAll_at aX7_solve_0 32 rfl
theorem dX7_solve_57 : decode cX7_solve 57 = .ok (.iconst 0, 1) := decAll_at aX7_solve_0 33 rfl
theorem dX7_solve_58 : decode cX7_solve 58 = .ok (.istore 5, 2) := decAll_at aX7_solve_0 34 rfl
theorem dX7_solve_60 : decode cX7_solve 60 = .ok (.iload 5, 2) := decAll_at aX7_solve_0 35 rfl
theorem dX7_solve_62 : decode cX7_solve 62 = .ok (.aload_n 0, 1) := decAll_at aX7_solve_0 36 rfl
theorem dX7_solve_63 : decode cX7_solve 63 = .ok (.getfield 47, 3) := decAll_at aX7_solve_0 37 rfl
theorem dX7_solve_66 : decode cX7_solve 66 = .ok (.getfield 83, 3) := decAll_at aX7_solve_0 38 rfl
theorem dX7_solve_69 : decode cX7_solve 69 = .ok (.if_icmp .ge 62, 3) := decAll_at aX7_solve_0 39 rfl
theorem dX7_solve_72 : decode cX7_solve 72 = .ok (.lload_n 3, 1) := decAll_at aX7_solve_0 40 rfl
theorem dX7_solve_73 : decode cX7_solve 73 = .ok (.ldc2_w 88, 3) := decAll_at aX7_solve_0 41 rfl
theorem dX7_solve_76 : decode cX7_solve 76 = .ok (.ldiv, 1) := decAll_at aX7_solve_0 42 rfl
theorem dX7_solve_77 : decode cX7_solve 77 = .ok (.lstore_n 3, 1) := decAll_at aX7_solve_0 43 rfl
theorem dX7_solve_78 : decode cX7_solve 78 = .ok (.aload_n 0, 1) := decAll_at aX7_solve_0 44 rfl
theorem dX7_solve_79 : decode cX7_solve 79 = .ok (.iload 5, 2) := decAll_at aX7_solve_0 45 rfl
theorem dX7_solve_81 : decode cX7_solve 81 = .ok (.invokevirtual 90, 3) := decAll_at aX7_solve_0 46 rfl
theorem dX7_solve_84 : decode cX7_solve 84 = .ok (.aload_n 0, 1) := decAll_at aX7_solve_0 47 rfl
theorem dX7_solve_85 : decode cX7_solve 85 = .ok (.iconst 0, 1) := decAll_at aX7_solve_0 48 rfl
theorem dX7_solve_86 : decode cX7_solve 86 = .ok (.putfield 94, 3) := decAll_at aX7_solve_0 49 rfl
theorem dX7_solve_89 : decode cX7_solve 89 = .ok (.iconst 0, 1) := decAll_at aX7_solve_0 50 rfl
theorem dX7_solve_90 : decode cX7_solve 90 = .ok (.istore 6, 2) := decAll_at aX7_solve_0 51 rfl
theorem dX7_solve_92 : decode cX7_solve 92 = .ok (.iload 6, 2) := decAll_at aX7_solve_0 52 rfl
theorem dX7_solve_94 : decode cX7_solve 94 = .ok (.aload_n 0, 1) := decAll_at aX7_solve_0 53 rfl
theorem dX7_solve_95 : decode cX7_solve 95 = .ok (.getfield 78, 3) := decAll_at aX7_solve_0 54 rfl
theorem dX7_solve_98 : decode cX7_solve 98 = .ok (.if_icmp .ge 23, 3) := decAll_at aX7_solve_0 55 rfl
theorem dX7_solve_101 : decode cX7_solve 101 = .ok (.aload_n 0, 1) := decAll_at aX7_solve_0 56 rfl
theorem dX7_solve_102 : decode cX7_solve 102 = .ok (.iload 5, 2) := decAll_at aX7_solve_0 57 rfl
theorem dX7_solve_104 : decode cX7_solve 104 = .ok (.aload_n 0, 1) := decAll_at aX7_solve_0 58 rfl
theorem dX7_solve_105 : decode cX7_solve 105 = .ok (.getfield 18, 3) := decAll_at aX7_solve_0 59 rfl
theorem dX7_solve_108 : decode cX7_solve 108 = .ok (.iload 6, 2) := decAll_at aX7_solve_0 60 rfl
theorem dX7_solve_110 : decode cX7_solve 110 = .ok (.iaload, 1) := decAll_at aX7_solve_0 61 rfl
theorem dX7_solve_111 : decode cX7_solve 111 = .ok (.lload_n 3, 1) := decAll_at aX7_solve_0 62 rfl
theorem dX7_solve_112 : decode cX7_solve 112 = .ok (.invokevirtual 97, 3) := decAll_at aX7_solve_0 63 rfl
def laX7_solve_1 : List (Nat × Instr × Nat) := [(115, .iinc 6 1, 3), (118, .goto (-26), 3), (121, .aload_n 0, 1), (122, .invokevirtual 101, 3), (125, .iinc 5 1, 3), (128, .goto (-68), 3), (131, .aload_n 0, 1), (132, .ldc2_w 59, 3), (135, .putfield 104, 3), (138, .iconst 0, 1), (139, .istore 5, 2), (141, .iload 5, 2), (143, .aload_n 0, 1), (144, .getfield 78, 3), (147, .if_icmp .ge 65, 3), (150, .aload_n 0, 1), (151, .getfield 18, 3), (154, .iload 5, 2), (156, .iaload, 1), (157, .istore 6, 2), (159, .iload 6, 2), (161, .aload_n 0, 1), (162, .getfield 11, 3), (165, .arraylength, 1), (166, .if_icmp .ge 40, 3), (169, .aload_n 0, 1), (170, .aload_n 0, 1), (171, .getfield 104, 3), (174, .aload_n 0, 1), (175, .getfield 11, 3), (178, .iload 6, 2), (180, .laload, 1), (181, .invokestatic 108, 3), (184, .putfield 104, 3), (187, .aload_n 0, 1), (188, .getfield 11, 3), (191, .iload 6, 2), (193, .ldc2_w 59, 3), (196, .lastore, 1), (197, .iinc 6 1296, 6), (203, .goto (-44), 3), (206, .iinc 5 1, 3), (209, .goto (-68), 3), (212, .aload_n 0, 1), (213, .iconst 1, 1), (214, .putfield 67, 3), (217, .return_, 1)]
theorem aX7_solve_1 : decAll cX7_solve laX7_solve_1 = true := by decide +kernel
theorem dX7_solve_115 : decode cX7_solve 115 = .ok (.iinc 6 1, 3) := decAll_at aX7_solve_1 0 rfl
theorem dX7_solve_118 : decode cX7_solve 118 = .ok (.goto (-26), 3) := decAll_at aX7_solve_1 1 rfl
theorem dX7_solve_121 : decode cX7_solve 121 = .ok (.aload_n 0, 1) := decAll_at aX7_solve_1 2 rfl
theorem dX7_solve_122 : decode cX7_solve 122 = .ok (.invokevirtual 101, 3) := decAll_at aX7_solve_1 3 rfl
theorem dX7_solve_125 : decode cX7_solve 125 = .ok (.iinc 5 1, 3) := decAll_at aX7_solve_1 4 rfl
theorem dX7_solve_128 : decode cX7_solve 128 = .ok (.goto (-68), 3) := decAll_at aX7_solve_1 5 rfl
theorem dX7_solve_131 : decode cX7_solve 131 = .ok (.aload_n 0, 1) := decAll_at aX7_solve_1 6 rfl
theorem dX7_solve_132 : decode cX7_solve 132 = .ok (.ldc2_w 59, 3) := decAll_at aX7_solve_1 7 rfl
theorem dX7_solve_135 : decode cX7_solve 135 = .ok (.putfield 104, 3) := decAll_at aX7_solve_1 8 rfl
theorem dX7_solve_138 : decode cX7_solve 138 = .ok (.iconst 0, 1) := decAll_at aX7_solve_1 9 rfl
theorem dX7_solve_139 : decode cX7_solve 139 = .ok (.istore 5, 2) := decAll_at aX7_solve_1 10 rfl
theorem dX7_solve_141 : decode cX7_solve 141 = .ok (.iload 5, 2) := decAll_at aX7_solve_1 11 rfl
theorem dX7_solve_143 : decode cX7_solve 143 = .ok (.aload_n 0, 1) := decAll_at aX7_solve_1 12 rfl
theorem dX7_solve_144 : decode cX7_solve 144 = .ok (.getfield 78, 3) := decAll_at aX7_solve_1 13 rfl
theorem dX7_solve_147 : decode cX7_solve 147 = .ok (.if_icmp .ge 65, 3) := decAll_at aX7_solve_1 14 rfl
theorem dX7_solve_150 : decode cX7_solve 150 = .ok (.aload_n 0, 1) := decAll_at aX7_solve_1 15 rfl
theorem dX7_solve_151 : decode cX7_solve 151 = .ok (.getfield 18, 3) := decAll_at aX7_solve_1 16 rfl
theorem dX7_solve_154 : decode cX7_solve 154 = .ok (.iload 5, 2) := decAll_at aX7_solve_1 17 rfl
theorem dX7_solve_156 : decode cX7_solve 156 = .ok (.iaload, 1) := decAll_at aX7_solve_1 18 rfl
theorem dX7_solve_157 : decode cX7_solve 157 = .ok (.istore 6, 2) := decAll_at aX7_solve_1 19 rfl
theorem dX7_solve_159 : decode cX7_solve 159 = .ok (.iload 6, 2) := decAll_at aX7_solve_1 20 rfl
theorem dX7_solve_161 : decode cX7_solve 161 = .ok (.aload_n 0, 1) := decAll_at aX7_solve_1 21 rfl
theorem dX7_solve_162 : decode cX7_solve 162 = .ok (.getfield 11, 3) := decAll_at aX7_solve_1 22 rfl
theorem dX7_solve_165 : decode cX7_solve 165 = .ok (.arraylength, 1) := decAll_at aX7_solve_1 23 rfl
theorem dX7_solve_166 : decode cX7_solve 166 = .ok (.if_icmp .ge 40, 3) := decAll_at aX7_solve_1 24 rfl
theorem dX7_solve_169 : decode cX7_solve 169 = .ok (.aload_n 0, 1) := decAll_at aX7_solve_1 25 rfl
theorem dX7_solve_170 : decode cX7_solve 170 = .ok (.aload_n 0, 1) := decAll_at aX7_solve_1 26 rfl
theorem dX7_solve_171 : decode cX7_solve 171 = .ok (.getfield 104, 3) := decAll_at aX7_solve_1 27 rfl
theorem dX7_solve_174 : decode cX7_solve 174 = .ok (.aload_n 0, 1) := decAll_at aX7_solve_1 28 rfl
theorem dX7_solve_175 : decode cX7_solve 175 = .ok (.getfield 11, 3) := decAll_at aX7_solve_1 29 rfl
theorem dX7_solve_178 : decode cX7_solve 178 = .ok (.iload 6, 2) := decAll_at aX7_solve_1 30 rfl
theorem dX7_solve_180 : decode cX7_solve 180 = .ok (.laload, 1) := decAll_at aX7_solve_1 31 rfl
theorem dX7_solve_181 : decode cX7_solve 181 = .ok (.invokestatic 108, 3) := decAll_at aX7_solve_1 32 rfl
theorem dX7_solve_184 : decode cX7_solve 184 = .ok (.putfield 104, 3) := decAll_at aX7_solve_1 33 rfl
theorem dX7_solve_187 : decode cX7_solve 187 = .ok (.aload_n 0, 1) := decAll_at aX7_solve_1 34 rfl
theorem dX7_solve_188 : decode cX7_solve 188 = .ok (.getfield 11, 3) := decAll_at aX7_solve_1 35 rfl
theorem dX7_solve_191 : decode cX7_solve 191 = .ok (.iload 6, 2) := decAll_at aX7_solve_1 36 rfl
theorem dX7_solve_193 : decode cX7_solve 193 = .ok (.ldc2_w 59, 3) := decAll_at aX7_solve_1 37 rfl
theorem dX7_solve_196 : decode cX7_solve 196 = .ok (.lastore, 1) := decAll_at aX7_solve_1 38 rfl
theorem dX7_solve_197 : decode cX7_solve 197 = .ok (.iinc 6 1296, 6) := decAll_at aX7_solve_1 39 rfl
theorem dX7_solve_203 : decode cX7_solve 203 = .ok (.goto (-44), 3) := decAll_at aX7_solve_1 40 rfl
theorem dX7_solve_206 : decode cX7_solve 206 = .ok (.iinc 5 1, 3) := decAll_at aX7_solve_1 41 rfl
theorem dX7_solve_209 : decode cX7_solve 209 = .ok (.goto (-68), 3) := decAll_at aX7_solve_1 42 rfl
theorem dX7_solve_212 : decode cX7_solve 212 = .ok (.aload_n 0, 1) := decAll_at aX7_solve_1 43 rfl
theorem dX7_solve_213 : decode cX7_solve 213 = .ok (.iconst 1, 1) := decAll_at aX7_solve_1 44 rfl
theorem dX7_solve_214 : decode cX7_solve 214 = .ok (.putfield 67, 3) := decAll_at aX7_solve_1 45 rfl
theorem dX7_solve_217 : decode cX7_solve 217 = .ok (.return_, 1) := decAll_at aX7_solve_1 46 rfl
def laX7_minutes_0 : List (Nat × Instr × Nat) := [(0, .aload_n 0, 1), (1, .getfield 104, 3), (4, .ldc2_w 59, 3), (7, .lcmp, 1), (8, .ifCond .ne 8, 3), (11, .ldc 114, 2), (13, .goto 12, 3), (16, .aload_n 0, 1), (17, .getfield 104, 3), (20, .ldc2_w 81, 3), (23, .ldiv, 1), (24, .l2i, 1), (25, .ireturn, 1)]
theorem aX7_minutes_0 : decAll cX7_minutes laX7_minutes_0 = true := by decide +kernel
theorem dX7_minutes_0 : decode cX7_minutes 0 = .ok (.aload_n 0, 1) := decAll_at aX7_minutes_0 0 rfl
theorem dX7_minutes_1 : decode cX7_minutes 1 = .ok (.getfield 104, 3) := decAll_at aX7_minutes_0 1 rfl
theorem dX7_minutes_4 : decode cX7_minutes 4 = .ok (.ldc2_w 59, 3) := decAll_at aX7_minutes_0 2 rfl
theorem dX7_minutes_7 : decode cX7_minutes 7 = .ok (.lcmp, 1) := decAll_at aX7_minutes_0 3 rfl
theorem dX7_minutes_8 : decode cX7_minutes 8 = .ok (.ifCond .ne 8, 3) := decAll_at aX7_minutes_0 4 rfl
theorem dX7_minutes_11 : decode cX7_minutes 11 = .ok (.ldc 114, 2) := decAll_at aX7_minutes_0 5 rfl
theorem dX7_minutes_13 : decode cX7_minutes 13 = .ok (.goto 12, 3) := decAll_at aX7_minutes_0 6 rfl
theorem dX7_minutes_16 : decode cX7_minutes 16 = .ok (.aload_n 0, 1) := decAll_at aX7_minutes_0 7 rfl
theorem dX7_minutes_17 : decode cX7_minutes 17 = .ok (.getfield 104, 3) := decAll_at aX7_minutes_0 8 rfl
theorem dX7_minutes_20 : decode cX7_minutes 20 = .ok (.ldc2_w 81, 3) := decAll_at aX7_minutes_0 9 rfl
theorem dX7_minutes_23 : decode cX7_minutes 23 = .ok (.ldiv, 1) := decAll_at aX7_minutes_0 10 rfl
theorem dX7_minutes_24 : decode cX7_minutes 24 = .ok (.l2i, 1) := decAll_at aX7_minutes_0 11 rfl
theorem dX7_minutes_25 : decode cX7_minutes 25 = .ok (.ireturn, 1) := decAll_at aX7_minutes_0 12 rfl
def laX7_signAt_0 : List (Nat × Instr × Nat) := [(0, .aload_n 0, 1), (1, .getfield 104, 3), (4, .ldc2_w 81, 3), (7, .lrem, 1), (8, .lstore_n 2, 1), (9, .bipush 9, 2), (11, .istore 4, 2), (13, .iload 4, 2), (15, .iload_n 1, 1), (16, .if_icmp .le 15, 3), (19, .lload_n 2, 1), (20, .ldc2_w 88, 3), (23, .ldiv, 1), (24, .lstore_n 2, 1), (25, .iinc 4 (-1), 3), (28, .goto (-15), 3), (31, .lload_n 2, 1), (32, .ldc2_w 88, 3), (35, .lrem, 1), (36, .l2i, 1), (37, .ireturn, 1)]
theorem aX7_signAt_0 : decAll cX7_signAt laX7_signAt_0 = true := by decide +kernel
theorem dX7_signAt_0 : decode cX7_signAt 0 = .ok (.aload_n 0, 1) := decAll_at aX7_signAt_0 0 rfl
theorem dX7_signAt_1 : decode cX7_signAt 1 = .ok (.getfield 104, 3) := decAll_at aX7_signAt_0 1 rfl
theorem dX7_signAt_4 : decode cX7_signAt 4 = .ok (.ldc2_w 81, 3) := decAll_at aX7_signAt_0 2 rfl
theorem dX7_signAt_7 : decode cX7_signAt 7 = .ok (.lrem, 1) := decAll_at aX7_signAt_0 3 rfl
theorem dX7_signAt_8 : decode cX7_signAt 8 = .ok (.lstore_n 2, 1) := decAll_at aX7_signAt_0 4 rfl
theorem dX7_signAt_9 : decode cX7_signAt 9 = .ok (.bipush 9, 2) := decAll_at aX7_signAt_0 5 rfl
theorem dX7_signAt_11 : decode cX7_signAt 11 = .ok (.istore 4, 2) := decAll_at aX7_signAt_0 6 rfl
theorem dX7_signAt_13 : decode cX7_signAt 13 = .ok (.iload 4, 2) := decAll_at aX7_signAt_0 7 rfl
theorem dX7_signAt_15 : decode cX7_signAt 15 = .ok (.iload_n 1, 1) := decAll_at aX7_signAt_0 8 rfl
theorem dX7_signAt_16 : decode cX7_signAt 16 = .ok (.if_icmp .le 15, 3) := decAll_at aX7_signAt_0 9 rfl
theorem dX7_signAt_19 : decode cX7_signAt 19 = .ok (.lload_n 2, 1) := decAll_at aX7_signAt_0 10 rfl
theorem dX7_signAt_20 : decode cX7_signAt 20 = .ok (.ldc2_w 88, 3) := decAll_at aX7_signAt_0 11 rfl
theorem dX7_signAt_23 : decode cX7_signAt 23 = .ok (.ldiv, 1) := decAll_at aX7_signAt_0 12 rfl
theorem dX7_signAt_24 : decode cX7_signAt 24 = .ok (.lstore_n 2, 1) := decAll_at aX7_signAt_0 13 rfl
theorem dX7_signAt_25 : decode cX7_signAt 25 = .ok (.iinc 4 (-1), 3) := decAll_at aX7_signAt_0 14 rfl
theorem dX7_signAt_28 : decode cX7_signAt 28 = .ok (.goto (-15), 3) := decAll_at aX7_signAt_0 15 rfl
theorem dX7_signAt_31 : decode cX7_signAt 31 = .ok (.lload_n 2, 1) := decAll_at aX7_signAt_0 16 rfl
theorem dX7_signAt_32 : decode cX7_signAt 32 = .ok (.ldc2_w 88, 3) := decAll_at aX7_signAt_0 17 rfl
theorem dX7_signAt_35 : decode cX7_signAt 35 = .ok (.lrem, 1) := decAll_at aX7_signAt_0 18 rfl
theorem dX7_signAt_36 : decode cX7_signAt 36 = .ok (.l2i, 1) := decAll_at aX7_signAt_0 19 rfl
theorem dX7_signAt_37 : decode cX7_signAt 37 = .ok (.ireturn, 1) := decAll_at aX7_signAt_0 20 rfl
def laX7_changes_0 : List (Nat × Instr × Nat) := [(0, .iconst 0, 1), (1, .istore_n 1, 1), (2, .iconst 1, 1), (3, .istore_n 2, 1), (4, .iload_n 2, 1), (5, .aload_n 0, 1), (6, .getfield 47, 3), (9, .getfield 83, 3), (12, .if_icmp .ge 38, 3), (15, .iload_n 1, 1), (16, .aload_n 0, 1), (17, .iload_n 2, 1), (18, .invokevirtual 115, 3), (21, .bipush 6, 2), (23, .irem, 1), (24, .aload_n 0, 1), (25, .iload_n 2, 1), (26, .iconst 1, 1), (27, .isub, 1), (28, .invokevirtual 115, 3), (31, .bipush 6, 2), (33, .irem, 1), (34, .if_icmp .eq 7, 3), (37, .iconst 1, 1), (38, .goto 4, 3), (41, .iconst 0, 1), (42, .iadd, 1), (43, .istore_n 1, 1), (44, .iinc 2 1, 3), (47, .goto (-43), 3), (50, .iload_n 1, 1), (51, .ireturn, 1)]
theorem aX7_changes_0 : decAll cX7_changes laX7_changes_0 = true := by decide +kernel
theorem dX7_changes_0 : decode cX7_changes 0 = .ok (.iconst 0, 1) := decAll_at aX7_changes_0 0 rfl
theorem dX7_changes_1 : decode cX7_changes 1 = .ok (.istore_n 1, 1) := decAll_at aX7_changes_0 1 rfl
theorem dX7_changes_2 : decode cX7_changes 2 = .ok (.iconst 1, 1) := decAll_at aX7_changes_0 2 rfl
theorem dX7_changes_3 : decode cX7_changes 3 = .ok (.istore_n 2, 1) := decAll_at aX7_changes_0 3 rfl
theorem dX7_changes_4 : decode cX7_changes 4 = .ok (.iload_n 2, 1) := decAll_at aX7_changes_0 4 rfl
theorem dX7_changes_5 : decode cX7_changes 5 = .ok (.aload_n 0, 1) := decAll_at aX7_changes_0 5 rfl
theorem dX7_changes_6 : decode cX7_changes 6 = .ok (.getfield 47, 3) := decAll_at aX7_changes_0 6 rfl
theorem dX7_changes_9 : decode cX7_changes 9 = .ok (.getfield 83, 3) := decAll_at aX7_changes_0 7 rfl
theorem dX7_changes_12 : decode cX7_changes 12 = .ok (.if_icmp .ge 38, 3) := decAll_at aX7_changes_0 8 rfl
theorem dX7_changes_15 : decode cX7_changes 15 = .ok (.iload_n 1, 1) := decAll_at aX7_changes_0 9 rfl
theorem dX7_changes_16 : decode cX7_changes 16 = .ok (.aload_n 0, 1) := decAll_at aX7_changes_0 10 rfl
theorem dX7_changes_17 : decode cX7_changes 17 = .ok (.iload_n 2, 1) := decAll_at aX7_changes_0 11 rfl
theorem dX7_changes_18 : decode cX7_changes 18 = .ok (.invokevirtual 115, 3) := decAll_at aX7_changes_0 12 rfl
theorem dX7_changes_21 : decode cX7_changes 21 = .ok (.bipush 6, 2) := decAll_at aX7_changes_0 13 rfl
theorem dX7_changes_23 : decode cX7_changes 23 = .ok (.irem, 1) := decAll_at aX7_changes_0 14 rfl
theorem dX7_changes_24 : decode cX7_changes 24 = .ok (.aload_n 0, 1) := decAll_at aX7_changes_0 15 rfl
theorem dX7_changes_25 : decode cX7_changes 25 = .ok (.iload_n 2, 1) := decAll_at aX7_changes_0 16 rfl
theorem dX7_changes_26 : decode cX7_changes 26 = .ok (.iconst 1, 1) := decAll_at aX7_changes_0 17 rfl
theorem dX7_changes_27 : decode cX7_changes 27 = .ok (.isub, 1) := decAll_at aX7_changes_0 18 rfl
theorem dX7_changes_28 : decode cX7_changes 28 = .ok (.invokevirtual 115, 3) := decAll_at aX7_changes_0 19 rfl
theorem dX7_changes_31 : decode cX7_changes 31 = .ok (.bipush 6, 2) := decAll_at aX7_changes_0 20 rfl
theorem dX7_changes_33 : decode cX7_changes 33 = .ok (.irem, 1) := decAll_at aX7_changes_0 21 rfl
theorem dX7_changes_34 : decode cX7_changes 34 = .ok (.if_icmp .eq 7, 3) := decAll_at aX7_changes_0 22 rfl
theorem dX7_changes_37 : decode cX7_changes 37 = .ok (.iconst 1, 1) := decAll_at aX7_changes_0 23 rfl
theorem dX7_changes_38 : decode cX7_changes 38 = .ok (.goto 4, 3) := decAll_at aX7_changes_0 24 rfl
theorem dX7_changes_41 : decode cX7_changes 41 = .ok (.iconst 0, 1) := decAll_at aX7_changes_0 25 rfl
theorem dX7_changes_42 : decode cX7_changes 42 = .ok (.iadd, 1) := decAll_at aX7_changes_0 26 rfl
theorem dX7_changes_43 : decode cX7_changes 43 = .ok (.istore_n 1, 1) := decAll_at aX7_changes_0 27 rfl
theorem dX7_changes_44 : decode cX7_changes 44 = .ok (.iinc 2 1, 3) := decAll_at aX7_changes_0 28 rfl
theorem dX7_changes_47 : decode cX7_changes 47 = .ok (.goto (-43), 3) := decAll_at aX7_changes_0 29 rfl
theorem dX7_changes_50 : decode cX7_changes 50 = .ok (.iload_n 1, 1) := decAll_at aX7_changes_0 30 rfl
theorem dX7_changes_51 : decode cX7_changes 51 = .ok (.ireturn, 1) := decAll_at aX7_changes_0 31 rfl
def laX7_weigh_0 : List (Nat × Instr × Nat) := [(0, .iconst 0, 1), (1, .istore_n 2, 1), (2, .iload_n 2, 1), (3, .bipush 6, 2), (5, .if_icmp .ge 59, 3), (8, .iconst 0, 1), (9, .istore_n 3, 1), (10, .iload_n 3, 1), (11, .aload_n 0, 1), (12, .getfield 47, 3), (15, .getfield 119, 3), (18, .if_icmp .ge 40, 3), (21, .aload_n 0, 1), (22, .getfield 55, 3), (25, .iload_n 2, 1), (26, .invokevirtual 122, 3), (29, .ifCond .eq 29, 3), (32, .aload_n 0, 1), (33, .getfield 32, 3), (36, .iload_n 2, 1), (37, .iconst 4, 1), (38, .imul, 1), (39, .iload_n 3, 1), (40, .iadd, 1), (41, .aload_n 0, 1), (42, .getfield 55, 3), (45, .iload_n 2, 1), (46, .iload_n 3, 1), (47, .iload_n 1, 1), (48, .invokevirtual 128, 3), (51, .iastore, 1), (52, .iinc 3 1, 3), (55, .goto (-45), 3), (58, .iinc 2 1, 3), (61, .goto (-59), 3), (64, .aload_n 0, 1), (65, .getfield 35, 3), (68, .iconst (-1), 1), (69, .invokestatic 132, 3), (72, .aload_n 0, 1), (73, .getfield 38, 3), (76, .iconst (-1), 1), (77, .invokestatic 132, 3), (80, .aload_n 0, 1), (81, .getfield 44, 3), (84, .iconst (-1), 1), (85, .invokestatic 132, 3), (88, .return_, 1)]
theorem aX7_weigh_0 : decAll cX7_weigh laX7_weigh_0 = true := by decide +kernel
theorem dX7_weigh_0 : decode cX7_weigh 0 = .ok (.iconst 0, 1) := decAll_at aX7_weigh_0 0 rfl
theorem dX7_weigh_1 : decode cX7_weigh 1 = .ok (.istore_n 2, 1) := decAll_at aX7_weigh_0 1 rfl
theorem dX7_weigh_2 : decode cX7_weigh 2 = .ok (.iload_n 2, 1) := decAll_at aX7_weigh_0 2 rfl
theorem dX7_weigh_3 : decode cX7_weigh 3 = .ok (.bipush 6, 2) := decAll_at aX7_weigh_0 3 rfl
theorem dX7_weigh_5 : decode cX7_weigh 5 = .ok (.if_icmp .ge 59, 3) := decAll_at aX7_weigh_0 4 rfl
theorem dX7_weigh_8 : decode cX7_weigh 8 = .ok (.iconst 0, 1) := decAll_at aX7_weigh_0 5 rfl
theorem dX7_weigh_9 : decode cX7_weigh 9 = .ok (.istore_n 3, 1) := decAll_at aX7_weigh_0 6 rfl
theorem dX7_weigh_10 : decode cX7_weigh 10 = .ok (.iload_n 3, 1) := decAll_at aX7_weigh_0 7 rfl
theorem dX7_weigh_11 : decode cX7_weigh 11 = .ok (.aload_n 0, 1) := decAll_at aX7_weigh_0 8 rfl
theorem dX7_weigh_12 : decode cX7_weigh 12 = .ok (.getfield 47, 3) := decAll_at aX7_weigh_0 9 rfl
theorem dX7_weigh_15 : decode cX7_weigh 15 = .ok (.getfield 119, 3) := decAll_at aX7_weigh_0 10 rfl
theorem dX7_weigh_18 : decode cX7_weigh 18 = .ok (.if_icmp .ge 40, 3) := decAll_at aX7_weigh_0 11 rfl
theorem dX7_weigh_21 : decode cX7_weigh 21 = .ok (.aload_n 0, 1) := decAll_at aX7_weigh_0 12 rfl
theorem dX7_weigh_22 : decode cX7_weigh 22 = .ok (.getfield 55, 3) := decAll_at aX7_weigh_0 13 rfl
theorem dX7_weigh_25 : decode cX7_weigh 25 = .ok (.iload_n 2, 1) := decAll_at aX7_weigh_0 14 rfl
theorem dX7_weigh_26 : decode cX7_weigh 26 = .ok (.invokevirtual 122, 3) := decAll_at aX7_weigh_0 15 rfl
theorem dX7_weigh_29 : decode cX7_weigh 29 = .ok (.ifCond .eq 29, 3) := decAll_at aX7_weigh_0 16 rfl
theorem dX7_weigh_32 : decode cX7_weigh 32 = .ok (.aload_n 0, 1) := decAll_at aX7_weigh_0 17 rfl
theorem dX7_weigh_33 : decode cX7_weigh 33 = .ok (.getfield 32, 3) := decAll_at aX7_weigh_0 18 rfl
theorem dX7_weigh_36 : decode cX7_weigh 36 = .ok (.iload_n 2, 1) := decAll_at aX7_weigh_0 19 rfl
theorem dX7_weigh_37 : decode cX7_weigh 37 = .ok (.iconst 4, 1) := decAll_at aX7_weigh_0 20 rfl
theorem dX7_weigh_38 : decode cX7_weigh 38 = .ok (.imul, 1) := decAll_at aX7_weigh_0 21 rfl
theorem dX7_weigh_39 : decode cX7_weigh 39 = .ok (.iload_n 3, 1) := decAll_at aX7_weigh_0 22 rfl
theorem dX7_weigh_40 : decode cX7_weigh 40 = .ok (.iadd, 1) := decAll_at aX7_weigh_0 23 rfl
theorem dX7_weigh_41 : decode cX7_weigh 41 = .ok (.aload_n 0, 1) := decAll_at aX7_weigh_0 24 rfl
theorem dX7_weigh_42 : decode cX7_weigh 42 = .ok (.getfield 55, 3) := decAll_at aX7_weigh_0 25 rfl
theorem dX7_weigh_45 : decode cX7_weigh 45 = .ok (.iload_n 2, 1) := decAll_at aX7_weigh_0 26 rfl
theorem dX7_weigh_46 : decode cX7_weigh 46 = .ok (.iload_n 3, 1) := decAll_at aX7_weigh_0 27 rfl
theorem dX7_weigh_47 : decode cX7_weigh 47 = .ok (.iload_n 1, 1) := decAll_at aX7_weigh_0 28 rfl
theorem dX7_weigh_48 : decode cX7_weigh 48 = .ok (.invokevirtual 128, 3) := decAll_at aX7_weigh_0 29 rfl
theorem dX7_weigh_51 : decode cX7_weigh 51 = .ok (.iastore, 1) := decAll_at aX7_weigh_0 30 rfl
theorem dX7_weigh_52 : decode cX7_weigh 52 = .ok (.iinc 3 1, 3) := decAll_at aX7_weigh_0 31 rfl
theorem dX7_weigh_55 : decode cX7_weigh 55 = .ok (.goto (-45), 3) := decAll_at aX7_weigh_0 32 rfl
theorem dX7_weigh_58 : decode cX7_weigh 58 = .ok (.iinc 2 1, 3) := decAll_at aX7_weigh_0 33 rfl
theorem dX7_weigh_61 : decode cX7_weigh 61 = .ok (.goto (-59), 3) := decAll_at aX7_weigh_0 34 rfl
theorem dX7_weigh_64 : decode cX7_weigh 64 = .ok (.aload_n 0, 1) := decAll_at aX7_weigh_0 35 rfl
theorem dX7_weigh_65 : decode cX7_weigh 65 = .ok (.getfield 35, 3) := decAll_at aX7_weigh_0 36 rfl
theorem dX7_weigh_68 : decode cX7_weigh 68 = .ok (.iconst (-1), 1) := decAll_at aX7_weigh_0 37 rfl
theorem dX7_weigh_69 : decode cX7_weigh 69 = .ok (.invokestatic 132, 3) := decAll_at aX7_weigh_0 38 rfl
theorem dX7_weigh_72 : decode cX7_weigh 72 = .ok (.aload_n 0, 1) := decAll_at aX7_weigh_0 39 rfl
theorem dX7_weigh_73 : decode cX7_weigh 73 = .ok (.getfield 38, 3) := decAll_at aX7_weigh_0 40 rfl
theorem dX7_weigh_76 : decode cX7_weigh 76 = .ok (.iconst (-1), 1) := decAll_at aX7_weigh_0 41 rfl
theorem dX7_weigh_77 : decode cX7_weigh 77 = .ok (.invokestatic 132, 3) := decAll_at aX7_weigh_0 42 rfl
theorem dX7_weigh_80 : decode cX7_weigh 80 = .ok (.aload_n 0, 1) := decAll_at aX7_weigh_0 43 rfl
theorem dX7_weigh_81 : decode cX7_weigh 81 = .ok (.getfield 44, 3) := decAll_at aX7_weigh_0 44 rfl
theorem dX7_weigh_84 : decode cX7_weigh 84 = .ok (.iconst (-1), 1) := decAll_at aX7_weigh_0 45 rfl
theorem dX7_weigh_85 : decode cX7_weigh 85 = .ok (.invokestatic 132, 3) := decAll_at aX7_weigh_0 46 rfl
theorem dX7_weigh_88 : decode cX7_weigh 88 = .ok (.return_, 1) := decAll_at aX7_weigh_0 47 rfl
def laX7_spread_0 : List (Nat × Instr × Nat) := [(0, .iconst 0, 1), (1, .istore 5, 2), (3, .iload 5, 2), (5, .aload_n 0, 1), (6, .getfield 47, 3), (9, .getfield 119, 3), (12, .if_icmp .ge 27, 3), (15, .aload_n 0, 1), (16, .getfield 29, 3), (19, .iload 5, 2), (21, .iload_n 2, 1), (22, .getstatic 135, 3), (25, .iload 5, 2), (27, .iaload, 1), (28, .idiv, 1), (29, .bipush 6, 2), (31, .irem, 1), (32, .iastore, 1), (33, .iinc 5 1, 3), (36, .goto (-33), 3), (39, .iconst 1, 1), (40, .istore 5, 2), (42, .iconst 0, 1), (43, .istore 6, 2), (45, .iload 6, 2), (47, .iconst 2, 1), (48, .if_icmp .gt 139, 3), (51, .iload 5, 2), (53, .ifCond .eq 134, 3), (56, .iconst 0, 1), (57, .istore 7, 2), (59, .iload 7, 2), (61, .bipush 6, 2), (63, .if_icmp .ge 97, 3), (66, .aload_n 0, 1), (67, .getfield 55, 3), (70, .iload 7, 2), (72, .invokevirtual 122, 3), (75, .ifCond .eq 13, 3), (78, .aload_n 0, 1), (79, .iload 7, 2), (81, .iload_n 1, 1), (82, .invokevirtual 138, 3), (85, .goto 4, 3), (88, .iconst 0, 1), (89, .istore 8, 2), (91, .iload 8, 2), (93, .ifCond .le 61, 3), (96, .aload_n 0, 1), (97, .getfield 47, 3), (100, .iload_n 1, 1), (101, .iload 8, 2), (103, .invokevirtual 142, 3), (106, .istore 9, 2), (108, .iload 9, 2), (110, .bipush 30, 2), (112, .iload 6, 2), (114, .imul, 1), (115, .iadd, 1), (116, .i2l, 1), (117, .ldc2_w 81, 3), (120, .lmul, 1), (121, .iload 6, 2), (123, .bipush 6, 2)]
theorem aX7_spread_0 : decAll cX7_spread laX7_spread_0 = true := by decide +kernel
theorem dX7_spread_0 : decode cX7_spread 0 = .ok (.iconst 0, 1) := decAll_at aX7_spread_0 0 rfl
theorem dX7_spread_1 : decode cX7_spread 1 = .ok (.istore 5, 2) := decAll_at aX7_spread_0 1 rfl
theorem dX7_spread_3 : decode cX7_spread 3 = .ok (.iload 5, 2) := decAll_at aX7_spread_0 2 rfl
theorem dX7_spread_5 : decode cX7_spread 5 = .ok (.aload_n 0, 1) := decAll_at aX7_spread_0 3 rfl
theorem dX7_spread_6 : decode cX7_spread 6 = .ok (.getfield 47, 3) := decAll_at aX7_spread_0 4 rfl
theorem dX7_spread_9 : decode cX7_spread 9 = .ok (.getfield 119, 3) := decAll_at aX7_spread_0 5 rfl
theorem dX7_spread_12 : decode cX7_spread 12 = .ok (.if_icmp .ge 27, 3) := decAll_at aX7_spread_0 6 rfl
theorem dX7_spread_15 : decode cX7_spread 15 = .ok (.aload_n 0, 1) := decAll_at aX7_spread_0 7 rfl
theorem dX7_spread_16 : decode cX7_spread 16 = .ok (.getfield 29, 3) := decAll_at aX7_spread_0 8 rfl
theorem dX7_spread_19 : decode cX7_spread 19 = .ok (.iload 5, 2) := decAll_at aX7_spread_0 9 rfl
theorem dX7_spread_21 : decode cX7_spread 21 = .ok (.iload_n 2, 1) := decAll_at aX7_spread_0 10 rfl
theorem dX7_spread_22 : decode cX7_spread 22 = .ok (.getstatic 135, 3) := decAll_at aX7_spread_0 11 rfl
theorem dX7_spread_25 : decode cX7_spread 25 = .ok (.iload 5, 2) := decAll_at aX7_spread_0 12 rfl
theorem dX7_spread_27 : decode cX7_spread 27 = .ok (.iaload, 1) := decAll_at aX7_spread_0 13 rfl
theorem dX7_spread_28 : decode cX7_spread 28 = .ok (.idiv, 1) := decAll_at aX7_spread_0 14 rfl
theorem dX7_spread_29 : decode cX7_spread 29 = .ok (.bipush 6, 2) := decAll_at aX7_spread_0 15 rfl
theorem dX7_spread_31 : decode cX7_spread 31 = .ok (.irem, 1) := decAll_at aX7_spread_0 16 rfl
theorem dX7_spread_32 : decode cX7_spread 32 = .ok (.iastore, 1) := decAll_at aX7_spread_0 17 rfl
theorem dX7_spread_33 : decode cX7_spread 33 = .ok (.iinc 5 1, 3) := decAll_at aX7_spread_0 18 rfl
theorem dX7_spread_36 : decode cX7_spread 36 = .ok (.goto (-33), 3) := decAll_at aX7_spread_0 19 rfl
theorem dX7_spread_39 : decode cX7_spread 39 = .ok (.iconst 1, 1) := decAll_at aX7_spread_0 20 rfl
theorem dX7_spread_40 : decode cX7_spread 40 = .ok (.istore 5, 2) := decAll_at aX7_spread_0 21 rfl
theorem dX7_spread_42 : decode cX7_spread 42 = .ok (.iconst 0, 1) := decAll_at aX7_spread_0 22 rfl
theorem dX7_spread_43 : decode cX7_spread 43 = .ok (.istore 6, 2) := decAll_at aX7_spread_0 23 rfl
theorem dX7_spread_45 : decode cX7_spread 45 = .ok (.iload 6, 2) := decAll_at aX7_spread_0 24 rfl
theorem dX7_spread_47 : decode cX7_spread 47 = .ok (.iconst 2, 1) := decAll_at aX7_spread_0 25 rfl
theorem dX7_spread_48 : decode cX7_spread 48 = .ok (.if_icmp .gt 139, 3) := decAll_at aX7_spread_0 26 rfl
theorem dX7_spread_51 : decode cX7_spread 51 = .ok (.iload 5, 2) := decAll_at aX7_spread_0 27 rfl
theorem dX7_spread_53 : decode cX7_spread 53 = .ok (.ifCond .eq 134, 3) := decAll_at aX7_spread_0 28 rfl
theorem dX7_spread_56 : decode cX7_spread 56 = .ok (.iconst 0, 1) := decAll_at aX7_spread_0 29 rfl
theorem dX7_spread_57 : decode cX7_spread 57 = .ok (.istore 7, 2) := decAll_at aX7_spread_0 30 rfl
theorem dX7_spread_59 : decode cX7_spread 59 = .ok (.iload 7, 2) := decAll_at aX7_spread_0 31 rfl
theorem dX7_spread_61 : decode cX7_spread 61 = .ok (.bipush 6, 2) := decAll_at aX7_spread_0 32 rfl
theorem dX7_spread_63 : decode cX7_spread 63 = .ok (.if_icmp .ge 97, 3) := decAll_at aX7_spread_0 33 rfl
theorem dX7_spread_66 : decode cX7_spread 66 = .ok (.aload_n 0, 1) := decAll_at aX7_spread_0 34 rfl
theorem dX7_spread_67 : decode cX7_spread 67 = .ok (.getfield 55, 3) := decAll_at aX7_spread_0 35 rfl
theorem dX7_spread_70 : decode cX7_spread 70 = .ok (.iload 7, 2) := decAll_at aX7_spread_0 36 rfl
theorem dX7_spread_72 : decode cX7_spread 72 = .ok (.invokevirtual 122, 3) := decAll_at aX7_spread_0 37 rfl
theorem dX7_spread_75 : decode cX7_spread 75 = .ok (.ifCond .eq 13, 3) := decAll_at aX7_spread_0 38 rfl
theorem dX7_spread_78 : decode cX7_spread 78 = .ok (.aload_n 0, 1) := decAll_at aX7_spread_0 39 rfl
theorem dX7_spread_79 : decode cX7_spread 79 = .ok (.iload 7, 2) := decAll_at aX7_spread_0 40 rfl
theorem dX7_spread_81 : decode cX7_spread 81 = .ok (.iload_n 1, 1) := decAll_at aX7_spread_0 41 rfl
theorem dX7_spread_82 : decode cX7_spread 82 = .ok (.invokevirtual 138, 3) := decAll_at aX7_spread_0 42 rfl
theorem dX7_spread_85 : decode cX7_spread 85 = .ok (.goto 4, 3) := decAll_at aX7_spread_0 43 rfl
theorem dX7_spread_88 : decode cX7_spread 88 = .ok (.iconst 0, 1) := decAll_at aX7_spread_0 44 rfl
theorem dX7_spread_89 : decode cX7_spread 89 = .ok (.istore 8, 2) := decAll_at aX7_spread_0 45 rfl
theorem dX7_spread_91 : decode cX7_spread 91 = .ok (.iload 8, 2) := decAll_at aX7_spread_0 46 rfl
theorem dX7_spread_93 : decode cX7_spread 93 = .ok (.ifCond .le 61, 3) := decAll_at aX7_spread_0 47 rfl
theorem dX7_spread_96 : decode cX7_spread 96 = .ok (.aload_n 0, 1) := decAll_at aX7_spread_0 48 rfl
theorem dX7_spread_97 : decode cX7_spread 97 = .ok (.getfield 47, 3) := decAll_at aX7_spread_0 49 rfl
theorem dX7_spread_100 : decode cX7_spread 100 = .ok (.iload_n 1, 1) := decAll_at aX7_spread_0 50 rfl
theorem dX7_spread_101 : decode cX7_spread 101 = .ok (.iload 8, 2) := decAll_at aX7_spread_0 51 rfl
theorem dX7_spread_103 : decode cX7_spread 103 = .ok (.invokevirtual 142, 3) := decAll_at aX7_spread_0 52 rfl
theorem dX7_spread_106 : decode cX7_spread 106 = .ok (.istore 9, 2) := decAll_at aX7_spread_0 53 rfl
theorem dX7_spread_108 : decode cX7_spread 108 = .ok (.iload 9, 2) := decAll_at aX7_spread_0 54 rfl
theorem dX7_spread_110 : decode cX7_spread 110 = .ok (.bipush 30, 2) := decAll_at aX7_spread_0 55 rfl
theorem dX7_spread_112 : decode cX7_spread 112 = .ok (.iload 6, 2) := decAll_at aX7_spread_0 56 rfl
theorem dX7_spread_114 : decode cX7_spread 114 = .ok (.imul, 1) := decAll_at aX7_spread_0 57 rfl
theorem dX7_spread_115 : decode cX7_spread 115 = .ok (.iadd, 1) := decAll_at aX7_spread_0 58 rfl
theorem dX7_spread_116 : decode cX7_spread 116 = .ok (.i2l, 1) := decAll_at aX7_spread_0 59 rfl
theorem dX7_spread_117 : decode cX7_spread 117 = .ok (.ldc2_w 81, 3) := decAll_at aX7_spread_0 60 rfl
theorem dX7_spread_120 : decode cX7_spread 120 = .ok (.lmul, 1) := decAll_at aX7_spread_0 61 rfl
theorem dX7_spread_121 : decode cX7_spread 121 = .ok (.iload 6, 2) := decAll_at aX7_spread_0 62 rfl
theorem dX7_spread_123 : decode cX7_spread 123 = .ok (.bipush 6, 2) := decAll_at aX7_spread_0 63 rfl
def laX7_spread_1 : List (Nat × Instr × Nat) := [(125, .imul, 1), (126, .iload 7, 2), (128, .iadd, 1), (129, .i2l, 1), (130, .lload_n 3, 1), (131, .lmul, 1), (132, .ladd, 1), (133, .lstore 10, 2), (135, .aload_n 0, 1), (136, .iload_n 1, 1), (137, .iload_n 2, 1), (138, .aload_n 0, 1), (139, .iload 7, 2), (141, .iload_n 1, 1), (142, .iload 9, 2), (144, .invokevirtual 145, 3), (147, .iload 7, 2), (149, .lload 10, 2), (151, .invokevirtual 148, 3), (154, .iinc 7 1, 3), (157, .goto (-98), 3), (160, .iload 6, 2), (162, .iconst 2, 1), (163, .if_icmp .ge 15, 3), (166, .aload_n 0, 1), (167, .iload_n 1, 1), (168, .invokevirtual 152, 3), (171, .ifCond .eq 7, 3), (174, .iconst 1, 1), (175, .goto 4, 3), (178, .iconst 0, 1), (179, .istore 5, 2), (181, .iinc 6 1, 3), (184, .goto (-139), 3), (187, .return_, 1)]
theorem aX7_spread_1 : decAll cX7_spread laX7_spread_1 = true := by decide +kernel
theorem dX7_spread_125 : decode cX7_spread 125 = .ok (.imul, 1) := decAll_at aX7_spread_1 0 rfl
theorem dX7_spread_126 : decode cX7_spread 126 = .ok (.iload 7, 2) := decAll_at aX7_spread_1 1 rfl
theorem dX7_spread_128 : decode cX7_spread 128 = .ok (.iadd, 1) := decAll_at aX7_spread_1 2 rfl
theorem dX7_spread_129 : decode cX7_spread 129 = .ok (.i2l, 1) := decAll_at aX7_spread_1 3 rfl
theorem dX7_spread_130 : decode cX7_spread 130 = .ok (.lload_n 3, 1) := decAll_at aX7_spread_1 4 rfl
theorem dX7_spread_131 : decode cX7_spread 131 = .ok (.lmul, 1) := decAll_at aX7_spread_1 5 rfl
theorem dX7_spread_132 : decode cX7_spread 132 = .ok (.ladd, 1) := decAll_at aX7_spread_1 6 rfl
theorem dX7_spread_133 : decode cX7_spread 133 = .ok (.lstore 10, 2) := decAll_at aX7_spread_1 7 rfl
theorem dX7_spread_135 : decode cX7_spread 135 = .ok (.aload_n 0, 1) := decAll_at aX7_spread_1 8 rfl
theorem dX7_spread_136 : decode cX7_spread 136 = .ok (.iload_n 1, 1) := decAll_at aX7_spread_1 9 rfl
theorem dX7_spread_137 : decode cX7_spread 137 = .ok (.iload_n 2, 1) := decAll_at aX7_spread_1 10 rfl
theorem dX7_spread_138 : decode cX7_spread 138 = .ok (.aload_n 0, 1) := decAll_at aX7_spread_1 11 rfl
theorem dX7_spread_139 : decode cX7_spread 139 = .ok (.iload 7, 2) := decAll_at aX7_spread_1 12 rfl
theorem dX7_spread_141 : decode cX7_spread 141 = .ok (.iload_n 1, 1) := decAll_at aX7_spread_1 13 rfl
theorem dX7_spread_142 : decode cX7_spread 142 = .ok (.iload 9, 2) := decAll_at aX7_spread_1 14 rfl
theorem dX7_spread_144 : decode cX7_spread 144 = .ok (.invokevirtual 145, 3) := decAll_at aX7_spread_1 15 rfl
theorem dX7_spread_147 : decode cX7_spread 147 = .ok (.iload 7, 2) := decAll_at aX7_spread_1 16 rfl
theorem dX7_spread_149 : decode cX7_spread 149 = .ok (.lload 10, 2) := decAll_at aX7_spread_1 17 rfl
theorem dX7_spread_151 : decode cX7_spread 151 = .ok (.invokevirtual 148, 3) := decAll_at aX7_spread_1 18 rfl
theorem dX7_spread_154 : decode cX7_spread 154 = .ok (.iinc 7 1, 3) := decAll_at aX7_spread_1 19 rfl
theorem dX7_spread_157 : decode cX7_spread 157 = .ok (.goto (-98), 3) := decAll_at aX7_spread_1 20 rfl
theorem dX7_spread_160 : decode cX7_spread 160 = .ok (.iload 6, 2) := decAll_at aX7_spread_1 21 rfl
theorem dX7_spread_162 : decode cX7_spread 162 = .ok (.iconst 2, 1) := decAll_at aX7_spread_1 22 rfl
theorem dX7_spread_163 : decode cX7_spread 163 = .ok (.if_icmp .ge 15, 3) := decAll_at aX7_spread_1 23 rfl
theorem dX7_spread_166 : decode cX7_spread 166 = .ok (.aload_n 0, 1) := decAll_at aX7_spread_1 24 rfl
theorem dX7_spread_167 : decode cX7_spread 167 = .ok (.iload_n 1, 1) := decAll_at aX7_spread_1 25 rfl
theorem dX7_spread_168 : decode cX7_spread 168 = .ok (.invokevirtual 152, 3) := decAll_at aX7_spread_1 26 rfl
theorem dX7_spread_171 : decode cX7_spread 171 = .ok (.ifCond .eq 7, 3) := decAll_at aX7_spread_1 27 rfl
theorem dX7_spread_174 : decode cX7_spread 174 = .ok (.iconst 1, 1) := decAll_at aX7_spread_1 28 rfl
theorem dX7_spread_175 : decode cX7_spread 175 = .ok (.goto 4, 3) := decAll_at aX7_spread_1 29 rfl
theorem dX7_spread_178 : decode cX7_spread 178 = .ok (.iconst 0, 1) := decAll_at aX7_spread_1 30 rfl
theorem dX7_spread_179 : decode cX7_spread 179 = .ok (.istore 5, 2) := decAll_at aX7_spread_1 31 rfl
theorem dX7_spread_181 : decode cX7_spread 181 = .ok (.iinc 6 1, 3) := decAll_at aX7_spread_1 32 rfl
theorem dX7_spread_184 : decode cX7_spread 184 = .ok (.goto (-139), 3) := decAll_at aX7_spread_1 33 rfl
theorem dX7_spread_187 : decode cX7_spread 187 = .ok (.return_, 1) := decAll_at aX7_spread_1 34 rfl
