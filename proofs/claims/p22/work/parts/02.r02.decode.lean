def laX10_emit_0 : List (Nat × Instr × Nat) := [(0, .aload_n 0, 1), (1, .invokevirtual 204, 3), (4, .ifCond .ne 4, 3), (7, .return_, 1), (8, .aload_n 0, 1), (9, .getfield 73, 3), (12, .aload_n 0, 1), (13, .getfield 208, 3), (16, .iload_n 1, 1), (17, .iastore, 1), (18, .aload_n 0, 1), (19, .getfield 76, 3), (22, .aload_n 0, 1), (23, .getfield 208, 3), (26, .iload_n 2, 1), (27, .iastore, 1), (28, .aload_n 0, 1), (29, .dup, 1), (30, .getfield 208, 3), (33, .iconst 1, 1), (34, .iadd, 1), (35, .putfield 208, 3), (38, .return_, 1)]
theorem aX10_emit_0 : decAll cX10_emit laX10_emit_0 = true := by decide +kernel
theorem dX10_emit_0 : decode cX10_emit 0 = .ok (.aload_n 0, 1) := decAll_at aX10_emit_0 0 rfl
theorem dX10_emit_1 : decode cX10_emit 1 = .ok (.invokevirtual 204, 3) := decAll_at aX10_emit_0 1 rfl
theorem dX10_emit_4 : decode cX10_emit 4 = .ok (.ifCond .ne 4, 3) := decAll_at aX10_emit_0 2 rfl
theorem dX10_emit_7 : decode cX10_emit 7 = .ok (.return_, 1) := decAll_at aX10_emit_0 3 rfl
theorem dX10_emit_8 : decode cX10_emit 8 = .ok (.aload_n 0, 1) := decAll_at aX10_emit_0 4 rfl
theorem dX10_emit_9 : decode cX10_emit 9 = .ok (.getfield 73, 3) := decAll_at aX10_emit_0 5 rfl
theorem dX10_emit_12 : decode cX10_emit 12 = .ok (.aload_n 0, 1) := decAll_at aX10_emit_0 6 rfl
theorem dX10_emit_13 : decode cX10_emit 13 = .ok (.getfield 208, 3) := decAll_at aX10_emit_0 7 rfl
theorem dX10_emit_16 : decode cX10_emit 16 = .ok (.iload_n 1, 1) := decAll_at aX10_emit_0 8 rfl
theorem dX10_emit_17 : decode cX10_emit 17 = .ok (.iastore, 1) := decAll_at aX10_emit_0 9 rfl
theorem dX10_emit_18 : decode cX10_emit 18 = .ok (.aload_n 0, 1) := decAll_at aX10_emit_0 10 rfl
theorem dX10_emit_19 : decode cX10_emit 19 = .ok (.getfield 76, 3) := decAll_at aX10_emit_0 11 rfl
theorem dX10_emit_22 : decode cX10_emit 22 = .ok (.aload_n 0, 1) := decAll_at aX10_emit_0 12 rfl
theorem dX10_emit_23 : decode cX10_emit 23 = .ok (.getfield 208, 3) := decAll_at aX10_emit_0 13 rfl
theorem dX10_emit_26 : decode cX10_emit 26 = .ok (.iload_n 2, 1) := decAll_at aX10_emit_0 14 rfl
theorem dX10_emit_27 : decode cX10_emit 27 = .ok (.iastore, 1) := decAll_at aX10_emit_0 15 rfl
theorem dX10_emit_28 : decode cX10_emit 28 = .ok (.aload_n 0, 1) := decAll_at aX10_emit_0 16 rfl
theorem dX10_emit_29 : decode cX10_emit 29 = .ok (.dup, 1) := decAll_at aX10_emit_0 17 rfl
theorem dX10_emit_30 : decode cX10_emit 30 = .ok (.getfield 208, 3) := decAll_at aX10_emit_0 18 rfl
theorem dX10_emit_33 : decode cX10_emit 33 = .ok (.iconst 1, 1) := decAll_at aX10_emit_0 19 rfl
theorem dX10_emit_34 : decode cX10_emit 34 = .ok (.iadd, 1) := decAll_at aX10_emit_0 20 rfl
theorem dX10_emit_35 : decode cX10_emit 35 = .ok (.putfield 208, 3) := decAll_at aX10_emit_0 21 rfl
theorem dX10_emit_38 : decode cX10_emit 38 = .ok (.return_, 1) := decAll_at aX10_emit_0 22 rfl
def laX10_top_0 : List (Nat × Instr × Nat) := [(0, .aload_n 0, 1), (1, .getfield 211, 3), (4, .ifCond .le 17, 3), (7, .aload_n 0, 1), (8, .getfield 79, 3), (11, .aload_n 0, 1), (12, .getfield 211, 3), (15, .iconst 1, 1), (16, .isub, 1), (17, .iaload, 1), (18, .goto 4, 3), (21, .iconst 0, 1), (22, .ireturn, 1)]
theorem aX10_top_0 : decAll cX10_top laX10_top_0 = true := by decide +kernel
theorem dX10_top_0 : decode cX10_top 0 = .ok (.aload_n 0, 1) := decAll_at aX10_top_0 0 rfl
theorem dX10_top_1 : decode cX10_top 1 = .ok (.getfield 211, 3) := decAll_at aX10_top_0 1 rfl
theorem dX10_top_4 : decode cX10_top 4 = .ok (.ifCond .le 17, 3) := decAll_at aX10_top_0 2 rfl
theorem dX10_top_7 : decode cX10_top 7 = .ok (.aload_n 0, 1) := decAll_at aX10_top_0 3 rfl
theorem dX10_top_8 : decode cX10_top 8 = .ok (.getfield 79, 3) := decAll_at aX10_top_0 4 rfl
theorem dX10_top_11 : decode cX10_top 11 = .ok (.aload_n 0, 1) := decAll_at aX10_top_0 5 rfl
theorem dX10_top_12 : decode cX10_top 12 = .ok (.getfield 211, 3) := decAll_at aX10_top_0 6 rfl
theorem dX10_top_15 : decode cX10_top 15 = .ok (.iconst 1, 1) := decAll_at aX10_top_0 7 rfl
theorem dX10_top_16 : decode cX10_top 16 = .ok (.isub, 1) := decAll_at aX10_top_0 8 rfl
theorem dX10_top_17 : decode cX10_top 17 = .ok (.iaload, 1) := decAll_at aX10_top_0 9 rfl
theorem dX10_top_18 : decode cX10_top 18 = .ok (.goto 4, 3) := decAll_at aX10_top_0 10 rfl
theorem dX10_top_21 : decode cX10_top 21 = .ok (.iconst 0, 1) := decAll_at aX10_top_0 11 rfl
theorem dX10_top_22 : decode cX10_top 22 = .ok (.ireturn, 1) := decAll_at aX10_top_0 12 rfl
def laX10_puts_0 : List (Nat × Instr × Nat) := [(0, .aload_n 0, 1), (1, .getfield 79, 3), (4, .aload_n 0, 1), (5, .getfield 211, 3), (8, .iload_n 1, 1), (9, .iastore, 1), (10, .aload_n 0, 1), (11, .dup, 1), (12, .getfield 211, 3), (15, .iconst 1, 1), (16, .iadd, 1), (17, .putfield 211, 3), (20, .aload_n 0, 1), (21, .dup, 1), (22, .getfield 195, 3), (25, .iconst 1, 1), (26, .iadd, 1), (27, .putfield 195, 3), (30, .return_, 1)]
theorem aX10_puts_0 : decAll cX10_puts laX10_puts_0 = true := by decide +kernel
theorem dX10_puts_0 : decode cX10_puts 0 = .ok (.aload_n 0, 1) := decAll_at aX10_puts_0 0 rfl
theorem dX10_puts_1 : decode cX10_puts 1 = .ok (.getfield 79, 3) := decAll_at aX10_puts_0 1 rfl
theorem dX10_puts_4 : decode cX10_puts 4 = .ok (.aload_n 0, 1) := decAll_at aX10_puts_0 2 rfl
theorem dX10_puts_5 : decode cX10_puts 5 = .ok (.getfield 211, 3) := decAll_at aX10_puts_0 3 rfl
theorem dX10_puts_8 : decode cX10_puts 8 = .ok (.iload_n 1, 1) := decAll_at aX10_puts_0 4 rfl
theorem dX10_puts_9 : decode cX10_puts 9 = .ok (.iastore, 1) := decAll_at aX10_puts_0 5 rfl
theorem dX10_puts_10 : decode cX10_puts 10 = .ok (.aload_n 0, 1) := decAll_at aX10_puts_0 6 rfl
theorem dX10_puts_11 : decode cX10_puts 11 = .ok (.dup, 1) := decAll_at aX10_puts_0 7 rfl
theorem dX10_puts_12 : decode cX10_puts 12 = .ok (.getfield 211, 3) := decAll_at aX10_puts_0 8 rfl
theorem dX10_puts_15 : decode cX10_puts 15 = .ok (.iconst 1, 1) := decAll_at aX10_puts_0 9 rfl
theorem dX10_puts_16 : decode cX10_puts 16 = .ok (.iadd, 1) := decAll_at aX10_puts_0 10 rfl
theorem dX10_puts_17 : decode cX10_puts 17 = .ok (.putfield 211, 3) := decAll_at aX10_puts_0 11 rfl
theorem dX10_puts_20 : decode cX10_puts 20 = .ok (.aload_n 0, 1) := decAll_at aX10_puts_0 12 rfl
theorem dX10_puts_21 : decode cX10_puts 21 = .ok (.dup, 1) := decAll_at aX10_puts_0 13 rfl
theorem dX10_puts_22 : decode cX10_puts 22 = .ok (.getfield 195, 3) := decAll_at aX10_puts_0 14 rfl
theorem dX10_puts_25 : decode cX10_puts 25 = .ok (.iconst 1, 1) := decAll_at aX10_puts_0 15 rfl
theorem dX10_puts_26 : decode cX10_puts 26 = .ok (.iadd, 1) := decAll_at aX10_puts_0 16 rfl
theorem dX10_puts_27 : decode cX10_puts 27 = .ok (.putfield 195, 3) := decAll_at aX10_puts_0 17 rfl
theorem dX10_puts_30 : decode cX10_puts 30 = .ok (.return_, 1) := decAll_at aX10_puts_0 18 rfl
def laX10_opens_0 : List (Nat × Instr × Nat) := [(0, .aload_n 0, 1), (1, .getfield 214, 3), (4, .bipush 6, 2), (6, .if_icmp .ne 12, 3), (9, .aload_n 0, 1), (10, .iconst 5, 1), (11, .aload_n 0, 1), (12, .getfield 195, 3), (15, .invokevirtual 217, 3), (18, .aload_n 0, 1), (19, .dup, 1), (20, .getfield 214, 3), (23, .iconst 1, 1), (24, .iadd, 1), (25, .putfield 214, 3), (28, .aload_n 0, 1), (29, .aload_n 0, 1), (30, .invokevirtual 221, 3), (33, .invokevirtual 225, 3), (36, .return_, 1)]
theorem aX10_opens_0 : decAll cX10_opens laX10_opens_0 = true := by decide +kernel
theorem dX10_opens_0 : decode cX10_opens 0 = .ok (.aload_n 0, 1) := decAll_at aX10_opens_0 0 rfl
theorem dX10_opens_1 : decode cX10_opens 1 = .ok (.getfield 214, 3) := decAll_at aX10_opens_0 1 rfl
theorem dX10_opens_4 : decode cX10_opens 4 = .ok (.bipush 6, 2) := decAll_at aX10_opens_0 2 rfl
theorem dX10_opens_6 : decode cX10_opens 6 = .ok (.if_icmp .ne 12, 3) := decAll_at aX10_opens_0 3 rfl
theorem dX10_opens_9 : decode cX10_opens 9 = .ok (.aload_n 0, 1) := decAll_at aX10_opens_0 4 rfl
theorem dX10_opens_10 : decode cX10_opens 10 = .ok (.iconst 5, 1) := decAll_at aX10_opens_0 5 rfl
theorem dX10_opens_11 : decode cX10_opens 11 = .ok (.aload_n 0, 1) := decAll_at aX10_opens_0 6 rfl
theorem dX10_opens_12 : decode cX10_opens 12 = .ok (.getfield 195, 3) := decAll_at aX10_opens_0 7 rfl
theorem dX10_opens_15 : decode cX10_opens 15 = .ok (.invokevirtual 217, 3) := decAll_at aX10_opens_0 8 rfl
theorem dX10_opens_18 : decode cX10_opens 18 = .ok (.aload_n 0, 1) := decAll_at aX10_opens_0 9 rfl
theorem dX10_opens_19 : decode cX10_opens 19 = .ok (.dup, 1) := decAll_at aX10_opens_0 10 rfl
theorem dX10_opens_20 : decode cX10_opens 20 = .ok (.getfield 214, 3) := decAll_at aX10_opens_0 11 rfl
theorem dX10_opens_23 : decode cX10_opens 23 = .ok (.iconst 1, 1) := decAll_at aX10_opens_0 12 rfl
theorem dX10_opens_24 : decode cX10_opens 24 = .ok (.iadd, 1) := decAll_at aX10_opens_0 13 rfl
theorem dX10_opens_25 : decode cX10_opens 25 = .ok (.putfield 214, 3) := decAll_at aX10_opens_0 14 rfl
theorem dX10_opens_28 : decode cX10_opens 28 = .ok (.aload_n 0, 1) := decAll_at aX10_opens_0 15 rfl
theorem dX10_opens_29 : decode cX10_opens 29 = .ok (.aload_n 0, 1) := decAll_at aX10_opens_0 16 rfl
theorem dX10_opens_30 : decode cX10_opens 30 = .ok (.invokevirtual 221, 3) := decAll_at aX10_opens_0 17 rfl
theorem dX10_opens_33 : decode cX10_opens 33 = .ok (.invokevirtual 225, 3) := decAll_at aX10_opens_0 18 rfl
theorem dX10_opens_36 : decode cX10_opens 36 = .ok (.return_, 1) := decAll_at aX10_opens_0 19 rfl
def laX10_seesDigit_0 : List (Nat × Instr × Nat) := [(0, .aload_n 0, 1), (1, .invokevirtual 221, 3), (4, .i2l, 1), (5, .ldc2_w 228, 3), (8, .ldc2_w 230, 3), (11, .invokestatic 153, 3), (14, .ireturn, 1)]
theorem aX10_seesDigit_0 : decAll cX10_seesDigit laX10_seesDigit_0 = true := by decide +kernel
theorem dX10_seesDigit_0 : decode cX10_seesDigit 0 = .ok (.aload_n 0, 1) := decAll_at aX10_seesDigit_0 0 rfl
theorem dX10_seesDigit_1 : decode cX10_seesDigit 1 = .ok (.invokevirtual 221, 3) := decAll_at aX10_seesDigit_0 1 rfl
theorem dX10_seesDigit_4 : decode cX10_seesDigit 4 = .ok (.i2l, 1) := decAll_at aX10_seesDigit_0 2 rfl
theorem dX10_seesDigit_5 : decode cX10_seesDigit 5 = .ok (.ldc2_w 228, 3) := decAll_at aX10_seesDigit_0 3 rfl
theorem dX10_seesDigit_8 : decode cX10_seesDigit 8 = .ok (.ldc2_w 230, 3) := decAll_at aX10_seesDigit_0 4 rfl
theorem dX10_seesDigit_11 : decode cX10_seesDigit 11 = .ok (.invokestatic 153, 3) := decAll_at aX10_seesDigit_0 5 rfl
theorem dX10_seesDigit_14 : decode cX10_seesDigit 14 = .ok (.ireturn, 1) := decAll_at aX10_seesDigit_0 6 rfl
def laX10_reads_0 : List (Nat × Instr × Nat) := [(0, .aload_n 0, 1), (1, .getfield 195, 3), (4, .istore_n 1, 1), (5, .iconst 0, 1), (6, .istore_n 2, 1), (7, .aload_n 0, 1), (8, .invokevirtual 204, 3), (11, .ifCond .eq 55, 3), (14, .aload_n 0, 1), (15, .invokevirtual 232, 3), (18, .ifCond .eq 48, 3), (21, .aload_n 0, 1), (22, .getfield 195, 3), (25, .iload_n 1, 1), (26, .iconst 5, 1), (27, .iadd, 1), (28, .if_icmp .ne 12, 3), (31, .aload_n 0, 1), (32, .iconst 2, 1), (33, .aload_n 0, 1), (34, .getfield 195, 3), (37, .invokevirtual 217, 3), (40, .bipush 10, 2), (42, .iload_n 2, 1), (43, .imul, 1), (44, .aload_n 0, 1), (45, .invokevirtual 221, 3), (48, .iadd, 1), (49, .bipush 48, 2), (51, .isub, 1), (52, .istore_n 2, 1), (53, .aload_n 0, 1), (54, .dup, 1), (55, .getfield 195, 3), (58, .iconst 1, 1), (59, .iadd, 1), (60, .putfield 195, 3), (63, .goto (-56), 3), (66, .iload_n 2, 1), (67, .ireturn, 1)]
theorem aX10_reads_0 : decAll cX10_reads laX10_reads_0 = true := by decide +kernel
theorem dX10_reads_0 : decode cX10_reads 0 = .ok (.aload_n 0, 1) := decAll_at aX10_reads_0 0 rfl
theorem dX10_reads_1 : decode cX10_reads 1 = .ok (.getfield 195, 3) := decAll_at aX10_reads_0 1 rfl
theorem dX10_reads_4 : decode cX10_reads 4 = .ok (.istore_n 1, 1) := decAll_at aX10_reads_0 2 rfl
theorem dX10_reads_5 : decode cX10_reads 5 = .ok (.iconst 0, 1) := decAll_at aX10_reads_0 3 rfl
theorem dX10_reads_6 : decode cX10_reads 6 = .ok (.istore_n 2, 1) := decAll_at aX10_reads_0 4 rfl
theorem dX10_reads_7 : decode cX10_reads 7 = .ok (.aload_n 0, 1) := decAll_at aX10_reads_0 5 rfl
theorem dX10_reads_8 : decode cX10_reads 8 = .ok (.invokevirtual 204, 3) := decAll_at aX10_reads_0 6 rfl
theorem dX10_reads_11 : decode cX10_reads 11 = .ok (.ifCond .eq 55, 3) := decAll_at aX10_reads_0 7 rfl
theorem dX10_reads_14 : decode cX10_reads 14 = .ok (.aload_n 0, 1) := decAll_at aX10_reads_0 8 rfl
theorem dX10_reads_15 : decode cX10_reads 15 = .ok (.invokevirtual 232, 3) := decAll_at aX10_reads_0 9 rfl
theorem dX10_reads_18 : decode cX10_reads 18 = .ok (.ifCond .eq 48, 3) := decAll_at aX10_reads_0 10 rfl
theorem dX10_reads_21 : decode cX10_reads 21 = .ok (.aload_n 0, 1) := decAll_at aX10_reads_0 11 rfl
theorem dX10_reads_22 : decode cX10_reads 22 = .ok (.getfield 195, 3) := decAll_at aX10_reads_0 12 rfl
theorem dX10_reads_25 : decode cX10_reads 25 = .ok (.iload_n 1, 1) := decAll_at aX10_reads_0 13 rfl
theorem dX10_reads_26 : decode cX10_reads 26 = .ok (.iconst 5, 1) := decAll_at aX10_reads_0 14 rfl
theorem dX10_reads_27 : decode cX10_reads 27 = .ok (.iadd, 1) := decAll_at aX10_reads_0 15 rfl
theorem dX10_reads_28 : decode cX10_reads 28 = .ok (.if_icmp .ne 12, 3) := decAll_at aX10_reads_0 16 rfl
theorem dX10_reads_31 : decode cX10_reads 31 = .ok (.aload_n 0, 1) := decAll_at aX10_reads_0 17 rfl
theorem dX10_reads_32 : decode cX10_reads 32 = .ok (.iconst 2, 1) := decAll_at aX10_reads_0 18 rfl
theorem dX10_reads_33 : decode cX10_reads 33 = .ok (.aload_n 0, 1) := decAll_at aX10_reads_0 19 rfl
theorem dX10_reads_34 : decode cX10_reads 34 = .ok (.getfield 195, 3) := decAll_at aX10_reads_0 20 rfl
theorem dX10_reads_37 : decode cX10_reads 37 = .ok (.invokevirtual 217, 3) := decAll_at aX10_reads_0 21 rfl
theorem dX10_reads_40 : decode cX10_reads 40 = .ok (.bipush 10, 2) := decAll_at aX10_reads_0 22 rfl
theorem dX10_reads_42 : decode cX10_reads 42 = .ok (.iload_n 2, 1) := decAll_at aX10_reads_0 23 rfl
theorem dX10_reads_43 : decode cX10_reads 43 = .ok (.imul, 1) := decAll_at aX10_reads_0 24 rfl
theorem dX10_reads_44 : decode cX10_reads 44 = .ok (.aload_n 0, 1) := decAll_at aX10_reads_0 25 rfl
theorem dX10_reads_45 : decode cX10_reads 45 = .ok (.invokevirtual 221, 3) := decAll_at aX10_reads_0 26 rfl
theorem dX10_reads_48 : decode cX10_reads 48 = .ok (.iadd, 1) := decAll_at aX10_reads_0 27 rfl
theorem dX10_reads_49 : decode cX10_reads 49 = .ok (.bipush 48, 2) := decAll_at aX10_reads_0 28 rfl
theorem dX10_reads_51 : decode cX10_reads 51 = .ok (.isub, 1) := decAll_at aX10_reads_0 29 rfl
theorem dX10_reads_52 : decode cX10_reads 52 = .ok (.istore_n 2, 1) := decAll_at aX10_reads_0 30 rfl
theorem dX10_reads_53 : decode cX10_reads 53 = .ok (.aload_n 0, 1) := decAll_at aX10_reads_0 31 rfl
theorem dX10_reads_54 : decode cX10_reads 54 = .ok (.dup, 1) := decAll_at aX10_reads_0 32 rfl
theorem dX10_reads_55 : decode cX10_reads 55 = .ok (.getfield 195, 3) := decAll_at aX10_reads_0 33 rfl
theorem dX10_reads_58 : decode cX10_reads 58 = .ok (.iconst 1, 1) := decAll_at aX10_reads_0 34 rfl
theorem dX10_reads_59 : decode cX10_reads 59 = .ok (.iadd, 1) := decAll_at aX10_reads_0 35 rfl
theorem dX10_reads_60 : decode cX10_reads 60 = .ok (.putfield 195, 3) := decAll_at aX10_reads_0 36 rfl
theorem dX10_reads_63 : decode cX10_reads 63 = .ok (.goto (-56), 3) := decAll_at aX10_reads_0 37 rfl
theorem dX10_reads_66 : decode cX10_reads 66 = .ok (.iload_n 2, 1) := decAll_at aX10_reads_0 38 rfl
theorem dX10_reads_67 : decode cX10_reads 67 = .ok (.ireturn, 1) := decAll_at aX10_reads_0 39 rfl
def laX10_isTimes_0 : List (Nat × Instr × Nat) := [(0, .iload_n 0, 1), (1, .bipush 42, 2), (3, .if_icmp .eq 15, 3), (6, .iload_n 0, 1), (7, .bipush 47, 2), (9, .if_icmp .eq 9, 3), (12, .iload_n 0, 1), (13, .bipush 37, 2), (15, .if_icmp .ne 7, 3), (18, .iconst 1, 1), (19, .goto 4, 3), (22, .iconst 0, 1), (23, .ireturn, 1)]
theorem aX10_isTimes_0 : decAll cX10_isTimes laX10_isTimes_0 = true := by decide +kernel
theorem dX10_isTimes_0 : decode cX10_isTimes 0 = .ok (.iload_n 0, 1) := decAll_at aX10_isTimes_0 0 rfl
theorem dX10_isTimes_1 : decode cX10_isTimes 1 = .ok (.bipush 42, 2) := decAll_at aX10_isTimes_0 1 rfl
theorem dX10_isTimes_3 : decode cX10_isTimes 3 = .ok (.if_icmp .eq 15, 3) := decAll_at aX10_isTimes_0 2 rfl
theorem dX10_isTimes_6 : decode cX10_isTimes 6 = .ok (.iload_n 0, 1) := decAll_at aX10_isTimes_0 3 rfl
theorem dX10_isTimes_7 : decode cX10_isTimes 7 = .ok (.bipush 47, 2) := decAll_at aX10_isTimes_0 4 rfl
theorem dX10_isTimes_9 : decode cX10_isTimes 9 = .ok (.if_icmp .eq 9, 3) := decAll_at aX10_isTimes_0 5 rfl
theorem dX10_isTimes_12 : decode cX10_isTimes 12 = .ok (.iload_n 0, 1) := decAll_at aX10_isTimes_0 6 rfl
theorem dX10_isTimes_13 : decode cX10_isTimes 13 = .ok (.bipush 37, 2) := decAll_at aX10_isTimes_0 7 rfl
theorem dX10_isTimes_15 : decode cX10_isTimes 15 = .ok (.if_icmp .ne 7, 3) := decAll_at aX10_isTimes_0 8 rfl
theorem dX10_isTimes_18 : decode cX10_isTimes 18 = .ok (.iconst 1, 1) := decAll_at aX10_isTimes_0 9 rfl
theorem dX10_isTimes_19 : decode cX10_isTimes 19 = .ok (.goto 4, 3) := decAll_at aX10_isTimes_0 10 rfl
theorem dX10_isTimes_22 : decode cX10_isTimes 22 = .ok (.iconst 0, 1) := decAll_at aX10_isTimes_0 11 rfl
theorem dX10_isTimes_23 : decode cX10_isTimes 23 = .ok (.ireturn, 1) := decAll_at aX10_isTimes_0 12 rfl
def laX10_isPlus_0 : List (Nat × Instr × Nat) := [(0, .iload_n 0, 1), (1, .bipush 43, 2), (3, .if_icmp .eq 9, 3), (6, .iload_n 0, 1), (7, .bipush 45, 2), (9, .if_icmp .ne 7, 3), (12, .iconst 1, 1), (13, .goto 4, 3), (16, .iconst 0, 1), (17, .ireturn, 1)]
theorem aX10_isPlus_0 : decAll cX10_isPlus laX10_isPlus_0 = true := by decide +kernel
theorem dX10_isPlus_0 : decode cX10_isPlus 0 = .ok (.iload_n 0, 1) := decAll_at aX10_isPlus_0 0 rfl
theorem dX10_isPlus_1 : decode cX10_isPlus 1 = .ok (.bipush 43, 2) := decAll_at aX10_isPlus_0 1 rfl
theorem dX10_isPlus_3 : decode cX10_isPlus 3 = .ok (.if_icmp .eq 9, 3) := decAll_at aX10_isPlus_0 2 rfl
theorem dX10_isPlus_6 : decode cX10_isPlus 6 = .ok (.iload_n 0, 1) := decAll_at aX10_isPlus_0 3 rfl
theorem dX10_isPlus_7 : decode cX10_isPlus 7 = .ok (.bipush 45, 2) := decAll_at aX10_isPlus_0 4 rfl
theorem dX10_isPlus_9 : decode cX10_isPlus 9 = .ok (.if_icmp .ne 7, 3) := decAll_at aX10_isPlus_0 5 rfl
theorem dX10_isPlus_12 : decode cX10_isPlus 12 = .ok (.iconst 1, 1) := decAll_at aX10_isPlus_0 6 rfl
theorem dX10_isPlus_13 : decode cX10_isPlus 13 = .ok (.goto 4, 3) := decAll_at aX10_isPlus_0 7 rfl
theorem dX10_isPlus_16 : decode cX10_isPlus 16 = .ok (.iconst 0, 1) := decAll_at aX10_isPlus_0 8 rfl
theorem dX10_isPlus_17 : decode cX10_isPlus 17 = .ok (.ireturn, 1) := decAll_at aX10_isPlus_0 9 rfl
def laX10_isSign_0 : List (Nat × Instr × Nat) := [(0, .iload_n 0, 1), (1, .bipush 60, 2), (3, .if_icmp .eq 15, 3), (6, .iload_n 0, 1), (7, .bipush 62, 2), (9, .if_icmp .eq 9, 3), (12, .iload_n 0, 1), (13, .bipush 61, 2), (15, .if_icmp .ne 7, 3), (18, .iconst 1, 1), (19, .goto 4, 3), (22, .iconst 0, 1), (23, .ireturn, 1)]
theorem aX10_isSign_0 : decAll cX10_isSign laX10_isSign_0 = true := by decide +kernel
theorem dX10_isSign_0 : decode cX10_isSign 0 = .ok (.iload_n 0, 1) := decAll_at aX10_isSign_0 0 rfl
theorem dX10_isSign_1 : decode cX10_isSign 1 = .ok (.bipush 60, 2) := decAll_at aX10_isSign_0 1 rfl
theorem dX10_isSign_3 : decode cX10_isSign 3 = .ok (.if_icmp .eq 15, 3) := decAll_at aX10_isSign_0 2 rfl
theorem dX10_isSign_6 : decode cX10_isSign 6 = .ok (.iload_n 0, 1) := decAll_at aX10_isSign_0 3 rfl
theorem dX10_isSign_7 : decode cX10_isSign 7 = .ok (.bipush 62, 2) := decAll_at aX10_isSign_0 4 rfl
theorem dX10_isSign_9 : decode cX10_isSign 9 = .ok (.if_icmp .eq 9, 3) := decAll_at aX10_isSign_0 5 rfl
theorem dX10_isSign_12 : decode cX10_isSign 12 = .ok (.iload_n 0, 1) := decAll_at aX10_isSign_0 6 rfl
theorem dX10_isSign_13 : decode cX10_isSign 13 = .ok (.bipush 61, 2) := decAll_at aX10_isSign_0 7 rfl
theorem dX10_isSign_15 : decode cX10_isSign 15 = .ok (.if_icmp .ne 7, 3) := decAll_at aX10_isSign_0 8 rfl
theorem dX10_isSign_18 : decode cX10_isSign 18 = .ok (.iconst 1, 1) := decAll_at aX10_isSign_0 9 rfl
theorem dX10_isSign_19 : decode cX10_isSign 19 = .ok (.goto 4, 3) := decAll_at aX10_isSign_0 10 rfl
theorem dX10_isSign_22 : decode cX10_isSign 22 = .ok (.iconst 0, 1) := decAll_at aX10_isSign_0 11 rfl
theorem dX10_isSign_23 : decode cX10_isSign 23 = .ok (.ireturn, 1) := decAll_at aX10_isSign_0 12 rfl
def laX10_isValue_0 : List (Nat × Instr × Nat) := [(0, .iload_n 0, 1), (1, .bipush 119, 2), (3, .if_icmp .eq 57, 3), (6, .iload_n 0, 1), (7, .bipush 107, 2), (9, .if_icmp .eq 51, 3), (12, .iload_n 0, 1), (13, .bipush 98, 2), (15, .if_icmp .eq 45, 3), (18, .iload_n 0, 1), (19, .bipush 108, 2), (21, .if_icmp .eq 39, 3), (24, .iload_n 0, 1), (25, .bipush 116, 2), (27, .if_icmp .eq 33, 3), (30, .iload_n 0, 1), (31, .bipush 104, 2), (33, .if_icmp .eq 27, 3), (36, .iload_n 0, 1), (37, .bipush 109, 2), (39, .if_icmp .eq 21, 3), (42, .iload_n 0, 1), (43, .bipush 105, 2), (45, .if_icmp .eq 15, 3), (48, .iload_n 0, 1), (49, .bipush 110, 2), (51, .if_icmp .eq 9, 3), (54, .iload_n 0, 1), (55, .bipush 113, 2), (57, .if_icmp .ne 7, 3), (60, .iconst 1, 1), (61, .goto 4, 3), (64, .iconst 0, 1), (65, .ireturn, 1)]
theorem aX10_isValue_0 : decAll cX10_isValue laX10_isValue_0 = true := by decide +kernel
theorem dX10_isValue_0 : decode cX10_isValue 0 = .ok (.iload_n 0, 1) := decAll_at aX10_isValue_0 0 rfl
theorem dX10_isValue_1 : decode cX10_isValue 1 = .ok (.bipush 119, 2) := decAll_at aX10_isValue_0 1 rfl
theorem dX10_isValue_3 : decode cX10_isValue 3 = .ok (.if_icmp .eq 57, 3) := decAll_at aX10_isValue_0 2 rfl
theorem dX10_isValue_6 : decode cX10_isValue 6 = .ok (.iload_n 0, 1) := decAll_at aX10_isValue_0 3 rfl
theorem dX10_isValue_7 : decode cX10_isValue 7 = .ok (.bipush 107, 2) := decAll_at aX10_isValue_0 4 rfl
theorem dX10_isValue_9 : decode cX10_isValue 9 = .ok (.if_icmp .eq 51, 3) := decAll_at aX10_isValue_0 5 rfl
theorem dX10_isValue_12 : decode cX10_isValue 12 = .ok (.iload_n 0, 1) := decAll_at aX10_isValue_0 6 rfl
theorem dX10_isValue_13 : decode cX10_isValue 13 = .ok (.bipush 98, 2) := decAll_at aX10_isValue_0 7 rfl
theorem dX10_isValue_15 : decode cX10_isValue 15 = .ok (.if_icmp .eq 45, 3) := decAll_at aX10_isValue_0 8 rfl
theorem dX10_isValue_18 : decode cX10_isValue 18 = .ok (.iload_n 0, 1) := decAll_at aX10_isValue_0 9 rfl
theorem dX10_isValue_19 : decode cX10_isValue 19 = .ok (.bipush 108, 2) := decAll_at aX10_isValue_0 10 rfl
theorem dX10_isValue_21 : decode cX10_isValue 21 = .ok (.if_icmp .eq 39, 3) := decAll_at aX10_isValue_0 11 rfl
theorem dX10_isValue_24 : decode cX10_isValue 24 = .ok (.iload_n 0, 1) := decAll_at aX10_isValue_0 12 rfl
theorem dX10_isValue_25 : decode cX10_isValue 25 = .ok (.bipush 116, 2) := decAll_at aX10_isValue_0 13 rfl
theorem dX10_isValue_27 : decode cX10_isValue 27 = .ok (.if_icmp .eq 33, 3) := decAll_at aX10_isValue_0 14 rfl
theorem dX10_isValue_30 : decode cX10_isValue 30 = .ok (.iload_n 0, 1) := decAll_at aX10_isValue_0 15 rfl
theorem dX10_isValue_31 : decode cX10_isValue 31 = .ok (.bipush 104, 2) := decAll_at aX10_isValue_0 16 rfl
theorem dX10_isValue_33 : decode cX10_isValue 33 = .ok (.if_icmp .eq 27, 3) := decAll_at aX10_isValue_0 17 rfl
theorem dX10_isValue_36 : decode cX10_isValue 36 = .ok (.iload_n 0, 1) := decAll_at aX10_isValue_0 18 rfl
theorem dX10_isValue_37 : decode cX10_isValue 37 = .ok (.bipush 109, 2) := decAll_at aX10_isValue_0 19 rfl
theorem dX10_isValue_39 : decode cX10_isValue 39 = .ok (.if_icmp .eq 21, 3) := decAll_at aX10_isValue_0 20 rfl
theorem dX10_isValue_42 : decode cX10_isValue 42 = .ok (.iload_n 0, 1) := decAll_at aX10_isValue_0 21 rfl
theorem dX10_isValue_43 : decode cX10_isValue 43 = .ok (.bipush 105, 2) := decAll_at aX10_isValue_0 22 rfl
theorem dX10_isValue_45 : decode cX10_isValue 45 = .ok (.if_icmp .eq 15, 3) := decAll_at aX10_isValue_0 23 rfl
theorem dX10_isValue_48 : decode cX10_isValue 48 = .ok (.iload_n 0, 1) := decAll_at aX10_isValue_0 24 rfl
theorem dX10_isValue_49 : decode cX10_isValue 49 = .ok (.bipush 110, 2) := decAll_at aX10_isValue_0 25 rfl
theorem dX10_isValue_51 : decode cX10_isValue 51 = .ok (.if_icmp .eq 9, 3) := decAll_at aX10_isValue_0 26 rfl
theorem dX10_isValue_54 : decode cX10_isValue 54 = .ok (.iload_n 0, 1) := decAll_at aX10_isValue_0 27 rfl
theorem dX10_isValue_55 : decode cX10_isValue 55 = .ok (.bipush 113, 2) := decAll_at aX10_isValue_0 28 rfl
theorem dX10_isValue_57 : decode cX10_isValue 57 = .ok (.if_icmp .ne 7, 3) := decAll_at aX10_isValue_0 29 rfl
theorem dX10_isValue_60 : decode cX10_isValue 60 = .ok (.iconst 1, 1) := decAll_at aX10_isValue_0 30 rfl
theorem dX10_isValue_61 : decode cX10_isValue 61 = .ok (.goto 4, 3) := decAll_at aX10_isValue_0 31 rfl
theorem dX10_isValue_64 : decode cX10_isValue 64 = .ok (.iconst 0, 1) := decAll_at aX10_isValue_0 32 rfl
theorem dX10_isValue_65 : decode cX10_isValue 65 = .ok (.ireturn, 1) := decAll_at aX10_isValue_0 33 rfl
def laX10_sums_0 : List (Nat × Instr × Nat) := [(0, .aload_n 0, 1), (1, .invokevirtual 235, 3), (4, .invokestatic 238, 3), (7, .ifCond .ne 17, 3), (10, .iload_n 1, 1), (11, .ifCond .eq 35, 3), (14, .aload_n 0, 1), (15, .invokevirtual 235, 3), (18, .invokestatic 241, 3), (21, .ifCond .eq 25, 3), (24, .aload_n 0, 1), (25, .aload_n 0, 1), (26, .invokevirtual 235, 3), (29, .iconst 0, 1), (30, .invokevirtual 244, 3), (33, .aload_n 0, 1), (34, .dup, 1), (35, .getfield 211, 3), (38, .iconst 1, 1), (39, .isub, 1), (40, .putfield 211, 3), (43, .goto (-43), 3), (46, .return_, 1)]
theorem aX10_sums_0 : decAll cX10_sums laX10_sums_0 = true := by decide +kernel
theorem dX10_sums_0 : decode cX10_sums 0 = .ok (.aload_n 0, 1) := decAll_at aX10_sums_0 0 rfl
theorem dX10_sums_1 : decode cX10_sums 1 = .ok (.invokevirtual 235, 3) := decAll_at aX10_sums_0 1 rfl
theorem dX10_sums_4 : decode cX10_sums 4 = .ok (.invokestatic 238, 3) := decAll_at aX10_sums_0 2 rfl
theorem dX10_sums_7 : decode cX10_sums 7 = .ok (.ifCond .ne 17, 3) := decAll_at aX10_sums_0 3 rfl
theorem dX10_sums_10 : decode cX10_sums 10 = .ok (.iload_n 1, 1) := decAll_at aX10_sums_0 4 rfl
theorem dX10_sums_11 : decode cX10_sums 11 = .ok (.ifCond .eq 35, 3) := decAll_at aX10_sums_0 5 rfl
theorem dX10_sums_14 : decode cX10_sums 14 = .ok (.aload_n 0, 1) := decAll_at aX10_sums_0 6 rfl
theorem dX10_sums_15 : decode cX10_sums 15 = .ok (.invokevirtual 235, 3) := decAll_at aX10_sums_0 7 rfl
theorem dX10_sums_18 : decode cX10_sums 18 = .ok (.invokestatic 241, 3) := decAll_at aX10_sums_0 8 rfl
theorem dX10_sums_21 : decode cX10_sums 21 = .ok (.ifCond .eq 25, 3) := decAll_at aX10_sums_0 9 rfl
theorem dX10_sums_24 : decode cX10_sums 24 = .ok (.aload_n 0, 1) := decAll_at aX10_sums_0 10 rfl
theorem dX10_sums_25 : decode cX10_sums 25 = .ok (.aload_n 0, 1) := decAll_at aX10_sums_0 11 rfl
theorem dX10_sums_26 : decode cX10_sums 26 = .ok (.invokevirtual 235, 3) := decAll_at aX10_sums_0 12 rfl
theorem dX10_sums_29 : decode cX10_sums 29 = .ok (.iconst 0, 1) := decAll_at aX10_sums_0 13 rfl
theorem dX10_sums_30 : decode cX10_sums 30 = .ok (.invokevirtual 244, 3) := decAll_at aX10_sums_0 14 rfl
theorem dX10_sums_33 : decode cX10_sums 33 = .ok (.aload_n 0, 1) := decAll_at aX10_sums_0 15 rfl
theorem dX10_sums_34 : decode cX10_sums 34 = .ok (.dup, 1) := decAll_at aX10_sums_0 16 rfl
theorem dX10_sums_35 : decode cX10_sums 35 = .ok (.getfield 211, 3) := decAll_at aX10_sums_0 17 rfl
theorem dX10_sums_38 : decode cX10_sums 38 = .ok (.iconst 1, 1) := decAll_at aX10_sums_0 18 rfl
theorem dX10_sums_39 : decode cX10_sums 39 = .ok (.isub, 1) := decAll_at aX10_sums_0 19 rfl
theorem dX10_sums_40 : decode cX10_sums 40 = .ok (.putfield 211, 3) := decAll_at aX10_sums_0 20 rfl
theorem dX10_sums_43 : decode cX10_sums 43 = .ok (.goto (-43), 3) := decAll_at aX10_sums_0 21 rfl
theorem dX10_sums_46 : decode cX10_sums 46 = .ok (.return_, 1) := decAll_at aX10_sums_0 22 rfl
def laX10_joins_0 : List (Nat × Instr × Nat) := [(0, .aload_n 0, 1), (1, .invokevirtual 235, 3), (4, .bipush 38, 2), (6, .if_icmp .eq 16, 3), (9, .iload_n 1, 1), (10, .ifCond .eq 34, 3), (13, .aload_n 0, 1), (14, .invokevirtual 235, 3), (17, .bipush 124, 2), (19, .if_icmp .ne 25, 3), (22, .aload_n 0, 1), (23, .aload_n 0, 1), (24, .invokevirtual 235, 3), (27, .iconst 0, 1), (28, .invokevirtual 244, 3), (31, .aload_n 0, 1), (32, .dup, 1), (33, .getfield 211, 3), (36, .iconst 1, 1), (37, .isub, 1), (38, .putfield 211, 3), (41, .goto (-41), 3), (44, .return_, 1)]
theorem aX10_joins_0 : decAll cX10_joins laX10_joins_0 = true := by decide +kernel
theorem dX10_joins_0 : decode cX10_joins 0 = .ok (.aload_n 0, 1) := decAll_at aX10_joins_0 0 rfl
theorem dX10_joins_1 : decode cX10_joins 1 = .ok (.invokevirtual 235, 3) := decAll_at aX10_joins_0 1 rfl
theorem dX10_joins_4 : decode cX10_joins 4 = .ok (.bipush 38, 2) := decAll_at aX10_joins_0 2 rfl
theorem dX10_joins_6 : decode cX10_joins 6 = .ok (.if_icmp .eq 16, 3) := decAll_at aX10_joins_0 3 rfl
theorem dX10_joins_9 : decode cX10_joins 9 = .ok (.iload_n 1, 1) := decAll_at aX10_joins_0 4 rfl
theorem dX10_joins_10 : decode cX10_joins 10 = .ok (.ifCond .eq 34, 3) := decAll_at aX10_joins_0 5 rfl
theorem dX10_joins_13 : decode cX10_joins 13 = .ok (.aload_n 0, 1) := decAll_at aX10_joins_0 6 rfl
theorem dX10_joins_14 : decode cX10_joins 14 = .ok (.invokevirtual 235, 3) := decAll_at aX10_joins_0 7 rfl
theorem dX10_joins_17 : decode cX10_joins 17 = .ok (.bipush 124, 2) := decAll_at aX10_joins_0 8 rfl
theorem dX10_joins_19 : decode cX10_joins 19 = .ok (.if_icmp .ne 25, 3) := decAll_at aX10_joins_0 9 rfl
theorem dX10_joins_22 : decode cX10_joins 22 = .ok (.aload_n 0, 1) := decAll_at aX10_joins_0 10 rfl
theorem dX10_joins_23 : decode cX10_joins 23 = .ok (.aload_n 0, 1) := decAll_at aX10_joins_0 11 rfl
theorem dX10_joins_24 : decode cX10_joins 24 = .ok (.invokevirtual 235, 3) := decAll_at aX10_joins_0 12 rfl
theorem dX10_joins_27 : decode cX10_joins 27 = .ok (.iconst 0, 1) := decAll_at aX10_joins_0 13 rfl
theorem dX10_joins_28 : decode cX10_joins 28 = .ok (.invokevirtual 244, 3) := decAll_at aX10_joins_0 14 rfl
theorem dX10_joins_31 : decode cX10_joins 31 = .ok (.aload_n 0, 1) := decAll_at aX10_joins_0 15 rfl
theorem dX10_joins_32 : decode cX10_joins 32 = .ok (.dup, 1) := decAll_at aX10_joins_0 16 rfl
theorem dX10_joins_33 : decode cX10_joins 33 = .ok (.getfield 211, 3) := decAll_at aX10_joins_0 17 rfl
theorem dX10_joins_36 : decode cX10_joins 36 = .ok (.iconst 1, 1) := decAll_at aX10_joins_0 18 rfl
theorem dX10_joins_37 : decode cX10_joins 37 = .ok (.isub, 1) := decAll_at aX10_joins_0 19 rfl
theorem dX10_joins_38 : decode cX10_joins 38 = .ok (.putfield 211, 3) := decAll_at aX10_joins_0 20 rfl
theorem dX10_joins_41 : decode cX10_joins 41 = .ok (.goto (-41), 3) := decAll_at aX10_joins_0 21 rfl
theorem dX10_joins_44 : decode cX10_joins 44 = .ok (.return_, 1) := decAll_at aX10_joins_0 22 rfl
def laX10_ends_0 : List (Nat × Instr × Nat) := [(0, .aload_n 0, 1), (1, .invokevirtual 235, 3), (4, .bipush 33, 2), (6, .if_icmp .ne 32, 3), (9, .aload_n 0, 1), (10, .iconst 2, 1), (11, .iconst 0, 1), (12, .invokevirtual 244, 3), (15, .aload_n 0, 1), (16, .dup, 1), (17, .getfield 211, 3), (20, .iconst 1, 1), (21, .isub, 1), (22, .putfield 211, 3), (25, .aload_n 0, 1), (26, .dup, 1), (27, .getfield 214, 3), (30, .iconst 1, 1), (31, .isub, 1), (32, .putfield 214, 3), (35, .goto (-35), 3), (38, .return_, 1)]
theorem aX10_ends_0 : decAll cX10_ends laX10_ends_0 = true := by decide +kernel
theorem dX10_ends_0 : decode cX10_ends 0 = .ok (.aload_n 0, 1) := decAll_at aX10_ends_0 0 rfl
theorem dX10_ends_1 : decode cX10_ends 1 = .ok (.invokevirtual 235, 3) := decAll_at aX10_ends_0 1 rfl
theorem dX10_ends_4 : decode cX10_ends 4 = .ok (.bipush 33, 2) := decAll_at aX10_ends_0 2 rfl
theorem dX10_ends_6 : decode cX10_ends 6 = .ok (.if_icmp .ne 32, 3) := decAll_at aX10_ends_0 3 rfl
theorem dX10_ends_9 : decode cX10_ends 9 = .ok (.aload_n 0, 1) := decAll_at aX10_ends_0 4 rfl
theorem dX10_ends_10 : decode cX10_ends 10 = .ok (.iconst 2, 1) := decAll_at aX10_ends_0 5 rfl
theorem dX10_ends_11 : decode cX10_ends 11 = .ok (.iconst 0, 1) := decAll_at aX10_ends_0 6 rfl
theorem dX10_ends_12 : decode cX10_ends 12 = .ok (.invokevirtual 244, 3) := decAll_at aX10_ends_0 7 rfl
theorem dX10_ends_15 : decode cX10_ends 15 = .ok (.aload_n 0, 1) := decAll_at aX10_ends_0 8 rfl
theorem dX10_ends_16 : decode cX10_ends 16 = .ok (.dup, 1) := decAll_at aX10_ends_0 9 rfl
theorem dX10_ends_17 : decode cX10_ends 17 = .ok (.getfield 211, 3) := decAll_at aX10_ends_0 10 rfl
theorem dX10_ends_20 : decode cX10_ends 20 = .ok (.iconst 1, 1) := decAll_at aX10_ends_0 11 rfl
theorem dX10_ends_21 : decode cX10_ends 21 = .ok (.isub, 1) := decAll_at aX10_ends_0 12 rfl
theorem dX10_ends_22 : decode cX10_ends 22 = .ok (.putfield 211, 3) := decAll_at aX10_ends_0 13 rfl
theorem dX10_ends_25 : decode cX10_ends 25 = .ok (.aload_n 0, 1) := decAll_at aX10_ends_0 14 rfl
theorem dX10_ends_26 : decode cX10_ends 26 = .ok (.dup, 1) := decAll_at aX10_ends_0 15 rfl
theorem dX10_ends_27 : decode cX10_ends 27 = .ok (.getfield 214, 3) := decAll_at aX10_ends_0 16 rfl
theorem dX10_ends_30 : decode cX10_ends 30 = .ok (.iconst 1, 1) := decAll_at aX10_ends_0 17 rfl
theorem dX10_ends_31 : decode cX10_ends 31 = .ok (.isub, 1) := decAll_at aX10_ends_0 18 rfl
theorem dX10_ends_32 : decode cX10_ends 32 = .ok (.putfield 214, 3) := decAll_at aX10_ends_0 19 rfl
theorem dX10_ends_35 : decode cX10_ends 35 = .ok (.goto (-35), 3) := decAll_at aX10_ends_0 20 rfl
theorem dX10_ends_38 : decode cX10_ends 38 = .ok (.return_, 1) := decAll_at aX10_ends_0 21 rfl
def laX10_factor_0 : List (Nat × Instr × Nat) := [(0, .aload_n 0, 1), (1, .invokevirtual 204, 3), (4, .ifCond .eq 19, 3), (7, .aload_n 0, 1), (8, .invokevirtual 221, 3), (11, .bipush 91, 2), (13, .if_icmp .ne 10, 3), (16, .aload_n 0, 1), (17, .invokevirtual 247, 3), (20, .goto (-20), 3), (23, .aload_n 0, 1), (24, .invokevirtual 204, 3), (27, .ifCond .ne 4, 3), (30, .return_, 1), (31, .aload_n 0, 1), (32, .invokevirtual 232, 3), (35, .ifCond .eq 15, 3), (38, .aload_n 0, 1), (39, .iconst 0, 1), (40, .aload_n 0, 1), (41, .invokevirtual 250, 3), (44, .invokevirtual 244, 3), (47, .goto 44, 3), (50, .aload_n 0, 1), (51, .invokevirtual 221, 3), (54, .invokestatic 253, 3), (57, .ifCond .eq 25, 3), (60, .aload_n 0, 1), (61, .iconst 1, 1), (62, .aload_n 0, 1), (63, .invokevirtual 221, 3), (66, .invokevirtual 244, 3), (69, .aload_n 0, 1), (70, .dup, 1), (71, .getfield 195, 3), (74, .iconst 1, 1), (75, .iadd, 1), (76, .putfield 195, 3), (79, .goto 12, 3), (82, .aload_n 0, 1), (83, .iconst 1, 1), (84, .aload_n 0, 1), (85, .getfield 195, 3), (88, .invokevirtual 217, 3), (91, .return_, 1)]
theorem aX10_factor_0 : decAll cX10_factor laX10_factor_0 = true := by decide +kernel
theorem dX10_factor_0 : decode cX10_factor 0 = .ok (.aload_n 0, 1) := decAll_at aX10_factor_0 0 rfl
theorem dX10_factor_1 : decode cX10_factor 1 = .ok (.invokevirtual 204, 3) := decAll_at aX10_factor_0 1 rfl
theorem dX10_factor_4 : decode cX10_factor 4 = .ok (.ifCond .eq 19, 3) := decAll_at aX10_factor_0 2 rfl
theorem dX10_factor_7 : decode cX10_factor 7 = .ok (.aload_n 0, 1) := decAll_at aX10_factor_0 3 rfl
theorem dX10_factor_8 : decode cX10_factor 8 = .ok (.invokevirtual 221, 3) := decAll_at aX10_factor_0 4 rfl
theorem dX10_factor_11 : decode cX10_factor 11 = .ok (.bipush 91, 2) := decAll_at aX10_factor_0 5 rfl
theorem dX10_factor_13 : decode cX10_factor 13 = .ok (.if_icmp .ne 10, 3) := decAll_at aX10_factor_0 6 rfl
theorem dX10_factor_16 : decode cX10_factor 16 = .ok (.aload_n 0, 1) := decAll_at aX10_factor_0 7 rfl
theorem dX10_factor_17 : decode cX10_factor 17 = .ok (.invokevirtual 247, 3) := decAll_at aX10_factor_0 8 rfl
theorem dX10_factor_20 : decode cX10_factor 20 = .ok (.goto (-20), 3) := decAll_at aX10_factor_0 9 rfl
theorem dX10_factor_23 : decode cX10_factor 23 = .ok (.aload_n 0, 1) := decAll_at aX10_factor_0 10 rfl
theorem dX10_factor_24 : decode cX10_factor 24 = .ok (.invokevirtual 204, 3) := decAll_at aX10_factor_0 11 rfl
theorem dX10_factor_27 : decode cX10_factor 27 = .ok (.ifCond .ne 4, 3) := decAll_at aX10_factor_0 12 rfl
theorem dX10_factor_30 : decode cX10_factor 30 = .ok (.return_, 1) := decAll_at aX10_factor_0 13 rfl
theorem dX10_factor_31 : decode cX10_factor 31 = .ok (.aload_n 0, 1) := decAll_at aX10_factor_0 14 rfl
theorem dX10_factor_32 : decode cX10_factor 32 = .ok (.invokevirtual 232, 3) := decAll_at aX10_factor_0 15 rfl
theorem dX10_factor_35 : decode cX10_factor 35 = .ok (.ifCond .eq 15, 3) := decAll_at aX10_factor_0 16 rfl
theorem dX10_factor_38 : decode cX10_factor 38 = .ok (.aload_n 0, 1) := decAll_at aX10_factor_0 17 rfl
theorem dX10_factor_39 : decode cX10_factor 39 = .ok (.iconst 0, 1) := decAll_at aX10_factor_0 18 rfl
theorem dX10_factor_40 : decode cX10_factor 40 = .ok (.aload_n 0, 1) := decAll_at aX10_factor_0 19 rfl
theorem dX10_factor_41 : decode cX10_factor 41 = .ok (.invokevirtual 250, 3) := decAll_at aX10_factor_0 20 rfl
theorem dX10_factor_44 : decode cX10_factor 44 = .ok (.invokevirtual 244, 3) := decAll_at aX10_factor_0 21 rfl
theorem dX10_factor_47 : decode cX10_factor 47 = .ok (.goto 44, 3) := decAll_at aX10_factor_0 22 rfl
theorem dX10_factor_50 : decode cX10_factor 50 = .ok (.aload_n 0, 1) := decAll_at aX10_factor_0 23 rfl
theorem dX10_factor_51 : decode cX10_factor 51 = .ok (.invokevirtual 221, 3) := decAll_at aX10_factor_0 24 rfl
theorem dX10_factor_54 : decode cX10_factor 54 = .ok (.invokestatic 253, 3) := decAll_at aX10_factor_0 25 rfl
theorem dX10_factor_57 : decode cX10_factor 57 = .ok (.ifCond .eq 25, 3) := decAll_at aX10_factor_0 26 rfl
theorem dX10_factor_60 : decode cX10_factor 60 = .ok (.aload_n 0, 1) := decAll_at aX10_factor_0 27 rfl
theorem dX10_factor_61 : decode cX10_factor 61 = .ok (.iconst 1, 1) := decAll_at aX10_factor_0 28 rfl
theorem dX10_factor_62 : decode cX10_factor 62 = .ok (.aload_n 0, 1) := decAll_at aX10_factor_0 29 rfl
theorem dX10_factor_63 : decode cX10_factor 63 = .ok (.invokevirtual 221, 3) := decAll_at aX10_factor_0 30 rfl
theorem dX10_factor_66 : decode cX10_factor 66 = .ok (.invokevirtual 244, 3) := decAll_at aX10_factor_0 31 rfl
theorem dX10_factor_69 : decode cX10_factor 69 = .ok (.aload_n 0, 1) := decAll_at aX10_factor_0 32 rfl
theorem dX10_factor_70 : decode cX10_factor 70 = .ok (.dup, 1) := decAll_at aX10_factor_0 33 rfl
theorem dX10_factor_71 : decode cX10_factor 71 = .ok (.getfield 195, 3) := decAll_at aX10_factor_0 34 rfl
theorem dX10_factor_74 : decode cX10_factor 74 = .ok (.iconst 1, 1) := decAll_at aX10_factor_0 35 rfl
theorem dX10_factor_75 : decode cX10_factor 75 = .ok (.iadd, 1) := decAll_at aX10_factor_0 36 rfl
theorem dX10_factor_76 : decode cX10_factor 76 = .ok (.putfield 195, 3) := decAll_at aX10_factor_0 37 rfl
theorem dX10_factor_79 : decode cX10_factor 79 = .ok (.goto 12, 3) := decAll_at aX10_factor_0 38 rfl
theorem dX10_factor_82 : decode cX10_factor 82 = .ok (.aload_n 0, 1) := decAll_at aX10_factor_0 39 rfl
theorem dX10_factor_83 : decode cX10_factor 83 = .ok (.iconst 1, 1) := decAll_at aX10_factor_0 40 rfl
theorem dX10_factor_84 : decode cX10_factor 84 = .ok (.aload_n 0, 1) := decAll_at aX10_factor_0 41 rfl
theorem dX10_factor_85 : decode cX10_factor 85 = .ok (.getfield 195, 3) := decAll_at aX10_factor_0 42 rfl
theorem dX10_factor_88 : decode cX10_factor 88 = .ok (.invokevirtual 217, 3) := decAll_at aX10_factor_0 43 rfl
theorem dX10_factor_91 : decode cX10_factor 91 = .ok (.return_, 1) := decAll_at aX10_factor_0 44 rfl
def laX10_stays_0 : List (Nat × Instr × Nat) := [(0, .aload_n 0, 1), (1, .invokevirtual 221, 3), (4, .istore_n 1, 1), (5, .iload_n 1, 1), (6, .invokestatic 238, 3), (9, .ifCond .ne 10, 3), (12, .iload_n 1, 1), (13, .invokestatic 241, 3), (16, .ifCond .eq 18, 3), (19, .aload_n 0, 1), (20, .iload_n 1, 1), (21, .invokestatic 241, 3), (24, .invokevirtual 256, 3), (27, .aload_n 0, 1), (28, .iload_n 1, 1), (29, .invokevirtual 225, 3), (32, .iconst 1, 1), (33, .ireturn, 1), (34, .aload_n 0, 1), (35, .iconst 1, 1), (36, .invokevirtual 256, 3), (39, .iload_n 1, 1), (40, .bipush 93, 2), (42, .if_icmp .eq 5, 3), (45, .iconst 0, 1), (46, .ireturn, 1), (47, .aload_n 0, 1), (48, .invokevirtual 235, 3), (51, .bipush 91, 2), (53, .if_icmp .eq 14, 3), (56, .aload_n 0, 1), (57, .iconst 1, 1), (58, .aload_n 0, 1), (59, .getfield 195, 3), (62, .invokevirtual 217, 3), (65, .iconst 0, 1), (66, .ireturn, 1), (67, .aload_n 0, 1), (68, .dup, 1), (69, .getfield 211, 3), (72, .iconst 1, 1), (73, .isub, 1), (74, .putfield 211, 3), (77, .aload_n 0, 1), (78, .dup, 1), (79, .getfield 214, 3), (82, .iconst 1, 1), (83, .isub, 1), (84, .putfield 214, 3), (87, .aload_n 0, 1), (88, .dup, 1), (89, .getfield 195, 3), (92, .iconst 1, 1), (93, .iadd, 1), (94, .putfield 195, 3), (97, .aload_n 0, 1), (98, .iconst 1, 1), (99, .putfield 260, 3), (102, .iconst 1, 1), (103, .ireturn, 1)]
theorem aX10_stays_0 : decAll cX10_stays laX10_stays_0 = true := by decide +kernel
theorem dX10_stays_0 : decode cX10_stays 0 = .ok (.aload_n 0, 1) := decAll_at aX10_stays_0 0 rfl
theorem dX10_stays_1 : decode cX10_stays 1 = .ok (.invokevirtual 221, 3) := decAll_at aX10_stays_0 1 rfl
theorem dX10_stays_4 : decode cX10_stays 4 = .ok (.istore_n 1, 1) := decAll_at aX10_stays_0 2 rfl
theorem dX10_stays_5 : decode cX10_stays 5 = .ok (.iload_n 1, 1) := decAll_at aX10_stays_0 3 rfl
theorem dX10_stays_6 : decode cX10_stays 6 = .ok (.invokestatic 238, 3) := decAll_at aX10_stays_0 4 rfl
theorem dX10_stays_9 : decode cX10_stays 9 = .ok (.ifCond .ne 10, 3) := decAll_at aX10_stays_0 5 rfl
theorem dX10_stays_12 : decode cX10_stays 12 = .ok (.iload_n 1, 1) := decAll_at aX10_stays_0 6 rfl
theorem dX10_stays_13 : decode cX10_stays 13 = .ok (.invokestatic 241, 3) := decAll_at aX10_stays_0 7 rfl
theorem dX10_stays_16 : decode cX10_stays 16 = .ok (.ifCond .eq 18, 3) := decAll_at aX10_stays_0 8 rfl
theorem dX10_stays_19 : decode cX10_stays 19 = .ok (.aload_n 0, 1) := decAll_at aX10_stays_0 9 rfl
theorem dX10_stays_20 : decode cX10_stays 20 = .ok (.iload_n 1, 1) := decAll_at aX10_stays_0 10 rfl
theorem dX10_stays_21 : decode cX10_stays 21 = .ok (.invokestatic 241, 3) := decAll_at aX10_stays_0 11 rfl
theorem dX10_stays_24 : decode cX10_stays 24 = .ok (.invokevirtual 256, 3) := decAll_at aX10_stays_0 12 rfl
theorem dX10_stays_27 : decode cX10_stays 27 = .ok (.aload_n 0, 1) := decAll_at aX10_stays_0 13 rfl
theorem dX10_stays_28 : decode cX10_stays 28 = .ok (.iload_n 1, 1) := decAll_at aX10_stays_0 14 rfl
theorem dX10_stays_29 : decode cX10_stays 29 = .ok (.invokevirtual 225, 3) := decAll_at aX10_stays_0 15 rfl
theorem dX10_stays_32 : decode cX10_stays 32 = .ok (.iconst 1, 1) := decAll_at aX10_stays_0 16 rfl
theorem dX10_stays_33 : decode cX10_stays 33 = .ok (.ireturn, 1) := decAll_at aX10_stays_0 17 rfl
theorem dX10_stays_34 : decode cX10_stays 34 = .ok (.aload_n 0, 1) := decAll_at aX10_stays_0 18 rfl
theorem dX10_stays_35 : decode cX10_stays 35 = .ok (.iconst 1, 1) := decAll_at aX10_stays_0 19 rfl
theorem dX10_stays_36 : decode cX10_stays 36 = .ok (.invokevirtual 256, 3) := decAll_at aX10_stays_0 20 rfl
theorem dX10_stays_39 : decode cX10_stays 39 = .ok (.iload_n 1, 1) := decAll_at aX10_stays_0 21 rfl
theorem dX10_stays_40 : decode cX10_stays 40 = .ok (.bipush 93, 2) := decAll_at aX10_stays_0 22 rfl
theorem dX10_stays_42 : decode cX10_stays 42 = .ok (.if_icmp .eq 5, 3) := decAll_at aX10_stays_0 23 rfl
theorem dX10_stays_45 : decode cX10_stays 45 = .ok (.iconst 0, 1) := decAll_at aX10_stays_0 24 rfl
theorem dX10_stays_46 : decode cX10_stays 46 = .ok (.ireturn, 1) := decAll_at aX10_stays_0 25 rfl
theorem dX10_stays_47 : decode cX10_stays 47 = .ok (.aload_n 0, 1) := decAll_at aX10_stays_0 26 rfl
theorem dX10_stays_48 : decode cX10_stays 48 = .ok (.invokevirtual 235, 3) := decAll_at aX10_stays_0 27 rfl
theorem dX10_stays_51 : decode cX10_stays 51 = .ok (.bipush 91, 2) := decAll_at aX10_stays_0 28 rfl
theorem dX10_stays_53 : decode cX10_stays 53 = .ok (.if_icmp .eq 14, 3) := decAll_at aX10_stays_0 29 rfl
theorem dX10_stays_56 : decode cX10_stays 56 = .ok (.aload_n 0, 1) := decAll_at aX10_stays_0 30 rfl
theorem dX10_stays_57 : decode cX10_stays 57 = .ok (.iconst 1, 1) := decAll_at aX10_stays_0 31 rfl
theorem dX10_stays_58 : decode cX10_stays 58 = .ok (.aload_n 0, 1) := decAll_at aX10_stays_0 32 rfl
theorem dX10_stays_59 : decode cX10_stays 59 = .ok (.getfield 195, 3) := decAll_at aX10_stays_0 33 rfl
theorem dX10_stays_62 : decode cX10_stays 62 = .ok (.invokevirtual 217, 3) := decAll_at aX10_stays_0 34 rfl
theorem dX10_stays_65 : decode cX10_stays 65 = .ok (.iconst 0, 1) := decAll_at aX10_stays_0 35 rfl
theorem dX10_stays_66 : decode cX10_stays 66 = .ok (.ireturn, 1) := decAll_at aX10_stays_0 36 rfl
theorem dX10_stays_67 : decode cX10_stays 67 = .ok (.aload_n 0, 1) := decAll_at aX10_stays_0 37 rfl
theorem dX10_stays_68 : decode cX10_stays 68 = .ok (.dup, 1) := decAll_at aX10_stays_0 38 rfl
theorem dX10_stays_69 : decode cX10_stays 69 = .ok (.getfield 211, 3) := decAll_at aX10_stays_0 39 rfl
theorem dX10_stays_72 : decode cX10_stays 72 = .ok (.iconst 1, 1) := decAll_at aX10_stays_0 40 rfl
theorem dX10_stays_73 : decode cX10_stays 73 = .ok (.isub, 1) := decAll_at aX10_stays_0 41 rfl
theorem dX10_stays_74 : decode cX10_stays 74 = .ok (.putfield 211, 3) := decAll_at aX10_stays_0 42 rfl
theorem dX10_stays_77 : decode cX10_stays 77 = .ok (.aload_n 0, 1) := decAll_at aX10_stays_0 43 rfl
theorem dX10_stays_78 : decode cX10_stays 78 = .ok (.dup, 1) := decAll_at aX10_stays_0 44 rfl
theorem dX10_stays_79 : decode cX10_stays 79 = .ok (.getfield 214, 3) := decAll_at aX10_stays_0 45 rfl
theorem dX10_stays_82 : decode cX10_stays 82 = .ok (.iconst 1, 1) := decAll_at aX10_stays_0 46 rfl
theorem dX10_stays_83 : decode cX10_stays 83 = .ok (.isub, 1) := decAll_at aX10_stays_0 47 rfl
theorem dX10_stays_84 : decode cX10_stays 84 = .ok (.putfield 214, 3) := decAll_at aX10_stays_0 48 rfl
theorem dX10_stays_87 : decode cX10_stays 87 = .ok (.aload_n 0, 1) := decAll_at aX10_stays_0 49 rfl
theorem dX10_stays_88 : decode cX10_stays 88 = .ok (.dup, 1) := decAll_at aX10_stays_0 50 rfl
theorem dX10_stays_89 : decode cX10_stays 89 = .ok (.getfield 195, 3) := decAll_at aX10_stays_0 51 rfl
theorem dX10_stays_92 : decode cX10_stays 92 = .ok (.iconst 1, 1) := decAll_at aX10_stays_0 52 rfl
theorem dX10_stays_93 : decode cX10_stays 93 = .ok (.iadd, 1) := decAll_at aX10_stays_0 53 rfl
theorem dX10_stays_94 : decode cX10_stays 94 = .ok (.putfield 195, 3) := decAll_at aX10_stays_0 54 rfl
theorem dX10_stays_97 : decode cX10_stays 97 = .ok (.aload_n 0, 1) := decAll_at aX10_stays_0 55 rfl
theorem dX10_stays_98 : decode cX10_stays 98 = .ok (.iconst 1, 1) := decAll_at aX10_stays_0 56 rfl
theorem dX10_stays_99 : decode cX10_stays 99 = .ok (.putfield 260, 3) := decAll_at aX10_stays_0 57 rfl
theorem dX10_stays_102 : decode cX10_stays 102 = .ok (.iconst 1, 1) := decAll_at aX10_stays_0 58 rfl
theorem dX10_stays_103 : decode cX10_stays 103 = .ok (.ireturn, 1) := decAll_at aX10_stays_0 59 rfl
def laX10_value_0 : List (Nat × Instr × Nat) := [(0, .iconst 1, 1), (1, .istore_n 1, 1), (2, .aload_n 0, 1), (3, .iconst 0, 1), (4, .putfield 260, 3), (7, .iload_n 1, 1), (8, .ifCond .eq 49, 3), (11, .aload_n 0, 1), (12, .invokevirtual 204, 3), (15, .ifCond .eq 42, 3), (18, .aload_n 0, 1), (19, .getfield 260, 3), (22, .ifCond .ne 7, 3), (25, .aload_n 0, 1), (26, .invokevirtual 263, 3), (29, .aload_n 0, 1), (30, .iconst 0, 1), (31, .putfield 260, 3), (34, .aload_n 0, 1), (35, .invokevirtual 204, 3), (38, .ifCond .eq 14, 3), (41, .aload_n 0, 1), (42, .invokevirtual 266, 3), (45, .ifCond .eq 7, 3), (48, .iconst 1, 1), (49, .goto 4, 3), (52, .iconst 0, 1), (53, .istore_n 1, 1), (54, .goto (-47), 3), (57, .aload_n 0, 1), (58, .invokevirtual 204, 3), (61, .ifCond .eq 21, 3), (64, .aload_n 0, 1), (65, .invokevirtual 235, 3), (68, .bipush 91, 2), (70, .if_icmp .ne 12, 3), (73, .aload_n 0, 1), (74, .iconst 1, 1), (75, .aload_n 0, 1), (76, .getfield 195, 3), (79, .invokevirtual 217, 3), (82, .return_, 1)]
theorem aX10_value_0 : decAll cX10_value laX10_value_0 = true := by decide +kernel
theorem dX10_value_0 : decode cX10_value 0 = .ok (.iconst 1, 1) := decAll_at aX10_value_0 0 rfl
theorem dX10_value_1 : decode cX10_value 1 = .ok (.istore_n 1, 1) := decAll_at aX10_value_0 1 rfl
theorem dX10_value_2 : decode cX10_value 2 = .ok (.aload_n 0, 1) := decAll_at aX10_value_0 2 rfl
theorem dX10_value_3 : decode cX10_value 3 = .ok (.iconst 0, 1) := decAll_at aX10_value_0 3 rfl
theorem dX10_value_4 : decode cX10_value 4 = .ok (.putfield 260, 3) := decAll_at aX10_value_0 4 rfl
theorem dX10_value_7 : decode cX10_value 7 = .ok (.iload_n 1, 1) := decAll_at aX10_value_0 5 rfl
theorem dX10_value_8 : decode cX10_value 8 = .ok (.ifCond .eq 49, 3) := decAll_at aX10_value_0 6 rfl
theorem dX10_value_11 : decode cX10_value 11 = .ok (.aload_n 0, 1) := decAll_at aX10_value_0 7 rfl
theorem dX10_value_12 : decode cX10_value 12 = .ok (.invokevirtual 204, 3) := decAll_at aX10_value_0 8 rfl
theorem dX10_value_15 : decode cX10_value 15 = .ok (.ifCond .eq 42, 3) := decAll_at aX10_value_0 9 rfl
theorem dX10_value_18 : decode cX10_value 18 = .ok (.aload_n 0, 1) := decAll_at aX10_value_0 10 rfl
theorem dX10_value_19 : decode cX10_value 19 = .ok (.getfield 260, 3) := decAll_at aX10_value_0 11 rfl
theorem dX10_value_22 : decode cX10_value 22 = .ok (.ifCond .ne 7, 3) := decAll_at aX10_value_0 12 rfl
theorem dX10_value_25 : decode cX10_value 25 = .ok (.aload_n 0, 1) := decAll_at aX10_value_0 13 rfl
theorem dX10_value_26 : decode cX10_value 26 = .ok (.invokevirtual 263, 3) := decAll_at aX10_value_0 14 rfl
theorem dX10_value_29 : decode cX10_value 29 = .ok (.aload_n 0, 1) := decAll_at aX10_value_0 15 rfl
theorem dX10_value_30 : decode cX10_value 30 = .ok (.iconst 0, 1) := decAll_at aX10_value_0 16 rfl
theorem dX10_value_31 : decode cX10_value 31 = .ok (.putfield 260, 3) := decAll_at aX10_value_0 17 rfl
theorem dX10_value_34 : decode cX10_value 34 = .ok (.aload_n 0, 1) := decAll_at aX10_value_0 18 rfl
theorem dX10_value_35 : decode cX10_value 35 = .ok (.invokevirtual 204, 3) := decAll_at aX10_value_0 19 rfl
theorem dX10_value_38 : decode cX10_value 38 = .ok (.ifCond .eq 14, 3) := decAll_at aX10_value_0 20 rfl
theorem dX10_value_41 : decode cX10_value 41 = .ok (.aload_n 0, 1) := decAll_at aX10_value_0 21 rfl
theorem dX10_value_42 : decode cX10_value 42 = .ok (.invokevirtual 266, 3) := decAll_at aX10_value_0 22 rfl
theorem dX10_value_45 : decode cX10_value 45 = .ok (.ifCond .eq 7, 3) := decAll_at aX10_value_0 23 rfl
theorem dX10_value_48 : decode cX10_value 48 = .ok (.iconst 1, 1) := decAll_at aX10_value_0 24 rfl
theorem dX10_value_49 : decode cX10_value 49 = .ok (.goto 4, 3) := decAll_at aX10_value_0 25 rfl
theorem dX10_value_52 : decode cX10_value 52 = .ok (.iconst 0, 1) := decAll_at aX10_value_0 26 rfl
theorem dX10_value_53 : decode cX10_value 53 = .ok (.istore_n 1, 1) := decAll_at aX10_value_0 27 rfl
theorem dX10_value_54 : decode cX10_value 54 = .ok (.goto (-47), 3) := decAll_at aX10_value_0 28 rfl
theorem dX10_value_57 : decode cX10_value 57 = .ok (.aload_n 0, 1) := decAll_at aX10_value_0 29 rfl
theorem dX10_value_58 : decode cX10_value 58 = .ok (.invokevirtual 204, 3) := decAll_at aX10_value_0 30 rfl
theorem dX10_value_61 : decode cX10_value 61 = .ok (.ifCond .eq 21, 3) := decAll_at aX10_value_0 31 rfl
theorem dX10_value_64 : decode cX10_value 64 = .ok (.aload_n 0, 1) := decAll_at aX10_value_0 32 rfl
theorem dX10_value_65 : decode cX10_value 65 = .ok (.invokevirtual 235, 3) := decAll_at aX10_value_0 33 rfl
theorem dX10_value_68 : decode cX10_value 68 = .ok (.bipush 91, 2) := decAll_at aX10_value_0 34 rfl
theorem dX10_value_70 : decode cX10_value 70 = .ok (.if_icmp .ne 12, 3) := decAll_at aX10_value_0 35 rfl
theorem dX10_value_73 : decode cX10_value 73 = .ok (.aload_n 0, 1) := decAll_at aX10_value_0 36 rfl
theorem dX10_value_74 : decode cX10_value 74 = .ok (.iconst 1, 1) := decAll_at aX10_value_0 37 rfl
theorem dX10_value_75 : decode cX10_value 75 = .ok (.aload_n 0, 1) := decAll_at aX10_value_0 38 rfl
theorem dX10_value_76 : decode cX10_value 76 = .ok (.getfield 195, 3) := decAll_at aX10_value_0 39 rfl
theorem dX10_value_79 : decode cX10_value 79 = .ok (.invokevirtual 217, 3) := decAll_at aX10_value_0 40 rfl
theorem dX10_value_82 : decode cX10_value 82 = .ok (.return_, 1) := decAll_at aX10_value_0 41 rfl
def laX10_pieceOfC_0 : List (Nat × Instr × Nat) := [(0, .aload_n 0, 1), (1, .invokevirtual 204, 3), (4, .ifCond .eq 28, 3), (7, .aload_n 0, 1), (8, .invokevirtual 221, 3), (11, .bipush 33, 2), (13, .if_icmp .eq 12, 3), (16, .aload_n 0, 1), (17, .invokevirtual 221, 3), (20, .bipush 40, 2), (22, .if_icmp .ne 10, 3), (25, .aload_n 0, 1), (26, .invokevirtual 247, 3), (29, .goto (-29), 3), (32, .aload_n 0, 1), (33, .invokevirtual 204, 3), (36, .ifCond .eq 7, 3), (39, .aload_n 0, 1), (40, .invokevirtual 269, 3), (43, .aload_n 0, 1), (44, .invokevirtual 204, 3), (47, .ifCond .ne 4, 3), (50, .return_, 1), (51, .aload_n 0, 1), (52, .invokevirtual 221, 3), (55, .istore_n 1, 1), (56, .iload_n 1, 1), (57, .invokestatic 272, 3), (60, .ifCond .ne 13, 3), (63, .aload_n 0, 1), (64, .iconst 1, 1), (65, .aload_n 0, 1), (66, .getfield 195, 3), (69, .invokevirtual 217, 3), (72, .return_, 1), (73, .aload_n 0, 1), (74, .iload_n 1, 1), (75, .invokevirtual 225, 3), (78, .aload_n 0, 1), (79, .invokevirtual 269, 3), (82, .aload_n 0, 1), (83, .invokevirtual 204, 3), (86, .ifCond .ne 4, 3), (89, .return_, 1), (90, .aload_n 0, 1), (91, .aload_n 0, 1), (92, .invokevirtual 235, 3), (95, .iconst 0, 1), (96, .invokevirtual 244, 3), (99, .aload_n 0, 1), (100, .dup, 1), (101, .getfield 211, 3), (104, .iconst 1, 1), (105, .isub, 1), (106, .putfield 211, 3), (109, .aload_n 0, 1), (110, .invokevirtual 275, 3), (113, .return_, 1)]
theorem aX10_pieceOfC_0 : decAll cX10_pieceOfC laX10_pieceOfC_0 = true := by decide +kernel
theorem dX10_pieceOfC_0 : decode cX10_pieceOfC 0 = .ok (.aload_n 0, 1) := decAll_at aX10_pieceOfC_0 0 rfl
theorem dX10_pieceOfC_1 : decode cX10_pieceOfC 1 = .ok (.invokevirtual 204, 3) := decAll_at aX10_pieceOfC_0 1 rfl
theorem dX10_pieceOfC_4 : decode cX10_pieceOfC 4 = .ok (.ifCond .eq 28, 3) := decAll_at aX10_pieceOfC_0 2 rfl
theorem dX10_pieceOfC_7 : decode cX10_pieceOfC 7 = .ok (.aload_n 0, 1) := decAll_at aX10_pieceOfC_0 3 rfl
theorem dX10_pieceOfC_8 : decode cX10_pieceOfC 8 = .ok (.invokevirtual 221, 3) := decAll_at aX10_pieceOfC_0 4 rfl
theorem dX10_pieceOfC_11 : decode cX10_pieceOfC 11 = .ok (.bipush 33, 2) := decAll_at aX10_pieceOfC_0 5 rfl
theorem dX10_pieceOfC_13 : decode cX10_pieceOfC 13 = .ok (.if_icmp .eq 12, 3) := decAll_at aX10_pieceOfC_0 6 rfl
theorem dX10_pieceOfC_16 : decode cX10_pieceOfC 16 = .ok (.aload_n 0, 1) := decAll_at aX10_pieceOfC_0 7 rfl
theorem dX10_pieceOfC_17 : decode cX10_pieceOfC 17 = .ok (.invokevirtual 221, 3) := decAll_at aX10_pieceOfC_0 8 rfl
theorem dX10_pieceOfC_20 : decode cX10_pieceOfC 20 = .ok (.bipush 40, 2) := decAll_at aX10_pieceOfC_0 9 rfl
theorem dX10_pieceOfC_22 : decode cX10_pieceOfC 22 = .ok (.if_icmp .ne 10, 3) := decAll_at aX10_pieceOfC_0 10 rfl
theorem dX10_pieceOfC_25 : decode cX10_pieceOfC 25 = .ok (.aload_n 0, 1) := decAll_at aX10_pieceOfC_0 11 rfl
theorem dX10_pieceOfC_26 : decode cX10_pieceOfC 26 = .ok (.invokevirtual 247, 3) := decAll_at aX10_pieceOfC_0 12 rfl
theorem dX10_pieceOfC_29 : decode cX10_pieceOfC 29 = .ok (.goto (-29), 3) := decAll_at aX10_pieceOfC_0 13 rfl
theorem dX10_pieceOfC_32 : decode cX10_pieceOfC 32 = .ok (.aload_n 0, 1) := decAll_at aX10_pieceOfC_0 14 rfl
theorem dX10_pieceOfC_33 : decode cX10_pieceOfC 33 = .ok (.invokevirtual 204, 3) := decAll_at aX10_pieceOfC_0 15 rfl
theorem dX10_pieceOfC_36 : decode cX10_pieceOfC 36 = .ok (.ifCond .eq 7, 3) := decAll_at aX10_pieceOfC_0 16 rfl
theorem dX10_pieceOfC_39 : decode cX10_pieceOfC 39 = .ok (.aload_n 0, 1) := decAll_at aX10_pieceOfC_0 17 rfl
theorem dX10_pieceOfC_40 : decode cX10_pieceOfC 40 = .ok (.invokevirtual 269, 3) := decAll_at aX10_pieceOfC_0 18 rfl
theorem dX10_pieceOfC_43 : decode cX10_pieceOfC 43 = .ok (.aload_n 0, 1) := decAll_at aX10_pieceOfC_0 19 rfl
theorem dX10_pieceOfC_44 : decode cX10_pieceOfC 44 = .ok (.invokevirtual 204, 3) := decAll_at aX10_pieceOfC_0 20 rfl
theorem dX10_pieceOfC_47 : decode cX10_pieceOfC 47 = .ok (.ifCond .ne 4, 3) := decAll_at aX10_pieceOfC_0 21 rfl
theorem dX10_pieceOfC_50 : decode cX10_pieceOfC 50 = .ok (.return_, 1) := decAll_at aX10_pieceOfC_0 22 rfl
theorem dX10_pieceOfC_51 : decode cX10_pieceOfC 51 = .ok (.aload_n 0, 1) := decAll_at aX10_pieceOfC_0 23 rfl
theorem dX10_pieceOfC_52 : decode cX10_pieceOfC 52 = .ok (.invokevirtual 221, 3) := decAll_at aX10_pieceOfC_0 24 rfl
theorem dX10_pieceOfC_55 : decode cX10_pieceOfC 55 = .ok (.istore_n 1, 1) := decAll_at aX10_pieceOfC_0 25 rfl
theorem dX10_pieceOfC_56 : decode cX10_pieceOfC 56 = .ok (.iload_n 1, 1) := decAll_at aX10_pieceOfC_0 26 rfl
theorem dX10_pieceOfC_57 : decode cX10_pieceOfC 57 = .ok (.invokestatic 272, 3) := decAll_at aX10_pieceOfC_0 27 rfl
theorem dX10_pieceOfC_60 : decode cX10_pieceOfC 60 = .ok (.ifCond .ne 13, 3) := decAll_at aX10_pieceOfC_0 28 rfl
theorem dX10_pieceOfC_63 : decode cX10_pieceOfC 63 = .ok (.aload_n 0, 1) := decAll_at aX10_pieceOfC_0 29 rfl
theorem dX10_pieceOfC_64 : decode cX10_pieceOfC 64 = .ok (.iconst 1, 1) := decAll_at aX10_pieceOfC_0 30 rfl
theorem dX10_pieceOfC_65 : decode cX10_pieceOfC 65 = .ok (.aload_n 0, 1) := decAll_at aX10_pieceOfC_0 31 rfl
theorem dX10_pieceOfC_66 : decode cX10_pieceOfC 66 = .ok (.getfield 195, 3) := decAll_at aX10_pieceOfC_0 32 rfl
theorem dX10_pieceOfC_69 : decode cX10_pieceOfC 69 = .ok (.invokevirtual 217, 3) := decAll_at aX10_pieceOfC_0 33 rfl
theorem dX10_pieceOfC_72 : decode cX10_pieceOfC 72 = .ok (.return_, 1) := decAll_at aX10_pieceOfC_0 34 rfl
theorem dX10_pieceOfC_73 : decode cX10_pieceOfC 73 = .ok (.aload_n 0, 1) := decAll_at aX10_pieceOfC_0 35 rfl
theorem dX10_pieceOfC_74 : decode cX10_pieceOfC 74 = .ok (.iload_n 1, 1) := decAll_at aX10_pieceOfC_0 36 rfl
theorem dX10_pieceOfC_75 : decode cX10_pieceOfC 75 = .ok (.invokevirtual 225, 3) := decAll_at aX10_pieceOfC_0 37 rfl
theorem dX10_pieceOfC_78 : decode cX10_pieceOfC 78 = .ok (.aload_n 0, 1) := decAll_at aX10_pieceOfC_0 38 rfl
theorem dX10_pieceOfC_79 : decode cX10_pieceOfC 79 = .ok (.invokevirtual 269, 3) := decAll_at aX10_pieceOfC_0 39 rfl
theorem dX10_pieceOfC_82 : decode cX10_pieceOfC 82 = .ok (.aload_n 0, 1) := decAll_at aX10_pieceOfC_0 40 rfl
theorem dX10_pieceOfC_83 : decode cX10_pieceOfC 83 = .ok (.invokevirtual 204, 3) := decAll_at aX10_pieceOfC_0 41 rfl
theorem dX10_pieceOfC_86 : decode cX10_pieceOfC 86 = .ok (.ifCond .ne 4, 3) := decAll_at aX10_pieceOfC_0 42 rfl
theorem dX10_pieceOfC_89 : decode cX10_pieceOfC 89 = .ok (.return_, 1) := decAll_at aX10_pieceOfC_0 43 rfl
theorem dX10_pieceOfC_90 : decode cX10_pieceOfC 90 = .ok (.aload_n 0, 1) := decAll_at aX10_pieceOfC_0 44 rfl
theorem dX10_pieceOfC_91 : decode cX10_pieceOfC 91 = .ok (.aload_n 0, 1) := decAll_at aX10_pieceOfC_0 45 rfl
theorem dX10_pieceOfC_92 : decode cX10_pieceOfC 92 = .ok (.invokevirtual 235, 3) := decAll_at aX10_pieceOfC_0 46 rfl
theorem dX10_pieceOfC_95 : decode cX10_pieceOfC 95 = .ok (.iconst 0, 1) := decAll_at aX10_pieceOfC_0 47 rfl
theorem dX10_pieceOfC_96 : decode cX10_pieceOfC 96 = .ok (.invokevirtual 244, 3) := decAll_at aX10_pieceOfC_0 48 rfl
theorem dX10_pieceOfC_99 : decode cX10_pieceOfC 99 = .ok (.aload_n 0, 1) := decAll_at aX10_pieceOfC_0 49 rfl
theorem dX10_pieceOfC_100 : decode cX10_pieceOfC 100 = .ok (.dup, 1) := decAll_at aX10_pieceOfC_0 50 rfl
theorem dX10_pieceOfC_101 : decode cX10_pieceOfC 101 = .ok (.getfield 211, 3) := decAll_at aX10_pieceOfC_0 51 rfl
theorem dX10_pieceOfC_104 : decode cX10_pieceOfC 104 = .ok (.iconst 1, 1) := decAll_at aX10_pieceOfC_0 52 rfl
theorem dX10_pieceOfC_105 : decode cX10_pieceOfC 105 = .ok (.isub, 1) := decAll_at aX10_pieceOfC_0 53 rfl
theorem dX10_pieceOfC_106 : decode cX10_pieceOfC 106 = .ok (.putfield 211, 3) := decAll_at aX10_pieceOfC_0 54 rfl
theorem dX10_pieceOfC_109 : decode cX10_pieceOfC 109 = .ok (.aload_n 0, 1) := decAll_at aX10_pieceOfC_0 55 rfl
theorem dX10_pieceOfC_110 : decode cX10_pieceOfC 110 = .ok (.invokevirtual 275, 3) := decAll_at aX10_pieceOfC_0 56 rfl
theorem dX10_pieceOfC_113 : decode cX10_pieceOfC 113 = .ok (.return_, 1) := decAll_at aX10_pieceOfC_0 57 rfl
def laX10_goesBehind_0 : List (Nat × Instr × Nat) := [(0, .aload_n 0, 1), (1, .invokevirtual 221, 3), (4, .istore_n 1, 1), (5, .iload_n 1, 1), (6, .bipush 38, 2), (8, .if_icmp .eq 9, 3), (11, .iload_n 1, 1), (12, .bipush 124, 2), (14, .if_icmp .ne 25, 3), (17, .aload_n 0, 1), (18, .iload_n 1, 1), (19, .bipush 124, 2), (21, .if_icmp .ne 7, 3), (24, .iconst 1, 1), (25, .goto 4, 3), (28, .iconst 0, 1), (29, .invokevirtual 278, 3), (32, .aload_n 0, 1), (33, .iload_n 1, 1), (34, .invokevirtual 225, 3), (37, .iconst 1, 1), (38, .ireturn, 1), (39, .iload_n 1, 1), (40, .bipush 41, 2), (42, .if_icmp .eq 14, 3), (45, .aload_n 0, 1), (46, .iconst 1, 1), (47, .aload_n 0, 1), (48, .getfield 195, 3), (51, .invokevirtual 217, 3), (54, .iconst 0, 1), (55, .ireturn, 1), (56, .aload_n 0, 1), (57, .iconst 1, 1), (58, .invokevirtual 278, 3), (61, .aload_n 0, 1), (62, .dup, 1), (63, .getfield 211, 3), (66, .iconst 1, 1), (67, .isub, 1), (68, .putfield 211, 3), (71, .aload_n 0, 1), (72, .dup, 1), (73, .getfield 214, 3), (76, .iconst 1, 1), (77, .isub, 1), (78, .putfield 214, 3), (81, .aload_n 0, 1), (82, .dup, 1), (83, .getfield 195, 3), (86, .iconst 1, 1), (87, .iadd, 1), (88, .putfield 195, 3), (91, .aload_n 0, 1), (92, .aload_n 0, 1), (93, .getfield 211, 3), (96, .ifCond .ne 7, 3), (99, .iconst 1, 1), (100, .goto 4, 3), (103, .iconst 0, 1), (104, .putfield 281, 3), (107, .aload_n 0, 1), (108, .getfield 281, 3), (111, .ifCond .ne 7, 3)]
theorem aX10_goesBehind_0 : decAll cX10_goesBehind laX10_goesBehind_0 = true := by decide +kernel
theorem dX10_goesBehind_0 : decode cX10_goesBehind 0 = .ok (.aload_n 0, 1) := decAll_at aX10_goesBehind_0 0 rfl
theorem dX10_goesBehind_1 : decode cX10_goesBehind 1 = .ok (.invokevirtual 221, 3) := decAll_at aX10_goesBehind_0 1 rfl
theorem dX10_goesBehind_4 : decode cX10_goesBehind 4 = .ok (.istore_n 1, 1) := decAll_at aX10_goesBehind_0 2 rfl
theorem dX10_goesBehind_5 : decode cX10_goesBehind 5 = .ok (.iload_n 1, 1) := decAll_at aX10_goesBehind_0 3 rfl
theorem dX10_goesBehind_6 : decode cX10_goesBehind 6 = .ok (.bipush 38, 2) := decAll_at aX10_goesBehind_0 4 rfl
theorem dX10_goesBehind_8 : decode cX10_goesBehind 8 = .ok (.if_icmp .eq 9, 3) := decAll_at aX10_goesBehind_0 5 rfl
theorem dX10_goesBehind_11 : decode cX10_goesBehind 11 = .ok (.iload_n 1, 1) := decAll_at aX10_goesBehind_0 6 rfl
theorem dX10_goesBehind_12 : decode cX10_goesBehind 12 = .ok (.bipush 124, 2) := decAll_at aX10_goesBehind_0 7 rfl
theorem dX10_goesBehind_14 : decode cX10_goesBehind 14 = .ok (.if_icmp .ne 25, 3) := decAll_at aX10_goesBehind_0 8 rfl
theorem dX10_goesBehind_17 : decode cX10_goesBehind 17 = .ok (.aload_n 0, 1) := decAll_at aX10_goesBehind_0 9 rfl
theorem dX10_goesBehind_18 : decode cX10_goesBehind 18 = .ok (.iload_n 1, 1) := decAll_at aX10_goesBehind_0 10 rfl
theorem dX10_goesBehind_19 : decode cX10_goesBehind 19 = .ok (.bipush 124, 2) := decAll_at aX10_goesBehind_0 11 rfl
theorem dX10_goesBehind_21 : decode cX10_goesBehind 21 = .ok (.if_icmp .ne 7, 3) := decAll_at aX10_goesBehind_0 12 rfl
theorem dX10_goesBehind_24 : decode cX10_goesBehind 24 = .ok (.iconst 1, 1) := decAll_at aX10_goesBehind_0 13 rfl
theorem dX10_goesBehind_25 : decode cX10_goesBehind 25 = .ok (.goto 4, 3) := decAll_at aX10_goesBehind_0 14 rfl
theorem dX10_goesBehind_28 : decode cX10_goesBehind 28 = .ok (.iconst 0, 1) := decAll_at aX10_goesBehind_0 15 rfl
theorem dX10_goesBehind_29 : decode cX10_goesBehind 29 = .ok (.invokevirtual 278, 3) := decAll_at aX10_goesBehind_0 16 rfl
theorem dX10_goesBehind_32 : decode cX10_goesBehind 32 = .ok (.aload_n 0, 1) := decAll_at aX10_goesBehind_0 17 rfl
theorem dX10_goesBehind_33 : decode cX10_goesBehind 33 = .ok (.iload_n 1, 1) := decAll_at aX10_goesBehind_0 18 rfl
theorem dX10_goesBehind_34 : decode cX10_goesBehind 34 = .ok (.invokevirtual 225, 3) := decAll_at aX10_goesBehind_0 19 rfl
theorem dX10_goesBehind_37 : decode cX10_goesBehind 37 = .ok (.iconst 1, 1) := decAll_at aX10_goesBehind_0 20 rfl
theorem dX10_goesBehind_38 : decode cX10_goesBehind 38 = .ok (.ireturn, 1) := decAll_at aX10_goesBehind_0 21 rfl
theorem dX10_goesBehind_39 : decode cX10_goesBehind 39 = .ok (.iload_n 1, 1) := decAll_at aX10_goesBehind_0 22 rfl
theorem dX10_goesBehind_40 : decode cX10_goesBehind 40 = .ok (.bipush 41, 2) := decAll_at aX10_goesBehind_0 23 rfl
theorem dX10_goesBehind_42 : decode cX10_goesBehind 42 = .ok (.if_icmp .eq 14, 3) := decAll_at aX10_goesBehind_0 24 rfl
theorem dX10_goesBehind_45 : decode cX10_goesBehind 45 = .ok (.aload_n 0, 1) := decAll_at aX10_goesBehind_0 25 rfl
theorem dX10_goesBehind_46 : decode cX10_goesBehind 46 = .ok (.iconst 1, 1) := decAll_at aX10_goesBehind_0 26 rfl
theorem dX10_goesBehind_47 : decode cX10_goesBehind 47 = .ok (.aload_n 0, 1) := decAll_at aX10_goesBehind_0 27 rfl
theorem dX10_goesBehind_48 : decode cX10_goesBehind 48 = .ok (.getfield 195, 3) := decAll_at aX10_goesBehind_0 28 rfl
theorem dX10_goesBehind_51 : decode cX10_goesBehind 51 = .ok (.invokevirtual 217, 3) := decAll_at aX10_goesBehind_0 29 rfl
theorem dX10_goesBehind_54 : decode cX10_goesBehind 54 = .ok (.iconst 0, 1) := decAll_at aX10_goesBehind_0 30 rfl
theorem dX10_goesBehind_55 : decode cX10_goesBehind 55 = .ok (.ireturn, 1) := decAll_at aX10_goesBehind_0 31 rfl
theorem dX10_goesBehind_56 : decode cX10_goesBehind 56 = .ok (.aload_n 0, 1) := decAll_at aX10_goesBehind_0 32 rfl
theorem dX10_goesBehind_57 : decode cX10_goesBehind 57 = .ok (.iconst 1, 1) := decAll_at aX10_goesBehind_0 33 rfl
theorem dX10_goesBehind_58 : decode cX10_goesBehind 58 = .ok (.invokevirtual 278, 3) := decAll_at aX10_goesBehind_0 34 rfl
theorem dX10_goesBehind_61 : decode cX10_goesBehind 61 = .ok (.aload_n 0, 1) := decAll_at aX10_goesBehind_0 35 rfl
theorem dX10_goesBehind_62 : decode cX10_goesBehind 62 = .ok (.dup, 1) := decAll_at aX10_goesBehind_0 36 rfl
theorem dX10_goesBehind_63 : decode cX10_goesBehind 63 = .ok (.getfield 211, 3) := decAll_at aX10_goesBehind_0 37 rfl
theorem dX10_goesBehind_66 : decode cX10_goesBehind 66 = .ok (.iconst 1, 1) := decAll_at aX10_goesBehind_0 38 rfl
theorem dX10_goesBehind_67 : decode cX10_goesBehind 67 = .ok (.isub, 1) := decAll_at aX10_goesBehind_0 39 rfl
theorem dX10_goesBehind_68 : decode cX10_goesBehind 68 = .ok (.putfield 211, 3) := decAll_at aX10_goesBehind_0 40 rfl
theorem dX10_goesBehind_71 : decode cX10_goesBehind 71 = .ok (.aload_n 0, 1) := decAll_at aX10_goesBehind_0 41 rfl
theorem dX10_goesBehind_72 : decode cX10_goesBehind 72 = .ok (.dup, 1) := decAll_at aX10_goesBehind_0 42 rfl
theorem dX10_goesBehind_73 : decode cX10_goesBehind 73 = .ok (.getfield 214, 3) := decAll_at aX10_goesBehind_0 43 rfl
theorem dX10_goesBehind_76 : decode cX10_goesBehind 76 = .ok (.iconst 1, 1) := decAll_at aX10_goesBehind_0 44 rfl
theorem dX10_goesBehind_77 : decode cX10_goesBehind 77 = .ok (.isub, 1) := decAll_at aX10_goesBehind_0 45 rfl
theorem dX10_goesBehind_78 : decode cX10_goesBehind 78 = .ok (.putfield 214, 3) := decAll_at aX10_goesBehind_0 46 rfl
theorem dX10_goesBehind_81 : decode cX10_goesBehind 81 = .ok (.aload_n 0, 1) := decAll_at aX10_goesBehind_0 47 rfl
theorem dX10_goesBehind_82 : decode cX10_goesBehind 82 = .ok (.dup, 1) := decAll_at aX10_goesBehind_0 48 rfl
theorem dX10_goesBehind_83 : decode cX10_goesBehind 83 = .ok (.getfield 195, 3) := decAll_at aX10_goesBehind_0 49 rfl
theorem dX10_goesBehind_86 : decode cX10_goesBehind 86 = .ok (.iconst 1, 1) := decAll_at aX10_goesBehind_0 50 rfl
theorem dX10_goesBehind_87 : decode cX10_goesBehind 87 = .ok (.iadd, 1) := decAll_at aX10_goesBehind_0 51 rfl
theorem dX10_goesBehind_88 : decode cX10_goesBehind 88 = .ok (.putfield 195, 3) := decAll_at aX10_goesBehind_0 52 rfl
theorem dX10_goesBehind_91 : decode cX10_goesBehind 91 = .ok (.aload_n 0, 1) := decAll_at aX10_goesBehind_0 53 rfl
theorem dX10_goesBehind_92 : decode cX10_goesBehind 92 = .ok (.aload_n 0, 1) := decAll_at aX10_goesBehind_0 54 rfl
theorem dX10_goesBehind_93 : decode cX10_goesBehind 93 = .ok (.getfield 211, 3) := decAll_at aX10_goesBehind_0 55 rfl
theorem dX10_goesBehind_96 : decode cX10_goesBehind 96 = .ok (.ifCond .ne 7, 3) := decAll_at aX10_goesBehind_0 56 rfl
theorem dX10_goesBehind_99 : decode cX10_goesBehind 99 = .ok (.iconst 1, 1) := decAll_at aX10_goesBehind_0 57 rfl
theorem dX10_goesBehind_100 : decode cX10_goesBehind 100 = .ok (.goto 4, 3) := decAll_at aX10_goesBehind_0 58 rfl
theorem dX10_goesBehind_103 : decode cX10_goesBehind 103 = .ok (.iconst 0, 1) := decAll_at aX10_goesBehind_0 59 rfl
theorem dX10_goesBehind_104 : decode cX10_goesBehind 104 = .ok (.putfield 281, 3) := decAll_at aX10_goesBehind_0 60 rfl
theorem dX10_goesBehind_107 : decode cX10_goesBehind 107 = .ok (.aload_n 0, 1) := decAll_at aX10_goesBehind_0 61 rfl
theorem dX10_goesBehind_108 : decode cX10_goesBehind 108 = .ok (.getfield 281, 3) := decAll_at aX10_goesBehind_0 62 rfl
theorem dX10_goesBehind_111 : decode cX10_goesBehind 111 = .ok (.ifCond .ne 7, 3) := decAll_at aX10_goesBehind_0 63 rfl
def laX10_goesBehind_1 : List (Nat × Instr × Nat) := [(114, .aload_n 0, 1), (115, .invokevirtual 275, 3), (118, .iconst 0, 1), (119, .ireturn, 1)]
theorem aX10_goesBehind_1 : decAll cX10_goesBehind laX10_goesBehind_1 = true := by decide +kernel
theorem dX10_goesBehind_114 : decode cX10_goesBehind 114 = .ok (.aload_n 0, 1) := decAll_at aX10_goesBehind_1 0 rfl
theorem dX10_goesBehind_115 : decode cX10_goesBehind 115 = .ok (.invokevirtual 275, 3) := decAll_at aX10_goesBehind_1 1 rfl
theorem dX10_goesBehind_118 : decode cX10_goesBehind 118 = .ok (.iconst 0, 1) := decAll_at aX10_goesBehind_1 2 rfl
theorem dX10_goesBehind_119 : decode cX10_goesBehind 119 = .ok (.ireturn, 1) := decAll_at aX10_goesBehind_1 3 rfl
def laX10_condition_0 : List (Nat × Instr × Nat) := [(0, .aload_n 0, 1), (1, .iconst 0, 1), (2, .putfield 281, 3), (5, .aload_n 0, 1), (6, .invokevirtual 221, 3), (9, .bipush 40, 2), (11, .if_icmp .eq 12, 3), (14, .aload_n 0, 1), (15, .iconst 1, 1), (16, .aload_n 0, 1), (17, .getfield 195, 3), (20, .invokevirtual 217, 3), (23, .aload_n 0, 1), (24, .invokevirtual 204, 3), (27, .ifCond .ne 4, 3), (30, .return_, 1), (31, .aload_n 0, 1), (32, .invokevirtual 247, 3), (35, .iconst 1, 1), (36, .istore_n 1, 1), (37, .aload_n 0, 1), (38, .invokevirtual 204, 3), (41, .ifCond .eq 33, 3), (44, .aload_n 0, 1), (45, .getfield 281, 3), (48, .ifCond .ne 26, 3), (51, .iload_n 1, 1), (52, .ifCond .eq 7, 3), (55, .aload_n 0, 1), (56, .invokevirtual 284, 3), (59, .aload_n 0, 1), (60, .invokevirtual 204, 3), (63, .ifCond .eq (-26), 3), (66, .aload_n 0, 1), (67, .invokevirtual 287, 3), (70, .istore_n 1, 1), (71, .goto (-34), 3), (74, .return_, 1)]
theorem aX10_condition_0 : decAll cX10_condition laX10_condition_0 = true := by decide +kernel
theorem dX10_condition_0 : decode cX10_condition 0 = .ok (.aload_n 0, 1) := decAll_at aX10_condition_0 0 rfl
theorem dX10_condition_1 : decode cX10_condition 1 = .ok (.iconst 0, 1) := decAll_at aX10_condition_0 1 rfl
theorem dX10_condition_2 : decode cX10_condition 2 = .ok (.putfield 281, 3) := decAll_at aX10_condition_0 2 rfl
theorem dX10_condition_5 : decode cX10_condition 5 = .ok (.aload_n 0, 1) := decAll_at aX10_condition_0 3 rfl
theorem dX10_condition_6 : decode cX10_condition 6 = .ok (.invokevirtual 221, 3) := decAll_at aX10_condition_0 4 rfl
theorem dX10_condition_9 : decode cX10_condition 9 = .ok (.bipush 40, 2) := decAll_at aX10_condition_0 5 rfl
theorem dX10_condition_11 : decode cX10_condition 11 = .ok (.if_icmp .eq 12, 3) := decAll_at aX10_condition_0 6 rfl
theorem dX10_condition_14 : decode cX10_condition 14 = .ok (.aload_n 0, 1) := decAll_at aX10_condition_0 7 rfl
theorem dX10_condition_15 : decode cX10_condition 15 = .ok (.iconst 1, 1) := decAll_at aX10_condition_0 8 rfl
theorem dX10_condition_16 : decode cX10_condition 16 = .ok (.aload_n 0, 1) := decAll_at aX10_condition_0 9 rfl
theorem dX10_condition_17 : decode cX10_condition 17 = .ok (.getfield 195, 3) := decAll_at aX10_condition_0 10 rfl
theorem dX10_condition_20 : decode cX10_condition 20 = .ok (.invokevirtual 217, 3) := decAll_at aX10_condition_0 11 rfl
theorem dX10_condition_23 : decode cX10_condition 23 = .ok (.aload_n 0, 1) := decAll_at aX10_condition_0 12 rfl
theorem dX10_condition_24 : decode cX10_condition 24 = .ok (.invokevirtual 204, 3) := decAll_at aX10_condition_0 13 rfl
theorem dX10_condition_27 : decode cX10_condition 27 = .ok (.ifCond .ne 4, 3) := decAll_at aX10_condition_0 14 rfl
theorem dX10_condition_30 : decode cX10_condition 30 = .ok (.return_, 1) := decAll_at aX10_condition_0 15 rfl
theorem dX10_condition_31 : decode cX10_condition 31 = .ok (.aload_n 0, 1) := decAll_at aX10_condition_0 16 rfl
theorem dX10_condition_32 : decode cX10_condition 32 = .ok (.invokevirtual 247, 3) := decAll_at aX10_condition_0 17 rfl
theorem dX10_condition_35 : decode cX10_condition 35 = .ok (.iconst 1, 1) := decAll_at aX10_condition_0 18 rfl
theorem dX10_condition_36 : decode cX10_condition 36 = .ok (.istore_n 1, 1) := decAll_at aX10_condition_0 19 rfl
theorem dX10_condition_37 : decode cX10_condition 37 = .ok (.aload_n 0, 1) := decAll_at aX10_condition_0 20 rfl
theorem dX10_condition_38 : decode cX10_condition 38 = .ok (.invokevirtual 204, 3) := decAll_at aX10_condition_0 21 rfl
theorem dX10_condition_41 : decode cX10_condition 41 = .ok (.ifCond .eq 33, 3) := decAll_at aX10_condition_0 22 rfl
theorem dX10_condition_44 : decode cX10_condition 44 = .ok (.aload_n 0, 1) := decAll_at aX10_condition_0 23 rfl
theorem dX10_condition_45 : decode cX10_condition 45 = .ok (.getfield 281, 3) := decAll_at aX10_condition_0 24 rfl
theorem dX10_condition_48 : decode cX10_condition 48 = .ok (.ifCond .ne 26, 3) := decAll_at aX10_condition_0 25 rfl
theorem dX10_condition_51 : decode cX10_condition 51 = .ok (.iload_n 1, 1) := decAll_at aX10_condition_0 26 rfl
theorem dX10_condition_52 : decode cX10_condition 52 = .ok (.ifCond .eq 7, 3) := decAll_at aX10_condition_0 27 rfl
theorem dX10_condition_55 : decode cX10_condition 55 = .ok (.aload_n 0, 1) := decAll_at aX10_condition_0 28 rfl
theorem dX10_condition_56 : decode cX10_condition 56 = .ok (.invokevirtual 284, 3) := decAll_at aX10_condition_0 29 rfl
theorem dX10_condition_59 : decode cX10_condition 59 = .ok (.aload_n 0, 1) := decAll_at aX10_condition_0 30 rfl
theorem dX10_condition_60 : decode cX10_condition 60 = .ok (.invokevirtual 204, 3) := decAll_at aX10_condition_0 31 rfl
theorem dX10_condition_63 : decode cX10_condition 63 = .ok (.ifCond .eq (-26), 3) := decAll_at aX10_condition_0 32 rfl
theorem dX10_condition_66 : decode cX10_condition 66 = .ok (.aload_n 0, 1) := decAll_at aX10_condition_0 33 rfl
theorem dX10_condition_67 : decode cX10_condition 67 = .ok (.invokevirtual 287, 3) := decAll_at aX10_condition_0 34 rfl
theorem dX10_condition_70 : decode cX10_condition 70 = .ok (.istore_n 1, 1) := decAll_at aX10_condition_0 35 rfl
theorem dX10_condition_71 : decode cX10_condition 71 = .ok (.goto (-34), 3) := decAll_at aX10_condition_0 36 rfl
theorem dX10_condition_74 : decode cX10_condition 74 = .ok (.return_, 1) := decAll_at aX10_condition_0 37 rfl
def laX10_clause_0 : List (Nat × Instr × Nat) := [(0, .aload_n 0, 1), (1, .invokevirtual 221, 3), (4, .istore_n 1, 1), (5, .iload_n 1, 1), (6, .bipush 118, 2), (8, .if_icmp .eq 27, 3), (11, .iload_n 1, 1), (12, .bipush 103, 2), (14, .if_icmp .eq 21, 3), (17, .iload_n 1, 1), (18, .bipush 114, 2), (20, .if_icmp .eq 15, 3), (23, .aload_n 0, 1), (24, .iconst 1, 1), (25, .aload_n 0, 1), (26, .getfield 195, 3), (29, .invokevirtual 217, 3), (32, .goto 21, 3), (35, .aload_n 0, 1), (36, .getfield 290, 3), (39, .bipush 14, 2), (41, .if_icmp .ne 12, 3), (44, .aload_n 0, 1), (45, .iconst 4, 1), (46, .aload_n 0, 1), (47, .getfield 195, 3), (50, .invokevirtual 217, 3), (53, .aload_n 0, 1), (54, .invokevirtual 204, 3), (57, .ifCond .ne 4, 3), (60, .return_, 1), (61, .aload_n 0, 1), (62, .getfield 61, 3), (65, .aload_n 0, 1), (66, .getfield 290, 3), (69, .iload_n 1, 1), (70, .iastore, 1), (71, .aload_n 0, 1), (72, .getfield 64, 3), (75, .aload_n 0, 1), (76, .getfield 290, 3), (79, .aload_n 0, 1), (80, .getfield 208, 3), (83, .iastore, 1), (84, .aload_n 0, 1), (85, .dup, 1), (86, .getfield 195, 3), (89, .iconst 1, 1), (90, .iadd, 1), (91, .putfield 195, 3), (94, .aload_n 0, 1), (95, .iconst 0, 1), (96, .putfield 211, 3), (99, .aload_n 0, 1), (100, .iconst 0, 1), (101, .putfield 214, 3), (104, .aload_n 0, 1), (105, .invokevirtual 269, 3), (108, .aload_n 0, 1), (109, .getfield 67, 3), (112, .aload_n 0, 1), (113, .getfield 290, 3), (116, .aload_n 0, 1), (117, .getfield 208, 3)]
theorem aX10_clause_0 : decAll cX10_clause laX10_clause_0 = true := by decide +kernel
theorem dX10_clause_0 : decode cX10_clause 0 = .ok (.aload_n 0, 1) := decAll_at aX10_clause_0 0 rfl
theorem dX10_clause_1 : decode cX10_clause 1 = .ok (.invokevirtual 221, 3) := decAll_at aX10_clause_0 1 rfl
theorem dX10_clause_4 : decode cX10_clause 4 = .ok (.istore_n 1, 1) := decAll_at aX10_clause_0 2 rfl
theorem dX10_clause_5 : decode cX10_clause 5 = .ok (.iload_n 1, 1) := decAll_at aX10_clause_0 3 rfl
theorem dX10_clause_6 : decode cX10_clause 6 = .ok (.bipush 118, 2) := decAll_at aX10_clause_0 4 rfl
theorem dX10_clause_8 : decode cX10_clause 8 = .ok (.if_icmp .eq 27, 3) := decAll_at aX10_clause_0 5 rfl
theorem dX10_clause_11 : decode cX10_clause 11 = .ok (.iload_n 1, 1) := decAll_at aX10_clause_0 6 rfl
theorem dX10_clause_12 : decode cX10_clause 12 = .ok (.bipush 103, 2) := decAll_at aX10_clause_0 7 rfl
theorem dX10_clause_14 : decode cX10_clause 14 = .ok (.if_icmp .eq 21, 3) := decAll_at aX10_clause_0 8 rfl
theorem dX10_clause_17 : decode cX10_clause 17 = .ok (.iload_n 1, 1) := decAll_at aX10_clause_0 9 rfl
theorem dX10_clause_18 : decode cX10_clause 18 = .ok (.bipush 114, 2) := decAll_at aX10_clause_0 10 rfl
theorem dX10_clause_20 : decode cX10_clause 20 = .ok (.if_icmp .eq 15, 3) := decAll_at aX10_clause_0 11 rfl
theorem dX10_clause_23 : decode cX10_clause 23 = .ok (.aload_n 0, 1) := decAll_at aX10_clause_0 12 rfl
theorem dX10_clause_24 : decode cX10_clause 24 = .ok (.iconst 1, 1) := decAll_at aX10_clause_0 13 rfl
theorem dX10_clause_25 : decode cX10_clause 25 = .ok (.aload_n 0, 1) := decAll_at aX10_clause_0 14 rfl
theorem dX10_clause_26 : decode cX10_clause 26 = .ok (.getfield 195, 3) := decAll_at aX10_clause_0 15 rfl
theorem dX10_clause_29 : decode cX10_clause 29 = .ok (.invokevirtual 217, 3) := decAll_at aX10_clause_0 16 rfl
theorem dX10_clause_32 : decode cX10_clause 32 = .ok (.goto 21, 3) := decAll_at aX10_clause_0 17 rfl
theorem dX10_clause_35 : decode cX10_clause 35 = .ok (.aload_n 0, 1) := decAll_at aX10_clause_0 18 rfl
theorem dX10_clause_36 : decode cX10_clause 36 = .ok (.getfield 290, 3) := decAll_at aX10_clause_0 19 rfl
theorem dX10_clause_39 : decode cX10_clause 39 = .ok (.bipush 14, 2) := decAll_at aX10_clause_0 20 rfl
theorem dX10_clause_41 : decode cX10_clause 41 = .ok (.if_icmp .ne 12, 3) := decAll_at aX10_clause_0 21 rfl
theorem dX10_clause_44 : decode cX10_clause 44 = .ok (.aload_n 0, 1) := decAll_at aX10_clause_0 22 rfl
theorem dX10_clause_45 : decode cX10_clause 45 = .ok (.iconst 4, 1) := decAll_at aX10_clause_0 23 rfl
theorem dX10_clause_46 : decode cX10_clause 46 = .ok (.aload_n 0, 1) := decAll_at aX10_clause_0 24 rfl
theorem dX10_clause_47 : decode cX10_clause 47 = .ok (.getfield 195, 3) := decAll_at aX10_clause_0 25 rfl
theorem dX10_clause_50 : decode cX10_clause 50 = .ok (.invokevirtual 217, 3) := decAll_at aX10_clause_0 26 rfl
theorem dX10_clause_53 : decode cX10_clause 53 = .ok (.aload_n 0, 1) := decAll_at aX10_clause_0 27 rfl
theorem dX10_clause_54 : decode cX10_clause 54 = .ok (.invokevirtual 204, 3) := decAll_at aX10_clause_0 28 rfl
theorem dX10_clause_57 : decode cX10_clause 57 = .ok (.ifCond .ne 4, 3) := decAll_at aX10_clause_0 29 rfl
theorem dX10_clause_60 : decode cX10_clause 60 = .ok (.return_, 1) := decAll_at aX10_clause_0 30 rfl
theorem dX10_clause_61 : decode cX10_clause 61 = .ok (.aload_n 0, 1) := decAll_at aX10_clause_0 31 rfl
theorem dX10_clause_62 : decode cX10_clause 62 = .ok (.getfield 61, 3) := decAll_at aX10_clause_0 32 rfl
theorem dX10_clause_65 : decode cX10_clause 65 = .ok (.aload_n 0, 1) := decAll_at aX10_clause_0 33 rfl
theorem dX10_clause_66 : decode cX10_clause 66 = .ok (.getfield 290, 3) := decAll_at aX10_clause_0 34 rfl
theorem dX10_clause_69 : decode cX10_clause 69 = .ok (.iload_n 1, 1) := decAll_at aX10_clause_0 35 rfl
theorem dX10_clause_70 : decode cX10_clause 70 = .ok (.iastore, 1) := decAll_at aX10_clause_0 36 rfl
theorem dX10_clause_71 : decode cX10_clause 71 = .ok (.aload_n 0, 1) := decAll_at aX10_clause_0 37 rfl
theorem dX10_clause_72 : decode cX10_clause 72 = .ok (.getfield 64, 3) := decAll_at aX10_clause_0 38 rfl
theorem dX10_clause_75 : decode cX10_clause 75 = .ok (.aload_n 0, 1) := decAll_at aX10_clause_0 39 rfl
theorem dX10_clause_76 : decode cX10_clause 76 = .ok (.getfield 290, 3) := decAll_at aX10_clause_0 40 rfl
theorem dX10_clause_79 : decode cX10_clause 79 = .ok (.aload_n 0, 1) := decAll_at aX10_clause_0 41 rfl
theorem dX10_clause_80 : decode cX10_clause 80 = .ok (.getfield 208, 3) := decAll_at aX10_clause_0 42 rfl
theorem dX10_clause_83 : decode cX10_clause 83 = .ok (.iastore, 1) := decAll_at aX10_clause_0 43 rfl
theorem dX10_clause_84 : decode cX10_clause 84 = .ok (.aload_n 0, 1) := decAll_at aX10_clause_0 44 rfl
theorem dX10_clause_85 : decode cX10_clause 85 = .ok (.dup, 1) := decAll_at aX10_clause_0 45 rfl
theorem dX10_clause_86 : decode cX10_clause 86 = .ok (.getfield 195, 3) := decAll_at aX10_clause_0 46 rfl
theorem dX10_clause_89 : decode cX10_clause 89 = .ok (.iconst 1, 1) := decAll_at aX10_clause_0 47 rfl
theorem dX10_clause_90 : decode cX10_clause 90 = .ok (.iadd, 1) := decAll_at aX10_clause_0 48 rfl
theorem dX10_clause_91 : decode cX10_clause 91 = .ok (.putfield 195, 3) := decAll_at aX10_clause_0 49 rfl
theorem dX10_clause_94 : decode cX10_clause 94 = .ok (.aload_n 0, 1) := decAll_at aX10_clause_0 50 rfl
theorem dX10_clause_95 : decode cX10_clause 95 = .ok (.iconst 0, 1) := decAll_at aX10_clause_0 51 rfl
theorem dX10_clause_96 : decode cX10_clause 96 = .ok (.putfield 211, 3) := decAll_at aX10_clause_0 52 rfl
theorem dX10_clause_99 : decode cX10_clause 99 = .ok (.aload_n 0, 1) := decAll_at aX10_clause_0 53 rfl
theorem dX10_clause_100 : decode cX10_clause 100 = .ok (.iconst 0, 1) := decAll_at aX10_clause_0 54 rfl
theorem dX10_clause_101 : decode cX10_clause 101 = .ok (.putfield 214, 3) := decAll_at aX10_clause_0 55 rfl
theorem dX10_clause_104 : decode cX10_clause 104 = .ok (.aload_n 0, 1) := decAll_at aX10_clause_0 56 rfl
theorem dX10_clause_105 : decode cX10_clause 105 = .ok (.invokevirtual 269, 3) := decAll_at aX10_clause_0 57 rfl
theorem dX10_clause_108 : decode cX10_clause 108 = .ok (.aload_n 0, 1) := decAll_at aX10_clause_0 58 rfl
theorem dX10_clause_109 : decode cX10_clause 109 = .ok (.getfield 67, 3) := decAll_at aX10_clause_0 59 rfl
theorem dX10_clause_112 : decode cX10_clause 112 = .ok (.aload_n 0, 1) := decAll_at aX10_clause_0 60 rfl
theorem dX10_clause_113 : decode cX10_clause 113 = .ok (.getfield 290, 3) := decAll_at aX10_clause_0 61 rfl
theorem dX10_clause_116 : decode cX10_clause 116 = .ok (.aload_n 0, 1) := decAll_at aX10_clause_0 62 rfl
theorem dX10_clause_117 : decode cX10_clause 117 = .ok (.getfield 208, 3) := decAll_at aX10_clause_0 63 rfl
def laX10_clause_1 : List (Nat × Instr × Nat) := [(120, .iastore, 1), (121, .aload_n 0, 1), (122, .invokevirtual 204, 3), (125, .ifCond .eq 7, 3), (128, .aload_n 0, 1), (129, .invokevirtual 293, 3), (132, .aload_n 0, 1), (133, .getfield 70, 3), (136, .aload_n 0, 1), (137, .getfield 290, 3), (140, .aload_n 0, 1), (141, .getfield 208, 3), (144, .iastore, 1), (145, .aload_n 0, 1), (146, .dup, 1), (147, .getfield 290, 3), (150, .iconst 1, 1), (151, .iadd, 1), (152, .putfield 290, 3), (155, .return_, 1)]
theorem aX10_clause_1 : decAll cX10_clause laX10_clause_1 = true := by decide +kernel
theorem dX10_clause_120 : decode cX10_clause 120 = .ok (.iastore, 1) := decAll_at aX10_clause_1 0 rfl
theorem dX10_clause_121 : decode cX10_clause 121 = .ok (.aload_n 0, 1) := decAll_at aX10_clause_1 1 rfl
theorem dX10_clause_122 : decode cX10_clause 122 = .ok (.invokevirtual 204, 3) := decAll_at aX10_clause_1 2 rfl
theorem dX10_clause_125 : decode cX10_clause 125 = .ok (.ifCond .eq 7, 3) := decAll_at aX10_clause_1 3 rfl
theorem dX10_clause_128 : decode cX10_clause 128 = .ok (.aload_n 0, 1) := decAll_at aX10_clause_1 4 rfl
theorem dX10_clause_129 : decode cX10_clause 129 = .ok (.invokevirtual 293, 3) := decAll_at aX10_clause_1 5 rfl
theorem dX10_clause_132 : decode cX10_clause 132 = .ok (.aload_n 0, 1) := decAll_at aX10_clause_1 6 rfl
theorem dX10_clause_133 : decode cX10_clause 133 = .ok (.getfield 70, 3) := decAll_at aX10_clause_1 7 rfl
theorem dX10_clause_136 : decode cX10_clause 136 = .ok (.aload_n 0, 1) := decAll_at aX10_clause_1 8 rfl
theorem dX10_clause_137 : decode cX10_clause 137 = .ok (.getfield 290, 3) := decAll_at aX10_clause_1 9 rfl
theorem dX10_clause_140 : decode cX10_clause 140 = .ok (.aload_n 0, 1) := decAll_at aX10_clause_1 10 rfl
theorem dX10_clause_141 : decode cX10_clause 141 = .ok (.getfield 208, 3) := decAll_at aX10_clause_1 11 rfl
theorem dX10_clause_144 : decode cX10_clause 144 = .ok (.iastore, 1) := decAll_at aX10_clause_1 12 rfl
theorem dX10_clause_145 : decode cX10_clause 145 = .ok (.aload_n 0, 1) := decAll_at aX10_clause_1 13 rfl
theorem dX10_clause_146 : decode cX10_clause 146 = .ok (.dup, 1) := decAll_at aX10_clause_1 14 rfl
theorem dX10_clause_147 : decode cX10_clause 147 = .ok (.getfield 290, 3) := decAll_at aX10_clause_1 15 rfl
theorem dX10_clause_150 : decode cX10_clause 150 = .ok (.iconst 1, 1) := decAll_at aX10_clause_1 16 rfl
theorem dX10_clause_151 : decode cX10_clause 151 = .ok (.iadd, 1) := decAll_at aX10_clause_1 17 rfl
theorem dX10_clause_152 : decode cX10_clause 152 = .ok (.putfield 290, 3) := decAll_at aX10_clause_1 18 rfl
theorem dX10_clause_155 : decode cX10_clause 155 = .ok (.return_, 1) := decAll_at aX10_clause_1 19 rfl
def laX10_text_0 : List (Nat × Instr × Nat) := [(0, .iload_n 1, 1), (1, .i2l, 1), (2, .lconst 1, 1), (3, .ldc2_w 296, 3), (6, .invokestatic 153, 3), (9, .ifCond .eq 11, 3), (12, .iload_n 1, 1), (13, .aload_n 0, 1), (14, .getfield 188, 3), (17, .if_icmp .le 5, 3), (20, .iconst (-1), 1), (21, .ireturn, 1), (22, .aload_n 0, 1), (23, .iconst 0, 1), (24, .putfield 188, 3), (27, .aload_n 0, 1), (28, .iconst 0, 1), (29, .putfield 195, 3), (32, .aload_n 0, 1), (33, .iload_n 1, 1), (34, .putfield 198, 3), (37, .aload_n 0, 1), (38, .iconst 0, 1), (39, .putfield 201, 3), (42, .aload_n 0, 1), (43, .iconst 0, 1), (44, .putfield 290, 3), (47, .aload_n 0, 1), (48, .iconst 0, 1), (49, .putfield 208, 3), (52, .iconst 1, 1), (53, .istore_n 2, 1), (54, .iload_n 2, 1), (55, .ifCond .eq 73, 3), (58, .aload_n 0, 1), (59, .invokevirtual 204, 3), (62, .ifCond .eq 66, 3), (65, .aload_n 0, 1), (66, .invokevirtual 298, 3), (69, .aload_n 0, 1), (70, .invokevirtual 204, 3), (73, .ifCond .eq 18, 3), (76, .aload_n 0, 1), (77, .getfield 195, 3), (80, .aload_n 0, 1), (81, .getfield 198, 3), (84, .if_icmp .ge 7, 3), (87, .iconst 1, 1), (88, .goto 4, 3), (91, .iconst 0, 1), (92, .istore_n 2, 1), (93, .iload_n 2, 1), (94, .ifCond .eq (-40), 3), (97, .aload_n 0, 1), (98, .invokevirtual 221, 3), (101, .bipush 59, 2), (103, .if_icmp .eq 12, 3), (106, .aload_n 0, 1), (107, .iconst 1, 1), (108, .aload_n 0, 1), (109, .getfield 195, 3), (112, .invokevirtual 217, 3), (115, .aload_n 0, 1), (116, .dup, 1)]
theorem aX10_text_0 : decAll cX10_text laX10_text_0 = true := by decide +kernel
theorem dX10_text_0 : decode cX10_text 0 = .ok (.iload_n 1, 1) := decAll_at aX10_text_0 0 rfl
theorem dX10_text_1 : decode cX10_text 1 = .ok (.i2l, 1) := decAll_at aX10_text_0 1 rfl
theorem dX10_text_2 : decode cX10_text 2 = .ok (.lconst 1, 1) := decAll_at aX10_text_0 2 rfl
theorem dX10_text_3 : decode cX10_text 3 = .ok (.ldc2_w 296, 3) := decAll_at aX10_text_0 3 rfl
theorem dX10_text_6 : decode cX10_text 6 = .ok (.invokestatic 153, 3) := decAll_at aX10_text_0 4 rfl
theorem dX10_text_9 : decode cX10_text 9 = .ok (.ifCond .eq 11, 3) := decAll_at aX10_text_0 5 rfl
theorem dX10_text_12 : decode cX10_text 12 = .ok (.iload_n 1, 1) := decAll_at aX10_text_0 6 rfl
theorem dX10_text_13 : decode cX10_text 13 = .ok (.aload_n 0, 1) := decAll_at aX10_text_0 7 rfl
theorem dX10_text_14 : decode cX10_text 14 = .ok (.getfield 188, 3) := decAll_at aX10_text_0 8 rfl
theorem dX10_text_17 : decode cX10_text 17 = .ok (.if_icmp .le 5, 3) := decAll_at aX10_text_0 9 rfl
theorem dX10_text_20 : decode cX10_text 20 = .ok (.iconst (-1), 1) := decAll_at aX10_text_0 10 rfl
theorem dX10_text_21 : decode cX10_text 21 = .ok (.ireturn, 1) := decAll_at aX10_text_0 11 rfl
theorem dX10_text_22 : decode cX10_text 22 = .ok (.aload_n 0, 1) := decAll_at aX10_text_0 12 rfl
theorem dX10_text_23 : decode cX10_text 23 = .ok (.iconst 0, 1) := decAll_at aX10_text_0 13 rfl
theorem dX10_text_24 : decode cX10_text 24 = .ok (.putfield 188, 3) := decAll_at aX10_text_0 14 rfl
theorem dX10_text_27 : decode cX10_text 27 = .ok (.aload_n 0, 1) := decAll_at aX10_text_0 15 rfl
theorem dX10_text_28 : decode cX10_text 28 = .ok (.iconst 0, 1) := decAll_at aX10_text_0 16 rfl
theorem dX10_text_29 : decode cX10_text 29 = .ok (.putfield 195, 3) := decAll_at aX10_text_0 17 rfl
theorem dX10_text_32 : decode cX10_text 32 = .ok (.aload_n 0, 1) := decAll_at aX10_text_0 18 rfl
theorem dX10_text_33 : decode cX10_text 33 = .ok (.iload_n 1, 1) := decAll_at aX10_text_0 19 rfl
theorem dX10_text_34 : decode cX10_text 34 = .ok (.putfield 198, 3) := decAll_at aX10_text_0 20 rfl
theorem dX10_text_37 : decode cX10_text 37 = .ok (.aload_n 0, 1) := decAll_at aX10_text_0 21 rfl
theorem dX10_text_38 : decode cX10_text 38 = .ok (.iconst 0, 1) := decAll_at aX10_text_0 22 rfl
theorem dX10_text_39 : decode cX10_text 39 = .ok (.putfield 201, 3) := decAll_at aX10_text_0 23 rfl
theorem dX10_text_42 : decode cX10_text 42 = .ok (.aload_n 0, 1) := decAll_at aX10_text_0 24 rfl
theorem dX10_text_43 : decode cX10_text 43 = .ok (.iconst 0, 1) := decAll_at aX10_text_0 25 rfl
theorem dX10_text_44 : decode cX10_text 44 = .ok (.putfield 290, 3) := decAll_at aX10_text_0 26 rfl
theorem dX10_text_47 : decode cX10_text 47 = .ok (.aload_n 0, 1) := decAll_at aX10_text_0 27 rfl
theorem dX10_text_48 : decode cX10_text 48 = .ok (.iconst 0, 1) := decAll_at aX10_text_0 28 rfl
theorem dX10_text_49 : decode cX10_text 49 = .ok (.putfield 208, 3) := decAll_at aX10_text_0 29 rfl
theorem dX10_text_52 : decode cX10_text 52 = .ok (.iconst 1, 1) := decAll_at aX10_text_0 30 rfl
theorem dX10_text_53 : decode cX10_text 53 = .ok (.istore_n 2, 1) := decAll_at aX10_text_0 31 rfl
theorem dX10_text_54 : decode cX10_text 54 = .ok (.iload_n 2, 1) := decAll_at aX10_text_0 32 rfl
theorem dX10_text_55 : decode cX10_text 55 = .ok (.ifCond .eq 73, 3) := decAll_at aX10_text_0 33 rfl
theorem dX10_text_58 : decode cX10_text 58 = .ok (.aload_n 0, 1) := decAll_at aX10_text_0 34 rfl
theorem dX10_text_59 : decode cX10_text 59 = .ok (.invokevirtual 204, 3) := decAll_at aX10_text_0 35 rfl
theorem dX10_text_62 : decode cX10_text 62 = .ok (.ifCond .eq 66, 3) := decAll_at aX10_text_0 36 rfl
theorem dX10_text_65 : decode cX10_text 65 = .ok (.aload_n 0, 1) := decAll_at aX10_text_0 37 rfl
theorem dX10_text_66 : decode cX10_text 66 = .ok (.invokevirtual 298, 3) := decAll_at aX10_text_0 38 rfl
theorem dX10_text_69 : decode cX10_text 69 = .ok (.aload_n 0, 1) := decAll_at aX10_text_0 39 rfl
theorem dX10_text_70 : decode cX10_text 70 = .ok (.invokevirtual 204, 3) := decAll_at aX10_text_0 40 rfl
theorem dX10_text_73 : decode cX10_text 73 = .ok (.ifCond .eq 18, 3) := decAll_at aX10_text_0 41 rfl
theorem dX10_text_76 : decode cX10_text 76 = .ok (.aload_n 0, 1) := decAll_at aX10_text_0 42 rfl
theorem dX10_text_77 : decode cX10_text 77 = .ok (.getfield 195, 3) := decAll_at aX10_text_0 43 rfl
theorem dX10_text_80 : decode cX10_text 80 = .ok (.aload_n 0, 1) := decAll_at aX10_text_0 44 rfl
theorem dX10_text_81 : decode cX10_text 81 = .ok (.getfield 198, 3) := decAll_at aX10_text_0 45 rfl
theorem dX10_text_84 : decode cX10_text 84 = .ok (.if_icmp .ge 7, 3) := decAll_at aX10_text_0 46 rfl
theorem dX10_text_87 : decode cX10_text 87 = .ok (.iconst 1, 1) := decAll_at aX10_text_0 47 rfl
theorem dX10_text_88 : decode cX10_text 88 = .ok (.goto 4, 3) := decAll_at aX10_text_0 48 rfl
theorem dX10_text_91 : decode cX10_text 91 = .ok (.iconst 0, 1) := decAll_at aX10_text_0 49 rfl
theorem dX10_text_92 : decode cX10_text 92 = .ok (.istore_n 2, 1) := decAll_at aX10_text_0 50 rfl
theorem dX10_text_93 : decode cX10_text 93 = .ok (.iload_n 2, 1) := decAll_at aX10_text_0 51 rfl
theorem dX10_text_94 : decode cX10_text 94 = .ok (.ifCond .eq (-40), 3) := decAll_at aX10_text_0 52 rfl
theorem dX10_text_97 : decode cX10_text 97 = .ok (.aload_n 0, 1) := decAll_at aX10_text_0 53 rfl
theorem dX10_text_98 : decode cX10_text 98 = .ok (.invokevirtual 221, 3) := decAll_at aX10_text_0 54 rfl
theorem dX10_text_101 : decode cX10_text 101 = .ok (.bipush 59, 2) := decAll_at aX10_text_0 55 rfl
theorem dX10_text_103 : decode cX10_text 103 = .ok (.if_icmp .eq 12, 3) := decAll_at aX10_text_0 56 rfl
theorem dX10_text_106 : decode cX10_text 106 = .ok (.aload_n 0, 1) := decAll_at aX10_text_0 57 rfl
theorem dX10_text_107 : decode cX10_text 107 = .ok (.iconst 1, 1) := decAll_at aX10_text_0 58 rfl
theorem dX10_text_108 : decode cX10_text 108 = .ok (.aload_n 0, 1) := decAll_at aX10_text_0 59 rfl
theorem dX10_text_109 : decode cX10_text 109 = .ok (.getfield 195, 3) := decAll_at aX10_text_0 60 rfl
theorem dX10_text_112 : decode cX10_text 112 = .ok (.invokevirtual 217, 3) := decAll_at aX10_text_0 61 rfl
theorem dX10_text_115 : decode cX10_text 115 = .ok (.aload_n 0, 1) := decAll_at aX10_text_0 62 rfl
theorem dX10_text_116 : decode cX10_text 116 = .ok (.dup, 1) := decAll_at aX10_text_0 63 rfl
def laX10_text_1 : List (Nat × Instr × Nat) := [(117, .getfield 195, 3), (120, .iconst 1, 1), (121, .iadd, 1), (122, .putfield 195, 3), (125, .goto (-71), 3), (128, .aload_n 0, 1), (129, .getfield 201, 3), (132, .ifCond .ge 8, 3), (135, .aload_n 0, 1), (136, .getfield 201, 3), (139, .ireturn, 1), (140, .iconst 0, 1), (141, .istore_n 3, 1), (142, .iload_n 3, 1), (143, .aload_n 0, 1), (144, .getfield 290, 3), (147, .if_icmp .ge 57, 3), (150, .aload_n 0, 1), (151, .getfield 43, 3), (154, .iload_n 3, 1), (155, .aload_n 0, 1), (156, .getfield 61, 3), (159, .iload_n 3, 1), (160, .iaload, 1), (161, .iastore, 1), (162, .aload_n 0, 1), (163, .getfield 46, 3), (166, .iload_n 3, 1), (167, .aload_n 0, 1), (168, .getfield 64, 3), (171, .iload_n 3, 1), (172, .iaload, 1), (173, .iastore, 1), (174, .aload_n 0, 1), (175, .getfield 49, 3), (178, .iload_n 3, 1), (179, .aload_n 0, 1), (180, .getfield 67, 3), (183, .iload_n 3, 1), (184, .iaload, 1), (185, .iastore, 1), (186, .aload_n 0, 1), (187, .getfield 52, 3), (190, .iload_n 3, 1), (191, .aload_n 0, 1), (192, .getfield 70, 3), (195, .iload_n 3, 1), (196, .iaload, 1), (197, .iastore, 1), (198, .iinc 3 1, 3), (201, .goto (-59), 3), (204, .iconst 0, 1), (205, .istore_n 3, 1), (206, .iload_n 3, 1), (207, .aload_n 0, 1), (208, .getfield 208, 3), (211, .if_icmp .ge 33, 3), (214, .aload_n 0, 1), (215, .getfield 55, 3), (218, .iload_n 3, 1), (219, .aload_n 0, 1), (220, .getfield 73, 3), (223, .iload_n 3, 1), (224, .iaload, 1)]
theorem aX10_text_1 : decAll cX10_text laX10_text_1 = true := by decide +kernel
theorem dX10_text_117 : decode cX10_text 117 = .ok (.getfield 195, 3) := decAll_at aX10_text_1 0 rfl
theorem dX10_text_120 : decode cX10_text 120 = .ok (.iconst 1, 1) := decAll_at aX10_text_1 1 rfl
theorem dX10_text_121 : decode cX10_text 121 = .ok (.iadd, 1) := decAll_at aX10_text_1 2 rfl
theorem dX10_text_122 : decode cX10_text 122 = .ok (.putfield 195, 3) := decAll_at aX10_text_1 3 rfl
theorem dX10_text_125 : decode cX10_text 125 = .ok (.goto (-71), 3) := decAll_at aX10_text_1 4 rfl
theorem dX10_text_128 : decode cX10_text 128 = .ok (.aload_n 0, 1) := decAll_at aX10_text_1 5 rfl
theorem dX10_text_129 : decode cX10_text 129 = .ok (.getfield 201, 3) := decAll_at aX10_text_1 6 rfl
theorem dX10_text_132 : decode cX10_text 132 = .ok (.ifCond .ge 8, 3) := decAll_at aX10_text_1 7 rfl
theorem dX10_text_135 : decode cX10_text 135 = .ok (.aload_n 0, 1) := decAll_at aX10_text_1 8 rfl
theorem dX10_text_136 : decode cX10_text 136 = .ok (.getfield 201, 3) := decAll_at aX10_text_1 9 rfl
theorem dX10_text_139 : decode cX10_text 139 = .ok (.ireturn, 1) := decAll_at aX10_text_1 10 rfl
theorem dX10_text_140 : decode cX10_text 140 = .ok (.iconst 0, 1) := decAll_at aX10_text_1 11 rfl
theorem dX10_text_141 : decode cX10_text 141 = .ok (.istore_n 3, 1) := decAll_at aX10_text_1 12 rfl
theorem dX10_text_142 : decode cX10_text 142 = .ok (.iload_n 3, 1) := decAll_at aX10_text_1 13 rfl
theorem dX10_text_143 : decode cX10_text 143 = .ok (.aload_n 0, 1) := decAll_at aX10_text_1 14 rfl
theorem dX10_text_144 : decode cX10_text 144 = .ok (.getfield 290, 3) := decAll_at aX10_text_1 15 rfl
theorem dX10_text_147 : decode cX10_text 147 = .ok (.if_icmp .ge 57, 3) := decAll_at aX10_text_1 16 rfl
theorem dX10_text_150 : decode cX10_text 150 = .ok (.aload_n 0, 1) := decAll_at aX10_text_1 17 rfl
theorem dX10_text_151 : decode cX10_text 151 = .ok (.getfield 43, 3) := decAll_at aX10_text_1 18 rfl
theorem dX10_text_154 : decode cX10_text 154 = .ok (.iload_n 3, 1) := decAll_at aX10_text_1 19 rfl
theorem dX10_text_155 : decode cX10_text 155 = .ok (.aload_n 0, 1) := decAll_at aX10_text_1 20 rfl
theorem dX10_text_156 : decode cX10_text 156 = .ok (.getfield 61, 3) := decAll_at aX10_text_1 21 rfl
theorem dX10_text_159 : decode cX10_text 159 = .ok (.iload_n 3, 1) := decAll_at aX10_text_1 22 rfl
theorem dX10_text_160 : decode cX10_text 160 = .ok (.iaload, 1) := decAll_at aX10_text_1 23 rfl
theorem dX10_text_161 : decode cX10_text 161 = .ok (.iastore, 1) := decAll_at aX10_text_1 24 rfl
theorem dX10_text_162 : decode cX10_text 162 = .ok (.aload_n 0, 1) := decAll_at aX10_text_1 25 rfl
theorem dX10_text_163 : decode cX10_text 163 = .ok (.getfield 46, 3) := decAll_at aX10_text_1 26 rfl
theorem dX10_text_166 : decode cX10_text 166 = .ok (.iload_n 3, 1) := decAll_at aX10_text_1 27 rfl
theorem dX10_text_167 : decode cX10_text 167 = .ok (.aload_n 0, 1) := decAll_at aX10_text_1 28 rfl
theorem dX10_text_168 : decode cX10_text 168 = .ok (.getfield 64, 3) := decAll_at aX10_text_1 29 rfl
theorem dX10_text_171 : decode cX10_text 171 = .ok (.iload_n 3, 1) := decAll_at aX10_text_1 30 rfl
theorem dX10_text_172 : decode cX10_text 172 = .ok (.iaload, 1) := decAll_at aX10_text_1 31 rfl
theorem dX10_text_173 : decode cX10_text 173 = .ok (.iastore, 1) := decAll_at aX10_text_1 32 rfl
theorem dX10_text_174 : decode cX10_text 174 = .ok (.aload_n 0, 1) := decAll_at aX10_text_1 33 rfl
theorem dX10_text_175 : decode cX10_text 175 = .ok (.getfield 49, 3) := decAll_at aX10_text_1 34 rfl
theorem dX10_text_178 : decode cX10_text 178 = .ok (.iload_n 3, 1) := decAll_at aX10_text_1 35 rfl
theorem dX10_text_179 : decode cX10_text 179 = .ok (.aload_n 0, 1) := decAll_at aX10_text_1 36 rfl
theorem dX10_text_180 : decode cX10_text 180 = .ok (.getfield 67, 3) := decAll_at aX10_text_1 37 rfl
theorem dX10_text_183 : decode cX10_text 183 = .ok (.iload_n 3, 1) := decAll_at aX10_text_1 38 rfl
theorem dX10_text_184 : decode cX10_text 184 = .ok (.iaload, 1) := decAll_at aX10_text_1 39 rfl
theorem dX10_text_185 : decode cX10_text 185 = .ok (.iastore, 1) := decAll_at aX10_text_1 40 rfl
theorem dX10_text_186 : decode cX10_text 186 = .ok (.aload_n 0, 1) := decAll_at aX10_text_1 41 rfl
theorem dX10_text_187 : decode cX10_text 187 = .ok (.getfield 52, 3) := decAll_at aX10_text_1 42 rfl
theorem dX10_text_190 : decode cX10_text 190 = .ok (.iload_n 3, 1) := decAll_at aX10_text_1 43 rfl
theorem dX10_text_191 : decode cX10_text 191 = .ok (.aload_n 0, 1) := decAll_at aX10_text_1 44 rfl
theorem dX10_text_192 : decode cX10_text 192 = .ok (.getfield 70, 3) := decAll_at aX10_text_1 45 rfl
theorem dX10_text_195 : decode cX10_text 195 = .ok (.iload_n 3, 1) := decAll_at aX10_text_1 46 rfl
theorem dX10_text_196 : decode cX10_text 196 = .ok (.iaload, 1) := decAll_at aX10_text_1 47 rfl
theorem dX10_text_197 : decode cX10_text 197 = .ok (.iastore, 1) := decAll_at aX10_text_1 48 rfl
theorem dX10_text_198 : decode cX10_text 198 = .ok (.iinc 3 1, 3) := decAll_at aX10_text_1 49 rfl
theorem dX10_text_201 : decode cX10_text 201 = .ok (.goto (-59), 3) := decAll_at aX10_text_1 50 rfl
theorem dX10_text_204 : decode cX10_text 204 = .ok (.iconst 0, 1) := decAll_at aX10_text_1 51 rfl
theorem dX10_text_205 : decode cX10_text 205 = .ok (.istore_n 3, 1) := decAll_at aX10_text_1 52 rfl
theorem dX10_text_206 : decode cX10_text 206 = .ok (.iload_n 3, 1) := decAll_at aX10_text_1 53 rfl
theorem dX10_text_207 : decode cX10_text 207 = .ok (.aload_n 0, 1) := decAll_at aX10_text_1 54 rfl
theorem dX10_text_208 : decode cX10_text 208 = .ok (.getfield 208, 3) := decAll_at aX10_text_1 55 rfl
theorem dX10_text_211 : decode cX10_text 211 = .ok (.if_icmp .ge 33, 3) := decAll_at aX10_text_1 56 rfl
theorem dX10_text_214 : decode cX10_text 214 = .ok (.aload_n 0, 1) := decAll_at aX10_text_1 57 rfl
theorem dX10_text_215 : decode cX10_text 215 = .ok (.getfield 55, 3) := decAll_at aX10_text_1 58 rfl
theorem dX10_text_218 : decode cX10_text 218 = .ok (.iload_n 3, 1) := decAll_at aX10_text_1 59 rfl
theorem dX10_text_219 : decode cX10_text 219 = .ok (.aload_n 0, 1) := decAll_at aX10_text_1 60 rfl
theorem dX10_text_220 : decode cX10_text 220 = .ok (.getfield 73, 3) := decAll_at aX10_text_1 61 rfl
theorem dX10_text_223 : decode cX10_text 223 = .ok (.iload_n 3, 1) := decAll_at aX10_text_1 62 rfl
theorem dX10_text_224 : decode cX10_text 224 = .ok (.iaload, 1) := decAll_at aX10_text_1 63 rfl
def laX10_text_2 : List (Nat × Instr × Nat) := [(225, .iastore, 1), (226, .aload_n 0, 1), (227, .getfield 58, 3), (230, .iload_n 3, 1), (231, .aload_n 0, 1), (232, .getfield 76, 3), (235, .iload_n 3, 1), (236, .iaload, 1), (237, .iastore, 1), (238, .iinc 3 1, 3), (241, .goto (-35), 3), (244, .aload_n 0, 1), (245, .aload_n 0, 1), (246, .getfield 290, 3), (249, .putfield 301, 3), (252, .aload_n 0, 1), (253, .getfield 301, 3), (256, .ireturn, 1)]
theorem aX10_text_2 : decAll cX10_text laX10_text_2 = true := by decide +kernel
theorem dX10_text_225 : decode cX10_text 225 = .ok (.iastore, 1) := decAll_at aX10_text_2 0 rfl
theorem dX10_text_226 : decode cX10_text 226 = .ok (.aload_n 0, 1) := decAll_at aX10_text_2 1 rfl
theorem dX10_text_227 : decode cX10_text 227 = .ok (.getfield 58, 3) := decAll_at aX10_text_2 2 rfl
theorem dX10_text_230 : decode cX10_text 230 = .ok (.iload_n 3, 1) := decAll_at aX10_text_2 3 rfl
theorem dX10_text_231 : decode cX10_text 231 = .ok (.aload_n 0, 1) := decAll_at aX10_text_2 4 rfl
theorem dX10_text_232 : decode cX10_text 232 = .ok (.getfield 76, 3) := decAll_at aX10_text_2 5 rfl
theorem dX10_text_235 : decode cX10_text 235 = .ok (.iload_n 3, 1) := decAll_at aX10_text_2 6 rfl
theorem dX10_text_236 : decode cX10_text 236 = .ok (.iaload, 1) := decAll_at aX10_text_2 7 rfl
theorem dX10_text_237 : decode cX10_text 237 = .ok (.iastore, 1) := decAll_at aX10_text_2 8 rfl
theorem dX10_text_238 : decode cX10_text 238 = .ok (.iinc 3 1, 3) := decAll_at aX10_text_2 9 rfl
theorem dX10_text_241 : decode cX10_text 241 = .ok (.goto (-35), 3) := decAll_at aX10_text_2 10 rfl
theorem dX10_text_244 : decode cX10_text 244 = .ok (.aload_n 0, 1) := decAll_at aX10_text_2 11 rfl
theorem dX10_text_245 : decode cX10_text 245 = .ok (.aload_n 0, 1) := decAll_at aX10_text_2 12 rfl
theorem dX10_text_246 : decode cX10_text 246 = .ok (.getfield 290, 3) := decAll_at aX10_text_2 13 rfl
theorem dX10_text_249 : decode cX10_text 249 = .ok (.putfield 301, 3) := decAll_at aX10_text_2 14 rfl
theorem dX10_text_252 : decode cX10_text 252 = .ok (.aload_n 0, 1) := decAll_at aX10_text_2 15 rfl
theorem dX10_text_253 : decode cX10_text 253 = .ok (.getfield 301, 3) := decAll_at aX10_text_2 16 rfl
theorem dX10_text_256 : decode cX10_text 256 = .ok (.ireturn, 1) := decAll_at aX10_text_2 17 rfl
def laX10_valueOf_0 : List (Nat × Instr × Nat) := [(0, .iload_n 1, 1), (1, .tableswitch 158 98 119 #[118, 158, 158, 158, 158, 158, 138, 148, 158, 108, 128, 143, 153, 158, 158, 158, 158, 158, 133, 158, 158, 103], 103), (104, .aload_n 0, 1), (105, .getfield 304, 3), (108, .ireturn, 1), (109, .aload_n 0, 1), (110, .getfield 17, 3), (113, .aload_n 0, 1), (114, .getfield 304, 3), (117, .iaload, 1), (118, .ireturn, 1), (119, .aload_n 0, 1), (120, .getfield 21, 3), (123, .aload_n 0, 1), (124, .getfield 304, 3), (127, .iaload, 1), (128, .ireturn, 1), (129, .aload_n 0, 1), (130, .getfield 307, 3), (133, .ireturn, 1), (134, .aload_n 0, 1), (135, .getfield 310, 3), (138, .ireturn, 1), (139, .aload_n 0, 1), (140, .getfield 313, 3), (143, .ireturn, 1), (144, .aload_n 0, 1), (145, .getfield 316, 3), (148, .ireturn, 1), (149, .aload_n 0, 1), (150, .getfield 319, 3), (153, .ireturn, 1), (154, .aload_n 0, 1), (155, .getfield 150, 3), (158, .ireturn, 1), (159, .aload_n 0, 1), (160, .getfield 322, 3), (163, .ireturn, 1)]
theorem aX10_valueOf_0 : decAll cX10_valueOf laX10_valueOf_0 = true := by decide +kernel
theorem dX10_valueOf_0 : decode cX10_valueOf 0 = .ok (.iload_n 1, 1) := decAll_at aX10_valueOf_0 0 rfl
theorem dX10_valueOf_1 : decode cX10_valueOf 1 = .ok (.tableswitch 158 98 119 #[118, 158, 158, 158, 158, 158, 138, 148, 158, 108, 128, 143, 153, 158, 158, 158, 158, 158, 133, 158, 158, 103], 103) := decAll_at aX10_valueOf_0 1 rfl
theorem dX10_valueOf_104 : decode cX10_valueOf 104 = .ok (.aload_n 0, 1) := decAll_at aX10_valueOf_0 2 rfl
theorem dX10_valueOf_105 : decode cX10_valueOf 105 = .ok (.getfield 304, 3) := decAll_at aX10_valueOf_0 3 rfl
theorem dX10_valueOf_108 : decode cX10_valueOf 108 = .ok (.ireturn, 1) := decAll_at aX10_valueOf_0 4 rfl
theorem dX10_valueOf_109 : decode cX10_valueOf 109 = .ok (.aload_n 0, 1) := decAll_at aX10_valueOf_0 5 rfl
theorem dX10_valueOf_110 : decode cX10_valueOf 110 = .ok (.getfield 17, 3) := decAll_at aX10_valueOf_0 6 rfl
theorem dX10_valueOf_113 : decode cX10_valueOf 113 = .ok (.aload_n 0, 1) := decAll_at aX10_valueOf_0 7 rfl
theorem dX10_valueOf_114 : decode cX10_valueOf 114 = .ok (.getfield 304, 3) := decAll_at aX10_valueOf_0 8 rfl
theorem dX10_valueOf_117 : decode cX10_valueOf 117 = .ok (.iaload, 1) := decAll_at aX10_valueOf_0 9 rfl
theorem dX10_valueOf_118 : decode cX10_valueOf 118 = .ok (.ireturn, 1) := decAll_at aX10_valueOf_0 10 rfl
theorem dX10_valueOf_119 : decode cX10_valueOf 119 = .ok (.aload_n 0, 1) := decAll_at aX10_valueOf_0 11 rfl
theorem dX10_valueOf_120 : decode cX10_valueOf 120 = .ok (.getfield 21, 3) := decAll_at aX10_valueOf_0 12 rfl
theorem dX10_valueOf_123 : decode cX10_valueOf 123 = .ok (.aload_n 0, 1) := decAll_at aX10_valueOf_0 13 rfl
theorem dX10_valueOf_124 : decode cX10_valueOf 124 = .ok (.getfield 304, 3) := decAll_at aX10_valueOf_0 14 rfl
theorem dX10_valueOf_127 : decode cX10_valueOf 127 = .ok (.iaload, 1) := decAll_at aX10_valueOf_0 15 rfl
theorem dX10_valueOf_128 : decode cX10_valueOf 128 = .ok (.ireturn, 1) := decAll_at aX10_valueOf_0 16 rfl
theorem dX10_valueOf_129 : decode cX10_valueOf 129 = .ok (.aload_n 0, 1) := decAll_at aX10_valueOf_0 17 rfl
theorem dX10_valueOf_130 : decode cX10_valueOf 130 = .ok (.getfield 307, 3) := decAll_at aX10_valueOf_0 18 rfl
theorem dX10_valueOf_133 : decode cX10_valueOf 133 = .ok (.ireturn, 1) := decAll_at aX10_valueOf_0 19 rfl
theorem dX10_valueOf_134 : decode cX10_valueOf 134 = .ok (.aload_n 0, 1) := decAll_at aX10_valueOf_0 20 rfl
theorem dX10_valueOf_135 : decode cX10_valueOf 135 = .ok (.getfield 310, 3) := decAll_at aX10_valueOf_0 21 rfl
theorem dX10_valueOf_138 : decode cX10_valueOf 138 = .ok (.ireturn, 1) := decAll_at aX10_valueOf_0 22 rfl
theorem dX10_valueOf_139 : decode cX10_valueOf 139 = .ok (.aload_n 0, 1) := decAll_at aX10_valueOf_0 23 rfl
theorem dX10_valueOf_140 : decode cX10_valueOf 140 = .ok (.getfield 313, 3) := decAll_at aX10_valueOf_0 24 rfl
theorem dX10_valueOf_143 : decode cX10_valueOf 143 = .ok (.ireturn, 1) := decAll_at aX10_valueOf_0 25 rfl
theorem dX10_valueOf_144 : decode cX10_valueOf 144 = .ok (.aload_n 0, 1) := decAll_at aX10_valueOf_0 26 rfl
theorem dX10_valueOf_145 : decode cX10_valueOf 145 = .ok (.getfield 316, 3) := decAll_at aX10_valueOf_0 27 rfl
theorem dX10_valueOf_148 : decode cX10_valueOf 148 = .ok (.ireturn, 1) := decAll_at aX10_valueOf_0 28 rfl
theorem dX10_valueOf_149 : decode cX10_valueOf 149 = .ok (.aload_n 0, 1) := decAll_at aX10_valueOf_0 29 rfl
theorem dX10_valueOf_150 : decode cX10_valueOf 150 = .ok (.getfield 319, 3) := decAll_at aX10_valueOf_0 30 rfl
theorem dX10_valueOf_153 : decode cX10_valueOf 153 = .ok (.ireturn, 1) := decAll_at aX10_valueOf_0 31 rfl
theorem dX10_valueOf_154 : decode cX10_valueOf 154 = .ok (.aload_n 0, 1) := decAll_at aX10_valueOf_0 32 rfl
theorem dX10_valueOf_155 : decode cX10_valueOf 155 = .ok (.getfield 150, 3) := decAll_at aX10_valueOf_0 33 rfl
theorem dX10_valueOf_158 : decode cX10_valueOf 158 = .ok (.ireturn, 1) := decAll_at aX10_valueOf_0 34 rfl
theorem dX10_valueOf_159 : decode cX10_valueOf 159 = .ok (.aload_n 0, 1) := decAll_at aX10_valueOf_0 35 rfl
theorem dX10_valueOf_160 : decode cX10_valueOf 160 = .ok (.getfield 322, 3) := decAll_at aX10_valueOf_0 36 rfl
theorem dX10_valueOf_163 : decode cX10_valueOf 163 = .ok (.ireturn, 1) := decAll_at aX10_valueOf_0 37 rfl
def laX10_worked_0 : List (Nat × Instr × Nat) := [(0, .iload_n 0, 1), (1, .lookupswitch 125 #[(37, 91), (42, 75), (43, 67), (45, 71), (47, 79), (60, 103), (62, 114)], 67), (68, .iload_n 1, 1), (69, .iload_n 2, 1), (70, .iadd, 1), (71, .ireturn, 1), (72, .iload_n 1, 1), (73, .iload_n 2, 1), (74, .isub, 1), (75, .ireturn, 1), (76, .iload_n 1, 1), (77, .iload_n 2, 1), (78, .imul, 1), (79, .ireturn, 1), (80, .iload_n 2, 1), (81, .ifCond .ne 7, 3), (84, .iconst 0, 1), (85, .goto 6, 3), (88, .iload_n 1, 1), (89, .iload_n 2, 1), (90, .idiv, 1), (91, .ireturn, 1), (92, .iload_n 2, 1), (93, .ifCond .ne 7, 3), (96, .iconst 0, 1), (97, .goto 6, 3), (100, .iload_n 1, 1), (101, .iload_n 2, 1), (102, .irem, 1), (103, .ireturn, 1), (104, .iload_n 1, 1), (105, .iload_n 2, 1), (106, .if_icmp .ge 7, 3), (109, .iconst 1, 1), (110, .goto 4, 3), (113, .iconst 0, 1), (114, .ireturn, 1), (115, .iload_n 1, 1), (116, .iload_n 2, 1), (117, .if_icmp .le 7, 3), (120, .iconst 1, 1), (121, .goto 4, 3), (124, .iconst 0, 1), (125, .ireturn, 1), (126, .iload_n 1, 1), (127, .iload_n 2, 1), (128, .if_icmp .ne 7, 3), (131, .iconst 1, 1), (132, .goto 4, 3), (135, .iconst 0, 1), (136, .ireturn, 1)]
theorem aX10_worked_0 : decAll cX10_worked laX10_worked_0 = true := by decide +kernel
theorem dX10_worked_0 : decode cX10_worked 0 = .ok (.iload_n 0, 1) := decAll_at aX10_worked_0 0 rfl
theorem dX10_worked_1 : decode cX10_worked 1 = .ok (.lookupswitch 125 #[(37, 91), (42, 75), (43, 67), (45, 71), (47, 79), (60, 103), (62, 114)], 67) := decAll_at aX10_worked_0 1 rfl
theorem dX10_worked_68 : decode cX10_worked 68 = .ok (.iload_n 1, 1) := decAll_at aX10_worked_0 2 rfl
theorem dX10_worked_69 : decode cX10_worked 69 = .ok (.iload_n 2, 1) := decAll_at aX10_worked_0 3 rfl
theorem dX10_worked_70 : decode cX10_worked 70 = .ok (.iadd, 1) := decAll_at aX10_worked_0 4 rfl
theorem dX10_worked_71 : decode cX10_worked 71 = .ok (.ireturn, 1) := decAll_at aX10_worked_0 5 rfl
theorem dX10_worked_72 : decode cX10_worked 72 = .ok (.iload_n 1, 1) := decAll_at aX10_worked_0 6 rfl
theorem dX10_worked_73 : decode cX10_worked 73 = .ok (.iload_n 2, 1) := decAll_at aX10_worked_0 7 rfl
theorem dX10_worked_74 : decode cX10_worked 74 = .ok (.isub, 1) := decAll_at aX10_worked_0 8 rfl
theorem dX10_worked_75 : decode cX10_worked 75 = .ok (.ireturn, 1) := decAll_at aX10_worked_0 9 rfl
theorem dX10_worked_76 : decode cX10_worked 76 = .ok (.iload_n 1, 1) := decAll_at aX10_worked_0 10 rfl
theorem dX10_worked_77 : decode cX10_worked 77 = .ok (.iload_n 2, 1) := decAll_at aX10_worked_0 11 rfl
theorem dX10_worked_78 : decode cX10_worked 78 = .ok (.imul, 1) := decAll_at aX10_worked_0 12 rfl
theorem dX10_worked_79 : decode cX10_worked 79 = .ok (.ireturn, 1) := decAll_at aX10_worked_0 13 rfl
theorem dX10_worked_80 : decode cX10_worked 80 = .ok (.iload_n 2, 1) := decAll_at aX10_worked_0 14 rfl
theorem dX10_worked_81 : decode cX10_worked 81 = .ok (.ifCond .ne 7, 3) := decAll_at aX10_worked_0 15 rfl
theorem dX10_worked_84 : decode cX10_worked 84 = .ok (.iconst 0, 1) := decAll_at aX10_worked_0 16 rfl
theorem dX10_worked_85 : decode cX10_worked 85 = .ok (.goto 6, 3) := decAll_at aX10_worked_0 17 rfl
theorem dX10_worked_88 : decode cX10_worked 88 = .ok (.iload_n 1, 1) := decAll_at aX10_worked_0 18 rfl
theorem dX10_worked_89 : decode cX10_worked 89 = .ok (.iload_n 2, 1) := decAll_at aX10_worked_0 19 rfl
theorem dX10_worked_90 : decode cX10_worked 90 = .ok (.idiv, 1) := decAll_at aX10_worked_0 20 rfl
theorem dX10_worked_91 : decode cX10_worked 91 = .ok (.ireturn, 1) := decAll_at aX10_worked_0 21 rfl
theorem dX10_worked_92 : decode cX10_worked 92 = .ok (.iload_n 2, 1) := decAll_at aX10_worked_0 22 rfl
theorem dX10_worked_93 : decode cX10_worked 93 = .ok (.ifCond .ne 7, 3) := decAll_at aX10_worked_0 23 rfl
theorem dX10_worked_96 : decode cX10_worked 96 = .ok (.iconst 0, 1) := decAll_at aX10_worked_0 24 rfl
theorem dX10_worked_97 : decode cX10_worked 97 = .ok (.goto 6, 3) := decAll_at aX10_worked_0 25 rfl
theorem dX10_worked_100 : decode cX10_worked 100 = .ok (.iload_n 1, 1) := decAll_at aX10_worked_0 26 rfl
theorem dX10_worked_101 : decode cX10_worked 101 = .ok (.iload_n 2, 1) := decAll_at aX10_worked_0 27 rfl
theorem dX10_worked_102 : decode cX10_worked 102 = .ok (.irem, 1) := decAll_at aX10_worked_0 28 rfl
theorem dX10_worked_103 : decode cX10_worked 103 = .ok (.ireturn, 1) := decAll_at aX10_worked_0 29 rfl
theorem dX10_worked_104 : decode cX10_worked 104 = .ok (.iload_n 1, 1) := decAll_at aX10_worked_0 30 rfl
theorem dX10_worked_105 : decode cX10_worked 105 = .ok (.iload_n 2, 1) := decAll_at aX10_worked_0 31 rfl
theorem dX10_worked_106 : decode cX10_worked 106 = .ok (.if_icmp .ge 7, 3) := decAll_at aX10_worked_0 32 rfl
theorem dX10_worked_109 : decode cX10_worked 109 = .ok (.iconst 1, 1) := decAll_at aX10_worked_0 33 rfl
theorem dX10_worked_110 : decode cX10_worked 110 = .ok (.goto 4, 3) := decAll_at aX10_worked_0 34 rfl
theorem dX10_worked_113 : decode cX10_worked 113 = .ok (.iconst 0, 1) := decAll_at aX10_worked_0 35 rfl
theorem dX10_worked_114 : decode cX10_worked 114 = .ok (.ireturn, 1) := decAll_at aX10_worked_0 36 rfl
theorem dX10_worked_115 : decode cX10_worked 115 = .ok (.iload_n 1, 1) := decAll_at aX10_worked_0 37 rfl
theorem dX10_worked_116 : decode cX10_worked 116 = .ok (.iload_n 2, 1) := decAll_at aX10_worked_0 38 rfl
theorem dX10_worked_117 : decode cX10_worked 117 = .ok (.if_icmp .le 7, 3) := decAll_at aX10_worked_0 39 rfl
theorem dX10_worked_120 : decode cX10_worked 120 = .ok (.iconst 1, 1) := decAll_at aX10_worked_0 40 rfl
theorem dX10_worked_121 : decode cX10_worked 121 = .ok (.goto 4, 3) := decAll_at aX10_worked_0 41 rfl
theorem dX10_worked_124 : decode cX10_worked 124 = .ok (.iconst 0, 1) := decAll_at aX10_worked_0 42 rfl
theorem dX10_worked_125 : decode cX10_worked 125 = .ok (.ireturn, 1) := decAll_at aX10_worked_0 43 rfl
theorem dX10_worked_126 : decode cX10_worked 126 = .ok (.iload_n 1, 1) := decAll_at aX10_worked_0 44 rfl
theorem dX10_worked_127 : decode cX10_worked 127 = .ok (.iload_n 2, 1) := decAll_at aX10_worked_0 45 rfl
theorem dX10_worked_128 : decode cX10_worked 128 = .ok (.if_icmp .ne 7, 3) := decAll_at aX10_worked_0 46 rfl
theorem dX10_worked_131 : decode cX10_worked 131 = .ok (.iconst 1, 1) := decAll_at aX10_worked_0 47 rfl
theorem dX10_worked_132 : decode cX10_worked 132 = .ok (.goto 4, 3) := decAll_at aX10_worked_0 48 rfl
theorem dX10_worked_135 : decode cX10_worked 135 = .ok (.iconst 0, 1) := decAll_at aX10_worked_0 49 rfl
theorem dX10_worked_136 : decode cX10_worked 136 = .ok (.ireturn, 1) := decAll_at aX10_worked_0 50 rfl
def laX10_does_0 : List (Nat × Instr × Nat) := [(0, .iload_n 2, 1), (1, .iconst 1, 1), (2, .iadd, 1), (3, .istore_n 3, 1), (4, .iload_n 1, 1), (5, .bipush 38, 2), (7, .if_icmp .eq 9, 3), (10, .iload_n 1, 1), (11, .bipush 124, 2), (13, .if_icmp .ne 58, 3), (16, .aload_n 0, 1), (17, .getfield 85, 3), (20, .iload_n 2, 1), (21, .baload, 1), (22, .ifCond .ne 23, 3), (25, .aload_n 0, 1), (26, .getfield 82, 3), (29, .iload_n 2, 1), (30, .iaload, 1), (31, .iload_n 1, 1), (32, .bipush 38, 2), (34, .if_icmp .ne 7, 3), (37, .iconst 1, 1), (38, .goto 4, 3), (41, .iconst 0, 1), (42, .if_icmp .eq 4, 3), (45, .return_, 1), (46, .aload_n 0, 1), (47, .getfield 82, 3), (50, .iload_n 2, 1), (51, .aload_n 0, 1), (52, .getfield 82, 3), (55, .iload_n 3, 1), (56, .iaload, 1), (57, .iastore, 1), (58, .aload_n 0, 1), (59, .getfield 85, 3), (62, .iload_n 2, 1), (63, .aload_n 0, 1), (64, .getfield 85, 3), (67, .iload_n 3, 1), (68, .baload, 1), (69, .bastore, 1), (70, .return_, 1), (71, .aload_n 0, 1), (72, .getfield 85, 3), (75, .iload_n 2, 1), (76, .aload_n 0, 1), (77, .getfield 85, 3), (80, .iload_n 2, 1), (81, .baload, 1), (82, .ifCond .ne 33, 3), (85, .aload_n 0, 1), (86, .getfield 85, 3), (89, .iload_n 3, 1), (90, .baload, 1), (91, .ifCond .ne 24, 3), (94, .iload_n 1, 1), (95, .bipush 47, 2), (97, .if_icmp .eq 9, 3), (100, .iload_n 1, 1), (101, .bipush 37, 2), (103, .if_icmp .ne 16, 3), (106, .aload_n 0, 1)]
theorem aX10_does_0 : decAll cX10_does laX10_does_0 = true := by decide +kernel
theorem dX10_does_0 : decode cX10_does 0 = .ok (.iload_n 2, 1) := decAll_at aX10_does_0 0 rfl
theorem dX10_does_1 : decode cX10_does 1 = .ok (.iconst 1, 1) := decAll_at aX10_does_0 1 rfl
theorem dX10_does_2 : decode cX10_does 2 = .ok (.iadd, 1) := decAll_at aX10_does_0 2 rfl
theorem dX10_does_3 : decode cX10_does 3 = .ok (.istore_n 3, 1) := decAll_at aX10_does_0 3 rfl
theorem dX10_does_4 : decode cX10_does 4 = .ok (.iload_n 1, 1) := decAll_at aX10_does_0 4 rfl
theorem dX10_does_5 : decode cX10_does 5 = .ok (.bipush 38, 2) := decAll_at aX10_does_0 5 rfl
theorem dX10_does_7 : decode cX10_does 7 = .ok (.if_icmp .eq 9, 3) := decAll_at aX10_does_0 6 rfl
theorem dX10_does_10 : decode cX10_does 10 = .ok (.iload_n 1, 1) := decAll_at aX10_does_0 7 rfl
theorem dX10_does_11 : decode cX10_does 11 = .ok (.bipush 124, 2) := decAll_at aX10_does_0 8 rfl
theorem dX10_does_13 : decode cX10_does 13 = .ok (.if_icmp .ne 58, 3) := decAll_at aX10_does_0 9 rfl
theorem dX10_does_16 : decode cX10_does 16 = .ok (.aload_n 0, 1) := decAll_at aX10_does_0 10 rfl
theorem dX10_does_17 : decode cX10_does 17 = .ok (.getfield 85, 3) := decAll_at aX10_does_0 11 rfl
theorem dX10_does_20 : decode cX10_does 20 = .ok (.iload_n 2, 1) := decAll_at aX10_does_0 12 rfl
theorem dX10_does_21 : decode cX10_does 21 = .ok (.baload, 1) := decAll_at aX10_does_0 13 rfl
theorem dX10_does_22 : decode cX10_does 22 = .ok (.ifCond .ne 23, 3) := decAll_at aX10_does_0 14 rfl
theorem dX10_does_25 : decode cX10_does 25 = .ok (.aload_n 0, 1) := decAll_at aX10_does_0 15 rfl
theorem dX10_does_26 : decode cX10_does 26 = .ok (.getfield 82, 3) := decAll_at aX10_does_0 16 rfl
theorem dX10_does_29 : decode cX10_does 29 = .ok (.iload_n 2, 1) := decAll_at aX10_does_0 17 rfl
theorem dX10_does_30 : decode cX10_does 30 = .ok (.iaload, 1) := decAll_at aX10_does_0 18 rfl
theorem dX10_does_31 : decode cX10_does 31 = .ok (.iload_n 1, 1) := decAll_at aX10_does_0 19 rfl
theorem dX10_does_32 : decode cX10_does 32 = .ok (.bipush 38, 2) := decAll_at aX10_does_0 20 rfl
theorem dX10_does_34 : decode cX10_does 34 = .ok (.if_icmp .ne 7, 3) := decAll_at aX10_does_0 21 rfl
theorem dX10_does_37 : decode cX10_does 37 = .ok (.iconst 1, 1) := decAll_at aX10_does_0 22 rfl
theorem dX10_does_38 : decode cX10_does 38 = .ok (.goto 4, 3) := decAll_at aX10_does_0 23 rfl
theorem dX10_does_41 : decode cX10_does 41 = .ok (.iconst 0, 1) := decAll_at aX10_does_0 24 rfl
theorem dX10_does_42 : decode cX10_does 42 = .ok (.if_icmp .eq 4, 3) := decAll_at aX10_does_0 25 rfl
theorem dX10_does_45 : decode cX10_does 45 = .ok (.return_, 1) := decAll_at aX10_does_0 26 rfl
theorem dX10_does_46 : decode cX10_does 46 = .ok (.aload_n 0, 1) := decAll_at aX10_does_0 27 rfl
theorem dX10_does_47 : decode cX10_does 47 = .ok (.getfield 82, 3) := decAll_at aX10_does_0 28 rfl
theorem dX10_does_50 : decode cX10_does 50 = .ok (.iload_n 2, 1) := decAll_at aX10_does_0 29 rfl
theorem dX10_does_51 : decode cX10_does 51 = .ok (.aload_n 0, 1) := decAll_at aX10_does_0 30 rfl
theorem dX10_does_52 : decode cX10_does 52 = .ok (.getfield 82, 3) := decAll_at aX10_does_0 31 rfl
theorem dX10_does_55 : decode cX10_does 55 = .ok (.iload_n 3, 1) := decAll_at aX10_does_0 32 rfl
theorem dX10_does_56 : decode cX10_does 56 = .ok (.iaload, 1) := decAll_at aX10_does_0 33 rfl
theorem dX10_does_57 : decode cX10_does 57 = .ok (.iastore, 1) := decAll_at aX10_does_0 34 rfl
theorem dX10_does_58 : decode cX10_does 58 = .ok (.aload_n 0, 1) := decAll_at aX10_does_0 35 rfl
theorem dX10_does_59 : decode cX10_does 59 = .ok (.getfield 85, 3) := decAll_at aX10_does_0 36 rfl
theorem dX10_does_62 : decode cX10_does 62 = .ok (.iload_n 2, 1) := decAll_at aX10_does_0 37 rfl
theorem dX10_does_63 : decode cX10_does 63 = .ok (.aload_n 0, 1) := decAll_at aX10_does_0 38 rfl
theorem dX10_does_64 : decode cX10_does 64 = .ok (.getfield 85, 3) := decAll_at aX10_does_0 39 rfl
theorem dX10_does_67 : decode cX10_does 67 = .ok (.iload_n 3, 1) := decAll_at aX10_does_0 40 rfl
theorem dX10_does_68 : decode cX10_does 68 = .ok (.baload, 1) := decAll_at aX10_does_0 41 rfl
theorem dX10_does_69 : decode cX10_does 69 = .ok (.bastore, 1) := decAll_at aX10_does_0 42 rfl
theorem dX10_does_70 : decode cX10_does 70 = .ok (.return_, 1) := decAll_at aX10_does_0 43 rfl
theorem dX10_does_71 : decode cX10_does 71 = .ok (.aload_n 0, 1) := decAll_at aX10_does_0 44 rfl
theorem dX10_does_72 : decode cX10_does 72 = .ok (.getfield 85, 3) := decAll_at aX10_does_0 45 rfl
theorem dX10_does_75 : decode cX10_does 75 = .ok (.iload_n 2, 1) := decAll_at aX10_does_0 46 rfl
theorem dX10_does_76 : decode cX10_does 76 = .ok (.aload_n 0, 1) := decAll_at aX10_does_0 47 rfl
theorem dX10_does_77 : decode cX10_does 77 = .ok (.getfield 85, 3) := decAll_at aX10_does_0 48 rfl
theorem dX10_does_80 : decode cX10_does 80 = .ok (.iload_n 2, 1) := decAll_at aX10_does_0 49 rfl
theorem dX10_does_81 : decode cX10_does 81 = .ok (.baload, 1) := decAll_at aX10_does_0 50 rfl
theorem dX10_does_82 : decode cX10_does 82 = .ok (.ifCond .ne 33, 3) := decAll_at aX10_does_0 51 rfl
theorem dX10_does_85 : decode cX10_does 85 = .ok (.aload_n 0, 1) := decAll_at aX10_does_0 52 rfl
theorem dX10_does_86 : decode cX10_does 86 = .ok (.getfield 85, 3) := decAll_at aX10_does_0 53 rfl
theorem dX10_does_89 : decode cX10_does 89 = .ok (.iload_n 3, 1) := decAll_at aX10_does_0 54 rfl
theorem dX10_does_90 : decode cX10_does 90 = .ok (.baload, 1) := decAll_at aX10_does_0 55 rfl
theorem dX10_does_91 : decode cX10_does 91 = .ok (.ifCond .ne 24, 3) := decAll_at aX10_does_0 56 rfl
theorem dX10_does_94 : decode cX10_does 94 = .ok (.iload_n 1, 1) := decAll_at aX10_does_0 57 rfl
theorem dX10_does_95 : decode cX10_does 95 = .ok (.bipush 47, 2) := decAll_at aX10_does_0 58 rfl
theorem dX10_does_97 : decode cX10_does 97 = .ok (.if_icmp .eq 9, 3) := decAll_at aX10_does_0 59 rfl
theorem dX10_does_100 : decode cX10_does 100 = .ok (.iload_n 1, 1) := decAll_at aX10_does_0 60 rfl
theorem dX10_does_101 : decode cX10_does 101 = .ok (.bipush 37, 2) := decAll_at aX10_does_0 61 rfl
theorem dX10_does_103 : decode cX10_does 103 = .ok (.if_icmp .ne 16, 3) := decAll_at aX10_does_0 62 rfl
theorem dX10_does_106 : decode cX10_does 106 = .ok (.aload_n 0, 1) := decAll_at aX10_does_0 63 rfl
def laX10_does_1 : List (Nat × Instr × Nat) := [(107, .getfield 82, 3), (110, .iload_n 3, 1), (111, .iaload, 1), (112, .ifCond .ne 7, 3), (115, .iconst 1, 1), (116, .goto 4, 3), (119, .iconst 0, 1), (120, .bastore, 1), (121, .aload_n 0, 1), (122, .getfield 82, 3), (125, .iload_n 2, 1), (126, .iload_n 1, 1), (127, .aload_n 0, 1), (128, .getfield 82, 3), (131, .iload_n 2, 1), (132, .iaload, 1), (133, .aload_n 0, 1), (134, .getfield 82, 3), (137, .iload_n 3, 1), (138, .iaload, 1), (139, .invokestatic 325, 3), (142, .iastore, 1), (143, .return_, 1)]
theorem aX10_does_1 : decAll cX10_does laX10_does_1 = true := by decide +kernel
theorem dX10_does_107 : decode cX10_does 107 = .ok (.getfield 82, 3) := decAll_at aX10_does_1 0 rfl
theorem dX10_does_110 : decode cX10_does 110 = .ok (.iload_n 3, 1) := decAll_at aX10_does_1 1 rfl
theorem dX10_does_111 : decode cX10_does 111 = .ok (.iaload, 1) := decAll_at aX10_does_1 2 rfl
theorem dX10_does_112 : decode cX10_does 112 = .ok (.ifCond .ne 7, 3) := decAll_at aX10_does_1 3 rfl
theorem dX10_does_115 : decode cX10_does 115 = .ok (.iconst 1, 1) := decAll_at aX10_does_1 4 rfl
theorem dX10_does_116 : decode cX10_does 116 = .ok (.goto 4, 3) := decAll_at aX10_does_1 5 rfl
theorem dX10_does_119 : decode cX10_does 119 = .ok (.iconst 0, 1) := decAll_at aX10_does_1 6 rfl
theorem dX10_does_120 : decode cX10_does 120 = .ok (.bastore, 1) := decAll_at aX10_does_1 7 rfl
theorem dX10_does_121 : decode cX10_does 121 = .ok (.aload_n 0, 1) := decAll_at aX10_does_1 8 rfl
theorem dX10_does_122 : decode cX10_does 122 = .ok (.getfield 82, 3) := decAll_at aX10_does_1 9 rfl
theorem dX10_does_125 : decode cX10_does 125 = .ok (.iload_n 2, 1) := decAll_at aX10_does_1 10 rfl
theorem dX10_does_126 : decode cX10_does 126 = .ok (.iload_n 1, 1) := decAll_at aX10_does_1 11 rfl
theorem dX10_does_127 : decode cX10_does 127 = .ok (.aload_n 0, 1) := decAll_at aX10_does_1 12 rfl
theorem dX10_does_128 : decode cX10_does 128 = .ok (.getfield 82, 3) := decAll_at aX10_does_1 13 rfl
theorem dX10_does_131 : decode cX10_does 131 = .ok (.iload_n 2, 1) := decAll_at aX10_does_1 14 rfl
theorem dX10_does_132 : decode cX10_does 132 = .ok (.iaload, 1) := decAll_at aX10_does_1 15 rfl
theorem dX10_does_133 : decode cX10_does 133 = .ok (.aload_n 0, 1) := decAll_at aX10_does_1 16 rfl
theorem dX10_does_134 : decode cX10_does 134 = .ok (.getfield 82, 3) := decAll_at aX10_does_1 17 rfl
theorem dX10_does_137 : decode cX10_does 137 = .ok (.iload_n 3, 1) := decAll_at aX10_does_1 18 rfl
theorem dX10_does_138 : decode cX10_does 138 = .ok (.iaload, 1) := decAll_at aX10_does_1 19 rfl
theorem dX10_does_139 : decode cX10_does 139 = .ok (.invokestatic 325, 3) := decAll_at aX10_does_1 20 rfl
theorem dX10_does_142 : decode cX10_does 142 = .ok (.iastore, 1) := decAll_at aX10_does_1 21 rfl
theorem dX10_does_143 : decode cX10_does 143 = .ok (.return_, 1) := decAll_at aX10_does_1 22 rfl
def laX10_works_0 : List (Nat × Instr × Nat) := [(0, .iconst 0, 1), (1, .istore_n 3, 1), (2, .iload_n 1, 1), (3, .istore 4, 2), (5, .iload 4, 2), (7, .iload_n 2, 1), (8, .if_icmp .ge 119, 3), (11, .aload_n 0, 1), (12, .getfield 55, 3), (15, .iload 4, 2), (17, .iaload, 1), (18, .iconst 2, 1), (19, .if_icmp .le 23, 3), (22, .iinc 3 (-1), 3), (25, .aload_n 0, 1), (26, .aload_n 0, 1), (27, .getfield 55, 3), (30, .iload 4, 2), (32, .iaload, 1), (33, .iload_n 3, 1), (34, .iconst 1, 1), (35, .isub, 1), (36, .invokevirtual 329, 3), (39, .goto 82, 3), (42, .aload_n 0, 1), (43, .getfield 55, 3), (46, .iload 4, 2), (48, .iaload, 1), (49, .iconst 2, 1), (50, .if_icmp .ne 24, 3), (53, .aload_n 0, 1), (54, .getfield 82, 3), (57, .iload_n 3, 1), (58, .iconst 1, 1), (59, .isub, 1), (60, .iconst 1, 1), (61, .aload_n 0, 1), (62, .getfield 82, 3), (65, .iload_n 3, 1), (66, .iconst 1, 1), (67, .isub, 1), (68, .iaload, 1), (69, .isub, 1), (70, .iastore, 1), (71, .goto 50, 3), (74, .aload_n 0, 1), (75, .getfield 85, 3), (78, .iload_n 3, 1), (79, .iconst 0, 1), (80, .bastore, 1), (81, .aload_n 0, 1), (82, .getfield 82, 3), (85, .iload_n 3, 1), (86, .aload_n 0, 1), (87, .getfield 55, 3), (90, .iload 4, 2), (92, .iaload, 1), (93, .ifCond .ne 13, 3), (96, .aload_n 0, 1), (97, .getfield 58, 3), (100, .iload 4, 2), (102, .iaload, 1), (103, .goto 14, 3), (106, .aload_n 0, 1)]
theorem aX10_works_0 : decAll cX10_works laX10_works_0 = true := by decide +kernel
theorem dX10_works_0 : decode cX10_works 0 = .ok (.iconst 0, 1) := decAll_at aX10_works_0 0 rfl
theorem dX10_works_1 : decode cX10_works 1 = .ok (.istore_n 3, 1) := decAll_at aX10_works_0 1 rfl
theorem dX10_works_2 : decode cX10_works 2 = .ok (.iload_n 1, 1) := decAll_at aX10_works_0 2 rfl
theorem dX10_works_3 : decode cX10_works 3 = .ok (.istore 4, 2) := decAll_at aX10_works_0 3 rfl
theorem dX10_works_5 : decode cX10_works 5 = .ok (.iload 4, 2) := decAll_at aX10_works_0 4 rfl
theorem dX10_works_7 : decode cX10_works 7 = .ok (.iload_n 2, 1) := decAll_at aX10_works_0 5 rfl
theorem dX10_works_8 : decode cX10_works 8 = .ok (.if_icmp .ge 119, 3) := decAll_at aX10_works_0 6 rfl
theorem dX10_works_11 : decode cX10_works 11 = .ok (.aload_n 0, 1) := decAll_at aX10_works_0 7 rfl
theorem dX10_works_12 : decode cX10_works 12 = .ok (.getfield 55, 3) := decAll_at aX10_works_0 8 rfl
theorem dX10_works_15 : decode cX10_works 15 = .ok (.iload 4, 2) := decAll_at aX10_works_0 9 rfl
theorem dX10_works_17 : decode cX10_works 17 = .ok (.iaload, 1) := decAll_at aX10_works_0 10 rfl
theorem dX10_works_18 : decode cX10_works 18 = .ok (.iconst 2, 1) := decAll_at aX10_works_0 11 rfl
theorem dX10_works_19 : decode cX10_works 19 = .ok (.if_icmp .le 23, 3) := decAll_at aX10_works_0 12 rfl
theorem dX10_works_22 : decode cX10_works 22 = .ok (.iinc 3 (-1), 3) := decAll_at aX10_works_0 13 rfl
theorem dX10_works_25 : decode cX10_works 25 = .ok (.aload_n 0, 1) := decAll_at aX10_works_0 14 rfl
theorem dX10_works_26 : decode cX10_works 26 = .ok (.aload_n 0, 1) := decAll_at aX10_works_0 15 rfl
theorem dX10_works_27 : decode cX10_works 27 = .ok (.getfield 55, 3) := decAll_at aX10_works_0 16 rfl
theorem dX10_works_30 : decode cX10_works 30 = .ok (.iload 4, 2) := decAll_at aX10_works_0 17 rfl
theorem dX10_works_32 : decode cX10_works 32 = .ok (.iaload, 1) := decAll_at aX10_works_0 18 rfl
theorem dX10_works_33 : decode cX10_works 33 = .ok (.iload_n 3, 1) := decAll_at aX10_works_0 19 rfl
theorem dX10_works_34 : decode cX10_works 34 = .ok (.iconst 1, 1) := decAll_at aX10_works_0 20 rfl
theorem dX10_works_35 : decode cX10_works 35 = .ok (.isub, 1) := decAll_at aX10_works_0 21 rfl
theorem dX10_works_36 : decode cX10_works 36 = .ok (.invokevirtual 329, 3) := decAll_at aX10_works_0 22 rfl
theorem dX10_works_39 : decode cX10_works 39 = .ok (.goto 82, 3) := decAll_at aX10_works_0 23 rfl
theorem dX10_works_42 : decode cX10_works 42 = .ok (.aload_n 0, 1) := decAll_at aX10_works_0 24 rfl
theorem dX10_works_43 : decode cX10_works 43 = .ok (.getfield 55, 3) := decAll_at aX10_works_0 25 rfl
theorem dX10_works_46 : decode cX10_works 46 = .ok (.iload 4, 2) := decAll_at aX10_works_0 26 rfl
theorem dX10_works_48 : decode cX10_works 48 = .ok (.iaload, 1) := decAll_at aX10_works_0 27 rfl
theorem dX10_works_49 : decode cX10_works 49 = .ok (.iconst 2, 1) := decAll_at aX10_works_0 28 rfl
theorem dX10_works_50 : decode cX10_works 50 = .ok (.if_icmp .ne 24, 3) := decAll_at aX10_works_0 29 rfl
theorem dX10_works_53 : decode cX10_works 53 = .ok (.aload_n 0, 1) := decAll_at aX10_works_0 30 rfl
theorem dX10_works_54 : decode cX10_works 54 = .ok (.getfield 82, 3) := decAll_at aX10_works_0 31 rfl
theorem dX10_works_57 : decode cX10_works 57 = .ok (.iload_n 3, 1) := decAll_at aX10_works_0 32 rfl
theorem dX10_works_58 : decode cX10_works 58 = .ok (.iconst 1, 1) := decAll_at aX10_works_0 33 rfl
theorem dX10_works_59 : decode cX10_works 59 = .ok (.isub, 1) := decAll_at aX10_works_0 34 rfl
theorem dX10_works_60 : decode cX10_works 60 = .ok (.iconst 1, 1) := decAll_at aX10_works_0 35 rfl
theorem dX10_works_61 : decode cX10_works 61 = .ok (.aload_n 0, 1) := decAll_at aX10_works_0 36 rfl
theorem dX10_works_62 : decode cX10_works 62 = .ok (.getfield 82, 3) := decAll_at aX10_works_0 37 rfl
theorem dX10_works_65 : decode cX10_works 65 = .ok (.iload_n 3, 1) := decAll_at aX10_works_0 38 rfl
theorem dX10_works_66 : decode cX10_works 66 = .ok (.iconst 1, 1) := decAll_at aX10_works_0 39 rfl
theorem dX10_works_67 : decode cX10_works 67 = .ok (.isub, 1) := decAll_at aX10_works_0 40 rfl
theorem dX10_works_68 : decode cX10_works 68 = .ok (.iaload, 1) := decAll_at aX10_works_0 41 rfl
theorem dX10_works_69 : decode cX10_works 69 = .ok (.isub, 1) := decAll_at aX10_works_0 42 rfl
theorem dX10_works_70 : decode cX10_works 70 = .ok (.iastore, 1) := decAll_at aX10_works_0 43 rfl
theorem dX10_works_71 : decode cX10_works 71 = .ok (.goto 50, 3) := decAll_at aX10_works_0 44 rfl
theorem dX10_works_74 : decode cX10_works 74 = .ok (.aload_n 0, 1) := decAll_at aX10_works_0 45 rfl
theorem dX10_works_75 : decode cX10_works 75 = .ok (.getfield 85, 3) := decAll_at aX10_works_0 46 rfl
theorem dX10_works_78 : decode cX10_works 78 = .ok (.iload_n 3, 1) := decAll_at aX10_works_0 47 rfl
theorem dX10_works_79 : decode cX10_works 79 = .ok (.iconst 0, 1) := decAll_at aX10_works_0 48 rfl
theorem dX10_works_80 : decode cX10_works 80 = .ok (.bastore, 1) := decAll_at aX10_works_0 49 rfl
theorem dX10_works_81 : decode cX10_works 81 = .ok (.aload_n 0, 1) := decAll_at aX10_works_0 50 rfl
theorem dX10_works_82 : decode cX10_works 82 = .ok (.getfield 82, 3) := decAll_at aX10_works_0 51 rfl
theorem dX10_works_85 : decode cX10_works 85 = .ok (.iload_n 3, 1) := decAll_at aX10_works_0 52 rfl
theorem dX10_works_86 : decode cX10_works 86 = .ok (.aload_n 0, 1) := decAll_at aX10_works_0 53 rfl
theorem dX10_works_87 : decode cX10_works 87 = .ok (.getfield 55, 3) := decAll_at aX10_works_0 54 rfl
theorem dX10_works_90 : decode cX10_works 90 = .ok (.iload 4, 2) := decAll_at aX10_works_0 55 rfl
theorem dX10_works_92 : decode cX10_works 92 = .ok (.iaload, 1) := decAll_at aX10_works_0 56 rfl
theorem dX10_works_93 : decode cX10_works 93 = .ok (.ifCond .ne 13, 3) := decAll_at aX10_works_0 57 rfl
theorem dX10_works_96 : decode cX10_works 96 = .ok (.aload_n 0, 1) := decAll_at aX10_works_0 58 rfl
theorem dX10_works_97 : decode cX10_works 97 = .ok (.getfield 58, 3) := decAll_at aX10_works_0 59 rfl
theorem dX10_works_100 : decode cX10_works 100 = .ok (.iload 4, 2) := decAll_at aX10_works_0 60 rfl
theorem dX10_works_102 : decode cX10_works 102 = .ok (.iaload, 1) := decAll_at aX10_works_0 61 rfl
theorem dX10_works_103 : decode cX10_works 103 = .ok (.goto 14, 3) := decAll_at aX10_works_0 62 rfl
theorem dX10_works_106 : decode cX10_works 106 = .ok (.aload_n 0, 1) := decAll_at aX10_works_0 63 rfl
def laX10_works_1 : List (Nat × Instr × Nat) := [(107, .aload_n 0, 1), (108, .getfield 58, 3), (111, .iload 4, 2), (113, .iaload, 1), (114, .invokevirtual 332, 3), (117, .iastore, 1), (118, .iinc 3 1, 3), (121, .iinc 4 1, 3), (124, .goto (-119), 3), (127, .return_, 1)]
theorem aX10_works_1 : decAll cX10_works laX10_works_1 = true := by decide +kernel
theorem dX10_works_107 : decode cX10_works 107 = .ok (.aload_n 0, 1) := decAll_at aX10_works_1 0 rfl
theorem dX10_works_108 : decode cX10_works 108 = .ok (.getfield 58, 3) := decAll_at aX10_works_1 1 rfl
theorem dX10_works_111 : decode cX10_works 111 = .ok (.iload 4, 2) := decAll_at aX10_works_1 2 rfl
theorem dX10_works_113 : decode cX10_works 113 = .ok (.iaload, 1) := decAll_at aX10_works_1 3 rfl
theorem dX10_works_114 : decode cX10_works 114 = .ok (.invokevirtual 332, 3) := decAll_at aX10_works_1 4 rfl
theorem dX10_works_117 : decode cX10_works 117 = .ok (.iastore, 1) := decAll_at aX10_works_1 5 rfl
theorem dX10_works_118 : decode cX10_works 118 = .ok (.iinc 3 1, 3) := decAll_at aX10_works_1 6 rfl
theorem dX10_works_121 : decode cX10_works 121 = .ok (.iinc 4 1, 3) := decAll_at aX10_works_1 7 rfl
theorem dX10_works_124 : decode cX10_works 124 = .ok (.goto (-119), 3) := decAll_at aX10_works_1 8 rfl
theorem dX10_works_127 : decode cX10_works 127 = .ok (.return_, 1) := decAll_at aX10_works_1 9 rfl
def laX10_tells_0 : List (Nat × Instr × Nat) := [(0, .iconst 0, 1), (1, .istore 4, 2), (3, .iload 4, 2), (5, .aload_n 0, 1), (6, .getfield 301, 3), (9, .if_icmp .ge 106, 3), (12, .aload_n 0, 1), (13, .getfield 43, 3), (16, .iload 4, 2), (18, .iaload, 1), (19, .iload_n 1, 1), (20, .if_icmp .eq 6, 3), (23, .goto 86, 3), (26, .aload_n 0, 1), (27, .aload_n 0, 1), (28, .getfield 49, 3), (31, .iload 4, 2), (33, .iaload, 1), (34, .aload_n 0, 1), (35, .getfield 52, 3), (38, .iload 4, 2), (40, .iaload, 1), (41, .invokevirtual 336, 3), (44, .aload_n 0, 1), (45, .getfield 85, 3), (48, .iconst 0, 1), (49, .baload, 1), (50, .ifCond .ne 59, 3), (53, .aload_n 0, 1), (54, .getfield 82, 3), (57, .iconst 0, 1), (58, .iaload, 1), (59, .iconst 1, 1), (60, .if_icmp .eq 6, 3), (63, .goto 46, 3), (66, .aload_n 0, 1), (67, .aload_n 0, 1), (68, .getfield 46, 3), (71, .iload 4, 2), (73, .iaload, 1), (74, .aload_n 0, 1), (75, .getfield 49, 3), (78, .iload 4, 2), (80, .iaload, 1), (81, .invokevirtual 336, 3), (84, .aload_n 0, 1), (85, .getfield 85, 3), (88, .iconst 0, 1), (89, .baload, 1), (90, .ifCond .eq 7, 3), (93, .iconst 0, 1), (94, .goto 9, 3), (97, .aload_n 0, 1), (98, .getfield 82, 3), (101, .iconst 0, 1), (102, .iaload, 1), (103, .iload_n 2, 1), (104, .iload_n 3, 1), (105, .invokestatic 339, 3), (108, .ireturn, 1), (109, .iinc 4 1, 3), (112, .goto (-109), 3), (115, .iconst 0, 1), (116, .ireturn, 1)]
theorem aX10_tells_0 : decAll cX10_tells laX10_tells_0 = true := by decide +kernel
theorem dX10_tells_0 : decode cX10_tells 0 = .ok (.iconst 0, 1) := decAll_at aX10_tells_0 0 rfl
theorem dX10_tells_1 : decode cX10_tells 1 = .ok (.istore 4, 2) := decAll_at aX10_tells_0 1 rfl
theorem dX10_tells_3 : decode cX10_tells 3 = .ok (.iload 4, 2) := decAll_at aX10_tells_0 2 rfl
theorem dX10_tells_5 : decode cX10_tells 5 = .ok (.aload_n 0, 1) := decAll_at aX10_tells_0 3 rfl
theorem dX10_tells_6 : decode cX10_tells 6 = .ok (.getfield 301, 3) := decAll_at aX10_tells_0 4 rfl
theorem dX10_tells_9 : decode cX10_tells 9 = .ok (.if_icmp .ge 106, 3) := decAll_at aX10_tells_0 5 rfl
theorem dX10_tells_12 : decode cX10_tells 12 = .ok (.aload_n 0, 1) := decAll_at aX10_tells_0 6 rfl
theorem dX10_tells_13 : decode cX10_tells 13 = .ok (.getfield 43, 3) := decAll_at aX10_tells_0 7 rfl
theorem dX10_tells_16 : decode cX10_tells 16 = .ok (.iload 4, 2) := decAll_at aX10_tells_0 8 rfl
theorem dX10_tells_18 : decode cX10_tells 18 = .ok (.iaload, 1) := decAll_at aX10_tells_0 9 rfl
theorem dX10_tells_19 : decode cX10_tells 19 = .ok (.iload_n 1, 1) := decAll_at aX10_tells_0 10 rfl
theorem dX10_tells_20 : decode cX10_tells 20 = .ok (.if_icmp .eq 6, 3) := decAll_at aX10_tells_0 11 rfl
theorem dX10_tells_23 : decode cX10_tells 23 = .ok (.goto 86, 3) := decAll_at aX10_tells_0 12 rfl
theorem dX10_tells_26 : decode cX10_tells 26 = .ok (.aload_n 0, 1) := decAll_at aX10_tells_0 13 rfl
theorem dX10_tells_27 : decode cX10_tells 27 = .ok (.aload_n 0, 1) := decAll_at aX10_tells_0 14 rfl
theorem dX10_tells_28 : decode cX10_tells 28 = .ok (.getfield 49, 3) := decAll_at aX10_tells_0 15 rfl
theorem dX10_tells_31 : decode cX10_tells 31 = .ok (.iload 4, 2) := decAll_at aX10_tells_0 16 rfl
theorem dX10_tells_33 : decode cX10_tells 33 = .ok (.iaload, 1) := decAll_at aX10_tells_0 17 rfl
theorem dX10_tells_34 : decode cX10_tells 34 = .ok (.aload_n 0, 1) := decAll_at aX10_tells_0 18 rfl
theorem dX10_tells_35 : decode cX10_tells 35 = .ok (.getfield 52, 3) := decAll_at aX10_tells_0 19 rfl
theorem dX10_tells_38 : decode cX10_tells 38 = .ok (.iload 4, 2) := decAll_at aX10_tells_0 20 rfl
theorem dX10_tells_40 : decode cX10_tells 40 = .ok (.iaload, 1) := decAll_at aX10_tells_0 21 rfl
theorem dX10_tells_41 : decode cX10_tells 41 = .ok (.invokevirtual 336, 3) := decAll_at aX10_tells_0 22 rfl
theorem dX10_tells_44 : decode cX10_tells 44 = .ok (.aload_n 0, 1) := decAll_at aX10_tells_0 23 rfl
theorem dX10_tells_45 : decode cX10_tells 45 = .ok (.getfield 85, 3) := decAll_at aX10_tells_0 24 rfl
theorem dX10_tells_48 : decode cX10_tells 48 = .ok (.iconst 0, 1) := decAll_at aX10_tells_0 25 rfl
theorem dX10_tells_49 : decode cX10_tells 49 = .ok (.baload, 1) := decAll_at aX10_tells_0 26 rfl
theorem dX10_tells_50 : decode cX10_tells 50 = .ok (.ifCond .ne 59, 3) := decAll_at aX10_tells_0 27 rfl
theorem dX10_tells_53 : decode cX10_tells 53 = .ok (.aload_n 0, 1) := decAll_at aX10_tells_0 28 rfl
theorem dX10_tells_54 : decode cX10_tells 54 = .ok (.getfield 82, 3) := decAll_at aX10_tells_0 29 rfl
theorem dX10_tells_57 : decode cX10_tells 57 = .ok (.iconst 0, 1) := decAll_at aX10_tells_0 30 rfl
theorem dX10_tells_58 : decode cX10_tells 58 = .ok (.iaload, 1) := decAll_at aX10_tells_0 31 rfl
theorem dX10_tells_59 : decode cX10_tells 59 = .ok (.iconst 1, 1) := decAll_at aX10_tells_0 32 rfl
theorem dX10_tells_60 : decode cX10_tells 60 = .ok (.if_icmp .eq 6, 3) := decAll_at aX10_tells_0 33 rfl
theorem dX10_tells_63 : decode cX10_tells 63 = .ok (.goto 46, 3) := decAll_at aX10_tells_0 34 rfl
theorem dX10_tells_66 : decode cX10_tells 66 = .ok (.aload_n 0, 1) := decAll_at aX10_tells_0 35 rfl
theorem dX10_tells_67 : decode cX10_tells 67 = .ok (.aload_n 0, 1) := decAll_at aX10_tells_0 36 rfl
theorem dX10_tells_68 : decode cX10_tells 68 = .ok (.getfield 46, 3) := decAll_at aX10_tells_0 37 rfl
theorem dX10_tells_71 : decode cX10_tells 71 = .ok (.iload 4, 2) := decAll_at aX10_tells_0 38 rfl
theorem dX10_tells_73 : decode cX10_tells 73 = .ok (.iaload, 1) := decAll_at aX10_tells_0 39 rfl
theorem dX10_tells_74 : decode cX10_tells 74 = .ok (.aload_n 0, 1) := decAll_at aX10_tells_0 40 rfl
theorem dX10_tells_75 : decode cX10_tells 75 = .ok (.getfield 49, 3) := decAll_at aX10_tells_0 41 rfl
theorem dX10_tells_78 : decode cX10_tells 78 = .ok (.iload 4, 2) := decAll_at aX10_tells_0 42 rfl
theorem dX10_tells_80 : decode cX10_tells 80 = .ok (.iaload, 1) := decAll_at aX10_tells_0 43 rfl
theorem dX10_tells_81 : decode cX10_tells 81 = .ok (.invokevirtual 336, 3) := decAll_at aX10_tells_0 44 rfl
theorem dX10_tells_84 : decode cX10_tells 84 = .ok (.aload_n 0, 1) := decAll_at aX10_tells_0 45 rfl
theorem dX10_tells_85 : decode cX10_tells 85 = .ok (.getfield 85, 3) := decAll_at aX10_tells_0 46 rfl
theorem dX10_tells_88 : decode cX10_tells 88 = .ok (.iconst 0, 1) := decAll_at aX10_tells_0 47 rfl
theorem dX10_tells_89 : decode cX10_tells 89 = .ok (.baload, 1) := decAll_at aX10_tells_0 48 rfl
theorem dX10_tells_90 : decode cX10_tells 90 = .ok (.ifCond .eq 7, 3) := decAll_at aX10_tells_0 49 rfl
theorem dX10_tells_93 : decode cX10_tells 93 = .ok (.iconst 0, 1) := decAll_at aX10_tells_0 50 rfl
theorem dX10_tells_94 : decode cX10_tells 94 = .ok (.goto 9, 3) := decAll_at aX10_tells_0 51 rfl
theorem dX10_tells_97 : decode cX10_tells 97 = .ok (.aload_n 0, 1) := decAll_at aX10_tells_0 52 rfl
theorem dX10_tells_98 : decode cX10_tells 98 = .ok (.getfield 82, 3) := decAll_at aX10_tells_0 53 rfl
theorem dX10_tells_101 : decode cX10_tells 101 = .ok (.iconst 0, 1) := decAll_at aX10_tells_0 54 rfl
theorem dX10_tells_102 : decode cX10_tells 102 = .ok (.iaload, 1) := decAll_at aX10_tells_0 55 rfl
theorem dX10_tells_103 : decode cX10_tells 103 = .ok (.iload_n 2, 1) := decAll_at aX10_tells_0 56 rfl
theorem dX10_tells_104 : decode cX10_tells 104 = .ok (.iload_n 3, 1) := decAll_at aX10_tells_0 57 rfl
theorem dX10_tells_105 : decode cX10_tells 105 = .ok (.invokestatic 339, 3) := decAll_at aX10_tells_0 58 rfl
theorem dX10_tells_108 : decode cX10_tells 108 = .ok (.ireturn, 1) := decAll_at aX10_tells_0 59 rfl
theorem dX10_tells_109 : decode cX10_tells 109 = .ok (.iinc 4 1, 3) := decAll_at aX10_tells_0 60 rfl
theorem dX10_tells_112 : decode cX10_tells 112 = .ok (.goto (-109), 3) := decAll_at aX10_tells_0 61 rfl
theorem dX10_tells_115 : decode cX10_tells 115 = .ok (.iconst 0, 1) := decAll_at aX10_tells_0 62 rfl
theorem dX10_tells_116 : decode cX10_tells 116 = .ok (.ireturn, 1) := decAll_at aX10_tells_0 63 rfl
def laX10_paceOf_0 : List (Nat × Instr × Nat) := [(0, .aload_n 0, 1), (1, .iload_n 1, 1), (2, .putfield 304, 3), (5, .aload_n 0, 1), (6, .iload_n 2, 1), (7, .putfield 307, 3), (10, .aload_n 0, 1), (11, .iload_n 3, 1), (12, .putfield 310, 3), (15, .aload_n 0, 1), (16, .iload 5, 2), (18, .ifCond .eq 14, 3), (21, .aload_n 0, 1), (22, .getfield 40, 3), (25, .iload 4, 2), (27, .iaload, 1), (28, .ineg, 1), (29, .goto 10, 3), (32, .aload_n 0, 1), (33, .getfield 40, 3), (36, .iload 4, 2), (38, .iaload, 1), (39, .putfield 313, 3), (42, .aload_n 0, 1), (43, .aload_n 0, 1), (44, .getfield 37, 3), (47, .iload 4, 2), (49, .iaload, 1), (50, .putfield 316, 3), (53, .aload_n 0, 1), (54, .iload 4, 2), (56, .putfield 319, 3), (59, .aload_n 0, 1), (60, .iconst 0, 1), (61, .putfield 322, 3), (64, .aload_n 0, 1), (65, .bipush 118, 2), (67, .iconst 0, 1), (68, .bipush 60, 2), (70, .invokevirtual 342, 3), (73, .istore 6, 2), (75, .aload_n 0, 1), (76, .getfield 24, 3), (79, .iload_n 1, 1), (80, .baload, 1), (81, .ifCond .eq 10, 3), (84, .iload 6, 2), (86, .iconst 2, 1), (87, .idiv, 1), (88, .goto 5, 3), (91, .iload 6, 2), (93, .ireturn, 1)]
theorem aX10_paceOf_0 : decAll cX10_paceOf laX10_paceOf_0 = true := by decide +kernel
theorem dX10_paceOf_0 : decode cX10_paceOf 0 = .ok (.aload_n 0, 1) := decAll_at aX10_paceOf_0 0 rfl
theorem dX10_paceOf_1 : decode cX10_paceOf 1 = .ok (.iload_n 1, 1) := decAll_at aX10_paceOf_0 1 rfl
theorem dX10_paceOf_2 : decode cX10_paceOf 2 = .ok (.putfield 304, 3) := decAll_at aX10_paceOf_0 2 rfl
theorem dX10_paceOf_5 : decode cX10_paceOf 5 = .ok (.aload_n 0, 1) := decAll_at aX10_paceOf_0 3 rfl
theorem dX10_paceOf_6 : decode cX10_paceOf 6 = .ok (.iload_n 2, 1) := decAll_at aX10_paceOf_0 4 rfl
theorem dX10_paceOf_7 : decode cX10_paceOf 7 = .ok (.putfield 307, 3) := decAll_at aX10_paceOf_0 5 rfl
theorem dX10_paceOf_10 : decode cX10_paceOf 10 = .ok (.aload_n 0, 1) := decAll_at aX10_paceOf_0 6 rfl
theorem dX10_paceOf_11 : decode cX10_paceOf 11 = .ok (.iload_n 3, 1) := decAll_at aX10_paceOf_0 7 rfl
theorem dX10_paceOf_12 : decode cX10_paceOf 12 = .ok (.putfield 310, 3) := decAll_at aX10_paceOf_0 8 rfl
theorem dX10_paceOf_15 : decode cX10_paceOf 15 = .ok (.aload_n 0, 1) := decAll_at aX10_paceOf_0 9 rfl
theorem dX10_paceOf_16 : decode cX10_paceOf 16 = .ok (.iload 5, 2) := decAll_at aX10_paceOf_0 10 rfl
theorem dX10_paceOf_18 : decode cX10_paceOf 18 = .ok (.ifCond .eq 14, 3) := decAll_at aX10_paceOf_0 11 rfl
theorem dX10_paceOf_21 : decode cX10_paceOf 21 = .ok (.aload_n 0, 1) := decAll_at aX10_paceOf_0 12 rfl
theorem dX10_paceOf_22 : decode cX10_paceOf 22 = .ok (.getfield 40, 3) := decAll_at aX10_paceOf_0 13 rfl
theorem dX10_paceOf_25 : decode cX10_paceOf 25 = .ok (.iload 4, 2) := decAll_at aX10_paceOf_0 14 rfl
theorem dX10_paceOf_27 : decode cX10_paceOf 27 = .ok (.iaload, 1) := decAll_at aX10_paceOf_0 15 rfl
theorem dX10_paceOf_28 : decode cX10_paceOf 28 = .ok (.ineg, 1) := decAll_at aX10_paceOf_0 16 rfl
theorem dX10_paceOf_29 : decode cX10_paceOf 29 = .ok (.goto 10, 3) := decAll_at aX10_paceOf_0 17 rfl
theorem dX10_paceOf_32 : decode cX10_paceOf 32 = .ok (.aload_n 0, 1) := decAll_at aX10_paceOf_0 18 rfl
theorem dX10_paceOf_33 : decode cX10_paceOf 33 = .ok (.getfield 40, 3) := decAll_at aX10_paceOf_0 19 rfl
theorem dX10_paceOf_36 : decode cX10_paceOf 36 = .ok (.iload 4, 2) := decAll_at aX10_paceOf_0 20 rfl
theorem dX10_paceOf_38 : decode cX10_paceOf 38 = .ok (.iaload, 1) := decAll_at aX10_paceOf_0 21 rfl
theorem dX10_paceOf_39 : decode cX10_paceOf 39 = .ok (.putfield 313, 3) := decAll_at aX10_paceOf_0 22 rfl
theorem dX10_paceOf_42 : decode cX10_paceOf 42 = .ok (.aload_n 0, 1) := decAll_at aX10_paceOf_0 23 rfl
theorem dX10_paceOf_43 : decode cX10_paceOf 43 = .ok (.aload_n 0, 1) := decAll_at aX10_paceOf_0 24 rfl
theorem dX10_paceOf_44 : decode cX10_paceOf 44 = .ok (.getfield 37, 3) := decAll_at aX10_paceOf_0 25 rfl
theorem dX10_paceOf_47 : decode cX10_paceOf 47 = .ok (.iload 4, 2) := decAll_at aX10_paceOf_0 26 rfl
theorem dX10_paceOf_49 : decode cX10_paceOf 49 = .ok (.iaload, 1) := decAll_at aX10_paceOf_0 27 rfl
theorem dX10_paceOf_50 : decode cX10_paceOf 50 = .ok (.putfield 316, 3) := decAll_at aX10_paceOf_0 28 rfl
theorem dX10_paceOf_53 : decode cX10_paceOf 53 = .ok (.aload_n 0, 1) := decAll_at aX10_paceOf_0 29 rfl
theorem dX10_paceOf_54 : decode cX10_paceOf 54 = .ok (.iload 4, 2) := decAll_at aX10_paceOf_0 30 rfl
theorem dX10_paceOf_56 : decode cX10_paceOf 56 = .ok (.putfield 319, 3) := decAll_at aX10_paceOf_0 31 rfl
theorem dX10_paceOf_59 : decode cX10_paceOf 59 = .ok (.aload_n 0, 1) := decAll_at aX10_paceOf_0 32 rfl
theorem dX10_paceOf_60 : decode cX10_paceOf 60 = .ok (.iconst 0, 1) := decAll_at aX10_paceOf_0 33 rfl
theorem dX10_paceOf_61 : decode cX10_paceOf 61 = .ok (.putfield 322, 3) := decAll_at aX10_paceOf_0 34 rfl
theorem dX10_paceOf_64 : decode cX10_paceOf 64 = .ok (.aload_n 0, 1) := decAll_at aX10_paceOf_0 35 rfl
theorem dX10_paceOf_65 : decode cX10_paceOf 65 = .ok (.bipush 118, 2) := decAll_at aX10_paceOf_0 36 rfl
theorem dX10_paceOf_67 : decode cX10_paceOf 67 = .ok (.iconst 0, 1) := decAll_at aX10_paceOf_0 37 rfl
theorem dX10_paceOf_68 : decode cX10_paceOf 68 = .ok (.bipush 60, 2) := decAll_at aX10_paceOf_0 38 rfl
theorem dX10_paceOf_70 : decode cX10_paceOf 70 = .ok (.invokevirtual 342, 3) := decAll_at aX10_paceOf_0 39 rfl
theorem dX10_paceOf_73 : decode cX10_paceOf 73 = .ok (.istore 6, 2) := decAll_at aX10_paceOf_0 40 rfl
theorem dX10_paceOf_75 : decode cX10_paceOf 75 = .ok (.aload_n 0, 1) := decAll_at aX10_paceOf_0 41 rfl
theorem dX10_paceOf_76 : decode cX10_paceOf 76 = .ok (.getfield 24, 3) := decAll_at aX10_paceOf_0 42 rfl
theorem dX10_paceOf_79 : decode cX10_paceOf 79 = .ok (.iload_n 1, 1) := decAll_at aX10_paceOf_0 43 rfl
theorem dX10_paceOf_80 : decode cX10_paceOf 80 = .ok (.baload, 1) := decAll_at aX10_paceOf_0 44 rfl
theorem dX10_paceOf_81 : decode cX10_paceOf 81 = .ok (.ifCond .eq 10, 3) := decAll_at aX10_paceOf_0 45 rfl
theorem dX10_paceOf_84 : decode cX10_paceOf 84 = .ok (.iload 6, 2) := decAll_at aX10_paceOf_0 46 rfl
theorem dX10_paceOf_86 : decode cX10_paceOf 86 = .ok (.iconst 2, 1) := decAll_at aX10_paceOf_0 47 rfl
theorem dX10_paceOf_87 : decode cX10_paceOf 87 = .ok (.idiv, 1) := decAll_at aX10_paceOf_0 48 rfl
theorem dX10_paceOf_88 : decode cX10_paceOf 88 = .ok (.goto 5, 3) := decAll_at aX10_paceOf_0 49 rfl
theorem dX10_paceOf_91 : decode cX10_paceOf 91 = .ok (.iload 6, 2) := decAll_at aX10_paceOf_0 50 rfl
theorem dX10_paceOf_93 : decode cX10_paceOf 93 = .ok (.ireturn, 1) := decAll_at aX10_paceOf_0 51 rfl
def laX10_tiredOf_0 : List (Nat × Instr × Nat) := [(0, .iload_n 0, 1), (1, .istore_n 2, 1), (2, .iconst 0, 1), (3, .istore_n 3, 1), (4, .iload_n 3, 1), (5, .iload_n 1, 1), (6, .if_icmp .ge 14, 3), (9, .iload_n 2, 1), (10, .bipush 6, 2), (12, .idiv, 1), (13, .istore_n 2, 1), (14, .iinc 3 1, 3), (17, .goto (-13), 3), (20, .iload_n 2, 1), (21, .bipush 6, 2), (23, .irem, 1), (24, .ireturn, 1)]
theorem aX10_tiredOf_0 : decAll cX10_tiredOf laX10_tiredOf_0 = true := by decide +kernel
theorem dX10_tiredOf_0 : decode cX10_tiredOf 0 = .ok (.iload_n 0, 1) := decAll_at aX10_tiredOf_0 0 rfl
theorem dX10_tiredOf_1 : decode cX10_tiredOf 1 = .ok (.istore_n 2, 1) := decAll_at aX10_tiredOf_0 1 rfl
theorem dX10_tiredOf_2 : decode cX10_tiredOf 2 = .ok (.iconst 0, 1) := decAll_at aX10_tiredOf_0 2 rfl
theorem dX10_tiredOf_3 : decode cX10_tiredOf 3 = .ok (.istore_n 3, 1) := decAll_at aX10_tiredOf_0 3 rfl
theorem dX10_tiredOf_4 : decode cX10_tiredOf 4 = .ok (.iload_n 3, 1) := decAll_at aX10_tiredOf_0 4 rfl
theorem dX10_tiredOf_5 : decode cX10_tiredOf 5 = .ok (.iload_n 1, 1) := decAll_at aX10_tiredOf_0 5 rfl
theorem dX10_tiredOf_6 : decode cX10_tiredOf 6 = .ok (.if_icmp .ge 14, 3) := decAll_at aX10_tiredOf_0 6 rfl
theorem dX10_tiredOf_9 : decode cX10_tiredOf 9 = .ok (.iload_n 2, 1) := decAll_at aX10_tiredOf_0 7 rfl
theorem dX10_tiredOf_10 : decode cX10_tiredOf 10 = .ok (.bipush 6, 2) := decAll_at aX10_tiredOf_0 8 rfl
theorem dX10_tiredOf_12 : decode cX10_tiredOf 12 = .ok (.idiv, 1) := decAll_at aX10_tiredOf_0 9 rfl
theorem dX10_tiredOf_13 : decode cX10_tiredOf 13 = .ok (.istore_n 2, 1) := decAll_at aX10_tiredOf_0 10 rfl
theorem dX10_tiredOf_14 : decode cX10_tiredOf 14 = .ok (.iinc 3 1, 3) := decAll_at aX10_tiredOf_0 11 rfl
theorem dX10_tiredOf_17 : decode cX10_tiredOf 17 = .ok (.goto (-13), 3) := decAll_at aX10_tiredOf_0 12 rfl
theorem dX10_tiredOf_20 : decode cX10_tiredOf 20 = .ok (.iload_n 2, 1) := decAll_at aX10_tiredOf_0 13 rfl
theorem dX10_tiredOf_21 : decode cX10_tiredOf 21 = .ok (.bipush 6, 2) := decAll_at aX10_tiredOf_0 14 rfl
theorem dX10_tiredOf_23 : decode cX10_tiredOf 23 = .ok (.irem, 1) := decAll_at aX10_tiredOf_0 15 rfl
theorem dX10_tiredOf_24 : decode cX10_tiredOf 24 = .ok (.ireturn, 1) := decAll_at aX10_tiredOf_0 16 rfl
def laX10_isTiredness_0 : List (Nat × Instr × Nat) := [(0, .iload_n 0, 1), (1, .i2l, 1), (2, .lconst 0, 1), (3, .ldc2_w 345, 3), (6, .invokestatic 153, 3), (9, .ireturn, 1)]
theorem aX10_isTiredness_0 : decAll cX10_isTiredness laX10_isTiredness_0 = true := by decide +kernel
theorem dX10_isTiredness_0 : decode cX10_isTiredness 0 = .ok (.iload_n 0, 1) := decAll_at aX10_isTiredness_0 0 rfl
theorem dX10_isTiredness_1 : decode cX10_isTiredness 1 = .ok (.i2l, 1) := decAll_at aX10_isTiredness_0 1 rfl
theorem dX10_isTiredness_2 : decode cX10_isTiredness 2 = .ok (.lconst 0, 1) := decAll_at aX10_isTiredness_0 2 rfl
theorem dX10_isTiredness_3 : decode cX10_isTiredness 3 = .ok (.ldc2_w 345, 3) := decAll_at aX10_isTiredness_0 3 rfl
theorem dX10_isTiredness_6 : decode cX10_isTiredness 6 = .ok (.invokestatic 153, 3) := decAll_at aX10_isTiredness_0 4 rfl
theorem dX10_isTiredness_9 : decode cX10_isTiredness 9 = .ok (.ireturn, 1) := decAll_at aX10_isTiredness_0 5 rfl
def laX10_minutesOf_0 : List (Nat × Instr × Nat) := [(0, .sipush 600, 3), (3, .aload_n 0, 1), (4, .getfield 37, 3), (7, .iload_n 1, 1), (8, .iaload, 1), (9, .imul, 1), (10, .iload_n 2, 1), (11, .iadd, 1), (12, .iconst 1, 1), (13, .isub, 1), (14, .iload_n 2, 1), (15, .idiv, 1), (16, .ireturn, 1)]
theorem aX10_minutesOf_0 : decAll cX10_minutesOf laX10_minutesOf_0 = true := by decide +kernel
theorem dX10_minutesOf_0 : decode cX10_minutesOf 0 = .ok (.sipush 600, 3) := decAll_at aX10_minutesOf_0 0 rfl
theorem dX10_minutesOf_3 : decode cX10_minutesOf 3 = .ok (.aload_n 0, 1) := decAll_at aX10_minutesOf_0 1 rfl
theorem dX10_minutesOf_4 : decode cX10_minutesOf 4 = .ok (.getfield 37, 3) := decAll_at aX10_minutesOf_0 2 rfl
theorem dX10_minutesOf_7 : decode cX10_minutesOf 7 = .ok (.iload_n 1, 1) := decAll_at aX10_minutesOf_0 3 rfl
theorem dX10_minutesOf_8 : decode cX10_minutesOf 8 = .ok (.iaload, 1) := decAll_at aX10_minutesOf_0 4 rfl
theorem dX10_minutesOf_9 : decode cX10_minutesOf 9 = .ok (.imul, 1) := decAll_at aX10_minutesOf_0 5 rfl
theorem dX10_minutesOf_10 : decode cX10_minutesOf 10 = .ok (.iload_n 2, 1) := decAll_at aX10_minutesOf_0 6 rfl
theorem dX10_minutesOf_11 : decode cX10_minutesOf 11 = .ok (.iadd, 1) := decAll_at aX10_minutesOf_0 7 rfl
theorem dX10_minutesOf_12 : decode cX10_minutesOf 12 = .ok (.iconst 1, 1) := decAll_at aX10_minutesOf_0 8 rfl
theorem dX10_minutesOf_13 : decode cX10_minutesOf 13 = .ok (.isub, 1) := decAll_at aX10_minutesOf_0 9 rfl
theorem dX10_minutesOf_14 : decode cX10_minutesOf 14 = .ok (.iload_n 2, 1) := decAll_at aX10_minutesOf_0 10 rfl
theorem dX10_minutesOf_15 : decode cX10_minutesOf 15 = .ok (.idiv, 1) := decAll_at aX10_minutesOf_0 11 rfl
theorem dX10_minutesOf_16 : decode cX10_minutesOf 16 = .ok (.ireturn, 1) := decAll_at aX10_minutesOf_0 12 rfl
def laX10_pace_0 : List (Nat × Instr × Nat) := [(0, .aload_n 0, 1), (1, .iload_n 1, 1), (2, .invokevirtual 175, 3), (5, .ifCond .eq 49, 3), (8, .iload_n 2, 1), (9, .i2l, 1), (10, .lconst 0, 1), (11, .ldc2_w 347, 3), (14, .invokestatic 153, 3), (17, .ifCond .eq 37, 3), (20, .iload_n 3, 1), (21, .i2l, 1), (22, .lconst 0, 1), (23, .ldc2_w 349, 3), (26, .invokestatic 153, 3), (29, .ifCond .eq 25, 3), (32, .aload_n 0, 1), (33, .iload 4, 2), (35, .invokevirtual 351, 3), (38, .ifCond .eq 16, 3), (41, .aload_n 0, 1), (42, .iload_n 1, 1), (43, .iload_n 2, 1), (44, .iload_n 3, 1), (45, .iload 4, 2), (47, .iconst 0, 1), (48, .invokevirtual 354, 3), (51, .goto 4, 3), (54, .iconst (-1), 1), (55, .ireturn, 1)]
theorem aX10_pace_0 : decAll cX10_pace laX10_pace_0 = true := by decide +kernel
theorem dX10_pace_0 : decode cX10_pace 0 = .ok (.aload_n 0, 1) := decAll_at aX10_pace_0 0 rfl
theorem dX10_pace_1 : decode cX10_pace 1 = .ok (.iload_n 1, 1) := decAll_at aX10_pace_0 1 rfl
theorem dX10_pace_2 : decode cX10_pace 2 = .ok (.invokevirtual 175, 3) := decAll_at aX10_pace_0 2 rfl
theorem dX10_pace_5 : decode cX10_pace 5 = .ok (.ifCond .eq 49, 3) := decAll_at aX10_pace_0 3 rfl
theorem dX10_pace_8 : decode cX10_pace 8 = .ok (.iload_n 2, 1) := decAll_at aX10_pace_0 4 rfl
theorem dX10_pace_9 : decode cX10_pace 9 = .ok (.i2l, 1) := decAll_at aX10_pace_0 5 rfl
theorem dX10_pace_10 : decode cX10_pace 10 = .ok (.lconst 0, 1) := decAll_at aX10_pace_0 6 rfl
theorem dX10_pace_11 : decode cX10_pace 11 = .ok (.ldc2_w 347, 3) := decAll_at aX10_pace_0 7 rfl
theorem dX10_pace_14 : decode cX10_pace 14 = .ok (.invokestatic 153, 3) := decAll_at aX10_pace_0 8 rfl
theorem dX10_pace_17 : decode cX10_pace 17 = .ok (.ifCond .eq 37, 3) := decAll_at aX10_pace_0 9 rfl
theorem dX10_pace_20 : decode cX10_pace 20 = .ok (.iload_n 3, 1) := decAll_at aX10_pace_0 10 rfl
theorem dX10_pace_21 : decode cX10_pace 21 = .ok (.i2l, 1) := decAll_at aX10_pace_0 11 rfl
theorem dX10_pace_22 : decode cX10_pace 22 = .ok (.lconst 0, 1) := decAll_at aX10_pace_0 12 rfl
theorem dX10_pace_23 : decode cX10_pace 23 = .ok (.ldc2_w 349, 3) := decAll_at aX10_pace_0 13 rfl
theorem dX10_pace_26 : decode cX10_pace 26 = .ok (.invokestatic 153, 3) := decAll_at aX10_pace_0 14 rfl
theorem dX10_pace_29 : decode cX10_pace 29 = .ok (.ifCond .eq 25, 3) := decAll_at aX10_pace_0 15 rfl
theorem dX10_pace_32 : decode cX10_pace 32 = .ok (.aload_n 0, 1) := decAll_at aX10_pace_0 16 rfl
theorem dX10_pace_33 : decode cX10_pace 33 = .ok (.iload 4, 2) := decAll_at aX10_pace_0 17 rfl
theorem dX10_pace_35 : decode cX10_pace 35 = .ok (.invokevirtual 351, 3) := decAll_at aX10_pace_0 18 rfl
theorem dX10_pace_38 : decode cX10_pace 38 = .ok (.ifCond .eq 16, 3) := decAll_at aX10_pace_0 19 rfl
theorem dX10_pace_41 : decode cX10_pace 41 = .ok (.aload_n 0, 1) := decAll_at aX10_pace_0 20 rfl
theorem dX10_pace_42 : decode cX10_pace 42 = .ok (.iload_n 1, 1) := decAll_at aX10_pace_0 21 rfl
theorem dX10_pace_43 : decode cX10_pace 43 = .ok (.iload_n 2, 1) := decAll_at aX10_pace_0 22 rfl
theorem dX10_pace_44 : decode cX10_pace 44 = .ok (.iload_n 3, 1) := decAll_at aX10_pace_0 23 rfl
theorem dX10_pace_45 : decode cX10_pace 45 = .ok (.iload 4, 2) := decAll_at aX10_pace_0 24 rfl
theorem dX10_pace_47 : decode cX10_pace 47 = .ok (.iconst 0, 1) := decAll_at aX10_pace_0 25 rfl
theorem dX10_pace_48 : decode cX10_pace 48 = .ok (.invokevirtual 354, 3) := decAll_at aX10_pace_0 26 rfl
theorem dX10_pace_51 : decode cX10_pace 51 = .ok (.goto 4, 3) := decAll_at aX10_pace_0 27 rfl
theorem dX10_pace_54 : decode cX10_pace 54 = .ok (.iconst (-1), 1) := decAll_at aX10_pace_0 28 rfl
theorem dX10_pace_55 : decode cX10_pace 55 = .ok (.ireturn, 1) := decAll_at aX10_pace_0 29 rfl
def laX10_laysWalker_0 : List (Nat × Instr × Nat) := [(0, .bipush 60, 2), (2, .istore 4, 2), (4, .iconst 0, 1), (5, .istore 5, 2), (7, .iload 5, 2), (9, .sipush 401, 3), (12, .if_icmp .ge 52, 3), (15, .aload_n 0, 1), (16, .iload_n 1, 1), (17, .iload 5, 2), (19, .iload_n 2, 1), (20, .iload_n 3, 1), (21, .iconst 0, 1), (22, .invokevirtual 354, 3), (25, .istore 6, 2), (27, .iload 6, 2), (29, .iload 4, 2), (31, .if_icmp .ge 8, 3), (34, .iload 6, 2), (36, .goto 5, 3), (39, .iload 4, 2), (41, .istore 4, 2), (43, .aload_n 0, 1), (44, .getfield 88, 3), (47, .sipush 401, 3), (50, .iload_n 1, 1), (51, .imul, 1), (52, .iload 5, 2), (54, .iadd, 1), (55, .iload 4, 2), (57, .iastore, 1), (58, .iinc 5 1, 3), (61, .goto (-54), 3), (64, .return_, 1)]
theorem aX10_laysWalker_0 : decAll cX10_laysWalker laX10_laysWalker_0 = true := by decide +kernel
theorem dX10_laysWalker_0 : decode cX10_laysWalker 0 = .ok (.bipush 60, 2) := decAll_at aX10_laysWalker_0 0 rfl
theorem dX10_laysWalker_2 : decode cX10_laysWalker 2 = .ok (.istore 4, 2) := decAll_at aX10_laysWalker_0 1 rfl
theorem dX10_laysWalker_4 : decode cX10_laysWalker 4 = .ok (.iconst 0, 1) := decAll_at aX10_laysWalker_0 2 rfl
theorem dX10_laysWalker_5 : decode cX10_laysWalker 5 = .ok (.istore 5, 2) := decAll_at aX10_laysWalker_0 3 rfl
theorem dX10_laysWalker_7 : decode cX10_laysWalker 7 = .ok (.iload 5, 2) := decAll_at aX10_laysWalker_0 4 rfl
theorem dX10_laysWalker_9 : decode cX10_laysWalker 9 = .ok (.sipush 401, 3) := decAll_at aX10_laysWalker_0 5 rfl
theorem dX10_laysWalker_12 : decode cX10_laysWalker 12 = .ok (.if_icmp .ge 52, 3) := decAll_at aX10_laysWalker_0 6 rfl
theorem dX10_laysWalker_15 : decode cX10_laysWalker 15 = .ok (.aload_n 0, 1) := decAll_at aX10_laysWalker_0 7 rfl
theorem dX10_laysWalker_16 : decode cX10_laysWalker 16 = .ok (.iload_n 1, 1) := decAll_at aX10_laysWalker_0 8 rfl
theorem dX10_laysWalker_17 : decode cX10_laysWalker 17 = .ok (.iload 5, 2) := decAll_at aX10_laysWalker_0 9 rfl
theorem dX10_laysWalker_19 : decode cX10_laysWalker 19 = .ok (.iload_n 2, 1) := decAll_at aX10_laysWalker_0 10 rfl
theorem dX10_laysWalker_20 : decode cX10_laysWalker 20 = .ok (.iload_n 3, 1) := decAll_at aX10_laysWalker_0 11 rfl
theorem dX10_laysWalker_21 : decode cX10_laysWalker 21 = .ok (.iconst 0, 1) := decAll_at aX10_laysWalker_0 12 rfl
theorem dX10_laysWalker_22 : decode cX10_laysWalker 22 = .ok (.invokevirtual 354, 3) := decAll_at aX10_laysWalker_0 13 rfl
theorem dX10_laysWalker_25 : decode cX10_laysWalker 25 = .ok (.istore 6, 2) := decAll_at aX10_laysWalker_0 14 rfl
theorem dX10_laysWalker_27 : decode cX10_laysWalker 27 = .ok (.iload 6, 2) := decAll_at aX10_laysWalker_0 15 rfl
theorem dX10_laysWalker_29 : decode cX10_laysWalker 29 = .ok (.iload 4, 2) := decAll_at aX10_laysWalker_0 16 rfl
theorem dX10_laysWalker_31 : decode cX10_laysWalker 31 = .ok (.if_icmp .ge 8, 3) := decAll_at aX10_laysWalker_0 17 rfl
theorem dX10_laysWalker_34 : decode cX10_laysWalker 34 = .ok (.iload 6, 2) := decAll_at aX10_laysWalker_0 18 rfl
theorem dX10_laysWalker_36 : decode cX10_laysWalker 36 = .ok (.goto 5, 3) := decAll_at aX10_laysWalker_0 19 rfl
theorem dX10_laysWalker_39 : decode cX10_laysWalker 39 = .ok (.iload 4, 2) := decAll_at aX10_laysWalker_0 20 rfl
theorem dX10_laysWalker_41 : decode cX10_laysWalker 41 = .ok (.istore 4, 2) := decAll_at aX10_laysWalker_0 21 rfl
theorem dX10_laysWalker_43 : decode cX10_laysWalker 43 = .ok (.aload_n 0, 1) := decAll_at aX10_laysWalker_0 22 rfl
theorem dX10_laysWalker_44 : decode cX10_laysWalker 44 = .ok (.getfield 88, 3) := decAll_at aX10_laysWalker_0 23 rfl
theorem dX10_laysWalker_47 : decode cX10_laysWalker 47 = .ok (.sipush 401, 3) := decAll_at aX10_laysWalker_0 24 rfl
theorem dX10_laysWalker_50 : decode cX10_laysWalker 50 = .ok (.iload_n 1, 1) := decAll_at aX10_laysWalker_0 25 rfl
theorem dX10_laysWalker_51 : decode cX10_laysWalker 51 = .ok (.imul, 1) := decAll_at aX10_laysWalker_0 26 rfl
theorem dX10_laysWalker_52 : decode cX10_laysWalker 52 = .ok (.iload 5, 2) := decAll_at aX10_laysWalker_0 27 rfl
theorem dX10_laysWalker_54 : decode cX10_laysWalker 54 = .ok (.iadd, 1) := decAll_at aX10_laysWalker_0 28 rfl
theorem dX10_laysWalker_55 : decode cX10_laysWalker 55 = .ok (.iload 4, 2) := decAll_at aX10_laysWalker_0 29 rfl
theorem dX10_laysWalker_57 : decode cX10_laysWalker 57 = .ok (.iastore, 1) := decAll_at aX10_laysWalker_0 30 rfl
theorem dX10_laysWalker_58 : decode cX10_laysWalker 58 = .ok (.iinc 5 1, 3) := decAll_at aX10_laysWalker_0 31 rfl
theorem dX10_laysWalker_61 : decode cX10_laysWalker 61 = .ok (.goto (-54), 3) := decAll_at aX10_laysWalker_0 32 rfl
theorem dX10_laysWalker_64 : decode cX10_laysWalker 64 = .ok (.return_, 1) := decAll_at aX10_laysWalker_0 33 rfl
def laX10_lays_0 : List (Nat × Instr × Nat) := [(0, .iconst 0, 1), (1, .istore_n 3, 1), (2, .iload_n 3, 1), (3, .aload_n 0, 1), (4, .getfield 150, 3), (7, .if_icmp .ge 20, 3), (10, .aload_n 0, 1), (11, .iload_n 3, 1), (12, .iload_n 2, 1), (13, .iload_n 3, 1), (14, .invokestatic 358, 3), (17, .iload_n 1, 1), (18, .invokevirtual 361, 3), (21, .iinc 3 1, 3), (24, .goto (-22), 3), (27, .return_, 1)]
theorem aX10_lays_0 : decAll cX10_lays laX10_lays_0 = true := by decide +kernel
theorem dX10_lays_0 : decode cX10_lays 0 = .ok (.iconst 0, 1) := decAll_at aX10_lays_0 0 rfl
theorem dX10_lays_1 : decode cX10_lays 1 = .ok (.istore_n 3, 1) := decAll_at aX10_lays_0 1 rfl
theorem dX10_lays_2 : decode cX10_lays 2 = .ok (.iload_n 3, 1) := decAll_at aX10_lays_0 2 rfl
theorem dX10_lays_3 : decode cX10_lays 3 = .ok (.aload_n 0, 1) := decAll_at aX10_lays_0 3 rfl
theorem dX10_lays_4 : decode cX10_lays 4 = .ok (.getfield 150, 3) := decAll_at aX10_lays_0 4 rfl
theorem dX10_lays_7 : decode cX10_lays 7 = .ok (.if_icmp .ge 20, 3) := decAll_at aX10_lays_0 5 rfl
theorem dX10_lays_10 : decode cX10_lays 10 = .ok (.aload_n 0, 1) := decAll_at aX10_lays_0 6 rfl
theorem dX10_lays_11 : decode cX10_lays 11 = .ok (.iload_n 3, 1) := decAll_at aX10_lays_0 7 rfl
theorem dX10_lays_12 : decode cX10_lays 12 = .ok (.iload_n 2, 1) := decAll_at aX10_lays_0 8 rfl
theorem dX10_lays_13 : decode cX10_lays 13 = .ok (.iload_n 3, 1) := decAll_at aX10_lays_0 9 rfl
theorem dX10_lays_14 : decode cX10_lays 14 = .ok (.invokestatic 358, 3) := decAll_at aX10_lays_0 10 rfl
theorem dX10_lays_17 : decode cX10_lays 17 = .ok (.iload_n 1, 1) := decAll_at aX10_lays_0 11 rfl
theorem dX10_lays_18 : decode cX10_lays 18 = .ok (.invokevirtual 361, 3) := decAll_at aX10_lays_0 12 rfl
theorem dX10_lays_21 : decode cX10_lays 21 = .ok (.iinc 3 1, 3) := decAll_at aX10_lays_0 13 rfl
theorem dX10_lays_24 : decode cX10_lays 24 = .ok (.goto (-22), 3) := decAll_at aX10_lays_0 14 rfl
theorem dX10_lays_27 : decode cX10_lays 27 = .ok (.return_, 1) := decAll_at aX10_lays_0 15 rfl
def laX10_carryAt_0 : List (Nat × Instr × Nat) := [(0, .iload_n 1, 1), (1, .iload_n 3, 1), (2, .if_icmp .ne 9, 3), (5, .iload_n 2, 1), (6, .iconst 1, 1), (7, .isub, 1), (8, .goto 4, 3), (11, .iload_n 2, 1), (12, .istore 4, 2), (14, .iconst 0, 1), (15, .istore 5, 2), (17, .sipush 401, 3), (20, .istore 6, 2), (22, .iload 5, 2), (24, .iload 6, 2), (26, .if_icmp .ge 46, 3), (29, .iload 5, 2), (31, .iload 6, 2), (33, .iadd, 1), (34, .iconst 2, 1), (35, .idiv, 1), (36, .istore 7, 2), (38, .aload_n 0, 1), (39, .getfield 88, 3), (42, .sipush 401, 3), (45, .iload_n 1, 1), (46, .imul, 1), (47, .iload 7, 2), (49, .iadd, 1), (50, .iaload, 1), (51, .iload 4, 2), (53, .if_icmp .lt 12, 3), (56, .iload 7, 2), (58, .iconst 1, 1), (59, .iadd, 1), (60, .istore 5, 2), (62, .goto 7, 3), (65, .iload 7, 2), (67, .istore 6, 2), (69, .goto (-47), 3), (72, .iload 5, 2), (74, .iconst 1, 1), (75, .isub, 1), (76, .ireturn, 1)]
theorem aX10_carryAt_0 : decAll cX10_carryAt laX10_carryAt_0 = true := by decide +kernel
theorem dX10_carryAt_0 : decode cX10_carryAt 0 = .ok (.iload_n 1, 1) := decAll_at aX10_carryAt_0 0 rfl
theorem dX10_carryAt_1 : decode cX10_carryAt 1 = .ok (.iload_n 3, 1) := decAll_at aX10_carryAt_0 1 rfl
theorem dX10_carryAt_2 : decode cX10_carryAt 2 = .ok (.if_icmp .ne 9, 3) := decAll_at aX10_carryAt_0 2 rfl
theorem dX10_carryAt_5 : decode cX10_carryAt 5 = .ok (.iload_n 2, 1) := decAll_at aX10_carryAt_0 3 rfl
theorem dX10_carryAt_6 : decode cX10_carryAt 6 = .ok (.iconst 1, 1) := decAll_at aX10_carryAt_0 4 rfl
theorem dX10_carryAt_7 : decode cX10_carryAt 7 = .ok (.isub, 1) := decAll_at aX10_carryAt_0 5 rfl
theorem dX10_carryAt_8 : decode cX10_carryAt 8 = .ok (.goto 4, 3) := decAll_at aX10_carryAt_0 6 rfl
theorem dX10_carryAt_11 : decode cX10_carryAt 11 = .ok (.iload_n 2, 1) := decAll_at aX10_carryAt_0 7 rfl
theorem dX10_carryAt_12 : decode cX10_carryAt 12 = .ok (.istore 4, 2) := decAll_at aX10_carryAt_0 8 rfl
theorem dX10_carryAt_14 : decode cX10_carryAt 14 = .ok (.iconst 0, 1) := decAll_at aX10_carryAt_0 9 rfl
theorem dX10_carryAt_15 : decode cX10_carryAt 15 = .ok (.istore 5, 2) := decAll_at aX10_carryAt_0 10 rfl
theorem dX10_carryAt_17 : decode cX10_carryAt 17 = .ok (.sipush 401, 3) := decAll_at aX10_carryAt_0 11 rfl
theorem dX10_carryAt_20 : decode cX10_carryAt 20 = .ok (.istore 6, 2) := decAll_at aX10_carryAt_0 12 rfl
theorem dX10_carryAt_22 : decode cX10_carryAt 22 = .ok (.iload 5, 2) := decAll_at aX10_carryAt_0 13 rfl
theorem dX10_carryAt_24 : decode cX10_carryAt 24 = .ok (.iload 6, 2) := decAll_at aX10_carryAt_0 14 rfl
theorem dX10_carryAt_26 : decode cX10_carryAt 26 = .ok (.if_icmp .ge 46, 3) := decAll_at aX10_carryAt_0 15 rfl
theorem dX10_carryAt_29 : decode cX10_carryAt 29 = .ok (.iload 5, 2) := decAll_at aX10_carryAt_0 16 rfl
theorem dX10_carryAt_31 : decode cX10_carryAt 31 = .ok (.iload 6, 2) := decAll_at aX10_carryAt_0 17 rfl
theorem dX10_carryAt_33 : decode cX10_carryAt 33 = .ok (.iadd, 1) := decAll_at aX10_carryAt_0 18 rfl
theorem dX10_carryAt_34 : decode cX10_carryAt 34 = .ok (.iconst 2, 1) := decAll_at aX10_carryAt_0 19 rfl
theorem dX10_carryAt_35 : decode cX10_carryAt 35 = .ok (.idiv, 1) := decAll_at aX10_carryAt_0 20 rfl
theorem dX10_carryAt_36 : decode cX10_carryAt 36 = .ok (.istore 7, 2) := decAll_at aX10_carryAt_0 21 rfl
theorem dX10_carryAt_38 : decode cX10_carryAt 38 = .ok (.aload_n 0, 1) := decAll_at aX10_carryAt_0 22 rfl
theorem dX10_carryAt_39 : decode cX10_carryAt 39 = .ok (.getfield 88, 3) := decAll_at aX10_carryAt_0 23 rfl
theorem dX10_carryAt_42 : decode cX10_carryAt 42 = .ok (.sipush 401, 3) := decAll_at aX10_carryAt_0 24 rfl
theorem dX10_carryAt_45 : decode cX10_carryAt 45 = .ok (.iload_n 1, 1) := decAll_at aX10_carryAt_0 25 rfl
theorem dX10_carryAt_46 : decode cX10_carryAt 46 = .ok (.imul, 1) := decAll_at aX10_carryAt_0 26 rfl
theorem dX10_carryAt_47 : decode cX10_carryAt 47 = .ok (.iload 7, 2) := decAll_at aX10_carryAt_0 27 rfl
theorem dX10_carryAt_49 : decode cX10_carryAt 49 = .ok (.iadd, 1) := decAll_at aX10_carryAt_0 28 rfl
theorem dX10_carryAt_50 : decode cX10_carryAt 50 = .ok (.iaload, 1) := decAll_at aX10_carryAt_0 29 rfl
theorem dX10_carryAt_51 : decode cX10_carryAt 51 = .ok (.iload 4, 2) := decAll_at aX10_carryAt_0 30 rfl
theorem dX10_carryAt_53 : decode cX10_carryAt 53 = .ok (.if_icmp .lt 12, 3) := decAll_at aX10_carryAt_0 31 rfl
theorem dX10_carryAt_56 : decode cX10_carryAt 56 = .ok (.iload 7, 2) := decAll_at aX10_carryAt_0 32 rfl
theorem dX10_carryAt_58 : decode cX10_carryAt 58 = .ok (.iconst 1, 1) := decAll_at aX10_carryAt_0 33 rfl
theorem dX10_carryAt_59 : decode cX10_carryAt 59 = .ok (.iadd, 1) := decAll_at aX10_carryAt_0 34 rfl
theorem dX10_carryAt_60 : decode cX10_carryAt 60 = .ok (.istore 5, 2) := decAll_at aX10_carryAt_0 35 rfl
theorem dX10_carryAt_62 : decode cX10_carryAt 62 = .ok (.goto 7, 3) := decAll_at aX10_carryAt_0 36 rfl
theorem dX10_carryAt_65 : decode cX10_carryAt 65 = .ok (.iload 7, 2) := decAll_at aX10_carryAt_0 37 rfl
theorem dX10_carryAt_67 : decode cX10_carryAt 67 = .ok (.istore 6, 2) := decAll_at aX10_carryAt_0 38 rfl
theorem dX10_carryAt_69 : decode cX10_carryAt 69 = .ok (.goto (-47), 3) := decAll_at aX10_carryAt_0 39 rfl
theorem dX10_carryAt_72 : decode cX10_carryAt 72 = .ok (.iload 5, 2) := decAll_at aX10_carryAt_0 40 rfl
theorem dX10_carryAt_74 : decode cX10_carryAt 74 = .ok (.iconst 1, 1) := decAll_at aX10_carryAt_0 41 rfl
theorem dX10_carryAt_75 : decode cX10_carryAt 75 = .ok (.isub, 1) := decAll_at aX10_carryAt_0 42 rfl
theorem dX10_carryAt_76 : decode cX10_carryAt 76 = .ok (.ireturn, 1) := decAll_at aX10_carryAt_0 43 rfl
def laX10_carry_0 : List (Nat × Instr × Nat) := [(0, .aload_n 0, 1), (1, .iload_n 1, 1), (2, .invokevirtual 175, 3), (5, .ifCond .eq 36, 3), (8, .iload_n 2, 1), (9, .i2l, 1), (10, .lconst 1, 1), (11, .ldc2_w 365, 3), (14, .invokestatic 153, 3), (17, .ifCond .eq 24, 3), (20, .iload_n 3, 1), (21, .i2l, 1), (22, .lconst 0, 1), (23, .ldc2_w 349, 3), (26, .invokestatic 153, 3), (29, .ifCond .eq 12, 3), (32, .aload_n 0, 1), (33, .iload 4, 2), (35, .invokevirtual 351, 3), (38, .ifCond .ne 6, 3), (41, .bipush (-2), 2), (43, .ireturn, 1), (44, .aload_n 0, 1), (45, .iload_n 1, 1), (46, .iload_n 3, 1), (47, .iload 4, 2), (49, .invokevirtual 361, 3), (52, .aload_n 0, 1), (53, .iload_n 1, 1), (54, .iload_n 2, 1), (55, .iconst (-1), 1), (56, .invokevirtual 367, 3), (59, .ireturn, 1)]
theorem aX10_carry_0 : decAll cX10_carry laX10_carry_0 = true := by decide +kernel
theorem dX10_carry_0 : decode cX10_carry 0 = .ok (.aload_n 0, 1) := decAll_at aX10_carry_0 0 rfl
theorem dX10_carry_1 : decode cX10_carry 1 = .ok (.iload_n 1, 1) := decAll_at aX10_carry_0 1 rfl
theorem dX10_carry_2 : decode cX10_carry 2 = .ok (.invokevirtual 175, 3) := decAll_at aX10_carry_0 2 rfl
theorem dX10_carry_5 : decode cX10_carry 5 = .ok (.ifCond .eq 36, 3) := decAll_at aX10_carry_0 3 rfl
theorem dX10_carry_8 : decode cX10_carry 8 = .ok (.iload_n 2, 1) := decAll_at aX10_carry_0 4 rfl
theorem dX10_carry_9 : decode cX10_carry 9 = .ok (.i2l, 1) := decAll_at aX10_carry_0 5 rfl
theorem dX10_carry_10 : decode cX10_carry 10 = .ok (.lconst 1, 1) := decAll_at aX10_carry_0 6 rfl
theorem dX10_carry_11 : decode cX10_carry 11 = .ok (.ldc2_w 365, 3) := decAll_at aX10_carry_0 7 rfl
theorem dX10_carry_14 : decode cX10_carry 14 = .ok (.invokestatic 153, 3) := decAll_at aX10_carry_0 8 rfl
theorem dX10_carry_17 : decode cX10_carry 17 = .ok (.ifCond .eq 24, 3) := decAll_at aX10_carry_0 9 rfl
theorem dX10_carry_20 : decode cX10_carry 20 = .ok (.iload_n 3, 1) := decAll_at aX10_carry_0 10 rfl
theorem dX10_carry_21 : decode cX10_carry 21 = .ok (.i2l, 1) := decAll_at aX10_carry_0 11 rfl
theorem dX10_carry_22 : decode cX10_carry 22 = .ok (.lconst 0, 1) := decAll_at aX10_carry_0 12 rfl
theorem dX10_carry_23 : decode cX10_carry 23 = .ok (.ldc2_w 349, 3) := decAll_at aX10_carry_0 13 rfl
theorem dX10_carry_26 : decode cX10_carry 26 = .ok (.invokestatic 153, 3) := decAll_at aX10_carry_0 14 rfl
theorem dX10_carry_29 : decode cX10_carry 29 = .ok (.ifCond .eq 12, 3) := decAll_at aX10_carry_0 15 rfl
theorem dX10_carry_32 : decode cX10_carry 32 = .ok (.aload_n 0, 1) := decAll_at aX10_carry_0 16 rfl
theorem dX10_carry_33 : decode cX10_carry 33 = .ok (.iload 4, 2) := decAll_at aX10_carry_0 17 rfl
theorem dX10_carry_35 : decode cX10_carry 35 = .ok (.invokevirtual 351, 3) := decAll_at aX10_carry_0 18 rfl
theorem dX10_carry_38 : decode cX10_carry 38 = .ok (.ifCond .ne 6, 3) := decAll_at aX10_carry_0 19 rfl
theorem dX10_carry_41 : decode cX10_carry 41 = .ok (.bipush (-2), 2) := decAll_at aX10_carry_0 20 rfl
theorem dX10_carry_43 : decode cX10_carry 43 = .ok (.ireturn, 1) := decAll_at aX10_carry_0 21 rfl
theorem dX10_carry_44 : decode cX10_carry 44 = .ok (.aload_n 0, 1) := decAll_at aX10_carry_0 22 rfl
theorem dX10_carry_45 : decode cX10_carry 45 = .ok (.iload_n 1, 1) := decAll_at aX10_carry_0 23 rfl
theorem dX10_carry_46 : decode cX10_carry 46 = .ok (.iload_n 3, 1) := decAll_at aX10_carry_0 24 rfl
theorem dX10_carry_47 : decode cX10_carry 47 = .ok (.iload 4, 2) := decAll_at aX10_carry_0 25 rfl
theorem dX10_carry_49 : decode cX10_carry 49 = .ok (.invokevirtual 361, 3) := decAll_at aX10_carry_0 26 rfl
theorem dX10_carry_52 : decode cX10_carry 52 = .ok (.aload_n 0, 1) := decAll_at aX10_carry_0 27 rfl
theorem dX10_carry_53 : decode cX10_carry 53 = .ok (.iload_n 1, 1) := decAll_at aX10_carry_0 28 rfl
theorem dX10_carry_54 : decode cX10_carry 54 = .ok (.iload_n 2, 1) := decAll_at aX10_carry_0 29 rfl
theorem dX10_carry_55 : decode cX10_carry 55 = .ok (.iconst (-1), 1) := decAll_at aX10_carry_0 30 rfl
theorem dX10_carry_56 : decode cX10_carry 56 = .ok (.invokevirtual 367, 3) := decAll_at aX10_carry_0 31 rfl
theorem dX10_carry_59 : decode cX10_carry 59 = .ok (.ireturn, 1) := decAll_at aX10_carry_0 32 rfl
def laX10_allCarry_0 : List (Nat × Instr × Nat) := [(0, .iconst 0, 1), (1, .istore_n 2, 1), (2, .iconst 0, 1), (3, .istore_n 3, 1), (4, .iload_n 3, 1), (5, .aload_n 0, 1), (6, .getfield 150, 3), (9, .if_icmp .ge 30, 3), (12, .aload_n 0, 1), (13, .iload_n 3, 1), (14, .iload_n 1, 1), (15, .iconst (-1), 1), (16, .invokevirtual 367, 3), (19, .istore 4, 2), (21, .iload 4, 2), (23, .ifCond .ge 5, 3), (26, .iconst (-1), 1), (27, .ireturn, 1), (28, .iload_n 2, 1), (29, .iload 4, 2), (31, .iadd, 1), (32, .istore_n 2, 1), (33, .iinc 3 1, 3), (36, .goto (-32), 3), (39, .iload_n 2, 1), (40, .ireturn, 1)]
theorem aX10_allCarry_0 : decAll cX10_allCarry laX10_allCarry_0 = true := by decide +kernel
theorem dX10_allCarry_0 : decode cX10_allCarry 0 = .ok (.iconst 0, 1) := decAll_at aX10_allCarry_0 0 rfl
theorem dX10_allCarry_1 : decode cX10_allCarry 1 = .ok (.istore_n 2, 1) := decAll_at aX10_allCarry_0 1 rfl
theorem dX10_allCarry_2 : decode cX10_allCarry 2 = .ok (.iconst 0, 1) := decAll_at aX10_allCarry_0 2 rfl
theorem dX10_allCarry_3 : decode cX10_allCarry 3 = .ok (.istore_n 3, 1) := decAll_at aX10_allCarry_0 3 rfl
theorem dX10_allCarry_4 : decode cX10_allCarry 4 = .ok (.iload_n 3, 1) := decAll_at aX10_allCarry_0 4 rfl
theorem dX10_allCarry_5 : decode cX10_allCarry 5 = .ok (.aload_n 0, 1) := decAll_at aX10_allCarry_0 5 rfl
theorem dX10_allCarry_6 : decode cX10_allCarry 6 = .ok (.getfield 150, 3) := decAll_at aX10_allCarry_0 6 rfl
theorem dX10_allCarry_9 : decode cX10_allCarry 9 = .ok (.if_icmp .ge 30, 3) := decAll_at aX10_allCarry_0 7 rfl
theorem dX10_allCarry_12 : decode cX10_allCarry 12 = .ok (.aload_n 0, 1) := decAll_at aX10_allCarry_0 8 rfl
theorem dX10_allCarry_13 : decode cX10_allCarry 13 = .ok (.iload_n 3, 1) := decAll_at aX10_allCarry_0 9 rfl
theorem dX10_allCarry_14 : decode cX10_allCarry 14 = .ok (.iload_n 1, 1) := decAll_at aX10_allCarry_0 10 rfl
theorem dX10_allCarry_15 : decode cX10_allCarry 15 = .ok (.iconst (-1), 1) := decAll_at aX10_allCarry_0 11 rfl
theorem dX10_allCarry_16 : decode cX10_allCarry 16 = .ok (.invokevirtual 367, 3) := decAll_at aX10_allCarry_0 12 rfl
theorem dX10_allCarry_19 : decode cX10_allCarry 19 = .ok (.istore 4, 2) := decAll_at aX10_allCarry_0 13 rfl
theorem dX10_allCarry_21 : decode cX10_allCarry 21 = .ok (.iload 4, 2) := decAll_at aX10_allCarry_0 14 rfl
theorem dX10_allCarry_23 : decode cX10_allCarry 23 = .ok (.ifCond .ge 5, 3) := decAll_at aX10_allCarry_0 15 rfl
theorem dX10_allCarry_26 : decode cX10_allCarry 26 = .ok (.iconst (-1), 1) := decAll_at aX10_allCarry_0 16 rfl
theorem dX10_allCarry_27 : decode cX10_allCarry 27 = .ok (.ireturn, 1) := decAll_at aX10_allCarry_0 17 rfl
theorem dX10_allCarry_28 : decode cX10_allCarry 28 = .ok (.iload_n 2, 1) := decAll_at aX10_allCarry_0 18 rfl
theorem dX10_allCarry_29 : decode cX10_allCarry 29 = .ok (.iload 4, 2) := decAll_at aX10_allCarry_0 19 rfl
theorem dX10_allCarry_31 : decode cX10_allCarry 31 = .ok (.iadd, 1) := decAll_at aX10_allCarry_0 20 rfl
theorem dX10_allCarry_32 : decode cX10_allCarry 32 = .ok (.istore_n 2, 1) := decAll_at aX10_allCarry_0 21 rfl
theorem dX10_allCarry_33 : decode cX10_allCarry 33 = .ok (.iinc 3 1, 3) := decAll_at aX10_allCarry_0 22 rfl
theorem dX10_allCarry_36 : decode cX10_allCarry 36 = .ok (.goto (-32), 3) := decAll_at aX10_allCarry_0 23 rfl
theorem dX10_allCarry_39 : decode cX10_allCarry 39 = .ok (.iload_n 2, 1) := decAll_at aX10_allCarry_0 24 rfl
theorem dX10_allCarry_40 : decode cX10_allCarry 40 = .ok (.ireturn, 1) := decAll_at aX10_allCarry_0 25 rfl
def laX10_partsPace_0 : List (Nat × Instr × Nat) := [(0, .bipush 60, 2), (2, .istore_n 2, 1), (3, .iload_n 2, 1), (4, .ifCond .le 18, 3), (7, .aload_n 0, 1), (8, .iload_n 2, 1), (9, .invokevirtual 370, 3), (12, .iload_n 1, 1), (13, .if_icmp .ge 9, 3), (16, .iinc 2 (-1), 3), (19, .goto (-16), 3), (22, .iload_n 2, 1), (23, .ireturn, 1)]
theorem aX10_partsPace_0 : decAll cX10_partsPace laX10_partsPace_0 = true := by decide +kernel
theorem dX10_partsPace_0 : decode cX10_partsPace 0 = .ok (.bipush 60, 2) := decAll_at aX10_partsPace_0 0 rfl
theorem dX10_partsPace_2 : decode cX10_partsPace 2 = .ok (.istore_n 2, 1) := decAll_at aX10_partsPace_0 1 rfl
theorem dX10_partsPace_3 : decode cX10_partsPace 3 = .ok (.iload_n 2, 1) := decAll_at aX10_partsPace_0 2 rfl
theorem dX10_partsPace_4 : decode cX10_partsPace 4 = .ok (.ifCond .le 18, 3) := decAll_at aX10_partsPace_0 3 rfl
theorem dX10_partsPace_7 : decode cX10_partsPace 7 = .ok (.aload_n 0, 1) := decAll_at aX10_partsPace_0 4 rfl
theorem dX10_partsPace_8 : decode cX10_partsPace 8 = .ok (.iload_n 2, 1) := decAll_at aX10_partsPace_0 5 rfl
theorem dX10_partsPace_9 : decode cX10_partsPace 9 = .ok (.invokevirtual 370, 3) := decAll_at aX10_partsPace_0 6 rfl
theorem dX10_partsPace_12 : decode cX10_partsPace 12 = .ok (.iload_n 1, 1) := decAll_at aX10_partsPace_0 7 rfl
theorem dX10_partsPace_13 : decode cX10_partsPace 13 = .ok (.if_icmp .ge 9, 3) := decAll_at aX10_partsPace_0 8 rfl
theorem dX10_partsPace_16 : decode cX10_partsPace 16 = .ok (.iinc 2 (-1), 3) := decAll_at aX10_partsPace_0 9 rfl
theorem dX10_partsPace_19 : decode cX10_partsPace 19 = .ok (.goto (-16), 3) := decAll_at aX10_partsPace_0 10 rfl
theorem dX10_partsPace_22 : decode cX10_partsPace 22 = .ok (.iload_n 2, 1) := decAll_at aX10_partsPace_0 11 rfl
theorem dX10_partsPace_23 : decode cX10_partsPace 23 = .ok (.ireturn, 1) := decAll_at aX10_partsPace_0 12 rfl
def laX10_canAsk_0 : List (Nat × Instr × Nat) := [(0, .aload_n 0, 1), (1, .iload_n 1, 1), (2, .invokevirtual 351, 3), (5, .ifCond .eq 21, 3), (8, .iload_n 2, 1), (9, .invokestatic 373, 3), (12, .ifCond .eq 14, 3), (15, .aload_n 0, 1), (16, .getfield 150, 3), (19, .ifCond .le 7, 3), (22, .iconst 1, 1), (23, .goto 4, 3), (26, .iconst 0, 1), (27, .ireturn, 1)]
theorem aX10_canAsk_0 : decAll cX10_canAsk laX10_canAsk_0 = true := by decide +kernel
theorem dX10_canAsk_0 : decode cX10_canAsk 0 = .ok (.aload_n 0, 1) := decAll_at aX10_canAsk_0 0 rfl
theorem dX10_canAsk_1 : decode cX10_canAsk 1 = .ok (.iload_n 1, 1) := decAll_at aX10_canAsk_0 1 rfl
theorem dX10_canAsk_2 : decode cX10_canAsk 2 = .ok (.invokevirtual 351, 3) := decAll_at aX10_canAsk_0 2 rfl
theorem dX10_canAsk_5 : decode cX10_canAsk 5 = .ok (.ifCond .eq 21, 3) := decAll_at aX10_canAsk_0 3 rfl
theorem dX10_canAsk_8 : decode cX10_canAsk 8 = .ok (.iload_n 2, 1) := decAll_at aX10_canAsk_0 4 rfl
theorem dX10_canAsk_9 : decode cX10_canAsk 9 = .ok (.invokestatic 373, 3) := decAll_at aX10_canAsk_0 5 rfl
theorem dX10_canAsk_12 : decode cX10_canAsk 12 = .ok (.ifCond .eq 14, 3) := decAll_at aX10_canAsk_0 6 rfl
theorem dX10_canAsk_15 : decode cX10_canAsk 15 = .ok (.aload_n 0, 1) := decAll_at aX10_canAsk_0 7 rfl
theorem dX10_canAsk_16 : decode cX10_canAsk 16 = .ok (.getfield 150, 3) := decAll_at aX10_canAsk_0 8 rfl
theorem dX10_canAsk_19 : decode cX10_canAsk 19 = .ok (.ifCond .le 7, 3) := decAll_at aX10_canAsk_0 9 rfl
theorem dX10_canAsk_22 : decode cX10_canAsk 22 = .ok (.iconst 1, 1) := decAll_at aX10_canAsk_0 10 rfl
theorem dX10_canAsk_23 : decode cX10_canAsk 23 = .ok (.goto 4, 3) := decAll_at aX10_canAsk_0 11 rfl
theorem dX10_canAsk_26 : decode cX10_canAsk 26 = .ok (.iconst 0, 1) := decAll_at aX10_canAsk_0 12 rfl
theorem dX10_canAsk_27 : decode cX10_canAsk 27 = .ok (.ireturn, 1) := decAll_at aX10_canAsk_0 13 rfl
def laX10_parts_0 : List (Nat × Instr × Nat) := [(0, .iload_n 1, 1), (1, .i2l, 1), (2, .lconst 0, 1), (3, .ldc2_w 376, 3), (6, .invokestatic 153, 3), (9, .ifCond .eq 25, 3), (12, .aload_n 0, 1), (13, .iload_n 2, 1), (14, .iload_n 3, 1), (15, .invokevirtual 378, 3), (18, .ifCond .eq 16, 3), (21, .iload 4, 2), (23, .i2l, 1), (24, .lconst 0, 1), (25, .ldc2_w 382, 3), (28, .invokestatic 153, 3), (31, .ifCond .ne 5, 3), (34, .iconst (-1), 1), (35, .ireturn, 1), (36, .aload_n 0, 1), (37, .iload_n 2, 1), (38, .iload_n 3, 1), (39, .invokevirtual 384, 3), (42, .aload_n 0, 1), (43, .iload_n 1, 1), (44, .invokevirtual 387, 3), (47, .istore 5, 2), (49, .iload 4, 2), (51, .ifCond .ne 6, 3), (54, .iload 5, 2), (56, .ireturn, 1), (57, .iload 5, 2), (59, .ifCond .ne 16, 3), (62, .iload 4, 2), (64, .iconst 1, 1), (65, .if_icmp .ne 7, 3), (68, .iconst 0, 1), (69, .goto 5, 3), (72, .bipush (-2), 2), (74, .ireturn, 1), (75, .iload 4, 2), (77, .iconst 1, 1), (78, .if_icmp .ne 14, 3), (81, .aload_n 0, 1), (82, .iload 5, 2), (84, .invokevirtual 370, 3), (87, .iload_n 1, 1), (88, .isub, 1), (89, .goto 10, 3), (92, .aload_n 0, 1), (93, .iload_n 2, 1), (94, .iload 5, 2), (96, .invokevirtual 390, 3), (99, .ireturn, 1)]
theorem aX10_parts_0 : decAll cX10_parts laX10_parts_0 = true := by decide +kernel
theorem dX10_parts_0 : decode cX10_parts 0 = .ok (.iload_n 1, 1) := decAll_at aX10_parts_0 0 rfl
theorem dX10_parts_1 : decode cX10_parts 1 = .ok (.i2l, 1) := decAll_at aX10_parts_0 1 rfl
theorem dX10_parts_2 : decode cX10_parts 2 = .ok (.lconst 0, 1) := decAll_at aX10_parts_0 2 rfl
theorem dX10_parts_3 : decode cX10_parts 3 = .ok (.ldc2_w 376, 3) := decAll_at aX10_parts_0 3 rfl
theorem dX10_parts_6 : decode cX10_parts 6 = .ok (.invokestatic 153, 3) := decAll_at aX10_parts_0 4 rfl
theorem dX10_parts_9 : decode cX10_parts 9 = .ok (.ifCond .eq 25, 3) := decAll_at aX10_parts_0 5 rfl
theorem dX10_parts_12 : decode cX10_parts 12 = .ok (.aload_n 0, 1) := decAll_at aX10_parts_0 6 rfl
theorem dX10_parts_13 : decode cX10_parts 13 = .ok (.iload_n 2, 1) := decAll_at aX10_parts_0 7 rfl
theorem dX10_parts_14 : decode cX10_parts 14 = .ok (.iload_n 3, 1) := decAll_at aX10_parts_0 8 rfl
theorem dX10_parts_15 : decode cX10_parts 15 = .ok (.invokevirtual 378, 3) := decAll_at aX10_parts_0 9 rfl
theorem dX10_parts_18 : decode cX10_parts 18 = .ok (.ifCond .eq 16, 3) := decAll_at aX10_parts_0 10 rfl
theorem dX10_parts_21 : decode cX10_parts 21 = .ok (.iload 4, 2) := decAll_at aX10_parts_0 11 rfl
theorem dX10_parts_23 : decode cX10_parts 23 = .ok (.i2l, 1) := decAll_at aX10_parts_0 12 rfl
theorem dX10_parts_24 : decode cX10_parts 24 = .ok (.lconst 0, 1) := decAll_at aX10_parts_0 13 rfl
theorem dX10_parts_25 : decode cX10_parts 25 = .ok (.ldc2_w 382, 3) := decAll_at aX10_parts_0 14 rfl
theorem dX10_parts_28 : decode cX10_parts 28 = .ok (.invokestatic 153, 3) := decAll_at aX10_parts_0 15 rfl
theorem dX10_parts_31 : decode cX10_parts 31 = .ok (.ifCond .ne 5, 3) := decAll_at aX10_parts_0 16 rfl
theorem dX10_parts_34 : decode cX10_parts 34 = .ok (.iconst (-1), 1) := decAll_at aX10_parts_0 17 rfl
theorem dX10_parts_35 : decode cX10_parts 35 = .ok (.ireturn, 1) := decAll_at aX10_parts_0 18 rfl
theorem dX10_parts_36 : decode cX10_parts 36 = .ok (.aload_n 0, 1) := decAll_at aX10_parts_0 19 rfl
theorem dX10_parts_37 : decode cX10_parts 37 = .ok (.iload_n 2, 1) := decAll_at aX10_parts_0 20 rfl
theorem dX10_parts_38 : decode cX10_parts 38 = .ok (.iload_n 3, 1) := decAll_at aX10_parts_0 21 rfl
theorem dX10_parts_39 : decode cX10_parts 39 = .ok (.invokevirtual 384, 3) := decAll_at aX10_parts_0 22 rfl
theorem dX10_parts_42 : decode cX10_parts 42 = .ok (.aload_n 0, 1) := decAll_at aX10_parts_0 23 rfl
theorem dX10_parts_43 : decode cX10_parts 43 = .ok (.iload_n 1, 1) := decAll_at aX10_parts_0 24 rfl
theorem dX10_parts_44 : decode cX10_parts 44 = .ok (.invokevirtual 387, 3) := decAll_at aX10_parts_0 25 rfl
theorem dX10_parts_47 : decode cX10_parts 47 = .ok (.istore 5, 2) := decAll_at aX10_parts_0 26 rfl
theorem dX10_parts_49 : decode cX10_parts 49 = .ok (.iload 4, 2) := decAll_at aX10_parts_0 27 rfl
theorem dX10_parts_51 : decode cX10_parts 51 = .ok (.ifCond .ne 6, 3) := decAll_at aX10_parts_0 28 rfl
theorem dX10_parts_54 : decode cX10_parts 54 = .ok (.iload 5, 2) := decAll_at aX10_parts_0 29 rfl
theorem dX10_parts_56 : decode cX10_parts 56 = .ok (.ireturn, 1) := decAll_at aX10_parts_0 30 rfl
theorem dX10_parts_57 : decode cX10_parts 57 = .ok (.iload 5, 2) := decAll_at aX10_parts_0 31 rfl
theorem dX10_parts_59 : decode cX10_parts 59 = .ok (.ifCond .ne 16, 3) := decAll_at aX10_parts_0 32 rfl
theorem dX10_parts_62 : decode cX10_parts 62 = .ok (.iload 4, 2) := decAll_at aX10_parts_0 33 rfl
theorem dX10_parts_64 : decode cX10_parts 64 = .ok (.iconst 1, 1) := decAll_at aX10_parts_0 34 rfl
theorem dX10_parts_65 : decode cX10_parts 65 = .ok (.if_icmp .ne 7, 3) := decAll_at aX10_parts_0 35 rfl
theorem dX10_parts_68 : decode cX10_parts 68 = .ok (.iconst 0, 1) := decAll_at aX10_parts_0 36 rfl
theorem dX10_parts_69 : decode cX10_parts 69 = .ok (.goto 5, 3) := decAll_at aX10_parts_0 37 rfl
theorem dX10_parts_72 : decode cX10_parts 72 = .ok (.bipush (-2), 2) := decAll_at aX10_parts_0 38 rfl
theorem dX10_parts_74 : decode cX10_parts 74 = .ok (.ireturn, 1) := decAll_at aX10_parts_0 39 rfl
theorem dX10_parts_75 : decode cX10_parts 75 = .ok (.iload 4, 2) := decAll_at aX10_parts_0 40 rfl
theorem dX10_parts_77 : decode cX10_parts 77 = .ok (.iconst 1, 1) := decAll_at aX10_parts_0 41 rfl
theorem dX10_parts_78 : decode cX10_parts 78 = .ok (.if_icmp .ne 14, 3) := decAll_at aX10_parts_0 42 rfl
theorem dX10_parts_81 : decode cX10_parts 81 = .ok (.aload_n 0, 1) := decAll_at aX10_parts_0 43 rfl
theorem dX10_parts_82 : decode cX10_parts 82 = .ok (.iload 5, 2) := decAll_at aX10_parts_0 44 rfl
theorem dX10_parts_84 : decode cX10_parts 84 = .ok (.invokevirtual 370, 3) := decAll_at aX10_parts_0 45 rfl
theorem dX10_parts_87 : decode cX10_parts 87 = .ok (.iload_n 1, 1) := decAll_at aX10_parts_0 46 rfl
theorem dX10_parts_88 : decode cX10_parts 88 = .ok (.isub, 1) := decAll_at aX10_parts_0 47 rfl
theorem dX10_parts_89 : decode cX10_parts 89 = .ok (.goto 10, 3) := decAll_at aX10_parts_0 48 rfl
theorem dX10_parts_92 : decode cX10_parts 92 = .ok (.aload_n 0, 1) := decAll_at aX10_parts_0 49 rfl
theorem dX10_parts_93 : decode cX10_parts 93 = .ok (.iload_n 2, 1) := decAll_at aX10_parts_0 50 rfl
theorem dX10_parts_94 : decode cX10_parts 94 = .ok (.iload 5, 2) := decAll_at aX10_parts_0 51 rfl
theorem dX10_parts_96 : decode cX10_parts 96 = .ok (.invokevirtual 390, 3) := decAll_at aX10_parts_0 52 rfl
theorem dX10_parts_99 : decode cX10_parts 99 = .ok (.ireturn, 1) := decAll_at aX10_parts_0 53 rfl
def laX10_packs_0 : List (Nat × Instr × Nat) := [(0, .aload_n 0, 1), (1, .iload_n 2, 1), (2, .putfield 393, 3), (5, .aload_n 0, 1), (6, .aload_n 0, 1), (7, .getfield 157, 3), (10, .putfield 396, 3), (13, .iconst 0, 1), (14, .istore 4, 2), (16, .iload 4, 2), (18, .aload_n 0, 1), (19, .getfield 157, 3), (22, .if_icmp .ge 70, 3), (25, .aload_n 0, 1), (26, .getfield 91, 3), (29, .iload 4, 2), (31, .aload_n 0, 1), (32, .iload 4, 2), (34, .iload_n 1, 1), (35, .invokevirtual 184, 3), (38, .iastore, 1), (39, .aload_n 0, 1), (40, .getfield 94, 3), (43, .iload 4, 2), (45, .iload_n 3, 1), (46, .ifCond .eq 38, 3), (49, .aload_n 0, 1), (50, .getfield 31, 3), (53, .iload 4, 2), (55, .iaload, 1), (56, .iconst (-1), 1), (57, .if_icmp .eq 27, 3), (60, .iload_n 2, 1), (61, .aload_n 0, 1), (62, .getfield 31, 3), (65, .iload 4, 2), (67, .iaload, 1), (68, .invokestatic 399, 3), (71, .ifCond .eq 13, 3), (74, .aload_n 0, 1), (75, .getfield 31, 3), (78, .iload 4, 2), (80, .iaload, 1), (81, .goto 4, 3), (84, .iconst (-1), 1), (85, .iastore, 1), (86, .iinc 4 1, 3), (89, .goto (-73), 3), (92, .return_, 1)]
theorem aX10_packs_0 : decAll cX10_packs laX10_packs_0 = true := by decide +kernel
theorem dX10_packs_0 : decode cX10_packs 0 = .ok (.aload_n 0, 1) := decAll_at aX10_packs_0 0 rfl
theorem dX10_packs_1 : decode cX10_packs 1 = .ok (.iload_n 2, 1) := decAll_at aX10_packs_0 1 rfl
theorem dX10_packs_2 : decode cX10_packs 2 = .ok (.putfield 393, 3) := decAll_at aX10_packs_0 2 rfl
theorem dX10_packs_5 : decode cX10_packs 5 = .ok (.aload_n 0, 1) := decAll_at aX10_packs_0 3 rfl
theorem dX10_packs_6 : decode cX10_packs 6 = .ok (.aload_n 0, 1) := decAll_at aX10_packs_0 4 rfl
theorem dX10_packs_7 : decode cX10_packs 7 = .ok (.getfield 157, 3) := decAll_at aX10_packs_0 5 rfl
theorem dX10_packs_10 : decode cX10_packs 10 = .ok (.putfield 396, 3) := decAll_at aX10_packs_0 6 rfl
theorem dX10_packs_13 : decode cX10_packs 13 = .ok (.iconst 0, 1) := decAll_at aX10_packs_0 7 rfl
theorem dX10_packs_14 : decode cX10_packs 14 = .ok (.istore 4, 2) := decAll_at aX10_packs_0 8 rfl
theorem dX10_packs_16 : decode cX10_packs 16 = .ok (.iload 4, 2) := decAll_at aX10_packs_0 9 rfl
theorem dX10_packs_18 : decode cX10_packs 18 = .ok (.aload_n 0, 1) := decAll_at aX10_packs_0 10 rfl
theorem dX10_packs_19 : decode cX10_packs 19 = .ok (.getfield 157, 3) := decAll_at aX10_packs_0 11 rfl
theorem dX10_packs_22 : decode cX10_packs 22 = .ok (.if_icmp .ge 70, 3) := decAll_at aX10_packs_0 12 rfl
theorem dX10_packs_25 : decode cX10_packs 25 = .ok (.aload_n 0, 1) := decAll_at aX10_packs_0 13 rfl
theorem dX10_packs_26 : decode cX10_packs 26 = .ok (.getfield 91, 3) := decAll_at aX10_packs_0 14 rfl
theorem dX10_packs_29 : decode cX10_packs 29 = .ok (.iload 4, 2) := decAll_at aX10_packs_0 15 rfl
theorem dX10_packs_31 : decode cX10_packs 31 = .ok (.aload_n 0, 1) := decAll_at aX10_packs_0 16 rfl
theorem dX10_packs_32 : decode cX10_packs 32 = .ok (.iload 4, 2) := decAll_at aX10_packs_0 17 rfl
theorem dX10_packs_34 : decode cX10_packs 34 = .ok (.iload_n 1, 1) := decAll_at aX10_packs_0 18 rfl
theorem dX10_packs_35 : decode cX10_packs 35 = .ok (.invokevirtual 184, 3) := decAll_at aX10_packs_0 19 rfl
theorem dX10_packs_38 : decode cX10_packs 38 = .ok (.iastore, 1) := decAll_at aX10_packs_0 20 rfl
theorem dX10_packs_39 : decode cX10_packs 39 = .ok (.aload_n 0, 1) := decAll_at aX10_packs_0 21 rfl
theorem dX10_packs_40 : decode cX10_packs 40 = .ok (.getfield 94, 3) := decAll_at aX10_packs_0 22 rfl
theorem dX10_packs_43 : decode cX10_packs 43 = .ok (.iload 4, 2) := decAll_at aX10_packs_0 23 rfl
theorem dX10_packs_45 : decode cX10_packs 45 = .ok (.iload_n 3, 1) := decAll_at aX10_packs_0 24 rfl
theorem dX10_packs_46 : decode cX10_packs 46 = .ok (.ifCond .eq 38, 3) := decAll_at aX10_packs_0 25 rfl
theorem dX10_packs_49 : decode cX10_packs 49 = .ok (.aload_n 0, 1) := decAll_at aX10_packs_0 26 rfl
theorem dX10_packs_50 : decode cX10_packs 50 = .ok (.getfield 31, 3) := decAll_at aX10_packs_0 27 rfl
theorem dX10_packs_53 : decode cX10_packs 53 = .ok (.iload 4, 2) := decAll_at aX10_packs_0 28 rfl
theorem dX10_packs_55 : decode cX10_packs 55 = .ok (.iaload, 1) := decAll_at aX10_packs_0 29 rfl
theorem dX10_packs_56 : decode cX10_packs 56 = .ok (.iconst (-1), 1) := decAll_at aX10_packs_0 30 rfl
theorem dX10_packs_57 : decode cX10_packs 57 = .ok (.if_icmp .eq 27, 3) := decAll_at aX10_packs_0 31 rfl
theorem dX10_packs_60 : decode cX10_packs 60 = .ok (.iload_n 2, 1) := decAll_at aX10_packs_0 32 rfl
theorem dX10_packs_61 : decode cX10_packs 61 = .ok (.aload_n 0, 1) := decAll_at aX10_packs_0 33 rfl
theorem dX10_packs_62 : decode cX10_packs 62 = .ok (.getfield 31, 3) := decAll_at aX10_packs_0 34 rfl
theorem dX10_packs_65 : decode cX10_packs 65 = .ok (.iload 4, 2) := decAll_at aX10_packs_0 35 rfl
theorem dX10_packs_67 : decode cX10_packs 67 = .ok (.iaload, 1) := decAll_at aX10_packs_0 36 rfl
theorem dX10_packs_68 : decode cX10_packs 68 = .ok (.invokestatic 399, 3) := decAll_at aX10_packs_0 37 rfl
theorem dX10_packs_71 : decode cX10_packs 71 = .ok (.ifCond .eq 13, 3) := decAll_at aX10_packs_0 38 rfl
theorem dX10_packs_74 : decode cX10_packs 74 = .ok (.aload_n 0, 1) := decAll_at aX10_packs_0 39 rfl
theorem dX10_packs_75 : decode cX10_packs 75 = .ok (.getfield 31, 3) := decAll_at aX10_packs_0 40 rfl
theorem dX10_packs_78 : decode cX10_packs 78 = .ok (.iload 4, 2) := decAll_at aX10_packs_0 41 rfl
theorem dX10_packs_80 : decode cX10_packs 80 = .ok (.iaload, 1) := decAll_at aX10_packs_0 42 rfl
theorem dX10_packs_81 : decode cX10_packs 81 = .ok (.goto 4, 3) := decAll_at aX10_packs_0 43 rfl
theorem dX10_packs_84 : decode cX10_packs 84 = .ok (.iconst (-1), 1) := decAll_at aX10_packs_0 44 rfl
theorem dX10_packs_85 : decode cX10_packs 85 = .ok (.iastore, 1) := decAll_at aX10_packs_0 45 rfl
theorem dX10_packs_86 : decode cX10_packs 86 = .ok (.iinc 4 1, 3) := decAll_at aX10_packs_0 46 rfl
theorem dX10_packs_89 : decode cX10_packs 89 = .ok (.goto (-73), 3) := decAll_at aX10_packs_0 47 rfl
theorem dX10_packs_92 : decode cX10_packs 92 = .ok (.return_, 1) := decAll_at aX10_packs_0 48 rfl
def laX10_fits_0 : List (Nat × Instr × Nat) := [(0, .iconst 0, 1), (1, .istore_n 1, 1), (2, .iconst 0, 1), (3, .istore_n 2, 1), (4, .iload_n 2, 1), (5, .aload_n 0, 1), (6, .getfield 396, 3), (9, .if_icmp .ge 29, 3), (12, .iload_n 1, 1), (13, .aload_n 0, 1), (14, .getfield 100, 3), (17, .iload_n 2, 1), (18, .iaload, 1), (19, .iconst (-1), 1), (20, .if_icmp .ne 9, 3), (23, .iconst 1, 1), (24, .iload_n 2, 1), (25, .ishl, 1), (26, .goto 4, 3), (29, .iconst 0, 1), (30, .ior, 1), (31, .istore_n 1, 1), (32, .iinc 2 1, 3), (35, .goto (-31), 3), (38, .iconst 1, 1), (39, .aload_n 0, 1), (40, .getfield 396, 3), (43, .ishl, 1), (44, .iconst 1, 1), (45, .isub, 1), (46, .istore_n 2, 1), (47, .iconst 0, 1), (48, .istore_n 3, 1), (49, .iload_n 3, 1), (50, .iload_n 2, 1), (51, .if_icmp .gt 78, 3), (54, .aload_n 0, 1), (55, .getfield 103, 3), (58, .iload_n 3, 1), (59, .iload_n 3, 1), (60, .ifCond .ne 7, 3), (63, .iconst 1, 1), (64, .goto 4, 3), (67, .iconst 0, 1), (68, .bastore, 1), (69, .aload_n 0, 1), (70, .getfield 106, 3), (73, .iload_n 3, 1), (74, .iconst 0, 1), (75, .iastore, 1), (76, .iconst 0, 1), (77, .istore 4, 2), (79, .iload 4, 2), (81, .aload_n 0, 1), (82, .getfield 396, 3), (85, .if_icmp .ge 38, 3), (88, .aload_n 0, 1), (89, .getfield 106, 3), (92, .iload_n 3, 1), (93, .dup2, 1), (94, .iaload, 1), (95, .iload_n 3, 1), (96, .iload 4, 2), (98, .invokestatic 399, 3)]
theorem aX10_fits_0 : decAll cX10_fits laX10_fits_0 = true := by decide +kernel
theorem dX10_fits_0 : decode cX10_fits 0 = .ok (.iconst 0, 1) := decAll_at aX10_fits_0 0 rfl
theorem dX10_fits_1 : decode cX10_fits 1 = .ok (.istore_n 1, 1) := decAll_at aX10_fits_0 1 rfl
theorem dX10_fits_2 : decode cX10_fits 2 = .ok (.iconst 0, 1) := decAll_at aX10_fits_0 2 rfl
theorem dX10_fits_3 : decode cX10_fits 3 = .ok (.istore_n 2, 1) := decAll_at aX10_fits_0 3 rfl
theorem dX10_fits_4 : decode cX10_fits 4 = .ok (.iload_n 2, 1) := decAll_at aX10_fits_0 4 rfl
theorem dX10_fits_5 : decode cX10_fits 5 = .ok (.aload_n 0, 1) := decAll_at aX10_fits_0 5 rfl
theorem dX10_fits_6 : decode cX10_fits 6 = .ok (.getfield 396, 3) := decAll_at aX10_fits_0 6 rfl
theorem dX10_fits_9 : decode cX10_fits 9 = .ok (.if_icmp .ge 29, 3) := decAll_at aX10_fits_0 7 rfl
theorem dX10_fits_12 : decode cX10_fits 12 = .ok (.iload_n 1, 1) := decAll_at aX10_fits_0 8 rfl
theorem dX10_fits_13 : decode cX10_fits 13 = .ok (.aload_n 0, 1) := decAll_at aX10_fits_0 9 rfl
theorem dX10_fits_14 : decode cX10_fits 14 = .ok (.getfield 100, 3) := decAll_at aX10_fits_0 10 rfl
theorem dX10_fits_17 : decode cX10_fits 17 = .ok (.iload_n 2, 1) := decAll_at aX10_fits_0 11 rfl
theorem dX10_fits_18 : decode cX10_fits 18 = .ok (.iaload, 1) := decAll_at aX10_fits_0 12 rfl
theorem dX10_fits_19 : decode cX10_fits 19 = .ok (.iconst (-1), 1) := decAll_at aX10_fits_0 13 rfl
theorem dX10_fits_20 : decode cX10_fits 20 = .ok (.if_icmp .ne 9, 3) := decAll_at aX10_fits_0 14 rfl
theorem dX10_fits_23 : decode cX10_fits 23 = .ok (.iconst 1, 1) := decAll_at aX10_fits_0 15 rfl
theorem dX10_fits_24 : decode cX10_fits 24 = .ok (.iload_n 2, 1) := decAll_at aX10_fits_0 16 rfl
theorem dX10_fits_25 : decode cX10_fits 25 = .ok (.ishl, 1) := decAll_at aX10_fits_0 17 rfl
theorem dX10_fits_26 : decode cX10_fits 26 = .ok (.goto 4, 3) := decAll_at aX10_fits_0 18 rfl
theorem dX10_fits_29 : decode cX10_fits 29 = .ok (.iconst 0, 1) := decAll_at aX10_fits_0 19 rfl
theorem dX10_fits_30 : decode cX10_fits 30 = .ok (.ior, 1) := decAll_at aX10_fits_0 20 rfl
theorem dX10_fits_31 : decode cX10_fits 31 = .ok (.istore_n 1, 1) := decAll_at aX10_fits_0 21 rfl
theorem dX10_fits_32 : decode cX10_fits 32 = .ok (.iinc 2 1, 3) := decAll_at aX10_fits_0 22 rfl
theorem dX10_fits_35 : decode cX10_fits 35 = .ok (.goto (-31), 3) := decAll_at aX10_fits_0 23 rfl
theorem dX10_fits_38 : decode cX10_fits 38 = .ok (.iconst 1, 1) := decAll_at aX10_fits_0 24 rfl
theorem dX10_fits_39 : decode cX10_fits 39 = .ok (.aload_n 0, 1) := decAll_at aX10_fits_0 25 rfl
theorem dX10_fits_40 : decode cX10_fits 40 = .ok (.getfield 396, 3) := decAll_at aX10_fits_0 26 rfl
theorem dX10_fits_43 : decode cX10_fits 43 = .ok (.ishl, 1) := decAll_at aX10_fits_0 27 rfl
theorem dX10_fits_44 : decode cX10_fits 44 = .ok (.iconst 1, 1) := decAll_at aX10_fits_0 28 rfl
theorem dX10_fits_45 : decode cX10_fits 45 = .ok (.isub, 1) := decAll_at aX10_fits_0 29 rfl
theorem dX10_fits_46 : decode cX10_fits 46 = .ok (.istore_n 2, 1) := decAll_at aX10_fits_0 30 rfl
theorem dX10_fits_47 : decode cX10_fits 47 = .ok (.iconst 0, 1) := decAll_at aX10_fits_0 31 rfl
theorem dX10_fits_48 : decode cX10_fits 48 = .ok (.istore_n 3, 1) := decAll_at aX10_fits_0 32 rfl
theorem dX10_fits_49 : decode cX10_fits 49 = .ok (.iload_n 3, 1) := decAll_at aX10_fits_0 33 rfl
theorem dX10_fits_50 : decode cX10_fits 50 = .ok (.iload_n 2, 1) := decAll_at aX10_fits_0 34 rfl
theorem dX10_fits_51 : decode cX10_fits 51 = .ok (.if_icmp .gt 78, 3) := decAll_at aX10_fits_0 35 rfl
theorem dX10_fits_54 : decode cX10_fits 54 = .ok (.aload_n 0, 1) := decAll_at aX10_fits_0 36 rfl
theorem dX10_fits_55 : decode cX10_fits 55 = .ok (.getfield 103, 3) := decAll_at aX10_fits_0 37 rfl
theorem dX10_fits_58 : decode cX10_fits 58 = .ok (.iload_n 3, 1) := decAll_at aX10_fits_0 38 rfl
theorem dX10_fits_59 : decode cX10_fits 59 = .ok (.iload_n 3, 1) := decAll_at aX10_fits_0 39 rfl
theorem dX10_fits_60 : decode cX10_fits 60 = .ok (.ifCond .ne 7, 3) := decAll_at aX10_fits_0 40 rfl
theorem dX10_fits_63 : decode cX10_fits 63 = .ok (.iconst 1, 1) := decAll_at aX10_fits_0 41 rfl
theorem dX10_fits_64 : decode cX10_fits 64 = .ok (.goto 4, 3) := decAll_at aX10_fits_0 42 rfl
theorem dX10_fits_67 : decode cX10_fits 67 = .ok (.iconst 0, 1) := decAll_at aX10_fits_0 43 rfl
theorem dX10_fits_68 : decode cX10_fits 68 = .ok (.bastore, 1) := decAll_at aX10_fits_0 44 rfl
theorem dX10_fits_69 : decode cX10_fits 69 = .ok (.aload_n 0, 1) := decAll_at aX10_fits_0 45 rfl
theorem dX10_fits_70 : decode cX10_fits 70 = .ok (.getfield 106, 3) := decAll_at aX10_fits_0 46 rfl
theorem dX10_fits_73 : decode cX10_fits 73 = .ok (.iload_n 3, 1) := decAll_at aX10_fits_0 47 rfl
theorem dX10_fits_74 : decode cX10_fits 74 = .ok (.iconst 0, 1) := decAll_at aX10_fits_0 48 rfl
theorem dX10_fits_75 : decode cX10_fits 75 = .ok (.iastore, 1) := decAll_at aX10_fits_0 49 rfl
theorem dX10_fits_76 : decode cX10_fits 76 = .ok (.iconst 0, 1) := decAll_at aX10_fits_0 50 rfl
theorem dX10_fits_77 : decode cX10_fits 77 = .ok (.istore 4, 2) := decAll_at aX10_fits_0 51 rfl
theorem dX10_fits_79 : decode cX10_fits 79 = .ok (.iload 4, 2) := decAll_at aX10_fits_0 52 rfl
theorem dX10_fits_81 : decode cX10_fits 81 = .ok (.aload_n 0, 1) := decAll_at aX10_fits_0 53 rfl
theorem dX10_fits_82 : decode cX10_fits 82 = .ok (.getfield 396, 3) := decAll_at aX10_fits_0 54 rfl
theorem dX10_fits_85 : decode cX10_fits 85 = .ok (.if_icmp .ge 38, 3) := decAll_at aX10_fits_0 55 rfl
theorem dX10_fits_88 : decode cX10_fits 88 = .ok (.aload_n 0, 1) := decAll_at aX10_fits_0 56 rfl
theorem dX10_fits_89 : decode cX10_fits 89 = .ok (.getfield 106, 3) := decAll_at aX10_fits_0 57 rfl
theorem dX10_fits_92 : decode cX10_fits 92 = .ok (.iload_n 3, 1) := decAll_at aX10_fits_0 58 rfl
theorem dX10_fits_93 : decode cX10_fits 93 = .ok (.dup2, 1) := decAll_at aX10_fits_0 59 rfl
theorem dX10_fits_94 : decode cX10_fits 94 = .ok (.iaload, 1) := decAll_at aX10_fits_0 60 rfl
theorem dX10_fits_95 : decode cX10_fits 95 = .ok (.iload_n 3, 1) := decAll_at aX10_fits_0 61 rfl
theorem dX10_fits_96 : decode cX10_fits 96 = .ok (.iload 4, 2) := decAll_at aX10_fits_0 62 rfl
theorem dX10_fits_98 : decode cX10_fits 98 = .ok (.invokestatic 399, 3) := decAll_at aX10_fits_0 63 rfl
def laX10_fits_1 : List (Nat × Instr × Nat) := [(101, .ifCond .eq 13, 3), (104, .aload_n 0, 1), (105, .getfield 91, 3), (108, .iload 4, 2), (110, .iaload, 1), (111, .goto 4, 3), (114, .iconst 0, 1), (115, .iadd, 1), (116, .iastore, 1), (117, .iinc 4 1, 3), (120, .goto (-41), 3), (123, .iinc 3 1, 3), (126, .goto (-77), 3), (129, .iconst 0, 1), (130, .istore_n 3, 1), (131, .iload_n 3, 1), (132, .aload_n 0, 1), (133, .getfield 150, 3), (136, .if_icmp .ge 112, 3), (139, .aload_n 0, 1), (140, .getfield 393, 3), (143, .iload_n 3, 1), (144, .invokestatic 399, 3), (147, .ifCond .ne 6, 3), (150, .goto 92, 3), (153, .iload_n 1, 1), (154, .istore 4, 2), (156, .iload 4, 2), (158, .ifCond .le 84, 3), (161, .iload 4, 2), (163, .istore 5, 2), (165, .iload 5, 2), (167, .ifCond .le 64, 3), (170, .aload_n 0, 1), (171, .getfield 103, 3), (174, .iload 4, 2), (176, .baload, 1), (177, .ifCond .ne 54, 3), (180, .aload_n 0, 1), (181, .getfield 106, 3), (184, .iload 5, 2), (186, .iaload, 1), (187, .aload_n 0, 1), (188, .getfield 97, 3), (191, .iload_n 3, 1), (192, .iaload, 1), (193, .if_icmp .gt 26, 3), (196, .aload_n 0, 1), (197, .getfield 103, 3), (200, .iload 4, 2), (202, .iload 5, 2), (204, .iconst (-1), 1), (205, .ixor, 1), (206, .iand, 1), (207, .baload, 1), (208, .ifCond .eq 11, 3), (211, .aload_n 0, 1), (212, .getfield 103, 3), (215, .iload 4, 2), (217, .iconst 1, 1), (218, .bastore, 1), (219, .iload 5, 2), (221, .iconst 1, 1), (222, .isub, 1)]
theorem aX10_fits_1 : decAll cX10_fits laX10_fits_1 = true := by decide +kernel
theorem dX10_fits_101 : decode cX10_fits 101 = .ok (.ifCond .eq 13, 3) := decAll_at aX10_fits_1 0 rfl
theorem dX10_fits_104 : decode cX10_fits 104 = .ok (.aload_n 0, 1) := decAll_at aX10_fits_1 1 rfl
theorem dX10_fits_105 : decode cX10_fits 105 = .ok (.getfield 91, 3) := decAll_at aX10_fits_1 2 rfl
theorem dX10_fits_108 : decode cX10_fits 108 = .ok (.iload 4, 2) := decAll_at aX10_fits_1 3 rfl
theorem dX10_fits_110 : decode cX10_fits 110 = .ok (.iaload, 1) := decAll_at aX10_fits_1 4 rfl
theorem dX10_fits_111 : decode cX10_fits 111 = .ok (.goto 4, 3) := decAll_at aX10_fits_1 5 rfl
theorem dX10_fits_114 : decode cX10_fits 114 = .ok (.iconst 0, 1) := decAll_at aX10_fits_1 6 rfl
theorem dX10_fits_115 : decode cX10_fits 115 = .ok (.iadd, 1) := decAll_at aX10_fits_1 7 rfl
theorem dX10_fits_116 : decode cX10_fits 116 = .ok (.iastore, 1) := decAll_at aX10_fits_1 8 rfl
theorem dX10_fits_117 : decode cX10_fits 117 = .ok (.iinc 4 1, 3) := decAll_at aX10_fits_1 9 rfl
theorem dX10_fits_120 : decode cX10_fits 120 = .ok (.goto (-41), 3) := decAll_at aX10_fits_1 10 rfl
theorem dX10_fits_123 : decode cX10_fits 123 = .ok (.iinc 3 1, 3) := decAll_at aX10_fits_1 11 rfl
theorem dX10_fits_126 : decode cX10_fits 126 = .ok (.goto (-77), 3) := decAll_at aX10_fits_1 12 rfl
theorem dX10_fits_129 : decode cX10_fits 129 = .ok (.iconst 0, 1) := decAll_at aX10_fits_1 13 rfl
theorem dX10_fits_130 : decode cX10_fits 130 = .ok (.istore_n 3, 1) := decAll_at aX10_fits_1 14 rfl
theorem dX10_fits_131 : decode cX10_fits 131 = .ok (.iload_n 3, 1) := decAll_at aX10_fits_1 15 rfl
theorem dX10_fits_132 : decode cX10_fits 132 = .ok (.aload_n 0, 1) := decAll_at aX10_fits_1 16 rfl
theorem dX10_fits_133 : decode cX10_fits 133 = .ok (.getfield 150, 3) := decAll_at aX10_fits_1 17 rfl
theorem dX10_fits_136 : decode cX10_fits 136 = .ok (.if_icmp .ge 112, 3) := decAll_at aX10_fits_1 18 rfl
theorem dX10_fits_139 : decode cX10_fits 139 = .ok (.aload_n 0, 1) := decAll_at aX10_fits_1 19 rfl
theorem dX10_fits_140 : decode cX10_fits 140 = .ok (.getfield 393, 3) := decAll_at aX10_fits_1 20 rfl
theorem dX10_fits_143 : decode cX10_fits 143 = .ok (.iload_n 3, 1) := decAll_at aX10_fits_1 21 rfl
theorem dX10_fits_144 : decode cX10_fits 144 = .ok (.invokestatic 399, 3) := decAll_at aX10_fits_1 22 rfl
theorem dX10_fits_147 : decode cX10_fits 147 = .ok (.ifCond .ne 6, 3) := decAll_at aX10_fits_1 23 rfl
theorem dX10_fits_150 : decode cX10_fits 150 = .ok (.goto 92, 3) := decAll_at aX10_fits_1 24 rfl
theorem dX10_fits_153 : decode cX10_fits 153 = .ok (.iload_n 1, 1) := decAll_at aX10_fits_1 25 rfl
theorem dX10_fits_154 : decode cX10_fits 154 = .ok (.istore 4, 2) := decAll_at aX10_fits_1 26 rfl
theorem dX10_fits_156 : decode cX10_fits 156 = .ok (.iload 4, 2) := decAll_at aX10_fits_1 27 rfl
theorem dX10_fits_158 : decode cX10_fits 158 = .ok (.ifCond .le 84, 3) := decAll_at aX10_fits_1 28 rfl
theorem dX10_fits_161 : decode cX10_fits 161 = .ok (.iload 4, 2) := decAll_at aX10_fits_1 29 rfl
theorem dX10_fits_163 : decode cX10_fits 163 = .ok (.istore 5, 2) := decAll_at aX10_fits_1 30 rfl
theorem dX10_fits_165 : decode cX10_fits 165 = .ok (.iload 5, 2) := decAll_at aX10_fits_1 31 rfl
theorem dX10_fits_167 : decode cX10_fits 167 = .ok (.ifCond .le 64, 3) := decAll_at aX10_fits_1 32 rfl
theorem dX10_fits_170 : decode cX10_fits 170 = .ok (.aload_n 0, 1) := decAll_at aX10_fits_1 33 rfl
theorem dX10_fits_171 : decode cX10_fits 171 = .ok (.getfield 103, 3) := decAll_at aX10_fits_1 34 rfl
theorem dX10_fits_174 : decode cX10_fits 174 = .ok (.iload 4, 2) := decAll_at aX10_fits_1 35 rfl
theorem dX10_fits_176 : decode cX10_fits 176 = .ok (.baload, 1) := decAll_at aX10_fits_1 36 rfl
theorem dX10_fits_177 : decode cX10_fits 177 = .ok (.ifCond .ne 54, 3) := decAll_at aX10_fits_1 37 rfl
theorem dX10_fits_180 : decode cX10_fits 180 = .ok (.aload_n 0, 1) := decAll_at aX10_fits_1 38 rfl
theorem dX10_fits_181 : decode cX10_fits 181 = .ok (.getfield 106, 3) := decAll_at aX10_fits_1 39 rfl
theorem dX10_fits_184 : decode cX10_fits 184 = .ok (.iload 5, 2) := decAll_at aX10_fits_1 40 rfl
theorem dX10_fits_186 : decode cX10_fits 186 = .ok (.iaload, 1) := decAll_at aX10_fits_1 41 rfl
theorem dX10_fits_187 : decode cX10_fits 187 = .ok (.aload_n 0, 1) := decAll_at aX10_fits_1 42 rfl
theorem dX10_fits_188 : decode cX10_fits 188 = .ok (.getfield 97, 3) := decAll_at aX10_fits_1 43 rfl
theorem dX10_fits_191 : decode cX10_fits 191 = .ok (.iload_n 3, 1) := decAll_at aX10_fits_1 44 rfl
theorem dX10_fits_192 : decode cX10_fits 192 = .ok (.iaload, 1) := decAll_at aX10_fits_1 45 rfl
theorem dX10_fits_193 : decode cX10_fits 193 = .ok (.if_icmp .gt 26, 3) := decAll_at aX10_fits_1 46 rfl
theorem dX10_fits_196 : decode cX10_fits 196 = .ok (.aload_n 0, 1) := decAll_at aX10_fits_1 47 rfl
theorem dX10_fits_197 : decode cX10_fits 197 = .ok (.getfield 103, 3) := decAll_at aX10_fits_1 48 rfl
theorem dX10_fits_200 : decode cX10_fits 200 = .ok (.iload 4, 2) := decAll_at aX10_fits_1 49 rfl
theorem dX10_fits_202 : decode cX10_fits 202 = .ok (.iload 5, 2) := decAll_at aX10_fits_1 50 rfl
theorem dX10_fits_204 : decode cX10_fits 204 = .ok (.iconst (-1), 1) := decAll_at aX10_fits_1 51 rfl
theorem dX10_fits_205 : decode cX10_fits 205 = .ok (.ixor, 1) := decAll_at aX10_fits_1 52 rfl
theorem dX10_fits_206 : decode cX10_fits 206 = .ok (.iand, 1) := decAll_at aX10_fits_1 53 rfl
theorem dX10_fits_207 : decode cX10_fits 207 = .ok (.baload, 1) := decAll_at aX10_fits_1 54 rfl
theorem dX10_fits_208 : decode cX10_fits 208 = .ok (.ifCond .eq 11, 3) := decAll_at aX10_fits_1 55 rfl
theorem dX10_fits_211 : decode cX10_fits 211 = .ok (.aload_n 0, 1) := decAll_at aX10_fits_1 56 rfl
theorem dX10_fits_212 : decode cX10_fits 212 = .ok (.getfield 103, 3) := decAll_at aX10_fits_1 57 rfl
theorem dX10_fits_215 : decode cX10_fits 215 = .ok (.iload 4, 2) := decAll_at aX10_fits_1 58 rfl
theorem dX10_fits_217 : decode cX10_fits 217 = .ok (.iconst 1, 1) := decAll_at aX10_fits_1 59 rfl
theorem dX10_fits_218 : decode cX10_fits 218 = .ok (.bastore, 1) := decAll_at aX10_fits_1 60 rfl
theorem dX10_fits_219 : decode cX10_fits 219 = .ok (.iload 5, 2) := decAll_at aX10_fits_1 61 rfl
theorem dX10_fits_221 : decode cX10_fits 221 = .ok (.iconst 1, 1) := decAll_at aX10_fits_1 62 rfl
theorem dX10_fits_222 : decode cX10_fits 222 = .ok (.isub, 1) := decAll_at aX10_fits_1 63 rfl
def laX10_fits_2 : List (Nat × Instr × Nat) := [(223, .iload 4, 2), (225, .iand, 1), (226, .istore 5, 2), (228, .goto (-63), 3), (231, .iload 4, 2), (233, .iconst 1, 1), (234, .isub, 1), (235, .iload_n 1, 1), (236, .iand, 1), (237, .istore 4, 2), (239, .goto (-83), 3), (242, .iinc 3 1, 3), (245, .goto (-114), 3), (248, .aload_n 0, 1), (249, .getfield 103, 3), (252, .iload_n 1, 1), (253, .baload, 1), (254, .ireturn, 1)]
theorem aX10_fits_2 : decAll cX10_fits laX10_fits_2 = true := by decide +kernel
theorem dX10_fits_223 : decode cX10_fits 223 = .ok (.iload 4, 2) := decAll_at aX10_fits_2 0 rfl
theorem dX10_fits_225 : decode cX10_fits 225 = .ok (.iand, 1) := decAll_at aX10_fits_2 1 rfl
theorem dX10_fits_226 : decode cX10_fits 226 = .ok (.istore 5, 2) := decAll_at aX10_fits_2 2 rfl
theorem dX10_fits_228 : decode cX10_fits 228 = .ok (.goto (-63), 3) := decAll_at aX10_fits_2 3 rfl
theorem dX10_fits_231 : decode cX10_fits 231 = .ok (.iload 4, 2) := decAll_at aX10_fits_2 4 rfl
theorem dX10_fits_233 : decode cX10_fits 233 = .ok (.iconst 1, 1) := decAll_at aX10_fits_2 5 rfl
theorem dX10_fits_234 : decode cX10_fits 234 = .ok (.isub, 1) := decAll_at aX10_fits_2 6 rfl
theorem dX10_fits_235 : decode cX10_fits 235 = .ok (.iload_n 1, 1) := decAll_at aX10_fits_2 7 rfl
theorem dX10_fits_236 : decode cX10_fits 236 = .ok (.iand, 1) := decAll_at aX10_fits_2 8 rfl
theorem dX10_fits_237 : decode cX10_fits 237 = .ok (.istore 4, 2) := decAll_at aX10_fits_2 9 rfl
theorem dX10_fits_239 : decode cX10_fits 239 = .ok (.goto (-83), 3) := decAll_at aX10_fits_2 10 rfl
theorem dX10_fits_242 : decode cX10_fits 242 = .ok (.iinc 3 1, 3) := decAll_at aX10_fits_2 11 rfl
theorem dX10_fits_245 : decode cX10_fits 245 = .ok (.goto (-114), 3) := decAll_at aX10_fits_2 12 rfl
theorem dX10_fits_248 : decode cX10_fits 248 = .ok (.aload_n 0, 1) := decAll_at aX10_fits_2 13 rfl
theorem dX10_fits_249 : decode cX10_fits 249 = .ok (.getfield 103, 3) := decAll_at aX10_fits_2 14 rfl
theorem dX10_fits_252 : decode cX10_fits 252 = .ok (.iload_n 1, 1) := decAll_at aX10_fits_2 15 rfl
theorem dX10_fits_253 : decode cX10_fits 253 = .ok (.baload, 1) := decAll_at aX10_fits_2 16 rfl
theorem dX10_fits_254 : decode cX10_fits 254 = .ok (.ireturn, 1) := decAll_at aX10_fits_2 17 rfl
def laX10_readies_0 : List (Nat × Instr × Nat) := [(0, .iconst 0, 1), (1, .istore_n 3, 1), (2, .iload_n 3, 1), (3, .aload_n 0, 1), (4, .getfield 150, 3), (7, .if_icmp .ge 47, 3), (10, .aload_n 0, 1), (11, .getfield 393, 3), (14, .iload_n 3, 1), (15, .invokestatic 399, 3), (18, .ifCond .ne 6, 3), (21, .goto 27, 3), (24, .aload_n 0, 1), (25, .getfield 97, 3), (28, .iload_n 3, 1), (29, .aload_n 0, 1), (30, .iload_n 3, 1), (31, .iload_n 1, 1), (32, .iload_n 2, 1), (33, .invokevirtual 367, 3), (36, .iastore, 1), (37, .aload_n 0, 1), (38, .getfield 97, 3), (41, .iload_n 3, 1), (42, .iaload, 1), (43, .ifCond .ge 5, 3), (46, .iconst 0, 1), (47, .ireturn, 1), (48, .iinc 3 1, 3), (51, .goto (-49), 3), (54, .iconst 0, 1), (55, .istore_n 3, 1), (56, .iload_n 3, 1), (57, .aload_n 0, 1), (58, .getfield 396, 3), (61, .if_icmp .ge 70, 3), (64, .aload_n 0, 1), (65, .getfield 100, 3), (68, .iload_n 3, 1), (69, .aload_n 0, 1), (70, .getfield 94, 3), (73, .iload_n 3, 1), (74, .iaload, 1), (75, .iastore, 1), (76, .aload_n 0, 1), (77, .getfield 94, 3), (80, .iload_n 3, 1), (81, .iaload, 1), (82, .iconst (-1), 1), (83, .if_icmp .ne 6, 3), (86, .goto 39, 3), (89, .aload_n 0, 1), (90, .getfield 97, 3), (93, .aload_n 0, 1), (94, .getfield 94, 3), (97, .iload_n 3, 1), (98, .iaload, 1), (99, .dup2, 1), (100, .iaload, 1), (101, .aload_n 0, 1), (102, .getfield 91, 3), (105, .iload_n 3, 1), (106, .iaload, 1), (107, .isub, 1)]
theorem aX10_readies_0 : decAll cX10_readies laX10_readies_0 = true := by decide +kernel
theorem dX10_readies_0 : decode cX10_readies 0 = .ok (.iconst 0, 1) := decAll_at aX10_readies_0 0 rfl
theorem dX10_readies_1 : decode cX10_readies 1 = .ok (.istore_n 3, 1) := decAll_at aX10_readies_0 1 rfl
theorem dX10_readies_2 : decode cX10_readies 2 = .ok (.iload_n 3, 1) := decAll_at aX10_readies_0 2 rfl
theorem dX10_readies_3 : decode cX10_readies 3 = .ok (.aload_n 0, 1) := decAll_at aX10_readies_0 3 rfl
theorem dX10_readies_4 : decode cX10_readies 4 = .ok (.getfield 150, 3) := decAll_at aX10_readies_0 4 rfl
theorem dX10_readies_7 : decode cX10_readies 7 = .ok (.if_icmp .ge 47, 3) := decAll_at aX10_readies_0 5 rfl
theorem dX10_readies_10 : decode cX10_readies 10 = .ok (.aload_n 0, 1) := decAll_at aX10_readies_0 6 rfl
theorem dX10_readies_11 : decode cX10_readies 11 = .ok (.getfield 393, 3) := decAll_at aX10_readies_0 7 rfl
theorem dX10_readies_14 : decode cX10_readies 14 = .ok (.iload_n 3, 1) := decAll_at aX10_readies_0 8 rfl
theorem dX10_readies_15 : decode cX10_readies 15 = .ok (.invokestatic 399, 3) := decAll_at aX10_readies_0 9 rfl
theorem dX10_readies_18 : decode cX10_readies 18 = .ok (.ifCond .ne 6, 3) := decAll_at aX10_readies_0 10 rfl
theorem dX10_readies_21 : decode cX10_readies 21 = .ok (.goto 27, 3) := decAll_at aX10_readies_0 11 rfl
theorem dX10_readies_24 : decode cX10_readies 24 = .ok (.aload_n 0, 1) := decAll_at aX10_readies_0 12 rfl
theorem dX10_readies_25 : decode cX10_readies 25 = .ok (.getfield 97, 3) := decAll_at aX10_readies_0 13 rfl
theorem dX10_readies_28 : decode cX10_readies 28 = .ok (.iload_n 3, 1) := decAll_at aX10_readies_0 14 rfl
theorem dX10_readies_29 : decode cX10_readies 29 = .ok (.aload_n 0, 1) := decAll_at aX10_readies_0 15 rfl
theorem dX10_readies_30 : decode cX10_readies 30 = .ok (.iload_n 3, 1) := decAll_at aX10_readies_0 16 rfl
theorem dX10_readies_31 : decode cX10_readies 31 = .ok (.iload_n 1, 1) := decAll_at aX10_readies_0 17 rfl
theorem dX10_readies_32 : decode cX10_readies 32 = .ok (.iload_n 2, 1) := decAll_at aX10_readies_0 18 rfl
theorem dX10_readies_33 : decode cX10_readies 33 = .ok (.invokevirtual 367, 3) := decAll_at aX10_readies_0 19 rfl
theorem dX10_readies_36 : decode cX10_readies 36 = .ok (.iastore, 1) := decAll_at aX10_readies_0 20 rfl
theorem dX10_readies_37 : decode cX10_readies 37 = .ok (.aload_n 0, 1) := decAll_at aX10_readies_0 21 rfl
theorem dX10_readies_38 : decode cX10_readies 38 = .ok (.getfield 97, 3) := decAll_at aX10_readies_0 22 rfl
theorem dX10_readies_41 : decode cX10_readies 41 = .ok (.iload_n 3, 1) := decAll_at aX10_readies_0 23 rfl
theorem dX10_readies_42 : decode cX10_readies 42 = .ok (.iaload, 1) := decAll_at aX10_readies_0 24 rfl
theorem dX10_readies_43 : decode cX10_readies 43 = .ok (.ifCond .ge 5, 3) := decAll_at aX10_readies_0 25 rfl
theorem dX10_readies_46 : decode cX10_readies 46 = .ok (.iconst 0, 1) := decAll_at aX10_readies_0 26 rfl
theorem dX10_readies_47 : decode cX10_readies 47 = .ok (.ireturn, 1) := decAll_at aX10_readies_0 27 rfl
theorem dX10_readies_48 : decode cX10_readies 48 = .ok (.iinc 3 1, 3) := decAll_at aX10_readies_0 28 rfl
theorem dX10_readies_51 : decode cX10_readies 51 = .ok (.goto (-49), 3) := decAll_at aX10_readies_0 29 rfl
theorem dX10_readies_54 : decode cX10_readies 54 = .ok (.iconst 0, 1) := decAll_at aX10_readies_0 30 rfl
theorem dX10_readies_55 : decode cX10_readies 55 = .ok (.istore_n 3, 1) := decAll_at aX10_readies_0 31 rfl
theorem dX10_readies_56 : decode cX10_readies 56 = .ok (.iload_n 3, 1) := decAll_at aX10_readies_0 32 rfl
theorem dX10_readies_57 : decode cX10_readies 57 = .ok (.aload_n 0, 1) := decAll_at aX10_readies_0 33 rfl
theorem dX10_readies_58 : decode cX10_readies 58 = .ok (.getfield 396, 3) := decAll_at aX10_readies_0 34 rfl
theorem dX10_readies_61 : decode cX10_readies 61 = .ok (.if_icmp .ge 70, 3) := decAll_at aX10_readies_0 35 rfl
theorem dX10_readies_64 : decode cX10_readies 64 = .ok (.aload_n 0, 1) := decAll_at aX10_readies_0 36 rfl
theorem dX10_readies_65 : decode cX10_readies 65 = .ok (.getfield 100, 3) := decAll_at aX10_readies_0 37 rfl
theorem dX10_readies_68 : decode cX10_readies 68 = .ok (.iload_n 3, 1) := decAll_at aX10_readies_0 38 rfl
theorem dX10_readies_69 : decode cX10_readies 69 = .ok (.aload_n 0, 1) := decAll_at aX10_readies_0 39 rfl
theorem dX10_readies_70 : decode cX10_readies 70 = .ok (.getfield 94, 3) := decAll_at aX10_readies_0 40 rfl
theorem dX10_readies_73 : decode cX10_readies 73 = .ok (.iload_n 3, 1) := decAll_at aX10_readies_0 41 rfl
theorem dX10_readies_74 : decode cX10_readies 74 = .ok (.iaload, 1) := decAll_at aX10_readies_0 42 rfl
theorem dX10_readies_75 : decode cX10_readies 75 = .ok (.iastore, 1) := decAll_at aX10_readies_0 43 rfl
theorem dX10_readies_76 : decode cX10_readies 76 = .ok (.aload_n 0, 1) := decAll_at aX10_readies_0 44 rfl
theorem dX10_readies_77 : decode cX10_readies 77 = .ok (.getfield 94, 3) := decAll_at aX10_readies_0 45 rfl
theorem dX10_readies_80 : decode cX10_readies 80 = .ok (.iload_n 3, 1) := decAll_at aX10_readies_0 46 rfl
theorem dX10_readies_81 : decode cX10_readies 81 = .ok (.iaload, 1) := decAll_at aX10_readies_0 47 rfl
theorem dX10_readies_82 : decode cX10_readies 82 = .ok (.iconst (-1), 1) := decAll_at aX10_readies_0 48 rfl
theorem dX10_readies_83 : decode cX10_readies 83 = .ok (.if_icmp .ne 6, 3) := decAll_at aX10_readies_0 49 rfl
theorem dX10_readies_86 : decode cX10_readies 86 = .ok (.goto 39, 3) := decAll_at aX10_readies_0 50 rfl
theorem dX10_readies_89 : decode cX10_readies 89 = .ok (.aload_n 0, 1) := decAll_at aX10_readies_0 51 rfl
theorem dX10_readies_90 : decode cX10_readies 90 = .ok (.getfield 97, 3) := decAll_at aX10_readies_0 52 rfl
theorem dX10_readies_93 : decode cX10_readies 93 = .ok (.aload_n 0, 1) := decAll_at aX10_readies_0 53 rfl
theorem dX10_readies_94 : decode cX10_readies 94 = .ok (.getfield 94, 3) := decAll_at aX10_readies_0 54 rfl
theorem dX10_readies_97 : decode cX10_readies 97 = .ok (.iload_n 3, 1) := decAll_at aX10_readies_0 55 rfl
theorem dX10_readies_98 : decode cX10_readies 98 = .ok (.iaload, 1) := decAll_at aX10_readies_0 56 rfl
theorem dX10_readies_99 : decode cX10_readies 99 = .ok (.dup2, 1) := decAll_at aX10_readies_0 57 rfl
theorem dX10_readies_100 : decode cX10_readies 100 = .ok (.iaload, 1) := decAll_at aX10_readies_0 58 rfl
theorem dX10_readies_101 : decode cX10_readies 101 = .ok (.aload_n 0, 1) := decAll_at aX10_readies_0 59 rfl
theorem dX10_readies_102 : decode cX10_readies 102 = .ok (.getfield 91, 3) := decAll_at aX10_readies_0 60 rfl
theorem dX10_readies_105 : decode cX10_readies 105 = .ok (.iload_n 3, 1) := decAll_at aX10_readies_0 61 rfl
theorem dX10_readies_106 : decode cX10_readies 106 = .ok (.iaload, 1) := decAll_at aX10_readies_0 62 rfl
theorem dX10_readies_107 : decode cX10_readies 107 = .ok (.isub, 1) := decAll_at aX10_readies_0 63 rfl
def laX10_readies_1 : List (Nat × Instr × Nat) := [(108, .iastore, 1), (109, .aload_n 0, 1), (110, .getfield 97, 3), (113, .aload_n 0, 1), (114, .getfield 94, 3), (117, .iload_n 3, 1), (118, .iaload, 1), (119, .iaload, 1), (120, .ifCond .ge 5, 3), (123, .iconst 0, 1), (124, .ireturn, 1), (125, .iinc 3 1, 3), (128, .goto (-72), 3), (131, .iconst 1, 1), (132, .ireturn, 1)]
theorem aX10_readies_1 : decAll cX10_readies laX10_readies_1 = true := by decide +kernel
theorem dX10_readies_108 : decode cX10_readies 108 = .ok (.iastore, 1) := decAll_at aX10_readies_1 0 rfl
theorem dX10_readies_109 : decode cX10_readies 109 = .ok (.aload_n 0, 1) := decAll_at aX10_readies_1 1 rfl
theorem dX10_readies_110 : decode cX10_readies 110 = .ok (.getfield 97, 3) := decAll_at aX10_readies_1 2 rfl
theorem dX10_readies_113 : decode cX10_readies 113 = .ok (.aload_n 0, 1) := decAll_at aX10_readies_1 3 rfl
theorem dX10_readies_114 : decode cX10_readies 114 = .ok (.getfield 94, 3) := decAll_at aX10_readies_1 4 rfl
theorem dX10_readies_117 : decode cX10_readies 117 = .ok (.iload_n 3, 1) := decAll_at aX10_readies_1 5 rfl
theorem dX10_readies_118 : decode cX10_readies 118 = .ok (.iaload, 1) := decAll_at aX10_readies_1 6 rfl
theorem dX10_readies_119 : decode cX10_readies 119 = .ok (.iaload, 1) := decAll_at aX10_readies_1 7 rfl
theorem dX10_readies_120 : decode cX10_readies 120 = .ok (.ifCond .ge 5, 3) := decAll_at aX10_readies_1 8 rfl
theorem dX10_readies_123 : decode cX10_readies 123 = .ok (.iconst 0, 1) := decAll_at aX10_readies_1 9 rfl
theorem dX10_readies_124 : decode cX10_readies 124 = .ok (.ireturn, 1) := decAll_at aX10_readies_1 10 rfl
theorem dX10_readies_125 : decode cX10_readies 125 = .ok (.iinc 3 1, 3) := decAll_at aX10_readies_1 11 rfl
theorem dX10_readies_128 : decode cX10_readies 128 = .ok (.goto (-72), 3) := decAll_at aX10_readies_1 12 rfl
theorem dX10_readies_131 : decode cX10_readies 131 = .ok (.iconst 1, 1) := decAll_at aX10_readies_1 13 rfl
theorem dX10_readies_132 : decode cX10_readies 132 = .ok (.ireturn, 1) := decAll_at aX10_readies_1 14 rfl
def laX10_canAt_0 : List (Nat × Instr × Nat) := [(0, .aload_n 0, 1), (1, .iload_n 1, 1), (2, .iload_n 2, 1), (3, .invokevirtual 402, 3), (6, .ifCond .eq 14, 3), (9, .aload_n 0, 1), (10, .invokevirtual 405, 3), (13, .ifCond .eq 7, 3), (16, .iconst 1, 1), (17, .goto 4, 3), (20, .iconst 0, 1), (21, .ireturn, 1)]
theorem aX10_canAt_0 : decAll cX10_canAt laX10_canAt_0 = true := by decide +kernel
theorem dX10_canAt_0 : decode cX10_canAt 0 = .ok (.aload_n 0, 1) := decAll_at aX10_canAt_0 0 rfl
theorem dX10_canAt_1 : decode cX10_canAt 1 = .ok (.iload_n 1, 1) := decAll_at aX10_canAt_0 1 rfl
theorem dX10_canAt_2 : decode cX10_canAt 2 = .ok (.iload_n 2, 1) := decAll_at aX10_canAt_0 2 rfl
theorem dX10_canAt_3 : decode cX10_canAt 3 = .ok (.invokevirtual 402, 3) := decAll_at aX10_canAt_0 3 rfl
theorem dX10_canAt_6 : decode cX10_canAt 6 = .ok (.ifCond .eq 14, 3) := decAll_at aX10_canAt_0 4 rfl
theorem dX10_canAt_9 : decode cX10_canAt 9 = .ok (.aload_n 0, 1) := decAll_at aX10_canAt_0 5 rfl
theorem dX10_canAt_10 : decode cX10_canAt 10 = .ok (.invokevirtual 405, 3) := decAll_at aX10_canAt_0 6 rfl
theorem dX10_canAt_13 : decode cX10_canAt 13 = .ok (.ifCond .eq 7, 3) := decAll_at aX10_canAt_0 7 rfl
theorem dX10_canAt_16 : decode cX10_canAt 16 = .ok (.iconst 1, 1) := decAll_at aX10_canAt_0 8 rfl
theorem dX10_canAt_17 : decode cX10_canAt 17 = .ok (.goto 4, 3) := decAll_at aX10_canAt_0 9 rfl
theorem dX10_canAt_20 : decode cX10_canAt 20 = .ok (.iconst 0, 1) := decAll_at aX10_canAt_0 10 rfl
theorem dX10_canAt_21 : decode cX10_canAt 21 = .ok (.ireturn, 1) := decAll_at aX10_canAt_0 11 rfl
def laX10_wholePace_0 : List (Nat × Instr × Nat) := [(0, .iconst 0, 1), (1, .istore_n 2, 1), (2, .bipush 60, 2), (4, .istore_n 3, 1), (5, .iload_n 2, 1), (6, .iload_n 3, 1), (7, .if_icmp .ge 36, 3), (10, .iload_n 2, 1), (11, .iload_n 3, 1), (12, .iadd, 1), (13, .iconst 1, 1), (14, .iadd, 1), (15, .iconst 2, 1), (16, .idiv, 1), (17, .istore 4, 2), (19, .aload_n 0, 1), (20, .iload 4, 2), (22, .iload_n 1, 1), (23, .invokevirtual 408, 3), (26, .ifCond .eq 9, 3), (29, .iload 4, 2), (31, .istore_n 2, 1), (32, .goto 8, 3), (35, .iload 4, 2), (37, .iconst 1, 1), (38, .isub, 1), (39, .istore_n 3, 1), (40, .goto (-35), 3), (43, .iload_n 2, 1), (44, .ireturn, 1)]
theorem aX10_wholePace_0 : decAll cX10_wholePace laX10_wholePace_0 = true := by decide +kernel
theorem dX10_wholePace_0 : decode cX10_wholePace 0 = .ok (.iconst 0, 1) := decAll_at aX10_wholePace_0 0 rfl
theorem dX10_wholePace_1 : decode cX10_wholePace 1 = .ok (.istore_n 2, 1) := decAll_at aX10_wholePace_0 1 rfl
theorem dX10_wholePace_2 : decode cX10_wholePace 2 = .ok (.bipush 60, 2) := decAll_at aX10_wholePace_0 2 rfl
theorem dX10_wholePace_4 : decode cX10_wholePace 4 = .ok (.istore_n 3, 1) := decAll_at aX10_wholePace_0 3 rfl
theorem dX10_wholePace_5 : decode cX10_wholePace 5 = .ok (.iload_n 2, 1) := decAll_at aX10_wholePace_0 4 rfl
theorem dX10_wholePace_6 : decode cX10_wholePace 6 = .ok (.iload_n 3, 1) := decAll_at aX10_wholePace_0 5 rfl
theorem dX10_wholePace_7 : decode cX10_wholePace 7 = .ok (.if_icmp .ge 36, 3) := decAll_at aX10_wholePace_0 6 rfl
theorem dX10_wholePace_10 : decode cX10_wholePace 10 = .ok (.iload_n 2, 1) := decAll_at aX10_wholePace_0 7 rfl
theorem dX10_wholePace_11 : decode cX10_wholePace 11 = .ok (.iload_n 3, 1) := decAll_at aX10_wholePace_0 8 rfl
theorem dX10_wholePace_12 : decode cX10_wholePace 12 = .ok (.iadd, 1) := decAll_at aX10_wholePace_0 9 rfl
theorem dX10_wholePace_13 : decode cX10_wholePace 13 = .ok (.iconst 1, 1) := decAll_at aX10_wholePace_0 10 rfl
theorem dX10_wholePace_14 : decode cX10_wholePace 14 = .ok (.iadd, 1) := decAll_at aX10_wholePace_0 11 rfl
theorem dX10_wholePace_15 : decode cX10_wholePace 15 = .ok (.iconst 2, 1) := decAll_at aX10_wholePace_0 12 rfl
theorem dX10_wholePace_16 : decode cX10_wholePace 16 = .ok (.idiv, 1) := decAll_at aX10_wholePace_0 13 rfl
theorem dX10_wholePace_17 : decode cX10_wholePace 17 = .ok (.istore 4, 2) := decAll_at aX10_wholePace_0 14 rfl
theorem dX10_wholePace_19 : decode cX10_wholePace 19 = .ok (.aload_n 0, 1) := decAll_at aX10_wholePace_0 15 rfl
theorem dX10_wholePace_20 : decode cX10_wholePace 20 = .ok (.iload 4, 2) := decAll_at aX10_wholePace_0 16 rfl
theorem dX10_wholePace_22 : decode cX10_wholePace 22 = .ok (.iload_n 1, 1) := decAll_at aX10_wholePace_0 17 rfl
theorem dX10_wholePace_23 : decode cX10_wholePace 23 = .ok (.invokevirtual 408, 3) := decAll_at aX10_wholePace_0 18 rfl
theorem dX10_wholePace_26 : decode cX10_wholePace 26 = .ok (.ifCond .eq 9, 3) := decAll_at aX10_wholePace_0 19 rfl
theorem dX10_wholePace_29 : decode cX10_wholePace 29 = .ok (.iload 4, 2) := decAll_at aX10_wholePace_0 20 rfl
theorem dX10_wholePace_31 : decode cX10_wholePace 31 = .ok (.istore_n 2, 1) := decAll_at aX10_wholePace_0 21 rfl
theorem dX10_wholePace_32 : decode cX10_wholePace 32 = .ok (.goto 8, 3) := decAll_at aX10_wholePace_0 22 rfl
theorem dX10_wholePace_35 : decode cX10_wholePace 35 = .ok (.iload 4, 2) := decAll_at aX10_wholePace_0 23 rfl
theorem dX10_wholePace_37 : decode cX10_wholePace 37 = .ok (.iconst 1, 1) := decAll_at aX10_wholePace_0 24 rfl
theorem dX10_wholePace_38 : decode cX10_wholePace 38 = .ok (.isub, 1) := decAll_at aX10_wholePace_0 25 rfl
theorem dX10_wholePace_39 : decode cX10_wholePace 39 = .ok (.istore_n 3, 1) := decAll_at aX10_wholePace_0 26 rfl
theorem dX10_wholePace_40 : decode cX10_wholePace 40 = .ok (.goto (-35), 3) := decAll_at aX10_wholePace_0 27 rfl
theorem dX10_wholePace_43 : decode cX10_wholePace 43 = .ok (.iload_n 2, 1) := decAll_at aX10_wholePace_0 28 rfl
theorem dX10_wholePace_44 : decode cX10_wholePace 44 = .ok (.ireturn, 1) := decAll_at aX10_wholePace_0 29 rfl
def laX10_gives_0 : List (Nat × Instr × Nat) := [(0, .aload_n 0, 1), (1, .iload_n 1, 1), (2, .iconst (-1), 1), (3, .invokevirtual 402, 3), (6, .istore_n 2, 1), (7, .iconst 0, 1), (8, .istore_n 3, 1), (9, .iload_n 3, 1), (10, .aload_n 0, 1), (11, .getfield 396, 3), (14, .if_icmp .ge 114, 3), (17, .iload_n 2, 1), (18, .ifCond .eq 110, 3), (21, .iconst 0, 1), (22, .istore 4, 2), (24, .aload_n 0, 1), (25, .getfield 100, 3), (28, .iload_n 3, 1), (29, .iaload, 1), (30, .iconst (-1), 1), (31, .if_icmp .ne 91, 3), (34, .aload_n 0, 1), (35, .getfield 393, 3), (38, .iload 4, 2), (40, .invokestatic 399, 3), (43, .ifCond .eq 73, 3), (46, .aload_n 0, 1), (47, .getfield 97, 3), (50, .iload 4, 2), (52, .iaload, 1), (53, .aload_n 0, 1), (54, .getfield 91, 3), (57, .iload_n 3, 1), (58, .iaload, 1), (59, .if_icmp .lt 57, 3), (62, .aload_n 0, 1), (63, .getfield 97, 3), (66, .iload 4, 2), (68, .dup2, 1), (69, .iaload, 1), (70, .aload_n 0, 1), (71, .getfield 91, 3), (74, .iload_n 3, 1), (75, .iaload, 1), (76, .isub, 1), (77, .iastore, 1), (78, .aload_n 0, 1), (79, .getfield 100, 3), (82, .iload_n 3, 1), (83, .iload 4, 2), (85, .iastore, 1), (86, .aload_n 0, 1), (87, .invokevirtual 405, 3), (90, .ifCond .ne 26, 3), (93, .aload_n 0, 1), (94, .getfield 100, 3), (97, .iload_n 3, 1), (98, .iconst (-1), 1), (99, .iastore, 1), (100, .aload_n 0, 1), (101, .getfield 97, 3), (104, .iload 4, 2), (106, .dup2, 1), (107, .iaload, 1)]
theorem aX10_gives_0 : decAll cX10_gives laX10_gives_0 = true := by decide +kernel
theorem dX10_gives_0 : decode cX10_gives 0 = .ok (.aload_n 0, 1) := decAll_at aX10_gives_0 0 rfl
theorem dX10_gives_1 : decode cX10_gives 1 = .ok (.iload_n 1, 1) := decAll_at aX10_gives_0 1 rfl
theorem dX10_gives_2 : decode cX10_gives 2 = .ok (.iconst (-1), 1) := decAll_at aX10_gives_0 2 rfl
theorem dX10_gives_3 : decode cX10_gives 3 = .ok (.invokevirtual 402, 3) := decAll_at aX10_gives_0 3 rfl
theorem dX10_gives_6 : decode cX10_gives 6 = .ok (.istore_n 2, 1) := decAll_at aX10_gives_0 4 rfl
theorem dX10_gives_7 : decode cX10_gives 7 = .ok (.iconst 0, 1) := decAll_at aX10_gives_0 5 rfl
theorem dX10_gives_8 : decode cX10_gives 8 = .ok (.istore_n 3, 1) := decAll_at aX10_gives_0 6 rfl
theorem dX10_gives_9 : decode cX10_gives 9 = .ok (.iload_n 3, 1) := decAll_at aX10_gives_0 7 rfl
theorem dX10_gives_10 : decode cX10_gives 10 = .ok (.aload_n 0, 1) := decAll_at aX10_gives_0 8 rfl
theorem dX10_gives_11 : decode cX10_gives 11 = .ok (.getfield 396, 3) := decAll_at aX10_gives_0 9 rfl
theorem dX10_gives_14 : decode cX10_gives 14 = .ok (.if_icmp .ge 114, 3) := decAll_at aX10_gives_0 10 rfl
theorem dX10_gives_17 : decode cX10_gives 17 = .ok (.iload_n 2, 1) := decAll_at aX10_gives_0 11 rfl
theorem dX10_gives_18 : decode cX10_gives 18 = .ok (.ifCond .eq 110, 3) := decAll_at aX10_gives_0 12 rfl
theorem dX10_gives_21 : decode cX10_gives 21 = .ok (.iconst 0, 1) := decAll_at aX10_gives_0 13 rfl
theorem dX10_gives_22 : decode cX10_gives 22 = .ok (.istore 4, 2) := decAll_at aX10_gives_0 14 rfl
theorem dX10_gives_24 : decode cX10_gives 24 = .ok (.aload_n 0, 1) := decAll_at aX10_gives_0 15 rfl
theorem dX10_gives_25 : decode cX10_gives 25 = .ok (.getfield 100, 3) := decAll_at aX10_gives_0 16 rfl
theorem dX10_gives_28 : decode cX10_gives 28 = .ok (.iload_n 3, 1) := decAll_at aX10_gives_0 17 rfl
theorem dX10_gives_29 : decode cX10_gives 29 = .ok (.iaload, 1) := decAll_at aX10_gives_0 18 rfl
theorem dX10_gives_30 : decode cX10_gives 30 = .ok (.iconst (-1), 1) := decAll_at aX10_gives_0 19 rfl
theorem dX10_gives_31 : decode cX10_gives 31 = .ok (.if_icmp .ne 91, 3) := decAll_at aX10_gives_0 20 rfl
theorem dX10_gives_34 : decode cX10_gives 34 = .ok (.aload_n 0, 1) := decAll_at aX10_gives_0 21 rfl
theorem dX10_gives_35 : decode cX10_gives 35 = .ok (.getfield 393, 3) := decAll_at aX10_gives_0 22 rfl
theorem dX10_gives_38 : decode cX10_gives 38 = .ok (.iload 4, 2) := decAll_at aX10_gives_0 23 rfl
theorem dX10_gives_40 : decode cX10_gives 40 = .ok (.invokestatic 399, 3) := decAll_at aX10_gives_0 24 rfl
theorem dX10_gives_43 : decode cX10_gives 43 = .ok (.ifCond .eq 73, 3) := decAll_at aX10_gives_0 25 rfl
theorem dX10_gives_46 : decode cX10_gives 46 = .ok (.aload_n 0, 1) := decAll_at aX10_gives_0 26 rfl
theorem dX10_gives_47 : decode cX10_gives 47 = .ok (.getfield 97, 3) := decAll_at aX10_gives_0 27 rfl
theorem dX10_gives_50 : decode cX10_gives 50 = .ok (.iload 4, 2) := decAll_at aX10_gives_0 28 rfl
theorem dX10_gives_52 : decode cX10_gives 52 = .ok (.iaload, 1) := decAll_at aX10_gives_0 29 rfl
theorem dX10_gives_53 : decode cX10_gives 53 = .ok (.aload_n 0, 1) := decAll_at aX10_gives_0 30 rfl
theorem dX10_gives_54 : decode cX10_gives 54 = .ok (.getfield 91, 3) := decAll_at aX10_gives_0 31 rfl
theorem dX10_gives_57 : decode cX10_gives 57 = .ok (.iload_n 3, 1) := decAll_at aX10_gives_0 32 rfl
theorem dX10_gives_58 : decode cX10_gives 58 = .ok (.iaload, 1) := decAll_at aX10_gives_0 33 rfl
theorem dX10_gives_59 : decode cX10_gives 59 = .ok (.if_icmp .lt 57, 3) := decAll_at aX10_gives_0 34 rfl
theorem dX10_gives_62 : decode cX10_gives 62 = .ok (.aload_n 0, 1) := decAll_at aX10_gives_0 35 rfl
theorem dX10_gives_63 : decode cX10_gives 63 = .ok (.getfield 97, 3) := decAll_at aX10_gives_0 36 rfl
theorem dX10_gives_66 : decode cX10_gives 66 = .ok (.iload 4, 2) := decAll_at aX10_gives_0 37 rfl
theorem dX10_gives_68 : decode cX10_gives 68 = .ok (.dup2, 1) := decAll_at aX10_gives_0 38 rfl
theorem dX10_gives_69 : decode cX10_gives 69 = .ok (.iaload, 1) := decAll_at aX10_gives_0 39 rfl
theorem dX10_gives_70 : decode cX10_gives 70 = .ok (.aload_n 0, 1) := decAll_at aX10_gives_0 40 rfl
theorem dX10_gives_71 : decode cX10_gives 71 = .ok (.getfield 91, 3) := decAll_at aX10_gives_0 41 rfl
theorem dX10_gives_74 : decode cX10_gives 74 = .ok (.iload_n 3, 1) := decAll_at aX10_gives_0 42 rfl
theorem dX10_gives_75 : decode cX10_gives 75 = .ok (.iaload, 1) := decAll_at aX10_gives_0 43 rfl
theorem dX10_gives_76 : decode cX10_gives 76 = .ok (.isub, 1) := decAll_at aX10_gives_0 44 rfl
theorem dX10_gives_77 : decode cX10_gives 77 = .ok (.iastore, 1) := decAll_at aX10_gives_0 45 rfl
theorem dX10_gives_78 : decode cX10_gives 78 = .ok (.aload_n 0, 1) := decAll_at aX10_gives_0 46 rfl
theorem dX10_gives_79 : decode cX10_gives 79 = .ok (.getfield 100, 3) := decAll_at aX10_gives_0 47 rfl
theorem dX10_gives_82 : decode cX10_gives 82 = .ok (.iload_n 3, 1) := decAll_at aX10_gives_0 48 rfl
theorem dX10_gives_83 : decode cX10_gives 83 = .ok (.iload 4, 2) := decAll_at aX10_gives_0 49 rfl
theorem dX10_gives_85 : decode cX10_gives 85 = .ok (.iastore, 1) := decAll_at aX10_gives_0 50 rfl
theorem dX10_gives_86 : decode cX10_gives 86 = .ok (.aload_n 0, 1) := decAll_at aX10_gives_0 51 rfl
theorem dX10_gives_87 : decode cX10_gives 87 = .ok (.invokevirtual 405, 3) := decAll_at aX10_gives_0 52 rfl
theorem dX10_gives_90 : decode cX10_gives 90 = .ok (.ifCond .ne 26, 3) := decAll_at aX10_gives_0 53 rfl
theorem dX10_gives_93 : decode cX10_gives 93 = .ok (.aload_n 0, 1) := decAll_at aX10_gives_0 54 rfl
theorem dX10_gives_94 : decode cX10_gives 94 = .ok (.getfield 100, 3) := decAll_at aX10_gives_0 55 rfl
theorem dX10_gives_97 : decode cX10_gives 97 = .ok (.iload_n 3, 1) := decAll_at aX10_gives_0 56 rfl
theorem dX10_gives_98 : decode cX10_gives 98 = .ok (.iconst (-1), 1) := decAll_at aX10_gives_0 57 rfl
theorem dX10_gives_99 : decode cX10_gives 99 = .ok (.iastore, 1) := decAll_at aX10_gives_0 58 rfl
theorem dX10_gives_100 : decode cX10_gives 100 = .ok (.aload_n 0, 1) := decAll_at aX10_gives_0 59 rfl
theorem dX10_gives_101 : decode cX10_gives 101 = .ok (.getfield 97, 3) := decAll_at aX10_gives_0 60 rfl
theorem dX10_gives_104 : decode cX10_gives 104 = .ok (.iload 4, 2) := decAll_at aX10_gives_0 61 rfl
theorem dX10_gives_106 : decode cX10_gives 106 = .ok (.dup2, 1) := decAll_at aX10_gives_0 62 rfl
theorem dX10_gives_107 : decode cX10_gives 107 = .ok (.iaload, 1) := decAll_at aX10_gives_0 63 rfl
def laX10_gives_1 : List (Nat × Instr × Nat) := [(108, .aload_n 0, 1), (109, .getfield 91, 3), (112, .iload_n 3, 1), (113, .iaload, 1), (114, .iadd, 1), (115, .iastore, 1), (116, .iinc 4 1, 3), (119, .goto (-95), 3), (122, .iinc 3 1, 3), (125, .goto (-116), 3), (128, .return_, 1)]
theorem aX10_gives_1 : decAll cX10_gives laX10_gives_1 = true := by decide +kernel
theorem dX10_gives_108 : decode cX10_gives 108 = .ok (.aload_n 0, 1) := decAll_at aX10_gives_1 0 rfl
theorem dX10_gives_109 : decode cX10_gives 109 = .ok (.getfield 91, 3) := decAll_at aX10_gives_1 1 rfl
theorem dX10_gives_112 : decode cX10_gives 112 = .ok (.iload_n 3, 1) := decAll_at aX10_gives_1 2 rfl
theorem dX10_gives_113 : decode cX10_gives 113 = .ok (.iaload, 1) := decAll_at aX10_gives_1 3 rfl
theorem dX10_gives_114 : decode cX10_gives 114 = .ok (.iadd, 1) := decAll_at aX10_gives_1 4 rfl
theorem dX10_gives_115 : decode cX10_gives 115 = .ok (.iastore, 1) := decAll_at aX10_gives_1 5 rfl
theorem dX10_gives_116 : decode cX10_gives 116 = .ok (.iinc 4 1, 3) := decAll_at aX10_gives_1 6 rfl
theorem dX10_gives_119 : decode cX10_gives 119 = .ok (.goto (-95), 3) := decAll_at aX10_gives_1 7 rfl
theorem dX10_gives_122 : decode cX10_gives 122 = .ok (.iinc 3 1, 3) := decAll_at aX10_gives_1 8 rfl
theorem dX10_gives_125 : decode cX10_gives 125 = .ok (.goto (-116), 3) := decAll_at aX10_gives_1 9 rfl
theorem dX10_gives_128 : decode cX10_gives 128 = .ok (.return_, 1) := decAll_at aX10_gives_1 10 rfl
def laX10_everybody_0 : List (Nat × Instr × Nat) := [(0, .iconst 1, 1), (1, .aload_n 0, 1), (2, .getfield 150, 3), (5, .ishl, 1), (6, .iconst 1, 1), (7, .isub, 1), (8, .ireturn, 1)]
theorem aX10_everybody_0 : decAll cX10_everybody laX10_everybody_0 = true := by decide +kernel
theorem dX10_everybody_0 : decode cX10_everybody 0 = .ok (.iconst 1, 1) := decAll_at aX10_everybody_0 0 rfl
theorem dX10_everybody_1 : decode cX10_everybody 1 = .ok (.aload_n 0, 1) := decAll_at aX10_everybody_0 1 rfl
theorem dX10_everybody_2 : decode cX10_everybody 2 = .ok (.getfield 150, 3) := decAll_at aX10_everybody_0 2 rfl
theorem dX10_everybody_5 : decode cX10_everybody 5 = .ok (.ishl, 1) := decAll_at aX10_everybody_0 3 rfl
theorem dX10_everybody_6 : decode cX10_everybody 6 = .ok (.iconst 1, 1) := decAll_at aX10_everybody_0 4 rfl
theorem dX10_everybody_7 : decode cX10_everybody 7 = .ok (.isub, 1) := decAll_at aX10_everybody_0 5 rfl
theorem dX10_everybody_8 : decode cX10_everybody 8 = .ok (.ireturn, 1) := decAll_at aX10_everybody_0 6 rfl
def laX10_whole_0 : List (Nat × Instr × Nat) := [(0, .aload_n 0, 1), (1, .iload_n 1, 1), (2, .iload_n 2, 1), (3, .invokevirtual 378, 3), (6, .ifCond .eq 22, 3), (9, .iload_n 3, 1), (10, .iconst (-1), 1), (11, .if_icmp .eq 20, 3), (14, .iload_n 3, 1), (15, .bipush 9, 2), (17, .if_icmp .eq 14, 3), (20, .aload_n 0, 1), (21, .iload_n 3, 1), (22, .invokevirtual 411, 3), (25, .ifCond .ne 6, 3), (28, .bipush (-3), 2), (30, .ireturn, 1), (31, .aload_n 0, 1), (32, .iload_n 1, 1), (33, .iload_n 2, 1), (34, .invokevirtual 384, 3), (37, .aload_n 0, 1), (38, .iload_n 1, 1), (39, .aload_n 0, 1), (40, .invokevirtual 414, 3), (43, .iconst 1, 1), (44, .invokevirtual 417, 3), (47, .aload_n 0, 1), (48, .iconst (-1), 1), (49, .invokevirtual 421, 3), (52, .istore 4, 2), (54, .iload_n 3, 1), (55, .iconst (-1), 1), (56, .if_icmp .ne 6, 3), (59, .iload 4, 2), (61, .ireturn, 1), (62, .iload 4, 2), (64, .ifCond .ne 6, 3), (67, .bipush (-2), 2), (69, .ireturn, 1), (70, .iload_n 3, 1), (71, .bipush 9, 2), (73, .if_icmp .ne 11, 3), (76, .aload_n 0, 1), (77, .iload_n 1, 1), (78, .iload 4, 2), (80, .invokevirtual 390, 3), (83, .ireturn, 1), (84, .aload_n 0, 1), (85, .iload 4, 2), (87, .invokevirtual 424, 3), (90, .aload_n 0, 1), (91, .getfield 100, 3), (94, .iload_n 3, 1), (95, .iaload, 1), (96, .ireturn, 1)]
theorem aX10_whole_0 : decAll cX10_whole laX10_whole_0 = true := by decide +kernel
theorem dX10_whole_0 : decode cX10_whole 0 = .ok (.aload_n 0, 1) := decAll_at aX10_whole_0 0 rfl
theorem dX10_whole_1 : decode cX10_whole 1 = .ok (.iload_n 1, 1) := decAll_at aX10_whole_0 1 rfl
theorem dX10_whole_2 : decode cX10_whole 2 = .ok (.iload_n 2, 1) := decAll_at aX10_whole_0 2 rfl
theorem dX10_whole_3 : decode cX10_whole 3 = .ok (.invokevirtual 378, 3) := decAll_at aX10_whole_0 3 rfl
theorem dX10_whole_6 : decode cX10_whole 6 = .ok (.ifCond .eq 22, 3) := decAll_at aX10_whole_0 4 rfl
theorem dX10_whole_9 : decode cX10_whole 9 = .ok (.iload_n 3, 1) := decAll_at aX10_whole_0 5 rfl
theorem dX10_whole_10 : decode cX10_whole 10 = .ok (.iconst (-1), 1) := decAll_at aX10_whole_0 6 rfl
theorem dX10_whole_11 : decode cX10_whole 11 = .ok (.if_icmp .eq 20, 3) := decAll_at aX10_whole_0 7 rfl
theorem dX10_whole_14 : decode cX10_whole 14 = .ok (.iload_n 3, 1) := decAll_at aX10_whole_0 8 rfl
theorem dX10_whole_15 : decode cX10_whole 15 = .ok (.bipush 9, 2) := decAll_at aX10_whole_0 9 rfl
theorem dX10_whole_17 : decode cX10_whole 17 = .ok (.if_icmp .eq 14, 3) := decAll_at aX10_whole_0 10 rfl
theorem dX10_whole_20 : decode cX10_whole 20 = .ok (.aload_n 0, 1) := decAll_at aX10_whole_0 11 rfl
theorem dX10_whole_21 : decode cX10_whole 21 = .ok (.iload_n 3, 1) := decAll_at aX10_whole_0 12 rfl
theorem dX10_whole_22 : decode cX10_whole 22 = .ok (.invokevirtual 411, 3) := decAll_at aX10_whole_0 13 rfl
theorem dX10_whole_25 : decode cX10_whole 25 = .ok (.ifCond .ne 6, 3) := decAll_at aX10_whole_0 14 rfl
theorem dX10_whole_28 : decode cX10_whole 28 = .ok (.bipush (-3), 2) := decAll_at aX10_whole_0 15 rfl
theorem dX10_whole_30 : decode cX10_whole 30 = .ok (.ireturn, 1) := decAll_at aX10_whole_0 16 rfl
theorem dX10_whole_31 : decode cX10_whole 31 = .ok (.aload_n 0, 1) := decAll_at aX10_whole_0 17 rfl
theorem dX10_whole_32 : decode cX10_whole 32 = .ok (.iload_n 1, 1) := decAll_at aX10_whole_0 18 rfl
theorem dX10_whole_33 : decode cX10_whole 33 = .ok (.iload_n 2, 1) := decAll_at aX10_whole_0 19 rfl
theorem dX10_whole_34 : decode cX10_whole 34 = .ok (.invokevirtual 384, 3) := decAll_at aX10_whole_0 20 rfl
theorem dX10_whole_37 : decode cX10_whole 37 = .ok (.aload_n 0, 1) := decAll_at aX10_whole_0 21 rfl
theorem dX10_whole_38 : decode cX10_whole 38 = .ok (.iload_n 1, 1) := decAll_at aX10_whole_0 22 rfl
theorem dX10_whole_39 : decode cX10_whole 39 = .ok (.aload_n 0, 1) := decAll_at aX10_whole_0 23 rfl
theorem dX10_whole_40 : decode cX10_whole 40 = .ok (.invokevirtual 414, 3) := decAll_at aX10_whole_0 24 rfl
theorem dX10_whole_43 : decode cX10_whole 43 = .ok (.iconst 1, 1) := decAll_at aX10_whole_0 25 rfl
theorem dX10_whole_44 : decode cX10_whole 44 = .ok (.invokevirtual 417, 3) := decAll_at aX10_whole_0 26 rfl
theorem dX10_whole_47 : decode cX10_whole 47 = .ok (.aload_n 0, 1) := decAll_at aX10_whole_0 27 rfl
theorem dX10_whole_48 : decode cX10_whole 48 = .ok (.iconst (-1), 1) := decAll_at aX10_whole_0 28 rfl
theorem dX10_whole_49 : decode cX10_whole 49 = .ok (.invokevirtual 421, 3) := decAll_at aX10_whole_0 29 rfl
theorem dX10_whole_52 : decode cX10_whole 52 = .ok (.istore 4, 2) := decAll_at aX10_whole_0 30 rfl
theorem dX10_whole_54 : decode cX10_whole 54 = .ok (.iload_n 3, 1) := decAll_at aX10_whole_0 31 rfl
theorem dX10_whole_55 : decode cX10_whole 55 = .ok (.iconst (-1), 1) := decAll_at aX10_whole_0 32 rfl
theorem dX10_whole_56 : decode cX10_whole 56 = .ok (.if_icmp .ne 6, 3) := decAll_at aX10_whole_0 33 rfl
theorem dX10_whole_59 : decode cX10_whole 59 = .ok (.iload 4, 2) := decAll_at aX10_whole_0 34 rfl
theorem dX10_whole_61 : decode cX10_whole 61 = .ok (.ireturn, 1) := decAll_at aX10_whole_0 35 rfl
theorem dX10_whole_62 : decode cX10_whole 62 = .ok (.iload 4, 2) := decAll_at aX10_whole_0 36 rfl
theorem dX10_whole_64 : decode cX10_whole 64 = .ok (.ifCond .ne 6, 3) := decAll_at aX10_whole_0 37 rfl
theorem dX10_whole_67 : decode cX10_whole 67 = .ok (.bipush (-2), 2) := decAll_at aX10_whole_0 38 rfl
theorem dX10_whole_69 : decode cX10_whole 69 = .ok (.ireturn, 1) := decAll_at aX10_whole_0 39 rfl
theorem dX10_whole_70 : decode cX10_whole 70 = .ok (.iload_n 3, 1) := decAll_at aX10_whole_0 40 rfl
theorem dX10_whole_71 : decode cX10_whole 71 = .ok (.bipush 9, 2) := decAll_at aX10_whole_0 41 rfl
theorem dX10_whole_73 : decode cX10_whole 73 = .ok (.if_icmp .ne 11, 3) := decAll_at aX10_whole_0 42 rfl
theorem dX10_whole_76 : decode cX10_whole 76 = .ok (.aload_n 0, 1) := decAll_at aX10_whole_0 43 rfl
theorem dX10_whole_77 : decode cX10_whole 77 = .ok (.iload_n 1, 1) := decAll_at aX10_whole_0 44 rfl
theorem dX10_whole_78 : decode cX10_whole 78 = .ok (.iload 4, 2) := decAll_at aX10_whole_0 45 rfl
theorem dX10_whole_80 : decode cX10_whole 80 = .ok (.invokevirtual 390, 3) := decAll_at aX10_whole_0 46 rfl
theorem dX10_whole_83 : decode cX10_whole 83 = .ok (.ireturn, 1) := decAll_at aX10_whole_0 47 rfl
theorem dX10_whole_84 : decode cX10_whole 84 = .ok (.aload_n 0, 1) := decAll_at aX10_whole_0 48 rfl
theorem dX10_whole_85 : decode cX10_whole 85 = .ok (.iload 4, 2) := decAll_at aX10_whole_0 49 rfl
theorem dX10_whole_87 : decode cX10_whole 87 = .ok (.invokevirtual 424, 3) := decAll_at aX10_whole_0 50 rfl
theorem dX10_whole_90 : decode cX10_whole 90 = .ok (.aload_n 0, 1) := decAll_at aX10_whole_0 51 rfl
theorem dX10_whole_91 : decode cX10_whole 91 = .ok (.getfield 100, 3) := decAll_at aX10_whole_0 52 rfl
theorem dX10_whole_94 : decode cX10_whole 94 = .ok (.iload_n 3, 1) := decAll_at aX10_whole_0 53 rfl
theorem dX10_whole_95 : decode cX10_whole 95 = .ok (.iaload, 1) := decAll_at aX10_whole_0 54 rfl
theorem dX10_whole_96 : decode cX10_whole 96 = .ok (.ireturn, 1) := decAll_at aX10_whole_0 55 rfl
def laX10_wont_0 : List (Nat × Instr × Nat) := [(0, .aload_n 0, 1), (1, .iload_n 1, 1), (2, .iload_n 2, 1), (3, .invokevirtual 378, 3), (6, .ifCond .ne 7, 3), (9, .ldc_w 427, 3), (12, .ireturn, 1), (13, .aload_n 0, 1), (14, .iload_n 1, 1), (15, .iload_n 2, 1), (16, .invokevirtual 384, 3), (19, .aload_n 0, 1), (20, .iload_n 1, 1), (21, .aload_n 0, 1), (22, .invokevirtual 414, 3), (25, .iconst 1, 1), (26, .invokevirtual 417, 3), (29, .aload_n 0, 1), (30, .iconst (-1), 1), (31, .invokevirtual 421, 3), (34, .istore_n 3, 1), (35, .aload_n 0, 1), (36, .iload_n 1, 1), (37, .aload_n 0, 1), (38, .invokevirtual 414, 3), (41, .iconst 0, 1), (42, .invokevirtual 417, 3), (45, .aload_n 0, 1), (46, .iconst (-1), 1), (47, .invokevirtual 421, 3), (50, .istore 4, 2), (52, .iload_n 3, 1), (53, .ifCond .eq 8, 3), (56, .iload 4, 2), (58, .ifCond .ne 9, 3), (61, .ldc_w 427, 3), (64, .goto 17, 3), (67, .aload_n 0, 1), (68, .iload_n 1, 1), (69, .iload_n 3, 1), (70, .invokevirtual 390, 3), (73, .aload_n 0, 1), (74, .iload_n 1, 1), (75, .iload 4, 2), (77, .invokevirtual 390, 3), (80, .isub, 1), (81, .ireturn, 1)]
theorem aX10_wont_0 : decAll cX10_wont laX10_wont_0 = true := by decide +kernel
theorem dX10_wont_0 : decode cX10_wont 0 = .ok (.aload_n 0, 1) := decAll_at aX10_wont_0 0 rfl
theorem dX10_wont_1 : decode cX10_wont 1 = .ok (.iload_n 1, 1) := decAll_at aX10_wont_0 1 rfl
theorem dX10_wont_2 : decode cX10_wont 2 = .ok (.iload_n 2, 1) := decAll_at aX10_wont_0 2 rfl
theorem dX10_wont_3 : decode cX10_wont 3 = .ok (.invokevirtual 378, 3) := decAll_at aX10_wont_0 3 rfl
theorem dX10_wont_6 : decode cX10_wont 6 = .ok (.ifCond .ne 7, 3) := decAll_at aX10_wont_0 4 rfl
theorem dX10_wont_9 : decode cX10_wont 9 = .ok (.ldc_w 427, 3) := decAll_at aX10_wont_0 5 rfl
theorem dX10_wont_12 : decode cX10_wont 12 = .ok (.ireturn, 1) := decAll_at aX10_wont_0 6 rfl
theorem dX10_wont_13 : decode cX10_wont 13 = .ok (.aload_n 0, 1) := decAll_at aX10_wont_0 7 rfl
theorem dX10_wont_14 : decode cX10_wont 14 = .ok (.iload_n 1, 1) := decAll_at aX10_wont_0 8 rfl
theorem dX10_wont_15 : decode cX10_wont 15 = .ok (.iload_n 2, 1) := decAll_at aX10_wont_0 9 rfl
theorem dX10_wont_16 : decode cX10_wont 16 = .ok (.invokevirtual 384, 3) := decAll_at aX10_wont_0 10 rfl
theorem dX10_wont_19 : decode cX10_wont 19 = .ok (.aload_n 0, 1) := decAll_at aX10_wont_0 11 rfl
theorem dX10_wont_20 : decode cX10_wont 20 = .ok (.iload_n 1, 1) := decAll_at aX10_wont_0 12 rfl
theorem dX10_wont_21 : decode cX10_wont 21 = .ok (.aload_n 0, 1) := decAll_at aX10_wont_0 13 rfl
theorem dX10_wont_22 : decode cX10_wont 22 = .ok (.invokevirtual 414, 3) := decAll_at aX10_wont_0 14 rfl
theorem dX10_wont_25 : decode cX10_wont 25 = .ok (.iconst 1, 1) := decAll_at aX10_wont_0 15 rfl
theorem dX10_wont_26 : decode cX10_wont 26 = .ok (.invokevirtual 417, 3) := decAll_at aX10_wont_0 16 rfl
theorem dX10_wont_29 : decode cX10_wont 29 = .ok (.aload_n 0, 1) := decAll_at aX10_wont_0 17 rfl
theorem dX10_wont_30 : decode cX10_wont 30 = .ok (.iconst (-1), 1) := decAll_at aX10_wont_0 18 rfl
theorem dX10_wont_31 : decode cX10_wont 31 = .ok (.invokevirtual 421, 3) := decAll_at aX10_wont_0 19 rfl
theorem dX10_wont_34 : decode cX10_wont 34 = .ok (.istore_n 3, 1) := decAll_at aX10_wont_0 20 rfl
theorem dX10_wont_35 : decode cX10_wont 35 = .ok (.aload_n 0, 1) := decAll_at aX10_wont_0 21 rfl
theorem dX10_wont_36 : decode cX10_wont 36 = .ok (.iload_n 1, 1) := decAll_at aX10_wont_0 22 rfl
theorem dX10_wont_37 : decode cX10_wont 37 = .ok (.aload_n 0, 1) := decAll_at aX10_wont_0 23 rfl
theorem dX10_wont_38 : decode cX10_wont 38 = .ok (.invokevirtual 414, 3) := decAll_at aX10_wont_0 24 rfl
theorem dX10_wont_41 : decode cX10_wont 41 = .ok (.iconst 0, 1) := decAll_at aX10_wont_0 25 rfl
theorem dX10_wont_42 : decode cX10_wont 42 = .ok (.invokevirtual 417, 3) := decAll_at aX10_wont_0 26 rfl
theorem dX10_wont_45 : decode cX10_wont 45 = .ok (.aload_n 0, 1) := decAll_at aX10_wont_0 27 rfl
theorem dX10_wont_46 : decode cX10_wont 46 = .ok (.iconst (-1), 1) := decAll_at aX10_wont_0 28 rfl
theorem dX10_wont_47 : decode cX10_wont 47 = .ok (.invokevirtual 421, 3) := decAll_at aX10_wont_0 29 rfl
theorem dX10_wont_50 : decode cX10_wont 50 = .ok (.istore 4, 2) := decAll_at aX10_wont_0 30 rfl
theorem dX10_wont_52 : decode cX10_wont 52 = .ok (.iload_n 3, 1) := decAll_at aX10_wont_0 31 rfl
theorem dX10_wont_53 : decode cX10_wont 53 = .ok (.ifCond .eq 8, 3) := decAll_at aX10_wont_0 32 rfl
theorem dX10_wont_56 : decode cX10_wont 56 = .ok (.iload 4, 2) := decAll_at aX10_wont_0 33 rfl
theorem dX10_wont_58 : decode cX10_wont 58 = .ok (.ifCond .ne 9, 3) := decAll_at aX10_wont_0 34 rfl
theorem dX10_wont_61 : decode cX10_wont 61 = .ok (.ldc_w 427, 3) := decAll_at aX10_wont_0 35 rfl
theorem dX10_wont_64 : decode cX10_wont 64 = .ok (.goto 17, 3) := decAll_at aX10_wont_0 36 rfl
theorem dX10_wont_67 : decode cX10_wont 67 = .ok (.aload_n 0, 1) := decAll_at aX10_wont_0 37 rfl
theorem dX10_wont_68 : decode cX10_wont 68 = .ok (.iload_n 1, 1) := decAll_at aX10_wont_0 38 rfl
theorem dX10_wont_69 : decode cX10_wont 69 = .ok (.iload_n 3, 1) := decAll_at aX10_wont_0 39 rfl
theorem dX10_wont_70 : decode cX10_wont 70 = .ok (.invokevirtual 390, 3) := decAll_at aX10_wont_0 40 rfl
theorem dX10_wont_73 : decode cX10_wont 73 = .ok (.aload_n 0, 1) := decAll_at aX10_wont_0 41 rfl
theorem dX10_wont_74 : decode cX10_wont 74 = .ok (.iload_n 1, 1) := decAll_at aX10_wont_0 42 rfl
theorem dX10_wont_75 : decode cX10_wont 75 = .ok (.iload 4, 2) := decAll_at aX10_wont_0 43 rfl
theorem dX10_wont_77 : decode cX10_wont 77 = .ok (.invokevirtual 390, 3) := decAll_at aX10_wont_0 44 rfl
theorem dX10_wont_80 : decode cX10_wont 80 = .ok (.isub, 1) := decAll_at aX10_wont_0 45 rfl
theorem dX10_wont_81 : decode cX10_wont 81 = .ok (.ireturn, 1) := decAll_at aX10_wont_0 46 rfl
def laX10_who_0 : List (Nat × Instr × Nat) := [(0, .aload_n 0, 1), (1, .iload_n 1, 1), (2, .iload_n 2, 1), (3, .invokevirtual 378, 3), (6, .ifCond .eq 13, 3), (9, .iload_n 3, 1), (10, .i2l, 1), (11, .lconst 0, 1), (12, .lconst 1, 1), (13, .invokestatic 153, 3), (16, .ifCond .ne 6, 3), (19, .bipush (-2), 2), (21, .ireturn, 1), (22, .aload_n 0, 1), (23, .iload_n 1, 1), (24, .iload_n 2, 1), (25, .invokevirtual 384, 3), (28, .aload_n 0, 1), (29, .iload_n 1, 1), (30, .aload_n 0, 1), (31, .invokevirtual 414, 3), (34, .iconst 1, 1), (35, .invokevirtual 417, 3), (38, .aload_n 0, 1), (39, .iconst (-1), 1), (40, .invokevirtual 421, 3), (43, .istore 4, 2), (45, .iconst (-1), 1), (46, .istore 5, 2), (48, .iconst 0, 1), (49, .istore 6, 2), (51, .iconst 0, 1), (52, .istore 7, 2), (54, .iload 7, 2), (56, .aload_n 0, 1), (57, .getfield 150, 3), (60, .if_icmp .ge 38, 3), (63, .aload_n 0, 1), (64, .iload 7, 2), (66, .invokevirtual 421, 3), (69, .iload 4, 2), (71, .isub, 1), (72, .istore 8, 2), (74, .iload 8, 2), (76, .iload 6, 2), (78, .if_icmp .gt 6, 3), (81, .goto 11, 3), (84, .iload 7, 2), (86, .istore 5, 2), (88, .iload 8, 2), (90, .istore 6, 2), (92, .iinc 7 1, 3), (95, .goto (-41), 3), (98, .iload_n 3, 1), (99, .ifCond .ne 8, 3), (102, .iload 5, 2), (104, .goto 5, 3), (107, .iload 6, 2), (109, .ireturn, 1)]
theorem aX10_who_0 : decAll cX10_who laX10_who_0 = true := by decide +kernel
theorem dX10_who_0 : decode cX10_who 0 = .ok (.aload_n 0, 1) := decAll_at aX10_who_0 0 rfl
theorem dX10_who_1 : decode cX10_who 1 = .ok (.iload_n 1, 1) := decAll_at aX10_who_0 1 rfl
theorem dX10_who_2 : decode cX10_who 2 = .ok (.iload_n 2, 1) := decAll_at aX10_who_0 2 rfl
theorem dX10_who_3 : decode cX10_who 3 = .ok (.invokevirtual 378, 3) := decAll_at aX10_who_0 3 rfl
theorem dX10_who_6 : decode cX10_who 6 = .ok (.ifCond .eq 13, 3) := decAll_at aX10_who_0 4 rfl
theorem dX10_who_9 : decode cX10_who 9 = .ok (.iload_n 3, 1) := decAll_at aX10_who_0 5 rfl
theorem dX10_who_10 : decode cX10_who 10 = .ok (.i2l, 1) := decAll_at aX10_who_0 6 rfl
theorem dX10_who_11 : decode cX10_who 11 = .ok (.lconst 0, 1) := decAll_at aX10_who_0 7 rfl
theorem dX10_who_12 : decode cX10_who 12 = .ok (.lconst 1, 1) := decAll_at aX10_who_0 8 rfl
theorem dX10_who_13 : decode cX10_who 13 = .ok (.invokestatic 153, 3) := decAll_at aX10_who_0 9 rfl
theorem dX10_who_16 : decode cX10_who 16 = .ok (.ifCond .ne 6, 3) := decAll_at aX10_who_0 10 rfl
theorem dX10_who_19 : decode cX10_who 19 = .ok (.bipush (-2), 2) := decAll_at aX10_who_0 11 rfl
theorem dX10_who_21 : decode cX10_who 21 = .ok (.ireturn, 1) := decAll_at aX10_who_0 12 rfl
theorem dX10_who_22 : decode cX10_who 22 = .ok (.aload_n 0, 1) := decAll_at aX10_who_0 13 rfl
theorem dX10_who_23 : decode cX10_who 23 = .ok (.iload_n 1, 1) := decAll_at aX10_who_0 14 rfl
theorem dX10_who_24 : decode cX10_who 24 = .ok (.iload_n 2, 1) := decAll_at aX10_who_0 15 rfl
theorem dX10_who_25 : decode cX10_who 25 = .ok (.invokevirtual 384, 3) := decAll_at aX10_who_0 16 rfl
theorem dX10_who_28 : decode cX10_who 28 = .ok (.aload_n 0, 1) := decAll_at aX10_who_0 17 rfl
theorem dX10_who_29 : decode cX10_who 29 = .ok (.iload_n 1, 1) := decAll_at aX10_who_0 18 rfl
theorem dX10_who_30 : decode cX10_who 30 = .ok (.aload_n 0, 1) := decAll_at aX10_who_0 19 rfl
theorem dX10_who_31 : decode cX10_who 31 = .ok (.invokevirtual 414, 3) := decAll_at aX10_who_0 20 rfl
theorem dX10_who_34 : decode cX10_who 34 = .ok (.iconst 1, 1) := decAll_at aX10_who_0 21 rfl
theorem dX10_who_35 : decode cX10_who 35 = .ok (.invokevirtual 417, 3) := decAll_at aX10_who_0 22 rfl
theorem dX10_who_38 : decode cX10_who 38 = .ok (.aload_n 0, 1) := decAll_at aX10_who_0 23 rfl
theorem dX10_who_39 : decode cX10_who 39 = .ok (.iconst (-1), 1) := decAll_at aX10_who_0 24 rfl
theorem dX10_who_40 : decode cX10_who 40 = .ok (.invokevirtual 421, 3) := decAll_at aX10_who_0 25 rfl
theorem dX10_who_43 : decode cX10_who 43 = .ok (.istore 4, 2) := decAll_at aX10_who_0 26 rfl
theorem dX10_who_45 : decode cX10_who 45 = .ok (.iconst (-1), 1) := decAll_at aX10_who_0 27 rfl
theorem dX10_who_46 : decode cX10_who 46 = .ok (.istore 5, 2) := decAll_at aX10_who_0 28 rfl
theorem dX10_who_48 : decode cX10_who 48 = .ok (.iconst 0, 1) := decAll_at aX10_who_0 29 rfl
theorem dX10_who_49 : decode cX10_who 49 = .ok (.istore 6, 2) := decAll_at aX10_who_0 30 rfl
theorem dX10_who_51 : decode cX10_who 51 = .ok (.iconst 0, 1) := decAll_at aX10_who_0 31 rfl
theorem dX10_who_52 : decode cX10_who 52 = .ok (.istore 7, 2) := decAll_at aX10_who_0 32 rfl
theorem dX10_who_54 : decode cX10_who 54 = .ok (.iload 7, 2) := decAll_at aX10_who_0 33 rfl
theorem dX10_who_56 : decode cX10_who 56 = .ok (.aload_n 0, 1) := decAll_at aX10_who_0 34 rfl
theorem dX10_who_57 : decode cX10_who 57 = .ok (.getfield 150, 3) := decAll_at aX10_who_0 35 rfl
theorem dX10_who_60 : decode cX10_who 60 = .ok (.if_icmp .ge 38, 3) := decAll_at aX10_who_0 36 rfl
theorem dX10_who_63 : decode cX10_who 63 = .ok (.aload_n 0, 1) := decAll_at aX10_who_0 37 rfl
theorem dX10_who_64 : decode cX10_who 64 = .ok (.iload 7, 2) := decAll_at aX10_who_0 38 rfl
theorem dX10_who_66 : decode cX10_who 66 = .ok (.invokevirtual 421, 3) := decAll_at aX10_who_0 39 rfl
theorem dX10_who_69 : decode cX10_who 69 = .ok (.iload 4, 2) := decAll_at aX10_who_0 40 rfl
theorem dX10_who_71 : decode cX10_who 71 = .ok (.isub, 1) := decAll_at aX10_who_0 41 rfl
theorem dX10_who_72 : decode cX10_who 72 = .ok (.istore 8, 2) := decAll_at aX10_who_0 42 rfl
theorem dX10_who_74 : decode cX10_who 74 = .ok (.iload 8, 2) := decAll_at aX10_who_0 43 rfl
theorem dX10_who_76 : decode cX10_who 76 = .ok (.iload 6, 2) := decAll_at aX10_who_0 44 rfl
theorem dX10_who_78 : decode cX10_who 78 = .ok (.if_icmp .gt 6, 3) := decAll_at aX10_who_0 45 rfl
theorem dX10_who_81 : decode cX10_who 81 = .ok (.goto 11, 3) := decAll_at aX10_who_0 46 rfl
theorem dX10_who_84 : decode cX10_who 84 = .ok (.iload 7, 2) := decAll_at aX10_who_0 47 rfl
theorem dX10_who_86 : decode cX10_who 86 = .ok (.istore 5, 2) := decAll_at aX10_who_0 48 rfl
theorem dX10_who_88 : decode cX10_who 88 = .ok (.iload 8, 2) := decAll_at aX10_who_0 49 rfl
theorem dX10_who_90 : decode cX10_who 90 = .ok (.istore 6, 2) := decAll_at aX10_who_0 50 rfl
theorem dX10_who_92 : decode cX10_who 92 = .ok (.iinc 7 1, 3) := decAll_at aX10_who_0 51 rfl
theorem dX10_who_95 : decode cX10_who 95 = .ok (.goto (-41), 3) := decAll_at aX10_who_0 52 rfl
theorem dX10_who_98 : decode cX10_who 98 = .ok (.iload_n 3, 1) := decAll_at aX10_who_0 53 rfl
theorem dX10_who_99 : decode cX10_who 99 = .ok (.ifCond .ne 8, 3) := decAll_at aX10_who_0 54 rfl
theorem dX10_who_102 : decode cX10_who 102 = .ok (.iload 5, 2) := decAll_at aX10_who_0 55 rfl
theorem dX10_who_104 : decode cX10_who 104 = .ok (.goto 5, 3) := decAll_at aX10_who_0 56 rfl
theorem dX10_who_107 : decode cX10_who 107 = .ok (.iload 6, 2) := decAll_at aX10_who_0 57 rfl
theorem dX10_who_109 : decode cX10_who 109 = .ok (.ireturn, 1) := decAll_at aX10_who_0 58 rfl
def laX10_pounds_0 : List (Nat × Instr × Nat) := [(0, .aload_n 0, 1), (1, .iload_n 1, 1), (2, .invokevirtual 411, 3), (5, .ifCond .eq 12, 3), (8, .aload_n 0, 1), (9, .iload_n 2, 1), (10, .iload_n 3, 1), (11, .invokevirtual 378, 3), (14, .ifCond .ne 5, 3), (17, .iconst (-1), 1), (18, .ireturn, 1), (19, .aload_n 0, 1), (20, .iload_n 2, 1), (21, .iload_n 3, 1), (22, .invokevirtual 384, 3), (25, .aload_n 0, 1), (26, .iload_n 2, 1), (27, .aload_n 0, 1), (28, .invokevirtual 414, 3), (31, .iconst 1, 1), (32, .invokevirtual 417, 3), (35, .aload_n 0, 1), (36, .iconst (-1), 1), (37, .invokevirtual 421, 3), (40, .istore 4, 2), (42, .iload 4, 2), (44, .bipush 60, 2), (46, .if_icmp .ne 6, 3), (49, .bipush (-2), 2), (51, .ireturn, 1), (52, .aload_n 0, 1), (53, .getfield 91, 3), (56, .iload_n 1, 1), (57, .iaload, 1), (58, .istore 5, 2), (60, .iconst 1, 1), (61, .istore 6, 2), (63, .iload 6, 2), (65, .iload 5, 2), (67, .if_icmp .gt 35, 3), (70, .aload_n 0, 1), (71, .getfield 91, 3), (74, .iload_n 1, 1), (75, .iload 5, 2), (77, .iload 6, 2), (79, .isub, 1), (80, .iastore, 1), (81, .aload_n 0, 1), (82, .iload 4, 2), (84, .iconst 1, 1), (85, .iadd, 1), (86, .iconst (-1), 1), (87, .invokevirtual 408, 3), (90, .ifCond .eq 6, 3), (93, .iload 6, 2), (95, .ireturn, 1), (96, .iinc 6 1, 3), (99, .goto (-36), 3), (102, .bipush (-2), 2), (104, .ireturn, 1)]
theorem aX10_pounds_0 : decAll cX10_pounds laX10_pounds_0 = true := by decide +kernel
theorem dX10_pounds_0 : decode cX10_pounds 0 = .ok (.aload_n 0, 1) := decAll_at aX10_pounds_0 0 rfl
theorem dX10_pounds_1 : decode cX10_pounds 1 = .ok (.iload_n 1, 1) := decAll_at aX10_pounds_0 1 rfl
theorem dX10_pounds_2 : decode cX10_pounds 2 = .ok (.invokevirtual 411, 3) := decAll_at aX10_pounds_0 2 rfl
theorem dX10_pounds_5 : decode cX10_pounds 5 = .ok (.ifCond .eq 12, 3) := decAll_at aX10_pounds_0 3 rfl
theorem dX10_pounds_8 : decode cX10_pounds 8 = .ok (.aload_n 0, 1) := decAll_at aX10_pounds_0 4 rfl
theorem dX10_pounds_9 : decode cX10_pounds 9 = .ok (.iload_n 2, 1) := decAll_at aX10_pounds_0 5 rfl
theorem dX10_pounds_10 : decode cX10_pounds 10 = .ok (.iload_n 3, 1) := decAll_at aX10_pounds_0 6 rfl
theorem dX10_pounds_11 : decode cX10_pounds 11 = .ok (.invokevirtual 378, 3) := decAll_at aX10_pounds_0 7 rfl
theorem dX10_pounds_14 : decode cX10_pounds 14 = .ok (.ifCond .ne 5, 3) := decAll_at aX10_pounds_0 8 rfl
theorem dX10_pounds_17 : decode cX10_pounds 17 = .ok (.iconst (-1), 1) := decAll_at aX10_pounds_0 9 rfl
theorem dX10_pounds_18 : decode cX10_pounds 18 = .ok (.ireturn, 1) := decAll_at aX10_pounds_0 10 rfl
theorem dX10_pounds_19 : decode cX10_pounds 19 = .ok (.aload_n 0, 1) := decAll_at aX10_pounds_0 11 rfl
theorem dX10_pounds_20 : decode cX10_pounds 20 = .ok (.iload_n 2, 1) := decAll_at aX10_pounds_0 12 rfl
theorem dX10_pounds_21 : decode cX10_pounds 21 = .ok (.iload_n 3, 1) := decAll_at aX10_pounds_0 13 rfl
theorem dX10_pounds_22 : decode cX10_pounds 22 = .ok (.invokevirtual 384, 3) := decAll_at aX10_pounds_0 14 rfl
theorem dX10_pounds_25 : decode cX10_pounds 25 = .ok (.aload_n 0, 1) := decAll_at aX10_pounds_0 15 rfl
theorem dX10_pounds_26 : decode cX10_pounds 26 = .ok (.iload_n 2, 1) := decAll_at aX10_pounds_0 16 rfl
theorem dX10_pounds_27 : decode cX10_pounds 27 = .ok (.aload_n 0, 1) := decAll_at aX10_pounds_0 17 rfl
theorem dX10_pounds_28 : decode cX10_pounds 28 = .ok (.invokevirtual 414, 3) := decAll_at aX10_pounds_0 18 rfl
theorem dX10_pounds_31 : decode cX10_pounds 31 = .ok (.iconst 1, 1) := decAll_at aX10_pounds_0 19 rfl
theorem dX10_pounds_32 : decode cX10_pounds 32 = .ok (.invokevirtual 417, 3) := decAll_at aX10_pounds_0 20 rfl
theorem dX10_pounds_35 : decode cX10_pounds 35 = .ok (.aload_n 0, 1) := decAll_at aX10_pounds_0 21 rfl
theorem dX10_pounds_36 : decode cX10_pounds 36 = .ok (.iconst (-1), 1) := decAll_at aX10_pounds_0 22 rfl
theorem dX10_pounds_37 : decode cX10_pounds 37 = .ok (.invokevirtual 421, 3) := decAll_at aX10_pounds_0 23 rfl
theorem dX10_pounds_40 : decode cX10_pounds 40 = .ok (.istore 4, 2) := decAll_at aX10_pounds_0 24 rfl
theorem dX10_pounds_42 : decode cX10_pounds 42 = .ok (.iload 4, 2) := decAll_at aX10_pounds_0 25 rfl
theorem dX10_pounds_44 : decode cX10_pounds 44 = .ok (.bipush 60, 2) := decAll_at aX10_pounds_0 26 rfl
theorem dX10_pounds_46 : decode cX10_pounds 46 = .ok (.if_icmp .ne 6, 3) := decAll_at aX10_pounds_0 27 rfl
theorem dX10_pounds_49 : decode cX10_pounds 49 = .ok (.bipush (-2), 2) := decAll_at aX10_pounds_0 28 rfl
theorem dX10_pounds_51 : decode cX10_pounds 51 = .ok (.ireturn, 1) := decAll_at aX10_pounds_0 29 rfl
theorem dX10_pounds_52 : decode cX10_pounds 52 = .ok (.aload_n 0, 1) := decAll_at aX10_pounds_0 30 rfl
theorem dX10_pounds_53 : decode cX10_pounds 53 = .ok (.getfield 91, 3) := decAll_at aX10_pounds_0 31 rfl
theorem dX10_pounds_56 : decode cX10_pounds 56 = .ok (.iload_n 1, 1) := decAll_at aX10_pounds_0 32 rfl
theorem dX10_pounds_57 : decode cX10_pounds 57 = .ok (.iaload, 1) := decAll_at aX10_pounds_0 33 rfl
theorem dX10_pounds_58 : decode cX10_pounds 58 = .ok (.istore 5, 2) := decAll_at aX10_pounds_0 34 rfl
theorem dX10_pounds_60 : decode cX10_pounds 60 = .ok (.iconst 1, 1) := decAll_at aX10_pounds_0 35 rfl
theorem dX10_pounds_61 : decode cX10_pounds 61 = .ok (.istore 6, 2) := decAll_at aX10_pounds_0 36 rfl
theorem dX10_pounds_63 : decode cX10_pounds 63 = .ok (.iload 6, 2) := decAll_at aX10_pounds_0 37 rfl
theorem dX10_pounds_65 : decode cX10_pounds 65 = .ok (.iload 5, 2) := decAll_at aX10_pounds_0 38 rfl
theorem dX10_pounds_67 : decode cX10_pounds 67 = .ok (.if_icmp .gt 35, 3) := decAll_at aX10_pounds_0 39 rfl
theorem dX10_pounds_70 : decode cX10_pounds 70 = .ok (.aload_n 0, 1) := decAll_at aX10_pounds_0 40 rfl
theorem dX10_pounds_71 : decode cX10_pounds 71 = .ok (.getfield 91, 3) := decAll_at aX10_pounds_0 41 rfl
theorem dX10_pounds_74 : decode cX10_pounds 74 = .ok (.iload_n 1, 1) := decAll_at aX10_pounds_0 42 rfl
theorem dX10_pounds_75 : decode cX10_pounds 75 = .ok (.iload 5, 2) := decAll_at aX10_pounds_0 43 rfl
theorem dX10_pounds_77 : decode cX10_pounds 77 = .ok (.iload 6, 2) := decAll_at aX10_pounds_0 44 rfl
theorem dX10_pounds_79 : decode cX10_pounds 79 = .ok (.isub, 1) := decAll_at aX10_pounds_0 45 rfl
theorem dX10_pounds_80 : decode cX10_pounds 80 = .ok (.iastore, 1) := decAll_at aX10_pounds_0 46 rfl
theorem dX10_pounds_81 : decode cX10_pounds 81 = .ok (.aload_n 0, 1) := decAll_at aX10_pounds_0 47 rfl
theorem dX10_pounds_82 : decode cX10_pounds 82 = .ok (.iload 4, 2) := decAll_at aX10_pounds_0 48 rfl
theorem dX10_pounds_84 : decode cX10_pounds 84 = .ok (.iconst 1, 1) := decAll_at aX10_pounds_0 49 rfl
theorem dX10_pounds_85 : decode cX10_pounds 85 = .ok (.iadd, 1) := decAll_at aX10_pounds_0 50 rfl
theorem dX10_pounds_86 : decode cX10_pounds 86 = .ok (.iconst (-1), 1) := decAll_at aX10_pounds_0 51 rfl
theorem dX10_pounds_87 : decode cX10_pounds 87 = .ok (.invokevirtual 408, 3) := decAll_at aX10_pounds_0 52 rfl
theorem dX10_pounds_90 : decode cX10_pounds 90 = .ok (.ifCond .eq 6, 3) := decAll_at aX10_pounds_0 53 rfl
theorem dX10_pounds_93 : decode cX10_pounds 93 = .ok (.iload 6, 2) := decAll_at aX10_pounds_0 54 rfl
theorem dX10_pounds_95 : decode cX10_pounds 95 = .ok (.ireturn, 1) := decAll_at aX10_pounds_0 55 rfl
theorem dX10_pounds_96 : decode cX10_pounds 96 = .ok (.iinc 6 1, 3) := decAll_at aX10_pounds_0 56 rfl
theorem dX10_pounds_99 : decode cX10_pounds 99 = .ok (.goto (-36), 3) := decAll_at aX10_pounds_0 57 rfl
theorem dX10_pounds_102 : decode cX10_pounds 102 = .ok (.bipush (-2), 2) := decAll_at aX10_pounds_0 58 rfl
theorem dX10_pounds_104 : decode cX10_pounds 104 = .ok (.ireturn, 1) := decAll_at aX10_pounds_0 59 rfl
def laX10_emptyPace_0 : List (Nat × Instr × Nat) := [(0, .bipush 60, 2), (2, .istore_n 2, 1), (3, .iconst 0, 1), (4, .istore_n 3, 1), (5, .iload_n 3, 1), (6, .aload_n 0, 1), (7, .getfield 150, 3), (10, .if_icmp .ge 46, 3), (13, .iload_n 1, 1), (14, .iload_n 3, 1), (15, .invokestatic 399, 3), (18, .ifCond .eq 30, 3), (21, .aload_n 0, 1), (22, .getfield 88, 3), (25, .sipush 401, 3), (28, .iload_n 3, 1), (29, .imul, 1), (30, .iaload, 1), (31, .iload_n 2, 1), (32, .if_icmp .ge 16, 3), (35, .aload_n 0, 1), (36, .getfield 88, 3), (39, .sipush 401, 3), (42, .iload_n 3, 1), (43, .imul, 1), (44, .iaload, 1), (45, .goto 4, 3), (48, .iload_n 2, 1), (49, .istore_n 2, 1), (50, .iinc 3 1, 3), (53, .goto (-48), 3), (56, .iload_n 2, 1), (57, .ireturn, 1)]
theorem aX10_emptyPace_0 : decAll cX10_emptyPace laX10_emptyPace_0 = true := by decide +kernel
theorem dX10_emptyPace_0 : decode cX10_emptyPace 0 = .ok (.bipush 60, 2) := decAll_at aX10_emptyPace_0 0 rfl
theorem dX10_emptyPace_2 : decode cX10_emptyPace 2 = .ok (.istore_n 2, 1) := decAll_at aX10_emptyPace_0 1 rfl
theorem dX10_emptyPace_3 : decode cX10_emptyPace 3 = .ok (.iconst 0, 1) := decAll_at aX10_emptyPace_0 2 rfl
theorem dX10_emptyPace_4 : decode cX10_emptyPace 4 = .ok (.istore_n 3, 1) := decAll_at aX10_emptyPace_0 3 rfl
theorem dX10_emptyPace_5 : decode cX10_emptyPace 5 = .ok (.iload_n 3, 1) := decAll_at aX10_emptyPace_0 4 rfl
theorem dX10_emptyPace_6 : decode cX10_emptyPace 6 = .ok (.aload_n 0, 1) := decAll_at aX10_emptyPace_0 5 rfl
theorem dX10_emptyPace_7 : decode cX10_emptyPace 7 = .ok (.getfield 150, 3) := decAll_at aX10_emptyPace_0 6 rfl
theorem dX10_emptyPace_10 : decode cX10_emptyPace 10 = .ok (.if_icmp .ge 46, 3) := decAll_at aX10_emptyPace_0 7 rfl
theorem dX10_emptyPace_13 : decode cX10_emptyPace 13 = .ok (.iload_n 1, 1) := decAll_at aX10_emptyPace_0 8 rfl
theorem dX10_emptyPace_14 : decode cX10_emptyPace 14 = .ok (.iload_n 3, 1) := decAll_at aX10_emptyPace_0 9 rfl
theorem dX10_emptyPace_15 : decode cX10_emptyPace 15 = .ok (.invokestatic 399, 3) := decAll_at aX10_emptyPace_0 10 rfl
theorem dX10_emptyPace_18 : decode cX10_emptyPace 18 = .ok (.ifCond .eq 30, 3) := decAll_at aX10_emptyPace_0 11 rfl
theorem dX10_emptyPace_21 : decode cX10_emptyPace 21 = .ok (.aload_n 0, 1) := decAll_at aX10_emptyPace_0 12 rfl
theorem dX10_emptyPace_22 : decode cX10_emptyPace 22 = .ok (.getfield 88, 3) := decAll_at aX10_emptyPace_0 13 rfl
theorem dX10_emptyPace_25 : decode cX10_emptyPace 25 = .ok (.sipush 401, 3) := decAll_at aX10_emptyPace_0 14 rfl
theorem dX10_emptyPace_28 : decode cX10_emptyPace 28 = .ok (.iload_n 3, 1) := decAll_at aX10_emptyPace_0 15 rfl
theorem dX10_emptyPace_29 : decode cX10_emptyPace 29 = .ok (.imul, 1) := decAll_at aX10_emptyPace_0 16 rfl
theorem dX10_emptyPace_30 : decode cX10_emptyPace 30 = .ok (.iaload, 1) := decAll_at aX10_emptyPace_0 17 rfl
theorem dX10_emptyPace_31 : decode cX10_emptyPace 31 = .ok (.iload_n 2, 1) := decAll_at aX10_emptyPace_0 18 rfl
theorem dX10_emptyPace_32 : decode cX10_emptyPace 32 = .ok (.if_icmp .ge 16, 3) := decAll_at aX10_emptyPace_0 19 rfl
theorem dX10_emptyPace_35 : decode cX10_emptyPace 35 = .ok (.aload_n 0, 1) := decAll_at aX10_emptyPace_0 20 rfl
theorem dX10_emptyPace_36 : decode cX10_emptyPace 36 = .ok (.getfield 88, 3) := decAll_at aX10_emptyPace_0 21 rfl
theorem dX10_emptyPace_39 : decode cX10_emptyPace 39 = .ok (.sipush 401, 3) := decAll_at aX10_emptyPace_0 22 rfl
theorem dX10_emptyPace_42 : decode cX10_emptyPace 42 = .ok (.iload_n 3, 1) := decAll_at aX10_emptyPace_0 23 rfl
theorem dX10_emptyPace_43 : decode cX10_emptyPace 43 = .ok (.imul, 1) := decAll_at aX10_emptyPace_0 24 rfl
theorem dX10_emptyPace_44 : decode cX10_emptyPace 44 = .ok (.iaload, 1) := decAll_at aX10_emptyPace_0 25 rfl
theorem dX10_emptyPace_45 : decode cX10_emptyPace 45 = .ok (.goto 4, 3) := decAll_at aX10_emptyPace_0 26 rfl
theorem dX10_emptyPace_48 : decode cX10_emptyPace 48 = .ok (.iload_n 2, 1) := decAll_at aX10_emptyPace_0 27 rfl
theorem dX10_emptyPace_49 : decode cX10_emptyPace 49 = .ok (.istore_n 2, 1) := decAll_at aX10_emptyPace_0 28 rfl
theorem dX10_emptyPace_50 : decode cX10_emptyPace 50 = .ok (.iinc 3 1, 3) := decAll_at aX10_emptyPace_0 29 rfl
theorem dX10_emptyPace_53 : decode cX10_emptyPace 53 = .ok (.goto (-48), 3) := decAll_at aX10_emptyPace_0 30 rfl
theorem dX10_emptyPace_56 : decode cX10_emptyPace 56 = .ok (.iload_n 2, 1) := decAll_at aX10_emptyPace_0 31 rfl
theorem dX10_emptyPace_57 : decode cX10_emptyPace 57 = .ok (.ireturn, 1) := decAll_at aX10_emptyPace_0 32 rfl
def laX10_ahead_0 : List (Nat × Instr × Nat) := [(0, .aload_n 0, 1), (1, .iload_n 1, 1), (2, .iload_n 2, 1), (3, .invokevirtual 378, 3), (6, .ifCond .eq 36, 3), (9, .aload_n 0, 1), (10, .getfield 150, 3), (13, .iconst 3, 1), (14, .if_icmp .lt 28, 3), (17, .iload_n 3, 1), (18, .i2l, 1), (19, .lconst 0, 1), (20, .ldc2_w 428, 3), (23, .invokestatic 153, 3), (26, .ifCond .eq 16, 3), (29, .iload 4, 2), (31, .i2l, 1), (32, .lconst 0, 1), (33, .ldc2_w 382, 3), (36, .invokestatic 153, 3), (39, .ifCond .ne 5, 3), (42, .iconst (-1), 1), (43, .ireturn, 1), (44, .aload_n 0, 1), (45, .iload_n 1, 1), (46, .iload_n 2, 1), (47, .invokevirtual 384, 3), (50, .ldc_w 430, 3), (53, .istore 5, 2), (55, .iconst (-1), 1), (56, .istore 6, 2), (58, .iconst (-1), 1), (59, .istore 7, 2), (61, .iconst 0, 1), (62, .istore 8, 2), (64, .iload 8, 2), (66, .aload_n 0, 1), (67, .getfield 150, 3), (70, .if_icmp .ge 142, 3), (73, .iload 8, 2), (75, .iconst 1, 1), (76, .iadd, 1), (77, .istore 9, 2), (79, .iload 9, 2), (81, .aload_n 0, 1), (82, .getfield 150, 3), (85, .if_icmp .ge 121, 3), (88, .iconst 1, 1), (89, .iload 8, 2), (91, .ishl, 1), (92, .iconst 1, 1), (93, .iload 9, 2), (95, .ishl, 1), (96, .ior, 1), (97, .istore 10, 2), (99, .aload_n 0, 1), (100, .iload_n 1, 1), (101, .aload_n 0, 1), (102, .invokevirtual 414, 3), (105, .iload 10, 2), (107, .iconst (-1), 1), (108, .ixor, 1), (109, .iand, 1), (110, .iconst 1, 1)]
theorem aX10_ahead_0 : decAll cX10_ahead laX10_ahead_0 = true := by decide +kernel
theorem dX10_ahead_0 : decode cX10_ahead 0 = .ok (.aload_n 0, 1) := decAll_at aX10_ahead_0 0 rfl
theorem dX10_ahead_1 : decode cX10_ahead 1 = .ok (.iload_n 1, 1) := decAll_at aX10_ahead_0 1 rfl
theorem dX10_ahead_2 : decode cX10_ahead 2 = .ok (.iload_n 2, 1) := decAll_at aX10_ahead_0 2 rfl
theorem dX10_ahead_3 : decode cX10_ahead 3 = .ok (.invokevirtual 378, 3) := decAll_at aX10_ahead_0 3 rfl
theorem dX10_ahead_6 : decode cX10_ahead 6 = .ok (.ifCond .eq 36, 3) := decAll_at aX10_ahead_0 4 rfl
theorem dX10_ahead_9 : decode cX10_ahead 9 = .ok (.aload_n 0, 1) := decAll_at aX10_ahead_0 5 rfl
theorem dX10_ahead_10 : decode cX10_ahead 10 = .ok (.getfield 150, 3) := decAll_at aX10_ahead_0 6 rfl
theorem dX10_ahead_13 : decode cX10_ahead 13 = .ok (.iconst 3, 1) := decAll_at aX10_ahead_0 7 rfl
theorem dX10_ahead_14 : decode cX10_ahead 14 = .ok (.if_icmp .lt 28, 3) := decAll_at aX10_ahead_0 8 rfl
theorem dX10_ahead_17 : decode cX10_ahead 17 = .ok (.iload_n 3, 1) := decAll_at aX10_ahead_0 9 rfl
theorem dX10_ahead_18 : decode cX10_ahead 18 = .ok (.i2l, 1) := decAll_at aX10_ahead_0 10 rfl
theorem dX10_ahead_19 : decode cX10_ahead 19 = .ok (.lconst 0, 1) := decAll_at aX10_ahead_0 11 rfl
theorem dX10_ahead_20 : decode cX10_ahead 20 = .ok (.ldc2_w 428, 3) := decAll_at aX10_ahead_0 12 rfl
theorem dX10_ahead_23 : decode cX10_ahead 23 = .ok (.invokestatic 153, 3) := decAll_at aX10_ahead_0 13 rfl
theorem dX10_ahead_26 : decode cX10_ahead 26 = .ok (.ifCond .eq 16, 3) := decAll_at aX10_ahead_0 14 rfl
theorem dX10_ahead_29 : decode cX10_ahead 29 = .ok (.iload 4, 2) := decAll_at aX10_ahead_0 15 rfl
theorem dX10_ahead_31 : decode cX10_ahead 31 = .ok (.i2l, 1) := decAll_at aX10_ahead_0 16 rfl
theorem dX10_ahead_32 : decode cX10_ahead 32 = .ok (.lconst 0, 1) := decAll_at aX10_ahead_0 17 rfl
theorem dX10_ahead_33 : decode cX10_ahead 33 = .ok (.ldc2_w 382, 3) := decAll_at aX10_ahead_0 18 rfl
theorem dX10_ahead_36 : decode cX10_ahead 36 = .ok (.invokestatic 153, 3) := decAll_at aX10_ahead_0 19 rfl
theorem dX10_ahead_39 : decode cX10_ahead 39 = .ok (.ifCond .ne 5, 3) := decAll_at aX10_ahead_0 20 rfl
theorem dX10_ahead_42 : decode cX10_ahead 42 = .ok (.iconst (-1), 1) := decAll_at aX10_ahead_0 21 rfl
theorem dX10_ahead_43 : decode cX10_ahead 43 = .ok (.ireturn, 1) := decAll_at aX10_ahead_0 22 rfl
theorem dX10_ahead_44 : decode cX10_ahead 44 = .ok (.aload_n 0, 1) := decAll_at aX10_ahead_0 23 rfl
theorem dX10_ahead_45 : decode cX10_ahead 45 = .ok (.iload_n 1, 1) := decAll_at aX10_ahead_0 24 rfl
theorem dX10_ahead_46 : decode cX10_ahead 46 = .ok (.iload_n 2, 1) := decAll_at aX10_ahead_0 25 rfl
theorem dX10_ahead_47 : decode cX10_ahead 47 = .ok (.invokevirtual 384, 3) := decAll_at aX10_ahead_0 26 rfl
theorem dX10_ahead_50 : decode cX10_ahead 50 = .ok (.ldc_w 430, 3) := decAll_at aX10_ahead_0 27 rfl
theorem dX10_ahead_53 : decode cX10_ahead 53 = .ok (.istore 5, 2) := decAll_at aX10_ahead_0 28 rfl
theorem dX10_ahead_55 : decode cX10_ahead 55 = .ok (.iconst (-1), 1) := decAll_at aX10_ahead_0 29 rfl
theorem dX10_ahead_56 : decode cX10_ahead 56 = .ok (.istore 6, 2) := decAll_at aX10_ahead_0 30 rfl
theorem dX10_ahead_58 : decode cX10_ahead 58 = .ok (.iconst (-1), 1) := decAll_at aX10_ahead_0 31 rfl
theorem dX10_ahead_59 : decode cX10_ahead 59 = .ok (.istore 7, 2) := decAll_at aX10_ahead_0 32 rfl
theorem dX10_ahead_61 : decode cX10_ahead 61 = .ok (.iconst 0, 1) := decAll_at aX10_ahead_0 33 rfl
theorem dX10_ahead_62 : decode cX10_ahead 62 = .ok (.istore 8, 2) := decAll_at aX10_ahead_0 34 rfl
theorem dX10_ahead_64 : decode cX10_ahead 64 = .ok (.iload 8, 2) := decAll_at aX10_ahead_0 35 rfl
theorem dX10_ahead_66 : decode cX10_ahead 66 = .ok (.aload_n 0, 1) := decAll_at aX10_ahead_0 36 rfl
theorem dX10_ahead_67 : decode cX10_ahead 67 = .ok (.getfield 150, 3) := decAll_at aX10_ahead_0 37 rfl
theorem dX10_ahead_70 : decode cX10_ahead 70 = .ok (.if_icmp .ge 142, 3) := decAll_at aX10_ahead_0 38 rfl
theorem dX10_ahead_73 : decode cX10_ahead 73 = .ok (.iload 8, 2) := decAll_at aX10_ahead_0 39 rfl
theorem dX10_ahead_75 : decode cX10_ahead 75 = .ok (.iconst 1, 1) := decAll_at aX10_ahead_0 40 rfl
theorem dX10_ahead_76 : decode cX10_ahead 76 = .ok (.iadd, 1) := decAll_at aX10_ahead_0 41 rfl
theorem dX10_ahead_77 : decode cX10_ahead 77 = .ok (.istore 9, 2) := decAll_at aX10_ahead_0 42 rfl
theorem dX10_ahead_79 : decode cX10_ahead 79 = .ok (.iload 9, 2) := decAll_at aX10_ahead_0 43 rfl
theorem dX10_ahead_81 : decode cX10_ahead 81 = .ok (.aload_n 0, 1) := decAll_at aX10_ahead_0 44 rfl
theorem dX10_ahead_82 : decode cX10_ahead 82 = .ok (.getfield 150, 3) := decAll_at aX10_ahead_0 45 rfl
theorem dX10_ahead_85 : decode cX10_ahead 85 = .ok (.if_icmp .ge 121, 3) := decAll_at aX10_ahead_0 46 rfl
theorem dX10_ahead_88 : decode cX10_ahead 88 = .ok (.iconst 1, 1) := decAll_at aX10_ahead_0 47 rfl
theorem dX10_ahead_89 : decode cX10_ahead 89 = .ok (.iload 8, 2) := decAll_at aX10_ahead_0 48 rfl
theorem dX10_ahead_91 : decode cX10_ahead 91 = .ok (.ishl, 1) := decAll_at aX10_ahead_0 49 rfl
theorem dX10_ahead_92 : decode cX10_ahead 92 = .ok (.iconst 1, 1) := decAll_at aX10_ahead_0 50 rfl
theorem dX10_ahead_93 : decode cX10_ahead 93 = .ok (.iload 9, 2) := decAll_at aX10_ahead_0 51 rfl
theorem dX10_ahead_95 : decode cX10_ahead 95 = .ok (.ishl, 1) := decAll_at aX10_ahead_0 52 rfl
theorem dX10_ahead_96 : decode cX10_ahead 96 = .ok (.ior, 1) := decAll_at aX10_ahead_0 53 rfl
theorem dX10_ahead_97 : decode cX10_ahead 97 = .ok (.istore 10, 2) := decAll_at aX10_ahead_0 54 rfl
theorem dX10_ahead_99 : decode cX10_ahead 99 = .ok (.aload_n 0, 1) := decAll_at aX10_ahead_0 55 rfl
theorem dX10_ahead_100 : decode cX10_ahead 100 = .ok (.iload_n 1, 1) := decAll_at aX10_ahead_0 56 rfl
theorem dX10_ahead_101 : decode cX10_ahead 101 = .ok (.aload_n 0, 1) := decAll_at aX10_ahead_0 57 rfl
theorem dX10_ahead_102 : decode cX10_ahead 102 = .ok (.invokevirtual 414, 3) := decAll_at aX10_ahead_0 58 rfl
theorem dX10_ahead_105 : decode cX10_ahead 105 = .ok (.iload 10, 2) := decAll_at aX10_ahead_0 59 rfl
theorem dX10_ahead_107 : decode cX10_ahead 107 = .ok (.iconst (-1), 1) := decAll_at aX10_ahead_0 60 rfl
theorem dX10_ahead_108 : decode cX10_ahead 108 = .ok (.ixor, 1) := decAll_at aX10_ahead_0 61 rfl
theorem dX10_ahead_109 : decode cX10_ahead 109 = .ok (.iand, 1) := decAll_at aX10_ahead_0 62 rfl
theorem dX10_ahead_110 : decode cX10_ahead 110 = .ok (.iconst 1, 1) := decAll_at aX10_ahead_0 63 rfl
def laX10_ahead_1 : List (Nat × Instr × Nat) := [(111, .invokevirtual 417, 3), (114, .aload_n 0, 1), (115, .iconst (-1), 1), (116, .invokevirtual 421, 3), (119, .istore 11, 2), (121, .aload_n 0, 1), (122, .iload 10, 2), (124, .invokevirtual 431, 3), (127, .istore 12, 2), (129, .iload 11, 2), (131, .ifCond .eq 69, 3), (134, .iload 12, 2), (136, .ifCond .ne 6, 3), (139, .goto 61, 3), (142, .aload_n 0, 1), (143, .iload_n 1, 1), (144, .iload 12, 2), (146, .invokevirtual 390, 3), (149, .iload_n 3, 1), (150, .iadd, 1), (151, .istore 13, 2), (153, .aload_n 0, 1), (154, .iload_n 1, 1), (155, .iload 11, 2), (157, .invokevirtual 390, 3), (160, .istore 14, 2), (162, .iload 13, 2), (164, .iload 14, 2), (166, .if_icmp .le 8, 3), (169, .iload 13, 2), (171, .goto 5, 3), (174, .iload 14, 2), (176, .istore 15, 2), (178, .iload 15, 2), (180, .iload 5, 2), (182, .if_icmp .lt 6, 3), (185, .goto 15, 3), (188, .iload 15, 2), (190, .istore 5, 2), (192, .iload 8, 2), (194, .istore 6, 2), (196, .iload 9, 2), (198, .istore 7, 2), (200, .iinc 9 1, 3), (203, .goto (-124), 3), (206, .iinc 8 1, 3), (209, .goto (-145), 3), (212, .iload 5, 2), (214, .ldc_w 430, 3), (217, .if_icmp .ne 8, 3), (220, .bipush (-2), 2), (222, .goto 26, 3), (225, .iload 4, 2), (227, .ifCond .ne 8, 3), (230, .iload 5, 2), (232, .goto 16, 3), (235, .iload 4, 2), (237, .iconst 1, 1), (238, .if_icmp .ne 8, 3), (241, .iload 6, 2), (243, .goto 5, 3), (246, .iload 7, 2), (248, .ireturn, 1)]
theorem aX10_ahead_1 : decAll cX10_ahead laX10_ahead_1 = true := by decide +kernel
theorem dX10_ahead_111 : decode cX10_ahead 111 = .ok (.invokevirtual 417, 3) := decAll_at aX10_ahead_1 0 rfl
theorem dX10_ahead_114 : decode cX10_ahead 114 = .ok (.aload_n 0, 1) := decAll_at aX10_ahead_1 1 rfl
theorem dX10_ahead_115 : decode cX10_ahead 115 = .ok (.iconst (-1), 1) := decAll_at aX10_ahead_1 2 rfl
theorem dX10_ahead_116 : decode cX10_ahead 116 = .ok (.invokevirtual 421, 3) := decAll_at aX10_ahead_1 3 rfl
theorem dX10_ahead_119 : decode cX10_ahead 119 = .ok (.istore 11, 2) := decAll_at aX10_ahead_1 4 rfl
theorem dX10_ahead_121 : decode cX10_ahead 121 = .ok (.aload_n 0, 1) := decAll_at aX10_ahead_1 5 rfl
theorem dX10_ahead_122 : decode cX10_ahead 122 = .ok (.iload 10, 2) := decAll_at aX10_ahead_1 6 rfl
theorem dX10_ahead_124 : decode cX10_ahead 124 = .ok (.invokevirtual 431, 3) := decAll_at aX10_ahead_1 7 rfl
theorem dX10_ahead_127 : decode cX10_ahead 127 = .ok (.istore 12, 2) := decAll_at aX10_ahead_1 8 rfl
theorem dX10_ahead_129 : decode cX10_ahead 129 = .ok (.iload 11, 2) := decAll_at aX10_ahead_1 9 rfl
theorem dX10_ahead_131 : decode cX10_ahead 131 = .ok (.ifCond .eq 69, 3) := decAll_at aX10_ahead_1 10 rfl
theorem dX10_ahead_134 : decode cX10_ahead 134 = .ok (.iload 12, 2) := decAll_at aX10_ahead_1 11 rfl
theorem dX10_ahead_136 : decode cX10_ahead 136 = .ok (.ifCond .ne 6, 3) := decAll_at aX10_ahead_1 12 rfl
theorem dX10_ahead_139 : decode cX10_ahead 139 = .ok (.goto 61, 3) := decAll_at aX10_ahead_1 13 rfl
theorem dX10_ahead_142 : decode cX10_ahead 142 = .ok (.aload_n 0, 1) := decAll_at aX10_ahead_1 14 rfl
theorem dX10_ahead_143 : decode cX10_ahead 143 = .ok (.iload_n 1, 1) := decAll_at aX10_ahead_1 15 rfl
theorem dX10_ahead_144 : decode cX10_ahead 144 = .ok (.iload 12, 2) := decAll_at aX10_ahead_1 16 rfl
theorem dX10_ahead_146 : decode cX10_ahead 146 = .ok (.invokevirtual 390, 3) := decAll_at aX10_ahead_1 17 rfl
theorem dX10_ahead_149 : decode cX10_ahead 149 = .ok (.iload_n 3, 1) := decAll_at aX10_ahead_1 18 rfl
theorem dX10_ahead_150 : decode cX10_ahead 150 = .ok (.iadd, 1) := decAll_at aX10_ahead_1 19 rfl
theorem dX10_ahead_151 : decode cX10_ahead 151 = .ok (.istore 13, 2) := decAll_at aX10_ahead_1 20 rfl
theorem dX10_ahead_153 : decode cX10_ahead 153 = .ok (.aload_n 0, 1) := decAll_at aX10_ahead_1 21 rfl
theorem dX10_ahead_154 : decode cX10_ahead 154 = .ok (.iload_n 1, 1) := decAll_at aX10_ahead_1 22 rfl
theorem dX10_ahead_155 : decode cX10_ahead 155 = .ok (.iload 11, 2) := decAll_at aX10_ahead_1 23 rfl
theorem dX10_ahead_157 : decode cX10_ahead 157 = .ok (.invokevirtual 390, 3) := decAll_at aX10_ahead_1 24 rfl
theorem dX10_ahead_160 : decode cX10_ahead 160 = .ok (.istore 14, 2) := decAll_at aX10_ahead_1 25 rfl
theorem dX10_ahead_162 : decode cX10_ahead 162 = .ok (.iload 13, 2) := decAll_at aX10_ahead_1 26 rfl
theorem dX10_ahead_164 : decode cX10_ahead 164 = .ok (.iload 14, 2) := decAll_at aX10_ahead_1 27 rfl
theorem dX10_ahead_166 : decode cX10_ahead 166 = .ok (.if_icmp .le 8, 3) := decAll_at aX10_ahead_1 28 rfl
theorem dX10_ahead_169 : decode cX10_ahead 169 = .ok (.iload 13, 2) := decAll_at aX10_ahead_1 29 rfl
theorem dX10_ahead_171 : decode cX10_ahead 171 = .ok (.goto 5, 3) := decAll_at aX10_ahead_1 30 rfl
theorem dX10_ahead_174 : decode cX10_ahead 174 = .ok (.iload 14, 2) := decAll_at aX10_ahead_1 31 rfl
theorem dX10_ahead_176 : decode cX10_ahead 176 = .ok (.istore 15, 2) := decAll_at aX10_ahead_1 32 rfl
theorem dX10_ahead_178 : decode cX10_ahead 178 = .ok (.iload 15, 2) := decAll_at aX10_ahead_1 33 rfl
theorem dX10_ahead_180 : decode cX10_ahead 180 = .ok (.iload 5, 2) := decAll_at aX10_ahead_1 34 rfl
theorem dX10_ahead_182 : decode cX10_ahead 182 = .ok (.if_icmp .lt 6, 3) := decAll_at aX10_ahead_1 35 rfl
theorem dX10_ahead_185 : decode cX10_ahead 185 = .ok (.goto 15, 3) := decAll_at aX10_ahead_1 36 rfl
theorem dX10_ahead_188 : decode cX10_ahead 188 = .ok (.iload 15, 2) := decAll_at aX10_ahead_1 37 rfl
theorem dX10_ahead_190 : decode cX10_ahead 190 = .ok (.istore 5, 2) := decAll_at aX10_ahead_1 38 rfl
theorem dX10_ahead_192 : decode cX10_ahead 192 = .ok (.iload 8, 2) := decAll_at aX10_ahead_1 39 rfl
theorem dX10_ahead_194 : decode cX10_ahead 194 = .ok (.istore 6, 2) := decAll_at aX10_ahead_1 40 rfl
theorem dX10_ahead_196 : decode cX10_ahead 196 = .ok (.iload 9, 2) := decAll_at aX10_ahead_1 41 rfl
theorem dX10_ahead_198 : decode cX10_ahead 198 = .ok (.istore 7, 2) := decAll_at aX10_ahead_1 42 rfl
theorem dX10_ahead_200 : decode cX10_ahead 200 = .ok (.iinc 9 1, 3) := decAll_at aX10_ahead_1 43 rfl
theorem dX10_ahead_203 : decode cX10_ahead 203 = .ok (.goto (-124), 3) := decAll_at aX10_ahead_1 44 rfl
theorem dX10_ahead_206 : decode cX10_ahead 206 = .ok (.iinc 8 1, 3) := decAll_at aX10_ahead_1 45 rfl
theorem dX10_ahead_209 : decode cX10_ahead 209 = .ok (.goto (-145), 3) := decAll_at aX10_ahead_1 46 rfl
theorem dX10_ahead_212 : decode cX10_ahead 212 = .ok (.iload 5, 2) := decAll_at aX10_ahead_1 47 rfl
theorem dX10_ahead_214 : decode cX10_ahead 214 = .ok (.ldc_w 430, 3) := decAll_at aX10_ahead_1 48 rfl
theorem dX10_ahead_217 : decode cX10_ahead 217 = .ok (.if_icmp .ne 8, 3) := decAll_at aX10_ahead_1 49 rfl
theorem dX10_ahead_220 : decode cX10_ahead 220 = .ok (.bipush (-2), 2) := decAll_at aX10_ahead_1 50 rfl
theorem dX10_ahead_222 : decode cX10_ahead 222 = .ok (.goto 26, 3) := decAll_at aX10_ahead_1 51 rfl
theorem dX10_ahead_225 : decode cX10_ahead 225 = .ok (.iload 4, 2) := decAll_at aX10_ahead_1 52 rfl
theorem dX10_ahead_227 : decode cX10_ahead 227 = .ok (.ifCond .ne 8, 3) := decAll_at aX10_ahead_1 53 rfl
theorem dX10_ahead_230 : decode cX10_ahead 230 = .ok (.iload 5, 2) := decAll_at aX10_ahead_1 54 rfl
theorem dX10_ahead_232 : decode cX10_ahead 232 = .ok (.goto 16, 3) := decAll_at aX10_ahead_1 55 rfl
theorem dX10_ahead_235 : decode cX10_ahead 235 = .ok (.iload 4, 2) := decAll_at aX10_ahead_1 56 rfl
theorem dX10_ahead_237 : decode cX10_ahead 237 = .ok (.iconst 1, 1) := decAll_at aX10_ahead_1 57 rfl
theorem dX10_ahead_238 : decode cX10_ahead 238 = .ok (.if_icmp .ne 8, 3) := decAll_at aX10_ahead_1 58 rfl
theorem dX10_ahead_241 : decode cX10_ahead 241 = .ok (.iload 6, 2) := decAll_at aX10_ahead_1 59 rfl
theorem dX10_ahead_243 : decode cX10_ahead 243 = .ok (.goto 5, 3) := decAll_at aX10_ahead_1 60 rfl
theorem dX10_ahead_246 : decode cX10_ahead 246 = .ok (.iload 7, 2) := decAll_at aX10_ahead_1 61 rfl
theorem dX10_ahead_248 : decode cX10_ahead 248 = .ok (.ireturn, 1) := decAll_at aX10_ahead_1 62 rfl
def laX10_stagesOf_0 : List (Nat × Instr × Nat) := [(0, .aload_n 0, 1), (1, .aload_n 0, 1), (2, .iload_n 1, 1), (3, .invokevirtual 434, 3), (6, .iload_n 2, 1), (7, .iadd, 1), (8, .iconst 1, 1), (9, .isub, 1), (10, .iload_n 2, 1), (11, .idiv, 1), (12, .invokevirtual 387, 3), (15, .istore_n 3, 1), (16, .aload_n 0, 1), (17, .aload_n 0, 1), (18, .invokevirtual 414, 3), (21, .invokevirtual 431, 3), (24, .istore 4, 2), (26, .iload_n 3, 1), (27, .ifCond .eq 13, 3), (30, .iload_n 2, 1), (31, .iconst 1, 1), (32, .if_icmp .le 11, 3), (35, .iload 4, 2), (37, .ifCond .ne 6, 3), (40, .bipush (-2), 2), (42, .ireturn, 1), (43, .iload_n 2, 1), (44, .aload_n 0, 1), (45, .iload_n 1, 1), (46, .iload_n 3, 1), (47, .invokevirtual 390, 3), (50, .imul, 1), (51, .iload_n 2, 1), (52, .iconst 1, 1), (53, .if_icmp .le 17, 3), (56, .iload_n 2, 1), (57, .iconst 1, 1), (58, .isub, 1), (59, .aload_n 0, 1), (60, .iload_n 1, 1), (61, .iload 4, 2), (63, .invokevirtual 390, 3), (66, .imul, 1), (67, .goto 4, 3), (70, .iconst 0, 1), (71, .iadd, 1), (72, .ireturn, 1)]
theorem aX10_stagesOf_0 : decAll cX10_stagesOf laX10_stagesOf_0 = true := by decide +kernel
theorem dX10_stagesOf_0 : decode cX10_stagesOf 0 = .ok (.aload_n 0, 1) := decAll_at aX10_stagesOf_0 0 rfl
theorem dX10_stagesOf_1 : decode cX10_stagesOf 1 = .ok (.aload_n 0, 1) := decAll_at aX10_stagesOf_0 1 rfl
theorem dX10_stagesOf_2 : decode cX10_stagesOf 2 = .ok (.iload_n 1, 1) := decAll_at aX10_stagesOf_0 2 rfl
theorem dX10_stagesOf_3 : decode cX10_stagesOf 3 = .ok (.invokevirtual 434, 3) := decAll_at aX10_stagesOf_0 3 rfl
theorem dX10_stagesOf_6 : decode cX10_stagesOf 6 = .ok (.iload_n 2, 1) := decAll_at aX10_stagesOf_0 4 rfl
theorem dX10_stagesOf_7 : decode cX10_stagesOf 7 = .ok (.iadd, 1) := decAll_at aX10_stagesOf_0 5 rfl
theorem dX10_stagesOf_8 : decode cX10_stagesOf 8 = .ok (.iconst 1, 1) := decAll_at aX10_stagesOf_0 6 rfl
theorem dX10_stagesOf_9 : decode cX10_stagesOf 9 = .ok (.isub, 1) := decAll_at aX10_stagesOf_0 7 rfl
theorem dX10_stagesOf_10 : decode cX10_stagesOf 10 = .ok (.iload_n 2, 1) := decAll_at aX10_stagesOf_0 8 rfl
theorem dX10_stagesOf_11 : decode cX10_stagesOf 11 = .ok (.idiv, 1) := decAll_at aX10_stagesOf_0 9 rfl
theorem dX10_stagesOf_12 : decode cX10_stagesOf 12 = .ok (.invokevirtual 387, 3) := decAll_at aX10_stagesOf_0 10 rfl
theorem dX10_stagesOf_15 : decode cX10_stagesOf 15 = .ok (.istore_n 3, 1) := decAll_at aX10_stagesOf_0 11 rfl
theorem dX10_stagesOf_16 : decode cX10_stagesOf 16 = .ok (.aload_n 0, 1) := decAll_at aX10_stagesOf_0 12 rfl
theorem dX10_stagesOf_17 : decode cX10_stagesOf 17 = .ok (.aload_n 0, 1) := decAll_at aX10_stagesOf_0 13 rfl
theorem dX10_stagesOf_18 : decode cX10_stagesOf 18 = .ok (.invokevirtual 414, 3) := decAll_at aX10_stagesOf_0 14 rfl
theorem dX10_stagesOf_21 : decode cX10_stagesOf 21 = .ok (.invokevirtual 431, 3) := decAll_at aX10_stagesOf_0 15 rfl
theorem dX10_stagesOf_24 : decode cX10_stagesOf 24 = .ok (.istore 4, 2) := decAll_at aX10_stagesOf_0 16 rfl
theorem dX10_stagesOf_26 : decode cX10_stagesOf 26 = .ok (.iload_n 3, 1) := decAll_at aX10_stagesOf_0 17 rfl
theorem dX10_stagesOf_27 : decode cX10_stagesOf 27 = .ok (.ifCond .eq 13, 3) := decAll_at aX10_stagesOf_0 18 rfl
theorem dX10_stagesOf_30 : decode cX10_stagesOf 30 = .ok (.iload_n 2, 1) := decAll_at aX10_stagesOf_0 19 rfl
theorem dX10_stagesOf_31 : decode cX10_stagesOf 31 = .ok (.iconst 1, 1) := decAll_at aX10_stagesOf_0 20 rfl
theorem dX10_stagesOf_32 : decode cX10_stagesOf 32 = .ok (.if_icmp .le 11, 3) := decAll_at aX10_stagesOf_0 21 rfl
theorem dX10_stagesOf_35 : decode cX10_stagesOf 35 = .ok (.iload 4, 2) := decAll_at aX10_stagesOf_0 22 rfl
theorem dX10_stagesOf_37 : decode cX10_stagesOf 37 = .ok (.ifCond .ne 6, 3) := decAll_at aX10_stagesOf_0 23 rfl
theorem dX10_stagesOf_40 : decode cX10_stagesOf 40 = .ok (.bipush (-2), 2) := decAll_at aX10_stagesOf_0 24 rfl
theorem dX10_stagesOf_42 : decode cX10_stagesOf 42 = .ok (.ireturn, 1) := decAll_at aX10_stagesOf_0 25 rfl
theorem dX10_stagesOf_43 : decode cX10_stagesOf 43 = .ok (.iload_n 2, 1) := decAll_at aX10_stagesOf_0 26 rfl
theorem dX10_stagesOf_44 : decode cX10_stagesOf 44 = .ok (.aload_n 0, 1) := decAll_at aX10_stagesOf_0 27 rfl
theorem dX10_stagesOf_45 : decode cX10_stagesOf 45 = .ok (.iload_n 1, 1) := decAll_at aX10_stagesOf_0 28 rfl
theorem dX10_stagesOf_46 : decode cX10_stagesOf 46 = .ok (.iload_n 3, 1) := decAll_at aX10_stagesOf_0 29 rfl
theorem dX10_stagesOf_47 : decode cX10_stagesOf 47 = .ok (.invokevirtual 390, 3) := decAll_at aX10_stagesOf_0 30 rfl
theorem dX10_stagesOf_50 : decode cX10_stagesOf 50 = .ok (.imul, 1) := decAll_at aX10_stagesOf_0 31 rfl
theorem dX10_stagesOf_51 : decode cX10_stagesOf 51 = .ok (.iload_n 2, 1) := decAll_at aX10_stagesOf_0 32 rfl
theorem dX10_stagesOf_52 : decode cX10_stagesOf 52 = .ok (.iconst 1, 1) := decAll_at aX10_stagesOf_0 33 rfl
theorem dX10_stagesOf_53 : decode cX10_stagesOf 53 = .ok (.if_icmp .le 17, 3) := decAll_at aX10_stagesOf_0 34 rfl
theorem dX10_stagesOf_56 : decode cX10_stagesOf 56 = .ok (.iload_n 2, 1) := decAll_at aX10_stagesOf_0 35 rfl
theorem dX10_stagesOf_57 : decode cX10_stagesOf 57 = .ok (.iconst 1, 1) := decAll_at aX10_stagesOf_0 36 rfl
theorem dX10_stagesOf_58 : decode cX10_stagesOf 58 = .ok (.isub, 1) := decAll_at aX10_stagesOf_0 37 rfl
theorem dX10_stagesOf_59 : decode cX10_stagesOf 59 = .ok (.aload_n 0, 1) := decAll_at aX10_stagesOf_0 38 rfl
theorem dX10_stagesOf_60 : decode cX10_stagesOf 60 = .ok (.iload_n 1, 1) := decAll_at aX10_stagesOf_0 39 rfl
theorem dX10_stagesOf_61 : decode cX10_stagesOf 61 = .ok (.iload 4, 2) := decAll_at aX10_stagesOf_0 40 rfl
theorem dX10_stagesOf_63 : decode cX10_stagesOf 63 = .ok (.invokevirtual 390, 3) := decAll_at aX10_stagesOf_0 41 rfl
theorem dX10_stagesOf_66 : decode cX10_stagesOf 66 = .ok (.imul, 1) := decAll_at aX10_stagesOf_0 42 rfl
theorem dX10_stagesOf_67 : decode cX10_stagesOf 67 = .ok (.goto 4, 3) := decAll_at aX10_stagesOf_0 43 rfl
theorem dX10_stagesOf_70 : decode cX10_stagesOf 70 = .ok (.iconst 0, 1) := decAll_at aX10_stagesOf_0 44 rfl
theorem dX10_stagesOf_71 : decode cX10_stagesOf 71 = .ok (.iadd, 1) := decAll_at aX10_stagesOf_0 45 rfl
theorem dX10_stagesOf_72 : decode cX10_stagesOf 72 = .ok (.ireturn, 1) := decAll_at aX10_stagesOf_0 46 rfl
def laX10_stages_0 : List (Nat × Instr × Nat) := [(0, .aload_n 0, 1), (1, .iload_n 1, 1), (2, .iload_n 2, 1), (3, .invokevirtual 378, 3), (6, .ifCond .eq 15, 3), (9, .iload_n 3, 1), (10, .i2l, 1), (11, .lconst 1, 1), (12, .ldc2_w 349, 3), (15, .invokestatic 153, 3), (18, .ifCond .ne 5, 3), (21, .iconst (-1), 1), (22, .ireturn, 1), (23, .aload_n 0, 1), (24, .iload_n 1, 1), (25, .iload_n 2, 1), (26, .invokevirtual 384, 3), (29, .aload_n 0, 1), (30, .iload_n 1, 1), (31, .iload_n 3, 1), (32, .invokevirtual 437, 3), (35, .ireturn, 1)]
theorem aX10_stages_0 : decAll cX10_stages laX10_stages_0 = true := by decide +kernel
theorem dX10_stages_0 : decode cX10_stages 0 = .ok (.aload_n 0, 1) := decAll_at aX10_stages_0 0 rfl
theorem dX10_stages_1 : decode cX10_stages 1 = .ok (.iload_n 1, 1) := decAll_at aX10_stages_0 1 rfl
theorem dX10_stages_2 : decode cX10_stages 2 = .ok (.iload_n 2, 1) := decAll_at aX10_stages_0 2 rfl
theorem dX10_stages_3 : decode cX10_stages 3 = .ok (.invokevirtual 378, 3) := decAll_at aX10_stages_0 3 rfl
theorem dX10_stages_6 : decode cX10_stages 6 = .ok (.ifCond .eq 15, 3) := decAll_at aX10_stages_0 4 rfl
theorem dX10_stages_9 : decode cX10_stages 9 = .ok (.iload_n 3, 1) := decAll_at aX10_stages_0 5 rfl
theorem dX10_stages_10 : decode cX10_stages 10 = .ok (.i2l, 1) := decAll_at aX10_stages_0 6 rfl
theorem dX10_stages_11 : decode cX10_stages 11 = .ok (.lconst 1, 1) := decAll_at aX10_stages_0 7 rfl
theorem dX10_stages_12 : decode cX10_stages 12 = .ok (.ldc2_w 349, 3) := decAll_at aX10_stages_0 8 rfl
theorem dX10_stages_15 : decode cX10_stages 15 = .ok (.invokestatic 153, 3) := decAll_at aX10_stages_0 9 rfl
theorem dX10_stages_18 : decode cX10_stages 18 = .ok (.ifCond .ne 5, 3) := decAll_at aX10_stages_0 10 rfl
theorem dX10_stages_21 : decode cX10_stages 21 = .ok (.iconst (-1), 1) := decAll_at aX10_stages_0 11 rfl
theorem dX10_stages_22 : decode cX10_stages 22 = .ok (.ireturn, 1) := decAll_at aX10_stages_0 12 rfl
theorem dX10_stages_23 : decode cX10_stages 23 = .ok (.aload_n 0, 1) := decAll_at aX10_stages_0 13 rfl
theorem dX10_stages_24 : decode cX10_stages 24 = .ok (.iload_n 1, 1) := decAll_at aX10_stages_0 14 rfl
theorem dX10_stages_25 : decode cX10_stages 25 = .ok (.iload_n 2, 1) := decAll_at aX10_stages_0 15 rfl
theorem dX10_stages_26 : decode cX10_stages 26 = .ok (.invokevirtual 384, 3) := decAll_at aX10_stages_0 16 rfl
theorem dX10_stages_29 : decode cX10_stages 29 = .ok (.aload_n 0, 1) := decAll_at aX10_stages_0 17 rfl
theorem dX10_stages_30 : decode cX10_stages 30 = .ok (.iload_n 1, 1) := decAll_at aX10_stages_0 18 rfl
theorem dX10_stages_31 : decode cX10_stages 31 = .ok (.iload_n 3, 1) := decAll_at aX10_stages_0 19 rfl
theorem dX10_stages_32 : decode cX10_stages 32 = .ok (.invokevirtual 437, 3) := decAll_at aX10_stages_0 20 rfl
theorem dX10_stages_35 : decode cX10_stages 35 = .ok (.ireturn, 1) := decAll_at aX10_stages_0 21 rfl
def laX10_goes_0 : List (Nat × Instr × Nat) := [(0, .aload_n 0, 1), (1, .iload_n 1, 1), (2, .iload_n 2, 1), (3, .invokevirtual 378, 3), (6, .ifCond .ne 5, 3), (9, .iconst (-1), 1), (10, .ireturn, 1), (11, .aload_n 0, 1), (12, .iload_n 1, 1), (13, .iload_n 2, 1), (14, .invokevirtual 384, 3), (17, .bipush (-2), 2), (19, .istore_n 3, 1), (20, .iconst 0, 1), (21, .istore 4, 2), (23, .iconst 1, 1), (24, .istore 5, 2), (26, .iload 5, 2), (28, .iconst 5, 1), (29, .if_icmp .gt 44, 3), (32, .aload_n 0, 1), (33, .iload_n 1, 1), (34, .iload 5, 2), (36, .invokevirtual 437, 3), (39, .istore 6, 2), (41, .iload 6, 2), (43, .ifCond .lt 24, 3), (46, .iload_n 3, 1), (47, .ifCond .le 13, 3), (50, .iload 6, 2), (52, .iload 4, 2), (54, .if_icmp .lt 6, 3), (57, .goto 10, 3), (60, .iload 5, 2), (62, .istore_n 3, 1), (63, .iload 6, 2), (65, .istore 4, 2), (67, .iinc 5 1, 3), (70, .goto (-44), 3), (73, .iload_n 3, 1), (74, .ireturn, 1)]
theorem aX10_goes_0 : decAll cX10_goes laX10_goes_0 = true := by decide +kernel
theorem dX10_goes_0 : decode cX10_goes 0 = .ok (.aload_n 0, 1) := decAll_at aX10_goes_0 0 rfl
theorem dX10_goes_1 : decode cX10_goes 1 = .ok (.iload_n 1, 1) := decAll_at aX10_goes_0 1 rfl
theorem dX10_goes_2 : decode cX10_goes 2 = .ok (.iload_n 2, 1) := decAll_at aX10_goes_0 2 rfl
theorem dX10_goes_3 : decode cX10_goes 3 = .ok (.invokevirtual 378, 3) := decAll_at aX10_goes_0 3 rfl
theorem dX10_goes_6 : decode cX10_goes 6 = .ok (.ifCond .ne 5, 3) := decAll_at aX10_goes_0 4 rfl
theorem dX10_goes_9 : decode cX10_goes 9 = .ok (.iconst (-1), 1) := decAll_at aX10_goes_0 5 rfl
theorem dX10_goes_10 : decode cX10_goes 10 = .ok (.ireturn, 1) := decAll_at aX10_goes_0 6 rfl
theorem dX10_goes_11 : decode cX10_goes 11 = .ok (.aload_n 0, 1) := decAll_at aX10_goes_0 7 rfl
theorem dX10_goes_12 : decode cX10_goes 12 = .ok (.iload_n 1, 1) := decAll_at aX10_goes_0 8 rfl
theorem dX10_goes_13 : decode cX10_goes 13 = .ok (.iload_n 2, 1) := decAll_at aX10_goes_0 9 rfl
theorem dX10_goes_14 : decode cX10_goes 14 = .ok (.invokevirtual 384, 3) := decAll_at aX10_goes_0 10 rfl
theorem dX10_goes_17 : decode cX10_goes 17 = .ok (.bipush (-2), 2) := decAll_at aX10_goes_0 11 rfl
theorem dX10_goes_19 : decode cX10_goes 19 = .ok (.istore_n 3, 1) := decAll_at aX10_goes_0 12 rfl
theorem dX10_goes_20 : decode cX10_goes 20 = .ok (.iconst 0, 1) := decAll_at aX10_goes_0 13 rfl
theorem dX10_goes_21 : decode cX10_goes 21 = .ok (.istore 4, 2) := decAll_at aX10_goes_0 14 rfl
theorem dX10_goes_23 : decode cX10_goes 23 = .ok (.iconst 1, 1) := decAll_at aX10_goes_0 15 rfl
theorem dX10_goes_24 : decode cX10_goes 24 = .ok (.istore 5, 2) := decAll_at aX10_goes_0 16 rfl
theorem dX10_goes_26 : decode cX10_goes 26 = .ok (.iload 5, 2) := decAll_at aX10_goes_0 17 rfl
theorem dX10_goes_28 : decode cX10_goes 28 = .ok (.iconst 5, 1) := decAll_at aX10_goes_0 18 rfl
theorem dX10_goes_29 : decode cX10_goes 29 = .ok (.if_icmp .gt 44, 3) := decAll_at aX10_goes_0 19 rfl
theorem dX10_goes_32 : decode cX10_goes 32 = .ok (.aload_n 0, 1) := decAll_at aX10_goes_0 20 rfl
theorem dX10_goes_33 : decode cX10_goes 33 = .ok (.iload_n 1, 1) := decAll_at aX10_goes_0 21 rfl
theorem dX10_goes_34 : decode cX10_goes 34 = .ok (.iload 5, 2) := decAll_at aX10_goes_0 22 rfl
theorem dX10_goes_36 : decode cX10_goes 36 = .ok (.invokevirtual 437, 3) := decAll_at aX10_goes_0 23 rfl
theorem dX10_goes_39 : decode cX10_goes 39 = .ok (.istore 6, 2) := decAll_at aX10_goes_0 24 rfl
theorem dX10_goes_41 : decode cX10_goes 41 = .ok (.iload 6, 2) := decAll_at aX10_goes_0 25 rfl
theorem dX10_goes_43 : decode cX10_goes 43 = .ok (.ifCond .lt 24, 3) := decAll_at aX10_goes_0 26 rfl
theorem dX10_goes_46 : decode cX10_goes 46 = .ok (.iload_n 3, 1) := decAll_at aX10_goes_0 27 rfl
theorem dX10_goes_47 : decode cX10_goes 47 = .ok (.ifCond .le 13, 3) := decAll_at aX10_goes_0 28 rfl
theorem dX10_goes_50 : decode cX10_goes 50 = .ok (.iload 6, 2) := decAll_at aX10_goes_0 29 rfl
theorem dX10_goes_52 : decode cX10_goes 52 = .ok (.iload 4, 2) := decAll_at aX10_goes_0 30 rfl
theorem dX10_goes_54 : decode cX10_goes 54 = .ok (.if_icmp .lt 6, 3) := decAll_at aX10_goes_0 31 rfl
theorem dX10_goes_57 : decode cX10_goes 57 = .ok (.goto 10, 3) := decAll_at aX10_goes_0 32 rfl
theorem dX10_goes_60 : decode cX10_goes 60 = .ok (.iload 5, 2) := decAll_at aX10_goes_0 33 rfl
theorem dX10_goes_62 : decode cX10_goes 62 = .ok (.istore_n 3, 1) := decAll_at aX10_goes_0 34 rfl
theorem dX10_goes_63 : decode cX10_goes 63 = .ok (.iload 6, 2) := decAll_at aX10_goes_0 35 rfl
theorem dX10_goes_65 : decode cX10_goes 65 = .ok (.istore 4, 2) := decAll_at aX10_goes_0 36 rfl
theorem dX10_goes_67 : decode cX10_goes 67 = .ok (.iinc 5 1, 3) := decAll_at aX10_goes_0 37 rfl
theorem dX10_goes_70 : decode cX10_goes 70 = .ok (.goto (-44), 3) := decAll_at aX10_goes_0 38 rfl
theorem dX10_goes_73 : decode cX10_goes 73 = .ok (.iload_n 3, 1) := decAll_at aX10_goes_0 39 rfl
theorem dX10_goes_74 : decode cX10_goes 74 = .ok (.ireturn, 1) := decAll_at aX10_goes_0 40 rfl
def laX10_carried_0 : List (Nat × Instr × Nat) := [(0, .aload_n 0, 1), (1, .iload_n 1, 1), (2, .iload_n 2, 1), (3, .invokevirtual 378, 3), (6, .ifCond .eq 13, 3), (9, .iload_n 3, 1), (10, .i2l, 1), (11, .lconst 0, 1), (12, .lconst 1, 1), (13, .invokestatic 153, 3), (16, .ifCond .ne 6, 3), (19, .bipush (-3), 2), (21, .ireturn, 1), (22, .aload_n 0, 1), (23, .iload_n 1, 1), (24, .iload_n 2, 1), (25, .invokevirtual 384, 3), (28, .aload_n 0, 1), (29, .iload_n 1, 1), (30, .aload_n 0, 1), (31, .invokevirtual 414, 3), (34, .iconst 1, 1), (35, .invokevirtual 417, 3), (38, .aload_n 0, 1), (39, .iconst (-1), 1), (40, .invokevirtual 421, 3), (43, .istore 4, 2), (45, .iload 4, 2), (47, .ifCond .ne 9, 3), (50, .ldc_w 430, 3), (53, .goto 10, 3), (56, .aload_n 0, 1), (57, .iload_n 1, 1), (58, .iload 4, 2), (60, .invokevirtual 390, 3), (63, .istore 5, 2), (65, .iconst (-1), 1), (66, .istore 6, 2), (68, .iconst 0, 1), (69, .istore 7, 2), (71, .iload 7, 2), (73, .aload_n 0, 1), (74, .getfield 150, 3), (77, .if_icmp .ge 110, 3), (80, .aload_n 0, 1), (81, .getfield 150, 3), (84, .iconst 1, 1), (85, .if_icmp .le 102, 3), (88, .aload_n 0, 1), (89, .iload_n 1, 1), (90, .aload_n 0, 1), (91, .invokevirtual 414, 3), (94, .iconst 1, 1), (95, .iload 7, 2), (97, .ishl, 1), (98, .iconst (-1), 1), (99, .ixor, 1), (100, .iand, 1), (101, .iconst 1, 1), (102, .invokevirtual 417, 3), (105, .aload_n 0, 1), (106, .getfield 91, 3), (109, .aload_n 0, 1), (110, .getfield 396, 3)]
theorem aX10_carried_0 : decAll cX10_carried laX10_carried_0 = true := by decide +kernel
theorem dX10_carried_0 : decode cX10_carried 0 = .ok (.aload_n 0, 1) := decAll_at aX10_carried_0 0 rfl
theorem dX10_carried_1 : decode cX10_carried 1 = .ok (.iload_n 1, 1) := decAll_at aX10_carried_0 1 rfl
theorem dX10_carried_2 : decode cX10_carried 2 = .ok (.iload_n 2, 1) := decAll_at aX10_carried_0 2 rfl
theorem dX10_carried_3 : decode cX10_carried 3 = .ok (.invokevirtual 378, 3) := decAll_at aX10_carried_0 3 rfl
theorem dX10_carried_6 : decode cX10_carried 6 = .ok (.ifCond .eq 13, 3) := decAll_at aX10_carried_0 4 rfl
theorem dX10_carried_9 : decode cX10_carried 9 = .ok (.iload_n 3, 1) := decAll_at aX10_carried_0 5 rfl
theorem dX10_carried_10 : decode cX10_carried 10 = .ok (.i2l, 1) := decAll_at aX10_carried_0 6 rfl
theorem dX10_carried_11 : decode cX10_carried 11 = .ok (.lconst 0, 1) := decAll_at aX10_carried_0 7 rfl
theorem dX10_carried_12 : decode cX10_carried 12 = .ok (.lconst 1, 1) := decAll_at aX10_carried_0 8 rfl
theorem dX10_carried_13 : decode cX10_carried 13 = .ok (.invokestatic 153, 3) := decAll_at aX10_carried_0 9 rfl
theorem dX10_carried_16 : decode cX10_carried 16 = .ok (.ifCond .ne 6, 3) := decAll_at aX10_carried_0 10 rfl
theorem dX10_carried_19 : decode cX10_carried 19 = .ok (.bipush (-3), 2) := decAll_at aX10_carried_0 11 rfl
theorem dX10_carried_21 : decode cX10_carried 21 = .ok (.ireturn, 1) := decAll_at aX10_carried_0 12 rfl
theorem dX10_carried_22 : decode cX10_carried 22 = .ok (.aload_n 0, 1) := decAll_at aX10_carried_0 13 rfl
theorem dX10_carried_23 : decode cX10_carried 23 = .ok (.iload_n 1, 1) := decAll_at aX10_carried_0 14 rfl
theorem dX10_carried_24 : decode cX10_carried 24 = .ok (.iload_n 2, 1) := decAll_at aX10_carried_0 15 rfl
theorem dX10_carried_25 : decode cX10_carried 25 = .ok (.invokevirtual 384, 3) := decAll_at aX10_carried_0 16 rfl
theorem dX10_carried_28 : decode cX10_carried 28 = .ok (.aload_n 0, 1) := decAll_at aX10_carried_0 17 rfl
theorem dX10_carried_29 : decode cX10_carried 29 = .ok (.iload_n 1, 1) := decAll_at aX10_carried_0 18 rfl
theorem dX10_carried_30 : decode cX10_carried 30 = .ok (.aload_n 0, 1) := decAll_at aX10_carried_0 19 rfl
theorem dX10_carried_31 : decode cX10_carried 31 = .ok (.invokevirtual 414, 3) := decAll_at aX10_carried_0 20 rfl
theorem dX10_carried_34 : decode cX10_carried 34 = .ok (.iconst 1, 1) := decAll_at aX10_carried_0 21 rfl
theorem dX10_carried_35 : decode cX10_carried 35 = .ok (.invokevirtual 417, 3) := decAll_at aX10_carried_0 22 rfl
theorem dX10_carried_38 : decode cX10_carried 38 = .ok (.aload_n 0, 1) := decAll_at aX10_carried_0 23 rfl
theorem dX10_carried_39 : decode cX10_carried 39 = .ok (.iconst (-1), 1) := decAll_at aX10_carried_0 24 rfl
theorem dX10_carried_40 : decode cX10_carried 40 = .ok (.invokevirtual 421, 3) := decAll_at aX10_carried_0 25 rfl
theorem dX10_carried_43 : decode cX10_carried 43 = .ok (.istore 4, 2) := decAll_at aX10_carried_0 26 rfl
theorem dX10_carried_45 : decode cX10_carried 45 = .ok (.iload 4, 2) := decAll_at aX10_carried_0 27 rfl
theorem dX10_carried_47 : decode cX10_carried 47 = .ok (.ifCond .ne 9, 3) := decAll_at aX10_carried_0 28 rfl
theorem dX10_carried_50 : decode cX10_carried 50 = .ok (.ldc_w 430, 3) := decAll_at aX10_carried_0 29 rfl
theorem dX10_carried_53 : decode cX10_carried 53 = .ok (.goto 10, 3) := decAll_at aX10_carried_0 30 rfl
theorem dX10_carried_56 : decode cX10_carried 56 = .ok (.aload_n 0, 1) := decAll_at aX10_carried_0 31 rfl
theorem dX10_carried_57 : decode cX10_carried 57 = .ok (.iload_n 1, 1) := decAll_at aX10_carried_0 32 rfl
theorem dX10_carried_58 : decode cX10_carried 58 = .ok (.iload 4, 2) := decAll_at aX10_carried_0 33 rfl
theorem dX10_carried_60 : decode cX10_carried 60 = .ok (.invokevirtual 390, 3) := decAll_at aX10_carried_0 34 rfl
theorem dX10_carried_63 : decode cX10_carried 63 = .ok (.istore 5, 2) := decAll_at aX10_carried_0 35 rfl
theorem dX10_carried_65 : decode cX10_carried 65 = .ok (.iconst (-1), 1) := decAll_at aX10_carried_0 36 rfl
theorem dX10_carried_66 : decode cX10_carried 66 = .ok (.istore 6, 2) := decAll_at aX10_carried_0 37 rfl
theorem dX10_carried_68 : decode cX10_carried 68 = .ok (.iconst 0, 1) := decAll_at aX10_carried_0 38 rfl
theorem dX10_carried_69 : decode cX10_carried 69 = .ok (.istore 7, 2) := decAll_at aX10_carried_0 39 rfl
theorem dX10_carried_71 : decode cX10_carried 71 = .ok (.iload 7, 2) := decAll_at aX10_carried_0 40 rfl
theorem dX10_carried_73 : decode cX10_carried 73 = .ok (.aload_n 0, 1) := decAll_at aX10_carried_0 41 rfl
theorem dX10_carried_74 : decode cX10_carried 74 = .ok (.getfield 150, 3) := decAll_at aX10_carried_0 42 rfl
theorem dX10_carried_77 : decode cX10_carried 77 = .ok (.if_icmp .ge 110, 3) := decAll_at aX10_carried_0 43 rfl
theorem dX10_carried_80 : decode cX10_carried 80 = .ok (.aload_n 0, 1) := decAll_at aX10_carried_0 44 rfl
theorem dX10_carried_81 : decode cX10_carried 81 = .ok (.getfield 150, 3) := decAll_at aX10_carried_0 45 rfl
theorem dX10_carried_84 : decode cX10_carried 84 = .ok (.iconst 1, 1) := decAll_at aX10_carried_0 46 rfl
theorem dX10_carried_85 : decode cX10_carried 85 = .ok (.if_icmp .le 102, 3) := decAll_at aX10_carried_0 47 rfl
theorem dX10_carried_88 : decode cX10_carried 88 = .ok (.aload_n 0, 1) := decAll_at aX10_carried_0 48 rfl
theorem dX10_carried_89 : decode cX10_carried 89 = .ok (.iload_n 1, 1) := decAll_at aX10_carried_0 49 rfl
theorem dX10_carried_90 : decode cX10_carried 90 = .ok (.aload_n 0, 1) := decAll_at aX10_carried_0 50 rfl
theorem dX10_carried_91 : decode cX10_carried 91 = .ok (.invokevirtual 414, 3) := decAll_at aX10_carried_0 51 rfl
theorem dX10_carried_94 : decode cX10_carried 94 = .ok (.iconst 1, 1) := decAll_at aX10_carried_0 52 rfl
theorem dX10_carried_95 : decode cX10_carried 95 = .ok (.iload 7, 2) := decAll_at aX10_carried_0 53 rfl
theorem dX10_carried_97 : decode cX10_carried 97 = .ok (.ishl, 1) := decAll_at aX10_carried_0 54 rfl
theorem dX10_carried_98 : decode cX10_carried 98 = .ok (.iconst (-1), 1) := decAll_at aX10_carried_0 55 rfl
theorem dX10_carried_99 : decode cX10_carried 99 = .ok (.ixor, 1) := decAll_at aX10_carried_0 56 rfl
theorem dX10_carried_100 : decode cX10_carried 100 = .ok (.iand, 1) := decAll_at aX10_carried_0 57 rfl
theorem dX10_carried_101 : decode cX10_carried 101 = .ok (.iconst 1, 1) := decAll_at aX10_carried_0 58 rfl
theorem dX10_carried_102 : decode cX10_carried 102 = .ok (.invokevirtual 417, 3) := decAll_at aX10_carried_0 59 rfl
theorem dX10_carried_105 : decode cX10_carried 105 = .ok (.aload_n 0, 1) := decAll_at aX10_carried_0 60 rfl
theorem dX10_carried_106 : decode cX10_carried 106 = .ok (.getfield 91, 3) := decAll_at aX10_carried_0 61 rfl
theorem dX10_carried_109 : decode cX10_carried 109 = .ok (.aload_n 0, 1) := decAll_at aX10_carried_0 62 rfl
theorem dX10_carried_110 : decode cX10_carried 110 = .ok (.getfield 396, 3) := decAll_at aX10_carried_0 63 rfl
def laX10_carried_1 : List (Nat × Instr × Nat) := [(113, .aload_n 0, 1), (114, .getfield 21, 3), (117, .iload 7, 2), (119, .iaload, 1), (120, .iastore, 1), (121, .aload_n 0, 1), (122, .getfield 94, 3), (125, .aload_n 0, 1), (126, .getfield 396, 3), (129, .iconst (-1), 1), (130, .iastore, 1), (131, .aload_n 0, 1), (132, .dup, 1), (133, .getfield 396, 3), (136, .iconst 1, 1), (137, .iadd, 1), (138, .putfield 396, 3), (141, .aload_n 0, 1), (142, .iconst (-1), 1), (143, .invokevirtual 421, 3), (146, .istore 8, 2), (148, .iload 8, 2), (150, .ifCond .eq 31, 3), (153, .aload_n 0, 1), (154, .iload_n 1, 1), (155, .iload 8, 2), (157, .invokevirtual 390, 3), (160, .iload 5, 2), (162, .if_icmp .lt 6, 3), (165, .goto 16, 3), (168, .aload_n 0, 1), (169, .iload_n 1, 1), (170, .iload 8, 2), (172, .invokevirtual 390, 3), (175, .istore 5, 2), (177, .iload 7, 2), (179, .istore 6, 2), (181, .iinc 7 1, 3), (184, .goto (-113), 3), (187, .iload 5, 2), (189, .ldc_w 430, 3), (192, .if_icmp .ne 8, 3), (195, .bipush (-2), 2), (197, .goto 14, 3), (200, .iload_n 3, 1), (201, .ifCond .ne 8, 3), (204, .iload 6, 2), (206, .goto 5, 3), (209, .iload 5, 2), (211, .ireturn, 1)]
theorem aX10_carried_1 : decAll cX10_carried laX10_carried_1 = true := by decide +kernel
theorem dX10_carried_113 : decode cX10_carried 113 = .ok (.aload_n 0, 1) := decAll_at aX10_carried_1 0 rfl
theorem dX10_carried_114 : decode cX10_carried 114 = .ok (.getfield 21, 3) := decAll_at aX10_carried_1 1 rfl
theorem dX10_carried_117 : decode cX10_carried 117 = .ok (.iload 7, 2) := decAll_at aX10_carried_1 2 rfl
theorem dX10_carried_119 : decode cX10_carried 119 = .ok (.iaload, 1) := decAll_at aX10_carried_1 3 rfl
theorem dX10_carried_120 : decode cX10_carried 120 = .ok (.iastore, 1) := decAll_at aX10_carried_1 4 rfl
theorem dX10_carried_121 : decode cX10_carried 121 = .ok (.aload_n 0, 1) := decAll_at aX10_carried_1 5 rfl
theorem dX10_carried_122 : decode cX10_carried 122 = .ok (.getfield 94, 3) := decAll_at aX10_carried_1 6 rfl
theorem dX10_carried_125 : decode cX10_carried 125 = .ok (.aload_n 0, 1) := decAll_at aX10_carried_1 7 rfl
theorem dX10_carried_126 : decode cX10_carried 126 = .ok (.getfield 396, 3) := decAll_at aX10_carried_1 8 rfl
theorem dX10_carried_129 : decode cX10_carried 129 = .ok (.iconst (-1), 1) := decAll_at aX10_carried_1 9 rfl
theorem dX10_carried_130 : decode cX10_carried 130 = .ok (.iastore, 1) := decAll_at aX10_carried_1 10 rfl
theorem dX10_carried_131 : decode cX10_carried 131 = .ok (.aload_n 0, 1) := decAll_at aX10_carried_1 11 rfl
theorem dX10_carried_132 : decode cX10_carried 132 = .ok (.dup, 1) := decAll_at aX10_carried_1 12 rfl
theorem dX10_carried_133 : decode cX10_carried 133 = .ok (.getfield 396, 3) := decAll_at aX10_carried_1 13 rfl
theorem dX10_carried_136 : decode cX10_carried 136 = .ok (.iconst 1, 1) := decAll_at aX10_carried_1 14 rfl
theorem dX10_carried_137 : decode cX10_carried 137 = .ok (.iadd, 1) := decAll_at aX10_carried_1 15 rfl
theorem dX10_carried_138 : decode cX10_carried 138 = .ok (.putfield 396, 3) := decAll_at aX10_carried_1 16 rfl
theorem dX10_carried_141 : decode cX10_carried 141 = .ok (.aload_n 0, 1) := decAll_at aX10_carried_1 17 rfl
theorem dX10_carried_142 : decode cX10_carried 142 = .ok (.iconst (-1), 1) := decAll_at aX10_carried_1 18 rfl
theorem dX10_carried_143 : decode cX10_carried 143 = .ok (.invokevirtual 421, 3) := decAll_at aX10_carried_1 19 rfl
theorem dX10_carried_146 : decode cX10_carried 146 = .ok (.istore 8, 2) := decAll_at aX10_carried_1 20 rfl
theorem dX10_carried_148 : decode cX10_carried 148 = .ok (.iload 8, 2) := decAll_at aX10_carried_1 21 rfl
theorem dX10_carried_150 : decode cX10_carried 150 = .ok (.ifCond .eq 31, 3) := decAll_at aX10_carried_1 22 rfl
theorem dX10_carried_153 : decode cX10_carried 153 = .ok (.aload_n 0, 1) := decAll_at aX10_carried_1 23 rfl
theorem dX10_carried_154 : decode cX10_carried 154 = .ok (.iload_n 1, 1) := decAll_at aX10_carried_1 24 rfl
theorem dX10_carried_155 : decode cX10_carried 155 = .ok (.iload 8, 2) := decAll_at aX10_carried_1 25 rfl
theorem dX10_carried_157 : decode cX10_carried 157 = .ok (.invokevirtual 390, 3) := decAll_at aX10_carried_1 26 rfl
theorem dX10_carried_160 : decode cX10_carried 160 = .ok (.iload 5, 2) := decAll_at aX10_carried_1 27 rfl
theorem dX10_carried_162 : decode cX10_carried 162 = .ok (.if_icmp .lt 6, 3) := decAll_at aX10_carried_1 28 rfl
theorem dX10_carried_165 : decode cX10_carried 165 = .ok (.goto 16, 3) := decAll_at aX10_carried_1 29 rfl
theorem dX10_carried_168 : decode cX10_carried 168 = .ok (.aload_n 0, 1) := decAll_at aX10_carried_1 30 rfl
theorem dX10_carried_169 : decode cX10_carried 169 = .ok (.iload_n 1, 1) := decAll_at aX10_carried_1 31 rfl
theorem dX10_carried_170 : decode cX10_carried 170 = .ok (.iload 8, 2) := decAll_at aX10_carried_1 32 rfl
theorem dX10_carried_172 : decode cX10_carried 172 = .ok (.invokevirtual 390, 3) := decAll_at aX10_carried_1 33 rfl
theorem dX10_carried_175 : decode cX10_carried 175 = .ok (.istore 5, 2) := decAll_at aX10_carried_1 34 rfl
theorem dX10_carried_177 : decode cX10_carried 177 = .ok (.iload 7, 2) := decAll_at aX10_carried_1 35 rfl
theorem dX10_carried_179 : decode cX10_carried 179 = .ok (.istore 6, 2) := decAll_at aX10_carried_1 36 rfl
theorem dX10_carried_181 : decode cX10_carried 181 = .ok (.iinc 7 1, 3) := decAll_at aX10_carried_1 37 rfl
theorem dX10_carried_184 : decode cX10_carried 184 = .ok (.goto (-113), 3) := decAll_at aX10_carried_1 38 rfl
theorem dX10_carried_187 : decode cX10_carried 187 = .ok (.iload 5, 2) := decAll_at aX10_carried_1 39 rfl
theorem dX10_carried_189 : decode cX10_carried 189 = .ok (.ldc_w 430, 3) := decAll_at aX10_carried_1 40 rfl
theorem dX10_carried_192 : decode cX10_carried 192 = .ok (.if_icmp .ne 8, 3) := decAll_at aX10_carried_1 41 rfl
theorem dX10_carried_195 : decode cX10_carried 195 = .ok (.bipush (-2), 2) := decAll_at aX10_carried_1 42 rfl
theorem dX10_carried_197 : decode cX10_carried 197 = .ok (.goto 14, 3) := decAll_at aX10_carried_1 43 rfl
theorem dX10_carried_200 : decode cX10_carried 200 = .ok (.iload_n 3, 1) := decAll_at aX10_carried_1 44 rfl
theorem dX10_carried_201 : decode cX10_carried 201 = .ok (.ifCond .ne 8, 3) := decAll_at aX10_carried_1 45 rfl
theorem dX10_carried_204 : decode cX10_carried 204 = .ok (.iload 6, 2) := decAll_at aX10_carried_1 46 rfl
theorem dX10_carried_206 : decode cX10_carried 206 = .ok (.goto 5, 3) := decAll_at aX10_carried_1 47 rfl
theorem dX10_carried_209 : decode cX10_carried 209 = .ok (.iload 5, 2) := decAll_at aX10_carried_1 48 rfl
theorem dX10_carried_211 : decode cX10_carried 211 = .ok (.ireturn, 1) := decAll_at aX10_carried_1 49 rfl
def laX10_partsTime_0 : List (Nat × Instr × Nat) := [(0, .aload_n 0, 1), (1, .iload_n 2, 1), (2, .invokevirtual 387, 3), (5, .istore_n 3, 1), (6, .iload_n 3, 1), (7, .ifCond .ne 9, 3), (10, .ldc_w 430, 3), (13, .goto 9, 3), (16, .aload_n 0, 1), (17, .iload_n 1, 1), (18, .iload_n 3, 1), (19, .invokevirtual 390, 3), (22, .ireturn, 1)]
theorem aX10_partsTime_0 : decAll cX10_partsTime laX10_partsTime_0 = true := by decide +kernel
theorem dX10_partsTime_0 : decode cX10_partsTime 0 = .ok (.aload_n 0, 1) := decAll_at aX10_partsTime_0 0 rfl
theorem dX10_partsTime_1 : decode cX10_partsTime 1 = .ok (.iload_n 2, 1) := decAll_at aX10_partsTime_0 1 rfl
theorem dX10_partsTime_2 : decode cX10_partsTime 2 = .ok (.invokevirtual 387, 3) := decAll_at aX10_partsTime_0 2 rfl
theorem dX10_partsTime_5 : decode cX10_partsTime 5 = .ok (.istore_n 3, 1) := decAll_at aX10_partsTime_0 3 rfl
theorem dX10_partsTime_6 : decode cX10_partsTime 6 = .ok (.iload_n 3, 1) := decAll_at aX10_partsTime_0 4 rfl
theorem dX10_partsTime_7 : decode cX10_partsTime 7 = .ok (.ifCond .ne 9, 3) := decAll_at aX10_partsTime_0 5 rfl
theorem dX10_partsTime_10 : decode cX10_partsTime 10 = .ok (.ldc_w 430, 3) := decAll_at aX10_partsTime_0 6 rfl
theorem dX10_partsTime_13 : decode cX10_partsTime 13 = .ok (.goto 9, 3) := decAll_at aX10_partsTime_0 7 rfl
theorem dX10_partsTime_16 : decode cX10_partsTime 16 = .ok (.aload_n 0, 1) := decAll_at aX10_partsTime_0 8 rfl
theorem dX10_partsTime_17 : decode cX10_partsTime 17 = .ok (.iload_n 1, 1) := decAll_at aX10_partsTime_0 9 rfl
theorem dX10_partsTime_18 : decode cX10_partsTime 18 = .ok (.iload_n 3, 1) := decAll_at aX10_partsTime_0 10 rfl
theorem dX10_partsTime_19 : decode cX10_partsTime 19 = .ok (.invokevirtual 390, 3) := decAll_at aX10_partsTime_0 11 rfl
theorem dX10_partsTime_22 : decode cX10_partsTime 22 = .ok (.ireturn, 1) := decAll_at aX10_partsTime_0 12 rfl
def laX10_mule_0 : List (Nat × Instr × Nat) := [(0, .iload_n 1, 1), (1, .i2l, 1), (2, .lconst 1, 1), (3, .ldc2_w 440, 3), (6, .invokestatic 153, 3), (9, .ifCond .eq 42, 3), (12, .iload_n 2, 1), (13, .i2l, 1), (14, .lconst 1, 1), (15, .aload_n 0, 1), (16, .getfield 160, 3), (19, .i2l, 1), (20, .invokestatic 153, 3), (23, .ifCond .eq 28, 3), (26, .iload_n 3, 1), (27, .invokestatic 373, 3), (30, .ifCond .eq 21, 3), (33, .aload_n 0, 1), (34, .getfield 150, 3), (37, .ifCond .eq 14, 3), (40, .iload 4, 2), (42, .i2l, 1), (43, .lconst 0, 1), (44, .lconst 1, 1), (45, .invokestatic 153, 3), (48, .ifCond .ne 5, 3), (51, .iconst (-1), 1), (52, .ireturn, 1), (53, .iconst 0, 1), (54, .istore 5, 2), (56, .iload 5, 2), (58, .aload_n 0, 1), (59, .getfield 160, 3), (62, .if_icmp .ge 66, 3), (65, .aload_n 0, 1), (66, .iload 5, 2), (68, .iload_n 3, 1), (69, .invokevirtual 384, 3), (72, .aload_n 0, 1), (73, .iload 5, 2), (75, .invokevirtual 434, 3), (78, .istore 6, 2), (80, .aload_n 0, 1), (81, .getfield 109, 3), (84, .iload 5, 2), (86, .aload_n 0, 1), (87, .iload 5, 2), (89, .iload 6, 2), (91, .invokevirtual 442, 3), (94, .iastore, 1), (95, .aload_n 0, 1), (96, .getfield 112, 3), (99, .iload 5, 2), (101, .aload_n 0, 1), (102, .iload 5, 2), (104, .iload 6, 2), (106, .iload_n 1, 1), (107, .if_icmp .ge 7, 3), (110, .iconst 0, 1), (111, .goto 7, 3), (114, .iload 6, 2), (116, .iload_n 1, 1), (117, .isub, 1), (118, .invokevirtual 442, 3)]
theorem aX10_mule_0 : decAll cX10_mule laX10_mule_0 = true := by decide +kernel
theorem dX10_mule_0 : decode cX10_mule 0 = .ok (.iload_n 1, 1) := decAll_at aX10_mule_0 0 rfl
theorem dX10_mule_1 : decode cX10_mule 1 = .ok (.i2l, 1) := decAll_at aX10_mule_0 1 rfl
theorem dX10_mule_2 : decode cX10_mule 2 = .ok (.lconst 1, 1) := decAll_at aX10_mule_0 2 rfl
theorem dX10_mule_3 : decode cX10_mule 3 = .ok (.ldc2_w 440, 3) := decAll_at aX10_mule_0 3 rfl
theorem dX10_mule_6 : decode cX10_mule 6 = .ok (.invokestatic 153, 3) := decAll_at aX10_mule_0 4 rfl
theorem dX10_mule_9 : decode cX10_mule 9 = .ok (.ifCond .eq 42, 3) := decAll_at aX10_mule_0 5 rfl
theorem dX10_mule_12 : decode cX10_mule 12 = .ok (.iload_n 2, 1) := decAll_at aX10_mule_0 6 rfl
theorem dX10_mule_13 : decode cX10_mule 13 = .ok (.i2l, 1) := decAll_at aX10_mule_0 7 rfl
theorem dX10_mule_14 : decode cX10_mule 14 = .ok (.lconst 1, 1) := decAll_at aX10_mule_0 8 rfl
theorem dX10_mule_15 : decode cX10_mule 15 = .ok (.aload_n 0, 1) := decAll_at aX10_mule_0 9 rfl
theorem dX10_mule_16 : decode cX10_mule 16 = .ok (.getfield 160, 3) := decAll_at aX10_mule_0 10 rfl
theorem dX10_mule_19 : decode cX10_mule 19 = .ok (.i2l, 1) := decAll_at aX10_mule_0 11 rfl
theorem dX10_mule_20 : decode cX10_mule 20 = .ok (.invokestatic 153, 3) := decAll_at aX10_mule_0 12 rfl
theorem dX10_mule_23 : decode cX10_mule 23 = .ok (.ifCond .eq 28, 3) := decAll_at aX10_mule_0 13 rfl
theorem dX10_mule_26 : decode cX10_mule 26 = .ok (.iload_n 3, 1) := decAll_at aX10_mule_0 14 rfl
theorem dX10_mule_27 : decode cX10_mule 27 = .ok (.invokestatic 373, 3) := decAll_at aX10_mule_0 15 rfl
theorem dX10_mule_30 : decode cX10_mule 30 = .ok (.ifCond .eq 21, 3) := decAll_at aX10_mule_0 16 rfl
theorem dX10_mule_33 : decode cX10_mule 33 = .ok (.aload_n 0, 1) := decAll_at aX10_mule_0 17 rfl
theorem dX10_mule_34 : decode cX10_mule 34 = .ok (.getfield 150, 3) := decAll_at aX10_mule_0 18 rfl
theorem dX10_mule_37 : decode cX10_mule 37 = .ok (.ifCond .eq 14, 3) := decAll_at aX10_mule_0 19 rfl
theorem dX10_mule_40 : decode cX10_mule 40 = .ok (.iload 4, 2) := decAll_at aX10_mule_0 20 rfl
theorem dX10_mule_42 : decode cX10_mule 42 = .ok (.i2l, 1) := decAll_at aX10_mule_0 21 rfl
theorem dX10_mule_43 : decode cX10_mule 43 = .ok (.lconst 0, 1) := decAll_at aX10_mule_0 22 rfl
theorem dX10_mule_44 : decode cX10_mule 44 = .ok (.lconst 1, 1) := decAll_at aX10_mule_0 23 rfl
theorem dX10_mule_45 : decode cX10_mule 45 = .ok (.invokestatic 153, 3) := decAll_at aX10_mule_0 24 rfl
theorem dX10_mule_48 : decode cX10_mule 48 = .ok (.ifCond .ne 5, 3) := decAll_at aX10_mule_0 25 rfl
theorem dX10_mule_51 : decode cX10_mule 51 = .ok (.iconst (-1), 1) := decAll_at aX10_mule_0 26 rfl
theorem dX10_mule_52 : decode cX10_mule 52 = .ok (.ireturn, 1) := decAll_at aX10_mule_0 27 rfl
theorem dX10_mule_53 : decode cX10_mule 53 = .ok (.iconst 0, 1) := decAll_at aX10_mule_0 28 rfl
theorem dX10_mule_54 : decode cX10_mule 54 = .ok (.istore 5, 2) := decAll_at aX10_mule_0 29 rfl
theorem dX10_mule_56 : decode cX10_mule 56 = .ok (.iload 5, 2) := decAll_at aX10_mule_0 30 rfl
theorem dX10_mule_58 : decode cX10_mule 58 = .ok (.aload_n 0, 1) := decAll_at aX10_mule_0 31 rfl
theorem dX10_mule_59 : decode cX10_mule 59 = .ok (.getfield 160, 3) := decAll_at aX10_mule_0 32 rfl
theorem dX10_mule_62 : decode cX10_mule 62 = .ok (.if_icmp .ge 66, 3) := decAll_at aX10_mule_0 33 rfl
theorem dX10_mule_65 : decode cX10_mule 65 = .ok (.aload_n 0, 1) := decAll_at aX10_mule_0 34 rfl
theorem dX10_mule_66 : decode cX10_mule 66 = .ok (.iload 5, 2) := decAll_at aX10_mule_0 35 rfl
theorem dX10_mule_68 : decode cX10_mule 68 = .ok (.iload_n 3, 1) := decAll_at aX10_mule_0 36 rfl
theorem dX10_mule_69 : decode cX10_mule 69 = .ok (.invokevirtual 384, 3) := decAll_at aX10_mule_0 37 rfl
theorem dX10_mule_72 : decode cX10_mule 72 = .ok (.aload_n 0, 1) := decAll_at aX10_mule_0 38 rfl
theorem dX10_mule_73 : decode cX10_mule 73 = .ok (.iload 5, 2) := decAll_at aX10_mule_0 39 rfl
theorem dX10_mule_75 : decode cX10_mule 75 = .ok (.invokevirtual 434, 3) := decAll_at aX10_mule_0 40 rfl
theorem dX10_mule_78 : decode cX10_mule 78 = .ok (.istore 6, 2) := decAll_at aX10_mule_0 41 rfl
theorem dX10_mule_80 : decode cX10_mule 80 = .ok (.aload_n 0, 1) := decAll_at aX10_mule_0 42 rfl
theorem dX10_mule_81 : decode cX10_mule 81 = .ok (.getfield 109, 3) := decAll_at aX10_mule_0 43 rfl
theorem dX10_mule_84 : decode cX10_mule 84 = .ok (.iload 5, 2) := decAll_at aX10_mule_0 44 rfl
theorem dX10_mule_86 : decode cX10_mule 86 = .ok (.aload_n 0, 1) := decAll_at aX10_mule_0 45 rfl
theorem dX10_mule_87 : decode cX10_mule 87 = .ok (.iload 5, 2) := decAll_at aX10_mule_0 46 rfl
theorem dX10_mule_89 : decode cX10_mule 89 = .ok (.iload 6, 2) := decAll_at aX10_mule_0 47 rfl
theorem dX10_mule_91 : decode cX10_mule 91 = .ok (.invokevirtual 442, 3) := decAll_at aX10_mule_0 48 rfl
theorem dX10_mule_94 : decode cX10_mule 94 = .ok (.iastore, 1) := decAll_at aX10_mule_0 49 rfl
theorem dX10_mule_95 : decode cX10_mule 95 = .ok (.aload_n 0, 1) := decAll_at aX10_mule_0 50 rfl
theorem dX10_mule_96 : decode cX10_mule 96 = .ok (.getfield 112, 3) := decAll_at aX10_mule_0 51 rfl
theorem dX10_mule_99 : decode cX10_mule 99 = .ok (.iload 5, 2) := decAll_at aX10_mule_0 52 rfl
theorem dX10_mule_101 : decode cX10_mule 101 = .ok (.aload_n 0, 1) := decAll_at aX10_mule_0 53 rfl
theorem dX10_mule_102 : decode cX10_mule 102 = .ok (.iload 5, 2) := decAll_at aX10_mule_0 54 rfl
theorem dX10_mule_104 : decode cX10_mule 104 = .ok (.iload 6, 2) := decAll_at aX10_mule_0 55 rfl
theorem dX10_mule_106 : decode cX10_mule 106 = .ok (.iload_n 1, 1) := decAll_at aX10_mule_0 56 rfl
theorem dX10_mule_107 : decode cX10_mule 107 = .ok (.if_icmp .ge 7, 3) := decAll_at aX10_mule_0 57 rfl
theorem dX10_mule_110 : decode cX10_mule 110 = .ok (.iconst 0, 1) := decAll_at aX10_mule_0 58 rfl
theorem dX10_mule_111 : decode cX10_mule 111 = .ok (.goto 7, 3) := decAll_at aX10_mule_0 59 rfl
theorem dX10_mule_114 : decode cX10_mule 114 = .ok (.iload 6, 2) := decAll_at aX10_mule_0 60 rfl
theorem dX10_mule_116 : decode cX10_mule 116 = .ok (.iload_n 1, 1) := decAll_at aX10_mule_0 61 rfl
theorem dX10_mule_117 : decode cX10_mule 117 = .ok (.isub, 1) := decAll_at aX10_mule_0 62 rfl
theorem dX10_mule_118 : decode cX10_mule 118 = .ok (.invokevirtual 442, 3) := decAll_at aX10_mule_0 63 rfl
def laX10_mule_1 : List (Nat × Instr × Nat) := [(121, .iastore, 1), (122, .iinc 5 1, 3), (125, .goto (-69), 3), (128, .iconst (-1), 1), (129, .istore 5, 2), (131, .ldc2_w 445, 3), (134, .lstore 6, 2), (136, .iconst 0, 1), (137, .istore 8, 2), (139, .iload 8, 2), (141, .iload_n 2, 1), (142, .iadd, 1), (143, .aload_n 0, 1), (144, .getfield 160, 3), (147, .if_icmp .gt 89, 3), (150, .lconst 0, 1), (151, .lstore 9, 2), (153, .iconst 0, 1), (154, .istore 11, 2), (156, .iload 11, 2), (158, .aload_n 0, 1), (159, .getfield 160, 3), (162, .if_icmp .ge 49, 3), (165, .lload 9, 2), (167, .iload 11, 2), (169, .iload 8, 2), (171, .if_icmp .lt 23, 3), (174, .iload 11, 2), (176, .iload 8, 2), (178, .iload_n 2, 1), (179, .iadd, 1), (180, .if_icmp .ge 14, 3), (183, .aload_n 0, 1), (184, .getfield 112, 3), (187, .iload 11, 2), (189, .iaload, 1), (190, .i2l, 1), (191, .goto 11, 3), (194, .aload_n 0, 1), (195, .getfield 109, 3), (198, .iload 11, 2), (200, .iaload, 1), (201, .i2l, 1), (202, .ladd, 1), (203, .lstore 9, 2), (205, .iinc 11 1, 3), (208, .goto (-52), 3), (211, .lload 9, 2), (213, .lload 6, 2), (215, .lcmp, 1), (216, .ifCond .lt 6, 3), (219, .goto 11, 3), (222, .iload 8, 2), (224, .istore 5, 2), (226, .lload 9, 2), (228, .lstore 6, 2), (230, .iinc 8 1, 3), (233, .goto (-94), 3), (236, .iload 5, 2), (238, .iconst (-1), 1), (239, .if_icmp .ne 8, 3), (242, .bipush (-2), 2), (244, .goto 16, 3), (247, .iload 4, 2)]
theorem aX10_mule_1 : decAll cX10_mule laX10_mule_1 = true := by decide +kernel
theorem dX10_mule_121 : decode cX10_mule 121 = .ok (.iastore, 1) := decAll_at aX10_mule_1 0 rfl
theorem dX10_mule_122 : decode cX10_mule 122 = .ok (.iinc 5 1, 3) := decAll_at aX10_mule_1 1 rfl
theorem dX10_mule_125 : decode cX10_mule 125 = .ok (.goto (-69), 3) := decAll_at aX10_mule_1 2 rfl
theorem dX10_mule_128 : decode cX10_mule 128 = .ok (.iconst (-1), 1) := decAll_at aX10_mule_1 3 rfl
theorem dX10_mule_129 : decode cX10_mule 129 = .ok (.istore 5, 2) := decAll_at aX10_mule_1 4 rfl
theorem dX10_mule_131 : decode cX10_mule 131 = .ok (.ldc2_w 445, 3) := decAll_at aX10_mule_1 5 rfl
theorem dX10_mule_134 : decode cX10_mule 134 = .ok (.lstore 6, 2) := decAll_at aX10_mule_1 6 rfl
theorem dX10_mule_136 : decode cX10_mule 136 = .ok (.iconst 0, 1) := decAll_at aX10_mule_1 7 rfl
theorem dX10_mule_137 : decode cX10_mule 137 = .ok (.istore 8, 2) := decAll_at aX10_mule_1 8 rfl
theorem dX10_mule_139 : decode cX10_mule 139 = .ok (.iload 8, 2) := decAll_at aX10_mule_1 9 rfl
theorem dX10_mule_141 : decode cX10_mule 141 = .ok (.iload_n 2, 1) := decAll_at aX10_mule_1 10 rfl
theorem dX10_mule_142 : decode cX10_mule 142 = .ok (.iadd, 1) := decAll_at aX10_mule_1 11 rfl
theorem dX10_mule_143 : decode cX10_mule 143 = .ok (.aload_n 0, 1) := decAll_at aX10_mule_1 12 rfl
theorem dX10_mule_144 : decode cX10_mule 144 = .ok (.getfield 160, 3) := decAll_at aX10_mule_1 13 rfl
theorem dX10_mule_147 : decode cX10_mule 147 = .ok (.if_icmp .gt 89, 3) := decAll_at aX10_mule_1 14 rfl
theorem dX10_mule_150 : decode cX10_mule 150 = .ok (.lconst 0, 1) := decAll_at aX10_mule_1 15 rfl
theorem dX10_mule_151 : decode cX10_mule 151 = .ok (.lstore 9, 2) := decAll_at aX10_mule_1 16 rfl
theorem dX10_mule_153 : decode cX10_mule 153 = .ok (.iconst 0, 1) := decAll_at aX10_mule_1 17 rfl
theorem dX10_mule_154 : decode cX10_mule 154 = .ok (.istore 11, 2) := decAll_at aX10_mule_1 18 rfl
theorem dX10_mule_156 : decode cX10_mule 156 = .ok (.iload 11, 2) := decAll_at aX10_mule_1 19 rfl
theorem dX10_mule_158 : decode cX10_mule 158 = .ok (.aload_n 0, 1) := decAll_at aX10_mule_1 20 rfl
theorem dX10_mule_159 : decode cX10_mule 159 = .ok (.getfield 160, 3) := decAll_at aX10_mule_1 21 rfl
theorem dX10_mule_162 : decode cX10_mule 162 = .ok (.if_icmp .ge 49, 3) := decAll_at aX10_mule_1 22 rfl
theorem dX10_mule_165 : decode cX10_mule 165 = .ok (.lload 9, 2) := decAll_at aX10_mule_1 23 rfl
theorem dX10_mule_167 : decode cX10_mule 167 = .ok (.iload 11, 2) := decAll_at aX10_mule_1 24 rfl
theorem dX10_mule_169 : decode cX10_mule 169 = .ok (.iload 8, 2) := decAll_at aX10_mule_1 25 rfl
theorem dX10_mule_171 : decode cX10_mule 171 = .ok (.if_icmp .lt 23, 3) := decAll_at aX10_mule_1 26 rfl
theorem dX10_mule_174 : decode cX10_mule 174 = .ok (.iload 11, 2) := decAll_at aX10_mule_1 27 rfl
theorem dX10_mule_176 : decode cX10_mule 176 = .ok (.iload 8, 2) := decAll_at aX10_mule_1 28 rfl
theorem dX10_mule_178 : decode cX10_mule 178 = .ok (.iload_n 2, 1) := decAll_at aX10_mule_1 29 rfl
theorem dX10_mule_179 : decode cX10_mule 179 = .ok (.iadd, 1) := decAll_at aX10_mule_1 30 rfl
theorem dX10_mule_180 : decode cX10_mule 180 = .ok (.if_icmp .ge 14, 3) := decAll_at aX10_mule_1 31 rfl
theorem dX10_mule_183 : decode cX10_mule 183 = .ok (.aload_n 0, 1) := decAll_at aX10_mule_1 32 rfl
theorem dX10_mule_184 : decode cX10_mule 184 = .ok (.getfield 112, 3) := decAll_at aX10_mule_1 33 rfl
theorem dX10_mule_187 : decode cX10_mule 187 = .ok (.iload 11, 2) := decAll_at aX10_mule_1 34 rfl
theorem dX10_mule_189 : decode cX10_mule 189 = .ok (.iaload, 1) := decAll_at aX10_mule_1 35 rfl
theorem dX10_mule_190 : decode cX10_mule 190 = .ok (.i2l, 1) := decAll_at aX10_mule_1 36 rfl
theorem dX10_mule_191 : decode cX10_mule 191 = .ok (.goto 11, 3) := decAll_at aX10_mule_1 37 rfl
theorem dX10_mule_194 : decode cX10_mule 194 = .ok (.aload_n 0, 1) := decAll_at aX10_mule_1 38 rfl
theorem dX10_mule_195 : decode cX10_mule 195 = .ok (.getfield 109, 3) := decAll_at aX10_mule_1 39 rfl
theorem dX10_mule_198 : decode cX10_mule 198 = .ok (.iload 11, 2) := decAll_at aX10_mule_1 40 rfl
theorem dX10_mule_200 : decode cX10_mule 200 = .ok (.iaload, 1) := decAll_at aX10_mule_1 41 rfl
theorem dX10_mule_201 : decode cX10_mule 201 = .ok (.i2l, 1) := decAll_at aX10_mule_1 42 rfl
theorem dX10_mule_202 : decode cX10_mule 202 = .ok (.ladd, 1) := decAll_at aX10_mule_1 43 rfl
theorem dX10_mule_203 : decode cX10_mule 203 = .ok (.lstore 9, 2) := decAll_at aX10_mule_1 44 rfl
theorem dX10_mule_205 : decode cX10_mule 205 = .ok (.iinc 11 1, 3) := decAll_at aX10_mule_1 45 rfl
theorem dX10_mule_208 : decode cX10_mule 208 = .ok (.goto (-52), 3) := decAll_at aX10_mule_1 46 rfl
theorem dX10_mule_211 : decode cX10_mule 211 = .ok (.lload 9, 2) := decAll_at aX10_mule_1 47 rfl
theorem dX10_mule_213 : decode cX10_mule 213 = .ok (.lload 6, 2) := decAll_at aX10_mule_1 48 rfl
theorem dX10_mule_215 : decode cX10_mule 215 = .ok (.lcmp, 1) := decAll_at aX10_mule_1 49 rfl
theorem dX10_mule_216 : decode cX10_mule 216 = .ok (.ifCond .lt 6, 3) := decAll_at aX10_mule_1 50 rfl
theorem dX10_mule_219 : decode cX10_mule 219 = .ok (.goto 11, 3) := decAll_at aX10_mule_1 51 rfl
theorem dX10_mule_222 : decode cX10_mule 222 = .ok (.iload 8, 2) := decAll_at aX10_mule_1 52 rfl
theorem dX10_mule_224 : decode cX10_mule 224 = .ok (.istore 5, 2) := decAll_at aX10_mule_1 53 rfl
theorem dX10_mule_226 : decode cX10_mule 226 = .ok (.lload 9, 2) := decAll_at aX10_mule_1 54 rfl
theorem dX10_mule_228 : decode cX10_mule 228 = .ok (.lstore 6, 2) := decAll_at aX10_mule_1 55 rfl
theorem dX10_mule_230 : decode cX10_mule 230 = .ok (.iinc 8 1, 3) := decAll_at aX10_mule_1 56 rfl
theorem dX10_mule_233 : decode cX10_mule 233 = .ok (.goto (-94), 3) := decAll_at aX10_mule_1 57 rfl
theorem dX10_mule_236 : decode cX10_mule 236 = .ok (.iload 5, 2) := decAll_at aX10_mule_1 58 rfl
theorem dX10_mule_238 : decode cX10_mule 238 = .ok (.iconst (-1), 1) := decAll_at aX10_mule_1 59 rfl
theorem dX10_mule_239 : decode cX10_mule 239 = .ok (.if_icmp .ne 8, 3) := decAll_at aX10_mule_1 60 rfl
theorem dX10_mule_242 : decode cX10_mule 242 = .ok (.bipush (-2), 2) := decAll_at aX10_mule_1 61 rfl
theorem dX10_mule_244 : decode cX10_mule 244 = .ok (.goto 16, 3) := decAll_at aX10_mule_1 62 rfl
theorem dX10_mule_247 : decode cX10_mule 247 = .ok (.iload 4, 2) := decAll_at aX10_mule_1 63 rfl
def laX10_mule_2 : List (Nat × Instr × Nat) := [(249, .ifCond .ne 8, 3), (252, .iload 5, 2), (254, .goto 6, 3), (257, .lload 6, 2), (259, .l2i, 1), (260, .ireturn, 1)]
theorem aX10_mule_2 : decAll cX10_mule laX10_mule_2 = true := by decide +kernel
theorem dX10_mule_249 : decode cX10_mule 249 = .ok (.ifCond .ne 8, 3) := decAll_at aX10_mule_2 0 rfl
theorem dX10_mule_252 : decode cX10_mule 252 = .ok (.iload 5, 2) := decAll_at aX10_mule_2 1 rfl
theorem dX10_mule_254 : decode cX10_mule 254 = .ok (.goto 6, 3) := decAll_at aX10_mule_2 2 rfl
theorem dX10_mule_257 : decode cX10_mule 257 = .ok (.lload 6, 2) := decAll_at aX10_mule_2 3 rfl
theorem dX10_mule_259 : decode cX10_mule 259 = .ok (.l2i, 1) := decAll_at aX10_mule_2 4 rfl
theorem dX10_mule_260 : decode cX10_mule 260 = .ok (.ireturn, 1) := decAll_at aX10_mule_2 5 rfl
def laX10_plan_0 : List (Nat × Instr × Nat) := [(0, .iload_n 1, 1), (1, .i2l, 1), (2, .lconst 0, 1), (3, .ldc2_w 349, 3), (6, .invokestatic 153, 3), (9, .ifCond .eq 14, 3), (12, .aload_n 0, 1), (13, .getfield 188, 3), (16, .aload_n 0, 1), (17, .getfield 157, 3), (20, .if_icmp .ge 5, 3), (23, .iconst 0, 1), (24, .ireturn, 1), (25, .aload_n 0, 1), (26, .iconst 0, 1), (27, .putfield 188, 3), (30, .iconst 0, 1), (31, .istore_n 2, 1), (32, .iload_n 2, 1), (33, .aload_n 0, 1), (34, .getfield 157, 3), (37, .if_icmp .ge 49, 3), (40, .aload_n 0, 1), (41, .aload_n 0, 1), (42, .getfield 7, 3), (45, .iload_n 2, 1), (46, .baload, 1), (47, .invokevirtual 175, 3), (50, .ifCond .eq 28, 3), (53, .aload_n 0, 1), (54, .getfield 31, 3), (57, .iload_n 2, 1), (58, .iaload, 1), (59, .iconst (-1), 1), (60, .if_icmp .eq 20, 3), (63, .aload_n 0, 1), (64, .getfield 7, 3), (67, .iload_n 2, 1), (68, .baload, 1), (69, .aload_n 0, 1), (70, .getfield 31, 3), (73, .iload_n 2, 1), (74, .iaload, 1), (75, .if_icmp .eq 5, 3), (78, .iconst 0, 1), (79, .ireturn, 1), (80, .iinc 2 1, 3), (83, .goto (-51), 3), (86, .iconst 0, 1), (87, .istore_n 2, 1), (88, .iload_n 2, 1), (89, .aload_n 0, 1), (90, .getfield 157, 3), (93, .if_icmp .ge 26, 3), (96, .aload_n 0, 1), (97, .getfield 115, 3), (100, .bipush 9, 2), (102, .iload_n 1, 1), (103, .imul, 1), (104, .iload_n 2, 1), (105, .iadd, 1), (106, .aload_n 0, 1), (107, .getfield 7, 3), (110, .iload_n 2, 1)]
theorem aX10_plan_0 : decAll cX10_plan laX10_plan_0 = true := by decide +kernel
theorem dX10_plan_0 : decode cX10_plan 0 = .ok (.iload_n 1, 1) := decAll_at aX10_plan_0 0 rfl
theorem dX10_plan_1 : decode cX10_plan 1 = .ok (.i2l, 1) := decAll_at aX10_plan_0 1 rfl
theorem dX10_plan_2 : decode cX10_plan 2 = .ok (.lconst 0, 1) := decAll_at aX10_plan_0 2 rfl
theorem dX10_plan_3 : decode cX10_plan 3 = .ok (.ldc2_w 349, 3) := decAll_at aX10_plan_0 3 rfl
theorem dX10_plan_6 : decode cX10_plan 6 = .ok (.invokestatic 153, 3) := decAll_at aX10_plan_0 4 rfl
theorem dX10_plan_9 : decode cX10_plan 9 = .ok (.ifCond .eq 14, 3) := decAll_at aX10_plan_0 5 rfl
theorem dX10_plan_12 : decode cX10_plan 12 = .ok (.aload_n 0, 1) := decAll_at aX10_plan_0 6 rfl
theorem dX10_plan_13 : decode cX10_plan 13 = .ok (.getfield 188, 3) := decAll_at aX10_plan_0 7 rfl
theorem dX10_plan_16 : decode cX10_plan 16 = .ok (.aload_n 0, 1) := decAll_at aX10_plan_0 8 rfl
theorem dX10_plan_17 : decode cX10_plan 17 = .ok (.getfield 157, 3) := decAll_at aX10_plan_0 9 rfl
theorem dX10_plan_20 : decode cX10_plan 20 = .ok (.if_icmp .ge 5, 3) := decAll_at aX10_plan_0 10 rfl
theorem dX10_plan_23 : decode cX10_plan 23 = .ok (.iconst 0, 1) := decAll_at aX10_plan_0 11 rfl
theorem dX10_plan_24 : decode cX10_plan 24 = .ok (.ireturn, 1) := decAll_at aX10_plan_0 12 rfl
theorem dX10_plan_25 : decode cX10_plan 25 = .ok (.aload_n 0, 1) := decAll_at aX10_plan_0 13 rfl
theorem dX10_plan_26 : decode cX10_plan 26 = .ok (.iconst 0, 1) := decAll_at aX10_plan_0 14 rfl
theorem dX10_plan_27 : decode cX10_plan 27 = .ok (.putfield 188, 3) := decAll_at aX10_plan_0 15 rfl
theorem dX10_plan_30 : decode cX10_plan 30 = .ok (.iconst 0, 1) := decAll_at aX10_plan_0 16 rfl
theorem dX10_plan_31 : decode cX10_plan 31 = .ok (.istore_n 2, 1) := decAll_at aX10_plan_0 17 rfl
theorem dX10_plan_32 : decode cX10_plan 32 = .ok (.iload_n 2, 1) := decAll_at aX10_plan_0 18 rfl
theorem dX10_plan_33 : decode cX10_plan 33 = .ok (.aload_n 0, 1) := decAll_at aX10_plan_0 19 rfl
theorem dX10_plan_34 : decode cX10_plan 34 = .ok (.getfield 157, 3) := decAll_at aX10_plan_0 20 rfl
theorem dX10_plan_37 : decode cX10_plan 37 = .ok (.if_icmp .ge 49, 3) := decAll_at aX10_plan_0 21 rfl
theorem dX10_plan_40 : decode cX10_plan 40 = .ok (.aload_n 0, 1) := decAll_at aX10_plan_0 22 rfl
theorem dX10_plan_41 : decode cX10_plan 41 = .ok (.aload_n 0, 1) := decAll_at aX10_plan_0 23 rfl
theorem dX10_plan_42 : decode cX10_plan 42 = .ok (.getfield 7, 3) := decAll_at aX10_plan_0 24 rfl
theorem dX10_plan_45 : decode cX10_plan 45 = .ok (.iload_n 2, 1) := decAll_at aX10_plan_0 25 rfl
theorem dX10_plan_46 : decode cX10_plan 46 = .ok (.baload, 1) := decAll_at aX10_plan_0 26 rfl
theorem dX10_plan_47 : decode cX10_plan 47 = .ok (.invokevirtual 175, 3) := decAll_at aX10_plan_0 27 rfl
theorem dX10_plan_50 : decode cX10_plan 50 = .ok (.ifCond .eq 28, 3) := decAll_at aX10_plan_0 28 rfl
theorem dX10_plan_53 : decode cX10_plan 53 = .ok (.aload_n 0, 1) := decAll_at aX10_plan_0 29 rfl
theorem dX10_plan_54 : decode cX10_plan 54 = .ok (.getfield 31, 3) := decAll_at aX10_plan_0 30 rfl
theorem dX10_plan_57 : decode cX10_plan 57 = .ok (.iload_n 2, 1) := decAll_at aX10_plan_0 31 rfl
theorem dX10_plan_58 : decode cX10_plan 58 = .ok (.iaload, 1) := decAll_at aX10_plan_0 32 rfl
theorem dX10_plan_59 : decode cX10_plan 59 = .ok (.iconst (-1), 1) := decAll_at aX10_plan_0 33 rfl
theorem dX10_plan_60 : decode cX10_plan 60 = .ok (.if_icmp .eq 20, 3) := decAll_at aX10_plan_0 34 rfl
theorem dX10_plan_63 : decode cX10_plan 63 = .ok (.aload_n 0, 1) := decAll_at aX10_plan_0 35 rfl
theorem dX10_plan_64 : decode cX10_plan 64 = .ok (.getfield 7, 3) := decAll_at aX10_plan_0 36 rfl
theorem dX10_plan_67 : decode cX10_plan 67 = .ok (.iload_n 2, 1) := decAll_at aX10_plan_0 37 rfl
theorem dX10_plan_68 : decode cX10_plan 68 = .ok (.baload, 1) := decAll_at aX10_plan_0 38 rfl
theorem dX10_plan_69 : decode cX10_plan 69 = .ok (.aload_n 0, 1) := decAll_at aX10_plan_0 39 rfl
theorem dX10_plan_70 : decode cX10_plan 70 = .ok (.getfield 31, 3) := decAll_at aX10_plan_0 40 rfl
theorem dX10_plan_73 : decode cX10_plan 73 = .ok (.iload_n 2, 1) := decAll_at aX10_plan_0 41 rfl
theorem dX10_plan_74 : decode cX10_plan 74 = .ok (.iaload, 1) := decAll_at aX10_plan_0 42 rfl
theorem dX10_plan_75 : decode cX10_plan 75 = .ok (.if_icmp .eq 5, 3) := decAll_at aX10_plan_0 43 rfl
theorem dX10_plan_78 : decode cX10_plan 78 = .ok (.iconst 0, 1) := decAll_at aX10_plan_0 44 rfl
theorem dX10_plan_79 : decode cX10_plan 79 = .ok (.ireturn, 1) := decAll_at aX10_plan_0 45 rfl
theorem dX10_plan_80 : decode cX10_plan 80 = .ok (.iinc 2 1, 3) := decAll_at aX10_plan_0 46 rfl
theorem dX10_plan_83 : decode cX10_plan 83 = .ok (.goto (-51), 3) := decAll_at aX10_plan_0 47 rfl
theorem dX10_plan_86 : decode cX10_plan 86 = .ok (.iconst 0, 1) := decAll_at aX10_plan_0 48 rfl
theorem dX10_plan_87 : decode cX10_plan 87 = .ok (.istore_n 2, 1) := decAll_at aX10_plan_0 49 rfl
theorem dX10_plan_88 : decode cX10_plan 88 = .ok (.iload_n 2, 1) := decAll_at aX10_plan_0 50 rfl
theorem dX10_plan_89 : decode cX10_plan 89 = .ok (.aload_n 0, 1) := decAll_at aX10_plan_0 51 rfl
theorem dX10_plan_90 : decode cX10_plan 90 = .ok (.getfield 157, 3) := decAll_at aX10_plan_0 52 rfl
theorem dX10_plan_93 : decode cX10_plan 93 = .ok (.if_icmp .ge 26, 3) := decAll_at aX10_plan_0 53 rfl
theorem dX10_plan_96 : decode cX10_plan 96 = .ok (.aload_n 0, 1) := decAll_at aX10_plan_0 54 rfl
theorem dX10_plan_97 : decode cX10_plan 97 = .ok (.getfield 115, 3) := decAll_at aX10_plan_0 55 rfl
theorem dX10_plan_100 : decode cX10_plan 100 = .ok (.bipush 9, 2) := decAll_at aX10_plan_0 56 rfl
theorem dX10_plan_102 : decode cX10_plan 102 = .ok (.iload_n 1, 1) := decAll_at aX10_plan_0 57 rfl
theorem dX10_plan_103 : decode cX10_plan 103 = .ok (.imul, 1) := decAll_at aX10_plan_0 58 rfl
theorem dX10_plan_104 : decode cX10_plan 104 = .ok (.iload_n 2, 1) := decAll_at aX10_plan_0 59 rfl
theorem dX10_plan_105 : decode cX10_plan 105 = .ok (.iadd, 1) := decAll_at aX10_plan_0 60 rfl
theorem dX10_plan_106 : decode cX10_plan 106 = .ok (.aload_n 0, 1) := decAll_at aX10_plan_0 61 rfl
theorem dX10_plan_107 : decode cX10_plan 107 = .ok (.getfield 7, 3) := decAll_at aX10_plan_0 62 rfl
theorem dX10_plan_110 : decode cX10_plan 110 = .ok (.iload_n 2, 1) := decAll_at aX10_plan_0 63 rfl
def laX10_plan_1 : List (Nat × Instr × Nat) := [(111, .baload, 1), (112, .iastore, 1), (113, .iinc 2 1, 3), (116, .goto (-28), 3), (119, .aload_n 0, 1), (120, .dup, 1), (121, .getfield 179, 3), (124, .iconst 1, 1), (125, .iload_n 1, 1), (126, .ishl, 1), (127, .ior, 1), (128, .putfield 179, 3), (131, .aload_n 0, 1), (132, .iconst 0, 1), (133, .putfield 169, 3), (136, .iconst 1, 1), (137, .ireturn, 1)]
theorem aX10_plan_1 : decAll cX10_plan laX10_plan_1 = true := by decide +kernel
theorem dX10_plan_111 : decode cX10_plan 111 = .ok (.baload, 1) := decAll_at aX10_plan_1 0 rfl
theorem dX10_plan_112 : decode cX10_plan 112 = .ok (.iastore, 1) := decAll_at aX10_plan_1 1 rfl
theorem dX10_plan_113 : decode cX10_plan 113 = .ok (.iinc 2 1, 3) := decAll_at aX10_plan_1 2 rfl
theorem dX10_plan_116 : decode cX10_plan 116 = .ok (.goto (-28), 3) := decAll_at aX10_plan_1 3 rfl
theorem dX10_plan_119 : decode cX10_plan 119 = .ok (.aload_n 0, 1) := decAll_at aX10_plan_1 4 rfl
theorem dX10_plan_120 : decode cX10_plan 120 = .ok (.dup, 1) := decAll_at aX10_plan_1 5 rfl
theorem dX10_plan_121 : decode cX10_plan 121 = .ok (.getfield 179, 3) := decAll_at aX10_plan_1 6 rfl
theorem dX10_plan_124 : decode cX10_plan 124 = .ok (.iconst 1, 1) := decAll_at aX10_plan_1 7 rfl
theorem dX10_plan_125 : decode cX10_plan 125 = .ok (.iload_n 1, 1) := decAll_at aX10_plan_1 8 rfl
theorem dX10_plan_126 : decode cX10_plan 126 = .ok (.ishl, 1) := decAll_at aX10_plan_1 9 rfl
theorem dX10_plan_127 : decode cX10_plan 127 = .ok (.ior, 1) := decAll_at aX10_plan_1 10 rfl
theorem dX10_plan_128 : decode cX10_plan 128 = .ok (.putfield 179, 3) := decAll_at aX10_plan_1 11 rfl
theorem dX10_plan_131 : decode cX10_plan 131 = .ok (.aload_n 0, 1) := decAll_at aX10_plan_1 12 rfl
theorem dX10_plan_132 : decode cX10_plan 132 = .ok (.iconst 0, 1) := decAll_at aX10_plan_1 13 rfl
theorem dX10_plan_133 : decode cX10_plan 133 = .ok (.putfield 169, 3) := decAll_at aX10_plan_1 14 rfl
theorem dX10_plan_136 : decode cX10_plan 136 = .ok (.iconst 1, 1) := decAll_at aX10_plan_1 15 rfl
theorem dX10_plan_137 : decode cX10_plan 137 = .ok (.ireturn, 1) := decAll_at aX10_plan_1 16 rfl
def laX10_march_0 : List (Nat × Instr × Nat) := [(0, .aload_n 0, 1), (1, .getfield 160, 3), (4, .ifCond .eq 26, 3), (7, .iload_n 1, 1), (8, .aload_n 0, 1), (9, .getfield 160, 3), (12, .if_icmp .ne 18, 3), (15, .iload_n 1, 1), (16, .aload_n 0, 1), (17, .getfield 188, 3), (20, .if_icmp .gt 10, 3), (23, .aload_n 0, 1), (24, .getfield 150, 3), (27, .ifCond .ne 5, 3), (30, .iconst 0, 1), (31, .ireturn, 1), (32, .aload_n 0, 1), (33, .iconst 0, 1), (34, .putfield 188, 3), (37, .iconst 0, 1), (38, .istore_n 2, 1), (39, .iload_n 2, 1), (40, .iload_n 1, 1), (41, .if_icmp .ge 47, 3), (44, .aload_n 0, 1), (45, .getfield 7, 3), (48, .iload_n 2, 1), (49, .baload, 1), (50, .i2l, 1), (51, .lconst 0, 1), (52, .ldc2_w 447, 3), (55, .invokestatic 153, 3), (58, .ifCond .eq 22, 3), (61, .aload_n 0, 1), (62, .getfield 179, 3), (65, .aload_n 0, 1), (66, .getfield 7, 3), (69, .iload_n 2, 1), (70, .baload, 1), (71, .bipush 6, 2), (73, .irem, 1), (74, .invokestatic 399, 3), (77, .ifCond .ne 5, 3), (80, .iconst 0, 1), (81, .ireturn, 1), (82, .iinc 2 1, 3), (85, .goto (-46), 3), (88, .iconst 0, 1), (89, .istore_n 2, 1), (90, .iload_n 2, 1), (91, .iload_n 1, 1), (92, .if_icmp .ge 21, 3), (95, .aload_n 0, 1), (96, .getfield 118, 3), (99, .iload_n 2, 1), (100, .aload_n 0, 1), (101, .getfield 7, 3), (104, .iload_n 2, 1), (105, .baload, 1), (106, .iastore, 1), (107, .iinc 2 1, 3), (110, .goto (-20), 3), (113, .aload_n 0, 1), (114, .iconst 1, 1)]
theorem aX10_march_0 : decAll cX10_march laX10_march_0 = true := by decide +kernel
theorem dX10_march_0 : decode cX10_march 0 = .ok (.aload_n 0, 1) := decAll_at aX10_march_0 0 rfl
theorem dX10_march_1 : decode cX10_march 1 = .ok (.getfield 160, 3) := decAll_at aX10_march_0 1 rfl
theorem dX10_march_4 : decode cX10_march 4 = .ok (.ifCond .eq 26, 3) := decAll_at aX10_march_0 2 rfl
theorem dX10_march_7 : decode cX10_march 7 = .ok (.iload_n 1, 1) := decAll_at aX10_march_0 3 rfl
theorem dX10_march_8 : decode cX10_march 8 = .ok (.aload_n 0, 1) := decAll_at aX10_march_0 4 rfl
theorem dX10_march_9 : decode cX10_march 9 = .ok (.getfield 160, 3) := decAll_at aX10_march_0 5 rfl
theorem dX10_march_12 : decode cX10_march 12 = .ok (.if_icmp .ne 18, 3) := decAll_at aX10_march_0 6 rfl
theorem dX10_march_15 : decode cX10_march 15 = .ok (.iload_n 1, 1) := decAll_at aX10_march_0 7 rfl
theorem dX10_march_16 : decode cX10_march 16 = .ok (.aload_n 0, 1) := decAll_at aX10_march_0 8 rfl
theorem dX10_march_17 : decode cX10_march 17 = .ok (.getfield 188, 3) := decAll_at aX10_march_0 9 rfl
theorem dX10_march_20 : decode cX10_march 20 = .ok (.if_icmp .gt 10, 3) := decAll_at aX10_march_0 10 rfl
theorem dX10_march_23 : decode cX10_march 23 = .ok (.aload_n 0, 1) := decAll_at aX10_march_0 11 rfl
theorem dX10_march_24 : decode cX10_march 24 = .ok (.getfield 150, 3) := decAll_at aX10_march_0 12 rfl
theorem dX10_march_27 : decode cX10_march 27 = .ok (.ifCond .ne 5, 3) := decAll_at aX10_march_0 13 rfl
theorem dX10_march_30 : decode cX10_march 30 = .ok (.iconst 0, 1) := decAll_at aX10_march_0 14 rfl
theorem dX10_march_31 : decode cX10_march 31 = .ok (.ireturn, 1) := decAll_at aX10_march_0 15 rfl
theorem dX10_march_32 : decode cX10_march 32 = .ok (.aload_n 0, 1) := decAll_at aX10_march_0 16 rfl
theorem dX10_march_33 : decode cX10_march 33 = .ok (.iconst 0, 1) := decAll_at aX10_march_0 17 rfl
theorem dX10_march_34 : decode cX10_march 34 = .ok (.putfield 188, 3) := decAll_at aX10_march_0 18 rfl
theorem dX10_march_37 : decode cX10_march 37 = .ok (.iconst 0, 1) := decAll_at aX10_march_0 19 rfl
theorem dX10_march_38 : decode cX10_march 38 = .ok (.istore_n 2, 1) := decAll_at aX10_march_0 20 rfl
theorem dX10_march_39 : decode cX10_march 39 = .ok (.iload_n 2, 1) := decAll_at aX10_march_0 21 rfl
theorem dX10_march_40 : decode cX10_march 40 = .ok (.iload_n 1, 1) := decAll_at aX10_march_0 22 rfl
theorem dX10_march_41 : decode cX10_march 41 = .ok (.if_icmp .ge 47, 3) := decAll_at aX10_march_0 23 rfl
theorem dX10_march_44 : decode cX10_march 44 = .ok (.aload_n 0, 1) := decAll_at aX10_march_0 24 rfl
theorem dX10_march_45 : decode cX10_march 45 = .ok (.getfield 7, 3) := decAll_at aX10_march_0 25 rfl
theorem dX10_march_48 : decode cX10_march 48 = .ok (.iload_n 2, 1) := decAll_at aX10_march_0 26 rfl
theorem dX10_march_49 : decode cX10_march 49 = .ok (.baload, 1) := decAll_at aX10_march_0 27 rfl
theorem dX10_march_50 : decode cX10_march 50 = .ok (.i2l, 1) := decAll_at aX10_march_0 28 rfl
theorem dX10_march_51 : decode cX10_march 51 = .ok (.lconst 0, 1) := decAll_at aX10_march_0 29 rfl
theorem dX10_march_52 : decode cX10_march 52 = .ok (.ldc2_w 447, 3) := decAll_at aX10_march_0 30 rfl
theorem dX10_march_55 : decode cX10_march 55 = .ok (.invokestatic 153, 3) := decAll_at aX10_march_0 31 rfl
theorem dX10_march_58 : decode cX10_march 58 = .ok (.ifCond .eq 22, 3) := decAll_at aX10_march_0 32 rfl
theorem dX10_march_61 : decode cX10_march 61 = .ok (.aload_n 0, 1) := decAll_at aX10_march_0 33 rfl
theorem dX10_march_62 : decode cX10_march 62 = .ok (.getfield 179, 3) := decAll_at aX10_march_0 34 rfl
theorem dX10_march_65 : decode cX10_march 65 = .ok (.aload_n 0, 1) := decAll_at aX10_march_0 35 rfl
theorem dX10_march_66 : decode cX10_march 66 = .ok (.getfield 7, 3) := decAll_at aX10_march_0 36 rfl
theorem dX10_march_69 : decode cX10_march 69 = .ok (.iload_n 2, 1) := decAll_at aX10_march_0 37 rfl
theorem dX10_march_70 : decode cX10_march 70 = .ok (.baload, 1) := decAll_at aX10_march_0 38 rfl
theorem dX10_march_71 : decode cX10_march 71 = .ok (.bipush 6, 2) := decAll_at aX10_march_0 39 rfl
theorem dX10_march_73 : decode cX10_march 73 = .ok (.irem, 1) := decAll_at aX10_march_0 40 rfl
theorem dX10_march_74 : decode cX10_march 74 = .ok (.invokestatic 399, 3) := decAll_at aX10_march_0 41 rfl
theorem dX10_march_77 : decode cX10_march 77 = .ok (.ifCond .ne 5, 3) := decAll_at aX10_march_0 42 rfl
theorem dX10_march_80 : decode cX10_march 80 = .ok (.iconst 0, 1) := decAll_at aX10_march_0 43 rfl
theorem dX10_march_81 : decode cX10_march 81 = .ok (.ireturn, 1) := decAll_at aX10_march_0 44 rfl
theorem dX10_march_82 : decode cX10_march 82 = .ok (.iinc 2 1, 3) := decAll_at aX10_march_0 45 rfl
theorem dX10_march_85 : decode cX10_march 85 = .ok (.goto (-46), 3) := decAll_at aX10_march_0 46 rfl
theorem dX10_march_88 : decode cX10_march 88 = .ok (.iconst 0, 1) := decAll_at aX10_march_0 47 rfl
theorem dX10_march_89 : decode cX10_march 89 = .ok (.istore_n 2, 1) := decAll_at aX10_march_0 48 rfl
theorem dX10_march_90 : decode cX10_march 90 = .ok (.iload_n 2, 1) := decAll_at aX10_march_0 49 rfl
theorem dX10_march_91 : decode cX10_march 91 = .ok (.iload_n 1, 1) := decAll_at aX10_march_0 50 rfl
theorem dX10_march_92 : decode cX10_march 92 = .ok (.if_icmp .ge 21, 3) := decAll_at aX10_march_0 51 rfl
theorem dX10_march_95 : decode cX10_march 95 = .ok (.aload_n 0, 1) := decAll_at aX10_march_0 52 rfl
theorem dX10_march_96 : decode cX10_march 96 = .ok (.getfield 118, 3) := decAll_at aX10_march_0 53 rfl
theorem dX10_march_99 : decode cX10_march 99 = .ok (.iload_n 2, 1) := decAll_at aX10_march_0 54 rfl
theorem dX10_march_100 : decode cX10_march 100 = .ok (.aload_n 0, 1) := decAll_at aX10_march_0 55 rfl
theorem dX10_march_101 : decode cX10_march 101 = .ok (.getfield 7, 3) := decAll_at aX10_march_0 56 rfl
theorem dX10_march_104 : decode cX10_march 104 = .ok (.iload_n 2, 1) := decAll_at aX10_march_0 57 rfl
theorem dX10_march_105 : decode cX10_march 105 = .ok (.baload, 1) := decAll_at aX10_march_0 58 rfl
theorem dX10_march_106 : decode cX10_march 106 = .ok (.iastore, 1) := decAll_at aX10_march_0 59 rfl
theorem dX10_march_107 : decode cX10_march 107 = .ok (.iinc 2 1, 3) := decAll_at aX10_march_0 60 rfl
theorem dX10_march_110 : decode cX10_march 110 = .ok (.goto (-20), 3) := decAll_at aX10_march_0 61 rfl
theorem dX10_march_113 : decode cX10_march 113 = .ok (.aload_n 0, 1) := decAll_at aX10_march_0 62 rfl
theorem dX10_march_114 : decode cX10_march 114 = .ok (.iconst 1, 1) := decAll_at aX10_march_0 63 rfl
def laX10_march_1 : List (Nat × Instr × Nat) := [(115, .putfield 169, 3), (118, .iconst 1, 1), (119, .ireturn, 1)]
theorem aX10_march_1 : decAll cX10_march laX10_march_1 = true := by decide +kernel
theorem dX10_march_115 : decode cX10_march 115 = .ok (.putfield 169, 3) := decAll_at aX10_march_1 0 rfl
theorem dX10_march_118 : decode cX10_march 118 = .ok (.iconst 1, 1) := decAll_at aX10_march_1 1 rfl
theorem dX10_march_119 : decode cX10_march 119 = .ok (.ireturn, 1) := decAll_at aX10_march_1 2 rfl
def laX10_carriedBy_0 : List (Nat × Instr × Nat) := [(0, .iconst 0, 1), (1, .istore 4, 2), (3, .iconst 0, 1), (4, .istore 5, 2), (6, .iload 5, 2), (8, .aload_n 0, 1), (9, .getfield 157, 3), (12, .if_icmp .ge 41, 3), (15, .iload 4, 2), (17, .aload_n 0, 1), (18, .getfield 115, 3), (21, .bipush 9, 2), (23, .iload_n 2, 1), (24, .imul, 1), (25, .iload 5, 2), (27, .iadd, 1), (28, .iaload, 1), (29, .iload_n 1, 1), (30, .if_icmp .ne 13, 3), (33, .aload_n 0, 1), (34, .iload 5, 2), (36, .iload_n 3, 1), (37, .invokevirtual 184, 3), (40, .goto 4, 3), (43, .iconst 0, 1), (44, .iadd, 1), (45, .istore 4, 2), (47, .iinc 5 1, 3), (50, .goto (-44), 3), (53, .iload 4, 2), (55, .ireturn, 1)]
theorem aX10_carriedBy_0 : decAll cX10_carriedBy laX10_carriedBy_0 = true := by decide +kernel
theorem dX10_carriedBy_0 : decode cX10_carriedBy 0 = .ok (.iconst 0, 1) := decAll_at aX10_carriedBy_0 0 rfl
theorem dX10_carriedBy_1 : decode cX10_carriedBy 1 = .ok (.istore 4, 2) := decAll_at aX10_carriedBy_0 1 rfl
theorem dX10_carriedBy_3 : decode cX10_carriedBy 3 = .ok (.iconst 0, 1) := decAll_at aX10_carriedBy_0 2 rfl
theorem dX10_carriedBy_4 : decode cX10_carriedBy 4 = .ok (.istore 5, 2) := decAll_at aX10_carriedBy_0 3 rfl
theorem dX10_carriedBy_6 : decode cX10_carriedBy 6 = .ok (.iload 5, 2) := decAll_at aX10_carriedBy_0 4 rfl
theorem dX10_carriedBy_8 : decode cX10_carriedBy 8 = .ok (.aload_n 0, 1) := decAll_at aX10_carriedBy_0 5 rfl
theorem dX10_carriedBy_9 : decode cX10_carriedBy 9 = .ok (.getfield 157, 3) := decAll_at aX10_carriedBy_0 6 rfl
theorem dX10_carriedBy_12 : decode cX10_carriedBy 12 = .ok (.if_icmp .ge 41, 3) := decAll_at aX10_carriedBy_0 7 rfl
theorem dX10_carriedBy_15 : decode cX10_carriedBy 15 = .ok (.iload 4, 2) := decAll_at aX10_carriedBy_0 8 rfl
theorem dX10_carriedBy_17 : decode cX10_carriedBy 17 = .ok (.aload_n 0, 1) := decAll_at aX10_carriedBy_0 9 rfl
theorem dX10_carriedBy_18 : decode cX10_carriedBy 18 = .ok (.getfield 115, 3) := decAll_at aX10_carriedBy_0 10 rfl
theorem dX10_carriedBy_21 : decode cX10_carriedBy 21 = .ok (.bipush 9, 2) := decAll_at aX10_carriedBy_0 11 rfl
theorem dX10_carriedBy_23 : decode cX10_carriedBy 23 = .ok (.iload_n 2, 1) := decAll_at aX10_carriedBy_0 12 rfl
theorem dX10_carriedBy_24 : decode cX10_carriedBy 24 = .ok (.imul, 1) := decAll_at aX10_carriedBy_0 13 rfl
theorem dX10_carriedBy_25 : decode cX10_carriedBy 25 = .ok (.iload 5, 2) := decAll_at aX10_carriedBy_0 14 rfl
theorem dX10_carriedBy_27 : decode cX10_carriedBy 27 = .ok (.iadd, 1) := decAll_at aX10_carriedBy_0 15 rfl
theorem dX10_carriedBy_28 : decode cX10_carriedBy 28 = .ok (.iaload, 1) := decAll_at aX10_carriedBy_0 16 rfl
theorem dX10_carriedBy_29 : decode cX10_carriedBy 29 = .ok (.iload_n 1, 1) := decAll_at aX10_carriedBy_0 17 rfl
theorem dX10_carriedBy_30 : decode cX10_carriedBy 30 = .ok (.if_icmp .ne 13, 3) := decAll_at aX10_carriedBy_0 18 rfl
theorem dX10_carriedBy_33 : decode cX10_carriedBy 33 = .ok (.aload_n 0, 1) := decAll_at aX10_carriedBy_0 19 rfl
theorem dX10_carriedBy_34 : decode cX10_carriedBy 34 = .ok (.iload 5, 2) := decAll_at aX10_carriedBy_0 20 rfl
theorem dX10_carriedBy_36 : decode cX10_carriedBy 36 = .ok (.iload_n 3, 1) := decAll_at aX10_carriedBy_0 21 rfl
theorem dX10_carriedBy_37 : decode cX10_carriedBy 37 = .ok (.invokevirtual 184, 3) := decAll_at aX10_carriedBy_0 22 rfl
theorem dX10_carriedBy_40 : decode cX10_carriedBy 40 = .ok (.goto 4, 3) := decAll_at aX10_carriedBy_0 23 rfl
theorem dX10_carriedBy_43 : decode cX10_carriedBy 43 = .ok (.iconst 0, 1) := decAll_at aX10_carriedBy_0 24 rfl
theorem dX10_carriedBy_44 : decode cX10_carriedBy 44 = .ok (.iadd, 1) := decAll_at aX10_carriedBy_0 25 rfl
theorem dX10_carriedBy_45 : decode cX10_carriedBy 45 = .ok (.istore 4, 2) := decAll_at aX10_carriedBy_0 26 rfl
theorem dX10_carriedBy_47 : decode cX10_carriedBy 47 = .ok (.iinc 5 1, 3) := decAll_at aX10_carriedBy_0 27 rfl
theorem dX10_carriedBy_50 : decode cX10_carriedBy 50 = .ok (.goto (-44), 3) := decAll_at aX10_carriedBy_0 28 rfl
theorem dX10_carriedBy_53 : decode cX10_carriedBy 53 = .ok (.iload 4, 2) := decAll_at aX10_carriedBy_0 29 rfl
theorem dX10_carriedBy_55 : decode cX10_carriedBy 55 = .ok (.ireturn, 1) := decAll_at aX10_carriedBy_0 30 rfl
def laX10_takesTired_0 : List (Nat × Instr × Nat) := [(0, .iload_n 1, 1), (1, .istore_n 2, 1), (2, .iconst 0, 1), (3, .istore_n 3, 1), (4, .iload_n 3, 1), (5, .bipush 6, 2), (7, .if_icmp .ge 24, 3), (10, .aload_n 0, 1), (11, .getfield 121, 3), (14, .iload_n 3, 1), (15, .iload_n 2, 1), (16, .bipush 6, 2), (18, .irem, 1), (19, .iastore, 1), (20, .iload_n 2, 1), (21, .bipush 6, 2), (23, .idiv, 1), (24, .istore_n 2, 1), (25, .iinc 3 1, 3), (28, .goto (-24), 3), (31, .return_, 1)]
theorem aX10_takesTired_0 : decAll cX10_takesTired laX10_takesTired_0 = true := by decide +kernel
theorem dX10_takesTired_0 : decode cX10_takesTired 0 = .ok (.iload_n 1, 1) := decAll_at aX10_takesTired_0 0 rfl
theorem dX10_takesTired_1 : decode cX10_takesTired 1 = .ok (.istore_n 2, 1) := decAll_at aX10_takesTired_0 1 rfl
theorem dX10_takesTired_2 : decode cX10_takesTired 2 = .ok (.iconst 0, 1) := decAll_at aX10_takesTired_0 2 rfl
theorem dX10_takesTired_3 : decode cX10_takesTired 3 = .ok (.istore_n 3, 1) := decAll_at aX10_takesTired_0 3 rfl
theorem dX10_takesTired_4 : decode cX10_takesTired 4 = .ok (.iload_n 3, 1) := decAll_at aX10_takesTired_0 4 rfl
theorem dX10_takesTired_5 : decode cX10_takesTired 5 = .ok (.bipush 6, 2) := decAll_at aX10_takesTired_0 5 rfl
theorem dX10_takesTired_7 : decode cX10_takesTired 7 = .ok (.if_icmp .ge 24, 3) := decAll_at aX10_takesTired_0 6 rfl
theorem dX10_takesTired_10 : decode cX10_takesTired 10 = .ok (.aload_n 0, 1) := decAll_at aX10_takesTired_0 7 rfl
theorem dX10_takesTired_11 : decode cX10_takesTired 11 = .ok (.getfield 121, 3) := decAll_at aX10_takesTired_0 8 rfl
theorem dX10_takesTired_14 : decode cX10_takesTired 14 = .ok (.iload_n 3, 1) := decAll_at aX10_takesTired_0 9 rfl
theorem dX10_takesTired_15 : decode cX10_takesTired 15 = .ok (.iload_n 2, 1) := decAll_at aX10_takesTired_0 10 rfl
theorem dX10_takesTired_16 : decode cX10_takesTired 16 = .ok (.bipush 6, 2) := decAll_at aX10_takesTired_0 11 rfl
theorem dX10_takesTired_18 : decode cX10_takesTired 18 = .ok (.irem, 1) := decAll_at aX10_takesTired_0 12 rfl
theorem dX10_takesTired_19 : decode cX10_takesTired 19 = .ok (.iastore, 1) := decAll_at aX10_takesTired_0 13 rfl
theorem dX10_takesTired_20 : decode cX10_takesTired 20 = .ok (.iload_n 2, 1) := decAll_at aX10_takesTired_0 14 rfl
theorem dX10_takesTired_21 : decode cX10_takesTired 21 = .ok (.bipush 6, 2) := decAll_at aX10_takesTired_0 15 rfl
theorem dX10_takesTired_23 : decode cX10_takesTired 23 = .ok (.idiv, 1) := decAll_at aX10_takesTired_0 16 rfl
theorem dX10_takesTired_24 : decode cX10_takesTired 24 = .ok (.istore_n 2, 1) := decAll_at aX10_takesTired_0 17 rfl
theorem dX10_takesTired_25 : decode cX10_takesTired 25 = .ok (.iinc 3 1, 3) := decAll_at aX10_takesTired_0 18 rfl
theorem dX10_takesTired_28 : decode cX10_takesTired 28 = .ok (.goto (-24), 3) := decAll_at aX10_takesTired_0 19 rfl
theorem dX10_takesTired_31 : decode cX10_takesTired 31 = .ok (.return_, 1) := decAll_at aX10_takesTired_0 20 rfl
def laX10_allTired_0 : List (Nat × Instr × Nat) := [(0, .iconst 0, 1), (1, .istore_n 1, 1), (2, .aload_n 0, 1), (3, .getfield 150, 3), (6, .iconst 1, 1), (7, .isub, 1), (8, .istore_n 2, 1), (9, .iload_n 2, 1), (10, .ifCond .lt 21, 3), (13, .bipush 6, 2), (15, .iload_n 1, 1), (16, .imul, 1), (17, .aload_n 0, 1), (18, .getfield 121, 3), (21, .iload_n 2, 1), (22, .iaload, 1), (23, .iadd, 1), (24, .istore_n 1, 1), (25, .iinc 2 (-1), 3), (28, .goto (-19), 3), (31, .iload_n 1, 1), (32, .ireturn, 1)]
theorem aX10_allTired_0 : decAll cX10_allTired laX10_allTired_0 = true := by decide +kernel
theorem dX10_allTired_0 : decode cX10_allTired 0 = .ok (.iconst 0, 1) := decAll_at aX10_allTired_0 0 rfl
theorem dX10_allTired_1 : decode cX10_allTired 1 = .ok (.istore_n 1, 1) := decAll_at aX10_allTired_0 1 rfl
theorem dX10_allTired_2 : decode cX10_allTired 2 = .ok (.aload_n 0, 1) := decAll_at aX10_allTired_0 2 rfl
theorem dX10_allTired_3 : decode cX10_allTired 3 = .ok (.getfield 150, 3) := decAll_at aX10_allTired_0 3 rfl
theorem dX10_allTired_6 : decode cX10_allTired 6 = .ok (.iconst 1, 1) := decAll_at aX10_allTired_0 4 rfl
theorem dX10_allTired_7 : decode cX10_allTired 7 = .ok (.isub, 1) := decAll_at aX10_allTired_0 5 rfl
theorem dX10_allTired_8 : decode cX10_allTired 8 = .ok (.istore_n 2, 1) := decAll_at aX10_allTired_0 6 rfl
theorem dX10_allTired_9 : decode cX10_allTired 9 = .ok (.iload_n 2, 1) := decAll_at aX10_allTired_0 7 rfl
theorem dX10_allTired_10 : decode cX10_allTired 10 = .ok (.ifCond .lt 21, 3) := decAll_at aX10_allTired_0 8 rfl
theorem dX10_allTired_13 : decode cX10_allTired 13 = .ok (.bipush 6, 2) := decAll_at aX10_allTired_0 9 rfl
theorem dX10_allTired_15 : decode cX10_allTired 15 = .ok (.iload_n 1, 1) := decAll_at aX10_allTired_0 10 rfl
theorem dX10_allTired_16 : decode cX10_allTired 16 = .ok (.imul, 1) := decAll_at aX10_allTired_0 11 rfl
theorem dX10_allTired_17 : decode cX10_allTired 17 = .ok (.aload_n 0, 1) := decAll_at aX10_allTired_0 12 rfl
theorem dX10_allTired_18 : decode cX10_allTired 18 = .ok (.getfield 121, 3) := decAll_at aX10_allTired_0 13 rfl
theorem dX10_allTired_21 : decode cX10_allTired 21 = .ok (.iload_n 2, 1) := decAll_at aX10_allTired_0 14 rfl
theorem dX10_allTired_22 : decode cX10_allTired 22 = .ok (.iaload, 1) := decAll_at aX10_allTired_0 15 rfl
theorem dX10_allTired_23 : decode cX10_allTired 23 = .ok (.iadd, 1) := decAll_at aX10_allTired_0 16 rfl
theorem dX10_allTired_24 : decode cX10_allTired 24 = .ok (.istore_n 1, 1) := decAll_at aX10_allTired_0 17 rfl
theorem dX10_allTired_25 : decode cX10_allTired 25 = .ok (.iinc 2 (-1), 3) := decAll_at aX10_allTired_0 18 rfl
theorem dX10_allTired_28 : decode cX10_allTired 28 = .ok (.goto (-19), 3) := decAll_at aX10_allTired_0 19 rfl
theorem dX10_allTired_31 : decode cX10_allTired 31 = .ok (.iload_n 1, 1) := decAll_at aX10_allTired_0 20 rfl
theorem dX10_allTired_32 : decode cX10_allTired 32 = .ok (.ireturn, 1) := decAll_at aX10_allTired_0 21 rfl
def laX10_rests_0 : List (Nat × Instr × Nat) := [(0, .iconst 0, 1), (1, .istore_n 3, 1), (2, .iload_n 3, 1), (3, .iload_n 1, 1), (4, .if_icmp .ge 97, 3), (7, .iconst 0, 1), (8, .istore 4, 2), (10, .iload 4, 2), (12, .aload_n 0, 1), (13, .getfield 150, 3), (16, .if_icmp .ge 79, 3), (19, .aload_n 0, 1), (20, .iload 4, 2), (22, .putfield 304, 3), (25, .aload_n 0, 1), (26, .iconst 0, 1), (27, .putfield 307, 3), (30, .aload_n 0, 1), (31, .aload_n 0, 1), (32, .getfield 121, 3), (35, .iload 4, 2), (37, .iaload, 1), (38, .putfield 310, 3), (41, .aload_n 0, 1), (42, .iconst 0, 1), (43, .putfield 313, 3), (46, .aload_n 0, 1), (47, .iconst 0, 1), (48, .putfield 316, 3), (51, .aload_n 0, 1), (52, .iload_n 2, 1), (53, .putfield 319, 3), (56, .aload_n 0, 1), (57, .iconst 0, 1), (58, .putfield 322, 3), (61, .aload_n 0, 1), (62, .getfield 121, 3), (65, .iload 4, 2), (67, .aload_n 0, 1), (68, .getfield 121, 3), (71, .iload 4, 2), (73, .iaload, 1), (74, .aload_n 0, 1), (75, .bipush 114, 2), (77, .iconst 0, 1), (78, .iconst 5, 1), (79, .invokevirtual 342, 3), (82, .isub, 1), (83, .iconst 0, 1), (84, .iconst 5, 1), (85, .invokestatic 339, 3), (88, .iastore, 1), (89, .iinc 4 1, 3), (92, .goto (-82), 3), (95, .iinc 3 1, 3), (98, .goto (-96), 3), (101, .return_, 1)]
theorem aX10_rests_0 : decAll cX10_rests laX10_rests_0 = true := by decide +kernel
theorem dX10_rests_0 : decode cX10_rests 0 = .ok (.iconst 0, 1) := decAll_at aX10_rests_0 0 rfl
theorem dX10_rests_1 : decode cX10_rests 1 = .ok (.istore_n 3, 1) := decAll_at aX10_rests_0 1 rfl
theorem dX10_rests_2 : decode cX10_rests 2 = .ok (.iload_n 3, 1) := decAll_at aX10_rests_0 2 rfl
theorem dX10_rests_3 : decode cX10_rests 3 = .ok (.iload_n 1, 1) := decAll_at aX10_rests_0 3 rfl
theorem dX10_rests_4 : decode cX10_rests 4 = .ok (.if_icmp .ge 97, 3) := decAll_at aX10_rests_0 4 rfl
theorem dX10_rests_7 : decode cX10_rests 7 = .ok (.iconst 0, 1) := decAll_at aX10_rests_0 5 rfl
theorem dX10_rests_8 : decode cX10_rests 8 = .ok (.istore 4, 2) := decAll_at aX10_rests_0 6 rfl
theorem dX10_rests_10 : decode cX10_rests 10 = .ok (.iload 4, 2) := decAll_at aX10_rests_0 7 rfl
theorem dX10_rests_12 : decode cX10_rests 12 = .ok (.aload_n 0, 1) := decAll_at aX10_rests_0 8 rfl
theorem dX10_rests_13 : decode cX10_rests 13 = .ok (.getfield 150, 3) := decAll_at aX10_rests_0 9 rfl
theorem dX10_rests_16 : decode cX10_rests 16 = .ok (.if_icmp .ge 79, 3) := decAll_at aX10_rests_0 10 rfl
theorem dX10_rests_19 : decode cX10_rests 19 = .ok (.aload_n 0, 1) := decAll_at aX10_rests_0 11 rfl
theorem dX10_rests_20 : decode cX10_rests 20 = .ok (.iload 4, 2) := decAll_at aX10_rests_0 12 rfl
theorem dX10_rests_22 : decode cX10_rests 22 = .ok (.putfield 304, 3) := decAll_at aX10_rests_0 13 rfl
theorem dX10_rests_25 : decode cX10_rests 25 = .ok (.aload_n 0, 1) := decAll_at aX10_rests_0 14 rfl
theorem dX10_rests_26 : decode cX10_rests 26 = .ok (.iconst 0, 1) := decAll_at aX10_rests_0 15 rfl
theorem dX10_rests_27 : decode cX10_rests 27 = .ok (.putfield 307, 3) := decAll_at aX10_rests_0 16 rfl
theorem dX10_rests_30 : decode cX10_rests 30 = .ok (.aload_n 0, 1) := decAll_at aX10_rests_0 17 rfl
theorem dX10_rests_31 : decode cX10_rests 31 = .ok (.aload_n 0, 1) := decAll_at aX10_rests_0 18 rfl
theorem dX10_rests_32 : decode cX10_rests 32 = .ok (.getfield 121, 3) := decAll_at aX10_rests_0 19 rfl
theorem dX10_rests_35 : decode cX10_rests 35 = .ok (.iload 4, 2) := decAll_at aX10_rests_0 20 rfl
theorem dX10_rests_37 : decode cX10_rests 37 = .ok (.iaload, 1) := decAll_at aX10_rests_0 21 rfl
theorem dX10_rests_38 : decode cX10_rests 38 = .ok (.putfield 310, 3) := decAll_at aX10_rests_0 22 rfl
theorem dX10_rests_41 : decode cX10_rests 41 = .ok (.aload_n 0, 1) := decAll_at aX10_rests_0 23 rfl
theorem dX10_rests_42 : decode cX10_rests 42 = .ok (.iconst 0, 1) := decAll_at aX10_rests_0 24 rfl
theorem dX10_rests_43 : decode cX10_rests 43 = .ok (.putfield 313, 3) := decAll_at aX10_rests_0 25 rfl
theorem dX10_rests_46 : decode cX10_rests 46 = .ok (.aload_n 0, 1) := decAll_at aX10_rests_0 26 rfl
theorem dX10_rests_47 : decode cX10_rests 47 = .ok (.iconst 0, 1) := decAll_at aX10_rests_0 27 rfl
theorem dX10_rests_48 : decode cX10_rests 48 = .ok (.putfield 316, 3) := decAll_at aX10_rests_0 28 rfl
theorem dX10_rests_51 : decode cX10_rests 51 = .ok (.aload_n 0, 1) := decAll_at aX10_rests_0 29 rfl
theorem dX10_rests_52 : decode cX10_rests 52 = .ok (.iload_n 2, 1) := decAll_at aX10_rests_0 30 rfl
theorem dX10_rests_53 : decode cX10_rests 53 = .ok (.putfield 319, 3) := decAll_at aX10_rests_0 31 rfl
theorem dX10_rests_56 : decode cX10_rests 56 = .ok (.aload_n 0, 1) := decAll_at aX10_rests_0 32 rfl
theorem dX10_rests_57 : decode cX10_rests 57 = .ok (.iconst 0, 1) := decAll_at aX10_rests_0 33 rfl
theorem dX10_rests_58 : decode cX10_rests 58 = .ok (.putfield 322, 3) := decAll_at aX10_rests_0 34 rfl
theorem dX10_rests_61 : decode cX10_rests 61 = .ok (.aload_n 0, 1) := decAll_at aX10_rests_0 35 rfl
theorem dX10_rests_62 : decode cX10_rests 62 = .ok (.getfield 121, 3) := decAll_at aX10_rests_0 36 rfl
theorem dX10_rests_65 : decode cX10_rests 65 = .ok (.iload 4, 2) := decAll_at aX10_rests_0 37 rfl
theorem dX10_rests_67 : decode cX10_rests 67 = .ok (.aload_n 0, 1) := decAll_at aX10_rests_0 38 rfl
theorem dX10_rests_68 : decode cX10_rests 68 = .ok (.getfield 121, 3) := decAll_at aX10_rests_0 39 rfl
theorem dX10_rests_71 : decode cX10_rests 71 = .ok (.iload 4, 2) := decAll_at aX10_rests_0 40 rfl
theorem dX10_rests_73 : decode cX10_rests 73 = .ok (.iaload, 1) := decAll_at aX10_rests_0 41 rfl
theorem dX10_rests_74 : decode cX10_rests 74 = .ok (.aload_n 0, 1) := decAll_at aX10_rests_0 42 rfl
theorem dX10_rests_75 : decode cX10_rests 75 = .ok (.bipush 114, 2) := decAll_at aX10_rests_0 43 rfl
theorem dX10_rests_77 : decode cX10_rests 77 = .ok (.iconst 0, 1) := decAll_at aX10_rests_0 44 rfl
theorem dX10_rests_78 : decode cX10_rests 78 = .ok (.iconst 5, 1) := decAll_at aX10_rests_0 45 rfl
theorem dX10_rests_79 : decode cX10_rests 79 = .ok (.invokevirtual 342, 3) := decAll_at aX10_rests_0 46 rfl
theorem dX10_rests_82 : decode cX10_rests 82 = .ok (.isub, 1) := decAll_at aX10_rests_0 47 rfl
theorem dX10_rests_83 : decode cX10_rests 83 = .ok (.iconst 0, 1) := decAll_at aX10_rests_0 48 rfl
theorem dX10_rests_84 : decode cX10_rests 84 = .ok (.iconst 5, 1) := decAll_at aX10_rests_0 49 rfl
theorem dX10_rests_85 : decode cX10_rests 85 = .ok (.invokestatic 339, 3) := decAll_at aX10_rests_0 50 rfl
theorem dX10_rests_88 : decode cX10_rests 88 = .ok (.iastore, 1) := decAll_at aX10_rests_0 51 rfl
theorem dX10_rests_89 : decode cX10_rests 89 = .ok (.iinc 4 1, 3) := decAll_at aX10_rests_0 52 rfl
theorem dX10_rests_92 : decode cX10_rests 92 = .ok (.goto (-82), 3) := decAll_at aX10_rests_0 53 rfl
theorem dX10_rests_95 : decode cX10_rests 95 = .ok (.iinc 3 1, 3) := decAll_at aX10_rests_0 54 rfl
theorem dX10_rests_98 : decode cX10_rests 98 = .ok (.goto (-96), 3) := decAll_at aX10_rests_0 55 rfl
theorem dX10_rests_101 : decode cX10_rests 101 = .ok (.return_, 1) := decAll_at aX10_rests_0 56 rfl
def laX10_bandPace_0 : List (Nat × Instr × Nat) := [(0, .bipush 60, 2), (2, .istore_n 3, 1), (3, .iconst 0, 1), (4, .istore 4, 2), (6, .iload 4, 2), (8, .aload_n 0, 1), (9, .getfield 150, 3), (12, .if_icmp .ge 47, 3), (15, .aload_n 0, 1), (16, .iload 4, 2), (18, .aload_n 0, 1), (19, .iload 4, 2), (21, .iload_n 1, 1), (22, .iload_n 2, 1), (23, .invokevirtual 449, 3), (26, .aload_n 0, 1), (27, .getfield 121, 3), (30, .iload 4, 2), (32, .iaload, 1), (33, .iload_n 2, 1), (34, .iconst 0, 1), (35, .invokevirtual 354, 3), (38, .istore 5, 2), (40, .iload 5, 2), (42, .iload_n 3, 1), (43, .if_icmp .ge 8, 3), (46, .iload 5, 2), (48, .goto 4, 3), (51, .iload_n 3, 1), (52, .istore_n 3, 1), (53, .iinc 4 1, 3), (56, .goto (-50), 3), (59, .iload_n 3, 1), (60, .ireturn, 1)]
theorem aX10_bandPace_0 : decAll cX10_bandPace laX10_bandPace_0 = true := by decide +kernel
theorem dX10_bandPace_0 : decode cX10_bandPace 0 = .ok (.bipush 60, 2) := decAll_at aX10_bandPace_0 0 rfl
theorem dX10_bandPace_2 : decode cX10_bandPace 2 = .ok (.istore_n 3, 1) := decAll_at aX10_bandPace_0 1 rfl
theorem dX10_bandPace_3 : decode cX10_bandPace 3 = .ok (.iconst 0, 1) := decAll_at aX10_bandPace_0 2 rfl
theorem dX10_bandPace_4 : decode cX10_bandPace 4 = .ok (.istore 4, 2) := decAll_at aX10_bandPace_0 3 rfl
theorem dX10_bandPace_6 : decode cX10_bandPace 6 = .ok (.iload 4, 2) := decAll_at aX10_bandPace_0 4 rfl
theorem dX10_bandPace_8 : decode cX10_bandPace 8 = .ok (.aload_n 0, 1) := decAll_at aX10_bandPace_0 5 rfl
theorem dX10_bandPace_9 : decode cX10_bandPace 9 = .ok (.getfield 150, 3) := decAll_at aX10_bandPace_0 6 rfl
theorem dX10_bandPace_12 : decode cX10_bandPace 12 = .ok (.if_icmp .ge 47, 3) := decAll_at aX10_bandPace_0 7 rfl
theorem dX10_bandPace_15 : decode cX10_bandPace 15 = .ok (.aload_n 0, 1) := decAll_at aX10_bandPace_0 8 rfl
theorem dX10_bandPace_16 : decode cX10_bandPace 16 = .ok (.iload 4, 2) := decAll_at aX10_bandPace_0 9 rfl
theorem dX10_bandPace_18 : decode cX10_bandPace 18 = .ok (.aload_n 0, 1) := decAll_at aX10_bandPace_0 10 rfl
theorem dX10_bandPace_19 : decode cX10_bandPace 19 = .ok (.iload 4, 2) := decAll_at aX10_bandPace_0 11 rfl
theorem dX10_bandPace_21 : decode cX10_bandPace 21 = .ok (.iload_n 1, 1) := decAll_at aX10_bandPace_0 12 rfl
theorem dX10_bandPace_22 : decode cX10_bandPace 22 = .ok (.iload_n 2, 1) := decAll_at aX10_bandPace_0 13 rfl
theorem dX10_bandPace_23 : decode cX10_bandPace 23 = .ok (.invokevirtual 449, 3) := decAll_at aX10_bandPace_0 14 rfl
theorem dX10_bandPace_26 : decode cX10_bandPace 26 = .ok (.aload_n 0, 1) := decAll_at aX10_bandPace_0 15 rfl
theorem dX10_bandPace_27 : decode cX10_bandPace 27 = .ok (.getfield 121, 3) := decAll_at aX10_bandPace_0 16 rfl
theorem dX10_bandPace_30 : decode cX10_bandPace 30 = .ok (.iload 4, 2) := decAll_at aX10_bandPace_0 17 rfl
theorem dX10_bandPace_32 : decode cX10_bandPace 32 = .ok (.iaload, 1) := decAll_at aX10_bandPace_0 18 rfl
theorem dX10_bandPace_33 : decode cX10_bandPace 33 = .ok (.iload_n 2, 1) := decAll_at aX10_bandPace_0 19 rfl
theorem dX10_bandPace_34 : decode cX10_bandPace 34 = .ok (.iconst 0, 1) := decAll_at aX10_bandPace_0 20 rfl
theorem dX10_bandPace_35 : decode cX10_bandPace 35 = .ok (.invokevirtual 354, 3) := decAll_at aX10_bandPace_0 21 rfl
theorem dX10_bandPace_38 : decode cX10_bandPace 38 = .ok (.istore 5, 2) := decAll_at aX10_bandPace_0 22 rfl
theorem dX10_bandPace_40 : decode cX10_bandPace 40 = .ok (.iload 5, 2) := decAll_at aX10_bandPace_0 23 rfl
theorem dX10_bandPace_42 : decode cX10_bandPace 42 = .ok (.iload_n 3, 1) := decAll_at aX10_bandPace_0 24 rfl
theorem dX10_bandPace_43 : decode cX10_bandPace 43 = .ok (.if_icmp .ge 8, 3) := decAll_at aX10_bandPace_0 25 rfl
theorem dX10_bandPace_46 : decode cX10_bandPace 46 = .ok (.iload 5, 2) := decAll_at aX10_bandPace_0 26 rfl
theorem dX10_bandPace_48 : decode cX10_bandPace 48 = .ok (.goto 4, 3) := decAll_at aX10_bandPace_0 27 rfl
theorem dX10_bandPace_51 : decode cX10_bandPace 51 = .ok (.iload_n 3, 1) := decAll_at aX10_bandPace_0 28 rfl
theorem dX10_bandPace_52 : decode cX10_bandPace 52 = .ok (.istore_n 3, 1) := decAll_at aX10_bandPace_0 29 rfl
theorem dX10_bandPace_53 : decode cX10_bandPace 53 = .ok (.iinc 4 1, 3) := decAll_at aX10_bandPace_0 30 rfl
theorem dX10_bandPace_56 : decode cX10_bandPace 56 = .ok (.goto (-50), 3) := decAll_at aX10_bandPace_0 31 rfl
theorem dX10_bandPace_59 : decode cX10_bandPace 59 = .ok (.iload_n 3, 1) := decAll_at aX10_bandPace_0 32 rfl
theorem dX10_bandPace_60 : decode cX10_bandPace 60 = .ok (.ireturn, 1) := decAll_at aX10_bandPace_0 33 rfl
def laX10_goesOver_0 : List (Nat × Instr × Nat) := [(0, .iload_n 2, 1), (1, .bipush 6, 2), (3, .irem, 1), (4, .istore_n 3, 1), (5, .aload_n 0, 1), (6, .iload_n 2, 1), (7, .bipush 6, 2), (9, .idiv, 1), (10, .iload_n 1, 1), (11, .invokevirtual 452, 3), (14, .aload_n 0, 1), (15, .aload_n 0, 1), (16, .iload_n 3, 1), (17, .iload_n 1, 1), (18, .invokevirtual 455, 3), (21, .putfield 458, 3), (24, .aload_n 0, 1), (25, .getfield 458, 3), (28, .ifCond .ne 5, 3), (31, .iconst 0, 1), (32, .ireturn, 1), (33, .aload_n 0, 1), (34, .bipush 30, 2), (36, .iload_n 2, 1), (37, .bipush 6, 2), (39, .idiv, 1), (40, .imul, 1), (41, .aload_n 0, 1), (42, .iload_n 1, 1), (43, .aload_n 0, 1), (44, .getfield 458, 3), (47, .invokevirtual 390, 3), (50, .iadd, 1), (51, .putfield 461, 3), (54, .iconst 0, 1), (55, .istore 4, 2), (57, .iload 4, 2), (59, .aload_n 0, 1), (60, .getfield 150, 3), (63, .if_icmp .ge 105, 3), (66, .aload_n 0, 1), (67, .iload 4, 2), (69, .putfield 304, 3), (72, .aload_n 0, 1), (73, .aload_n 0, 1), (74, .iload 4, 2), (76, .iload_n 3, 1), (77, .iload_n 1, 1), (78, .invokevirtual 449, 3), (81, .putfield 307, 3), (84, .aload_n 0, 1), (85, .aload_n 0, 1), (86, .getfield 121, 3), (89, .iload 4, 2), (91, .iaload, 1), (92, .putfield 310, 3), (95, .aload_n 0, 1), (96, .aload_n 0, 1), (97, .getfield 40, 3), (100, .iload_n 1, 1), (101, .iaload, 1), (102, .putfield 313, 3), (105, .aload_n 0, 1), (106, .aload_n 0, 1)]
theorem aX10_goesOver_0 : decAll cX10_goesOver laX10_goesOver_0 = true := by decide +kernel
theorem dX10_goesOver_0 : decode cX10_goesOver 0 = .ok (.iload_n 2, 1) := decAll_at aX10_goesOver_0 0 rfl
theorem dX10_goesOver_1 : decode cX10_goesOver 1 = .ok (.bipush 6, 2) := decAll_at aX10_goesOver_0 1 rfl
theorem dX10_goesOver_3 : decode cX10_goesOver 3 = .ok (.irem, 1) := decAll_at aX10_goesOver_0 2 rfl
theorem dX10_goesOver_4 : decode cX10_goesOver 4 = .ok (.istore_n 3, 1) := decAll_at aX10_goesOver_0 3 rfl
theorem dX10_goesOver_5 : decode cX10_goesOver 5 = .ok (.aload_n 0, 1) := decAll_at aX10_goesOver_0 4 rfl
theorem dX10_goesOver_6 : decode cX10_goesOver 6 = .ok (.iload_n 2, 1) := decAll_at aX10_goesOver_0 5 rfl
theorem dX10_goesOver_7 : decode cX10_goesOver 7 = .ok (.bipush 6, 2) := decAll_at aX10_goesOver_0 6 rfl
theorem dX10_goesOver_9 : decode cX10_goesOver 9 = .ok (.idiv, 1) := decAll_at aX10_goesOver_0 7 rfl
theorem dX10_goesOver_10 : decode cX10_goesOver 10 = .ok (.iload_n 1, 1) := decAll_at aX10_goesOver_0 8 rfl
theorem dX10_goesOver_11 : decode cX10_goesOver 11 = .ok (.invokevirtual 452, 3) := decAll_at aX10_goesOver_0 9 rfl
theorem dX10_goesOver_14 : decode cX10_goesOver 14 = .ok (.aload_n 0, 1) := decAll_at aX10_goesOver_0 10 rfl
theorem dX10_goesOver_15 : decode cX10_goesOver 15 = .ok (.aload_n 0, 1) := decAll_at aX10_goesOver_0 11 rfl
theorem dX10_goesOver_16 : decode cX10_goesOver 16 = .ok (.iload_n 3, 1) := decAll_at aX10_goesOver_0 12 rfl
theorem dX10_goesOver_17 : decode cX10_goesOver 17 = .ok (.iload_n 1, 1) := decAll_at aX10_goesOver_0 13 rfl
theorem dX10_goesOver_18 : decode cX10_goesOver 18 = .ok (.invokevirtual 455, 3) := decAll_at aX10_goesOver_0 14 rfl
theorem dX10_goesOver_21 : decode cX10_goesOver 21 = .ok (.putfield 458, 3) := decAll_at aX10_goesOver_0 15 rfl
theorem dX10_goesOver_24 : decode cX10_goesOver 24 = .ok (.aload_n 0, 1) := decAll_at aX10_goesOver_0 16 rfl
theorem dX10_goesOver_25 : decode cX10_goesOver 25 = .ok (.getfield 458, 3) := decAll_at aX10_goesOver_0 17 rfl
theorem dX10_goesOver_28 : decode cX10_goesOver 28 = .ok (.ifCond .ne 5, 3) := decAll_at aX10_goesOver_0 18 rfl
theorem dX10_goesOver_31 : decode cX10_goesOver 31 = .ok (.iconst 0, 1) := decAll_at aX10_goesOver_0 19 rfl
theorem dX10_goesOver_32 : decode cX10_goesOver 32 = .ok (.ireturn, 1) := decAll_at aX10_goesOver_0 20 rfl
theorem dX10_goesOver_33 : decode cX10_goesOver 33 = .ok (.aload_n 0, 1) := decAll_at aX10_goesOver_0 21 rfl
theorem dX10_goesOver_34 : decode cX10_goesOver 34 = .ok (.bipush 30, 2) := decAll_at aX10_goesOver_0 22 rfl
theorem dX10_goesOver_36 : decode cX10_goesOver 36 = .ok (.iload_n 2, 1) := decAll_at aX10_goesOver_0 23 rfl
theorem dX10_goesOver_37 : decode cX10_goesOver 37 = .ok (.bipush 6, 2) := decAll_at aX10_goesOver_0 24 rfl
theorem dX10_goesOver_39 : decode cX10_goesOver 39 = .ok (.idiv, 1) := decAll_at aX10_goesOver_0 25 rfl
theorem dX10_goesOver_40 : decode cX10_goesOver 40 = .ok (.imul, 1) := decAll_at aX10_goesOver_0 26 rfl
theorem dX10_goesOver_41 : decode cX10_goesOver 41 = .ok (.aload_n 0, 1) := decAll_at aX10_goesOver_0 27 rfl
theorem dX10_goesOver_42 : decode cX10_goesOver 42 = .ok (.iload_n 1, 1) := decAll_at aX10_goesOver_0 28 rfl
theorem dX10_goesOver_43 : decode cX10_goesOver 43 = .ok (.aload_n 0, 1) := decAll_at aX10_goesOver_0 29 rfl
theorem dX10_goesOver_44 : decode cX10_goesOver 44 = .ok (.getfield 458, 3) := decAll_at aX10_goesOver_0 30 rfl
theorem dX10_goesOver_47 : decode cX10_goesOver 47 = .ok (.invokevirtual 390, 3) := decAll_at aX10_goesOver_0 31 rfl
theorem dX10_goesOver_50 : decode cX10_goesOver 50 = .ok (.iadd, 1) := decAll_at aX10_goesOver_0 32 rfl
theorem dX10_goesOver_51 : decode cX10_goesOver 51 = .ok (.putfield 461, 3) := decAll_at aX10_goesOver_0 33 rfl
theorem dX10_goesOver_54 : decode cX10_goesOver 54 = .ok (.iconst 0, 1) := decAll_at aX10_goesOver_0 34 rfl
theorem dX10_goesOver_55 : decode cX10_goesOver 55 = .ok (.istore 4, 2) := decAll_at aX10_goesOver_0 35 rfl
theorem dX10_goesOver_57 : decode cX10_goesOver 57 = .ok (.iload 4, 2) := decAll_at aX10_goesOver_0 36 rfl
theorem dX10_goesOver_59 : decode cX10_goesOver 59 = .ok (.aload_n 0, 1) := decAll_at aX10_goesOver_0 37 rfl
theorem dX10_goesOver_60 : decode cX10_goesOver 60 = .ok (.getfield 150, 3) := decAll_at aX10_goesOver_0 38 rfl
theorem dX10_goesOver_63 : decode cX10_goesOver 63 = .ok (.if_icmp .ge 105, 3) := decAll_at aX10_goesOver_0 39 rfl
theorem dX10_goesOver_66 : decode cX10_goesOver 66 = .ok (.aload_n 0, 1) := decAll_at aX10_goesOver_0 40 rfl
theorem dX10_goesOver_67 : decode cX10_goesOver 67 = .ok (.iload 4, 2) := decAll_at aX10_goesOver_0 41 rfl
theorem dX10_goesOver_69 : decode cX10_goesOver 69 = .ok (.putfield 304, 3) := decAll_at aX10_goesOver_0 42 rfl
theorem dX10_goesOver_72 : decode cX10_goesOver 72 = .ok (.aload_n 0, 1) := decAll_at aX10_goesOver_0 43 rfl
theorem dX10_goesOver_73 : decode cX10_goesOver 73 = .ok (.aload_n 0, 1) := decAll_at aX10_goesOver_0 44 rfl
theorem dX10_goesOver_74 : decode cX10_goesOver 74 = .ok (.iload 4, 2) := decAll_at aX10_goesOver_0 45 rfl
theorem dX10_goesOver_76 : decode cX10_goesOver 76 = .ok (.iload_n 3, 1) := decAll_at aX10_goesOver_0 46 rfl
theorem dX10_goesOver_77 : decode cX10_goesOver 77 = .ok (.iload_n 1, 1) := decAll_at aX10_goesOver_0 47 rfl
theorem dX10_goesOver_78 : decode cX10_goesOver 78 = .ok (.invokevirtual 449, 3) := decAll_at aX10_goesOver_0 48 rfl
theorem dX10_goesOver_81 : decode cX10_goesOver 81 = .ok (.putfield 307, 3) := decAll_at aX10_goesOver_0 49 rfl
theorem dX10_goesOver_84 : decode cX10_goesOver 84 = .ok (.aload_n 0, 1) := decAll_at aX10_goesOver_0 50 rfl
theorem dX10_goesOver_85 : decode cX10_goesOver 85 = .ok (.aload_n 0, 1) := decAll_at aX10_goesOver_0 51 rfl
theorem dX10_goesOver_86 : decode cX10_goesOver 86 = .ok (.getfield 121, 3) := decAll_at aX10_goesOver_0 52 rfl
theorem dX10_goesOver_89 : decode cX10_goesOver 89 = .ok (.iload 4, 2) := decAll_at aX10_goesOver_0 53 rfl
theorem dX10_goesOver_91 : decode cX10_goesOver 91 = .ok (.iaload, 1) := decAll_at aX10_goesOver_0 54 rfl
theorem dX10_goesOver_92 : decode cX10_goesOver 92 = .ok (.putfield 310, 3) := decAll_at aX10_goesOver_0 55 rfl
theorem dX10_goesOver_95 : decode cX10_goesOver 95 = .ok (.aload_n 0, 1) := decAll_at aX10_goesOver_0 56 rfl
theorem dX10_goesOver_96 : decode cX10_goesOver 96 = .ok (.aload_n 0, 1) := decAll_at aX10_goesOver_0 57 rfl
theorem dX10_goesOver_97 : decode cX10_goesOver 97 = .ok (.getfield 40, 3) := decAll_at aX10_goesOver_0 58 rfl
theorem dX10_goesOver_100 : decode cX10_goesOver 100 = .ok (.iload_n 1, 1) := decAll_at aX10_goesOver_0 59 rfl
theorem dX10_goesOver_101 : decode cX10_goesOver 101 = .ok (.iaload, 1) := decAll_at aX10_goesOver_0 60 rfl
theorem dX10_goesOver_102 : decode cX10_goesOver 102 = .ok (.putfield 313, 3) := decAll_at aX10_goesOver_0 61 rfl
theorem dX10_goesOver_105 : decode cX10_goesOver 105 = .ok (.aload_n 0, 1) := decAll_at aX10_goesOver_0 62 rfl
theorem dX10_goesOver_106 : decode cX10_goesOver 106 = .ok (.aload_n 0, 1) := decAll_at aX10_goesOver_0 63 rfl
def laX10_goesOver_1 : List (Nat × Instr × Nat) := [(107, .getfield 37, 3), (110, .iload_n 1, 1), (111, .iaload, 1), (112, .putfield 316, 3), (115, .aload_n 0, 1), (116, .iload_n 1, 1), (117, .putfield 319, 3), (120, .aload_n 0, 1), (121, .aload_n 0, 1), (122, .iload_n 1, 1), (123, .aload_n 0, 1), (124, .getfield 458, 3), (127, .invokevirtual 390, 3), (130, .putfield 322, 3), (133, .aload_n 0, 1), (134, .getfield 121, 3), (137, .iload 4, 2), (139, .aload_n 0, 1), (140, .getfield 121, 3), (143, .iload 4, 2), (145, .iaload, 1), (146, .aload_n 0, 1), (147, .bipush 103, 2), (149, .bipush (-5), 2), (151, .iconst 5, 1), (152, .invokevirtual 342, 3), (155, .iadd, 1), (156, .iconst 0, 1), (157, .iconst 5, 1), (158, .invokestatic 339, 3), (161, .iastore, 1), (162, .iinc 4 1, 3), (165, .goto (-108), 3), (168, .iconst 1, 1), (169, .ireturn, 1)]
theorem aX10_goesOver_1 : decAll cX10_goesOver laX10_goesOver_1 = true := by decide +kernel
theorem dX10_goesOver_107 : decode cX10_goesOver 107 = .ok (.getfield 37, 3) := decAll_at aX10_goesOver_1 0 rfl
theorem dX10_goesOver_110 : decode cX10_goesOver 110 = .ok (.iload_n 1, 1) := decAll_at aX10_goesOver_1 1 rfl
theorem dX10_goesOver_111 : decode cX10_goesOver 111 = .ok (.iaload, 1) := decAll_at aX10_goesOver_1 2 rfl
theorem dX10_goesOver_112 : decode cX10_goesOver 112 = .ok (.putfield 316, 3) := decAll_at aX10_goesOver_1 3 rfl
theorem dX10_goesOver_115 : decode cX10_goesOver 115 = .ok (.aload_n 0, 1) := decAll_at aX10_goesOver_1 4 rfl
theorem dX10_goesOver_116 : decode cX10_goesOver 116 = .ok (.iload_n 1, 1) := decAll_at aX10_goesOver_1 5 rfl
theorem dX10_goesOver_117 : decode cX10_goesOver 117 = .ok (.putfield 319, 3) := decAll_at aX10_goesOver_1 6 rfl
theorem dX10_goesOver_120 : decode cX10_goesOver 120 = .ok (.aload_n 0, 1) := decAll_at aX10_goesOver_1 7 rfl
theorem dX10_goesOver_121 : decode cX10_goesOver 121 = .ok (.aload_n 0, 1) := decAll_at aX10_goesOver_1 8 rfl
theorem dX10_goesOver_122 : decode cX10_goesOver 122 = .ok (.iload_n 1, 1) := decAll_at aX10_goesOver_1 9 rfl
theorem dX10_goesOver_123 : decode cX10_goesOver 123 = .ok (.aload_n 0, 1) := decAll_at aX10_goesOver_1 10 rfl
theorem dX10_goesOver_124 : decode cX10_goesOver 124 = .ok (.getfield 458, 3) := decAll_at aX10_goesOver_1 11 rfl
theorem dX10_goesOver_127 : decode cX10_goesOver 127 = .ok (.invokevirtual 390, 3) := decAll_at aX10_goesOver_1 12 rfl
theorem dX10_goesOver_130 : decode cX10_goesOver 130 = .ok (.putfield 322, 3) := decAll_at aX10_goesOver_1 13 rfl
theorem dX10_goesOver_133 : decode cX10_goesOver 133 = .ok (.aload_n 0, 1) := decAll_at aX10_goesOver_1 14 rfl
theorem dX10_goesOver_134 : decode cX10_goesOver 134 = .ok (.getfield 121, 3) := decAll_at aX10_goesOver_1 15 rfl
theorem dX10_goesOver_137 : decode cX10_goesOver 137 = .ok (.iload 4, 2) := decAll_at aX10_goesOver_1 16 rfl
theorem dX10_goesOver_139 : decode cX10_goesOver 139 = .ok (.aload_n 0, 1) := decAll_at aX10_goesOver_1 17 rfl
theorem dX10_goesOver_140 : decode cX10_goesOver 140 = .ok (.getfield 121, 3) := decAll_at aX10_goesOver_1 18 rfl
theorem dX10_goesOver_143 : decode cX10_goesOver 143 = .ok (.iload 4, 2) := decAll_at aX10_goesOver_1 19 rfl
theorem dX10_goesOver_145 : decode cX10_goesOver 145 = .ok (.iaload, 1) := decAll_at aX10_goesOver_1 20 rfl
theorem dX10_goesOver_146 : decode cX10_goesOver 146 = .ok (.aload_n 0, 1) := decAll_at aX10_goesOver_1 21 rfl
theorem dX10_goesOver_147 : decode cX10_goesOver 147 = .ok (.bipush 103, 2) := decAll_at aX10_goesOver_1 22 rfl
theorem dX10_goesOver_149 : decode cX10_goesOver 149 = .ok (.bipush (-5), 2) := decAll_at aX10_goesOver_1 23 rfl
theorem dX10_goesOver_151 : decode cX10_goesOver 151 = .ok (.iconst 5, 1) := decAll_at aX10_goesOver_1 24 rfl
theorem dX10_goesOver_152 : decode cX10_goesOver 152 = .ok (.invokevirtual 342, 3) := decAll_at aX10_goesOver_1 25 rfl
theorem dX10_goesOver_155 : decode cX10_goesOver 155 = .ok (.iadd, 1) := decAll_at aX10_goesOver_1 26 rfl
theorem dX10_goesOver_156 : decode cX10_goesOver 156 = .ok (.iconst 0, 1) := decAll_at aX10_goesOver_1 27 rfl
theorem dX10_goesOver_157 : decode cX10_goesOver 157 = .ok (.iconst 5, 1) := decAll_at aX10_goesOver_1 28 rfl
theorem dX10_goesOver_158 : decode cX10_goesOver 158 = .ok (.invokestatic 339, 3) := decAll_at aX10_goesOver_1 29 rfl
theorem dX10_goesOver_161 : decode cX10_goesOver 161 = .ok (.iastore, 1) := decAll_at aX10_goesOver_1 30 rfl
theorem dX10_goesOver_162 : decode cX10_goesOver 162 = .ok (.iinc 4 1, 3) := decAll_at aX10_goesOver_1 31 rfl
theorem dX10_goesOver_165 : decode cX10_goesOver 165 = .ok (.goto (-108), 3) := decAll_at aX10_goesOver_1 32 rfl
theorem dX10_goesOver_168 : decode cX10_goesOver 168 = .ok (.iconst 1, 1) := decAll_at aX10_goesOver_1 33 rfl
theorem dX10_goesOver_169 : decode cX10_goesOver 169 = .ok (.ireturn, 1) := decAll_at aX10_goesOver_1 34 rfl
