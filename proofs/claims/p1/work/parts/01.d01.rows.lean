theorem dX9_init_129 : decode cX9_init 129 = .ok (.putfield 69, 3) := by decide +kernel
theorem dX9_init_132 : decode cX9_init 132 = .ok (.aload_n 0, 1) := by decide +kernel
theorem dX9_init_133 : decode cX9_init 133 = .ok (.new 73, 3) := by decide +kernel
theorem dX9_init_136 : decode cX9_init 136 = .ok (.dup, 1) := by decide +kernel
theorem dX9_init_137 : decode cX9_init 137 = .ok (.aload_n 0, 1) := by decide +kernel
theorem dX9_init_138 : decode cX9_init 138 = .ok (.getfield 19, 3) := by decide +kernel
theorem dX9_init_141 : decode cX9_init 141 = .ok (.aload_n 0, 1) := by decide +kernel
theorem dX9_init_142 : decode cX9_init 142 = .ok (.getfield 44, 3) := by decide +kernel
theorem dX9_init_145 : decode cX9_init 145 = .ok (.invokespecial 75, 3) := by decide +kernel
theorem dX9_init_148 : decode cX9_init 148 = .ok (.putfield 76, 3) := by decide +kernel
theorem dX9_init_151 : decode cX9_init 151 = .ok (.return_, 1) := by decide +kernel
set_option maxRecDepth 100000 in
theorem ggX9_walker_X9_forget : GoodIn wsX9_walker wsX9_forget := goodIn_r _ [12, 13, 14, 15, 16, 17, 18, 19, 20, 21, 22, 23, 24, 25, 48, 49, 50, 51, 52, 53, 54, 55, 56, 57, 58, 59, 60, 61, 62, 63, 64, 65, 66, 67, 68, 69, 70, 71, 72, 73] rfl (by decide +kernel)
set_option maxRecDepth 100000 in
theorem gX9_walker_X9_forget : GoodIn wsX9_walker (wsV RX9 99 RX9 yX9_forget wsX9_forget) := goodIn_app (goodIn_r _ [8, 9, 10, 11] rfl (by decide +kernel)) ggX9_walker_X9_forget
theorem dX9_walker_0 : decode cX9_walker 0 = .ok (.iload_n 1, 1) := by decide +kernel
theorem dX9_walker_1 : decode cX9_walker 1 = .ok (.ifCond .lt 26, 3) := by decide +kernel
theorem dX9_walker_4 : decode cX9_walker 4 = .ok (.iload_n 1, 1) := by decide +kernel
theorem dX9_walker_5 : decode cX9_walker 5 = .ok (.bipush 9, 2) := by decide +kernel
theorem dX9_walker_7 : decode cX9_walker 7 = .ok (.if_icmp .gt 20, 3) := by decide +kernel
theorem dX9_walker_10 : decode cX9_walker 10 = .ok (.iload_n 2, 1) := by decide +kernel
theorem dX9_walker_11 : decode cX9_walker 11 = .ok (.bipush 20, 2) := by decide +kernel
theorem dX9_walker_13 : decode cX9_walker 13 = .ok (.if_icmp .lt 14, 3) := by decide +kernel
theorem dX9_walker_16 : decode cX9_walker 16 = .ok (.iload_n 2, 1) := by decide +kernel
theorem dX9_walker_17 : decode cX9_walker 17 = .ok (.sipush 250, 3) := by decide +kernel
theorem dX9_walker_20 : decode cX9_walker 20 = .ok (.if_icmp .gt 7, 3) := by decide +kernel
theorem dX9_walker_23 : decode cX9_walker 23 = .ok (.iconst 1, 1) := by decide +kernel
theorem dX9_walker_24 : decode cX9_walker 24 = .ok (.goto 4, 3) := by decide +kernel
theorem dX9_walker_27 : decode cX9_walker 27 = .ok (.iconst 0, 1) := by decide +kernel
theorem dX9_walker_28 : decode cX9_walker 28 = .ok (.istore_n 3, 1) := by decide +kernel
theorem dX9_walker_29 : decode cX9_walker 29 = .ok (.iload_n 3, 1) := by decide +kernel
theorem dX9_walker_30 : decode cX9_walker 30 = .ok (.ifCond .eq 15, 3) := by decide +kernel
theorem dX9_walker_33 : decode cX9_walker 33 = .ok (.aload_n 0, 1) := by decide +kernel
theorem dX9_walker_34 : decode cX9_walker 34 = .ok (.getfield 19, 3) := by decide +kernel
theorem dX9_walker_37 : decode cX9_walker 37 = .ok (.getfield 80, 3) := by decide +kernel
theorem dX9_walker_40 : decode cX9_walker 40 = .ok (.bipush 6, 2) := by decide +kernel
theorem dX9_walker_42 : decode cX9_walker 42 = .ok (.if_icmp .lt 5, 3) := by decide +kernel
theorem dX9_walker_45 : decode cX9_walker 45 = .ok (.iconst (-1), 1) := by decide +kernel
theorem dX9_walker_46 : decode cX9_walker 46 = .ok (.ireturn, 1) := by decide +kernel
theorem dX9_walker_47 : decode cX9_walker 47 = .ok (.aload_n 0, 1) := by decide +kernel
theorem dX9_walker_48 : decode cX9_walker 48 = .ok (.getfield 19, 3) := by decide +kernel
theorem dX9_walker_51 : decode cX9_walker 51 = .ok (.getfield 80, 3) := by decide +kernel
theorem dX9_walker_54 : decode cX9_walker 54 = .ok (.istore 4, 2) := by decide +kernel
theorem dX9_walker_56 : decode cX9_walker 56 = .ok (.aload_n 0, 1) := by decide +kernel
theorem dX9_walker_57 : decode cX9_walker 57 = .ok (.getfield 19, 3) := by decide +kernel
theorem dX9_walker_60 : decode cX9_walker 60 = .ok (.getfield 84, 3) := by decide +kernel
theorem dX9_walker_63 : decode cX9_walker 63 = .ok (.iload 4, 2) := by decide +kernel
theorem dX9_walker_65 : decode cX9_walker 65 = .ok (.iload_n 1, 1) := by decide +kernel
theorem dX9_walker_66 : decode cX9_walker 66 = .ok (.iastore, 1) := by decide +kernel
theorem dX9_walker_67 : decode cX9_walker 67 = .ok (.aload_n 0, 1) := by decide +kernel
theorem dX9_walker_68 : decode cX9_walker 68 = .ok (.getfield 19, 3) := by decide +kernel
theorem dX9_walker_71 : decode cX9_walker 71 = .ok (.getfield 88, 3) := by decide +kernel
theorem dX9_walker_74 : decode cX9_walker 74 = .ok (.iload 4, 2) := by decide +kernel
theorem dX9_walker_76 : decode cX9_walker 76 = .ok (.iload_n 2, 1) := by decide +kernel
theorem dX9_walker_77 : decode cX9_walker 77 = .ok (.iastore, 1) := by decide +kernel
theorem dX9_walker_78 : decode cX9_walker 78 = .ok (.aload_n 0, 1) := by decide +kernel
theorem dX9_walker_79 : decode cX9_walker 79 = .ok (.getfield 19, 3) := by decide +kernel
theorem dX9_walker_82 : decode cX9_walker 82 = .ok (.getfield 91, 3) := by decide +kernel
theorem dX9_walker_85 : decode cX9_walker 85 = .ok (.iload 4, 2) := by decide +kernel
theorem dX9_walker_87 : decode cX9_walker 87 = .ok (.iconst 0, 1) := by decide +kernel
theorem dX9_walker_88 : decode cX9_walker 88 = .ok (.bastore, 1) := by decide +kernel
theorem dX9_walker_89 : decode cX9_walker 89 = .ok (.aload_n 0, 1) := by decide +kernel
theorem dX9_walker_90 : decode cX9_walker 90 = .ok (.getfield 19, 3) := by decide +kernel
theorem dX9_walker_93 : decode cX9_walker 93 = .ok (.dup, 1) := by decide +kernel
theorem dX9_walker_94 : decode cX9_walker 94 = .ok (.getfield 80, 3) := by decide +kernel
theorem dX9_walker_97 : decode cX9_walker 97 = .ok (.iconst 1, 1) := by decide +kernel
theorem dX9_walker_98 : decode cX9_walker 98 = .ok (.iadd, 1) := by decide +kernel
theorem dX9_walker_99 : decode cX9_walker 99 = .ok (.putfield 80, 3) := by decide +kernel
theorem dX9_walker_102 : decode cX9_walker 102 = .ok (.aload_n 0, 1) := by decide +kernel
theorem dX9_walker_103 : decode cX9_walker 103 = .ok (.getfield 60, 3) := by decide +kernel
theorem dX9_walker_106 : decode cX9_walker 106 = .ok (.iconst 0, 1) := by decide +kernel
theorem dX9_walker_107 : decode cX9_walker 107 = .ok (.putfield 95, 3) := by decide +kernel
theorem dX9_walker_110 : decode cX9_walker 110 = .ok (.aload_n 0, 1) := by decide +kernel
theorem dX9_walker_111 : decode cX9_walker 111 = .ok (.invokevirtual 99, 3) := by decide +kernel
theorem dX9_walker_114 : decode cX9_walker 114 = .ok (.iload 4, 2) := by decide +kernel
theorem dX9_walker_116 : decode cX9_walker 116 = .ok (.ireturn, 1) := by decide +kernel
set_option maxRecDepth 100000 in
theorem ggX9_load_X0_hasWalker : GoodIn wsX9_load wsX0_hasWalker := goodIn_r _ [15, 16, 26, 27, 28, 29, 30, 31, 32, 33, 34, 35, 36] rfl (by decide +kernel)
set_option maxRecDepth 100000 in
theorem gX9_load_X0_hasWalker : GoodIn wsX9_load (wsV RX9 102 RX0 yX0_hasWalker wsX0_hasWalker) := goodIn_app (goodIn_r _ [11, 12, 13, 14] rfl (by decide +kernel)) ggX9_load_X0_hasWalker
theorem dX9_load_0 : decode cX9_load 0 = .ok (.iload_n 1, 1) := by decide +kernel
theorem dX9_load_1 : decode cX9_load 1 = .ok (.iconst 1, 1) := by decide +kernel
theorem dX9_load_2 : decode cX9_load 2 = .ok (.if_icmp .lt 23, 3) := by decide +kernel
theorem dX9_load_5 : decode cX9_load 5 = .ok (.iload_n 1, 1) := by decide +kernel
theorem dX9_load_6 : decode cX9_load 6 = .ok (.bipush 120, 2) := by decide +kernel
theorem dX9_load_8 : decode cX9_load 8 = .ok (.if_icmp .gt 17, 3) := by decide +kernel
theorem dX9_load_11 : decode cX9_load 11 = .ok (.iload_n 3, 1) := by decide +kernel
theorem dX9_load_12 : decode cX9_load 12 = .ok (.ifCond .lt 13, 3) := by decide +kernel
theorem dX9_load_15 : decode cX9_load 15 = .ok (.iload_n 3, 1) := by decide +kernel
theorem dX9_load_16 : decode cX9_load 16 = .ok (.bipush 20, 2) := by decide +kernel
theorem dX9_load_18 : decode cX9_load 18 = .ok (.if_icmp .gt 7, 3) := by decide +kernel
theorem dX9_load_21 : decode cX9_load 21 = .ok (.iconst 1, 1) := by decide +kernel
theorem dX9_load_22 : decode cX9_load 22 = .ok (.goto 4, 3) := by decide +kernel
theorem dX9_load_25 : decode cX9_load 25 = .ok (.iconst 0, 1) := by decide +kernel
theorem dX9_load_26 : decode cX9_load 26 = .ok (.istore 4, 2) := by decide +kernel
theorem dX9_load_28 : decode cX9_load 28 = .ok (.iload_n 2, 1) := by decide +kernel
theorem dX9_load_29 : decode cX9_load 29 = .ok (.iconst (-1), 1) := by decide +kernel
theorem dX9_load_30 : decode cX9_load 30 = .ok (.if_icmp .eq 14, 3) := by decide +kernel
theorem dX9_load_33 : decode cX9_load 33 = .ok (.aload_n 0, 1) := by decide +kernel
theorem dX9_load_34 : decode cX9_load 34 = .ok (.getfield 19, 3) := by decide +kernel
theorem dX9_load_37 : decode cX9_load 37 = .ok (.iload_n 2, 1) := by decide +kernel
theorem dX9_load_38 : decode cX9_load 38 = .ok (.invokevirtual 102, 3) := by decide +kernel
theorem dX9_load_41 : decode cX9_load 41 = .ok (.ifCond .eq 7, 3) := by decide +kernel
theorem dX9_load_44 : decode cX9_load 44 = .ok (.iconst 1, 1) := by decide +kernel
theorem dX9_load_45 : decode cX9_load 45 = .ok (.goto 4, 3) := by decide +kernel
theorem dX9_load_48 : decode cX9_load 48 = .ok (.iconst 0, 1) := by decide +kernel
theorem dX9_load_49 : decode cX9_load 49 = .ok (.istore 5, 2) := by decide +kernel
theorem dX9_load_51 : decode cX9_load 51 = .ok (.iload 4, 2) := by decide +kernel
theorem dX9_load_53 : decode cX9_load 53 = .ok (.ifCond .eq 20, 3) := by decide +kernel
theorem dX9_load_56 : decode cX9_load 56 = .ok (.iload 5, 2) := by decide +kernel
theorem dX9_load_58 : decode cX9_load 58 = .ok (.ifCond .eq 15, 3) := by decide +kernel
theorem dX9_load_61 : decode cX9_load 61 = .ok (.aload_n 0, 1) := by decide +kernel
theorem dX9_load_62 : decode cX9_load 62 = .ok (.getfield 19, 3) := by decide +kernel
theorem dX9_load_65 : decode cX9_load 65 = .ok (.getfield 106, 3) := by decide +kernel
theorem dX9_load_68 : decode cX9_load 68 = .ok (.bipush 9, 2) := by decide +kernel
theorem dX9_load_70 : decode cX9_load 70 = .ok (.if_icmp .lt 5, 3) := by decide +kernel
theorem dX9_load_73 : decode cX9_load 73 = .ok (.iconst (-1), 1) := by decide +kernel
theorem dX9_load_74 : decode cX9_load 74 = .ok (.ireturn, 1) := by decide +kernel
theorem dX9_load_75 : decode cX9_load 75 = .ok (.aload_n 0, 1) := by decide +kernel
theorem dX9_load_76 : decode cX9_load 76 = .ok (.getfield 19, 3) := by decide +kernel
theorem dX9_load_79 : decode cX9_load 79 = .ok (.getfield 106, 3) := by decide +kernel
theorem dX9_load_82 : decode cX9_load 82 = .ok (.istore 6, 2) := by decide +kernel
theorem dX9_load_84 : decode cX9_load 84 = .ok (.aload_n 0, 1) := by decide +kernel
theorem dX9_load_85 : decode cX9_load 85 = .ok (.getfield 19, 3) := by decide +kernel
theorem dX9_load_88 : decode cX9_load 88 = .ok (.getfield 109, 3) := by decide +kernel
theorem dX9_load_91 : decode cX9_load 91 = .ok (.iload 6, 2) := by decide +kernel
theorem dX9_load_93 : decode cX9_load 93 = .ok (.iload_n 1, 1) := by decide +kernel
theorem dX9_load_94 : decode cX9_load 94 = .ok (.iastore, 1) := by decide +kernel
theorem dX9_load_95 : decode cX9_load 95 = .ok (.aload_n 0, 1) := by decide +kernel
theorem dX9_load_96 : decode cX9_load 96 = .ok (.getfield 19, 3) := by decide +kernel
theorem dX9_load_99 : decode cX9_load 99 = .ok (.getfield 112, 3) := by decide +kernel
theorem dX9_load_102 : decode cX9_load 102 = .ok (.iload 6, 2) := by decide +kernel
theorem dX9_load_104 : decode cX9_load 104 = .ok (.iload_n 2, 1) := by decide +kernel
theorem dX9_load_105 : decode cX9_load 105 = .ok (.iastore, 1) := by decide +kernel
theorem dX9_load_106 : decode cX9_load 106 = .ok (.aload_n 0, 1) := by decide +kernel
theorem dX9_load_107 : decode cX9_load 107 = .ok (.getfield 19, 3) := by decide +kernel
theorem dX9_load_110 : decode cX9_load 110 = .ok (.getfield 115, 3) := by decide +kernel
theorem dX9_load_113 : decode cX9_load 113 = .ok (.iload 6, 2) := by decide +kernel
theorem dX9_load_115 : decode cX9_load 115 = .ok (.iload_n 3, 1) := by decide +kernel
theorem dX9_load_116 : decode cX9_load 116 = .ok (.iastore, 1) := by decide +kernel
theorem dX9_load_117 : decode cX9_load 117 = .ok (.aload_n 0, 1) := by decide +kernel
theorem dX9_load_118 : decode cX9_load 118 = .ok (.getfield 19, 3) := by decide +kernel
theorem dX9_load_121 : decode cX9_load 121 = .ok (.dup, 1) := by decide +kernel
theorem dX9_load_122 : decode cX9_load 122 = .ok (.getfield 106, 3) := by decide +kernel
theorem dX9_load_125 : decode cX9_load 125 = .ok (.iconst 1, 1) := by decide +kernel
theorem dX9_load_126 : decode cX9_load 126 = .ok (.iadd, 1) := by decide +kernel
theorem dX9_load_127 : decode cX9_load 127 = .ok (.putfield 106, 3) := by decide +kernel
theorem dX9_load_130 : decode cX9_load 130 = .ok (.aload_n 0, 1) := by decide +kernel
theorem dX9_load_131 : decode cX9_load 131 = .ok (.getfield 60, 3) := by decide +kernel
theorem dX9_load_134 : decode cX9_load 134 = .ok (.iconst 0, 1) := by decide +kernel
theorem dX9_load_135 : decode cX9_load 135 = .ok (.putfield 95, 3) := by decide +kernel
theorem dX9_load_138 : decode cX9_load 138 = .ok (.aload_n 0, 1) := by decide +kernel
theorem dX9_load_139 : decode cX9_load 139 = .ok (.getfield 60, 3) := by decide +kernel
theorem dX9_load_142 : decode cX9_load 142 = .ok (.iconst 0, 1) := by decide +kernel
theorem dX9_load_143 : decode cX9_load 143 = .ok (.putfield 118, 3) := by decide +kernel
theorem dX9_load_146 : decode cX9_load 146 = .ok (.aload_n 0, 1) := by decide +kernel
theorem dX9_load_147 : decode cX9_load 147 = .ok (.getfield 69, 3) := by decide +kernel
theorem dX9_load_150 : decode cX9_load 150 = .ok (.iconst 0, 1) := by decide +kernel
theorem dX9_load_151 : decode cX9_load 151 = .ok (.putfield 121, 3) := by decide +kernel
theorem dX9_load_154 : decode cX9_load 154 = .ok (.iload 6, 2) := by decide +kernel
theorem dX9_load_156 : decode cX9_load 156 = .ok (.ireturn, 1) := by decide +kernel
theorem dX9_piece_0 : decode cX9_piece 0 = .ok (.iload_n 1, 1) := by decide +kernel
theorem dX9_piece_1 : decode cX9_piece 1 = .ok (.iconst 1, 1) := by decide +kernel
theorem dX9_piece_2 : decode cX9_piece 2 = .ok (.if_icmp .lt 25, 3) := by decide +kernel
theorem dX9_piece_5 : decode cX9_piece 5 = .ok (.iload_n 1, 1) := by decide +kernel
theorem dX9_piece_6 : decode cX9_piece 6 = .ok (.bipush 20, 2) := by decide +kernel
theorem dX9_piece_8 : decode cX9_piece 8 = .ok (.if_icmp .gt 19, 3) := by decide +kernel
theorem dX9_piece_11 : decode cX9_piece 11 = .ok (.iload_n 2, 1) := by decide +kernel
theorem dX9_piece_12 : decode cX9_piece 12 = .ok (.bipush (-9), 2) := by decide +kernel
theorem dX9_piece_14 : decode cX9_piece 14 = .ok (.if_icmp .lt 13, 3) := by decide +kernel
theorem dX9_piece_17 : decode cX9_piece 17 = .ok (.iload_n 2, 1) := by decide +kernel
theorem dX9_piece_18 : decode cX9_piece 18 = .ok (.bipush 9, 2) := by decide +kernel
theorem dX9_piece_20 : decode cX9_piece 20 = .ok (.if_icmp .gt 7, 3) := by decide +kernel
theorem dX9_piece_23 : decode cX9_piece 23 = .ok (.iconst 1, 1) := by decide +kernel
theorem dX9_piece_24 : decode cX9_piece 24 = .ok (.goto 4, 3) := by decide +kernel
theorem dX9_piece_27 : decode cX9_piece 27 = .ok (.iconst 0, 1) := by decide +kernel
theorem dX9_piece_28 : decode cX9_piece 28 = .ok (.istore_n 3, 1) := by decide +kernel
theorem dX9_piece_29 : decode cX9_piece 29 = .ok (.iload_n 3, 1) := by decide +kernel
theorem dX9_piece_30 : decode cX9_piece 30 = .ok (.ifCond .eq 15, 3) := by decide +kernel
theorem dX9_piece_33 : decode cX9_piece 33 = .ok (.aload_n 0, 1) := by decide +kernel
theorem dX9_piece_34 : decode cX9_piece 34 = .ok (.getfield 19, 3) := by decide +kernel
theorem dX9_piece_37 : decode cX9_piece 37 = .ok (.getfield 124, 3) := by decide +kernel
theorem dX9_piece_40 : decode cX9_piece 40 = .ok (.bipush 10, 2) := by decide +kernel
theorem dX9_piece_42 : decode cX9_piece 42 = .ok (.if_icmp .lt 5, 3) := by decide +kernel
theorem dX9_piece_45 : decode cX9_piece 45 = .ok (.iconst (-1), 1) := by decide +kernel
theorem dX9_piece_46 : decode cX9_piece 46 = .ok (.ireturn, 1) := by decide +kernel
theorem dX9_piece_47 : decode cX9_piece 47 = .ok (.aload_n 0, 1) := by decide +kernel
theorem dX9_piece_48 : decode cX9_piece 48 = .ok (.getfield 19, 3) := by decide +kernel
theorem dX9_piece_51 : decode cX9_piece 51 = .ok (.getfield 124, 3) := by decide +kernel
theorem dX9_piece_54 : decode cX9_piece 54 = .ok (.istore 4, 2) := by decide +kernel
theorem dX9_piece_56 : decode cX9_piece 56 = .ok (.aload_n 0, 1) := by decide +kernel
theorem dX9_piece_57 : decode cX9_piece 57 = .ok (.getfield 19, 3) := by decide +kernel
theorem dX9_piece_60 : decode cX9_piece 60 = .ok (.getfield 127, 3) := by decide +kernel
theorem dX9_piece_63 : decode cX9_piece 63 = .ok (.iload 4, 2) := by decide +kernel
theorem dX9_piece_65 : decode cX9_piece 65 = .ok (.iload_n 1, 1) := by decide +kernel
theorem dX9_piece_66 : decode cX9_piece 66 = .ok (.iastore, 1) := by decide +kernel
theorem dX9_piece_67 : decode cX9_piece 67 = .ok (.aload_n 0, 1) := by decide +kernel
theorem dX9_piece_68 : decode cX9_piece 68 = .ok (.getfield 19, 3) := by decide +kernel
theorem dX9_piece_71 : decode cX9_piece 71 = .ok (.getfield 130, 3) := by decide +kernel
theorem dX9_piece_74 : decode cX9_piece 74 = .ok (.iload 4, 2) := by decide +kernel
theorem dX9_piece_76 : decode cX9_piece 76 = .ok (.iload_n 2, 1) := by decide +kernel
theorem dX9_piece_77 : decode cX9_piece 77 = .ok (.iastore, 1) := by decide +kernel
theorem dX9_piece_78 : decode cX9_piece 78 = .ok (.aload_n 0, 1) := by decide +kernel
theorem dX9_piece_79 : decode cX9_piece 79 = .ok (.getfield 19, 3) := by decide +kernel
theorem dX9_piece_82 : decode cX9_piece 82 = .ok (.dup, 1) := by decide +kernel
theorem dX9_piece_83 : decode cX9_piece 83 = .ok (.getfield 124, 3) := by decide +kernel
theorem dX9_piece_86 : decode cX9_piece 86 = .ok (.iconst 1, 1) := by decide +kernel
theorem dX9_piece_87 : decode cX9_piece 87 = .ok (.iadd, 1) := by decide +kernel
theorem dX9_piece_88 : decode cX9_piece 88 = .ok (.putfield 124, 3) := by decide +kernel
theorem dX9_piece_91 : decode cX9_piece 91 = .ok (.aload_n 0, 1) := by decide +kernel
theorem dX9_piece_92 : decode cX9_piece 92 = .ok (.getfield 60, 3) := by decide +kernel
theorem dX9_piece_95 : decode cX9_piece 95 = .ok (.iconst 0, 1) := by decide +kernel
theorem dX9_piece_96 : decode cX9_piece 96 = .ok (.putfield 95, 3) := by decide +kernel
theorem dX9_piece_99 : decode cX9_piece 99 = .ok (.aload_n 0, 1) := by decide +kernel
theorem dX9_piece_100 : decode cX9_piece 100 = .ok (.getfield 69, 3) := by decide +kernel
theorem dX9_piece_103 : decode cX9_piece 103 = .ok (.iconst 0, 1) := by decide +kernel
theorem dX9_piece_104 : decode cX9_piece 104 = .ok (.putfield 121, 3) := by decide +kernel
theorem dX9_piece_107 : decode cX9_piece 107 = .ok (.iload 4, 2) := by decide +kernel
theorem dX9_piece_109 : decode cX9_piece 109 = .ok (.ireturn, 1) := by decide +kernel
set_option maxRecDepth 100000 in
theorem ggX9_lame_X0_hasWalker : GoodIn wsX9_lame wsX0_hasWalker := goodIn_r _ [7, 8, 27, 28, 29, 30, 31, 32, 33, 34, 35, 36, 37] rfl (by decide +kernel)
set_option maxRecDepth 100000 in
theorem gX9_lame_X0_hasWalker : GoodIn wsX9_lame (wsV RX9 102 RX0 yX0_hasWalker wsX0_hasWalker) := goodIn_app (goodIn_r _ [3, 4, 5, 6] rfl (by decide +kernel)) ggX9_lame_X0_hasWalker
theorem dX9_lame_0 : decode cX9_lame 0 = .ok (.aload_n 0, 1) := by decide +kernel
theorem dX9_lame_1 : decode cX9_lame 1 = .ok (.getfield 19, 3) := by decide +kernel
theorem dX9_lame_4 : decode cX9_lame 4 = .ok (.iload_n 1, 1) := by decide +kernel
theorem dX9_lame_5 : decode cX9_lame 5 = .ok (.invokevirtual 102, 3) := by decide +kernel
theorem dX9_lame_8 : decode cX9_lame 8 = .ok (.ifCond .eq 16, 3) := by decide +kernel
theorem dX9_lame_24 : decode cX9_lame 24 = .ok (.iconst 0, 1) := by decide +kernel
theorem dX9_lame_25 : decode cX9_lame 25 = .ok (.ireturn, 1) := by decide +kernel
theorem dX9_change_0 : decode cX9_change 0 = .ok (.iload_n 1, 1) := by decide +kernel
theorem dX9_change_1 : decode cX9_change 1 = .ok (.ifCond .lt 9, 3) := by decide +kernel
theorem dX9_change_4 : decode cX9_change 4 = .ok (.iload_n 1, 1) := by decide +kernel
theorem dX9_change_5 : decode cX9_change 5 = .ok (.bipush 120, 2) := by decide +kernel
theorem dX9_change_7 : decode cX9_change 7 = .ok (.if_icmp .le 5, 3) := by decide +kernel
theorem dX9_change_10 : decode cX9_change 10 = .ok (.iconst 0, 1) := by decide +kernel
theorem dX9_change_11 : decode cX9_change 11 = .ok (.ireturn, 1) := by decide +kernel
theorem dX9_change_12 : decode cX9_change 12 = .ok (.aload_n 0, 1) := by decide +kernel
theorem dX9_change_13 : decode cX9_change 13 = .ok (.getfield 60, 3) := by decide +kernel
theorem dX9_change_16 : decode cX9_change 16 = .ok (.iload_n 1, 1) := by decide +kernel
theorem dX9_change_17 : decode cX9_change 17 = .ok (.putfield 133, 3) := by decide +kernel
theorem dX9_change_20 : decode cX9_change 20 = .ok (.iconst 1, 1) := by decide +kernel
theorem dX9_change_21 : decode cX9_change 21 = .ok (.ireturn, 1) := by decide +kernel
set_option maxRecDepth 100000 in
theorem ggX9_feed_X8_append : GoodIn wsX9_feed wsX8_append := goodIn_r _ [7, 8, 9, 19, 20] rfl (by decide +kernel)
set_option maxRecDepth 100000 in
theorem gX9_feed_X8_append : GoodIn wsX9_feed (wsV RX9 139 RX8 yX8_append wsX8_append) := goodIn_app (goodIn_r _ [3, 4, 5, 6] rfl (by decide +kernel)) ggX9_feed_X8_append
theorem dX9_feed_0 : decode cX9_feed 0 = .ok (.aload_n 0, 1) := by decide +kernel
theorem dX9_feed_1 : decode cX9_feed 1 = .ok (.getfield 10, 3) := by decide +kernel
theorem dX9_feed_4 : decode cX9_feed 4 = .ok (.getfield 136, 3) := by decide +kernel
theorem dX9_feed_7 : decode cX9_feed 7 = .ok (.bipush 20, 2) := by decide +kernel
theorem dX9_feed_9 : decode cX9_feed 9 = .ok (.iadd, 1) := by decide +kernel
theorem dX9_feed_10 : decode cX9_feed 10 = .ok (.sipush 220, 3) := by decide +kernel
theorem dX9_feed_13 : decode cX9_feed 13 = .ok (.if_icmp .le 5, 3) := by decide +kernel
theorem dX9_feed_18 : decode cX9_feed 18 = .ok (.aload_n 0, 1) := by decide +kernel
theorem dX9_feed_19 : decode cX9_feed 19 = .ok (.getfield 10, 3) := by decide +kernel
theorem dX9_feed_22 : decode cX9_feed 22 = .ok (.iload_n 1, 1) := by decide +kernel
theorem dX9_feed_23 : decode cX9_feed 23 = .ok (.invokevirtual 139, 3) := by decide +kernel
theorem dX9_feed_26 : decode cX9_feed 26 = .ok (.aload_n 0, 1) := by decide +kernel
theorem dX9_feed_27 : decode cX9_feed 27 = .ok (.getfield 10, 3) := by decide +kernel
theorem dX9_feed_30 : decode cX9_feed 30 = .ok (.iload_n 2, 1) := by decide +kernel
theorem dX9_feed_31 : decode cX9_feed 31 = .ok (.invokevirtual 139, 3) := by decide +kernel
theorem dX9_feed_34 : decode cX9_feed 34 = .ok (.aload_n 0, 1) := by decide +kernel
theorem dX9_feed_35 : decode cX9_feed 35 = .ok (.getfield 10, 3) := by decide +kernel
theorem dX9_feed_38 : decode cX9_feed 38 = .ok (.iload_n 3, 1) := by decide +kernel
theorem dX9_feed_39 : decode cX9_feed 39 = .ok (.invokevirtual 139, 3) := by decide +kernel
theorem dX9_feed_42 : decode cX9_feed 42 = .ok (.aload_n 0, 1) := by decide +kernel
theorem dX9_feed_43 : decode cX9_feed 43 = .ok (.getfield 10, 3) := by decide +kernel
theorem dX9_feed_46 : decode cX9_feed 46 = .ok (.iload 4, 2) := by decide +kernel
theorem dX9_feed_48 : decode cX9_feed 48 = .ok (.invokevirtual 139, 3) := by decide +kernel
theorem dX9_feed_51 : decode cX9_feed 51 = .ok (.aload_n 0, 1) := by decide +kernel
theorem dX9_feed_52 : decode cX9_feed 52 = .ok (.getfield 10, 3) := by decide +kernel
theorem dX9_feed_55 : decode cX9_feed 55 = .ok (.iload 5, 2) := by decide +kernel
theorem dX9_feed_57 : decode cX9_feed 57 = .ok (.invokevirtual 139, 3) := by decide +kernel
theorem dX9_feed_60 : decode cX9_feed 60 = .ok (.aload_n 0, 1) := by decide +kernel
theorem dX9_feed_61 : decode cX9_feed 61 = .ok (.getfield 10, 3) := by decide +kernel
theorem dX9_feed_64 : decode cX9_feed 64 = .ok (.getfield 136, 3) := by decide +kernel
theorem dX9_feed_67 : decode cX9_feed 67 = .ok (.ireturn, 1) := by decide +kernel
theorem dX9_text_0 : decode cX9_text 0 = .ok (.iload_n 1, 1) := by decide +kernel
theorem dX9_text_1 : decode cX9_text 1 = .ok (.iconst 1, 1) := by decide +kernel
theorem dX9_text_2 : decode cX9_text 2 = .ok (.if_icmp .lt 21, 3) := by decide +kernel
theorem dX9_text_5 : decode cX9_text 5 = .ok (.iload_n 1, 1) := by decide +kernel
theorem dX9_text_6 : decode cX9_text 6 = .ok (.sipush 200, 3) := by decide +kernel
theorem dX9_text_9 : decode cX9_text 9 = .ok (.if_icmp .gt 14, 3) := by decide +kernel
theorem dX9_text_12 : decode cX9_text 12 = .ok (.iload_n 1, 1) := by decide +kernel
theorem dX9_text_13 : decode cX9_text 13 = .ok (.aload_n 0, 1) := by decide +kernel
theorem dX9_text_14 : decode cX9_text 14 = .ok (.getfield 10, 3) := by decide +kernel
theorem dX9_text_17 : decode cX9_text 17 = .ok (.getfield 136, 3) := by decide +kernel
theorem dX9_text_20 : decode cX9_text 20 = .ok (.if_icmp .le 5, 3) := by decide +kernel
theorem dX9_text_23 : decode cX9_text 23 = .ok (.iconst (-1), 1) := by decide +kernel
theorem dX9_text_24 : decode cX9_text 24 = .ok (.ireturn, 1) := by decide +kernel
set_option maxRecDepth 100000 in
theorem ggX9_pace_X0_hasWalker : GoodIn wsX9_pace wsX0_hasWalker := goodIn_r _ [7, 8, 68, 69, 70, 71, 72, 73, 74, 75, 76, 77, 78] rfl (by decide +kernel)
set_option maxRecDepth 100000 in
theorem gX9_pace_X0_hasWalker : GoodIn wsX9_pace (wsV RX9 102 RX0 yX0_hasWalker wsX0_hasWalker) := goodIn_app (goodIn_r _ [3, 4, 5, 6] rfl (by decide +kernel)) ggX9_pace_X0_hasWalker
theorem dX9_pace_0 : decode cX9_pace 0 = .ok (.iload_n 2, 1) := by decide +kernel
theorem dX9_pace_1 : decode cX9_pace 1 = .ok (.ifCond .lt 23, 3) := by decide +kernel
theorem dX9_pace_4 : decode cX9_pace 4 = .ok (.iload_n 2, 1) := by decide +kernel
theorem dX9_pace_5 : decode cX9_pace 5 = .ok (.sipush 1000, 3) := by decide +kernel
theorem dX9_pace_8 : decode cX9_pace 8 = .ok (.if_icmp .gt 16, 3) := by decide +kernel
theorem dX9_pace_11 : decode cX9_pace 11 = .ok (.iload_n 3, 1) := by decide +kernel
theorem dX9_pace_12 : decode cX9_pace 12 = .ok (.ifCond .lt 12, 3) := by decide +kernel
theorem dX9_pace_15 : decode cX9_pace 15 = .ok (.iload_n 3, 1) := by decide +kernel
theorem dX9_pace_16 : decode cX9_pace 16 = .ok (.iconst 5, 1) := by decide +kernel
theorem dX9_pace_17 : decode cX9_pace 17 = .ok (.if_icmp .gt 7, 3) := by decide +kernel
theorem dX9_pace_20 : decode cX9_pace 20 = .ok (.iconst 1, 1) := by decide +kernel
theorem dX9_pace_21 : decode cX9_pace 21 = .ok (.goto 4, 3) := by decide +kernel
theorem dX9_pace_24 : decode cX9_pace 24 = .ok (.iconst 0, 1) := by decide +kernel
theorem dX9_pace_25 : decode cX9_pace 25 = .ok (.istore 5, 2) := by decide +kernel
theorem dX9_pace_27 : decode cX9_pace 27 = .ok (.iload 5, 2) := by decide +kernel
theorem dX9_pace_29 : decode cX9_pace 29 = .ok (.ifCond .eq 26, 3) := by decide +kernel
theorem dX9_pace_32 : decode cX9_pace 32 = .ok (.aload_n 0, 1) := by decide +kernel
theorem dX9_pace_33 : decode cX9_pace 33 = .ok (.getfield 19, 3) := by decide +kernel
theorem dX9_pace_36 : decode cX9_pace 36 = .ok (.iload_n 1, 1) := by decide +kernel
theorem dX9_pace_37 : decode cX9_pace 37 = .ok (.invokevirtual 102, 3) := by decide +kernel
theorem dX9_pace_40 : decode cX9_pace 40 = .ok (.ifCond .eq 15, 3) := by decide +kernel
theorem dX9_pace_55 : decode cX9_pace 55 = .ok (.iconst (-1), 1) := by decide +kernel
theorem dX9_pace_56 : decode cX9_pace 56 = .ok (.ireturn, 1) := by decide +kernel
set_option maxRecDepth 100000 in
theorem ggX9_carry_X0_hasWalker : GoodIn wsX9_carry wsX0_hasWalker := goodIn_r _ [8, 9, 82, 83, 84, 85, 86, 87, 88, 89, 90, 91, 92] rfl (by decide +kernel)
set_option maxRecDepth 100000 in
theorem gX9_carry_X0_hasWalker : GoodIn wsX9_carry (wsV RX9 102 RX0 yX0_hasWalker wsX0_hasWalker) := goodIn_app (goodIn_r _ [4, 5, 6, 7] rfl (by decide +kernel)) ggX9_carry_X0_hasWalker
theorem dX9_carry_0 : decode cX9_carry 0 = .ok (.iload_n 2, 1) := by decide +kernel
theorem dX9_carry_1 : decode cX9_carry 1 = .ok (.iconst 1, 1) := by decide +kernel
theorem dX9_carry_2 : decode cX9_carry 2 = .ok (.if_icmp .lt 22, 3) := by decide +kernel
theorem dX9_carry_5 : decode cX9_carry 5 = .ok (.iload_n 2, 1) := by decide +kernel
theorem dX9_carry_6 : decode cX9_carry 6 = .ok (.bipush 60, 2) := by decide +kernel
theorem dX9_carry_8 : decode cX9_carry 8 = .ok (.if_icmp .gt 16, 3) := by decide +kernel
theorem dX9_carry_11 : decode cX9_carry 11 = .ok (.iload_n 3, 1) := by decide +kernel
theorem dX9_carry_12 : decode cX9_carry 12 = .ok (.ifCond .lt 12, 3) := by decide +kernel
theorem dX9_carry_15 : decode cX9_carry 15 = .ok (.iload_n 3, 1) := by decide +kernel
theorem dX9_carry_16 : decode cX9_carry 16 = .ok (.iconst 5, 1) := by decide +kernel
theorem dX9_carry_17 : decode cX9_carry 17 = .ok (.if_icmp .gt 7, 3) := by decide +kernel
theorem dX9_carry_20 : decode cX9_carry 20 = .ok (.iconst 1, 1) := by decide +kernel
theorem dX9_carry_21 : decode cX9_carry 21 = .ok (.goto 4, 3) := by decide +kernel
theorem dX9_carry_24 : decode cX9_carry 24 = .ok (.iconst 0, 1) := by decide +kernel
theorem dX9_carry_25 : decode cX9_carry 25 = .ok (.istore 5, 2) := by decide +kernel
theorem dX9_carry_27 : decode cX9_carry 27 = .ok (.iload 5, 2) := by decide +kernel
theorem dX9_carry_29 : decode cX9_carry 29 = .ok (.ifCond .eq 26, 3) := by decide +kernel
theorem dX9_carry_32 : decode cX9_carry 32 = .ok (.aload_n 0, 1) := by decide +kernel
theorem dX9_carry_33 : decode cX9_carry 33 = .ok (.getfield 19, 3) := by decide +kernel
theorem dX9_carry_36 : decode cX9_carry 36 = .ok (.iload_n 1, 1) := by decide +kernel
theorem dX9_carry_37 : decode cX9_carry 37 = .ok (.invokevirtual 102, 3) := by decide +kernel
theorem dX9_carry_40 : decode cX9_carry 40 = .ok (.ifCond .eq 15, 3) := by decide +kernel
theorem dX9_carry_55 : decode cX9_carry 55 = .ok (.bipush (-2), 2) := by decide +kernel
theorem dX9_carry_57 : decode cX9_carry 57 = .ok (.ireturn, 1) := by decide +kernel
set_option maxRecDepth 100000 in
theorem ggX9_parts_X9_standsOn : GoodIn wsX9_parts wsX9_standsOn := goodIn_r _ [7, 2, 8, 9, 10, 11, 12, 13, 14, 15, 87, 88, 89, 90, 91, 92, 93, 94, 95, 96, 97, 98, 99, 100, 101, 102, 103, 104, 105, 106] rfl (by decide +kernel)
set_option maxRecDepth 100000 in
theorem gX9_parts_X9_standsOn : GoodIn wsX9_parts (wsV RX9 171 RX9 yX9_standsOn wsX9_standsOn) := goodIn_app (goodIn_r _ [3, 4, 5, 6] rfl (by decide +kernel)) ggX9_parts_X9_standsOn
theorem dX9_parts_0 : decode cX9_parts 0 = .ok (.iload_n 1, 1) := by decide +kernel
theorem dX9_parts_1 : decode cX9_parts 1 = .ok (.ifCond .lt 25, 3) := by decide +kernel
theorem dX9_parts_4 : decode cX9_parts 4 = .ok (.iload_n 1, 1) := by decide +kernel
theorem dX9_parts_5 : decode cX9_parts 5 = .ok (.sipush 2400, 3) := by decide +kernel
theorem dX9_parts_8 : decode cX9_parts 8 = .ok (.if_icmp .gt 18, 3) := by decide +kernel
theorem dX9_parts_11 : decode cX9_parts 11 = .ok (.iload 4, 2) := by decide +kernel
theorem dX9_parts_13 : decode cX9_parts 13 = .ok (.ifCond .lt 13, 3) := by decide +kernel
theorem dX9_parts_16 : decode cX9_parts 16 = .ok (.iload 4, 2) := by decide +kernel
theorem dX9_parts_18 : decode cX9_parts 18 = .ok (.iconst 2, 1) := by decide +kernel
theorem dX9_parts_19 : decode cX9_parts 19 = .ok (.if_icmp .gt 7, 3) := by decide +kernel
theorem dX9_parts_22 : decode cX9_parts 22 = .ok (.iconst 1, 1) := by decide +kernel
theorem dX9_parts_23 : decode cX9_parts 23 = .ok (.goto 4, 3) := by decide +kernel
theorem dX9_parts_26 : decode cX9_parts 26 = .ok (.iconst 0, 1) := by decide +kernel
theorem dX9_parts_27 : decode cX9_parts 27 = .ok (.istore 5, 2) := by decide +kernel
theorem dX9_parts_29 : decode cX9_parts 29 = .ok (.iload 5, 2) := by decide +kernel
theorem dX9_parts_31 : decode cX9_parts 31 = .ok (.ifCond .eq 12, 3) := by decide +kernel
theorem dX9_parts_34 : decode cX9_parts 34 = .ok (.aload_n 0, 1) := by decide +kernel
theorem dX9_parts_35 : decode cX9_parts 35 = .ok (.iload_n 2, 1) := by decide +kernel
theorem dX9_parts_36 : decode cX9_parts 36 = .ok (.iload_n 3, 1) := by decide +kernel
theorem dX9_parts_37 : decode cX9_parts 37 = .ok (.invokevirtual 171, 3) := by decide +kernel
theorem dX9_parts_40 : decode cX9_parts 40 = .ok (.ifCond .ne 5, 3) := by decide +kernel
theorem dX9_parts_43 : decode cX9_parts 43 = .ok (.iconst (-1), 1) := by decide +kernel
theorem dX9_parts_44 : decode cX9_parts 44 = .ok (.ireturn, 1) := by decide +kernel
set_option maxRecDepth 100000 in
theorem ggX9_whole_X0_hasLoad : GoodIn wsX9_whole wsX0_hasLoad := goodIn_r _ [8, 9, 163, 164, 165, 166, 167, 168, 169, 170, 171, 172, 173] rfl (by decide +kernel)
set_option maxRecDepth 100000 in
theorem gX9_whole_X0_hasLoad : GoodIn wsX9_whole (wsV RX9 185 RX0 yX0_hasLoad wsX0_hasLoad) := goodIn_app (goodIn_r _ [4, 5, 6, 7] rfl (by decide +kernel)) ggX9_whole_X0_hasLoad
set_option maxRecDepth 100000 in
theorem ggX9_whole_X9_standsOn : GoodIn wsX9_whole wsX9_standsOn := goodIn_r _ [14, 1, 15, 16, 17, 18, 19, 7, 20, 21, 141, 142, 143, 144, 145, 146, 147, 148, 149, 163, 164, 165, 166, 167, 168, 169, 170, 171, 172, 173] rfl (by decide +kernel)
set_option maxRecDepth 100000 in
theorem gX9_whole_X9_standsOn : GoodIn wsX9_whole (wsV RX9 171 RX9 yX9_standsOn wsX9_standsOn) := goodIn_app (goodIn_r _ [10, 11, 12, 13] rfl (by decide +kernel)) ggX9_whole_X9_standsOn
theorem dX9_whole_0 : decode cX9_whole 0 = .ok (.iload_n 3, 1) := by decide +kernel
theorem dX9_whole_1 : decode cX9_whole 1 = .ok (.iconst (-1), 1) := by decide +kernel
theorem dX9_whole_2 : decode cX9_whole 2 = .ok (.if_icmp .eq 20, 3) := by decide +kernel
theorem dX9_whole_5 : decode cX9_whole 5 = .ok (.iload_n 3, 1) := by decide +kernel
theorem dX9_whole_6 : decode cX9_whole 6 = .ok (.bipush 9, 2) := by decide +kernel
theorem dX9_whole_8 : decode cX9_whole 8 = .ok (.if_icmp .eq 14, 3) := by decide +kernel
theorem dX9_whole_11 : decode cX9_whole 11 = .ok (.aload_n 0, 1) := by decide +kernel
theorem dX9_whole_12 : decode cX9_whole 12 = .ok (.getfield 19, 3) := by decide +kernel
theorem dX9_whole_15 : decode cX9_whole 15 = .ok (.iload_n 3, 1) := by decide +kernel
theorem dX9_whole_16 : decode cX9_whole 16 = .ok (.invokevirtual 185, 3) := by decide +kernel
theorem dX9_whole_19 : decode cX9_whole 19 = .ok (.ifCond .eq 7, 3) := by decide +kernel
theorem dX9_whole_22 : decode cX9_whole 22 = .ok (.iconst 1, 1) := by decide +kernel
theorem dX9_whole_23 : decode cX9_whole 23 = .ok (.goto 4, 3) := by decide +kernel
theorem dX9_whole_26 : decode cX9_whole 26 = .ok (.iconst 0, 1) := by decide +kernel
theorem dX9_whole_27 : decode cX9_whole 27 = .ok (.istore 4, 2) := by decide +kernel
theorem dX9_whole_29 : decode cX9_whole 29 = .ok (.iload 4, 2) := by decide +kernel
theorem dX9_whole_31 : decode cX9_whole 31 = .ok (.ifCond .eq 12, 3) := by decide +kernel
theorem dX9_whole_34 : decode cX9_whole 34 = .ok (.aload_n 0, 1) := by decide +kernel
theorem dX9_whole_35 : decode cX9_whole 35 = .ok (.iload_n 1, 1) := by decide +kernel
theorem dX9_whole_36 : decode cX9_whole 36 = .ok (.iload_n 2, 1) := by decide +kernel
theorem dX9_whole_37 : decode cX9_whole 37 = .ok (.invokevirtual 171, 3) := by decide +kernel
theorem dX9_whole_40 : decode cX9_whole 40 = .ok (.ifCond .ne 6, 3) := by decide +kernel
theorem dX9_whole_43 : decode cX9_whole 43 = .ok (.bipush (-3), 2) := by decide +kernel
theorem dX9_whole_45 : decode cX9_whole 45 = .ok (.ireturn, 1) := by decide +kernel
set_option maxRecDepth 100000 in
theorem ggX9_wont_X9_standsOn : GoodIn wsX9_wont wsX9_standsOn := goodIn_r _ [9, 3, 10, 11, 12, 13, 14, 15, 16, 17, 136, 137, 138, 139, 140, 141, 142, 143, 144, 145, 146, 147, 148, 149, 150, 151, 152, 153, 154, 155] rfl (by decide +kernel)
set_option maxRecDepth 100000 in
theorem gX9_wont_X9_standsOn : GoodIn wsX9_wont (wsV RX9 171 RX9 yX9_standsOn wsX9_standsOn) := goodIn_app (goodIn_r _ [5, 6, 7, 8] rfl (by decide +kernel)) ggX9_wont_X9_standsOn
theorem dX9_wont_0 : decode cX9_wont 0 = .ok (.aload_n 0, 1) := by decide +kernel
theorem dX9_wont_1 : decode cX9_wont 1 = .ok (.iload_n 1, 1) := by decide +kernel
theorem dX9_wont_2 : decode cX9_wont 2 = .ok (.iload_n 2, 1) := by decide +kernel
theorem dX9_wont_3 : decode cX9_wont 3 = .ok (.invokevirtual 171, 3) := by decide +kernel
theorem dX9_wont_6 : decode cX9_wont 6 = .ok (.ifCond .ne 6, 3) := by decide +kernel
theorem dX9_wont_9 : decode cX9_wont 9 = .ok (.ldc 202, 2) := by decide +kernel
theorem dX9_wont_11 : decode cX9_wont 11 = .ok (.ireturn, 1) := by decide +kernel
set_option maxRecDepth 100000 in
theorem ggX9_who_X9_standsOn : GoodIn wsX9_who wsX9_standsOn := goodIn_r _ [9, 2, 3, 10, 11, 12, 13, 14, 15, 16, 126, 127, 128, 129, 130, 131, 132, 133, 134, 135, 136, 137, 138, 139, 140, 141, 142, 143, 144, 145] rfl (by decide +kernel)
set_option maxRecDepth 100000 in
theorem gX9_who_X9_standsOn : GoodIn wsX9_who (wsV RX9 171 RX9 yX9_standsOn wsX9_standsOn) := goodIn_app (goodIn_r _ [5, 6, 7, 8] rfl (by decide +kernel)) ggX9_who_X9_standsOn
theorem dX9_who_0 : decode cX9_who 0 = .ok (.iload_n 3, 1) := by decide +kernel
theorem dX9_who_1 : decode cX9_who 1 = .ok (.ifCond .lt 17, 3) := by decide +kernel
