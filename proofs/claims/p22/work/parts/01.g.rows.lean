set_option maxRecDepth 100000 in
theorem ggX5_init_X6_init : GoodIn wsX5_init wsX6_init := goodIn_r _ [10, 11, 2, 3, 12, 13, 14, 15, 16, 17, 18, 19, 20, 21, 22, 23, 24, 25] rfl (by decide +kernel)
set_option maxRecDepth 20000 in
theorem gX5_init_X6_init_n11 : GoodIn wsX5_init (wsX6_init) := ggX5_init_X6_init
set_option maxRecDepth 100000 in
theorem ggX7_init_J7_fill_d0a16 : GoodIn wsX7_init wsJ7_fill_d0a16 := goodIn_r _ [25] rfl (by decide +kernel)
set_option maxRecDepth 100000 in
theorem gX7_init_J7_fill_d0a16 : GoodIn wsX7_init (va_wsS RX7 61 yJ7_fill_d0a16 wsJ7_fill_d0a16) := goodIn_app (goodIn_r _ [22, 23, 24] rfl (by decide +kernel)) ggX7_init_J7_fill_d0a16
set_option maxRecDepth 100000 in
theorem ggX9_init_X8_init : GoodIn wsX9_init wsX8_init := goodIn_r _ [41, 42, 2, 3, 43, 44, 142, 143] rfl (by decide +kernel)
set_option maxRecDepth 20000 in
theorem gX9_init_X8_init_n9 : GoodIn wsX9_init (wsX8_init) := ggX9_init_X8_init
set_option maxRecDepth 100000 in
theorem ggX9_init_X0_init : GoodIn wsX9_init wsX0_init := goodIn_r _ [46, 47, 2, 3, 43, 48, 49, 50, 51, 52, 53, 54, 55, 56, 153, 154, 155, 156, 157, 158, 159, 160, 161, 162, 163] rfl (by decide +kernel)
set_option maxRecDepth 20000 in
theorem gX9_init_X0_init_n18 : GoodIn wsX9_init (wsX0_init) := ggX9_init_X0_init
set_option maxRecDepth 100000 in
theorem ggX9_init_X6_init : GoodIn wsX9_init wsX6_init := goodIn_r _ [58, 59, 2, 3, 43, 60, 61, 62, 63, 64, 65, 164, 165, 166, 167, 168, 169, 170] rfl (by decide +kernel)
set_option maxRecDepth 20000 in
theorem gX9_init_X6_init_n25 : GoodIn wsX9_init (wsX6_init) := ggX9_init_X6_init
set_option maxRecDepth 100000 in
theorem ggX9_init_X5_init : GoodIn wsX9_init wsX5_init := goodIn_r _ [68, 69, 2, 3, 70, 13, 14, 71, 72, 57, 58, 59, 43, 60, 61, 62, 63, 64, 65, 164, 165, 166, 167, 168, 169, 170, 171, 172, 173, 174, 175, 176, 177] rfl (by decide +kernel)
set_option maxRecDepth 20000 in
theorem gX9_init_X5_init : GoodIn wsX9_init (wsX5_init) := ggX9_init_X5_init
set_option maxRecDepth 100000 in
theorem ggX9_init_X3_init : GoodIn wsX9_init wsX3_init := goodIn_r _ [75, 76, 2, 3, 77, 43, 78, 79, 80, 81, 82, 178, 179, 180, 181, 182, 183] rfl (by decide +kernel)
set_option maxRecDepth 20000 in
theorem gX9_init_X3_init : GoodIn wsX9_init (wsX3_init) := ggX9_init_X3_init
set_option maxRecDepth 100000 in
theorem ggX9_init_X4_init : GoodIn wsX9_init wsX4_init := goodIn_r _ [85, 86, 2, 3, 43, 87, 88, 89, 50, 90, 91, 92, 93, 94, 95, 96, 184, 185, 186, 187, 188, 189, 190, 191, 192, 193, 194, 195, 196] rfl (by decide +kernel)
set_option maxRecDepth 20000 in
theorem gX9_init_X4_init : GoodIn wsX9_init (wsX4_init) := ggX9_init_X4_init
set_option maxRecDepth 100000 in
theorem ggX9_init_X1_init : GoodIn wsX9_init wsX1_init := goodIn_r _ [99, 100, 2, 3, 101, 43, 102, 103, 104, 105, 106, 107, 108, 109, 197, 198, 199, 200, 201, 202, 203, 204, 205, 206, 207] rfl (by decide +kernel)
set_option maxRecDepth 20000 in
theorem gX9_init_X1_init : GoodIn wsX9_init (wsX1_init) := ggX9_init_X1_init
set_option maxRecDepth 100000 in
theorem ggX9_init_X7_init : GoodIn wsX9_init wsX7_init := goodIn_r _ [112, 113, 2, 3, 114, 115, 116, 43, 117, 118, 50, 119, 120, 121, 122, 123, 124, 125, 126, 127, 128, 129, 130, 131, 132, 133, 208, 209, 210, 211, 212, 213, 214, 215, 216, 217, 218, 219, 220, 221, 222, 223, 224, 225, 226, 227] rfl (by decide +kernel)
set_option maxRecDepth 20000 in
theorem gX9_init_X7_init : GoodIn wsX9_init (wsX7_init) := ggX9_init_X7_init
set_option maxRecDepth 100000 in
theorem ggX9_init_X2_init : GoodIn wsX9_init wsX2_init := goodIn_r _ [136, 137, 2, 3, 43, 138, 139, 140, 141, 228, 229, 230, 231] rfl (by decide +kernel)
set_option maxRecDepth 20000 in
theorem gX9_init_X2_init : GoodIn wsX9_init (wsX2_init) := ggX9_init_X2_init
set_option maxRecDepth 100000 in
theorem ggL_law_X9_init : GoodIn wsL_law wsX9_init := gi_cons lwd_8 rfl (goodIn_app (goodIn_app (goodIn_app (goodIn_app (goodIn_app (goodIn_app (goodIn_app (goodIn_app (goodIn_app (goodIn_app (goodIn_app (gi_cons lwd_9 rfl (gi_cons lwd_10 rfl (gi_cons lwd_11 rfl (gi_cons lwd_12 rfl (gi_cons lwd_13 rfl (gi_cons lwd_14 rfl (gi_cons lwd_15 rfl (gi_cons lwd_16 rfl (gi_cons lwd_17 rfl (gi_cons lwd_18 rfl (gi_cons lwd_19 rfl (gi_cons lwd_20 rfl (gi_cons lwd_21 rfl (gi_cons lwd_22 rfl (gi_cons lwd_23 rfl (gi_cons lwd_24 rfl (gi_cons lwd_25 rfl (gi_cons lwd_26 rfl (gi_cons lwd_27 rfl (gi_cons lwd_28 rfl (gi_cons lwd_29 rfl (gi_cons lwd_30 rfl (gi_cons lwd_31 rfl (gi_cons lwd_32 rfl (gi_nil)))))))))))))))))))))))) : GoodIn wsL_law wsX9_init_r1) (goodIn_app (gi_cons lwd_33 rfl (gi_cons lwd_34 rfl (gi_cons lwd_35 rfl (gi_cons lwd_36 rfl (gi_cons lwd_37 rfl (gi_cons lwd_38 rfl (gi_cons lwd_39 rfl (gi_cons lwd_40 rfl (gi_cons lwd_41 rfl (gi_cons lwd_42 rfl (gi_cons lwd_43 rfl (gi_cons lwd_44 rfl (gi_cons lwd_45 rfl (gi_cons lwd_46 rfl (gi_cons lwd_47 rfl (gi_cons lwd_48 rfl (gi_cons lwd_49 rfl (gi_cons lwd_50 rfl (gi_cons lwd_51 rfl (gi_cons lwd_52 rfl (gi_cons lwd_53 rfl (gi_cons lwd_54 rfl (gi_cons lwd_55 rfl (gi_cons lwd_56 rfl (gi_nil)))))))))))))))))))))))) : GoodIn wsL_law wsX9_init_r2) (goodIn_app (gi_cons lwd_57 rfl (gi_cons lwd_58 rfl (gi_cons lwd_59 rfl (gi_cons lwd_60 rfl (gi_cons lwd_61 rfl (gi_cons lwd_62 rfl (gi_cons lwd_63 rfl (gi_cons lwd_64 rfl (gi_cons lwd_65 rfl (gi_cons lwd_66 rfl (gi_cons lwd_67 rfl (gi_cons lwd_68 rfl (gi_cons lwd_69 rfl (gi_cons lwd_70 rfl (gi_cons lwd_71 rfl (gi_cons lwd_72 rfl (gi_cons lwd_73 rfl (gi_cons lwd_74 rfl (gi_cons lwd_75 rfl (gi_cons lwd_76 rfl (gi_cons lwd_77 rfl (gi_cons lwd_78 rfl (gi_cons lwd_79 rfl (gi_cons lwd_80 rfl (gi_nil)))))))))))))))))))))))) : GoodIn wsL_law wsX9_init_r3) (goodIn_app (gi_cons lwd_81 rfl (gi_cons lwd_82 rfl (gi_cons lwd_83 rfl (gi_cons lwd_84 rfl (gi_cons lwd_85 rfl (gi_cons lwd_86 rfl (gi_cons lwd_87 rfl (gi_cons lwd_88 rfl (gi_cons lwd_89 rfl (gi_cons lwd_90 rfl (gi_cons lwd_91 rfl (gi_cons lwd_92 rfl (gi_cons lwd_93 rfl (gi_cons lwd_94 rfl (gi_cons lwd_95 rfl (gi_cons lwd_96 rfl (gi_cons lwd_97 rfl (gi_cons lwd_98 rfl (gi_cons lwd_99 rfl (gi_cons lwd_100 rfl (gi_cons lwd_101 rfl (gi_cons lwd_102 rfl (gi_cons lwd_103 rfl (gi_cons lwd_104 rfl (gi_nil)))))))))))))))))))))))) : GoodIn wsL_law wsX9_init_r4) (goodIn_app (gi_cons lwd_105 rfl (gi_cons lwd_106 rfl (gi_cons lwd_107 rfl (gi_cons lwd_108 rfl (gi_cons lwd_109 rfl (gi_cons lwd_110 rfl (gi_cons lwd_111 rfl (gi_cons lwd_112 rfl (gi_cons lwd_113 rfl (gi_cons lwd_114 rfl (gi_cons lwd_115 rfl (gi_cons lwd_116 rfl (gi_cons lwd_117 rfl (gi_cons lwd_118 rfl (gi_cons lwd_119 rfl (gi_cons lwd_120 rfl (gi_cons lwd_121 rfl (gi_cons lwd_122 rfl (gi_cons lwd_123 rfl (gi_cons lwd_124 rfl (gi_cons lwd_125 rfl (gi_cons lwd_126 rfl (gi_cons lwd_127 rfl (gi_cons lwd_128 rfl (gi_nil)))))))))))))))))))))))) : GoodIn wsL_law wsX9_init_r5) ((gi_cons lwd_129 rfl (gi_cons lwd_130 rfl (gi_cons lwd_131 rfl (gi_cons lwd_132 rfl (gi_cons lwd_133 rfl (gi_cons lwd_134 rfl (gi_cons lwd_135 rfl (gi_cons lwd_136 rfl (gi_cons lwd_137 rfl (gi_cons lwd_138 rfl (gi_cons lwd_139 rfl (gi_cons lwd_140 rfl (gi_cons lwd_141 rfl (gi_cons lwd_142 rfl (gi_cons lwd_143 rfl (gi_cons lwd_144 rfl (gi_cons lwd_145 rfl (gi_cons lwd_146 rfl (gi_cons lwd_147 rfl (gi_cons lwd_148 rfl (gi_cons lwd_149 rfl (gi_nil))))))))))))))))))))) : GoodIn wsL_law wsX9_init_r6))))))) gw_X8) gw_X9) gw_X0) gw_X6) gw_X5) gw_X3) gw_X4) gw_X1) gw_X7) gw_X2)
set_option maxRecDepth 20000 in
theorem gL_law_X9_init : GoodIn wsL_law (wsX9_init) := ggL_law_X9_init
set_option maxRecDepth 100000 in
theorem ggL_law_X10_init : GoodIn wsL_law wsX10_init := gi_cons lwd_152 rfl (goodIn_app (goodIn_app (gi_cons lwd_153 rfl (gi_cons lwd_10 rfl (gi_cons lwd_11 rfl (gi_cons lwd_154 rfl (gi_cons lwd_155 rfl (gi_cons lwd_156 rfl (gi_cons lwd_51 rfl (gi_cons lwd_157 rfl (gi_cons lwd_158 rfl (gi_cons lwd_58 rfl (gi_cons lwd_159 rfl (gi_cons lwd_160 rfl (gi_cons lwd_161 rfl (gi_cons lwd_162 rfl (gi_cons lwd_163 rfl (gi_cons lwd_164 rfl (gi_cons lwd_165 rfl (gi_cons lwd_166 rfl (gi_cons lwd_167 rfl (gi_cons lwd_168 rfl (gi_cons lwd_169 rfl (gi_cons lwd_170 rfl (gi_cons lwd_171 rfl (gi_cons lwd_172 rfl (gi_nil)))))))))))))))))))))))) : GoodIn wsL_law wsX10_init_r1) (goodIn_app (gi_cons lwd_173 rfl (gi_cons lwd_174 rfl (gi_cons lwd_175 rfl (gi_cons lwd_176 rfl (gi_cons lwd_177 rfl (gi_cons lwd_178 rfl (gi_cons lwd_179 rfl (gi_cons lwd_180 rfl (gi_cons lwd_181 rfl (gi_cons lwd_182 rfl (gi_cons lwd_183 rfl (gi_cons lwd_184 rfl (gi_cons lwd_185 rfl (gi_cons lwd_186 rfl (gi_cons lwd_187 rfl (gi_cons lwd_188 rfl (gi_cons lwd_189 rfl (gi_cons lwd_190 rfl (gi_cons lwd_191 rfl (gi_cons lwd_192 rfl (gi_cons lwd_193 rfl (gi_cons lwd_194 rfl (gi_cons lwd_195 rfl (gi_cons lwd_196 rfl (gi_nil)))))))))))))))))))))))) : GoodIn wsL_law wsX10_init_r2) ((gi_cons lwd_197 rfl (gi_cons lwd_198 rfl (gi_cons lwd_199 rfl (gi_cons lwd_200 rfl (gi_cons lwd_201 rfl (gi_nil))))) : GoodIn wsL_law wsX10_init_r3)))) gw_X10)
set_option maxRecDepth 20000 in
theorem gL_law_X10_init : GoodIn wsL_law (wsX10_init) := ggL_law_X10_init
abbrev vwCl : List vw_C := [(RX0, TX0, 11), (RX1, TX1, 11), (RX2, TX2, 4), (RX3, TX3, 6), (RX4, TX4, 13), (RX5, TX5, 7), (RX6, TX6, 7), (RX7, TX7, 20), (RX8, TX8, 2), (RX9, TX9, 9), (RX10, TX10, 74)]
