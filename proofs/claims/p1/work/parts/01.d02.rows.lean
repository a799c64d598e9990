theorem dX9_who_4 : decode cX9_who 4 = .ok (.iload_n 3, 1) := by decide +kernel
theorem dX9_who_5 : decode cX9_who 5 = .ok (.iconst 1, 1) := by decide +kernel
theorem dX9_who_6 : decode cX9_who 6 = .ok (.if_icmp .gt 12, 3) := by decide +kernel
theorem dX9_who_9 : decode cX9_who 9 = .ok (.aload_n 0, 1) := by decide +kernel
theorem dX9_who_10 : decode cX9_who 10 = .ok (.iload_n 1, 1) := by decide +kernel
theorem dX9_who_11 : decode cX9_who 11 = .ok (.iload_n 2, 1) := by decide +kernel
theorem dX9_who_12 : decode cX9_who 12 = .ok (.invokevirtual 171, 3) := by decide +kernel
theorem dX9_who_15 : decode cX9_who 15 = .ok (.ifCond .ne 6, 3) := by decide +kernel
theorem dX9_who_18 : decode cX9_who 18 = .ok (.bipush (-2), 2) := by decide +kernel
theorem dX9_who_20 : decode cX9_who 20 = .ok (.ireturn, 1) := by decide +kernel
set_option maxRecDepth 100000 in
theorem ggX9_pounds_X0_hasLoad : GoodIn wsX9_pounds wsX0_hasLoad := goodIn_r _ [8, 9, 153, 154, 155, 156, 157, 158, 159, 160, 161, 162, 163] rfl (by decide +kernel)
set_option maxRecDepth 100000 in
theorem gX9_pounds_X0_hasLoad : GoodIn wsX9_pounds (wsV RX9 185 RX0 yX0_hasLoad wsX0_hasLoad) := goodIn_app (goodIn_r _ [4, 5, 6, 7] rfl (by decide +kernel)) ggX9_pounds_X0_hasLoad
theorem dX9_pounds_0 : decode cX9_pounds 0 = .ok (.aload_n 0, 1) := by decide +kernel
theorem dX9_pounds_1 : decode cX9_pounds 1 = .ok (.getfield 19, 3) := by decide +kernel
theorem dX9_pounds_4 : decode cX9_pounds 4 = .ok (.iload_n 1, 1) := by decide +kernel
theorem dX9_pounds_5 : decode cX9_pounds 5 = .ok (.invokevirtual 185, 3) := by decide +kernel
theorem dX9_pounds_8 : decode cX9_pounds 8 = .ok (.ifCond .eq 12, 3) := by decide +kernel
theorem dX9_pounds_20 : decode cX9_pounds 20 = .ok (.iconst (-1), 1) := by decide +kernel
theorem dX9_pounds_21 : decode cX9_pounds 21 = .ok (.ireturn, 1) := by decide +kernel
theorem dX9_ahead_0 : decode cX9_ahead 0 = .ok (.iload_n 3, 1) := by decide +kernel
theorem dX9_ahead_1 : decode cX9_ahead 1 = .ok (.ifCond .lt 25, 3) := by decide +kernel
theorem dX9_ahead_4 : decode cX9_ahead 4 = .ok (.iload_n 3, 1) := by decide +kernel
theorem dX9_ahead_5 : decode cX9_ahead 5 = .ok (.sipush 600, 3) := by decide +kernel
theorem dX9_ahead_8 : decode cX9_ahead 8 = .ok (.if_icmp .gt 18, 3) := by decide +kernel
theorem dX9_ahead_11 : decode cX9_ahead 11 = .ok (.iload 4, 2) := by decide +kernel
theorem dX9_ahead_13 : decode cX9_ahead 13 = .ok (.ifCond .lt 13, 3) := by decide +kernel
theorem dX9_ahead_16 : decode cX9_ahead 16 = .ok (.iload 4, 2) := by decide +kernel
theorem dX9_ahead_18 : decode cX9_ahead 18 = .ok (.iconst 2, 1) := by decide +kernel
theorem dX9_ahead_19 : decode cX9_ahead 19 = .ok (.if_icmp .gt 7, 3) := by decide +kernel
theorem dX9_ahead_22 : decode cX9_ahead 22 = .ok (.iconst 1, 1) := by decide +kernel
theorem dX9_ahead_23 : decode cX9_ahead 23 = .ok (.goto 4, 3) := by decide +kernel
theorem dX9_ahead_26 : decode cX9_ahead 26 = .ok (.iconst 0, 1) := by decide +kernel
theorem dX9_ahead_27 : decode cX9_ahead 27 = .ok (.istore 5, 2) := by decide +kernel
theorem dX9_ahead_29 : decode cX9_ahead 29 = .ok (.iload 5, 2) := by decide +kernel
theorem dX9_ahead_31 : decode cX9_ahead 31 = .ok (.ifCond .eq 23, 3) := by decide +kernel
theorem dX9_ahead_34 : decode cX9_ahead 34 = .ok (.aload_n 0, 1) := by decide +kernel
theorem dX9_ahead_35 : decode cX9_ahead 35 = .ok (.getfield 19, 3) := by decide +kernel
theorem dX9_ahead_38 : decode cX9_ahead 38 = .ok (.getfield 80, 3) := by decide +kernel
theorem dX9_ahead_41 : decode cX9_ahead 41 = .ok (.iconst 3, 1) := by decide +kernel
theorem dX9_ahead_42 : decode cX9_ahead 42 = .ok (.if_icmp .lt 12, 3) := by decide +kernel
theorem dX9_ahead_54 : decode cX9_ahead 54 = .ok (.iconst (-1), 1) := by decide +kernel
theorem dX9_ahead_55 : decode cX9_ahead 55 = .ok (.ireturn, 1) := by decide +kernel
set_option maxRecDepth 100000 in
theorem ggX9_stages_X9_standsOn : GoodIn wsX9_stages wsX9_standsOn := goodIn_r _ [6, 7, 8, 9, 10, 11, 12, 13, 14, 15, 109, 110, 111, 112, 113, 114, 115, 116, 117, 118, 119, 120, 121, 122, 123, 124, 125, 126, 127, 128] rfl (by decide +kernel)
set_option maxRecDepth 100000 in
theorem gX9_stages_X9_standsOn : GoodIn wsX9_stages (wsV RX9 171 RX9 yX9_standsOn wsX9_standsOn) := goodIn_app (goodIn_r _ [2, 3, 4, 5] rfl (by decide +kernel)) ggX9_stages_X9_standsOn
theorem dX9_stages_0 : decode cX9_stages 0 = .ok (.iload_n 3, 1) := by decide +kernel
theorem dX9_stages_1 : decode cX9_stages 1 = .ok (.iconst 1, 1) := by decide +kernel
theorem dX9_stages_2 : decode cX9_stages 2 = .ok (.if_icmp .lt 17, 3) := by decide +kernel
theorem dX9_stages_5 : decode cX9_stages 5 = .ok (.iload_n 3, 1) := by decide +kernel
theorem dX9_stages_6 : decode cX9_stages 6 = .ok (.iconst 5, 1) := by decide +kernel
theorem dX9_stages_7 : decode cX9_stages 7 = .ok (.if_icmp .gt 12, 3) := by decide +kernel
theorem dX9_stages_10 : decode cX9_stages 10 = .ok (.aload_n 0, 1) := by decide +kernel
theorem dX9_stages_11 : decode cX9_stages 11 = .ok (.iload_n 1, 1) := by decide +kernel
theorem dX9_stages_12 : decode cX9_stages 12 = .ok (.iload_n 2, 1) := by decide +kernel
theorem dX9_stages_13 : decode cX9_stages 13 = .ok (.invokevirtual 171, 3) := by decide +kernel
theorem dX9_stages_16 : decode cX9_stages 16 = .ok (.ifCond .ne 5, 3) := by decide +kernel
theorem dX9_stages_19 : decode cX9_stages 19 = .ok (.iconst (-1), 1) := by decide +kernel
theorem dX9_stages_20 : decode cX9_stages 20 = .ok (.ireturn, 1) := by decide +kernel
set_option maxRecDepth 100000 in
theorem ggX9_goes_X9_standsOn : GoodIn wsX9_goes wsX9_standsOn := goodIn_r _ [6, 7, 8, 9, 10, 11, 12, 13, 14, 15, 109, 110, 111, 112, 113, 114, 115, 116, 117, 118, 119, 120, 121, 122, 123, 124, 125, 126, 127, 128] rfl (by decide +kernel)
set_option maxRecDepth 100000 in
theorem gX9_goes_X9_standsOn : GoodIn wsX9_goes (wsV RX9 171 RX9 yX9_standsOn wsX9_standsOn) := goodIn_app (goodIn_r _ [2, 3, 4, 5] rfl (by decide +kernel)) ggX9_goes_X9_standsOn
theorem dX9_goes_0 : decode cX9_goes 0 = .ok (.aload_n 0, 1) := by decide +kernel
theorem dX9_goes_1 : decode cX9_goes 1 = .ok (.iload_n 1, 1) := by decide +kernel
theorem dX9_goes_2 : decode cX9_goes 2 = .ok (.iload_n 2, 1) := by decide +kernel
theorem dX9_goes_3 : decode cX9_goes 3 = .ok (.invokevirtual 171, 3) := by decide +kernel
theorem dX9_goes_6 : decode cX9_goes 6 = .ok (.ifCond .ne 5, 3) := by decide +kernel
theorem dX9_goes_9 : decode cX9_goes 9 = .ok (.iconst (-1), 1) := by decide +kernel
theorem dX9_goes_10 : decode cX9_goes 10 = .ok (.ireturn, 1) := by decide +kernel
set_option maxRecDepth 100000 in
theorem ggX9_carried_X9_standsOn : GoodIn wsX9_carried wsX9_standsOn := goodIn_r _ [10, 2, 3, 11, 12, 13, 14, 15, 16, 17, 140, 141, 142, 143, 144, 145, 146, 147, 148, 149, 150, 151, 152, 153, 154, 155, 156, 157, 158, 159] rfl (by decide +kernel)
set_option maxRecDepth 100000 in
theorem gX9_carried_X9_standsOn : GoodIn wsX9_carried (wsV RX9 171 RX9 yX9_standsOn wsX9_standsOn) := goodIn_app (goodIn_r _ [6, 7, 8, 9] rfl (by decide +kernel)) ggX9_carried_X9_standsOn
theorem dX9_carried_0 : decode cX9_carried 0 = .ok (.iload_n 3, 1) := by decide +kernel
theorem dX9_carried_1 : decode cX9_carried 1 = .ok (.ifCond .lt 17, 3) := by decide +kernel
theorem dX9_carried_4 : decode cX9_carried 4 = .ok (.iload_n 3, 1) := by decide +kernel
theorem dX9_carried_5 : decode cX9_carried 5 = .ok (.iconst 1, 1) := by decide +kernel
theorem dX9_carried_6 : decode cX9_carried 6 = .ok (.if_icmp .gt 12, 3) := by decide +kernel
theorem dX9_carried_9 : decode cX9_carried 9 = .ok (.aload_n 0, 1) := by decide +kernel
theorem dX9_carried_10 : decode cX9_carried 10 = .ok (.iload_n 1, 1) := by decide +kernel
theorem dX9_carried_11 : decode cX9_carried 11 = .ok (.iload_n 2, 1) := by decide +kernel
theorem dX9_carried_12 : decode cX9_carried 12 = .ok (.invokevirtual 171, 3) := by decide +kernel
theorem dX9_carried_15 : decode cX9_carried 15 = .ok (.ifCond .ne 6, 3) := by decide +kernel
theorem dX9_carried_18 : decode cX9_carried 18 = .ok (.bipush (-3), 2) := by decide +kernel
theorem dX9_carried_20 : decode cX9_carried 20 = .ok (.ireturn, 1) := by decide +kernel
theorem dX9_mule_0 : decode cX9_mule 0 = .ok (.iload_n 1, 1) := by decide +kernel
theorem dX9_mule_1 : decode cX9_mule 1 = .ok (.iconst 1, 1) := by decide +kernel
theorem dX9_mule_2 : decode cX9_mule 2 = .ok (.if_icmp .lt 41, 3) := by decide +kernel
theorem dX9_mule_5 : decode cX9_mule 5 = .ok (.iload_n 1, 1) := by decide +kernel
theorem dX9_mule_6 : decode cX9_mule 6 = .ok (.sipush 500, 3) := by decide +kernel
theorem dX9_mule_9 : decode cX9_mule 9 = .ok (.if_icmp .gt 34, 3) := by decide +kernel
theorem dX9_mule_12 : decode cX9_mule 12 = .ok (.iload_n 2, 1) := by decide +kernel
theorem dX9_mule_13 : decode cX9_mule 13 = .ok (.iconst 1, 1) := by decide +kernel
theorem dX9_mule_14 : decode cX9_mule 14 = .ok (.if_icmp .lt 29, 3) := by decide +kernel
theorem dX9_mule_17 : decode cX9_mule 17 = .ok (.iload_n 2, 1) := by decide +kernel
theorem dX9_mule_18 : decode cX9_mule 18 = .ok (.aload_n 0, 1) := by decide +kernel
theorem dX9_mule_19 : decode cX9_mule 19 = .ok (.getfield 19, 3) := by decide +kernel
theorem dX9_mule_22 : decode cX9_mule 22 = .ok (.getfield 124, 3) := by decide +kernel
theorem dX9_mule_25 : decode cX9_mule 25 = .ok (.if_icmp .gt 18, 3) := by decide +kernel
theorem dX9_mule_43 : decode cX9_mule 43 = .ok (.iconst 0, 1) := by decide +kernel
theorem dX9_mule_44 : decode cX9_mule 44 = .ok (.istore 5, 2) := by decide +kernel
theorem dX9_mule_46 : decode cX9_mule 46 = .ok (.iload 5, 2) := by decide +kernel
theorem dX9_mule_48 : decode cX9_mule 48 = .ok (.ifCond .eq 12, 3) := by decide +kernel
theorem dX9_mule_60 : decode cX9_mule 60 = .ok (.iconst (-1), 1) := by decide +kernel
theorem dX9_mule_61 : decode cX9_mule 61 = .ok (.ireturn, 1) := by decide +kernel
theorem dX9_plan_0 : decode cX9_plan 0 = .ok (.iload_n 1, 1) := by decide +kernel
theorem dX9_plan_1 : decode cX9_plan 1 = .ok (.ifCond .lt 26, 3) := by decide +kernel
theorem dX9_plan_4 : decode cX9_plan 4 = .ok (.iload_n 1, 1) := by decide +kernel
theorem dX9_plan_5 : decode cX9_plan 5 = .ok (.bipush 6, 2) := by decide +kernel
theorem dX9_plan_7 : decode cX9_plan 7 = .ok (.if_icmp .ge 20, 3) := by decide +kernel
theorem dX9_plan_10 : decode cX9_plan 10 = .ok (.aload_n 0, 1) := by decide +kernel
theorem dX9_plan_11 : decode cX9_plan 11 = .ok (.getfield 10, 3) := by decide +kernel
theorem dX9_plan_14 : decode cX9_plan 14 = .ok (.getfield 136, 3) := by decide +kernel
theorem dX9_plan_17 : decode cX9_plan 17 = .ok (.aload_n 0, 1) := by decide +kernel
theorem dX9_plan_18 : decode cX9_plan 18 = .ok (.getfield 19, 3) := by decide +kernel
theorem dX9_plan_21 : decode cX9_plan 21 = .ok (.getfield 106, 3) := by decide +kernel
theorem dX9_plan_24 : decode cX9_plan 24 = .ok (.if_icmp .ge 5, 3) := by decide +kernel
theorem dX9_plan_27 : decode cX9_plan 27 = .ok (.iconst 0, 1) := by decide +kernel
theorem dX9_plan_28 : decode cX9_plan 28 = .ok (.ireturn, 1) := by decide +kernel
theorem dX9_plan_29 : decode cX9_plan 29 = .ok (.iconst 1, 1) := by decide +kernel
theorem dX9_plan_30 : decode cX9_plan 30 = .ok (.istore_n 2, 1) := by decide +kernel
theorem dX9_plan_31 : decode cX9_plan 31 = .ok (.iconst 0, 1) := by decide +kernel
theorem dX9_plan_32 : decode cX9_plan 32 = .ok (.istore_n 3, 1) := by decide +kernel
theorem dX9_plan_33 : decode cX9_plan 33 = .ok (.iload_n 3, 1) := by decide +kernel
theorem dX9_plan_34 : decode cX9_plan 34 = .ok (.aload_n 0, 1) := by decide +kernel
theorem dX9_plan_35 : decode cX9_plan 35 = .ok (.getfield 19, 3) := by decide +kernel
theorem dX9_plan_38 : decode cX9_plan 38 = .ok (.getfield 106, 3) := by decide +kernel
theorem dX9_plan_41 : decode cX9_plan 41 = .ok (.if_icmp .ge 81, 3) := by decide +kernel
theorem dX9_plan_122 : decode cX9_plan 122 = .ok (.aload_n 0, 1) := by decide +kernel
theorem dX9_plan_123 : decode cX9_plan 123 = .ok (.getfield 10, 3) := by decide +kernel
theorem dX9_plan_126 : decode cX9_plan 126 = .ok (.iconst 0, 1) := by decide +kernel
theorem dX9_plan_127 : decode cX9_plan 127 = .ok (.putfield 136, 3) := by decide +kernel
theorem dX9_plan_130 : decode cX9_plan 130 = .ok (.iload_n 2, 1) := by decide +kernel
theorem dX9_plan_131 : decode cX9_plan 131 = .ok (.ifCond .eq 62, 3) := by decide +kernel
theorem dX9_plan_134 : decode cX9_plan 134 = .ok (.aload_n 0, 1) := by decide +kernel
theorem dX9_plan_135 : decode cX9_plan 135 = .ok (.getfield 10, 3) := by decide +kernel
theorem dX9_plan_138 : decode cX9_plan 138 = .ok (.getfield 230, 3) := by decide +kernel
theorem dX9_plan_141 : decode cX9_plan 141 = .ok (.iconst 0, 1) := by decide +kernel
theorem dX9_plan_142 : decode cX9_plan 142 = .ok (.aload_n 0, 1) := by decide +kernel
theorem dX9_plan_143 : decode cX9_plan 143 = .ok (.getfield 60, 3) := by decide +kernel
theorem dX9_plan_146 : decode cX9_plan 146 = .ok (.getfield 233, 3) := by decide +kernel
theorem dX9_plan_149 : decode cX9_plan 149 = .ok (.iload_n 1, 1) := by decide +kernel
theorem dX9_plan_150 : decode cX9_plan 150 = .ok (.aaload, 1) := by decide +kernel
theorem dX9_plan_151 : decode cX9_plan 151 = .ok (.iconst 0, 1) := by decide +kernel
theorem dX9_plan_152 : decode cX9_plan 152 = .ok (.aload_n 0, 1) := by decide +kernel
theorem dX9_plan_153 : decode cX9_plan 153 = .ok (.getfield 19, 3) := by decide +kernel
theorem dX9_plan_156 : decode cX9_plan 156 = .ok (.getfield 106, 3) := by decide +kernel
theorem dX9_plan_159 : decode cX9_plan 159 = .ok (.invokestatic 237, 3) := by decide +kernel
theorem dX9_plan_162 : decode cX9_plan 162 = .ok (.aload_n 0, 1) := by decide +kernel
theorem dX9_plan_163 : decode cX9_plan 163 = .ok (.getfield 60, 3) := by decide +kernel
theorem dX9_plan_166 : decode cX9_plan 166 = .ok (.dup, 1) := by decide +kernel
theorem dX9_plan_167 : decode cX9_plan 167 = .ok (.getfield 118, 3) := by decide +kernel
theorem dX9_plan_170 : decode cX9_plan 170 = .ok (.iconst 1, 1) := by decide +kernel
theorem dX9_plan_171 : decode cX9_plan 171 = .ok (.iload_n 1, 1) := by decide +kernel
theorem dX9_plan_172 : decode cX9_plan 172 = .ok (.ishl, 1) := by decide +kernel
theorem dX9_plan_173 : decode cX9_plan 173 = .ok (.ior, 1) := by decide +kernel
theorem dX9_plan_174 : decode cX9_plan 174 = .ok (.putfield 118, 3) := by decide +kernel
theorem dX9_plan_177 : decode cX9_plan 177 = .ok (.aload_n 0, 1) := by decide +kernel
theorem dX9_plan_178 : decode cX9_plan 178 = .ok (.getfield 60, 3) := by decide +kernel
theorem dX9_plan_181 : decode cX9_plan 181 = .ok (.iconst 0, 1) := by decide +kernel
theorem dX9_plan_182 : decode cX9_plan 182 = .ok (.putfield 95, 3) := by decide +kernel
theorem dX9_plan_185 : decode cX9_plan 185 = .ok (.aload_n 0, 1) := by decide +kernel
theorem dX9_plan_186 : decode cX9_plan 186 = .ok (.getfield 69, 3) := by decide +kernel
theorem dX9_plan_189 : decode cX9_plan 189 = .ok (.iconst 0, 1) := by decide +kernel
theorem dX9_plan_190 : decode cX9_plan 190 = .ok (.putfield 121, 3) := by decide +kernel
theorem dX9_plan_193 : decode cX9_plan 193 = .ok (.iload_n 2, 1) := by decide +kernel
theorem dX9_plan_194 : decode cX9_plan 194 = .ok (.ireturn, 1) := by decide +kernel
theorem dX9_march_0 : decode cX9_march 0 = .ok (.iload_n 1, 1) := by decide +kernel
theorem dX9_march_1 : decode cX9_march 1 = .ok (.iconst 1, 1) := by decide +kernel
theorem dX9_march_2 : decode cX9_march 2 = .ok (.if_icmp .lt 35, 3) := by decide +kernel
theorem dX9_march_5 : decode cX9_march 5 = .ok (.iload_n 1, 1) := by decide +kernel
theorem dX9_march_6 : decode cX9_march 6 = .ok (.aload_n 0, 1) := by decide +kernel
theorem dX9_march_7 : decode cX9_march 7 = .ok (.getfield 19, 3) := by decide +kernel
theorem dX9_march_10 : decode cX9_march 10 = .ok (.getfield 124, 3) := by decide +kernel
theorem dX9_march_13 : decode cX9_march 13 = .ok (.if_icmp .ne 24, 3) := by decide +kernel
theorem dX9_march_37 : decode cX9_march 37 = .ok (.iconst 0, 1) := by decide +kernel
theorem dX9_march_38 : decode cX9_march 38 = .ok (.ireturn, 1) := by decide +kernel
theorem dX9_ran_0 : decode cX9_ran 0 = .ok (.iload_n 1, 1) := by decide +kernel
theorem dX9_ran_1 : decode cX9_ran 1 = .ok (.ifCond .lt 8, 3) := by decide +kernel
theorem dX9_ran_4 : decode cX9_ran 4 = .ok (.iload_n 1, 1) := by decide +kernel
theorem dX9_ran_5 : decode cX9_ran 5 = .ok (.iconst 3, 1) := by decide +kernel
theorem dX9_ran_6 : decode cX9_ran 6 = .ok (.if_icmp .le 5, 3) := by decide +kernel
theorem dX9_ran_9 : decode cX9_ran 9 = .ok (.iconst (-1), 1) := by decide +kernel
theorem dX9_ran_10 : decode cX9_ran 10 = .ok (.ireturn, 1) := by decide +kernel
theorem dX9_ran_11 : decode cX9_ran 11 = .ok (.aload_n 0, 1) := by decide +kernel
theorem dX9_ran_12 : decode cX9_ran 12 = .ok (.getfield 60, 3) := by decide +kernel
theorem dX9_ran_15 : decode cX9_ran 15 = .ok (.getfield 95, 3) := by decide +kernel
theorem dX9_ran_18 : decode cX9_ran 18 = .ok (.ifCond .ne 6, 3) := by decide +kernel
theorem dX9_ran_21 : decode cX9_ran 21 = .ok (.bipush (-2), 2) := by decide +kernel
theorem dX9_ran_23 : decode cX9_ran 23 = .ok (.ireturn, 1) := by decide +kernel
theorem dX9_gap_0 : decode cX9_gap 0 = .ok (.aload_n 0, 1) := by decide +kernel
theorem dX9_gap_1 : decode cX9_gap 1 = .ok (.getfield 60, 3) := by decide +kernel
theorem dX9_gap_4 : decode cX9_gap 4 = .ok (.getfield 95, 3) := by decide +kernel
theorem dX9_gap_7 : decode cX9_gap 7 = .ok (.ifCond .eq 14, 3) := by decide +kernel
theorem dX9_gap_21 : decode cX9_gap 21 = .ok (.iconst (-1), 1) := by decide +kernel
theorem dX9_gap_22 : decode cX9_gap 22 = .ok (.ireturn, 1) := by decide +kernel
set_option maxRecDepth 100000 in
theorem ggX9_best_X0_hasPiece : GoodIn wsX9_best wsX0_hasPiece := goodIn_r _ [12, 13, 179, 180, 181, 182, 183, 184, 185, 186, 187, 188, 189] rfl (by decide +kernel)
set_option maxRecDepth 100000 in
theorem gX9_best_X0_hasPiece : GoodIn wsX9_best (wsV RX9 157 RX0 yX0_hasPiece wsX0_hasPiece) := goodIn_app (goodIn_r _ [8, 9, 10, 11] rfl (by decide +kernel)) ggX9_best_X0_hasPiece
theorem dX9_best_0 : decode cX9_best 0 = .ok (.iload_n 1, 1) := by decide +kernel
theorem dX9_best_1 : decode cX9_best 1 = .ok (.iconst (-1), 1) := by decide +kernel
theorem dX9_best_2 : decode cX9_best 2 = .ok (.if_icmp .eq 14, 3) := by decide +kernel
theorem dX9_best_5 : decode cX9_best 5 = .ok (.aload_n 0, 1) := by decide +kernel
theorem dX9_best_6 : decode cX9_best 6 = .ok (.getfield 19, 3) := by decide +kernel
theorem dX9_best_9 : decode cX9_best 9 = .ok (.iload_n 1, 1) := by decide +kernel
theorem dX9_best_10 : decode cX9_best 10 = .ok (.invokevirtual 157, 3) := by decide +kernel
theorem dX9_best_13 : decode cX9_best 13 = .ok (.ifCond .eq 7, 3) := by decide +kernel
theorem dX9_best_16 : decode cX9_best 16 = .ok (.iconst 1, 1) := by decide +kernel
theorem dX9_best_17 : decode cX9_best 17 = .ok (.goto 4, 3) := by decide +kernel
theorem dX9_best_20 : decode cX9_best 20 = .ok (.iconst 0, 1) := by decide +kernel
theorem dX9_best_21 : decode cX9_best 21 = .ok (.istore_n 2, 1) := by decide +kernel
theorem dX9_best_22 : decode cX9_best 22 = .ok (.iload_n 2, 1) := by decide +kernel
theorem dX9_best_23 : decode cX9_best 23 = .ok (.ifCond .eq 23, 3) := by decide +kernel
theorem dX9_best_26 : decode cX9_best 26 = .ok (.aload_n 0, 1) := by decide +kernel
theorem dX9_best_27 : decode cX9_best 27 = .ok (.getfield 19, 3) := by decide +kernel
theorem dX9_best_30 : decode cX9_best 30 = .ok (.getfield 80, 3) := by decide +kernel
theorem dX9_best_33 : decode cX9_best 33 = .ok (.ifCond .eq 13, 3) := by decide +kernel
theorem dX9_best_46 : decode cX9_best 46 = .ok (.iconst (-1), 1) := by decide +kernel
theorem dX9_best_47 : decode cX9_best 47 = .ok (.ireturn, 1) := by decide +kernel
theorem dX9_often_0 : decode cX9_often 0 = .ok (.iload_n 1, 1) := by decide +kernel
theorem dX9_often_1 : decode cX9_often 1 = .ok (.ifCond .lt 28, 3) := by decide +kernel
theorem dX9_often_4 : decode cX9_often 4 = .ok (.iload_n 1, 1) := by decide +kernel
theorem dX9_often_5 : decode cX9_often 5 = .ok (.iconst 3, 1) := by decide +kernel
theorem dX9_often_6 : decode cX9_often 6 = .ok (.if_icmp .gt 23, 3) := by decide +kernel
theorem dX9_often_9 : decode cX9_often 9 = .ok (.aload_n 0, 1) := by decide +kernel
theorem dX9_often_10 : decode cX9_often 10 = .ok (.getfield 19, 3) := by decide +kernel
theorem dX9_often_13 : decode cX9_often 13 = .ok (.getfield 80, 3) := by decide +kernel
theorem dX9_often_16 : decode cX9_often 16 = .ok (.ifCond .eq 13, 3) := by decide +kernel
theorem dX9_often_29 : decode cX9_often 29 = .ok (.iconst (-1), 1) := by decide +kernel
theorem dX9_often_30 : decode cX9_often 30 = .ok (.ireturn, 1) := by decide +kernel
theorem dX9_edge_0 : decode cX9_edge 0 = .ok (.aload_n 0, 1) := by decide +kernel
theorem dX9_edge_1 : decode cX9_edge 1 = .ok (.getfield 19, 3) := by decide +kernel
theorem dX9_edge_4 : decode cX9_edge 4 = .ok (.getfield 80, 3) := by decide +kernel
theorem dX9_edge_7 : decode cX9_edge 7 = .ok (.ifCond .eq 13, 3) := by decide +kernel
theorem dX9_edge_20 : decode cX9_edge 20 = .ok (.iconst (-1), 1) := by decide +kernel
theorem dX9_edge_21 : decode cX9_edge 21 = .ok (.ireturn, 1) := by decide +kernel
theorem dX9_bands_0 : decode cX9_bands 0 = .ok (.iconst 1, 1) := by decide +kernel
theorem dX9_bands_1 : decode cX9_bands 1 = .ok (.aload_n 0, 1) := by decide +kernel
theorem dX9_bands_2 : decode cX9_bands 2 = .ok (.getfield 19, 3) := by decide +kernel
theorem dX9_bands_5 : decode cX9_bands 5 = .ok (.getfield 80, 3) := by decide +kernel
theorem dX9_bands_8 : decode cX9_bands 8 = .ok (.ishl, 1) := by decide +kernel
theorem dX9_bands_9 : decode cX9_bands 9 = .ok (.istore 4, 2) := by decide +kernel
theorem dX9_bands_11 : decode cX9_bands 11 = .ok (.iload_n 1, 1) := by decide +kernel
theorem dX9_bands_12 : decode cX9_bands 12 = .ok (.ifCond .le 29, 3) := by decide +kernel
theorem dX9_bands_15 : decode cX9_bands 15 = .ok (.iload_n 1, 1) := by decide +kernel
theorem dX9_bands_16 : decode cX9_bands 16 = .ok (.iload 4, 2) := by decide +kernel
theorem dX9_bands_18 : decode cX9_bands 18 = .ok (.if_icmp .ge 23, 3) := by decide +kernel
theorem dX9_bands_41 : decode cX9_bands 41 = .ok (.iconst 0, 1) := by decide +kernel
theorem dX9_bands_42 : decode cX9_bands 42 = .ok (.istore 5, 2) := by decide +kernel
theorem dX9_bands_44 : decode cX9_bands 44 = .ok (.iload 5, 2) := by decide +kernel
theorem dX9_bands_46 : decode cX9_bands 46 = .ok (.ifCond .eq 22, 3) := by decide +kernel
theorem dX9_bands_68 : decode cX9_bands 68 = .ok (.iconst (-1), 1) := by decide +kernel
theorem dX9_bands_69 : decode cX9_bands 69 = .ok (.ireturn, 1) := by decide +kernel
set_option maxRecDepth 100000 in
theorem ggX9_kettle_X0_hasLoad : GoodIn wsX9_kettle wsX0_hasLoad := goodIn_r _ [9, 10, 142, 143, 144, 145, 146, 147, 148, 149, 150, 151, 152] rfl (by decide +kernel)
set_option maxRecDepth 100000 in
theorem gX9_kettle_X0_hasLoad : GoodIn wsX9_kettle (wsV RX9 185 RX0 yX0_hasLoad wsX0_hasLoad) := goodIn_app (goodIn_r _ [5, 6, 7, 8] rfl (by decide +kernel)) ggX9_kettle_X0_hasLoad
theorem dX9_kettle_0 : decode cX9_kettle 0 = .ok (.aload_n 0, 1) := by decide +kernel
theorem dX9_kettle_1 : decode cX9_kettle 1 = .ok (.getfield 19, 3) := by decide +kernel
theorem dX9_kettle_4 : decode cX9_kettle 4 = .ok (.iload_n 1, 1) := by decide +kernel
theorem dX9_kettle_5 : decode cX9_kettle 5 = .ok (.invokevirtual 185, 3) := by decide +kernel
theorem dX9_kettle_8 : decode cX9_kettle 8 = .ok (.ifCond .eq 13, 3) := by decide +kernel
theorem dX9_kettle_21 : decode cX9_kettle 21 = .ok (.iconst (-1), 1) := by decide +kernel
theorem dX9_kettle_22 : decode cX9_kettle 22 = .ok (.ireturn, 1) := by decide +kernel
theorem dX9_check_0 : decode cX9_check 0 = .ok (.aload_n 0, 1) := by decide +kernel
theorem dX9_check_1 : decode cX9_check 1 = .ok (.getfield 60, 3) := by decide +kernel
theorem dX9_check_4 : decode cX9_check 4 = .ok (.getfield 95, 3) := by decide +kernel
theorem dX9_check_7 : decode cX9_check 7 = .ok (.ifCond .eq 20, 3) := by decide +kernel
theorem dX9_check_27 : decode cX9_check 27 = .ok (.bipush (-2), 2) := by decide +kernel
theorem dX9_check_29 : decode cX9_check 29 = .ok (.ireturn, 1) := by decide +kernel
set_option maxRecDepth 100000 in
theorem ggX9_count_X0_hasPiece : GoodIn wsX9_count wsX0_hasPiece := goodIn_r _ [17, 18, 43, 44, 45, 46, 47, 48, 49, 50, 51, 52, 53] rfl (by decide +kernel)
set_option maxRecDepth 100000 in
theorem gX9_count_X0_hasPiece : GoodIn wsX9_count (wsV RX9 157 RX0 yX0_hasPiece wsX0_hasPiece) := goodIn_app (goodIn_r _ [13, 14, 15, 16] rfl (by decide +kernel)) ggX9_count_X0_hasPiece
theorem dX9_count_0 : decode cX9_count 0 = .ok (.iload_n 1, 1) := by decide +kernel
theorem dX9_count_1 : decode cX9_count 1 = .ok (.bipush 10, 2) := by decide +kernel
theorem dX9_count_3 : decode cX9_count 3 = .ok (.if_icmp .lt 29, 3) := by decide +kernel
theorem dX9_count_6 : decode cX9_count 6 = .ok (.aload_n 0, 1) := by decide +kernel
theorem dX9_count_7 : decode cX9_count 7 = .ok (.getfield 19, 3) := by decide +kernel
theorem dX9_count_10 : decode cX9_count 10 = .ok (.iload_n 1, 1) := by decide +kernel
theorem dX9_count_11 : decode cX9_count 11 = .ok (.bipush 10, 2) := by decide +kernel
theorem dX9_count_13 : decode cX9_count 13 = .ok (.isub, 1) := by decide +kernel
theorem dX9_count_14 : decode cX9_count 14 = .ok (.invokevirtual 157, 3) := by decide +kernel
theorem dX9_count_17 : decode cX9_count 17 = .ok (.ifCond .eq 15, 3) := by decide +kernel
theorem dX9_count_32 : decode cX9_count 32 = .ok (.iload_n 1, 1) := by decide +kernel
theorem dX9_count_33 : decode cX9_count 33 = .ok (.tableswitch 119 0 7 #[47, 55, 63, 71, 79, 87, 95, 103], 47) := by decide +kernel
theorem dX9_count_80 : decode cX9_count 80 = .ok (.aload_n 0, 1) := by decide +kernel
theorem dX9_count_81 : decode cX9_count 81 = .ok (.getfield 19, 3) := by decide +kernel
theorem dX9_count_84 : decode cX9_count 84 = .ok (.getfield 80, 3) := by decide +kernel
theorem dX9_count_87 : decode cX9_count 87 = .ok (.ireturn, 1) := by decide +kernel
theorem dX9_count_88 : decode cX9_count 88 = .ok (.aload_n 0, 1) := by decide +kernel
theorem dX9_count_89 : decode cX9_count 89 = .ok (.getfield 19, 3) := by decide +kernel
theorem dX9_count_92 : decode cX9_count 92 = .ok (.getfield 106, 3) := by decide +kernel
theorem dX9_count_95 : decode cX9_count 95 = .ok (.ireturn, 1) := by decide +kernel
theorem dX9_count_96 : decode cX9_count 96 = .ok (.aload_n 0, 1) := by decide +kernel
theorem dX9_count_97 : decode cX9_count 97 = .ok (.getfield 19, 3) := by decide +kernel
theorem dX9_count_100 : decode cX9_count 100 = .ok (.getfield 124, 3) := by decide +kernel
theorem dX9_count_103 : decode cX9_count 103 = .ok (.ireturn, 1) := by decide +kernel
theorem dX9_count_104 : decode cX9_count 104 = .ok (.aload_n 0, 1) := by decide +kernel
theorem dX9_count_105 : decode cX9_count 105 = .ok (.getfield 26, 3) := by decide +kernel
theorem dX9_count_108 : decode cX9_count 108 = .ok (.getfield 154, 3) := by decide +kernel
theorem dX9_count_111 : decode cX9_count 111 = .ok (.ireturn, 1) := by decide +kernel
theorem dX9_count_112 : decode cX9_count 112 = .ok (.aload_n 0, 1) := by decide +kernel
theorem dX9_count_113 : decode cX9_count 113 = .ok (.getfield 10, 3) := by decide +kernel
theorem dX9_count_116 : decode cX9_count 116 = .ok (.getfield 136, 3) := by decide +kernel
theorem dX9_count_119 : decode cX9_count 119 = .ok (.ireturn, 1) := by decide +kernel
theorem dX9_count_120 : decode cX9_count 120 = .ok (.aload_n 0, 1) := by decide +kernel
theorem dX9_count_121 : decode cX9_count 121 = .ok (.getfield 60, 3) := by decide +kernel
theorem dX9_count_124 : decode cX9_count 124 = .ok (.getfield 133, 3) := by decide +kernel
theorem dX9_count_127 : decode cX9_count 127 = .ok (.ireturn, 1) := by decide +kernel
theorem dX9_count_128 : decode cX9_count 128 = .ok (.aload_n 0, 1) := by decide +kernel
theorem dX9_count_129 : decode cX9_count 129 = .ok (.getfield 60, 3) := by decide +kernel
theorem dX9_count_132 : decode cX9_count 132 = .ok (.getfield 118, 3) := by decide +kernel
theorem dX9_count_135 : decode cX9_count 135 = .ok (.ireturn, 1) := by decide +kernel
theorem dX9_count_136 : decode cX9_count 136 = .ok (.aload_n 0, 1) := by decide +kernel
theorem dX9_count_137 : decode cX9_count 137 = .ok (.getfield 60, 3) := by decide +kernel
theorem dX9_count_140 : decode cX9_count 140 = .ok (.getfield 95, 3) := by decide +kernel
theorem dX9_count_143 : decode cX9_count 143 = .ok (.ifCond .eq 7, 3) := by decide +kernel
theorem dX9_count_150 : decode cX9_count 150 = .ok (.iconst 0, 1) := by decide +kernel
theorem dX9_count_151 : decode cX9_count 151 = .ok (.ireturn, 1) := by decide +kernel
theorem dX9_count_152 : decode cX9_count 152 = .ok (.iconst (-1), 1) := by decide +kernel
theorem dX9_count_153 : decode cX9_count 153 = .ok (.ireturn, 1) := by decide +kernel
theorem dX9_forget_0 : decode cX9_forget 0 = .ok (.aload_n 0, 1) := by decide +kernel
theorem dX9_forget_1 : decode cX9_forget 1 = .ok (.getfield 44, 3) := by decide +kernel
theorem dX9_forget_4 : decode cX9_forget 4 = .ok (.dup, 1) := by decide +kernel
theorem dX9_forget_5 : decode cX9_forget 5 = .ok (.getfield 306, 3) := by decide +kernel
theorem dX9_forget_8 : decode cX9_forget 8 = .ok (.iconst 1, 1) := by decide +kernel
theorem dX9_forget_9 : decode cX9_forget 9 = .ok (.iadd, 1) := by decide +kernel
theorem dX9_forget_10 : decode cX9_forget 10 = .ok (.putfield 306, 3) := by decide +kernel
theorem dX9_forget_13 : decode cX9_forget 13 = .ok (.aload_n 0, 1) := by decide +kernel
theorem dX9_forget_14 : decode cX9_forget 14 = .ok (.getfield 69, 3) := by decide +kernel
theorem dX9_forget_17 : decode cX9_forget 17 = .ok (.iconst 0, 1) := by decide +kernel
theorem dX9_forget_18 : decode cX9_forget 18 = .ok (.putfield 121, 3) := by decide +kernel
theorem dX9_forget_21 : decode cX9_forget 21 = .ok (.return_, 1) := by decide +kernel
set_option maxRecDepth 100000 in
theorem ggX9_standsOn_X0_hasPiece : GoodIn wsX9_standsOn wsX0_hasPiece := goodIn_r _ [8, 9, 19, 20, 21, 22, 23, 24, 25, 26, 27, 28, 29] rfl (by decide +kernel)
set_option maxRecDepth 100000 in
theorem gX9_standsOn_X0_hasPiece : GoodIn wsX9_standsOn (wsV RX9 157 RX0 yX0_hasPiece wsX0_hasPiece) := goodIn_app (goodIn_r _ [4, 5, 6, 7] rfl (by decide +kernel)) ggX9_standsOn_X0_hasPiece
theorem dX9_standsOn_0 : decode cX9_standsOn 0 = .ok (.aload_n 0, 1) := by decide +kernel
theorem dX9_standsOn_1 : decode cX9_standsOn 1 = .ok (.getfield 19, 3) := by decide +kernel
theorem dX9_standsOn_4 : decode cX9_standsOn 4 = .ok (.getfield 80, 3) := by decide +kernel
theorem dX9_standsOn_7 : decode cX9_standsOn 7 = .ok (.ifCond .le 29, 3) := by decide +kernel
theorem dX9_standsOn_10 : decode cX9_standsOn 10 = .ok (.aload_n 0, 1) := by decide +kernel
theorem dX9_standsOn_11 : decode cX9_standsOn 11 = .ok (.getfield 19, 3) := by decide +kernel
theorem dX9_standsOn_14 : decode cX9_standsOn 14 = .ok (.iload_n 1, 1) := by decide +kernel
theorem dX9_standsOn_15 : decode cX9_standsOn 15 = .ok (.invokevirtual 157, 3) := by decide +kernel
theorem dX9_standsOn_18 : decode cX9_standsOn 18 = .ok (.ifCond .eq 18, 3) := by decide +kernel
theorem dX9_standsOn_21 : decode cX9_standsOn 21 = .ok (.iload_n 2, 1) := by decide +kernel
theorem dX9_standsOn_22 : decode cX9_standsOn 22 = .ok (.ifCond .lt 14, 3) := by decide +kernel
theorem dX9_standsOn_25 : decode cX9_standsOn 25 = .ok (.iload_n 2, 1) := by decide +kernel
theorem dX9_standsOn_26 : decode cX9_standsOn 26 = .ok (.ldc_w 309, 3) := by decide +kernel
theorem dX9_standsOn_29 : decode cX9_standsOn 29 = .ok (.if_icmp .ge 7, 3) := by decide +kernel
theorem dX9_standsOn_32 : decode cX9_standsOn 32 = .ok (.iconst 1, 1) := by decide +kernel
theorem dX9_standsOn_33 : decode cX9_standsOn 33 = .ok (.goto 4, 3) := by decide +kernel
theorem dX9_standsOn_36 : decode cX9_standsOn 36 = .ok (.iconst 0, 1) := by decide +kernel
theorem dX9_standsOn_37 : decode cX9_standsOn 37 = .ok (.ireturn, 1) := by decide +kernel
theorem dX10_init_0 : decode cX10_init 0 = .ok (.aload_n 0, 1) := by decide +kernel
theorem dX10_init_1 : decode cX10_init 1 = .ok (.invokespecial 1, 3) := by decide +kernel
theorem dX10_init_4 : decode cX10_init 4 = .ok (.aload_n 0, 1) := by decide +kernel
theorem dX10_init_5 : decode cX10_init 5 = .ok (.sipush 220, 3) := by decide +kernel
theorem dX10_init_8 : decode cX10_init 8 = .ok (.newarray .byte, 2) := by decide +kernel
theorem dX10_init_10 : decode cX10_init 10 = .ok (.putfield 7, 3) := by decide +kernel
theorem dX10_init_13 : decode cX10_init 13 = .ok (.aload_n 0, 1) := by decide +kernel
theorem dX10_init_14 : decode cX10_init 14 = .ok (.bipush 10, 2) := by decide +kernel
theorem dX10_init_16 : decode cX10_init 16 = .ok (.putfield 13, 3) := by decide +kernel
theorem dX10_init_19 : decode cX10_init 19 = .ok (.aload_n 0, 1) := by decide +kernel
theorem dX10_init_20 : decode cX10_init 20 = .ok (.bipush 6, 2) := by decide +kernel
theorem dX10_init_22 : decode cX10_init 22 = .ok (.newarray .int, 2) := by decide +kernel
theorem dX10_init_24 : decode cX10_init 24 = .ok (.putfield 17, 3) := by decide +kernel
theorem dX10_init_27 : decode cX10_init 27 = .ok (.aload_n 0, 1) := by decide +kernel
theorem dX10_init_28 : decode cX10_init 28 = .ok (.bipush 6, 2) := by decide +kernel
theorem dX10_init_30 : decode cX10_init 30 = .ok (.newarray .int, 2) := by decide +kernel
theorem dX10_init_32 : decode cX10_init 32 = .ok (.putfield 21, 3) := by decide +kernel
theorem dX10_init_35 : decode cX10_init 35 = .ok (.aload_n 0, 1) := by decide +kernel
theorem dX10_init_36 : decode cX10_init 36 = .ok (.bipush 6, 2) := by decide +kernel
theorem dX10_init_38 : decode cX10_init 38 = .ok (.newarray .boolean, 2) := by decide +kernel
theorem dX10_init_40 : decode cX10_init 40 = .ok (.putfield 24, 3) := by decide +kernel
theorem dX10_init_43 : decode cX10_init 43 = .ok (.aload_n 0, 1) := by decide +kernel
theorem dX10_init_44 : decode cX10_init 44 = .ok (.bipush 10, 2) := by decide +kernel
theorem dX10_init_46 : decode cX10_init 46 = .ok (.newarray .int, 2) := by decide +kernel
theorem dX10_init_48 : decode cX10_init 48 = .ok (.putfield 28, 3) := by decide +kernel
theorem dX10_init_51 : decode cX10_init 51 = .ok (.aload_n 0, 1) := by decide +kernel
theorem dX10_init_52 : decode cX10_init 52 = .ok (.bipush 10, 2) := by decide +kernel
theorem dX10_init_54 : decode cX10_init 54 = .ok (.newarray .int, 2) := by decide +kernel
theorem dX10_init_56 : decode cX10_init 56 = .ok (.putfield 31, 3) := by decide +kernel
theorem dX10_init_59 : decode cX10_init 59 = .ok (.aload_n 0, 1) := by decide +kernel
theorem dX10_init_60 : decode cX10_init 60 = .ok (.bipush 10, 2) := by decide +kernel
theorem dX10_init_62 : decode cX10_init 62 = .ok (.newarray .int, 2) := by decide +kernel
theorem dX10_init_64 : decode cX10_init 64 = .ok (.putfield 34, 3) := by decide +kernel
theorem dX10_init_67 : decode cX10_init 67 = .ok (.aload_n 0, 1) := by decide +kernel
theorem dX10_init_68 : decode cX10_init 68 = .ok (.bipush 10, 2) := by decide +kernel
theorem dX10_init_70 : decode cX10_init 70 = .ok (.newarray .int, 2) := by decide +kernel
theorem dX10_init_72 : decode cX10_init 72 = .ok (.putfield 37, 3) := by decide +kernel
theorem dX10_init_75 : decode cX10_init 75 = .ok (.aload_n 0, 1) := by decide +kernel
theorem dX10_init_76 : decode cX10_init 76 = .ok (.bipush 10, 2) := by decide +kernel
theorem dX10_init_78 : decode cX10_init 78 = .ok (.newarray .int, 2) := by decide +kernel
theorem dX10_init_80 : decode cX10_init 80 = .ok (.putfield 40, 3) := by decide +kernel
theorem dX10_init_83 : decode cX10_init 83 = .ok (.aload_n 0, 1) := by decide +kernel
theorem dX10_init_84 : decode cX10_init 84 = .ok (.bipush 14, 2) := by decide +kernel
theorem dX10_init_86 : decode cX10_init 86 = .ok (.newarray .int, 2) := by decide +kernel
theorem dX10_init_88 : decode cX10_init 88 = .ok (.putfield 43, 3) := by decide +kernel
theorem dX10_init_91 : decode cX10_init 91 = .ok (.aload_n 0, 1) := by decide +kernel
theorem dX10_init_92 : decode cX10_init 92 = .ok (.bipush 14, 2) := by decide +kernel
theorem dX10_init_94 : decode cX10_init 94 = .ok (.newarray .int, 2) := by decide +kernel
theorem dX10_init_96 : decode cX10_init 96 = .ok (.putfield 46, 3) := by decide +kernel
theorem dX10_init_99 : decode cX10_init 99 = .ok (.aload_n 0, 1) := by decide +kernel
theorem dX10_init_100 : decode cX10_init 100 = .ok (.bipush 14, 2) := by decide +kernel
theorem dX10_init_102 : decode cX10_init 102 = .ok (.newarray .int, 2) := by decide +kernel
theorem dX10_init_104 : decode cX10_init 104 = .ok (.putfield 49, 3) := by decide +kernel
theorem dX10_init_107 : decode cX10_init 107 = .ok (.aload_n 0, 1) := by decide +kernel
theorem dX10_init_108 : decode cX10_init 108 = .ok (.bipush 14, 2) := by decide +kernel
theorem dX10_init_110 : decode cX10_init 110 = .ok (.newarray .int, 2) := by decide +kernel
