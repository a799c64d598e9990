set_option maxHeartbeats 16000000 in
set_option maxRecDepth 100000 in
theorem c_X7_reach (l : Launch) (D : va_G) (cy : Nat → ClassId) (hs : Nat → Nat) (hH hT sH sT : Nat) (v_tape_size v_band_walkers v_band_loads v_band_pieces v_rules_clauses v_reader_end v_reader_at v_reader_length v_reader_letter v_reader_fault v_draft_clauses v_paces_version v_packing_quicker v_packing_loads v_packing_looseCount v_marches_told v_marches_changeMinutes v_marches_marching v_marches_gone v_search_known v_search_countHere v_search_countThere v_search_cost v_search_most : Int32) (v_search_found : Int64) (f_bytes f_knee f_weight f_limps f_bheft f_owner f_food f_miles f_slope f_rsteps f_rkind f_ryields f_rholds f_rletters f_rstack f_dsteps f_dkind f_dyields f_dholds f_dletters f_dstack f_caps f_versions f_sharing f_pheft f_prow f_holder f_comes f_pcaps f_room f_loose f_reached f_mrow f_minutesOn f_mtired : Nat → Int32) (f_here f_there : Nat → Int64) (f_statesHere f_statesThere f_listed f_stired f_burdens f_pacesOn f_restedOn f_behindOn f_behindFor f_first f_second : Nat → Int32) (f_plans f_tiredOn : Nat → Nat → Int32) (tS : Nat) (sz : Nat) (pc0 : Int32) (st0 : Int32) (bh : Int32) (k : Int32) (pr : Int64) (hb_v_search_countThere : 0 ≤ v_search_countThere.toInt ∧ v_search_countThere.toInt ≤ 1296) (hb_v_search_most : -1 ≤ v_search_most.toInt ∧ v_search_most.toInt ≤ 3) (hr_statesThere : rg (0) 1295 f_statesThere) (hr_listed : rg (0) 1 f_listed) (ha_st0 : 0 ≤ st0.toInt ∧ st0.toInt ≤ 1295) (ha_bh : 0 ≤ bh.toInt ∧ bh.toInt ≤ 1295) (ha_k : 0 ≤ k.toInt ∧ k.toInt ≤ 5) (hLI : LI f_listed f_statesThere v_search_countThere) : gMv l yX7_reach cX7_reach 14 1 [.ref (hs 62), .int pc0, .int st0, .int bh, .int k, .long pr] D cy (wSP cy hs hH hT sH sT v_tape_size v_band_walkers v_band_loads v_band_pieces v_rules_clauses v_reader_end v_reader_at v_reader_length v_reader_letter v_reader_fault v_draft_clauses v_paces_version v_packing_quicker v_packing_loads v_packing_looseCount v_marches_told v_marches_changeMinutes v_marches_marching v_marches_gone v_search_known v_search_countHere v_search_countThere v_search_cost v_search_most v_search_found f_bytes f_knee f_weight f_limps f_bheft f_owner f_food f_miles f_slope f_rsteps f_rkind f_ryields f_rholds f_rletters f_rstack f_dsteps f_dkind f_dyields f_dholds f_dletters f_dstack f_caps f_versions f_sharing f_pheft f_prow f_holder f_comes f_pcaps f_room f_loose f_reached f_mrow f_minutesOn f_mtired f_here f_there f_statesHere f_statesThere f_listed f_stired f_burdens f_pacesOn f_restedOn f_behindOn f_behindFor f_first f_second f_plans f_tiredOn) (NS tS) sz (fun (u : Int32 × (Nat → Int64) × (Nat → Int32) × (Nat → Int32)) => (LI (u.2.2.2) (u.2.2.1) (u.1)) ∧ (0 ≤ (u.1).toInt ∧ (u.1).toInt ≤ 1296) ∧ (rg (0) 1295 (u.2.2.1)) ∧ (rg (0) 1 (u.2.2.2))) (fun u => wSP cy hs hH hT sH sT v_tape_size v_band_walkers v_band_loads v_band_pieces v_rules_clauses v_reader_end v_reader_at v_reader_length v_reader_letter v_reader_fault v_draft_clauses v_paces_version v_packing_quicker v_packing_loads v_packing_looseCount v_marches_told v_marches_changeMinutes v_marches_marching v_marches_gone v_search_known v_search_countHere (u.1) v_search_cost v_search_most v_search_found f_bytes f_knee f_weight f_limps f_bheft f_owner f_food f_miles f_slope f_rsteps f_rkind f_ryields f_rholds f_rletters f_rstack f_dsteps f_dkind f_dyields f_dholds f_dletters f_dstack f_caps f_versions f_sharing f_pheft f_prow f_holder f_comes f_pcaps f_room f_loose f_reached f_mrow f_minutesOn f_mtired f_here (u.2.1) f_statesHere (u.2.2.1) (u.2.2.2) f_stired f_burdens f_pacesOn f_restedOn f_behindOn f_behindFor f_first f_second f_plans f_tiredOn) := by
  refine gMv_in (by decide) (Nat.le_of_ble_eq_true rfl) ?_
  intro p e s m args below meth c A ls Q hx hb hml hts hown hsz hP hK hD hN hAe hA hS hl hret
  subst hsz
  have hl : lv_has ls 14 [(0, .ref (hs 62)), (1, .int pc0), (2, .int st0), (3, .int bh), (4, .int k), (5, .long pr)] := hl
  have hrt := fun (v_search_countThere' : Int32) (f_there' : Nat → Int64) (f_statesThere' : Nat → Int32) (f_listed' : Nat → Int32) (hp : (LI f_listed' f_statesThere' v_search_countThere') ∧ (0 ≤ v_search_countThere'.toInt ∧ v_search_countThere'.toInt ≤ 1296) ∧ (rg (0) 1295 f_statesThere') ∧ (rg (0) 1 f_listed')) {H : Heap} {locs : List Loc} {pc : Nat} {ls : Array Slot} => hret (v_search_countThere', f_there', f_statesThere', f_listed') (H := H) (locs := locs) (pc := pc) (ls := ls) hp
  clear hret
  refine lv_aload_n hx hb dX7_reach_0 rfl (lv_at hl 0 rfl) ?_
  refine gt_SP_search_listed hx hb hts hown hK hP lwd_127 dX7_reach_1 ?_
  refine lv_iload_n hx hb dX7_reach_4 rfl (lv_at hl 3 rfl) ?_
  refine al_listed hx hb hK hP hr_listed (i_in (rfl : bh.toInt = bh.toInt) (by omega) (by omega)) dX7_reach_5 (fun n_1 en_1 bn_1 => ?_)
  refine lv_if_ne (tgt := 36) hx hb dX7_reach_6 (by decide) (fun c_2 => ?_) (fun c_2 => ?_)
  · have gc_2 : n_1.toInt ≠ 0 := i_ne (rfl : n_1.toInt = n_1.toInt) (by decide : (0 : Int32).toInt = 0) c_2
    skip
    refine lv_aload_n hx hb dX7_reach_36 rfl (lv_at hl 0 rfl) ?_
    refine gt_SP_search_most hx hb hts hown hK hP lwd_1044 dX7_reach_37 ?_
    refine lv_iconst (v := (-1)) hx hb dX7_reach_40 (by decide) ?_
    refine lv_icmp_ne (tgt := 49) hx hb dX7_reach_41 (by decide) (fun c_3 => ?_) (fun c_3 => ?_)
    · have gc_3 : v_search_most.toInt ≠ (-1) := i_ne (rfl : v_search_most.toInt = v_search_most.toInt) (by decide : ((-1) : Int32).toInt = (-1)) c_3
      refine lv_aload_n hx hb dX7_reach_49 rfl (lv_at hl 0 rfl) ?_
      refine gt_SP_search_most hx hb hts hown hK hP lwd_1044 dX7_reach_50 ?_
      refine lv_iconst (v := 1) hx hb dX7_reach_53 (by decide) ?_
      refine lv_iadd hx hb dX7_reach_54 ?_
      refine lv_topi (fun n_4 en_4 => ?_)
      have tn_4 : n_4.toInt = v_search_most.toInt + 1 := i_add en_4 (rfl : v_search_most.toInt = v_search_most.toInt) (by decide : (1 : Int32).toInt = 1) (by omega) (by omega)
      refine lv_bipush (v := 6) hx hb dX7_reach_55 (by decide) ?_
      refine lv_imul hx hb dX7_reach_57 ?_
      refine lv_topi (fun n_5 en_5 => ?_)
      have tn_5 : n_5.toInt = (v_search_most.toInt + 1) * 6 := i_mul en_5 tn_4 (by decide : (6 : Int32).toInt = 6) (by omega) (by omega)
      refine lv_istore (lv' := [(7, .int n_5), (0, .ref (hs 62)), (1, .int pc0), (2, .int st0), (3, .int bh), (4, .int k), (5, .long pr)]) hx hb dX7_reach_58 hl (by decide) rfl (fun ls hl => ?_)
      refine lv_iconst (v := 0) hx hb dX7_reach_60 (by decide) ?_
      refine lv_istore (lv' := [(8, .int 0), (7, .int n_5), (0, .ref (hs 62)), (1, .int pc0), (2, .int st0), (3, .int bh), (4, .int k), (5, .long pr)]) hx hb dX7_reach_61 hl (by decide) rfl (fun ls hl => ?_)
      have L63_10 : ∀ (n : Nat) (f_8 : Nat → Int64) (l_9 : Int32), (0 ≤ l_9.toInt ∧ l_9.toInt ≤ 24) → 25 - l_9.toInt < n → ∀ (H : Heap) (locs : List Loc) (ls : Array Slot), va_P D vwCl (wSP cy hs hH hT sH sT v_tape_size v_band_walkers v_band_loads v_band_pieces v_rules_clauses v_reader_end v_reader_at v_reader_length v_reader_letter v_reader_fault v_draft_clauses v_paces_version v_packing_quicker v_packing_loads v_packing_looseCount v_marches_told v_marches_changeMinutes v_marches_marching v_marches_gone v_search_known v_search_countHere v_search_countThere v_search_cost v_search_most v_search_found f_bytes f_knee f_weight f_limps f_bheft f_owner f_food f_miles f_slope f_rsteps f_rkind f_ryields f_rholds f_rletters f_rstack f_dsteps f_dkind f_dyields f_dholds f_dletters f_dstack f_caps f_versions f_sharing f_pheft f_prow f_holder f_comes f_pcaps f_room f_loose f_reached f_mrow f_minutesOn f_mtired f_here f_8 f_statesHere f_statesThere f_listed f_stired f_burdens f_pacesOn f_restedOn f_behindOn f_behindFor f_first f_second f_plans f_tiredOn) H → va_D A (wSP cy hs hH hT sH sT v_tape_size v_band_walkers v_band_loads v_band_pieces v_rules_clauses v_reader_end v_reader_at v_reader_length v_reader_letter v_reader_fault v_draft_clauses v_paces_version v_packing_quicker v_packing_loads v_packing_looseCount v_marches_told v_marches_changeMinutes v_marches_marching v_marches_gone v_search_known v_search_countHere v_search_countThere v_search_cost v_search_most v_search_found f_bytes f_knee f_weight f_limps f_bheft f_owner f_food f_miles f_slope f_rsteps f_rkind f_ryields f_rholds f_rletters f_rstack f_dsteps f_dkind f_dyields f_dholds f_dletters f_dstack f_caps f_versions f_sharing f_pheft f_prow f_holder f_comes f_pcaps f_room f_loose f_reached f_mrow f_minutesOn f_mtired f_here f_8 f_statesHere f_statesThere f_listed f_stired f_burdens f_pacesOn f_restedOn f_behindOn f_behindFor f_first f_second f_plans f_tiredOn) → va_S A s.heap H locs → lv_has ls 14 [(8, .int l_9), (7, .int n_5), (0, .ref (hs 62)), (1, .int pc0), (2, .int st0), (3, .int bh), (4, .int k), (5, .long pr)] → W p l e (gRm 1) s m args below meth c H locs 0 0 Q (F0 m 63 ls []) := by
        intro n
        induction n with
        | zero => intro f_8 l_9 hL63_10_0 hm; exact absurd hm (by omega)
        | succ n ih63_10 =>
          intro f_8 l_9 hL63_10_0 hmL63_10 H locs ls hP hD hS hl
          refine lv_iload hx hb dX7_reach_63 (lv_at hl 0 rfl) ?_
          refine lv_iload hx hb dX7_reach_65 (lv_at hl 1 rfl) ?_
          refine lv_icmp_ge (tgt := 221) hx hb dX7_reach_67 (by decide) (fun c_11 => ?_) (fun c_11 => ?_)
          · have gc_11 : (v_search_most.toInt + 1) * 6 ≤ l_9.toInt := i_le tn_5 (rfl : l_9.toInt = l_9.toInt) c_11
            exact hrt v_search_countThere f_8 f_statesThere f_listed ⟨hLI, (by omega), hr_statesThere, hr_listed⟩ hP hD hS dX7_reach_221
          · have gc_11 : l_9.toInt < (v_search_most.toInt + 1) * 6 := i_nle tn_5 (rfl : l_9.toInt = l_9.toInt) c_11
            refine lv_aload_n hx hb dX7_reach_70 rfl (lv_at hl 2 rfl) ?_
            refine gt_SP_search_here hx hb hts hown hK hP lwd_123 dX7_reach_71 ?_
            refine lv_iload hx hb dX7_reach_74 (lv_at hl 0 rfl) ?_
            refine lv_sipush (v := 1296) hx hb dX7_reach_76 (by decide) ?_
            refine lv_imul hx hb dX7_reach_79 ?_
            refine lv_topi (fun n_12 en_12 => ?_)
            have tn_12 : n_12.toInt = l_9.toInt * 1296 := i_mul en_12 (rfl : l_9.toInt = l_9.toInt) (by decide : (1296 : Int32).toInt = 1296) (by omega) (by omega)
            refine lv_iload_n hx hb dX7_reach_80 rfl (lv_at hl 4 rfl) ?_
            refine lv_iadd hx hb dX7_reach_81 ?_
            refine lv_topi (fun n_13 en_13 => ?_)
            have tn_13 : n_13.toInt = (l_9.toInt * 1296) + st0.toInt := i_add en_13 tn_12 (rfl : st0.toInt = st0.toInt) (by omega) (by omega)
            refine al_here hx hb hK hP (i_in tn_13 (by omega) (by omega)) dX7_reach_82 (fun n_14 en_14 => ?_)
            refine lv_lstore (lv' := [(9, .long n_14), (8, .int l_9), (7, .int n_5), (0, .ref (hs 62)), (1, .int pc0), (2, .int st0), (3, .int bh), (4, .int k), (5, .long pr)]) hx hb dX7_reach_83 hl (by decide) rfl (fun ls hl => ?_)
            refine lv_iload_n hx hb dX7_reach_85 rfl (lv_at hl 4 rfl) ?_
            refine lv_if_le (tgt := 103) hx hb dX7_reach_86 (by decide) (fun c_15 => ?_) (fun c_15 => ?_)
            · have gc_15 : pc0.toInt ≤ 0 := i_le (rfl : pc0.toInt = pc0.toInt) (by decide : (0 : Int32).toInt = 0) c_15
              refine lv_iconst (v := 0) hx hb dX7_reach_103 (by decide) ?_
              refine lv_istore (lv' := [(11, .int 0), (9, .long n_14), (8, .int l_9), (7, .int n_5), (0, .ref (hs 62)), (1, .int pc0), (2, .int st0), (3, .int bh), (4, .int k), (5, .long pr)]) hx hb dX7_reach_104 hl (by decide) rfl (fun ls hl => ?_)
              refine lv_iload hx hb dX7_reach_106 (lv_at hl 2 rfl) ?_
              refine lv_bipush (v := 6) hx hb dX7_reach_108 (by decide) ?_
              refine lv_idiv hx hb dX7_reach_110 (by decide) ?_
              refine lv_topi (fun n_16 en_16 => ?_)
              have tn_16 : n_16.toInt = l_9.toInt / 6 := i_div en_16 (rfl : l_9.toInt = l_9.toInt) (by decide : (6 : Int32).toInt = 6) (by omega) (by omega)
              refine lv_iload hx hb dX7_reach_111 (lv_at hl 0 rfl) ?_
              refine lv_if_eq (tgt := 128) hx hb dX7_reach_113 (by decide) (fun c_17 => ?_) (fun c_17 => ?_)
              · skip
                refine lv_iconst (v := 0) hx hb dX7_reach_128 (by decide) ?_
                refine lv_iadd hx hb dX7_reach_129 ?_
                refine lv_topi (fun n_18 en_18 => ?_)
                have tn_18 : n_18.toInt = (l_9.toInt / 6) + 0 := i_add en_18 tn_16 (by decide : (0 : Int32).toInt = 0) (by omega) (by omega)
                refine lv_istore (lv' := [(12, .int n_18), (11, .int 0), (9, .long n_14), (8, .int l_9), (7, .int n_5), (0, .ref (hs 62)), (1, .int pc0), (2, .int st0), (3, .int bh), (4, .int k), (5, .long pr)]) hx hb dX7_reach_130 hl (by decide) rfl (fun ls hl => ?_)
                refine lv_lload hx hb dX7_reach_132 (lv_at hl 2 rfl) ?_
                refine lv_ldc2 hx hb hown (hts _ lwd_137) dX7_reach_134 ?_
                refine W.lcmp hx hb dX7_reach_137 ?_
                refine lv_topi (fun n_19 en_19 => ?_)
                have tn_19 := l_cmp en_19 (rfl : n_14.toInt = n_14.toInt) (by decide : (4611686018427387904 : Int64).toInt = 4611686018427387904)
                refine lv_if_eq (tgt := 215) hx hb dX7_reach_138 (by decide) (fun c_20 => ?_) (fun c_20 => ?_)
                · have gc_20 : n_19.toInt = 0 := i_eq (rfl : n_19.toInt = n_19.toInt) (by decide : (0 : Int32).toInt = 0) c_20
                  obtain ⟨n_21, en_21⟩ : ∃ y : Int32, y = l_9 + 1 := ⟨_, rfl⟩
                  have tn_21 : n_21.toInt = l_9.toInt + 1 := i_add en_21 (rfl : l_9.toInt = l_9.toInt) (by decide : (1 : Int32).toInt = 1) (by omega) (by omega)
                  refine lv_iinc (v := n_21) (lv' := [(8, .int n_21), (12, .int n_18), (11, .int 0), (9, .long n_14), (7, .int n_5), (0, .ref (hs 62)), (1, .int pc0), (2, .int st0), (3, .int bh), (4, .int k), (5, .long pr)]) hx hb dX7_reach_215 hl (k := 3) rfl (by rw [en_21]; rfl) (by decide) rfl (fun ls hl => ?_)
                  refine lv_goto (tgt := 63) hx hb dX7_reach_218 (by decide) ?_
                  exact ih63_10 f_8 n_21 (by omega) (by omega) _ _ _ hP hD hS (lv_sub hl [0, 4, 5, 6, 7, 8, 9, 10] rfl)
                · have gc_20 : n_19.toInt ≠ 0 := i_ne (rfl : n_19.toInt = n_19.toInt) (by decide : (0 : Int32).toInt = 0) c_20
                  refine lv_aload_n hx hb dX7_reach_141 rfl (lv_at hl 5 rfl) ?_
                  refine gt_SP_search_most hx hb hts hown hK hP lwd_1044 dX7_reach_142 ?_
                  refine lv_iconst (v := (-1)) hx hb dX7_reach_145 (by decide) ?_
                  refine lv_icmp_eq (tgt := 158) hx hb dX7_reach_146 (by decide) (fun c_22 => ?_) (fun c_22 => ?_)
                  · have gc_22 : v_search_most.toInt = (-1) := i_eq (rfl : v_search_most.toInt = v_search_most.toInt) (by decide : ((-1) : Int32).toInt = (-1)) c_22
                    exact absurd gc_22 (by omega)
                  · have gc_22 : v_search_most.toInt ≠ (-1) := i_ne (rfl : v_search_most.toInt = v_search_most.toInt) (by decide : ((-1) : Int32).toInt = (-1)) c_22
                    refine lv_iload hx hb dX7_reach_149 (lv_at hl 0 rfl) ?_
                    refine lv_aload_n hx hb dX7_reach_151 rfl (lv_at hl 5 rfl) ?_
                    refine gt_SP_search_most hx hb hts hown hK hP lwd_1044 dX7_reach_152 ?_
                    refine lv_icmp_gt (tgt := 215) hx hb dX7_reach_155 (by decide) (fun c_23 => ?_) (fun c_23 => ?_)
                    · have gc_23 : v_search_most.toInt < (l_9.toInt / 6) + 0 := i_lt (rfl : v_search_most.toInt = v_search_most.toInt) tn_18 c_23
                      obtain ⟨n_24, en_24⟩ : ∃ y : Int32, y = l_9 + 1 := ⟨_, rfl⟩
                      have tn_24 : n_24.toInt = l_9.toInt + 1 := i_add en_24 (rfl : l_9.toInt = l_9.toInt) (by decide : (1 : Int32).toInt = 1) (by omega) (by omega)
                      refine lv_iinc (v := n_24) (lv' := [(8, .int n_24), (12, .int n_18), (11, .int 0), (9, .long n_14), (7, .int n_5), (0, .ref (hs 62)), (1, .int pc0), (2, .int st0), (3, .int bh), (4, .int k), (5, .long pr)]) hx hb dX7_reach_215 hl (k := 3) rfl (by rw [en_24]; rfl) (by decide) rfl (fun ls hl => ?_)
                      refine lv_goto (tgt := 63) hx hb dX7_reach_218 (by decide) ?_
                      exact ih63_10 f_8 n_24 (by omega) (by omega) _ _ _ hP hD hS (lv_sub hl [0, 4, 5, 6, 7, 8, 9, 10] rfl)
                    · have gc_23 : (l_9.toInt / 6) + 0 ≤ v_search_most.toInt := i_nlt (rfl : v_search_most.toInt = v_search_most.toInt) tn_18 c_23
                      refine lv_iload hx hb dX7_reach_158 (lv_at hl 0 rfl) ?_
                      refine lv_bipush (v := 6) hx hb dX7_reach_160 (by decide) ?_
                      refine lv_imul hx hb dX7_reach_162 ?_
                      refine lv_topi (fun n_25 en_25 => ?_)
                      have tn_25 : n_25.toInt = ((l_9.toInt / 6) + 0) * 6 := i_mul en_25 tn_18 (by decide : (6 : Int32).toInt = 6) (by omega) (by omega)
                      refine lv_iload hx hb dX7_reach_163 (lv_at hl 9 rfl) ?_
                      refine lv_iadd hx hb dX7_reach_165 ?_
                      refine lv_topi (fun n_26 en_26 => ?_)
                      have tn_26 : n_26.toInt = (((l_9.toInt / 6) + 0) * 6) + k.toInt := i_add en_26 tn_25 (rfl : k.toInt = k.toInt) (by omega) (by omega)
                      refine lv_sipush (v := 1296) hx hb dX7_reach_166 (by decide) ?_
                      refine lv_imul hx hb dX7_reach_169 ?_
                      refine lv_topi (fun n_27 en_27 => ?_)
                      have tn_27 : n_27.toInt = ((((l_9.toInt / 6) + 0) * 6) + k.toInt) * 1296 := i_mul en_27 tn_26 (by decide : (1296 : Int32).toInt = 1296) (by omega) (by omega)
                      refine lv_iload_n hx hb dX7_reach_170 rfl (lv_at hl 8 rfl) ?_
                      refine lv_iadd hx hb dX7_reach_171 ?_
                      refine lv_topi (fun n_28 en_28 => ?_)
                      have tn_28 : n_28.toInt = (((((l_9.toInt / 6) + 0) * 6) + k.toInt) * 1296) + bh.toInt := i_add en_28 tn_27 (rfl : bh.toInt = bh.toInt) (by omega) (by omega)
                      refine lv_istore (lv' := [(13, .int n_28), (12, .int n_18), (11, .int 0), (9, .long n_14), (8, .int l_9), (7, .int n_5), (0, .ref (hs 62)), (1, .int pc0), (2, .int st0), (3, .int bh), (4, .int k), (5, .long pr)]) hx hb dX7_reach_172 hl (by decide) rfl (fun ls hl => ?_)
                      refine lv_aload_n hx hb dX7_reach_174 rfl (lv_at hl 6 rfl) ?_
                      refine gt_SP_search_there hx hb hts hown hK hP lwd_124 dX7_reach_175 ?_
                      refine lv_iload hx hb dX7_reach_178 (lv_at hl 0 rfl) ?_
                      refine lv_aload_n hx hb dX7_reach_180 rfl (lv_at hl 6 rfl) ?_
                      refine gt_SP_search_there hx hb hts hown hK hP lwd_124 dX7_reach_181 ?_
                      refine lv_iload hx hb dX7_reach_184 (lv_at hl 0 rfl) ?_
                      refine al_there hx hb hK hP (i_in tn_28 (by omega) (by omega)) dX7_reach_186 (fun n_29 en_29 => ?_)
                      refine lv_lload hx hb dX7_reach_187 (lv_at hl 3 rfl) ?_
                      refine lv_lload hx hb dX7_reach_189 (lv_at hl 11 rfl) ?_
                      refine lv_ladd hx hb dX7_reach_191 ?_
                      refine lv_topl (fun n_30 en_30 => ?_)
                      refine lv_iload hx hb dX7_reach_192 (lv_at hl 2 rfl) ?_
                      refine lv_if_eq (tgt := 209) hx hb dX7_reach_194 (by decide) (fun c_31 => ?_) (fun c_31 => ?_)
                      · skip
                        refine lv_lconst (v := 0) hx hb dX7_reach_209 (by decide) ?_
                        refine lv_ladd hx hb dX7_reach_210 ?_
                        refine lv_topl (fun n_32 en_32 => ?_)
                        refine va_mmin_long hx hb (by rw [hml]; exact hl.1.symm) hown (hts _ lwd_1051) (hts _ lwd_1052) (hts _ lwd_529) (hts _ lwd_1053) (Nat.le_of_ble_eq_true rfl) (Nat.le_of_ble_eq_true rfl) (Nat.zero_le _) (Nat.zero_le _) dX7_reach_211 ?_
                        refine lv_topl (fun n_33 en_33 => ?_)
                        refine as_there (x := n_33) hx hb hK hP hD hS (i_in tn_28 (by omega) (by omega)) dX7_reach_214 (fun f_34 ef_34 H locs hP hD hS => ?_)
                        obtain ⟨n_35, en_35⟩ : ∃ y : Int32, y = l_9 + 1 := ⟨_, rfl⟩
                        have tn_35 : n_35.toInt = l_9.toInt + 1 := i_add en_35 (rfl : l_9.toInt = l_9.toInt) (by decide : (1 : Int32).toInt = 1) (by omega) (by omega)
                        refine lv_iinc (v := n_35) (lv' := [(8, .int n_35), (13, .int n_28), (12, .int n_18), (11, .int 0), (9, .long n_14), (7, .int n_5), (0, .ref (hs 62)), (1, .int pc0), (2, .int st0), (3, .int bh), (4, .int k), (5, .long pr)]) hx hb dX7_reach_215 hl (k := 4) rfl (by rw [en_35]; rfl) (by decide) rfl (fun ls hl => ?_)
                        refine lv_goto (tgt := 63) hx hb dX7_reach_218 (by decide) ?_
                        exact ih63_10 f_34 n_35 (by omega) (by omega) _ _ _ hP hD hS (lv_sub hl [0, 5, 6, 7, 8, 9, 10, 11] rfl)
                      · exact absurd c_31 (by decide)
              · exact absurd c_17 (by decide)
            · have gc_15 : 0 < pc0.toInt := i_nle (rfl : pc0.toInt = pc0.toInt) (by decide : (0 : Int32).toInt = 0) c_15
              refine lv_iload hx hb dX7_reach_89 (lv_at hl 1 rfl) ?_
              refine lv_bipush (v := 6) hx hb dX7_reach_91 (by decide) ?_
              refine lv_irem hx hb dX7_reach_93 (by decide) ?_
              refine lv_topi (fun n_36 en_36 => ?_)
              have tn_36 : n_36.toInt = l_9.toInt % 6 := i_rem en_36 (rfl : l_9.toInt = l_9.toInt) (by decide : (6 : Int32).toInt = 6) (by omega) (by omega)
              refine lv_iload hx hb dX7_reach_94 (lv_at hl 7 rfl) ?_
              refine lv_icmp_eq (tgt := 103) hx hb dX7_reach_96 (by decide) (fun c_37 => ?_) (fun c_37 => ?_)
              · have gc_37 : l_9.toInt % 6 = k.toInt := i_eq tn_36 (rfl : k.toInt = k.toInt) c_37
                refine lv_iconst (v := 0) hx hb dX7_reach_103 (by decide) ?_
                refine lv_istore (lv' := [(11, .int 0), (9, .long n_14), (8, .int l_9), (7, .int n_5), (0, .ref (hs 62)), (1, .int pc0), (2, .int st0), (3, .int bh), (4, .int k), (5, .long pr)]) hx hb dX7_reach_104 hl (by decide) rfl (fun ls hl => ?_)
                refine lv_iload hx hb dX7_reach_106 (lv_at hl 2 rfl) ?_
                refine lv_bipush (v := 6) hx hb dX7_reach_108 (by decide) ?_
                refine lv_idiv hx hb dX7_reach_110 (by decide) ?_
                refine lv_topi (fun n_38 en_38 => ?_)
                have tn_38 : n_38.toInt = l_9.toInt / 6 := i_div en_38 (rfl : l_9.toInt = l_9.toInt) (by decide : (6 : Int32).toInt = 6) (by omega) (by omega)
                refine lv_iload hx hb dX7_reach_111 (lv_at hl 0 rfl) ?_
                refine lv_if_eq (tgt := 128) hx hb dX7_reach_113 (by decide) (fun c_39 => ?_) (fun c_39 => ?_)
                · skip
                  refine lv_iconst (v := 0) hx hb dX7_reach_128 (by decide) ?_
                  refine lv_iadd hx hb dX7_reach_129 ?_
                  refine lv_topi (fun n_40 en_40 => ?_)
                  have tn_40 : n_40.toInt = (l_9.toInt / 6) + 0 := i_add en_40 tn_38 (by decide : (0 : Int32).toInt = 0) (by omega) (by omega)
                  refine lv_istore (lv' := [(12, .int n_40), (11, .int 0), (9, .long n_14), (8, .int l_9), (7, .int n_5), (0, .ref (hs 62)), (1, .int pc0), (2, .int st0), (3, .int bh), (4, .int k), (5, .long pr)]) hx hb dX7_reach_130 hl (by decide) rfl (fun ls hl => ?_)
                  refine lv_lload hx hb dX7_reach_132 (lv_at hl 2 rfl) ?_
                  refine lv_ldc2 hx hb hown (hts _ lwd_137) dX7_reach_134 ?_
                  refine W.lcmp hx hb dX7_reach_137 ?_
                  refine lv_topi (fun n_41 en_41 => ?_)
                  have tn_41 := l_cmp en_41 (rfl : n_14.toInt = n_14.toInt) (by decide : (4611686018427387904 : Int64).toInt = 4611686018427387904)
                  refine lv_if_eq (tgt := 215) hx hb dX7_reach_138 (by decide) (fun c_42 => ?_) (fun c_42 => ?_)
                  · have gc_42 : n_41.toInt = 0 := i_eq (rfl : n_41.toInt = n_41.toInt) (by decide : (0 : Int32).toInt = 0) c_42
                    obtain ⟨n_43, en_43⟩ : ∃ y : Int32, y = l_9 + 1 := ⟨_, rfl⟩
                    have tn_43 : n_43.toInt = l_9.toInt + 1 := i_add en_43 (rfl : l_9.toInt = l_9.toInt) (by decide : (1 : Int32).toInt = 1) (by omega) (by omega)
                    refine lv_iinc (v := n_43) (lv' := [(8, .int n_43), (12, .int n_40), (11, .int 0), (9, .long n_14), (7, .int n_5), (0, .ref (hs 62)), (1, .int pc0), (2, .int st0), (3, .int bh), (4, .int k), (5, .long pr)]) hx hb dX7_reach_215 hl (k := 3) rfl (by rw [en_43]; rfl) (by decide) rfl (fun ls hl => ?_)
                    refine lv_goto (tgt := 63) hx hb dX7_reach_218 (by decide) ?_
                    exact ih63_10 f_8 n_43 (by omega) (by omega) _ _ _ hP hD hS (lv_sub hl [0, 4, 5, 6, 7, 8, 9, 10] rfl)
                  · have gc_42 : n_41.toInt ≠ 0 := i_ne (rfl : n_41.toInt = n_41.toInt) (by decide : (0 : Int32).toInt = 0) c_42
                    refine lv_aload_n hx hb dX7_reach_141 rfl (lv_at hl 5 rfl) ?_
                    refine gt_SP_search_most hx hb hts hown hK hP lwd_1044 dX7_reach_142 ?_
                    refine lv_iconst (v := (-1)) hx hb dX7_reach_145 (by decide) ?_
                    refine lv_icmp_eq (tgt := 158) hx hb dX7_reach_146 (by decide) (fun c_44 => ?_) (fun c_44 => ?_)
                    · have gc_44 : v_search_most.toInt = (-1) := i_eq (rfl : v_search_most.toInt = v_search_most.toInt) (by decide : ((-1) : Int32).toInt = (-1)) c_44
                      exact absurd gc_44 (by omega)
                    · have gc_44 : v_search_most.toInt ≠ (-1) := i_ne (rfl : v_search_most.toInt = v_search_most.toInt) (by decide : ((-1) : Int32).toInt = (-1)) c_44
                      refine lv_iload hx hb dX7_reach_149 (lv_at hl 0 rfl) ?_
                      refine lv_aload_n hx hb dX7_reach_151 rfl (lv_at hl 5 rfl) ?_
                      refine gt_SP_search_most hx hb hts hown hK hP lwd_1044 dX7_reach_152 ?_
                      refine lv_icmp_gt (tgt := 215) hx hb dX7_reach_155 (by decide) (fun c_45 => ?_) (fun c_45 => ?_)
                      · have gc_45 : v_search_most.toInt < (l_9.toInt / 6) + 0 := i_lt (rfl : v_search_most.toInt = v_search_most.toInt) tn_40 c_45
                        obtain ⟨n_46, en_46⟩ : ∃ y : Int32, y = l_9 + 1 := ⟨_, rfl⟩
                        have tn_46 : n_46.toInt = l_9.toInt + 1 := i_add en_46 (rfl : l_9.toInt = l_9.toInt) (by decide : (1 : Int32).toInt = 1) (by omega) (by omega)
                        refine lv_iinc (v := n_46) (lv' := [(8, .int n_46), (12, .int n_40), (11, .int 0), (9, .long n_14), (7, .int n_5), (0, .ref (hs 62)), (1, .int pc0), (2, .int st0), (3, .int bh), (4, .int k), (5, .long pr)]) hx hb dX7_reach_215 hl (k := 3) rfl (by rw [en_46]; rfl) (by decide) rfl (fun ls hl => ?_)
                        refine lv_goto (tgt := 63) hx hb dX7_reach_218 (by decide) ?_
                        exact ih63_10 f_8 n_46 (by omega) (by omega) _ _ _ hP hD hS (lv_sub hl [0, 4, 5, 6, 7, 8, 9, 10] rfl)
                      · have gc_45 : (l_9.toInt / 6) + 0 ≤ v_search_most.toInt := i_nlt (rfl : v_search_most.toInt = v_search_most.toInt) tn_40 c_45
                        refine lv_iload hx hb dX7_reach_158 (lv_at hl 0 rfl) ?_
                        refine lv_bipush (v := 6) hx hb dX7_reach_160 (by decide) ?_
                        refine lv_imul hx hb dX7_reach_162 ?_
                        refine lv_topi (fun n_47 en_47 => ?_)
                        have tn_47 : n_47.toInt = ((l_9.toInt / 6) + 0) * 6 := i_mul en_47 tn_40 (by decide : (6 : Int32).toInt = 6) (by omega) (by omega)
                        refine lv_iload hx hb dX7_reach_163 (lv_at hl 9 rfl) ?_
                        refine lv_iadd hx hb dX7_reach_165 ?_
                        refine lv_topi (fun n_48 en_48 => ?_)
                        have tn_48 : n_48.toInt = (((l_9.toInt / 6) + 0) * 6) + k.toInt := i_add en_48 tn_47 (rfl : k.toInt = k.toInt) (by omega) (by omega)
                        refine lv_sipush (v := 1296) hx hb dX7_reach_166 (by decide) ?_
                        refine lv_imul hx hb dX7_reach_169 ?_
                        refine lv_topi (fun n_49 en_49 => ?_)
                        have tn_49 : n_49.toInt = ((((l_9.toInt / 6) + 0) * 6) + k.toInt) * 1296 := i_mul en_49 tn_48 (by decide : (1296 : Int32).toInt = 1296) (by omega) (by omega)
                        refine lv_iload_n hx hb dX7_reach_170 rfl (lv_at hl 8 rfl) ?_
                        refine lv_iadd hx hb dX7_reach_171 ?_
                        refine lv_topi (fun n_50 en_50 => ?_)
                        have tn_50 : n_50.toInt = (((((l_9.toInt / 6) + 0) * 6) + k.toInt) * 1296) + bh.toInt := i_add en_50 tn_49 (rfl : bh.toInt = bh.toInt) (by omega) (by omega)
                        refine lv_istore (lv' := [(13, .int n_50), (12, .int n_40), (11, .int 0), (9, .long n_14), (8, .int l_9), (7, .int n_5), (0, .ref (hs 62)), (1, .int pc0), (2, .int st0), (3, .int bh), (4, .int k), (5, .long pr)]) hx hb dX7_reach_172 hl (by decide) rfl (fun ls hl => ?_)
                        refine lv_aload_n hx hb dX7_reach_174 rfl (lv_at hl 6 rfl) ?_
                        refine gt_SP_search_there hx hb hts hown hK hP lwd_124 dX7_reach_175 ?_
                        refine lv_iload hx hb dX7_reach_178 (lv_at hl 0 rfl) ?_
                        refine lv_aload_n hx hb dX7_reach_180 rfl (lv_at hl 6 rfl) ?_
                        refine gt_SP_search_there hx hb hts hown hK hP lwd_124 dX7_reach_181 ?_
                        refine lv_iload hx hb dX7_reach_184 (lv_at hl 0 rfl) ?_
                        refine al_there hx hb hK hP (i_in tn_50 (by omega) (by omega)) dX7_reach_186 (fun n_51 en_51 => ?_)
                        refine lv_lload hx hb dX7_reach_187 (lv_at hl 3 rfl) ?_
                        refine lv_lload hx hb dX7_reach_189 (lv_at hl 11 rfl) ?_
                        refine lv_ladd hx hb dX7_reach_191 ?_
                        refine lv_topl (fun n_52 en_52 => ?_)
                        refine lv_iload hx hb dX7_reach_192 (lv_at hl 2 rfl) ?_
                        refine lv_if_eq (tgt := 209) hx hb dX7_reach_194 (by decide) (fun c_53 => ?_) (fun c_53 => ?_)
                        · skip
                          refine lv_lconst (v := 0) hx hb dX7_reach_209 (by decide) ?_
                          refine lv_ladd hx hb dX7_reach_210 ?_
                          refine lv_topl (fun n_54 en_54 => ?_)
                          refine va_mmin_long hx hb (by rw [hml]; exact hl.1.symm) hown (hts _ lwd_1051) (hts _ lwd_1052) (hts _ lwd_529) (hts _ lwd_1053) (Nat.le_of_ble_eq_true rfl) (Nat.le_of_ble_eq_true rfl) (Nat.zero_le _) (Nat.zero_le _) dX7_reach_211 ?_
                          refine lv_topl (fun n_55 en_55 => ?_)
                          refine as_there (x := n_55) hx hb hK hP hD hS (i_in tn_50 (by omega) (by omega)) dX7_reach_214 (fun f_56 ef_56 H locs hP hD hS => ?_)
                          obtain ⟨n_57, en_57⟩ : ∃ y : Int32, y = l_9 + 1 := ⟨_, rfl⟩
                          have tn_57 : n_57.toInt = l_9.toInt + 1 := i_add en_57 (rfl : l_9.toInt = l_9.toInt) (by decide : (1 : Int32).toInt = 1) (by omega) (by omega)
                          refine lv_iinc (v := n_57) (lv' := [(8, .int n_57), (13, .int n_50), (12, .int n_40), (11, .int 0), (9, .long n_14), (7, .int n_5), (0, .ref (hs 62)), (1, .int pc0), (2, .int st0), (3, .int bh), (4, .int k), (5, .long pr)]) hx hb dX7_reach_215 hl (k := 4) rfl (by rw [en_57]; rfl) (by decide) rfl (fun ls hl => ?_)
                          refine lv_goto (tgt := 63) hx hb dX7_reach_218 (by decide) ?_
                          exact ih63_10 f_56 n_57 (by omega) (by omega) _ _ _ hP hD hS (lv_sub hl [0, 5, 6, 7, 8, 9, 10, 11] rfl)
                        · exact absurd c_53 (by decide)
                · exact absurd c_39 (by decide)
              · have gc_37 : l_9.toInt % 6 ≠ k.toInt := i_ne tn_36 (rfl : k.toInt = k.toInt) c_37
                refine lv_iconst (v := 1) hx hb dX7_reach_99 (by decide) ?_
                refine lv_goto (tgt := 104) hx hb dX7_reach_100 (by decide) ?_
                refine lv_istore (lv' := [(11, .int 1), (9, .long n_14), (8, .int l_9), (7, .int n_5), (0, .ref (hs 62)), (1, .int pc0), (2, .int st0), (3, .int bh), (4, .int k), (5, .long pr)]) hx hb dX7_reach_104 hl (by decide) rfl (fun ls hl => ?_)
                refine lv_iload hx hb dX7_reach_106 (lv_at hl 2 rfl) ?_
                refine lv_bipush (v := 6) hx hb dX7_reach_108 (by decide) ?_
                refine lv_idiv hx hb dX7_reach_110 (by decide) ?_
                refine lv_topi (fun n_58 en_58 => ?_)
                have tn_58 : n_58.toInt = l_9.toInt / 6 := i_div en_58 (rfl : l_9.toInt = l_9.toInt) (by decide : (6 : Int32).toInt = 6) (by omega) (by omega)
                refine lv_iload hx hb dX7_reach_111 (lv_at hl 0 rfl) ?_
                refine lv_if_eq (tgt := 128) hx hb dX7_reach_113 (by decide) (fun c_59 => ?_) (fun c_59 => ?_)
                · exact absurd c_59 (by decide)
                · skip
                  refine lv_aload_n hx hb dX7_reach_116 rfl (lv_at hl 4 rfl) ?_
                  refine gt_SP_search_most hx hb hts hown hK hP lwd_1044 dX7_reach_117 ?_
                  refine lv_iconst (v := (-1)) hx hb dX7_reach_120 (by decide) ?_
                  refine lv_icmp_eq (tgt := 128) hx hb dX7_reach_121 (by decide) (fun c_60 => ?_) (fun c_60 => ?_)
                  · have gc_60 : v_search_most.toInt = (-1) := i_eq (rfl : v_search_most.toInt = v_search_most.toInt) (by decide : ((-1) : Int32).toInt = (-1)) c_60
                    exact absurd gc_60 (by omega)
                  · have gc_60 : v_search_most.toInt ≠ (-1) := i_ne (rfl : v_search_most.toInt = v_search_most.toInt) (by decide : ((-1) : Int32).toInt = (-1)) c_60
                    refine lv_iconst (v := 1) hx hb dX7_reach_124 (by decide) ?_
                    refine lv_goto (tgt := 129) hx hb dX7_reach_125 (by decide) ?_
                    refine lv_iadd hx hb dX7_reach_129 ?_
                    refine lv_topi (fun n_61 en_61 => ?_)
                    have tn_61 : n_61.toInt = (l_9.toInt / 6) + 1 := i_add en_61 tn_58 (by decide : (1 : Int32).toInt = 1) (by omega) (by omega)
                    refine lv_istore (lv' := [(12, .int n_61), (11, .int 1), (9, .long n_14), (8, .int l_9), (7, .int n_5), (0, .ref (hs 62)), (1, .int pc0), (2, .int st0), (3, .int bh), (4, .int k), (5, .long pr)]) hx hb dX7_reach_130 hl (by decide) rfl (fun ls hl => ?_)
                    refine lv_lload hx hb dX7_reach_132 (lv_at hl 2 rfl) ?_
                    refine lv_ldc2 hx hb hown (hts _ lwd_137) dX7_reach_134 ?_
                    refine W.lcmp hx hb dX7_reach_137 ?_
                    refine lv_topi (fun n_62 en_62 => ?_)
                    have tn_62 := l_cmp en_62 (rfl : n_14.toInt = n_14.toInt) (by decide : (4611686018427387904 : Int64).toInt = 4611686018427387904)
                    refine lv_if_eq (tgt := 215) hx hb dX7_reach_138 (by decide) (fun c_63 => ?_) (fun c_63 => ?_)
                    · have gc_63 : n_62.toInt = 0 := i_eq (rfl : n_62.toInt = n_62.toInt) (by decide : (0 : Int32).toInt = 0) c_63
                      obtain ⟨n_64, en_64⟩ : ∃ y : Int32, y = l_9 + 1 := ⟨_, rfl⟩
                      have tn_64 : n_64.toInt = l_9.toInt + 1 := i_add en_64 (rfl : l_9.toInt = l_9.toInt) (by decide : (1 : Int32).toInt = 1) (by omega) (by omega)
                      refine lv_iinc (v := n_64) (lv' := [(8, .int n_64), (12, .int n_61), (11, .int 1), (9, .long n_14), (7, .int n_5), (0, .ref (hs 62)), (1, .int pc0), (2, .int st0), (3, .int bh), (4, .int k), (5, .long pr)]) hx hb dX7_reach_215 hl (k := 3) rfl (by rw [en_64]; rfl) (by decide) rfl (fun ls hl => ?_)
                      refine lv_goto (tgt := 63) hx hb dX7_reach_218 (by decide) ?_
                      exact ih63_10 f_8 n_64 (by omega) (by omega) _ _ _ hP hD hS (lv_sub hl [0, 4, 5, 6, 7, 8, 9, 10] rfl)
                    · have gc_63 : n_62.toInt ≠ 0 := i_ne (rfl : n_62.toInt = n_62.toInt) (by decide : (0 : Int32).toInt = 0) c_63
                      refine lv_aload_n hx hb dX7_reach_141 rfl (lv_at hl 5 rfl) ?_
                      refine gt_SP_search_most hx hb hts hown hK hP lwd_1044 dX7_reach_142 ?_
                      refine lv_iconst (v := (-1)) hx hb dX7_reach_145 (by decide) ?_
                      refine lv_icmp_eq (tgt := 158) hx hb dX7_reach_146 (by decide) (fun c_65 => ?_) (fun c_65 => ?_)
                      · have gc_65 : v_search_most.toInt = (-1) := i_eq (rfl : v_search_most.toInt = v_search_most.toInt) (by decide : ((-1) : Int32).toInt = (-1)) c_65
                        exact absurd gc_65 (by omega)
                      · have gc_65 : v_search_most.toInt ≠ (-1) := i_ne (rfl : v_search_most.toInt = v_search_most.toInt) (by decide : ((-1) : Int32).toInt = (-1)) c_65
                        refine lv_iload hx hb dX7_reach_149 (lv_at hl 0 rfl) ?_
                        refine lv_aload_n hx hb dX7_reach_151 rfl (lv_at hl 5 rfl) ?_
                        refine gt_SP_search_most hx hb hts hown hK hP lwd_1044 dX7_reach_152 ?_
                        refine lv_icmp_gt (tgt := 215) hx hb dX7_reach_155 (by decide) (fun c_66 => ?_) (fun c_66 => ?_)
                        · have gc_66 : v_search_most.toInt < (l_9.toInt / 6) + 1 := i_lt (rfl : v_search_most.toInt = v_search_most.toInt) tn_61 c_66
                          obtain ⟨n_67, en_67⟩ : ∃ y : Int32, y = l_9 + 1 := ⟨_, rfl⟩
                          have tn_67 : n_67.toInt = l_9.toInt + 1 := i_add en_67 (rfl : l_9.toInt = l_9.toInt) (by decide : (1 : Int32).toInt = 1) (by omega) (by omega)
                          refine lv_iinc (v := n_67) (lv' := [(8, .int n_67), (12, .int n_61), (11, .int 1), (9, .long n_14), (7, .int n_5), (0, .ref (hs 62)), (1, .int pc0), (2, .int st0), (3, .int bh), (4, .int k), (5, .long pr)]) hx hb dX7_reach_215 hl (k := 3) rfl (by rw [en_67]; rfl) (by decide) rfl (fun ls hl => ?_)
                          refine lv_goto (tgt := 63) hx hb dX7_reach_218 (by decide) ?_
                          exact ih63_10 f_8 n_67 (by omega) (by omega) _ _ _ hP hD hS (lv_sub hl [0, 4, 5, 6, 7, 8, 9, 10] rfl)
                        · have gc_66 : (l_9.toInt / 6) + 1 ≤ v_search_most.toInt := i_nlt (rfl : v_search_most.toInt = v_search_most.toInt) tn_61 c_66
                          refine lv_iload hx hb dX7_reach_158 (lv_at hl 0 rfl) ?_
                          refine lv_bipush (v := 6) hx hb dX7_reach_160 (by decide) ?_
                          refine lv_imul hx hb dX7_reach_162 ?_
                          refine lv_topi (fun n_68 en_68 => ?_)
                          have tn_68 : n_68.toInt = ((l_9.toInt / 6) + 1) * 6 := i_mul en_68 tn_61 (by decide : (6 : Int32).toInt = 6) (by omega) (by omega)
                          refine lv_iload hx hb dX7_reach_163 (lv_at hl 9 rfl) ?_
                          refine lv_iadd hx hb dX7_reach_165 ?_
                          refine lv_topi (fun n_69 en_69 => ?_)
                          have tn_69 : n_69.toInt = (((l_9.toInt / 6) + 1) * 6) + k.toInt := i_add en_69 tn_68 (rfl : k.toInt = k.toInt) (by omega) (by omega)
                          refine lv_sipush (v := 1296) hx hb dX7_reach_166 (by decide) ?_
                          refine lv_imul hx hb dX7_reach_169 ?_
                          refine lv_topi (fun n_70 en_70 => ?_)
                          have tn_70 : n_70.toInt = ((((l_9.toInt / 6) + 1) * 6) + k.toInt) * 1296 := i_mul en_70 tn_69 (by decide : (1296 : Int32).toInt = 1296) (by omega) (by omega)
                          refine lv_iload_n hx hb dX7_reach_170 rfl (lv_at hl 8 rfl) ?_
                          refine lv_iadd hx hb dX7_reach_171 ?_
                          refine lv_topi (fun n_71 en_71 => ?_)
                          have tn_71 : n_71.toInt = (((((l_9.toInt / 6) + 1) * 6) + k.toInt) * 1296) + bh.toInt := i_add en_71 tn_70 (rfl : bh.toInt = bh.toInt) (by omega) (by omega)
                          refine lv_istore (lv' := [(13, .int n_71), (12, .int n_61), (11, .int 1), (9, .long n_14), (8, .int l_9), (7, .int n_5), (0, .ref (hs 62)), (1, .int pc0), (2, .int st0), (3, .int bh), (4, .int k), (5, .long pr)]) hx hb dX7_reach_172 hl (by decide) rfl (fun ls hl => ?_)
                          refine lv_aload_n hx hb dX7_reach_174 rfl (lv_at hl 6 rfl) ?_
                          refine gt_SP_search_there hx hb hts hown hK hP lwd_124 dX7_reach_175 ?_
                          refine lv_iload hx hb dX7_reach_178 (lv_at hl 0 rfl) ?_
                          refine lv_aload_n hx hb dX7_reach_180 rfl (lv_at hl 6 rfl) ?_
                          refine gt_SP_search_there hx hb hts hown hK hP lwd_124 dX7_reach_181 ?_
                          refine lv_iload hx hb dX7_reach_184 (lv_at hl 0 rfl) ?_
                          refine al_there hx hb hK hP (i_in tn_71 (by omega) (by omega)) dX7_reach_186 (fun n_72 en_72 => ?_)
                          refine lv_lload hx hb dX7_reach_187 (lv_at hl 3 rfl) ?_
                          refine lv_lload hx hb dX7_reach_189 (lv_at hl 11 rfl) ?_
                          refine lv_ladd hx hb dX7_reach_191 ?_
                          refine lv_topl (fun n_73 en_73 => ?_)
                          refine lv_iload hx hb dX7_reach_192 (lv_at hl 2 rfl) ?_
                          refine lv_if_eq (tgt := 209) hx hb dX7_reach_194 (by decide) (fun c_74 => ?_) (fun c_74 => ?_)
                          · exact absurd c_74 (by decide)
                          · skip
                            refine lv_aload_n hx hb dX7_reach_197 rfl (lv_at hl 6 rfl) ?_
                            refine gt_SP_search_cost hx hb hts hown hK hP lwd_1043 dX7_reach_198 ?_
                            refine lv_i2l (v := v_search_cost.toInt64) hx hb dX7_reach_201 rfl ?_
                            have hl_75 : v_search_cost.toInt64.toInt = v_search_cost.toInt := i_l (rfl : v_search_cost.toInt = v_search_cost.toInt)
                            refine lv_ldc2 hx hb hown (hts _ lwd_1046) dX7_reach_202 ?_
                            refine lv_lmul hx hb dX7_reach_205 ?_
                            refine lv_topl (fun n_76 en_76 => ?_)
                            refine lv_goto (tgt := 210) hx hb dX7_reach_206 (by decide) ?_
                            refine lv_ladd hx hb dX7_reach_210 ?_
                            refine lv_topl (fun n_77 en_77 => ?_)
                            refine va_mmin_long hx hb (by rw [hml]; exact hl.1.symm) hown (hts _ lwd_1051) (hts _ lwd_1052) (hts _ lwd_529) (hts _ lwd_1053) (Nat.le_of_ble_eq_true rfl) (Nat.le_of_ble_eq_true rfl) (Nat.zero_le _) (Nat.zero_le _) dX7_reach_211 ?_
                            refine lv_topl (fun n_78 en_78 => ?_)
                            refine as_there (x := n_78) hx hb hK hP hD hS (i_in tn_71 (by omega) (by omega)) dX7_reach_214 (fun f_79 ef_79 H locs hP hD hS => ?_)
                            obtain ⟨n_80, en_80⟩ : ∃ y : Int32, y = l_9 + 1 := ⟨_, rfl⟩
                            have tn_80 : n_80.toInt = l_9.toInt + 1 := i_add en_80 (rfl : l_9.toInt = l_9.toInt) (by decide : (1 : Int32).toInt = 1) (by omega) (by omega)
                            refine lv_iinc (v := n_80) (lv' := [(8, .int n_80), (13, .int n_71), (12, .int n_61), (11, .int 1), (9, .long n_14), (7, .int n_5), (0, .ref (hs 62)), (1, .int pc0), (2, .int st0), (3, .int bh), (4, .int k), (5, .long pr)]) hx hb dX7_reach_215 hl (k := 4) rfl (by rw [en_80]; rfl) (by decide) rfl (fun ls hl => ?_)
                            refine lv_goto (tgt := 63) hx hb dX7_reach_218 (by decide) ?_
                            exact ih63_10 f_79 n_80 (by omega) (by omega) _ _ _ hP hD hS (lv_sub hl [0, 5, 6, 7, 8, 9, 10, 11] rfl)
      have k_81 : (0 : Int32).toInt = 0 := by decide
      exact L63_10 8589934592 f_there 0 (by omega) (by omega) _ _ _ hP hD hS (lv_sub hl [0, 1, 2, 3, 4, 5, 6, 7] rfl)
    · have gc_3 : v_search_most.toInt = (-1) := i_eq (rfl : v_search_most.toInt = v_search_most.toInt) (by decide : ((-1) : Int32).toInt = (-1)) c_3
      refine lv_bipush (v := 6) hx hb dX7_reach_44 (by decide) ?_
      refine lv_goto (tgt := 58) hx hb dX7_reach_46 (by decide) ?_
      refine lv_istore (lv' := [(7, .int 6), (0, .ref (hs 62)), (1, .int pc0), (2, .int st0), (3, .int bh), (4, .int k), (5, .long pr)]) hx hb dX7_reach_58 hl (by decide) rfl (fun ls hl => ?_)
      refine lv_iconst (v := 0) hx hb dX7_reach_60 (by decide) ?_
      refine lv_istore (lv' := [(8, .int 0), (7, .int 6), (0, .ref (hs 62)), (1, .int pc0), (2, .int st0), (3, .int bh), (4, .int k), (5, .long pr)]) hx hb dX7_reach_61 hl (by decide) rfl (fun ls hl => ?_)
      have L63_86 : ∀ (n : Nat) (f_84 : Nat → Int64) (l_85 : Int32), (0 ≤ l_85.toInt ∧ l_85.toInt ≤ 6) → 7 - l_85.toInt < n → ∀ (H : Heap) (locs : List Loc) (ls : Array Slot), va_P D vwCl (wSP cy hs hH hT sH sT v_tape_size v_band_walkers v_band_loads v_band_pieces v_rules_clauses v_reader_end v_reader_at v_reader_length v_reader_letter v_reader_fault v_draft_clauses v_paces_version v_packing_quicker v_packing_loads v_packing_looseCount v_marches_told v_marches_changeMinutes v_marches_marching v_marches_gone v_search_known v_search_countHere v_search_countThere v_search_cost v_search_most v_search_found f_bytes f_knee f_weight f_limps f_bheft f_owner f_food f_miles f_slope f_rsteps f_rkind f_ryields f_rholds f_rletters f_rstack f_dsteps f_dkind f_dyields f_dholds f_dletters f_dstack f_caps f_versions f_sharing f_pheft f_prow f_holder f_comes f_pcaps f_room f_loose f_reached f_mrow f_minutesOn f_mtired f_here f_84 f_statesHere f_statesThere f_listed f_stired f_burdens f_pacesOn f_restedOn f_behindOn f_behindFor f_first f_second f_plans f_tiredOn) H → va_D A (wSP cy hs hH hT sH sT v_tape_size v_band_walkers v_band_loads v_band_pieces v_rules_clauses v_reader_end v_reader_at v_reader_length v_reader_letter v_reader_fault v_draft_clauses v_paces_version v_packing_quicker v_packing_loads v_packing_looseCount v_marches_told v_marches_changeMinutes v_marches_marching v_marches_gone v_search_known v_search_countHere v_search_countThere v_search_cost v_search_most v_search_found f_bytes f_knee f_weight f_limps f_bheft f_owner f_food f_miles f_slope f_rsteps f_rkind f_ryields f_rholds f_rletters f_rstack f_dsteps f_dkind f_dyields f_dholds f_dletters f_dstack f_caps f_versions f_sharing f_pheft f_prow f_holder f_comes f_pcaps f_room f_loose f_reached f_mrow f_minutesOn f_mtired f_here f_84 f_statesHere f_statesThere f_listed f_stired f_burdens f_pacesOn f_restedOn f_behindOn f_behindFor f_first f_second f_plans f_tiredOn) → va_S A s.heap H locs → lv_has ls 14 [(8, .int l_85), (7, .int 6), (0, .ref (hs 62)), (1, .int pc0), (2, .int st0), (3, .int bh), (4, .int k), (5, .long pr)] → W p l e (gRm 1) s m args below meth c H locs 0 0 Q (F0 m 63 ls []) := by
        intro n
        induction n with
        | zero => intro f_84 l_85 hL63_86_0 hm; exact absurd hm (by omega)
        | succ n ih63_86 =>
          intro f_84 l_85 hL63_86_0 hmL63_86 H locs ls hP hD hS hl
          refine lv_iload hx hb dX7_reach_63 (lv_at hl 0 rfl) ?_
          refine lv_iload hx hb dX7_reach_65 (lv_at hl 1 rfl) ?_
          refine lv_icmp_ge (tgt := 221) hx hb dX7_reach_67 (by decide) (fun c_87 => ?_) (fun c_87 => ?_)
          · have gc_87 : 6 ≤ l_85.toInt := i_le (by decide : (6 : Int32).toInt = 6) (rfl : l_85.toInt = l_85.toInt) c_87
            exact hrt v_search_countThere f_84 f_statesThere f_listed ⟨hLI, (by omega), hr_statesThere, hr_listed⟩ hP hD hS dX7_reach_221
          · have gc_87 : l_85.toInt < 6 := i_nle (by decide : (6 : Int32).toInt = 6) (rfl : l_85.toInt = l_85.toInt) c_87
            refine lv_aload_n hx hb dX7_reach_70 rfl (lv_at hl 2 rfl) ?_
            refine gt_SP_search_here hx hb hts hown hK hP lwd_123 dX7_reach_71 ?_
            refine lv_iload hx hb dX7_reach_74 (lv_at hl 0 rfl) ?_
            refine lv_sipush (v := 1296) hx hb dX7_reach_76 (by decide) ?_
            refine lv_imul hx hb dX7_reach_79 ?_
            refine lv_topi (fun n_88 en_88 => ?_)
            have tn_88 : n_88.toInt = l_85.toInt * 1296 := i_mul en_88 (rfl : l_85.toInt = l_85.toInt) (by decide : (1296 : Int32).toInt = 1296) (by omega) (by omega)
            refine lv_iload_n hx hb dX7_reach_80 rfl (lv_at hl 4 rfl) ?_
            refine lv_iadd hx hb dX7_reach_81 ?_
            refine lv_topi (fun n_89 en_89 => ?_)
            have tn_89 : n_89.toInt = (l_85.toInt * 1296) + st0.toInt := i_add en_89 tn_88 (rfl : st0.toInt = st0.toInt) (by omega) (by omega)
            refine al_here hx hb hK hP (i_in tn_89 (by omega) (by omega)) dX7_reach_82 (fun n_90 en_90 => ?_)
            refine lv_lstore (lv' := [(9, .long n_90), (8, .int l_85), (7, .int 6), (0, .ref (hs 62)), (1, .int pc0), (2, .int st0), (3, .int bh), (4, .int k), (5, .long pr)]) hx hb dX7_reach_83 hl (by decide) rfl (fun ls hl => ?_)
            refine lv_iload_n hx hb dX7_reach_85 rfl (lv_at hl 4 rfl) ?_
            refine lv_if_le (tgt := 103) hx hb dX7_reach_86 (by decide) (fun c_91 => ?_) (fun c_91 => ?_)
            · have gc_91 : pc0.toInt ≤ 0 := i_le (rfl : pc0.toInt = pc0.toInt) (by decide : (0 : Int32).toInt = 0) c_91
              refine lv_iconst (v := 0) hx hb dX7_reach_103 (by decide) ?_
              refine lv_istore (lv' := [(11, .int 0), (9, .long n_90), (8, .int l_85), (7, .int 6), (0, .ref (hs 62)), (1, .int pc0), (2, .int st0), (3, .int bh), (4, .int k), (5, .long pr)]) hx hb dX7_reach_104 hl (by decide) rfl (fun ls hl => ?_)
              refine lv_iload hx hb dX7_reach_106 (lv_at hl 2 rfl) ?_
              refine lv_bipush (v := 6) hx hb dX7_reach_108 (by decide) ?_
              refine lv_idiv hx hb dX7_reach_110 (by decide) ?_
              refine lv_topi (fun n_92 en_92 => ?_)
              have tn_92 : n_92.toInt = l_85.toInt / 6 := i_div en_92 (rfl : l_85.toInt = l_85.toInt) (by decide : (6 : Int32).toInt = 6) (by omega) (by omega)
              refine lv_iload hx hb dX7_reach_111 (lv_at hl 0 rfl) ?_
              refine lv_if_eq (tgt := 128) hx hb dX7_reach_113 (by decide) (fun c_93 => ?_) (fun c_93 => ?_)
              · skip
                refine lv_iconst (v := 0) hx hb dX7_reach_128 (by decide) ?_
                refine lv_iadd hx hb dX7_reach_129 ?_
                refine lv_topi (fun n_94 en_94 => ?_)
                have tn_94 : n_94.toInt = (l_85.toInt / 6) + 0 := i_add en_94 tn_92 (by decide : (0 : Int32).toInt = 0) (by omega) (by omega)
                refine lv_istore (lv' := [(12, .int n_94), (11, .int 0), (9, .long n_90), (8, .int l_85), (7, .int 6), (0, .ref (hs 62)), (1, .int pc0), (2, .int st0), (3, .int bh), (4, .int k), (5, .long pr)]) hx hb dX7_reach_130 hl (by decide) rfl (fun ls hl => ?_)
                refine lv_lload hx hb dX7_reach_132 (lv_at hl 2 rfl) ?_
                refine lv_ldc2 hx hb hown (hts _ lwd_137) dX7_reach_134 ?_
                refine W.lcmp hx hb dX7_reach_137 ?_
                refine lv_topi (fun n_95 en_95 => ?_)
                have tn_95 := l_cmp en_95 (rfl : n_90.toInt = n_90.toInt) (by decide : (4611686018427387904 : Int64).toInt = 4611686018427387904)
                refine lv_if_eq (tgt := 215) hx hb dX7_reach_138 (by decide) (fun c_96 => ?_) (fun c_96 => ?_)
                · have gc_96 : n_95.toInt = 0 := i_eq (rfl : n_95.toInt = n_95.toInt) (by decide : (0 : Int32).toInt = 0) c_96
                  obtain ⟨n_97, en_97⟩ : ∃ y : Int32, y = l_85 + 1 := ⟨_, rfl⟩
                  have tn_97 : n_97.toInt = l_85.toInt + 1 := i_add en_97 (rfl : l_85.toInt = l_85.toInt) (by decide : (1 : Int32).toInt = 1) (by omega) (by omega)
                  refine lv_iinc (v := n_97) (lv' := [(8, .int n_97), (12, .int n_94), (11, .int 0), (9, .long n_90), (7, .int 6), (0, .ref (hs 62)), (1, .int pc0), (2, .int st0), (3, .int bh), (4, .int k), (5, .long pr)]) hx hb dX7_reach_215 hl (k := 3) rfl (by rw [en_97]; rfl) (by decide) rfl (fun ls hl => ?_)
                  refine lv_goto (tgt := 63) hx hb dX7_reach_218 (by decide) ?_
                  exact ih63_86 f_84 n_97 (by omega) (by omega) _ _ _ hP hD hS (lv_sub hl [0, 4, 5, 6, 7, 8, 9, 10] rfl)
                · have gc_96 : n_95.toInt ≠ 0 := i_ne (rfl : n_95.toInt = n_95.toInt) (by decide : (0 : Int32).toInt = 0) c_96
                  refine lv_aload_n hx hb dX7_reach_141 rfl (lv_at hl 5 rfl) ?_
                  refine gt_SP_search_most hx hb hts hown hK hP lwd_1044 dX7_reach_142 ?_
                  refine lv_iconst (v := (-1)) hx hb dX7_reach_145 (by decide) ?_
                  refine lv_icmp_eq (tgt := 158) hx hb dX7_reach_146 (by decide) (fun c_98 => ?_) (fun c_98 => ?_)
                  · have gc_98 : v_search_most.toInt = (-1) := i_eq (rfl : v_search_most.toInt = v_search_most.toInt) (by decide : ((-1) : Int32).toInt = (-1)) c_98
                    refine lv_iload hx hb dX7_reach_158 (lv_at hl 0 rfl) ?_
                    refine lv_bipush (v := 6) hx hb dX7_reach_160 (by decide) ?_
                    refine lv_imul hx hb dX7_reach_162 ?_
                    refine lv_topi (fun n_99 en_99 => ?_)
                    have tn_99 : n_99.toInt = ((l_85.toInt / 6) + 0) * 6 := i_mul en_99 tn_94 (by decide : (6 : Int32).toInt = 6) (by omega) (by omega)
                    refine lv_iload hx hb dX7_reach_163 (lv_at hl 9 rfl) ?_
                    refine lv_iadd hx hb dX7_reach_165 ?_
                    refine lv_topi (fun n_100 en_100 => ?_)
                    have tn_100 : n_100.toInt = (((l_85.toInt / 6) + 0) * 6) + k.toInt := i_add en_100 tn_99 (rfl : k.toInt = k.toInt) (by omega) (by omega)
                    refine lv_sipush (v := 1296) hx hb dX7_reach_166 (by decide) ?_
                    refine lv_imul hx hb dX7_reach_169 ?_
                    refine lv_topi (fun n_101 en_101 => ?_)
                    have tn_101 : n_101.toInt = ((((l_85.toInt / 6) + 0) * 6) + k.toInt) * 1296 := i_mul en_101 tn_100 (by decide : (1296 : Int32).toInt = 1296) (by omega) (by omega)
                    refine lv_iload_n hx hb dX7_reach_170 rfl (lv_at hl 8 rfl) ?_
                    refine lv_iadd hx hb dX7_reach_171 ?_
                    refine lv_topi (fun n_102 en_102 => ?_)
                    have tn_102 : n_102.toInt = (((((l_85.toInt / 6) + 0) * 6) + k.toInt) * 1296) + bh.toInt := i_add en_102 tn_101 (rfl : bh.toInt = bh.toInt) (by omega) (by omega)
                    refine lv_istore (lv' := [(13, .int n_102), (12, .int n_94), (11, .int 0), (9, .long n_90), (8, .int l_85), (7, .int 6), (0, .ref (hs 62)), (1, .int pc0), (2, .int st0), (3, .int bh), (4, .int k), (5, .long pr)]) hx hb dX7_reach_172 hl (by decide) rfl (fun ls hl => ?_)
                    refine lv_aload_n hx hb dX7_reach_174 rfl (lv_at hl 6 rfl) ?_
                    refine gt_SP_search_there hx hb hts hown hK hP lwd_124 dX7_reach_175 ?_
                    refine lv_iload hx hb dX7_reach_178 (lv_at hl 0 rfl) ?_
                    refine lv_aload_n hx hb dX7_reach_180 rfl (lv_at hl 6 rfl) ?_
                    refine gt_SP_search_there hx hb hts hown hK hP lwd_124 dX7_reach_181 ?_
                    refine lv_iload hx hb dX7_reach_184 (lv_at hl 0 rfl) ?_
                    refine al_there hx hb hK hP (i_in tn_102 (by omega) (by omega)) dX7_reach_186 (fun n_103 en_103 => ?_)
                    refine lv_lload hx hb dX7_reach_187 (lv_at hl 3 rfl) ?_
                    refine lv_lload hx hb dX7_reach_189 (lv_at hl 11 rfl) ?_
                    refine lv_ladd hx hb dX7_reach_191 ?_
                    refine lv_topl (fun n_104 en_104 => ?_)
                    refine lv_iload hx hb dX7_reach_192 (lv_at hl 2 rfl) ?_
                    refine lv_if_eq (tgt := 209) hx hb dX7_reach_194 (by decide) (fun c_105 => ?_) (fun c_105 => ?_)
                    · skip
                      refine lv_lconst (v := 0) hx hb dX7_reach_209 (by decide) ?_
                      refine lv_ladd hx hb dX7_reach_210 ?_
                      refine lv_topl (fun n_106 en_106 => ?_)
                      refine va_mmin_long hx hb (by rw [hml]; exact hl.1.symm) hown (hts _ lwd_1051) (hts _ lwd_1052) (hts _ lwd_529) (hts _ lwd_1053) (Nat.le_of_ble_eq_true rfl) (Nat.le_of_ble_eq_true rfl) (Nat.zero_le _) (Nat.zero_le _) dX7_reach_211 ?_
                      refine lv_topl (fun n_107 en_107 => ?_)
                      refine as_there (x := n_107) hx hb hK hP hD hS (i_in tn_102 (by omega) (by omega)) dX7_reach_214 (fun f_108 ef_108 H locs hP hD hS => ?_)
                      obtain ⟨n_109, en_109⟩ : ∃ y : Int32, y = l_85 + 1 := ⟨_, rfl⟩
                      have tn_109 : n_109.toInt = l_85.toInt + 1 := i_add en_109 (rfl : l_85.toInt = l_85.toInt) (by decide : (1 : Int32).toInt = 1) (by omega) (by omega)
                      refine lv_iinc (v := n_109) (lv' := [(8, .int n_109), (13, .int n_102), (12, .int n_94), (11, .int 0), (9, .long n_90), (7, .int 6), (0, .ref (hs 62)), (1, .int pc0), (2, .int st0), (3, .int bh), (4, .int k), (5, .long pr)]) hx hb dX7_reach_215 hl (k := 4) rfl (by rw [en_109]; rfl) (by decide) rfl (fun ls hl => ?_)
                      refine lv_goto (tgt := 63) hx hb dX7_reach_218 (by decide) ?_
                      exact ih63_86 f_108 n_109 (by omega) (by omega) _ _ _ hP hD hS (lv_sub hl [0, 5, 6, 7, 8, 9, 10, 11] rfl)
                    · exact absurd c_105 (by decide)
                  · have gc_98 : v_search_most.toInt ≠ (-1) := i_ne (rfl : v_search_most.toInt = v_search_most.toInt) (by decide : ((-1) : Int32).toInt = (-1)) c_98
                    exact absurd gc_98 (by omega)
              · exact absurd c_93 (by decide)
            · have gc_91 : 0 < pc0.toInt := i_nle (rfl : pc0.toInt = pc0.toInt) (by decide : (0 : Int32).toInt = 0) c_91
              refine lv_iload hx hb dX7_reach_89 (lv_at hl 1 rfl) ?_
              refine lv_bipush (v := 6) hx hb dX7_reach_91 (by decide) ?_
              refine lv_irem hx hb dX7_reach_93 (by decide) ?_
              refine lv_topi (fun n_110 en_110 => ?_)
              have tn_110 : n_110.toInt = l_85.toInt % 6 := i_rem en_110 (rfl : l_85.toInt = l_85.toInt) (by decide : (6 : Int32).toInt = 6) (by omega) (by omega)
              refine lv_iload hx hb dX7_reach_94 (lv_at hl 7 rfl) ?_
              refine lv_icmp_eq (tgt := 103) hx hb dX7_reach_96 (by decide) (fun c_111 => ?_) (fun c_111 => ?_)
              · have gc_111 : l_85.toInt % 6 = k.toInt := i_eq tn_110 (rfl : k.toInt = k.toInt) c_111
                refine lv_iconst (v := 0) hx hb dX7_reach_103 (by decide) ?_
                refine lv_istore (lv' := [(11, .int 0), (9, .long n_90), (8, .int l_85), (7, .int 6), (0, .ref (hs 62)), (1, .int pc0), (2, .int st0), (3, .int bh), (4, .int k), (5, .long pr)]) hx hb dX7_reach_104 hl (by decide) rfl (fun ls hl => ?_)
                refine lv_iload hx hb dX7_reach_106 (lv_at hl 2 rfl) ?_
                refine lv_bipush (v := 6) hx hb dX7_reach_108 (by decide) ?_
                refine lv_idiv hx hb dX7_reach_110 (by decide) ?_
                refine lv_topi (fun n_112 en_112 => ?_)
                have tn_112 : n_112.toInt = l_85.toInt / 6 := i_div en_112 (rfl : l_85.toInt = l_85.toInt) (by decide : (6 : Int32).toInt = 6) (by omega) (by omega)
                refine lv_iload hx hb dX7_reach_111 (lv_at hl 0 rfl) ?_
                refine lv_if_eq (tgt := 128) hx hb dX7_reach_113 (by decide) (fun c_113 => ?_) (fun c_113 => ?_)
                · skip
                  refine lv_iconst (v := 0) hx hb dX7_reach_128 (by decide) ?_
                  refine lv_iadd hx hb dX7_reach_129 ?_
                  refine lv_topi (fun n_114 en_114 => ?_)
                  have tn_114 : n_114.toInt = (l_85.toInt / 6) + 0 := i_add en_114 tn_112 (by decide : (0 : Int32).toInt = 0) (by omega) (by omega)
                  refine lv_istore (lv' := [(12, .int n_114), (11, .int 0), (9, .long n_90), (8, .int l_85), (7, .int 6), (0, .ref (hs 62)), (1, .int pc0), (2, .int st0), (3, .int bh), (4, .int k), (5, .long pr)]) hx hb dX7_reach_130 hl (by decide) rfl (fun ls hl => ?_)
                  refine lv_lload hx hb dX7_reach_132 (lv_at hl 2 rfl) ?_
                  refine lv_ldc2 hx hb hown (hts _ lwd_137) dX7_reach_134 ?_
                  refine W.lcmp hx hb dX7_reach_137 ?_
                  refine lv_topi (fun n_115 en_115 => ?_)
                  have tn_115 := l_cmp en_115 (rfl : n_90.toInt = n_90.toInt) (by decide : (4611686018427387904 : Int64).toInt = 4611686018427387904)
                  refine lv_if_eq (tgt := 215) hx hb dX7_reach_138 (by decide) (fun c_116 => ?_) (fun c_116 => ?_)
                  · have gc_116 : n_115.toInt = 0 := i_eq (rfl : n_115.toInt = n_115.toInt) (by decide : (0 : Int32).toInt = 0) c_116
                    obtain ⟨n_117, en_117⟩ : ∃ y : Int32, y = l_85 + 1 := ⟨_, rfl⟩
                    have tn_117 : n_117.toInt = l_85.toInt + 1 := i_add en_117 (rfl : l_85.toInt = l_85.toInt) (by decide : (1 : Int32).toInt = 1) (by omega) (by omega)
                    refine lv_iinc (v := n_117) (lv' := [(8, .int n_117), (12, .int n_114), (11, .int 0), (9, .long n_90), (7, .int 6), (0, .ref (hs 62)), (1, .int pc0), (2, .int st0), (3, .int bh), (4, .int k), (5, .long pr)]) hx hb dX7_reach_215 hl (k := 3) rfl (by rw [en_117]; rfl) (by decide) rfl (fun ls hl => ?_)
                    refine lv_goto (tgt := 63) hx hb dX7_reach_218 (by decide) ?_
                    exact ih63_86 f_84 n_117 (by omega) (by omega) _ _ _ hP hD hS (lv_sub hl [0, 4, 5, 6, 7, 8, 9, 10] rfl)
                  · have gc_116 : n_115.toInt ≠ 0 := i_ne (rfl : n_115.toInt = n_115.toInt) (by decide : (0 : Int32).toInt = 0) c_116
                    refine lv_aload_n hx hb dX7_reach_141 rfl (lv_at hl 5 rfl) ?_
                    refine gt_SP_search_most hx hb hts hown hK hP lwd_1044 dX7_reach_142 ?_
                    refine lv_iconst (v := (-1)) hx hb dX7_reach_145 (by decide) ?_
                    refine lv_icmp_eq (tgt := 158) hx hb dX7_reach_146 (by decide) (fun c_118 => ?_) (fun c_118 => ?_)
                    · have gc_118 : v_search_most.toInt = (-1) := i_eq (rfl : v_search_most.toInt = v_search_most.toInt) (by decide : ((-1) : Int32).toInt = (-1)) c_118
                      refine lv_iload hx hb dX7_reach_158 (lv_at hl 0 rfl) ?_
                      refine lv_bipush (v := 6) hx hb dX7_reach_160 (by decide) ?_
                      refine lv_imul hx hb dX7_reach_162 ?_
                      refine lv_topi (fun n_119 en_119 => ?_)
                      have tn_119 : n_119.toInt = ((l_85.toInt / 6) + 0) * 6 := i_mul en_119 tn_114 (by decide : (6 : Int32).toInt = 6) (by omega) (by omega)
                      refine lv_iload hx hb dX7_reach_163 (lv_at hl 9 rfl) ?_
                      refine lv_iadd hx hb dX7_reach_165 ?_
                      refine lv_topi (fun n_120 en_120 => ?_)
                      have tn_120 : n_120.toInt = (((l_85.toInt / 6) + 0) * 6) + k.toInt := i_add en_120 tn_119 (rfl : k.toInt = k.toInt) (by omega) (by omega)
                      refine lv_sipush (v := 1296) hx hb dX7_reach_166 (by decide) ?_
                      refine lv_imul hx hb dX7_reach_169 ?_
                      refine lv_topi (fun n_121 en_121 => ?_)
                      have tn_121 : n_121.toInt = ((((l_85.toInt / 6) + 0) * 6) + k.toInt) * 1296 := i_mul en_121 tn_120 (by decide : (1296 : Int32).toInt = 1296) (by omega) (by omega)
                      refine lv_iload_n hx hb dX7_reach_170 rfl (lv_at hl 8 rfl) ?_
                      refine lv_iadd hx hb dX7_reach_171 ?_
                      refine lv_topi (fun n_122 en_122 => ?_)
                      have tn_122 : n_122.toInt = (((((l_85.toInt / 6) + 0) * 6) + k.toInt) * 1296) + bh.toInt := i_add en_122 tn_121 (rfl : bh.toInt = bh.toInt) (by omega) (by omega)
                      refine lv_istore (lv' := [(13, .int n_122), (12, .int n_114), (11, .int 0), (9, .long n_90), (8, .int l_85), (7, .int 6), (0, .ref (hs 62)), (1, .int pc0), (2, .int st0), (3, .int bh), (4, .int k), (5, .long pr)]) hx hb dX7_reach_172 hl (by decide) rfl (fun ls hl => ?_)
                      refine lv_aload_n hx hb dX7_reach_174 rfl (lv_at hl 6 rfl) ?_
                      refine gt_SP_search_there hx hb hts hown hK hP lwd_124 dX7_reach_175 ?_
                      refine lv_iload hx hb dX7_reach_178 (lv_at hl 0 rfl) ?_
                      refine lv_aload_n hx hb dX7_reach_180 rfl (lv_at hl 6 rfl) ?_
                      refine gt_SP_search_there hx hb hts hown hK hP lwd_124 dX7_reach_181 ?_
                      refine lv_iload hx hb dX7_reach_184 (lv_at hl 0 rfl) ?_
                      refine al_there hx hb hK hP (i_in tn_122 (by omega) (by omega)) dX7_reach_186 (fun n_123 en_123 => ?_)
                      refine lv_lload hx hb dX7_reach_187 (lv_at hl 3 rfl) ?_
                      refine lv_lload hx hb dX7_reach_189 (lv_at hl 11 rfl) ?_
                      refine lv_ladd hx hb dX7_reach_191 ?_
                      refine lv_topl (fun n_124 en_124 => ?_)
                      refine lv_iload hx hb dX7_reach_192 (lv_at hl 2 rfl) ?_
                      refine lv_if_eq (tgt := 209) hx hb dX7_reach_194 (by decide) (fun c_125 => ?_) (fun c_125 => ?_)
                      · skip
                        refine lv_lconst (v := 0) hx hb dX7_reach_209 (by decide) ?_
                        refine lv_ladd hx hb dX7_reach_210 ?_
                        refine lv_topl (fun n_126 en_126 => ?_)
                        refine va_mmin_long hx hb (by rw [hml]; exact hl.1.symm) hown (hts _ lwd_1051) (hts _ lwd_1052) (hts _ lwd_529) (hts _ lwd_1053) (Nat.le_of_ble_eq_true rfl) (Nat.le_of_ble_eq_true rfl) (Nat.zero_le _) (Nat.zero_le _) dX7_reach_211 ?_
                        refine lv_topl (fun n_127 en_127 => ?_)
                        refine as_there (x := n_127) hx hb hK hP hD hS (i_in tn_122 (by omega) (by omega)) dX7_reach_214 (fun f_128 ef_128 H locs hP hD hS => ?_)
                        obtain ⟨n_129, en_129⟩ : ∃ y : Int32, y = l_85 + 1 := ⟨_, rfl⟩
                        have tn_129 : n_129.toInt = l_85.toInt + 1 := i_add en_129 (rfl : l_85.toInt = l_85.toInt) (by decide : (1 : Int32).toInt = 1) (by omega) (by omega)
                        refine lv_iinc (v := n_129) (lv' := [(8, .int n_129), (13, .int n_122), (12, .int n_114), (11, .int 0), (9, .long n_90), (7, .int 6), (0, .ref (hs 62)), (1, .int pc0), (2, .int st0), (3, .int bh), (4, .int k), (5, .long pr)]) hx hb dX7_reach_215 hl (k := 4) rfl (by rw [en_129]; rfl) (by decide) rfl (fun ls hl => ?_)
                        refine lv_goto (tgt := 63) hx hb dX7_reach_218 (by decide) ?_
                        exact ih63_86 f_128 n_129 (by omega) (by omega) _ _ _ hP hD hS (lv_sub hl [0, 5, 6, 7, 8, 9, 10, 11] rfl)
                      · exact absurd c_125 (by decide)
                    · have gc_118 : v_search_most.toInt ≠ (-1) := i_ne (rfl : v_search_most.toInt = v_search_most.toInt) (by decide : ((-1) : Int32).toInt = (-1)) c_118
                      exact absurd gc_118 (by omega)
                · exact absurd c_113 (by decide)
              · have gc_111 : l_85.toInt % 6 ≠ k.toInt := i_ne tn_110 (rfl : k.toInt = k.toInt) c_111
                refine lv_iconst (v := 1) hx hb dX7_reach_99 (by decide) ?_
                refine lv_goto (tgt := 104) hx hb dX7_reach_100 (by decide) ?_
                refine lv_istore (lv' := [(11, .int 1), (9, .long n_90), (8, .int l_85), (7, .int 6), (0, .ref (hs 62)), (1, .int pc0), (2, .int st0), (3, .int bh), (4, .int k), (5, .long pr)]) hx hb dX7_reach_104 hl (by decide) rfl (fun ls hl => ?_)
                refine lv_iload hx hb dX7_reach_106 (lv_at hl 2 rfl) ?_
                refine lv_bipush (v := 6) hx hb dX7_reach_108 (by decide) ?_
                refine lv_idiv hx hb dX7_reach_110 (by decide) ?_
                refine lv_topi (fun n_130 en_130 => ?_)
                have tn_130 : n_130.toInt = l_85.toInt / 6 := i_div en_130 (rfl : l_85.toInt = l_85.toInt) (by decide : (6 : Int32).toInt = 6) (by omega) (by omega)
                refine lv_iload hx hb dX7_reach_111 (lv_at hl 0 rfl) ?_
                refine lv_if_eq (tgt := 128) hx hb dX7_reach_113 (by decide) (fun c_131 => ?_) (fun c_131 => ?_)
                · exact absurd c_131 (by decide)
                · skip
                  refine lv_aload_n hx hb dX7_reach_116 rfl (lv_at hl 4 rfl) ?_
                  refine gt_SP_search_most hx hb hts hown hK hP lwd_1044 dX7_reach_117 ?_
                  refine lv_iconst (v := (-1)) hx hb dX7_reach_120 (by decide) ?_
                  refine lv_icmp_eq (tgt := 128) hx hb dX7_reach_121 (by decide) (fun c_132 => ?_) (fun c_132 => ?_)
                  · have gc_132 : v_search_most.toInt = (-1) := i_eq (rfl : v_search_most.toInt = v_search_most.toInt) (by decide : ((-1) : Int32).toInt = (-1)) c_132
                    refine lv_iconst (v := 0) hx hb dX7_reach_128 (by decide) ?_
                    refine lv_iadd hx hb dX7_reach_129 ?_
                    refine lv_topi (fun n_133 en_133 => ?_)
                    have tn_133 : n_133.toInt = (l_85.toInt / 6) + 0 := i_add en_133 tn_130 (by decide : (0 : Int32).toInt = 0) (by omega) (by omega)
                    refine lv_istore (lv' := [(12, .int n_133), (11, .int 1), (9, .long n_90), (8, .int l_85), (7, .int 6), (0, .ref (hs 62)), (1, .int pc0), (2, .int st0), (3, .int bh), (4, .int k), (5, .long pr)]) hx hb dX7_reach_130 hl (by decide) rfl (fun ls hl => ?_)
                    refine lv_lload hx hb dX7_reach_132 (lv_at hl 2 rfl) ?_
                    refine lv_ldc2 hx hb hown (hts _ lwd_137) dX7_reach_134 ?_
                    refine W.lcmp hx hb dX7_reach_137 ?_
                    refine lv_topi (fun n_134 en_134 => ?_)
                    have tn_134 := l_cmp en_134 (rfl : n_90.toInt = n_90.toInt) (by decide : (4611686018427387904 : Int64).toInt = 4611686018427387904)
                    refine lv_if_eq (tgt := 215) hx hb dX7_reach_138 (by decide) (fun c_135 => ?_) (fun c_135 => ?_)
                    · have gc_135 : n_134.toInt = 0 := i_eq (rfl : n_134.toInt = n_134.toInt) (by decide : (0 : Int32).toInt = 0) c_135
                      obtain ⟨n_136, en_136⟩ : ∃ y : Int32, y = l_85 + 1 := ⟨_, rfl⟩
                      have tn_136 : n_136.toInt = l_85.toInt + 1 := i_add en_136 (rfl : l_85.toInt = l_85.toInt) (by decide : (1 : Int32).toInt = 1) (by omega) (by omega)
                      refine lv_iinc (v := n_136) (lv' := [(8, .int n_136), (12, .int n_133), (11, .int 1), (9, .long n_90), (7, .int 6), (0, .ref (hs 62)), (1, .int pc0), (2, .int st0), (3, .int bh), (4, .int k), (5, .long pr)]) hx hb dX7_reach_215 hl (k := 3) rfl (by rw [en_136]; rfl) (by decide) rfl (fun ls hl => ?_)
                      refine lv_goto (tgt := 63) hx hb dX7_reach_218 (by decide) ?_
                      exact ih63_86 f_84 n_136 (by omega) (by omega) _ _ _ hP hD hS (lv_sub hl [0, 4, 5, 6, 7, 8, 9, 10] rfl)
                    · have gc_135 : n_134.toInt ≠ 0 := i_ne (rfl : n_134.toInt = n_134.toInt) (by decide : (0 : Int32).toInt = 0) c_135
                      refine lv_aload_n hx hb dX7_reach_141 rfl (lv_at hl 5 rfl) ?_
                      refine gt_SP_search_most hx hb hts hown hK hP lwd_1044 dX7_reach_142 ?_
                      refine lv_iconst (v := (-1)) hx hb dX7_reach_145 (by decide) ?_
                      refine lv_icmp_eq (tgt := 158) hx hb dX7_reach_146 (by decide) (fun c_137 => ?_) (fun c_137 => ?_)
                      · have gc_137 : v_search_most.toInt = (-1) := i_eq (rfl : v_search_most.toInt = v_search_most.toInt) (by decide : ((-1) : Int32).toInt = (-1)) c_137
                        refine lv_iload hx hb dX7_reach_158 (lv_at hl 0 rfl) ?_
                        refine lv_bipush (v := 6) hx hb dX7_reach_160 (by decide) ?_
                        refine lv_imul hx hb dX7_reach_162 ?_
                        refine lv_topi (fun n_138 en_138 => ?_)
                        have tn_138 : n_138.toInt = ((l_85.toInt / 6) + 0) * 6 := i_mul en_138 tn_133 (by decide : (6 : Int32).toInt = 6) (by omega) (by omega)
                        refine lv_iload hx hb dX7_reach_163 (lv_at hl 9 rfl) ?_
                        refine lv_iadd hx hb dX7_reach_165 ?_
                        refine lv_topi (fun n_139 en_139 => ?_)
                        have tn_139 : n_139.toInt = (((l_85.toInt / 6) + 0) * 6) + k.toInt := i_add en_139 tn_138 (rfl : k.toInt = k.toInt) (by omega) (by omega)
                        refine lv_sipush (v := 1296) hx hb dX7_reach_166 (by decide) ?_
                        refine lv_imul hx hb dX7_reach_169 ?_
                        refine lv_topi (fun n_140 en_140 => ?_)
                        have tn_140 : n_140.toInt = ((((l_85.toInt / 6) + 0) * 6) + k.toInt) * 1296 := i_mul en_140 tn_139 (by decide : (1296 : Int32).toInt = 1296) (by omega) (by omega)
                        refine lv_iload_n hx hb dX7_reach_170 rfl (lv_at hl 8 rfl) ?_
                        refine lv_iadd hx hb dX7_reach_171 ?_
                        refine lv_topi (fun n_141 en_141 => ?_)
                        have tn_141 : n_141.toInt = (((((l_85.toInt / 6) + 0) * 6) + k.toInt) * 1296) + bh.toInt := i_add en_141 tn_140 (rfl : bh.toInt = bh.toInt) (by omega) (by omega)
                        refine lv_istore (lv' := [(13, .int n_141), (12, .int n_133), (11, .int 1), (9, .long n_90), (8, .int l_85), (7, .int 6), (0, .ref (hs 62)), (1, .int pc0), (2, .int st0), (3, .int bh), (4, .int k), (5, .long pr)]) hx hb dX7_reach_172 hl (by decide) rfl (fun ls hl => ?_)
                        refine lv_aload_n hx hb dX7_reach_174 rfl (lv_at hl 6 rfl) ?_
                        refine gt_SP_search_there hx hb hts hown hK hP lwd_124 dX7_reach_175 ?_
                        refine lv_iload hx hb dX7_reach_178 (lv_at hl 0 rfl) ?_
                        refine lv_aload_n hx hb dX7_reach_180 rfl (lv_at hl 6 rfl) ?_
                        refine gt_SP_search_there hx hb hts hown hK hP lwd_124 dX7_reach_181 ?_
                        refine lv_iload hx hb dX7_reach_184 (lv_at hl 0 rfl) ?_
                        refine al_there hx hb hK hP (i_in tn_141 (by omega) (by omega)) dX7_reach_186 (fun n_142 en_142 => ?_)
                        refine lv_lload hx hb dX7_reach_187 (lv_at hl 3 rfl) ?_
                        refine lv_lload hx hb dX7_reach_189 (lv_at hl 11 rfl) ?_
                        refine lv_ladd hx hb dX7_reach_191 ?_
                        refine lv_topl (fun n_143 en_143 => ?_)
                        refine lv_iload hx hb dX7_reach_192 (lv_at hl 2 rfl) ?_
                        refine lv_if_eq (tgt := 209) hx hb dX7_reach_194 (by decide) (fun c_144 => ?_) (fun c_144 => ?_)
                        · exact absurd c_144 (by decide)
                        · skip
                          refine lv_aload_n hx hb dX7_reach_197 rfl (lv_at hl 6 rfl) ?_
                          refine gt_SP_search_cost hx hb hts hown hK hP lwd_1043 dX7_reach_198 ?_
                          refine lv_i2l (v := v_search_cost.toInt64) hx hb dX7_reach_201 rfl ?_
                          have hl_145 : v_search_cost.toInt64.toInt = v_search_cost.toInt := i_l (rfl : v_search_cost.toInt = v_search_cost.toInt)
                          refine lv_ldc2 hx hb hown (hts _ lwd_1046) dX7_reach_202 ?_
                          refine lv_lmul hx hb dX7_reach_205 ?_
                          refine lv_topl (fun n_146 en_146 => ?_)
                          refine lv_goto (tgt := 210) hx hb dX7_reach_206 (by decide) ?_
                          refine lv_ladd hx hb dX7_reach_210 ?_
                          refine lv_topl (fun n_147 en_147 => ?_)
                          refine va_mmin_long hx hb (by rw [hml]; exact hl.1.symm) hown (hts _ lwd_1051) (hts _ lwd_1052) (hts _ lwd_529) (hts _ lwd_1053) (Nat.le_of_ble_eq_true rfl) (Nat.le_of_ble_eq_true rfl) (Nat.zero_le _) (Nat.zero_le _) dX7_reach_211 ?_
                          refine lv_topl (fun n_148 en_148 => ?_)
                          refine as_there (x := n_148) hx hb hK hP hD hS (i_in tn_141 (by omega) (by omega)) dX7_reach_214 (fun f_149 ef_149 H locs hP hD hS => ?_)
                          obtain ⟨n_150, en_150⟩ : ∃ y : Int32, y = l_85 + 1 := ⟨_, rfl⟩
                          have tn_150 : n_150.toInt = l_85.toInt + 1 := i_add en_150 (rfl : l_85.toInt = l_85.toInt) (by decide : (1 : Int32).toInt = 1) (by omega) (by omega)
                          refine lv_iinc (v := n_150) (lv' := [(8, .int n_150), (13, .int n_141), (12, .int n_133), (11, .int 1), (9, .long n_90), (7, .int 6), (0, .ref (hs 62)), (1, .int pc0), (2, .int st0), (3, .int bh), (4, .int k), (5, .long pr)]) hx hb dX7_reach_215 hl (k := 4) rfl (by rw [en_150]; rfl) (by decide) rfl (fun ls hl => ?_)
                          refine lv_goto (tgt := 63) hx hb dX7_reach_218 (by decide) ?_
                          exact ih63_86 f_149 n_150 (by omega) (by omega) _ _ _ hP hD hS (lv_sub hl [0, 5, 6, 7, 8, 9, 10, 11] rfl)
                      · have gc_137 : v_search_most.toInt ≠ (-1) := i_ne (rfl : v_search_most.toInt = v_search_most.toInt) (by decide : ((-1) : Int32).toInt = (-1)) c_137
                        exact absurd gc_137 (by omega)
                  · have gc_132 : v_search_most.toInt ≠ (-1) := i_ne (rfl : v_search_most.toInt = v_search_most.toInt) (by decide : ((-1) : Int32).toInt = (-1)) c_132
                    exact absurd gc_132 (by omega)
      have k_151 : (0 : Int32).toInt = 0 := by decide
      exact L63_86 8589934592 f_there 0 (by omega) (by omega) _ _ _ hP hD hS (lv_sub hl [0, 1, 2, 3, 4, 5, 6, 7] rfl)
  · have gc_2 : n_1.toInt = 0 := i_eq (rfl : n_1.toInt = n_1.toInt) (by decide : (0 : Int32).toInt = 0) c_2
    have hb9 := i_ix (rfl : bh.toInt = bh.toInt)
    have hz9 : (f_listed bh.toNatClampNeg).toInt = 0 := by rw [← en_1]; omega
    have hc9 := LI_lt hLI (b := bh.toNatClampNeg) (by omega) hz9
    skip
    refine lv_aload_n hx hb dX7_reach_9 rfl (lv_at hl 0 rfl) ?_
    refine gt_SP_search_listed hx hb hts hown hK hP lwd_127 dX7_reach_10 ?_
    refine lv_iload_n hx hb dX7_reach_13 rfl (lv_at hl 3 rfl) ?_
    refine lv_iconst (v := 1) hx hb dX7_reach_14 (by decide) ?_
    refine as_listed (x := 1) hx hb hK hP hD hS hr_listed (i_in (rfl : bh.toInt = bh.toInt) (by omega) (by omega)) (by decide) dX7_reach_15 (fun f_152 ef_152 rf_152 H locs hP hD hS => ?_)
    refine lv_aload_n hx hb dX7_reach_16 rfl (lv_at hl 0 rfl) ?_
    refine gt_SP_search_statesThere hx hb hts hown hK hP lwd_126 dX7_reach_17 ?_
    refine lv_aload_n hx hb dX7_reach_20 rfl (lv_at hl 0 rfl) ?_
    refine gt_SP_search_countThere hx hb hts hown hK hP lwd_1049 dX7_reach_21 ?_
    refine lv_iload_n hx hb dX7_reach_24 rfl (lv_at hl 3 rfl) ?_
    refine as_statesThere (x := bh) hx hb hK hP hD hS hr_statesThere (i_in (rfl : v_search_countThere.toInt = v_search_countThere.toInt) (by omega) (by omega)) (by omega) dX7_reach_25 (fun f_153 ef_153 rf_153 H locs hP hD hS => ?_)
    refine lv_aload_n hx hb dX7_reach_26 rfl (lv_at hl 0 rfl) ?_
    refine lv_dup hx hb dX7_reach_27 rfl ?_
    refine gt_SP_search_countThere hx hb hts hown hK hP lwd_1049 dX7_reach_28 ?_
    refine lv_iconst (v := 1) hx hb dX7_reach_31 (by decide) ?_
    refine lv_iadd hx hb dX7_reach_32 ?_
    refine lv_topi (fun n_154 en_154 => ?_)
    have tn_154 : n_154.toInt = v_search_countThere.toInt + 1 := i_add en_154 (rfl : v_search_countThere.toInt = v_search_countThere.toInt) (by decide : (1 : Int32).toInt = 1) (by omega) (by omega)
    refine pt_SP_search_countThere (x := n_154) hx hb hts hown hK hP hD hS lwd_1049 dX7_reach_33 (fun H locs hP hD hS => ?_)
    have hli9 : LI f_152 f_153 n_154 := by rw [ef_152, ef_153]; exact LI_add hLI (b := bh.toNatClampNeg) (by omega) hz9 (by decide) (by omega) (by omega) (by omega)
    skip
    refine lv_aload_n hx hb dX7_reach_36 rfl (lv_at hl 0 rfl) ?_
    refine gt_SP_search_most hx hb hts hown hK hP lwd_1044 dX7_reach_37 ?_
    refine lv_iconst (v := (-1)) hx hb dX7_reach_40 (by decide) ?_
    refine lv_icmp_ne (tgt := 49) hx hb dX7_reach_41 (by decide) (fun c_155 => ?_) (fun c_155 => ?_)
    · have gc_155 : v_search_most.toInt ≠ (-1) := i_ne (rfl : v_search_most.toInt = v_search_most.toInt) (by decide : ((-1) : Int32).toInt = (-1)) c_155
      refine lv_aload_n hx hb dX7_reach_49 rfl (lv_at hl 0 rfl) ?_
      refine gt_SP_search_most hx hb hts hown hK hP lwd_1044 dX7_reach_50 ?_
      refine lv_iconst (v := 1) hx hb dX7_reach_53 (by decide) ?_
      refine lv_iadd hx hb dX7_reach_54 ?_
      refine lv_topi (fun n_156 en_156 => ?_)
      have tn_156 : n_156.toInt = v_search_most.toInt + 1 := i_add en_156 (rfl : v_search_most.toInt = v_search_most.toInt) (by decide : (1 : Int32).toInt = 1) (by omega) (by omega)
      refine lv_bipush (v := 6) hx hb dX7_reach_55 (by decide) ?_
      refine lv_imul hx hb dX7_reach_57 ?_
      refine lv_topi (fun n_157 en_157 => ?_)
      have tn_157 : n_157.toInt = (v_search_most.toInt + 1) * 6 := i_mul en_157 tn_156 (by decide : (6 : Int32).toInt = 6) (by omega) (by omega)
      refine lv_istore (lv' := [(7, .int n_157), (0, .ref (hs 62)), (1, .int pc0), (2, .int st0), (3, .int bh), (4, .int k), (5, .long pr)]) hx hb dX7_reach_58 hl (by decide) rfl (fun ls hl => ?_)
      refine lv_iconst (v := 0) hx hb dX7_reach_60 (by decide) ?_
      refine lv_istore (lv' := [(8, .int 0), (7, .int n_157), (0, .ref (hs 62)), (1, .int pc0), (2, .int st0), (3, .int bh), (4, .int k), (5, .long pr)]) hx hb dX7_reach_61 hl (by decide) rfl (fun ls hl => ?_)
      have L63_162 : ∀ (n : Nat) (f_160 : Nat → Int64) (l_161 : Int32), (0 ≤ l_161.toInt ∧ l_161.toInt ≤ 24) → 25 - l_161.toInt < n → ∀ (H : Heap) (locs : List Loc) (ls : Array Slot), va_P D vwCl (wSP cy hs hH hT sH sT v_tape_size v_band_walkers v_band_loads v_band_pieces v_rules_clauses v_reader_end v_reader_at v_reader_length v_reader_letter v_reader_fault v_draft_clauses v_paces_version v_packing_quicker v_packing_loads v_packing_looseCount v_marches_told v_marches_changeMinutes v_marches_marching v_marches_gone v_search_known v_search_countHere n_154 v_search_cost v_search_most v_search_found f_bytes f_knee f_weight f_limps f_bheft f_owner f_food f_miles f_slope f_rsteps f_rkind f_ryields f_rholds f_rletters f_rstack f_dsteps f_dkind f_dyields f_dholds f_dletters f_dstack f_caps f_versions f_sharing f_pheft f_prow f_holder f_comes f_pcaps f_room f_loose f_reached f_mrow f_minutesOn f_mtired f_here f_160 f_statesHere f_153 f_152 f_stired f_burdens f_pacesOn f_restedOn f_behindOn f_behindFor f_first f_second f_plans f_tiredOn) H → va_D A (wSP cy hs hH hT sH sT v_tape_size v_band_walkers v_band_loads v_band_pieces v_rules_clauses v_reader_end v_reader_at v_reader_length v_reader_letter v_reader_fault v_draft_clauses v_paces_version v_packing_quicker v_packing_loads v_packing_looseCount v_marches_told v_marches_changeMinutes v_marches_marching v_marches_gone v_search_known v_search_countHere n_154 v_search_cost v_search_most v_search_found f_bytes f_knee f_weight f_limps f_bheft f_owner f_food f_miles f_slope f_rsteps f_rkind f_ryields f_rholds f_rletters f_rstack f_dsteps f_dkind f_dyields f_dholds f_dletters f_dstack f_caps f_versions f_sharing f_pheft f_prow f_holder f_comes f_pcaps f_room f_loose f_reached f_mrow f_minutesOn f_mtired f_here f_160 f_statesHere f_153 f_152 f_stired f_burdens f_pacesOn f_restedOn f_behindOn f_behindFor f_first f_second f_plans f_tiredOn) → va_S A s.heap H locs → lv_has ls 14 [(8, .int l_161), (7, .int n_157), (0, .ref (hs 62)), (1, .int pc0), (2, .int st0), (3, .int bh), (4, .int k), (5, .long pr)] → W p l e (gRm 1) s m args below meth c H locs 0 0 Q (F0 m 63 ls []) := by
        intro n
        induction n with
        | zero => intro f_160 l_161 hL63_162_0 hm; exact absurd hm (by omega)
        | succ n ih63_162 =>
          intro f_160 l_161 hL63_162_0 hmL63_162 H locs ls hP hD hS hl
          refine lv_iload hx hb dX7_reach_63 (lv_at hl 0 rfl) ?_
          refine lv_iload hx hb dX7_reach_65 (lv_at hl 1 rfl) ?_
          refine lv_icmp_ge (tgt := 221) hx hb dX7_reach_67 (by decide) (fun c_163 => ?_) (fun c_163 => ?_)
          · have gc_163 : (v_search_most.toInt + 1) * 6 ≤ l_161.toInt := i_le tn_157 (rfl : l_161.toInt = l_161.toInt) c_163
            exact hrt n_154 f_160 f_153 f_152 ⟨hli9, (by omega), rf_153, rf_152⟩ hP hD hS dX7_reach_221
          · have gc_163 : l_161.toInt < (v_search_most.toInt + 1) * 6 := i_nle tn_157 (rfl : l_161.toInt = l_161.toInt) c_163
            refine lv_aload_n hx hb dX7_reach_70 rfl (lv_at hl 2 rfl) ?_
            refine gt_SP_search_here hx hb hts hown hK hP lwd_123 dX7_reach_71 ?_
            refine lv_iload hx hb dX7_reach_74 (lv_at hl 0 rfl) ?_
            refine lv_sipush (v := 1296) hx hb dX7_reach_76 (by decide) ?_
            refine lv_imul hx hb dX7_reach_79 ?_
            refine lv_topi (fun n_164 en_164 => ?_)
            have tn_164 : n_164.toInt = l_161.toInt * 1296 := i_mul en_164 (rfl : l_161.toInt = l_161.toInt) (by decide : (1296 : Int32).toInt = 1296) (by omega) (by omega)
            refine lv_iload_n hx hb dX7_reach_80 rfl (lv_at hl 4 rfl) ?_
            refine lv_iadd hx hb dX7_reach_81 ?_
            refine lv_topi (fun n_165 en_165 => ?_)
            have tn_165 : n_165.toInt = (l_161.toInt * 1296) + st0.toInt := i_add en_165 tn_164 (rfl : st0.toInt = st0.toInt) (by omega) (by omega)
            refine al_here hx hb hK hP (i_in tn_165 (by omega) (by omega)) dX7_reach_82 (fun n_166 en_166 => ?_)
            refine lv_lstore (lv' := [(9, .long n_166), (8, .int l_161), (7, .int n_157), (0, .ref (hs 62)), (1, .int pc0), (2, .int st0), (3, .int bh), (4, .int k), (5, .long pr)]) hx hb dX7_reach_83 hl (by decide) rfl (fun ls hl => ?_)
            refine lv_iload_n hx hb dX7_reach_85 rfl (lv_at hl 4 rfl) ?_
            refine lv_if_le (tgt := 103) hx hb dX7_reach_86 (by decide) (fun c_167 => ?_) (fun c_167 => ?_)
            · have gc_167 : pc0.toInt ≤ 0 := i_le (rfl : pc0.toInt = pc0.toInt) (by decide : (0 : Int32).toInt = 0) c_167
              refine lv_iconst (v := 0) hx hb dX7_reach_103 (by decide) ?_
              refine lv_istore (lv' := [(11, .int 0), (9, .long n_166), (8, .int l_161), (7, .int n_157), (0, .ref (hs 62)), (1, .int pc0), (2, .int st0), (3, .int bh), (4, .int k), (5, .long pr)]) hx hb dX7_reach_104 hl (by decide) rfl (fun ls hl => ?_)
              refine lv_iload hx hb dX7_reach_106 (lv_at hl 2 rfl) ?_
              refine lv_bipush (v := 6) hx hb dX7_reach_108 (by decide) ?_
              refine lv_idiv hx hb dX7_reach_110 (by decide) ?_
              refine lv_topi (fun n_168 en_168 => ?_)
              have tn_168 : n_168.toInt = l_161.toInt / 6 := i_div en_168 (rfl : l_161.toInt = l_161.toInt) (by decide : (6 : Int32).toInt = 6) (by omega) (by omega)
              refine lv_iload hx hb dX7_reach_111 (lv_at hl 0 rfl) ?_
              refine lv_if_eq (tgt := 128) hx hb dX7_reach_113 (by decide) (fun c_169 => ?_) (fun c_169 => ?_)
              · skip
                refine lv_iconst (v := 0) hx hb dX7_reach_128 (by decide) ?_
                refine lv_iadd hx hb dX7_reach_129 ?_
                refine lv_topi (fun n_170 en_170 => ?_)
                have tn_170 : n_170.toInt = (l_161.toInt / 6) + 0 := i_add en_170 tn_168 (by decide : (0 : Int32).toInt = 0) (by omega) (by omega)
                refine lv_istore (lv' := [(12, .int n_170), (11, .int 0), (9, .long n_166), (8, .int l_161), (7, .int n_157), (0, .ref (hs 62)), (1, .int pc0), (2, .int st0), (3, .int bh), (4, .int k), (5, .long pr)]) hx hb dX7_reach_130 hl (by decide) rfl (fun ls hl => ?_)
                refine lv_lload hx hb dX7_reach_132 (lv_at hl 2 rfl) ?_
                refine lv_ldc2 hx hb hown (hts _ lwd_137) dX7_reach_134 ?_
                refine W.lcmp hx hb dX7_reach_137 ?_
                refine lv_topi (fun n_171 en_171 => ?_)
                have tn_171 := l_cmp en_171 (rfl : n_166.toInt = n_166.toInt) (by decide : (4611686018427387904 : Int64).toInt = 4611686018427387904)
                refine lv_if_eq (tgt := 215) hx hb dX7_reach_138 (by decide) (fun c_172 => ?_) (fun c_172 => ?_)
                · have gc_172 : n_171.toInt = 0 := i_eq (rfl : n_171.toInt = n_171.toInt) (by decide : (0 : Int32).toInt = 0) c_172
                  obtain ⟨n_173, en_173⟩ : ∃ y : Int32, y = l_161 + 1 := ⟨_, rfl⟩
                  have tn_173 : n_173.toInt = l_161.toInt + 1 := i_add en_173 (rfl : l_161.toInt = l_161.toInt) (by decide : (1 : Int32).toInt = 1) (by omega) (by omega)
                  refine lv_iinc (v := n_173) (lv' := [(8, .int n_173), (12, .int n_170), (11, .int 0), (9, .long n_166), (7, .int n_157), (0, .ref (hs 62)), (1, .int pc0), (2, .int st0), (3, .int bh), (4, .int k), (5, .long pr)]) hx hb dX7_reach_215 hl (k := 3) rfl (by rw [en_173]; rfl) (by decide) rfl (fun ls hl => ?_)
                  refine lv_goto (tgt := 63) hx hb dX7_reach_218 (by decide) ?_
                  exact ih63_162 f_160 n_173 (by omega) (by omega) _ _ _ hP hD hS (lv_sub hl [0, 4, 5, 6, 7, 8, 9, 10] rfl)
                · have gc_172 : n_171.toInt ≠ 0 := i_ne (rfl : n_171.toInt = n_171.toInt) (by decide : (0 : Int32).toInt = 0) c_172
                  refine lv_aload_n hx hb dX7_reach_141 rfl (lv_at hl 5 rfl) ?_
                  refine gt_SP_search_most hx hb hts hown hK hP lwd_1044 dX7_reach_142 ?_
                  refine lv_iconst (v := (-1)) hx hb dX7_reach_145 (by decide) ?_
                  refine lv_icmp_eq (tgt := 158) hx hb dX7_reach_146 (by decide) (fun c_174 => ?_) (fun c_174 => ?_)
                  · have gc_174 : v_search_most.toInt = (-1) := i_eq (rfl : v_search_most.toInt = v_search_most.toInt) (by decide : ((-1) : Int32).toInt = (-1)) c_174
                    exact absurd gc_174 (by omega)
                  · have gc_174 : v_search_most.toInt ≠ (-1) := i_ne (rfl : v_search_most.toInt = v_search_most.toInt) (by decide : ((-1) : Int32).toInt = (-1)) c_174
                    refine lv_iload hx hb dX7_reach_149 (lv_at hl 0 rfl) ?_
                    refine lv_aload_n hx hb dX7_reach_151 rfl (lv_at hl 5 rfl) ?_
                    refine gt_SP_search_most hx hb hts hown hK hP lwd_1044 dX7_reach_152 ?_
                    refine lv_icmp_gt (tgt := 215) hx hb dX7_reach_155 (by decide) (fun c_175 => ?_) (fun c_175 => ?_)
                    · have gc_175 : v_search_most.toInt < (l_161.toInt / 6) + 0 := i_lt (rfl : v_search_most.toInt = v_search_most.toInt) tn_170 c_175
                      obtain ⟨n_176, en_176⟩ : ∃ y : Int32, y = l_161 + 1 := ⟨_, rfl⟩
                      have tn_176 : n_176.toInt = l_161.toInt + 1 := i_add en_176 (rfl : l_161.toInt = l_161.toInt) (by decide : (1 : Int32).toInt = 1) (by omega) (by omega)
                      refine lv_iinc (v := n_176) (lv' := [(8, .int n_176), (12, .int n_170), (11, .int 0), (9, .long n_166), (7, .int n_157), (0, .ref (hs 62)), (1, .int pc0), (2, .int st0), (3, .int bh), (4, .int k), (5, .long pr)]) hx hb dX7_reach_215 hl (k := 3) rfl (by rw [en_176]; rfl) (by decide) rfl (fun ls hl => ?_)
                      refine lv_goto (tgt := 63) hx hb dX7_reach_218 (by decide) ?_
                      exact ih63_162 f_160 n_176 (by omega) (by omega) _ _ _ hP hD hS (lv_sub hl [0, 4, 5, 6, 7, 8, 9, 10] rfl)
                    · have gc_175 : (l_161.toInt / 6) + 0 ≤ v_search_most.toInt := i_nlt (rfl : v_search_most.toInt = v_search_most.toInt) tn_170 c_175
                      refine lv_iload hx hb dX7_reach_158 (lv_at hl 0 rfl) ?_
                      refine lv_bipush (v := 6) hx hb dX7_reach_160 (by decide) ?_
                      refine lv_imul hx hb dX7_reach_162 ?_
                      refine lv_topi (fun n_177 en_177 => ?_)
                      have tn_177 : n_177.toInt = ((l_161.toInt / 6) + 0) * 6 := i_mul en_177 tn_170 (by decide : (6 : Int32).toInt = 6) (by omega) (by omega)
                      refine lv_iload hx hb dX7_reach_163 (lv_at hl 9 rfl) ?_
                      refine lv_iadd hx hb dX7_reach_165 ?_
                      refine lv_topi (fun n_178 en_178 => ?_)
                      have tn_178 : n_178.toInt = (((l_161.toInt / 6) + 0) * 6) + k.toInt := i_add en_178 tn_177 (rfl : k.toInt = k.toInt) (by omega) (by omega)
                      refine lv_sipush (v := 1296) hx hb dX7_reach_166 (by decide) ?_
                      refine lv_imul hx hb dX7_reach_169 ?_
                      refine lv_topi (fun n_179 en_179 => ?_)
                      have tn_179 : n_179.toInt = ((((l_161.toInt / 6) + 0) * 6) + k.toInt) * 1296 := i_mul en_179 tn_178 (by decide : (1296 : Int32).toInt = 1296) (by omega) (by omega)
                      refine lv_iload_n hx hb dX7_reach_170 rfl (lv_at hl 8 rfl) ?_
                      refine lv_iadd hx hb dX7_reach_171 ?_
                      refine lv_topi (fun n_180 en_180 => ?_)
                      have tn_180 : n_180.toInt = (((((l_161.toInt / 6) + 0) * 6) + k.toInt) * 1296) + bh.toInt := i_add en_180 tn_179 (rfl : bh.toInt = bh.toInt) (by omega) (by omega)
                      refine lv_istore (lv' := [(13, .int n_180), (12, .int n_170), (11, .int 0), (9, .long n_166), (8, .int l_161), (7, .int n_157), (0, .ref (hs 62)), (1, .int pc0), (2, .int st0), (3, .int bh), (4, .int k), (5, .long pr)]) hx hb dX7_reach_172 hl (by decide) rfl (fun ls hl => ?_)
                      refine lv_aload_n hx hb dX7_reach_174 rfl (lv_at hl 6 rfl) ?_
                      refine gt_SP_search_there hx hb hts hown hK hP lwd_124 dX7_reach_175 ?_
                      refine lv_iload hx hb dX7_reach_178 (lv_at hl 0 rfl) ?_
                      refine lv_aload_n hx hb dX7_reach_180 rfl (lv_at hl 6 rfl) ?_
                      refine gt_SP_search_there hx hb hts hown hK hP lwd_124 dX7_reach_181 ?_
                      refine lv_iload hx hb dX7_reach_184 (lv_at hl 0 rfl) ?_
                      refine al_there hx hb hK hP (i_in tn_180 (by omega) (by omega)) dX7_reach_186 (fun n_181 en_181 => ?_)
                      refine lv_lload hx hb dX7_reach_187 (lv_at hl 3 rfl) ?_
                      refine lv_lload hx hb dX7_reach_189 (lv_at hl 11 rfl) ?_
                      refine lv_ladd hx hb dX7_reach_191 ?_
                      refine lv_topl (fun n_182 en_182 => ?_)
                      refine lv_iload hx hb dX7_reach_192 (lv_at hl 2 rfl) ?_
                      refine lv_if_eq (tgt := 209) hx hb dX7_reach_194 (by decide) (fun c_183 => ?_) (fun c_183 => ?_)
                      · skip
                        refine lv_lconst (v := 0) hx hb dX7_reach_209 (by decide) ?_
                        refine lv_ladd hx hb dX7_reach_210 ?_
                        refine lv_topl (fun n_184 en_184 => ?_)
                        refine va_mmin_long hx hb (by rw [hml]; exact hl.1.symm) hown (hts _ lwd_1051) (hts _ lwd_1052) (hts _ lwd_529) (hts _ lwd_1053) (Nat.le_of_ble_eq_true rfl) (Nat.le_of_ble_eq_true rfl) (Nat.zero_le _) (Nat.zero_le _) dX7_reach_211 ?_
                        refine lv_topl (fun n_185 en_185 => ?_)
                        refine as_there (x := n_185) hx hb hK hP hD hS (i_in tn_180 (by omega) (by omega)) dX7_reach_214 (fun f_186 ef_186 H locs hP hD hS => ?_)
                        obtain ⟨n_187, en_187⟩ : ∃ y : Int32, y = l_161 + 1 := ⟨_, rfl⟩
                        have tn_187 : n_187.toInt = l_161.toInt + 1 := i_add en_187 (rfl : l_161.toInt = l_161.toInt) (by decide : (1 : Int32).toInt = 1) (by omega) (by omega)
                        refine lv_iinc (v := n_187) (lv' := [(8, .int n_187), (13, .int n_180), (12, .int n_170), (11, .int 0), (9, .long n_166), (7, .int n_157), (0, .ref (hs 62)), (1, .int pc0), (2, .int st0), (3, .int bh), (4, .int k), (5, .long pr)]) hx hb dX7_reach_215 hl (k := 4) rfl (by rw [en_187]; rfl) (by decide) rfl (fun ls hl => ?_)
                        refine lv_goto (tgt := 63) hx hb dX7_reach_218 (by decide) ?_
                        exact ih63_162 f_186 n_187 (by omega) (by omega) _ _ _ hP hD hS (lv_sub hl [0, 5, 6, 7, 8, 9, 10, 11] rfl)
                      · exact absurd c_183 (by decide)
              · exact absurd c_169 (by decide)
            · have gc_167 : 0 < pc0.toInt := i_nle (rfl : pc0.toInt = pc0.toInt) (by decide : (0 : Int32).toInt = 0) c_167
              refine lv_iload hx hb dX7_reach_89 (lv_at hl 1 rfl) ?_
              refine lv_bipush (v := 6) hx hb dX7_reach_91 (by decide) ?_
              refine lv_irem hx hb dX7_reach_93 (by decide) ?_
              refine lv_topi (fun n_188 en_188 => ?_)
              have tn_188 : n_188.toInt = l_161.toInt % 6 := i_rem en_188 (rfl : l_161.toInt = l_161.toInt) (by decide : (6 : Int32).toInt = 6) (by omega) (by omega)
              refine lv_iload hx hb dX7_reach_94 (lv_at hl 7 rfl) ?_
              refine lv_icmp_eq (tgt := 103) hx hb dX7_reach_96 (by decide) (fun c_189 => ?_) (fun c_189 => ?_)
              · have gc_189 : l_161.toInt % 6 = k.toInt := i_eq tn_188 (rfl : k.toInt = k.toInt) c_189
                refine lv_iconst (v := 0) hx hb dX7_reach_103 (by decide) ?_
                refine lv_istore (lv' := [(11, .int 0), (9, .long n_166), (8, .int l_161), (7, .int n_157), (0, .ref (hs 62)), (1, .int pc0), (2, .int st0), (3, .int bh), (4, .int k), (5, .long pr)]) hx hb dX7_reach_104 hl (by decide) rfl (fun ls hl => ?_)
                refine lv_iload hx hb dX7_reach_106 (lv_at hl 2 rfl) ?_
                refine lv_bipush (v := 6) hx hb dX7_reach_108 (by decide) ?_
                refine lv_idiv hx hb dX7_reach_110 (by decide) ?_
                refine lv_topi (fun n_190 en_190 => ?_)
                have tn_190 : n_190.toInt = l_161.toInt / 6 := i_div en_190 (rfl : l_161.toInt = l_161.toInt) (by decide : (6 : Int32).toInt = 6) (by omega) (by omega)
                refine lv_iload hx hb dX7_reach_111 (lv_at hl 0 rfl) ?_
                refine lv_if_eq (tgt := 128) hx hb dX7_reach_113 (by decide) (fun c_191 => ?_) (fun c_191 => ?_)
                · skip
                  refine lv_iconst (v := 0) hx hb dX7_reach_128 (by decide) ?_
                  refine lv_iadd hx hb dX7_reach_129 ?_
                  refine lv_topi (fun n_192 en_192 => ?_)
                  have tn_192 : n_192.toInt = (l_161.toInt / 6) + 0 := i_add en_192 tn_190 (by decide : (0 : Int32).toInt = 0) (by omega) (by omega)
                  refine lv_istore (lv' := [(12, .int n_192), (11, .int 0), (9, .long n_166), (8, .int l_161), (7, .int n_157), (0, .ref (hs 62)), (1, .int pc0), (2, .int st0), (3, .int bh), (4, .int k), (5, .long pr)]) hx hb dX7_reach_130 hl (by decide) rfl (fun ls hl => ?_)
                  refine lv_lload hx hb dX7_reach_132 (lv_at hl 2 rfl) ?_
                  refine lv_ldc2 hx hb hown (hts _ lwd_137) dX7_reach_134 ?_
                  refine W.lcmp hx hb dX7_reach_137 ?_
                  refine lv_topi (fun n_193 en_193 => ?_)
                  have tn_193 := l_cmp en_193 (rfl : n_166.toInt = n_166.toInt) (by decide : (4611686018427387904 : Int64).toInt = 4611686018427387904)
                  refine lv_if_eq (tgt := 215) hx hb dX7_reach_138 (by decide) (fun c_194 => ?_) (fun c_194 => ?_)
                  · have gc_194 : n_193.toInt = 0 := i_eq (rfl : n_193.toInt = n_193.toInt) (by decide : (0 : Int32).toInt = 0) c_194
                    obtain ⟨n_195, en_195⟩ : ∃ y : Int32, y = l_161 + 1 := ⟨_, rfl⟩
                    have tn_195 : n_195.toInt = l_161.toInt + 1 := i_add en_195 (rfl : l_161.toInt = l_161.toInt) (by decide : (1 : Int32).toInt = 1) (by omega) (by omega)
                    refine lv_iinc (v := n_195) (lv' := [(8, .int n_195), (12, .int n_192), (11, .int 0), (9, .long n_166), (7, .int n_157), (0, .ref (hs 62)), (1, .int pc0), (2, .int st0), (3, .int bh), (4, .int k), (5, .long pr)]) hx hb dX7_reach_215 hl (k := 3) rfl (by rw [en_195]; rfl) (by decide) rfl (fun ls hl => ?_)
                    refine lv_goto (tgt := 63) hx hb dX7_reach_218 (by decide) ?_
                    exact ih63_162 f_160 n_195 (by omega) (by omega) _ _ _ hP hD hS (lv_sub hl [0, 4, 5, 6, 7, 8, 9, 10] rfl)
                  · have gc_194 : n_193.toInt ≠ 0 := i_ne (rfl : n_193.toInt = n_193.toInt) (by decide : (0 : Int32).toInt = 0) c_194
                    refine lv_aload_n hx hb dX7_reach_141 rfl (lv_at hl 5 rfl) ?_
                    refine gt_SP_search_most hx hb hts hown hK hP lwd_1044 dX7_reach_142 ?_
                    refine lv_iconst (v := (-1)) hx hb dX7_reach_145 (by decide) ?_
                    refine lv_icmp_eq (tgt := 158) hx hb dX7_reach_146 (by decide) (fun c_196 => ?_) (fun c_196 => ?_)
                    · have gc_196 : v_search_most.toInt = (-1) := i_eq (rfl : v_search_most.toInt = v_search_most.toInt) (by decide : ((-1) : Int32).toInt = (-1)) c_196
                      exact absurd gc_196 (by omega)
                    · have gc_196 : v_search_most.toInt ≠ (-1) := i_ne (rfl : v_search_most.toInt = v_search_most.toInt) (by decide : ((-1) : Int32).toInt = (-1)) c_196
                      refine lv_iload hx hb dX7_reach_149 (lv_at hl 0 rfl) ?_
                      refine lv_aload_n hx hb dX7_reach_151 rfl (lv_at hl 5 rfl) ?_
                      refine gt_SP_search_most hx hb hts hown hK hP lwd_1044 dX7_reach_152 ?_
                      refine lv_icmp_gt (tgt := 215) hx hb dX7_reach_155 (by decide) (fun c_197 => ?_) (fun c_197 => ?_)
                      · have gc_197 : v_search_most.toInt < (l_161.toInt / 6) + 0 := i_lt (rfl : v_search_most.toInt = v_search_most.toInt) tn_192 c_197
                        obtain ⟨n_198, en_198⟩ : ∃ y : Int32, y = l_161 + 1 := ⟨_, rfl⟩
                        have tn_198 : n_198.toInt = l_161.toInt + 1 := i_add en_198 (rfl : l_161.toInt = l_161.toInt) (by decide : (1 : Int32).toInt = 1) (by omega) (by omega)
                        refine lv_iinc (v := n_198) (lv' := [(8, .int n_198), (12, .int n_192), (11, .int 0), (9, .long n_166), (7, .int n_157), (0, .ref (hs 62)), (1, .int pc0), (2, .int st0), (3, .int bh), (4, .int k), (5, .long pr)]) hx hb dX7_reach_215 hl (k := 3) rfl (by rw [en_198]; rfl) (by decide) rfl (fun ls hl => ?_)
                        refine lv_goto (tgt := 63) hx hb dX7_reach_218 (by decide) ?_
                        exact ih63_162 f_160 n_198 (by omega) (by omega) _ _ _ hP hD hS (lv_sub hl [0, 4, 5, 6, 7, 8, 9, 10] rfl)
                      · have gc_197 : (l_161.toInt / 6) + 0 ≤ v_search_most.toInt := i_nlt (rfl : v_search_most.toInt = v_search_most.toInt) tn_192 c_197
                        refine lv_iload hx hb dX7_reach_158 (lv_at hl 0 rfl) ?_
                        refine lv_bipush (v := 6) hx hb dX7_reach_160 (by decide) ?_
                        refine lv_imul hx hb dX7_reach_162 ?_
                        refine lv_topi (fun n_199 en_199 => ?_)
                        have tn_199 : n_199.toInt = ((l_161.toInt / 6) + 0) * 6 := i_mul en_199 tn_192 (by decide : (6 : Int32).toInt = 6) (by omega) (by omega)
                        refine lv_iload hx hb dX7_reach_163 (lv_at hl 9 rfl) ?_
                        refine lv_iadd hx hb dX7_reach_165 ?_
                        refine lv_topi (fun n_200 en_200 => ?_)
                        have tn_200 : n_200.toInt = (((l_161.toInt / 6) + 0) * 6) + k.toInt := i_add en_200 tn_199 (rfl : k.toInt = k.toInt) (by omega) (by omega)
                        refine lv_sipush (v := 1296) hx hb dX7_reach_166 (by decide) ?_
                        refine lv_imul hx hb dX7_reach_169 ?_
                        refine lv_topi (fun n_201 en_201 => ?_)
                        have tn_201 : n_201.toInt = ((((l_161.toInt / 6) + 0) * 6) + k.toInt) * 1296 := i_mul en_201 tn_200 (by decide : (1296 : Int32).toInt = 1296) (by omega) (by omega)
                        refine lv_iload_n hx hb dX7_reach_170 rfl (lv_at hl 8 rfl) ?_
                        refine lv_iadd hx hb dX7_reach_171 ?_
                        refine lv_topi (fun n_202 en_202 => ?_)
                        have tn_202 : n_202.toInt = (((((l_161.toInt / 6) + 0) * 6) + k.toInt) * 1296) + bh.toInt := i_add en_202 tn_201 (rfl : bh.toInt = bh.toInt) (by omega) (by omega)
                        refine lv_istore (lv' := [(13, .int n_202), (12, .int n_192), (11, .int 0), (9, .long n_166), (8, .int l_161), (7, .int n_157), (0, .ref (hs 62)), (1, .int pc0), (2, .int st0), (3, .int bh), (4, .int k), (5, .long pr)]) hx hb dX7_reach_172 hl (by decide) rfl (fun ls hl => ?_)
                        refine lv_aload_n hx hb dX7_reach_174 rfl (lv_at hl 6 rfl) ?_
                        refine gt_SP_search_there hx hb hts hown hK hP lwd_124 dX7_reach_175 ?_
                        refine lv_iload hx hb dX7_reach_178 (lv_at hl 0 rfl) ?_
                        refine lv_aload_n hx hb dX7_reach_180 rfl (lv_at hl 6 rfl) ?_
                        refine gt_SP_search_there hx hb hts hown hK hP lwd_124 dX7_reach_181 ?_
                        refine lv_iload hx hb dX7_reach_184 (lv_at hl 0 rfl) ?_
                        refine al_there hx hb hK hP (i_in tn_202 (by omega) (by omega)) dX7_reach_186 (fun n_203 en_203 => ?_)
                        refine lv_lload hx hb dX7_reach_187 (lv_at hl 3 rfl) ?_
                        refine lv_lload hx hb dX7_reach_189 (lv_at hl 11 rfl) ?_
                        refine lv_ladd hx hb dX7_reach_191 ?_
                        refine lv_topl (fun n_204 en_204 => ?_)
                        refine lv_iload hx hb dX7_reach_192 (lv_at hl 2 rfl) ?_
                        refine lv_if_eq (tgt := 209) hx hb dX7_reach_194 (by decide) (fun c_205 => ?_) (fun c_205 => ?_)
                        · skip
                          refine lv_lconst (v := 0) hx hb dX7_reach_209 (by decide) ?_
                          refine lv_ladd hx hb dX7_reach_210 ?_
                          refine lv_topl (fun n_206 en_206 => ?_)
                          refine va_mmin_long hx hb (by rw [hml]; exact hl.1.symm) hown (hts _ lwd_1051) (hts _ lwd_1052) (hts _ lwd_529) (hts _ lwd_1053) (Nat.le_of_ble_eq_true rfl) (Nat.le_of_ble_eq_true rfl) (Nat.zero_le _) (Nat.zero_le _) dX7_reach_211 ?_
                          refine lv_topl (fun n_207 en_207 => ?_)
                          refine as_there (x := n_207) hx hb hK hP hD hS (i_in tn_202 (by omega) (by omega)) dX7_reach_214 (fun f_208 ef_208 H locs hP hD hS => ?_)
                          obtain ⟨n_209, en_209⟩ : ∃ y : Int32, y = l_161 + 1 := ⟨_, rfl⟩
                          have tn_209 : n_209.toInt = l_161.toInt + 1 := i_add en_209 (rfl : l_161.toInt = l_161.toInt) (by decide : (1 : Int32).toInt = 1) (by omega) (by omega)
                          refine lv_iinc (v := n_209) (lv' := [(8, .int n_209), (13, .int n_202), (12, .int n_192), (11, .int 0), (9, .long n_166), (7, .int n_157), (0, .ref (hs 62)), (1, .int pc0), (2, .int st0), (3, .int bh), (4, .int k), (5, .long pr)]) hx hb dX7_reach_215 hl (k := 4) rfl (by rw [en_209]; rfl) (by decide) rfl (fun ls hl => ?_)
                          refine lv_goto (tgt := 63) hx hb dX7_reach_218 (by decide) ?_
                          exact ih63_162 f_208 n_209 (by omega) (by omega) _ _ _ hP hD hS (lv_sub hl [0, 5, 6, 7, 8, 9, 10, 11] rfl)
                        · exact absurd c_205 (by decide)
                · exact absurd c_191 (by decide)
              · have gc_189 : l_161.toInt % 6 ≠ k.toInt := i_ne tn_188 (rfl : k.toInt = k.toInt) c_189
                refine lv_iconst (v := 1) hx hb dX7_reach_99 (by decide) ?_
                refine lv_goto (tgt := 104) hx hb dX7_reach_100 (by decide) ?_
                refine lv_istore (lv' := [(11, .int 1), (9, .long n_166), (8, .int l_161), (7, .int n_157), (0, .ref (hs 62)), (1, .int pc0), (2, .int st0), (3, .int bh), (4, .int k), (5, .long pr)]) hx hb dX7_reach_104 hl (by decide) rfl (fun ls hl => ?_)
                refine lv_iload hx hb dX7_reach_106 (lv_at hl 2 rfl) ?_
                refine lv_bipush (v := 6) hx hb dX7_reach_108 (by decide) ?_
                refine lv_idiv hx hb dX7_reach_110 (by decide) ?_
                refine lv_topi (fun n_210 en_210 => ?_)
                have tn_210 : n_210.toInt = l_161.toInt / 6 := i_div en_210 (rfl : l_161.toInt = l_161.toInt) (by decide : (6 : Int32).toInt = 6) (by omega) (by omega)
                refine lv_iload hx hb dX7_reach_111 (lv_at hl 0 rfl) ?_
                refine lv_if_eq (tgt := 128) hx hb dX7_reach_113 (by decide) (fun c_211 => ?_) (fun c_211 => ?_)
                · exact absurd c_211 (by decide)
                · skip
                  refine lv_aload_n hx hb dX7_reach_116 rfl (lv_at hl 4 rfl) ?_
                  refine gt_SP_search_most hx hb hts hown hK hP lwd_1044 dX7_reach_117 ?_
                  refine lv_iconst (v := (-1)) hx hb dX7_reach_120 (by decide) ?_
                  refine lv_icmp_eq (tgt := 128) hx hb dX7_reach_121 (by decide) (fun c_212 => ?_) (fun c_212 => ?_)
                  · have gc_212 : v_search_most.toInt = (-1) := i_eq (rfl : v_search_most.toInt = v_search_most.toInt) (by decide : ((-1) : Int32).toInt = (-1)) c_212
                    exact absurd gc_212 (by omega)
                  · have gc_212 : v_search_most.toInt ≠ (-1) := i_ne (rfl : v_search_most.toInt = v_search_most.toInt) (by decide : ((-1) : Int32).toInt = (-1)) c_212
                    refine lv_iconst (v := 1) hx hb dX7_reach_124 (by decide) ?_
                    refine lv_goto (tgt := 129) hx hb dX7_reach_125 (by decide) ?_
                    refine lv_iadd hx hb dX7_reach_129 ?_
                    refine lv_topi (fun n_213 en_213 => ?_)
                    have tn_213 : n_213.toInt = (l_161.toInt / 6) + 1 := i_add en_213 tn_210 (by decide : (1 : Int32).toInt = 1) (by omega) (by omega)
                    refine lv_istore (lv' := [(12, .int n_213), (11, .int 1), (9, .long n_166), (8, .int l_161), (7, .int n_157), (0, .ref (hs 62)), (1, .int pc0), (2, .int st0), (3, .int bh), (4, .int k), (5, .long pr)]) hx hb dX7_reach_130 hl (by decide) rfl (fun ls hl => ?_)
                    refine lv_lload hx hb dX7_reach_132 (lv_at hl 2 rfl) ?_
                    refine lv_ldc2 hx hb hown (hts _ lwd_137) dX7_reach_134 ?_
                    refine W.lcmp hx hb dX7_reach_137 ?_
                    refine lv_topi (fun n_214 en_214 => ?_)
                    have tn_214 := l_cmp en_214 (rfl : n_166.toInt = n_166.toInt) (by decide : (4611686018427387904 : Int64).toInt = 4611686018427387904)
                    refine lv_if_eq (tgt := 215) hx hb dX7_reach_138 (by decide) (fun c_215 => ?_) (fun c_215 => ?_)
                    · have gc_215 : n_214.toInt = 0 := i_eq (rfl : n_214.toInt = n_214.toInt) (by decide : (0 : Int32).toInt = 0) c_215
                      obtain ⟨n_216, en_216⟩ : ∃ y : Int32, y = l_161 + 1 := ⟨_, rfl⟩
                      have tn_216 : n_216.toInt = l_161.toInt + 1 := i_add en_216 (rfl : l_161.toInt = l_161.toInt) (by decide : (1 : Int32).toInt = 1) (by omega) (by omega)
                      refine lv_iinc (v := n_216) (lv' := [(8, .int n_216), (12, .int n_213), (11, .int 1), (9, .long n_166), (7, .int n_157), (0, .ref (hs 62)), (1, .int pc0), (2, .int st0), (3, .int bh), (4, .int k), (5, .long pr)]) hx hb dX7_reach_215 hl (k := 3) rfl (by rw [en_216]; rfl) (by decide) rfl (fun ls hl => ?_)
                      refine lv_goto (tgt := 63) hx hb dX7_reach_218 (by decide) ?_
                      exact ih63_162 f_160 n_216 (by omega) (by omega) _ _ _ hP hD hS (lv_sub hl [0, 4, 5, 6, 7, 8, 9, 10] rfl)
                    · have gc_215 : n_214.toInt ≠ 0 := i_ne (rfl : n_214.toInt = n_214.toInt) (by decide : (0 : Int32).toInt = 0) c_215
                      refine lv_aload_n hx hb dX7_reach_141 rfl (lv_at hl 5 rfl) ?_
                      refine gt_SP_search_most hx hb hts hown hK hP lwd_1044 dX7_reach_142 ?_
                      refine lv_iconst (v := (-1)) hx hb dX7_reach_145 (by decide) ?_
                      refine lv_icmp_eq (tgt := 158) hx hb dX7_reach_146 (by decide) (fun c_217 => ?_) (fun c_217 => ?_)
                      · have gc_217 : v_search_most.toInt = (-1) := i_eq (rfl : v_search_most.toInt = v_search_most.toInt) (by decide : ((-1) : Int32).toInt = (-1)) c_217
                        exact absurd gc_217 (by omega)
                      · have gc_217 : v_search_most.toInt ≠ (-1) := i_ne (rfl : v_search_most.toInt = v_search_most.toInt) (by decide : ((-1) : Int32).toInt = (-1)) c_217
                        refine lv_iload hx hb dX7_reach_149 (lv_at hl 0 rfl) ?_
                        refine lv_aload_n hx hb dX7_reach_151 rfl (lv_at hl 5 rfl) ?_
                        refine gt_SP_search_most hx hb hts hown hK hP lwd_1044 dX7_reach_152 ?_
                        refine lv_icmp_gt (tgt := 215) hx hb dX7_reach_155 (by decide) (fun c_218 => ?_) (fun c_218 => ?_)
                        · have gc_218 : v_search_most.toInt < (l_161.toInt / 6) + 1 := i_lt (rfl : v_search_most.toInt = v_search_most.toInt) tn_213 c_218
                          obtain ⟨n_219, en_219⟩ : ∃ y : Int32, y = l_161 + 1 := ⟨_, rfl⟩
                          have tn_219 : n_219.toInt = l_161.toInt + 1 := i_add en_219 (rfl : l_161.toInt = l_161.toInt) (by decide : (1 : Int32).toInt = 1) (by omega) (by omega)
                          refine lv_iinc (v := n_219) (lv' := [(8, .int n_219), (12, .int n_213), (11, .int 1), (9, .long n_166), (7, .int n_157), (0, .ref (hs 62)), (1, .int pc0), (2, .int st0), (3, .int bh), (4, .int k), (5, .long pr)]) hx hb dX7_reach_215 hl (k := 3) rfl (by rw [en_219]; rfl) (by decide) rfl (fun ls hl => ?_)
                          refine lv_goto (tgt := 63) hx hb dX7_reach_218 (by decide) ?_
                          exact ih63_162 f_160 n_219 (by omega) (by omega) _ _ _ hP hD hS (lv_sub hl [0, 4, 5, 6, 7, 8, 9, 10] rfl)
                        · have gc_218 : (l_161.toInt / 6) + 1 ≤ v_search_most.toInt := i_nlt (rfl : v_search_most.toInt = v_search_most.toInt) tn_213 c_218
                          refine lv_iload hx hb dX7_reach_158 (lv_at hl 0 rfl) ?_
                          refine lv_bipush (v := 6) hx hb dX7_reach_160 (by decide) ?_
                          refine lv_imul hx hb dX7_reach_162 ?_
                          refine lv_topi (fun n_220 en_220 => ?_)
                          have tn_220 : n_220.toInt = ((l_161.toInt / 6) + 1) * 6 := i_mul en_220 tn_213 (by decide : (6 : Int32).toInt = 6) (by omega) (by omega)
                          refine lv_iload hx hb dX7_reach_163 (lv_at hl 9 rfl) ?_
                          refine lv_iadd hx hb dX7_reach_165 ?_
                          refine lv_topi (fun n_221 en_221 => ?_)
                          have tn_221 : n_221.toInt = (((l_161.toInt / 6) + 1) * 6) + k.toInt := i_add en_221 tn_220 (rfl : k.toInt = k.toInt) (by omega) (by omega)
                          refine lv_sipush (v := 1296) hx hb dX7_reach_166 (by decide) ?_
                          refine lv_imul hx hb dX7_reach_169 ?_
                          refine lv_topi (fun n_222 en_222 => ?_)
                          have tn_222 : n_222.toInt = ((((l_161.toInt / 6) + 1) * 6) + k.toInt) * 1296 := i_mul en_222 tn_221 (by decide : (1296 : Int32).toInt = 1296) (by omega) (by omega)
                          refine lv_iload_n hx hb dX7_reach_170 rfl (lv_at hl 8 rfl) ?_
                          refine lv_iadd hx hb dX7_reach_171 ?_
                          refine lv_topi (fun n_223 en_223 => ?_)
                          have tn_223 : n_223.toInt = (((((l_161.toInt / 6) + 1) * 6) + k.toInt) * 1296) + bh.toInt := i_add en_223 tn_222 (rfl : bh.toInt = bh.toInt) (by omega) (by omega)
                          refine lv_istore (lv' := [(13, .int n_223), (12, .int n_213), (11, .int 1), (9, .long n_166), (8, .int l_161), (7, .int n_157), (0, .ref (hs 62)), (1, .int pc0), (2, .int st0), (3, .int bh), (4, .int k), (5, .long pr)]) hx hb dX7_reach_172 hl (by decide) rfl (fun ls hl => ?_)
                          refine lv_aload_n hx hb dX7_reach_174 rfl (lv_at hl 6 rfl) ?_
                          refine gt_SP_search_there hx hb hts hown hK hP lwd_124 dX7_reach_175 ?_
                          refine lv_iload hx hb dX7_reach_178 (lv_at hl 0 rfl) ?_
                          refine lv_aload_n hx hb dX7_reach_180 rfl (lv_at hl 6 rfl) ?_
                          refine gt_SP_search_there hx hb hts hown hK hP lwd_124 dX7_reach_181 ?_
                          refine lv_iload hx hb dX7_reach_184 (lv_at hl 0 rfl) ?_
                          refine al_there hx hb hK hP (i_in tn_223 (by omega) (by omega)) dX7_reach_186 (fun n_224 en_224 => ?_)
                          refine lv_lload hx hb dX7_reach_187 (lv_at hl 3 rfl) ?_
                          refine lv_lload hx hb dX7_reach_189 (lv_at hl 11 rfl) ?_
                          refine lv_ladd hx hb dX7_reach_191 ?_
                          refine lv_topl (fun n_225 en_225 => ?_)
                          refine lv_iload hx hb dX7_reach_192 (lv_at hl 2 rfl) ?_
                          refine lv_if_eq (tgt := 209) hx hb dX7_reach_194 (by decide) (fun c_226 => ?_) (fun c_226 => ?_)
                          · exact absurd c_226 (by decide)
                          · skip
                            refine lv_aload_n hx hb dX7_reach_197 rfl (lv_at hl 6 rfl) ?_
                            refine gt_SP_search_cost hx hb hts hown hK hP lwd_1043 dX7_reach_198 ?_
                            refine lv_i2l (v := v_search_cost.toInt64) hx hb dX7_reach_201 rfl ?_
                            have hl_227 : v_search_cost.toInt64.toInt = v_search_cost.toInt := i_l (rfl : v_search_cost.toInt = v_search_cost.toInt)
                            refine lv_ldc2 hx hb hown (hts _ lwd_1046) dX7_reach_202 ?_
                            refine lv_lmul hx hb dX7_reach_205 ?_
                            refine lv_topl (fun n_228 en_228 => ?_)
                            refine lv_goto (tgt := 210) hx hb dX7_reach_206 (by decide) ?_
                            refine lv_ladd hx hb dX7_reach_210 ?_
                            refine lv_topl (fun n_229 en_229 => ?_)
                            refine va_mmin_long hx hb (by rw [hml]; exact hl.1.symm) hown (hts _ lwd_1051) (hts _ lwd_1052) (hts _ lwd_529) (hts _ lwd_1053) (Nat.le_of_ble_eq_true rfl) (Nat.le_of_ble_eq_true rfl) (Nat.zero_le _) (Nat.zero_le _) dX7_reach_211 ?_
                            refine lv_topl (fun n_230 en_230 => ?_)
                            refine as_there (x := n_230) hx hb hK hP hD hS (i_in tn_223 (by omega) (by omega)) dX7_reach_214 (fun f_231 ef_231 H locs hP hD hS => ?_)
                            obtain ⟨n_232, en_232⟩ : ∃ y : Int32, y = l_161 + 1 := ⟨_, rfl⟩
                            have tn_232 : n_232.toInt = l_161.toInt + 1 := i_add en_232 (rfl : l_161.toInt = l_161.toInt) (by decide : (1 : Int32).toInt = 1) (by omega) (by omega)
                            refine lv_iinc (v := n_232) (lv' := [(8, .int n_232), (13, .int n_223), (12, .int n_213), (11, .int 1), (9, .long n_166), (7, .int n_157), (0, .ref (hs 62)), (1, .int pc0), (2, .int st0), (3, .int bh), (4, .int k), (5, .long pr)]) hx hb dX7_reach_215 hl (k := 4) rfl (by rw [en_232]; rfl) (by decide) rfl (fun ls hl => ?_)
                            refine lv_goto (tgt := 63) hx hb dX7_reach_218 (by decide) ?_
                            exact ih63_162 f_231 n_232 (by omega) (by omega) _ _ _ hP hD hS (lv_sub hl [0, 5, 6, 7, 8, 9, 10, 11] rfl)
      have k_233 : (0 : Int32).toInt = 0 := by decide
      exact L63_162 8589934592 f_there 0 (by omega) (by omega) _ _ _ hP hD hS (lv_sub hl [0, 1, 2, 3, 4, 5, 6, 7] rfl)
    · have gc_155 : v_search_most.toInt = (-1) := i_eq (rfl : v_search_most.toInt = v_search_most.toInt) (by decide : ((-1) : Int32).toInt = (-1)) c_155
      refine lv_bipush (v := 6) hx hb dX7_reach_44 (by decide) ?_
      refine lv_goto (tgt := 58) hx hb dX7_reach_46 (by decide) ?_
      refine lv_istore (lv' := [(7, .int 6), (0, .ref (hs 62)), (1, .int pc0), (2, .int st0), (3, .int bh), (4, .int k), (5, .long pr)]) hx hb dX7_reach_58 hl (by decide) rfl (fun ls hl => ?_)
      refine lv_iconst (v := 0) hx hb dX7_reach_60 (by decide) ?_
      refine lv_istore (lv' := [(8, .int 0), (7, .int 6), (0, .ref (hs 62)), (1, .int pc0), (2, .int st0), (3, .int bh), (4, .int k), (5, .long pr)]) hx hb dX7_reach_61 hl (by decide) rfl (fun ls hl => ?_)
      have L63_238 : ∀ (n : Nat) (f_236 : Nat → Int64) (l_237 : Int32), (0 ≤ l_237.toInt ∧ l_237.toInt ≤ 6) → 7 - l_237.toInt < n → ∀ (H : Heap) (locs : List Loc) (ls : Array Slot), va_P D vwCl (wSP cy hs hH hT sH sT v_tape_size v_band_walkers v_band_loads v_band_pieces v_rules_clauses v_reader_end v_reader_at v_reader_length v_reader_letter v_reader_fault v_draft_clauses v_paces_version v_packing_quicker v_packing_loads v_packing_looseCount v_marches_told v_marches_changeMinutes v_marches_marching v_marches_gone v_search_known v_search_countHere n_154 v_search_cost v_search_most v_search_found f_bytes f_knee f_weight f_limps f_bheft f_owner f_food f_miles f_slope f_rsteps f_rkind f_ryields f_rholds f_rletters f_rstack f_dsteps f_dkind f_dyields f_dholds f_dletters f_dstack f_caps f_versions f_sharing f_pheft f_prow f_holder f_comes f_pcaps f_room f_loose f_reached f_mrow f_minutesOn f_mtired f_here f_236 f_statesHere f_153 f_152 f_stired f_burdens f_pacesOn f_restedOn f_behindOn f_behindFor f_first f_second f_plans f_tiredOn) H → va_D A (wSP cy hs hH hT sH sT v_tape_size v_band_walkers v_band_loads v_band_pieces v_rules_clauses v_reader_end v_reader_at v_reader_length v_reader_letter v_reader_fault v_draft_clauses v_paces_version v_packing_quicker v_packing_loads v_packing_looseCount v_marches_told v_marches_changeMinutes v_marches_marching v_marches_gone v_search_known v_search_countHere n_154 v_search_cost v_search_most v_search_found f_bytes f_knee f_weight f_limps f_bheft f_owner f_food f_miles f_slope f_rsteps f_rkind f_ryields f_rholds f_rletters f_rstack f_dsteps f_dkind f_dyields f_dholds f_dletters f_dstack f_caps f_versions f_sharing f_pheft f_prow f_holder f_comes f_pcaps f_room f_loose f_reached f_mrow f_minutesOn f_mtired f_here f_236 f_statesHere f_153 f_152 f_stired f_burdens f_pacesOn f_restedOn f_behindOn f_behindFor f_first f_second f_plans f_tiredOn) → va_S A s.heap H locs → lv_has ls 14 [(8, .int l_237), (7, .int 6), (0, .ref (hs 62)), (1, .int pc0), (2, .int st0), (3, .int bh), (4, .int k), (5, .long pr)] → W p l e (gRm 1) s m args below meth c H locs 0 0 Q (F0 m 63 ls []) := by
        intro n
        induction n with
        | zero => intro f_236 l_237 hL63_238_0 hm; exact absurd hm (by omega)
        | succ n ih63_238 =>
          intro f_236 l_237 hL63_238_0 hmL63_238 H locs ls hP hD hS hl
          refine lv_iload hx hb dX7_reach_63 (lv_at hl 0 rfl) ?_
          refine lv_iload hx hb dX7_reach_65 (lv_at hl 1 rfl) ?_
          refine lv_icmp_ge (tgt := 221) hx hb dX7_reach_67 (by decide) (fun c_239 => ?_) (fun c_239 => ?_)
          · have gc_239 : 6 ≤ l_237.toInt := i_le (by decide : (6 : Int32).toInt = 6) (rfl : l_237.toInt = l_237.toInt) c_239
            exact hrt n_154 f_236 f_153 f_152 ⟨hli9, (by omega), rf_153, rf_152⟩ hP hD hS dX7_reach_221
          · have gc_239 : l_237.toInt < 6 := i_nle (by decide : (6 : Int32).toInt = 6) (rfl : l_237.toInt = l_237.toInt) c_239
            refine lv_aload_n hx hb dX7_reach_70 rfl (lv_at hl 2 rfl) ?_
            refine gt_SP_search_here hx hb hts hown hK hP lwd_123 dX7_reach_71 ?_
            refine lv_iload hx hb dX7_reach_74 (lv_at hl 0 rfl) ?_
            refine lv_sipush (v := 1296) hx hb dX7_reach_76 (by decide) ?_
            refine lv_imul hx hb dX7_reach_79 ?_
            refine lv_topi (fun n_240 en_240 => ?_)
            have tn_240 : n_240.toInt = l_237.toInt * 1296 := i_mul en_240 (rfl : l_237.toInt = l_237.toInt) (by decide : (1296 : Int32).toInt = 1296) (by omega) (by omega)
            refine lv_iload_n hx hb dX7_reach_80 rfl (lv_at hl 4 rfl) ?_
            refine lv_iadd hx hb dX7_reach_81 ?_
            refine lv_topi (fun n_241 en_241 => ?_)
            have tn_241 : n_241.toInt = (l_237.toInt * 1296) + st0.toInt := i_add en_241 tn_240 (rfl : st0.toInt = st0.toInt) (by omega) (by omega)
            refine al_here hx hb hK hP (i_in tn_241 (by omega) (by omega)) dX7_reach_82 (fun n_242 en_242 => ?_)
            refine lv_lstore (lv' := [(9, .long n_242), (8, .int l_237), (7, .int 6), (0, .ref (hs 62)), (1, .int pc0), (2, .int st0), (3, .int bh), (4, .int k), (5, .long pr)]) hx hb dX7_reach_83 hl (by decide) rfl (fun ls hl => ?_)
            refine lv_iload_n hx hb dX7_reach_85 rfl (lv_at hl 4 rfl) ?_
            refine lv_if_le (tgt := 103) hx hb dX7_reach_86 (by decide) (fun c_243 => ?_) (fun c_243 => ?_)
            · have gc_243 : pc0.toInt ≤ 0 := i_le (rfl : pc0.toInt = pc0.toInt) (by decide : (0 : Int32).toInt = 0) c_243
              refine lv_iconst (v := 0) hx hb dX7_reach_103 (by decide) ?_
              refine lv_istore (lv' := [(11, .int 0), (9, .long n_242), (8, .int l_237), (7, .int 6), (0, .ref (hs 62)), (1, .int pc0), (2, .int st0), (3, .int bh), (4, .int k), (5, .long pr)]) hx hb dX7_reach_104 hl (by decide) rfl (fun ls hl => ?_)
              refine lv_iload hx hb dX7_reach_106 (lv_at hl 2 rfl) ?_
              refine lv_bipush (v := 6) hx hb dX7_reach_108 (by decide) ?_
              refine lv_idiv hx hb dX7_reach_110 (by decide) ?_
              refine lv_topi (fun n_244 en_244 => ?_)
              have tn_244 : n_244.toInt = l_237.toInt / 6 := i_div en_244 (rfl : l_237.toInt = l_237.toInt) (by decide : (6 : Int32).toInt = 6) (by omega) (by omega)
              refine lv_iload hx hb dX7_reach_111 (lv_at hl 0 rfl) ?_
              refine lv_if_eq (tgt := 128) hx hb dX7_reach_113 (by decide) (fun c_245 => ?_) (fun c_245 => ?_)
              · skip
                refine lv_iconst (v := 0) hx hb dX7_reach_128 (by decide) ?_
                refine lv_iadd hx hb dX7_reach_129 ?_
                refine lv_topi (fun n_246 en_246 => ?_)
                have tn_246 : n_246.toInt = (l_237.toInt / 6) + 0 := i_add en_246 tn_244 (by decide : (0 : Int32).toInt = 0) (by omega) (by omega)
                refine lv_istore (lv' := [(12, .int n_246), (11, .int 0), (9, .long n_242), (8, .int l_237), (7, .int 6), (0, .ref (hs 62)), (1, .int pc0), (2, .int st0), (3, .int bh), (4, .int k), (5, .long pr)]) hx hb dX7_reach_130 hl (by decide) rfl (fun ls hl => ?_)
                refine lv_lload hx hb dX7_reach_132 (lv_at hl 2 rfl) ?_
                refine lv_ldc2 hx hb hown (hts _ lwd_137) dX7_reach_134 ?_
                refine W.lcmp hx hb dX7_reach_137 ?_
                refine lv_topi (fun n_247 en_247 => ?_)
                have tn_247 := l_cmp en_247 (rfl : n_242.toInt = n_242.toInt) (by decide : (4611686018427387904 : Int64).toInt = 4611686018427387904)
                refine lv_if_eq (tgt := 215) hx hb dX7_reach_138 (by decide) (fun c_248 => ?_) (fun c_248 => ?_)
                · have gc_248 : n_247.toInt = 0 := i_eq (rfl : n_247.toInt = n_247.toInt) (by decide : (0 : Int32).toInt = 0) c_248
                  obtain ⟨n_249, en_249⟩ : ∃ y : Int32, y = l_237 + 1 := ⟨_, rfl⟩
                  have tn_249 : n_249.toInt = l_237.toInt + 1 := i_add en_249 (rfl : l_237.toInt = l_237.toInt) (by decide : (1 : Int32).toInt = 1) (by omega) (by omega)
                  refine lv_iinc (v := n_249) (lv' := [(8, .int n_249), (12, .int n_246), (11, .int 0), (9, .long n_242), (7, .int 6), (0, .ref (hs 62)), (1, .int pc0), (2, .int st0), (3, .int bh), (4, .int k), (5, .long pr)]) hx hb dX7_reach_215 hl (k := 3) rfl (by rw [en_249]; rfl) (by decide) rfl (fun ls hl => ?_)
                  refine lv_goto (tgt := 63) hx hb dX7_reach_218 (by decide) ?_
                  exact ih63_238 f_236 n_249 (by omega) (by omega) _ _ _ hP hD hS (lv_sub hl [0, 4, 5, 6, 7, 8, 9, 10] rfl)
                · have gc_248 : n_247.toInt ≠ 0 := i_ne (rfl : n_247.toInt = n_247.toInt) (by decide : (0 : Int32).toInt = 0) c_248
                  refine lv_aload_n hx hb dX7_reach_141 rfl (lv_at hl 5 rfl) ?_
                  refine gt_SP_search_most hx hb hts hown hK hP lwd_1044 dX7_reach_142 ?_
                  refine lv_iconst (v := (-1)) hx hb dX7_reach_145 (by decide) ?_
                  refine lv_icmp_eq (tgt := 158) hx hb dX7_reach_146 (by decide) (fun c_250 => ?_) (fun c_250 => ?_)
                  · have gc_250 : v_search_most.toInt = (-1) := i_eq (rfl : v_search_most.toInt = v_search_most.toInt) (by decide : ((-1) : Int32).toInt = (-1)) c_250
                    refine lv_iload hx hb dX7_reach_158 (lv_at hl 0 rfl) ?_
                    refine lv_bipush (v := 6) hx hb dX7_reach_160 (by decide) ?_
                    refine lv_imul hx hb dX7_reach_162 ?_
                    refine lv_topi (fun n_251 en_251 => ?_)
                    have tn_251 : n_251.toInt = ((l_237.toInt / 6) + 0) * 6 := i_mul en_251 tn_246 (by decide : (6 : Int32).toInt = 6) (by omega) (by omega)
                    refine lv_iload hx hb dX7_reach_163 (lv_at hl 9 rfl) ?_
                    refine lv_iadd hx hb dX7_reach_165 ?_
                    refine lv_topi (fun n_252 en_252 => ?_)
                    have tn_252 : n_252.toInt = (((l_237.toInt / 6) + 0) * 6) + k.toInt := i_add en_252 tn_251 (rfl : k.toInt = k.toInt) (by omega) (by omega)
                    refine lv_sipush (v := 1296) hx hb dX7_reach_166 (by decide) ?_
                    refine lv_imul hx hb dX7_reach_169 ?_
                    refine lv_topi (fun n_253 en_253 => ?_)
                    have tn_253 : n_253.toInt = ((((l_237.toInt / 6) + 0) * 6) + k.toInt) * 1296 := i_mul en_253 tn_252 (by decide : (1296 : Int32).toInt = 1296) (by omega) (by omega)
                    refine lv_iload_n hx hb dX7_reach_170 rfl (lv_at hl 8 rfl) ?_
                    refine lv_iadd hx hb dX7_reach_171 ?_
                    refine lv_topi (fun n_254 en_254 => ?_)
                    have tn_254 : n_254.toInt = (((((l_237.toInt / 6) + 0) * 6) + k.toInt) * 1296) + bh.toInt := i_add en_254 tn_253 (rfl : bh.toInt = bh.toInt) (by omega) (by omega)
                    refine lv_istore (lv' := [(13, .int n_254), (12, .int n_246), (11, .int 0), (9, .long n_242), (8, .int l_237), (7, .int 6), (0, .ref (hs 62)), (1, .int pc0), (2, .int st0), (3, .int bh), (4, .int k), (5, .long pr)]) hx hb dX7_reach_172 hl (by decide) rfl (fun ls hl => ?_)
                    refine lv_aload_n hx hb dX7_reach_174 rfl (lv_at hl 6 rfl) ?_
                    refine gt_SP_search_there hx hb hts hown hK hP lwd_124 dX7_reach_175 ?_
                    refine lv_iload hx hb dX7_reach_178 (lv_at hl 0 rfl) ?_
                    refine lv_aload_n hx hb dX7_reach_180 rfl (lv_at hl 6 rfl) ?_
                    refine gt_SP_search_there hx hb hts hown hK hP lwd_124 dX7_reach_181 ?_
                    refine lv_iload hx hb dX7_reach_184 (lv_at hl 0 rfl) ?_
                    refine al_there hx hb hK hP (i_in tn_254 (by omega) (by omega)) dX7_reach_186 (fun n_255 en_255 => ?_)
                    refine lv_lload hx hb dX7_reach_187 (lv_at hl 3 rfl) ?_
                    refine lv_lload hx hb dX7_reach_189 (lv_at hl 11 rfl) ?_
                    refine lv_ladd hx hb dX7_reach_191 ?_
                    refine lv_topl (fun n_256 en_256 => ?_)
                    refine lv_iload hx hb dX7_reach_192 (lv_at hl 2 rfl) ?_
                    refine lv_if_eq (tgt := 209) hx hb dX7_reach_194 (by decide) (fun c_257 => ?_) (fun c_257 => ?_)
                    · skip
                      refine lv_lconst (v := 0) hx hb dX7_reach_209 (by decide) ?_
                      refine lv_ladd hx hb dX7_reach_210 ?_
                      refine lv_topl (fun n_258 en_258 => ?_)
                      refine va_mmin_long hx hb (by rw [hml]; exact hl.1.symm) hown (hts _ lwd_1051) (hts _ lwd_1052) (hts _ lwd_529) (hts _ lwd_1053) (Nat.le_of_ble_eq_true rfl) (Nat.le_of_ble_eq_true rfl) (Nat.zero_le _) (Nat.zero_le _) dX7_reach_211 ?_
                      refine lv_topl (fun n_259 en_259 => ?_)
                      refine as_there (x := n_259) hx hb hK hP hD hS (i_in tn_254 (by omega) (by omega)) dX7_reach_214 (fun f_260 ef_260 H locs hP hD hS => ?_)
                      obtain ⟨n_261, en_261⟩ : ∃ y : Int32, y = l_237 + 1 := ⟨_, rfl⟩
                      have tn_261 : n_261.toInt = l_237.toInt + 1 := i_add en_261 (rfl : l_237.toInt = l_237.toInt) (by decide : (1 : Int32).toInt = 1) (by omega) (by omega)
                      refine lv_iinc (v := n_261) (lv' := [(8, .int n_261), (13, .int n_254), (12, .int n_246), (11, .int 0), (9, .long n_242), (7, .int 6), (0, .ref (hs 62)), (1, .int pc0), (2, .int st0), (3, .int bh), (4, .int k), (5, .long pr)]) hx hb dX7_reach_215 hl (k := 4) rfl (by rw [en_261]; rfl) (by decide) rfl (fun ls hl => ?_)
                      refine lv_goto (tgt := 63) hx hb dX7_reach_218 (by decide) ?_
                      exact ih63_238 f_260 n_261 (by omega) (by omega) _ _ _ hP hD hS (lv_sub hl [0, 5, 6, 7, 8, 9, 10, 11] rfl)
                    · exact absurd c_257 (by decide)
                  · have gc_250 : v_search_most.toInt ≠ (-1) := i_ne (rfl : v_search_most.toInt = v_search_most.toInt) (by decide : ((-1) : Int32).toInt = (-1)) c_250
                    exact absurd gc_250 (by omega)
              · exact absurd c_245 (by decide)
            · have gc_243 : 0 < pc0.toInt := i_nle (rfl : pc0.toInt = pc0.toInt) (by decide : (0 : Int32).toInt = 0) c_243
              refine lv_iload hx hb dX7_reach_89 (lv_at hl 1 rfl) ?_
              refine lv_bipush (v := 6) hx hb dX7_reach_91 (by decide) ?_
              refine lv_irem hx hb dX7_reach_93 (by decide) ?_
              refine lv_topi (fun n_262 en_262 => ?_)
              have tn_262 : n_262.toInt = l_237.toInt % 6 := i_rem en_262 (rfl : l_237.toInt = l_237.toInt) (by decide : (6 : Int32).toInt = 6) (by omega) (by omega)
              refine lv_iload hx hb dX7_reach_94 (lv_at hl 7 rfl) ?_
              refine lv_icmp_eq (tgt := 103) hx hb dX7_reach_96 (by decide) (fun c_263 => ?_) (fun c_263 => ?_)
              · have gc_263 : l_237.toInt % 6 = k.toInt := i_eq tn_262 (rfl : k.toInt = k.toInt) c_263
                refine lv_iconst (v := 0) hx hb dX7_reach_103 (by decide) ?_
                refine lv_istore (lv' := [(11, .int 0), (9, .long n_242), (8, .int l_237), (7, .int 6), (0, .ref (hs 62)), (1, .int pc0), (2, .int st0), (3, .int bh), (4, .int k), (5, .long pr)]) hx hb dX7_reach_104 hl (by decide) rfl (fun ls hl => ?_)
                refine lv_iload hx hb dX7_reach_106 (lv_at hl 2 rfl) ?_
                refine lv_bipush (v := 6) hx hb dX7_reach_108 (by decide) ?_
                refine lv_idiv hx hb dX7_reach_110 (by decide) ?_
                refine lv_topi (fun n_264 en_264 => ?_)
                have tn_264 : n_264.toInt = l_237.toInt / 6 := i_div en_264 (rfl : l_237.toInt = l_237.toInt) (by decide : (6 : Int32).toInt = 6) (by omega) (by omega)
                refine lv_iload hx hb dX7_reach_111 (lv_at hl 0 rfl) ?_
                refine lv_if_eq (tgt := 128) hx hb dX7_reach_113 (by decide) (fun c_265 => ?_) (fun c_265 => ?_)
                · skip
                  refine lv_iconst (v := 0) hx hb dX7_reach_128 (by decide) ?_
                  refine lv_iadd hx hb dX7_reach_129 ?_
                  refine lv_topi (fun n_266 en_266 => ?_)
                  have tn_266 : n_266.toInt = (l_237.toInt / 6) + 0 := i_add en_266 tn_264 (by decide : (0 : Int32).toInt = 0) (by omega) (by omega)
                  refine lv_istore (lv' := [(12, .int n_266), (11, .int 0), (9, .long n_242), (8, .int l_237), (7, .int 6), (0, .ref (hs 62)), (1, .int pc0), (2, .int st0), (3, .int bh), (4, .int k), (5, .long pr)]) hx hb dX7_reach_130 hl (by decide) rfl (fun ls hl => ?_)
                  refine lv_lload hx hb dX7_reach_132 (lv_at hl 2 rfl) ?_
                  refine lv_ldc2 hx hb hown (hts _ lwd_137) dX7_reach_134 ?_
                  refine W.lcmp hx hb dX7_reach_137 ?_
                  refine lv_topi (fun n_267 en_267 => ?_)
                  have tn_267 := l_cmp en_267 (rfl : n_242.toInt = n_242.toInt) (by decide : (4611686018427387904 : Int64).toInt = 4611686018427387904)
                  refine lv_if_eq (tgt := 215) hx hb dX7_reach_138 (by decide) (fun c_268 => ?_) (fun c_268 => ?_)
                  · have gc_268 : n_267.toInt = 0 := i_eq (rfl : n_267.toInt = n_267.toInt) (by decide : (0 : Int32).toInt = 0) c_268
                    obtain ⟨n_269, en_269⟩ : ∃ y : Int32, y = l_237 + 1 := ⟨_, rfl⟩
                    have tn_269 : n_269.toInt = l_237.toInt + 1 := i_add en_269 (rfl : l_237.toInt = l_237.toInt) (by decide : (1 : Int32).toInt = 1) (by omega) (by omega)
                    refine lv_iinc (v := n_269) (lv' := [(8, .int n_269), (12, .int n_266), (11, .int 0), (9, .long n_242), (7, .int 6), (0, .ref (hs 62)), (1, .int pc0), (2, .int st0), (3, .int bh), (4, .int k), (5, .long pr)]) hx hb dX7_reach_215 hl (k := 3) rfl (by rw [en_269]; rfl) (by decide) rfl (fun ls hl => ?_)
                    refine lv_goto (tgt := 63) hx hb dX7_reach_218 (by decide) ?_
                    exact ih63_238 f_236 n_269 (by omega) (by omega) _ _ _ hP hD hS (lv_sub hl [0, 4, 5, 6, 7, 8, 9, 10] rfl)
                  · have gc_268 : n_267.toInt ≠ 0 := i_ne (rfl : n_267.toInt = n_267.toInt) (by decide : (0 : Int32).toInt = 0) c_268
                    refine lv_aload_n hx hb dX7_reach_141 rfl (lv_at hl 5 rfl) ?_
                    refine gt_SP_search_most hx hb hts hown hK hP lwd_1044 dX7_reach_142 ?_
                    refine lv_iconst (v := (-1)) hx hb dX7_reach_145 (by decide) ?_
                    refine lv_icmp_eq (tgt := 158) hx hb dX7_reach_146 (by decide) (fun c_270 => ?_) (fun c_270 => ?_)
                    · have gc_270 : v_search_most.toInt = (-1) := i_eq (rfl : v_search_most.toInt = v_search_most.toInt) (by decide : ((-1) : Int32).toInt = (-1)) c_270
                      refine lv_iload hx hb dX7_reach_158 (lv_at hl 0 rfl) ?_
                      refine lv_bipush (v := 6) hx hb dX7_reach_160 (by decide) ?_
                      refine lv_imul hx hb dX7_reach_162 ?_
                      refine lv_topi (fun n_271 en_271 => ?_)
                      have tn_271 : n_271.toInt = ((l_237.toInt / 6) + 0) * 6 := i_mul en_271 tn_266 (by decide : (6 : Int32).toInt = 6) (by omega) (by omega)
                      refine lv_iload hx hb dX7_reach_163 (lv_at hl 9 rfl) ?_
                      refine lv_iadd hx hb dX7_reach_165 ?_
                      refine lv_topi (fun n_272 en_272 => ?_)
                      have tn_272 : n_272.toInt = (((l_237.toInt / 6) + 0) * 6) + k.toInt := i_add en_272 tn_271 (rfl : k.toInt = k.toInt) (by omega) (by omega)
                      refine lv_sipush (v := 1296) hx hb dX7_reach_166 (by decide) ?_
                      refine lv_imul hx hb dX7_reach_169 ?_
                      refine lv_topi (fun n_273 en_273 => ?_)
                      have tn_273 : n_273.toInt = ((((l_237.toInt / 6) + 0) * 6) + k.toInt) * 1296 := i_mul en_273 tn_272 (by decide : (1296 : Int32).toInt = 1296) (by omega) (by omega)
                      refine lv_iload_n hx hb dX7_reach_170 rfl (lv_at hl 8 rfl) ?_
                      refine lv_iadd hx hb dX7_reach_171 ?_
                      refine lv_topi (fun n_274 en_274 => ?_)
                      have tn_274 : n_274.toInt = (((((l_237.toInt / 6) + 0) * 6) + k.toInt) * 1296) + bh.toInt := i_add en_274 tn_273 (rfl : bh.toInt = bh.toInt) (by omega) (by omega)
                      refine lv_istore (lv' := [(13, .int n_274), (12, .int n_266), (11, .int 0), (9, .long n_242), (8, .int l_237), (7, .int 6), (0, .ref (hs 62)), (1, .int pc0), (2, .int st0), (3, .int bh), (4, .int k), (5, .long pr)]) hx hb dX7_reach_172 hl (by decide) rfl (fun ls hl => ?_)
                      refine lv_aload_n hx hb dX7_reach_174 rfl (lv_at hl 6 rfl) ?_
                      refine gt_SP_search_there hx hb hts hown hK hP lwd_124 dX7_reach_175 ?_
                      refine lv_iload hx hb dX7_reach_178 (lv_at hl 0 rfl) ?_
                      refine lv_aload_n hx hb dX7_reach_180 rfl (lv_at hl 6 rfl) ?_
                      refine gt_SP_search_there hx hb hts hown hK hP lwd_124 dX7_reach_181 ?_
                      refine lv_iload hx hb dX7_reach_184 (lv_at hl 0 rfl) ?_
                      refine al_there hx hb hK hP (i_in tn_274 (by omega) (by omega)) dX7_reach_186 (fun n_275 en_275 => ?_)
                      refine lv_lload hx hb dX7_reach_187 (lv_at hl 3 rfl) ?_
                      refine lv_lload hx hb dX7_reach_189 (lv_at hl 11 rfl) ?_
                      refine lv_ladd hx hb dX7_reach_191 ?_
                      refine lv_topl (fun n_276 en_276 => ?_)
                      refine lv_iload hx hb dX7_reach_192 (lv_at hl 2 rfl) ?_
                      refine lv_if_eq (tgt := 209) hx hb dX7_reach_194 (by decide) (fun c_277 => ?_) (fun c_277 => ?_)
                      · skip
                        refine lv_lconst (v := 0) hx hb dX7_reach_209 (by decide) ?_
                        refine lv_ladd hx hb dX7_reach_210 ?_
                        refine lv_topl (fun n_278 en_278 => ?_)
                        refine va_mmin_long hx hb (by rw [hml]; exact hl.1.symm) hown (hts _ lwd_1051) (hts _ lwd_1052) (hts _ lwd_529) (hts _ lwd_1053) (Nat.le_of_ble_eq_true rfl) (Nat.le_of_ble_eq_true rfl) (Nat.zero_le _) (Nat.zero_le _) dX7_reach_211 ?_
                        refine lv_topl (fun n_279 en_279 => ?_)
                        refine as_there (x := n_279) hx hb hK hP hD hS (i_in tn_274 (by omega) (by omega)) dX7_reach_214 (fun f_280 ef_280 H locs hP hD hS => ?_)
                        obtain ⟨n_281, en_281⟩ : ∃ y : Int32, y = l_237 + 1 := ⟨_, rfl⟩
                        have tn_281 : n_281.toInt = l_237.toInt + 1 := i_add en_281 (rfl : l_237.toInt = l_237.toInt) (by decide : (1 : Int32).toInt = 1) (by omega) (by omega)
                        refine lv_iinc (v := n_281) (lv' := [(8, .int n_281), (13, .int n_274), (12, .int n_266), (11, .int 0), (9, .long n_242), (7, .int 6), (0, .ref (hs 62)), (1, .int pc0), (2, .int st0), (3, .int bh), (4, .int k), (5, .long pr)]) hx hb dX7_reach_215 hl (k := 4) rfl (by rw [en_281]; rfl) (by decide) rfl (fun ls hl => ?_)
                        refine lv_goto (tgt := 63) hx hb dX7_reach_218 (by decide) ?_
                        exact ih63_238 f_280 n_281 (by omega) (by omega) _ _ _ hP hD hS (lv_sub hl [0, 5, 6, 7, 8, 9, 10, 11] rfl)
                      · exact absurd c_277 (by decide)
                    · have gc_270 : v_search_most.toInt ≠ (-1) := i_ne (rfl : v_search_most.toInt = v_search_most.toInt) (by decide : ((-1) : Int32).toInt = (-1)) c_270
                      exact absurd gc_270 (by omega)
                · exact absurd c_265 (by decide)
              · have gc_263 : l_237.toInt % 6 ≠ k.toInt := i_ne tn_262 (rfl : k.toInt = k.toInt) c_263
                refine lv_iconst (v := 1) hx hb dX7_reach_99 (by decide) ?_
                refine lv_goto (tgt := 104) hx hb dX7_reach_100 (by decide) ?_
                refine lv_istore (lv' := [(11, .int 1), (9, .long n_242), (8, .int l_237), (7, .int 6), (0, .ref (hs 62)), (1, .int pc0), (2, .int st0), (3, .int bh), (4, .int k), (5, .long pr)]) hx hb dX7_reach_104 hl (by decide) rfl (fun ls hl => ?_)
                refine lv_iload hx hb dX7_reach_106 (lv_at hl 2 rfl) ?_
                refine lv_bipush (v := 6) hx hb dX7_reach_108 (by decide) ?_
                refine lv_idiv hx hb dX7_reach_110 (by decide) ?_
                refine lv_topi (fun n_282 en_282 => ?_)
                have tn_282 : n_282.toInt = l_237.toInt / 6 := i_div en_282 (rfl : l_237.toInt = l_237.toInt) (by decide : (6 : Int32).toInt = 6) (by omega) (by omega)
                refine lv_iload hx hb dX7_reach_111 (lv_at hl 0 rfl) ?_
                refine lv_if_eq (tgt := 128) hx hb dX7_reach_113 (by decide) (fun c_283 => ?_) (fun c_283 => ?_)
                · exact absurd c_283 (by decide)
                · skip
                  refine lv_aload_n hx hb dX7_reach_116 rfl (lv_at hl 4 rfl) ?_
                  refine gt_SP_search_most hx hb hts hown hK hP lwd_1044 dX7_reach_117 ?_
                  refine lv_iconst (v := (-1)) hx hb dX7_reach_120 (by decide) ?_
                  refine lv_icmp_eq (tgt := 128) hx hb dX7_reach_121 (by decide) (fun c_284 => ?_) (fun c_284 => ?_)
                  · have gc_284 : v_search_most.toInt = (-1) := i_eq (rfl : v_search_most.toInt = v_search_most.toInt) (by decide : ((-1) : Int32).toInt = (-1)) c_284
                    refine lv_iconst (v := 0) hx hb dX7_reach_128 (by decide) ?_
                    refine lv_iadd hx hb dX7_reach_129 ?_
                    refine lv_topi (fun n_285 en_285 => ?_)
                    have tn_285 : n_285.toInt = (l_237.toInt / 6) + 0 := i_add en_285 tn_282 (by decide : (0 : Int32).toInt = 0) (by omega) (by omega)
                    refine lv_istore (lv' := [(12, .int n_285), (11, .int 1), (9, .long n_242), (8, .int l_237), (7, .int 6), (0, .ref (hs 62)), (1, .int pc0), (2, .int st0), (3, .int bh), (4, .int k), (5, .long pr)]) hx hb dX7_reach_130 hl (by decide) rfl (fun ls hl => ?_)
                    refine lv_lload hx hb dX7_reach_132 (lv_at hl 2 rfl) ?_
                    refine lv_ldc2 hx hb hown (hts _ lwd_137) dX7_reach_134 ?_
                    refine W.lcmp hx hb dX7_reach_137 ?_
                    refine lv_topi (fun n_286 en_286 => ?_)
                    have tn_286 := l_cmp en_286 (rfl : n_242.toInt = n_242.toInt) (by decide : (4611686018427387904 : Int64).toInt = 4611686018427387904)
                    refine lv_if_eq (tgt := 215) hx hb dX7_reach_138 (by decide) (fun c_287 => ?_) (fun c_287 => ?_)
                    · have gc_287 : n_286.toInt = 0 := i_eq (rfl : n_286.toInt = n_286.toInt) (by decide : (0 : Int32).toInt = 0) c_287
                      obtain ⟨n_288, en_288⟩ : ∃ y : Int32, y = l_237 + 1 := ⟨_, rfl⟩
                      have tn_288 : n_288.toInt = l_237.toInt + 1 := i_add en_288 (rfl : l_237.toInt = l_237.toInt) (by decide : (1 : Int32).toInt = 1) (by omega) (by omega)
                      refine lv_iinc (v := n_288) (lv' := [(8, .int n_288), (12, .int n_285), (11, .int 1), (9, .long n_242), (7, .int 6), (0, .ref (hs 62)), (1, .int pc0), (2, .int st0), (3, .int bh), (4, .int k), (5, .long pr)]) hx hb dX7_reach_215 hl (k := 3) rfl (by rw [en_288]; rfl) (by decide) rfl (fun ls hl => ?_)
                      refine lv_goto (tgt := 63) hx hb dX7_reach_218 (by decide) ?_
                      exact ih63_238 f_236 n_288 (by omega) (by omega) _ _ _ hP hD hS (lv_sub hl [0, 4, 5, 6, 7, 8, 9, 10] rfl)
                    · have gc_287 : n_286.toInt ≠ 0 := i_ne (rfl : n_286.toInt = n_286.toInt) (by decide : (0 : Int32).toInt = 0) c_287
                      refine lv_aload_n hx hb dX7_reach_141 rfl (lv_at hl 5 rfl) ?_
                      refine gt_SP_search_most hx hb hts hown hK hP lwd_1044 dX7_reach_142 ?_
                      refine lv_iconst (v := (-1)) hx hb dX7_reach_145 (by decide) ?_
                      refine lv_icmp_eq (tgt := 158) hx hb dX7_reach_146 (by decide) (fun c_289 => ?_) (fun c_289 => ?_)
                      · have gc_289 : v_search_most.toInt = (-1) := i_eq (rfl : v_search_most.toInt = v_search_most.toInt) (by decide : ((-1) : Int32).toInt = (-1)) c_289
                        refine lv_iload hx hb dX7_reach_158 (lv_at hl 0 rfl) ?_
                        refine lv_bipush (v := 6) hx hb dX7_reach_160 (by decide) ?_
                        refine lv_imul hx hb dX7_reach_162 ?_
                        refine lv_topi (fun n_290 en_290 => ?_)
                        have tn_290 : n_290.toInt = ((l_237.toInt / 6) + 0) * 6 := i_mul en_290 tn_285 (by decide : (6 : Int32).toInt = 6) (by omega) (by omega)
                        refine lv_iload hx hb dX7_reach_163 (lv_at hl 9 rfl) ?_
                        refine lv_iadd hx hb dX7_reach_165 ?_
                        refine lv_topi (fun n_291 en_291 => ?_)
                        have tn_291 : n_291.toInt = (((l_237.toInt / 6) + 0) * 6) + k.toInt := i_add en_291 tn_290 (rfl : k.toInt = k.toInt) (by omega) (by omega)
                        refine lv_sipush (v := 1296) hx hb dX7_reach_166 (by decide) ?_
                        refine lv_imul hx hb dX7_reach_169 ?_
                        refine lv_topi (fun n_292 en_292 => ?_)
                        have tn_292 : n_292.toInt = ((((l_237.toInt / 6) + 0) * 6) + k.toInt) * 1296 := i_mul en_292 tn_291 (by decide : (1296 : Int32).toInt = 1296) (by omega) (by omega)
                        refine lv_iload_n hx hb dX7_reach_170 rfl (lv_at hl 8 rfl) ?_
                        refine lv_iadd hx hb dX7_reach_171 ?_
                        refine lv_topi (fun n_293 en_293 => ?_)
                        have tn_293 : n_293.toInt = (((((l_237.toInt / 6) + 0) * 6) + k.toInt) * 1296) + bh.toInt := i_add en_293 tn_292 (rfl : bh.toInt = bh.toInt) (by omega) (by omega)
                        refine lv_istore (lv' := [(13, .int n_293), (12, .int n_285), (11, .int 1), (9, .long n_242), (8, .int l_237), (7, .int 6), (0, .ref (hs 62)), (1, .int pc0), (2, .int st0), (3, .int bh), (4, .int k), (5, .long pr)]) hx hb dX7_reach_172 hl (by decide) rfl (fun ls hl => ?_)
                        refine lv_aload_n hx hb dX7_reach_174 rfl (lv_at hl 6 rfl) ?_
                        refine gt_SP_search_there hx hb hts hown hK hP lwd_124 dX7_reach_175 ?_
                        refine lv_iload hx hb dX7_reach_178 (lv_at hl 0 rfl) ?_
                        refine lv_aload_n hx hb dX7_reach_180 rfl (lv_at hl 6 rfl) ?_
                        refine gt_SP_search_there hx hb hts hown hK hP lwd_124 dX7_reach_181 ?_
                        refine lv_iload hx hb dX7_reach_184 (lv_at hl 0 rfl) ?_
                        refine al_there hx hb hK hP (i_in tn_293 (by omega) (by omega)) dX7_reach_186 (fun n_294 en_294 => ?_)
                        refine lv_lload hx hb dX7_reach_187 (lv_at hl 3 rfl) ?_
                        refine lv_lload hx hb dX7_reach_189 (lv_at hl 11 rfl) ?_
                        refine lv_ladd hx hb dX7_reach_191 ?_
                        refine lv_topl (fun n_295 en_295 => ?_)
                        refine lv_iload hx hb dX7_reach_192 (lv_at hl 2 rfl) ?_
                        refine lv_if_eq (tgt := 209) hx hb dX7_reach_194 (by decide) (fun c_296 => ?_) (fun c_296 => ?_)
                        · exact absurd c_296 (by decide)
                        · skip
                          refine lv_aload_n hx hb dX7_reach_197 rfl (lv_at hl 6 rfl) ?_
                          refine gt_SP_search_cost hx hb hts hown hK hP lwd_1043 dX7_reach_198 ?_
                          refine lv_i2l (v := v_search_cost.toInt64) hx hb dX7_reach_201 rfl ?_
                          have hl_297 : v_search_cost.toInt64.toInt = v_search_cost.toInt := i_l (rfl : v_search_cost.toInt = v_search_cost.toInt)
                          refine lv_ldc2 hx hb hown (hts _ lwd_1046) dX7_reach_202 ?_
                          refine lv_lmul hx hb dX7_reach_205 ?_
                          refine lv_topl (fun n_298 en_298 => ?_)
                          refine lv_goto (tgt := 210) hx hb dX7_reach_206 (by decide) ?_
                          refine lv_ladd hx hb dX7_reach_210 ?_
                          refine lv_topl (fun n_299 en_299 => ?_)
                          refine va_mmin_long hx hb (by rw [hml]; exact hl.1.symm) hown (hts _ lwd_1051) (hts _ lwd_1052) (hts _ lwd_529) (hts _ lwd_1053) (Nat.le_of_ble_eq_true rfl) (Nat.le_of_ble_eq_true rfl) (Nat.zero_le _) (Nat.zero_le _) dX7_reach_211 ?_
                          refine lv_topl (fun n_300 en_300 => ?_)
                          refine as_there (x := n_300) hx hb hK hP hD hS (i_in tn_293 (by omega) (by omega)) dX7_reach_214 (fun f_301 ef_301 H locs hP hD hS => ?_)
                          obtain ⟨n_302, en_302⟩ : ∃ y : Int32, y = l_237 + 1 := ⟨_, rfl⟩
                          have tn_302 : n_302.toInt = l_237.toInt + 1 := i_add en_302 (rfl : l_237.toInt = l_237.toInt) (by decide : (1 : Int32).toInt = 1) (by omega) (by omega)
                          refine lv_iinc (v := n_302) (lv' := [(8, .int n_302), (13, .int n_293), (12, .int n_285), (11, .int 1), (9, .long n_242), (7, .int 6), (0, .ref (hs 62)), (1, .int pc0), (2, .int st0), (3, .int bh), (4, .int k), (5, .long pr)]) hx hb dX7_reach_215 hl (k := 4) rfl (by rw [en_302]; rfl) (by decide) rfl (fun ls hl => ?_)
                          refine lv_goto (tgt := 63) hx hb dX7_reach_218 (by decide) ?_
                          exact ih63_238 f_301 n_302 (by omega) (by omega) _ _ _ hP hD hS (lv_sub hl [0, 5, 6, 7, 8, 9, 10, 11] rfl)
                      · have gc_289 : v_search_most.toInt ≠ (-1) := i_ne (rfl : v_search_most.toInt = v_search_most.toInt) (by decide : ((-1) : Int32).toInt = (-1)) c_289
                        exact absurd gc_289 (by omega)
                  · have gc_284 : v_search_most.toInt ≠ (-1) := i_ne (rfl : v_search_most.toInt = v_search_most.toInt) (by decide : ((-1) : Int32).toInt = (-1)) c_284
                    exact absurd gc_284 (by omega)
      have k_303 : (0 : Int32).toInt = 0 := by decide
      exact L63_238 8589934592 f_there 0 (by omega) (by omega) _ _ _ hP hD hS (lv_sub hl [0, 1, 2, 3, 4, 5, 6, 7] rfl)
set_option maxHeartbeats 16000000 in
set_option maxRecDepth 100000 in
theorem c_X7_pacedBy (l : Launch) (D : va_G) (cy : Nat → ClassId) (hs : Nat → Nat) (hH hT sH sT : Nat) (v_tape_size v_band_walkers v_band_loads v_band_pieces v_rules_clauses v_reader_end v_reader_at v_reader_length v_reader_letter v_reader_fault v_draft_clauses v_paces_version v_packing_quicker v_packing_loads v_packing_looseCount v_marches_told v_marches_changeMinutes v_marches_marching v_marches_gone v_search_known v_search_countHere v_search_countThere v_search_cost v_search_most : Int32) (v_search_found : Int64) (f_bytes f_knee f_weight f_limps f_bheft f_owner f_food f_miles f_slope f_rsteps f_rkind f_ryields f_rholds f_rletters f_rstack f_dsteps f_dkind f_dyields f_dholds f_dletters f_dstack f_caps f_versions f_sharing f_pheft f_prow f_holder f_comes f_pcaps f_room f_loose f_reached f_mrow f_minutesOn f_mtired : Nat → Int32) (f_here f_there : Nat → Int64) (f_statesHere f_statesThere f_listed f_stired f_burdens f_pacesOn f_restedOn f_behindOn f_behindFor f_first f_second : Nat → Int32) (f_plans f_tiredOn : Nat → Nat → Int32) (tS : Nat) (sz : Nat) (k : Int32) (i : Int32) (hb_v_band_walkers : 0 ≤ v_band_walkers.toInt ∧ v_band_walkers.toInt ≤ 6) (hb_v_rules_clauses : 0 ≤ v_rules_clauses.toInt ∧ v_rules_clauses.toInt ≤ 14) (hr_weight : rg (0) 250 f_weight) (hr_limps : rg (0) 1 f_limps) (hr_miles : rg (0) 20 f_miles) (hr_stired : rg (0) 5 f_stired) (hr_pacesOn : rg (-1) 60 f_pacesOn) (ha_k : 0 ≤ k.toInt ∧ k.toInt ≤ 5) (ha_i : 0 ≤ i.toInt ∧ i.toInt ≤ 9) (hw4 : v_band_walkers.toInt ≤ 4) : gMi l yX7_pacedBy cX7_pacedBy 7 .int 4 [.ref (hs 62), .int k, .int i] D cy (wSP cy hs hH hT sH sT v_tape_size v_band_walkers v_band_loads v_band_pieces v_rules_clauses v_reader_end v_reader_at v_reader_length v_reader_letter v_reader_fault v_draft_clauses v_paces_version v_packing_quicker v_packing_loads v_packing_looseCount v_marches_told v_marches_changeMinutes v_marches_marching v_marches_gone v_search_known v_search_countHere v_search_countThere v_search_cost v_search_most v_search_found f_bytes f_knee f_weight f_limps f_bheft f_owner f_food f_miles f_slope f_rsteps f_rkind f_ryields f_rholds f_rletters f_rstack f_dsteps f_dkind f_dyields f_dholds f_dletters f_dstack f_caps f_versions f_sharing f_pheft f_prow f_holder f_comes f_pcaps f_room f_loose f_reached f_mrow f_minutesOn f_mtired f_here f_there f_statesHere f_statesThere f_listed f_stired f_burdens f_pacesOn f_restedOn f_behindOn f_behindFor f_first f_second f_plans f_tiredOn) (NS tS) sz (fun (r : Int32) (u : (Nat → Int32) × (Nat → Int32) × (Nat → Int32)) => (-1 ≤ r.toInt ∧ r.toInt ≤ 60) ∧ (rg (-1) 60 (u.2.2))) (fun u => wSP cy hs hH hT sH sT v_tape_size v_band_walkers v_band_loads v_band_pieces v_rules_clauses v_reader_end v_reader_at v_reader_length v_reader_letter v_reader_fault v_draft_clauses v_paces_version v_packing_quicker v_packing_loads v_packing_looseCount v_marches_told v_marches_changeMinutes v_marches_marching v_marches_gone v_search_known v_search_countHere v_search_countThere v_search_cost v_search_most v_search_found f_bytes f_knee f_weight f_limps f_bheft f_owner f_food f_miles f_slope f_rsteps f_rkind f_ryields f_rholds (u.1) (u.2.1) f_dsteps f_dkind f_dyields f_dholds f_dletters f_dstack f_caps f_versions f_sharing f_pheft f_prow f_holder f_comes f_pcaps f_room f_loose f_reached f_mrow f_minutesOn f_mtired f_here f_there f_statesHere f_statesThere f_listed f_stired f_burdens (u.2.2) f_restedOn f_behindOn f_behindFor f_first f_second f_plans f_tiredOn) := by
  refine gMi_in (by decide) (Nat.le_of_ble_eq_true rfl) ?_
  intro p e s m args below meth c A ls Q hx hb hml hts hown hsz hP hK hD hN hAe hA hS hl hret
  subst hsz
  have hl : lv_has ls 7 [(0, .ref (hs 62)), (1, .int k), (2, .int i)] := hl
  have hrt := fun (r : Int32) (f_rletters' : Nat → Int32) (f_rstack' : Nat → Int32) (f_pacesOn' : Nat → Int32) (hp : (-1 ≤ r.toInt ∧ r.toInt ≤ 60) ∧ (rg (-1) 60 f_pacesOn')) {H : Heap} {locs : List Loc} {pc : Nat} {ls : Array Slot} => hret r (f_rletters', f_rstack', f_pacesOn') (H := H) (locs := locs) (pc := pc) (ls := ls) hp
  clear hret
  refine lv_bipush (v := 60) hx hb dX7_pacedBy_0 (by decide) ?_
  refine lv_istore_n (lv' := [(3, .int 60), (0, .ref (hs 62)), (1, .int k), (2, .int i)]) hx hb dX7_pacedBy_2 rfl hl (by decide) rfl (fun ls hl => ?_)
  refine lv_iconst (v := 0) hx hb dX7_pacedBy_3 (by decide) ?_
  refine lv_istore (lv' := [(4, .int 0), (3, .int 60), (0, .ref (hs 62)), (1, .int k), (2, .int i)]) hx hb dX7_pacedBy_4 hl (by decide) rfl (fun ls hl => ?_)
  have L6_11 : ∀ (n : Nat) (f_6 : Nat → Int32) (f_7 : Nat → Int32) (f_8 : Nat → Int32) (l_9 : Int32) (l_10 : Int32), (rg (-1) 60 f_6) → (-1 ≤ l_9.toInt ∧ l_9.toInt ≤ 60) → (0 ≤ l_10.toInt ∧ l_10.toInt ≤ 6) → 7 - l_10.toInt < n → ∀ (H : Heap) (locs : List Loc) (ls : Array Slot), va_P D vwCl (wSP cy hs hH hT sH sT v_tape_size v_band_walkers v_band_loads v_band_pieces v_rules_clauses v_reader_end v_reader_at v_reader_length v_reader_letter v_reader_fault v_draft_clauses v_paces_version v_packing_quicker v_packing_loads v_packing_looseCount v_marches_told v_marches_changeMinutes v_marches_marching v_marches_gone v_search_known v_search_countHere v_search_countThere v_search_cost v_search_most v_search_found f_bytes f_knee f_weight f_limps f_bheft f_owner f_food f_miles f_slope f_rsteps f_rkind f_ryields f_rholds f_7 f_8 f_dsteps f_dkind f_dyields f_dholds f_dletters f_dstack f_caps f_versions f_sharing f_pheft f_prow f_holder f_comes f_pcaps f_room f_loose f_reached f_mrow f_minutesOn f_mtired f_here f_there f_statesHere f_statesThere f_listed f_stired f_burdens f_6 f_restedOn f_behindOn f_behindFor f_first f_second f_plans f_tiredOn) H → va_D A (wSP cy hs hH hT sH sT v_tape_size v_band_walkers v_band_loads v_band_pieces v_rules_clauses v_reader_end v_reader_at v_reader_length v_reader_letter v_reader_fault v_draft_clauses v_paces_version v_packing_quicker v_packing_loads v_packing_looseCount v_marches_told v_marches_changeMinutes v_marches_marching v_marches_gone v_search_known v_search_countHere v_search_countThere v_search_cost v_search_most v_search_found f_bytes f_knee f_weight f_limps f_bheft f_owner f_food f_miles f_slope f_rsteps f_rkind f_ryields f_rholds f_7 f_8 f_dsteps f_dkind f_dyields f_dholds f_dletters f_dstack f_caps f_versions f_sharing f_pheft f_prow f_holder f_comes f_pcaps f_room f_loose f_reached f_mrow f_minutesOn f_mtired f_here f_there f_statesHere f_statesThere f_listed f_stired f_burdens f_6 f_restedOn f_behindOn f_behindFor f_first f_second f_plans f_tiredOn) → va_S A s.heap H locs → lv_has ls 7 [(4, .int l_10), (3, .int l_9), (0, .ref (hs 62)), (1, .int k), (2, .int i)] → W p l e (gRm 4) s m args below meth c H locs 0 0 Q (F0 m 6 ls []) := by
    intro n
    induction n with
    | zero => intro f_6 f_7 f_8 l_9 l_10 hL6_11_0 hL6_11_1 hL6_11_2 hm; exact absurd hm (by omega)
    | succ n ih6_11 =>
      intro f_6 f_7 f_8 l_9 l_10 hL6_11_0 hL6_11_1 hL6_11_2 hmL6_11 H locs ls hP hD hS hl
      refine lv_iload hx hb dX7_pacedBy_6 (lv_at hl 0 rfl) ?_
      refine lv_aload_n hx hb dX7_pacedBy_8 rfl (lv_at hl 2 rfl) ?_
      refine gt_SP_search_band hx hb hts hown hK hP lwd_134 dX7_pacedBy_9 ?_
      refine gt_SP_band_walkers hx hb hts hown hK hP lwd_1058 dX7_pacedBy_12 ?_
      refine lv_icmp_ge (tgt := 101) hx hb dX7_pacedBy_15 (by decide) (fun c_12 => ?_) (fun c_12 => ?_)
      · have gc_12 : v_band_walkers.toInt ≤ l_10.toInt := i_le (rfl : v_band_walkers.toInt = v_band_walkers.toInt) (rfl : l_10.toInt = l_10.toInt) c_12
        refine lv_iload_n hx hb dX7_pacedBy_101 rfl (lv_at hl 1 rfl) ?_
        exact hrt l_9 f_7 f_8 f_6 ⟨(by omega), hL6_11_0⟩ hP hD hS rfl dX7_pacedBy_102
      · have gc_12 : l_10.toInt < v_band_walkers.toInt := i_nle (rfl : v_band_walkers.toInt = v_band_walkers.toInt) (rfl : l_10.toInt = l_10.toInt) c_12
        refine lv_iload_n hx hb dX7_pacedBy_18 rfl (lv_at hl 3 rfl) ?_
        refine lv_iconst (v := 4) hx hb dX7_pacedBy_19 (by decide) ?_
        refine lv_imul hx hb dX7_pacedBy_20 ?_
        refine lv_topi (fun n_13 en_13 => ?_)
        have tn_13 : n_13.toInt = k.toInt * 4 := i_mul en_13 (rfl : k.toInt = k.toInt) (by decide : (4 : Int32).toInt = 4) (by omega) (by omega)
        refine lv_iload hx hb dX7_pacedBy_21 (lv_at hl 0 rfl) ?_
        refine lv_iadd hx hb dX7_pacedBy_23 ?_
        refine lv_topi (fun n_14 en_14 => ?_)
        have tn_14 : n_14.toInt = (k.toInt * 4) + l_10.toInt := i_add en_14 tn_13 (rfl : l_10.toInt = l_10.toInt) (by omega) (by omega)
        refine lv_istore (lv' := [(5, .int n_14), (4, .int l_10), (3, .int l_9), (0, .ref (hs 62)), (1, .int k), (2, .int i)]) hx hb dX7_pacedBy_24 hl (by decide) rfl (fun ls hl => ?_)
        refine lv_iload hx hb dX7_pacedBy_26 (lv_at hl 0 rfl) ?_
        refine lv_bipush (v := 6) hx hb dX7_pacedBy_28 (by decide) ?_
        refine lv_imul hx hb dX7_pacedBy_30 ?_
        refine lv_topi (fun n_15 en_15 => ?_)
        have tn_15 : n_15.toInt = ((k.toInt * 4) + l_10.toInt) * 6 := i_mul en_15 tn_14 (by decide : (6 : Int32).toInt = 6) (by omega) (by omega)
        refine lv_aload_n hx hb dX7_pacedBy_31 rfl (lv_at hl 3 rfl) ?_
        refine gt_SP_search_tired hx hb hts hown hK hP lwd_128 dX7_pacedBy_32 ?_
        refine lv_iload hx hb dX7_pacedBy_35 (lv_at hl 1 rfl) ?_
        refine al_stired hx hb hK hP hr_stired (i_in (rfl : l_10.toInt = l_10.toInt) (by omega) (by omega)) dX7_pacedBy_37 (fun n_16 en_16 bn_16 => ?_)
        refine lv_iadd hx hb dX7_pacedBy_38 ?_
        refine lv_topi (fun n_17 en_17 => ?_)
        have tn_17 : n_17.toInt = (((k.toInt * 4) + l_10.toInt) * 6) + n_16.toInt := i_add en_17 tn_15 (rfl : n_16.toInt = n_16.toInt) (by omega) (by omega)
        refine lv_istore (lv' := [(6, .int n_17), (5, .int n_14), (4, .int l_10), (3, .int l_9), (0, .ref (hs 62)), (1, .int k), (2, .int i)]) hx hb dX7_pacedBy_39 hl (by decide) rfl (fun ls hl => ?_)
        refine lv_aload_n hx hb dX7_pacedBy_41 rfl (lv_at hl 4 rfl) ?_
        refine gt_SP_search_pacesOn hx hb hts hown hK hP lwd_130 dX7_pacedBy_42 ?_
        refine lv_iload hx hb dX7_pacedBy_45 (lv_at hl 0 rfl) ?_
        refine al_pacesOn hx hb hK hP hL6_11_0 (i_in tn_17 (by omega) (by omega)) dX7_pacedBy_47 (fun n_18 en_18 bn_18 => ?_)
        refine lv_iconst (v := (-1)) hx hb dX7_pacedBy_48 (by decide) ?_
        refine lv_icmp_ne (tgt := 83) hx hb dX7_pacedBy_49 (by decide) (fun c_19 => ?_) (fun c_19 => ?_)
        · have gc_19 : n_18.toInt ≠ (-1) := i_ne (rfl : n_18.toInt = n_18.toInt) (by decide : ((-1) : Int32).toInt = (-1)) c_19
          refine lv_iload_n hx hb dX7_pacedBy_83 rfl (lv_at hl 3 rfl) ?_
          refine lv_aload_n hx hb dX7_pacedBy_84 rfl (lv_at hl 4 rfl) ?_
          refine gt_SP_search_pacesOn hx hb hts hown hK hP lwd_130 dX7_pacedBy_85 ?_
          refine lv_iload hx hb dX7_pacedBy_88 (lv_at hl 0 rfl) ?_
          refine al_pacesOn hx hb hK hP hL6_11_0 (i_in tn_17 (by omega) (by omega)) dX7_pacedBy_90 (fun n_20 en_20 bn_20 => ?_)
          obtain rfl : n_18 = n_20 := en_18.trans en_20.symm
          refine va_mmin hx hb (by rw [hml]; exact hl.1.symm) hown (hts _ lwd_1070) (hts _ lwd_528) (hts _ lwd_529) (hts _ lwd_530) (Nat.le_of_ble_eq_true rfl) (Nat.le_of_ble_eq_true rfl) (Nat.zero_le _) (Nat.zero_le _) dX7_pacedBy_91 ?_
          refine lv_topi (fun n_21 en_21 => ?_)
          have tn_21 := i_min en_21 (rfl : l_9.toInt = l_9.toInt) (rfl : n_18.toInt = n_18.toInt)
          refine lv_istore_n (lv' := [(3, .int n_21), (6, .int n_17), (5, .int n_14), (4, .int l_10), (0, .ref (hs 62)), (1, .int k), (2, .int i)]) hx hb dX7_pacedBy_94 rfl hl (by decide) rfl (fun ls hl => ?_)
          obtain ⟨n_22, en_22⟩ : ∃ y : Int32, y = l_10 + 1 := ⟨_, rfl⟩
          have tn_22 : n_22.toInt = l_10.toInt + 1 := i_add en_22 (rfl : l_10.toInt = l_10.toInt) (by decide : (1 : Int32).toInt = 1) (by omega) (by omega)
          refine lv_iinc (v := n_22) (lv' := [(4, .int n_22), (3, .int n_21), (6, .int n_17), (5, .int n_14), (0, .ref (hs 62)), (1, .int k), (2, .int i)]) hx hb dX7_pacedBy_95 hl (k := 3) rfl (by rw [en_22]; rfl) (by decide) rfl (fun ls hl => ?_)
          refine lv_goto (tgt := 6) hx hb dX7_pacedBy_98 (by decide) ?_
          exact ih6_11 f_6 f_7 f_8 n_21 n_22 hL6_11_0 (by omega) (by omega) (by omega) _ _ _ hP hD hS (lv_sub hl [0, 1, 4, 5, 6] rfl)
        · have gc_19 : n_18.toInt = (-1) := i_eq (rfl : n_18.toInt = n_18.toInt) (by decide : ((-1) : Int32).toInt = (-1)) c_19
          refine lv_aload_n hx hb dX7_pacedBy_52 rfl (lv_at hl 4 rfl) ?_
          refine gt_SP_search_pacesOn hx hb hts hown hK hP lwd_130 dX7_pacedBy_53 ?_
          refine lv_iload hx hb dX7_pacedBy_56 (lv_at hl 0 rfl) ?_
          refine lv_aload_n hx hb dX7_pacedBy_58 rfl (lv_at hl 4 rfl) ?_
          refine gt_SP_search_paces hx hb hts hown hK hP lwd_135 dX7_pacedBy_59 ?_
          refine lv_iload hx hb dX7_pacedBy_62 (lv_at hl 2 rfl) ?_
          refine lv_aload_n hx hb dX7_pacedBy_64 rfl (lv_at hl 4 rfl) ?_
          refine gt_SP_search_burdens hx hb hts hown hK hP lwd_129 dX7_pacedBy_65 ?_
          refine lv_iload hx hb dX7_pacedBy_68 (lv_at hl 1 rfl) ?_
          refine al_burdens hx hb hK hP (i_in tn_14 (by omega) (by omega)) dX7_pacedBy_70 (fun n_23 en_23 => ?_)
          refine lv_aload_n hx hb dX7_pacedBy_71 rfl (lv_at hl 4 rfl) ?_
          refine gt_SP_search_tired hx hb hts hown hK hP lwd_128 dX7_pacedBy_72 ?_
          refine lv_iload hx hb dX7_pacedBy_75 (lv_at hl 2 rfl) ?_
          refine al_stired hx hb hK hP hr_stired (i_in (rfl : l_10.toInt = l_10.toInt) (by omega) (by omega)) dX7_pacedBy_77 (fun n_24 en_24 bn_24 => ?_)
          obtain rfl : n_16 = n_24 := en_16.trans en_24.symm
          refine lv_iload_n hx hb dX7_pacedBy_78 rfl (lv_at hl 6 rfl) ?_
          refine xi hD hS hA (xV (As := [.int l_10, .int n_23, .int n_16, .int i]) (rest := [.int n_17, .ref (hs 70)]) hx hb hml hown hts hK hP hD hS hA NS_ok hN hAe hl.1 ⟨Nat.le_refl _, Nat.le_refl _⟩ 27 rfl rfl rfl (c_X3_paceOf l D cy hs hH hT sH sT v_tape_size v_band_walkers v_band_loads v_band_pieces v_rules_clauses v_reader_end v_reader_at v_reader_length v_reader_letter v_reader_fault v_draft_clauses v_paces_version v_packing_quicker v_packing_loads v_packing_looseCount v_marches_told v_marches_changeMinutes v_marches_marching v_marches_gone v_search_known v_search_countHere v_search_countThere v_search_cost v_search_most v_search_found f_bytes f_knee f_weight f_limps f_bheft f_owner f_food f_miles f_slope f_rsteps f_rkind f_ryields f_rholds f_7 f_8 f_dsteps f_dkind f_dyields f_dholds f_dletters f_dstack f_caps f_versions f_sharing f_pheft f_prow f_holder f_comes f_pcaps f_room f_loose f_reached f_mrow f_minutesOn f_mtired f_here f_there f_statesHere f_statesThere f_listed f_stired f_burdens f_6 f_restedOn f_behindOn f_behindFor f_first f_second f_plans f_tiredOn tS H.size l_10 n_23 n_16 i (by omega) (by omega) hr_weight hr_limps hr_miles (by omega) (by omega)) (gi_V lwd_1071 lwd_510 lwd_511 lwd_30 lwd_512) ⟨rfl, hd_X3_paceOf⟩ ⟨Nat.le_of_ble_eq_true rfl, Nat.le_of_ble_eq_true rfl⟩ rfl (Nat.le_of_ble_eq_true rfl) dX7_pacedBy_79) (fun r_26 u_25 H locs hw hP hD hS => ?_)
          obtain ⟨zrletters_27, zrstack_28⟩ := u_25
          try dsimp only at hw hP hD
          have p_29 := hw
          clear hw
          refine as_pacesOn (x := r_26) hx hb hK hP hD hS hL6_11_0 (i_in tn_17 (by omega) (by omega)) (by omega) dX7_pacedBy_82 (fun f_30 ef_30 rf_30 H locs hP hD hS => ?_)
          refine lv_iload_n hx hb dX7_pacedBy_83 rfl (lv_at hl 3 rfl) ?_
          refine lv_aload_n hx hb dX7_pacedBy_84 rfl (lv_at hl 4 rfl) ?_
          refine gt_SP_search_pacesOn hx hb hts hown hK hP lwd_130 dX7_pacedBy_85 ?_
          refine lv_iload hx hb dX7_pacedBy_88 (lv_at hl 0 rfl) ?_
          refine al_pacesOn hx hb hK hP rf_30 (i_in tn_17 (by omega) (by omega)) dX7_pacedBy_90 (fun n_31 en_31 bn_31 => ?_)
          have hsn_31 : n_31.toInt = r_26.toInt := by rw [en_31, ef_30, upd_at]
          refine va_mmin hx hb (by rw [hml]; exact hl.1.symm) hown (hts _ lwd_1070) (hts _ lwd_528) (hts _ lwd_529) (hts _ lwd_530) (Nat.le_of_ble_eq_true rfl) (Nat.le_of_ble_eq_true rfl) (Nat.zero_le _) (Nat.zero_le _) dX7_pacedBy_91 ?_
          refine lv_topi (fun n_32 en_32 => ?_)
          have tn_32 := i_min en_32 (rfl : l_9.toInt = l_9.toInt) (rfl : n_31.toInt = n_31.toInt)
          refine lv_istore_n (lv' := [(3, .int n_32), (6, .int n_17), (5, .int n_14), (4, .int l_10), (0, .ref (hs 62)), (1, .int k), (2, .int i)]) hx hb dX7_pacedBy_94 rfl hl (by decide) rfl (fun ls hl => ?_)
          obtain ⟨n_33, en_33⟩ : ∃ y : Int32, y = l_10 + 1 := ⟨_, rfl⟩
          have tn_33 : n_33.toInt = l_10.toInt + 1 := i_add en_33 (rfl : l_10.toInt = l_10.toInt) (by decide : (1 : Int32).toInt = 1) (by omega) (by omega)
          refine lv_iinc (v := n_33) (lv' := [(4, .int n_33), (3, .int n_32), (6, .int n_17), (5, .int n_14), (0, .ref (hs 62)), (1, .int k), (2, .int i)]) hx hb dX7_pacedBy_95 hl (k := 3) rfl (by rw [en_33]; rfl) (by decide) rfl (fun ls hl => ?_)
          refine lv_goto (tgt := 6) hx hb dX7_pacedBy_98 (by decide) ?_
          exact ih6_11 f_30 zrletters_27 zrstack_28 n_32 n_33 rf_30 (by omega) (by omega) (by omega) _ _ _ hP hD hS (lv_sub hl [0, 1, 4, 5, 6] rfl)
  have k_34 : (60 : Int32).toInt = 60 := by decide
  have k_35 : (0 : Int32).toInt = 0 := by decide
  exact L6_11 8589934592 f_pacesOn f_rletters f_rstack 60 0 hr_pacesOn (by omega) (by omega) (by omega) _ _ _ hP hD hS (lv_sub hl [0, 1, 2, 3, 4] rfl)
set_option maxHeartbeats 16000000 in
set_option maxRecDepth 100000 in
theorem c_X7_behind (l : Launch) (D : va_G) (cy : Nat → ClassId) (hs : Nat → Nat) (hH hT sH sT : Nat) (v_tape_size v_band_walkers v_band_loads v_band_pieces v_rules_clauses v_reader_end v_reader_at v_reader_length v_reader_letter v_reader_fault v_draft_clauses v_paces_version v_packing_quicker v_packing_loads v_packing_looseCount v_marches_told v_marches_changeMinutes v_marches_marching v_marches_gone v_search_known v_search_countHere v_search_countThere v_search_cost v_search_most : Int32) (v_search_found : Int64) (f_bytes f_knee f_weight f_limps f_bheft f_owner f_food f_miles f_slope f_rsteps f_rkind f_ryields f_rholds f_rletters f_rstack f_dsteps f_dkind f_dyields f_dholds f_dletters f_dstack f_caps f_versions f_sharing f_pheft f_prow f_holder f_comes f_pcaps f_room f_loose f_reached f_mrow f_minutesOn f_mtired : Nat → Int32) (f_here f_there : Nat → Int64) (f_statesHere f_statesThere f_listed f_stired f_burdens f_pacesOn f_restedOn f_behindOn f_behindFor f_first f_second : Nat → Int32) (f_plans f_tiredOn : Nat → Nat → Int32) (tS : Nat) (sz : Nat) (k : Int32) (i : Int32) (mi : Int32) (hb_v_band_walkers : 0 ≤ v_band_walkers.toInt ∧ v_band_walkers.toInt ≤ 6) (hb_v_rules_clauses : 0 ≤ v_rules_clauses.toInt ∧ v_rules_clauses.toInt ≤ 14) (hr_weight : rg (0) 250 f_weight) (hr_miles : rg (0) 20 f_miles) (hr_stired : rg (0) 5 f_stired) (hr_behindOn : rg (0) 5 f_behindOn) (ha_k : 0 ≤ k.toInt ∧ k.toInt ≤ 5) (ha_i : 0 ≤ i.toInt ∧ i.toInt ≤ 9) (hw4 : v_band_walkers.toInt ≤ 4) : gMi l yX7_behind cX7_behind 8 .int 4 [.ref (hs 62), .int k, .int i, .int mi] D cy (wSP cy hs hH hT sH sT v_tape_size v_band_walkers v_band_loads v_band_pieces v_rules_clauses v_reader_end v_reader_at v_reader_length v_reader_letter v_reader_fault v_draft_clauses v_paces_version v_packing_quicker v_packing_loads v_packing_looseCount v_marches_told v_marches_changeMinutes v_marches_marching v_marches_gone v_search_known v_search_countHere v_search_countThere v_search_cost v_search_most v_search_found f_bytes f_knee f_weight f_limps f_bheft f_owner f_food f_miles f_slope f_rsteps f_rkind f_ryields f_rholds f_rletters f_rstack f_dsteps f_dkind f_dyields f_dholds f_dletters f_dstack f_caps f_versions f_sharing f_pheft f_prow f_holder f_comes f_pcaps f_room f_loose f_reached f_mrow f_minutesOn f_mtired f_here f_there f_statesHere f_statesThere f_listed f_stired f_burdens f_pacesOn f_restedOn f_behindOn f_behindFor f_first f_second f_plans f_tiredOn) (NS tS) sz (fun (r : Int32) (u : (Nat → Int32) × (Nat → Int32) × (Nat → Int32) × (Nat → Int32)) => (0 ≤ r.toInt ∧ r.toInt ≤ 1295) ∧ (rg (0) 5 (u.2.2.1))) (fun u => wSP cy hs hH hT sH sT v_tape_size v_band_walkers v_band_loads v_band_pieces v_rules_clauses v_reader_end v_reader_at v_reader_length v_reader_letter v_reader_fault v_draft_clauses v_paces_version v_packing_quicker v_packing_loads v_packing_looseCount v_marches_told v_marches_changeMinutes v_marches_marching v_marches_gone v_search_known v_search_countHere v_search_countThere v_search_cost v_search_most v_search_found f_bytes f_knee f_weight f_limps f_bheft f_owner f_food f_miles f_slope f_rsteps f_rkind f_ryields f_rholds (u.1) (u.2.1) f_dsteps f_dkind f_dyields f_dholds f_dletters f_dstack f_caps f_versions f_sharing f_pheft f_prow f_holder f_comes f_pcaps f_room f_loose f_reached f_mrow f_minutesOn f_mtired f_here f_there f_statesHere f_statesThere f_listed f_stired f_burdens f_pacesOn f_restedOn (u.2.2.1) (u.2.2.2) f_first f_second f_plans f_tiredOn) := by
  refine gMi_in (by decide) (Nat.le_of_ble_eq_true rfl) ?_
  intro p e s m args below meth c A ls Q hx hb hml hts hown hsz hP hK hD hN hAe hA hS hl hret
  subst hsz
  have hl : lv_has ls 8 [(0, .ref (hs 62)), (1, .int k), (2, .int i), (3, .int mi)] := hl
  have hrt := fun (r : Int32) (f_rletters' : Nat → Int32) (f_rstack' : Nat → Int32) (f_behindOn' : Nat → Int32) (f_behindFor' : Nat → Int32) (hp : (0 ≤ r.toInt ∧ r.toInt ≤ 1295) ∧ (rg (0) 5 f_behindOn')) {H : Heap} {locs : List Loc} {pc : Nat} {ls : Array Slot} => hret r (f_rletters', f_rstack', f_behindOn', f_behindFor') (H := H) (locs := locs) (pc := pc) (ls := ls) hp
  clear hret
  refine lv_iconst (v := 0) hx hb dX7_behind_0 (by decide) ?_
  refine lv_istore (lv' := [(4, .int 0), (0, .ref (hs 62)), (1, .int k), (2, .int i), (3, .int mi)]) hx hb dX7_behind_1 hl (by decide) rfl (fun ls hl => ?_)
  refine lv_iconst (v := 0) hx hb dX7_behind_3 (by decide) ?_
  refine lv_istore (lv' := [(5, .int 0), (4, .int 0), (0, .ref (hs 62)), (1, .int k), (2, .int i), (3, .int mi)]) hx hb dX7_behind_4 hl (by decide) rfl (fun ls hl => ?_)
  have L6_13 : ∀ (n : Nat) (f_7 : Nat → Int32) (f_8 : Nat → Int32) (f_9 : Nat → Int32) (f_10 : Nat → Int32) (l_11 : Int32) (l_12 : Int32), (rg (0) 5 f_8) → (0 ≤ l_11.toInt ∧ l_11.toInt ≤ 1295) → (0 ≤ l_12.toInt ∧ l_12.toInt ≤ 6) → ((l_12.toInt = 0 ∧ l_11.toInt ≤ 0) ∨ (l_12.toInt = 1 ∧ l_11.toInt ≤ 5) ∨ (l_12.toInt = 2 ∧ l_11.toInt ≤ 35) ∨ (l_12.toInt = 3 ∧ l_11.toInt ≤ 215) ∨ (l_12.toInt = 4 ∧ l_11.toInt ≤ 1295)) → 7 - l_12.toInt < n → ∀ (H : Heap) (locs : List Loc) (ls : Array Slot), va_P D vwCl (wSP cy hs hH hT sH sT v_tape_size v_band_walkers v_band_loads v_band_pieces v_rules_clauses v_reader_end v_reader_at v_reader_length v_reader_letter v_reader_fault v_draft_clauses v_paces_version v_packing_quicker v_packing_loads v_packing_looseCount v_marches_told v_marches_changeMinutes v_marches_marching v_marches_gone v_search_known v_search_countHere v_search_countThere v_search_cost v_search_most v_search_found f_bytes f_knee f_weight f_limps f_bheft f_owner f_food f_miles f_slope f_rsteps f_rkind f_ryields f_rholds f_9 f_10 f_dsteps f_dkind f_dyields f_dholds f_dletters f_dstack f_caps f_versions f_sharing f_pheft f_prow f_holder f_comes f_pcaps f_room f_loose f_reached f_mrow f_minutesOn f_mtired f_here f_there f_statesHere f_statesThere f_listed f_stired f_burdens f_pacesOn f_restedOn f_8 f_7 f_first f_second f_plans f_tiredOn) H → va_D A (wSP cy hs hH hT sH sT v_tape_size v_band_walkers v_band_loads v_band_pieces v_rules_clauses v_reader_end v_reader_at v_reader_length v_reader_letter v_reader_fault v_draft_clauses v_paces_version v_packing_quicker v_packing_loads v_packing_looseCount v_marches_told v_marches_changeMinutes v_marches_marching v_marches_gone v_search_known v_search_countHere v_search_countThere v_search_cost v_search_most v_search_found f_bytes f_knee f_weight f_limps f_bheft f_owner f_food f_miles f_slope f_rsteps f_rkind f_ryields f_rholds f_9 f_10 f_dsteps f_dkind f_dyields f_dholds f_dletters f_dstack f_caps f_versions f_sharing f_pheft f_prow f_holder f_comes f_pcaps f_room f_loose f_reached f_mrow f_minutesOn f_mtired f_here f_there f_statesHere f_statesThere f_listed f_stired f_burdens f_pacesOn f_restedOn f_8 f_7 f_first f_second f_plans f_tiredOn) → va_S A s.heap H locs → lv_has ls 8 [(5, .int l_12), (4, .int l_11), (0, .ref (hs 62)), (1, .int k), (2, .int i), (3, .int mi)] → W p l e (gRm 4) s m args below meth c H locs 0 0 Q (F0 m 6 ls []) := by
    intro n
    induction n with
    | zero => intro f_7 f_8 f_9 f_10 l_11 l_12 hL6_13_0 hL6_13_1 hL6_13_2 hL6_13_3 hm; exact absurd hm (by omega)
    | succ n ih6_13 =>
      intro f_7 f_8 f_9 f_10 l_11 l_12 hL6_13_0 hL6_13_1 hL6_13_2 hL6_13_3 hmL6_13 H locs ls hP hD hS hl
      refine lv_iload hx hb dX7_behind_6 (lv_at hl 0 rfl) ?_
      refine lv_aload_n hx hb dX7_behind_8 rfl (lv_at hl 2 rfl) ?_
      refine gt_SP_search_band hx hb hts hown hK hP lwd_134 dX7_behind_9 ?_
      refine gt_SP_band_walkers hx hb hts hown hK hP lwd_1058 dX7_behind_12 ?_
      refine lv_icmp_ge (tgt := 117) hx hb dX7_behind_15 (by decide) (fun c_14 => ?_) (fun c_14 => ?_)
      · have gc_14 : v_band_walkers.toInt ≤ l_12.toInt := i_le (rfl : v_band_walkers.toInt = v_band_walkers.toInt) (rfl : l_12.toInt = l_12.toInt) c_14
        refine lv_iload hx hb dX7_behind_117 (lv_at hl 1 rfl) ?_
        exact hrt l_11 f_9 f_10 f_8 f_7 ⟨(by omega), hL6_13_0⟩ hP hD hS rfl dX7_behind_119
      · have gc_14 : l_12.toInt < v_band_walkers.toInt := i_nle (rfl : v_band_walkers.toInt = v_band_walkers.toInt) (rfl : l_12.toInt = l_12.toInt) c_14
        refine lv_iload_n hx hb dX7_behind_18 rfl (lv_at hl 3 rfl) ?_
        refine lv_iconst (v := 4) hx hb dX7_behind_19 (by decide) ?_
        refine lv_imul hx hb dX7_behind_20 ?_
        refine lv_topi (fun n_15 en_15 => ?_)
        have tn_15 : n_15.toInt = k.toInt * 4 := i_mul en_15 (rfl : k.toInt = k.toInt) (by decide : (4 : Int32).toInt = 4) (by omega) (by omega)
        refine lv_iload hx hb dX7_behind_21 (lv_at hl 0 rfl) ?_
        refine lv_iadd hx hb dX7_behind_23 ?_
        refine lv_topi (fun n_16 en_16 => ?_)
        have tn_16 : n_16.toInt = (k.toInt * 4) + l_12.toInt := i_add en_16 tn_15 (rfl : l_12.toInt = l_12.toInt) (by omega) (by omega)
        refine lv_istore (lv' := [(6, .int n_16), (5, .int l_12), (4, .int l_11), (0, .ref (hs 62)), (1, .int k), (2, .int i), (3, .int mi)]) hx hb dX7_behind_24 hl (by decide) rfl (fun ls hl => ?_)
        refine lv_iload hx hb dX7_behind_26 (lv_at hl 0 rfl) ?_
        refine lv_bipush (v := 6) hx hb dX7_behind_28 (by decide) ?_
        refine lv_imul hx hb dX7_behind_30 ?_
        refine lv_topi (fun n_17 en_17 => ?_)
        have tn_17 : n_17.toInt = ((k.toInt * 4) + l_12.toInt) * 6 := i_mul en_17 tn_16 (by decide : (6 : Int32).toInt = 6) (by omega) (by omega)
        refine lv_aload_n hx hb dX7_behind_31 rfl (lv_at hl 3 rfl) ?_
        refine gt_SP_search_tired hx hb hts hown hK hP lwd_128 dX7_behind_32 ?_
        refine lv_iload hx hb dX7_behind_35 (lv_at hl 1 rfl) ?_
        refine al_stired hx hb hK hP hr_stired (i_in (rfl : l_12.toInt = l_12.toInt) (by omega) (by omega)) dX7_behind_37 (fun n_18 en_18 bn_18 => ?_)
        refine lv_iadd hx hb dX7_behind_38 ?_
        refine lv_topi (fun n_19 en_19 => ?_)
        have tn_19 : n_19.toInt = (((k.toInt * 4) + l_12.toInt) * 6) + n_18.toInt := i_add en_19 tn_17 (rfl : n_18.toInt = n_18.toInt) (by omega) (by omega)
        refine lv_istore (lv' := [(7, .int n_19), (6, .int n_16), (5, .int l_12), (4, .int l_11), (0, .ref (hs 62)), (1, .int k), (2, .int i), (3, .int mi)]) hx hb dX7_behind_39 hl (by decide) rfl (fun ls hl => ?_)
        refine lv_aload_n hx hb dX7_behind_41 rfl (lv_at hl 4 rfl) ?_
        refine gt_SP_search_behindFor hx hb hts hown hK hP lwd_133 dX7_behind_42 ?_
        refine lv_iload hx hb dX7_behind_45 (lv_at hl 0 rfl) ?_
        refine al_behindFor hx hb hK hP (i_in tn_19 (by omega) (by omega)) dX7_behind_47 (fun n_20 en_20 => ?_)
        refine lv_iload_n hx hb dX7_behind_48 rfl (lv_at hl 7 rfl) ?_
        refine lv_icmp_eq (tgt := 92) hx hb dX7_behind_49 (by decide) (fun c_21 => ?_) (fun c_21 => ?_)
        · have gc_21 : n_20.toInt = mi.toInt := i_eq (rfl : n_20.toInt = n_20.toInt) (rfl : mi.toInt = mi.toInt) c_21
          refine lv_iload hx hb dX7_behind_92 (lv_at hl 3 rfl) ?_
          refine va_getsN hx hb (show va_Z "SlowPace" "SIXES" "[I" (.ref tS) A s s.heap by rw [hAe]; exact hN.1.2.2.1) hS hown (va_Nw.use rfl hN.2.2) (fun _ h => h) dX7_behind_94 ?_
          refine lv_iload hx hb dX7_behind_97 (lv_at hl 2 rfl) ?_
          refine va_ti hx hb (show va_T .int tS 6 sixF A s s.heap by rw [hAe]; exact hN.1.2.2.2) hS (i_in (rfl : l_12.toInt = l_12.toInt) (by omega) (by omega)) rfl dX7_behind_99 ?_
          refine lv_topi (fun n_22 en_22 => ?_)
          have bn_22 := six_is en_22 (by omega : 0 ≤ l_12.toInt ∧ l_12.toInt < 6) (rfl : l_12.toInt = l_12.toInt)
          refine lv_aload_n hx hb dX7_behind_100 rfl (lv_at hl 4 rfl) ?_
          refine gt_SP_search_behindOn hx hb hts hown hK hP lwd_132 dX7_behind_101 ?_
          refine lv_iload hx hb dX7_behind_104 (lv_at hl 0 rfl) ?_
          refine al_behindOn hx hb hK hP hL6_13_0 (i_in tn_19 (by omega) (by omega)) dX7_behind_106 (fun n_23 en_23 bn_23 => ?_)
          have hm9 := six_mul bn_22 (show 0 ≤ n_23.toInt ∧ n_23.toInt ≤ 5 by omega)
          skip
          refine lv_imul hx hb dX7_behind_107 ?_
          have mb_24 := mul_bd (a := n_22.toInt) (b := n_23.toInt) (A := 7776) (B := 5) (by omega) (by omega) (by omega) (by omega)
          refine lv_topi (fun n_25 en_25 => ?_)
          have tn_25 : n_25.toInt = n_22.toInt * n_23.toInt := i_mul en_25 (rfl : n_22.toInt = n_22.toInt) (rfl : n_23.toInt = n_23.toInt) (by omega) (by omega)
          refine lv_iadd hx hb dX7_behind_108 ?_
          refine lv_topi (fun n_26 en_26 => ?_)
          have tn_26 : n_26.toInt = l_11.toInt + (n_22.toInt * n_23.toInt) := i_add en_26 (rfl : l_11.toInt = l_11.toInt) tn_25 (by omega) (by omega)
          refine lv_istore (lv' := [(4, .int n_26), (7, .int n_19), (6, .int n_16), (5, .int l_12), (0, .ref (hs 62)), (1, .int k), (2, .int i), (3, .int mi)]) hx hb dX7_behind_109 hl (by decide) rfl (fun ls hl => ?_)
          obtain ⟨n_27, en_27⟩ : ∃ y : Int32, y = l_12 + 1 := ⟨_, rfl⟩
          have tn_27 : n_27.toInt = l_12.toInt + 1 := i_add en_27 (rfl : l_12.toInt = l_12.toInt) (by decide : (1 : Int32).toInt = 1) (by omega) (by omega)
          refine lv_iinc (v := n_27) (lv' := [(5, .int n_27), (4, .int n_26), (7, .int n_19), (6, .int n_16), (0, .ref (hs 62)), (1, .int k), (2, .int i), (3, .int mi)]) hx hb dX7_behind_111 hl (k := 3) rfl (by rw [en_27]; rfl) (by decide) rfl (fun ls hl => ?_)
          refine lv_goto (tgt := 6) hx hb dX7_behind_114 (by decide) ?_
          exact ih6_13 f_7 f_8 f_9 f_10 n_26 n_27 hL6_13_0 (by omega) (by omega) (by omega) (by omega) _ _ _ hP hD hS (lv_sub hl [0, 1, 4, 5, 6, 7] rfl)
        · have gc_21 : n_20.toInt ≠ mi.toInt := i_ne (rfl : n_20.toInt = n_20.toInt) (rfl : mi.toInt = mi.toInt) c_21
          refine lv_aload_n hx hb dX7_behind_52 rfl (lv_at hl 4 rfl) ?_
          refine gt_SP_search_behindOn hx hb hts hown hK hP lwd_132 dX7_behind_53 ?_
          refine lv_iload hx hb dX7_behind_56 (lv_at hl 0 rfl) ?_
          refine lv_aload_n hx hb dX7_behind_58 rfl (lv_at hl 4 rfl) ?_
          refine gt_SP_search_paces hx hb hts hown hK hP lwd_135 dX7_behind_59 ?_
          refine lv_iload hx hb dX7_behind_62 (lv_at hl 2 rfl) ?_
          refine lv_aload_n hx hb dX7_behind_64 rfl (lv_at hl 4 rfl) ?_
          refine gt_SP_search_burdens hx hb hts hown hK hP lwd_129 dX7_behind_65 ?_
          refine lv_iload hx hb dX7_behind_68 (lv_at hl 1 rfl) ?_
          refine al_burdens hx hb hK hP (i_in tn_16 (by omega) (by omega)) dX7_behind_70 (fun n_28 en_28 => ?_)
          refine lv_aload_n hx hb dX7_behind_71 rfl (lv_at hl 4 rfl) ?_
          refine gt_SP_search_tired hx hb hts hown hK hP lwd_128 dX7_behind_72 ?_
          refine lv_iload hx hb dX7_behind_75 (lv_at hl 2 rfl) ?_
          refine al_stired hx hb hK hP hr_stired (i_in (rfl : l_12.toInt = l_12.toInt) (by omega) (by omega)) dX7_behind_77 (fun n_29 en_29 bn_29 => ?_)
          obtain rfl : n_18 = n_29 := en_18.trans en_29.symm
          refine lv_iload_n hx hb dX7_behind_78 rfl (lv_at hl 6 rfl) ?_
          refine lv_iload_n hx hb dX7_behind_79 rfl (lv_at hl 7 rfl) ?_
          refine xi hD hS hA (xV (As := [.int l_12, .int n_28, .int n_18, .int i, .int mi]) (rest := [.int n_19, .ref (hs 72)]) hx hb hml hown hts hK hP hD hS hA NS_ok hN hAe hl.1 ⟨Nat.le_refl _, Nat.le_refl _⟩ 27 rfl rfl rfl (c_X3_tiredBehind l D cy hs hH hT sH sT v_tape_size v_band_walkers v_band_loads v_band_pieces v_rules_clauses v_reader_end v_reader_at v_reader_length v_reader_letter v_reader_fault v_draft_clauses v_paces_version v_packing_quicker v_packing_loads v_packing_looseCount v_marches_told v_marches_changeMinutes v_marches_marching v_marches_gone v_search_known v_search_countHere v_search_countThere v_search_cost v_search_most v_search_found f_bytes f_knee f_weight f_limps f_bheft f_owner f_food f_miles f_slope f_rsteps f_rkind f_ryields f_rholds f_9 f_10 f_dsteps f_dkind f_dyields f_dholds f_dletters f_dstack f_caps f_versions f_sharing f_pheft f_prow f_holder f_comes f_pcaps f_room f_loose f_reached f_mrow f_minutesOn f_mtired f_here f_there f_statesHere f_statesThere f_listed f_stired f_burdens f_pacesOn f_restedOn f_8 f_7 f_first f_second f_plans f_tiredOn tS H.size l_12 n_28 n_18 i mi (by omega) (by omega) hr_weight hr_miles (by omega) (by omega) (by omega)) (gi_V lwd_1077 lwd_959 lwd_960 lwd_30 lwd_961) ⟨rfl, hd_X3_tiredBehind⟩ ⟨Nat.le_of_ble_eq_true rfl, Nat.le_of_ble_eq_true rfl⟩ rfl (Nat.le_of_ble_eq_true rfl) dX7_behind_80) (fun r_31 u_30 H locs hw hP hD hS => ?_)
          obtain ⟨zrletters_32, zrstack_33⟩ := u_30
          try dsimp only at hw hP hD
          have p_34 := hw
          clear hw
          refine as_behindOn (x := r_31) hx hb hK hP hD hS hL6_13_0 (i_in tn_19 (by omega) (by omega)) (by omega) dX7_behind_83 (fun f_35 ef_35 rf_35 H locs hP hD hS => ?_)
          refine lv_aload_n hx hb dX7_behind_84 rfl (lv_at hl 4 rfl) ?_
          refine gt_SP_search_behindFor hx hb hts hown hK hP lwd_133 dX7_behind_85 ?_
          refine lv_iload hx hb dX7_behind_88 (lv_at hl 0 rfl) ?_
          refine lv_iload_n hx hb dX7_behind_90 rfl (lv_at hl 7 rfl) ?_
          refine as_behindFor (x := mi) hx hb hK hP hD hS (i_in tn_19 (by omega) (by omega)) dX7_behind_91 (fun f_36 ef_36 H locs hP hD hS => ?_)
          refine lv_iload hx hb dX7_behind_92 (lv_at hl 3 rfl) ?_
          refine va_getsN hx hb (show va_Z "SlowPace" "SIXES" "[I" (.ref tS) A s s.heap by rw [hAe]; exact hN.1.2.2.1) hS hown (va_Nw.use rfl hN.2.2) (fun _ h => h) dX7_behind_94 ?_
          refine lv_iload hx hb dX7_behind_97 (lv_at hl 2 rfl) ?_
          refine va_ti hx hb (show va_T .int tS 6 sixF A s s.heap by rw [hAe]; exact hN.1.2.2.2) hS (i_in (rfl : l_12.toInt = l_12.toInt) (by omega) (by omega)) rfl dX7_behind_99 ?_
          refine lv_topi (fun n_37 en_37 => ?_)
          have bn_37 := six_is en_37 (by omega : 0 ≤ l_12.toInt ∧ l_12.toInt < 6) (rfl : l_12.toInt = l_12.toInt)
          refine lv_aload_n hx hb dX7_behind_100 rfl (lv_at hl 4 rfl) ?_
          refine gt_SP_search_behindOn hx hb hts hown hK hP lwd_132 dX7_behind_101 ?_
          refine lv_iload hx hb dX7_behind_104 (lv_at hl 0 rfl) ?_
          refine al_behindOn hx hb hK hP rf_35 (i_in tn_19 (by omega) (by omega)) dX7_behind_106 (fun n_38 en_38 bn_38 => ?_)
          have hsn_38 : n_38.toInt = r_31.toInt := by rw [en_38, ef_35, upd_at]
          have hm9 := six_mul bn_37 (show 0 ≤ n_38.toInt ∧ n_38.toInt ≤ 5 by omega)
          skip
          refine lv_imul hx hb dX7_behind_107 ?_
          have mb_39 := mul_bd (a := n_37.toInt) (b := n_38.toInt) (A := 7776) (B := 5) (by omega) (by omega) (by omega) (by omega)
          refine lv_topi (fun n_40 en_40 => ?_)
          have tn_40 : n_40.toInt = n_37.toInt * n_38.toInt := i_mul en_40 (rfl : n_37.toInt = n_37.toInt) (rfl : n_38.toInt = n_38.toInt) (by omega) (by omega)
          refine lv_iadd hx hb dX7_behind_108 ?_
          refine lv_topi (fun n_41 en_41 => ?_)
          have tn_41 : n_41.toInt = l_11.toInt + (n_37.toInt * n_38.toInt) := i_add en_41 (rfl : l_11.toInt = l_11.toInt) tn_40 (by omega) (by omega)
          refine lv_istore (lv' := [(4, .int n_41), (7, .int n_19), (6, .int n_16), (5, .int l_12), (0, .ref (hs 62)), (1, .int k), (2, .int i), (3, .int mi)]) hx hb dX7_behind_109 hl (by decide) rfl (fun ls hl => ?_)
          obtain ⟨n_42, en_42⟩ : ∃ y : Int32, y = l_12 + 1 := ⟨_, rfl⟩
          have tn_42 : n_42.toInt = l_12.toInt + 1 := i_add en_42 (rfl : l_12.toInt = l_12.toInt) (by decide : (1 : Int32).toInt = 1) (by omega) (by omega)
          refine lv_iinc (v := n_42) (lv' := [(5, .int n_42), (4, .int n_41), (7, .int n_19), (6, .int n_16), (0, .ref (hs 62)), (1, .int k), (2, .int i), (3, .int mi)]) hx hb dX7_behind_111 hl (k := 3) rfl (by rw [en_42]; rfl) (by decide) rfl (fun ls hl => ?_)
          refine lv_goto (tgt := 6) hx hb dX7_behind_114 (by decide) ?_
          exact ih6_13 f_36 f_35 zrletters_32 zrstack_33 n_41 n_42 rf_35 (by omega) (by omega) (by omega) (by omega) _ _ _ hP hD hS (lv_sub hl [0, 1, 4, 5, 6, 7] rfl)
  have k_43 : (0 : Int32).toInt = 0 := by decide
  have k_44 : (0 : Int32).toInt = 0 := by decide
  exact L6_13 8589934592 f_behindFor f_behindOn f_rletters f_rstack 0 0 hr_behindOn (by omega) (by omega) (by omega) (by omega) _ _ _ hP hD hS (lv_sub hl [0, 1, 2, 3, 4, 5] rfl)
set_option maxHeartbeats 16000000 in
set_option maxRecDepth 100000 in
theorem c_X7_rest (l : Launch) (D : va_G) (cy : Nat → ClassId) (hs : Nat → Nat) (hH hT sH sT : Nat) (v_tape_size v_band_walkers v_band_loads v_band_pieces v_rules_clauses v_reader_end v_reader_at v_reader_length v_reader_letter v_reader_fault v_draft_clauses v_paces_version v_packing_quicker v_packing_loads v_packing_looseCount v_marches_told v_marches_changeMinutes v_marches_marching v_marches_gone v_search_known v_search_countHere v_search_countThere v_search_cost v_search_most : Int32) (v_search_found : Int64) (f_bytes f_knee f_weight f_limps f_bheft f_owner f_food f_miles f_slope f_rsteps f_rkind f_ryields f_rholds f_rletters f_rstack f_dsteps f_dkind f_dyields f_dholds f_dletters f_dstack f_caps f_versions f_sharing f_pheft f_prow f_holder f_comes f_pcaps f_room f_loose f_reached f_mrow f_minutesOn f_mtired : Nat → Int32) (f_here f_there : Nat → Int64) (f_statesHere f_statesThere f_listed f_stired f_burdens f_pacesOn f_restedOn f_behindOn f_behindFor f_first f_second : Nat → Int32) (f_plans f_tiredOn : Nat → Nat → Int32) (tS : Nat) (sz : Nat) (i : Int32) (hb_v_band_walkers : 0 ≤ v_band_walkers.toInt ∧ v_band_walkers.toInt ≤ 6) (hb_v_rules_clauses : 0 ≤ v_rules_clauses.toInt ∧ v_rules_clauses.toInt ≤ 14) (hr_weight : rg (0) 250 f_weight) (hr_miles : rg (0) 20 f_miles) (hr_stired : rg (0) 5 f_stired) (hr_restedOn : rg (-1) 5 f_restedOn) (ha_i : 0 ≤ i.toInt ∧ i.toInt ≤ 9) (hw4 : v_band_walkers.toInt ≤ 4) : gMi l yX7_rest cX7_rest 5 .boolean 4 [.ref (hs 62), .int i] D cy (wSP cy hs hH hT sH sT v_tape_size v_band_walkers v_band_loads v_band_pieces v_rules_clauses v_reader_end v_reader_at v_reader_length v_reader_letter v_reader_fault v_draft_clauses v_paces_version v_packing_quicker v_packing_loads v_packing_looseCount v_marches_told v_marches_changeMinutes v_marches_marching v_marches_gone v_search_known v_search_countHere v_search_countThere v_search_cost v_search_most v_search_found f_bytes f_knee f_weight f_limps f_bheft f_owner f_food f_miles f_slope f_rsteps f_rkind f_ryields f_rholds f_rletters f_rstack f_dsteps f_dkind f_dyields f_dholds f_dletters f_dstack f_caps f_versions f_sharing f_pheft f_prow f_holder f_comes f_pcaps f_room f_loose f_reached f_mrow f_minutesOn f_mtired f_here f_there f_statesHere f_statesThere f_listed f_stired f_burdens f_pacesOn f_restedOn f_behindOn f_behindFor f_first f_second f_plans f_tiredOn) (NS tS) sz (fun (r : Int32) (u : (Nat → Int32) × (Nat → Int32) × (Nat → Int32) × (Nat → Int32)) => (0 ≤ r.toInt ∧ r.toInt ≤ 1) ∧ (rg (0) 5 (u.2.2.1)) ∧ (rg (-1) 5 (u.2.2.2))) (fun u => wSP cy hs hH hT sH sT v_tape_size v_band_walkers v_band_loads v_band_pieces v_rules_clauses v_reader_end v_reader_at v_reader_length v_reader_letter v_reader_fault v_draft_clauses v_paces_version v_packing_quicker v_packing_loads v_packing_looseCount v_marches_told v_marches_changeMinutes v_marches_marching v_marches_gone v_search_known v_search_countHere v_search_countThere v_search_cost v_search_most v_search_found f_bytes f_knee f_weight f_limps f_bheft f_owner f_food f_miles f_slope f_rsteps f_rkind f_ryields f_rholds (u.1) (u.2.1) f_dsteps f_dkind f_dyields f_dholds f_dletters f_dstack f_caps f_versions f_sharing f_pheft f_prow f_holder f_comes f_pcaps f_room f_loose f_reached f_mrow f_minutesOn f_mtired f_here f_there f_statesHere f_statesThere f_listed (u.2.2.1) f_burdens f_pacesOn (u.2.2.2) f_behindOn f_behindFor f_first f_second f_plans f_tiredOn) := by
  refine gMi_in (by decide) (Nat.le_of_ble_eq_true rfl) ?_
  intro p e s m args below meth c A ls Q hx hb hml hts hown hsz hP hK hD hN hAe hA hS hl hret
  subst hsz
  have hl : lv_has ls 5 [(0, .ref (hs 62)), (1, .int i)] := hl
  have hrt := fun (r : Int32) (f_rletters' : Nat → Int32) (f_rstack' : Nat → Int32) (f_stired' : Nat → Int32) (f_restedOn' : Nat → Int32) (hp : (0 ≤ r.toInt ∧ r.toInt ≤ 1) ∧ (rg (0) 5 f_stired') ∧ (rg (-1) 5 f_restedOn')) {H : Heap} {locs : List Loc} {pc : Nat} {ls : Array Slot} => hret r (f_rletters', f_rstack', f_stired', f_restedOn') (H := H) (locs := locs) (pc := pc) (ls := ls) hp
  clear hret
  refine lv_iconst (v := 0) hx hb dX7_rest_0 (by decide) ?_
  refine lv_istore_n (lv' := [(2, .int 0), (0, .ref (hs 62)), (1, .int i)]) hx hb dX7_rest_1 rfl hl (by decide) rfl (fun ls hl => ?_)
  refine lv_iconst (v := 0) hx hb dX7_rest_2 (by decide) ?_
  refine lv_istore_n (lv' := [(3, .int 0), (2, .int 0), (0, .ref (hs 62)), (1, .int i)]) hx hb dX7_rest_3 rfl hl (by decide) rfl (fun ls hl => ?_)
  have L4_13 : ∀ (n : Nat) (f_7 : Nat → Int32) (f_8 : Nat → Int32) (f_9 : Nat → Int32) (f_10 : Nat → Int32) (l_11 : Int32) (l_12 : Int32), (rg (-1) 5 f_7) → (rg (0) 5 f_10) → (0 ≤ l_11.toInt ∧ l_11.toInt ≤ 1) → (0 ≤ l_12.toInt ∧ l_12.toInt ≤ 6) → 7 - l_12.toInt < n → ∀ (H : Heap) (locs : List Loc) (ls : Array Slot), va_P D vwCl (wSP cy hs hH hT sH sT v_tape_size v_band_walkers v_band_loads v_band_pieces v_rules_clauses v_reader_end v_reader_at v_reader_length v_reader_letter v_reader_fault v_draft_clauses v_paces_version v_packing_quicker v_packing_loads v_packing_looseCount v_marches_told v_marches_changeMinutes v_marches_marching v_marches_gone v_search_known v_search_countHere v_search_countThere v_search_cost v_search_most v_search_found f_bytes f_knee f_weight f_limps f_bheft f_owner f_food f_miles f_slope f_rsteps f_rkind f_ryields f_rholds f_8 f_9 f_dsteps f_dkind f_dyields f_dholds f_dletters f_dstack f_caps f_versions f_sharing f_pheft f_prow f_holder f_comes f_pcaps f_room f_loose f_reached f_mrow f_minutesOn f_mtired f_here f_there f_statesHere f_statesThere f_listed f_10 f_burdens f_pacesOn f_7 f_behindOn f_behindFor f_first f_second f_plans f_tiredOn) H → va_D A (wSP cy hs hH hT sH sT v_tape_size v_band_walkers v_band_loads v_band_pieces v_rules_clauses v_reader_end v_reader_at v_reader_length v_reader_letter v_reader_fault v_draft_clauses v_paces_version v_packing_quicker v_packing_loads v_packing_looseCount v_marches_told v_marches_changeMinutes v_marches_marching v_marches_gone v_search_known v_search_countHere v_search_countThere v_search_cost v_search_most v_search_found f_bytes f_knee f_weight f_limps f_bheft f_owner f_food f_miles f_slope f_rsteps f_rkind f_ryields f_rholds f_8 f_9 f_dsteps f_dkind f_dyields f_dholds f_dletters f_dstack f_caps f_versions f_sharing f_pheft f_prow f_holder f_comes f_pcaps f_room f_loose f_reached f_mrow f_minutesOn f_mtired f_here f_there f_statesHere f_statesThere f_listed f_10 f_burdens f_pacesOn f_7 f_behindOn f_behindFor f_first f_second f_plans f_tiredOn) → va_S A s.heap H locs → lv_has ls 5 [(3, .int l_12), (2, .int l_11), (0, .ref (hs 62)), (1, .int i)] → W p l e (gRm 4) s m args below meth c H locs 0 0 Q (F0 m 4 ls []) := by
    intro n
    induction n with
    | zero => intro f_7 f_8 f_9 f_10 l_11 l_12 hL4_13_0 hL4_13_1 hL4_13_2 hL4_13_3 hm; exact absurd hm (by omega)
    | succ n ih4_13 =>
      intro f_7 f_8 f_9 f_10 l_11 l_12 hL4_13_0 hL4_13_1 hL4_13_2 hL4_13_3 hmL4_13 H locs ls hP hD hS hl
      refine lv_iload_n hx hb dX7_rest_4 rfl (lv_at hl 0 rfl) ?_
      refine lv_aload_n hx hb dX7_rest_5 rfl (lv_at hl 2 rfl) ?_
      refine gt_SP_search_band hx hb hts hown hK hP lwd_134 dX7_rest_6 ?_
      refine gt_SP_band_walkers hx hb hts hown hK hP lwd_1058 dX7_rest_9 ?_
      refine lv_icmp_ge (tgt := 106) hx hb dX7_rest_12 (by decide) (fun c_14 => ?_) (fun c_14 => ?_)
      · have gc_14 : v_band_walkers.toInt ≤ l_12.toInt := i_le (rfl : v_band_walkers.toInt = v_band_walkers.toInt) (rfl : l_12.toInt = l_12.toInt) c_14
        refine lv_iload_n hx hb dX7_rest_106 rfl (lv_at hl 1 rfl) ?_
        exact hrt l_11 f_8 f_9 f_10 f_7 ⟨(by omega), hL4_13_1, hL4_13_0⟩ hP hD hS (nar_b (i_01' (by omega))) dX7_rest_107
      · have gc_14 : l_12.toInt < v_band_walkers.toInt := i_nle (rfl : v_band_walkers.toInt = v_band_walkers.toInt) (rfl : l_12.toInt = l_12.toInt) c_14
        refine lv_iload_n hx hb dX7_rest_15 rfl (lv_at hl 0 rfl) ?_
        refine lv_bipush (v := 6) hx hb dX7_rest_16 (by decide) ?_
        refine lv_imul hx hb dX7_rest_18 ?_
        refine lv_topi (fun n_15 en_15 => ?_)
        have tn_15 : n_15.toInt = l_12.toInt * 6 := i_mul en_15 (rfl : l_12.toInt = l_12.toInt) (by decide : (6 : Int32).toInt = 6) (by omega) (by omega)
        refine lv_aload_n hx hb dX7_rest_19 rfl (lv_at hl 2 rfl) ?_
        refine gt_SP_search_tired hx hb hts hown hK hP lwd_128 dX7_rest_20 ?_
        refine lv_iload_n hx hb dX7_rest_23 rfl (lv_at hl 0 rfl) ?_
        refine al_stired hx hb hK hP hL4_13_1 (i_in (rfl : l_12.toInt = l_12.toInt) (by omega) (by omega)) dX7_rest_24 (fun n_16 en_16 bn_16 => ?_)
        refine lv_iadd hx hb dX7_rest_25 ?_
        refine lv_topi (fun n_17 en_17 => ?_)
        have tn_17 : n_17.toInt = (l_12.toInt * 6) + n_16.toInt := i_add en_17 tn_15 (rfl : n_16.toInt = n_16.toInt) (by omega) (by omega)
        refine lv_istore (lv' := [(4, .int n_17), (3, .int l_12), (2, .int l_11), (0, .ref (hs 62)), (1, .int i)]) hx hb dX7_rest_26 hl (by decide) rfl (fun ls hl => ?_)
        refine lv_aload_n hx hb dX7_rest_28 rfl (lv_at hl 3 rfl) ?_
        refine gt_SP_search_restedOn hx hb hts hown hK hP lwd_131 dX7_rest_29 ?_
        refine lv_iload hx hb dX7_rest_32 (lv_at hl 0 rfl) ?_
        refine al_restedOn hx hb hK hP hL4_13_0 (i_in tn_17 (by omega) (by omega)) dX7_rest_34 (fun n_18 en_18 bn_18 => ?_)
        refine lv_iconst (v := (-1)) hx hb dX7_rest_35 (by decide) ?_
        refine lv_icmp_ne (tgt := 61) hx hb dX7_rest_36 (by decide) (fun c_19 => ?_) (fun c_19 => ?_)
        · have gc_19 : n_18.toInt ≠ (-1) := i_ne (rfl : n_18.toInt = n_18.toInt) (by decide : ((-1) : Int32).toInt = (-1)) c_19
          refine lv_iload_n hx hb dX7_rest_61 rfl (lv_at hl 2 rfl) ?_
          refine lv_if_ne (tgt := 81) hx hb dX7_rest_62 (by decide) (fun c_20 => ?_) (fun c_20 => ?_)
          · have gc_20 : l_11.toInt ≠ 0 := i_ne (rfl : l_11.toInt = l_11.toInt) (by decide : (0 : Int32).toInt = 0) c_20
            refine lv_iconst (v := 1) hx hb dX7_rest_81 (by decide) ?_
            refine lv_goto (tgt := 86) hx hb dX7_rest_82 (by decide) ?_
            refine lv_istore_n (lv' := [(2, .int 1), (4, .int n_17), (3, .int l_12), (0, .ref (hs 62)), (1, .int i)]) hx hb dX7_rest_86 rfl hl (by decide) rfl (fun ls hl => ?_)
            refine lv_aload_n hx hb dX7_rest_87 rfl (lv_at hl 3 rfl) ?_
            refine gt_SP_search_tired hx hb hts hown hK hP lwd_128 dX7_rest_88 ?_
            refine lv_iload_n hx hb dX7_rest_91 rfl (lv_at hl 2 rfl) ?_
            refine lv_aload_n hx hb dX7_rest_92 rfl (lv_at hl 3 rfl) ?_
            refine gt_SP_search_restedOn hx hb hts hown hK hP lwd_131 dX7_rest_93 ?_
            refine lv_iload hx hb dX7_rest_96 (lv_at hl 1 rfl) ?_
            refine al_restedOn hx hb hK hP hL4_13_0 (i_in tn_17 (by omega) (by omega)) dX7_rest_98 (fun n_21 en_21 bn_21 => ?_)
            obtain rfl : n_18 = n_21 := en_18.trans en_21.symm
            refine as_stired (x := n_18) hx hb hK hP hD hS hL4_13_1 (i_in (rfl : l_12.toInt = l_12.toInt) (by omega) (by omega)) (by omega) dX7_rest_99 (fun f_22 ef_22 rf_22 H locs hP hD hS => ?_)
            obtain ⟨n_23, en_23⟩ : ∃ y : Int32, y = l_12 + 1 := ⟨_, rfl⟩
            have tn_23 : n_23.toInt = l_12.toInt + 1 := i_add en_23 (rfl : l_12.toInt = l_12.toInt) (by decide : (1 : Int32).toInt = 1) (by omega) (by omega)
            refine lv_iinc (v := n_23) (lv' := [(3, .int n_23), (2, .int 1), (4, .int n_17), (0, .ref (hs 62)), (1, .int i)]) hx hb dX7_rest_100 hl (k := 2) rfl (by rw [en_23]; rfl) (by decide) rfl (fun ls hl => ?_)
            refine lv_goto (tgt := 4) hx hb dX7_rest_103 (by decide) ?_
            have k_24 : (1 : Int32).toInt = 1 := by decide
            exact ih4_13 f_7 f_8 f_9 f_22 1 n_23 hL4_13_0 rf_22 (by omega) (by omega) (by omega) _ _ _ hP hD hS (lv_sub hl [0, 1, 3, 4] rfl)
          · have gc_20 : l_11.toInt = 0 := i_eq (rfl : l_11.toInt = l_11.toInt) (by decide : (0 : Int32).toInt = 0) c_20
            refine lv_aload_n hx hb dX7_rest_65 rfl (lv_at hl 3 rfl) ?_
            refine gt_SP_search_restedOn hx hb hts hown hK hP lwd_131 dX7_rest_66 ?_
            refine lv_iload hx hb dX7_rest_69 (lv_at hl 0 rfl) ?_
            refine al_restedOn hx hb hK hP hL4_13_0 (i_in tn_17 (by omega) (by omega)) dX7_rest_71 (fun n_25 en_25 bn_25 => ?_)
            obtain rfl : n_18 = n_25 := en_18.trans en_25.symm
            refine lv_aload_n hx hb dX7_rest_72 rfl (lv_at hl 3 rfl) ?_
            refine gt_SP_search_tired hx hb hts hown hK hP lwd_128 dX7_rest_73 ?_
            refine lv_iload_n hx hb dX7_rest_76 rfl (lv_at hl 1 rfl) ?_
            refine al_stired hx hb hK hP hL4_13_1 (i_in (rfl : l_12.toInt = l_12.toInt) (by omega) (by omega)) dX7_rest_77 (fun n_26 en_26 bn_26 => ?_)
            obtain rfl : n_16 = n_26 := en_16.trans en_26.symm
            refine lv_icmp_eq (tgt := 85) hx hb dX7_rest_78 (by decide) (fun c_27 => ?_) (fun c_27 => ?_)
            · have gc_27 : n_18.toInt = n_16.toInt := i_eq (rfl : n_18.toInt = n_18.toInt) (rfl : n_16.toInt = n_16.toInt) c_27
              refine lv_iconst (v := 0) hx hb dX7_rest_85 (by decide) ?_
              refine lv_istore_n (lv' := [(2, .int 0), (4, .int n_17), (3, .int l_12), (0, .ref (hs 62)), (1, .int i)]) hx hb dX7_rest_86 rfl hl (by decide) rfl (fun ls hl => ?_)
              refine lv_aload_n hx hb dX7_rest_87 rfl (lv_at hl 3 rfl) ?_
              refine gt_SP_search_tired hx hb hts hown hK hP lwd_128 dX7_rest_88 ?_
              refine lv_iload_n hx hb dX7_rest_91 rfl (lv_at hl 2 rfl) ?_
              refine lv_aload_n hx hb dX7_rest_92 rfl (lv_at hl 3 rfl) ?_
              refine gt_SP_search_restedOn hx hb hts hown hK hP lwd_131 dX7_rest_93 ?_
              refine lv_iload hx hb dX7_rest_96 (lv_at hl 1 rfl) ?_
              refine al_restedOn hx hb hK hP hL4_13_0 (i_in tn_17 (by omega) (by omega)) dX7_rest_98 (fun n_28 en_28 bn_28 => ?_)
              obtain rfl : n_18 = n_28 := en_18.trans en_28.symm
              refine as_stired (x := n_18) hx hb hK hP hD hS hL4_13_1 (i_in (rfl : l_12.toInt = l_12.toInt) (by omega) (by omega)) (by omega) dX7_rest_99 (fun f_29 ef_29 rf_29 H locs hP hD hS => ?_)
              obtain ⟨n_30, en_30⟩ : ∃ y : Int32, y = l_12 + 1 := ⟨_, rfl⟩
              have tn_30 : n_30.toInt = l_12.toInt + 1 := i_add en_30 (rfl : l_12.toInt = l_12.toInt) (by decide : (1 : Int32).toInt = 1) (by omega) (by omega)
              refine lv_iinc (v := n_30) (lv' := [(3, .int n_30), (2, .int 0), (4, .int n_17), (0, .ref (hs 62)), (1, .int i)]) hx hb dX7_rest_100 hl (k := 2) rfl (by rw [en_30]; rfl) (by decide) rfl (fun ls hl => ?_)
              refine lv_goto (tgt := 4) hx hb dX7_rest_103 (by decide) ?_
              have k_31 : (0 : Int32).toInt = 0 := by decide
              exact ih4_13 f_7 f_8 f_9 f_29 0 n_30 hL4_13_0 rf_29 (by omega) (by omega) (by omega) _ _ _ hP hD hS (lv_sub hl [0, 1, 3, 4] rfl)
            · have gc_27 : n_18.toInt ≠ n_16.toInt := i_ne (rfl : n_18.toInt = n_18.toInt) (rfl : n_16.toInt = n_16.toInt) c_27
              refine lv_iconst (v := 1) hx hb dX7_rest_81 (by decide) ?_
              refine lv_goto (tgt := 86) hx hb dX7_rest_82 (by decide) ?_
              refine lv_istore_n (lv' := [(2, .int 1), (4, .int n_17), (3, .int l_12), (0, .ref (hs 62)), (1, .int i)]) hx hb dX7_rest_86 rfl hl (by decide) rfl (fun ls hl => ?_)
              refine lv_aload_n hx hb dX7_rest_87 rfl (lv_at hl 3 rfl) ?_
              refine gt_SP_search_tired hx hb hts hown hK hP lwd_128 dX7_rest_88 ?_
              refine lv_iload_n hx hb dX7_rest_91 rfl (lv_at hl 2 rfl) ?_
              refine lv_aload_n hx hb dX7_rest_92 rfl (lv_at hl 3 rfl) ?_
              refine gt_SP_search_restedOn hx hb hts hown hK hP lwd_131 dX7_rest_93 ?_
              refine lv_iload hx hb dX7_rest_96 (lv_at hl 1 rfl) ?_
              refine al_restedOn hx hb hK hP hL4_13_0 (i_in tn_17 (by omega) (by omega)) dX7_rest_98 (fun n_32 en_32 bn_32 => ?_)
              obtain rfl : n_18 = n_32 := en_18.trans en_32.symm
              refine as_stired (x := n_18) hx hb hK hP hD hS hL4_13_1 (i_in (rfl : l_12.toInt = l_12.toInt) (by omega) (by omega)) (by omega) dX7_rest_99 (fun f_33 ef_33 rf_33 H locs hP hD hS => ?_)
              obtain ⟨n_34, en_34⟩ : ∃ y : Int32, y = l_12 + 1 := ⟨_, rfl⟩
              have tn_34 : n_34.toInt = l_12.toInt + 1 := i_add en_34 (rfl : l_12.toInt = l_12.toInt) (by decide : (1 : Int32).toInt = 1) (by omega) (by omega)
              refine lv_iinc (v := n_34) (lv' := [(3, .int n_34), (2, .int 1), (4, .int n_17), (0, .ref (hs 62)), (1, .int i)]) hx hb dX7_rest_100 hl (k := 2) rfl (by rw [en_34]; rfl) (by decide) rfl (fun ls hl => ?_)
              refine lv_goto (tgt := 4) hx hb dX7_rest_103 (by decide) ?_
              have k_35 : (1 : Int32).toInt = 1 := by decide
              exact ih4_13 f_7 f_8 f_9 f_33 1 n_34 hL4_13_0 rf_33 (by omega) (by omega) (by omega) _ _ _ hP hD hS (lv_sub hl [0, 1, 3, 4] rfl)
        · have gc_19 : n_18.toInt = (-1) := i_eq (rfl : n_18.toInt = n_18.toInt) (by decide : ((-1) : Int32).toInt = (-1)) c_19
          refine lv_aload_n hx hb dX7_rest_39 rfl (lv_at hl 3 rfl) ?_
          refine gt_SP_search_restedOn hx hb hts hown hK hP lwd_131 dX7_rest_40 ?_
          refine lv_iload hx hb dX7_rest_43 (lv_at hl 0 rfl) ?_
          refine lv_aload_n hx hb dX7_rest_45 rfl (lv_at hl 3 rfl) ?_
          refine gt_SP_search_paces hx hb hts hown hK hP lwd_135 dX7_rest_46 ?_
          refine lv_iload_n hx hb dX7_rest_49 rfl (lv_at hl 1 rfl) ?_
          refine lv_aload_n hx hb dX7_rest_50 rfl (lv_at hl 3 rfl) ?_
          refine gt_SP_search_tired hx hb hts hown hK hP lwd_128 dX7_rest_51 ?_
          refine lv_iload_n hx hb dX7_rest_54 rfl (lv_at hl 1 rfl) ?_
          refine al_stired hx hb hK hP hL4_13_1 (i_in (rfl : l_12.toInt = l_12.toInt) (by omega) (by omega)) dX7_rest_55 (fun n_36 en_36 bn_36 => ?_)
          obtain rfl : n_16 = n_36 := en_16.trans en_36.symm
          refine lv_iload_n hx hb dX7_rest_56 rfl (lv_at hl 4 rfl) ?_
          refine xi hD hS hA (xV (As := [.int l_12, .int n_16, .int i]) (rest := [.int n_17, .ref (hs 71)]) hx hb hml hown hts hK hP hD hS hA NS_ok hN hAe hl.1 ⟨Nat.le_refl _, Nat.le_refl _⟩ 27 rfl rfl rfl (c_X3_tiredRested l D cy hs hH hT sH sT v_tape_size v_band_walkers v_band_loads v_band_pieces v_rules_clauses v_reader_end v_reader_at v_reader_length v_reader_letter v_reader_fault v_draft_clauses v_paces_version v_packing_quicker v_packing_loads v_packing_looseCount v_marches_told v_marches_changeMinutes v_marches_marching v_marches_gone v_search_known v_search_countHere v_search_countThere v_search_cost v_search_most v_search_found f_bytes f_knee f_weight f_limps f_bheft f_owner f_food f_miles f_slope f_rsteps f_rkind f_ryields f_rholds f_8 f_9 f_dsteps f_dkind f_dyields f_dholds f_dletters f_dstack f_caps f_versions f_sharing f_pheft f_prow f_holder f_comes f_pcaps f_room f_loose f_reached f_mrow f_minutesOn f_mtired f_here f_there f_statesHere f_statesThere f_listed f_10 f_burdens f_pacesOn f_7 f_behindOn f_behindFor f_first f_second f_plans f_tiredOn tS H.size l_12 n_16 i (by omega) (by omega) hr_weight hr_miles (by omega) (by omega) (by omega)) (gi_V lwd_1086 lwd_942 lwd_943 lwd_30 lwd_944) ⟨rfl, hd_X3_tiredRested⟩ ⟨Nat.le_of_ble_eq_true rfl, Nat.le_of_ble_eq_true rfl⟩ rfl (Nat.le_of_ble_eq_true rfl) dX7_rest_57) (fun r_38 u_37 H locs hw hP hD hS => ?_)
          obtain ⟨zrletters_39, zrstack_40⟩ := u_37
          try dsimp only at hw hP hD
          have p_41 := hw
          clear hw
          refine as_restedOn (x := r_38) hx hb hK hP hD hS hL4_13_0 (i_in tn_17 (by omega) (by omega)) (by omega) dX7_rest_60 (fun f_42 ef_42 rf_42 H locs hP hD hS => ?_)
          refine lv_iload_n hx hb dX7_rest_61 rfl (lv_at hl 2 rfl) ?_
          refine lv_if_ne (tgt := 81) hx hb dX7_rest_62 (by decide) (fun c_43 => ?_) (fun c_43 => ?_)
          · have gc_43 : l_11.toInt ≠ 0 := i_ne (rfl : l_11.toInt = l_11.toInt) (by decide : (0 : Int32).toInt = 0) c_43
            refine lv_iconst (v := 1) hx hb dX7_rest_81 (by decide) ?_
            refine lv_goto (tgt := 86) hx hb dX7_rest_82 (by decide) ?_
            refine lv_istore_n (lv' := [(2, .int 1), (4, .int n_17), (3, .int l_12), (0, .ref (hs 62)), (1, .int i)]) hx hb dX7_rest_86 rfl hl (by decide) rfl (fun ls hl => ?_)
            refine lv_aload_n hx hb dX7_rest_87 rfl (lv_at hl 3 rfl) ?_
            refine gt_SP_search_tired hx hb hts hown hK hP lwd_128 dX7_rest_88 ?_
            refine lv_iload_n hx hb dX7_rest_91 rfl (lv_at hl 2 rfl) ?_
            refine lv_aload_n hx hb dX7_rest_92 rfl (lv_at hl 3 rfl) ?_
            refine gt_SP_search_restedOn hx hb hts hown hK hP lwd_131 dX7_rest_93 ?_
            refine lv_iload hx hb dX7_rest_96 (lv_at hl 1 rfl) ?_
            refine al_restedOn hx hb hK hP rf_42 (i_in tn_17 (by omega) (by omega)) dX7_rest_98 (fun n_44 en_44 bn_44 => ?_)
            have hsn_44 : n_44.toInt = r_38.toInt := by rw [en_44, ef_42, upd_at]
            refine as_stired (x := n_44) hx hb hK hP hD hS hL4_13_1 (i_in (rfl : l_12.toInt = l_12.toInt) (by omega) (by omega)) (by omega) dX7_rest_99 (fun f_45 ef_45 rf_45 H locs hP hD hS => ?_)
            obtain ⟨n_46, en_46⟩ : ∃ y : Int32, y = l_12 + 1 := ⟨_, rfl⟩
            have tn_46 : n_46.toInt = l_12.toInt + 1 := i_add en_46 (rfl : l_12.toInt = l_12.toInt) (by decide : (1 : Int32).toInt = 1) (by omega) (by omega)
            refine lv_iinc (v := n_46) (lv' := [(3, .int n_46), (2, .int 1), (4, .int n_17), (0, .ref (hs 62)), (1, .int i)]) hx hb dX7_rest_100 hl (k := 2) rfl (by rw [en_46]; rfl) (by decide) rfl (fun ls hl => ?_)
            refine lv_goto (tgt := 4) hx hb dX7_rest_103 (by decide) ?_
            have k_47 : (1 : Int32).toInt = 1 := by decide
            exact ih4_13 f_42 zrletters_39 zrstack_40 f_45 1 n_46 rf_42 rf_45 (by omega) (by omega) (by omega) _ _ _ hP hD hS (lv_sub hl [0, 1, 3, 4] rfl)
          · have gc_43 : l_11.toInt = 0 := i_eq (rfl : l_11.toInt = l_11.toInt) (by decide : (0 : Int32).toInt = 0) c_43
            refine lv_aload_n hx hb dX7_rest_65 rfl (lv_at hl 3 rfl) ?_
            refine gt_SP_search_restedOn hx hb hts hown hK hP lwd_131 dX7_rest_66 ?_
            refine lv_iload hx hb dX7_rest_69 (lv_at hl 0 rfl) ?_
            refine al_restedOn hx hb hK hP rf_42 (i_in tn_17 (by omega) (by omega)) dX7_rest_71 (fun n_48 en_48 bn_48 => ?_)
            have hsn_48 : n_48.toInt = r_38.toInt := by rw [en_48, ef_42, upd_at]
            refine lv_aload_n hx hb dX7_rest_72 rfl (lv_at hl 3 rfl) ?_
            refine gt_SP_search_tired hx hb hts hown hK hP lwd_128 dX7_rest_73 ?_
            refine lv_iload_n hx hb dX7_rest_76 rfl (lv_at hl 1 rfl) ?_
            refine al_stired hx hb hK hP hL4_13_1 (i_in (rfl : l_12.toInt = l_12.toInt) (by omega) (by omega)) dX7_rest_77 (fun n_49 en_49 bn_49 => ?_)
            obtain rfl : n_16 = n_49 := en_16.trans en_49.symm
            refine lv_icmp_eq (tgt := 85) hx hb dX7_rest_78 (by decide) (fun c_50 => ?_) (fun c_50 => ?_)
            · have gc_50 : n_48.toInt = n_16.toInt := i_eq (rfl : n_48.toInt = n_48.toInt) (rfl : n_16.toInt = n_16.toInt) c_50
              refine lv_iconst (v := 0) hx hb dX7_rest_85 (by decide) ?_
              refine lv_istore_n (lv' := [(2, .int 0), (4, .int n_17), (3, .int l_12), (0, .ref (hs 62)), (1, .int i)]) hx hb dX7_rest_86 rfl hl (by decide) rfl (fun ls hl => ?_)
              refine lv_aload_n hx hb dX7_rest_87 rfl (lv_at hl 3 rfl) ?_
              refine gt_SP_search_tired hx hb hts hown hK hP lwd_128 dX7_rest_88 ?_
              refine lv_iload_n hx hb dX7_rest_91 rfl (lv_at hl 2 rfl) ?_
              refine lv_aload_n hx hb dX7_rest_92 rfl (lv_at hl 3 rfl) ?_
              refine gt_SP_search_restedOn hx hb hts hown hK hP lwd_131 dX7_rest_93 ?_
              refine lv_iload hx hb dX7_rest_96 (lv_at hl 1 rfl) ?_
              refine al_restedOn hx hb hK hP rf_42 (i_in tn_17 (by omega) (by omega)) dX7_rest_98 (fun n_51 en_51 bn_51 => ?_)
              have hsn_51 : n_51.toInt = r_38.toInt := by rw [en_51, ef_42, upd_at]
              obtain rfl : n_48 = n_51 := en_48.trans en_51.symm
              refine as_stired (x := n_48) hx hb hK hP hD hS hL4_13_1 (i_in (rfl : l_12.toInt = l_12.toInt) (by omega) (by omega)) (by omega) dX7_rest_99 (fun f_52 ef_52 rf_52 H locs hP hD hS => ?_)
              obtain ⟨n_53, en_53⟩ : ∃ y : Int32, y = l_12 + 1 := ⟨_, rfl⟩
              have tn_53 : n_53.toInt = l_12.toInt + 1 := i_add en_53 (rfl : l_12.toInt = l_12.toInt) (by decide : (1 : Int32).toInt = 1) (by omega) (by omega)
              refine lv_iinc (v := n_53) (lv' := [(3, .int n_53), (2, .int 0), (4, .int n_17), (0, .ref (hs 62)), (1, .int i)]) hx hb dX7_rest_100 hl (k := 2) rfl (by rw [en_53]; rfl) (by decide) rfl (fun ls hl => ?_)
              refine lv_goto (tgt := 4) hx hb dX7_rest_103 (by decide) ?_
              have k_54 : (0 : Int32).toInt = 0 := by decide
              exact ih4_13 f_42 zrletters_39 zrstack_40 f_52 0 n_53 rf_42 rf_52 (by omega) (by omega) (by omega) _ _ _ hP hD hS (lv_sub hl [0, 1, 3, 4] rfl)
            · have gc_50 : n_48.toInt ≠ n_16.toInt := i_ne (rfl : n_48.toInt = n_48.toInt) (rfl : n_16.toInt = n_16.toInt) c_50
              refine lv_iconst (v := 1) hx hb dX7_rest_81 (by decide) ?_
              refine lv_goto (tgt := 86) hx hb dX7_rest_82 (by decide) ?_
              refine lv_istore_n (lv' := [(2, .int 1), (4, .int n_17), (3, .int l_12), (0, .ref (hs 62)), (1, .int i)]) hx hb dX7_rest_86 rfl hl (by decide) rfl (fun ls hl => ?_)
              refine lv_aload_n hx hb dX7_rest_87 rfl (lv_at hl 3 rfl) ?_
              refine gt_SP_search_tired hx hb hts hown hK hP lwd_128 dX7_rest_88 ?_
              refine lv_iload_n hx hb dX7_rest_91 rfl (lv_at hl 2 rfl) ?_
              refine lv_aload_n hx hb dX7_rest_92 rfl (lv_at hl 3 rfl) ?_
              refine gt_SP_search_restedOn hx hb hts hown hK hP lwd_131 dX7_rest_93 ?_
              refine lv_iload hx hb dX7_rest_96 (lv_at hl 1 rfl) ?_
              refine al_restedOn hx hb hK hP rf_42 (i_in tn_17 (by omega) (by omega)) dX7_rest_98 (fun n_55 en_55 bn_55 => ?_)
              have hsn_55 : n_55.toInt = r_38.toInt := by rw [en_55, ef_42, upd_at]
              obtain rfl : n_48 = n_55 := en_48.trans en_55.symm
              refine as_stired (x := n_48) hx hb hK hP hD hS hL4_13_1 (i_in (rfl : l_12.toInt = l_12.toInt) (by omega) (by omega)) (by omega) dX7_rest_99 (fun f_56 ef_56 rf_56 H locs hP hD hS => ?_)
              obtain ⟨n_57, en_57⟩ : ∃ y : Int32, y = l_12 + 1 := ⟨_, rfl⟩
              have tn_57 : n_57.toInt = l_12.toInt + 1 := i_add en_57 (rfl : l_12.toInt = l_12.toInt) (by decide : (1 : Int32).toInt = 1) (by omega) (by omega)
              refine lv_iinc (v := n_57) (lv' := [(3, .int n_57), (2, .int 1), (4, .int n_17), (0, .ref (hs 62)), (1, .int i)]) hx hb dX7_rest_100 hl (k := 2) rfl (by rw [en_57]; rfl) (by decide) rfl (fun ls hl => ?_)
              refine lv_goto (tgt := 4) hx hb dX7_rest_103 (by decide) ?_
              have k_58 : (1 : Int32).toInt = 1 := by decide
              exact ih4_13 f_42 zrletters_39 zrstack_40 f_56 1 n_57 rf_42 rf_56 (by omega) (by omega) (by omega) _ _ _ hP hD hS (lv_sub hl [0, 1, 3, 4] rfl)
  have k_59 : (0 : Int32).toInt = 0 := by decide
  have k_60 : (0 : Int32).toInt = 0 := by decide
  exact L4_13 8589934592 f_restedOn f_rletters f_rstack f_stired 0 0 hr_restedOn hr_stired (by omega) (by omega) (by omega) _ _ _ hP hD hS (lv_sub hl [0, 1, 2, 3] rfl)
set_option maxHeartbeats 16000000 in
set_option maxRecDepth 100000 in
theorem c_X7_weigh (l : Launch) (D : va_G) (cy : Nat → ClassId) (hs : Nat → Nat) (hH hT sH sT : Nat) (v_tape_size v_band_walkers v_band_loads v_band_pieces v_rules_clauses v_reader_end v_reader_at v_reader_length v_reader_letter v_reader_fault v_draft_clauses v_paces_version v_packing_quicker v_packing_loads v_packing_looseCount v_marches_told v_marches_changeMinutes v_marches_marching v_marches_gone v_search_known v_search_countHere v_search_countThere v_search_cost v_search_most : Int32) (v_search_found : Int64) (f_bytes f_knee f_weight f_limps f_bheft f_owner f_food f_miles f_slope f_rsteps f_rkind f_ryields f_rholds f_rletters f_rstack f_dsteps f_dkind f_dyields f_dholds f_dletters f_dstack f_caps f_versions f_sharing f_pheft f_prow f_holder f_comes f_pcaps f_room f_loose f_reached f_mrow f_minutesOn f_mtired : Nat → Int32) (f_here f_there : Nat → Int64) (f_statesHere f_statesThere f_listed f_stired f_burdens f_pacesOn f_restedOn f_behindOn f_behindFor f_first f_second : Nat → Int32) (f_plans f_tiredOn : Nat → Nat → Int32) (tS : Nat) (sz : Nat) (i : Int32) (hb_v_band_walkers : 0 ≤ v_band_walkers.toInt ∧ v_band_walkers.toInt ≤ 6) (hb_v_band_loads : 0 ≤ v_band_loads.toInt ∧ v_band_loads.toInt ≤ 9) (hr_bheft : rg (0) 120 f_bheft) (hr_food : rg (0) 20 f_food) (hr_pacesOn : rg (-1) 60 f_pacesOn) (hr_restedOn : rg (-1) 5 f_restedOn) (ha_i : 0 ≤ i.toInt ∧ i.toInt ≤ 9) (hw4 : v_band_walkers.toInt ≤ 4) : gMv l yX7_weigh cX7_weigh 4 3 [.ref (hs 62), .int i] D cy (wSP cy hs hH hT sH sT v_tape_size v_band_walkers v_band_loads v_band_pieces v_rules_clauses v_reader_end v_reader_at v_reader_length v_reader_letter v_reader_fault v_draft_clauses v_paces_version v_packing_quicker v_packing_loads v_packing_looseCount v_marches_told v_marches_changeMinutes v_marches_marching v_marches_gone v_search_known v_search_countHere v_search_countThere v_search_cost v_search_most v_search_found f_bytes f_knee f_weight f_limps f_bheft f_owner f_food f_miles f_slope f_rsteps f_rkind f_ryields f_rholds f_rletters f_rstack f_dsteps f_dkind f_dyields f_dholds f_dletters f_dstack f_caps f_versions f_sharing f_pheft f_prow f_holder f_comes f_pcaps f_room f_loose f_reached f_mrow f_minutesOn f_mtired f_here f_there f_statesHere f_statesThere f_listed f_stired f_burdens f_pacesOn f_restedOn f_behindOn f_behindFor f_first f_second f_plans f_tiredOn) (NS tS) sz (fun (u : (Nat → Int32) × (Nat → Int32) × (Nat → Int32) × (Nat → Int32)) => (rg (-1) 60 (u.2.1)) ∧ (rg (-1) 5 (u.2.2.1))) (fun u => wSP cy hs hH hT sH sT v_tape_size v_band_walkers v_band_loads v_band_pieces v_rules_clauses v_reader_end v_reader_at v_reader_length v_reader_letter v_reader_fault v_draft_clauses v_paces_version v_packing_quicker v_packing_loads v_packing_looseCount v_marches_told v_marches_changeMinutes v_marches_marching v_marches_gone v_search_known v_search_countHere v_search_countThere v_search_cost v_search_most v_search_found f_bytes f_knee f_weight f_limps f_bheft f_owner f_food f_miles f_slope f_rsteps f_rkind f_ryields f_rholds f_rletters f_rstack f_dsteps f_dkind f_dyields f_dholds f_dletters f_dstack f_caps f_versions f_sharing f_pheft f_prow f_holder f_comes f_pcaps f_room f_loose f_reached f_mrow f_minutesOn f_mtired f_here f_there f_statesHere f_statesThere f_listed f_stired (u.1) (u.2.1) (u.2.2.1) f_behindOn (u.2.2.2) f_first f_second f_plans f_tiredOn) := by
  refine gMv_in (by decide) (Nat.le_of_ble_eq_true rfl) ?_
  intro p e s m args below meth c A ls Q hx hb hml hts hown hsz hP hK hD hN hAe hA hS hl hret
  subst hsz
  have hl : lv_has ls 4 [(0, .ref (hs 62)), (1, .int i)] := hl
  have hrt := fun (f_burdens' : Nat → Int32) (f_pacesOn' : Nat → Int32) (f_restedOn' : Nat → Int32) (f_behindFor' : Nat → Int32) (hp : (rg (-1) 60 f_pacesOn') ∧ (rg (-1) 5 f_restedOn')) {H : Heap} {locs : List Loc} {pc : Nat} {ls : Array Slot} => hret (f_burdens', f_pacesOn', f_restedOn', f_behindFor') (H := H) (locs := locs) (pc := pc) (ls := ls) hp
  clear hret
  refine lv_iconst (v := 0) hx hb dX7_weigh_0 (by decide) ?_
  refine lv_istore_n (lv' := [(2, .int 0), (0, .ref (hs 62)), (1, .int i)]) hx hb dX7_weigh_1 rfl hl (by decide) rfl (fun ls hl => ?_)
  have L2_5 : ∀ (n : Nat) (f_3 : Nat → Int32) (l_4 : Int32), (0 ≤ l_4.toInt ∧ l_4.toInt ≤ 6) → 7 - l_4.toInt < n → ∀ (H : Heap) (locs : List Loc) (ls : Array Slot), va_P D vwCl (wSP cy hs hH hT sH sT v_tape_size v_band_walkers v_band_loads v_band_pieces v_rules_clauses v_reader_end v_reader_at v_reader_length v_reader_letter v_reader_fault v_draft_clauses v_paces_version v_packing_quicker v_packing_loads v_packing_looseCount v_marches_told v_marches_changeMinutes v_marches_marching v_marches_gone v_search_known v_search_countHere v_search_countThere v_search_cost v_search_most v_search_found f_bytes f_knee f_weight f_limps f_bheft f_owner f_food f_miles f_slope f_rsteps f_rkind f_ryields f_rholds f_rletters f_rstack f_dsteps f_dkind f_dyields f_dholds f_dletters f_dstack f_caps f_versions f_sharing f_pheft f_prow f_holder f_comes f_pcaps f_room f_loose f_reached f_mrow f_minutesOn f_mtired f_here f_there f_statesHere f_statesThere f_listed f_stired f_3 f_pacesOn f_restedOn f_behindOn f_behindFor f_first f_second f_plans f_tiredOn) H → va_D A (wSP cy hs hH hT sH sT v_tape_size v_band_walkers v_band_loads v_band_pieces v_rules_clauses v_reader_end v_reader_at v_reader_length v_reader_letter v_reader_fault v_draft_clauses v_paces_version v_packing_quicker v_packing_loads v_packing_looseCount v_marches_told v_marches_changeMinutes v_marches_marching v_marches_gone v_search_known v_search_countHere v_search_countThere v_search_cost v_search_most v_search_found f_bytes f_knee f_weight f_limps f_bheft f_owner f_food f_miles f_slope f_rsteps f_rkind f_ryields f_rholds f_rletters f_rstack f_dsteps f_dkind f_dyields f_dholds f_dletters f_dstack f_caps f_versions f_sharing f_pheft f_prow f_holder f_comes f_pcaps f_room f_loose f_reached f_mrow f_minutesOn f_mtired f_here f_there f_statesHere f_statesThere f_listed f_stired f_3 f_pacesOn f_restedOn f_behindOn f_behindFor f_first f_second f_plans f_tiredOn) → va_S A s.heap H locs → lv_has ls 4 [(2, .int l_4), (0, .ref (hs 62)), (1, .int i)] → W p l e (gRm 3) s m args below meth c H locs 0 0 Q (F0 m 2 ls []) := by
    intro n
    induction n with
    | zero => intro f_3 l_4 hL2_5_0 hm; exact absurd hm (by omega)
    | succ n ih2_5 =>
      intro f_3 l_4 hL2_5_0 hmL2_5 H locs ls hP hD hS hl
      refine lv_iload_n hx hb dX7_weigh_2 rfl (lv_at hl 0 rfl) ?_
      refine lv_bipush (v := 6) hx hb dX7_weigh_3 (by decide) ?_
      refine lv_icmp_ge (tgt := 64) hx hb dX7_weigh_5 (by decide) (fun c_6 => ?_) (fun c_6 => ?_)
      · have gc_6 : 6 ≤ l_4.toInt := i_le (by decide : (6 : Int32).toInt = 6) (rfl : l_4.toInt = l_4.toInt) c_6
        refine lv_aload_n hx hb dX7_weigh_64 rfl (lv_at hl 1 rfl) ?_
        refine gt_SP_search_pacesOn hx hb hts hown hK hP lwd_130 dX7_weigh_65 ?_
        refine lv_iconst (v := (-1)) hx hb dX7_weigh_68 (by decide) ?_
        have k_7 : ((-1) : Int32).toInt = (-1) := by decide
        refine xv hD hS hA (xS (As := [.ref (hs 70), .int (-1)]) (rest := []) hx hb hml hown hts hK hP hD hS hA NS_ok hN hAe hl.1 ⟨Nat.le_refl _, Nat.le_refl _⟩ (c_fill_pacesOn l D cy hs hH hT sH sT v_tape_size v_band_walkers v_band_loads v_band_pieces v_rules_clauses v_reader_end v_reader_at v_reader_length v_reader_letter v_reader_fault v_draft_clauses v_paces_version v_packing_quicker v_packing_loads v_packing_looseCount v_marches_told v_marches_changeMinutes v_marches_marching v_marches_gone v_search_known v_search_countHere v_search_countThere v_search_cost v_search_most v_search_found f_bytes f_knee f_weight f_limps f_bheft f_owner f_food f_miles f_slope f_rsteps f_rkind f_ryields f_rholds f_rletters f_rstack f_dsteps f_dkind f_dyields f_dholds f_dletters f_dstack f_caps f_versions f_sharing f_pheft f_prow f_holder f_comes f_pcaps f_room f_loose f_reached f_mrow f_minutesOn f_mtired f_here f_there f_statesHere f_statesThere f_listed f_stired f_3 f_pacesOn f_restedOn f_behindOn f_behindFor f_first f_second f_plans f_tiredOn tS H.size (-1) hr_pacesOn (by omega)) (gi_S lwd_1061 lwd_933 lwd_140 lwd_934) hd_J7_fill_53178 ⟨Nat.le_of_ble_eq_true rfl, Nat.le_of_ble_eq_true rfl⟩ rfl (Nat.le_of_ble_eq_true rfl) dX7_weigh_69) (fun u_8 H locs hw hP hD hS => ?_)
        obtain ⟨zpacesOn_10, rfl⟩ : ∃ z, z = u_8 := ⟨_, rfl⟩
        try dsimp only at hw hP hD
        have p_11 := hw
        clear hw
        refine lv_aload_n hx hb dX7_weigh_72 rfl (lv_at hl 1 rfl) ?_
        refine gt_SP_search_restedOn hx hb hts hown hK hP lwd_131 dX7_weigh_73 ?_
        refine lv_iconst (v := (-1)) hx hb dX7_weigh_76 (by decide) ?_
        refine xv hD hS hA (xS (As := [.ref (hs 71), .int (-1)]) (rest := []) hx hb hml hown hts hK hP hD hS hA NS_ok hN hAe hl.1 ⟨Nat.le_refl _, Nat.le_refl _⟩ (c_fill_restedOn l D cy hs hH hT sH sT v_tape_size v_band_walkers v_band_loads v_band_pieces v_rules_clauses v_reader_end v_reader_at v_reader_length v_reader_letter v_reader_fault v_draft_clauses v_paces_version v_packing_quicker v_packing_loads v_packing_looseCount v_marches_told v_marches_changeMinutes v_marches_marching v_marches_gone v_search_known v_search_countHere v_search_countThere v_search_cost v_search_most v_search_found f_bytes f_knee f_weight f_limps f_bheft f_owner f_food f_miles f_slope f_rsteps f_rkind f_ryields f_rholds f_rletters f_rstack f_dsteps f_dkind f_dyields f_dholds f_dletters f_dstack f_caps f_versions f_sharing f_pheft f_prow f_holder f_comes f_pcaps f_room f_loose f_reached f_mrow f_minutesOn f_mtired f_here f_there f_statesHere f_statesThere f_listed f_stired f_3 zpacesOn_10 f_restedOn f_behindOn f_behindFor f_first f_second f_plans f_tiredOn tS H.size (-1) hr_restedOn (by omega)) (gi_S lwd_1061 lwd_933 lwd_140 lwd_934) hd_J7_fill_53178 ⟨Nat.le_of_ble_eq_true rfl, Nat.le_of_ble_eq_true rfl⟩ rfl (Nat.le_of_ble_eq_true rfl) dX7_weigh_77) (fun u_12 H locs hw hP hD hS => ?_)
        obtain ⟨zrestedOn_14, rfl⟩ : ∃ z, z = u_12 := ⟨_, rfl⟩
        try dsimp only at hw hP hD
        have p_15 := hw
        clear hw
        refine lv_aload_n hx hb dX7_weigh_80 rfl (lv_at hl 1 rfl) ?_
        refine gt_SP_search_behindFor hx hb hts hown hK hP lwd_133 dX7_weigh_81 ?_
        refine lv_iconst (v := (-1)) hx hb dX7_weigh_84 (by decide) ?_
        refine xv hD hS hA (xS (As := [.ref (hs 73), .int (-1)]) (rest := []) hx hb hml hown hts hK hP hD hS hA NS_ok hN hAe hl.1 ⟨Nat.le_refl _, Nat.le_refl _⟩ (c_fill_behindFor l D cy hs hH hT sH sT v_tape_size v_band_walkers v_band_loads v_band_pieces v_rules_clauses v_reader_end v_reader_at v_reader_length v_reader_letter v_reader_fault v_draft_clauses v_paces_version v_packing_quicker v_packing_loads v_packing_looseCount v_marches_told v_marches_changeMinutes v_marches_marching v_marches_gone v_search_known v_search_countHere v_search_countThere v_search_cost v_search_most v_search_found f_bytes f_knee f_weight f_limps f_bheft f_owner f_food f_miles f_slope f_rsteps f_rkind f_ryields f_rholds f_rletters f_rstack f_dsteps f_dkind f_dyields f_dholds f_dletters f_dstack f_caps f_versions f_sharing f_pheft f_prow f_holder f_comes f_pcaps f_room f_loose f_reached f_mrow f_minutesOn f_mtired f_here f_there f_statesHere f_statesThere f_listed f_stired f_3 zpacesOn_10 zrestedOn_14 f_behindOn f_behindFor f_first f_second f_plans f_tiredOn tS H.size (-1)) (gi_S lwd_1061 lwd_933 lwd_140 lwd_934) hd_J7_fill_53178 ⟨Nat.le_of_ble_eq_true rfl, Nat.le_of_ble_eq_true rfl⟩ rfl (Nat.le_of_ble_eq_true rfl) dX7_weigh_85) (fun u_16 H locs hw hP hD hS => ?_)
        obtain ⟨zbehindFor_18, rfl⟩ : ∃ z, z = u_16 := ⟨_, rfl⟩
        try dsimp only at hw hP hD
        clear hw
        exact hrt f_3 zpacesOn_10 zrestedOn_14 zbehindFor_18 ⟨p_11, p_15⟩ hP hD hS dX7_weigh_88
      · have gc_6 : l_4.toInt < 6 := i_nle (by decide : (6 : Int32).toInt = 6) (rfl : l_4.toInt = l_4.toInt) c_6
        refine lv_iconst (v := 0) hx hb dX7_weigh_8 (by decide) ?_
        refine lv_istore_n (lv' := [(3, .int 0), (2, .int l_4), (0, .ref (hs 62)), (1, .int i)]) hx hb dX7_weigh_9 rfl hl (by decide) rfl (fun ls hl => ?_)
        have L10_23 : ∀ (n : Nat) (f_21 : Nat → Int32) (l_22 : Int32), (0 ≤ l_22.toInt ∧ l_22.toInt ≤ 6) → 7 - l_22.toInt < n → ∀ (H : Heap) (locs : List Loc) (ls : Array Slot), va_P D vwCl (wSP cy hs hH hT sH sT v_tape_size v_band_walkers v_band_loads v_band_pieces v_rules_clauses v_reader_end v_reader_at v_reader_length v_reader_letter v_reader_fault v_draft_clauses v_paces_version v_packing_quicker v_packing_loads v_packing_looseCount v_marches_told v_marches_changeMinutes v_marches_marching v_marches_gone v_search_known v_search_countHere v_search_countThere v_search_cost v_search_most v_search_found f_bytes f_knee f_weight f_limps f_bheft f_owner f_food f_miles f_slope f_rsteps f_rkind f_ryields f_rholds f_rletters f_rstack f_dsteps f_dkind f_dyields f_dholds f_dletters f_dstack f_caps f_versions f_sharing f_pheft f_prow f_holder f_comes f_pcaps f_room f_loose f_reached f_mrow f_minutesOn f_mtired f_here f_there f_statesHere f_statesThere f_listed f_stired f_21 f_pacesOn f_restedOn f_behindOn f_behindFor f_first f_second f_plans f_tiredOn) H → va_D A (wSP cy hs hH hT sH sT v_tape_size v_band_walkers v_band_loads v_band_pieces v_rules_clauses v_reader_end v_reader_at v_reader_length v_reader_letter v_reader_fault v_draft_clauses v_paces_version v_packing_quicker v_packing_loads v_packing_looseCount v_marches_told v_marches_changeMinutes v_marches_marching v_marches_gone v_search_known v_search_countHere v_search_countThere v_search_cost v_search_most v_search_found f_bytes f_knee f_weight f_limps f_bheft f_owner f_food f_miles f_slope f_rsteps f_rkind f_ryields f_rholds f_rletters f_rstack f_dsteps f_dkind f_dyields f_dholds f_dletters f_dstack f_caps f_versions f_sharing f_pheft f_prow f_holder f_comes f_pcaps f_room f_loose f_reached f_mrow f_minutesOn f_mtired f_here f_there f_statesHere f_statesThere f_listed f_stired f_21 f_pacesOn f_restedOn f_behindOn f_behindFor f_first f_second f_plans f_tiredOn) → va_S A s.heap H locs → lv_has ls 4 [(3, .int l_22), (2, .int l_4), (0, .ref (hs 62)), (1, .int i)] → W p l e (gRm 3) s m args below meth c H locs 0 0 Q (F0 m 10 ls []) := by
          intro n
          induction n with
          | zero => intro f_21 l_22 hL10_23_0 hm; exact absurd hm (by omega)
          | succ n ih10_23 =>
            intro f_21 l_22 hL10_23_0 hmL10_23 H locs ls hP hD hS hl
            refine lv_iload_n hx hb dX7_weigh_10 rfl (lv_at hl 0 rfl) ?_
            refine lv_aload_n hx hb dX7_weigh_11 rfl (lv_at hl 2 rfl) ?_
            refine gt_SP_search_band hx hb hts hown hK hP lwd_134 dX7_weigh_12 ?_
            refine gt_SP_band_walkers hx hb hts hown hK hP lwd_1058 dX7_weigh_15 ?_
            refine lv_icmp_ge (tgt := 58) hx hb dX7_weigh_18 (by decide) (fun c_24 => ?_) (fun c_24 => ?_)
            · have gc_24 : v_band_walkers.toInt ≤ l_22.toInt := i_le (rfl : v_band_walkers.toInt = v_band_walkers.toInt) (rfl : l_22.toInt = l_22.toInt) c_24
              obtain ⟨n_25, en_25⟩ : ∃ y : Int32, y = l_4 + 1 := ⟨_, rfl⟩
              have tn_25 : n_25.toInt = l_4.toInt + 1 := i_add en_25 (rfl : l_4.toInt = l_4.toInt) (by decide : (1 : Int32).toInt = 1) (by omega) (by omega)
              refine lv_iinc (v := n_25) (lv' := [(2, .int n_25), (3, .int l_22), (0, .ref (hs 62)), (1, .int i)]) hx hb dX7_weigh_58 hl (k := 1) rfl (by rw [en_25]; rfl) (by decide) rfl (fun ls hl => ?_)
              refine lv_goto (tgt := 2) hx hb dX7_weigh_61 (by decide) ?_
              exact ih2_5 f_21 n_25 (by omega) (by omega) _ _ _ hP hD hS (lv_sub hl [0, 2, 3] rfl)
            · have gc_24 : l_22.toInt < v_band_walkers.toInt := i_nle (rfl : v_band_walkers.toInt = v_band_walkers.toInt) (rfl : l_22.toInt = l_22.toInt) c_24
              refine lv_aload_n hx hb dX7_weigh_21 rfl (lv_at hl 2 rfl) ?_
              refine gt_SP_search_marches hx hb hts hown hK hP lwd_136 dX7_weigh_22 ?_
              refine lv_iload_n hx hb dX7_weigh_25 rfl (lv_at hl 1 rfl) ?_
              refine xi hD hS hA (xV (As := [.int l_4]) (rest := []) hx hb hml hown hts hK hP hD hS hA NS_ok hN hAe hl.1 ⟨Nat.le_refl _, Nat.le_refl _⟩ 40 rfl rfl rfl (c_X1_isTold l D cy hs hH hT sH sT v_tape_size v_band_walkers v_band_loads v_band_pieces v_rules_clauses v_reader_end v_reader_at v_reader_length v_reader_letter v_reader_fault v_draft_clauses v_paces_version v_packing_quicker v_packing_loads v_packing_looseCount v_marches_told v_marches_changeMinutes v_marches_marching v_marches_gone v_search_known v_search_countHere v_search_countThere v_search_cost v_search_most v_search_found f_bytes f_knee f_weight f_limps f_bheft f_owner f_food f_miles f_slope f_rsteps f_rkind f_ryields f_rholds f_rletters f_rstack f_dsteps f_dkind f_dyields f_dholds f_dletters f_dstack f_caps f_versions f_sharing f_pheft f_prow f_holder f_comes f_pcaps f_room f_loose f_reached f_mrow f_minutesOn f_mtired f_here f_there f_statesHere f_statesThere f_listed f_stired f_21 f_pacesOn f_restedOn f_behindOn f_behindFor f_first f_second f_plans f_tiredOn tS H.size l_4) (gi_V lwd_1059 lwd_912 lwd_913 lwd_38 lwd_914) ⟨rfl, hd_X1_isTold⟩ ⟨Nat.le_of_ble_eq_true rfl, Nat.le_of_ble_eq_true rfl⟩ rfl (Nat.le_of_ble_eq_true rfl) dX7_weigh_26) (fun r_27 u_26 H locs hw hP hD hS => ?_)
              try dsimp only at hw hP hD
              obtain ⟨p_28, p_29⟩ := hw
              refine lv_if_eq (tgt := 58) hx hb dX7_weigh_29 (by decide) (fun c_30 => ?_) (fun c_30 => ?_)
              · have gc_30 : r_27.toInt = 0 := i_eq (rfl : r_27.toInt = r_27.toInt) (by decide : (0 : Int32).toInt = 0) c_30
                obtain ⟨n_31, en_31⟩ : ∃ y : Int32, y = l_4 + 1 := ⟨_, rfl⟩
                have tn_31 : n_31.toInt = l_4.toInt + 1 := i_add en_31 (rfl : l_4.toInt = l_4.toInt) (by decide : (1 : Int32).toInt = 1) (by omega) (by omega)
                refine lv_iinc (v := n_31) (lv' := [(2, .int n_31), (3, .int l_22), (0, .ref (hs 62)), (1, .int i)]) hx hb dX7_weigh_58 hl (k := 1) rfl (by rw [en_31]; rfl) (by decide) rfl (fun ls hl => ?_)
                refine lv_goto (tgt := 2) hx hb dX7_weigh_61 (by decide) ?_
                exact ih2_5 f_21 n_31 (by omega) (by omega) _ _ _ hP hD hS (lv_sub hl [0, 2, 3] rfl)
              · have gc_30 : r_27.toInt ≠ 0 := i_ne (rfl : r_27.toInt = r_27.toInt) (by decide : (0 : Int32).toInt = 0) c_30
                refine lv_aload_n hx hb dX7_weigh_32 rfl (lv_at hl 2 rfl) ?_
                refine gt_SP_search_burdens hx hb hts hown hK hP lwd_129 dX7_weigh_33 ?_
                refine lv_iload_n hx hb dX7_weigh_36 rfl (lv_at hl 1 rfl) ?_
                refine lv_iconst (v := 4) hx hb dX7_weigh_37 (by decide) ?_
                refine lv_imul hx hb dX7_weigh_38 ?_
                refine lv_topi (fun n_32 en_32 => ?_)
                have tn_32 : n_32.toInt = l_4.toInt * 4 := i_mul en_32 (rfl : l_4.toInt = l_4.toInt) (by decide : (4 : Int32).toInt = 4) (by omega) (by omega)
                refine lv_iload_n hx hb dX7_weigh_39 rfl (lv_at hl 0 rfl) ?_
                refine lv_iadd hx hb dX7_weigh_40 ?_
                refine lv_topi (fun n_33 en_33 => ?_)
                have tn_33 : n_33.toInt = (l_4.toInt * 4) + l_22.toInt := i_add en_33 tn_32 (rfl : l_22.toInt = l_22.toInt) (by omega) (by omega)
                refine lv_aload_n hx hb dX7_weigh_41 rfl (lv_at hl 2 rfl) ?_
                refine gt_SP_search_marches hx hb hts hown hK hP lwd_136 dX7_weigh_42 ?_
                refine lv_iload_n hx hb dX7_weigh_45 rfl (lv_at hl 1 rfl) ?_
                refine lv_iload_n hx hb dX7_weigh_46 rfl (lv_at hl 0 rfl) ?_
                refine lv_iload_n hx hb dX7_weigh_47 rfl (lv_at hl 3 rfl) ?_
                refine xi hD hS hA (xV (As := [.int l_4, .int l_22, .int i]) (rest := [.int n_33, .ref (hs 69)]) hx hb hml hown hts hK hP hD hS hA NS_ok hN hAe hl.1 ⟨Nat.le_refl _, Nat.le_refl _⟩ 40 rfl rfl rfl (c_X1_burden l D cy hs hH hT sH sT v_tape_size v_band_walkers v_band_loads v_band_pieces v_rules_clauses v_reader_end v_reader_at v_reader_length v_reader_letter v_reader_fault v_draft_clauses v_paces_version v_packing_quicker v_packing_loads v_packing_looseCount v_marches_told v_marches_changeMinutes v_marches_marching v_marches_gone v_search_known v_search_countHere v_search_countThere v_search_cost v_search_most v_search_found f_bytes f_knee f_weight f_limps f_bheft f_owner f_food f_miles f_slope f_rsteps f_rkind f_ryields f_rholds f_rletters f_rstack f_dsteps f_dkind f_dyields f_dholds f_dletters f_dstack f_caps f_versions f_sharing f_pheft f_prow f_holder f_comes f_pcaps f_room f_loose f_reached f_mrow f_minutesOn f_mtired f_here f_there f_statesHere f_statesThere f_listed f_stired f_21 f_pacesOn f_restedOn f_behindOn f_behindFor f_first f_second f_plans f_tiredOn tS H.size l_4 l_22 i (by omega) hr_bheft hr_food (by omega) (by omega)) (gi_V lwd_1060 lwd_947 lwd_948 lwd_38 lwd_949) ⟨rfl, hd_X1_burden⟩ ⟨Nat.le_of_ble_eq_true rfl, Nat.le_of_ble_eq_true rfl⟩ rfl (Nat.le_of_ble_eq_true rfl) dX7_weigh_48) (fun r_35 u_34 H locs hw hP hD hS => ?_)
                try dsimp only at hw hP hD
                clear hw
                refine as_burdens (x := r_35) hx hb hK hP hD hS (i_in tn_33 (by omega) (by omega)) dX7_weigh_51 (fun f_36 ef_36 H locs hP hD hS => ?_)
                obtain ⟨n_37, en_37⟩ : ∃ y : Int32, y = l_22 + 1 := ⟨_, rfl⟩
                have tn_37 : n_37.toInt = l_22.toInt + 1 := i_add en_37 (rfl : l_22.toInt = l_22.toInt) (by decide : (1 : Int32).toInt = 1) (by omega) (by omega)
                refine lv_iinc (v := n_37) (lv' := [(3, .int n_37), (2, .int l_4), (0, .ref (hs 62)), (1, .int i)]) hx hb dX7_weigh_52 hl (k := 0) rfl (by rw [en_37]; rfl) (by decide) rfl (fun ls hl => ?_)
                refine lv_goto (tgt := 10) hx hb dX7_weigh_55 (by decide) ?_
                exact ih10_23 f_36 n_37 (by omega) (by omega) _ _ _ hP hD hS (lv_sub hl [0, 1, 2, 3] rfl)
        have k_38 : (0 : Int32).toInt = 0 := by decide
        exact L10_23 8589934592 f_3 0 (by omega) (by omega) _ _ _ hP hD hS (lv_sub hl [0, 1, 2, 3] rfl)
  have k_39 : (0 : Int32).toInt = 0 := by decide
  exact L2_5 8589934592 f_burdens 0 (by omega) (by omega) _ _ _ hP hD hS (lv_sub hl [0, 1, 2] rfl)
set_option maxHeartbeats 16000000 in
set_option maxRecDepth 100000 in
theorem c_X7_signAt (l : Launch) (D : va_G) (cy : Nat → ClassId) (hs : Nat → Nat) (hH hT sH sT : Nat) (v_tape_size v_band_walkers v_band_loads v_band_pieces v_rules_clauses v_reader_end v_reader_at v_reader_length v_reader_letter v_reader_fault v_draft_clauses v_paces_version v_packing_quicker v_packing_loads v_packing_looseCount v_marches_told v_marches_changeMinutes v_marches_marching v_marches_gone v_search_known v_search_countHere v_search_countThere v_search_cost v_search_most : Int32) (v_search_found : Int64) (f_bytes f_knee f_weight f_limps f_bheft f_owner f_food f_miles f_slope f_rsteps f_rkind f_ryields f_rholds f_rletters f_rstack f_dsteps f_dkind f_dyields f_dholds f_dletters f_dstack f_caps f_versions f_sharing f_pheft f_prow f_holder f_comes f_pcaps f_room f_loose f_reached f_mrow f_minutesOn f_mtired : Nat → Int32) (f_here f_there : Nat → Int64) (f_statesHere f_statesThere f_listed f_stired f_burdens f_pacesOn f_restedOn f_behindOn f_behindFor f_first f_second : Nat → Int32) (f_plans f_tiredOn : Nat → Nat → Int32) (tS : Nat) (sz : Nat) (i : Int32) (ha_i : 0 ≤ i.toInt ∧ i.toInt ≤ 9) : gMi l yX7_signAt cX7_signAt 5 .int 1 [.ref (hs 62), .int i] D cy (wSP cy hs hH hT sH sT v_tape_size v_band_walkers v_band_loads v_band_pieces v_rules_clauses v_reader_end v_reader_at v_reader_length v_reader_letter v_reader_fault v_draft_clauses v_paces_version v_packing_quicker v_packing_loads v_packing_looseCount v_marches_told v_marches_changeMinutes v_marches_marching v_marches_gone v_search_known v_search_countHere v_search_countThere v_search_cost v_search_most v_search_found f_bytes f_knee f_weight f_limps f_bheft f_owner f_food f_miles f_slope f_rsteps f_rkind f_ryields f_rholds f_rletters f_rstack f_dsteps f_dkind f_dyields f_dholds f_dletters f_dstack f_caps f_versions f_sharing f_pheft f_prow f_holder f_comes f_pcaps f_room f_loose f_reached f_mrow f_minutesOn f_mtired f_here f_there f_statesHere f_statesThere f_listed f_stired f_burdens f_pacesOn f_restedOn f_behindOn f_behindFor f_first f_second f_plans f_tiredOn) (NS tS) sz (fun (r : Int32) (u : Unit) => True) (fun u => wSP cy hs hH hT sH sT v_tape_size v_band_walkers v_band_loads v_band_pieces v_rules_clauses v_reader_end v_reader_at v_reader_length v_reader_letter v_reader_fault v_draft_clauses v_paces_version v_packing_quicker v_packing_loads v_packing_looseCount v_marches_told v_marches_changeMinutes v_marches_marching v_marches_gone v_search_known v_search_countHere v_search_countThere v_search_cost v_search_most v_search_found f_bytes f_knee f_weight f_limps f_bheft f_owner f_food f_miles f_slope f_rsteps f_rkind f_ryields f_rholds f_rletters f_rstack f_dsteps f_dkind f_dyields f_dholds f_dletters f_dstack f_caps f_versions f_sharing f_pheft f_prow f_holder f_comes f_pcaps f_room f_loose f_reached f_mrow f_minutesOn f_mtired f_here f_there f_statesHere f_statesThere f_listed f_stired f_burdens f_pacesOn f_restedOn f_behindOn f_behindFor f_first f_second f_plans f_tiredOn) := by
  refine gMi_in (by decide) (Nat.le_of_ble_eq_true rfl) ?_
  intro p e s m args below meth c A ls Q hx hb hml hts hown hsz hP hK hD hN hAe hA hS hl hret
  subst hsz
  have hl : lv_has ls 5 [(0, .ref (hs 62)), (1, .int i)] := hl
  have hrt := fun (r : Int32)   {H : Heap} {locs : List Loc} {pc : Nat} {ls : Array Slot} => hret r () (H := H) (locs := locs) (pc := pc) (ls := ls) trivial
  clear hret
  refine lv_aload_n hx hb dX7_signAt_0 rfl (lv_at hl 0 rfl) ?_
  refine gt_SP_search_found hx hb hts hown hK hP lwd_1050 dX7_signAt_1 ?_
  refine lv_ldc2 hx hb hown (hts _ lwd_1046) dX7_signAt_4 ?_
  refine lv_lrem hx hb dX7_signAt_7 (by decide) ?_
  refine lv_topl (fun n_1 en_1 => ?_)
  refine lv_lstore_n (lv' := [(2, .long n_1), (0, .ref (hs 62)), (1, .int i)]) hx hb dX7_signAt_8 rfl hl (by decide) rfl (fun ls hl => ?_)
  refine lv_bipush (v := 9) hx hb dX7_signAt_9 (by decide) ?_
  refine lv_istore (lv' := [(4, .int 9), (2, .long n_1), (0, .ref (hs 62)), (1, .int i)]) hx hb dX7_signAt_11 hl (by decide) rfl (fun ls hl => ?_)
  have L13_6 : ∀ (n : Nat) (l_4 : Int64) (l_5 : Int32), (-1 ≤ l_5.toInt ∧ l_5.toInt ≤ 9) → l_5.toInt + 1 < n → ∀ (H : Heap) (locs : List Loc) (ls : Array Slot), va_P D vwCl (wSP cy hs hH hT sH sT v_tape_size v_band_walkers v_band_loads v_band_pieces v_rules_clauses v_reader_end v_reader_at v_reader_length v_reader_letter v_reader_fault v_draft_clauses v_paces_version v_packing_quicker v_packing_loads v_packing_looseCount v_marches_told v_marches_changeMinutes v_marches_marching v_marches_gone v_search_known v_search_countHere v_search_countThere v_search_cost v_search_most v_search_found f_bytes f_knee f_weight f_limps f_bheft f_owner f_food f_miles f_slope f_rsteps f_rkind f_ryields f_rholds f_rletters f_rstack f_dsteps f_dkind f_dyields f_dholds f_dletters f_dstack f_caps f_versions f_sharing f_pheft f_prow f_holder f_comes f_pcaps f_room f_loose f_reached f_mrow f_minutesOn f_mtired f_here f_there f_statesHere f_statesThere f_listed f_stired f_burdens f_pacesOn f_restedOn f_behindOn f_behindFor f_first f_second f_plans f_tiredOn) H → va_D A (wSP cy hs hH hT sH sT v_tape_size v_band_walkers v_band_loads v_band_pieces v_rules_clauses v_reader_end v_reader_at v_reader_length v_reader_letter v_reader_fault v_draft_clauses v_paces_version v_packing_quicker v_packing_loads v_packing_looseCount v_marches_told v_marches_changeMinutes v_marches_marching v_marches_gone v_search_known v_search_countHere v_search_countThere v_search_cost v_search_most v_search_found f_bytes f_knee f_weight f_limps f_bheft f_owner f_food f_miles f_slope f_rsteps f_rkind f_ryields f_rholds f_rletters f_rstack f_dsteps f_dkind f_dyields f_dholds f_dletters f_dstack f_caps f_versions f_sharing f_pheft f_prow f_holder f_comes f_pcaps f_room f_loose f_reached f_mrow f_minutesOn f_mtired f_here f_there f_statesHere f_statesThere f_listed f_stired f_burdens f_pacesOn f_restedOn f_behindOn f_behindFor f_first f_second f_plans f_tiredOn) → va_S A s.heap H locs → lv_has ls 5 [(4, .int l_5), (2, .long l_4), (0, .ref (hs 62)), (1, .int i)] → W p l e (gRm 1) s m args below meth c H locs 0 0 Q (F0 m 13 ls []) := by
    intro n
    induction n with
    | zero => intro l_4 l_5 hL13_6_0 hm; exact absurd hm (by omega)
    | succ n ih13_6 =>
      intro l_4 l_5 hL13_6_0 hmL13_6 H locs ls hP hD hS hl
      refine lv_iload hx hb dX7_signAt_13 (lv_at hl 0 rfl) ?_
      refine lv_iload_n hx hb dX7_signAt_15 rfl (lv_at hl 3 rfl) ?_
      refine lv_icmp_le (tgt := 31) hx hb dX7_signAt_16 (by decide) (fun c_7 => ?_) (fun c_7 => ?_)
      · have gc_7 : l_5.toInt ≤ i.toInt := i_le (rfl : l_5.toInt = l_5.toInt) (rfl : i.toInt = i.toInt) c_7
        refine lv_lload_n hx hb dX7_signAt_31 rfl (lv_at hl 1 rfl) ?_
        refine lv_ldc2 hx hb hown (hts _ lwd_1048) dX7_signAt_32 ?_
        refine lv_lrem hx hb dX7_signAt_35 (by decide) ?_
        refine lv_topl (fun n_8 en_8 => ?_)
        obtain ⟨n_9, en_9⟩ : ∃ y : Int32, y = n_8.toInt32 := ⟨_, rfl⟩
        refine lv_l2i (v := n_9) hx hb dX7_signAt_36 en_9.symm ?_
        exact hrt n_9   hP hD hS rfl dX7_signAt_37
      · have gc_7 : i.toInt < l_5.toInt := i_nle (rfl : l_5.toInt = l_5.toInt) (rfl : i.toInt = i.toInt) c_7
        refine lv_lload_n hx hb dX7_signAt_19 rfl (lv_at hl 1 rfl) ?_
        refine lv_ldc2 hx hb hown (hts _ lwd_1048) dX7_signAt_20 ?_
        refine lv_ldiv hx hb dX7_signAt_23 (by decide) ?_
        refine lv_topl (fun n_10 en_10 => ?_)
        refine lv_lstore_n (lv' := [(2, .long n_10), (4, .int l_5), (0, .ref (hs 62)), (1, .int i)]) hx hb dX7_signAt_24 rfl hl (by decide) rfl (fun ls hl => ?_)
        obtain ⟨n_11, en_11⟩ : ∃ y : Int32, y = l_5 + (-1) := ⟨_, rfl⟩
        have tn_11 : n_11.toInt = l_5.toInt + (-1) := i_add en_11 (rfl : l_5.toInt = l_5.toInt) (by decide : ((-1) : Int32).toInt = (-1)) (by omega) (by omega)
        refine lv_iinc (v := n_11) (lv' := [(4, .int n_11), (2, .long n_10), (0, .ref (hs 62)), (1, .int i)]) hx hb dX7_signAt_25 hl (k := 1) rfl (by rw [en_11]; rfl) (by decide) rfl (fun ls hl => ?_)
        refine lv_goto (tgt := 13) hx hb dX7_signAt_28 (by decide) ?_
        exact ih13_6 n_10 n_11 (by omega) (by omega) _ _ _ hP hD hS (lv_sub hl [0, 1, 2, 3] rfl)
  have k_12 : (9 : Int32).toInt = 9 := by decide
  exact L13_6 8589934592 n_1 9 (by omega) (by omega) _ _ _ hP hD hS (lv_sub hl [0, 1, 2, 3] rfl)
set_option maxHeartbeats 16000000 in
set_option maxRecDepth 100000 in
theorem c_X7_changes (l : Launch) (D : va_G) (cy : Nat → ClassId) (hs : Nat → Nat) (hH hT sH sT : Nat) (v_tape_size v_band_walkers v_band_loads v_band_pieces v_rules_clauses v_reader_end v_reader_at v_reader_length v_reader_letter v_reader_fault v_draft_clauses v_paces_version v_packing_quicker v_packing_loads v_packing_looseCount v_marches_told v_marches_changeMinutes v_marches_marching v_marches_gone v_search_known v_search_countHere v_search_countThere v_search_cost v_search_most : Int32) (v_search_found : Int64) (f_bytes f_knee f_weight f_limps f_bheft f_owner f_food f_miles f_slope f_rsteps f_rkind f_ryields f_rholds f_rletters f_rstack f_dsteps f_dkind f_dyields f_dholds f_dletters f_dstack f_caps f_versions f_sharing f_pheft f_prow f_holder f_comes f_pcaps f_room f_loose f_reached f_mrow f_minutesOn f_mtired : Nat → Int32) (f_here f_there : Nat → Int64) (f_statesHere f_statesThere f_listed f_stired f_burdens f_pacesOn f_restedOn f_behindOn f_behindFor f_first f_second : Nat → Int32) (f_plans f_tiredOn : Nat → Nat → Int32) (tS : Nat) (sz : Nat) (hb_v_band_pieces : 0 ≤ v_band_pieces.toInt ∧ v_band_pieces.toInt ≤ 10) : gMi l yX7_changes cX7_changes 3 .int 2 [.ref (hs 62)] D cy (wSP cy hs hH hT sH sT v_tape_size v_band_walkers v_band_loads v_band_pieces v_rules_clauses v_reader_end v_reader_at v_reader_length v_reader_letter v_reader_fault v_draft_clauses v_paces_version v_packing_quicker v_packing_loads v_packing_looseCount v_marches_told v_marches_changeMinutes v_marches_marching v_marches_gone v_search_known v_search_countHere v_search_countThere v_search_cost v_search_most v_search_found f_bytes f_knee f_weight f_limps f_bheft f_owner f_food f_miles f_slope f_rsteps f_rkind f_ryields f_rholds f_rletters f_rstack f_dsteps f_dkind f_dyields f_dholds f_dletters f_dstack f_caps f_versions f_sharing f_pheft f_prow f_holder f_comes f_pcaps f_room f_loose f_reached f_mrow f_minutesOn f_mtired f_here f_there f_statesHere f_statesThere f_listed f_stired f_burdens f_pacesOn f_restedOn f_behindOn f_behindFor f_first f_second f_plans f_tiredOn) (NS tS) sz (fun (r : Int32) (u : Unit) => True) (fun u => wSP cy hs hH hT sH sT v_tape_size v_band_walkers v_band_loads v_band_pieces v_rules_clauses v_reader_end v_reader_at v_reader_length v_reader_letter v_reader_fault v_draft_clauses v_paces_version v_packing_quicker v_packing_loads v_packing_looseCount v_marches_told v_marches_changeMinutes v_marches_marching v_marches_gone v_search_known v_search_countHere v_search_countThere v_search_cost v_search_most v_search_found f_bytes f_knee f_weight f_limps f_bheft f_owner f_food f_miles f_slope f_rsteps f_rkind f_ryields f_rholds f_rletters f_rstack f_dsteps f_dkind f_dyields f_dholds f_dletters f_dstack f_caps f_versions f_sharing f_pheft f_prow f_holder f_comes f_pcaps f_room f_loose f_reached f_mrow f_minutesOn f_mtired f_here f_there f_statesHere f_statesThere f_listed f_stired f_burdens f_pacesOn f_restedOn f_behindOn f_behindFor f_first f_second f_plans f_tiredOn) := by
  refine gMi_in (by decide) (Nat.le_of_ble_eq_true rfl) ?_
  intro p e s m args below meth c A ls Q hx hb hml hts hown hsz hP hK hD hN hAe hA hS hl hret
  subst hsz
  have hl : lv_has ls 3 [(0, .ref (hs 62))] := hl
  have hrt := fun (r : Int32)   {H : Heap} {locs : List Loc} {pc : Nat} {ls : Array Slot} => hret r () (H := H) (locs := locs) (pc := pc) (ls := ls) trivial
  clear hret
  refine lv_iconst (v := 0) hx hb dX7_changes_0 (by decide) ?_
  refine lv_istore_n (lv' := [(1, .int 0), (0, .ref (hs 62))]) hx hb dX7_changes_1 rfl hl (by decide) rfl (fun ls hl => ?_)
  refine lv_iconst (v := 1) hx hb dX7_changes_2 (by decide) ?_
  refine lv_istore_n (lv' := [(2, .int 1), (1, .int 0), (0, .ref (hs 62))]) hx hb dX7_changes_3 rfl hl (by decide) rfl (fun ls hl => ?_)
  have L4_5 : ∀ (n : Nat) (l_3 : Int32) (l_4 : Int32), (1 ≤ l_4.toInt ∧ l_4.toInt ≤ 10) → 11 - l_4.toInt < n → ∀ (H : Heap) (locs : List Loc) (ls : Array Slot), va_P D vwCl (wSP cy hs hH hT sH sT v_tape_size v_band_walkers v_band_loads v_band_pieces v_rules_clauses v_reader_end v_reader_at v_reader_length v_reader_letter v_reader_fault v_draft_clauses v_paces_version v_packing_quicker v_packing_loads v_packing_looseCount v_marches_told v_marches_changeMinutes v_marches_marching v_marches_gone v_search_known v_search_countHere v_search_countThere v_search_cost v_search_most v_search_found f_bytes f_knee f_weight f_limps f_bheft f_owner f_food f_miles f_slope f_rsteps f_rkind f_ryields f_rholds f_rletters f_rstack f_dsteps f_dkind f_dyields f_dholds f_dletters f_dstack f_caps f_versions f_sharing f_pheft f_prow f_holder f_comes f_pcaps f_room f_loose f_reached f_mrow f_minutesOn f_mtired f_here f_there f_statesHere f_statesThere f_listed f_stired f_burdens f_pacesOn f_restedOn f_behindOn f_behindFor f_first f_second f_plans f_tiredOn) H → va_D A (wSP cy hs hH hT sH sT v_tape_size v_band_walkers v_band_loads v_band_pieces v_rules_clauses v_reader_end v_reader_at v_reader_length v_reader_letter v_reader_fault v_draft_clauses v_paces_version v_packing_quicker v_packing_loads v_packing_looseCount v_marches_told v_marches_changeMinutes v_marches_marching v_marches_gone v_search_known v_search_countHere v_search_countThere v_search_cost v_search_most v_search_found f_bytes f_knee f_weight f_limps f_bheft f_owner f_food f_miles f_slope f_rsteps f_rkind f_ryields f_rholds f_rletters f_rstack f_dsteps f_dkind f_dyields f_dholds f_dletters f_dstack f_caps f_versions f_sharing f_pheft f_prow f_holder f_comes f_pcaps f_room f_loose f_reached f_mrow f_minutesOn f_mtired f_here f_there f_statesHere f_statesThere f_listed f_stired f_burdens f_pacesOn f_restedOn f_behindOn f_behindFor f_first f_second f_plans f_tiredOn) → va_S A s.heap H locs → lv_has ls 3 [(2, .int l_4), (1, .int l_3), (0, .ref (hs 62))] → W p l e (gRm 2) s m args below meth c H locs 0 0 Q (F0 m 4 ls []) := by
    intro n
    induction n with
    | zero => intro l_3 l_4 hL4_5_0 hm; exact absurd hm (by omega)
    | succ n ih4_5 =>
      intro l_3 l_4 hL4_5_0 hmL4_5 H locs ls hP hD hS hl
      refine lv_iload_n hx hb dX7_changes_4 rfl (lv_at hl 0 rfl) ?_
      refine lv_aload_n hx hb dX7_changes_5 rfl (lv_at hl 2 rfl) ?_
      refine gt_SP_search_band hx hb hts hown hK hP lwd_134 dX7_changes_6 ?_
      refine gt_SP_band_pieces hx hb hts hown hK hP lwd_1047 dX7_changes_9 ?_
      refine lv_icmp_ge (tgt := 50) hx hb dX7_changes_12 (by decide) (fun c_6 => ?_) (fun c_6 => ?_)
      · have gc_6 : v_band_pieces.toInt ≤ l_4.toInt := i_le (rfl : v_band_pieces.toInt = v_band_pieces.toInt) (rfl : l_4.toInt = l_4.toInt) c_6
        refine lv_iload_n hx hb dX7_changes_50 rfl (lv_at hl 1 rfl) ?_
        exact hrt l_3   hP hD hS rfl dX7_changes_51
      · have gc_6 : l_4.toInt < v_band_pieces.toInt := i_nle (rfl : v_band_pieces.toInt = v_band_pieces.toInt) (rfl : l_4.toInt = l_4.toInt) c_6
        refine lv_iload_n hx hb dX7_changes_15 rfl (lv_at hl 1 rfl) ?_
        refine lv_aload_n hx hb dX7_changes_16 rfl (lv_at hl 2 rfl) ?_
        refine lv_iload_n hx hb dX7_changes_17 rfl (lv_at hl 0 rfl) ?_
        refine xi hD hS hA (xV (As := [.int l_4]) (rest := [.int l_3]) hx hb hml hown hts hK hP hD hS hA NS_ok hN hAe hl.1 ⟨Nat.le_refl _, Nat.le_refl _⟩ 62 rfl rfl rfl (c_X7_signAt l D cy hs hH hT sH sT v_tape_size v_band_walkers v_band_loads v_band_pieces v_rules_clauses v_reader_end v_reader_at v_reader_length v_reader_letter v_reader_fault v_draft_clauses v_paces_version v_packing_quicker v_packing_loads v_packing_looseCount v_marches_told v_marches_changeMinutes v_marches_marching v_marches_gone v_search_known v_search_countHere v_search_countThere v_search_cost v_search_most v_search_found f_bytes f_knee f_weight f_limps f_bheft f_owner f_food f_miles f_slope f_rsteps f_rkind f_ryields f_rholds f_rletters f_rstack f_dsteps f_dkind f_dyields f_dholds f_dletters f_dstack f_caps f_versions f_sharing f_pheft f_prow f_holder f_comes f_pcaps f_room f_loose f_reached f_mrow f_minutesOn f_mtired f_here f_there f_statesHere f_statesThere f_listed f_stired f_burdens f_pacesOn f_restedOn f_behindOn f_behindFor f_first f_second f_plans f_tiredOn tS H.size l_4 (by omega)) (gi_V lwd_1158 lwd_1097 lwd_1098 lwd_42 lwd_1099) ⟨rfl, hd_X7_signAt⟩ ⟨Nat.le_of_ble_eq_true rfl, Nat.le_of_ble_eq_true rfl⟩ rfl (Nat.le_of_ble_eq_true rfl) dX7_changes_18) (fun r_8 u_7 H locs hw hP hD hS => ?_)
        try dsimp only at hw hP hD
        clear hw
        refine lv_bipush (v := 6) hx hb dX7_changes_21 (by decide) ?_
        refine lv_irem hx hb dX7_changes_23 (by decide) ?_
        refine lv_topi (fun n_9 en_9 => ?_)
        have bn_9 : -5 ≤ n_9.toInt ∧ n_9.toInt ≤ 5 := i_remc en_9 (by decide : (6 : Int32).toInt = 6) (by decide)
        refine lv_aload_n hx hb dX7_changes_24 rfl (lv_at hl 2 rfl) ?_
        refine lv_iload_n hx hb dX7_changes_25 rfl (lv_at hl 0 rfl) ?_
        refine lv_iconst (v := 1) hx hb dX7_changes_26 (by decide) ?_
        refine lv_isub hx hb dX7_changes_27 ?_
        refine lv_topi (fun n_10 en_10 => ?_)
        have tn_10 : n_10.toInt = l_4.toInt - 1 := i_sub en_10 (rfl : l_4.toInt = l_4.toInt) (by decide : (1 : Int32).toInt = 1) (by omega) (by omega)
        refine xi hD hS hA (xV (As := [.int n_10]) (rest := [.int n_9, .int l_3]) hx hb hml hown hts hK hP hD hS hA NS_ok hN hAe hl.1 ⟨Nat.le_refl _, Nat.le_refl _⟩ 62 rfl rfl rfl (c_X7_signAt l D cy hs hH hT sH sT v_tape_size v_band_walkers v_band_loads v_band_pieces v_rules_clauses v_reader_end v_reader_at v_reader_length v_reader_letter v_reader_fault v_draft_clauses v_paces_version v_packing_quicker v_packing_loads v_packing_looseCount v_marches_told v_marches_changeMinutes v_marches_marching v_marches_gone v_search_known v_search_countHere v_search_countThere v_search_cost v_search_most v_search_found f_bytes f_knee f_weight f_limps f_bheft f_owner f_food f_miles f_slope f_rsteps f_rkind f_ryields f_rholds f_rletters f_rstack f_dsteps f_dkind f_dyields f_dholds f_dletters f_dstack f_caps f_versions f_sharing f_pheft f_prow f_holder f_comes f_pcaps f_room f_loose f_reached f_mrow f_minutesOn f_mtired f_here f_there f_statesHere f_statesThere f_listed f_stired f_burdens f_pacesOn f_restedOn f_behindOn f_behindFor f_first f_second f_plans f_tiredOn tS H.size n_10 (by omega)) (gi_V lwd_1158 lwd_1097 lwd_1098 lwd_42 lwd_1099) ⟨rfl, hd_X7_signAt⟩ ⟨Nat.le_of_ble_eq_true rfl, Nat.le_of_ble_eq_true rfl⟩ rfl (Nat.le_of_ble_eq_true rfl) dX7_changes_28) (fun r_12 u_11 H locs hw hP hD hS => ?_)
        try dsimp only at hw hP hD
        clear hw
        refine lv_bipush (v := 6) hx hb dX7_changes_31 (by decide) ?_
        refine lv_irem hx hb dX7_changes_33 (by decide) ?_
        refine lv_topi (fun n_13 en_13 => ?_)
        have bn_13 : -5 ≤ n_13.toInt ∧ n_13.toInt ≤ 5 := i_remc en_13 (by decide : (6 : Int32).toInt = 6) (by decide)
        refine lv_icmp_eq (tgt := 41) hx hb dX7_changes_34 (by decide) (fun c_14 => ?_) (fun c_14 => ?_)
        · have gc_14 : n_9.toInt = n_13.toInt := i_eq (rfl : n_9.toInt = n_9.toInt) (rfl : n_13.toInt = n_13.toInt) c_14
          refine lv_iconst (v := 0) hx hb dX7_changes_41 (by decide) ?_
          refine lv_iadd hx hb dX7_changes_42 ?_
          have hb_15 := And.intro (i_bot l_3) (i_top l_3)
          refine lv_topi (fun n_16 en_16 => ?_)
          have tn_16 : n_16.toInt = l_3.toInt + 0 := i_add en_16 (rfl : l_3.toInt = l_3.toInt) (by decide : (0 : Int32).toInt = 0) (by omega) (by omega)
          refine lv_istore_n (lv' := [(1, .int n_16), (2, .int l_4), (0, .ref (hs 62))]) hx hb dX7_changes_43 rfl hl (by decide) rfl (fun ls hl => ?_)
          obtain ⟨n_17, en_17⟩ : ∃ y : Int32, y = l_4 + 1 := ⟨_, rfl⟩
          have tn_17 : n_17.toInt = l_4.toInt + 1 := i_add en_17 (rfl : l_4.toInt = l_4.toInt) (by decide : (1 : Int32).toInt = 1) (by omega) (by omega)
          refine lv_iinc (v := n_17) (lv' := [(2, .int n_17), (1, .int n_16), (0, .ref (hs 62))]) hx hb dX7_changes_44 hl (k := 1) rfl (by rw [en_17]; rfl) (by decide) rfl (fun ls hl => ?_)
          refine lv_goto (tgt := 4) hx hb dX7_changes_47 (by decide) ?_
          exact ih4_5 n_16 n_17 (by omega) (by omega) _ _ _ hP hD hS (lv_sub hl [0, 1, 2] rfl)
        · have gc_14 : n_9.toInt ≠ n_13.toInt := i_ne (rfl : n_9.toInt = n_9.toInt) (rfl : n_13.toInt = n_13.toInt) c_14
          refine lv_iconst (v := 1) hx hb dX7_changes_37 (by decide) ?_
          refine lv_goto (tgt := 42) hx hb dX7_changes_38 (by decide) ?_
          refine lv_iadd hx hb dX7_changes_42 ?_
          refine lv_topi (fun n_18 en_18 => ?_)
          refine lv_istore_n (lv' := [(1, .int n_18), (2, .int l_4), (0, .ref (hs 62))]) hx hb dX7_changes_43 rfl hl (by decide) rfl (fun ls hl => ?_)
          obtain ⟨n_19, en_19⟩ : ∃ y : Int32, y = l_4 + 1 := ⟨_, rfl⟩
          have tn_19 : n_19.toInt = l_4.toInt + 1 := i_add en_19 (rfl : l_4.toInt = l_4.toInt) (by decide : (1 : Int32).toInt = 1) (by omega) (by omega)
          refine lv_iinc (v := n_19) (lv' := [(2, .int n_19), (1, .int n_18), (0, .ref (hs 62))]) hx hb dX7_changes_44 hl (k := 1) rfl (by rw [en_19]; rfl) (by decide) rfl (fun ls hl => ?_)
          refine lv_goto (tgt := 4) hx hb dX7_changes_47 (by decide) ?_
          exact ih4_5 n_18 n_19 (by omega) (by omega) _ _ _ hP hD hS (lv_sub hl [0, 1, 2] rfl)
  have k_20 : (0 : Int32).toInt = 0 := by decide
  have k_21 : (1 : Int32).toInt = 1 := by decide
  exact L4_5 8589934592 0 1 (by omega) (by omega) _ _ _ hP hD hS (lv_sub hl [0, 1, 2] rfl)
set_option maxHeartbeats 16000000 in
set_option maxRecDepth 100000 in
theorem c_X7_minutes (l : Launch) (D : va_G) (cy : Nat → ClassId) (hs : Nat → Nat) (hH hT sH sT : Nat) (v_tape_size v_band_walkers v_band_loads v_band_pieces v_rules_clauses v_reader_end v_reader_at v_reader_length v_reader_letter v_reader_fault v_draft_clauses v_paces_version v_packing_quicker v_packing_loads v_packing_looseCount v_marches_told v_marches_changeMinutes v_marches_marching v_marches_gone v_search_known v_search_countHere v_search_countThere v_search_cost v_search_most : Int32) (v_search_found : Int64) (f_bytes f_knee f_weight f_limps f_bheft f_owner f_food f_miles f_slope f_rsteps f_rkind f_ryields f_rholds f_rletters f_rstack f_dsteps f_dkind f_dyields f_dholds f_dletters f_dstack f_caps f_versions f_sharing f_pheft f_prow f_holder f_comes f_pcaps f_room f_loose f_reached f_mrow f_minutesOn f_mtired : Nat → Int32) (f_here f_there : Nat → Int64) (f_statesHere f_statesThere f_listed f_stired f_burdens f_pacesOn f_restedOn f_behindOn f_behindFor f_first f_second : Nat → Int32) (f_plans f_tiredOn : Nat → Nat → Int32) (tS : Nat) (sz : Nat) : gMi l yX7_minutes cX7_minutes 1 .int 1 [.ref (hs 62)] D cy (wSP cy hs hH hT sH sT v_tape_size v_band_walkers v_band_loads v_band_pieces v_rules_clauses v_reader_end v_reader_at v_reader_length v_reader_letter v_reader_fault v_draft_clauses v_paces_version v_packing_quicker v_packing_loads v_packing_looseCount v_marches_told v_marches_changeMinutes v_marches_marching v_marches_gone v_search_known v_search_countHere v_search_countThere v_search_cost v_search_most v_search_found f_bytes f_knee f_weight f_limps f_bheft f_owner f_food f_miles f_slope f_rsteps f_rkind f_ryields f_rholds f_rletters f_rstack f_dsteps f_dkind f_dyields f_dholds f_dletters f_dstack f_caps f_versions f_sharing f_pheft f_prow f_holder f_comes f_pcaps f_room f_loose f_reached f_mrow f_minutesOn f_mtired f_here f_there f_statesHere f_statesThere f_listed f_stired f_burdens f_pacesOn f_restedOn f_behindOn f_behindFor f_first f_second f_plans f_tiredOn) (NS tS) sz (fun (r : Int32) (u : Unit) => True) (fun u => wSP cy hs hH hT sH sT v_tape_size v_band_walkers v_band_loads v_band_pieces v_rules_clauses v_reader_end v_reader_at v_reader_length v_reader_letter v_reader_fault v_draft_clauses v_paces_version v_packing_quicker v_packing_loads v_packing_looseCount v_marches_told v_marches_changeMinutes v_marches_marching v_marches_gone v_search_known v_search_countHere v_search_countThere v_search_cost v_search_most v_search_found f_bytes f_knee f_weight f_limps f_bheft f_owner f_food f_miles f_slope f_rsteps f_rkind f_ryields f_rholds f_rletters f_rstack f_dsteps f_dkind f_dyields f_dholds f_dletters f_dstack f_caps f_versions f_sharing f_pheft f_prow f_holder f_comes f_pcaps f_room f_loose f_reached f_mrow f_minutesOn f_mtired f_here f_there f_statesHere f_statesThere f_listed f_stired f_burdens f_pacesOn f_restedOn f_behindOn f_behindFor f_first f_second f_plans f_tiredOn) := by
  refine gMi_in (by decide) (Nat.le_of_ble_eq_true rfl) ?_
  intro p e s m args below meth c A ls Q hx hb hml hts hown hsz hP hK hD hN hAe hA hS hl hret
  subst hsz
  have hl : lv_has ls 1 [(0, .ref (hs 62))] := hl
  have hrt := fun (r : Int32)   {H : Heap} {locs : List Loc} {pc : Nat} {ls : Array Slot} => hret r () (H := H) (locs := locs) (pc := pc) (ls := ls) trivial
  clear hret
  refine lv_aload_n hx hb dX7_minutes_0 rfl (lv_at hl 0 rfl) ?_
  refine gt_SP_search_found hx hb hts hown hK hP lwd_1050 dX7_minutes_1 ?_
  refine lv_ldc2 hx hb hown (hts _ lwd_137) dX7_minutes_4 ?_
  refine W.lcmp hx hb dX7_minutes_7 ?_
  refine lv_topi (fun n_1 en_1 => ?_)
  have tn_1 := l_cmp en_1 (rfl : v_search_found.toInt = v_search_found.toInt) (by decide : (4611686018427387904 : Int64).toInt = 4611686018427387904)
  refine lv_if_ne (tgt := 16) hx hb dX7_minutes_8 (by decide) (fun c_2 => ?_) (fun c_2 => ?_)
  · have gc_2 : n_1.toInt ≠ 0 := i_ne (rfl : n_1.toInt = n_1.toInt) (by decide : (0 : Int32).toInt = 0) c_2
    refine lv_aload_n hx hb dX7_minutes_16 rfl (lv_at hl 0 rfl) ?_
    refine gt_SP_search_found hx hb hts hown hK hP lwd_1050 dX7_minutes_17 ?_
    refine lv_ldc2 hx hb hown (hts _ lwd_1046) dX7_minutes_20 ?_
    refine lv_ldiv hx hb dX7_minutes_23 (by decide) ?_
    refine lv_topl (fun n_3 en_3 => ?_)
    obtain ⟨n_4, en_4⟩ : ∃ y : Int32, y = n_3.toInt32 := ⟨_, rfl⟩
    refine lv_l2i (v := n_4) hx hb dX7_minutes_24 en_4.symm ?_
    exact hrt n_4   hP hD hS rfl dX7_minutes_25
  · have gc_2 : n_1.toInt = 0 := i_eq (rfl : n_1.toInt = n_1.toInt) (by decide : (0 : Int32).toInt = 0) c_2
    refine lv_ldc hx hb hown (hts _ lwd_1095) dX7_minutes_11 ?_
    refine lv_goto (tgt := 25) hx hb dX7_minutes_13 (by decide) ?_
    have k_5 : (1000000000 : Int32).toInt = 1000000000 := by decide
    exact hrt 1000000000   hP hD hS rfl dX7_minutes_25
set_option maxHeartbeats 16000000 in
set_option maxRecDepth 100000 in
theorem c_X7_spread (l : Launch) (D : va_G) (cy : Nat → ClassId) (hs : Nat → Nat) (hH hT sH sT : Nat) (v_tape_size v_band_walkers v_band_loads v_band_pieces v_rules_clauses v_reader_end v_reader_at v_reader_length v_reader_letter v_reader_fault v_draft_clauses v_paces_version v_packing_quicker v_packing_loads v_packing_looseCount v_marches_told v_marches_changeMinutes v_marches_marching v_marches_gone v_search_known v_search_countHere v_search_countThere v_search_cost v_search_most : Int32) (v_search_found : Int64) (f_bytes f_knee f_weight f_limps f_bheft f_owner f_food f_miles f_slope f_rsteps f_rkind f_ryields f_rholds f_rletters f_rstack f_dsteps f_dkind f_dyields f_dholds f_dletters f_dstack f_caps f_versions f_sharing f_pheft f_prow f_holder f_comes f_pcaps f_room f_loose f_reached f_mrow f_minutesOn f_mtired : Nat → Int32) (f_here f_there : Nat → Int64) (f_statesHere f_statesThere f_listed f_stired f_burdens f_pacesOn f_restedOn f_behindOn f_behindFor f_first f_second : Nat → Int32) (f_plans f_tiredOn : Nat → Nat → Int32) (tS : Nat) (sz : Nat) (i : Int32) (st0 : Int32) (un : Int64) (hb_v_band_walkers : 0 ≤ v_band_walkers.toInt ∧ v_band_walkers.toInt ≤ 6) (hb_v_rules_clauses : 0 ≤ v_rules_clauses.toInt ∧ v_rules_clauses.toInt ≤ 14) (hb_v_search_countThere : 0 ≤ v_search_countThere.toInt ∧ v_search_countThere.toInt ≤ 1296) (hb_v_search_most : -1 ≤ v_search_most.toInt ∧ v_search_most.toInt ≤ 3) (hr_weight : rg (0) 250 f_weight) (hr_limps : rg (0) 1 f_limps) (hr_miles : rg (0) 20 f_miles) (hr_statesThere : rg (0) 1295 f_statesThere) (hr_listed : rg (0) 1 f_listed) (hr_stired : rg (0) 5 f_stired) (hr_pacesOn : rg (-1) 60 f_pacesOn) (hr_restedOn : rg (-1) 5 f_restedOn) (hr_behindOn : rg (0) 5 f_behindOn) (ha_i : 0 ≤ i.toInt ∧ i.toInt ≤ 9) (ha_st0 : 0 ≤ st0.toInt ∧ st0.toInt ≤ 1295) (hw4 : v_band_walkers.toInt ≤ 4) (hLI : LI f_listed f_statesThere v_search_countThere) : gMv l yX7_spread cX7_spread 12 5 [.ref (hs 62), .int i, .int st0, .long un] D cy (wSP cy hs hH hT sH sT v_tape_size v_band_walkers v_band_loads v_band_pieces v_rules_clauses v_reader_end v_reader_at v_reader_length v_reader_letter v_reader_fault v_draft_clauses v_paces_version v_packing_quicker v_packing_loads v_packing_looseCount v_marches_told v_marches_changeMinutes v_marches_marching v_marches_gone v_search_known v_search_countHere v_search_countThere v_search_cost v_search_most v_search_found f_bytes f_knee f_weight f_limps f_bheft f_owner f_food f_miles f_slope f_rsteps f_rkind f_ryields f_rholds f_rletters f_rstack f_dsteps f_dkind f_dyields f_dholds f_dletters f_dstack f_caps f_versions f_sharing f_pheft f_prow f_holder f_comes f_pcaps f_room f_loose f_reached f_mrow f_minutesOn f_mtired f_here f_there f_statesHere f_statesThere f_listed f_stired f_burdens f_pacesOn f_restedOn f_behindOn f_behindFor f_first f_second f_plans f_tiredOn) (NS tS) sz (fun (u : Int32 × (Nat → Int32) × (Nat → Int32) × (Nat → Int64) × (Nat → Int32) × (Nat → Int32) × (Nat → Int32) × (Nat → Int32) × (Nat → Int32) × (Nat → Int32) × (Nat → Int32)) => (LI (u.2.2.2.2.2.1) (u.2.2.2.2.1) (u.1)) ∧ (0 ≤ (u.1).toInt ∧ (u.1).toInt ≤ 1296) ∧ (rg (0) 1295 (u.2.2.2.2.1)) ∧ (rg (0) 1 (u.2.2.2.2.2.1)) ∧ (rg (0) 5 (u.2.2.2.2.2.2.1)) ∧ (rg (-1) 60 (u.2.2.2.2.2.2.2.1)) ∧ (rg (-1) 5 (u.2.2.2.2.2.2.2.2.1)) ∧ (rg (0) 5 (u.2.2.2.2.2.2.2.2.2.1))) (fun u => wSP cy hs hH hT sH sT v_tape_size v_band_walkers v_band_loads v_band_pieces v_rules_clauses v_reader_end v_reader_at v_reader_length v_reader_letter v_reader_fault v_draft_clauses v_paces_version v_packing_quicker v_packing_loads v_packing_looseCount v_marches_told v_marches_changeMinutes v_marches_marching v_marches_gone v_search_known v_search_countHere (u.1) v_search_cost v_search_most v_search_found f_bytes f_knee f_weight f_limps f_bheft f_owner f_food f_miles f_slope f_rsteps f_rkind f_ryields f_rholds (u.2.1) (u.2.2.1) f_dsteps f_dkind f_dyields f_dholds f_dletters f_dstack f_caps f_versions f_sharing f_pheft f_prow f_holder f_comes f_pcaps f_room f_loose f_reached f_mrow f_minutesOn f_mtired f_here (u.2.2.2.1) f_statesHere (u.2.2.2.2.1) (u.2.2.2.2.2.1) (u.2.2.2.2.2.2.1) f_burdens (u.2.2.2.2.2.2.2.1) (u.2.2.2.2.2.2.2.2.1) (u.2.2.2.2.2.2.2.2.2.1) (u.2.2.2.2.2.2.2.2.2.2) f_first f_second f_plans f_tiredOn) := by
  refine gMv_in (by decide) (Nat.le_of_ble_eq_true rfl) ?_
  intro p e s m args below meth c A ls Q hx hb hml hts hown hsz hP hK hD hN hAe hA hS hl hret
  subst hsz
  have hl : lv_has ls 12 [(0, .ref (hs 62)), (1, .int i), (2, .int st0), (3, .long un)] := hl
  have hrt := fun (v_search_countThere' : Int32) (f_rletters' : Nat → Int32) (f_rstack' : Nat → Int32) (f_there' : Nat → Int64) (f_statesThere' : Nat → Int32) (f_listed' : Nat → Int32) (f_stired' : Nat → Int32) (f_pacesOn' : Nat → Int32) (f_restedOn' : Nat → Int32) (f_behindOn' : Nat → Int32) (f_behindFor' : Nat → Int32) (hp : (LI f_listed' f_statesThere' v_search_countThere') ∧ (0 ≤ v_search_countThere'.toInt ∧ v_search_countThere'.toInt ≤ 1296) ∧ (rg (0) 1295 f_statesThere') ∧ (rg (0) 1 f_listed') ∧ (rg (0) 5 f_stired') ∧ (rg (-1) 60 f_pacesOn') ∧ (rg (-1) 5 f_restedOn') ∧ (rg (0) 5 f_behindOn')) {H : Heap} {locs : List Loc} {pc : Nat} {ls : Array Slot} => hret (v_search_countThere', f_rletters', f_rstack', f_there', f_statesThere', f_listed', f_stired', f_pacesOn', f_restedOn', f_behindOn', f_behindFor') (H := H) (locs := locs) (pc := pc) (ls := ls) hp
  clear hret
  refine lv_iconst (v := 0) hx hb dX7_spread_0 (by decide) ?_
  refine lv_istore (lv' := [(5, .int 0), (0, .ref (hs 62)), (1, .int i), (2, .int st0), (3, .long un)]) hx hb dX7_spread_1 hl (by decide) rfl (fun ls hl => ?_)
  have L3_5 : ∀ (n : Nat) (f_3 : Nat → Int32) (l_4 : Int32), (rg (0) 5 f_3) → (0 ≤ l_4.toInt ∧ l_4.toInt ≤ 6) → 7 - l_4.toInt < n → ∀ (H : Heap) (locs : List Loc) (ls : Array Slot), va_P D vwCl (wSP cy hs hH hT sH sT v_tape_size v_band_walkers v_band_loads v_band_pieces v_rules_clauses v_reader_end v_reader_at v_reader_length v_reader_letter v_reader_fault v_draft_clauses v_paces_version v_packing_quicker v_packing_loads v_packing_looseCount v_marches_told v_marches_changeMinutes v_marches_marching v_marches_gone v_search_known v_search_countHere v_search_countThere v_search_cost v_search_most v_search_found f_bytes f_knee f_weight f_limps f_bheft f_owner f_food f_miles f_slope f_rsteps f_rkind f_ryields f_rholds f_rletters f_rstack f_dsteps f_dkind f_dyields f_dholds f_dletters f_dstack f_caps f_versions f_sharing f_pheft f_prow f_holder f_comes f_pcaps f_room f_loose f_reached f_mrow f_minutesOn f_mtired f_here f_there f_statesHere f_statesThere f_listed f_3 f_burdens f_pacesOn f_restedOn f_behindOn f_behindFor f_first f_second f_plans f_tiredOn) H → va_D A (wSP cy hs hH hT sH sT v_tape_size v_band_walkers v_band_loads v_band_pieces v_rules_clauses v_reader_end v_reader_at v_reader_length v_reader_letter v_reader_fault v_draft_clauses v_paces_version v_packing_quicker v_packing_loads v_packing_looseCount v_marches_told v_marches_changeMinutes v_marches_marching v_marches_gone v_search_known v_search_countHere v_search_countThere v_search_cost v_search_most v_search_found f_bytes f_knee f_weight f_limps f_bheft f_owner f_food f_miles f_slope f_rsteps f_rkind f_ryields f_rholds f_rletters f_rstack f_dsteps f_dkind f_dyields f_dholds f_dletters f_dstack f_caps f_versions f_sharing f_pheft f_prow f_holder f_comes f_pcaps f_room f_loose f_reached f_mrow f_minutesOn f_mtired f_here f_there f_statesHere f_statesThere f_listed f_3 f_burdens f_pacesOn f_restedOn f_behindOn f_behindFor f_first f_second f_plans f_tiredOn) → va_S A s.heap H locs → lv_has ls 12 [(5, .int l_4), (0, .ref (hs 62)), (1, .int i), (2, .int st0), (3, .long un)] → W p l e (gRm 5) s m args below meth c H locs 0 0 Q (F0 m 3 ls []) := by
    intro n
    induction n with
    | zero => intro f_3 l_4 hL3_5_0 hL3_5_1 hm; exact absurd hm (by omega)
    | succ n ih3_5 =>
      intro f_3 l_4 hL3_5_0 hL3_5_1 hmL3_5 H locs ls hP hD hS hl
      refine lv_iload hx hb dX7_spread_3 (lv_at hl 0 rfl) ?_
      refine lv_aload_n hx hb dX7_spread_5 rfl (lv_at hl 1 rfl) ?_
      refine gt_SP_search_band hx hb hts hown hK hP lwd_134 dX7_spread_6 ?_
      refine gt_SP_band_walkers hx hb hts hown hK hP lwd_1058 dX7_spread_9 ?_
      refine lv_icmp_ge (tgt := 39) hx hb dX7_spread_12 (by decide) (fun c_6 => ?_) (fun c_6 => ?_)
      · have gc_6 : v_band_walkers.toInt ≤ l_4.toInt := i_le (rfl : v_band_walkers.toInt = v_band_walkers.toInt) (rfl : l_4.toInt = l_4.toInt) c_6
        skip
        refine lv_iconst (v := 1) hx hb dX7_spread_39 (by decide) ?_
        refine lv_istore (lv' := [(5, .int 1), (0, .ref (hs 62)), (1, .int i), (2, .int st0), (3, .long un)]) hx hb dX7_spread_40 hl (by decide) rfl (fun ls hl => ?_)
        refine lv_iconst (v := 0) hx hb dX7_spread_42 (by decide) ?_
        refine lv_istore (lv' := [(6, .int 0), (5, .int 1), (0, .ref (hs 62)), (1, .int i), (2, .int st0), (3, .long un)]) hx hb dX7_spread_43 hl (by decide) rfl (fun ls hl => ?_)
        have L45_33 : ∀ (n : Nat) (f_20 : Nat → Int32) (f_21 : Nat → Int32) (f_22 : Nat → Int32) (f_23 : Nat → Int32) (f_24 : Nat → Int32) (f_25 : Nat → Int32) (f_26 : Nat → Int32) (f_27 : Nat → Int32) (f_28 : Nat → Int32) (f_29 : Nat → Int64) (l_30 : Int32) (l_31 : Int32) (w_32 : Int32), (rg (0) 5 f_21) → (rg (0) 1 f_22) → (rg (-1) 60 f_23) → (rg (-1) 5 f_24) → (rg (0) 1295 f_27) → (rg (0) 5 f_28) → (0 ≤ l_30.toInt ∧ l_30.toInt ≤ 1) → (0 ≤ l_31.toInt ∧ l_31.toInt ≤ 3) → (0 ≤ w_32.toInt ∧ w_32.toInt ≤ 1296) → (LI f_22 f_27 w_32) → 4 - l_31.toInt < n → ∀ (H : Heap) (locs : List Loc) (ls : Array Slot), va_P D vwCl (wSP cy hs hH hT sH sT v_tape_size v_band_walkers v_band_loads v_band_pieces v_rules_clauses v_reader_end v_reader_at v_reader_length v_reader_letter v_reader_fault v_draft_clauses v_paces_version v_packing_quicker v_packing_loads v_packing_looseCount v_marches_told v_marches_changeMinutes v_marches_marching v_marches_gone v_search_known v_search_countHere w_32 v_search_cost v_search_most v_search_found f_bytes f_knee f_weight f_limps f_bheft f_owner f_food f_miles f_slope f_rsteps f_rkind f_ryields f_rholds f_25 f_26 f_dsteps f_dkind f_dyields f_dholds f_dletters f_dstack f_caps f_versions f_sharing f_pheft f_prow f_holder f_comes f_pcaps f_room f_loose f_reached f_mrow f_minutesOn f_mtired f_here f_29 f_statesHere f_27 f_22 f_28 f_burdens f_23 f_24 f_21 f_20 f_first f_second f_plans f_tiredOn) H → va_D A (wSP cy hs hH hT sH sT v_tape_size v_band_walkers v_band_loads v_band_pieces v_rules_clauses v_reader_end v_reader_at v_reader_length v_reader_letter v_reader_fault v_draft_clauses v_paces_version v_packing_quicker v_packing_loads v_packing_looseCount v_marches_told v_marches_changeMinutes v_marches_marching v_marches_gone v_search_known v_search_countHere w_32 v_search_cost v_search_most v_search_found f_bytes f_knee f_weight f_limps f_bheft f_owner f_food f_miles f_slope f_rsteps f_rkind f_ryields f_rholds f_25 f_26 f_dsteps f_dkind f_dyields f_dholds f_dletters f_dstack f_caps f_versions f_sharing f_pheft f_prow f_holder f_comes f_pcaps f_room f_loose f_reached f_mrow f_minutesOn f_mtired f_here f_29 f_statesHere f_27 f_22 f_28 f_burdens f_23 f_24 f_21 f_20 f_first f_second f_plans f_tiredOn) → va_S A s.heap H locs → lv_has ls 12 [(6, .int l_31), (5, .int l_30), (0, .ref (hs 62)), (1, .int i), (2, .int st0), (3, .long un)] → W p l e (gRm 5) s m args below meth c H locs 0 0 Q (F0 m 45 ls []) := by
          intro n
          induction n with
          | zero => intro f_20 f_21 f_22 f_23 f_24 f_25 f_26 f_27 f_28 f_29 l_30 l_31 w_32 hL45_33_0 hL45_33_1 hL45_33_2 hL45_33_3 hL45_33_4 hL45_33_5 hL45_33_6 hL45_33_7 hL45_33_8 hL45_33_9 hm; exact absurd hm (by omega)
          | succ n ih45_33 =>
            intro f_20 f_21 f_22 f_23 f_24 f_25 f_26 f_27 f_28 f_29 l_30 l_31 w_32 hL45_33_0 hL45_33_1 hL45_33_2 hL45_33_3 hL45_33_4 hL45_33_5 hL45_33_6 hL45_33_7 hL45_33_8 hL45_33_9 hmL45_33 H locs ls hP hD hS hl
            refine lv_iload hx hb dX7_spread_45 (lv_at hl 0 rfl) ?_
            refine lv_iconst (v := 2) hx hb dX7_spread_47 (by decide) ?_
            refine lv_icmp_gt (tgt := 187) hx hb dX7_spread_48 (by decide) (fun c_34 => ?_) (fun c_34 => ?_)
            · have gc_34 : 2 < l_31.toInt := i_lt (by decide : (2 : Int32).toInt = 2) (rfl : l_31.toInt = l_31.toInt) c_34
              skip
              exact hrt w_32 f_25 f_26 f_29 f_27 f_22 f_28 f_23 f_24 f_21 f_20 ⟨hL45_33_9, (by omega), hL45_33_4, hL45_33_1, hL45_33_5, hL45_33_2, hL45_33_3, hL45_33_0⟩ hP hD hS dX7_spread_187
            · have gc_34 : l_31.toInt ≤ 2 := i_nlt (by decide : (2 : Int32).toInt = 2) (rfl : l_31.toInt = l_31.toInt) c_34
              skip
              refine lv_iload hx hb dX7_spread_51 (lv_at hl 1 rfl) ?_
              refine lv_if_eq (tgt := 187) hx hb dX7_spread_53 (by decide) (fun c_35 => ?_) (fun c_35 => ?_)
              · have gc_35 : l_30.toInt = 0 := i_eq (rfl : l_30.toInt = l_30.toInt) (by decide : (0 : Int32).toInt = 0) c_35
                skip
                exact hrt w_32 f_25 f_26 f_29 f_27 f_22 f_28 f_23 f_24 f_21 f_20 ⟨hL45_33_9, (by omega), hL45_33_4, hL45_33_1, hL45_33_5, hL45_33_2, hL45_33_3, hL45_33_0⟩ hP hD hS dX7_spread_187
              · have gc_35 : l_30.toInt ≠ 0 := i_ne (rfl : l_30.toInt = l_30.toInt) (by decide : (0 : Int32).toInt = 0) c_35
                refine lv_iconst (v := 0) hx hb dX7_spread_56 (by decide) ?_
                refine lv_istore (lv' := [(7, .int 0), (6, .int l_31), (5, .int l_30), (0, .ref (hs 62)), (1, .int i), (2, .int st0), (3, .long un)]) hx hb dX7_spread_57 hl (by decide) rfl (fun ls hl => ?_)
                have L59_56 : ∀ (n : Nat) (f_46 : Nat → Int32) (f_47 : Nat → Int32) (f_48 : Nat → Int32) (f_49 : Nat → Int32) (f_50 : Nat → Int32) (f_51 : Nat → Int32) (f_52 : Nat → Int32) (f_53 : Nat → Int64) (l_54 : Int32) (w_55 : Int32), (rg (0) 5 f_47) → (rg (0) 1 f_48) → (rg (-1) 60 f_49) → (rg (0) 1295 f_52) → (0 ≤ l_54.toInt ∧ l_54.toInt ≤ 6) → (0 ≤ w_55.toInt ∧ w_55.toInt ≤ 1296) → (LI f_48 f_52 w_55) → 7 - l_54.toInt < n → ∀ (H : Heap) (locs : List Loc) (ls : Array Slot), va_P D vwCl (wSP cy hs hH hT sH sT v_tape_size v_band_walkers v_band_loads v_band_pieces v_rules_clauses v_reader_end v_reader_at v_reader_length v_reader_letter v_reader_fault v_draft_clauses v_paces_version v_packing_quicker v_packing_loads v_packing_looseCount v_marches_told v_marches_changeMinutes v_marches_marching v_marches_gone v_search_known v_search_countHere w_55 v_search_cost v_search_most v_search_found f_bytes f_knee f_weight f_limps f_bheft f_owner f_food f_miles f_slope f_rsteps f_rkind f_ryields f_rholds f_50 f_51 f_dsteps f_dkind f_dyields f_dholds f_dletters f_dstack f_caps f_versions f_sharing f_pheft f_prow f_holder f_comes f_pcaps f_room f_loose f_reached f_mrow f_minutesOn f_mtired f_here f_53 f_statesHere f_52 f_48 f_28 f_burdens f_49 f_24 f_47 f_46 f_first f_second f_plans f_tiredOn) H → va_D A (wSP cy hs hH hT sH sT v_tape_size v_band_walkers v_band_loads v_band_pieces v_rules_clauses v_reader_end v_reader_at v_reader_length v_reader_letter v_reader_fault v_draft_clauses v_paces_version v_packing_quicker v_packing_loads v_packing_looseCount v_marches_told v_marches_changeMinutes v_marches_marching v_marches_gone v_search_known v_search_countHere w_55 v_search_cost v_search_most v_search_found f_bytes f_knee f_weight f_limps f_bheft f_owner f_food f_miles f_slope f_rsteps f_rkind f_ryields f_rholds f_50 f_51 f_dsteps f_dkind f_dyields f_dholds f_dletters f_dstack f_caps f_versions f_sharing f_pheft f_prow f_holder f_comes f_pcaps f_room f_loose f_reached f_mrow f_minutesOn f_mtired f_here f_53 f_statesHere f_52 f_48 f_28 f_burdens f_49 f_24 f_47 f_46 f_first f_second f_plans f_tiredOn) → va_S A s.heap H locs → lv_has ls 12 [(7, .int l_54), (6, .int l_31), (5, .int l_30), (0, .ref (hs 62)), (1, .int i), (2, .int st0), (3, .long un)] → W p l e (gRm 5) s m args below meth c H locs 0 0 Q (F0 m 59 ls []) := by
                  intro n
                  induction n with
                  | zero => intro f_46 f_47 f_48 f_49 f_50 f_51 f_52 f_53 l_54 w_55 hL59_56_0 hL59_56_1 hL59_56_2 hL59_56_3 hL59_56_4 hL59_56_5 hL59_56_6 hm; exact absurd hm (by omega)
                  | succ n ih59_56 =>
                    intro f_46 f_47 f_48 f_49 f_50 f_51 f_52 f_53 l_54 w_55 hL59_56_0 hL59_56_1 hL59_56_2 hL59_56_3 hL59_56_4 hL59_56_5 hL59_56_6 hmL59_56 H locs ls hP hD hS hl
                    refine lv_iload hx hb dX7_spread_59 (lv_at hl 0 rfl) ?_
                    refine lv_bipush (v := 6) hx hb dX7_spread_61 (by decide) ?_
                    refine lv_icmp_ge (tgt := 160) hx hb dX7_spread_63 (by decide) (fun c_57 => ?_) (fun c_57 => ?_)
                    · have gc_57 : 6 ≤ l_54.toInt := i_le (by decide : (6 : Int32).toInt = 6) (rfl : l_54.toInt = l_54.toInt) c_57
                      skip
                      refine lv_iload hx hb dX7_spread_160 (lv_at hl 1 rfl) ?_
                      refine lv_iconst (v := 2) hx hb dX7_spread_162 (by decide) ?_
                      refine lv_icmp_ge (tgt := 178) hx hb dX7_spread_163 (by decide) (fun c_58 => ?_) (fun c_58 => ?_)
                      · have gc_58 : 2 ≤ l_31.toInt := i_le (by decide : (2 : Int32).toInt = 2) (rfl : l_31.toInt = l_31.toInt) c_58
                        refine lv_iconst (v := 0) hx hb dX7_spread_178 (by decide) ?_
                        refine lv_istore (lv' := [(5, .int 0), (7, .int l_54), (6, .int l_31), (0, .ref (hs 62)), (1, .int i), (2, .int st0), (3, .long un)]) hx hb dX7_spread_179 hl (by decide) rfl (fun ls hl => ?_)
                        obtain ⟨n_59, en_59⟩ : ∃ y : Int32, y = l_31 + 1 := ⟨_, rfl⟩
                        have tn_59 : n_59.toInt = l_31.toInt + 1 := i_add en_59 (rfl : l_31.toInt = l_31.toInt) (by decide : (1 : Int32).toInt = 1) (by omega) (by omega)
                        refine lv_iinc (v := n_59) (lv' := [(6, .int n_59), (5, .int 0), (7, .int l_54), (0, .ref (hs 62)), (1, .int i), (2, .int st0), (3, .long un)]) hx hb dX7_spread_181 hl (k := 2) rfl (by rw [en_59]; rfl) (by decide) rfl (fun ls hl => ?_)
                        refine lv_goto (tgt := 45) hx hb dX7_spread_184 (by decide) ?_
                        have k_60 : (0 : Int32).toInt = 0 := by decide
                        exact ih45_33 f_46 f_47 f_48 f_49 f_24 f_50 f_51 f_52 f_28 f_53 0 n_59 w_55 hL59_56_0 hL59_56_1 hL59_56_2 hL45_33_3 hL59_56_3 hL45_33_5 (by omega) (by omega) (by omega) hL59_56_6 (by omega) _ _ _ hP hD hS (lv_sub hl [0, 1, 3, 4, 5, 6] rfl)
                      · have gc_58 : l_31.toInt < 2 := i_nle (by decide : (2 : Int32).toInt = 2) (rfl : l_31.toInt = l_31.toInt) c_58
                        refine lv_aload_n hx hb dX7_spread_166 rfl (lv_at hl 3 rfl) ?_
                        refine lv_iload_n hx hb dX7_spread_167 rfl (lv_at hl 4 rfl) ?_
                        refine xi hD hS hA (xV (As := [.int i]) (rest := []) hx hb hml hown hts hK hP hD hS hA NS_ok hN hAe hl.1 ⟨Nat.le_refl _, Nat.le_refl _⟩ 62 rfl rfl rfl (c_X7_rest l D cy hs hH hT sH sT v_tape_size v_band_walkers v_band_loads v_band_pieces v_rules_clauses v_reader_end v_reader_at v_reader_length v_reader_letter v_reader_fault v_draft_clauses v_paces_version v_packing_quicker v_packing_loads v_packing_looseCount v_marches_told v_marches_changeMinutes v_marches_marching v_marches_gone v_search_known v_search_countHere w_55 v_search_cost v_search_most v_search_found f_bytes f_knee f_weight f_limps f_bheft f_owner f_food f_miles f_slope f_rsteps f_rkind f_ryields f_rholds f_50 f_51 f_dsteps f_dkind f_dyields f_dholds f_dletters f_dstack f_caps f_versions f_sharing f_pheft f_prow f_holder f_comes f_pcaps f_room f_loose f_reached f_mrow f_minutesOn f_mtired f_here f_53 f_statesHere f_52 f_48 f_28 f_burdens f_49 f_24 f_47 f_46 f_first f_second f_plans f_tiredOn tS H.size i (by omega) (by omega) hr_weight hr_miles hL45_33_5 hL45_33_3 (by omega) (by omega)) (gi_V lwd_1082 lwd_1083 lwd_1084 lwd_42 lwd_1085) ⟨rfl, hd_X7_rest⟩ ⟨Nat.le_of_ble_eq_true rfl, Nat.le_of_ble_eq_true rfl⟩ rfl (Nat.le_of_ble_eq_true rfl) dX7_spread_168) (fun r_62 u_61 H locs hw hP hD hS => ?_)
                        obtain ⟨zrletters_63, zrstack_64, zstired_65, zrestedOn_66⟩ := u_61
                        try dsimp only at hw hP hD
                        obtain ⟨p_67, p_68, p_69⟩ := hw
                        refine lv_if_eq (tgt := 178) hx hb dX7_spread_171 (by decide) (fun c_70 => ?_) (fun c_70 => ?_)
                        · have gc_70 : r_62.toInt = 0 := i_eq (rfl : r_62.toInt = r_62.toInt) (by decide : (0 : Int32).toInt = 0) c_70
                          refine lv_iconst (v := 0) hx hb dX7_spread_178 (by decide) ?_
                          refine lv_istore (lv' := [(5, .int 0), (7, .int l_54), (6, .int l_31), (0, .ref (hs 62)), (1, .int i), (2, .int st0), (3, .long un)]) hx hb dX7_spread_179 hl (by decide) rfl (fun ls hl => ?_)
                          obtain ⟨n_71, en_71⟩ : ∃ y : Int32, y = l_31 + 1 := ⟨_, rfl⟩
                          have tn_71 : n_71.toInt = l_31.toInt + 1 := i_add en_71 (rfl : l_31.toInt = l_31.toInt) (by decide : (1 : Int32).toInt = 1) (by omega) (by omega)
                          refine lv_iinc (v := n_71) (lv' := [(6, .int n_71), (5, .int 0), (7, .int l_54), (0, .ref (hs 62)), (1, .int i), (2, .int st0), (3, .long un)]) hx hb dX7_spread_181 hl (k := 2) rfl (by rw [en_71]; rfl) (by decide) rfl (fun ls hl => ?_)
                          refine lv_goto (tgt := 45) hx hb dX7_spread_184 (by decide) ?_
                          have k_72 : (0 : Int32).toInt = 0 := by decide
                          exact ih45_33 f_46 f_47 f_48 f_49 zrestedOn_66 zrletters_63 zrstack_64 f_52 zstired_65 f_53 0 n_71 w_55 hL59_56_0 hL59_56_1 hL59_56_2 p_69 hL59_56_3 p_68 (by omega) (by omega) (by omega) hL59_56_6 (by omega) _ _ _ hP hD hS (lv_sub hl [0, 1, 3, 4, 5, 6] rfl)
                        · have gc_70 : r_62.toInt ≠ 0 := i_ne (rfl : r_62.toInt = r_62.toInt) (by decide : (0 : Int32).toInt = 0) c_70
                          refine lv_iconst (v := 1) hx hb dX7_spread_174 (by decide) ?_
                          refine lv_goto (tgt := 179) hx hb dX7_spread_175 (by decide) ?_
                          refine lv_istore (lv' := [(5, .int 1), (7, .int l_54), (6, .int l_31), (0, .ref (hs 62)), (1, .int i), (2, .int st0), (3, .long un)]) hx hb dX7_spread_179 hl (by decide) rfl (fun ls hl => ?_)
                          obtain ⟨n_73, en_73⟩ : ∃ y : Int32, y = l_31 + 1 := ⟨_, rfl⟩
                          have tn_73 : n_73.toInt = l_31.toInt + 1 := i_add en_73 (rfl : l_31.toInt = l_31.toInt) (by decide : (1 : Int32).toInt = 1) (by omega) (by omega)
                          refine lv_iinc (v := n_73) (lv' := [(6, .int n_73), (5, .int 1), (7, .int l_54), (0, .ref (hs 62)), (1, .int i), (2, .int st0), (3, .long un)]) hx hb dX7_spread_181 hl (k := 2) rfl (by rw [en_73]; rfl) (by decide) rfl (fun ls hl => ?_)
                          refine lv_goto (tgt := 45) hx hb dX7_spread_184 (by decide) ?_
                          have k_74 : (1 : Int32).toInt = 1 := by decide
                          exact ih45_33 f_46 f_47 f_48 f_49 zrestedOn_66 zrletters_63 zrstack_64 f_52 zstired_65 f_53 1 n_73 w_55 hL59_56_0 hL59_56_1 hL59_56_2 p_69 hL59_56_3 p_68 (by omega) (by omega) (by omega) hL59_56_6 (by omega) _ _ _ hP hD hS (lv_sub hl [0, 1, 3, 4, 5, 6] rfl)
                    · have gc_57 : l_54.toInt < 6 := i_nle (by decide : (6 : Int32).toInt = 6) (rfl : l_54.toInt = l_54.toInt) c_57
                      skip
                      refine lv_aload_n hx hb dX7_spread_66 rfl (lv_at hl 3 rfl) ?_
                      refine gt_SP_search_marches hx hb hts hown hK hP lwd_136 dX7_spread_67 ?_
                      refine lv_iload hx hb dX7_spread_70 (lv_at hl 0 rfl) ?_
                      refine xi hD hS hA (xV (As := [.int l_54]) (rest := []) hx hb hml hown hts hK hP hD hS hA NS_ok hN hAe hl.1 ⟨Nat.le_refl _, Nat.le_refl _⟩ 40 rfl rfl rfl (c_X1_isTold l D cy hs hH hT sH sT v_tape_size v_band_walkers v_band_loads v_band_pieces v_rules_clauses v_reader_end v_reader_at v_reader_length v_reader_letter v_reader_fault v_draft_clauses v_paces_version v_packing_quicker v_packing_loads v_packing_looseCount v_marches_told v_marches_changeMinutes v_marches_marching v_marches_gone v_search_known v_search_countHere w_55 v_search_cost v_search_most v_search_found f_bytes f_knee f_weight f_limps f_bheft f_owner f_food f_miles f_slope f_rsteps f_rkind f_ryields f_rholds f_50 f_51 f_dsteps f_dkind f_dyields f_dholds f_dletters f_dstack f_caps f_versions f_sharing f_pheft f_prow f_holder f_comes f_pcaps f_room f_loose f_reached f_mrow f_minutesOn f_mtired f_here f_53 f_statesHere f_52 f_48 f_28 f_burdens f_49 f_24 f_47 f_46 f_first f_second f_plans f_tiredOn tS H.size l_54) (gi_V lwd_1059 lwd_912 lwd_913 lwd_38 lwd_914) ⟨rfl, hd_X1_isTold⟩ ⟨Nat.le_of_ble_eq_true rfl, Nat.le_of_ble_eq_true rfl⟩ rfl (Nat.le_of_ble_eq_true rfl) dX7_spread_72) (fun r_76 u_75 H locs hw hP hD hS => ?_)
                      try dsimp only at hw hP hD
                      obtain ⟨p_77, p_78⟩ := hw
                      refine lv_if_eq (tgt := 88) hx hb dX7_spread_75 (by decide) (fun c_79 => ?_) (fun c_79 => ?_)
                      · have gc_79 : r_76.toInt = 0 := i_eq (rfl : r_76.toInt = r_76.toInt) (by decide : (0 : Int32).toInt = 0) c_79
                        refine lv_iconst (v := 0) hx hb dX7_spread_88 (by decide) ?_
                        refine lv_istore (lv' := [(8, .int 0), (7, .int l_54), (6, .int l_31), (5, .int l_30), (0, .ref (hs 62)), (1, .int i), (2, .int st0), (3, .long un)]) hx hb dX7_spread_89 hl (by decide) rfl (fun ls hl => ?_)
                        refine lv_iload hx hb dX7_spread_91 (lv_at hl 0 rfl) ?_
                        refine lv_if_le (tgt := 154) hx hb dX7_spread_93 (by decide) (fun c_80 => ?_) (fun c_80 => ?_)
                        · skip
                          obtain ⟨n_81, en_81⟩ : ∃ y : Int32, y = l_54 + 1 := ⟨_, rfl⟩
                          have tn_81 : n_81.toInt = l_54.toInt + 1 := i_add en_81 (rfl : l_54.toInt = l_54.toInt) (by decide : (1 : Int32).toInt = 1) (by omega) (by omega)
                          refine lv_iinc (v := n_81) (lv' := [(7, .int n_81), (8, .int 0), (6, .int l_31), (5, .int l_30), (0, .ref (hs 62)), (1, .int i), (2, .int st0), (3, .long un)]) hx hb dX7_spread_154 hl (k := 1) rfl (by rw [en_81]; rfl) (by decide) rfl (fun ls hl => ?_)
                          refine lv_goto (tgt := 59) hx hb dX7_spread_157 (by decide) ?_
                          exact ih59_56 f_46 f_47 f_48 f_49 f_50 f_51 f_52 f_53 n_81 w_55 hL59_56_0 hL59_56_1 hL59_56_2 hL59_56_3 (by omega) (by omega) hL59_56_6 (by omega) _ _ _ hP hD hS (lv_sub hl [0, 2, 3, 4, 5, 6, 7] rfl)
                        · exact absurd c_80 (by decide)
                      · have gc_79 : r_76.toInt ≠ 0 := i_ne (rfl : r_76.toInt = r_76.toInt) (by decide : (0 : Int32).toInt = 0) c_79
                        refine lv_aload_n hx hb dX7_spread_78 rfl (lv_at hl 3 rfl) ?_
                        refine lv_iload hx hb dX7_spread_79 (lv_at hl 0 rfl) ?_
                        refine lv_iload_n hx hb dX7_spread_81 rfl (lv_at hl 4 rfl) ?_
                        refine xi hD hS hA (xV (As := [.int l_54, .int i]) (rest := []) hx hb hml hown hts hK hP hD hS hA NS_ok hN hAe hl.1 ⟨Nat.le_refl _, Nat.le_refl _⟩ 62 rfl rfl rfl (c_X7_pacedBy l D cy hs hH hT sH sT v_tape_size v_band_walkers v_band_loads v_band_pieces v_rules_clauses v_reader_end v_reader_at v_reader_length v_reader_letter v_reader_fault v_draft_clauses v_paces_version v_packing_quicker v_packing_loads v_packing_looseCount v_marches_told v_marches_changeMinutes v_marches_marching v_marches_gone v_search_known v_search_countHere w_55 v_search_cost v_search_most v_search_found f_bytes f_knee f_weight f_limps f_bheft f_owner f_food f_miles f_slope f_rsteps f_rkind f_ryields f_rholds f_50 f_51 f_dsteps f_dkind f_dyields f_dholds f_dletters f_dstack f_caps f_versions f_sharing f_pheft f_prow f_holder f_comes f_pcaps f_room f_loose f_reached f_mrow f_minutesOn f_mtired f_here f_53 f_statesHere f_52 f_48 f_28 f_burdens f_49 f_24 f_47 f_46 f_first f_second f_plans f_tiredOn tS H.size l_54 i (by omega) (by omega) hr_weight hr_limps hr_miles hL45_33_5 hL59_56_2 (by omega) (by omega) (by omega)) (gi_V lwd_1066 lwd_1067 lwd_1068 lwd_42 lwd_1069) ⟨rfl, hd_X7_pacedBy⟩ ⟨Nat.le_of_ble_eq_true rfl, Nat.le_of_ble_eq_true rfl⟩ rfl (Nat.le_of_ble_eq_true rfl) dX7_spread_82) (fun r_83 u_82 H locs hw hP hD hS => ?_)
                        obtain ⟨zrletters_84, zrstack_85, zpacesOn_86⟩ := u_82
                        try dsimp only at hw hP hD
                        obtain ⟨p_87, p_88⟩ := hw
                        refine lv_goto (tgt := 89) hx hb dX7_spread_85 (by decide) ?_
                        refine lv_istore (lv' := [(8, .int r_83), (7, .int l_54), (6, .int l_31), (5, .int l_30), (0, .ref (hs 62)), (1, .int i), (2, .int st0), (3, .long un)]) hx hb dX7_spread_89 hl (by decide) rfl (fun ls hl => ?_)
                        refine lv_iload hx hb dX7_spread_91 (lv_at hl 0 rfl) ?_
                        refine lv_if_le (tgt := 154) hx hb dX7_spread_93 (by decide) (fun c_89 => ?_) (fun c_89 => ?_)
                        · have gc_89 : r_83.toInt ≤ 0 := i_le (rfl : r_83.toInt = r_83.toInt) (by decide : (0 : Int32).toInt = 0) c_89
                          obtain ⟨n_90, en_90⟩ : ∃ y : Int32, y = l_54 + 1 := ⟨_, rfl⟩
                          have tn_90 : n_90.toInt = l_54.toInt + 1 := i_add en_90 (rfl : l_54.toInt = l_54.toInt) (by decide : (1 : Int32).toInt = 1) (by omega) (by omega)
                          refine lv_iinc (v := n_90) (lv' := [(7, .int n_90), (8, .int r_83), (6, .int l_31), (5, .int l_30), (0, .ref (hs 62)), (1, .int i), (2, .int st0), (3, .long un)]) hx hb dX7_spread_154 hl (k := 1) rfl (by rw [en_90]; rfl) (by decide) rfl (fun ls hl => ?_)
                          refine lv_goto (tgt := 59) hx hb dX7_spread_157 (by decide) ?_
                          exact ih59_56 f_46 f_47 f_48 zpacesOn_86 zrletters_84 zrstack_85 f_52 f_53 n_90 w_55 hL59_56_0 hL59_56_1 p_88 hL59_56_3 (by omega) (by omega) hL59_56_6 (by omega) _ _ _ hP hD hS (lv_sub hl [0, 2, 3, 4, 5, 6, 7] rfl)
                        · have gc_89 : 0 < r_83.toInt := i_nle (rfl : r_83.toInt = r_83.toInt) (by decide : (0 : Int32).toInt = 0) c_89
                          refine lv_aload_n hx hb dX7_spread_96 rfl (lv_at hl 4 rfl) ?_
                          refine gt_SP_search_band hx hb hts hown hK hP lwd_134 dX7_spread_97 ?_
                          refine lv_iload_n hx hb dX7_spread_100 rfl (lv_at hl 5 rfl) ?_
                          refine lv_iload hx hb dX7_spread_101 (lv_at hl 0 rfl) ?_
                          refine xi hD hS hA (xV (As := [.int i, .int r_83]) (rest := []) hx hb hml hown hts hK hP hD hS hA NS_ok hN hAe hl.1 ⟨Nat.le_refl _, Nat.le_refl _⟩ 3 rfl rfl rfl (c_X0_minutes l D cy hs hH hT sH sT v_tape_size v_band_walkers v_band_loads v_band_pieces v_rules_clauses v_reader_end v_reader_at v_reader_length v_reader_letter v_reader_fault v_draft_clauses v_paces_version v_packing_quicker v_packing_loads v_packing_looseCount v_marches_told v_marches_changeMinutes v_marches_marching v_marches_gone v_search_known v_search_countHere w_55 v_search_cost v_search_most v_search_found f_bytes f_knee f_weight f_limps f_bheft f_owner f_food f_miles f_slope f_rsteps f_rkind f_ryields f_rholds zrletters_84 zrstack_85 f_dsteps f_dkind f_dyields f_dholds f_dletters f_dstack f_caps f_versions f_sharing f_pheft f_prow f_holder f_comes f_pcaps f_room f_loose f_reached f_mrow f_minutesOn f_mtired f_here f_53 f_statesHere f_52 f_48 f_28 f_burdens zpacesOn_86 f_24 f_47 f_46 f_first f_second f_plans f_tiredOn tS H.size i r_83 hr_miles (by omega)) (gi_V lwd_1072 lwd_635 lwd_636 lwd_18 lwd_637) ⟨rfl, hd_X0_minutes⟩ ⟨Nat.le_of_ble_eq_true rfl, Nat.le_of_ble_eq_true rfl⟩ rfl (Nat.le_of_ble_eq_true rfl) dX7_spread_103) (fun r_92 u_91 H locs hw hP hD hS => ?_)
                          try dsimp only at hw hP hD
                          clear hw
                          refine lv_istore (lv' := [(9, .int r_92), (8, .int r_83), (7, .int l_54), (6, .int l_31), (5, .int l_30), (0, .ref (hs 62)), (1, .int i), (2, .int st0), (3, .long un)]) hx hb dX7_spread_106 hl (by decide) rfl (fun ls hl => ?_)
                          refine lv_iload hx hb dX7_spread_108 (lv_at hl 0 rfl) ?_
                          refine lv_bipush (v := 30) hx hb dX7_spread_110 (by decide) ?_
                          refine lv_iload hx hb dX7_spread_112 (lv_at hl 3 rfl) ?_
                          refine lv_imul hx hb dX7_spread_114 ?_
                          refine lv_topi (fun n_93 en_93 => ?_)
                          have tn_93 : n_93.toInt = 30 * l_31.toInt := i_mul en_93 (by decide : (30 : Int32).toInt = 30) (rfl : l_31.toInt = l_31.toInt) (by omega) (by omega)
                          refine lv_iadd hx hb dX7_spread_115 ?_
                          refine lv_topi (fun n_94 en_94 => ?_)
                          refine lv_i2l (v := n_94.toInt64) hx hb dX7_spread_116 rfl ?_
                          have hl_95 : n_94.toInt64.toInt = n_94.toInt := i_l (rfl : n_94.toInt = n_94.toInt)
                          refine lv_ldc2 hx hb hown (hts _ lwd_1046) dX7_spread_117 ?_
                          refine lv_lmul hx hb dX7_spread_120 ?_
                          refine lv_topl (fun n_96 en_96 => ?_)
                          refine lv_iload hx hb dX7_spread_121 (lv_at hl 3 rfl) ?_
                          refine lv_bipush (v := 6) hx hb dX7_spread_123 (by decide) ?_
                          refine lv_imul hx hb dX7_spread_125 ?_
                          refine lv_topi (fun n_97 en_97 => ?_)
                          have tn_97 : n_97.toInt = l_31.toInt * 6 := i_mul en_97 (rfl : l_31.toInt = l_31.toInt) (by decide : (6 : Int32).toInt = 6) (by omega) (by omega)
                          refine lv_iload hx hb dX7_spread_126 (lv_at hl 2 rfl) ?_
                          refine lv_iadd hx hb dX7_spread_128 ?_
                          refine lv_topi (fun n_98 en_98 => ?_)
                          have tn_98 : n_98.toInt = (l_31.toInt * 6) + l_54.toInt := i_add en_98 tn_97 (rfl : l_54.toInt = l_54.toInt) (by omega) (by omega)
                          refine lv_i2l (v := n_98.toInt64) hx hb dX7_spread_129 rfl ?_
                          have hl_99 : n_98.toInt64.toInt = (l_31.toInt * 6) + l_54.toInt := i_l tn_98
                          refine lv_lload_n hx hb dX7_spread_130 rfl (lv_at hl 8 rfl) ?_
                          refine lv_lmul hx hb dX7_spread_131 ?_
                          refine lv_topl (fun n_100 en_100 => ?_)
                          refine lv_ladd hx hb dX7_spread_132 ?_
                          refine lv_topl (fun n_101 en_101 => ?_)
                          refine lv_lstore (lv' := [(10, .long n_101), (9, .int r_92), (8, .int r_83), (7, .int l_54), (6, .int l_31), (5, .int l_30), (0, .ref (hs 62)), (1, .int i), (2, .int st0), (3, .long un)]) hx hb dX7_spread_133 hl (by decide) rfl (fun ls hl => ?_)
                          refine lv_aload_n hx hb dX7_spread_135 rfl (lv_at hl 6 rfl) ?_
                          refine lv_iload_n hx hb dX7_spread_136 rfl (lv_at hl 7 rfl) ?_
                          refine lv_iload_n hx hb dX7_spread_137 rfl (lv_at hl 8 rfl) ?_
                          refine lv_aload_n hx hb dX7_spread_138 rfl (lv_at hl 6 rfl) ?_
                          refine lv_iload hx hb dX7_spread_139 (lv_at hl 3 rfl) ?_
                          refine lv_iload_n hx hb dX7_spread_141 rfl (lv_at hl 7 rfl) ?_
                          refine lv_iload hx hb dX7_spread_142 (lv_at hl 1 rfl) ?_
                          refine xi hD hS hA (xV (As := [.int l_54, .int i, .int r_92]) (rest := [.int st0, .int i, .ref (hs 62)]) hx hb hml hown hts hK hP hD hS hA NS_ok hN hAe hl.1 ⟨Nat.le_refl _, Nat.le_refl _⟩ 62 rfl rfl rfl (c_X7_behind l D cy hs hH hT sH sT v_tape_size v_band_walkers v_band_loads v_band_pieces v_rules_clauses v_reader_end v_reader_at v_reader_length v_reader_letter v_reader_fault v_draft_clauses v_paces_version v_packing_quicker v_packing_loads v_packing_looseCount v_marches_told v_marches_changeMinutes v_marches_marching v_marches_gone v_search_known v_search_countHere w_55 v_search_cost v_search_most v_search_found f_bytes f_knee f_weight f_limps f_bheft f_owner f_food f_miles f_slope f_rsteps f_rkind f_ryields f_rholds zrletters_84 zrstack_85 f_dsteps f_dkind f_dyields f_dholds f_dletters f_dstack f_caps f_versions f_sharing f_pheft f_prow f_holder f_comes f_pcaps f_room f_loose f_reached f_mrow f_minutesOn f_mtired f_here f_53 f_statesHere f_52 f_48 f_28 f_burdens zpacesOn_86 f_24 f_47 f_46 f_first f_second f_plans f_tiredOn tS H.size l_54 i r_92 (by omega) (by omega) hr_weight hr_miles hL45_33_5 hL59_56_0 (by omega) (by omega) (by omega)) (gi_V lwd_1073 lwd_1074 lwd_1075 lwd_42 lwd_1076) ⟨rfl, hd_X7_behind⟩ ⟨Nat.le_of_ble_eq_true rfl, Nat.le_of_ble_eq_true rfl⟩ rfl (Nat.le_of_ble_eq_true rfl) dX7_spread_144) (fun r_103 u_102 H locs hw hP hD hS => ?_)
                          obtain ⟨zrletters_104, zrstack_105, zbehindOn_106, zbehindFor_107⟩ := u_102
                          try dsimp only at hw hP hD
                          obtain ⟨p_108, p_109⟩ := hw
                          refine lv_iload hx hb dX7_spread_147 (lv_at hl 3 rfl) ?_
                          refine lv_lload hx hb dX7_spread_149 (lv_at hl 0 rfl) ?_
                          refine xv hD hS hA (xV (As := [.int i, .int st0, .int r_103, .int l_54, .long n_101]) (rest := []) hx hb hml hown hts hK hP hD hS hA NS_ok hN hAe hl.1 ⟨Nat.le_refl _, Nat.le_refl _⟩ 62 rfl rfl rfl (c_X7_reach l D cy hs hH hT sH sT v_tape_size v_band_walkers v_band_loads v_band_pieces v_rules_clauses v_reader_end v_reader_at v_reader_length v_reader_letter v_reader_fault v_draft_clauses v_paces_version v_packing_quicker v_packing_loads v_packing_looseCount v_marches_told v_marches_changeMinutes v_marches_marching v_marches_gone v_search_known v_search_countHere w_55 v_search_cost v_search_most v_search_found f_bytes f_knee f_weight f_limps f_bheft f_owner f_food f_miles f_slope f_rsteps f_rkind f_ryields f_rholds zrletters_104 zrstack_105 f_dsteps f_dkind f_dyields f_dholds f_dletters f_dstack f_caps f_versions f_sharing f_pheft f_prow f_holder f_comes f_pcaps f_room f_loose f_reached f_mrow f_minutesOn f_mtired f_here f_53 f_statesHere f_52 f_48 f_28 f_burdens zpacesOn_86 f_24 zbehindOn_106 zbehindFor_107 f_first f_second f_plans f_tiredOn tS H.size i st0 r_103 l_54 n_101 (by omega) (by omega) hL59_56_3 hL59_56_1 (by omega) (by omega) (by omega) hL59_56_6) (gi_V lwd_1078 lwd_1079 lwd_1080 lwd_42 lwd_1081) ⟨rfl, hd_X7_reach⟩ ⟨Nat.le_of_ble_eq_true rfl, Nat.le_of_ble_eq_true rfl⟩ rfl (Nat.le_of_ble_eq_true rfl) dX7_spread_151) (fun u_110 H locs hw hP hD hS => ?_)
                          obtain ⟨zsearch_countThere_112, zthere_113, zstatesThere_114, zlisted_115⟩ := u_110
                          try dsimp only at hw hP hD
                          obtain ⟨p_116, p_117, p_118, p_119⟩ := hw
                          obtain ⟨n_120, en_120⟩ : ∃ y : Int32, y = l_54 + 1 := ⟨_, rfl⟩
                          have tn_120 : n_120.toInt = l_54.toInt + 1 := i_add en_120 (rfl : l_54.toInt = l_54.toInt) (by decide : (1 : Int32).toInt = 1) (by omega) (by omega)
                          refine lv_iinc (v := n_120) (lv' := [(7, .int n_120), (10, .long n_101), (9, .int r_92), (8, .int r_83), (6, .int l_31), (5, .int l_30), (0, .ref (hs 62)), (1, .int i), (2, .int st0), (3, .long un)]) hx hb dX7_spread_154 hl (k := 3) rfl (by rw [en_120]; rfl) (by decide) rfl (fun ls hl => ?_)
                          refine lv_goto (tgt := 59) hx hb dX7_spread_157 (by decide) ?_
                          exact ih59_56 zbehindFor_107 zbehindOn_106 zlisted_115 zpacesOn_86 zrletters_104 zrstack_105 zstatesThere_114 zthere_113 n_120 zsearch_countThere_112 p_109 p_119 p_88 p_118 (by omega) (by omega) p_116 (by omega) _ _ _ hP hD hS (lv_sub hl [0, 4, 5, 6, 7, 8, 9] rfl)
                have k_121 : (0 : Int32).toInt = 0 := by decide
                exact L59_56 8589934592 f_20 f_21 f_22 f_23 f_25 f_26 f_27 f_29 0 w_32 hL45_33_0 hL45_33_1 hL45_33_2 hL45_33_4 (by omega) (by omega) hL45_33_9 (by omega) _ _ _ hP hD hS (lv_sub hl [0, 1, 2, 3, 4, 5, 6] rfl)
        have k_122 : (1 : Int32).toInt = 1 := by decide
        have k_123 : (0 : Int32).toInt = 0 := by decide
        exact L45_33 8589934592 f_behindFor f_behindOn f_listed f_pacesOn f_restedOn f_rletters f_rstack f_statesThere f_3 f_there 1 0 v_search_countThere hr_behindOn hr_listed hr_pacesOn hr_restedOn hr_statesThere hL3_5_0 (by omega) (by omega) (by omega) hLI (by omega) _ _ _ hP hD hS (lv_sub hl [0, 1, 2, 3, 4, 5] rfl)
      · have gc_6 : l_4.toInt < v_band_walkers.toInt := i_nle (rfl : v_band_walkers.toInt = v_band_walkers.toInt) (rfl : l_4.toInt = l_4.toInt) c_6
        refine lv_aload_n hx hb dX7_spread_15 rfl (lv_at hl 1 rfl) ?_
        refine gt_SP_search_tired hx hb hts hown hK hP lwd_128 dX7_spread_16 ?_
        refine lv_iload hx hb dX7_spread_19 (lv_at hl 0 rfl) ?_
        refine lv_iload_n hx hb dX7_spread_21 rfl (lv_at hl 3 rfl) ?_
        refine va_getsN hx hb (show va_Z "SlowPace" "SIXES" "[I" (.ref tS) A s s.heap by rw [hAe]; exact hN.1.2.2.1) hS hown (va_Nw.use rfl hN.2.2) (fun _ h => h) dX7_spread_22 ?_
        refine lv_iload hx hb dX7_spread_25 (lv_at hl 0 rfl) ?_
        refine va_ti hx hb (show va_T .int tS 6 sixF A s s.heap by rw [hAe]; exact hN.1.2.2.2) hS (i_in (rfl : l_4.toInt = l_4.toInt) (by omega) (by omega)) rfl dX7_spread_27 ?_
        refine lv_topi (fun n_124 en_124 => ?_)
        have bn_124 := six_is en_124 (by omega : 0 ≤ l_4.toInt ∧ l_4.toInt < 6) (rfl : l_4.toInt = l_4.toInt)
        refine lv_idiv hx hb dX7_spread_28 (i_nz (rfl : n_124.toInt = n_124.toInt) (by omega)) ?_
        refine lv_topi (fun n_125 en_125 => ?_)
        have bn_125 : 0 ≤ n_125.toInt ∧ n_125.toInt ≤ st0.toInt := i_divb en_125 (rfl : st0.toInt = st0.toInt) (rfl : n_124.toInt = n_124.toInt) (by omega) (by omega)
        refine lv_bipush (v := 6) hx hb dX7_spread_29 (by decide) ?_
        refine lv_irem hx hb dX7_spread_31 (by decide) ?_
        refine lv_topi (fun n_126 en_126 => ?_)
        have tn_126 : n_126.toInt = n_125.toInt % 6 := i_rem en_126 (rfl : n_125.toInt = n_125.toInt) (by decide : (6 : Int32).toInt = 6) (by omega) (by omega)
        refine as_stired (x := n_126) hx hb hK hP hD hS hL3_5_0 (i_in (rfl : l_4.toInt = l_4.toInt) (by omega) (by omega)) (by omega) dX7_spread_32 (fun f_127 ef_127 rf_127 H locs hP hD hS => ?_)
        obtain ⟨n_128, en_128⟩ : ∃ y : Int32, y = l_4 + 1 := ⟨_, rfl⟩
        have tn_128 : n_128.toInt = l_4.toInt + 1 := i_add en_128 (rfl : l_4.toInt = l_4.toInt) (by decide : (1 : Int32).toInt = 1) (by omega) (by omega)
        refine lv_iinc (v := n_128) (lv' := [(5, .int n_128), (0, .ref (hs 62)), (1, .int i), (2, .int st0), (3, .long un)]) hx hb dX7_spread_33 hl (k := 0) rfl (by rw [en_128]; rfl) (by decide) rfl (fun ls hl => ?_)
        refine lv_goto (tgt := 3) hx hb dX7_spread_36 (by decide) ?_
        exact ih3_5 f_127 n_128 rf_127 (by omega) (by omega) _ _ _ hP hD hS (lv_sub hl [0, 1, 2, 3, 4] rfl)
  have k_129 : (0 : Int32).toInt = 0 := by decide
  exact L3_5 8589934592 f_stired 0 hr_stired (by omega) (by omega) _ _ _ hP hD hS (lv_sub hl [0, 1, 2, 3, 4] rfl)
set_option maxHeartbeats 16000000 in
set_option maxRecDepth 100000 in
theorem c_X7_turnOver (l : Launch) (D : va_G) (cy : Nat → ClassId) (hs : Nat → Nat) (hH hT sH sT : Nat) (v_tape_size v_band_walkers v_band_loads v_band_pieces v_rules_clauses v_reader_end v_reader_at v_reader_length v_reader_letter v_reader_fault v_draft_clauses v_paces_version v_packing_quicker v_packing_loads v_packing_looseCount v_marches_told v_marches_changeMinutes v_marches_marching v_marches_gone v_search_known v_search_countHere v_search_countThere v_search_cost v_search_most : Int32) (v_search_found : Int64) (f_bytes f_knee f_weight f_limps f_bheft f_owner f_food f_miles f_slope f_rsteps f_rkind f_ryields f_rholds f_rletters f_rstack f_dsteps f_dkind f_dyields f_dholds f_dletters f_dstack f_caps f_versions f_sharing f_pheft f_prow f_holder f_comes f_pcaps f_room f_loose f_reached f_mrow f_minutesOn f_mtired : Nat → Int32) (f_here f_there : Nat → Int64) (f_statesHere f_statesThere f_listed f_stired f_burdens f_pacesOn f_restedOn f_behindOn f_behindFor f_first f_second : Nat → Int32) (f_plans f_tiredOn : Nat → Nat → Int32) (tS : Nat) (sz : Nat) (hb_v_search_countHere : 0 ≤ v_search_countHere.toInt ∧ v_search_countHere.toInt ≤ 1296) (hb_v_search_countThere : 0 ≤ v_search_countThere.toInt ∧ v_search_countThere.toInt ≤ 1296) (hr_statesHere : rg (0) 1295 f_statesHere) (hr_statesThere : rg (0) 1295 f_statesThere) (hr_listed : rg (0) 1 f_listed) (hLI : LI f_listed f_statesThere v_search_countThere) : gMv l yX7_turnOver cX7_turnOver 3 1 [.ref (hs 62)] D cy (wSP cy hs hH hT sH sT v_tape_size v_band_walkers v_band_loads v_band_pieces v_rules_clauses v_reader_end v_reader_at v_reader_length v_reader_letter v_reader_fault v_draft_clauses v_paces_version v_packing_quicker v_packing_loads v_packing_looseCount v_marches_told v_marches_changeMinutes v_marches_marching v_marches_gone v_search_known v_search_countHere v_search_countThere v_search_cost v_search_most v_search_found f_bytes f_knee f_weight f_limps f_bheft f_owner f_food f_miles f_slope f_rsteps f_rkind f_ryields f_rholds f_rletters f_rstack f_dsteps f_dkind f_dyields f_dholds f_dletters f_dstack f_caps f_versions f_sharing f_pheft f_prow f_holder f_comes f_pcaps f_room f_loose f_reached f_mrow f_minutesOn f_mtired f_here f_there f_statesHere f_statesThere f_listed f_stired f_burdens f_pacesOn f_restedOn f_behindOn f_behindFor f_first f_second f_plans f_tiredOn) (NS tS) sz (fun (u : Int32 × (Nat → Int64) × (Nat → Int64) × (Nat → Int32) × (Nat → Int32) × (Nat → Int32) × Nat × Nat × Nat × Nat) => (∀ b : Nat, b < 1296 → ((u.2.2.2.2.2.1) b).toInt = 0) ∧ (0 ≤ (u.1).toInt ∧ (u.1).toInt ≤ 1296) ∧ (rg (0) 1295 (u.2.2.2.1)) ∧ (rg (0) 1295 (u.2.2.2.2.1)) ∧ (rg (0) 1 (u.2.2.2.2.2.1))) (fun u => wSP cy hs (u.2.2.2.2.2.2.1) (u.2.2.2.2.2.2.2.1) (u.2.2.2.2.2.2.2.2.1) (u.2.2.2.2.2.2.2.2.2) v_tape_size v_band_walkers v_band_loads v_band_pieces v_rules_clauses v_reader_end v_reader_at v_reader_length v_reader_letter v_reader_fault v_draft_clauses v_paces_version v_packing_quicker v_packing_loads v_packing_looseCount v_marches_told v_marches_changeMinutes v_marches_marching v_marches_gone v_search_known (u.1) v_search_countThere v_search_cost v_search_most v_search_found f_bytes f_knee f_weight f_limps f_bheft f_owner f_food f_miles f_slope f_rsteps f_rkind f_ryields f_rholds f_rletters f_rstack f_dsteps f_dkind f_dyields f_dholds f_dletters f_dstack f_caps f_versions f_sharing f_pheft f_prow f_holder f_comes f_pcaps f_room f_loose f_reached f_mrow f_minutesOn f_mtired (u.2.1) (u.2.2.1) (u.2.2.2.1) (u.2.2.2.2.1) (u.2.2.2.2.2.1) f_stired f_burdens f_pacesOn f_restedOn f_behindOn f_behindFor f_first f_second f_plans f_tiredOn) := by
  refine gMv_in (by decide) (Nat.le_of_ble_eq_true rfl) ?_
  intro p e s m args below meth c A ls Q hx hb hml hts hown hsz hP hK hD hN hAe hA hS hl hret
  subst hsz
  have hl : lv_has ls 3 [(0, .ref (hs 62))] := hl
  have hrt := fun (v_search_countHere' : Int32) (f_here' : Nat → Int64) (f_there' : Nat → Int64) (f_statesHere' : Nat → Int32) (f_statesThere' : Nat → Int32) (f_listed' : Nat → Int32) (hH' : Nat) (hT' : Nat) (sH' : Nat) (sT' : Nat) (hp : (∀ b : Nat, b < 1296 → (f_listed' b).toInt = 0) ∧ (0 ≤ v_search_countHere'.toInt ∧ v_search_countHere'.toInt ≤ 1296) ∧ (rg (0) 1295 f_statesHere') ∧ (rg (0) 1295 f_statesThere') ∧ (rg (0) 1 f_listed')) {H : Heap} {locs : List Loc} {pc : Nat} {ls : Array Slot} => hret (v_search_countHere', f_here', f_there', f_statesHere', f_statesThere', f_listed', hH', hT', sH', sT') (H := H) (locs := locs) (pc := pc) (ls := ls) hp
  clear hret
  refine lv_iconst (v := 0) hx hb dX7_turnOver_0 (by decide) ?_
  refine lv_istore_n (lv' := [(1, .int 0), (0, .ref (hs 62))]) hx hb dX7_turnOver_1 rfl hl (by decide) rfl (fun ls hl => ?_)
  have L2_5 : ∀ (n : Nat) (f_3 : Nat → Int64) (l_4 : Int32), (0 ≤ l_4.toInt ∧ l_4.toInt ≤ 1296) → 1297 - l_4.toInt < n → ∀ (H : Heap) (locs : List Loc) (ls : Array Slot), va_P D vwCl (wSP cy hs hH hT sH sT v_tape_size v_band_walkers v_band_loads v_band_pieces v_rules_clauses v_reader_end v_reader_at v_reader_length v_reader_letter v_reader_fault v_draft_clauses v_paces_version v_packing_quicker v_packing_loads v_packing_looseCount v_marches_told v_marches_changeMinutes v_marches_marching v_marches_gone v_search_known v_search_countHere v_search_countThere v_search_cost v_search_most v_search_found f_bytes f_knee f_weight f_limps f_bheft f_owner f_food f_miles f_slope f_rsteps f_rkind f_ryields f_rholds f_rletters f_rstack f_dsteps f_dkind f_dyields f_dholds f_dletters f_dstack f_caps f_versions f_sharing f_pheft f_prow f_holder f_comes f_pcaps f_room f_loose f_reached f_mrow f_minutesOn f_mtired f_3 f_there f_statesHere f_statesThere f_listed f_stired f_burdens f_pacesOn f_restedOn f_behindOn f_behindFor f_first f_second f_plans f_tiredOn) H → va_D A (wSP cy hs hH hT sH sT v_tape_size v_band_walkers v_band_loads v_band_pieces v_rules_clauses v_reader_end v_reader_at v_reader_length v_reader_letter v_reader_fault v_draft_clauses v_paces_version v_packing_quicker v_packing_loads v_packing_looseCount v_marches_told v_marches_changeMinutes v_marches_marching v_marches_gone v_search_known v_search_countHere v_search_countThere v_search_cost v_search_most v_search_found f_bytes f_knee f_weight f_limps f_bheft f_owner f_food f_miles f_slope f_rsteps f_rkind f_ryields f_rholds f_rletters f_rstack f_dsteps f_dkind f_dyields f_dholds f_dletters f_dstack f_caps f_versions f_sharing f_pheft f_prow f_holder f_comes f_pcaps f_room f_loose f_reached f_mrow f_minutesOn f_mtired f_3 f_there f_statesHere f_statesThere f_listed f_stired f_burdens f_pacesOn f_restedOn f_behindOn f_behindFor f_first f_second f_plans f_tiredOn) → va_S A s.heap H locs → lv_has ls 3 [(1, .int l_4), (0, .ref (hs 62))] → W p l e (gRm 1) s m args below meth c H locs 0 0 Q (F0 m 2 ls []) := by
    intro n
    induction n with
    | zero => intro f_3 l_4 hL2_5_0 hm; exact absurd hm (by omega)
    | succ n ih2_5 =>
      intro f_3 l_4 hL2_5_0 hmL2_5 H locs ls hP hD hS hl
      refine lv_iload_n hx hb dX7_turnOver_2 rfl (lv_at hl 0 rfl) ?_
      refine lv_aload_n hx hb dX7_turnOver_3 rfl (lv_at hl 1 rfl) ?_
      refine gt_SP_search_countHere hx hb hts hown hK hP lwd_1045 dX7_turnOver_4 ?_
      refine lv_icmp_ge (tgt := 50) hx hb dX7_turnOver_7 (by decide) (fun c_6 => ?_) (fun c_6 => ?_)
      · have gc_6 : v_search_countHere.toInt ≤ l_4.toInt := i_le (rfl : v_search_countHere.toInt = v_search_countHere.toInt) (rfl : l_4.toInt = l_4.toInt) c_6
        refine lv_iconst (v := 0) hx hb dX7_turnOver_50 (by decide) ?_
        refine lv_istore_n (lv' := [(1, .int 0), (0, .ref (hs 62))]) hx hb dX7_turnOver_51 rfl hl (by decide) rfl (fun ls hl => ?_)
        have L52_11 : ∀ (n : Nat) (f_9 : Nat → Int32) (l_10 : Int32), (rg (0) 1 f_9) → (0 ≤ l_10.toInt ∧ l_10.toInt ≤ 1296) → (∀ b : Nat, b < 1296 → (f_9 b).toInt = 1 → ∃ i : Nat, l_10.toInt ≤ (i : Int) ∧ (i : Int) < v_search_countThere.toInt ∧ (f_statesThere i).toInt = (b : Int)) → 1297 - l_10.toInt < n → ∀ (H : Heap) (locs : List Loc) (ls : Array Slot), va_P D vwCl (wSP cy hs hH hT sH sT v_tape_size v_band_walkers v_band_loads v_band_pieces v_rules_clauses v_reader_end v_reader_at v_reader_length v_reader_letter v_reader_fault v_draft_clauses v_paces_version v_packing_quicker v_packing_loads v_packing_looseCount v_marches_told v_marches_changeMinutes v_marches_marching v_marches_gone v_search_known v_search_countHere v_search_countThere v_search_cost v_search_most v_search_found f_bytes f_knee f_weight f_limps f_bheft f_owner f_food f_miles f_slope f_rsteps f_rkind f_ryields f_rholds f_rletters f_rstack f_dsteps f_dkind f_dyields f_dholds f_dletters f_dstack f_caps f_versions f_sharing f_pheft f_prow f_holder f_comes f_pcaps f_room f_loose f_reached f_mrow f_minutesOn f_mtired f_3 f_there f_statesHere f_statesThere f_9 f_stired f_burdens f_pacesOn f_restedOn f_behindOn f_behindFor f_first f_second f_plans f_tiredOn) H → va_D A (wSP cy hs hH hT sH sT v_tape_size v_band_walkers v_band_loads v_band_pieces v_rules_clauses v_reader_end v_reader_at v_reader_length v_reader_letter v_reader_fault v_draft_clauses v_paces_version v_packing_quicker v_packing_loads v_packing_looseCount v_marches_told v_marches_changeMinutes v_marches_marching v_marches_gone v_search_known v_search_countHere v_search_countThere v_search_cost v_search_most v_search_found f_bytes f_knee f_weight f_limps f_bheft f_owner f_food f_miles f_slope f_rsteps f_rkind f_ryields f_rholds f_rletters f_rstack f_dsteps f_dkind f_dyields f_dholds f_dletters f_dstack f_caps f_versions f_sharing f_pheft f_prow f_holder f_comes f_pcaps f_room f_loose f_reached f_mrow f_minutesOn f_mtired f_3 f_there f_statesHere f_statesThere f_9 f_stired f_burdens f_pacesOn f_restedOn f_behindOn f_behindFor f_first f_second f_plans f_tiredOn) → va_S A s.heap H locs → lv_has ls 3 [(1, .int l_10), (0, .ref (hs 62))] → W p l e (gRm 1) s m args below meth c H locs 0 0 Q (F0 m 52 ls []) := by
          intro n
          induction n with
          | zero => intro f_9 l_10 hL52_11_0 hL52_11_1 hL52_11_2 hm; exact absurd hm (by omega)
          | succ n ih52_11 =>
            intro f_9 l_10 hL52_11_0 hL52_11_1 hL52_11_2 hmL52_11 H locs ls hP hD hS hl
            refine lv_iload_n hx hb dX7_turnOver_52 rfl (lv_at hl 0 rfl) ?_
            refine lv_aload_n hx hb dX7_turnOver_53 rfl (lv_at hl 1 rfl) ?_
            refine gt_SP_search_countThere hx hb hts hown hK hP lwd_1049 dX7_turnOver_54 ?_
            refine lv_icmp_ge (tgt := 78) hx hb dX7_turnOver_57 (by decide) (fun c_12 => ?_) (fun c_12 => ?_)
            · have gc_12 : v_search_countThere.toInt ≤ l_10.toInt := i_le (rfl : v_search_countThere.toInt = v_search_countThere.toInt) (rfl : l_10.toInt = l_10.toInt) c_12
              have hz9 : ∀ b : Nat, b < 1296 → (f_9 b).toInt = 0 := by
                intro b hb
                have h1 := hL52_11_0 b
                by_cases h2 : (f_9 b).toInt = 1
                · obtain ⟨i9, h3, h4, h5⟩ := hL52_11_2 b hb h2; omega
                · omega
              refine lv_aload_n hx hb dX7_turnOver_78 rfl (lv_at hl 1 rfl) ?_
              refine va_get (D := D) (ci := 7) (v := .ref hH) (C := RX7) (T := TX7) (N := 20) hx hb hts inlX7 hown hK hP 62 rfl rfl 1 (by decide) (hts _ lwd_123) (fun _ h => h) rfl dX7_turnOver_79 ?_
              refine lv_astore_n (lv' := [(1, .ref hH), (0, .ref (hs 62))]) hx hb dX7_turnOver_82 rfl hl (by decide) rfl (fun ls hl => ?_)
              refine lv_aload_n hx hb dX7_turnOver_83 rfl (lv_at hl 1 rfl) ?_
              refine lv_aload_n hx hb dX7_turnOver_84 rfl (lv_at hl 1 rfl) ?_
              refine va_get (D := D) (ci := 7) (v := .ref hT) (C := RX7) (T := TX7) (N := 20) hx hb hts inlX7 hown hK hP 62 rfl rfl 2 (by decide) (hts _ lwd_124) (fun _ h => h) rfl dX7_turnOver_85 ?_
              refine va_put (D := D) (ci := 7) (v := .ref hT) (ty := (.array .long)) (C := RX7) (T := TX7) (N := 20) hx hb hts inlX7 tyX7 tyX7_ok nmX7 hown hK hP hD hS 62 rfl rfl 1 (by decide) (hts _ lwd_123) (fun _ h => h) rfl (by decide +kernel) rfl rfl (Nat.le_of_ble_eq_true rfl) dX7_turnOver_88 (fun H locs hP hD hS => ?_)
              refine lv_aload_n hx hb dX7_turnOver_91 rfl (lv_at hl 1 rfl) ?_
              refine lv_aload_n hx hb dX7_turnOver_92 rfl (lv_at hl 0 rfl) ?_
              refine va_put (D := D) (ci := 7) (v := .ref hH) (ty := (.array .long)) (C := RX7) (T := TX7) (N := 20) hx hb hts inlX7 tyX7 tyX7_ok nmX7 hown hK hP hD hS 62 rfl rfl 2 (by decide) (hts _ lwd_124) (fun _ h => h) rfl (by decide +kernel) rfl rfl (Nat.le_of_ble_eq_true rfl) dX7_turnOver_93 (fun H locs hP hD hS => ?_)
              refine lv_aload_n hx hb dX7_turnOver_96 rfl (lv_at hl 1 rfl) ?_
              refine va_get (D := D) (ci := 7) (v := .ref sH) (C := RX7) (T := TX7) (N := 20) hx hb hts inlX7 hown hK hP 62 rfl rfl 3 (by decide) (hts _ lwd_125) (fun _ h => h) rfl dX7_turnOver_97 ?_
              refine lv_astore_n (lv' := [(2, .ref sH), (1, .ref hH), (0, .ref (hs 62))]) hx hb dX7_turnOver_100 rfl hl (by decide) rfl (fun ls hl => ?_)
              refine lv_aload_n hx hb dX7_turnOver_101 rfl (lv_at hl 2 rfl) ?_
              refine lv_aload_n hx hb dX7_turnOver_102 rfl (lv_at hl 2 rfl) ?_
              refine va_get (D := D) (ci := 7) (v := .ref sT) (C := RX7) (T := TX7) (N := 20) hx hb hts inlX7 hown hK hP 62 rfl rfl 4 (by decide) (hts _ lwd_126) (fun _ h => h) rfl dX7_turnOver_103 ?_
              refine va_put (D := D) (ci := 7) (v := .ref sT) (ty := (.array .int)) (C := RX7) (T := TX7) (N := 20) hx hb hts inlX7 tyX7 tyX7_ok nmX7 hown hK hP hD hS 62 rfl rfl 3 (by decide) (hts _ lwd_125) (fun _ h => h) rfl (by decide +kernel) rfl rfl (Nat.le_of_ble_eq_true rfl) dX7_turnOver_106 (fun H locs hP hD hS => ?_)
              refine lv_aload_n hx hb dX7_turnOver_109 rfl (lv_at hl 2 rfl) ?_
              refine lv_aload_n hx hb dX7_turnOver_110 rfl (lv_at hl 0 rfl) ?_
              refine va_put (D := D) (ci := 7) (v := .ref sH) (ty := (.array .int)) (C := RX7) (T := TX7) (N := 20) hx hb hts inlX7 tyX7 tyX7_ok nmX7 hown hK hP hD hS 62 rfl rfl 4 (by decide) (hts _ lwd_126) (fun _ h => h) rfl (by decide +kernel) rfl rfl (Nat.le_of_ble_eq_true rfl) dX7_turnOver_111 (fun H locs hP hD hS => ?_)
              have hP : va_P D vwCl (wSP cy hs hT hH sT sH v_tape_size v_band_walkers v_band_loads v_band_pieces v_rules_clauses v_reader_end v_reader_at v_reader_length v_reader_letter v_reader_fault v_draft_clauses v_paces_version v_packing_quicker v_packing_loads v_packing_looseCount v_marches_told v_marches_changeMinutes v_marches_marching v_marches_gone v_search_known v_search_countHere v_search_countThere v_search_cost v_search_most v_search_found f_bytes f_knee f_weight f_limps f_bheft f_owner f_food f_miles f_slope f_rsteps f_rkind f_ryields f_rholds f_rletters f_rstack f_dsteps f_dkind f_dyields f_dholds f_dletters f_dstack f_caps f_versions f_sharing f_pheft f_prow f_holder f_comes f_pcaps f_room f_loose f_reached f_mrow f_minutesOn f_mtired f_there f_3 f_statesThere f_statesHere f_9 f_stired f_burdens f_pacesOn f_restedOn f_behindOn f_behindFor f_first f_second f_plans f_tiredOn) H := hP.sub [0, 1, 2, 3, 4, 5, 6, 7, 8, 9, 10, 11, 12, 13, 14, 15, 16, 17, 18, 19, 20, 21, 22, 23, 24, 25, 26, 27, 28, 29, 30, 31, 32, 33, 34, 35, 36, 37, 38, 39, 40, 41, 42, 43, 44, 45, 46, 47, 48, 49, 50, 51, 52, 53, 54, 55, 56, 57, 58, 59, 60, 61, 62, 64, 63, 66, 65, 67, 68, 69, 70, 71, 72, 73, 74, 75, 76] rfl
              have hD : va_D A (wSP cy hs hT hH sT sH v_tape_size v_band_walkers v_band_loads v_band_pieces v_rules_clauses v_reader_end v_reader_at v_reader_length v_reader_letter v_reader_fault v_draft_clauses v_paces_version v_packing_quicker v_packing_loads v_packing_looseCount v_marches_told v_marches_changeMinutes v_marches_marching v_marches_gone v_search_known v_search_countHere v_search_countThere v_search_cost v_search_most v_search_found f_bytes f_knee f_weight f_limps f_bheft f_owner f_food f_miles f_slope f_rsteps f_rkind f_ryields f_rholds f_rletters f_rstack f_dsteps f_dkind f_dyields f_dholds f_dletters f_dstack f_caps f_versions f_sharing f_pheft f_prow f_holder f_comes f_pcaps f_room f_loose f_reached f_mrow f_minutesOn f_mtired f_there f_3 f_statesThere f_statesHere f_9 f_stired f_burdens f_pacesOn f_restedOn f_behindOn f_behindFor f_first f_second f_plans f_tiredOn) := hD.sub [0, 1, 2, 3, 4, 5, 6, 7, 8, 9, 10, 11, 12, 13, 14, 15, 16, 17, 18, 19, 20, 21, 22, 23, 24, 25, 26, 27, 28, 29, 30, 31, 32, 33, 34, 35, 36, 37, 38, 39, 40, 41, 42, 43, 44, 45, 46, 47, 48, 49, 50, 51, 52, 53, 54, 55, 56, 57, 58, 59, 60, 61, 62, 64, 63, 66, 65, 67, 68, 69, 70, 71, 72, 73, 74, 75, 76] (by decide) rfl
              have hl := lv_sub hl (l' := [(0, .ref (hs 62))]) [2] rfl
              refine lv_aload_n hx hb dX7_turnOver_114 rfl (lv_at hl 0 rfl) ?_
              refine lv_aload_n hx hb dX7_turnOver_115 rfl (lv_at hl 0 rfl) ?_
              refine gt_SP_search_countThere hx hb hts hown hK hP lwd_1049 dX7_turnOver_116 ?_
              refine pt_SP_search_countHere (x := v_search_countThere) hx hb hts hown hK hP hD hS lwd_1045 dX7_turnOver_119 (fun H locs hP hD hS => ?_)
              exact hrt v_search_countThere f_there f_3 f_statesThere f_statesHere f_9 hT hH sT sH ⟨hz9, (by omega), hr_statesThere, hr_statesHere, hL52_11_0⟩ hP hD hS dX7_turnOver_122
            · have gc_12 : l_10.toInt < v_search_countThere.toInt := i_nle (rfl : v_search_countThere.toInt = v_search_countThere.toInt) (rfl : l_10.toInt = l_10.toInt) c_12
              skip
              refine lv_aload_n hx hb dX7_turnOver_60 rfl (lv_at hl 1 rfl) ?_
              refine gt_SP_search_listed hx hb hts hown hK hP lwd_127 dX7_turnOver_61 ?_
              refine lv_aload_n hx hb dX7_turnOver_64 rfl (lv_at hl 1 rfl) ?_
              refine gt_SP_search_statesThere hx hb hts hown hK hP lwd_126 dX7_turnOver_65 ?_
              refine lv_iload_n hx hb dX7_turnOver_68 rfl (lv_at hl 0 rfl) ?_
              refine al_statesThere hx hb hK hP hr_statesThere (i_in (rfl : l_10.toInt = l_10.toInt) (by omega) (by omega)) dX7_turnOver_69 (fun n_13 en_13 bn_13 => ?_)
              refine lv_iconst (v := 0) hx hb dX7_turnOver_70 (by decide) ?_
              refine as_listed (x := 0) hx hb hK hP hD hS hL52_11_0 (i_in (rfl : n_13.toInt = n_13.toInt) (by omega) (by omega)) (by decide) dX7_turnOver_71 (fun f_14 ef_14 rf_14 H locs hP hD hS => ?_)
              obtain ⟨n_15, en_15⟩ : ∃ y : Int32, y = l_10 + 1 := ⟨_, rfl⟩
              have tn_15 : n_15.toInt = l_10.toInt + 1 := i_add en_15 (rfl : l_10.toInt = l_10.toInt) (by decide : (1 : Int32).toInt = 1) (by omega) (by omega)
              refine lv_iinc (v := n_15) (lv' := [(1, .int n_15), (0, .ref (hs 62))]) hx hb dX7_turnOver_72 hl (k := 0) rfl (by rw [en_15]; rfl) (by decide) rfl (fun ls hl => ?_)
              refine lv_goto (tgt := 52) hx hb dX7_turnOver_75 (by decide) ?_
              exact ih52_11 f_14 n_15 rf_14 (by omega) (fun b hb h1 => by
                rw [ef_14] at h1
                have e9 := i_ix (rfl : n_13.toInt = n_13.toInt)
                by_cases e8 : b = n_13.toNatClampNeg
                · rw [e8, upd_at] at h1; exact absurd h1 (by decide)
                · rw [upd_off _ _ e8] at h1
                  obtain ⟨i9, h2, h3, h4⟩ := hL52_11_2 b hb h1
                  refine ⟨i9, ?_, h3, h4⟩
                  by_cases e7 : (i9 : Int) = l_10.toInt
                  · exfalso
                    have e6 : i9 = l_10.toNatClampNeg := by rw [i_ix (rfl : l_10.toInt = l_10.toInt)]; omega
                    rw [e6, ← en_13] at h4
                    omega
                  · omega) (by omega) _ _ _ hP hD hS (lv_sub hl [0, 1] rfl)
        have k_16 : (0 : Int32).toInt = 0 := by decide
        exact L52_11 8589934592 f_listed 0 hr_listed (by omega) (fun b hb h1 => by obtain ⟨i9, h2, h3⟩ := hLI.2 b hb h1; exact ⟨i9, by omega, h2, h3⟩) (by omega) _ _ _ hP hD hS (lv_sub hl [0, 1] rfl)
      · have gc_6 : l_4.toInt < v_search_countHere.toInt := i_nle (rfl : v_search_countHere.toInt = v_search_countHere.toInt) (rfl : l_4.toInt = l_4.toInt) c_6
        refine lv_aload_n hx hb dX7_turnOver_10 rfl (lv_at hl 1 rfl) ?_
        refine gt_SP_search_statesHere hx hb hts hown hK hP lwd_125 dX7_turnOver_11 ?_
        refine lv_iload_n hx hb dX7_turnOver_14 rfl (lv_at hl 0 rfl) ?_
        refine al_statesHere hx hb hK hP hr_statesHere (i_in (rfl : l_4.toInt = l_4.toInt) (by omega) (by omega)) dX7_turnOver_15 (fun n_17 en_17 bn_17 => ?_)
        refine lv_istore_n (lv' := [(2, .int n_17), (1, .int l_4), (0, .ref (hs 62))]) hx hb dX7_turnOver_16 rfl hl (by decide) rfl (fun ls hl => ?_)
        have L17_22 : ∀ (n : Nat) (f_20 : Nat → Int64) (l_21 : Int32), (0 ≤ l_21.toInt ∧ l_21.toInt ≤ 32400) → 32401 - l_21.toInt < n → ∀ (H : Heap) (locs : List Loc) (ls : Array Slot), va_P D vwCl (wSP cy hs hH hT sH sT v_tape_size v_band_walkers v_band_loads v_band_pieces v_rules_clauses v_reader_end v_reader_at v_reader_length v_reader_letter v_reader_fault v_draft_clauses v_paces_version v_packing_quicker v_packing_loads v_packing_looseCount v_marches_told v_marches_changeMinutes v_marches_marching v_marches_gone v_search_known v_search_countHere v_search_countThere v_search_cost v_search_most v_search_found f_bytes f_knee f_weight f_limps f_bheft f_owner f_food f_miles f_slope f_rsteps f_rkind f_ryields f_rholds f_rletters f_rstack f_dsteps f_dkind f_dyields f_dholds f_dletters f_dstack f_caps f_versions f_sharing f_pheft f_prow f_holder f_comes f_pcaps f_room f_loose f_reached f_mrow f_minutesOn f_mtired f_20 f_there f_statesHere f_statesThere f_listed f_stired f_burdens f_pacesOn f_restedOn f_behindOn f_behindFor f_first f_second f_plans f_tiredOn) H → va_D A (wSP cy hs hH hT sH sT v_tape_size v_band_walkers v_band_loads v_band_pieces v_rules_clauses v_reader_end v_reader_at v_reader_length v_reader_letter v_reader_fault v_draft_clauses v_paces_version v_packing_quicker v_packing_loads v_packing_looseCount v_marches_told v_marches_changeMinutes v_marches_marching v_marches_gone v_search_known v_search_countHere v_search_countThere v_search_cost v_search_most v_search_found f_bytes f_knee f_weight f_limps f_bheft f_owner f_food f_miles f_slope f_rsteps f_rkind f_ryields f_rholds f_rletters f_rstack f_dsteps f_dkind f_dyields f_dholds f_dletters f_dstack f_caps f_versions f_sharing f_pheft f_prow f_holder f_comes f_pcaps f_room f_loose f_reached f_mrow f_minutesOn f_mtired f_20 f_there f_statesHere f_statesThere f_listed f_stired f_burdens f_pacesOn f_restedOn f_behindOn f_behindFor f_first f_second f_plans f_tiredOn) → va_S A s.heap H locs → lv_has ls 3 [(2, .int l_21), (1, .int l_4), (0, .ref (hs 62))] → W p l e (gRm 1) s m args below meth c H locs 0 0 Q (F0 m 17 ls []) := by
          intro n
          induction n with
          | zero => intro f_20 l_21 hL17_22_0 hm; exact absurd hm (by omega)
          | succ n ih17_22 =>
            intro f_20 l_21 hL17_22_0 hmL17_22 H locs ls hP hD hS hl
            refine lv_iload_n hx hb dX7_turnOver_17 rfl (lv_at hl 0 rfl) ?_
            refine lv_aload_n hx hb dX7_turnOver_18 rfl (lv_at hl 2 rfl) ?_
            refine gt_SP_search_here hx hb hts hown hK hP lwd_123 dX7_turnOver_19 ?_
            refine ln_here hx hb hK hP dX7_turnOver_22 ?_
            refine lv_icmp_ge (tgt := 44) hx hb dX7_turnOver_23 (by decide) (fun c_23 => ?_) (fun c_23 => ?_)
            · have gc_23 : 31104 ≤ l_21.toInt := i_le (by decide : (31104 : Int32).toInt = 31104) (rfl : l_21.toInt = l_21.toInt) c_23
              obtain ⟨n_24, en_24⟩ : ∃ y : Int32, y = l_4 + 1 := ⟨_, rfl⟩
              have tn_24 : n_24.toInt = l_4.toInt + 1 := i_add en_24 (rfl : l_4.toInt = l_4.toInt) (by decide : (1 : Int32).toInt = 1) (by omega) (by omega)
              refine lv_iinc (v := n_24) (lv' := [(1, .int n_24), (2, .int l_21), (0, .ref (hs 62))]) hx hb dX7_turnOver_44 hl (k := 1) rfl (by rw [en_24]; rfl) (by decide) rfl (fun ls hl => ?_)
              refine lv_goto (tgt := 2) hx hb dX7_turnOver_47 (by decide) ?_
              exact ih2_5 f_20 n_24 (by omega) (by omega) _ _ _ hP hD hS (lv_sub hl [0, 2] rfl)
            · have gc_23 : l_21.toInt < 31104 := i_nle (by decide : (31104 : Int32).toInt = 31104) (rfl : l_21.toInt = l_21.toInt) c_23
              refine lv_aload_n hx hb dX7_turnOver_26 rfl (lv_at hl 2 rfl) ?_
              refine gt_SP_search_here hx hb hts hown hK hP lwd_123 dX7_turnOver_27 ?_
              refine lv_iload_n hx hb dX7_turnOver_30 rfl (lv_at hl 0 rfl) ?_
              refine lv_ldc2 hx hb hown (hts _ lwd_137) dX7_turnOver_31 ?_
              refine as_here (x := 4611686018427387904) hx hb hK hP hD hS (i_in (rfl : l_21.toInt = l_21.toInt) (by omega) (by omega)) dX7_turnOver_34 (fun f_25 ef_25 H locs hP hD hS => ?_)
              obtain ⟨n_26, en_26⟩ : ∃ y : Int32, y = l_21 + 1296 := ⟨_, rfl⟩
              have tn_26 : n_26.toInt = l_21.toInt + 1296 := i_add en_26 (rfl : l_21.toInt = l_21.toInt) (by decide : (1296 : Int32).toInt = 1296) (by omega) (by omega)
              refine lv_iincW (v := n_26) (lv' := [(2, .int n_26), (1, .int l_4), (0, .ref (hs 62))]) hx hb dX7_turnOver_35 hl (k := 0) rfl (by rw [en_26]; rfl) (by decide) rfl (fun ls hl => ?_)
              refine lv_goto (tgt := 17) hx hb dX7_turnOver_41 (by decide) ?_
              exact ih17_22 f_25 n_26 (by omega) (by omega) _ _ _ hP hD hS (lv_sub hl [0, 1, 2] rfl)
        exact L17_22 8589934592 f_3 n_17 (by omega) (by omega) _ _ _ hP hD hS (lv_sub hl [0, 1, 2] rfl)
  have k_27 : (0 : Int32).toInt = 0 := by decide
  exact L2_5 8589934592 f_here 0 (by omega) (by omega) _ _ _ hP hD hS (lv_sub hl [0, 1] rfl)
set_option maxHeartbeats 16000000 in
set_option maxRecDepth 100000 in
theorem c_X7_solve (l : Launch) (D : va_G) (cy : Nat → ClassId) (hs : Nat → Nat) (hH hT sH sT : Nat) (v_tape_size v_band_walkers v_band_loads v_band_pieces v_rules_clauses v_reader_end v_reader_at v_reader_length v_reader_letter v_reader_fault v_draft_clauses v_paces_version v_packing_quicker v_packing_loads v_packing_looseCount v_marches_told v_marches_changeMinutes v_marches_marching v_marches_gone v_search_known v_search_countHere v_search_countThere v_search_cost v_search_most : Int32) (v_search_found : Int64) (f_bytes f_knee f_weight f_limps f_bheft f_owner f_food f_miles f_slope f_rsteps f_rkind f_ryields f_rholds f_rletters f_rstack f_dsteps f_dkind f_dyields f_dholds f_dletters f_dstack f_caps f_versions f_sharing f_pheft f_prow f_holder f_comes f_pcaps f_room f_loose f_reached f_mrow f_minutesOn f_mtired : Nat → Int32) (f_here f_there : Nat → Int64) (f_statesHere f_statesThere f_listed f_stired f_burdens f_pacesOn f_restedOn f_behindOn f_behindFor f_first f_second : Nat → Int32) (f_plans f_tiredOn : Nat → Nat → Int32) (tS : Nat) (sz : Nat) (cc0 : Int32) (mm : Int32) (hb_v_band_walkers : 0 ≤ v_band_walkers.toInt ∧ v_band_walkers.toInt ≤ 6) (hb_v_band_loads : 0 ≤ v_band_loads.toInt ∧ v_band_loads.toInt ≤ 9) (hb_v_band_pieces : 0 ≤ v_band_pieces.toInt ∧ v_band_pieces.toInt ≤ 10) (hb_v_rules_clauses : 0 ≤ v_rules_clauses.toInt ∧ v_rules_clauses.toInt ≤ 14) (hb_v_search_known : 0 ≤ v_search_known.toInt ∧ v_search_known.toInt ≤ 1) (hb_v_search_countHere : 0 ≤ v_search_countHere.toInt ∧ v_search_countHere.toInt ≤ 1296) (hb_v_search_countThere : 0 ≤ v_search_countThere.toInt ∧ v_search_countThere.toInt ≤ 1296) (hb_v_search_most : -1 ≤ v_search_most.toInt ∧ v_search_most.toInt ≤ 3) (hr_weight : rg (0) 250 f_weight) (hr_limps : rg (0) 1 f_limps) (hr_bheft : rg (0) 120 f_bheft) (hr_food : rg (0) 20 f_food) (hr_miles : rg (0) 20 f_miles) (hr_statesHere : rg (0) 1295 f_statesHere) (hr_statesThere : rg (0) 1295 f_statesThere) (hr_listed : rg (0) 1 f_listed) (hr_stired : rg (0) 5 f_stired) (hr_pacesOn : rg (-1) 60 f_pacesOn) (hr_restedOn : rg (-1) 5 f_restedOn) (hr_behindOn : rg (0) 5 f_behindOn) (ha_mm : -1 ≤ mm.toInt ∧ mm.toInt ≤ 3) (hw4 : v_band_walkers.toInt ≤ 4) (hZ : ∀ b : Nat, b < 1296 → (f_listed b).toInt = 0) : gMv l yX7_solve cX7_solve 7 6 [.ref (hs 62), .int cc0, .int mm] D cy (wSP cy hs hH hT sH sT v_tape_size v_band_walkers v_band_loads v_band_pieces v_rules_clauses v_reader_end v_reader_at v_reader_length v_reader_letter v_reader_fault v_draft_clauses v_paces_version v_packing_quicker v_packing_loads v_packing_looseCount v_marches_told v_marches_changeMinutes v_marches_marching v_marches_gone v_search_known v_search_countHere v_search_countThere v_search_cost v_search_most v_search_found f_bytes f_knee f_weight f_limps f_bheft f_owner f_food f_miles f_slope f_rsteps f_rkind f_ryields f_rholds f_rletters f_rstack f_dsteps f_dkind f_dyields f_dholds f_dletters f_dstack f_caps f_versions f_sharing f_pheft f_prow f_holder f_comes f_pcaps f_room f_loose f_reached f_mrow f_minutesOn f_mtired f_here f_there f_statesHere f_statesThere f_listed f_stired f_burdens f_pacesOn f_restedOn f_behindOn f_behindFor f_first f_second f_plans f_tiredOn) (NS tS) sz (fun (u : Int32 × Int32 × Int32 × Int32 × Int32 × Int64 × (Nat → Int32) × (Nat → Int32) × (Nat → Int64) × (Nat → Int64) × (Nat → Int32) × (Nat → Int32) × (Nat → Int32) × (Nat → Int32) × (Nat → Int32) × (Nat → Int32) × (Nat → Int32) × (Nat → Int32) × (Nat → Int32) × Nat × Nat × Nat × Nat) => (∀ b : Nat, b < 1296 → ((u.2.2.2.2.2.2.2.2.2.2.2.2.1) b).toInt = 0) ∧ (0 ≤ (u.1).toInt ∧ (u.1).toInt ≤ 1) ∧ (0 ≤ (u.2.1).toInt ∧ (u.2.1).toInt ≤ 1296) ∧ (0 ≤ (u.2.2.1).toInt ∧ (u.2.2.1).toInt ≤ 1296) ∧ (-1 ≤ (u.2.2.2.2.1).toInt ∧ (u.2.2.2.2.1).toInt ≤ 3) ∧ (rg (0) 1295 (u.2.2.2.2.2.2.2.2.2.2.1)) ∧ (rg (0) 1295 (u.2.2.2.2.2.2.2.2.2.2.2.1)) ∧ (rg (0) 1 (u.2.2.2.2.2.2.2.2.2.2.2.2.1)) ∧ (rg (0) 5 (u.2.2.2.2.2.2.2.2.2.2.2.2.2.1)) ∧ (rg (-1) 60 (u.2.2.2.2.2.2.2.2.2.2.2.2.2.2.2.1)) ∧ (rg (-1) 5 (u.2.2.2.2.2.2.2.2.2.2.2.2.2.2.2.2.1)) ∧ (rg (0) 5 (u.2.2.2.2.2.2.2.2.2.2.2.2.2.2.2.2.2.1))) (fun u => wSP cy hs (u.2.2.2.2.2.2.2.2.2.2.2.2.2.2.2.2.2.2.2.1) (u.2.2.2.2.2.2.2.2.2.2.2.2.2.2.2.2.2.2.2.2.1) (u.2.2.2.2.2.2.2.2.2.2.2.2.2.2.2.2.2.2.2.2.2.1) (u.2.2.2.2.2.2.2.2.2.2.2.2.2.2.2.2.2.2.2.2.2.2) v_tape_size v_band_walkers v_band_loads v_band_pieces v_rules_clauses v_reader_end v_reader_at v_reader_length v_reader_letter v_reader_fault v_draft_clauses v_paces_version v_packing_quicker v_packing_loads v_packing_looseCount v_marches_told v_marches_changeMinutes v_marches_marching v_marches_gone (u.1) (u.2.1) (u.2.2.1) (u.2.2.2.1) (u.2.2.2.2.1) (u.2.2.2.2.2.1) f_bytes f_knee f_weight f_limps f_bheft f_owner f_food f_miles f_slope f_rsteps f_rkind f_ryields f_rholds (u.2.2.2.2.2.2.1) (u.2.2.2.2.2.2.2.1) f_dsteps f_dkind f_dyields f_dholds f_dletters f_dstack f_caps f_versions f_sharing f_pheft f_prow f_holder f_comes f_pcaps f_room f_loose f_reached f_mrow f_minutesOn f_mtired (u.2.2.2.2.2.2.2.2.1) (u.2.2.2.2.2.2.2.2.2.1) (u.2.2.2.2.2.2.2.2.2.2.1) (u.2.2.2.2.2.2.2.2.2.2.2.1) (u.2.2.2.2.2.2.2.2.2.2.2.2.1) (u.2.2.2.2.2.2.2.2.2.2.2.2.2.1) (u.2.2.2.2.2.2.2.2.2.2.2.2.2.2.1) (u.2.2.2.2.2.2.2.2.2.2.2.2.2.2.2.1) (u.2.2.2.2.2.2.2.2.2.2.2.2.2.2.2.2.1) (u.2.2.2.2.2.2.2.2.2.2.2.2.2.2.2.2.2.1) (u.2.2.2.2.2.2.2.2.2.2.2.2.2.2.2.2.2.2.1) f_first f_second f_plans f_tiredOn) := by
  refine gMv_in (by decide) (Nat.le_of_ble_eq_true rfl) ?_
  intro p e s m args below meth c A ls Q hx hb hml hts hown hsz hP hK hD hN hAe hA hS hl hret
  subst hsz
  have hl : lv_has ls 7 [(0, .ref (hs 62)), (1, .int cc0), (2, .int mm)] := hl
  have hrt := fun (v_search_known' : Int32) (v_search_countHere' : Int32) (v_search_countThere' : Int32) (v_search_cost' : Int32) (v_search_most' : Int32) (v_search_found' : Int64) (f_rletters' : Nat → Int32) (f_rstack' : Nat → Int32) (f_here' : Nat → Int64) (f_there' : Nat → Int64) (f_statesHere' : Nat → Int32) (f_statesThere' : Nat → Int32) (f_listed' : Nat → Int32) (f_stired' : Nat → Int32) (f_burdens' : Nat → Int32) (f_pacesOn' : Nat → Int32) (f_restedOn' : Nat → Int32) (f_behindOn' : Nat → Int32) (f_behindFor' : Nat → Int32) (hH' : Nat) (hT' : Nat) (sH' : Nat) (sT' : Nat) (hp : (∀ b : Nat, b < 1296 → (f_listed' b).toInt = 0) ∧ (0 ≤ v_search_known'.toInt ∧ v_search_known'.toInt ≤ 1) ∧ (0 ≤ v_search_countHere'.toInt ∧ v_search_countHere'.toInt ≤ 1296) ∧ (0 ≤ v_search_countThere'.toInt ∧ v_search_countThere'.toInt ≤ 1296) ∧ (-1 ≤ v_search_most'.toInt ∧ v_search_most'.toInt ≤ 3) ∧ (rg (0) 1295 f_statesHere') ∧ (rg (0) 1295 f_statesThere') ∧ (rg (0) 1 f_listed') ∧ (rg (0) 5 f_stired') ∧ (rg (-1) 60 f_pacesOn') ∧ (rg (-1) 5 f_restedOn') ∧ (rg (0) 5 f_behindOn')) {H : Heap} {locs : List Loc} {pc : Nat} {ls : Array Slot} => hret (v_search_known', v_search_countHere', v_search_countThere', v_search_cost', v_search_most', v_search_found', f_rletters', f_rstack', f_here', f_there', f_statesHere', f_statesThere', f_listed', f_stired', f_burdens', f_pacesOn', f_restedOn', f_behindOn', f_behindFor', hH', hT', sH', sT') (H := H) (locs := locs) (pc := pc) (ls := ls) hp
  clear hret
  skip
  refine lv_aload_n hx hb dX7_solve_0 rfl (lv_at hl 0 rfl) ?_
  refine gt_SP_search_known hx hb hts hown hK hP lwd_1042 dX7_solve_1 ?_
  refine lv_if_eq (tgt := 24) hx hb dX7_solve_4 (by decide) (fun c_1 => ?_) (fun c_1 => ?_)
  · have gc_1 : v_search_known.toInt = 0 := i_eq (rfl : v_search_known.toInt = v_search_known.toInt) (by decide : (0 : Int32).toInt = 0) c_1
    refine lv_aload_n hx hb dX7_solve_24 rfl (lv_at hl 0 rfl) ?_
    refine lv_iload_n hx hb dX7_solve_25 rfl (lv_at hl 1 rfl) ?_
    refine pt_SP_search_cost (x := cc0) hx hb hts hown hK hP hD hS lwd_1043 dX7_solve_26 (fun H locs hP hD hS => ?_)
    refine lv_aload_n hx hb dX7_solve_29 rfl (lv_at hl 0 rfl) ?_
    refine lv_iload_n hx hb dX7_solve_30 rfl (lv_at hl 2 rfl) ?_
    refine pt_SP_search_most (x := mm) hx hb hts hown hK hP hD hS lwd_1044 dX7_solve_31 (fun H locs hP hD hS => ?_)
    refine lv_aload_n hx hb dX7_solve_34 rfl (lv_at hl 0 rfl) ?_
    refine gt_SP_search_here hx hb hts hown hK hP lwd_123 dX7_solve_35 ?_
    refine lv_iconst (v := 0) hx hb dX7_solve_38 (by decide) ?_
    refine lv_lconst (v := 0) hx hb dX7_solve_39 (by decide) ?_
    refine as_here (x := 0) hx hb hK hP hD hS (i_in (by decide : (0 : Int32).toInt = 0) (by decide) (by decide)) dX7_solve_40 (fun f_2 ef_2 H locs hP hD hS => ?_)
    refine lv_aload_n hx hb dX7_solve_41 rfl (lv_at hl 0 rfl) ?_
    refine gt_SP_search_statesHere hx hb hts hown hK hP lwd_125 dX7_solve_42 ?_
    refine lv_iconst (v := 0) hx hb dX7_solve_45 (by decide) ?_
    refine lv_iconst (v := 0) hx hb dX7_solve_46 (by decide) ?_
    refine as_statesHere (x := 0) hx hb hK hP hD hS hr_statesHere (i_in (by decide : (0 : Int32).toInt = 0) (by decide) (by decide)) (by decide) dX7_solve_47 (fun f_3 ef_3 rf_3 H locs hP hD hS => ?_)
    refine lv_aload_n hx hb dX7_solve_48 rfl (lv_at hl 0 rfl) ?_
    refine lv_iconst (v := 1) hx hb dX7_solve_49 (by decide) ?_
    refine pt_SP_search_countHere (x := 1) hx hb hts hown hK hP hD hS lwd_1045 dX7_solve_50 (fun H locs hP hD hS => ?_)
    refine lv_ldc2 hx hb hown (hts _ lwd_1046) dX7_solve_53 ?_
    refine lv_lstore_n (lv' := [(3, .long 3570467226624), (0, .ref (hs 62)), (1, .int cc0), (2, .int mm)]) hx hb dX7_solve_56 rfl hl (by decide) rfl (fun ls hl => ?_)
    refine lv_iconst (v := 0) hx hb dX7_solve_57 (by decide) ?_
    refine lv_istore (lv' := [(5, .int 0), (3, .long 3570467226624), (0, .ref (hs 62)), (1, .int cc0), (2, .int mm)]) hx hb dX7_solve_58 hl (by decide) rfl (fun ls hl => ?_)
    have L60_46 : ∀ (n : Nat) (f_25 : Nat → Int32) (f_26 : Nat → Int32) (f_27 : Nat → Int32) (f_28 : Nat → Int64) (f_29 : Nat → Int32) (f_30 : Nat → Int32) (f_31 : Nat → Int32) (f_32 : Nat → Int32) (f_33 : Nat → Int32) (f_34 : Nat → Int32) (f_35 : Nat → Int32) (f_36 : Nat → Int32) (f_37 : Nat → Int64) (l_38 : Int64) (l_39 : Int32) (q_40 : Nat) (q_41 : Nat) (q_42 : Nat) (q_43 : Nat) (w_44 : Int32) (w_45 : Int32), (rg (0) 5 f_26) → (rg (0) 1 f_29) → (rg (-1) 60 f_30) → (rg (-1) 5 f_31) → (rg (0) 1295 f_34) → (rg (0) 1295 f_35) → (rg (0) 5 f_36) → (0 ≤ l_39.toInt ∧ l_39.toInt ≤ 10) → (0 ≤ w_44.toInt ∧ w_44.toInt ≤ 1296) → (0 ≤ w_45.toInt ∧ w_45.toInt ≤ 1296) → (∀ b : Nat, b < 1296 → (f_29 b).toInt = 0) → 11 - l_39.toInt < n → ∀ (H : Heap) (locs : List Loc) (ls : Array Slot), va_P D vwCl (wSP cy hs q_40 q_41 q_42 q_43 v_tape_size v_band_walkers v_band_loads v_band_pieces v_rules_clauses v_reader_end v_reader_at v_reader_length v_reader_letter v_reader_fault v_draft_clauses v_paces_version v_packing_quicker v_packing_loads v_packing_looseCount v_marches_told v_marches_changeMinutes v_marches_marching v_marches_gone v_search_known w_44 w_45 cc0 mm v_search_found f_bytes f_knee f_weight f_limps f_bheft f_owner f_food f_miles f_slope f_rsteps f_rkind f_ryields f_rholds f_32 f_33 f_dsteps f_dkind f_dyields f_dholds f_dletters f_dstack f_caps f_versions f_sharing f_pheft f_prow f_holder f_comes f_pcaps f_room f_loose f_reached f_mrow f_minutesOn f_mtired f_28 f_37 f_34 f_35 f_29 f_36 f_27 f_30 f_31 f_26 f_25 f_first f_second f_plans f_tiredOn) H → va_D A (wSP cy hs q_40 q_41 q_42 q_43 v_tape_size v_band_walkers v_band_loads v_band_pieces v_rules_clauses v_reader_end v_reader_at v_reader_length v_reader_letter v_reader_fault v_draft_clauses v_paces_version v_packing_quicker v_packing_loads v_packing_looseCount v_marches_told v_marches_changeMinutes v_marches_marching v_marches_gone v_search_known w_44 w_45 cc0 mm v_search_found f_bytes f_knee f_weight f_limps f_bheft f_owner f_food f_miles f_slope f_rsteps f_rkind f_ryields f_rholds f_32 f_33 f_dsteps f_dkind f_dyields f_dholds f_dletters f_dstack f_caps f_versions f_sharing f_pheft f_prow f_holder f_comes f_pcaps f_room f_loose f_reached f_mrow f_minutesOn f_mtired f_28 f_37 f_34 f_35 f_29 f_36 f_27 f_30 f_31 f_26 f_25 f_first f_second f_plans f_tiredOn) → va_S A s.heap H locs → lv_has ls 7 [(5, .int l_39), (3, .long l_38), (0, .ref (hs 62)), (1, .int cc0), (2, .int mm)] → W p l e (gRm 6) s m args below meth c H locs 0 0 Q (F0 m 60 ls []) := by
      intro n
      induction n with
      | zero => intro f_25 f_26 f_27 f_28 f_29 f_30 f_31 f_32 f_33 f_34 f_35 f_36 f_37 l_38 l_39 q_40 q_41 q_42 q_43 w_44 w_45 hL60_46_0 hL60_46_1 hL60_46_2 hL60_46_3 hL60_46_4 hL60_46_5 hL60_46_6 hL60_46_7 hL60_46_8 hL60_46_9 hL60_46_10 hm; exact absurd hm (by omega)
      | succ n ih60_46 =>
        intro f_25 f_26 f_27 f_28 f_29 f_30 f_31 f_32 f_33 f_34 f_35 f_36 f_37 l_38 l_39 q_40 q_41 q_42 q_43 w_44 w_45 hL60_46_0 hL60_46_1 hL60_46_2 hL60_46_3 hL60_46_4 hL60_46_5 hL60_46_6 hL60_46_7 hL60_46_8 hL60_46_9 hL60_46_10 hmL60_46 H locs ls hP hD hS hl
        refine lv_iload hx hb dX7_solve_60 (lv_at hl 0 rfl) ?_
        refine lv_aload_n hx hb dX7_solve_62 rfl (lv_at hl 2 rfl) ?_
        refine gt_SP_search_band hx hb hts hown hK hP lwd_134 dX7_solve_63 ?_
        refine gt_SP_band_pieces hx hb hts hown hK hP lwd_1047 dX7_solve_66 ?_
        refine lv_icmp_ge (tgt := 131) hx hb dX7_solve_69 (by decide) (fun c_47 => ?_) (fun c_47 => ?_)
        · have gc_47 : v_band_pieces.toInt ≤ l_39.toInt := i_le (rfl : v_band_pieces.toInt = v_band_pieces.toInt) (rfl : l_39.toInt = l_39.toInt) c_47
          skip
          refine lv_aload_n hx hb dX7_solve_131 rfl (lv_at hl 2 rfl) ?_
          refine lv_ldc2 hx hb hown (hts _ lwd_137) dX7_solve_132 ?_
          refine pt_SP_search_found (x := 4611686018427387904) hx hb hts hown hK hP hD hS lwd_1050 dX7_solve_135 (fun H locs hP hD hS => ?_)
          refine lv_iconst (v := 0) hx hb dX7_solve_138 (by decide) ?_
          refine lv_istore (lv' := [(5, .int 0), (3, .long l_38), (0, .ref (hs 62)), (1, .int cc0), (2, .int mm)]) hx hb dX7_solve_139 hl (by decide) rfl (fun ls hl => ?_)
          have L141_54 : ∀ (n : Nat) (f_51 : Nat → Int64) (l_52 : Int32) (w_53 : Int64), (0 ≤ l_52.toInt ∧ l_52.toInt ≤ 1296) → 1297 - l_52.toInt < n → ∀ (H : Heap) (locs : List Loc) (ls : Array Slot), va_P D vwCl (wSP cy hs q_40 q_41 q_42 q_43 v_tape_size v_band_walkers v_band_loads v_band_pieces v_rules_clauses v_reader_end v_reader_at v_reader_length v_reader_letter v_reader_fault v_draft_clauses v_paces_version v_packing_quicker v_packing_loads v_packing_looseCount v_marches_told v_marches_changeMinutes v_marches_marching v_marches_gone v_search_known w_44 w_45 cc0 mm w_53 f_bytes f_knee f_weight f_limps f_bheft f_owner f_food f_miles f_slope f_rsteps f_rkind f_ryields f_rholds f_32 f_33 f_dsteps f_dkind f_dyields f_dholds f_dletters f_dstack f_caps f_versions f_sharing f_pheft f_prow f_holder f_comes f_pcaps f_room f_loose f_reached f_mrow f_minutesOn f_mtired f_51 f_37 f_34 f_35 f_29 f_36 f_27 f_30 f_31 f_26 f_25 f_first f_second f_plans f_tiredOn) H → va_D A (wSP cy hs q_40 q_41 q_42 q_43 v_tape_size v_band_walkers v_band_loads v_band_pieces v_rules_clauses v_reader_end v_reader_at v_reader_length v_reader_letter v_reader_fault v_draft_clauses v_paces_version v_packing_quicker v_packing_loads v_packing_looseCount v_marches_told v_marches_changeMinutes v_marches_marching v_marches_gone v_search_known w_44 w_45 cc0 mm w_53 f_bytes f_knee f_weight f_limps f_bheft f_owner f_food f_miles f_slope f_rsteps f_rkind f_ryields f_rholds f_32 f_33 f_dsteps f_dkind f_dyields f_dholds f_dletters f_dstack f_caps f_versions f_sharing f_pheft f_prow f_holder f_comes f_pcaps f_room f_loose f_reached f_mrow f_minutesOn f_mtired f_51 f_37 f_34 f_35 f_29 f_36 f_27 f_30 f_31 f_26 f_25 f_first f_second f_plans f_tiredOn) → va_S A s.heap H locs → lv_has ls 7 [(5, .int l_52), (3, .long l_38), (0, .ref (hs 62)), (1, .int cc0), (2, .int mm)] → W p l e (gRm 6) s m args below meth c H locs 0 0 Q (F0 m 141 ls []) := by
            intro n
            induction n with
            | zero => intro f_51 l_52 w_53 hL141_54_0 hm; exact absurd hm (by omega)
            | succ n ih141_54 =>
              intro f_51 l_52 w_53 hL141_54_0 hmL141_54 H locs ls hP hD hS hl
              refine lv_iload hx hb dX7_solve_141 (lv_at hl 0 rfl) ?_
              refine lv_aload_n hx hb dX7_solve_143 rfl (lv_at hl 2 rfl) ?_
              refine gt_SP_search_countHere hx hb hts hown hK hP lwd_1045 dX7_solve_144 ?_
              refine lv_icmp_ge (tgt := 212) hx hb dX7_solve_147 (by decide) (fun c_55 => ?_) (fun c_55 => ?_)
              · have gc_55 : w_44.toInt ≤ l_52.toInt := i_le (rfl : w_44.toInt = w_44.toInt) (rfl : l_52.toInt = l_52.toInt) c_55
                refine lv_aload_n hx hb dX7_solve_212 rfl (lv_at hl 2 rfl) ?_
                refine lv_iconst (v := 1) hx hb dX7_solve_213 (by decide) ?_
                refine pt_SP_search_known (x := 1) hx hb hts hown hK hP hD hS lwd_1042 (by decide) dX7_solve_214 (fun H locs hP hD hS => ?_)
                have k_56 : (1 : Int32).toInt = 1 := by decide
                exact hrt 1 w_44 w_45 cc0 mm w_53 f_32 f_33 f_51 f_37 f_34 f_35 f_29 f_36 f_27 f_30 f_31 f_26 f_25 q_40 q_41 q_42 q_43 ⟨hL60_46_10, (by omega), (by omega), (by omega), (by omega), hL60_46_4, hL60_46_5, hL60_46_1, hL60_46_6, hL60_46_2, hL60_46_3, hL60_46_0⟩ hP hD hS dX7_solve_217
              · have gc_55 : l_52.toInt < w_44.toInt := i_nle (rfl : w_44.toInt = w_44.toInt) (rfl : l_52.toInt = l_52.toInt) c_55
                refine lv_aload_n hx hb dX7_solve_150 rfl (lv_at hl 2 rfl) ?_
                refine gt_SP_search_statesHere hx hb hts hown hK hP lwd_125 dX7_solve_151 ?_
                refine lv_iload hx hb dX7_solve_154 (lv_at hl 0 rfl) ?_
                refine al_statesHere hx hb hK hP hL60_46_4 (i_in (rfl : l_52.toInt = l_52.toInt) (by omega) (by omega)) dX7_solve_156 (fun n_57 en_57 bn_57 => ?_)
                refine lv_istore (lv' := [(6, .int n_57), (5, .int l_52), (3, .long l_38), (0, .ref (hs 62)), (1, .int cc0), (2, .int mm)]) hx hb dX7_solve_157 hl (by decide) rfl (fun ls hl => ?_)
                have L159_64 : ∀ (n : Nat) (f_61 : Nat → Int64) (l_62 : Int32) (w_63 : Int64), (0 ≤ l_62.toInt ∧ l_62.toInt ≤ 32400) → 32401 - l_62.toInt < n → ∀ (H : Heap) (locs : List Loc) (ls : Array Slot), va_P D vwCl (wSP cy hs q_40 q_41 q_42 q_43 v_tape_size v_band_walkers v_band_loads v_band_pieces v_rules_clauses v_reader_end v_reader_at v_reader_length v_reader_letter v_reader_fault v_draft_clauses v_paces_version v_packing_quicker v_packing_loads v_packing_looseCount v_marches_told v_marches_changeMinutes v_marches_marching v_marches_gone v_search_known w_44 w_45 cc0 mm w_63 f_bytes f_knee f_weight f_limps f_bheft f_owner f_food f_miles f_slope f_rsteps f_rkind f_ryields f_rholds f_32 f_33 f_dsteps f_dkind f_dyields f_dholds f_dletters f_dstack f_caps f_versions f_sharing f_pheft f_prow f_holder f_comes f_pcaps f_room f_loose f_reached f_mrow f_minutesOn f_mtired f_61 f_37 f_34 f_35 f_29 f_36 f_27 f_30 f_31 f_26 f_25 f_first f_second f_plans f_tiredOn) H → va_D A (wSP cy hs q_40 q_41 q_42 q_43 v_tape_size v_band_walkers v_band_loads v_band_pieces v_rules_clauses v_reader_end v_reader_at v_reader_length v_reader_letter v_reader_fault v_draft_clauses v_paces_version v_packing_quicker v_packing_loads v_packing_looseCount v_marches_told v_marches_changeMinutes v_marches_marching v_marches_gone v_search_known w_44 w_45 cc0 mm w_63 f_bytes f_knee f_weight f_limps f_bheft f_owner f_food f_miles f_slope f_rsteps f_rkind f_ryields f_rholds f_32 f_33 f_dsteps f_dkind f_dyields f_dholds f_dletters f_dstack f_caps f_versions f_sharing f_pheft f_prow f_holder f_comes f_pcaps f_room f_loose f_reached f_mrow f_minutesOn f_mtired f_61 f_37 f_34 f_35 f_29 f_36 f_27 f_30 f_31 f_26 f_25 f_first f_second f_plans f_tiredOn) → va_S A s.heap H locs → lv_has ls 7 [(6, .int l_62), (5, .int l_52), (3, .long l_38), (0, .ref (hs 62)), (1, .int cc0), (2, .int mm)] → W p l e (gRm 6) s m args below meth c H locs 0 0 Q (F0 m 159 ls []) := by
                  intro n
                  induction n with
                  | zero => intro f_61 l_62 w_63 hL159_64_0 hm; exact absurd hm (by omega)
                  | succ n ih159_64 =>
                    intro f_61 l_62 w_63 hL159_64_0 hmL159_64 H locs ls hP hD hS hl
                    refine lv_iload hx hb dX7_solve_159 (lv_at hl 0 rfl) ?_
                    refine lv_aload_n hx hb dX7_solve_161 rfl (lv_at hl 3 rfl) ?_
                    refine gt_SP_search_here hx hb hts hown hK hP lwd_123 dX7_solve_162 ?_
                    refine ln_here hx hb hK hP dX7_solve_165 ?_
                    refine lv_icmp_ge (tgt := 206) hx hb dX7_solve_166 (by decide) (fun c_65 => ?_) (fun c_65 => ?_)
                    · have gc_65 : 31104 ≤ l_62.toInt := i_le (by decide : (31104 : Int32).toInt = 31104) (rfl : l_62.toInt = l_62.toInt) c_65
                      obtain ⟨n_66, en_66⟩ : ∃ y : Int32, y = l_52 + 1 := ⟨_, rfl⟩
                      have tn_66 : n_66.toInt = l_52.toInt + 1 := i_add en_66 (rfl : l_52.toInt = l_52.toInt) (by decide : (1 : Int32).toInt = 1) (by omega) (by omega)
                      refine lv_iinc (v := n_66) (lv' := [(5, .int n_66), (6, .int l_62), (3, .long l_38), (0, .ref (hs 62)), (1, .int cc0), (2, .int mm)]) hx hb dX7_solve_206 hl (k := 1) rfl (by rw [en_66]; rfl) (by decide) rfl (fun ls hl => ?_)
                      refine lv_goto (tgt := 141) hx hb dX7_solve_209 (by decide) ?_
                      exact ih141_54 f_61 n_66 w_63 (by omega) (by omega) _ _ _ hP hD hS (lv_sub hl [0, 2, 3, 4, 5] rfl)
                    · have gc_65 : l_62.toInt < 31104 := i_nle (by decide : (31104 : Int32).toInt = 31104) (rfl : l_62.toInt = l_62.toInt) c_65
                      refine lv_aload_n hx hb dX7_solve_169 rfl (lv_at hl 3 rfl) ?_
                      refine lv_aload_n hx hb dX7_solve_170 rfl (lv_at hl 3 rfl) ?_
                      refine gt_SP_search_found hx hb hts hown hK hP lwd_1050 dX7_solve_171 ?_
                      refine lv_aload_n hx hb dX7_solve_174 rfl (lv_at hl 3 rfl) ?_
                      refine gt_SP_search_here hx hb hts hown hK hP lwd_123 dX7_solve_175 ?_
                      refine lv_iload hx hb dX7_solve_178 (lv_at hl 0 rfl) ?_
                      refine al_here hx hb hK hP (i_in (rfl : l_62.toInt = l_62.toInt) (by omega) (by omega)) dX7_solve_180 (fun n_67 en_67 => ?_)
                      refine va_mmin_long hx hb (by rw [hml]; exact hl.1.symm) hown (hts _ lwd_1051) (hts _ lwd_1052) (hts _ lwd_529) (hts _ lwd_1053) (Nat.le_of_ble_eq_true rfl) (Nat.le_of_ble_eq_true rfl) (Nat.zero_le _) (Nat.zero_le _) dX7_solve_181 ?_
                      refine lv_topl (fun n_68 en_68 => ?_)
                      refine pt_SP_search_found (x := n_68) hx hb hts hown hK hP hD hS lwd_1050 dX7_solve_184 (fun H locs hP hD hS => ?_)
                      refine lv_aload_n hx hb dX7_solve_187 rfl (lv_at hl 3 rfl) ?_
                      refine gt_SP_search_here hx hb hts hown hK hP lwd_123 dX7_solve_188 ?_
                      refine lv_iload hx hb dX7_solve_191 (lv_at hl 0 rfl) ?_
                      refine lv_ldc2 hx hb hown (hts _ lwd_137) dX7_solve_193 ?_
                      refine as_here (x := 4611686018427387904) hx hb hK hP hD hS (i_in (rfl : l_62.toInt = l_62.toInt) (by omega) (by omega)) dX7_solve_196 (fun f_69 ef_69 H locs hP hD hS => ?_)
                      obtain ⟨n_70, en_70⟩ : ∃ y : Int32, y = l_62 + 1296 := ⟨_, rfl⟩
                      have tn_70 : n_70.toInt = l_62.toInt + 1296 := i_add en_70 (rfl : l_62.toInt = l_62.toInt) (by decide : (1296 : Int32).toInt = 1296) (by omega) (by omega)
                      refine lv_iincW (v := n_70) (lv' := [(6, .int n_70), (5, .int l_52), (3, .long l_38), (0, .ref (hs 62)), (1, .int cc0), (2, .int mm)]) hx hb dX7_solve_197 hl (k := 0) rfl (by rw [en_70]; rfl) (by decide) rfl (fun ls hl => ?_)
                      refine lv_goto (tgt := 159) hx hb dX7_solve_203 (by decide) ?_
                      exact ih159_64 f_69 n_70 n_68 (by omega) (by omega) _ _ _ hP hD hS (lv_sub hl [0, 1, 2, 3, 4, 5] rfl)
                exact L159_64 8589934592 f_51 n_57 w_53 (by omega) (by omega) _ _ _ hP hD hS (lv_sub hl [0, 1, 2, 3, 4, 5] rfl)
          have k_71 : (0 : Int32).toInt = 0 := by decide
          have k_72 : (4611686018427387904 : Int64).toInt = 4611686018427387904 := by decide
          exact L141_54 8589934592 f_28 0 4611686018427387904 (by omega) (by omega) _ _ _ hP hD hS (lv_sub hl [0, 1, 2, 3, 4] rfl)
        · have gc_47 : l_39.toInt < v_band_pieces.toInt := i_nle (rfl : v_band_pieces.toInt = v_band_pieces.toInt) (rfl : l_39.toInt = l_39.toInt) c_47
          skip
          refine lv_lload_n hx hb dX7_solve_72 rfl (lv_at hl 1 rfl) ?_
          refine lv_ldc2 hx hb hown (hts _ lwd_1048) dX7_solve_73 ?_
          refine lv_ldiv hx hb dX7_solve_76 (by decide) ?_
          refine lv_topl (fun n_73 en_73 => ?_)
          refine lv_lstore_n (lv' := [(3, .long n_73), (5, .int l_39), (0, .ref (hs 62)), (1, .int cc0), (2, .int mm)]) hx hb dX7_solve_77 rfl hl (by decide) rfl (fun ls hl => ?_)
          refine lv_aload_n hx hb dX7_solve_78 rfl (lv_at hl 2 rfl) ?_
          refine lv_iload hx hb dX7_solve_79 (lv_at hl 1 rfl) ?_
          refine xv hD hS hA (xV (As := [.int l_39]) (rest := []) hx hb hml hown hts hK hP hD hS hA NS_ok hN hAe hl.1 ⟨Nat.le_refl _, Nat.le_refl _⟩ 62 rfl rfl rfl (c_X7_weigh l D cy hs q_40 q_41 q_42 q_43 v_tape_size v_band_walkers v_band_loads v_band_pieces v_rules_clauses v_reader_end v_reader_at v_reader_length v_reader_letter v_reader_fault v_draft_clauses v_paces_version v_packing_quicker v_packing_loads v_packing_looseCount v_marches_told v_marches_changeMinutes v_marches_marching v_marches_gone v_search_known w_44 w_45 cc0 mm v_search_found f_bytes f_knee f_weight f_limps f_bheft f_owner f_food f_miles f_slope f_rsteps f_rkind f_ryields f_rholds f_32 f_33 f_dsteps f_dkind f_dyields f_dholds f_dletters f_dstack f_caps f_versions f_sharing f_pheft f_prow f_holder f_comes f_pcaps f_room f_loose f_reached f_mrow f_minutesOn f_mtired f_28 f_37 f_34 f_35 f_29 f_36 f_27 f_30 f_31 f_26 f_25 f_first f_second f_plans f_tiredOn tS H.size l_39 (by omega) (by omega) hr_bheft hr_food hL60_46_2 hL60_46_3 (by omega) (by omega)) (gi_V lwd_1054 lwd_1055 lwd_1056 lwd_42 lwd_1057) ⟨rfl, hd_X7_weigh⟩ ⟨Nat.le_of_ble_eq_true rfl, Nat.le_of_ble_eq_true rfl⟩ rfl (Nat.le_of_ble_eq_true rfl) dX7_solve_81) (fun u_74 H locs hw hP hD hS => ?_)
          obtain ⟨zburdens_76, zpacesOn_77, zrestedOn_78, zbehindFor_79⟩ := u_74
          try dsimp only at hw hP hD
          obtain ⟨p_80, p_81⟩ := hw
          refine lv_aload_n hx hb dX7_solve_84 rfl (lv_at hl 2 rfl) ?_
          refine lv_iconst (v := 0) hx hb dX7_solve_85 (by decide) ?_
          refine pt_SP_search_countThere (x := 0) hx hb hts hown hK hP hD hS lwd_1049 dX7_solve_86 (fun H locs hP hD hS => ?_)
          refine lv_iconst (v := 0) hx hb dX7_solve_89 (by decide) ?_
          refine lv_istore (lv' := [(6, .int 0), (3, .long n_73), (5, .int l_39), (0, .ref (hs 62)), (1, .int cc0), (2, .int mm)]) hx hb dX7_solve_90 hl (by decide) rfl (fun ls hl => ?_)
          have L92_106 : ∀ (n : Nat) (f_94 : Nat → Int32) (f_95 : Nat → Int32) (f_96 : Nat → Int32) (f_97 : Nat → Int32) (f_98 : Nat → Int32) (f_99 : Nat → Int32) (f_100 : Nat → Int32) (f_101 : Nat → Int32) (f_102 : Nat → Int32) (f_103 : Nat → Int64) (l_104 : Int32) (w_105 : Int32), (rg (0) 5 f_95) → (rg (0) 1 f_96) → (rg (-1) 60 f_97) → (rg (-1) 5 f_98) → (rg (0) 1295 f_101) → (rg (0) 5 f_102) → (0 ≤ l_104.toInt ∧ l_104.toInt ≤ 1296) → (0 ≤ w_105.toInt ∧ w_105.toInt ≤ 1296) → (LI f_96 f_101 w_105) → 1297 - l_104.toInt < n → ∀ (H : Heap) (locs : List Loc) (ls : Array Slot), va_P D vwCl (wSP cy hs q_40 q_41 q_42 q_43 v_tape_size v_band_walkers v_band_loads v_band_pieces v_rules_clauses v_reader_end v_reader_at v_reader_length v_reader_letter v_reader_fault v_draft_clauses v_paces_version v_packing_quicker v_packing_loads v_packing_looseCount v_marches_told v_marches_changeMinutes v_marches_marching v_marches_gone v_search_known w_44 w_105 cc0 mm v_search_found f_bytes f_knee f_weight f_limps f_bheft f_owner f_food f_miles f_slope f_rsteps f_rkind f_ryields f_rholds f_99 f_100 f_dsteps f_dkind f_dyields f_dholds f_dletters f_dstack f_caps f_versions f_sharing f_pheft f_prow f_holder f_comes f_pcaps f_room f_loose f_reached f_mrow f_minutesOn f_mtired f_28 f_103 f_34 f_101 f_96 f_102 zburdens_76 f_97 f_98 f_95 f_94 f_first f_second f_plans f_tiredOn) H → va_D A (wSP cy hs q_40 q_41 q_42 q_43 v_tape_size v_band_walkers v_band_loads v_band_pieces v_rules_clauses v_reader_end v_reader_at v_reader_length v_reader_letter v_reader_fault v_draft_clauses v_paces_version v_packing_quicker v_packing_loads v_packing_looseCount v_marches_told v_marches_changeMinutes v_marches_marching v_marches_gone v_search_known w_44 w_105 cc0 mm v_search_found f_bytes f_knee f_weight f_limps f_bheft f_owner f_food f_miles f_slope f_rsteps f_rkind f_ryields f_rholds f_99 f_100 f_dsteps f_dkind f_dyields f_dholds f_dletters f_dstack f_caps f_versions f_sharing f_pheft f_prow f_holder f_comes f_pcaps f_room f_loose f_reached f_mrow f_minutesOn f_mtired f_28 f_103 f_34 f_101 f_96 f_102 zburdens_76 f_97 f_98 f_95 f_94 f_first f_second f_plans f_tiredOn) → va_S A s.heap H locs → lv_has ls 7 [(6, .int l_104), (3, .long n_73), (5, .int l_39), (0, .ref (hs 62)), (1, .int cc0), (2, .int mm)] → W p l e (gRm 6) s m args below meth c H locs 0 0 Q (F0 m 92 ls []) := by
            intro n
            induction n with
            | zero => intro f_94 f_95 f_96 f_97 f_98 f_99 f_100 f_101 f_102 f_103 l_104 w_105 hL92_106_0 hL92_106_1 hL92_106_2 hL92_106_3 hL92_106_4 hL92_106_5 hL92_106_6 hL92_106_7 hL92_106_8 hm; exact absurd hm (by omega)
            | succ n ih92_106 =>
              intro f_94 f_95 f_96 f_97 f_98 f_99 f_100 f_101 f_102 f_103 l_104 w_105 hL92_106_0 hL92_106_1 hL92_106_2 hL92_106_3 hL92_106_4 hL92_106_5 hL92_106_6 hL92_106_7 hL92_106_8 hmL92_106 H locs ls hP hD hS hl
              refine lv_iload hx hb dX7_solve_92 (lv_at hl 0 rfl) ?_
              refine lv_aload_n hx hb dX7_solve_94 rfl (lv_at hl 3 rfl) ?_
              refine gt_SP_search_countHere hx hb hts hown hK hP lwd_1045 dX7_solve_95 ?_
              refine lv_icmp_ge (tgt := 121) hx hb dX7_solve_98 (by decide) (fun c_107 => ?_) (fun c_107 => ?_)
              · have gc_107 : w_44.toInt ≤ l_104.toInt := i_le (rfl : w_44.toInt = w_44.toInt) (rfl : l_104.toInt = l_104.toInt) c_107
                skip
                refine lv_aload_n hx hb dX7_solve_121 rfl (lv_at hl 3 rfl) ?_
                refine xv hD hS hA (xV (As := []) (rest := []) hx hb hml hown hts hK hP hD hS hA NS_ok hN hAe hl.1 ⟨Nat.le_refl _, Nat.le_refl _⟩ 62 rfl rfl rfl (c_X7_turnOver l D cy hs q_40 q_41 q_42 q_43 v_tape_size v_band_walkers v_band_loads v_band_pieces v_rules_clauses v_reader_end v_reader_at v_reader_length v_reader_letter v_reader_fault v_draft_clauses v_paces_version v_packing_quicker v_packing_loads v_packing_looseCount v_marches_told v_marches_changeMinutes v_marches_marching v_marches_gone v_search_known w_44 w_105 cc0 mm v_search_found f_bytes f_knee f_weight f_limps f_bheft f_owner f_food f_miles f_slope f_rsteps f_rkind f_ryields f_rholds f_99 f_100 f_dsteps f_dkind f_dyields f_dholds f_dletters f_dstack f_caps f_versions f_sharing f_pheft f_prow f_holder f_comes f_pcaps f_room f_loose f_reached f_mrow f_minutesOn f_mtired f_28 f_103 f_34 f_101 f_96 f_102 zburdens_76 f_97 f_98 f_95 f_94 f_first f_second f_plans f_tiredOn tS H.size (by omega) (by omega) hL60_46_4 hL92_106_4 hL92_106_1 hL92_106_8) (gi_V lwd_1087 lwd_1088 lwd_1089 lwd_42 lwd_1090) ⟨rfl, hd_X7_turnOver⟩ ⟨Nat.le_of_ble_eq_true rfl, Nat.le_of_ble_eq_true rfl⟩ rfl (Nat.le_of_ble_eq_true rfl) dX7_solve_122) (fun u_108 H locs hw hP hD hS => ?_)
                obtain ⟨zsearch_countHere_110, zhere_111, zthere_112, zstatesHere_113, zstatesThere_114, zlisted_115, zhH_116, zhT_117, zsH_118, zsT_119⟩ := u_108
                try dsimp only at hw hP hD
                obtain ⟨p_120, p_121, p_122, p_123, p_124⟩ := hw
                obtain ⟨n_125, en_125⟩ : ∃ y : Int32, y = l_39 + 1 := ⟨_, rfl⟩
                have tn_125 : n_125.toInt = l_39.toInt + 1 := i_add en_125 (rfl : l_39.toInt = l_39.toInt) (by decide : (1 : Int32).toInt = 1) (by omega) (by omega)
                refine lv_iinc (v := n_125) (lv' := [(5, .int n_125), (6, .int l_104), (3, .long n_73), (0, .ref (hs 62)), (1, .int cc0), (2, .int mm)]) hx hb dX7_solve_125 hl (k := 2) rfl (by rw [en_125]; rfl) (by decide) rfl (fun ls hl => ?_)
                refine lv_goto (tgt := 60) hx hb dX7_solve_128 (by decide) ?_
                exact ih60_46 f_94 f_95 zburdens_76 zhere_111 zlisted_115 f_97 f_98 f_99 f_100 zstatesHere_113 zstatesThere_114 f_102 zthere_112 n_73 n_125 zhH_116 zhT_117 zsH_118 zsT_119 zsearch_countHere_110 w_105 hL92_106_0 p_124 hL92_106_2 hL92_106_3 p_122 p_123 hL92_106_5 (by omega) (by omega) (by omega) p_120 (by omega) _ _ _ hP hD hS (lv_sub hl [0, 2, 3, 4, 5] rfl)
              · have gc_107 : l_104.toInt < w_44.toInt := i_nle (rfl : w_44.toInt = w_44.toInt) (rfl : l_104.toInt = l_104.toInt) c_107
                skip
                refine lv_aload_n hx hb dX7_solve_101 rfl (lv_at hl 3 rfl) ?_
                refine lv_iload hx hb dX7_solve_102 (lv_at hl 2 rfl) ?_
                refine lv_aload_n hx hb dX7_solve_104 rfl (lv_at hl 3 rfl) ?_
                refine gt_SP_search_statesHere hx hb hts hown hK hP lwd_125 dX7_solve_105 ?_
                refine lv_iload hx hb dX7_solve_108 (lv_at hl 0 rfl) ?_
                refine al_statesHere hx hb hK hP hL60_46_4 (i_in (rfl : l_104.toInt = l_104.toInt) (by omega) (by omega)) dX7_solve_110 (fun n_126 en_126 bn_126 => ?_)
                refine lv_lload_n hx hb dX7_solve_111 rfl (lv_at hl 1 rfl) ?_
                refine xv hD hS hA (xV (As := [.int l_39, .int n_126, .long n_73]) (rest := []) hx hb hml hown hts hK hP hD hS hA NS_ok hN hAe hl.1 ⟨Nat.le_refl _, Nat.le_refl _⟩ 62 rfl rfl rfl (c_X7_spread l D cy hs q_40 q_41 q_42 q_43 v_tape_size v_band_walkers v_band_loads v_band_pieces v_rules_clauses v_reader_end v_reader_at v_reader_length v_reader_letter v_reader_fault v_draft_clauses v_paces_version v_packing_quicker v_packing_loads v_packing_looseCount v_marches_told v_marches_changeMinutes v_marches_marching v_marches_gone v_search_known w_44 w_105 cc0 mm v_search_found f_bytes f_knee f_weight f_limps f_bheft f_owner f_food f_miles f_slope f_rsteps f_rkind f_ryields f_rholds f_99 f_100 f_dsteps f_dkind f_dyields f_dholds f_dletters f_dstack f_caps f_versions f_sharing f_pheft f_prow f_holder f_comes f_pcaps f_room f_loose f_reached f_mrow f_minutesOn f_mtired f_28 f_103 f_34 f_101 f_96 f_102 zburdens_76 f_97 f_98 f_95 f_94 f_first f_second f_plans f_tiredOn tS H.size l_39 n_126 n_73 (by omega) (by omega) (by omega) (by omega) hr_weight hr_limps hr_miles hL92_106_4 hL92_106_1 hL92_106_5 hL92_106_2 hL92_106_3 hL92_106_0 (by omega) (by omega) (by omega) hL92_106_8) (gi_V lwd_1062 lwd_1063 lwd_1064 lwd_42 lwd_1065) ⟨rfl, hd_X7_spread⟩ ⟨Nat.le_of_ble_eq_true rfl, Nat.le_of_ble_eq_true rfl⟩ rfl (Nat.le_of_ble_eq_true rfl) dX7_solve_112) (fun u_127 H locs hw hP hD hS => ?_)
                obtain ⟨zsearch_countThere_129, zrletters_130, zrstack_131, zthere_132, zstatesThere_133, zlisted_134, zstired_135, zpacesOn_136, zrestedOn_137, zbehindOn_138, zbehindFor_139⟩ := u_127
                try dsimp only at hw hP hD
                obtain ⟨p_140, p_141, p_142, p_143, p_144, p_145, p_146, p_147⟩ := hw
                obtain ⟨n_148, en_148⟩ : ∃ y : Int32, y = l_104 + 1 := ⟨_, rfl⟩
                have tn_148 : n_148.toInt = l_104.toInt + 1 := i_add en_148 (rfl : l_104.toInt = l_104.toInt) (by decide : (1 : Int32).toInt = 1) (by omega) (by omega)
                refine lv_iinc (v := n_148) (lv' := [(6, .int n_148), (3, .long n_73), (5, .int l_39), (0, .ref (hs 62)), (1, .int cc0), (2, .int mm)]) hx hb dX7_solve_115 hl (k := 0) rfl (by rw [en_148]; rfl) (by decide) rfl (fun ls hl => ?_)
                refine lv_goto (tgt := 92) hx hb dX7_solve_118 (by decide) ?_
                exact ih92_106 zbehindFor_139 zbehindOn_138 zlisted_134 zpacesOn_136 zrestedOn_137 zrletters_130 zrstack_131 zstatesThere_133 zstired_135 zthere_132 n_148 zsearch_countThere_129 p_147 p_143 p_145 p_146 p_142 p_144 (by omega) (by omega) p_140 (by omega) _ _ _ hP hD hS (lv_sub hl [0, 1, 2, 3, 4, 5] rfl)
          have k_149 : (0 : Int32).toInt = 0 := by decide
          have k_150 : (0 : Int32).toInt = 0 := by decide
          exact L92_106 8589934592 zbehindFor_79 f_26 f_29 zpacesOn_77 zrestedOn_78 f_32 f_33 f_35 f_36 f_37 0 0 hL60_46_0 hL60_46_1 p_80 p_81 hL60_46_5 hL60_46_6 (by omega) (by omega) (LI_0 hL60_46_10 (by decide)) (by omega) _ _ _ hP hD hS (lv_sub hl [0, 1, 2, 3, 4, 5] rfl)
    have k_151 : (3570467226624 : Int64).toInt = 3570467226624 := by decide
    have k_152 : (0 : Int32).toInt = 0 := by decide
    have k_153 : (1 : Int32).toInt = 1 := by decide
    exact L60_46 8589934592 f_behindFor f_behindOn f_burdens f_2 f_listed f_pacesOn f_restedOn f_rletters f_rstack f_3 f_statesThere f_stired f_there 3570467226624 0 hH hT sH sT 1 v_search_countThere hr_behindOn hr_listed hr_pacesOn hr_restedOn rf_3 hr_statesThere hr_stired (by omega) (by omega) (by omega) hZ (by omega) _ _ _ hP hD hS (lv_sub hl [0, 1, 2, 3, 4] rfl)
  · have gc_1 : v_search_known.toInt ≠ 0 := i_ne (rfl : v_search_known.toInt = v_search_known.toInt) (by decide : (0 : Int32).toInt = 0) c_1
    refine lv_aload_n hx hb dX7_solve_7 rfl (lv_at hl 0 rfl) ?_
    refine gt_SP_search_cost hx hb hts hown hK hP lwd_1043 dX7_solve_8 ?_
    refine lv_iload_n hx hb dX7_solve_11 rfl (lv_at hl 1 rfl) ?_
    refine lv_icmp_ne (tgt := 24) hx hb dX7_solve_12 (by decide) (fun c_154 => ?_) (fun c_154 => ?_)
    · have gc_154 : v_search_cost.toInt ≠ cc0.toInt := i_ne (rfl : v_search_cost.toInt = v_search_cost.toInt) (rfl : cc0.toInt = cc0.toInt) c_154
      refine lv_aload_n hx hb dX7_solve_24 rfl (lv_at hl 0 rfl) ?_
      refine lv_iload_n hx hb dX7_solve_25 rfl (lv_at hl 1 rfl) ?_
      refine pt_SP_search_cost (x := cc0) hx hb hts hown hK hP hD hS lwd_1043 dX7_solve_26 (fun H locs hP hD hS => ?_)
      refine lv_aload_n hx hb dX7_solve_29 rfl (lv_at hl 0 rfl) ?_
      refine lv_iload_n hx hb dX7_solve_30 rfl (lv_at hl 2 rfl) ?_
      refine pt_SP_search_most (x := mm) hx hb hts hown hK hP hD hS lwd_1044 dX7_solve_31 (fun H locs hP hD hS => ?_)
      refine lv_aload_n hx hb dX7_solve_34 rfl (lv_at hl 0 rfl) ?_
      refine gt_SP_search_here hx hb hts hown hK hP lwd_123 dX7_solve_35 ?_
      refine lv_iconst (v := 0) hx hb dX7_solve_38 (by decide) ?_
      refine lv_lconst (v := 0) hx hb dX7_solve_39 (by decide) ?_
      refine as_here (x := 0) hx hb hK hP hD hS (i_in (by decide : (0 : Int32).toInt = 0) (by decide) (by decide)) dX7_solve_40 (fun f_155 ef_155 H locs hP hD hS => ?_)
      refine lv_aload_n hx hb dX7_solve_41 rfl (lv_at hl 0 rfl) ?_
      refine gt_SP_search_statesHere hx hb hts hown hK hP lwd_125 dX7_solve_42 ?_
      refine lv_iconst (v := 0) hx hb dX7_solve_45 (by decide) ?_
      refine lv_iconst (v := 0) hx hb dX7_solve_46 (by decide) ?_
      refine as_statesHere (x := 0) hx hb hK hP hD hS hr_statesHere (i_in (by decide : (0 : Int32).toInt = 0) (by decide) (by decide)) (by decide) dX7_solve_47 (fun f_156 ef_156 rf_156 H locs hP hD hS => ?_)
      refine lv_aload_n hx hb dX7_solve_48 rfl (lv_at hl 0 rfl) ?_
      refine lv_iconst (v := 1) hx hb dX7_solve_49 (by decide) ?_
      refine pt_SP_search_countHere (x := 1) hx hb hts hown hK hP hD hS lwd_1045 dX7_solve_50 (fun H locs hP hD hS => ?_)
      refine lv_ldc2 hx hb hown (hts _ lwd_1046) dX7_solve_53 ?_
      refine lv_lstore_n (lv' := [(3, .long 3570467226624), (0, .ref (hs 62)), (1, .int cc0), (2, .int mm)]) hx hb dX7_solve_56 rfl hl (by decide) rfl (fun ls hl => ?_)
      refine lv_iconst (v := 0) hx hb dX7_solve_57 (by decide) ?_
      refine lv_istore (lv' := [(5, .int 0), (3, .long 3570467226624), (0, .ref (hs 62)), (1, .int cc0), (2, .int mm)]) hx hb dX7_solve_58 hl (by decide) rfl (fun ls hl => ?_)
      have L60_199 : ∀ (n : Nat) (f_178 : Nat → Int32) (f_179 : Nat → Int32) (f_180 : Nat → Int32) (f_181 : Nat → Int64) (f_182 : Nat → Int32) (f_183 : Nat → Int32) (f_184 : Nat → Int32) (f_185 : Nat → Int32) (f_186 : Nat → Int32) (f_187 : Nat → Int32) (f_188 : Nat → Int32) (f_189 : Nat → Int32) (f_190 : Nat → Int64) (l_191 : Int64) (l_192 : Int32) (q_193 : Nat) (q_194 : Nat) (q_195 : Nat) (q_196 : Nat) (w_197 : Int32) (w_198 : Int32), (rg (0) 5 f_179) → (rg (0) 1 f_182) → (rg (-1) 60 f_183) → (rg (-1) 5 f_184) → (rg (0) 1295 f_187) → (rg (0) 1295 f_188) → (rg (0) 5 f_189) → (0 ≤ l_192.toInt ∧ l_192.toInt ≤ 10) → (0 ≤ w_197.toInt ∧ w_197.toInt ≤ 1296) → (0 ≤ w_198.toInt ∧ w_198.toInt ≤ 1296) → (∀ b : Nat, b < 1296 → (f_182 b).toInt = 0) → 11 - l_192.toInt < n → ∀ (H : Heap) (locs : List Loc) (ls : Array Slot), va_P D vwCl (wSP cy hs q_193 q_194 q_195 q_196 v_tape_size v_band_walkers v_band_loads v_band_pieces v_rules_clauses v_reader_end v_reader_at v_reader_length v_reader_letter v_reader_fault v_draft_clauses v_paces_version v_packing_quicker v_packing_loads v_packing_looseCount v_marches_told v_marches_changeMinutes v_marches_marching v_marches_gone v_search_known w_197 w_198 cc0 mm v_search_found f_bytes f_knee f_weight f_limps f_bheft f_owner f_food f_miles f_slope f_rsteps f_rkind f_ryields f_rholds f_185 f_186 f_dsteps f_dkind f_dyields f_dholds f_dletters f_dstack f_caps f_versions f_sharing f_pheft f_prow f_holder f_comes f_pcaps f_room f_loose f_reached f_mrow f_minutesOn f_mtired f_181 f_190 f_187 f_188 f_182 f_189 f_180 f_183 f_184 f_179 f_178 f_first f_second f_plans f_tiredOn) H → va_D A (wSP cy hs q_193 q_194 q_195 q_196 v_tape_size v_band_walkers v_band_loads v_band_pieces v_rules_clauses v_reader_end v_reader_at v_reader_length v_reader_letter v_reader_fault v_draft_clauses v_paces_version v_packing_quicker v_packing_loads v_packing_looseCount v_marches_told v_marches_changeMinutes v_marches_marching v_marches_gone v_search_known w_197 w_198 cc0 mm v_search_found f_bytes f_knee f_weight f_limps f_bheft f_owner f_food f_miles f_slope f_rsteps f_rkind f_ryields f_rholds f_185 f_186 f_dsteps f_dkind f_dyields f_dholds f_dletters f_dstack f_caps f_versions f_sharing f_pheft f_prow f_holder f_comes f_pcaps f_room f_loose f_reached f_mrow f_minutesOn f_mtired f_181 f_190 f_187 f_188 f_182 f_189 f_180 f_183 f_184 f_179 f_178 f_first f_second f_plans f_tiredOn) → va_S A s.heap H locs → lv_has ls 7 [(5, .int l_192), (3, .long l_191), (0, .ref (hs 62)), (1, .int cc0), (2, .int mm)] → W p l e (gRm 6) s m args below meth c H locs 0 0 Q (F0 m 60 ls []) := by
        intro n
        induction n with
        | zero => intro f_178 f_179 f_180 f_181 f_182 f_183 f_184 f_185 f_186 f_187 f_188 f_189 f_190 l_191 l_192 q_193 q_194 q_195 q_196 w_197 w_198 hL60_199_0 hL60_199_1 hL60_199_2 hL60_199_3 hL60_199_4 hL60_199_5 hL60_199_6 hL60_199_7 hL60_199_8 hL60_199_9 hL60_199_10 hm; exact absurd hm (by omega)
        | succ n ih60_199 =>
          intro f_178 f_179 f_180 f_181 f_182 f_183 f_184 f_185 f_186 f_187 f_188 f_189 f_190 l_191 l_192 q_193 q_194 q_195 q_196 w_197 w_198 hL60_199_0 hL60_199_1 hL60_199_2 hL60_199_3 hL60_199_4 hL60_199_5 hL60_199_6 hL60_199_7 hL60_199_8 hL60_199_9 hL60_199_10 hmL60_199 H locs ls hP hD hS hl
          refine lv_iload hx hb dX7_solve_60 (lv_at hl 0 rfl) ?_
          refine lv_aload_n hx hb dX7_solve_62 rfl (lv_at hl 2 rfl) ?_
          refine gt_SP_search_band hx hb hts hown hK hP lwd_134 dX7_solve_63 ?_
          refine gt_SP_band_pieces hx hb hts hown hK hP lwd_1047 dX7_solve_66 ?_
          refine lv_icmp_ge (tgt := 131) hx hb dX7_solve_69 (by decide) (fun c_200 => ?_) (fun c_200 => ?_)
          · have gc_200 : v_band_pieces.toInt ≤ l_192.toInt := i_le (rfl : v_band_pieces.toInt = v_band_pieces.toInt) (rfl : l_192.toInt = l_192.toInt) c_200
            skip
            refine lv_aload_n hx hb dX7_solve_131 rfl (lv_at hl 2 rfl) ?_
            refine lv_ldc2 hx hb hown (hts _ lwd_137) dX7_solve_132 ?_
            refine pt_SP_search_found (x := 4611686018427387904) hx hb hts hown hK hP hD hS lwd_1050 dX7_solve_135 (fun H locs hP hD hS => ?_)
            refine lv_iconst (v := 0) hx hb dX7_solve_138 (by decide) ?_
            refine lv_istore (lv' := [(5, .int 0), (3, .long l_191), (0, .ref (hs 62)), (1, .int cc0), (2, .int mm)]) hx hb dX7_solve_139 hl (by decide) rfl (fun ls hl => ?_)
            have L141_207 : ∀ (n : Nat) (f_204 : Nat → Int64) (l_205 : Int32) (w_206 : Int64), (0 ≤ l_205.toInt ∧ l_205.toInt ≤ 1296) → 1297 - l_205.toInt < n → ∀ (H : Heap) (locs : List Loc) (ls : Array Slot), va_P D vwCl (wSP cy hs q_193 q_194 q_195 q_196 v_tape_size v_band_walkers v_band_loads v_band_pieces v_rules_clauses v_reader_end v_reader_at v_reader_length v_reader_letter v_reader_fault v_draft_clauses v_paces_version v_packing_quicker v_packing_loads v_packing_looseCount v_marches_told v_marches_changeMinutes v_marches_marching v_marches_gone v_search_known w_197 w_198 cc0 mm w_206 f_bytes f_knee f_weight f_limps f_bheft f_owner f_food f_miles f_slope f_rsteps f_rkind f_ryields f_rholds f_185 f_186 f_dsteps f_dkind f_dyields f_dholds f_dletters f_dstack f_caps f_versions f_sharing f_pheft f_prow f_holder f_comes f_pcaps f_room f_loose f_reached f_mrow f_minutesOn f_mtired f_204 f_190 f_187 f_188 f_182 f_189 f_180 f_183 f_184 f_179 f_178 f_first f_second f_plans f_tiredOn) H → va_D A (wSP cy hs q_193 q_194 q_195 q_196 v_tape_size v_band_walkers v_band_loads v_band_pieces v_rules_clauses v_reader_end v_reader_at v_reader_length v_reader_letter v_reader_fault v_draft_clauses v_paces_version v_packing_quicker v_packing_loads v_packing_looseCount v_marches_told v_marches_changeMinutes v_marches_marching v_marches_gone v_search_known w_197 w_198 cc0 mm w_206 f_bytes f_knee f_weight f_limps f_bheft f_owner f_food f_miles f_slope f_rsteps f_rkind f_ryields f_rholds f_185 f_186 f_dsteps f_dkind f_dyields f_dholds f_dletters f_dstack f_caps f_versions f_sharing f_pheft f_prow f_holder f_comes f_pcaps f_room f_loose f_reached f_mrow f_minutesOn f_mtired f_204 f_190 f_187 f_188 f_182 f_189 f_180 f_183 f_184 f_179 f_178 f_first f_second f_plans f_tiredOn) → va_S A s.heap H locs → lv_has ls 7 [(5, .int l_205), (3, .long l_191), (0, .ref (hs 62)), (1, .int cc0), (2, .int mm)] → W p l e (gRm 6) s m args below meth c H locs 0 0 Q (F0 m 141 ls []) := by
              intro n
              induction n with
              | zero => intro f_204 l_205 w_206 hL141_207_0 hm; exact absurd hm (by omega)
              | succ n ih141_207 =>
                intro f_204 l_205 w_206 hL141_207_0 hmL141_207 H locs ls hP hD hS hl
                refine lv_iload hx hb dX7_solve_141 (lv_at hl 0 rfl) ?_
                refine lv_aload_n hx hb dX7_solve_143 rfl (lv_at hl 2 rfl) ?_
                refine gt_SP_search_countHere hx hb hts hown hK hP lwd_1045 dX7_solve_144 ?_
                refine lv_icmp_ge (tgt := 212) hx hb dX7_solve_147 (by decide) (fun c_208 => ?_) (fun c_208 => ?_)
                · have gc_208 : w_197.toInt ≤ l_205.toInt := i_le (rfl : w_197.toInt = w_197.toInt) (rfl : l_205.toInt = l_205.toInt) c_208
                  refine lv_aload_n hx hb dX7_solve_212 rfl (lv_at hl 2 rfl) ?_
                  refine lv_iconst (v := 1) hx hb dX7_solve_213 (by decide) ?_
                  refine pt_SP_search_known (x := 1) hx hb hts hown hK hP hD hS lwd_1042 (by decide) dX7_solve_214 (fun H locs hP hD hS => ?_)
                  have k_209 : (1 : Int32).toInt = 1 := by decide
                  exact hrt 1 w_197 w_198 cc0 mm w_206 f_185 f_186 f_204 f_190 f_187 f_188 f_182 f_189 f_180 f_183 f_184 f_179 f_178 q_193 q_194 q_195 q_196 ⟨hL60_199_10, (by omega), (by omega), (by omega), (by omega), hL60_199_4, hL60_199_5, hL60_199_1, hL60_199_6, hL60_199_2, hL60_199_3, hL60_199_0⟩ hP hD hS dX7_solve_217
                · have gc_208 : l_205.toInt < w_197.toInt := i_nle (rfl : w_197.toInt = w_197.toInt) (rfl : l_205.toInt = l_205.toInt) c_208
                  refine lv_aload_n hx hb dX7_solve_150 rfl (lv_at hl 2 rfl) ?_
                  refine gt_SP_search_statesHere hx hb hts hown hK hP lwd_125 dX7_solve_151 ?_
                  refine lv_iload hx hb dX7_solve_154 (lv_at hl 0 rfl) ?_
                  refine al_statesHere hx hb hK hP hL60_199_4 (i_in (rfl : l_205.toInt = l_205.toInt) (by omega) (by omega)) dX7_solve_156 (fun n_210 en_210 bn_210 => ?_)
                  refine lv_istore (lv' := [(6, .int n_210), (5, .int l_205), (3, .long l_191), (0, .ref (hs 62)), (1, .int cc0), (2, .int mm)]) hx hb dX7_solve_157 hl (by decide) rfl (fun ls hl => ?_)
                  have L159_217 : ∀ (n : Nat) (f_214 : Nat → Int64) (l_215 : Int32) (w_216 : Int64), (0 ≤ l_215.toInt ∧ l_215.toInt ≤ 32400) → 32401 - l_215.toInt < n → ∀ (H : Heap) (locs : List Loc) (ls : Array Slot), va_P D vwCl (wSP cy hs q_193 q_194 q_195 q_196 v_tape_size v_band_walkers v_band_loads v_band_pieces v_rules_clauses v_reader_end v_reader_at v_reader_length v_reader_letter v_reader_fault v_draft_clauses v_paces_version v_packing_quicker v_packing_loads v_packing_looseCount v_marches_told v_marches_changeMinutes v_marches_marching v_marches_gone v_search_known w_197 w_198 cc0 mm w_216 f_bytes f_knee f_weight f_limps f_bheft f_owner f_food f_miles f_slope f_rsteps f_rkind f_ryields f_rholds f_185 f_186 f_dsteps f_dkind f_dyields f_dholds f_dletters f_dstack f_caps f_versions f_sharing f_pheft f_prow f_holder f_comes f_pcaps f_room f_loose f_reached f_mrow f_minutesOn f_mtired f_214 f_190 f_187 f_188 f_182 f_189 f_180 f_183 f_184 f_179 f_178 f_first f_second f_plans f_tiredOn) H → va_D A (wSP cy hs q_193 q_194 q_195 q_196 v_tape_size v_band_walkers v_band_loads v_band_pieces v_rules_clauses v_reader_end v_reader_at v_reader_length v_reader_letter v_reader_fault v_draft_clauses v_paces_version v_packing_quicker v_packing_loads v_packing_looseCount v_marches_told v_marches_changeMinutes v_marches_marching v_marches_gone v_search_known w_197 w_198 cc0 mm w_216 f_bytes f_knee f_weight f_limps f_bheft f_owner f_food f_miles f_slope f_rsteps f_rkind f_ryields f_rholds f_185 f_186 f_dsteps f_dkind f_dyields f_dholds f_dletters f_dstack f_caps f_versions f_sharing f_pheft f_prow f_holder f_comes f_pcaps f_room f_loose f_reached f_mrow f_minutesOn f_mtired f_214 f_190 f_187 f_188 f_182 f_189 f_180 f_183 f_184 f_179 f_178 f_first f_second f_plans f_tiredOn) → va_S A s.heap H locs → lv_has ls 7 [(6, .int l_215), (5, .int l_205), (3, .long l_191), (0, .ref (hs 62)), (1, .int cc0), (2, .int mm)] → W p l e (gRm 6) s m args below meth c H locs 0 0 Q (F0 m 159 ls []) := by
                    intro n
                    induction n with
                    | zero => intro f_214 l_215 w_216 hL159_217_0 hm; exact absurd hm (by omega)
                    | succ n ih159_217 =>
                      intro f_214 l_215 w_216 hL159_217_0 hmL159_217 H locs ls hP hD hS hl
                      refine lv_iload hx hb dX7_solve_159 (lv_at hl 0 rfl) ?_
                      refine lv_aload_n hx hb dX7_solve_161 rfl (lv_at hl 3 rfl) ?_
                      refine gt_SP_search_here hx hb hts hown hK hP lwd_123 dX7_solve_162 ?_
                      refine ln_here hx hb hK hP dX7_solve_165 ?_
                      refine lv_icmp_ge (tgt := 206) hx hb dX7_solve_166 (by decide) (fun c_218 => ?_) (fun c_218 => ?_)
                      · have gc_218 : 31104 ≤ l_215.toInt := i_le (by decide : (31104 : Int32).toInt = 31104) (rfl : l_215.toInt = l_215.toInt) c_218
                        obtain ⟨n_219, en_219⟩ : ∃ y : Int32, y = l_205 + 1 := ⟨_, rfl⟩
                        have tn_219 : n_219.toInt = l_205.toInt + 1 := i_add en_219 (rfl : l_205.toInt = l_205.toInt) (by decide : (1 : Int32).toInt = 1) (by omega) (by omega)
                        refine lv_iinc (v := n_219) (lv' := [(5, .int n_219), (6, .int l_215), (3, .long l_191), (0, .ref (hs 62)), (1, .int cc0), (2, .int mm)]) hx hb dX7_solve_206 hl (k := 1) rfl (by rw [en_219]; rfl) (by decide) rfl (fun ls hl => ?_)
                        refine lv_goto (tgt := 141) hx hb dX7_solve_209 (by decide) ?_
                        exact ih141_207 f_214 n_219 w_216 (by omega) (by omega) _ _ _ hP hD hS (lv_sub hl [0, 2, 3, 4, 5] rfl)
                      · have gc_218 : l_215.toInt < 31104 := i_nle (by decide : (31104 : Int32).toInt = 31104) (rfl : l_215.toInt = l_215.toInt) c_218
                        refine lv_aload_n hx hb dX7_solve_169 rfl (lv_at hl 3 rfl) ?_
                        refine lv_aload_n hx hb dX7_solve_170 rfl (lv_at hl 3 rfl) ?_
                        refine gt_SP_search_found hx hb hts hown hK hP lwd_1050 dX7_solve_171 ?_
                        refine lv_aload_n hx hb dX7_solve_174 rfl (lv_at hl 3 rfl) ?_
                        refine gt_SP_search_here hx hb hts hown hK hP lwd_123 dX7_solve_175 ?_
                        refine lv_iload hx hb dX7_solve_178 (lv_at hl 0 rfl) ?_
                        refine al_here hx hb hK hP (i_in (rfl : l_215.toInt = l_215.toInt) (by omega) (by omega)) dX7_solve_180 (fun n_220 en_220 => ?_)
                        refine va_mmin_long hx hb (by rw [hml]; exact hl.1.symm) hown (hts _ lwd_1051) (hts _ lwd_1052) (hts _ lwd_529) (hts _ lwd_1053) (Nat.le_of_ble_eq_true rfl) (Nat.le_of_ble_eq_true rfl) (Nat.zero_le _) (Nat.zero_le _) dX7_solve_181 ?_
                        refine lv_topl (fun n_221 en_221 => ?_)
                        refine pt_SP_search_found (x := n_221) hx hb hts hown hK hP hD hS lwd_1050 dX7_solve_184 (fun H locs hP hD hS => ?_)
                        refine lv_aload_n hx hb dX7_solve_187 rfl (lv_at hl 3 rfl) ?_
                        refine gt_SP_search_here hx hb hts hown hK hP lwd_123 dX7_solve_188 ?_
                        refine lv_iload hx hb dX7_solve_191 (lv_at hl 0 rfl) ?_
                        refine lv_ldc2 hx hb hown (hts _ lwd_137) dX7_solve_193 ?_
                        refine as_here (x := 4611686018427387904) hx hb hK hP hD hS (i_in (rfl : l_215.toInt = l_215.toInt) (by omega) (by omega)) dX7_solve_196 (fun f_222 ef_222 H locs hP hD hS => ?_)
                        obtain ⟨n_223, en_223⟩ : ∃ y : Int32, y = l_215 + 1296 := ⟨_, rfl⟩
                        have tn_223 : n_223.toInt = l_215.toInt + 1296 := i_add en_223 (rfl : l_215.toInt = l_215.toInt) (by decide : (1296 : Int32).toInt = 1296) (by omega) (by omega)
                        refine lv_iincW (v := n_223) (lv' := [(6, .int n_223), (5, .int l_205), (3, .long l_191), (0, .ref (hs 62)), (1, .int cc0), (2, .int mm)]) hx hb dX7_solve_197 hl (k := 0) rfl (by rw [en_223]; rfl) (by decide) rfl (fun ls hl => ?_)
                        refine lv_goto (tgt := 159) hx hb dX7_solve_203 (by decide) ?_
                        exact ih159_217 f_222 n_223 n_221 (by omega) (by omega) _ _ _ hP hD hS (lv_sub hl [0, 1, 2, 3, 4, 5] rfl)
                  exact L159_217 8589934592 f_204 n_210 w_206 (by omega) (by omega) _ _ _ hP hD hS (lv_sub hl [0, 1, 2, 3, 4, 5] rfl)
            have k_224 : (0 : Int32).toInt = 0 := by decide
            have k_225 : (4611686018427387904 : Int64).toInt = 4611686018427387904 := by decide
            exact L141_207 8589934592 f_181 0 4611686018427387904 (by omega) (by omega) _ _ _ hP hD hS (lv_sub hl [0, 1, 2, 3, 4] rfl)
          · have gc_200 : l_192.toInt < v_band_pieces.toInt := i_nle (rfl : v_band_pieces.toInt = v_band_pieces.toInt) (rfl : l_192.toInt = l_192.toInt) c_200
            skip
            refine lv_lload_n hx hb dX7_solve_72 rfl (lv_at hl 1 rfl) ?_
            refine lv_ldc2 hx hb hown (hts _ lwd_1048) dX7_solve_73 ?_
            refine lv_ldiv hx hb dX7_solve_76 (by decide) ?_
            refine lv_topl (fun n_226 en_226 => ?_)
            refine lv_lstore_n (lv' := [(3, .long n_226), (5, .int l_192), (0, .ref (hs 62)), (1, .int cc0), (2, .int mm)]) hx hb dX7_solve_77 rfl hl (by decide) rfl (fun ls hl => ?_)
            refine lv_aload_n hx hb dX7_solve_78 rfl (lv_at hl 2 rfl) ?_
            refine lv_iload hx hb dX7_solve_79 (lv_at hl 1 rfl) ?_
            refine xv hD hS hA (xV (As := [.int l_192]) (rest := []) hx hb hml hown hts hK hP hD hS hA NS_ok hN hAe hl.1 ⟨Nat.le_refl _, Nat.le_refl _⟩ 62 rfl rfl rfl (c_X7_weigh l D cy hs q_193 q_194 q_195 q_196 v_tape_size v_band_walkers v_band_loads v_band_pieces v_rules_clauses v_reader_end v_reader_at v_reader_length v_reader_letter v_reader_fault v_draft_clauses v_paces_version v_packing_quicker v_packing_loads v_packing_looseCount v_marches_told v_marches_changeMinutes v_marches_marching v_marches_gone v_search_known w_197 w_198 cc0 mm v_search_found f_bytes f_knee f_weight f_limps f_bheft f_owner f_food f_miles f_slope f_rsteps f_rkind f_ryields f_rholds f_185 f_186 f_dsteps f_dkind f_dyields f_dholds f_dletters f_dstack f_caps f_versions f_sharing f_pheft f_prow f_holder f_comes f_pcaps f_room f_loose f_reached f_mrow f_minutesOn f_mtired f_181 f_190 f_187 f_188 f_182 f_189 f_180 f_183 f_184 f_179 f_178 f_first f_second f_plans f_tiredOn tS H.size l_192 (by omega) (by omega) hr_bheft hr_food hL60_199_2 hL60_199_3 (by omega) (by omega)) (gi_V lwd_1054 lwd_1055 lwd_1056 lwd_42 lwd_1057) ⟨rfl, hd_X7_weigh⟩ ⟨Nat.le_of_ble_eq_true rfl, Nat.le_of_ble_eq_true rfl⟩ rfl (Nat.le_of_ble_eq_true rfl) dX7_solve_81) (fun u_227 H locs hw hP hD hS => ?_)
            obtain ⟨zburdens_229, zpacesOn_230, zrestedOn_231, zbehindFor_232⟩ := u_227
            try dsimp only at hw hP hD
            obtain ⟨p_233, p_234⟩ := hw
            refine lv_aload_n hx hb dX7_solve_84 rfl (lv_at hl 2 rfl) ?_
            refine lv_iconst (v := 0) hx hb dX7_solve_85 (by decide) ?_
            refine pt_SP_search_countThere (x := 0) hx hb hts hown hK hP hD hS lwd_1049 dX7_solve_86 (fun H locs hP hD hS => ?_)
            refine lv_iconst (v := 0) hx hb dX7_solve_89 (by decide) ?_
            refine lv_istore (lv' := [(6, .int 0), (3, .long n_226), (5, .int l_192), (0, .ref (hs 62)), (1, .int cc0), (2, .int mm)]) hx hb dX7_solve_90 hl (by decide) rfl (fun ls hl => ?_)
            have L92_259 : ∀ (n : Nat) (f_247 : Nat → Int32) (f_248 : Nat → Int32) (f_249 : Nat → Int32) (f_250 : Nat → Int32) (f_251 : Nat → Int32) (f_252 : Nat → Int32) (f_253 : Nat → Int32) (f_254 : Nat → Int32) (f_255 : Nat → Int32) (f_256 : Nat → Int64) (l_257 : Int32) (w_258 : Int32), (rg (0) 5 f_248) → (rg (0) 1 f_249) → (rg (-1) 60 f_250) → (rg (-1) 5 f_251) → (rg (0) 1295 f_254) → (rg (0) 5 f_255) → (0 ≤ l_257.toInt ∧ l_257.toInt ≤ 1296) → (0 ≤ w_258.toInt ∧ w_258.toInt ≤ 1296) → (LI f_249 f_254 w_258) → 1297 - l_257.toInt < n → ∀ (H : Heap) (locs : List Loc) (ls : Array Slot), va_P D vwCl (wSP cy hs q_193 q_194 q_195 q_196 v_tape_size v_band_walkers v_band_loads v_band_pieces v_rules_clauses v_reader_end v_reader_at v_reader_length v_reader_letter v_reader_fault v_draft_clauses v_paces_version v_packing_quicker v_packing_loads v_packing_looseCount v_marches_told v_marches_changeMinutes v_marches_marching v_marches_gone v_search_known w_197 w_258 cc0 mm v_search_found f_bytes f_knee f_weight f_limps f_bheft f_owner f_food f_miles f_slope f_rsteps f_rkind f_ryields f_rholds f_252 f_253 f_dsteps f_dkind f_dyields f_dholds f_dletters f_dstack f_caps f_versions f_sharing f_pheft f_prow f_holder f_comes f_pcaps f_room f_loose f_reached f_mrow f_minutesOn f_mtired f_181 f_256 f_187 f_254 f_249 f_255 zburdens_229 f_250 f_251 f_248 f_247 f_first f_second f_plans f_tiredOn) H → va_D A (wSP cy hs q_193 q_194 q_195 q_196 v_tape_size v_band_walkers v_band_loads v_band_pieces v_rules_clauses v_reader_end v_reader_at v_reader_length v_reader_letter v_reader_fault v_draft_clauses v_paces_version v_packing_quicker v_packing_loads v_packing_looseCount v_marches_told v_marches_changeMinutes v_marches_marching v_marches_gone v_search_known w_197 w_258 cc0 mm v_search_found f_bytes f_knee f_weight f_limps f_bheft f_owner f_food f_miles f_slope f_rsteps f_rkind f_ryields f_rholds f_252 f_253 f_dsteps f_dkind f_dyields f_dholds f_dletters f_dstack f_caps f_versions f_sharing f_pheft f_prow f_holder f_comes f_pcaps f_room f_loose f_reached f_mrow f_minutesOn f_mtired f_181 f_256 f_187 f_254 f_249 f_255 zburdens_229 f_250 f_251 f_248 f_247 f_first f_second f_plans f_tiredOn) → va_S A s.heap H locs → lv_has ls 7 [(6, .int l_257), (3, .long n_226), (5, .int l_192), (0, .ref (hs 62)), (1, .int cc0), (2, .int mm)] → W p l e (gRm 6) s m args below meth c H locs 0 0 Q (F0 m 92 ls []) := by
              intro n
              induction n with
              | zero => intro f_247 f_248 f_249 f_250 f_251 f_252 f_253 f_254 f_255 f_256 l_257 w_258 hL92_259_0 hL92_259_1 hL92_259_2 hL92_259_3 hL92_259_4 hL92_259_5 hL92_259_6 hL92_259_7 hL92_259_8 hm; exact absurd hm (by omega)
              | succ n ih92_259 =>
                intro f_247 f_248 f_249 f_250 f_251 f_252 f_253 f_254 f_255 f_256 l_257 w_258 hL92_259_0 hL92_259_1 hL92_259_2 hL92_259_3 hL92_259_4 hL92_259_5 hL92_259_6 hL92_259_7 hL92_259_8 hmL92_259 H locs ls hP hD hS hl
                refine lv_iload hx hb dX7_solve_92 (lv_at hl 0 rfl) ?_
                refine lv_aload_n hx hb dX7_solve_94 rfl (lv_at hl 3 rfl) ?_
                refine gt_SP_search_countHere hx hb hts hown hK hP lwd_1045 dX7_solve_95 ?_
                refine lv_icmp_ge (tgt := 121) hx hb dX7_solve_98 (by decide) (fun c_260 => ?_) (fun c_260 => ?_)
                · have gc_260 : w_197.toInt ≤ l_257.toInt := i_le (rfl : w_197.toInt = w_197.toInt) (rfl : l_257.toInt = l_257.toInt) c_260
                  skip
                  refine lv_aload_n hx hb dX7_solve_121 rfl (lv_at hl 3 rfl) ?_
                  refine xv hD hS hA (xV (As := []) (rest := []) hx hb hml hown hts hK hP hD hS hA NS_ok hN hAe hl.1 ⟨Nat.le_refl _, Nat.le_refl _⟩ 62 rfl rfl rfl (c_X7_turnOver l D cy hs q_193 q_194 q_195 q_196 v_tape_size v_band_walkers v_band_loads v_band_pieces v_rules_clauses v_reader_end v_reader_at v_reader_length v_reader_letter v_reader_fault v_draft_clauses v_paces_version v_packing_quicker v_packing_loads v_packing_looseCount v_marches_told v_marches_changeMinutes v_marches_marching v_marches_gone v_search_known w_197 w_258 cc0 mm v_search_found f_bytes f_knee f_weight f_limps f_bheft f_owner f_food f_miles f_slope f_rsteps f_rkind f_ryields f_rholds f_252 f_253 f_dsteps f_dkind f_dyields f_dholds f_dletters f_dstack f_caps f_versions f_sharing f_pheft f_prow f_holder f_comes f_pcaps f_room f_loose f_reached f_mrow f_minutesOn f_mtired f_181 f_256 f_187 f_254 f_249 f_255 zburdens_229 f_250 f_251 f_248 f_247 f_first f_second f_plans f_tiredOn tS H.size (by omega) (by omega) hL60_199_4 hL92_259_4 hL92_259_1 hL92_259_8) (gi_V lwd_1087 lwd_1088 lwd_1089 lwd_42 lwd_1090) ⟨rfl, hd_X7_turnOver⟩ ⟨Nat.le_of_ble_eq_true rfl, Nat.le_of_ble_eq_true rfl⟩ rfl (Nat.le_of_ble_eq_true rfl) dX7_solve_122) (fun u_261 H locs hw hP hD hS => ?_)
                  obtain ⟨zsearch_countHere_263, zhere_264, zthere_265, zstatesHere_266, zstatesThere_267, zlisted_268, zhH_269, zhT_270, zsH_271, zsT_272⟩ := u_261
                  try dsimp only at hw hP hD
                  obtain ⟨p_273, p_274, p_275, p_276, p_277⟩ := hw
                  obtain ⟨n_278, en_278⟩ : ∃ y : Int32, y = l_192 + 1 := ⟨_, rfl⟩
                  have tn_278 : n_278.toInt = l_192.toInt + 1 := i_add en_278 (rfl : l_192.toInt = l_192.toInt) (by decide : (1 : Int32).toInt = 1) (by omega) (by omega)
                  refine lv_iinc (v := n_278) (lv' := [(5, .int n_278), (6, .int l_257), (3, .long n_226), (0, .ref (hs 62)), (1, .int cc0), (2, .int mm)]) hx hb dX7_solve_125 hl (k := 2) rfl (by rw [en_278]; rfl) (by decide) rfl (fun ls hl => ?_)
                  refine lv_goto (tgt := 60) hx hb dX7_solve_128 (by decide) ?_
                  exact ih60_199 f_247 f_248 zburdens_229 zhere_264 zlisted_268 f_250 f_251 f_252 f_253 zstatesHere_266 zstatesThere_267 f_255 zthere_265 n_226 n_278 zhH_269 zhT_270 zsH_271 zsT_272 zsearch_countHere_263 w_258 hL92_259_0 p_277 hL92_259_2 hL92_259_3 p_275 p_276 hL92_259_5 (by omega) (by omega) (by omega) p_273 (by omega) _ _ _ hP hD hS (lv_sub hl [0, 2, 3, 4, 5] rfl)
                · have gc_260 : l_257.toInt < w_197.toInt := i_nle (rfl : w_197.toInt = w_197.toInt) (rfl : l_257.toInt = l_257.toInt) c_260
                  skip
                  refine lv_aload_n hx hb dX7_solve_101 rfl (lv_at hl 3 rfl) ?_
                  refine lv_iload hx hb dX7_solve_102 (lv_at hl 2 rfl) ?_
                  refine lv_aload_n hx hb dX7_solve_104 rfl (lv_at hl 3 rfl) ?_
                  refine gt_SP_search_statesHere hx hb hts hown hK hP lwd_125 dX7_solve_105 ?_
                  refine lv_iload hx hb dX7_solve_108 (lv_at hl 0 rfl) ?_
                  refine al_statesHere hx hb hK hP hL60_199_4 (i_in (rfl : l_257.toInt = l_257.toInt) (by omega) (by omega)) dX7_solve_110 (fun n_279 en_279 bn_279 => ?_)
                  refine lv_lload_n hx hb dX7_solve_111 rfl (lv_at hl 1 rfl) ?_
                  refine xv hD hS hA (xV (As := [.int l_192, .int n_279, .long n_226]) (rest := []) hx hb hml hown hts hK hP hD hS hA NS_ok hN hAe hl.1 ⟨Nat.le_refl _, Nat.le_refl _⟩ 62 rfl rfl rfl (c_X7_spread l D cy hs q_193 q_194 q_195 q_196 v_tape_size v_band_walkers v_band_loads v_band_pieces v_rules_clauses v_reader_end v_reader_at v_reader_length v_reader_letter v_reader_fault v_draft_clauses v_paces_version v_packing_quicker v_packing_loads v_packing_looseCount v_marches_told v_marches_changeMinutes v_marches_marching v_marches_gone v_search_known w_197 w_258 cc0 mm v_search_found f_bytes f_knee f_weight f_limps f_bheft f_owner f_food f_miles f_slope f_rsteps f_rkind f_ryields f_rholds f_252 f_253 f_dsteps f_dkind f_dyields f_dholds f_dletters f_dstack f_caps f_versions f_sharing f_pheft f_prow f_holder f_comes f_pcaps f_room f_loose f_reached f_mrow f_minutesOn f_mtired f_181 f_256 f_187 f_254 f_249 f_255 zburdens_229 f_250 f_251 f_248 f_247 f_first f_second f_plans f_tiredOn tS H.size l_192 n_279 n_226 (by omega) (by omega) (by omega) (by omega) hr_weight hr_limps hr_miles hL92_259_4 hL92_259_1 hL92_259_5 hL92_259_2 hL92_259_3 hL92_259_0 (by omega) (by omega) (by omega) hL92_259_8) (gi_V lwd_1062 lwd_1063 lwd_1064 lwd_42 lwd_1065) ⟨rfl, hd_X7_spread⟩ ⟨Nat.le_of_ble_eq_true rfl, Nat.le_of_ble_eq_true rfl⟩ rfl (Nat.le_of_ble_eq_true rfl) dX7_solve_112) (fun u_280 H locs hw hP hD hS => ?_)
                  obtain ⟨zsearch_countThere_282, zrletters_283, zrstack_284, zthere_285, zstatesThere_286, zlisted_287, zstired_288, zpacesOn_289, zrestedOn_290, zbehindOn_291, zbehindFor_292⟩ := u_280
                  try dsimp only at hw hP hD
                  obtain ⟨p_293, p_294, p_295, p_296, p_297, p_298, p_299, p_300⟩ := hw
                  obtain ⟨n_301, en_301⟩ : ∃ y : Int32, y = l_257 + 1 := ⟨_, rfl⟩
                  have tn_301 : n_301.toInt = l_257.toInt + 1 := i_add en_301 (rfl : l_257.toInt = l_257.toInt) (by decide : (1 : Int32).toInt = 1) (by omega) (by omega)
                  refine lv_iinc (v := n_301) (lv' := [(6, .int n_301), (3, .long n_226), (5, .int l_192), (0, .ref (hs 62)), (1, .int cc0), (2, .int mm)]) hx hb dX7_solve_115 hl (k := 0) rfl (by rw [en_301]; rfl) (by decide) rfl (fun ls hl => ?_)
                  refine lv_goto (tgt := 92) hx hb dX7_solve_118 (by decide) ?_
                  exact ih92_259 zbehindFor_292 zbehindOn_291 zlisted_287 zpacesOn_289 zrestedOn_290 zrletters_283 zrstack_284 zstatesThere_286 zstired_288 zthere_285 n_301 zsearch_countThere_282 p_300 p_296 p_298 p_299 p_295 p_297 (by omega) (by omega) p_293 (by omega) _ _ _ hP hD hS (lv_sub hl [0, 1, 2, 3, 4, 5] rfl)
            have k_302 : (0 : Int32).toInt = 0 := by decide
            have k_303 : (0 : Int32).toInt = 0 := by decide
            exact L92_259 8589934592 zbehindFor_232 f_179 f_182 zpacesOn_230 zrestedOn_231 f_185 f_186 f_188 f_189 f_190 0 0 hL60_199_0 hL60_199_1 p_233 p_234 hL60_199_5 hL60_199_6 (by omega) (by omega) (LI_0 hL60_199_10 (by decide)) (by omega) _ _ _ hP hD hS (lv_sub hl [0, 1, 2, 3, 4, 5] rfl)
      have k_304 : (3570467226624 : Int64).toInt = 3570467226624 := by decide
      have k_305 : (0 : Int32).toInt = 0 := by decide
      have k_306 : (1 : Int32).toInt = 1 := by decide
      exact L60_199 8589934592 f_behindFor f_behindOn f_burdens f_155 f_listed f_pacesOn f_restedOn f_rletters f_rstack f_156 f_statesThere f_stired f_there 3570467226624 0 hH hT sH sT 1 v_search_countThere hr_behindOn hr_listed hr_pacesOn hr_restedOn rf_156 hr_statesThere hr_stired (by omega) (by omega) (by omega) hZ (by omega) _ _ _ hP hD hS (lv_sub hl [0, 1, 2, 3, 4] rfl)
    · have gc_154 : v_search_cost.toInt = cc0.toInt := i_eq (rfl : v_search_cost.toInt = v_search_cost.toInt) (rfl : cc0.toInt = cc0.toInt) c_154
      refine lv_aload_n hx hb dX7_solve_15 rfl (lv_at hl 0 rfl) ?_
      refine gt_SP_search_most hx hb hts hown hK hP lwd_1044 dX7_solve_16 ?_
      refine lv_iload_n hx hb dX7_solve_19 rfl (lv_at hl 2 rfl) ?_
      refine lv_icmp_ne (tgt := 24) hx hb dX7_solve_20 (by decide) (fun c_307 => ?_) (fun c_307 => ?_)
      · have gc_307 : v_search_most.toInt ≠ mm.toInt := i_ne (rfl : v_search_most.toInt = v_search_most.toInt) (rfl : mm.toInt = mm.toInt) c_307
        refine lv_aload_n hx hb dX7_solve_24 rfl (lv_at hl 0 rfl) ?_
        refine lv_iload_n hx hb dX7_solve_25 rfl (lv_at hl 1 rfl) ?_
        refine pt_SP_search_cost (x := cc0) hx hb hts hown hK hP hD hS lwd_1043 dX7_solve_26 (fun H locs hP hD hS => ?_)
        refine lv_aload_n hx hb dX7_solve_29 rfl (lv_at hl 0 rfl) ?_
        refine lv_iload_n hx hb dX7_solve_30 rfl (lv_at hl 2 rfl) ?_
        refine pt_SP_search_most (x := mm) hx hb hts hown hK hP hD hS lwd_1044 dX7_solve_31 (fun H locs hP hD hS => ?_)
        refine lv_aload_n hx hb dX7_solve_34 rfl (lv_at hl 0 rfl) ?_
        refine gt_SP_search_here hx hb hts hown hK hP lwd_123 dX7_solve_35 ?_
        refine lv_iconst (v := 0) hx hb dX7_solve_38 (by decide) ?_
        refine lv_lconst (v := 0) hx hb dX7_solve_39 (by decide) ?_
        refine as_here (x := 0) hx hb hK hP hD hS (i_in (by decide : (0 : Int32).toInt = 0) (by decide) (by decide)) dX7_solve_40 (fun f_308 ef_308 H locs hP hD hS => ?_)
        refine lv_aload_n hx hb dX7_solve_41 rfl (lv_at hl 0 rfl) ?_
        refine gt_SP_search_statesHere hx hb hts hown hK hP lwd_125 dX7_solve_42 ?_
        refine lv_iconst (v := 0) hx hb dX7_solve_45 (by decide) ?_
        refine lv_iconst (v := 0) hx hb dX7_solve_46 (by decide) ?_
        refine as_statesHere (x := 0) hx hb hK hP hD hS hr_statesHere (i_in (by decide : (0 : Int32).toInt = 0) (by decide) (by decide)) (by decide) dX7_solve_47 (fun f_309 ef_309 rf_309 H locs hP hD hS => ?_)
        refine lv_aload_n hx hb dX7_solve_48 rfl (lv_at hl 0 rfl) ?_
        refine lv_iconst (v := 1) hx hb dX7_solve_49 (by decide) ?_
        refine pt_SP_search_countHere (x := 1) hx hb hts hown hK hP hD hS lwd_1045 dX7_solve_50 (fun H locs hP hD hS => ?_)
        refine lv_ldc2 hx hb hown (hts _ lwd_1046) dX7_solve_53 ?_
        refine lv_lstore_n (lv' := [(3, .long 3570467226624), (0, .ref (hs 62)), (1, .int cc0), (2, .int mm)]) hx hb dX7_solve_56 rfl hl (by decide) rfl (fun ls hl => ?_)
        refine lv_iconst (v := 0) hx hb dX7_solve_57 (by decide) ?_
        refine lv_istore (lv' := [(5, .int 0), (3, .long 3570467226624), (0, .ref (hs 62)), (1, .int cc0), (2, .int mm)]) hx hb dX7_solve_58 hl (by decide) rfl (fun ls hl => ?_)
        have L60_352 : ∀ (n : Nat) (f_331 : Nat → Int32) (f_332 : Nat → Int32) (f_333 : Nat → Int32) (f_334 : Nat → Int64) (f_335 : Nat → Int32) (f_336 : Nat → Int32) (f_337 : Nat → Int32) (f_338 : Nat → Int32) (f_339 : Nat → Int32) (f_340 : Nat → Int32) (f_341 : Nat → Int32) (f_342 : Nat → Int32) (f_343 : Nat → Int64) (l_344 : Int64) (l_345 : Int32) (q_346 : Nat) (q_347 : Nat) (q_348 : Nat) (q_349 : Nat) (w_350 : Int32) (w_351 : Int32), (rg (0) 5 f_332) → (rg (0) 1 f_335) → (rg (-1) 60 f_336) → (rg (-1) 5 f_337) → (rg (0) 1295 f_340) → (rg (0) 1295 f_341) → (rg (0) 5 f_342) → (0 ≤ l_345.toInt ∧ l_345.toInt ≤ 10) → (0 ≤ w_350.toInt ∧ w_350.toInt ≤ 1296) → (0 ≤ w_351.toInt ∧ w_351.toInt ≤ 1296) → (∀ b : Nat, b < 1296 → (f_335 b).toInt = 0) → 11 - l_345.toInt < n → ∀ (H : Heap) (locs : List Loc) (ls : Array Slot), va_P D vwCl (wSP cy hs q_346 q_347 q_348 q_349 v_tape_size v_band_walkers v_band_loads v_band_pieces v_rules_clauses v_reader_end v_reader_at v_reader_length v_reader_letter v_reader_fault v_draft_clauses v_paces_version v_packing_quicker v_packing_loads v_packing_looseCount v_marches_told v_marches_changeMinutes v_marches_marching v_marches_gone v_search_known w_350 w_351 cc0 mm v_search_found f_bytes f_knee f_weight f_limps f_bheft f_owner f_food f_miles f_slope f_rsteps f_rkind f_ryields f_rholds f_338 f_339 f_dsteps f_dkind f_dyields f_dholds f_dletters f_dstack f_caps f_versions f_sharing f_pheft f_prow f_holder f_comes f_pcaps f_room f_loose f_reached f_mrow f_minutesOn f_mtired f_334 f_343 f_340 f_341 f_335 f_342 f_333 f_336 f_337 f_332 f_331 f_first f_second f_plans f_tiredOn) H → va_D A (wSP cy hs q_346 q_347 q_348 q_349 v_tape_size v_band_walkers v_band_loads v_band_pieces v_rules_clauses v_reader_end v_reader_at v_reader_length v_reader_letter v_reader_fault v_draft_clauses v_paces_version v_packing_quicker v_packing_loads v_packing_looseCount v_marches_told v_marches_changeMinutes v_marches_marching v_marches_gone v_search_known w_350 w_351 cc0 mm v_search_found f_bytes f_knee f_weight f_limps f_bheft f_owner f_food f_miles f_slope f_rsteps f_rkind f_ryields f_rholds f_338 f_339 f_dsteps f_dkind f_dyields f_dholds f_dletters f_dstack f_caps f_versions f_sharing f_pheft f_prow f_holder f_comes f_pcaps f_room f_loose f_reached f_mrow f_minutesOn f_mtired f_334 f_343 f_340 f_341 f_335 f_342 f_333 f_336 f_337 f_332 f_331 f_first f_second f_plans f_tiredOn) → va_S A s.heap H locs → lv_has ls 7 [(5, .int l_345), (3, .long l_344), (0, .ref (hs 62)), (1, .int cc0), (2, .int mm)] → W p l e (gRm 6) s m args below meth c H locs 0 0 Q (F0 m 60 ls []) := by
          intro n
          induction n with
          | zero => intro f_331 f_332 f_333 f_334 f_335 f_336 f_337 f_338 f_339 f_340 f_341 f_342 f_343 l_344 l_345 q_346 q_347 q_348 q_349 w_350 w_351 hL60_352_0 hL60_352_1 hL60_352_2 hL60_352_3 hL60_352_4 hL60_352_5 hL60_352_6 hL60_352_7 hL60_352_8 hL60_352_9 hL60_352_10 hm; exact absurd hm (by omega)
          | succ n ih60_352 =>
            intro f_331 f_332 f_333 f_334 f_335 f_336 f_337 f_338 f_339 f_340 f_341 f_342 f_343 l_344 l_345 q_346 q_347 q_348 q_349 w_350 w_351 hL60_352_0 hL60_352_1 hL60_352_2 hL60_352_3 hL60_352_4 hL60_352_5 hL60_352_6 hL60_352_7 hL60_352_8 hL60_352_9 hL60_352_10 hmL60_352 H locs ls hP hD hS hl
            refine lv_iload hx hb dX7_solve_60 (lv_at hl 0 rfl) ?_
            refine lv_aload_n hx hb dX7_solve_62 rfl (lv_at hl 2 rfl) ?_
            refine gt_SP_search_band hx hb hts hown hK hP lwd_134 dX7_solve_63 ?_
            refine gt_SP_band_pieces hx hb hts hown hK hP lwd_1047 dX7_solve_66 ?_
            refine lv_icmp_ge (tgt := 131) hx hb dX7_solve_69 (by decide) (fun c_353 => ?_) (fun c_353 => ?_)
            · have gc_353 : v_band_pieces.toInt ≤ l_345.toInt := i_le (rfl : v_band_pieces.toInt = v_band_pieces.toInt) (rfl : l_345.toInt = l_345.toInt) c_353
              skip
              refine lv_aload_n hx hb dX7_solve_131 rfl (lv_at hl 2 rfl) ?_
              refine lv_ldc2 hx hb hown (hts _ lwd_137) dX7_solve_132 ?_
              refine pt_SP_search_found (x := 4611686018427387904) hx hb hts hown hK hP hD hS lwd_1050 dX7_solve_135 (fun H locs hP hD hS => ?_)
              refine lv_iconst (v := 0) hx hb dX7_solve_138 (by decide) ?_
              refine lv_istore (lv' := [(5, .int 0), (3, .long l_344), (0, .ref (hs 62)), (1, .int cc0), (2, .int mm)]) hx hb dX7_solve_139 hl (by decide) rfl (fun ls hl => ?_)
              have L141_360 : ∀ (n : Nat) (f_357 : Nat → Int64) (l_358 : Int32) (w_359 : Int64), (0 ≤ l_358.toInt ∧ l_358.toInt ≤ 1296) → 1297 - l_358.toInt < n → ∀ (H : Heap) (locs : List Loc) (ls : Array Slot), va_P D vwCl (wSP cy hs q_346 q_347 q_348 q_349 v_tape_size v_band_walkers v_band_loads v_band_pieces v_rules_clauses v_reader_end v_reader_at v_reader_length v_reader_letter v_reader_fault v_draft_clauses v_paces_version v_packing_quicker v_packing_loads v_packing_looseCount v_marches_told v_marches_changeMinutes v_marches_marching v_marches_gone v_search_known w_350 w_351 cc0 mm w_359 f_bytes f_knee f_weight f_limps f_bheft f_owner f_food f_miles f_slope f_rsteps f_rkind f_ryields f_rholds f_338 f_339 f_dsteps f_dkind f_dyields f_dholds f_dletters f_dstack f_caps f_versions f_sharing f_pheft f_prow f_holder f_comes f_pcaps f_room f_loose f_reached f_mrow f_minutesOn f_mtired f_357 f_343 f_340 f_341 f_335 f_342 f_333 f_336 f_337 f_332 f_331 f_first f_second f_plans f_tiredOn) H → va_D A (wSP cy hs q_346 q_347 q_348 q_349 v_tape_size v_band_walkers v_band_loads v_band_pieces v_rules_clauses v_reader_end v_reader_at v_reader_length v_reader_letter v_reader_fault v_draft_clauses v_paces_version v_packing_quicker v_packing_loads v_packing_looseCount v_marches_told v_marches_changeMinutes v_marches_marching v_marches_gone v_search_known w_350 w_351 cc0 mm w_359 f_bytes f_knee f_weight f_limps f_bheft f_owner f_food f_miles f_slope f_rsteps f_rkind f_ryields f_rholds f_338 f_339 f_dsteps f_dkind f_dyields f_dholds f_dletters f_dstack f_caps f_versions f_sharing f_pheft f_prow f_holder f_comes f_pcaps f_room f_loose f_reached f_mrow f_minutesOn f_mtired f_357 f_343 f_340 f_341 f_335 f_342 f_333 f_336 f_337 f_332 f_331 f_first f_second f_plans f_tiredOn) → va_S A s.heap H locs → lv_has ls 7 [(5, .int l_358), (3, .long l_344), (0, .ref (hs 62)), (1, .int cc0), (2, .int mm)] → W p l e (gRm 6) s m args below meth c H locs 0 0 Q (F0 m 141 ls []) := by
                intro n
                induction n with
                | zero => intro f_357 l_358 w_359 hL141_360_0 hm; exact absurd hm (by omega)
                | succ n ih141_360 =>
                  intro f_357 l_358 w_359 hL141_360_0 hmL141_360 H locs ls hP hD hS hl
                  refine lv_iload hx hb dX7_solve_141 (lv_at hl 0 rfl) ?_
                  refine lv_aload_n hx hb dX7_solve_143 rfl (lv_at hl 2 rfl) ?_
                  refine gt_SP_search_countHere hx hb hts hown hK hP lwd_1045 dX7_solve_144 ?_
                  refine lv_icmp_ge (tgt := 212) hx hb dX7_solve_147 (by decide) (fun c_361 => ?_) (fun c_361 => ?_)
                  · have gc_361 : w_350.toInt ≤ l_358.toInt := i_le (rfl : w_350.toInt = w_350.toInt) (rfl : l_358.toInt = l_358.toInt) c_361
                    refine lv_aload_n hx hb dX7_solve_212 rfl (lv_at hl 2 rfl) ?_
                    refine lv_iconst (v := 1) hx hb dX7_solve_213 (by decide) ?_
                    refine pt_SP_search_known (x := 1) hx hb hts hown hK hP hD hS lwd_1042 (by decide) dX7_solve_214 (fun H locs hP hD hS => ?_)
                    have k_362 : (1 : Int32).toInt = 1 := by decide
                    exact hrt 1 w_350 w_351 cc0 mm w_359 f_338 f_339 f_357 f_343 f_340 f_341 f_335 f_342 f_333 f_336 f_337 f_332 f_331 q_346 q_347 q_348 q_349 ⟨hL60_352_10, (by omega), (by omega), (by omega), (by omega), hL60_352_4, hL60_352_5, hL60_352_1, hL60_352_6, hL60_352_2, hL60_352_3, hL60_352_0⟩ hP hD hS dX7_solve_217
                  · have gc_361 : l_358.toInt < w_350.toInt := i_nle (rfl : w_350.toInt = w_350.toInt) (rfl : l_358.toInt = l_358.toInt) c_361
                    refine lv_aload_n hx hb dX7_solve_150 rfl (lv_at hl 2 rfl) ?_
                    refine gt_SP_search_statesHere hx hb hts hown hK hP lwd_125 dX7_solve_151 ?_
                    refine lv_iload hx hb dX7_solve_154 (lv_at hl 0 rfl) ?_
                    refine al_statesHere hx hb hK hP hL60_352_4 (i_in (rfl : l_358.toInt = l_358.toInt) (by omega) (by omega)) dX7_solve_156 (fun n_363 en_363 bn_363 => ?_)
                    refine lv_istore (lv' := [(6, .int n_363), (5, .int l_358), (3, .long l_344), (0, .ref (hs 62)), (1, .int cc0), (2, .int mm)]) hx hb dX7_solve_157 hl (by decide) rfl (fun ls hl => ?_)
                    have L159_370 : ∀ (n : Nat) (f_367 : Nat → Int64) (l_368 : Int32) (w_369 : Int64), (0 ≤ l_368.toInt ∧ l_368.toInt ≤ 32400) → 32401 - l_368.toInt < n → ∀ (H : Heap) (locs : List Loc) (ls : Array Slot), va_P D vwCl (wSP cy hs q_346 q_347 q_348 q_349 v_tape_size v_band_walkers v_band_loads v_band_pieces v_rules_clauses v_reader_end v_reader_at v_reader_length v_reader_letter v_reader_fault v_draft_clauses v_paces_version v_packing_quicker v_packing_loads v_packing_looseCount v_marches_told v_marches_changeMinutes v_marches_marching v_marches_gone v_search_known w_350 w_351 cc0 mm w_369 f_bytes f_knee f_weight f_limps f_bheft f_owner f_food f_miles f_slope f_rsteps f_rkind f_ryields f_rholds f_338 f_339 f_dsteps f_dkind f_dyields f_dholds f_dletters f_dstack f_caps f_versions f_sharing f_pheft f_prow f_holder f_comes f_pcaps f_room f_loose f_reached f_mrow f_minutesOn f_mtired f_367 f_343 f_340 f_341 f_335 f_342 f_333 f_336 f_337 f_332 f_331 f_first f_second f_plans f_tiredOn) H → va_D A (wSP cy hs q_346 q_347 q_348 q_349 v_tape_size v_band_walkers v_band_loads v_band_pieces v_rules_clauses v_reader_end v_reader_at v_reader_length v_reader_letter v_reader_fault v_draft_clauses v_paces_version v_packing_quicker v_packing_loads v_packing_looseCount v_marches_told v_marches_changeMinutes v_marches_marching v_marches_gone v_search_known w_350 w_351 cc0 mm w_369 f_bytes f_knee f_weight f_limps f_bheft f_owner f_food f_miles f_slope f_rsteps f_rkind f_ryields f_rholds f_338 f_339 f_dsteps f_dkind f_dyields f_dholds f_dletters f_dstack f_caps f_versions f_sharing f_pheft f_prow f_holder f_comes f_pcaps f_room f_loose f_reached f_mrow f_minutesOn f_mtired f_367 f_343 f_340 f_341 f_335 f_342 f_333 f_336 f_337 f_332 f_331 f_first f_second f_plans f_tiredOn) → va_S A s.heap H locs → lv_has ls 7 [(6, .int l_368), (5, .int l_358), (3, .long l_344), (0, .ref (hs 62)), (1, .int cc0), (2, .int mm)] → W p l e (gRm 6) s m args below meth c H locs 0 0 Q (F0 m 159 ls []) := by
                      intro n
                      induction n with
                      | zero => intro f_367 l_368 w_369 hL159_370_0 hm; exact absurd hm (by omega)
                      | succ n ih159_370 =>
                        intro f_367 l_368 w_369 hL159_370_0 hmL159_370 H locs ls hP hD hS hl
                        refine lv_iload hx hb dX7_solve_159 (lv_at hl 0 rfl) ?_
                        refine lv_aload_n hx hb dX7_solve_161 rfl (lv_at hl 3 rfl) ?_
                        refine gt_SP_search_here hx hb hts hown hK hP lwd_123 dX7_solve_162 ?_
                        refine ln_here hx hb hK hP dX7_solve_165 ?_
                        refine lv_icmp_ge (tgt := 206) hx hb dX7_solve_166 (by decide) (fun c_371 => ?_) (fun c_371 => ?_)
                        · have gc_371 : 31104 ≤ l_368.toInt := i_le (by decide : (31104 : Int32).toInt = 31104) (rfl : l_368.toInt = l_368.toInt) c_371
                          obtain ⟨n_372, en_372⟩ : ∃ y : Int32, y = l_358 + 1 := ⟨_, rfl⟩
                          have tn_372 : n_372.toInt = l_358.toInt + 1 := i_add en_372 (rfl : l_358.toInt = l_358.toInt) (by decide : (1 : Int32).toInt = 1) (by omega) (by omega)
                          refine lv_iinc (v := n_372) (lv' := [(5, .int n_372), (6, .int l_368), (3, .long l_344), (0, .ref (hs 62)), (1, .int cc0), (2, .int mm)]) hx hb dX7_solve_206 hl (k := 1) rfl (by rw [en_372]; rfl) (by decide) rfl (fun ls hl => ?_)
                          refine lv_goto (tgt := 141) hx hb dX7_solve_209 (by decide) ?_
                          exact ih141_360 f_367 n_372 w_369 (by omega) (by omega) _ _ _ hP hD hS (lv_sub hl [0, 2, 3, 4, 5] rfl)
                        · have gc_371 : l_368.toInt < 31104 := i_nle (by decide : (31104 : Int32).toInt = 31104) (rfl : l_368.toInt = l_368.toInt) c_371
                          refine lv_aload_n hx hb dX7_solve_169 rfl (lv_at hl 3 rfl) ?_
                          refine lv_aload_n hx hb dX7_solve_170 rfl (lv_at hl 3 rfl) ?_
                          refine gt_SP_search_found hx hb hts hown hK hP lwd_1050 dX7_solve_171 ?_
                          refine lv_aload_n hx hb dX7_solve_174 rfl (lv_at hl 3 rfl) ?_
                          refine gt_SP_search_here hx hb hts hown hK hP lwd_123 dX7_solve_175 ?_
                          refine lv_iload hx hb dX7_solve_178 (lv_at hl 0 rfl) ?_
                          refine al_here hx hb hK hP (i_in (rfl : l_368.toInt = l_368.toInt) (by omega) (by omega)) dX7_solve_180 (fun n_373 en_373 => ?_)
                          refine va_mmin_long hx hb (by rw [hml]; exact hl.1.symm) hown (hts _ lwd_1051) (hts _ lwd_1052) (hts _ lwd_529) (hts _ lwd_1053) (Nat.le_of_ble_eq_true rfl) (Nat.le_of_ble_eq_true rfl) (Nat.zero_le _) (Nat.zero_le _) dX7_solve_181 ?_
                          refine lv_topl (fun n_374 en_374 => ?_)
                          refine pt_SP_search_found (x := n_374) hx hb hts hown hK hP hD hS lwd_1050 dX7_solve_184 (fun H locs hP hD hS => ?_)
                          refine lv_aload_n hx hb dX7_solve_187 rfl (lv_at hl 3 rfl) ?_
                          refine gt_SP_search_here hx hb hts hown hK hP lwd_123 dX7_solve_188 ?_
                          refine lv_iload hx hb dX7_solve_191 (lv_at hl 0 rfl) ?_
                          refine lv_ldc2 hx hb hown (hts _ lwd_137) dX7_solve_193 ?_
                          refine as_here (x := 4611686018427387904) hx hb hK hP hD hS (i_in (rfl : l_368.toInt = l_368.toInt) (by omega) (by omega)) dX7_solve_196 (fun f_375 ef_375 H locs hP hD hS => ?_)
                          obtain ⟨n_376, en_376⟩ : ∃ y : Int32, y = l_368 + 1296 := ⟨_, rfl⟩
                          have tn_376 : n_376.toInt = l_368.toInt + 1296 := i_add en_376 (rfl : l_368.toInt = l_368.toInt) (by decide : (1296 : Int32).toInt = 1296) (by omega) (by omega)
                          refine lv_iincW (v := n_376) (lv' := [(6, .int n_376), (5, .int l_358), (3, .long l_344), (0, .ref (hs 62)), (1, .int cc0), (2, .int mm)]) hx hb dX7_solve_197 hl (k := 0) rfl (by rw [en_376]; rfl) (by decide) rfl (fun ls hl => ?_)
                          refine lv_goto (tgt := 159) hx hb dX7_solve_203 (by decide) ?_
                          exact ih159_370 f_375 n_376 n_374 (by omega) (by omega) _ _ _ hP hD hS (lv_sub hl [0, 1, 2, 3, 4, 5] rfl)
                    exact L159_370 8589934592 f_357 n_363 w_359 (by omega) (by omega) _ _ _ hP hD hS (lv_sub hl [0, 1, 2, 3, 4, 5] rfl)
              have k_377 : (0 : Int32).toInt = 0 := by decide
              have k_378 : (4611686018427387904 : Int64).toInt = 4611686018427387904 := by decide
              exact L141_360 8589934592 f_334 0 4611686018427387904 (by omega) (by omega) _ _ _ hP hD hS (lv_sub hl [0, 1, 2, 3, 4] rfl)
            · have gc_353 : l_345.toInt < v_band_pieces.toInt := i_nle (rfl : v_band_pieces.toInt = v_band_pieces.toInt) (rfl : l_345.toInt = l_345.toInt) c_353
              skip
              refine lv_lload_n hx hb dX7_solve_72 rfl (lv_at hl 1 rfl) ?_
              refine lv_ldc2 hx hb hown (hts _ lwd_1048) dX7_solve_73 ?_
              refine lv_ldiv hx hb dX7_solve_76 (by decide) ?_
              refine lv_topl (fun n_379 en_379 => ?_)
              refine lv_lstore_n (lv' := [(3, .long n_379), (5, .int l_345), (0, .ref (hs 62)), (1, .int cc0), (2, .int mm)]) hx hb dX7_solve_77 rfl hl (by decide) rfl (fun ls hl => ?_)
              refine lv_aload_n hx hb dX7_solve_78 rfl (lv_at hl 2 rfl) ?_
              refine lv_iload hx hb dX7_solve_79 (lv_at hl 1 rfl) ?_
              refine xv hD hS hA (xV (As := [.int l_345]) (rest := []) hx hb hml hown hts hK hP hD hS hA NS_ok hN hAe hl.1 ⟨Nat.le_refl _, Nat.le_refl _⟩ 62 rfl rfl rfl (c_X7_weigh l D cy hs q_346 q_347 q_348 q_349 v_tape_size v_band_walkers v_band_loads v_band_pieces v_rules_clauses v_reader_end v_reader_at v_reader_length v_reader_letter v_reader_fault v_draft_clauses v_paces_version v_packing_quicker v_packing_loads v_packing_looseCount v_marches_told v_marches_changeMinutes v_marches_marching v_marches_gone v_search_known w_350 w_351 cc0 mm v_search_found f_bytes f_knee f_weight f_limps f_bheft f_owner f_food f_miles f_slope f_rsteps f_rkind f_ryields f_rholds f_338 f_339 f_dsteps f_dkind f_dyields f_dholds f_dletters f_dstack f_caps f_versions f_sharing f_pheft f_prow f_holder f_comes f_pcaps f_room f_loose f_reached f_mrow f_minutesOn f_mtired f_334 f_343 f_340 f_341 f_335 f_342 f_333 f_336 f_337 f_332 f_331 f_first f_second f_plans f_tiredOn tS H.size l_345 (by omega) (by omega) hr_bheft hr_food hL60_352_2 hL60_352_3 (by omega) (by omega)) (gi_V lwd_1054 lwd_1055 lwd_1056 lwd_42 lwd_1057) ⟨rfl, hd_X7_weigh⟩ ⟨Nat.le_of_ble_eq_true rfl, Nat.le_of_ble_eq_true rfl⟩ rfl (Nat.le_of_ble_eq_true rfl) dX7_solve_81) (fun u_380 H locs hw hP hD hS => ?_)
              obtain ⟨zburdens_382, zpacesOn_383, zrestedOn_384, zbehindFor_385⟩ := u_380
              try dsimp only at hw hP hD
              obtain ⟨p_386, p_387⟩ := hw
              refine lv_aload_n hx hb dX7_solve_84 rfl (lv_at hl 2 rfl) ?_
              refine lv_iconst (v := 0) hx hb dX7_solve_85 (by decide) ?_
              refine pt_SP_search_countThere (x := 0) hx hb hts hown hK hP hD hS lwd_1049 dX7_solve_86 (fun H locs hP hD hS => ?_)
              refine lv_iconst (v := 0) hx hb dX7_solve_89 (by decide) ?_
              refine lv_istore (lv' := [(6, .int 0), (3, .long n_379), (5, .int l_345), (0, .ref (hs 62)), (1, .int cc0), (2, .int mm)]) hx hb dX7_solve_90 hl (by decide) rfl (fun ls hl => ?_)
              have L92_412 : ∀ (n : Nat) (f_400 : Nat → Int32) (f_401 : Nat → Int32) (f_402 : Nat → Int32) (f_403 : Nat → Int32) (f_404 : Nat → Int32) (f_405 : Nat → Int32) (f_406 : Nat → Int32) (f_407 : Nat → Int32) (f_408 : Nat → Int32) (f_409 : Nat → Int64) (l_410 : Int32) (w_411 : Int32), (rg (0) 5 f_401) → (rg (0) 1 f_402) → (rg (-1) 60 f_403) → (rg (-1) 5 f_404) → (rg (0) 1295 f_407) → (rg (0) 5 f_408) → (0 ≤ l_410.toInt ∧ l_410.toInt ≤ 1296) → (0 ≤ w_411.toInt ∧ w_411.toInt ≤ 1296) → (LI f_402 f_407 w_411) → 1297 - l_410.toInt < n → ∀ (H : Heap) (locs : List Loc) (ls : Array Slot), va_P D vwCl (wSP cy hs q_346 q_347 q_348 q_349 v_tape_size v_band_walkers v_band_loads v_band_pieces v_rules_clauses v_reader_end v_reader_at v_reader_length v_reader_letter v_reader_fault v_draft_clauses v_paces_version v_packing_quicker v_packing_loads v_packing_looseCount v_marches_told v_marches_changeMinutes v_marches_marching v_marches_gone v_search_known w_350 w_411 cc0 mm v_search_found f_bytes f_knee f_weight f_limps f_bheft f_owner f_food f_miles f_slope f_rsteps f_rkind f_ryields f_rholds f_405 f_406 f_dsteps f_dkind f_dyields f_dholds f_dletters f_dstack f_caps f_versions f_sharing f_pheft f_prow f_holder f_comes f_pcaps f_room f_loose f_reached f_mrow f_minutesOn f_mtired f_334 f_409 f_340 f_407 f_402 f_408 zburdens_382 f_403 f_404 f_401 f_400 f_first f_second f_plans f_tiredOn) H → va_D A (wSP cy hs q_346 q_347 q_348 q_349 v_tape_size v_band_walkers v_band_loads v_band_pieces v_rules_clauses v_reader_end v_reader_at v_reader_length v_reader_letter v_reader_fault v_draft_clauses v_paces_version v_packing_quicker v_packing_loads v_packing_looseCount v_marches_told v_marches_changeMinutes v_marches_marching v_marches_gone v_search_known w_350 w_411 cc0 mm v_search_found f_bytes f_knee f_weight f_limps f_bheft f_owner f_food f_miles f_slope f_rsteps f_rkind f_ryields f_rholds f_405 f_406 f_dsteps f_dkind f_dyields f_dholds f_dletters f_dstack f_caps f_versions f_sharing f_pheft f_prow f_holder f_comes f_pcaps f_room f_loose f_reached f_mrow f_minutesOn f_mtired f_334 f_409 f_340 f_407 f_402 f_408 zburdens_382 f_403 f_404 f_401 f_400 f_first f_second f_plans f_tiredOn) → va_S A s.heap H locs → lv_has ls 7 [(6, .int l_410), (3, .long n_379), (5, .int l_345), (0, .ref (hs 62)), (1, .int cc0), (2, .int mm)] → W p l e (gRm 6) s m args below meth c H locs 0 0 Q (F0 m 92 ls []) := by
                intro n
                induction n with
                | zero => intro f_400 f_401 f_402 f_403 f_404 f_405 f_406 f_407 f_408 f_409 l_410 w_411 hL92_412_0 hL92_412_1 hL92_412_2 hL92_412_3 hL92_412_4 hL92_412_5 hL92_412_6 hL92_412_7 hL92_412_8 hm; exact absurd hm (by omega)
                | succ n ih92_412 =>
                  intro f_400 f_401 f_402 f_403 f_404 f_405 f_406 f_407 f_408 f_409 l_410 w_411 hL92_412_0 hL92_412_1 hL92_412_2 hL92_412_3 hL92_412_4 hL92_412_5 hL92_412_6 hL92_412_7 hL92_412_8 hmL92_412 H locs ls hP hD hS hl
                  refine lv_iload hx hb dX7_solve_92 (lv_at hl 0 rfl) ?_
                  refine lv_aload_n hx hb dX7_solve_94 rfl (lv_at hl 3 rfl) ?_
                  refine gt_SP_search_countHere hx hb hts hown hK hP lwd_1045 dX7_solve_95 ?_
                  refine lv_icmp_ge (tgt := 121) hx hb dX7_solve_98 (by decide) (fun c_413 => ?_) (fun c_413 => ?_)
                  · have gc_413 : w_350.toInt ≤ l_410.toInt := i_le (rfl : w_350.toInt = w_350.toInt) (rfl : l_410.toInt = l_410.toInt) c_413
                    skip
                    refine lv_aload_n hx hb dX7_solve_121 rfl (lv_at hl 3 rfl) ?_
                    refine xv hD hS hA (xV (As := []) (rest := []) hx hb hml hown hts hK hP hD hS hA NS_ok hN hAe hl.1 ⟨Nat.le_refl _, Nat.le_refl _⟩ 62 rfl rfl rfl (c_X7_turnOver l D cy hs q_346 q_347 q_348 q_349 v_tape_size v_band_walkers v_band_loads v_band_pieces v_rules_clauses v_reader_end v_reader_at v_reader_length v_reader_letter v_reader_fault v_draft_clauses v_paces_version v_packing_quicker v_packing_loads v_packing_looseCount v_marches_told v_marches_changeMinutes v_marches_marching v_marches_gone v_search_known w_350 w_411 cc0 mm v_search_found f_bytes f_knee f_weight f_limps f_bheft f_owner f_food f_miles f_slope f_rsteps f_rkind f_ryields f_rholds f_405 f_406 f_dsteps f_dkind f_dyields f_dholds f_dletters f_dstack f_caps f_versions f_sharing f_pheft f_prow f_holder f_comes f_pcaps f_room f_loose f_reached f_mrow f_minutesOn f_mtired f_334 f_409 f_340 f_407 f_402 f_408 zburdens_382 f_403 f_404 f_401 f_400 f_first f_second f_plans f_tiredOn tS H.size (by omega) (by omega) hL60_352_4 hL92_412_4 hL92_412_1 hL92_412_8) (gi_V lwd_1087 lwd_1088 lwd_1089 lwd_42 lwd_1090) ⟨rfl, hd_X7_turnOver⟩ ⟨Nat.le_of_ble_eq_true rfl, Nat.le_of_ble_eq_true rfl⟩ rfl (Nat.le_of_ble_eq_true rfl) dX7_solve_122) (fun u_414 H locs hw hP hD hS => ?_)
                    obtain ⟨zsearch_countHere_416, zhere_417, zthere_418, zstatesHere_419, zstatesThere_420, zlisted_421, zhH_422, zhT_423, zsH_424, zsT_425⟩ := u_414
                    try dsimp only at hw hP hD
                    obtain ⟨p_426, p_427, p_428, p_429, p_430⟩ := hw
                    obtain ⟨n_431, en_431⟩ : ∃ y : Int32, y = l_345 + 1 := ⟨_, rfl⟩
                    have tn_431 : n_431.toInt = l_345.toInt + 1 := i_add en_431 (rfl : l_345.toInt = l_345.toInt) (by decide : (1 : Int32).toInt = 1) (by omega) (by omega)
                    refine lv_iinc (v := n_431) (lv' := [(5, .int n_431), (6, .int l_410), (3, .long n_379), (0, .ref (hs 62)), (1, .int cc0), (2, .int mm)]) hx hb dX7_solve_125 hl (k := 2) rfl (by rw [en_431]; rfl) (by decide) rfl (fun ls hl => ?_)
                    refine lv_goto (tgt := 60) hx hb dX7_solve_128 (by decide) ?_
                    exact ih60_352 f_400 f_401 zburdens_382 zhere_417 zlisted_421 f_403 f_404 f_405 f_406 zstatesHere_419 zstatesThere_420 f_408 zthere_418 n_379 n_431 zhH_422 zhT_423 zsH_424 zsT_425 zsearch_countHere_416 w_411 hL92_412_0 p_430 hL92_412_2 hL92_412_3 p_428 p_429 hL92_412_5 (by omega) (by omega) (by omega) p_426 (by omega) _ _ _ hP hD hS (lv_sub hl [0, 2, 3, 4, 5] rfl)
                  · have gc_413 : l_410.toInt < w_350.toInt := i_nle (rfl : w_350.toInt = w_350.toInt) (rfl : l_410.toInt = l_410.toInt) c_413
                    skip
                    refine lv_aload_n hx hb dX7_solve_101 rfl (lv_at hl 3 rfl) ?_
                    refine lv_iload hx hb dX7_solve_102 (lv_at hl 2 rfl) ?_
                    refine lv_aload_n hx hb dX7_solve_104 rfl (lv_at hl 3 rfl) ?_
                    refine gt_SP_search_statesHere hx hb hts hown hK hP lwd_125 dX7_solve_105 ?_
                    refine lv_iload hx hb dX7_solve_108 (lv_at hl 0 rfl) ?_
                    refine al_statesHere hx hb hK hP hL60_352_4 (i_in (rfl : l_410.toInt = l_410.toInt) (by omega) (by omega)) dX7_solve_110 (fun n_432 en_432 bn_432 => ?_)
                    refine lv_lload_n hx hb dX7_solve_111 rfl (lv_at hl 1 rfl) ?_
                    refine xv hD hS hA (xV (As := [.int l_345, .int n_432, .long n_379]) (rest := []) hx hb hml hown hts hK hP hD hS hA NS_ok hN hAe hl.1 ⟨Nat.le_refl _, Nat.le_refl _⟩ 62 rfl rfl rfl (c_X7_spread l D cy hs q_346 q_347 q_348 q_349 v_tape_size v_band_walkers v_band_loads v_band_pieces v_rules_clauses v_reader_end v_reader_at v_reader_length v_reader_letter v_reader_fault v_draft_clauses v_paces_version v_packing_quicker v_packing_loads v_packing_looseCount v_marches_told v_marches_changeMinutes v_marches_marching v_marches_gone v_search_known w_350 w_411 cc0 mm v_search_found f_bytes f_knee f_weight f_limps f_bheft f_owner f_food f_miles f_slope f_rsteps f_rkind f_ryields f_rholds f_405 f_406 f_dsteps f_dkind f_dyields f_dholds f_dletters f_dstack f_caps f_versions f_sharing f_pheft f_prow f_holder f_comes f_pcaps f_room f_loose f_reached f_mrow f_minutesOn f_mtired f_334 f_409 f_340 f_407 f_402 f_408 zburdens_382 f_403 f_404 f_401 f_400 f_first f_second f_plans f_tiredOn tS H.size l_345 n_432 n_379 (by omega) (by omega) (by omega) (by omega) hr_weight hr_limps hr_miles hL92_412_4 hL92_412_1 hL92_412_5 hL92_412_2 hL92_412_3 hL92_412_0 (by omega) (by omega) (by omega) hL92_412_8) (gi_V lwd_1062 lwd_1063 lwd_1064 lwd_42 lwd_1065) ⟨rfl, hd_X7_spread⟩ ⟨Nat.le_of_ble_eq_true rfl, Nat.le_of_ble_eq_true rfl⟩ rfl (Nat.le_of_ble_eq_true rfl) dX7_solve_112) (fun u_433 H locs hw hP hD hS => ?_)
                    obtain ⟨zsearch_countThere_435, zrletters_436, zrstack_437, zthere_438, zstatesThere_439, zlisted_440, zstired_441, zpacesOn_442, zrestedOn_443, zbehindOn_444, zbehindFor_445⟩ := u_433
                    try dsimp only at hw hP hD
                    obtain ⟨p_446, p_447, p_448, p_449, p_450, p_451, p_452, p_453⟩ := hw
                    obtain ⟨n_454, en_454⟩ : ∃ y : Int32, y = l_410 + 1 := ⟨_, rfl⟩
                    have tn_454 : n_454.toInt = l_410.toInt + 1 := i_add en_454 (rfl : l_410.toInt = l_410.toInt) (by decide : (1 : Int32).toInt = 1) (by omega) (by omega)
                    refine lv_iinc (v := n_454) (lv' := [(6, .int n_454), (3, .long n_379), (5, .int l_345), (0, .ref (hs 62)), (1, .int cc0), (2, .int mm)]) hx hb dX7_solve_115 hl (k := 0) rfl (by rw [en_454]; rfl) (by decide) rfl (fun ls hl => ?_)
                    refine lv_goto (tgt := 92) hx hb dX7_solve_118 (by decide) ?_
                    exact ih92_412 zbehindFor_445 zbehindOn_444 zlisted_440 zpacesOn_442 zrestedOn_443 zrletters_436 zrstack_437 zstatesThere_439 zstired_441 zthere_438 n_454 zsearch_countThere_435 p_453 p_449 p_451 p_452 p_448 p_450 (by omega) (by omega) p_446 (by omega) _ _ _ hP hD hS (lv_sub hl [0, 1, 2, 3, 4, 5] rfl)
              have k_455 : (0 : Int32).toInt = 0 := by decide
              have k_456 : (0 : Int32).toInt = 0 := by decide
              exact L92_412 8589934592 zbehindFor_385 f_332 f_335 zpacesOn_383 zrestedOn_384 f_338 f_339 f_341 f_342 f_343 0 0 hL60_352_0 hL60_352_1 p_386 p_387 hL60_352_5 hL60_352_6 (by omega) (by omega) (LI_0 hL60_352_10 (by decide)) (by omega) _ _ _ hP hD hS (lv_sub hl [0, 1, 2, 3, 4, 5] rfl)
        have k_457 : (3570467226624 : Int64).toInt = 3570467226624 := by decide
        have k_458 : (0 : Int32).toInt = 0 := by decide
        have k_459 : (1 : Int32).toInt = 1 := by decide
        exact L60_352 8589934592 f_behindFor f_behindOn f_burdens f_308 f_listed f_pacesOn f_restedOn f_rletters f_rstack f_309 f_statesThere f_stired f_there 3570467226624 0 hH hT sH sT 1 v_search_countThere hr_behindOn hr_listed hr_pacesOn hr_restedOn rf_309 hr_statesThere hr_stired (by omega) (by omega) (by omega) hZ (by omega) _ _ _ hP hD hS (lv_sub hl [0, 1, 2, 3, 4] rfl)
      · have gc_307 : v_search_most.toInt = mm.toInt := i_eq (rfl : v_search_most.toInt = v_search_most.toInt) (rfl : mm.toInt = mm.toInt) c_307
        exact hrt v_search_known v_search_countHere v_search_countThere v_search_cost v_search_most v_search_found f_rletters f_rstack f_here f_there f_statesHere f_statesThere f_listed f_stired f_burdens f_pacesOn f_restedOn f_behindOn f_behindFor hH hT sH sT ⟨hZ, (by omega), (by omega), (by omega), (by omega), hr_statesHere, hr_statesThere, hr_listed, hr_stired, hr_pacesOn, hr_restedOn, hr_behindOn⟩ hP hD hS dX7_solve_23
