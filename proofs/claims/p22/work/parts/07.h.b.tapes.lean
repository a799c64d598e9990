set_option maxHeartbeats 16000000 in
set_option maxRecDepth 100000 in
theorem c_X8_append_q (l : Launch) (D : va_G) (cy : Nat → ClassId) (hs : Nat → Nat) (hH hT sH sT : Nat) (v_tape_size v_band_walkers v_band_loads v_band_pieces v_rules_clauses v_reader_end v_reader_at v_reader_length v_reader_letter v_reader_fault v_draft_clauses v_paces_version v_packing_quicker v_packing_loads v_packing_looseCount v_marches_told v_marches_changeMinutes v_marches_marching v_marches_gone v_search_known v_search_countHere v_search_countThere v_search_cost v_search_most : Int32) (v_search_found : Int64) (f_bytes f_knee f_weight f_limps f_bheft f_owner f_food f_miles f_slope f_rsteps f_rkind f_ryields f_rholds f_rletters f_rstack f_dsteps f_dkind f_dyields f_dholds f_dletters f_dstack f_caps f_versions f_sharing f_pheft f_prow f_holder f_comes f_pcaps f_room f_loose f_reached f_mrow f_minutesOn f_mtired : Nat → Int32) (f_here f_there : Nat → Int64) (f_statesHere f_statesThere f_listed f_stired f_burdens f_pacesOn f_restedOn f_behindOn f_behindFor f_first f_second : Nat → Int32) (f_plans f_tiredOn : Nat → Nat → Int32) (tS : Nat) (sz : Nat) (x : Int32) (hb_v_tape_size : 0 ≤ v_tape_size.toInt ∧ v_tape_size.toInt ≤ 220) (hr_bytes : rg (0) 255 f_bytes) (h1 : v_tape_size.toInt ≤ 216) : gMv l yX8_append cX8_append 3 1 [.ref (hs 1), .int x] D cy (wSP cy hs hH hT sH sT v_tape_size v_band_walkers v_band_loads v_band_pieces v_rules_clauses v_reader_end v_reader_at v_reader_length v_reader_letter v_reader_fault v_draft_clauses v_paces_version v_packing_quicker v_packing_loads v_packing_looseCount v_marches_told v_marches_changeMinutes v_marches_marching v_marches_gone v_search_known v_search_countHere v_search_countThere v_search_cost v_search_most v_search_found f_bytes f_knee f_weight f_limps f_bheft f_owner f_food f_miles f_slope f_rsteps f_rkind f_ryields f_rholds f_rletters f_rstack f_dsteps f_dkind f_dyields f_dholds f_dletters f_dstack f_caps f_versions f_sharing f_pheft f_prow f_holder f_comes f_pcaps f_room f_loose f_reached f_mrow f_minutesOn f_mtired f_here f_there f_statesHere f_statesThere f_listed f_stired f_burdens f_pacesOn f_restedOn f_behindOn f_behindFor f_first f_second f_plans f_tiredOn) (NS tS) sz (fun (u : Int32 × (Nat → Int32)) => ((u.1).toInt = v_tape_size.toInt + 4) ∧ ((u.2) = ap4 f_bytes v_tape_size.toNatClampNeg x) ∧ (0 ≤ (u.1).toInt ∧ (u.1).toInt ≤ 220) ∧ (rg (0) 255 (u.2))) (fun u => wSP cy hs hH hT sH sT (u.1) v_band_walkers v_band_loads v_band_pieces v_rules_clauses v_reader_end v_reader_at v_reader_length v_reader_letter v_reader_fault v_draft_clauses v_paces_version v_packing_quicker v_packing_loads v_packing_looseCount v_marches_told v_marches_changeMinutes v_marches_marching v_marches_gone v_search_known v_search_countHere v_search_countThere v_search_cost v_search_most v_search_found (u.2) f_knee f_weight f_limps f_bheft f_owner f_food f_miles f_slope f_rsteps f_rkind f_ryields f_rholds f_rletters f_rstack f_dsteps f_dkind f_dyields f_dholds f_dletters f_dstack f_caps f_versions f_sharing f_pheft f_prow f_holder f_comes f_pcaps f_room f_loose f_reached f_mrow f_minutesOn f_mtired f_here f_there f_statesHere f_statesThere f_listed f_stired f_burdens f_pacesOn f_restedOn f_behindOn f_behindFor f_first f_second f_plans f_tiredOn) := by
  refine gMv_in (by decide) (Nat.le_of_ble_eq_true rfl) ?_
  intro p e s m args below meth c A ls Q hx hb hml hts hown hsz hP hK hD hN hAe hA hS hl hret
  subst hsz
  have hl : lv_has ls 3 [(0, .ref (hs 1)), (1, .int x)] := hl
  have hrt := fun (v_tape_size' : Int32) (f_bytes' : Nat → Int32) (hp : (v_tape_size'.toInt = v_tape_size.toInt + 4) ∧ (f_bytes' = ap4 f_bytes v_tape_size.toNatClampNeg x) ∧ (0 ≤ v_tape_size'.toInt ∧ v_tape_size'.toInt ≤ 220) ∧ (rg (0) 255 f_bytes')) {H : Heap} {locs : List Loc} {pc : Nat} {ls : Array Slot} => hret (v_tape_size', f_bytes') (H := H) (locs := locs) (pc := pc) (ls := ls) hp
  clear hret
  refine lv_bipush (v := 24) hx hb dX8_append_0 (by decide) ?_
  refine lv_istore_n (lv' := [(2, .int 24), (0, .ref (hs 1)), (1, .int x)]) hx hb dX8_append_2 rfl hl (by decide) rfl (fun ls hl => ?_)
  refine lv_iload_n hx hb dX8_append_3 rfl (lv_at hl 0 rfl) ?_
  refine lv_if_lt (tgt := 49) hx hb dX8_append_4 (by decide) (fun c_1 => ?_) (fun c_1 => ?_)
  · exact absurd c_1 (by decide)
  · skip
    refine lv_aload_n hx hb dX8_append_7 rfl (lv_at hl 1 rfl) ?_
    refine gt_SP_tape_size hx hb hts hown hK hP lwd_293 dX8_append_8 ?_
    refine lv_sipush (v := 220) hx hb dX8_append_11 (by decide) ?_
    refine lv_icmp_ge (tgt := 49) hx hb dX8_append_14 (by decide) (fun c_2 => ?_) (fun c_2 => ?_)
    · have gc_2 : 220 ≤ v_tape_size.toInt := i_le (by decide : (220 : Int32).toInt = 220) (rfl : v_tape_size.toInt = v_tape_size.toInt) c_2
      exact hrt v_tape_size f_bytes ⟨(by omega), (by exfalso; omega), (by omega), hr_bytes⟩ hP hD hS dX8_append_49
    · have gc_2 : v_tape_size.toInt < 220 := i_nle (by decide : (220 : Int32).toInt = 220) (rfl : v_tape_size.toInt = v_tape_size.toInt) c_2
      refine lv_aload_n hx hb dX8_append_17 rfl (lv_at hl 1 rfl) ?_
      refine gt_SP_tape_bytes hx hb hts hown hK hP lwd_52 dX8_append_18 ?_
      refine lv_aload_n hx hb dX8_append_21 rfl (lv_at hl 1 rfl) ?_
      refine gt_SP_tape_size hx hb hts hown hK hP lwd_293 dX8_append_22 ?_
      refine lv_iload_n hx hb dX8_append_25 rfl (lv_at hl 2 rfl) ?_
      refine lv_iload_n hx hb dX8_append_26 rfl (lv_at hl 0 rfl) ?_
      obtain ⟨n_3, en_3⟩ : ∃ y : Int32, y = (x.toUInt32 >>> ((24 : Int32).toUInt32 &&& Int32.toUInt32 31)).toInt32 := ⟨_, rfl⟩
      refine lv_iushr (v := n_3) hx hb dX8_append_27 en_3.symm ?_
      skip
      refine lv_sipush (v := 255) hx hb dX8_append_28 (by decide) ?_
      refine lv_iand hx hb dX8_append_31 ?_
      refine lv_topi (fun n_4 en_4 => ?_)
      have bn_4 : 0 ≤ n_4.toInt ∧ n_4.toInt ≤ 255 := i_msk 8 en_4 (by decide) (by decide) (by decide)
      refine as_bytes (x := n_4) hx hb hK hP hD hS hr_bytes (i_in (rfl : v_tape_size.toInt = v_tape_size.toInt) (by omega) (by omega)) (by omega) dX8_append_32 (fun f_5 ef_5 rf_5 H locs hP hD hS => ?_)
      refine lv_aload_n hx hb dX8_append_33 rfl (lv_at hl 1 rfl) ?_
      refine lv_dup hx hb dX8_append_34 rfl ?_
      refine gt_SP_tape_size hx hb hts hown hK hP lwd_293 dX8_append_35 ?_
      refine lv_iconst (v := 1) hx hb dX8_append_38 (by decide) ?_
      refine lv_iadd hx hb dX8_append_39 ?_
      refine lv_topi (fun n_6 en_6 => ?_)
      have tn_6 : n_6.toInt = v_tape_size.toInt + 1 := i_add en_6 (rfl : v_tape_size.toInt = v_tape_size.toInt) (by decide : (1 : Int32).toInt = 1) (by omega) (by omega)
      refine pt_SP_tape_size (x := n_6) hx hb hts hown hK hP hD hS lwd_293 dX8_append_40 (fun H locs hP hD hS => ?_)
      refine lv_iinc (v := 16) (lv' := [(2, .int 16), (0, .ref (hs 1)), (1, .int x)]) hx hb dX8_append_43 hl (k := 0) rfl (by decide) (by decide) rfl (fun ls hl => ?_)
      refine lv_goto (tgt := 3) hx hb dX8_append_46 (by decide) ?_
      refine lv_iload_n hx hb dX8_append_3 rfl (lv_at hl 0 rfl) ?_
      refine lv_if_lt (tgt := 49) hx hb dX8_append_4 (by decide) (fun c_7 => ?_) (fun c_7 => ?_)
      · exact absurd c_7 (by decide)
      · skip
        refine lv_aload_n hx hb dX8_append_7 rfl (lv_at hl 1 rfl) ?_
        refine gt_SP_tape_size hx hb hts hown hK hP lwd_293 dX8_append_8 ?_
        refine lv_sipush (v := 220) hx hb dX8_append_11 (by decide) ?_
        refine lv_icmp_ge (tgt := 49) hx hb dX8_append_14 (by decide) (fun c_8 => ?_) (fun c_8 => ?_)
        · have gc_8 : 220 ≤ v_tape_size.toInt + 1 := i_le (by decide : (220 : Int32).toInt = 220) tn_6 c_8
          exact hrt n_6 f_5 ⟨(by omega), (by exfalso; omega), (by omega), rf_5⟩ hP hD hS dX8_append_49
        · have gc_8 : v_tape_size.toInt + 1 < 220 := i_nle (by decide : (220 : Int32).toInt = 220) tn_6 c_8
          refine lv_aload_n hx hb dX8_append_17 rfl (lv_at hl 1 rfl) ?_
          refine gt_SP_tape_bytes hx hb hts hown hK hP lwd_52 dX8_append_18 ?_
          refine lv_aload_n hx hb dX8_append_21 rfl (lv_at hl 1 rfl) ?_
          refine gt_SP_tape_size hx hb hts hown hK hP lwd_293 dX8_append_22 ?_
          refine lv_iload_n hx hb dX8_append_25 rfl (lv_at hl 2 rfl) ?_
          refine lv_iload_n hx hb dX8_append_26 rfl (lv_at hl 0 rfl) ?_
          obtain ⟨n_9, en_9⟩ : ∃ y : Int32, y = (x.toUInt32 >>> ((16 : Int32).toUInt32 &&& Int32.toUInt32 31)).toInt32 := ⟨_, rfl⟩
          refine lv_iushr (v := n_9) hx hb dX8_append_27 en_9.symm ?_
          skip
          refine lv_sipush (v := 255) hx hb dX8_append_28 (by decide) ?_
          refine lv_iand hx hb dX8_append_31 ?_
          refine lv_topi (fun n_10 en_10 => ?_)
          have bn_10 : 0 ≤ n_10.toInt ∧ n_10.toInt ≤ 255 := i_msk 8 en_10 (by decide) (by decide) (by decide)
          refine as_bytes (x := n_10) hx hb hK hP hD hS rf_5 (i_in tn_6 (by omega) (by omega)) (by omega) dX8_append_32 (fun f_11 ef_11 rf_11 H locs hP hD hS => ?_)
          refine lv_aload_n hx hb dX8_append_33 rfl (lv_at hl 1 rfl) ?_
          refine lv_dup hx hb dX8_append_34 rfl ?_
          refine gt_SP_tape_size hx hb hts hown hK hP lwd_293 dX8_append_35 ?_
          refine lv_iconst (v := 1) hx hb dX8_append_38 (by decide) ?_
          refine lv_iadd hx hb dX8_append_39 ?_
          refine lv_topi (fun n_12 en_12 => ?_)
          have tn_12 : n_12.toInt = (v_tape_size.toInt + 1) + 1 := i_add en_12 tn_6 (by decide : (1 : Int32).toInt = 1) (by omega) (by omega)
          refine pt_SP_tape_size (x := n_12) hx hb hts hown hK hP hD hS lwd_293 dX8_append_40 (fun H locs hP hD hS => ?_)
          refine lv_iinc (v := 8) (lv' := [(2, .int 8), (0, .ref (hs 1)), (1, .int x)]) hx hb dX8_append_43 hl (k := 0) rfl (by decide) (by decide) rfl (fun ls hl => ?_)
          refine lv_goto (tgt := 3) hx hb dX8_append_46 (by decide) ?_
          refine lv_iload_n hx hb dX8_append_3 rfl (lv_at hl 0 rfl) ?_
          refine lv_if_lt (tgt := 49) hx hb dX8_append_4 (by decide) (fun c_13 => ?_) (fun c_13 => ?_)
          · exact absurd c_13 (by decide)
          · skip
            refine lv_aload_n hx hb dX8_append_7 rfl (lv_at hl 1 rfl) ?_
            refine gt_SP_tape_size hx hb hts hown hK hP lwd_293 dX8_append_8 ?_
            refine lv_sipush (v := 220) hx hb dX8_append_11 (by decide) ?_
            refine lv_icmp_ge (tgt := 49) hx hb dX8_append_14 (by decide) (fun c_14 => ?_) (fun c_14 => ?_)
            · have gc_14 : 220 ≤ (v_tape_size.toInt + 1) + 1 := i_le (by decide : (220 : Int32).toInt = 220) tn_12 c_14
              exact hrt n_12 f_11 ⟨(by omega), (by exfalso; omega), (by omega), rf_11⟩ hP hD hS dX8_append_49
            · have gc_14 : (v_tape_size.toInt + 1) + 1 < 220 := i_nle (by decide : (220 : Int32).toInt = 220) tn_12 c_14
              refine lv_aload_n hx hb dX8_append_17 rfl (lv_at hl 1 rfl) ?_
              refine gt_SP_tape_bytes hx hb hts hown hK hP lwd_52 dX8_append_18 ?_
              refine lv_aload_n hx hb dX8_append_21 rfl (lv_at hl 1 rfl) ?_
              refine gt_SP_tape_size hx hb hts hown hK hP lwd_293 dX8_append_22 ?_
              refine lv_iload_n hx hb dX8_append_25 rfl (lv_at hl 2 rfl) ?_
              refine lv_iload_n hx hb dX8_append_26 rfl (lv_at hl 0 rfl) ?_
              obtain ⟨n_15, en_15⟩ : ∃ y : Int32, y = (x.toUInt32 >>> ((8 : Int32).toUInt32 &&& Int32.toUInt32 31)).toInt32 := ⟨_, rfl⟩
              refine lv_iushr (v := n_15) hx hb dX8_append_27 en_15.symm ?_
              skip
              refine lv_sipush (v := 255) hx hb dX8_append_28 (by decide) ?_
              refine lv_iand hx hb dX8_append_31 ?_
              refine lv_topi (fun n_16 en_16 => ?_)
              have bn_16 : 0 ≤ n_16.toInt ∧ n_16.toInt ≤ 255 := i_msk 8 en_16 (by decide) (by decide) (by decide)
              refine as_bytes (x := n_16) hx hb hK hP hD hS rf_11 (i_in tn_12 (by omega) (by omega)) (by omega) dX8_append_32 (fun f_17 ef_17 rf_17 H locs hP hD hS => ?_)
              refine lv_aload_n hx hb dX8_append_33 rfl (lv_at hl 1 rfl) ?_
              refine lv_dup hx hb dX8_append_34 rfl ?_
              refine gt_SP_tape_size hx hb hts hown hK hP lwd_293 dX8_append_35 ?_
              refine lv_iconst (v := 1) hx hb dX8_append_38 (by decide) ?_
              refine lv_iadd hx hb dX8_append_39 ?_
              refine lv_topi (fun n_18 en_18 => ?_)
              have tn_18 : n_18.toInt = ((v_tape_size.toInt + 1) + 1) + 1 := i_add en_18 tn_12 (by decide : (1 : Int32).toInt = 1) (by omega) (by omega)
              refine pt_SP_tape_size (x := n_18) hx hb hts hown hK hP hD hS lwd_293 dX8_append_40 (fun H locs hP hD hS => ?_)
              refine lv_iinc (v := 0) (lv' := [(2, .int 0), (0, .ref (hs 1)), (1, .int x)]) hx hb dX8_append_43 hl (k := 0) rfl (by decide) (by decide) rfl (fun ls hl => ?_)
              refine lv_goto (tgt := 3) hx hb dX8_append_46 (by decide) ?_
              refine lv_iload_n hx hb dX8_append_3 rfl (lv_at hl 0 rfl) ?_
              refine lv_if_lt (tgt := 49) hx hb dX8_append_4 (by decide) (fun c_19 => ?_) (fun c_19 => ?_)
              · exact absurd c_19 (by decide)
              · skip
                refine lv_aload_n hx hb dX8_append_7 rfl (lv_at hl 1 rfl) ?_
                refine gt_SP_tape_size hx hb hts hown hK hP lwd_293 dX8_append_8 ?_
                refine lv_sipush (v := 220) hx hb dX8_append_11 (by decide) ?_
                refine lv_icmp_ge (tgt := 49) hx hb dX8_append_14 (by decide) (fun c_20 => ?_) (fun c_20 => ?_)
                · have gc_20 : 220 ≤ ((v_tape_size.toInt + 1) + 1) + 1 := i_le (by decide : (220 : Int32).toInt = 220) tn_18 c_20
                  exact hrt n_18 f_17 ⟨(by omega), (by exfalso; omega), (by omega), rf_17⟩ hP hD hS dX8_append_49
                · have gc_20 : ((v_tape_size.toInt + 1) + 1) + 1 < 220 := i_nle (by decide : (220 : Int32).toInt = 220) tn_18 c_20
                  refine lv_aload_n hx hb dX8_append_17 rfl (lv_at hl 1 rfl) ?_
                  refine gt_SP_tape_bytes hx hb hts hown hK hP lwd_52 dX8_append_18 ?_
                  refine lv_aload_n hx hb dX8_append_21 rfl (lv_at hl 1 rfl) ?_
                  refine gt_SP_tape_size hx hb hts hown hK hP lwd_293 dX8_append_22 ?_
                  refine lv_iload_n hx hb dX8_append_25 rfl (lv_at hl 2 rfl) ?_
                  refine lv_iload_n hx hb dX8_append_26 rfl (lv_at hl 0 rfl) ?_
                  obtain ⟨n_21, en_21⟩ : ∃ y : Int32, y = (x.toUInt32 >>> ((0 : Int32).toUInt32 &&& Int32.toUInt32 31)).toInt32 := ⟨_, rfl⟩
                  refine lv_iushr (v := n_21) hx hb dX8_append_27 en_21.symm ?_
                  skip
                  refine lv_sipush (v := 255) hx hb dX8_append_28 (by decide) ?_
                  refine lv_iand hx hb dX8_append_31 ?_
                  refine lv_topi (fun n_22 en_22 => ?_)
                  have bn_22 : 0 ≤ n_22.toInt ∧ n_22.toInt ≤ 255 := i_msk 8 en_22 (by decide) (by decide) (by decide)
                  refine as_bytes (x := n_22) hx hb hK hP hD hS rf_17 (i_in tn_18 (by omega) (by omega)) (by omega) dX8_append_32 (fun f_23 ef_23 rf_23 H locs hP hD hS => ?_)
                  refine lv_aload_n hx hb dX8_append_33 rfl (lv_at hl 1 rfl) ?_
                  refine lv_dup hx hb dX8_append_34 rfl ?_
                  refine gt_SP_tape_size hx hb hts hown hK hP lwd_293 dX8_append_35 ?_
                  refine lv_iconst (v := 1) hx hb dX8_append_38 (by decide) ?_
                  refine lv_iadd hx hb dX8_append_39 ?_
                  refine lv_topi (fun n_24 en_24 => ?_)
                  have tn_24 : n_24.toInt = (((v_tape_size.toInt + 1) + 1) + 1) + 1 := i_add en_24 tn_18 (by decide : (1 : Int32).toInt = 1) (by omega) (by omega)
                  refine pt_SP_tape_size (x := n_24) hx hb hts hown hK hP hD hS lwd_293 dX8_append_40 (fun H locs hP hD hS => ?_)
                  refine lv_iinc (v := (-8)) (lv' := [(2, .int (-8)), (0, .ref (hs 1)), (1, .int x)]) hx hb dX8_append_43 hl (k := 0) rfl (by decide) (by decide) rfl (fun ls hl => ?_)
                  refine lv_goto (tgt := 3) hx hb dX8_append_46 (by decide) ?_
                  refine lv_iload_n hx hb dX8_append_3 rfl (lv_at hl 0 rfl) ?_
                  refine lv_if_lt (tgt := 49) hx hb dX8_append_4 (by decide) (fun c_25 => ?_) (fun c_25 => ?_)
                  · skip
                    exact hrt n_24 f_23 ⟨(by omega), (by
                      unfold ap4 u8
                      rw [ef_23, ef_17, ef_11, ef_5, show n_6.toNatClampNeg = v_tape_size.toNatClampNeg + 1 from by rw [i_ix tn_6, i_ix (rfl : v_tape_size.toInt = v_tape_size.toInt)]; omega, show n_12.toNatClampNeg = v_tape_size.toNatClampNeg + 2 from by rw [i_ix tn_12, i_ix (rfl : v_tape_size.toInt = v_tape_size.toInt)]; omega, show n_18.toNatClampNeg = v_tape_size.toNatClampNeg + 3 from by rw [i_ix tn_18, i_ix (rfl : v_tape_size.toInt = v_tape_size.toInt)]; omega, en_4, en_3, en_10, en_9, en_16, en_15, en_22, en_21]), (by omega), rf_23⟩ hP hD hS dX8_append_49
                  · exact absurd c_25 (by decide)
set_option maxHeartbeats 16000000 in
set_option maxRecDepth 100000 in
theorem c_X9_feed_q (l : Launch) (D : va_G) (cy : Nat → ClassId) (hs : Nat → Nat) (hH hT sH sT : Nat) (v_tape_size v_band_walkers v_band_loads v_band_pieces v_rules_clauses v_reader_end v_reader_at v_reader_length v_reader_letter v_reader_fault v_draft_clauses v_paces_version v_packing_quicker v_packing_loads v_packing_looseCount v_marches_told v_marches_changeMinutes v_marches_marching v_marches_gone v_search_known v_search_countHere v_search_countThere v_search_cost v_search_most : Int32) (v_search_found : Int64) (f_bytes f_knee f_weight f_limps f_bheft f_owner f_food f_miles f_slope f_rsteps f_rkind f_ryields f_rholds f_rletters f_rstack f_dsteps f_dkind f_dyields f_dholds f_dletters f_dstack f_caps f_versions f_sharing f_pheft f_prow f_holder f_comes f_pcaps f_room f_loose f_reached f_mrow f_minutesOn f_mtired : Nat → Int32) (f_here f_there : Nat → Int64) (f_statesHere f_statesThere f_listed f_stired f_burdens f_pacesOn f_restedOn f_behindOn f_behindFor f_first f_second : Nat → Int32) (f_plans f_tiredOn : Nat → Nat → Int32) (tS : Nat) (sz : Nat) (a1 : Int32) (a2 : Int32) (a3 : Int32) (a4 : Int32) (a5 : Int32) (hb_v_tape_size : 0 ≤ v_tape_size.toInt ∧ v_tape_size.toInt ≤ 220) (hr_bytes : rg (0) 255 f_bytes) : gMi l yX9_feed cX9_feed 6 .int 2 [.ref (hs 0), .int a1, .int a2, .int a3, .int a4, .int a5] D cy (wSP cy hs hH hT sH sT v_tape_size v_band_walkers v_band_loads v_band_pieces v_rules_clauses v_reader_end v_reader_at v_reader_length v_reader_letter v_reader_fault v_draft_clauses v_paces_version v_packing_quicker v_packing_loads v_packing_looseCount v_marches_told v_marches_changeMinutes v_marches_marching v_marches_gone v_search_known v_search_countHere v_search_countThere v_search_cost v_search_most v_search_found f_bytes f_knee f_weight f_limps f_bheft f_owner f_food f_miles f_slope f_rsteps f_rkind f_ryields f_rholds f_rletters f_rstack f_dsteps f_dkind f_dyields f_dholds f_dletters f_dstack f_caps f_versions f_sharing f_pheft f_prow f_holder f_comes f_pcaps f_room f_loose f_reached f_mrow f_minutesOn f_mtired f_here f_there f_statesHere f_statesThere f_listed f_stired f_burdens f_pacesOn f_restedOn f_behindOn f_behindFor f_first f_second f_plans f_tiredOn) (NS tS) sz (fun (r : Int32) (u : Int32 × (Nat → Int32)) => ((r.toInt = v_tape_size.toInt + 20 ∧ v_tape_size.toInt ≤ 200 ∧ (u.1).toInt = v_tape_size.toInt + 20) ∨ (r.toInt = -1 ∧ 200 < v_tape_size.toInt ∧ (u.1).toInt = v_tape_size.toInt)) ∧ ((r.toInt ≠ -1 → (u.2) = (ap4 (ap4 (ap4 (ap4 (ap4 f_bytes v_tape_size.toNatClampNeg a1) (v_tape_size.toNatClampNeg + 4) a2) (v_tape_size.toNatClampNeg + 8) a3) (v_tape_size.toNatClampNeg + 12) a4) (v_tape_size.toNatClampNeg + 16) a5)) ∧ (r.toInt = -1 → (u.2) = f_bytes)) ∧ (0 ≤ (u.1).toInt ∧ (u.1).toInt ≤ 220) ∧ (rg (0) 255 (u.2))) (fun u => wSP cy hs hH hT sH sT (u.1) v_band_walkers v_band_loads v_band_pieces v_rules_clauses v_reader_end v_reader_at v_reader_length v_reader_letter v_reader_fault v_draft_clauses v_paces_version v_packing_quicker v_packing_loads v_packing_looseCount v_marches_told v_marches_changeMinutes v_marches_marching v_marches_gone v_search_known v_search_countHere v_search_countThere v_search_cost v_search_most v_search_found (u.2) f_knee f_weight f_limps f_bheft f_owner f_food f_miles f_slope f_rsteps f_rkind f_ryields f_rholds f_rletters f_rstack f_dsteps f_dkind f_dyields f_dholds f_dletters f_dstack f_caps f_versions f_sharing f_pheft f_prow f_holder f_comes f_pcaps f_room f_loose f_reached f_mrow f_minutesOn f_mtired f_here f_there f_statesHere f_statesThere f_listed f_stired f_burdens f_pacesOn f_restedOn f_behindOn f_behindFor f_first f_second f_plans f_tiredOn) := by
  refine gMi_in (by decide) (Nat.le_of_ble_eq_true rfl) ?_
  intro p e s m args below meth c A ls Q hx hb hml hts hown hsz hP hK hD hN hAe hA hS hl hret
  subst hsz
  have hl : lv_has ls 6 [(0, .ref (hs 0)), (1, .int a1), (2, .int a2), (3, .int a3), (4, .int a4), (5, .int a5)] := hl
  have hrt := fun (r : Int32) (v_tape_size' : Int32) (f_bytes' : Nat → Int32) (hp : ((r.toInt = v_tape_size.toInt + 20 ∧ v_tape_size.toInt ≤ 200 ∧ v_tape_size'.toInt = v_tape_size.toInt + 20) ∨ (r.toInt = -1 ∧ 200 < v_tape_size.toInt ∧ v_tape_size'.toInt = v_tape_size.toInt)) ∧ ((r.toInt ≠ -1 → f_bytes' = (ap4 (ap4 (ap4 (ap4 (ap4 f_bytes v_tape_size.toNatClampNeg a1) (v_tape_size.toNatClampNeg + 4) a2) (v_tape_size.toNatClampNeg + 8) a3) (v_tape_size.toNatClampNeg + 12) a4) (v_tape_size.toNatClampNeg + 16) a5)) ∧ (r.toInt = -1 → f_bytes' = f_bytes)) ∧ (0 ≤ v_tape_size'.toInt ∧ v_tape_size'.toInt ≤ 220) ∧ (rg (0) 255 f_bytes')) {H : Heap} {locs : List Loc} {pc : Nat} {ls : Array Slot} => hret r (v_tape_size', f_bytes') (H := H) (locs := locs) (pc := pc) (ls := ls) hp
  clear hret
  refine lv_aload_n hx hb dX9_feed_0 rfl (lv_at hl 0 rfl) ?_
  refine gt_SP_SP_tape hx hb hts hown hK hP lwd_15 dX9_feed_1 ?_
  refine gt_SP_tape_size hx hb hts hown hK hP lwd_288 dX9_feed_4 ?_
  refine lv_bipush (v := 20) hx hb dX9_feed_7 (by decide) ?_
  refine lv_iadd hx hb dX9_feed_9 ?_
  refine lv_topi (fun n_1 en_1 => ?_)
  have tn_1 : n_1.toInt = v_tape_size.toInt + 20 := i_add en_1 (rfl : v_tape_size.toInt = v_tape_size.toInt) (by decide : (20 : Int32).toInt = 20) (by omega) (by omega)
  refine lv_sipush (v := 220) hx hb dX9_feed_10 (by decide) ?_
  refine lv_icmp_le (tgt := 18) hx hb dX9_feed_13 (by decide) (fun c_2 => ?_) (fun c_2 => ?_)
  · have gc_2 : v_tape_size.toInt + 20 ≤ 220 := i_le tn_1 (by decide : (220 : Int32).toInt = 220) c_2
    refine lv_aload_n hx hb dX9_feed_18 rfl (lv_at hl 0 rfl) ?_
    refine gt_SP_SP_tape hx hb hts hown hK hP lwd_15 dX9_feed_19 ?_
    refine lv_iload_n hx hb dX9_feed_22 rfl (lv_at hl 1 rfl) ?_
    refine xv hD hS hA (xV (As := [.int a1]) (rest := []) hx hb hml hown hts hK hP hD hS hA NS_ok hN hAe hl.1 ⟨Nat.le_refl _, Nat.le_refl _⟩ 1 rfl rfl rfl (c_X8_append_q l D cy hs hH hT sH sT v_tape_size v_band_walkers v_band_loads v_band_pieces v_rules_clauses v_reader_end v_reader_at v_reader_length v_reader_letter v_reader_fault v_draft_clauses v_paces_version v_packing_quicker v_packing_loads v_packing_looseCount v_marches_told v_marches_changeMinutes v_marches_marching v_marches_gone v_search_known v_search_countHere v_search_countThere v_search_cost v_search_most v_search_found f_bytes f_knee f_weight f_limps f_bheft f_owner f_food f_miles f_slope f_rsteps f_rkind f_ryields f_rholds f_rletters f_rstack f_dsteps f_dkind f_dyields f_dholds f_dletters f_dstack f_caps f_versions f_sharing f_pheft f_prow f_holder f_comes f_pcaps f_room f_loose f_reached f_mrow f_minutesOn f_mtired f_here f_there f_statesHere f_statesThere f_listed f_stired f_burdens f_pacesOn f_restedOn f_behindOn f_behindFor f_first f_second f_plans f_tiredOn tS s.heap.size a1 (by omega) hr_bytes (by omega)) (gi_V lwd_289 lwd_290 lwd_291 lwd_14 lwd_292) ⟨rfl, hd_X8_append⟩ ⟨Nat.le_of_ble_eq_true rfl, Nat.le_of_ble_eq_true rfl⟩ rfl (Nat.le_of_ble_eq_true rfl) dX9_feed_23) (fun u_3 H locs hw hP hD hS => ?_)
    obtain ⟨ztape_size_5, zbytes_6⟩ := u_3
    try dsimp only at hw hP hD
    obtain ⟨p_7, p_8, p_9, p_10⟩ := hw
    skip
    refine lv_aload_n hx hb dX9_feed_26 rfl (lv_at hl 0 rfl) ?_
    refine gt_SP_SP_tape hx hb hts hown hK hP lwd_15 dX9_feed_27 ?_
    refine lv_iload_n hx hb dX9_feed_30 rfl (lv_at hl 2 rfl) ?_
    refine xv hD hS hA (xV (As := [.int a2]) (rest := []) hx hb hml hown hts hK hP hD hS hA NS_ok hN hAe hl.1 ⟨Nat.le_refl _, Nat.le_refl _⟩ 1 rfl rfl rfl (c_X8_append_q l D cy hs hH hT sH sT ztape_size_5 v_band_walkers v_band_loads v_band_pieces v_rules_clauses v_reader_end v_reader_at v_reader_length v_reader_letter v_reader_fault v_draft_clauses v_paces_version v_packing_quicker v_packing_loads v_packing_looseCount v_marches_told v_marches_changeMinutes v_marches_marching v_marches_gone v_search_known v_search_countHere v_search_countThere v_search_cost v_search_most v_search_found zbytes_6 f_knee f_weight f_limps f_bheft f_owner f_food f_miles f_slope f_rsteps f_rkind f_ryields f_rholds f_rletters f_rstack f_dsteps f_dkind f_dyields f_dholds f_dletters f_dstack f_caps f_versions f_sharing f_pheft f_prow f_holder f_comes f_pcaps f_room f_loose f_reached f_mrow f_minutesOn f_mtired f_here f_there f_statesHere f_statesThere f_listed f_stired f_burdens f_pacesOn f_restedOn f_behindOn f_behindFor f_first f_second f_plans f_tiredOn tS H.size a2 (by omega) p_10 (by omega)) (gi_V lwd_289 lwd_290 lwd_291 lwd_14 lwd_292) ⟨rfl, hd_X8_append⟩ ⟨Nat.le_of_ble_eq_true rfl, Nat.le_of_ble_eq_true rfl⟩ rfl (Nat.le_of_ble_eq_true rfl) dX9_feed_31) (fun u_11 H locs hw hP hD hS => ?_)
    obtain ⟨ztape_size_13, zbytes_14⟩ := u_11
    try dsimp only at hw hP hD
    obtain ⟨p_15, p_16, p_17, p_18⟩ := hw
    skip
    refine lv_aload_n hx hb dX9_feed_34 rfl (lv_at hl 0 rfl) ?_
    refine gt_SP_SP_tape hx hb hts hown hK hP lwd_15 dX9_feed_35 ?_
    refine lv_iload_n hx hb dX9_feed_38 rfl (lv_at hl 3 rfl) ?_
    refine xv hD hS hA (xV (As := [.int a3]) (rest := []) hx hb hml hown hts hK hP hD hS hA NS_ok hN hAe hl.1 ⟨Nat.le_refl _, Nat.le_refl _⟩ 1 rfl rfl rfl (c_X8_append_q l D cy hs hH hT sH sT ztape_size_13 v_band_walkers v_band_loads v_band_pieces v_rules_clauses v_reader_end v_reader_at v_reader_length v_reader_letter v_reader_fault v_draft_clauses v_paces_version v_packing_quicker v_packing_loads v_packing_looseCount v_marches_told v_marches_changeMinutes v_marches_marching v_marches_gone v_search_known v_search_countHere v_search_countThere v_search_cost v_search_most v_search_found zbytes_14 f_knee f_weight f_limps f_bheft f_owner f_food f_miles f_slope f_rsteps f_rkind f_ryields f_rholds f_rletters f_rstack f_dsteps f_dkind f_dyields f_dholds f_dletters f_dstack f_caps f_versions f_sharing f_pheft f_prow f_holder f_comes f_pcaps f_room f_loose f_reached f_mrow f_minutesOn f_mtired f_here f_there f_statesHere f_statesThere f_listed f_stired f_burdens f_pacesOn f_restedOn f_behindOn f_behindFor f_first f_second f_plans f_tiredOn tS H.size a3 (by omega) p_18 (by omega)) (gi_V lwd_289 lwd_290 lwd_291 lwd_14 lwd_292) ⟨rfl, hd_X8_append⟩ ⟨Nat.le_of_ble_eq_true rfl, Nat.le_of_ble_eq_true rfl⟩ rfl (Nat.le_of_ble_eq_true rfl) dX9_feed_39) (fun u_19 H locs hw hP hD hS => ?_)
    obtain ⟨ztape_size_21, zbytes_22⟩ := u_19
    try dsimp only at hw hP hD
    obtain ⟨p_23, p_24, p_25, p_26⟩ := hw
    skip
    refine lv_aload_n hx hb dX9_feed_42 rfl (lv_at hl 0 rfl) ?_
    refine gt_SP_SP_tape hx hb hts hown hK hP lwd_15 dX9_feed_43 ?_
    refine lv_iload hx hb dX9_feed_46 (lv_at hl 4 rfl) ?_
    refine xv hD hS hA (xV (As := [.int a4]) (rest := []) hx hb hml hown hts hK hP hD hS hA NS_ok hN hAe hl.1 ⟨Nat.le_refl _, Nat.le_refl _⟩ 1 rfl rfl rfl (c_X8_append_q l D cy hs hH hT sH sT ztape_size_21 v_band_walkers v_band_loads v_band_pieces v_rules_clauses v_reader_end v_reader_at v_reader_length v_reader_letter v_reader_fault v_draft_clauses v_paces_version v_packing_quicker v_packing_loads v_packing_looseCount v_marches_told v_marches_changeMinutes v_marches_marching v_marches_gone v_search_known v_search_countHere v_search_countThere v_search_cost v_search_most v_search_found zbytes_22 f_knee f_weight f_limps f_bheft f_owner f_food f_miles f_slope f_rsteps f_rkind f_ryields f_rholds f_rletters f_rstack f_dsteps f_dkind f_dyields f_dholds f_dletters f_dstack f_caps f_versions f_sharing f_pheft f_prow f_holder f_comes f_pcaps f_room f_loose f_reached f_mrow f_minutesOn f_mtired f_here f_there f_statesHere f_statesThere f_listed f_stired f_burdens f_pacesOn f_restedOn f_behindOn f_behindFor f_first f_second f_plans f_tiredOn tS H.size a4 (by omega) p_26 (by omega)) (gi_V lwd_289 lwd_290 lwd_291 lwd_14 lwd_292) ⟨rfl, hd_X8_append⟩ ⟨Nat.le_of_ble_eq_true rfl, Nat.le_of_ble_eq_true rfl⟩ rfl (Nat.le_of_ble_eq_true rfl) dX9_feed_48) (fun u_27 H locs hw hP hD hS => ?_)
    obtain ⟨ztape_size_29, zbytes_30⟩ := u_27
    try dsimp only at hw hP hD
    obtain ⟨p_31, p_32, p_33, p_34⟩ := hw
    skip
    refine lv_aload_n hx hb dX9_feed_51 rfl (lv_at hl 0 rfl) ?_
    refine gt_SP_SP_tape hx hb hts hown hK hP lwd_15 dX9_feed_52 ?_
    refine lv_iload hx hb dX9_feed_55 (lv_at hl 5 rfl) ?_
    refine xv hD hS hA (xV (As := [.int a5]) (rest := []) hx hb hml hown hts hK hP hD hS hA NS_ok hN hAe hl.1 ⟨Nat.le_refl _, Nat.le_refl _⟩ 1 rfl rfl rfl (c_X8_append_q l D cy hs hH hT sH sT ztape_size_29 v_band_walkers v_band_loads v_band_pieces v_rules_clauses v_reader_end v_reader_at v_reader_length v_reader_letter v_reader_fault v_draft_clauses v_paces_version v_packing_quicker v_packing_loads v_packing_looseCount v_marches_told v_marches_changeMinutes v_marches_marching v_marches_gone v_search_known v_search_countHere v_search_countThere v_search_cost v_search_most v_search_found zbytes_30 f_knee f_weight f_limps f_bheft f_owner f_food f_miles f_slope f_rsteps f_rkind f_ryields f_rholds f_rletters f_rstack f_dsteps f_dkind f_dyields f_dholds f_dletters f_dstack f_caps f_versions f_sharing f_pheft f_prow f_holder f_comes f_pcaps f_room f_loose f_reached f_mrow f_minutesOn f_mtired f_here f_there f_statesHere f_statesThere f_listed f_stired f_burdens f_pacesOn f_restedOn f_behindOn f_behindFor f_first f_second f_plans f_tiredOn tS H.size a5 (by omega) p_34 (by omega)) (gi_V lwd_289 lwd_290 lwd_291 lwd_14 lwd_292) ⟨rfl, hd_X8_append⟩ ⟨Nat.le_of_ble_eq_true rfl, Nat.le_of_ble_eq_true rfl⟩ rfl (Nat.le_of_ble_eq_true rfl) dX9_feed_57) (fun u_35 H locs hw hP hD hS => ?_)
    obtain ⟨ztape_size_37, zbytes_38⟩ := u_35
    try dsimp only at hw hP hD
    obtain ⟨p_39, p_40, p_41, p_42⟩ := hw
    skip
    refine lv_aload_n hx hb dX9_feed_60 rfl (lv_at hl 0 rfl) ?_
    refine gt_SP_SP_tape hx hb hts hown hK hP lwd_15 dX9_feed_61 ?_
    refine gt_SP_tape_size hx hb hts hown hK hP lwd_288 dX9_feed_64 ?_
    exact hrt ztape_size_37 ztape_size_37 zbytes_38 ⟨(by omega), ⟨fun _ => by
      rw [p_40, p_32, p_24, p_16, p_8, show ztape_size_5.toNatClampNeg = v_tape_size.toNatClampNeg + 4 from by rw [i_ix (rfl : ztape_size_5.toInt = ztape_size_5.toInt), i_ix (rfl : v_tape_size.toInt = v_tape_size.toInt)]; omega, show ztape_size_13.toNatClampNeg = v_tape_size.toNatClampNeg + 8 from by rw [i_ix (rfl : ztape_size_13.toInt = ztape_size_13.toInt), i_ix (rfl : v_tape_size.toInt = v_tape_size.toInt)]; omega, show ztape_size_21.toNatClampNeg = v_tape_size.toNatClampNeg + 12 from by rw [i_ix (rfl : ztape_size_21.toInt = ztape_size_21.toInt), i_ix (rfl : v_tape_size.toInt = v_tape_size.toInt)]; omega, show ztape_size_29.toNatClampNeg = v_tape_size.toNatClampNeg + 16 from by rw [i_ix (rfl : ztape_size_29.toInt = ztape_size_29.toInt), i_ix (rfl : v_tape_size.toInt = v_tape_size.toInt)]; omega], fun h => absurd h (by omega)⟩, (by omega), p_42⟩ hP hD hS rfl dX9_feed_67
  · have gc_2 : 220 < v_tape_size.toInt + 20 := i_nle tn_1 (by decide : (220 : Int32).toInt = 220) c_2
    refine lv_iconst (v := (-1)) hx hb dX9_feed_16 (by decide) ?_
    have k_43 : ((-1) : Int32).toInt = (-1) := by decide
    exact hrt (-1) v_tape_size f_bytes ⟨(by omega), ⟨fun h => absurd h (by omega), fun _ => rfl⟩, (by omega), hr_bytes⟩ hP hD hS rfl dX9_feed_17
set_option maxHeartbeats 16000000 in
set_option maxRecDepth 100000 in
theorem c_X9_text_q (l : Launch) (D : va_G) (cy : Nat → ClassId) (hs : Nat → Nat) (hH hT sH sT : Nat) (v_tape_size v_band_walkers v_band_loads v_band_pieces v_rules_clauses v_reader_end v_reader_at v_reader_length v_reader_letter v_reader_fault v_draft_clauses v_paces_version v_packing_quicker v_packing_loads v_packing_looseCount v_marches_told v_marches_changeMinutes v_marches_marching v_marches_gone v_search_known v_search_countHere v_search_countThere v_search_cost v_search_most : Int32) (v_search_found : Int64) (f_bytes f_knee f_weight f_limps f_bheft f_owner f_food f_miles f_slope f_rsteps f_rkind f_ryields f_rholds f_rletters f_rstack f_dsteps f_dkind f_dyields f_dholds f_dletters f_dstack f_caps f_versions f_sharing f_pheft f_prow f_holder f_comes f_pcaps f_room f_loose f_reached f_mrow f_minutesOn f_mtired : Nat → Int32) (f_here f_there : Nat → Int64) (f_statesHere f_statesThere f_listed f_stired f_burdens f_pacesOn f_restedOn f_behindOn f_behindFor f_first f_second : Nat → Int32) (f_plans f_tiredOn : Nat → Nat → Int32) (tS : Nat) (sz : Nat) (n1 : Int32) (hb_v_tape_size : 0 ≤ v_tape_size.toInt ∧ v_tape_size.toInt ≤ 220) (hb_v_rules_clauses : 0 ≤ v_rules_clauses.toInt ∧ v_rules_clauses.toInt ≤ 14) (hb_v_reader_at : 0 ≤ v_reader_at.toInt ∧ v_reader_at.toInt ≤ 220) (hb_v_reader_length : 0 ≤ v_reader_length.toInt ∧ v_reader_length.toInt ≤ 256) (hb_v_draft_clauses : 0 ≤ v_draft_clauses.toInt ∧ v_draft_clauses.toInt ≤ 14) (hb_v_search_known : 0 ≤ v_search_known.toInt ∧ v_search_known.toInt ≤ 1) (hr_bytes : rg (0) 255 f_bytes) : gMi l yX9_text cX9_text 3 .int 29 [.ref (hs 0), .int n1] D cy (wSP cy hs hH hT sH sT v_tape_size v_band_walkers v_band_loads v_band_pieces v_rules_clauses v_reader_end v_reader_at v_reader_length v_reader_letter v_reader_fault v_draft_clauses v_paces_version v_packing_quicker v_packing_loads v_packing_looseCount v_marches_told v_marches_changeMinutes v_marches_marching v_marches_gone v_search_known v_search_countHere v_search_countThere v_search_cost v_search_most v_search_found f_bytes f_knee f_weight f_limps f_bheft f_owner f_food f_miles f_slope f_rsteps f_rkind f_ryields f_rholds f_rletters f_rstack f_dsteps f_dkind f_dyields f_dholds f_dletters f_dstack f_caps f_versions f_sharing f_pheft f_prow f_holder f_comes f_pcaps f_room f_loose f_reached f_mrow f_minutesOn f_mtired f_here f_there f_statesHere f_statesThere f_listed f_stired f_burdens f_pacesOn f_restedOn f_behindOn f_behindFor f_first f_second f_plans f_tiredOn) (NS tS) sz (fun (r : Int32) (u : Int32 × Int32 × Int32 × Int32 × Int32 × Int32 × Int32 × Int32 × Int32 × Int32 × (Nat → Int32) × (Nat → Int32) × (Nat → Int32) × (Nat → Int32) × (Nat → Int32) × (Nat → Int32) × (Nat → Int32) × (Nat → Int32)) => (((1 ≤ n1.toInt ∧ n1.toInt ≤ 200 ∧ n1.toInt ≤ v_tape_size.toInt) ∧ (u.1).toInt = 0) ∨ (¬ (1 ≤ n1.toInt ∧ n1.toInt ≤ 200 ∧ n1.toInt ≤ v_tape_size.toInt) ∧ (u.1).toInt = v_tape_size.toInt)) ∧ (0 ≤ (u.1).toInt ∧ (u.1).toInt ≤ 220) ∧ (0 ≤ (u.2.1).toInt ∧ (u.2.1).toInt ≤ 14) ∧ (0 ≤ (u.2.2.2.1).toInt ∧ (u.2.2.2.1).toInt ≤ 220) ∧ (0 ≤ (u.2.2.2.2.1).toInt ∧ (u.2.2.2.2.1).toInt ≤ 256) ∧ (0 ≤ (u.2.2.2.2.2.2.2.1).toInt ∧ (u.2.2.2.2.2.2.2.1).toInt ≤ 14) ∧ (0 ≤ (u.2.2.2.2.2.2.2.2.2.1).toInt ∧ (u.2.2.2.2.2.2.2.2.2.1).toInt ≤ 1)) (fun u => wSP cy hs hH hT sH sT (u.1) v_band_walkers v_band_loads v_band_pieces (u.2.1) (u.2.2.1) (u.2.2.2.1) (u.2.2.2.2.1) (u.2.2.2.2.2.1) (u.2.2.2.2.2.2.1) (u.2.2.2.2.2.2.2.1) (u.2.2.2.2.2.2.2.2.1) v_packing_quicker v_packing_loads v_packing_looseCount v_marches_told v_marches_changeMinutes v_marches_marching v_marches_gone (u.2.2.2.2.2.2.2.2.2.1) v_search_countHere v_search_countThere v_search_cost v_search_most v_search_found f_bytes f_knee f_weight f_limps f_bheft f_owner f_food f_miles f_slope (u.2.2.2.2.2.2.2.2.2.2.1) (u.2.2.2.2.2.2.2.2.2.2.2.1) (u.2.2.2.2.2.2.2.2.2.2.2.2.1) (u.2.2.2.2.2.2.2.2.2.2.2.2.2.1) f_rletters f_rstack (u.2.2.2.2.2.2.2.2.2.2.2.2.2.2.1) (u.2.2.2.2.2.2.2.2.2.2.2.2.2.2.2.1) (u.2.2.2.2.2.2.2.2.2.2.2.2.2.2.2.2.1) (u.2.2.2.2.2.2.2.2.2.2.2.2.2.2.2.2.2) f_dletters f_dstack f_caps f_versions f_sharing f_pheft f_prow f_holder f_comes f_pcaps f_room f_loose f_reached f_mrow f_minutesOn f_mtired f_here f_there f_statesHere f_statesThere f_listed f_stired f_burdens f_pacesOn f_restedOn f_behindOn f_behindFor f_first f_second f_plans f_tiredOn) := by
  refine gMi_in (by decide) (Nat.le_of_ble_eq_true rfl) ?_
  intro p e s m args below meth c A ls Q hx hb hml hts hown hsz hP hK hD hN hAe hA hS hl hret
  subst hsz
  have hl : lv_has ls 3 [(0, .ref (hs 0)), (1, .int n1)] := hl
  have hrt := fun (r : Int32) (v_tape_size' : Int32) (v_rules_clauses' : Int32) (v_reader_end' : Int32) (v_reader_at' : Int32) (v_reader_length' : Int32) (v_reader_letter' : Int32) (v_reader_fault' : Int32) (v_draft_clauses' : Int32) (v_paces_version' : Int32) (v_search_known' : Int32) (f_rsteps' : Nat → Int32) (f_rkind' : Nat → Int32) (f_ryields' : Nat → Int32) (f_rholds' : Nat → Int32) (f_dsteps' : Nat → Int32) (f_dkind' : Nat → Int32) (f_dyields' : Nat → Int32) (f_dholds' : Nat → Int32) (hp : (((1 ≤ n1.toInt ∧ n1.toInt ≤ 200 ∧ n1.toInt ≤ v_tape_size.toInt) ∧ v_tape_size'.toInt = 0) ∨ (¬ (1 ≤ n1.toInt ∧ n1.toInt ≤ 200 ∧ n1.toInt ≤ v_tape_size.toInt) ∧ v_tape_size'.toInt = v_tape_size.toInt)) ∧ (0 ≤ v_tape_size'.toInt ∧ v_tape_size'.toInt ≤ 220) ∧ (0 ≤ v_rules_clauses'.toInt ∧ v_rules_clauses'.toInt ≤ 14) ∧ (0 ≤ v_reader_at'.toInt ∧ v_reader_at'.toInt ≤ 220) ∧ (0 ≤ v_reader_length'.toInt ∧ v_reader_length'.toInt ≤ 256) ∧ (0 ≤ v_draft_clauses'.toInt ∧ v_draft_clauses'.toInt ≤ 14) ∧ (0 ≤ v_search_known'.toInt ∧ v_search_known'.toInt ≤ 1)) {H : Heap} {locs : List Loc} {pc : Nat} {ls : Array Slot} => hret r (v_tape_size', v_rules_clauses', v_reader_end', v_reader_at', v_reader_length', v_reader_letter', v_reader_fault', v_draft_clauses', v_paces_version', v_search_known', f_rsteps', f_rkind', f_ryields', f_rholds', f_dsteps', f_dkind', f_dyields', f_dholds') (H := H) (locs := locs) (pc := pc) (ls := ls) hp
  clear hret
  refine lv_iload_n hx hb dX9_text_0 rfl (lv_at hl 1 rfl) ?_
  refine lv_iconst (v := 1) hx hb dX9_text_1 (by decide) ?_
  refine lv_icmp_lt (tgt := 23) hx hb dX9_text_2 (by decide) (fun c_1 => ?_) (fun c_1 => ?_)
  · have gc_1 : n1.toInt < 1 := i_lt (rfl : n1.toInt = n1.toInt) (by decide : (1 : Int32).toInt = 1) c_1
    refine lv_iconst (v := (-1)) hx hb dX9_text_23 (by decide) ?_
    have k_2 : ((-1) : Int32).toInt = (-1) := by decide
    exact hrt (-1) v_tape_size v_rules_clauses v_reader_end v_reader_at v_reader_length v_reader_letter v_reader_fault v_draft_clauses v_paces_version v_search_known f_rsteps f_rkind f_ryields f_rholds f_dsteps f_dkind f_dyields f_dholds ⟨(by omega), (by omega), (by omega), (by omega), (by omega), (by omega), (by omega)⟩ hP hD hS rfl dX9_text_24
  · have gc_1 : 1 ≤ n1.toInt := i_nlt (rfl : n1.toInt = n1.toInt) (by decide : (1 : Int32).toInt = 1) c_1
    refine lv_iload_n hx hb dX9_text_5 rfl (lv_at hl 1 rfl) ?_
    refine lv_sipush (v := 200) hx hb dX9_text_6 (by decide) ?_
    refine lv_icmp_gt (tgt := 23) hx hb dX9_text_9 (by decide) (fun c_3 => ?_) (fun c_3 => ?_)
    · have gc_3 : 200 < n1.toInt := i_lt (by decide : (200 : Int32).toInt = 200) (rfl : n1.toInt = n1.toInt) c_3
      refine lv_iconst (v := (-1)) hx hb dX9_text_23 (by decide) ?_
      have k_4 : ((-1) : Int32).toInt = (-1) := by decide
      exact hrt (-1) v_tape_size v_rules_clauses v_reader_end v_reader_at v_reader_length v_reader_letter v_reader_fault v_draft_clauses v_paces_version v_search_known f_rsteps f_rkind f_ryields f_rholds f_dsteps f_dkind f_dyields f_dholds ⟨(by omega), (by omega), (by omega), (by omega), (by omega), (by omega), (by omega)⟩ hP hD hS rfl dX9_text_24
    · have gc_3 : n1.toInt ≤ 200 := i_nlt (by decide : (200 : Int32).toInt = 200) (rfl : n1.toInt = n1.toInt) c_3
      refine lv_iload_n hx hb dX9_text_12 rfl (lv_at hl 1 rfl) ?_
      refine lv_aload_n hx hb dX9_text_13 rfl (lv_at hl 0 rfl) ?_
      refine gt_SP_SP_tape hx hb hts hown hK hP lwd_15 dX9_text_14 ?_
      refine gt_SP_tape_size hx hb hts hown hK hP lwd_288 dX9_text_17 ?_
      refine lv_icmp_le (tgt := 25) hx hb dX9_text_20 (by decide) (fun c_5 => ?_) (fun c_5 => ?_)
      · have gc_5 : n1.toInt ≤ v_tape_size.toInt := i_le (rfl : n1.toInt = n1.toInt) (rfl : v_tape_size.toInt = v_tape_size.toInt) c_5
        refine lv_aload_n hx hb dX9_text_25 rfl (lv_at hl 0 rfl) ?_
        refine gt_SP_SP_reader hx hb hts hown hK hP lwd_27 dX9_text_26 ?_
        refine lv_iload_n hx hb dX9_text_29 rfl (lv_at hl 1 rfl) ?_
        refine xi hD hS hA (xV (As := [.int n1]) (rest := []) hx hb hml hown hts hK hP hD hS hA NS_ok hN hAe hl.1 ⟨Nat.le_refl _, Nat.le_refl _⟩ 19 rfl rfl rfl (c_X5_read l D cy hs hH hT sH sT v_tape_size v_band_walkers v_band_loads v_band_pieces v_rules_clauses v_reader_end v_reader_at v_reader_length v_reader_letter v_reader_fault v_draft_clauses v_paces_version v_packing_quicker v_packing_loads v_packing_looseCount v_marches_told v_marches_changeMinutes v_marches_marching v_marches_gone v_search_known v_search_countHere v_search_countThere v_search_cost v_search_most v_search_found f_bytes f_knee f_weight f_limps f_bheft f_owner f_food f_miles f_slope f_rsteps f_rkind f_ryields f_rholds f_rletters f_rstack f_dsteps f_dkind f_dyields f_dholds f_dletters f_dstack f_caps f_versions f_sharing f_pheft f_prow f_holder f_comes f_pcaps f_room f_loose f_reached f_mrow f_minutesOn f_mtired f_here f_there f_statesHere f_statesThere f_listed f_stired f_burdens f_pacesOn f_restedOn f_behindOn f_behindFor f_first f_second f_plans f_tiredOn tS s.heap.size n1 (by omega) (by omega) (by omega) hr_bytes) (gi_V lwd_309 lwd_310 lwd_311 lwd_26 lwd_312) ⟨rfl, hd_X5_read⟩ ⟨Nat.le_of_ble_eq_true rfl, Nat.le_of_ble_eq_true rfl⟩ rfl (Nat.le_of_ble_eq_true rfl) dX9_text_30) (fun r_7 u_6 H locs hw hP hD hS => ?_)
        obtain ⟨zreader_end_8, zreader_at_9, zreader_length_10, zreader_letter_11, zreader_fault_12, zdraft_clauses_13, zdsteps_14, zdkind_15, zdyields_16, zdholds_17⟩ := u_6
        try dsimp only at hw hP hD
        obtain ⟨p_18, p_19, p_20⟩ := hw
        refine lv_istore_n (lv' := [(2, .int r_7), (0, .ref (hs 0)), (1, .int n1)]) hx hb dX9_text_33 rfl hl (by decide) rfl (fun ls hl => ?_)
        refine lv_aload_n hx hb dX9_text_34 rfl (lv_at hl 1 rfl) ?_
        refine gt_SP_SP_tape hx hb hts hown hK hP lwd_15 dX9_text_35 ?_
        refine lv_iconst (v := 0) hx hb dX9_text_38 (by decide) ?_
        refine pt_SP_tape_size (x := 0) hx hb hts hown hK hP hD hS lwd_288 dX9_text_39 (fun H locs hP hD hS => ?_)
        refine lv_iload_n hx hb dX9_text_42 rfl (lv_at hl 0 rfl) ?_
        refine lv_if_eq (tgt := 48) hx hb dX9_text_43 (by decide) (fun c_21 => ?_) (fun c_21 => ?_)
        · have gc_21 : r_7.toInt = 0 := i_eq (rfl : r_7.toInt = r_7.toInt) (by decide : (0 : Int32).toInt = 0) c_21
          refine lv_aload_n hx hb dX9_text_48 rfl (lv_at hl 1 rfl) ?_
          refine gt_SP_SP_rules hx hb hts hown hK hP lwd_23 dX9_text_49 ?_
          refine lv_aload_n hx hb dX9_text_52 rfl (lv_at hl 1 rfl) ?_
          refine gt_SP_SP_reader hx hb hts hown hK hP lwd_27 dX9_text_53 ?_
          refine gt_SP_reader_draft hx hb hts hown hK hP lwd_307 dX9_text_56 ?_
          refine xv hD hS hA (xV (As := [.ref (hs 20)]) (rest := []) hx hb hml hown hts hK hP hD hS hA NS_ok hN hAe hl.1 ⟨Nat.le_refl _, Nat.le_refl _⟩ 12 rfl rfl rfl (c_X6_take l D cy hs hH hT sH sT 0 v_band_walkers v_band_loads v_band_pieces v_rules_clauses zreader_end_8 zreader_at_9 zreader_length_10 zreader_letter_11 zreader_fault_12 zdraft_clauses_13 v_paces_version v_packing_quicker v_packing_loads v_packing_looseCount v_marches_told v_marches_changeMinutes v_marches_marching v_marches_gone v_search_known v_search_countHere v_search_countThere v_search_cost v_search_most v_search_found f_bytes f_knee f_weight f_limps f_bheft f_owner f_food f_miles f_slope f_rsteps f_rkind f_ryields f_rholds f_rletters f_rstack zdsteps_14 zdkind_15 zdyields_16 zdholds_17 f_dletters f_dstack f_caps f_versions f_sharing f_pheft f_prow f_holder f_comes f_pcaps f_room f_loose f_reached f_mrow f_minutesOn f_mtired f_here f_there f_statesHere f_statesThere f_listed f_stired f_burdens f_pacesOn f_restedOn f_behindOn f_behindFor f_first f_second f_plans f_tiredOn tS H.size (by omega) (by omega)) (gi_V lwd_386 lwd_387 lwd_388 lwd_22 lwd_389) ⟨rfl, hd_X6_take⟩ ⟨Nat.le_of_ble_eq_true rfl, Nat.le_of_ble_eq_true rfl⟩ rfl (Nat.le_of_ble_eq_true rfl) dX9_text_59) (fun u_22 H locs hw hP hD hS => ?_)
          obtain ⟨zrules_clauses_24, zrsteps_25, zrkind_26, zryields_27, zrholds_28⟩ := u_22
          try dsimp only at hw hP hD
          have p_29 := hw
          clear hw
          refine lv_aload_n hx hb dX9_text_62 rfl (lv_at hl 1 rfl) ?_
          refine xv hD hS hA (xV (As := []) (rest := []) hx hb hml hown hts hK hP hD hS hA NS_ok hN hAe hl.1 ⟨Nat.le_refl _, Nat.le_refl _⟩ 0 rfl rfl rfl (c_X9_forget l D cy hs hH hT sH sT 0 v_band_walkers v_band_loads v_band_pieces zrules_clauses_24 zreader_end_8 zreader_at_9 zreader_length_10 zreader_letter_11 zreader_fault_12 zdraft_clauses_13 v_paces_version v_packing_quicker v_packing_loads v_packing_looseCount v_marches_told v_marches_changeMinutes v_marches_marching v_marches_gone v_search_known v_search_countHere v_search_countThere v_search_cost v_search_most v_search_found f_bytes f_knee f_weight f_limps f_bheft f_owner f_food f_miles f_slope zrsteps_25 zrkind_26 zryields_27 zrholds_28 f_rletters f_rstack zdsteps_14 zdkind_15 zdyields_16 zdholds_17 f_dletters f_dstack f_caps f_versions f_sharing f_pheft f_prow f_holder f_comes f_pcaps f_room f_loose f_reached f_mrow f_minutesOn f_mtired f_here f_there f_statesHere f_statesThere f_listed f_stired f_burdens f_pacesOn f_restedOn f_behindOn f_behindFor f_first f_second f_plans f_tiredOn tS H.size (by omega)) (gi_V lwd_211 lwd_212 lwd_213 lwd_2 lwd_214) ⟨rfl, hd_X9_forget⟩ ⟨Nat.le_of_ble_eq_true rfl, Nat.le_of_ble_eq_true rfl⟩ rfl (Nat.le_of_ble_eq_true rfl) dX9_text_63) (fun u_30 H locs hw hP hD hS => ?_)
          obtain ⟨zpaces_version_32, zsearch_known_33⟩ := u_30
          try dsimp only at hw hP hD
          have p_34 := hw
          clear hw
          refine lv_aload_n hx hb dX9_text_66 rfl (lv_at hl 1 rfl) ?_
          refine gt_SP_SP_rules hx hb hts hown hK hP lwd_23 dX9_text_67 ?_
          refine gt_SP_rules_clauses hx hb hts hown hK hP lwd_308 dX9_text_70 ?_
          have k_35 : (0 : Int32).toInt = 0 := by decide
          exact hrt zrules_clauses_24 0 zrules_clauses_24 zreader_end_8 zreader_at_9 zreader_length_10 zreader_letter_11 zreader_fault_12 zdraft_clauses_13 zpaces_version_32 zsearch_known_33 zrsteps_25 zrkind_26 zryields_27 zrholds_28 zdsteps_14 zdkind_15 zdyields_16 zdholds_17 ⟨(by omega), (by omega), (by omega), (by omega), (by omega), (by omega), (by omega)⟩ hP hD hS rfl dX9_text_73
        · have gc_21 : r_7.toInt ≠ 0 := i_ne (rfl : r_7.toInt = r_7.toInt) (by decide : (0 : Int32).toInt = 0) c_21
          refine lv_iload_n hx hb dX9_text_46 rfl (lv_at hl 0 rfl) ?_
          have k_36 : (0 : Int32).toInt = 0 := by decide
          exact hrt r_7 0 v_rules_clauses zreader_end_8 zreader_at_9 zreader_length_10 zreader_letter_11 zreader_fault_12 zdraft_clauses_13 v_paces_version v_search_known f_rsteps f_rkind f_ryields f_rholds zdsteps_14 zdkind_15 zdyields_16 zdholds_17 ⟨(by omega), (by omega), (by omega), (by omega), (by omega), (by omega), (by omega)⟩ hP hD hS rfl dX9_text_47
      · have gc_5 : v_tape_size.toInt < n1.toInt := i_nle (rfl : n1.toInt = n1.toInt) (rfl : v_tape_size.toInt = v_tape_size.toInt) c_5
        refine lv_iconst (v := (-1)) hx hb dX9_text_23 (by decide) ?_
        have k_37 : ((-1) : Int32).toInt = (-1) := by decide
        exact hrt (-1) v_tape_size v_rules_clauses v_reader_end v_reader_at v_reader_length v_reader_letter v_reader_fault v_draft_clauses v_paces_version v_search_known f_rsteps f_rkind f_ryields f_rholds f_dsteps f_dkind f_dyields f_dholds ⟨(by omega), (by omega), (by omega), (by omega), (by omega), (by omega), (by omega)⟩ hP hD hS rfl dX9_text_24
set_option maxHeartbeats 16000000 in
set_option maxRecDepth 100000 in
theorem c_X9_check_q (l : Launch) (D : va_G) (cy : Nat → ClassId) (hs : Nat → Nat) (hH hT sH sT : Nat) (v_tape_size v_band_walkers v_band_loads v_band_pieces v_rules_clauses v_reader_end v_reader_at v_reader_length v_reader_letter v_reader_fault v_draft_clauses v_paces_version v_packing_quicker v_packing_loads v_packing_looseCount v_marches_told v_marches_changeMinutes v_marches_marching v_marches_gone v_search_known v_search_countHere v_search_countThere v_search_cost v_search_most : Int32) (v_search_found : Int64) (f_bytes f_knee f_weight f_limps f_bheft f_owner f_food f_miles f_slope f_rsteps f_rkind f_ryields f_rholds f_rletters f_rstack f_dsteps f_dkind f_dyields f_dholds f_dletters f_dstack f_caps f_versions f_sharing f_pheft f_prow f_holder f_comes f_pcaps f_room f_loose f_reached f_mrow f_minutesOn f_mtired : Nat → Int32) (f_here f_there : Nat → Int64) (f_statesHere f_statesThere f_listed f_stired f_burdens f_pacesOn f_restedOn f_behindOn f_behindFor f_first f_second : Nat → Int32) (f_plans f_tiredOn : Nat → Nat → Int32) (tS : Nat) (sz : Nat) (n1 : Int32) (hb_v_tape_size : 0 ≤ v_tape_size.toInt ∧ v_tape_size.toInt ≤ 220) (hb_v_band_walkers : 0 ≤ v_band_walkers.toInt ∧ v_band_walkers.toInt ≤ 6) (hb_v_band_loads : 0 ≤ v_band_loads.toInt ∧ v_band_loads.toInt ≤ 9) (hb_v_band_pieces : 0 ≤ v_band_pieces.toInt ∧ v_band_pieces.toInt ≤ 10) (hb_v_rules_clauses : 0 ≤ v_rules_clauses.toInt ∧ v_rules_clauses.toInt ≤ 14) (hb_v_marches_marching : 0 ≤ v_marches_marching.toInt ∧ v_marches_marching.toInt ≤ 1) (hb_v_marches_gone : 0 ≤ v_marches_gone.toInt ∧ v_marches_gone.toInt ≤ 10) (hr_bytes : rg (0) 255 f_bytes) (hr_weight : rg (0) 250 f_weight) (hr_limps : rg (0) 1 f_limps) (hr_bheft : rg (0) 120 f_bheft) (hr_food : rg (0) 20 f_food) (hr_miles : rg (0) 20 f_miles) (hr_mrow : rg (0) 17 f_mrow) (hr_mtired : rg (0) 5 f_mtired) (hr_tiredOn : rg2 (0) 5 f_tiredOn) : gMi l yX9_check cX9_check 5 .int 6 [.ref (hs 0), .int n1] D cy (wSP cy hs hH hT sH sT v_tape_size v_band_walkers v_band_loads v_band_pieces v_rules_clauses v_reader_end v_reader_at v_reader_length v_reader_letter v_reader_fault v_draft_clauses v_paces_version v_packing_quicker v_packing_loads v_packing_looseCount v_marches_told v_marches_changeMinutes v_marches_marching v_marches_gone v_search_known v_search_countHere v_search_countThere v_search_cost v_search_most v_search_found f_bytes f_knee f_weight f_limps f_bheft f_owner f_food f_miles f_slope f_rsteps f_rkind f_ryields f_rholds f_rletters f_rstack f_dsteps f_dkind f_dyields f_dholds f_dletters f_dstack f_caps f_versions f_sharing f_pheft f_prow f_holder f_comes f_pcaps f_room f_loose f_reached f_mrow f_minutesOn f_mtired f_here f_there f_statesHere f_statesThere f_listed f_stired f_burdens f_pacesOn f_restedOn f_behindOn f_behindFor f_first f_second f_plans f_tiredOn) (NS tS) sz (fun (r : Int32) (u : Int32 × Int32 × (Nat → Int32) × (Nat → Int32) × (Nat → Int32) × (Nat → Int32) × (Nat → Nat → Int32)) => (((v_marches_marching.toInt ≠ 0 ∧ 0 ≤ n1.toInt ∧ n1.toInt ≤ v_tape_size.toInt / 4) ∧ (u.1).toInt = 0) ∨ (¬ (v_marches_marching.toInt ≠ 0 ∧ 0 ≤ n1.toInt ∧ n1.toInt ≤ v_tape_size.toInt / 4) ∧ (u.1).toInt = v_tape_size.toInt)) ∧ (0 ≤ (u.1).toInt ∧ (u.1).toInt ≤ 220) ∧ (0 ≤ (u.2.1).toInt ∧ (u.2.1).toInt ≤ 10) ∧ (rg (0) 5 (u.2.2.2.2.2.1)) ∧ (rg2 (0) 5 (u.2.2.2.2.2.2))) (fun u => wSP cy hs hH hT sH sT (u.1) v_band_walkers v_band_loads v_band_pieces v_rules_clauses v_reader_end v_reader_at v_reader_length v_reader_letter v_reader_fault v_draft_clauses v_paces_version v_packing_quicker v_packing_loads v_packing_looseCount v_marches_told v_marches_changeMinutes v_marches_marching (u.2.1) v_search_known v_search_countHere v_search_countThere v_search_cost v_search_most v_search_found f_bytes f_knee f_weight f_limps f_bheft f_owner f_food f_miles f_slope f_rsteps f_rkind f_ryields f_rholds (u.2.2.1) (u.2.2.2.1) f_dsteps f_dkind f_dyields f_dholds f_dletters f_dstack f_caps f_versions f_sharing f_pheft f_prow f_holder f_comes f_pcaps f_room f_loose f_reached f_mrow (u.2.2.2.2.1) (u.2.2.2.2.2.1) f_here f_there f_statesHere f_statesThere f_listed f_stired f_burdens f_pacesOn f_restedOn f_behindOn f_behindFor f_first f_second f_plans (u.2.2.2.2.2.2)) := by
  refine gMi_in (by decide) (Nat.le_of_ble_eq_true rfl) ?_
  intro p e s m args below meth c A ls Q hx hb hml hts hown hsz hP hK hD hN hAe hA hS hl hret
  subst hsz
  have hl : lv_has ls 5 [(0, .ref (hs 0)), (1, .int n1)] := hl
  have hrt := fun (r : Int32) (v_tape_size' : Int32) (v_marches_gone' : Int32) (f_rletters' : Nat → Int32) (f_rstack' : Nat → Int32) (f_minutesOn' : Nat → Int32) (f_mtired' : Nat → Int32) (f_tiredOn' : Nat → Nat → Int32) (hp : (((v_marches_marching.toInt ≠ 0 ∧ 0 ≤ n1.toInt ∧ n1.toInt ≤ v_tape_size.toInt / 4) ∧ v_tape_size'.toInt = 0) ∨ (¬ (v_marches_marching.toInt ≠ 0 ∧ 0 ≤ n1.toInt ∧ n1.toInt ≤ v_tape_size.toInt / 4) ∧ v_tape_size'.toInt = v_tape_size.toInt)) ∧ (0 ≤ v_tape_size'.toInt ∧ v_tape_size'.toInt ≤ 220) ∧ (0 ≤ v_marches_gone'.toInt ∧ v_marches_gone'.toInt ≤ 10) ∧ (rg (0) 5 f_mtired') ∧ (rg2 (0) 5 f_tiredOn')) {H : Heap} {locs : List Loc} {pc : Nat} {ls : Array Slot} => hret r (v_tape_size', v_marches_gone', f_rletters', f_rstack', f_minutesOn', f_mtired', f_tiredOn') (H := H) (locs := locs) (pc := pc) (ls := ls) hp
  clear hret
  refine lv_aload_n hx hb dX9_check_0 rfl (lv_at hl 0 rfl) ?_
  refine gt_SP_SP_marches hx hb hts hown hK hP lwd_39 dX9_check_1 ?_
  refine gt_SP_marches_marching hx hb hts hown hK hP lwd_210 dX9_check_4 ?_
  refine lv_if_eq (tgt := 27) hx hb dX9_check_7 (by decide) (fun c_1 => ?_) (fun c_1 => ?_)
  · have gc_1 : v_marches_marching.toInt = 0 := i_eq (rfl : v_marches_marching.toInt = v_marches_marching.toInt) (by decide : (0 : Int32).toInt = 0) c_1
    refine lv_bipush (v := (-2)) hx hb dX9_check_27 (by decide) ?_
    have k_2 : ((-2) : Int32).toInt = (-2) := by decide
    exact hrt (-2) v_tape_size v_marches_gone f_rletters f_rstack f_minutesOn f_mtired f_tiredOn ⟨(by omega), (by omega), (by omega), hr_mtired, hr_tiredOn⟩ hP hD hS rfl dX9_check_29
  · have gc_1 : v_marches_marching.toInt ≠ 0 := i_ne (rfl : v_marches_marching.toInt = v_marches_marching.toInt) (by decide : (0 : Int32).toInt = 0) c_1
    refine lv_iload_n hx hb dX9_check_10 rfl (lv_at hl 1 rfl) ?_
    refine lv_if_lt (tgt := 27) hx hb dX9_check_11 (by decide) (fun c_3 => ?_) (fun c_3 => ?_)
    · have gc_3 : n1.toInt < 0 := i_lt (rfl : n1.toInt = n1.toInt) (by decide : (0 : Int32).toInt = 0) c_3
      refine lv_bipush (v := (-2)) hx hb dX9_check_27 (by decide) ?_
      have k_4 : ((-2) : Int32).toInt = (-2) := by decide
      exact hrt (-2) v_tape_size v_marches_gone f_rletters f_rstack f_minutesOn f_mtired f_tiredOn ⟨(by omega), (by omega), (by omega), hr_mtired, hr_tiredOn⟩ hP hD hS rfl dX9_check_29
    · have gc_3 : 0 ≤ n1.toInt := i_nlt (rfl : n1.toInt = n1.toInt) (by decide : (0 : Int32).toInt = 0) c_3
      refine lv_iload_n hx hb dX9_check_14 rfl (lv_at hl 1 rfl) ?_
      refine lv_aload_n hx hb dX9_check_15 rfl (lv_at hl 0 rfl) ?_
      refine gt_SP_SP_tape hx hb hts hown hK hP lwd_15 dX9_check_16 ?_
      refine gt_SP_tape_size hx hb hts hown hK hP lwd_288 dX9_check_19 ?_
      refine lv_iconst (v := 4) hx hb dX9_check_22 (by decide) ?_
      refine lv_idiv hx hb dX9_check_23 (by decide) ?_
      refine lv_topi (fun n_5 en_5 => ?_)
      have tn_5 : n_5.toInt = v_tape_size.toInt / 4 := i_div en_5 (rfl : v_tape_size.toInt = v_tape_size.toInt) (by decide : (4 : Int32).toInt = 4) (by omega) (by omega)
      refine lv_icmp_le (tgt := 30) hx hb dX9_check_24 (by decide) (fun c_6 => ?_) (fun c_6 => ?_)
      · have gc_6 : n1.toInt ≤ v_tape_size.toInt / 4 := i_le (rfl : n1.toInt = n1.toInt) tn_5 c_6
        refine lv_aload_n hx hb dX9_check_30 rfl (lv_at hl 0 rfl) ?_
        refine gt_SP_SP_marches hx hb hts hown hK hP lwd_39 dX9_check_31 ?_
        refine xv hD hS hA (xV (As := []) (rest := []) hx hb hml hown hts hK hP hD hS hA NS_ok hN hAe hl.1 ⟨Nat.le_refl _, Nat.le_refl _⟩ 40 rfl rfl rfl (c_X1_follow l D cy hs hH hT sH sT v_tape_size v_band_walkers v_band_loads v_band_pieces v_rules_clauses v_reader_end v_reader_at v_reader_length v_reader_letter v_reader_fault v_draft_clauses v_paces_version v_packing_quicker v_packing_loads v_packing_looseCount v_marches_told v_marches_changeMinutes v_marches_marching v_marches_gone v_search_known v_search_countHere v_search_countThere v_search_cost v_search_most v_search_found f_bytes f_knee f_weight f_limps f_bheft f_owner f_food f_miles f_slope f_rsteps f_rkind f_ryields f_rholds f_rletters f_rstack f_dsteps f_dkind f_dyields f_dholds f_dletters f_dstack f_caps f_versions f_sharing f_pheft f_prow f_holder f_comes f_pcaps f_room f_loose f_reached f_mrow f_minutesOn f_mtired f_here f_there f_statesHere f_statesThere f_listed f_stired f_burdens f_pacesOn f_restedOn f_behindOn f_behindFor f_first f_second f_plans f_tiredOn tS s.heap.size (by omega) (by omega) (by omega) (by omega) (by omega) hr_weight hr_limps hr_bheft hr_food hr_miles hr_mrow hr_mtired hr_tiredOn) (gi_V lwd_926 lwd_927 lwd_928 lwd_38 lwd_929) ⟨rfl, hd_X1_follow⟩ ⟨Nat.le_of_ble_eq_true rfl, Nat.le_of_ble_eq_true rfl⟩ rfl (Nat.le_of_ble_eq_true rfl) dX9_check_34) (fun u_7 H locs hw hP hD hS => ?_)
        obtain ⟨zmarches_gone_9, zrletters_10, zrstack_11, zminutesOn_12, zmtired_13, ztiredOn_14⟩ := u_7
        try dsimp only at hw hP hD
        obtain ⟨p_15, p_16, p_17⟩ := hw
        refine lv_iload_n hx hb dX9_check_37 rfl (lv_at hl 1 rfl) ?_
        refine lv_aload_n hx hb dX9_check_38 rfl (lv_at hl 0 rfl) ?_
        refine gt_SP_SP_marches hx hb hts hown hK hP lwd_39 dX9_check_39 ?_
        refine gt_SP_marches_gone hx hb hts hown hK hP lwd_925 dX9_check_42 ?_
        refine va_mmin hx hb (by rw [hml]; exact hl.1.symm) hown (hts _ lwd_815) (hts _ lwd_528) (hts _ lwd_529) (hts _ lwd_530) (Nat.le_of_ble_eq_true rfl) (Nat.le_of_ble_eq_true rfl) (Nat.zero_le _) (Nat.zero_le _) dX9_check_45 ?_
        refine lv_topi (fun n_18 en_18 => ?_)
        have tn_18 := i_min en_18 (rfl : n1.toInt = n1.toInt) (rfl : zmarches_gone_9.toInt = zmarches_gone_9.toInt)
        refine lv_istore_n (lv' := [(2, .int n_18), (0, .ref (hs 0)), (1, .int n1)]) hx hb dX9_check_48 rfl hl (by decide) rfl (fun ls hl => ?_)
        refine lv_iload_n hx hb dX9_check_49 rfl (lv_at hl 2 rfl) ?_
        refine lv_aload_n hx hb dX9_check_50 rfl (lv_at hl 1 rfl) ?_
        refine gt_SP_SP_marches hx hb hts hown hK hP lwd_39 dX9_check_51 ?_
        refine gt_SP_marches_gone hx hb hts hown hK hP lwd_925 dX9_check_54 ?_
        refine lv_icmp_ne (tgt := 64) hx hb dX9_check_57 (by decide) (fun c_19 => ?_) (fun c_19 => ?_)
        · have gc_19 : n1.toInt ≠ zmarches_gone_9.toInt := i_ne (rfl : n1.toInt = n1.toInt) (rfl : zmarches_gone_9.toInt = zmarches_gone_9.toInt) c_19
          refine lv_iload_n hx hb dX9_check_64 rfl (lv_at hl 0 rfl) ?_
          refine lv_istore_n (lv' := [(3, .int n_18), (2, .int n_18), (0, .ref (hs 0)), (1, .int n1)]) hx hb dX9_check_65 rfl hl (by decide) rfl (fun ls hl => ?_)
          refine lv_iload_n hx hb dX9_check_66 rfl (lv_at hl 1 rfl) ?_
          refine lv_iconst (v := 1) hx hb dX9_check_67 (by decide) ?_
          refine lv_isub hx hb dX9_check_68 ?_
          refine lv_topi (fun n_20 en_20 => ?_)
          have tn_20 : n_20.toInt = n_18.toInt - 1 := i_sub en_20 (rfl : n_18.toInt = n_18.toInt) (by decide : (1 : Int32).toInt = 1) (by omega) (by omega)
          refine lv_istore (lv' := [(4, .int n_20), (3, .int n_18), (2, .int n_18), (0, .ref (hs 0)), (1, .int n1)]) hx hb dX9_check_69 hl (by decide) rfl (fun ls hl => ?_)
          have L71_25 : ∀ (n : Nat) (l_23 : Int32) (l_24 : Int32), (-1000 ≤ l_24.toInt ∧ l_24.toInt ≤ 9) → l_24.toInt + 1001 < n → ∀ (H : Heap) (locs : List Loc) (ls : Array Slot), va_P D vwCl (wSP cy hs hH hT sH sT v_tape_size v_band_walkers v_band_loads v_band_pieces v_rules_clauses v_reader_end v_reader_at v_reader_length v_reader_letter v_reader_fault v_draft_clauses v_paces_version v_packing_quicker v_packing_loads v_packing_looseCount v_marches_told v_marches_changeMinutes v_marches_marching zmarches_gone_9 v_search_known v_search_countHere v_search_countThere v_search_cost v_search_most v_search_found f_bytes f_knee f_weight f_limps f_bheft f_owner f_food f_miles f_slope f_rsteps f_rkind f_ryields f_rholds zrletters_10 zrstack_11 f_dsteps f_dkind f_dyields f_dholds f_dletters f_dstack f_caps f_versions f_sharing f_pheft f_prow f_holder f_comes f_pcaps f_room f_loose f_reached f_mrow zminutesOn_12 zmtired_13 f_here f_there f_statesHere f_statesThere f_listed f_stired f_burdens f_pacesOn f_restedOn f_behindOn f_behindFor f_first f_second f_plans ztiredOn_14) H → va_D A (wSP cy hs hH hT sH sT v_tape_size v_band_walkers v_band_loads v_band_pieces v_rules_clauses v_reader_end v_reader_at v_reader_length v_reader_letter v_reader_fault v_draft_clauses v_paces_version v_packing_quicker v_packing_loads v_packing_looseCount v_marches_told v_marches_changeMinutes v_marches_marching zmarches_gone_9 v_search_known v_search_countHere v_search_countThere v_search_cost v_search_most v_search_found f_bytes f_knee f_weight f_limps f_bheft f_owner f_food f_miles f_slope f_rsteps f_rkind f_ryields f_rholds zrletters_10 zrstack_11 f_dsteps f_dkind f_dyields f_dholds f_dletters f_dstack f_caps f_versions f_sharing f_pheft f_prow f_holder f_comes f_pcaps f_room f_loose f_reached f_mrow zminutesOn_12 zmtired_13 f_here f_there f_statesHere f_statesThere f_listed f_stired f_burdens f_pacesOn f_restedOn f_behindOn f_behindFor f_first f_second f_plans ztiredOn_14) → va_S A s.heap H locs → lv_has ls 5 [(4, .int l_24), (3, .int l_23), (2, .int n_18), (0, .ref (hs 0)), (1, .int n1)] → W p l e (gRm 6) s m args below meth c H locs 0 0 Q (F0 m 71 ls []) := by
            intro n
            induction n with
            | zero => intro l_23 l_24 hL71_25_0 hm; exact absurd hm (by omega)
            | succ n ih71_25 =>
              intro l_23 l_24 hL71_25_0 hmL71_25 H locs ls hP hD hS hl
              refine lv_iload hx hb dX9_check_71 (lv_at hl 0 rfl) ?_
              refine lv_if_lt (tgt := 107) hx hb dX9_check_73 (by decide) (fun c_26 => ?_) (fun c_26 => ?_)
              · have gc_26 : l_24.toInt < 0 := i_lt (rfl : l_24.toInt = l_24.toInt) (by decide : (0 : Int32).toInt = 0) c_26
                refine lv_aload_n hx hb dX9_check_107 rfl (lv_at hl 3 rfl) ?_
                refine gt_SP_SP_tape hx hb hts hown hK hP lwd_15 dX9_check_108 ?_
                refine lv_iconst (v := 0) hx hb dX9_check_111 (by decide) ?_
                refine pt_SP_tape_size (x := 0) hx hb hts hown hK hP hD hS lwd_288 dX9_check_112 (fun H locs hP hD hS => ?_)
                refine lv_iload_n hx hb dX9_check_115 rfl (lv_at hl 1 rfl) ?_
                have k_27 : (0 : Int32).toInt = 0 := by decide
                exact hrt l_23 0 zmarches_gone_9 zrletters_10 zrstack_11 zminutesOn_12 zmtired_13 ztiredOn_14 ⟨(by omega), (by omega), (by omega), p_16, p_17⟩ hP hD hS rfl dX9_check_116
              · have gc_26 : 0 ≤ l_24.toInt := i_nlt (rfl : l_24.toInt = l_24.toInt) (by decide : (0 : Int32).toInt = 0) c_26
                refine lv_aload_n hx hb dX9_check_76 rfl (lv_at hl 3 rfl) ?_
                refine gt_SP_SP_tape hx hb hts hown hK hP lwd_15 dX9_check_77 ?_
                refine lv_iload hx hb dX9_check_80 (lv_at hl 0 rfl) ?_
                refine xi hD hS hA (xV (As := [.int l_24]) (rest := []) hx hb hml hown hts hK hP hD hS hA NS_ok hN hAe hl.1 ⟨Nat.le_refl _, Nat.le_refl _⟩ 1 rfl rfl rfl (c_X8_number l D cy hs hH hT sH sT v_tape_size v_band_walkers v_band_loads v_band_pieces v_rules_clauses v_reader_end v_reader_at v_reader_length v_reader_letter v_reader_fault v_draft_clauses v_paces_version v_packing_quicker v_packing_loads v_packing_looseCount v_marches_told v_marches_changeMinutes v_marches_marching zmarches_gone_9 v_search_known v_search_countHere v_search_countThere v_search_cost v_search_most v_search_found f_bytes f_knee f_weight f_limps f_bheft f_owner f_food f_miles f_slope f_rsteps f_rkind f_ryields f_rholds zrletters_10 zrstack_11 f_dsteps f_dkind f_dyields f_dholds f_dletters f_dstack f_caps f_versions f_sharing f_pheft f_prow f_holder f_comes f_pcaps f_room f_loose f_reached f_mrow zminutesOn_12 zmtired_13 f_here f_there f_statesHere f_statesThere f_listed f_stired f_burdens f_pacesOn f_restedOn f_behindOn f_behindFor f_first f_second f_plans ztiredOn_14 tS H.size l_24 hr_bytes (by omega)) (gi_V lwd_1228 lwd_1229 lwd_1230 lwd_14 lwd_1231) ⟨rfl, hd_X8_number⟩ ⟨Nat.le_of_ble_eq_true rfl, Nat.le_of_ble_eq_true rfl⟩ rfl (Nat.le_of_ble_eq_true rfl) dX9_check_82) (fun r_29 u_28 H locs hw hP hD hS => ?_)
                try dsimp only at hw hP hD
                clear hw
                refine lv_aload_n hx hb dX9_check_85 rfl (lv_at hl 3 rfl) ?_
                refine gt_SP_SP_marches hx hb hts hown hK hP lwd_39 dX9_check_86 ?_
                refine gt_SP_marches_minutesOn hx hb hts hown hK hP lwd_1227 dX9_check_89 ?_
                refine lv_iload hx hb dX9_check_92 (lv_at hl 0 rfl) ?_
                refine al_minutesOn hx hb hK hP (i_in (rfl : l_24.toInt = l_24.toInt) (by omega) (by omega)) dX9_check_94 (fun n_30 en_30 => ?_)
                refine lv_icmp_eq (tgt := 101) hx hb dX9_check_95 (by decide) (fun c_31 => ?_) (fun c_31 => ?_)
                · have gc_31 : r_29.toInt = n_30.toInt := i_eq (rfl : r_29.toInt = r_29.toInt) (rfl : n_30.toInt = n_30.toInt) c_31
                  obtain ⟨n_32, en_32⟩ : ∃ y : Int32, y = l_24 + (-1) := ⟨_, rfl⟩
                  have tn_32 : n_32.toInt = l_24.toInt + (-1) := i_add en_32 (rfl : l_24.toInt = l_24.toInt) (by decide : ((-1) : Int32).toInt = (-1)) (by omega) (by omega)
                  refine lv_iinc (v := n_32) (lv' := [(4, .int n_32), (3, .int l_23), (2, .int n_18), (0, .ref (hs 0)), (1, .int n1)]) hx hb dX9_check_101 hl (k := 0) rfl (by rw [en_32]; rfl) (by decide) rfl (fun ls hl => ?_)
                  refine lv_goto (tgt := 71) hx hb dX9_check_104 (by decide) ?_
                  exact ih71_25 l_23 n_32 (by omega) (by omega) _ _ _ hP hD hS (lv_sub hl [0, 1, 2, 3, 4] rfl)
                · have gc_31 : r_29.toInt ≠ n_30.toInt := i_ne (rfl : r_29.toInt = r_29.toInt) (rfl : n_30.toInt = n_30.toInt) c_31
                  refine lv_iload hx hb dX9_check_98 (lv_at hl 0 rfl) ?_
                  refine lv_istore_n (lv' := [(3, .int l_24), (4, .int l_24), (2, .int n_18), (0, .ref (hs 0)), (1, .int n1)]) hx hb dX9_check_100 rfl hl (by decide) rfl (fun ls hl => ?_)
                  obtain ⟨n_33, en_33⟩ : ∃ y : Int32, y = l_24 + (-1) := ⟨_, rfl⟩
                  have tn_33 : n_33.toInt = l_24.toInt + (-1) := i_add en_33 (rfl : l_24.toInt = l_24.toInt) (by decide : ((-1) : Int32).toInt = (-1)) (by omega) (by omega)
                  refine lv_iinc (v := n_33) (lv' := [(4, .int n_33), (3, .int l_24), (2, .int n_18), (0, .ref (hs 0)), (1, .int n1)]) hx hb dX9_check_101 hl (k := 1) rfl (by rw [en_33]; rfl) (by decide) rfl (fun ls hl => ?_)
                  refine lv_goto (tgt := 71) hx hb dX9_check_104 (by decide) ?_
                  exact ih71_25 l_24 n_33 (by omega) (by omega) _ _ _ hP hD hS (lv_sub hl [0, 1, 2, 3, 4] rfl)
          exact L71_25 8589934592 n_18 n_20 (by omega) (by omega) _ _ _ hP hD hS (lv_sub hl [0, 1, 2, 3, 4] rfl)
        · have gc_19 : n1.toInt = zmarches_gone_9.toInt := i_eq (rfl : n1.toInt = n1.toInt) (rfl : zmarches_gone_9.toInt = zmarches_gone_9.toInt) c_19
          refine lv_iconst (v := (-1)) hx hb dX9_check_60 (by decide) ?_
          refine lv_goto (tgt := 65) hx hb dX9_check_61 (by decide) ?_
          refine lv_istore_n (lv' := [(3, .int (-1)), (2, .int n_18), (0, .ref (hs 0)), (1, .int n1)]) hx hb dX9_check_65 rfl hl (by decide) rfl (fun ls hl => ?_)
          refine lv_iload_n hx hb dX9_check_66 rfl (lv_at hl 1 rfl) ?_
          refine lv_iconst (v := 1) hx hb dX9_check_67 (by decide) ?_
          refine lv_isub hx hb dX9_check_68 ?_
          refine lv_topi (fun n_34 en_34 => ?_)
          have tn_34 : n_34.toInt = n_18.toInt - 1 := i_sub en_34 (rfl : n_18.toInt = n_18.toInt) (by decide : (1 : Int32).toInt = 1) (by omega) (by omega)
          refine lv_istore (lv' := [(4, .int n_34), (3, .int (-1)), (2, .int n_18), (0, .ref (hs 0)), (1, .int n1)]) hx hb dX9_check_69 hl (by decide) rfl (fun ls hl => ?_)
          have L71_39 : ∀ (n : Nat) (l_37 : Int32) (l_38 : Int32), (-1000 ≤ l_38.toInt ∧ l_38.toInt ≤ 9) → l_38.toInt + 1001 < n → ∀ (H : Heap) (locs : List Loc) (ls : Array Slot), va_P D vwCl (wSP cy hs hH hT sH sT v_tape_size v_band_walkers v_band_loads v_band_pieces v_rules_clauses v_reader_end v_reader_at v_reader_length v_reader_letter v_reader_fault v_draft_clauses v_paces_version v_packing_quicker v_packing_loads v_packing_looseCount v_marches_told v_marches_changeMinutes v_marches_marching zmarches_gone_9 v_search_known v_search_countHere v_search_countThere v_search_cost v_search_most v_search_found f_bytes f_knee f_weight f_limps f_bheft f_owner f_food f_miles f_slope f_rsteps f_rkind f_ryields f_rholds zrletters_10 zrstack_11 f_dsteps f_dkind f_dyields f_dholds f_dletters f_dstack f_caps f_versions f_sharing f_pheft f_prow f_holder f_comes f_pcaps f_room f_loose f_reached f_mrow zminutesOn_12 zmtired_13 f_here f_there f_statesHere f_statesThere f_listed f_stired f_burdens f_pacesOn f_restedOn f_behindOn f_behindFor f_first f_second f_plans ztiredOn_14) H → va_D A (wSP cy hs hH hT sH sT v_tape_size v_band_walkers v_band_loads v_band_pieces v_rules_clauses v_reader_end v_reader_at v_reader_length v_reader_letter v_reader_fault v_draft_clauses v_paces_version v_packing_quicker v_packing_loads v_packing_looseCount v_marches_told v_marches_changeMinutes v_marches_marching zmarches_gone_9 v_search_known v_search_countHere v_search_countThere v_search_cost v_search_most v_search_found f_bytes f_knee f_weight f_limps f_bheft f_owner f_food f_miles f_slope f_rsteps f_rkind f_ryields f_rholds zrletters_10 zrstack_11 f_dsteps f_dkind f_dyields f_dholds f_dletters f_dstack f_caps f_versions f_sharing f_pheft f_prow f_holder f_comes f_pcaps f_room f_loose f_reached f_mrow zminutesOn_12 zmtired_13 f_here f_there f_statesHere f_statesThere f_listed f_stired f_burdens f_pacesOn f_restedOn f_behindOn f_behindFor f_first f_second f_plans ztiredOn_14) → va_S A s.heap H locs → lv_has ls 5 [(4, .int l_38), (3, .int l_37), (2, .int n_18), (0, .ref (hs 0)), (1, .int n1)] → W p l e (gRm 6) s m args below meth c H locs 0 0 Q (F0 m 71 ls []) := by
            intro n
            induction n with
            | zero => intro l_37 l_38 hL71_39_0 hm; exact absurd hm (by omega)
            | succ n ih71_39 =>
              intro l_37 l_38 hL71_39_0 hmL71_39 H locs ls hP hD hS hl
              refine lv_iload hx hb dX9_check_71 (lv_at hl 0 rfl) ?_
              refine lv_if_lt (tgt := 107) hx hb dX9_check_73 (by decide) (fun c_40 => ?_) (fun c_40 => ?_)
              · have gc_40 : l_38.toInt < 0 := i_lt (rfl : l_38.toInt = l_38.toInt) (by decide : (0 : Int32).toInt = 0) c_40
                refine lv_aload_n hx hb dX9_check_107 rfl (lv_at hl 3 rfl) ?_
                refine gt_SP_SP_tape hx hb hts hown hK hP lwd_15 dX9_check_108 ?_
                refine lv_iconst (v := 0) hx hb dX9_check_111 (by decide) ?_
                refine pt_SP_tape_size (x := 0) hx hb hts hown hK hP hD hS lwd_288 dX9_check_112 (fun H locs hP hD hS => ?_)
                refine lv_iload_n hx hb dX9_check_115 rfl (lv_at hl 1 rfl) ?_
                have k_41 : (0 : Int32).toInt = 0 := by decide
                exact hrt l_37 0 zmarches_gone_9 zrletters_10 zrstack_11 zminutesOn_12 zmtired_13 ztiredOn_14 ⟨(by omega), (by omega), (by omega), p_16, p_17⟩ hP hD hS rfl dX9_check_116
              · have gc_40 : 0 ≤ l_38.toInt := i_nlt (rfl : l_38.toInt = l_38.toInt) (by decide : (0 : Int32).toInt = 0) c_40
                refine lv_aload_n hx hb dX9_check_76 rfl (lv_at hl 3 rfl) ?_
                refine gt_SP_SP_tape hx hb hts hown hK hP lwd_15 dX9_check_77 ?_
                refine lv_iload hx hb dX9_check_80 (lv_at hl 0 rfl) ?_
                refine xi hD hS hA (xV (As := [.int l_38]) (rest := []) hx hb hml hown hts hK hP hD hS hA NS_ok hN hAe hl.1 ⟨Nat.le_refl _, Nat.le_refl _⟩ 1 rfl rfl rfl (c_X8_number l D cy hs hH hT sH sT v_tape_size v_band_walkers v_band_loads v_band_pieces v_rules_clauses v_reader_end v_reader_at v_reader_length v_reader_letter v_reader_fault v_draft_clauses v_paces_version v_packing_quicker v_packing_loads v_packing_looseCount v_marches_told v_marches_changeMinutes v_marches_marching zmarches_gone_9 v_search_known v_search_countHere v_search_countThere v_search_cost v_search_most v_search_found f_bytes f_knee f_weight f_limps f_bheft f_owner f_food f_miles f_slope f_rsteps f_rkind f_ryields f_rholds zrletters_10 zrstack_11 f_dsteps f_dkind f_dyields f_dholds f_dletters f_dstack f_caps f_versions f_sharing f_pheft f_prow f_holder f_comes f_pcaps f_room f_loose f_reached f_mrow zminutesOn_12 zmtired_13 f_here f_there f_statesHere f_statesThere f_listed f_stired f_burdens f_pacesOn f_restedOn f_behindOn f_behindFor f_first f_second f_plans ztiredOn_14 tS H.size l_38 hr_bytes (by omega)) (gi_V lwd_1228 lwd_1229 lwd_1230 lwd_14 lwd_1231) ⟨rfl, hd_X8_number⟩ ⟨Nat.le_of_ble_eq_true rfl, Nat.le_of_ble_eq_true rfl⟩ rfl (Nat.le_of_ble_eq_true rfl) dX9_check_82) (fun r_43 u_42 H locs hw hP hD hS => ?_)
                try dsimp only at hw hP hD
                clear hw
                refine lv_aload_n hx hb dX9_check_85 rfl (lv_at hl 3 rfl) ?_
                refine gt_SP_SP_marches hx hb hts hown hK hP lwd_39 dX9_check_86 ?_
                refine gt_SP_marches_minutesOn hx hb hts hown hK hP lwd_1227 dX9_check_89 ?_
                refine lv_iload hx hb dX9_check_92 (lv_at hl 0 rfl) ?_
                refine al_minutesOn hx hb hK hP (i_in (rfl : l_38.toInt = l_38.toInt) (by omega) (by omega)) dX9_check_94 (fun n_44 en_44 => ?_)
                refine lv_icmp_eq (tgt := 101) hx hb dX9_check_95 (by decide) (fun c_45 => ?_) (fun c_45 => ?_)
                · have gc_45 : r_43.toInt = n_44.toInt := i_eq (rfl : r_43.toInt = r_43.toInt) (rfl : n_44.toInt = n_44.toInt) c_45
                  obtain ⟨n_46, en_46⟩ : ∃ y : Int32, y = l_38 + (-1) := ⟨_, rfl⟩
                  have tn_46 : n_46.toInt = l_38.toInt + (-1) := i_add en_46 (rfl : l_38.toInt = l_38.toInt) (by decide : ((-1) : Int32).toInt = (-1)) (by omega) (by omega)
                  refine lv_iinc (v := n_46) (lv' := [(4, .int n_46), (3, .int l_37), (2, .int n_18), (0, .ref (hs 0)), (1, .int n1)]) hx hb dX9_check_101 hl (k := 0) rfl (by rw [en_46]; rfl) (by decide) rfl (fun ls hl => ?_)
                  refine lv_goto (tgt := 71) hx hb dX9_check_104 (by decide) ?_
                  exact ih71_39 l_37 n_46 (by omega) (by omega) _ _ _ hP hD hS (lv_sub hl [0, 1, 2, 3, 4] rfl)
                · have gc_45 : r_43.toInt ≠ n_44.toInt := i_ne (rfl : r_43.toInt = r_43.toInt) (rfl : n_44.toInt = n_44.toInt) c_45
                  refine lv_iload hx hb dX9_check_98 (lv_at hl 0 rfl) ?_
                  refine lv_istore_n (lv' := [(3, .int l_38), (4, .int l_38), (2, .int n_18), (0, .ref (hs 0)), (1, .int n1)]) hx hb dX9_check_100 rfl hl (by decide) rfl (fun ls hl => ?_)
                  obtain ⟨n_47, en_47⟩ : ∃ y : Int32, y = l_38 + (-1) := ⟨_, rfl⟩
                  have tn_47 : n_47.toInt = l_38.toInt + (-1) := i_add en_47 (rfl : l_38.toInt = l_38.toInt) (by decide : ((-1) : Int32).toInt = (-1)) (by omega) (by omega)
                  refine lv_iinc (v := n_47) (lv' := [(4, .int n_47), (3, .int l_38), (2, .int n_18), (0, .ref (hs 0)), (1, .int n1)]) hx hb dX9_check_101 hl (k := 1) rfl (by rw [en_47]; rfl) (by decide) rfl (fun ls hl => ?_)
                  refine lv_goto (tgt := 71) hx hb dX9_check_104 (by decide) ?_
                  exact ih71_39 l_38 n_47 (by omega) (by omega) _ _ _ hP hD hS (lv_sub hl [0, 1, 2, 3, 4] rfl)
          have k_48 : ((-1) : Int32).toInt = (-1) := by decide
          exact L71_39 8589934592 (-1) n_34 (by omega) (by omega) _ _ _ hP hD hS (lv_sub hl [0, 1, 2, 3, 4] rfl)
      · have gc_6 : v_tape_size.toInt / 4 < n1.toInt := i_nle (rfl : n1.toInt = n1.toInt) tn_5 c_6
        refine lv_bipush (v := (-2)) hx hb dX9_check_27 (by decide) ?_
        have k_49 : ((-2) : Int32).toInt = (-2) := by decide
        exact hrt (-2) v_tape_size v_marches_gone f_rletters f_rstack f_minutesOn f_mtired f_tiredOn ⟨(by omega), (by omega), (by omega), hr_mtired, hr_tiredOn⟩ hP hD hS rfl dX9_check_29
set_option maxHeartbeats 16000000 in
set_option maxRecDepth 100000 in
theorem c_X9_plan_q (l : Launch) (D : va_G) (cy : Nat → ClassId) (hs : Nat → Nat) (hH hT sH sT : Nat) (v_tape_size v_band_walkers v_band_loads v_band_pieces v_rules_clauses v_reader_end v_reader_at v_reader_length v_reader_letter v_reader_fault v_draft_clauses v_paces_version v_packing_quicker v_packing_loads v_packing_looseCount v_marches_told v_marches_changeMinutes v_marches_marching v_marches_gone v_search_known v_search_countHere v_search_countThere v_search_cost v_search_most : Int32) (v_search_found : Int64) (f_bytes f_knee f_weight f_limps f_bheft f_owner f_food f_miles f_slope f_rsteps f_rkind f_ryields f_rholds f_rletters f_rstack f_dsteps f_dkind f_dyields f_dholds f_dletters f_dstack f_caps f_versions f_sharing f_pheft f_prow f_holder f_comes f_pcaps f_room f_loose f_reached f_mrow f_minutesOn f_mtired : Nat → Int32) (f_here f_there : Nat → Int64) (f_statesHere f_statesThere f_listed f_stired f_burdens f_pacesOn f_restedOn f_behindOn f_behindFor f_first f_second : Nat → Int32) (f_plans f_tiredOn : Nat → Nat → Int32) (tS : Nat) (sz : Nat) (k : Int32) (hb_v_tape_size : 0 ≤ v_tape_size.toInt ∧ v_tape_size.toInt ≤ 220) (hb_v_band_walkers : 0 ≤ v_band_walkers.toInt ∧ v_band_walkers.toInt ≤ 6) (hb_v_band_loads : 0 ≤ v_band_loads.toInt ∧ v_band_loads.toInt ≤ 9) (hb_v_marches_marching : 0 ≤ v_marches_marching.toInt ∧ v_marches_marching.toInt ≤ 1) (hb_v_search_known : 0 ≤ v_search_known.toInt ∧ v_search_known.toInt ≤ 1) (hr_bytes : rg (0) 255 f_bytes) (hr_owner : rg (-1) 5 f_owner) : gMi l yX9_plan cX9_plan 6 .boolean 2 [.ref (hs 0), .int k] D cy (wSP cy hs hH hT sH sT v_tape_size v_band_walkers v_band_loads v_band_pieces v_rules_clauses v_reader_end v_reader_at v_reader_length v_reader_letter v_reader_fault v_draft_clauses v_paces_version v_packing_quicker v_packing_loads v_packing_looseCount v_marches_told v_marches_changeMinutes v_marches_marching v_marches_gone v_search_known v_search_countHere v_search_countThere v_search_cost v_search_most v_search_found f_bytes f_knee f_weight f_limps f_bheft f_owner f_food f_miles f_slope f_rsteps f_rkind f_ryields f_rholds f_rletters f_rstack f_dsteps f_dkind f_dyields f_dholds f_dletters f_dstack f_caps f_versions f_sharing f_pheft f_prow f_holder f_comes f_pcaps f_room f_loose f_reached f_mrow f_minutesOn f_mtired f_here f_there f_statesHere f_statesThere f_listed f_stired f_burdens f_pacesOn f_restedOn f_behindOn f_behindFor f_first f_second f_plans f_tiredOn) (NS tS) sz (fun (r : Int32) (u : Int32 × Int32 × Int32 × Int32 × (Nat → Nat → Int32)) => (0 ≤ r.toInt ∧ r.toInt ≤ 1) ∧ ((¬ (0 ≤ k.toInt ∧ k.toInt ≤ 5 ∧ v_band_loads.toInt ≤ v_tape_size.toInt) ∧ r.toInt = 0 ∧ (u.1).toInt = v_tape_size.toInt ∧ (u.2.1) = v_marches_told ∧ (u.2.2.1).toInt = v_marches_marching.toInt) ∨ ((0 ≤ k.toInt ∧ k.toInt ≤ 5 ∧ v_band_loads.toInt ≤ v_tape_size.toInt) ∧ (u.1).toInt = 0 ∧ ((r.toInt = 1 ∧ pall v_band_walkers f_owner f_bytes v_band_loads.toInt ∧ (u.2.1) = v_marches_told ||| (1 <<< (k &&& 31)) ∧ (u.2.2.1).toInt = 0) ∨ (r.toInt = 0 ∧ ¬ pall v_band_walkers f_owner f_bytes v_band_loads.toInt ∧ (u.2.1) = v_marches_told ∧ (u.2.2.1).toInt = v_marches_marching.toInt)))) ∧ (0 ≤ (u.1).toInt ∧ (u.1).toInt ≤ 220) ∧ (0 ≤ (u.2.2.1).toInt ∧ (u.2.2.1).toInt ≤ 1) ∧ (0 ≤ (u.2.2.2.1).toInt ∧ (u.2.2.2.1).toInt ≤ 1)) (fun u => wSP cy hs hH hT sH sT (u.1) v_band_walkers v_band_loads v_band_pieces v_rules_clauses v_reader_end v_reader_at v_reader_length v_reader_letter v_reader_fault v_draft_clauses v_paces_version v_packing_quicker v_packing_loads v_packing_looseCount (u.2.1) v_marches_changeMinutes (u.2.2.1) v_marches_gone (u.2.2.2.1) v_search_countHere v_search_countThere v_search_cost v_search_most v_search_found f_bytes f_knee f_weight f_limps f_bheft f_owner f_food f_miles f_slope f_rsteps f_rkind f_ryields f_rholds f_rletters f_rstack f_dsteps f_dkind f_dyields f_dholds f_dletters f_dstack f_caps f_versions f_sharing f_pheft f_prow f_holder f_comes f_pcaps f_room f_loose f_reached f_mrow f_minutesOn f_mtired f_here f_there f_statesHere f_statesThere f_listed f_stired f_burdens f_pacesOn f_restedOn f_behindOn f_behindFor f_first f_second (u.2.2.2.2) f_tiredOn) := by
  refine gMi_in (by decide) (Nat.le_of_ble_eq_true rfl) ?_
  intro p e s m args below meth c A ls Q hx hb hml hts hown hsz hP hK hD hN hAe hA hS hl hret
  subst hsz
  have hl : lv_has ls 6 [(0, .ref (hs 0)), (1, .int k)] := hl
  have hrt := fun (r : Int32) (v_tape_size' : Int32) (v_marches_told' : Int32) (v_marches_marching' : Int32) (v_search_known' : Int32) (f_plans' : Nat → Nat → Int32) (hp : (0 ≤ r.toInt ∧ r.toInt ≤ 1) ∧ ((¬ (0 ≤ k.toInt ∧ k.toInt ≤ 5 ∧ v_band_loads.toInt ≤ v_tape_size.toInt) ∧ r.toInt = 0 ∧ v_tape_size'.toInt = v_tape_size.toInt ∧ v_marches_told' = v_marches_told ∧ v_marches_marching'.toInt = v_marches_marching.toInt) ∨ ((0 ≤ k.toInt ∧ k.toInt ≤ 5 ∧ v_band_loads.toInt ≤ v_tape_size.toInt) ∧ v_tape_size'.toInt = 0 ∧ ((r.toInt = 1 ∧ pall v_band_walkers f_owner f_bytes v_band_loads.toInt ∧ v_marches_told' = v_marches_told ||| (1 <<< (k &&& 31)) ∧ v_marches_marching'.toInt = 0) ∨ (r.toInt = 0 ∧ ¬ pall v_band_walkers f_owner f_bytes v_band_loads.toInt ∧ v_marches_told' = v_marches_told ∧ v_marches_marching'.toInt = v_marches_marching.toInt)))) ∧ (0 ≤ v_tape_size'.toInt ∧ v_tape_size'.toInt ≤ 220) ∧ (0 ≤ v_marches_marching'.toInt ∧ v_marches_marching'.toInt ≤ 1) ∧ (0 ≤ v_search_known'.toInt ∧ v_search_known'.toInt ≤ 1)) {H : Heap} {locs : List Loc} {pc : Nat} {ls : Array Slot} => hret r (v_tape_size', v_marches_told', v_marches_marching', v_search_known', f_plans') (H := H) (locs := locs) (pc := pc) (ls := ls) hp
  clear hret
  refine lv_iload_n hx hb dX9_plan_0 rfl (lv_at hl 1 rfl) ?_
  refine lv_if_lt (tgt := 27) hx hb dX9_plan_1 (by decide) (fun c_1 => ?_) (fun c_1 => ?_)
  · have gc_1 : k.toInt < 0 := i_lt (rfl : k.toInt = k.toInt) (by decide : (0 : Int32).toInt = 0) c_1
    refine lv_iconst (v := 0) hx hb dX9_plan_27 (by decide) ?_
    have k_2 : (0 : Int32).toInt = 0 := by decide
    exact hrt 0 v_tape_size v_marches_told v_marches_marching v_search_known f_plans ⟨(by omega), (Or.inl ⟨by omega, by omega, by omega, rfl, by omega⟩), (by omega), (by omega), (by omega)⟩ hP hD hS rfl dX9_plan_28
  · have gc_1 : 0 ≤ k.toInt := i_nlt (rfl : k.toInt = k.toInt) (by decide : (0 : Int32).toInt = 0) c_1
    refine lv_iload_n hx hb dX9_plan_4 rfl (lv_at hl 1 rfl) ?_
    refine lv_bipush (v := 6) hx hb dX9_plan_5 (by decide) ?_
    refine lv_icmp_ge (tgt := 27) hx hb dX9_plan_7 (by decide) (fun c_3 => ?_) (fun c_3 => ?_)
    · have gc_3 : 6 ≤ k.toInt := i_le (by decide : (6 : Int32).toInt = 6) (rfl : k.toInt = k.toInt) c_3
      refine lv_iconst (v := 0) hx hb dX9_plan_27 (by decide) ?_
      have k_4 : (0 : Int32).toInt = 0 := by decide
      exact hrt 0 v_tape_size v_marches_told v_marches_marching v_search_known f_plans ⟨(by omega), (Or.inl ⟨by omega, by omega, by omega, rfl, by omega⟩), (by omega), (by omega), (by omega)⟩ hP hD hS rfl dX9_plan_28
    · have gc_3 : k.toInt < 6 := i_nle (by decide : (6 : Int32).toInt = 6) (rfl : k.toInt = k.toInt) c_3
      refine lv_aload_n hx hb dX9_plan_10 rfl (lv_at hl 0 rfl) ?_
      refine gt_SP_SP_tape hx hb hts hown hK hP lwd_15 dX9_plan_11 ?_
      refine gt_SP_tape_size hx hb hts hown hK hP lwd_288 dX9_plan_14 ?_
      refine lv_aload_n hx hb dX9_plan_17 rfl (lv_at hl 0 rfl) ?_
      refine gt_SP_SP_band hx hb hts hown hK hP lwd_19 dX9_plan_18 ?_
      refine gt_SP_band_loads hx hb hts hown hK hP lwd_233 dX9_plan_21 ?_
      refine lv_icmp_ge (tgt := 29) hx hb dX9_plan_24 (by decide) (fun c_5 => ?_) (fun c_5 => ?_)
      · have gc_5 : v_band_loads.toInt ≤ v_tape_size.toInt := i_le (rfl : v_band_loads.toInt = v_band_loads.toInt) (rfl : v_tape_size.toInt = v_tape_size.toInt) c_5
        refine lv_iconst (v := 1) hx hb dX9_plan_29 (by decide) ?_
        refine lv_istore_n (lv' := [(2, .int 1), (0, .ref (hs 0)), (1, .int k)]) hx hb dX9_plan_30 rfl hl (by decide) rfl (fun ls hl => ?_)
        refine lv_iconst (v := 0) hx hb dX9_plan_31 (by decide) ?_
        refine lv_istore_n (lv' := [(3, .int 0), (2, .int 1), (0, .ref (hs 0)), (1, .int k)]) hx hb dX9_plan_32 rfl hl (by decide) rfl (fun ls hl => ?_)
        have L33_10 : ∀ (n : Nat) (l_8 : Int32) (l_9 : Int32), (0 ≤ l_8.toInt ∧ l_8.toInt ≤ 1) → (0 ≤ l_9.toInt ∧ l_9.toInt ≤ 9) → ((l_8.toInt ≠ 0 ∧ pall v_band_walkers f_owner f_bytes l_9.toInt) ∨ (l_8.toInt = 0 ∧ ¬ pall v_band_walkers f_owner f_bytes v_band_loads.toInt)) → (l_9.toInt ≤ v_band_loads.toInt) → 10 - l_9.toInt < n → ∀ (H : Heap) (locs : List Loc) (ls : Array Slot), va_P D vwCl (wSP cy hs hH hT sH sT v_tape_size v_band_walkers v_band_loads v_band_pieces v_rules_clauses v_reader_end v_reader_at v_reader_length v_reader_letter v_reader_fault v_draft_clauses v_paces_version v_packing_quicker v_packing_loads v_packing_looseCount v_marches_told v_marches_changeMinutes v_marches_marching v_marches_gone v_search_known v_search_countHere v_search_countThere v_search_cost v_search_most v_search_found f_bytes f_knee f_weight f_limps f_bheft f_owner f_food f_miles f_slope f_rsteps f_rkind f_ryields f_rholds f_rletters f_rstack f_dsteps f_dkind f_dyields f_dholds f_dletters f_dstack f_caps f_versions f_sharing f_pheft f_prow f_holder f_comes f_pcaps f_room f_loose f_reached f_mrow f_minutesOn f_mtired f_here f_there f_statesHere f_statesThere f_listed f_stired f_burdens f_pacesOn f_restedOn f_behindOn f_behindFor f_first f_second f_plans f_tiredOn) H → va_D A (wSP cy hs hH hT sH sT v_tape_size v_band_walkers v_band_loads v_band_pieces v_rules_clauses v_reader_end v_reader_at v_reader_length v_reader_letter v_reader_fault v_draft_clauses v_paces_version v_packing_quicker v_packing_loads v_packing_looseCount v_marches_told v_marches_changeMinutes v_marches_marching v_marches_gone v_search_known v_search_countHere v_search_countThere v_search_cost v_search_most v_search_found f_bytes f_knee f_weight f_limps f_bheft f_owner f_food f_miles f_slope f_rsteps f_rkind f_ryields f_rholds f_rletters f_rstack f_dsteps f_dkind f_dyields f_dholds f_dletters f_dstack f_caps f_versions f_sharing f_pheft f_prow f_holder f_comes f_pcaps f_room f_loose f_reached f_mrow f_minutesOn f_mtired f_here f_there f_statesHere f_statesThere f_listed f_stired f_burdens f_pacesOn f_restedOn f_behindOn f_behindFor f_first f_second f_plans f_tiredOn) → va_S A s.heap H locs → lv_has ls 6 [(3, .int l_9), (2, .int l_8), (0, .ref (hs 0)), (1, .int k)] → W p l e (gRm 2) s m args below meth c H locs 0 0 Q (F0 m 33 ls []) := by
          intro n
          induction n with
          | zero => intro l_8 l_9 hL33_10_0 hL33_10_1 hL33_10_2 hL33_10_3 hm; exact absurd hm (by omega)
          | succ n ih33_10 =>
            intro l_8 l_9 hL33_10_0 hL33_10_1 hL33_10_2 hL33_10_3 hmL33_10 H locs ls hP hD hS hl
            refine lv_iload_n hx hb dX9_plan_33 rfl (lv_at hl 0 rfl) ?_
            refine lv_aload_n hx hb dX9_plan_34 rfl (lv_at hl 2 rfl) ?_
            refine gt_SP_SP_band hx hb hts hown hK hP lwd_19 dX9_plan_35 ?_
            refine gt_SP_band_loads hx hb hts hown hK hP lwd_233 dX9_plan_38 ?_
            refine lv_icmp_ge (tgt := 122) hx hb dX9_plan_41 (by decide) (fun c_11 => ?_) (fun c_11 => ?_)
            · have gc_11 : v_band_loads.toInt ≤ l_9.toInt := i_le (rfl : v_band_loads.toInt = v_band_loads.toInt) (rfl : l_9.toInt = l_9.toInt) c_11
              refine lv_aload_n hx hb dX9_plan_122 rfl (lv_at hl 2 rfl) ?_
              refine gt_SP_SP_tape hx hb hts hown hK hP lwd_15 dX9_plan_123 ?_
              refine lv_iconst (v := 0) hx hb dX9_plan_126 (by decide) ?_
              refine pt_SP_tape_size (x := 0) hx hb hts hown hK hP hD hS lwd_288 dX9_plan_127 (fun H locs hP hD hS => ?_)
              refine lv_iload_n hx hb dX9_plan_130 rfl (lv_at hl 1 rfl) ?_
              refine lv_if_eq (tgt := 193) hx hb dX9_plan_131 (by decide) (fun c_12 => ?_) (fun c_12 => ?_)
              · have gc_12 : l_8.toInt = 0 := i_eq (rfl : l_8.toInt = l_8.toInt) (by decide : (0 : Int32).toInt = 0) c_12
                refine lv_iload_n hx hb dX9_plan_193 rfl (lv_at hl 1 rfl) ?_
                have k_13 : (0 : Int32).toInt = 0 := by decide
                exact hrt l_8 0 v_marches_told v_marches_marching v_search_known f_plans ⟨(by omega), (Or.inr ⟨by omega, by omega, Or.inr ⟨by omega, hL33_10_2.elim (fun z => absurd z.1 (by omega)) (fun z => z.2), rfl, by omega⟩⟩), (by omega), (by omega), (by omega)⟩ hP hD hS (nar_b (i_01' (by omega))) dX9_plan_194
              · have gc_12 : l_8.toInt ≠ 0 := i_ne (rfl : l_8.toInt = l_8.toInt) (by decide : (0 : Int32).toInt = 0) c_12
                refine lv_aload_n hx hb dX9_plan_134 rfl (lv_at hl 2 rfl) ?_
                refine gt_SP_SP_tape hx hb hts hown hK hP lwd_15 dX9_plan_135 ?_
                refine gt_SP_tape_bytes hx hb hts hown hK hP lwd_899 dX9_plan_138 ?_
                refine lv_iconst (v := 0) hx hb dX9_plan_141 (by decide) ?_
                refine lv_aload_n hx hb dX9_plan_142 rfl (lv_at hl 2 rfl) ?_
                refine gt_SP_SP_marches hx hb hts hown hK hP lwd_39 dX9_plan_143 ?_
                refine gt_SP_marches_plans hx hb hts hown hK hP lwd_900 dX9_plan_146 ?_
                refine lv_iload_n hx hb dX9_plan_149 rfl (lv_at hl 3 rfl) ?_
                refine aq_plans (i := k) hx hb hK hP (by first | omega | decide) dX9_plan_150 ?_
                refine lv_iconst (v := 0) hx hb dX9_plan_151 (by decide) ?_
                refine lv_aload_n hx hb dX9_plan_152 rfl (lv_at hl 2 rfl) ?_
                refine gt_SP_SP_band hx hb hts hown hK hP lwd_19 dX9_plan_153 ?_
                refine gt_SP_band_loads hx hb hts hown hK hP lwd_233 dX9_plan_156 ?_
                refine cp_plans (k := k) hx hb (by rw [hml]; exact hl.1.symm) hown (hts _ lwd_901) (hts _ lwd_391) (hts _ lwd_392) (hts _ lwd_393) hK hP hD hS (by omega) (by omega) (Nat.le_of_ble_eq_true rfl) (Nat.le_of_ble_eq_true rfl) dX9_plan_159 (fun f_14 H locs hP hD hS => ?_)
                refine lv_aload_n hx hb dX9_plan_162 rfl (lv_at hl 2 rfl) ?_
                refine gt_SP_SP_marches hx hb hts hown hK hP lwd_39 dX9_plan_163 ?_
                refine lv_dup hx hb dX9_plan_166 rfl ?_
                refine gt_SP_marches_told hx hb hts hown hK hP lwd_237 dX9_plan_167 ?_
                refine lv_iconst (v := 1) hx hb dX9_plan_170 (by decide) ?_
                refine lv_iload_n hx hb dX9_plan_171 rfl (lv_at hl 3 rfl) ?_
                refine lv_ishl hx hb dX9_plan_172 ?_
                refine lv_topi (fun n_15 en_15 => ?_)
                have bn_15 := (i_sh1 en_15 (rfl : k.toInt = k.toInt) (by omega)).2
                skip
                refine lv_ior hx hb dX9_plan_173 ?_
                refine lv_topi (fun n_16 en_16 => ?_)
                refine pt_SP_marches_told (x := n_16) hx hb hts hown hK hP hD hS lwd_237 dX9_plan_174 (fun H locs hP hD hS => ?_)
                refine lv_aload_n hx hb dX9_plan_177 rfl (lv_at hl 2 rfl) ?_
                refine gt_SP_SP_marches hx hb hts hown hK hP lwd_39 dX9_plan_178 ?_
                refine lv_iconst (v := 0) hx hb dX9_plan_181 (by decide) ?_
                refine pt_SP_marches_marching (x := 0) hx hb hts hown hK hP hD hS lwd_210 (by decide) dX9_plan_182 (fun H locs hP hD hS => ?_)
                refine lv_aload_n hx hb dX9_plan_185 rfl (lv_at hl 2 rfl) ?_
                refine gt_SP_SP_search hx hb hts hown hK hP lwd_43 dX9_plan_186 ?_
                refine lv_iconst (v := 0) hx hb dX9_plan_189 (by decide) ?_
                refine pt_SP_search_known (x := 0) hx hb hts hown hK hP hD hS lwd_216 (by decide) dX9_plan_190 (fun H locs hP hD hS => ?_)
                refine lv_iload_n hx hb dX9_plan_193 rfl (lv_at hl 1 rfl) ?_
                have k_17 : (0 : Int32).toInt = 0 := by decide
                have k_18 : (0 : Int32).toInt = 0 := by decide
                have k_19 : (0 : Int32).toInt = 0 := by decide
                exact hrt l_8 0 n_16 0 0 f_14 ⟨(by omega), (Or.inr ⟨by omega, by omega, Or.inl ⟨by omega, by rw [show v_band_loads.toInt = l_9.toInt from by omega]; exact hL33_10_2.elim (fun z => z.2) (fun z => absurd z.1 (by omega)), by rw [en_16, en_15], by omega⟩⟩), (by omega), (by omega), (by omega)⟩ hP hD hS (nar_b (i_01' (by omega))) dX9_plan_194
            · have gc_11 : l_9.toInt < v_band_loads.toInt := i_nle (rfl : v_band_loads.toInt = v_band_loads.toInt) (rfl : l_9.toInt = l_9.toInt) c_11
              skip
              refine lv_aload_n hx hb dX9_plan_44 rfl (lv_at hl 2 rfl) ?_
              refine gt_SP_SP_tape hx hb hts hown hK hP lwd_15 dX9_plan_45 ?_
              refine gt_SP_tape_bytes hx hb hts hown hK hP lwd_899 dX9_plan_48 ?_
              refine lv_iload_n hx hb dX9_plan_51 rfl (lv_at hl 0 rfl) ?_
              refine al_bytes hx hb hK hP hr_bytes (i_in (rfl : l_9.toInt = l_9.toInt) (by omega) (by omega)) dX9_plan_52 (fun n_20 en_20 bn_20 => ?_)
              refine lv_istore (lv' := [(4, .int n_20), (3, .int l_9), (2, .int l_8), (0, .ref (hs 0)), (1, .int k)]) hx hb dX9_plan_53 hl (by decide) rfl (fun ls hl => ?_)
              refine lv_aload_n hx hb dX9_plan_55 rfl (lv_at hl 3 rfl) ?_
              refine gt_SP_SP_band hx hb hts hown hK hP lwd_19 dX9_plan_56 ?_
              refine gt_SP_band_owner hx hb hts hown hK hP lwd_235 dX9_plan_59 ?_
              refine lv_iload_n hx hb dX9_plan_62 rfl (lv_at hl 1 rfl) ?_
              refine al_owner hx hb hK hP hr_owner (i_in (rfl : l_9.toInt = l_9.toInt) (by omega) (by omega)) dX9_plan_63 (fun n_21 en_21 bn_21 => ?_)
              refine lv_iconst (v := (-1)) hx hb dX9_plan_64 (by decide) ?_
              refine lv_icmp_eq (tgt := 82) hx hb dX9_plan_65 (by decide) (fun c_22 => ?_) (fun c_22 => ?_)
              · have gc_22 : n_21.toInt = (-1) := i_eq (rfl : n_21.toInt = n_21.toInt) (by decide : ((-1) : Int32).toInt = (-1)) c_22
                refine lv_iconst (v := 1) hx hb dX9_plan_82 (by decide) ?_
                refine lv_goto (tgt := 87) hx hb dX9_plan_83 (by decide) ?_
                refine lv_istore (lv' := [(5, .int 1), (4, .int n_20), (3, .int l_9), (2, .int l_8), (0, .ref (hs 0)), (1, .int k)]) hx hb dX9_plan_87 hl (by decide) rfl (fun ls hl => ?_)
                refine lv_iload_n hx hb dX9_plan_89 rfl (lv_at hl 3 rfl) ?_
                refine lv_if_eq (tgt := 114) hx hb dX9_plan_90 (by decide) (fun c_23 => ?_) (fun c_23 => ?_)
                · have gc_23 : l_8.toInt = 0 := i_eq (rfl : l_8.toInt = l_8.toInt) (by decide : (0 : Int32).toInt = 0) c_23
                  refine lv_iconst (v := 0) hx hb dX9_plan_114 (by decide) ?_
                  refine lv_istore_n (lv' := [(2, .int 0), (5, .int 1), (4, .int n_20), (3, .int l_9), (0, .ref (hs 0)), (1, .int k)]) hx hb dX9_plan_115 rfl hl (by decide) rfl (fun ls hl => ?_)
                  obtain ⟨n_24, en_24⟩ : ∃ y : Int32, y = l_9 + 1 := ⟨_, rfl⟩
                  have tn_24 : n_24.toInt = l_9.toInt + 1 := i_add en_24 (rfl : l_9.toInt = l_9.toInt) (by decide : (1 : Int32).toInt = 1) (by omega) (by omega)
                  refine lv_iinc (v := n_24) (lv' := [(3, .int n_24), (2, .int 0), (5, .int 1), (4, .int n_20), (0, .ref (hs 0)), (1, .int k)]) hx hb dX9_plan_116 hl (k := 3) rfl (by rw [en_24]; rfl) (by decide) rfl (fun ls hl => ?_)
                  refine lv_goto (tgt := 33) hx hb dX9_plan_119 (by decide) ?_
                  have k_25 : (0 : Int32).toInt = 0 := by decide
                  exact ih33_10 0 n_24 (by omega) (by omega) (Or.inr ⟨by omega, fun h => by
                    rcases hL33_10_2 with ⟨z1, z2⟩ | ⟨z1, z2⟩
                    · have g9 := h l_9.toNatClampNeg (by rw [i_ix (rfl : l_9.toInt = l_9.toInt)]; omega)
                      unfold pgood at g9
                      rw [← en_20, ← en_21] at g9
                      omega
                    · exact z2 h⟩) (by omega) (by omega) _ _ _ hP hD hS (lv_sub hl [0, 1, 4, 5] rfl)
                · have gc_23 : l_8.toInt ≠ 0 := i_ne (rfl : l_8.toInt = l_8.toInt) (by decide : (0 : Int32).toInt = 0) c_23
                  refine lv_aload_n hx hb dX9_plan_93 rfl (lv_at hl 4 rfl) ?_
                  refine gt_SP_SP_band hx hb hts hown hK hP lwd_19 dX9_plan_94 ?_
                  refine lv_iload hx hb dX9_plan_97 (lv_at hl 1 rfl) ?_
                  refine xi hD hS hA (xV (As := [.int n_20]) (rest := []) hx hb hml hown hts hK hP hD hS hA NS_ok hN hAe hl.1 ⟨Nat.le_refl _, Nat.le_refl _⟩ 3 rfl rfl rfl (c_X0_hasWalker l D cy hs hH hT sH sT v_tape_size v_band_walkers v_band_loads v_band_pieces v_rules_clauses v_reader_end v_reader_at v_reader_length v_reader_letter v_reader_fault v_draft_clauses v_paces_version v_packing_quicker v_packing_loads v_packing_looseCount v_marches_told v_marches_changeMinutes v_marches_marching v_marches_gone v_search_known v_search_countHere v_search_countThere v_search_cost v_search_most v_search_found f_bytes f_knee f_weight f_limps f_bheft f_owner f_food f_miles f_slope f_rsteps f_rkind f_ryields f_rholds f_rletters f_rstack f_dsteps f_dkind f_dyields f_dholds f_dletters f_dstack f_caps f_versions f_sharing f_pheft f_prow f_holder f_comes f_pcaps f_room f_loose f_reached f_mrow f_minutesOn f_mtired f_here f_there f_statesHere f_statesThere f_listed f_stired f_burdens f_pacesOn f_restedOn f_behindOn f_behindFor f_first f_second f_plans f_tiredOn tS H.size n_20 (by omega)) (gi_V lwd_238 lwd_239 lwd_240 lwd_18 lwd_241) ⟨rfl, hd_X0_hasWalker⟩ ⟨Nat.le_of_ble_eq_true rfl, Nat.le_of_ble_eq_true rfl⟩ rfl (Nat.le_of_ble_eq_true rfl) dX9_plan_99) (fun r_27 u_26 H locs hw hP hD hS => ?_)
                  try dsimp only at hw hP hD
                  obtain ⟨p_28, p_29⟩ := hw
                  refine lv_if_eq (tgt := 114) hx hb dX9_plan_102 (by decide) (fun c_30 => ?_) (fun c_30 => ?_)
                  · have gc_30 : r_27.toInt = 0 := i_eq (rfl : r_27.toInt = r_27.toInt) (by decide : (0 : Int32).toInt = 0) c_30
                    refine lv_iconst (v := 0) hx hb dX9_plan_114 (by decide) ?_
                    refine lv_istore_n (lv' := [(2, .int 0), (5, .int 1), (4, .int n_20), (3, .int l_9), (0, .ref (hs 0)), (1, .int k)]) hx hb dX9_plan_115 rfl hl (by decide) rfl (fun ls hl => ?_)
                    obtain ⟨n_31, en_31⟩ : ∃ y : Int32, y = l_9 + 1 := ⟨_, rfl⟩
                    have tn_31 : n_31.toInt = l_9.toInt + 1 := i_add en_31 (rfl : l_9.toInt = l_9.toInt) (by decide : (1 : Int32).toInt = 1) (by omega) (by omega)
                    refine lv_iinc (v := n_31) (lv' := [(3, .int n_31), (2, .int 0), (5, .int 1), (4, .int n_20), (0, .ref (hs 0)), (1, .int k)]) hx hb dX9_plan_116 hl (k := 3) rfl (by rw [en_31]; rfl) (by decide) rfl (fun ls hl => ?_)
                    refine lv_goto (tgt := 33) hx hb dX9_plan_119 (by decide) ?_
                    have k_32 : (0 : Int32).toInt = 0 := by decide
                    exact ih33_10 0 n_31 (by omega) (by omega) (Or.inr ⟨by omega, fun h => by
                      rcases hL33_10_2 with ⟨z1, z2⟩ | ⟨z1, z2⟩
                      · have g9 := h l_9.toNatClampNeg (by rw [i_ix (rfl : l_9.toInt = l_9.toInt)]; omega)
                        unfold pgood at g9
                        rw [← en_20, ← en_21] at g9
                        omega
                      · exact z2 h⟩) (by omega) (by omega) _ _ _ hP hD hS (lv_sub hl [0, 1, 4, 5] rfl)
                  · have gc_30 : r_27.toInt ≠ 0 := i_ne (rfl : r_27.toInt = r_27.toInt) (by decide : (0 : Int32).toInt = 0) c_30
                    refine lv_iload hx hb dX9_plan_105 (lv_at hl 0 rfl) ?_
                    refine lv_if_eq (tgt := 114) hx hb dX9_plan_107 (by decide) (fun c_33 => ?_) (fun c_33 => ?_)
                    · exact absurd c_33 (by decide)
                    · skip
                      refine lv_iconst (v := 1) hx hb dX9_plan_110 (by decide) ?_
                      refine lv_goto (tgt := 115) hx hb dX9_plan_111 (by decide) ?_
                      refine lv_istore_n (lv' := [(2, .int 1), (5, .int 1), (4, .int n_20), (3, .int l_9), (0, .ref (hs 0)), (1, .int k)]) hx hb dX9_plan_115 rfl hl (by decide) rfl (fun ls hl => ?_)
                      obtain ⟨n_34, en_34⟩ : ∃ y : Int32, y = l_9 + 1 := ⟨_, rfl⟩
                      have tn_34 : n_34.toInt = l_9.toInt + 1 := i_add en_34 (rfl : l_9.toInt = l_9.toInt) (by decide : (1 : Int32).toInt = 1) (by omega) (by omega)
                      refine lv_iinc (v := n_34) (lv' := [(3, .int n_34), (2, .int 1), (5, .int 1), (4, .int n_20), (0, .ref (hs 0)), (1, .int k)]) hx hb dX9_plan_116 hl (k := 3) rfl (by rw [en_34]; rfl) (by decide) rfl (fun ls hl => ?_)
                      refine lv_goto (tgt := 33) hx hb dX9_plan_119 (by decide) ?_
                      have k_35 : (1 : Int32).toInt = 1 := by decide
                      exact ih33_10 1 n_34 (by omega) (by omega) (Or.inl ⟨by omega, hL33_10_2.elim (fun z => pall_step (x := l_9.toNatClampNeg) z.2 (by rw [i_ix (rfl : l_9.toInt = l_9.toInt)]; omega) (by omega) ⟨by rw [← en_20]; omega, by rw [← en_20, ← en_21]; omega⟩) (fun z => absurd z.1 (by omega))⟩) (by omega) (by omega) _ _ _ hP hD hS (lv_sub hl [0, 1, 4, 5] rfl)
              · have gc_22 : n_21.toInt ≠ (-1) := i_ne (rfl : n_21.toInt = n_21.toInt) (by decide : ((-1) : Int32).toInt = (-1)) c_22
                refine lv_aload_n hx hb dX9_plan_68 rfl (lv_at hl 3 rfl) ?_
                refine gt_SP_SP_band hx hb hts hown hK hP lwd_19 dX9_plan_69 ?_
                refine gt_SP_band_owner hx hb hts hown hK hP lwd_235 dX9_plan_72 ?_
                refine lv_iload_n hx hb dX9_plan_75 rfl (lv_at hl 1 rfl) ?_
                refine al_owner hx hb hK hP hr_owner (i_in (rfl : l_9.toInt = l_9.toInt) (by omega) (by omega)) dX9_plan_76 (fun n_36 en_36 bn_36 => ?_)
                obtain rfl : n_21 = n_36 := en_21.trans en_36.symm
                refine lv_iload hx hb dX9_plan_77 (lv_at hl 0 rfl) ?_
                refine lv_icmp_ne (tgt := 86) hx hb dX9_plan_79 (by decide) (fun c_37 => ?_) (fun c_37 => ?_)
                · have gc_37 : n_21.toInt ≠ n_20.toInt := i_ne (rfl : n_21.toInt = n_21.toInt) (rfl : n_20.toInt = n_20.toInt) c_37
                  refine lv_iconst (v := 0) hx hb dX9_plan_86 (by decide) ?_
                  refine lv_istore (lv' := [(5, .int 0), (4, .int n_20), (3, .int l_9), (2, .int l_8), (0, .ref (hs 0)), (1, .int k)]) hx hb dX9_plan_87 hl (by decide) rfl (fun ls hl => ?_)
                  refine lv_iload_n hx hb dX9_plan_89 rfl (lv_at hl 3 rfl) ?_
                  refine lv_if_eq (tgt := 114) hx hb dX9_plan_90 (by decide) (fun c_38 => ?_) (fun c_38 => ?_)
                  · have gc_38 : l_8.toInt = 0 := i_eq (rfl : l_8.toInt = l_8.toInt) (by decide : (0 : Int32).toInt = 0) c_38
                    refine lv_iconst (v := 0) hx hb dX9_plan_114 (by decide) ?_
                    refine lv_istore_n (lv' := [(2, .int 0), (5, .int 0), (4, .int n_20), (3, .int l_9), (0, .ref (hs 0)), (1, .int k)]) hx hb dX9_plan_115 rfl hl (by decide) rfl (fun ls hl => ?_)
                    obtain ⟨n_39, en_39⟩ : ∃ y : Int32, y = l_9 + 1 := ⟨_, rfl⟩
                    have tn_39 : n_39.toInt = l_9.toInt + 1 := i_add en_39 (rfl : l_9.toInt = l_9.toInt) (by decide : (1 : Int32).toInt = 1) (by omega) (by omega)
                    refine lv_iinc (v := n_39) (lv' := [(3, .int n_39), (2, .int 0), (5, .int 0), (4, .int n_20), (0, .ref (hs 0)), (1, .int k)]) hx hb dX9_plan_116 hl (k := 3) rfl (by rw [en_39]; rfl) (by decide) rfl (fun ls hl => ?_)
                    refine lv_goto (tgt := 33) hx hb dX9_plan_119 (by decide) ?_
                    have k_40 : (0 : Int32).toInt = 0 := by decide
                    exact ih33_10 0 n_39 (by omega) (by omega) (Or.inr ⟨by omega, fun h => by
                      rcases hL33_10_2 with ⟨z1, z2⟩ | ⟨z1, z2⟩
                      · have g9 := h l_9.toNatClampNeg (by rw [i_ix (rfl : l_9.toInt = l_9.toInt)]; omega)
                        unfold pgood at g9
                        rw [← en_20, ← en_21] at g9
                        omega
                      · exact z2 h⟩) (by omega) (by omega) _ _ _ hP hD hS (lv_sub hl [0, 1, 4, 5] rfl)
                  · have gc_38 : l_8.toInt ≠ 0 := i_ne (rfl : l_8.toInt = l_8.toInt) (by decide : (0 : Int32).toInt = 0) c_38
                    refine lv_aload_n hx hb dX9_plan_93 rfl (lv_at hl 4 rfl) ?_
                    refine gt_SP_SP_band hx hb hts hown hK hP lwd_19 dX9_plan_94 ?_
                    refine lv_iload hx hb dX9_plan_97 (lv_at hl 1 rfl) ?_
                    refine xi hD hS hA (xV (As := [.int n_20]) (rest := []) hx hb hml hown hts hK hP hD hS hA NS_ok hN hAe hl.1 ⟨Nat.le_refl _, Nat.le_refl _⟩ 3 rfl rfl rfl (c_X0_hasWalker l D cy hs hH hT sH sT v_tape_size v_band_walkers v_band_loads v_band_pieces v_rules_clauses v_reader_end v_reader_at v_reader_length v_reader_letter v_reader_fault v_draft_clauses v_paces_version v_packing_quicker v_packing_loads v_packing_looseCount v_marches_told v_marches_changeMinutes v_marches_marching v_marches_gone v_search_known v_search_countHere v_search_countThere v_search_cost v_search_most v_search_found f_bytes f_knee f_weight f_limps f_bheft f_owner f_food f_miles f_slope f_rsteps f_rkind f_ryields f_rholds f_rletters f_rstack f_dsteps f_dkind f_dyields f_dholds f_dletters f_dstack f_caps f_versions f_sharing f_pheft f_prow f_holder f_comes f_pcaps f_room f_loose f_reached f_mrow f_minutesOn f_mtired f_here f_there f_statesHere f_statesThere f_listed f_stired f_burdens f_pacesOn f_restedOn f_behindOn f_behindFor f_first f_second f_plans f_tiredOn tS H.size n_20 (by omega)) (gi_V lwd_238 lwd_239 lwd_240 lwd_18 lwd_241) ⟨rfl, hd_X0_hasWalker⟩ ⟨Nat.le_of_ble_eq_true rfl, Nat.le_of_ble_eq_true rfl⟩ rfl (Nat.le_of_ble_eq_true rfl) dX9_plan_99) (fun r_42 u_41 H locs hw hP hD hS => ?_)
                    try dsimp only at hw hP hD
                    obtain ⟨p_43, p_44⟩ := hw
                    refine lv_if_eq (tgt := 114) hx hb dX9_plan_102 (by decide) (fun c_45 => ?_) (fun c_45 => ?_)
                    · have gc_45 : r_42.toInt = 0 := i_eq (rfl : r_42.toInt = r_42.toInt) (by decide : (0 : Int32).toInt = 0) c_45
                      refine lv_iconst (v := 0) hx hb dX9_plan_114 (by decide) ?_
                      refine lv_istore_n (lv' := [(2, .int 0), (5, .int 0), (4, .int n_20), (3, .int l_9), (0, .ref (hs 0)), (1, .int k)]) hx hb dX9_plan_115 rfl hl (by decide) rfl (fun ls hl => ?_)
                      obtain ⟨n_46, en_46⟩ : ∃ y : Int32, y = l_9 + 1 := ⟨_, rfl⟩
                      have tn_46 : n_46.toInt = l_9.toInt + 1 := i_add en_46 (rfl : l_9.toInt = l_9.toInt) (by decide : (1 : Int32).toInt = 1) (by omega) (by omega)
                      refine lv_iinc (v := n_46) (lv' := [(3, .int n_46), (2, .int 0), (5, .int 0), (4, .int n_20), (0, .ref (hs 0)), (1, .int k)]) hx hb dX9_plan_116 hl (k := 3) rfl (by rw [en_46]; rfl) (by decide) rfl (fun ls hl => ?_)
                      refine lv_goto (tgt := 33) hx hb dX9_plan_119 (by decide) ?_
                      have k_47 : (0 : Int32).toInt = 0 := by decide
                      exact ih33_10 0 n_46 (by omega) (by omega) (Or.inr ⟨by omega, fun h => by
                        rcases hL33_10_2 with ⟨z1, z2⟩ | ⟨z1, z2⟩
                        · have g9 := h l_9.toNatClampNeg (by rw [i_ix (rfl : l_9.toInt = l_9.toInt)]; omega)
                          unfold pgood at g9
                          rw [← en_20, ← en_21] at g9
                          omega
                        · exact z2 h⟩) (by omega) (by omega) _ _ _ hP hD hS (lv_sub hl [0, 1, 4, 5] rfl)
                    · have gc_45 : r_42.toInt ≠ 0 := i_ne (rfl : r_42.toInt = r_42.toInt) (by decide : (0 : Int32).toInt = 0) c_45
                      refine lv_iload hx hb dX9_plan_105 (lv_at hl 0 rfl) ?_
                      refine lv_if_eq (tgt := 114) hx hb dX9_plan_107 (by decide) (fun c_48 => ?_) (fun c_48 => ?_)
                      · skip
                        refine lv_iconst (v := 0) hx hb dX9_plan_114 (by decide) ?_
                        refine lv_istore_n (lv' := [(2, .int 0), (5, .int 0), (4, .int n_20), (3, .int l_9), (0, .ref (hs 0)), (1, .int k)]) hx hb dX9_plan_115 rfl hl (by decide) rfl (fun ls hl => ?_)
                        obtain ⟨n_49, en_49⟩ : ∃ y : Int32, y = l_9 + 1 := ⟨_, rfl⟩
                        have tn_49 : n_49.toInt = l_9.toInt + 1 := i_add en_49 (rfl : l_9.toInt = l_9.toInt) (by decide : (1 : Int32).toInt = 1) (by omega) (by omega)
                        refine lv_iinc (v := n_49) (lv' := [(3, .int n_49), (2, .int 0), (5, .int 0), (4, .int n_20), (0, .ref (hs 0)), (1, .int k)]) hx hb dX9_plan_116 hl (k := 3) rfl (by rw [en_49]; rfl) (by decide) rfl (fun ls hl => ?_)
                        refine lv_goto (tgt := 33) hx hb dX9_plan_119 (by decide) ?_
                        have k_50 : (0 : Int32).toInt = 0 := by decide
                        exact ih33_10 0 n_49 (by omega) (by omega) (Or.inr ⟨by omega, fun h => by
                          rcases hL33_10_2 with ⟨z1, z2⟩ | ⟨z1, z2⟩
                          · have g9 := h l_9.toNatClampNeg (by rw [i_ix (rfl : l_9.toInt = l_9.toInt)]; omega)
                            unfold pgood at g9
                            rw [← en_20, ← en_21] at g9
                            omega
                          · exact z2 h⟩) (by omega) (by omega) _ _ _ hP hD hS (lv_sub hl [0, 1, 4, 5] rfl)
                      · exact absurd c_48 (by decide)
                · have gc_37 : n_21.toInt = n_20.toInt := i_eq (rfl : n_21.toInt = n_21.toInt) (rfl : n_20.toInt = n_20.toInt) c_37
                  refine lv_iconst (v := 1) hx hb dX9_plan_82 (by decide) ?_
                  refine lv_goto (tgt := 87) hx hb dX9_plan_83 (by decide) ?_
                  refine lv_istore (lv' := [(5, .int 1), (4, .int n_20), (3, .int l_9), (2, .int l_8), (0, .ref (hs 0)), (1, .int k)]) hx hb dX9_plan_87 hl (by decide) rfl (fun ls hl => ?_)
                  refine lv_iload_n hx hb dX9_plan_89 rfl (lv_at hl 3 rfl) ?_
                  refine lv_if_eq (tgt := 114) hx hb dX9_plan_90 (by decide) (fun c_51 => ?_) (fun c_51 => ?_)
                  · have gc_51 : l_8.toInt = 0 := i_eq (rfl : l_8.toInt = l_8.toInt) (by decide : (0 : Int32).toInt = 0) c_51
                    refine lv_iconst (v := 0) hx hb dX9_plan_114 (by decide) ?_
                    refine lv_istore_n (lv' := [(2, .int 0), (5, .int 1), (4, .int n_20), (3, .int l_9), (0, .ref (hs 0)), (1, .int k)]) hx hb dX9_plan_115 rfl hl (by decide) rfl (fun ls hl => ?_)
                    obtain ⟨n_52, en_52⟩ : ∃ y : Int32, y = l_9 + 1 := ⟨_, rfl⟩
                    have tn_52 : n_52.toInt = l_9.toInt + 1 := i_add en_52 (rfl : l_9.toInt = l_9.toInt) (by decide : (1 : Int32).toInt = 1) (by omega) (by omega)
                    refine lv_iinc (v := n_52) (lv' := [(3, .int n_52), (2, .int 0), (5, .int 1), (4, .int n_20), (0, .ref (hs 0)), (1, .int k)]) hx hb dX9_plan_116 hl (k := 3) rfl (by rw [en_52]; rfl) (by decide) rfl (fun ls hl => ?_)
                    refine lv_goto (tgt := 33) hx hb dX9_plan_119 (by decide) ?_
                    have k_53 : (0 : Int32).toInt = 0 := by decide
                    exact ih33_10 0 n_52 (by omega) (by omega) (Or.inr ⟨by omega, fun h => by
                      rcases hL33_10_2 with ⟨z1, z2⟩ | ⟨z1, z2⟩
                      · have g9 := h l_9.toNatClampNeg (by rw [i_ix (rfl : l_9.toInt = l_9.toInt)]; omega)
                        unfold pgood at g9
                        rw [← en_20, ← en_21] at g9
                        omega
                      · exact z2 h⟩) (by omega) (by omega) _ _ _ hP hD hS (lv_sub hl [0, 1, 4, 5] rfl)
                  · have gc_51 : l_8.toInt ≠ 0 := i_ne (rfl : l_8.toInt = l_8.toInt) (by decide : (0 : Int32).toInt = 0) c_51
                    refine lv_aload_n hx hb dX9_plan_93 rfl (lv_at hl 4 rfl) ?_
                    refine gt_SP_SP_band hx hb hts hown hK hP lwd_19 dX9_plan_94 ?_
                    refine lv_iload hx hb dX9_plan_97 (lv_at hl 1 rfl) ?_
                    refine xi hD hS hA (xV (As := [.int n_20]) (rest := []) hx hb hml hown hts hK hP hD hS hA NS_ok hN hAe hl.1 ⟨Nat.le_refl _, Nat.le_refl _⟩ 3 rfl rfl rfl (c_X0_hasWalker l D cy hs hH hT sH sT v_tape_size v_band_walkers v_band_loads v_band_pieces v_rules_clauses v_reader_end v_reader_at v_reader_length v_reader_letter v_reader_fault v_draft_clauses v_paces_version v_packing_quicker v_packing_loads v_packing_looseCount v_marches_told v_marches_changeMinutes v_marches_marching v_marches_gone v_search_known v_search_countHere v_search_countThere v_search_cost v_search_most v_search_found f_bytes f_knee f_weight f_limps f_bheft f_owner f_food f_miles f_slope f_rsteps f_rkind f_ryields f_rholds f_rletters f_rstack f_dsteps f_dkind f_dyields f_dholds f_dletters f_dstack f_caps f_versions f_sharing f_pheft f_prow f_holder f_comes f_pcaps f_room f_loose f_reached f_mrow f_minutesOn f_mtired f_here f_there f_statesHere f_statesThere f_listed f_stired f_burdens f_pacesOn f_restedOn f_behindOn f_behindFor f_first f_second f_plans f_tiredOn tS H.size n_20 (by omega)) (gi_V lwd_238 lwd_239 lwd_240 lwd_18 lwd_241) ⟨rfl, hd_X0_hasWalker⟩ ⟨Nat.le_of_ble_eq_true rfl, Nat.le_of_ble_eq_true rfl⟩ rfl (Nat.le_of_ble_eq_true rfl) dX9_plan_99) (fun r_55 u_54 H locs hw hP hD hS => ?_)
                    try dsimp only at hw hP hD
                    obtain ⟨p_56, p_57⟩ := hw
                    refine lv_if_eq (tgt := 114) hx hb dX9_plan_102 (by decide) (fun c_58 => ?_) (fun c_58 => ?_)
                    · have gc_58 : r_55.toInt = 0 := i_eq (rfl : r_55.toInt = r_55.toInt) (by decide : (0 : Int32).toInt = 0) c_58
                      refine lv_iconst (v := 0) hx hb dX9_plan_114 (by decide) ?_
                      refine lv_istore_n (lv' := [(2, .int 0), (5, .int 1), (4, .int n_20), (3, .int l_9), (0, .ref (hs 0)), (1, .int k)]) hx hb dX9_plan_115 rfl hl (by decide) rfl (fun ls hl => ?_)
                      obtain ⟨n_59, en_59⟩ : ∃ y : Int32, y = l_9 + 1 := ⟨_, rfl⟩
                      have tn_59 : n_59.toInt = l_9.toInt + 1 := i_add en_59 (rfl : l_9.toInt = l_9.toInt) (by decide : (1 : Int32).toInt = 1) (by omega) (by omega)
                      refine lv_iinc (v := n_59) (lv' := [(3, .int n_59), (2, .int 0), (5, .int 1), (4, .int n_20), (0, .ref (hs 0)), (1, .int k)]) hx hb dX9_plan_116 hl (k := 3) rfl (by rw [en_59]; rfl) (by decide) rfl (fun ls hl => ?_)
                      refine lv_goto (tgt := 33) hx hb dX9_plan_119 (by decide) ?_
                      have k_60 : (0 : Int32).toInt = 0 := by decide
                      exact ih33_10 0 n_59 (by omega) (by omega) (Or.inr ⟨by omega, fun h => by
                        rcases hL33_10_2 with ⟨z1, z2⟩ | ⟨z1, z2⟩
                        · have g9 := h l_9.toNatClampNeg (by rw [i_ix (rfl : l_9.toInt = l_9.toInt)]; omega)
                          unfold pgood at g9
                          rw [← en_20, ← en_21] at g9
                          omega
                        · exact z2 h⟩) (by omega) (by omega) _ _ _ hP hD hS (lv_sub hl [0, 1, 4, 5] rfl)
                    · have gc_58 : r_55.toInt ≠ 0 := i_ne (rfl : r_55.toInt = r_55.toInt) (by decide : (0 : Int32).toInt = 0) c_58
                      refine lv_iload hx hb dX9_plan_105 (lv_at hl 0 rfl) ?_
                      refine lv_if_eq (tgt := 114) hx hb dX9_plan_107 (by decide) (fun c_61 => ?_) (fun c_61 => ?_)
                      · exact absurd c_61 (by decide)
                      · skip
                        refine lv_iconst (v := 1) hx hb dX9_plan_110 (by decide) ?_
                        refine lv_goto (tgt := 115) hx hb dX9_plan_111 (by decide) ?_
                        refine lv_istore_n (lv' := [(2, .int 1), (5, .int 1), (4, .int n_20), (3, .int l_9), (0, .ref (hs 0)), (1, .int k)]) hx hb dX9_plan_115 rfl hl (by decide) rfl (fun ls hl => ?_)
                        obtain ⟨n_62, en_62⟩ : ∃ y : Int32, y = l_9 + 1 := ⟨_, rfl⟩
                        have tn_62 : n_62.toInt = l_9.toInt + 1 := i_add en_62 (rfl : l_9.toInt = l_9.toInt) (by decide : (1 : Int32).toInt = 1) (by omega) (by omega)
                        refine lv_iinc (v := n_62) (lv' := [(3, .int n_62), (2, .int 1), (5, .int 1), (4, .int n_20), (0, .ref (hs 0)), (1, .int k)]) hx hb dX9_plan_116 hl (k := 3) rfl (by rw [en_62]; rfl) (by decide) rfl (fun ls hl => ?_)
                        refine lv_goto (tgt := 33) hx hb dX9_plan_119 (by decide) ?_
                        have k_63 : (1 : Int32).toInt = 1 := by decide
                        exact ih33_10 1 n_62 (by omega) (by omega) (Or.inl ⟨by omega, hL33_10_2.elim (fun z => pall_step (x := l_9.toNatClampNeg) z.2 (by rw [i_ix (rfl : l_9.toInt = l_9.toInt)]; omega) (by omega) ⟨by rw [← en_20]; omega, by rw [← en_20, ← en_21]; omega⟩) (fun z => absurd z.1 (by omega))⟩) (by omega) (by omega) _ _ _ hP hD hS (lv_sub hl [0, 1, 4, 5] rfl)
        have k_64 : (1 : Int32).toInt = 1 := by decide
        have k_65 : (0 : Int32).toInt = 0 := by decide
        exact L33_10 8589934592 1 0 (by omega) (by omega) (Or.inl ⟨by omega, fun j hj => absurd hj (by omega)⟩) (by omega) (by omega) _ _ _ hP hD hS (lv_sub hl [0, 1, 2, 3] rfl)
      · have gc_5 : v_tape_size.toInt < v_band_loads.toInt := i_nle (rfl : v_band_loads.toInt = v_band_loads.toInt) (rfl : v_tape_size.toInt = v_tape_size.toInt) c_5
        refine lv_iconst (v := 0) hx hb dX9_plan_27 (by decide) ?_
        have k_66 : (0 : Int32).toInt = 0 := by decide
        exact hrt 0 v_tape_size v_marches_told v_marches_marching v_search_known f_plans ⟨(by omega), (Or.inl ⟨by omega, by omega, by omega, rfl, by omega⟩), (by omega), (by omega), (by omega)⟩ hP hD hS rfl dX9_plan_28
set_option maxHeartbeats 16000000 in
set_option maxRecDepth 100000 in
theorem c_X1_isTold_q (l : Launch) (D : va_G) (cy : Nat → ClassId) (hs : Nat → Nat) (hH hT sH sT : Nat) (v_tape_size v_band_walkers v_band_loads v_band_pieces v_rules_clauses v_reader_end v_reader_at v_reader_length v_reader_letter v_reader_fault v_draft_clauses v_paces_version v_packing_quicker v_packing_loads v_packing_looseCount v_marches_told v_marches_changeMinutes v_marches_marching v_marches_gone v_search_known v_search_countHere v_search_countThere v_search_cost v_search_most : Int32) (v_search_found : Int64) (f_bytes f_knee f_weight f_limps f_bheft f_owner f_food f_miles f_slope f_rsteps f_rkind f_ryields f_rholds f_rletters f_rstack f_dsteps f_dkind f_dyields f_dholds f_dletters f_dstack f_caps f_versions f_sharing f_pheft f_prow f_holder f_comes f_pcaps f_room f_loose f_reached f_mrow f_minutesOn f_mtired : Nat → Int32) (f_here f_there : Nat → Int64) (f_statesHere f_statesThere f_listed f_stired f_burdens f_pacesOn f_restedOn f_behindOn f_behindFor f_first f_second : Nat → Int32) (f_plans f_tiredOn : Nat → Nat → Int32) (tS : Nat) (sz : Nat) (k : Int32) : gMi l yX1_isTold cX1_isTold 2 .boolean 1 [.ref (hs 40), .int k] D cy (wSP cy hs hH hT sH sT v_tape_size v_band_walkers v_band_loads v_band_pieces v_rules_clauses v_reader_end v_reader_at v_reader_length v_reader_letter v_reader_fault v_draft_clauses v_paces_version v_packing_quicker v_packing_loads v_packing_looseCount v_marches_told v_marches_changeMinutes v_marches_marching v_marches_gone v_search_known v_search_countHere v_search_countThere v_search_cost v_search_most v_search_found f_bytes f_knee f_weight f_limps f_bheft f_owner f_food f_miles f_slope f_rsteps f_rkind f_ryields f_rholds f_rletters f_rstack f_dsteps f_dkind f_dyields f_dholds f_dletters f_dstack f_caps f_versions f_sharing f_pheft f_prow f_holder f_comes f_pcaps f_room f_loose f_reached f_mrow f_minutesOn f_mtired f_here f_there f_statesHere f_statesThere f_listed f_stired f_burdens f_pacesOn f_restedOn f_behindOn f_behindFor f_first f_second f_plans f_tiredOn) (NS tS) sz (fun (r : Int32) (u : Unit) => (0 ≤ r.toInt ∧ r.toInt ≤ 1) ∧ ((r.toInt = 1 ∧ 0 ≤ k.toInt ∧ k.toInt ≤ 5 ∧ (v_marches_told >>> (k &&& 31)) &&& 1 = 1) ∨ (r.toInt = 0 ∧ ¬ (0 ≤ k.toInt ∧ k.toInt ≤ 5 ∧ (v_marches_told >>> (k &&& 31)) &&& 1 = 1)))) (fun u => wSP cy hs hH hT sH sT v_tape_size v_band_walkers v_band_loads v_band_pieces v_rules_clauses v_reader_end v_reader_at v_reader_length v_reader_letter v_reader_fault v_draft_clauses v_paces_version v_packing_quicker v_packing_loads v_packing_looseCount v_marches_told v_marches_changeMinutes v_marches_marching v_marches_gone v_search_known v_search_countHere v_search_countThere v_search_cost v_search_most v_search_found f_bytes f_knee f_weight f_limps f_bheft f_owner f_food f_miles f_slope f_rsteps f_rkind f_ryields f_rholds f_rletters f_rstack f_dsteps f_dkind f_dyields f_dholds f_dletters f_dstack f_caps f_versions f_sharing f_pheft f_prow f_holder f_comes f_pcaps f_room f_loose f_reached f_mrow f_minutesOn f_mtired f_here f_there f_statesHere f_statesThere f_listed f_stired f_burdens f_pacesOn f_restedOn f_behindOn f_behindFor f_first f_second f_plans f_tiredOn) := by
  refine gMi_in (by decide) (Nat.le_of_ble_eq_true rfl) ?_
  intro p e s m args below meth c A ls Q hx hb hml hts hown hsz hP hK hD hN hAe hA hS hl hret
  subst hsz
  have hl : lv_has ls 2 [(0, .ref (hs 40)), (1, .int k)] := hl
  have hrt := fun (r : Int32)  (hp : (0 ≤ r.toInt ∧ r.toInt ≤ 1) ∧ ((r.toInt = 1 ∧ 0 ≤ k.toInt ∧ k.toInt ≤ 5 ∧ (v_marches_told >>> (k &&& 31)) &&& 1 = 1) ∨ (r.toInt = 0 ∧ ¬ (0 ≤ k.toInt ∧ k.toInt ≤ 5 ∧ (v_marches_told >>> (k &&& 31)) &&& 1 = 1)))) {H : Heap} {locs : List Loc} {pc : Nat} {ls : Array Slot} => hret r () (H := H) (locs := locs) (pc := pc) (ls := ls) hp
  clear hret
  refine lv_iload_n hx hb dX1_isTold_0 rfl (lv_at hl 1 rfl) ?_
  refine lv_if_lt (tgt := 25) hx hb dX1_isTold_1 (by decide) (fun c_1 => ?_) (fun c_1 => ?_)
  · have gc_1 : k.toInt < 0 := i_lt (rfl : k.toInt = k.toInt) (by decide : (0 : Int32).toInt = 0) c_1
    refine lv_iconst (v := 0) hx hb dX1_isTold_25 (by decide) ?_
    have k_2 : (0 : Int32).toInt = 0 := by decide
    exact hrt 0  ⟨(by omega), (Or.inr ⟨by omega, fun z => by obtain ⟨z1, z2, z3⟩ := z; omega⟩)⟩ hP hD hS rfl dX1_isTold_26
  · have gc_1 : 0 ≤ k.toInt := i_nlt (rfl : k.toInt = k.toInt) (by decide : (0 : Int32).toInt = 0) c_1
    refine lv_iload_n hx hb dX1_isTold_4 rfl (lv_at hl 1 rfl) ?_
    refine lv_bipush (v := 6) hx hb dX1_isTold_5 (by decide) ?_
    refine lv_icmp_ge (tgt := 25) hx hb dX1_isTold_7 (by decide) (fun c_3 => ?_) (fun c_3 => ?_)
    · have gc_3 : 6 ≤ k.toInt := i_le (by decide : (6 : Int32).toInt = 6) (rfl : k.toInt = k.toInt) c_3
      refine lv_iconst (v := 0) hx hb dX1_isTold_25 (by decide) ?_
      have k_4 : (0 : Int32).toInt = 0 := by decide
      exact hrt 0  ⟨(by omega), (Or.inr ⟨by omega, fun z => by obtain ⟨z1, z2, z3⟩ := z; omega⟩)⟩ hP hD hS rfl dX1_isTold_26
    · have gc_3 : k.toInt < 6 := i_nle (by decide : (6 : Int32).toInt = 6) (rfl : k.toInt = k.toInt) c_3
      refine lv_aload_n hx hb dX1_isTold_10 rfl (lv_at hl 0 rfl) ?_
      refine gt_SP_marches_told hx hb hts hown hK hP lwd_915 dX1_isTold_11 ?_
      refine lv_iload_n hx hb dX1_isTold_14 rfl (lv_at hl 1 rfl) ?_
      refine lv_ishr hx hb dX1_isTold_15 ?_
      refine lv_topi (fun n_5 en_5 => ?_)
      skip
      refine lv_iconst (v := 1) hx hb dX1_isTold_16 (by decide) ?_
      refine lv_iand hx hb dX1_isTold_17 ?_
      refine lv_topi (fun n_6 en_6 => ?_)
      have bn_6 : 0 ≤ n_6.toInt ∧ n_6.toInt ≤ 1 := i_msk 1 en_6 (by decide) (by decide) (by decide)
      skip
      refine lv_if_eq (tgt := 25) hx hb dX1_isTold_18 (by decide) (fun c_7 => ?_) (fun c_7 => ?_)
      · have gc_7 : n_6.toInt = 0 := i_eq (rfl : n_6.toInt = n_6.toInt) (by decide : (0 : Int32).toInt = 0) c_7
        refine lv_iconst (v := 0) hx hb dX1_isTold_25 (by decide) ?_
        have k_8 : (0 : Int32).toInt = 0 := by decide
        exact hrt 0  ⟨(by omega), (Or.inr ⟨by omega, fun z => by have q := congrArg Int32.toInt z.2.2; rw [← en_5, ← en_6] at q; have q1 : (1 : Int32).toInt = 1 := (by decide); omega⟩)⟩ hP hD hS rfl dX1_isTold_26
      · have gc_7 : n_6.toInt ≠ 0 := i_ne (rfl : n_6.toInt = n_6.toInt) (by decide : (0 : Int32).toInt = 0) c_7
        refine lv_iconst (v := 1) hx hb dX1_isTold_21 (by decide) ?_
        refine lv_goto (tgt := 26) hx hb dX1_isTold_22 (by decide) ?_
        have k_9 : (1 : Int32).toInt = 1 := by decide
        exact hrt 1  ⟨(by omega), (Or.inl ⟨by omega, by omega, by omega, i_same (Eq.trans (b := 1) (by rw [← en_5, ← en_6]; omega) (by decide))⟩)⟩ hP hD hS rfl dX1_isTold_26
set_option maxHeartbeats 16000000 in
set_option maxRecDepth 100000 in
theorem c_X9_march_q (l : Launch) (D : va_G) (cy : Nat → ClassId) (hs : Nat → Nat) (hH hT sH sT : Nat) (v_tape_size v_band_walkers v_band_loads v_band_pieces v_rules_clauses v_reader_end v_reader_at v_reader_length v_reader_letter v_reader_fault v_draft_clauses v_paces_version v_packing_quicker v_packing_loads v_packing_looseCount v_marches_told v_marches_changeMinutes v_marches_marching v_marches_gone v_search_known v_search_countHere v_search_countThere v_search_cost v_search_most : Int32) (v_search_found : Int64) (f_bytes f_knee f_weight f_limps f_bheft f_owner f_food f_miles f_slope f_rsteps f_rkind f_ryields f_rholds f_rletters f_rstack f_dsteps f_dkind f_dyields f_dholds f_dletters f_dstack f_caps f_versions f_sharing f_pheft f_prow f_holder f_comes f_pcaps f_room f_loose f_reached f_mrow f_minutesOn f_mtired : Nat → Int32) (f_here f_there : Nat → Int64) (f_statesHere f_statesThere f_listed f_stired f_burdens f_pacesOn f_restedOn f_behindOn f_behindFor f_first f_second : Nat → Int32) (f_plans f_tiredOn : Nat → Nat → Int32) (tS : Nat) (sz : Nat) (n1 : Int32) (hb_v_tape_size : 0 ≤ v_tape_size.toInt ∧ v_tape_size.toInt ≤ 220) (hb_v_band_walkers : 0 ≤ v_band_walkers.toInt ∧ v_band_walkers.toInt ≤ 6) (hb_v_band_pieces : 0 ≤ v_band_pieces.toInt ∧ v_band_pieces.toInt ≤ 10) (hb_v_marches_marching : 0 ≤ v_marches_marching.toInt ∧ v_marches_marching.toInt ≤ 1) (hr_bytes : rg (0) 255 f_bytes) (hr_mrow : rg (0) 17 f_mrow) : gMi l yX9_march cX9_march 5 .boolean 2 [.ref (hs 0), .int n1] D cy (wSP cy hs hH hT sH sT v_tape_size v_band_walkers v_band_loads v_band_pieces v_rules_clauses v_reader_end v_reader_at v_reader_length v_reader_letter v_reader_fault v_draft_clauses v_paces_version v_packing_quicker v_packing_loads v_packing_looseCount v_marches_told v_marches_changeMinutes v_marches_marching v_marches_gone v_search_known v_search_countHere v_search_countThere v_search_cost v_search_most v_search_found f_bytes f_knee f_weight f_limps f_bheft f_owner f_food f_miles f_slope f_rsteps f_rkind f_ryields f_rholds f_rletters f_rstack f_dsteps f_dkind f_dyields f_dholds f_dletters f_dstack f_caps f_versions f_sharing f_pheft f_prow f_holder f_comes f_pcaps f_room f_loose f_reached f_mrow f_minutesOn f_mtired f_here f_there f_statesHere f_statesThere f_listed f_stired f_burdens f_pacesOn f_restedOn f_behindOn f_behindFor f_first f_second f_plans f_tiredOn) (NS tS) sz (fun (r : Int32) (u : Int32 × Int32 × (Nat → Int32)) => (0 ≤ r.toInt ∧ r.toInt ≤ 1) ∧ ((¬ (1 ≤ n1.toInt ∧ n1.toInt = v_band_pieces.toInt ∧ v_band_walkers.toInt ≠ 0 ∧ n1.toInt ≤ v_tape_size.toInt) ∧ r.toInt = 0 ∧ (u.1).toInt = v_tape_size.toInt ∧ (u.2.1).toInt = v_marches_marching.toInt) ∨ ((1 ≤ n1.toInt ∧ n1.toInt = v_band_pieces.toInt ∧ v_band_walkers.toInt ≠ 0 ∧ n1.toInt ≤ v_tape_size.toInt) ∧ (u.1).toInt = 0 ∧ ((r.toInt = 1 ∧ mall v_marches_told f_bytes n1.toInt ∧ (u.2.1).toInt = 1) ∨ (r.toInt = 0 ∧ ¬ mall v_marches_told f_bytes n1.toInt ∧ (u.2.1).toInt = v_marches_marching.toInt)))) ∧ (0 ≤ (u.1).toInt ∧ (u.1).toInt ≤ 220) ∧ (0 ≤ (u.2.1).toInt ∧ (u.2.1).toInt ≤ 1) ∧ (rg (0) 17 (u.2.2))) (fun u => wSP cy hs hH hT sH sT (u.1) v_band_walkers v_band_loads v_band_pieces v_rules_clauses v_reader_end v_reader_at v_reader_length v_reader_letter v_reader_fault v_draft_clauses v_paces_version v_packing_quicker v_packing_loads v_packing_looseCount v_marches_told v_marches_changeMinutes (u.2.1) v_marches_gone v_search_known v_search_countHere v_search_countThere v_search_cost v_search_most v_search_found f_bytes f_knee f_weight f_limps f_bheft f_owner f_food f_miles f_slope f_rsteps f_rkind f_ryields f_rholds f_rletters f_rstack f_dsteps f_dkind f_dyields f_dholds f_dletters f_dstack f_caps f_versions f_sharing f_pheft f_prow f_holder f_comes f_pcaps f_room f_loose f_reached (u.2.2) f_minutesOn f_mtired f_here f_there f_statesHere f_statesThere f_listed f_stired f_burdens f_pacesOn f_restedOn f_behindOn f_behindFor f_first f_second f_plans f_tiredOn) := by
  refine gMi_in (by decide) (Nat.le_of_ble_eq_true rfl) ?_
  intro p e s m args below meth c A ls Q hx hb hml hts hown hsz hP hK hD hN hAe hA hS hl hret
  subst hsz
  have hl : lv_has ls 5 [(0, .ref (hs 0)), (1, .int n1)] := hl
  have hrt := fun (r : Int32) (v_tape_size' : Int32) (v_marches_marching' : Int32) (f_mrow' : Nat → Int32) (hp : (0 ≤ r.toInt ∧ r.toInt ≤ 1) ∧ ((¬ (1 ≤ n1.toInt ∧ n1.toInt = v_band_pieces.toInt ∧ v_band_walkers.toInt ≠ 0 ∧ n1.toInt ≤ v_tape_size.toInt) ∧ r.toInt = 0 ∧ v_tape_size'.toInt = v_tape_size.toInt ∧ v_marches_marching'.toInt = v_marches_marching.toInt) ∨ ((1 ≤ n1.toInt ∧ n1.toInt = v_band_pieces.toInt ∧ v_band_walkers.toInt ≠ 0 ∧ n1.toInt ≤ v_tape_size.toInt) ∧ v_tape_size'.toInt = 0 ∧ ((r.toInt = 1 ∧ mall v_marches_told f_bytes n1.toInt ∧ v_marches_marching'.toInt = 1) ∨ (r.toInt = 0 ∧ ¬ mall v_marches_told f_bytes n1.toInt ∧ v_marches_marching'.toInt = v_marches_marching.toInt)))) ∧ (0 ≤ v_tape_size'.toInt ∧ v_tape_size'.toInt ≤ 220) ∧ (0 ≤ v_marches_marching'.toInt ∧ v_marches_marching'.toInt ≤ 1) ∧ (rg (0) 17 f_mrow')) {H : Heap} {locs : List Loc} {pc : Nat} {ls : Array Slot} => hret r (v_tape_size', v_marches_marching', f_mrow') (H := H) (locs := locs) (pc := pc) (ls := ls) hp
  clear hret
  refine lv_iload_n hx hb dX9_march_0 rfl (lv_at hl 1 rfl) ?_
  refine lv_iconst (v := 1) hx hb dX9_march_1 (by decide) ?_
  refine lv_icmp_lt (tgt := 37) hx hb dX9_march_2 (by decide) (fun c_1 => ?_) (fun c_1 => ?_)
  · have gc_1 : n1.toInt < 1 := i_lt (rfl : n1.toInt = n1.toInt) (by decide : (1 : Int32).toInt = 1) c_1
    refine lv_iconst (v := 0) hx hb dX9_march_37 (by decide) ?_
    have k_2 : (0 : Int32).toInt = 0 := by decide
    exact hrt 0 v_tape_size v_marches_marching f_mrow ⟨(by omega), (Or.inl ⟨by omega, by omega, by omega, by omega⟩), (by omega), (by omega), hr_mrow⟩ hP hD hS rfl dX9_march_38
  · have gc_1 : 1 ≤ n1.toInt := i_nlt (rfl : n1.toInt = n1.toInt) (by decide : (1 : Int32).toInt = 1) c_1
    refine lv_iload_n hx hb dX9_march_5 rfl (lv_at hl 1 rfl) ?_
    refine lv_aload_n hx hb dX9_march_6 rfl (lv_at hl 0 rfl) ?_
    refine gt_SP_SP_band hx hb hts hown hK hP lwd_19 dX9_march_7 ?_
    refine gt_SP_band_pieces hx hb hts hown hK hP lwd_258 dX9_march_10 ?_
    refine lv_icmp_ne (tgt := 37) hx hb dX9_march_13 (by decide) (fun c_3 => ?_) (fun c_3 => ?_)
    · have gc_3 : n1.toInt ≠ v_band_pieces.toInt := i_ne (rfl : n1.toInt = n1.toInt) (rfl : v_band_pieces.toInt = v_band_pieces.toInt) c_3
      refine lv_iconst (v := 0) hx hb dX9_march_37 (by decide) ?_
      have k_4 : (0 : Int32).toInt = 0 := by decide
      exact hrt 0 v_tape_size v_marches_marching f_mrow ⟨(by omega), (Or.inl ⟨by omega, by omega, by omega, by omega⟩), (by omega), (by omega), hr_mrow⟩ hP hD hS rfl dX9_march_38
    · have gc_3 : n1.toInt = v_band_pieces.toInt := i_eq (rfl : n1.toInt = n1.toInt) (rfl : v_band_pieces.toInt = v_band_pieces.toInt) c_3
      refine lv_aload_n hx hb dX9_march_16 rfl (lv_at hl 0 rfl) ?_
      refine gt_SP_SP_band hx hb hts hown hK hP lwd_19 dX9_march_17 ?_
      refine gt_SP_band_walkers hx hb hts hown hK hP lwd_206 dX9_march_20 ?_
      refine lv_if_eq (tgt := 37) hx hb dX9_march_23 (by decide) (fun c_5 => ?_) (fun c_5 => ?_)
      · have gc_5 : v_band_walkers.toInt = 0 := i_eq (rfl : v_band_walkers.toInt = v_band_walkers.toInt) (by decide : (0 : Int32).toInt = 0) c_5
        refine lv_iconst (v := 0) hx hb dX9_march_37 (by decide) ?_
        have k_6 : (0 : Int32).toInt = 0 := by decide
        exact hrt 0 v_tape_size v_marches_marching f_mrow ⟨(by omega), (Or.inl ⟨by omega, by omega, by omega, by omega⟩), (by omega), (by omega), hr_mrow⟩ hP hD hS rfl dX9_march_38
      · have gc_5 : v_band_walkers.toInt ≠ 0 := i_ne (rfl : v_band_walkers.toInt = v_band_walkers.toInt) (by decide : (0 : Int32).toInt = 0) c_5
        refine lv_aload_n hx hb dX9_march_26 rfl (lv_at hl 0 rfl) ?_
        refine gt_SP_SP_tape hx hb hts hown hK hP lwd_15 dX9_march_27 ?_
        refine gt_SP_tape_size hx hb hts hown hK hP lwd_288 dX9_march_30 ?_
        refine lv_iload_n hx hb dX9_march_33 rfl (lv_at hl 1 rfl) ?_
        refine lv_icmp_ge (tgt := 39) hx hb dX9_march_34 (by decide) (fun c_7 => ?_) (fun c_7 => ?_)
        · have gc_7 : n1.toInt ≤ v_tape_size.toInt := i_le (rfl : n1.toInt = n1.toInt) (rfl : v_tape_size.toInt = v_tape_size.toInt) c_7
          refine lv_iconst (v := 1) hx hb dX9_march_39 (by decide) ?_
          refine lv_istore_n (lv' := [(2, .int 1), (0, .ref (hs 0)), (1, .int n1)]) hx hb dX9_march_40 rfl hl (by decide) rfl (fun ls hl => ?_)
          refine lv_iconst (v := 0) hx hb dX9_march_41 (by decide) ?_
          refine lv_istore_n (lv' := [(3, .int 0), (2, .int 1), (0, .ref (hs 0)), (1, .int n1)]) hx hb dX9_march_42 rfl hl (by decide) rfl (fun ls hl => ?_)
          have L43_12 : ∀ (n : Nat) (l_10 : Int32) (l_11 : Int32), (0 ≤ l_10.toInt ∧ l_10.toInt ≤ 1) → (0 ≤ l_11.toInt ∧ l_11.toInt ≤ 10) → (l_10.toInt ≠ 0 → ∀ j : Nat, (j : Int) < l_11.toInt → 0 ≤ (f_bytes j).toInt ∧ (f_bytes j).toInt ≤ 17) → ((l_10.toInt ≠ 0 ∧ mall v_marches_told f_bytes l_11.toInt) ∨ (l_10.toInt = 0 ∧ ¬ mall v_marches_told f_bytes n1.toInt)) → (l_11.toInt ≤ n1.toInt) → 11 - l_11.toInt < n → ∀ (H : Heap) (locs : List Loc) (ls : Array Slot), va_P D vwCl (wSP cy hs hH hT sH sT v_tape_size v_band_walkers v_band_loads v_band_pieces v_rules_clauses v_reader_end v_reader_at v_reader_length v_reader_letter v_reader_fault v_draft_clauses v_paces_version v_packing_quicker v_packing_loads v_packing_looseCount v_marches_told v_marches_changeMinutes v_marches_marching v_marches_gone v_search_known v_search_countHere v_search_countThere v_search_cost v_search_most v_search_found f_bytes f_knee f_weight f_limps f_bheft f_owner f_food f_miles f_slope f_rsteps f_rkind f_ryields f_rholds f_rletters f_rstack f_dsteps f_dkind f_dyields f_dholds f_dletters f_dstack f_caps f_versions f_sharing f_pheft f_prow f_holder f_comes f_pcaps f_room f_loose f_reached f_mrow f_minutesOn f_mtired f_here f_there f_statesHere f_statesThere f_listed f_stired f_burdens f_pacesOn f_restedOn f_behindOn f_behindFor f_first f_second f_plans f_tiredOn) H → va_D A (wSP cy hs hH hT sH sT v_tape_size v_band_walkers v_band_loads v_band_pieces v_rules_clauses v_reader_end v_reader_at v_reader_length v_reader_letter v_reader_fault v_draft_clauses v_paces_version v_packing_quicker v_packing_loads v_packing_looseCount v_marches_told v_marches_changeMinutes v_marches_marching v_marches_gone v_search_known v_search_countHere v_search_countThere v_search_cost v_search_most v_search_found f_bytes f_knee f_weight f_limps f_bheft f_owner f_food f_miles f_slope f_rsteps f_rkind f_ryields f_rholds f_rletters f_rstack f_dsteps f_dkind f_dyields f_dholds f_dletters f_dstack f_caps f_versions f_sharing f_pheft f_prow f_holder f_comes f_pcaps f_room f_loose f_reached f_mrow f_minutesOn f_mtired f_here f_there f_statesHere f_statesThere f_listed f_stired f_burdens f_pacesOn f_restedOn f_behindOn f_behindFor f_first f_second f_plans f_tiredOn) → va_S A s.heap H locs → lv_has ls 5 [(3, .int l_11), (2, .int l_10), (0, .ref (hs 0)), (1, .int n1)] → W p l e (gRm 2) s m args below meth c H locs 0 0 Q (F0 m 43 ls []) := by
            intro n
            induction n with
            | zero => intro l_10 l_11 hL43_12_0 hL43_12_1 hL43_12_2 hL43_12_3 hL43_12_4 hm; exact absurd hm (by omega)
            | succ n ih43_12 =>
              intro l_10 l_11 hL43_12_0 hL43_12_1 hL43_12_2 hL43_12_3 hL43_12_4 hmL43_12 H locs ls hP hD hS hl
              refine lv_iload_n hx hb dX9_march_43 rfl (lv_at hl 0 rfl) ?_
              refine lv_iload_n hx hb dX9_march_44 rfl (lv_at hl 3 rfl) ?_
              refine lv_icmp_ge (tgt := 99) hx hb dX9_march_45 (by decide) (fun c_13 => ?_) (fun c_13 => ?_)
              · have gc_13 : n1.toInt ≤ l_11.toInt := i_le (rfl : n1.toInt = n1.toInt) (rfl : l_11.toInt = l_11.toInt) c_13
                refine lv_aload_n hx hb dX9_march_99 rfl (lv_at hl 2 rfl) ?_
                refine gt_SP_SP_tape hx hb hts hown hK hP lwd_15 dX9_march_100 ?_
                refine lv_iconst (v := 0) hx hb dX9_march_103 (by decide) ?_
                refine pt_SP_tape_size (x := 0) hx hb hts hown hK hP hD hS lwd_288 dX9_march_104 (fun H locs hP hD hS => ?_)
                refine lv_iload_n hx hb dX9_march_107 rfl (lv_at hl 1 rfl) ?_
                refine lv_if_eq (tgt := 139) hx hb dX9_march_108 (by decide) (fun c_14 => ?_) (fun c_14 => ?_)
                · have gc_14 : l_10.toInt = 0 := i_eq (rfl : l_10.toInt = l_10.toInt) (by decide : (0 : Int32).toInt = 0) c_14
                  refine lv_iload_n hx hb dX9_march_139 rfl (lv_at hl 1 rfl) ?_
                  have k_15 : (0 : Int32).toInt = 0 := by decide
                  exact hrt l_10 0 v_marches_marching f_mrow ⟨(by omega), (Or.inr ⟨by omega, by omega, Or.inr ⟨by omega, hL43_12_3.elim (fun z => absurd z.1 (by omega)) (fun z => z.2), by omega⟩⟩), (by omega), (by omega), hr_mrow⟩ hP hD hS (nar_b (i_01' (by omega))) dX9_march_140
                · have gc_14 : l_10.toInt ≠ 0 := i_ne (rfl : l_10.toInt = l_10.toInt) (by decide : (0 : Int32).toInt = 0) c_14
                  refine lv_aload_n hx hb dX9_march_111 rfl (lv_at hl 2 rfl) ?_
                  refine gt_SP_SP_tape hx hb hts hown hK hP lwd_15 dX9_march_112 ?_
                  refine gt_SP_tape_bytes hx hb hts hown hK hP lwd_899 dX9_march_115 ?_
                  refine lv_iconst (v := 0) hx hb dX9_march_118 (by decide) ?_
                  refine lv_aload_n hx hb dX9_march_119 rfl (lv_at hl 2 rfl) ?_
                  refine gt_SP_SP_marches hx hb hts hown hK hP lwd_39 dX9_march_120 ?_
                  refine gt_SP_marches_row hx hb hts hown hK hP lwd_910 dX9_march_123 ?_
                  refine lv_iconst (v := 0) hx hb dX9_march_126 (by decide) ?_
                  refine lv_iload_n hx hb dX9_march_127 rfl (lv_at hl 3 rfl) ?_
                  refine va_copyi hx hb (by rw [hml]; exact hl.1.symm) hown (hts _ lwd_901) (hts _ lwd_391) (hts _ lwd_392) (hts _ lwd_393) hK hP hD hS 2 48 0 0 rfl rfl rfl rfl rfl (by decide) (by decide) (fun z => absurd (i_lt (rfl : n1.toInt = n1.toInt) (by decide : (0 : Int32).toInt = 0) z) (by omega)) (by rw [show (0 : Int32).toNatClampNeg = 0 from by decide, i_ix (rfl : n1.toInt = n1.toInt)]; omega) (by rw [show (0 : Int32).toNatClampNeg = 0 from by decide, i_ix (rfl : n1.toInt = n1.toInt)]; omega) (fun _ _ => rfl) (Nat.le_of_ble_eq_true rfl) (Nat.le_of_ble_eq_true rfl) dX9_march_128 (fun H locs hP hD hS => ?_)
                  obtain ⟨f_16, ef_16⟩ : ∃ z, z = va_cpy f_bytes f_mrow (0 : Int32).toNatClampNeg (0 : Int32).toNatClampNeg n1.toNatClampNeg := ⟨_, rfl⟩
                  have hP : va_P D vwCl (wSP cy hs hH hT sH sT 0 v_band_walkers v_band_loads v_band_pieces v_rules_clauses v_reader_end v_reader_at v_reader_length v_reader_letter v_reader_fault v_draft_clauses v_paces_version v_packing_quicker v_packing_loads v_packing_looseCount v_marches_told v_marches_changeMinutes v_marches_marching v_marches_gone v_search_known v_search_countHere v_search_countThere v_search_cost v_search_most v_search_found f_bytes f_knee f_weight f_limps f_bheft f_owner f_food f_miles f_slope f_rsteps f_rkind f_ryields f_rholds f_rletters f_rstack f_dsteps f_dkind f_dyields f_dholds f_dletters f_dstack f_caps f_versions f_sharing f_pheft f_prow f_holder f_comes f_pcaps f_room f_loose f_reached f_16 f_minutesOn f_mtired f_here f_there f_statesHere f_statesThere f_listed f_stired f_burdens f_pacesOn f_restedOn f_behindOn f_behindFor f_first f_second f_plans f_tiredOn) H := ef_16 ▸ (show va_P D vwCl (wSP cy hs hH hT sH sT 0 v_band_walkers v_band_loads v_band_pieces v_rules_clauses v_reader_end v_reader_at v_reader_length v_reader_letter v_reader_fault v_draft_clauses v_paces_version v_packing_quicker v_packing_loads v_packing_looseCount v_marches_told v_marches_changeMinutes v_marches_marching v_marches_gone v_search_known v_search_countHere v_search_countThere v_search_cost v_search_most v_search_found f_bytes f_knee f_weight f_limps f_bheft f_owner f_food f_miles f_slope f_rsteps f_rkind f_ryields f_rholds f_rletters f_rstack f_dsteps f_dkind f_dyields f_dholds f_dletters f_dstack f_caps f_versions f_sharing f_pheft f_prow f_holder f_comes f_pcaps f_room f_loose f_reached (va_cpy f_bytes f_mrow (0 : Int32).toNatClampNeg (0 : Int32).toNatClampNeg n1.toNatClampNeg) f_minutesOn f_mtired f_here f_there f_statesHere f_statesThere f_listed f_stired f_burdens f_pacesOn f_restedOn f_behindOn f_behindFor f_first f_second f_plans f_tiredOn) H from hP)
                  have hD : va_D A (wSP cy hs hH hT sH sT 0 v_band_walkers v_band_loads v_band_pieces v_rules_clauses v_reader_end v_reader_at v_reader_length v_reader_letter v_reader_fault v_draft_clauses v_paces_version v_packing_quicker v_packing_loads v_packing_looseCount v_marches_told v_marches_changeMinutes v_marches_marching v_marches_gone v_search_known v_search_countHere v_search_countThere v_search_cost v_search_most v_search_found f_bytes f_knee f_weight f_limps f_bheft f_owner f_food f_miles f_slope f_rsteps f_rkind f_ryields f_rholds f_rletters f_rstack f_dsteps f_dkind f_dyields f_dholds f_dletters f_dstack f_caps f_versions f_sharing f_pheft f_prow f_holder f_comes f_pcaps f_room f_loose f_reached f_16 f_minutesOn f_mtired f_here f_there f_statesHere f_statesThere f_listed f_stired f_burdens f_pacesOn f_restedOn f_behindOn f_behindFor f_first f_second f_plans f_tiredOn) := ef_16 ▸ (show va_D A (wSP cy hs hH hT sH sT 0 v_band_walkers v_band_loads v_band_pieces v_rules_clauses v_reader_end v_reader_at v_reader_length v_reader_letter v_reader_fault v_draft_clauses v_paces_version v_packing_quicker v_packing_loads v_packing_looseCount v_marches_told v_marches_changeMinutes v_marches_marching v_marches_gone v_search_known v_search_countHere v_search_countThere v_search_cost v_search_most v_search_found f_bytes f_knee f_weight f_limps f_bheft f_owner f_food f_miles f_slope f_rsteps f_rkind f_ryields f_rholds f_rletters f_rstack f_dsteps f_dkind f_dyields f_dholds f_dletters f_dstack f_caps f_versions f_sharing f_pheft f_prow f_holder f_comes f_pcaps f_room f_loose f_reached (va_cpy f_bytes f_mrow (0 : Int32).toNatClampNeg (0 : Int32).toNatClampNeg n1.toNatClampNeg) f_minutesOn f_mtired f_here f_there f_statesHere f_statesThere f_listed f_stired f_burdens f_pacesOn f_restedOn f_behindOn f_behindFor f_first f_second f_plans f_tiredOn) from hD)
                  have rf_16 : rg (0) 17 f_16 := by rw [ef_16]; exact rg_cpy hr_mrow (fun j hj => hL43_12_2 (by omega) j (by have e9 := i_ix (rfl : n1.toInt = n1.toInt); omega))
                  refine lv_aload_n hx hb dX9_march_131 rfl (lv_at hl 2 rfl) ?_
                  refine gt_SP_SP_marches hx hb hts hown hK hP lwd_39 dX9_march_132 ?_
                  refine lv_iconst (v := 1) hx hb dX9_march_135 (by decide) ?_
                  refine pt_SP_marches_marching (x := 1) hx hb hts hown hK hP hD hS lwd_210 (by decide) dX9_march_136 (fun H locs hP hD hS => ?_)
                  refine lv_iload_n hx hb dX9_march_139 rfl (lv_at hl 1 rfl) ?_
                  have k_17 : (0 : Int32).toInt = 0 := by decide
                  have k_18 : (1 : Int32).toInt = 1 := by decide
                  exact hrt l_10 0 1 f_16 ⟨(by omega), (Or.inr ⟨by omega, by omega, Or.inl ⟨by omega, by rw [show n1.toInt = l_11.toInt from by omega]; exact hL43_12_3.elim (fun z => z.2) (fun z => absurd z.1 (by omega)), by omega⟩⟩), (by omega), (by omega), rf_16⟩ hP hD hS (nar_b (i_01' (by omega))) dX9_march_140
              · have gc_13 : l_11.toInt < n1.toInt := i_nle (rfl : n1.toInt = n1.toInt) (rfl : l_11.toInt = l_11.toInt) c_13
                skip
                refine lv_aload_n hx hb dX9_march_48 rfl (lv_at hl 2 rfl) ?_
                refine gt_SP_SP_tape hx hb hts hown hK hP lwd_15 dX9_march_49 ?_
                refine gt_SP_tape_bytes hx hb hts hown hK hP lwd_899 dX9_march_52 ?_
                refine lv_iload_n hx hb dX9_march_55 rfl (lv_at hl 0 rfl) ?_
                refine al_bytes hx hb hK hP hr_bytes (i_in (rfl : l_11.toInt = l_11.toInt) (by omega) (by omega)) dX9_march_56 (fun n_19 en_19 bn_19 => ?_)
                refine lv_istore (lv' := [(4, .int n_19), (3, .int l_11), (2, .int l_10), (0, .ref (hs 0)), (1, .int n1)]) hx hb dX9_march_57 hl (by decide) rfl (fun ls hl => ?_)
                refine lv_iload_n hx hb dX9_march_59 rfl (lv_at hl 2 rfl) ?_
                refine lv_if_eq (tgt := 91) hx hb dX9_march_60 (by decide) (fun c_20 => ?_) (fun c_20 => ?_)
                · have gc_20 : l_10.toInt = 0 := i_eq (rfl : l_10.toInt = l_10.toInt) (by decide : (0 : Int32).toInt = 0) c_20
                  refine lv_iconst (v := 0) hx hb dX9_march_91 (by decide) ?_
                  refine lv_istore_n (lv' := [(2, .int 0), (4, .int n_19), (3, .int l_11), (0, .ref (hs 0)), (1, .int n1)]) hx hb dX9_march_92 rfl hl (by decide) rfl (fun ls hl => ?_)
                  obtain ⟨n_21, en_21⟩ : ∃ y : Int32, y = l_11 + 1 := ⟨_, rfl⟩
                  have tn_21 : n_21.toInt = l_11.toInt + 1 := i_add en_21 (rfl : l_11.toInt = l_11.toInt) (by decide : (1 : Int32).toInt = 1) (by omega) (by omega)
                  refine lv_iinc (v := n_21) (lv' := [(3, .int n_21), (2, .int 0), (4, .int n_19), (0, .ref (hs 0)), (1, .int n1)]) hx hb dX9_march_93 hl (k := 2) rfl (by rw [en_21]; rfl) (by decide) rfl (fun ls hl => ?_)
                  refine lv_goto (tgt := 43) hx hb dX9_march_96 (by decide) ?_
                  have k_22 : (0 : Int32).toInt = 0 := by decide
                  exact ih43_12 0 n_21 (by omega) (by omega) (fun hz => absurd rfl hz) (Or.inr ⟨by omega, fun h => by
                    rcases hL43_12_3 with ⟨z1, z2⟩ | ⟨z1, z2⟩
                    · have g9 := h l_11.toNatClampNeg (by rw [i_ix (rfl : l_11.toInt = l_11.toInt)]; omega)
                      unfold mgood at g9
                      rw [← en_19] at g9
                      omega
                    · exact z2 h⟩) (by omega) (by omega) _ _ _ hP hD hS (lv_sub hl [0, 1, 3, 4] rfl)
                · have gc_20 : l_10.toInt ≠ 0 := i_ne (rfl : l_10.toInt = l_10.toInt) (by decide : (0 : Int32).toInt = 0) c_20
                  refine lv_iload hx hb dX9_march_63 (lv_at hl 0 rfl) ?_
                  refine lv_bipush (v := 6) hx hb dX9_march_65 (by decide) ?_
                  refine lv_idiv hx hb dX9_march_67 (by decide) ?_
                  refine lv_topi (fun n_23 en_23 => ?_)
                  have tn_23 : n_23.toInt = n_19.toInt / 6 := i_div en_23 (rfl : n_19.toInt = n_19.toInt) (by decide : (6 : Int32).toInt = 6) (by omega) (by omega)
                  refine lv_iconst (v := 2) hx hb dX9_march_68 (by decide) ?_
                  refine lv_icmp_gt (tgt := 91) hx hb dX9_march_69 (by decide) (fun c_24 => ?_) (fun c_24 => ?_)
                  · have gc_24 : 2 < n_19.toInt / 6 := i_lt (by decide : (2 : Int32).toInt = 2) tn_23 c_24
                    refine lv_iconst (v := 0) hx hb dX9_march_91 (by decide) ?_
                    refine lv_istore_n (lv' := [(2, .int 0), (4, .int n_19), (3, .int l_11), (0, .ref (hs 0)), (1, .int n1)]) hx hb dX9_march_92 rfl hl (by decide) rfl (fun ls hl => ?_)
                    obtain ⟨n_25, en_25⟩ : ∃ y : Int32, y = l_11 + 1 := ⟨_, rfl⟩
                    have tn_25 : n_25.toInt = l_11.toInt + 1 := i_add en_25 (rfl : l_11.toInt = l_11.toInt) (by decide : (1 : Int32).toInt = 1) (by omega) (by omega)
                    refine lv_iinc (v := n_25) (lv' := [(3, .int n_25), (2, .int 0), (4, .int n_19), (0, .ref (hs 0)), (1, .int n1)]) hx hb dX9_march_93 hl (k := 2) rfl (by rw [en_25]; rfl) (by decide) rfl (fun ls hl => ?_)
                    refine lv_goto (tgt := 43) hx hb dX9_march_96 (by decide) ?_
                    have k_26 : (0 : Int32).toInt = 0 := by decide
                    exact ih43_12 0 n_25 (by omega) (by omega) (fun hz => absurd rfl hz) (Or.inr ⟨by omega, fun h => by
                      rcases hL43_12_3 with ⟨z1, z2⟩ | ⟨z1, z2⟩
                      · have g9 := h l_11.toNatClampNeg (by rw [i_ix (rfl : l_11.toInt = l_11.toInt)]; omega)
                        unfold mgood at g9
                        rw [← en_19] at g9
                        omega
                      · exact z2 h⟩) (by omega) (by omega) _ _ _ hP hD hS (lv_sub hl [0, 1, 3, 4] rfl)
                  · have gc_24 : n_19.toInt / 6 ≤ 2 := i_nlt (by decide : (2 : Int32).toInt = 2) tn_23 c_24
                    refine lv_aload_n hx hb dX9_march_72 rfl (lv_at hl 3 rfl) ?_
                    refine gt_SP_SP_marches hx hb hts hown hK hP lwd_39 dX9_march_73 ?_
                    refine lv_iload hx hb dX9_march_76 (lv_at hl 0 rfl) ?_
                    refine lv_bipush (v := 6) hx hb dX9_march_78 (by decide) ?_
                    refine lv_irem hx hb dX9_march_80 (by decide) ?_
                    refine lv_topi (fun n_27 en_27 => ?_)
                    have tn_27 : n_27.toInt = n_19.toInt % 6 := i_rem en_27 (rfl : n_19.toInt = n_19.toInt) (by decide : (6 : Int32).toInt = 6) (by omega) (by omega)
                    skip
                    refine xi hD hS hA (xV (As := [.int n_27]) (rest := []) hx hb hml hown hts hK hP hD hS hA NS_ok hN hAe hl.1 ⟨Nat.le_refl _, Nat.le_refl _⟩ 40 rfl rfl rfl (c_X1_isTold_q l D cy hs hH hT sH sT v_tape_size v_band_walkers v_band_loads v_band_pieces v_rules_clauses v_reader_end v_reader_at v_reader_length v_reader_letter v_reader_fault v_draft_clauses v_paces_version v_packing_quicker v_packing_loads v_packing_looseCount v_marches_told v_marches_changeMinutes v_marches_marching v_marches_gone v_search_known v_search_countHere v_search_countThere v_search_cost v_search_most v_search_found f_bytes f_knee f_weight f_limps f_bheft f_owner f_food f_miles f_slope f_rsteps f_rkind f_ryields f_rholds f_rletters f_rstack f_dsteps f_dkind f_dyields f_dholds f_dletters f_dstack f_caps f_versions f_sharing f_pheft f_prow f_holder f_comes f_pcaps f_room f_loose f_reached f_mrow f_minutesOn f_mtired f_here f_there f_statesHere f_statesThere f_listed f_stired f_burdens f_pacesOn f_restedOn f_behindOn f_behindFor f_first f_second f_plans f_tiredOn tS H.size n_27) (gi_V lwd_911 lwd_912 lwd_913 lwd_38 lwd_914) ⟨rfl, hd_X1_isTold⟩ ⟨Nat.le_of_ble_eq_true rfl, Nat.le_of_ble_eq_true rfl⟩ rfl (Nat.le_of_ble_eq_true rfl) dX9_march_81) (fun r_29 u_28 H locs hw hP hD hS => ?_)
                    try dsimp only at hw hP hD
                    obtain ⟨p_30, p_31⟩ := hw
                    refine lv_if_eq (tgt := 91) hx hb dX9_march_84 (by decide) (fun c_32 => ?_) (fun c_32 => ?_)
                    · have gc_32 : r_29.toInt = 0 := i_eq (rfl : r_29.toInt = r_29.toInt) (by decide : (0 : Int32).toInt = 0) c_32
                      refine lv_iconst (v := 0) hx hb dX9_march_91 (by decide) ?_
                      refine lv_istore_n (lv' := [(2, .int 0), (4, .int n_19), (3, .int l_11), (0, .ref (hs 0)), (1, .int n1)]) hx hb dX9_march_92 rfl hl (by decide) rfl (fun ls hl => ?_)
                      obtain ⟨n_33, en_33⟩ : ∃ y : Int32, y = l_11 + 1 := ⟨_, rfl⟩
                      have tn_33 : n_33.toInt = l_11.toInt + 1 := i_add en_33 (rfl : l_11.toInt = l_11.toInt) (by decide : (1 : Int32).toInt = 1) (by omega) (by omega)
                      refine lv_iinc (v := n_33) (lv' := [(3, .int n_33), (2, .int 0), (4, .int n_19), (0, .ref (hs 0)), (1, .int n1)]) hx hb dX9_march_93 hl (k := 2) rfl (by rw [en_33]; rfl) (by decide) rfl (fun ls hl => ?_)
                      refine lv_goto (tgt := 43) hx hb dX9_march_96 (by decide) ?_
                      have k_34 : (0 : Int32).toInt = 0 := by decide
                      exact ih43_12 0 n_33 (by omega) (by omega) (fun hz => absurd rfl hz) (Or.inr ⟨by omega, fun h => by
                        rcases hL43_12_3 with ⟨z1, z2⟩ | ⟨z1, z2⟩
                        · have g9 := h l_11.toNatClampNeg (by rw [i_ix (rfl : l_11.toInt = l_11.toInt)]; omega)
                          unfold mgood at g9
                          rw [← en_19] at g9
                          rw [← en_27] at g9
                          exact p_31.elim (fun q => absurd q.1 (by omega)) (fun q => q.2 ⟨by omega, by omega, g9.2⟩)
                        · exact z2 h⟩) (by omega) (by omega) _ _ _ hP hD hS (lv_sub hl [0, 1, 3, 4] rfl)
                    · have gc_32 : r_29.toInt ≠ 0 := i_ne (rfl : r_29.toInt = r_29.toInt) (by decide : (0 : Int32).toInt = 0) c_32
                      refine lv_iconst (v := 1) hx hb dX9_march_87 (by decide) ?_
                      refine lv_goto (tgt := 92) hx hb dX9_march_88 (by decide) ?_
                      refine lv_istore_n (lv' := [(2, .int 1), (4, .int n_19), (3, .int l_11), (0, .ref (hs 0)), (1, .int n1)]) hx hb dX9_march_92 rfl hl (by decide) rfl (fun ls hl => ?_)
                      obtain ⟨n_35, en_35⟩ : ∃ y : Int32, y = l_11 + 1 := ⟨_, rfl⟩
                      have tn_35 : n_35.toInt = l_11.toInt + 1 := i_add en_35 (rfl : l_11.toInt = l_11.toInt) (by decide : (1 : Int32).toInt = 1) (by omega) (by omega)
                      refine lv_iinc (v := n_35) (lv' := [(3, .int n_35), (2, .int 1), (4, .int n_19), (0, .ref (hs 0)), (1, .int n1)]) hx hb dX9_march_93 hl (k := 2) rfl (by rw [en_35]; rfl) (by decide) rfl (fun ls hl => ?_)
                      refine lv_goto (tgt := 43) hx hb dX9_march_96 (by decide) ?_
                      have k_36 : (1 : Int32).toInt = 1 := by decide
                      exact ih43_12 1 n_35 (by omega) (by omega) (fun hz j hj => by
                        by_cases q : (j : Int) < l_11.toInt
                        · exact hL43_12_2 (by omega) j q
                        · have e9 : j = l_11.toNatClampNeg := by rw [i_ix (rfl : l_11.toInt = l_11.toInt)]; omega
                          rw [e9, ← en_19]; omega) (Or.inl ⟨by omega, hL43_12_3.elim (fun z => mall_step (x := l_11.toNatClampNeg) z.2 (by rw [i_ix (rfl : l_11.toInt = l_11.toInt)]; omega) (by omega) ⟨by rw [← en_19]; omega, by rw [← en_19, ← en_27]; exact p_31.elim (fun q => q.2.2.2) (fun q => absurd q.1 (by omega))⟩) (fun z => absurd z.1 (by omega))⟩) (by omega) (by omega) _ _ _ hP hD hS (lv_sub hl [0, 1, 3, 4] rfl)
          have k_37 : (1 : Int32).toInt = 1 := by decide
          have k_38 : (0 : Int32).toInt = 0 := by decide
          exact L43_12 8589934592 1 0 (by omega) (by omega) (fun hz j hj => absurd hj (by omega)) (Or.inl ⟨by omega, fun j hj => absurd hj (by omega)⟩) (by omega) (by omega) _ _ _ hP hD hS (lv_sub hl [0, 1, 2, 3] rfl)
        · have gc_7 : v_tape_size.toInt < n1.toInt := i_nle (rfl : n1.toInt = n1.toInt) (rfl : v_tape_size.toInt = v_tape_size.toInt) c_7
          refine lv_iconst (v := 0) hx hb dX9_march_37 (by decide) ?_
          have k_39 : (0 : Int32).toInt = 0 := by decide
          exact hrt 0 v_tape_size v_marches_marching f_mrow ⟨(by omega), (Or.inl ⟨by omega, by omega, by omega, by omega⟩), (by omega), (by omega), hr_mrow⟩ hP hD hS rfl dX9_march_38
