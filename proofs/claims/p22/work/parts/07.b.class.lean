set_option maxHeartbeats 16000000 in
set_option maxRecDepth 100000 in
theorem c_X9_digit (l : Launch) (D : va_G) (cy : Nat → ClassId) (hs : Nat → Nat) (hH hT sH sT : Nat) (v_tape_size v_band_walkers v_band_loads v_band_pieces v_rules_clauses v_reader_end v_reader_at v_reader_length v_reader_letter v_reader_fault v_draft_clauses v_paces_version v_packing_quicker v_packing_loads v_packing_looseCount v_marches_told v_marches_changeMinutes v_marches_marching v_marches_gone v_search_known v_search_countHere v_search_countThere v_search_cost v_search_most : Int32) (v_search_found : Int64) (f_bytes f_knee f_weight f_limps f_bheft f_owner f_food f_miles f_slope f_rsteps f_rkind f_ryields f_rholds f_rletters f_rstack f_dsteps f_dkind f_dyields f_dholds f_dletters f_dstack f_caps f_versions f_sharing f_pheft f_prow f_holder f_comes f_pcaps f_room f_loose f_reached f_mrow f_minutesOn f_mtired : Nat → Int32) (f_here f_there : Nat → Int64) (f_statesHere f_statesThere f_listed f_stired f_burdens f_pacesOn f_restedOn f_behindOn f_behindFor f_first f_second : Nat → Int32) (f_plans f_tiredOn : Nat → Nat → Int32) (tS : Nat) (sz : Nat) (all : Int32) (w : Int32) (ha_all : 0 ≤ all.toInt ∧ all.toInt ≤ 46655) (ha_w : 0 ≤ w.toInt ∧ w.toInt ≤ 5) : gMi l yX9_digit cX9_digit 2 .int 1 [.int all, .int w] D cy (wSP cy hs hH hT sH sT v_tape_size v_band_walkers v_band_loads v_band_pieces v_rules_clauses v_reader_end v_reader_at v_reader_length v_reader_letter v_reader_fault v_draft_clauses v_paces_version v_packing_quicker v_packing_loads v_packing_looseCount v_marches_told v_marches_changeMinutes v_marches_marching v_marches_gone v_search_known v_search_countHere v_search_countThere v_search_cost v_search_most v_search_found f_bytes f_knee f_weight f_limps f_bheft f_owner f_food f_miles f_slope f_rsteps f_rkind f_ryields f_rholds f_rletters f_rstack f_dsteps f_dkind f_dyields f_dholds f_dletters f_dstack f_caps f_versions f_sharing f_pheft f_prow f_holder f_comes f_pcaps f_room f_loose f_reached f_mrow f_minutesOn f_mtired f_here f_there f_statesHere f_statesThere f_listed f_stired f_burdens f_pacesOn f_restedOn f_behindOn f_behindFor f_first f_second f_plans f_tiredOn) (NS tS) sz (fun (r : Int32) (u : Unit) => (0 ≤ r.toInt ∧ r.toInt ≤ 5)) (fun u => wSP cy hs hH hT sH sT v_tape_size v_band_walkers v_band_loads v_band_pieces v_rules_clauses v_reader_end v_reader_at v_reader_length v_reader_letter v_reader_fault v_draft_clauses v_paces_version v_packing_quicker v_packing_loads v_packing_looseCount v_marches_told v_marches_changeMinutes v_marches_marching v_marches_gone v_search_known v_search_countHere v_search_countThere v_search_cost v_search_most v_search_found f_bytes f_knee f_weight f_limps f_bheft f_owner f_food f_miles f_slope f_rsteps f_rkind f_ryields f_rholds f_rletters f_rstack f_dsteps f_dkind f_dyields f_dholds f_dletters f_dstack f_caps f_versions f_sharing f_pheft f_prow f_holder f_comes f_pcaps f_room f_loose f_reached f_mrow f_minutesOn f_mtired f_here f_there f_statesHere f_statesThere f_listed f_stired f_burdens f_pacesOn f_restedOn f_behindOn f_behindFor f_first f_second f_plans f_tiredOn) := by
  refine gMi_in (by decide) (Nat.le_of_ble_eq_true rfl) ?_
  intro p e s m args below meth c A ls Q hx hb hml hts hown hsz hP hK hD hN hAe hA hS hl hret
  subst hsz
  have hl : lv_has ls 2 [(0, .int all), (1, .int w)] := hl
  have hrt := fun (r : Int32)  (hp : (0 ≤ r.toInt ∧ r.toInt ≤ 5)) {H : Heap} {locs : List Loc} {pc : Nat} {ls : Array Slot} => hret r () (H := H) (locs := locs) (pc := pc) (ls := ls) hp
  clear hret
  refine lv_iload_n hx hb dX9_digit_0 rfl (lv_at hl 0 rfl) ?_
  refine va_gets hx hb (show va_Z "SlowPace" "SIXES" "[I" (.ref tS) A s s.heap by rw [hAe]; exact hN.1.2.2.1) hS hown (hts _ lwd_627) (fun _ h => h) dX9_digit_1 ?_
  refine lv_iload_n hx hb dX9_digit_4 rfl (lv_at hl 1 rfl) ?_
  refine va_ti hx hb (show va_T .int tS 6 sixF A s s.heap by rw [hAe]; exact hN.1.2.2.2) hS (i_in (rfl : w.toInt = w.toInt) (by omega) (by omega)) rfl dX9_digit_5 ?_
  refine lv_topi (fun n_1 en_1 => ?_)
  have bn_1 := six_is en_1 (by omega : 0 ≤ w.toInt ∧ w.toInt < 6) (rfl : w.toInt = w.toInt)
  refine lv_idiv hx hb dX9_digit_6 (i_nz (rfl : n_1.toInt = n_1.toInt) (by omega)) ?_
  refine lv_topi (fun n_2 en_2 => ?_)
  have bn_2 : 0 ≤ n_2.toInt ∧ n_2.toInt ≤ all.toInt := i_divb en_2 (rfl : all.toInt = all.toInt) (rfl : n_1.toInt = n_1.toInt) (by omega) (by omega)
  refine lv_bipush (v := 6) hx hb dX9_digit_7 (by decide) ?_
  refine lv_irem hx hb dX9_digit_9 (by decide) ?_
  refine lv_topi (fun n_3 en_3 => ?_)
  have tn_3 : n_3.toInt = n_2.toInt % 6 := i_rem en_3 (rfl : n_2.toInt = n_2.toInt) (by decide : (6 : Int32).toInt = 6) (by omega) (by omega)
  exact hrt n_3  (by omega) hP hD hS rfl dX9_digit_10
set_option maxHeartbeats 16000000 in
set_option maxRecDepth 100000 in
theorem c_X3_describe (l : Launch) (D : va_G) (cy : Nat → ClassId) (hs : Nat → Nat) (hH hT sH sT : Nat) (v_tape_size v_band_walkers v_band_loads v_band_pieces v_rules_clauses v_reader_end v_reader_at v_reader_length v_reader_letter v_reader_fault v_draft_clauses v_paces_version v_packing_quicker v_packing_loads v_packing_looseCount v_marches_told v_marches_changeMinutes v_marches_marching v_marches_gone v_search_known v_search_countHere v_search_countThere v_search_cost v_search_most : Int32) (v_search_found : Int64) (f_bytes f_knee f_weight f_limps f_bheft f_owner f_food f_miles f_slope f_rsteps f_rkind f_ryields f_rholds f_rletters f_rstack f_dsteps f_dkind f_dyields f_dholds f_dletters f_dstack f_caps f_versions f_sharing f_pheft f_prow f_holder f_comes f_pcaps f_room f_loose f_reached f_mrow f_minutesOn f_mtired : Nat → Int32) (f_here f_there : Nat → Int64) (f_statesHere f_statesThere f_listed f_stired f_burdens f_pacesOn f_restedOn f_behindOn f_behindFor f_first f_second : Nat → Int32) (f_plans f_tiredOn : Nat → Nat → Int32) (tS : Nat) (sz : Nat) (w : Int32) (l1 : Int32) (t1 : Int32) (i : Int32) (hb_v_band_walkers : 0 ≤ v_band_walkers.toInt ∧ v_band_walkers.toInt ≤ 6) (hr_weight : rg (0) 250 f_weight) (hr_miles : rg (0) 20 f_miles) (ha_w : 0 ≤ w.toInt ∧ w.toInt ≤ 5) (ha_i : 0 ≤ i.toInt ∧ i.toInt ≤ 9) : gMv l yX3_describe cX3_describe 6 1 [.ref (hs 27), .int w, .int l1, .int t1, .int i] D cy (wSP cy hs hH hT sH sT v_tape_size v_band_walkers v_band_loads v_band_pieces v_rules_clauses v_reader_end v_reader_at v_reader_length v_reader_letter v_reader_fault v_draft_clauses v_paces_version v_packing_quicker v_packing_loads v_packing_looseCount v_marches_told v_marches_changeMinutes v_marches_marching v_marches_gone v_search_known v_search_countHere v_search_countThere v_search_cost v_search_most v_search_found f_bytes f_knee f_weight f_limps f_bheft f_owner f_food f_miles f_slope f_rsteps f_rkind f_ryields f_rholds f_rletters f_rstack f_dsteps f_dkind f_dyields f_dholds f_dletters f_dstack f_caps f_versions f_sharing f_pheft f_prow f_holder f_comes f_pcaps f_room f_loose f_reached f_mrow f_minutesOn f_mtired f_here f_there f_statesHere f_statesThere f_listed f_stired f_burdens f_pacesOn f_restedOn f_behindOn f_behindFor f_first f_second f_plans f_tiredOn) (NS tS) sz (fun (u : (Nat → Int32)) => True) (fun u => wSP cy hs hH hT sH sT v_tape_size v_band_walkers v_band_loads v_band_pieces v_rules_clauses v_reader_end v_reader_at v_reader_length v_reader_letter v_reader_fault v_draft_clauses v_paces_version v_packing_quicker v_packing_loads v_packing_looseCount v_marches_told v_marches_changeMinutes v_marches_marching v_marches_gone v_search_known v_search_countHere v_search_countThere v_search_cost v_search_most v_search_found f_bytes f_knee f_weight f_limps f_bheft f_owner f_food f_miles f_slope f_rsteps f_rkind f_ryields f_rholds u f_rstack f_dsteps f_dkind f_dyields f_dholds f_dletters f_dstack f_caps f_versions f_sharing f_pheft f_prow f_holder f_comes f_pcaps f_room f_loose f_reached f_mrow f_minutesOn f_mtired f_here f_there f_statesHere f_statesThere f_listed f_stired f_burdens f_pacesOn f_restedOn f_behindOn f_behindFor f_first f_second f_plans f_tiredOn) := by
  refine gMv_in (by decide) (Nat.le_of_ble_eq_true rfl) ?_
  intro p e s m args below meth c A ls Q hx hb hml hts hown hsz hP hK hD hN hAe hA hS hl hret
  subst hsz
  have hl : lv_has ls 6 [(0, .ref (hs 27)), (1, .int w), (2, .int l1), (3, .int t1), (4, .int i)] := hl
  have hrt := fun (f_rletters' : Nat → Int32)  {H : Heap} {locs : List Loc} {pc : Nat} {ls : Array Slot} => hret f_rletters' (H := H) (locs := locs) (pc := pc) (ls := ls) trivial
  clear hret
  refine lv_aload_n hx hb dX3_describe_0 rfl (lv_at hl 0 rfl) ?_
  refine gt_SP_paces_rules hx hb hts hown hK hP lwd_90 dX3_describe_1 ?_
  refine gt_SP_rules_letters hx hb hts hown hK hP lwd_517 dX3_describe_4 ?_
  refine lv_astore (lv' := [(5, .ref (hs 17)), (0, .ref (hs 27)), (1, .int w), (2, .int l1), (3, .int t1), (4, .int i)]) hx hb dX3_describe_7 hl (by decide) rfl (fun ls hl => ?_)
  refine lv_aload hx hb dX3_describe_9 (lv_at hl 0 rfl) ?_
  refine lv_iconst (v := 0) hx hb dX3_describe_11 (by decide) ?_
  refine lv_iload_n hx hb dX3_describe_12 rfl (lv_at hl 2 rfl) ?_
  refine as_rletters (x := w) hx hb hK hP hD hS (i_in (by decide : (0 : Int32).toInt = 0) (by decide) (by decide)) dX3_describe_13 (fun f_1 ef_1 H locs hP hD hS => ?_)
  refine lv_aload hx hb dX3_describe_14 (lv_at hl 0 rfl) ?_
  refine lv_iconst (v := 1) hx hb dX3_describe_16 (by decide) ?_
  refine lv_aload_n hx hb dX3_describe_17 rfl (lv_at hl 1 rfl) ?_
  refine gt_SP_paces_band hx hb hts hown hK hP lwd_89 dX3_describe_18 ?_
  refine gt_SP_band_knee hx hb hts hown hK hP lwd_518 dX3_describe_21 ?_
  refine lv_iload_n hx hb dX3_describe_24 rfl (lv_at hl 2 rfl) ?_
  refine al_knee hx hb hK hP (i_in (rfl : w.toInt = w.toInt) (by omega) (by omega)) dX3_describe_25 (fun n_2 en_2 => ?_)
  refine as_rletters (x := n_2) hx hb hK hP hD hS (i_in (by decide : (1 : Int32).toInt = 1) (by decide) (by decide)) dX3_describe_26 (fun f_3 ef_3 H locs hP hD hS => ?_)
  refine lv_aload hx hb dX3_describe_27 (lv_at hl 0 rfl) ?_
  refine lv_iconst (v := 2) hx hb dX3_describe_29 (by decide) ?_
  refine lv_aload_n hx hb dX3_describe_30 rfl (lv_at hl 1 rfl) ?_
  refine gt_SP_paces_band hx hb hts hown hK hP lwd_89 dX3_describe_31 ?_
  refine gt_SP_band_weight hx hb hts hown hK hP lwd_519 dX3_describe_34 ?_
  refine lv_iload_n hx hb dX3_describe_37 rfl (lv_at hl 2 rfl) ?_
  refine al_weight hx hb hK hP hr_weight (i_in (rfl : w.toInt = w.toInt) (by omega) (by omega)) dX3_describe_38 (fun n_4 en_4 bn_4 => ?_)
  refine as_rletters (x := n_4) hx hb hK hP hD hS (i_in (by decide : (2 : Int32).toInt = 2) (by decide) (by decide)) dX3_describe_39 (fun f_5 ef_5 H locs hP hD hS => ?_)
  refine lv_aload hx hb dX3_describe_40 (lv_at hl 0 rfl) ?_
  refine lv_iconst (v := 3) hx hb dX3_describe_42 (by decide) ?_
  refine lv_iload_n hx hb dX3_describe_43 rfl (lv_at hl 3 rfl) ?_
  refine as_rletters (x := l1) hx hb hK hP hD hS (i_in (by decide : (3 : Int32).toInt = 3) (by decide) (by decide)) dX3_describe_44 (fun f_6 ef_6 H locs hP hD hS => ?_)
  refine lv_aload hx hb dX3_describe_45 (lv_at hl 0 rfl) ?_
  refine lv_iconst (v := 4) hx hb dX3_describe_47 (by decide) ?_
  refine lv_iload_n hx hb dX3_describe_48 rfl (lv_at hl 4 rfl) ?_
  refine as_rletters (x := t1) hx hb hK hP hD hS (i_in (by decide : (4 : Int32).toInt = 4) (by decide) (by decide)) dX3_describe_49 (fun f_7 ef_7 H locs hP hD hS => ?_)
  refine lv_aload hx hb dX3_describe_50 (lv_at hl 0 rfl) ?_
  refine lv_iconst (v := 5) hx hb dX3_describe_52 (by decide) ?_
  refine lv_aload_n hx hb dX3_describe_53 rfl (lv_at hl 1 rfl) ?_
  refine gt_SP_paces_band hx hb hts hown hK hP lwd_89 dX3_describe_54 ?_
  refine gt_SP_band_slope hx hb hts hown hK hP lwd_520 dX3_describe_57 ?_
  refine lv_iload hx hb dX3_describe_60 (lv_at hl 5 rfl) ?_
  refine al_slope hx hb hK hP (i_in (rfl : i.toInt = i.toInt) (by omega) (by omega)) dX3_describe_62 (fun n_8 en_8 => ?_)
  refine as_rletters (x := n_8) hx hb hK hP hD hS (i_in (by decide : (5 : Int32).toInt = 5) (by decide) (by decide)) dX3_describe_63 (fun f_9 ef_9 H locs hP hD hS => ?_)
  refine lv_aload hx hb dX3_describe_64 (lv_at hl 0 rfl) ?_
  refine lv_bipush (v := 6) hx hb dX3_describe_66 (by decide) ?_
  refine lv_aload_n hx hb dX3_describe_68 rfl (lv_at hl 1 rfl) ?_
  refine gt_SP_paces_band hx hb hts hown hK hP lwd_89 dX3_describe_69 ?_
  refine gt_SP_band_miles hx hb hts hown hK hP lwd_521 dX3_describe_72 ?_
  refine lv_iload hx hb dX3_describe_75 (lv_at hl 5 rfl) ?_
  refine al_miles hx hb hK hP hr_miles (i_in (rfl : i.toInt = i.toInt) (by omega) (by omega)) dX3_describe_77 (fun n_10 en_10 bn_10 => ?_)
  refine as_rletters (x := n_10) hx hb hK hP hD hS (i_in (by decide : (6 : Int32).toInt = 6) (by decide) (by decide)) dX3_describe_78 (fun f_11 ef_11 H locs hP hD hS => ?_)
  refine lv_aload hx hb dX3_describe_79 (lv_at hl 0 rfl) ?_
  refine lv_bipush (v := 7) hx hb dX3_describe_81 (by decide) ?_
  refine lv_iload hx hb dX3_describe_83 (lv_at hl 5 rfl) ?_
  refine as_rletters (x := i) hx hb hK hP hD hS (i_in (by decide : (7 : Int32).toInt = 7) (by decide) (by decide)) dX3_describe_85 (fun f_12 ef_12 H locs hP hD hS => ?_)
  refine lv_aload hx hb dX3_describe_86 (lv_at hl 0 rfl) ?_
  refine lv_bipush (v := 8) hx hb dX3_describe_88 (by decide) ?_
  refine lv_aload_n hx hb dX3_describe_90 rfl (lv_at hl 1 rfl) ?_
  refine gt_SP_paces_band hx hb hts hown hK hP lwd_89 dX3_describe_91 ?_
  refine gt_SP_band_walkers hx hb hts hown hK hP lwd_522 dX3_describe_94 ?_
  refine as_rletters (x := v_band_walkers) hx hb hK hP hD hS (i_in (by decide : (8 : Int32).toInt = 8) (by decide) (by decide)) dX3_describe_97 (fun f_13 ef_13 H locs hP hD hS => ?_)
  refine lv_aload hx hb dX3_describe_98 (lv_at hl 0 rfl) ?_
  refine lv_bipush (v := 9) hx hb dX3_describe_100 (by decide) ?_
  refine lv_iconst (v := 0) hx hb dX3_describe_102 (by decide) ?_
  refine as_rletters (x := 0) hx hb hK hP hD hS (i_in (by decide : (9 : Int32).toInt = 9) (by decide) (by decide)) dX3_describe_103 (fun f_14 ef_14 H locs hP hD hS => ?_)
  exact hrt f_14  hP hD hS dX3_describe_104
set_option maxHeartbeats 16000000 in
set_option maxRecDepth 100000 in
theorem c_X3_limped (l : Launch) (D : va_G) (cy : Nat → ClassId) (hs : Nat → Nat) (hH hT sH sT : Nat) (v_tape_size v_band_walkers v_band_loads v_band_pieces v_rules_clauses v_reader_end v_reader_at v_reader_length v_reader_letter v_reader_fault v_draft_clauses v_paces_version v_packing_quicker v_packing_loads v_packing_looseCount v_marches_told v_marches_changeMinutes v_marches_marching v_marches_gone v_search_known v_search_countHere v_search_countThere v_search_cost v_search_most : Int32) (v_search_found : Int64) (f_bytes f_knee f_weight f_limps f_bheft f_owner f_food f_miles f_slope f_rsteps f_rkind f_ryields f_rholds f_rletters f_rstack f_dsteps f_dkind f_dyields f_dholds f_dletters f_dstack f_caps f_versions f_sharing f_pheft f_prow f_holder f_comes f_pcaps f_room f_loose f_reached f_mrow f_minutesOn f_mtired : Nat → Int32) (f_here f_there : Nat → Int64) (f_statesHere f_statesThere f_listed f_stired f_burdens f_pacesOn f_restedOn f_behindOn f_behindFor f_first f_second : Nat → Int32) (f_plans f_tiredOn : Nat → Nat → Int32) (tS : Nat) (sz : Nat) (w : Int32) (q : Int32) (hr_limps : rg (0) 1 f_limps) (ha_w : 0 ≤ w.toInt ∧ w.toInt ≤ 5) (ha_q : 0 ≤ q.toInt ∧ q.toInt ≤ 60) : gMi l yX3_limped cX3_limped 3 .int 1 [.ref (hs 27), .int w, .int q] D cy (wSP cy hs hH hT sH sT v_tape_size v_band_walkers v_band_loads v_band_pieces v_rules_clauses v_reader_end v_reader_at v_reader_length v_reader_letter v_reader_fault v_draft_clauses v_paces_version v_packing_quicker v_packing_loads v_packing_looseCount v_marches_told v_marches_changeMinutes v_marches_marching v_marches_gone v_search_known v_search_countHere v_search_countThere v_search_cost v_search_most v_search_found f_bytes f_knee f_weight f_limps f_bheft f_owner f_food f_miles f_slope f_rsteps f_rkind f_ryields f_rholds f_rletters f_rstack f_dsteps f_dkind f_dyields f_dholds f_dletters f_dstack f_caps f_versions f_sharing f_pheft f_prow f_holder f_comes f_pcaps f_room f_loose f_reached f_mrow f_minutesOn f_mtired f_here f_there f_statesHere f_statesThere f_listed f_stired f_burdens f_pacesOn f_restedOn f_behindOn f_behindFor f_first f_second f_plans f_tiredOn) (NS tS) sz (fun (r : Int32) (u : Unit) => (0 ≤ r.toInt ∧ r.toInt ≤ 60)) (fun u => wSP cy hs hH hT sH sT v_tape_size v_band_walkers v_band_loads v_band_pieces v_rules_clauses v_reader_end v_reader_at v_reader_length v_reader_letter v_reader_fault v_draft_clauses v_paces_version v_packing_quicker v_packing_loads v_packing_looseCount v_marches_told v_marches_changeMinutes v_marches_marching v_marches_gone v_search_known v_search_countHere v_search_countThere v_search_cost v_search_most v_search_found f_bytes f_knee f_weight f_limps f_bheft f_owner f_food f_miles f_slope f_rsteps f_rkind f_ryields f_rholds f_rletters f_rstack f_dsteps f_dkind f_dyields f_dholds f_dletters f_dstack f_caps f_versions f_sharing f_pheft f_prow f_holder f_comes f_pcaps f_room f_loose f_reached f_mrow f_minutesOn f_mtired f_here f_there f_statesHere f_statesThere f_listed f_stired f_burdens f_pacesOn f_restedOn f_behindOn f_behindFor f_first f_second f_plans f_tiredOn) := by
  refine gMi_in (by decide) (Nat.le_of_ble_eq_true rfl) ?_
  intro p e s m args below meth c A ls Q hx hb hml hts hown hsz hP hK hD hN hAe hA hS hl hret
  subst hsz
  have hl : lv_has ls 3 [(0, .ref (hs 27)), (1, .int w), (2, .int q)] := hl
  have hrt := fun (r : Int32)  (hp : (0 ≤ r.toInt ∧ r.toInt ≤ 60)) {H : Heap} {locs : List Loc} {pc : Nat} {ls : Array Slot} => hret r () (H := H) (locs := locs) (pc := pc) (ls := ls) hp
  clear hret
  refine lv_aload_n hx hb dX3_limped_0 rfl (lv_at hl 0 rfl) ?_
  refine gt_SP_paces_band hx hb hts hown hK hP lwd_89 dX3_limped_1 ?_
  refine gt_SP_band_limps hx hb hts hown hK hP lwd_542 dX3_limped_4 ?_
  refine lv_iload_n hx hb dX3_limped_7 rfl (lv_at hl 1 rfl) ?_
  refine al_limps hx hb hK hP hr_limps (i_in (rfl : w.toInt = w.toInt) (by omega) (by omega)) dX3_limped_8 (fun n_1 en_1 bn_1 => ?_)
  refine lv_if_eq (tgt := 18) hx hb dX3_limped_9 (by decide) (fun c_2 => ?_) (fun c_2 => ?_)
  · have gc_2 : n_1.toInt = 0 := i_eq (rfl : n_1.toInt = n_1.toInt) (by decide : (0 : Int32).toInt = 0) c_2
    refine lv_iload_n hx hb dX3_limped_18 rfl (lv_at hl 2 rfl) ?_
    exact hrt q  (by omega) hP hD hS rfl dX3_limped_19
  · have gc_2 : n_1.toInt ≠ 0 := i_ne (rfl : n_1.toInt = n_1.toInt) (by decide : (0 : Int32).toInt = 0) c_2
    refine lv_iload_n hx hb dX3_limped_12 rfl (lv_at hl 2 rfl) ?_
    refine lv_iconst (v := 2) hx hb dX3_limped_13 (by decide) ?_
    refine lv_idiv hx hb dX3_limped_14 (by decide) ?_
    refine lv_topi (fun n_3 en_3 => ?_)
    have tn_3 : n_3.toInt = q.toInt / 2 := i_div en_3 (rfl : q.toInt = q.toInt) (by decide : (2 : Int32).toInt = 2) (by omega) (by omega)
    refine lv_goto (tgt := 19) hx hb dX3_limped_15 (by decide) ?_
    exact hrt n_3  (by omega) hP hD hS rfl dX3_limped_19
set_option maxHeartbeats 16000000 in
set_option maxRecDepth 100000 in
theorem c_X3_paceOf (l : Launch) (D : va_G) (cy : Nat → ClassId) (hs : Nat → Nat) (hH hT sH sT : Nat) (v_tape_size v_band_walkers v_band_loads v_band_pieces v_rules_clauses v_reader_end v_reader_at v_reader_length v_reader_letter v_reader_fault v_draft_clauses v_paces_version v_packing_quicker v_packing_loads v_packing_looseCount v_marches_told v_marches_changeMinutes v_marches_marching v_marches_gone v_search_known v_search_countHere v_search_countThere v_search_cost v_search_most : Int32) (v_search_found : Int64) (f_bytes f_knee f_weight f_limps f_bheft f_owner f_food f_miles f_slope f_rsteps f_rkind f_ryields f_rholds f_rletters f_rstack f_dsteps f_dkind f_dyields f_dholds f_dletters f_dstack f_caps f_versions f_sharing f_pheft f_prow f_holder f_comes f_pcaps f_room f_loose f_reached f_mrow f_minutesOn f_mtired : Nat → Int32) (f_here f_there : Nat → Int64) (f_statesHere f_statesThere f_listed f_stired f_burdens f_pacesOn f_restedOn f_behindOn f_behindFor f_first f_second : Nat → Int32) (f_plans f_tiredOn : Nat → Nat → Int32) (tS : Nat) (sz : Nat) (w : Int32) (l1 : Int32) (t1 : Int32) (i : Int32) (hb_v_band_walkers : 0 ≤ v_band_walkers.toInt ∧ v_band_walkers.toInt ≤ 6) (hb_v_rules_clauses : 0 ≤ v_rules_clauses.toInt ∧ v_rules_clauses.toInt ≤ 14) (hr_weight : rg (0) 250 f_weight) (hr_limps : rg (0) 1 f_limps) (hr_miles : rg (0) 20 f_miles) (ha_w : 0 ≤ w.toInt ∧ w.toInt ≤ 5) (ha_i : 0 ≤ i.toInt ∧ i.toInt ≤ 9) : gMi l yX3_paceOf cX3_paceOf 5 .int 3 [.ref (hs 27), .int w, .int l1, .int t1, .int i] D cy (wSP cy hs hH hT sH sT v_tape_size v_band_walkers v_band_loads v_band_pieces v_rules_clauses v_reader_end v_reader_at v_reader_length v_reader_letter v_reader_fault v_draft_clauses v_paces_version v_packing_quicker v_packing_loads v_packing_looseCount v_marches_told v_marches_changeMinutes v_marches_marching v_marches_gone v_search_known v_search_countHere v_search_countThere v_search_cost v_search_most v_search_found f_bytes f_knee f_weight f_limps f_bheft f_owner f_food f_miles f_slope f_rsteps f_rkind f_ryields f_rholds f_rletters f_rstack f_dsteps f_dkind f_dyields f_dholds f_dletters f_dstack f_caps f_versions f_sharing f_pheft f_prow f_holder f_comes f_pcaps f_room f_loose f_reached f_mrow f_minutesOn f_mtired f_here f_there f_statesHere f_statesThere f_listed f_stired f_burdens f_pacesOn f_restedOn f_behindOn f_behindFor f_first f_second f_plans f_tiredOn) (NS tS) sz (fun (r : Int32) (u : (Nat → Int32) × (Nat → Int32)) => (0 ≤ r.toInt ∧ r.toInt ≤ 60)) (fun u => wSP cy hs hH hT sH sT v_tape_size v_band_walkers v_band_loads v_band_pieces v_rules_clauses v_reader_end v_reader_at v_reader_length v_reader_letter v_reader_fault v_draft_clauses v_paces_version v_packing_quicker v_packing_loads v_packing_looseCount v_marches_told v_marches_changeMinutes v_marches_marching v_marches_gone v_search_known v_search_countHere v_search_countThere v_search_cost v_search_most v_search_found f_bytes f_knee f_weight f_limps f_bheft f_owner f_food f_miles f_slope f_rsteps f_rkind f_ryields f_rholds (u.1) (u.2) f_dsteps f_dkind f_dyields f_dholds f_dletters f_dstack f_caps f_versions f_sharing f_pheft f_prow f_holder f_comes f_pcaps f_room f_loose f_reached f_mrow f_minutesOn f_mtired f_here f_there f_statesHere f_statesThere f_listed f_stired f_burdens f_pacesOn f_restedOn f_behindOn f_behindFor f_first f_second f_plans f_tiredOn) := by
  refine gMi_in (by decide) (Nat.le_of_ble_eq_true rfl) ?_
  intro p e s m args below meth c A ls Q hx hb hml hts hown hsz hP hK hD hN hAe hA hS hl hret
  subst hsz
  have hl : lv_has ls 5 [(0, .ref (hs 27)), (1, .int w), (2, .int l1), (3, .int t1), (4, .int i)] := hl
  have hrt := fun (r : Int32) (f_rletters' : Nat → Int32) (f_rstack' : Nat → Int32) (hp : (0 ≤ r.toInt ∧ r.toInt ≤ 60)) {H : Heap} {locs : List Loc} {pc : Nat} {ls : Array Slot} => hret r (f_rletters', f_rstack') (H := H) (locs := locs) (pc := pc) (ls := ls) hp
  clear hret
  refine lv_aload_n hx hb dX3_paceOf_0 rfl (lv_at hl 0 rfl) ?_
  refine lv_iload_n hx hb dX3_paceOf_1 rfl (lv_at hl 1 rfl) ?_
  refine lv_iload_n hx hb dX3_paceOf_2 rfl (lv_at hl 2 rfl) ?_
  refine lv_iload_n hx hb dX3_paceOf_3 rfl (lv_at hl 3 rfl) ?_
  refine lv_iload hx hb dX3_paceOf_4 (lv_at hl 4 rfl) ?_
  refine xv hD hS hA (xV (As := [.int w, .int l1, .int t1, .int i]) (rest := []) hx hb hml hown hts hK hP hD hS hA NS_ok hN hAe hl.1 ⟨Nat.le_refl _, Nat.le_refl _⟩ 27 rfl rfl rfl (c_X3_describe l D cy hs hH hT sH sT v_tape_size v_band_walkers v_band_loads v_band_pieces v_rules_clauses v_reader_end v_reader_at v_reader_length v_reader_letter v_reader_fault v_draft_clauses v_paces_version v_packing_quicker v_packing_loads v_packing_looseCount v_marches_told v_marches_changeMinutes v_marches_marching v_marches_gone v_search_known v_search_countHere v_search_countThere v_search_cost v_search_most v_search_found f_bytes f_knee f_weight f_limps f_bheft f_owner f_food f_miles f_slope f_rsteps f_rkind f_ryields f_rholds f_rletters f_rstack f_dsteps f_dkind f_dyields f_dholds f_dletters f_dstack f_caps f_versions f_sharing f_pheft f_prow f_holder f_comes f_pcaps f_room f_loose f_reached f_mrow f_minutesOn f_mtired f_here f_there f_statesHere f_statesThere f_listed f_stired f_burdens f_pacesOn f_restedOn f_behindOn f_behindFor f_first f_second f_plans f_tiredOn tS s.heap.size w l1 t1 i (by omega) hr_weight hr_miles (by omega) (by omega)) (gi_V lwd_513 lwd_514 lwd_515 lwd_30 lwd_516) ⟨rfl, hd_X3_describe⟩ ⟨Nat.le_of_ble_eq_true rfl, Nat.le_of_ble_eq_true rfl⟩ rfl (Nat.le_of_ble_eq_true rfl) dX3_paceOf_6) (fun u_1 H locs hw hP hD hS => ?_)
  obtain ⟨zrletters_3, rfl⟩ : ∃ z, z = u_1 := ⟨_, rfl⟩
  try dsimp only at hw hP hD
  clear hw
  refine lv_aload_n hx hb dX3_paceOf_9 rfl (lv_at hl 0 rfl) ?_
  refine lv_iload_n hx hb dX3_paceOf_10 rfl (lv_at hl 1 rfl) ?_
  refine lv_aload_n hx hb dX3_paceOf_11 rfl (lv_at hl 0 rfl) ?_
  refine gt_SP_paces_rules hx hb hts hown hK hP lwd_90 dX3_paceOf_12 ?_
  refine lv_bipush (v := 118) hx hb dX3_paceOf_15 (by decide) ?_
  refine lv_iconst (v := 0) hx hb dX3_paceOf_17 (by decide) ?_
  refine lv_bipush (v := 60) hx hb dX3_paceOf_18 (by decide) ?_
  have k_4 : (118 : Int32).toInt = 118 := by decide
  have k_5 : (0 : Int32).toInt = 0 := by decide
  have k_6 : (60 : Int32).toInt = 60 := by decide
  refine xi hD hS hA (xV (As := [.int 118, .int 0, .int 60]) (rest := [.int w, .ref (hs 27)]) hx hb hml hown hts hK hP hD hS hA NS_ok hN hAe hl.1 ⟨Nat.le_refl _, Nat.le_refl _⟩ 12 rfl rfl rfl (c_X6_value l D cy hs hH hT sH sT v_tape_size v_band_walkers v_band_loads v_band_pieces v_rules_clauses v_reader_end v_reader_at v_reader_length v_reader_letter v_reader_fault v_draft_clauses v_paces_version v_packing_quicker v_packing_loads v_packing_looseCount v_marches_told v_marches_changeMinutes v_marches_marching v_marches_gone v_search_known v_search_countHere v_search_countThere v_search_cost v_search_most v_search_found f_bytes f_knee f_weight f_limps f_bheft f_owner f_food f_miles f_slope f_rsteps f_rkind f_ryields f_rholds zrletters_3 f_rstack f_dsteps f_dkind f_dyields f_dholds f_dletters f_dstack f_caps f_versions f_sharing f_pheft f_prow f_holder f_comes f_pcaps f_room f_loose f_reached f_mrow f_minutesOn f_mtired f_here f_there f_statesHere f_statesThere f_listed f_stired f_burdens f_pacesOn f_restedOn f_behindOn f_behindFor f_first f_second f_plans f_tiredOn tS H.size 118 0 60 (by omega) (by omega)) (gi_V lwd_523 lwd_524 lwd_525 lwd_22 lwd_526) ⟨rfl, hd_X6_value⟩ ⟨Nat.le_of_ble_eq_true rfl, Nat.le_of_ble_eq_true rfl⟩ rfl (Nat.le_of_ble_eq_true rfl) dX3_paceOf_20) (fun r_8 u_7 H locs hw hP hD hS => ?_)
  obtain ⟨zrstack_9, rfl⟩ : ∃ z, z = u_7 := ⟨_, rfl⟩
  try dsimp only at hw hP hD
  have p_10 := hw
  clear hw
  refine xi hD hS hA (xV (As := [.int w, .int r_8]) (rest := []) hx hb hml hown hts hK hP hD hS hA NS_ok hN hAe hl.1 ⟨Nat.le_refl _, Nat.le_refl _⟩ 27 rfl rfl rfl (c_X3_limped l D cy hs hH hT sH sT v_tape_size v_band_walkers v_band_loads v_band_pieces v_rules_clauses v_reader_end v_reader_at v_reader_length v_reader_letter v_reader_fault v_draft_clauses v_paces_version v_packing_quicker v_packing_loads v_packing_looseCount v_marches_told v_marches_changeMinutes v_marches_marching v_marches_gone v_search_known v_search_countHere v_search_countThere v_search_cost v_search_most v_search_found f_bytes f_knee f_weight f_limps f_bheft f_owner f_food f_miles f_slope f_rsteps f_rkind f_ryields f_rholds zrletters_3 zrstack_9 f_dsteps f_dkind f_dyields f_dholds f_dletters f_dstack f_caps f_versions f_sharing f_pheft f_prow f_holder f_comes f_pcaps f_room f_loose f_reached f_mrow f_minutesOn f_mtired f_here f_there f_statesHere f_statesThere f_listed f_stired f_burdens f_pacesOn f_restedOn f_behindOn f_behindFor f_first f_second f_plans f_tiredOn tS H.size w r_8 hr_limps (by omega) (by omega)) (gi_V lwd_538 lwd_539 lwd_540 lwd_30 lwd_541) ⟨rfl, hd_X3_limped⟩ ⟨Nat.le_of_ble_eq_true rfl, Nat.le_of_ble_eq_true rfl⟩ rfl (Nat.le_of_ble_eq_true rfl) dX3_paceOf_23) (fun r_12 u_11 H locs hw hP hD hS => ?_)
  try dsimp only at hw hP hD
  have p_13 := hw
  clear hw
  exact hrt r_12 zrletters_3 zrstack_9 (by omega) hP hD hS rfl dX3_paceOf_26
set_option maxHeartbeats 16000000 in
set_option maxRecDepth 100000 in
theorem c_X3_paceBack (l : Launch) (D : va_G) (cy : Nat → ClassId) (hs : Nat → Nat) (hH hT sH sT : Nat) (v_tape_size v_band_walkers v_band_loads v_band_pieces v_rules_clauses v_reader_end v_reader_at v_reader_length v_reader_letter v_reader_fault v_draft_clauses v_paces_version v_packing_quicker v_packing_loads v_packing_looseCount v_marches_told v_marches_changeMinutes v_marches_marching v_marches_gone v_search_known v_search_countHere v_search_countThere v_search_cost v_search_most : Int32) (v_search_found : Int64) (f_bytes f_knee f_weight f_limps f_bheft f_owner f_food f_miles f_slope f_rsteps f_rkind f_ryields f_rholds f_rletters f_rstack f_dsteps f_dkind f_dyields f_dholds f_dletters f_dstack f_caps f_versions f_sharing f_pheft f_prow f_holder f_comes f_pcaps f_room f_loose f_reached f_mrow f_minutesOn f_mtired : Nat → Int32) (f_here f_there : Nat → Int64) (f_statesHere f_statesThere f_listed f_stired f_burdens f_pacesOn f_restedOn f_behindOn f_behindFor f_first f_second : Nat → Int32) (f_plans f_tiredOn : Nat → Nat → Int32) (tS : Nat) (sz : Nat) (w : Int32) (i : Int32) (hb_v_band_walkers : 0 ≤ v_band_walkers.toInt ∧ v_band_walkers.toInt ≤ 6) (hb_v_rules_clauses : 0 ≤ v_rules_clauses.toInt ∧ v_rules_clauses.toInt ≤ 14) (hr_weight : rg (0) 250 f_weight) (hr_limps : rg (0) 1 f_limps) (hr_miles : rg (0) 20 f_miles) (ha_w : 0 ≤ w.toInt ∧ w.toInt ≤ 5) (ha_i : 0 ≤ i.toInt ∧ i.toInt ≤ 9) : gMi l yX3_paceBack cX3_paceBack 3 .int 3 [.ref (hs 27), .int w, .int i] D cy (wSP cy hs hH hT sH sT v_tape_size v_band_walkers v_band_loads v_band_pieces v_rules_clauses v_reader_end v_reader_at v_reader_length v_reader_letter v_reader_fault v_draft_clauses v_paces_version v_packing_quicker v_packing_loads v_packing_looseCount v_marches_told v_marches_changeMinutes v_marches_marching v_marches_gone v_search_known v_search_countHere v_search_countThere v_search_cost v_search_most v_search_found f_bytes f_knee f_weight f_limps f_bheft f_owner f_food f_miles f_slope f_rsteps f_rkind f_ryields f_rholds f_rletters f_rstack f_dsteps f_dkind f_dyields f_dholds f_dletters f_dstack f_caps f_versions f_sharing f_pheft f_prow f_holder f_comes f_pcaps f_room f_loose f_reached f_mrow f_minutesOn f_mtired f_here f_there f_statesHere f_statesThere f_listed f_stired f_burdens f_pacesOn f_restedOn f_behindOn f_behindFor f_first f_second f_plans f_tiredOn) (NS tS) sz (fun (r : Int32) (u : (Nat → Int32) × (Nat → Int32)) => (0 ≤ r.toInt ∧ r.toInt ≤ 60)) (fun u => wSP cy hs hH hT sH sT v_tape_size v_band_walkers v_band_loads v_band_pieces v_rules_clauses v_reader_end v_reader_at v_reader_length v_reader_letter v_reader_fault v_draft_clauses v_paces_version v_packing_quicker v_packing_loads v_packing_looseCount v_marches_told v_marches_changeMinutes v_marches_marching v_marches_gone v_search_known v_search_countHere v_search_countThere v_search_cost v_search_most v_search_found f_bytes f_knee f_weight f_limps f_bheft f_owner f_food f_miles f_slope f_rsteps f_rkind f_ryields f_rholds (u.1) (u.2) f_dsteps f_dkind f_dyields f_dholds f_dletters f_dstack f_caps f_versions f_sharing f_pheft f_prow f_holder f_comes f_pcaps f_room f_loose f_reached f_mrow f_minutesOn f_mtired f_here f_there f_statesHere f_statesThere f_listed f_stired f_burdens f_pacesOn f_restedOn f_behindOn f_behindFor f_first f_second f_plans f_tiredOn) := by
  refine gMi_in (by decide) (Nat.le_of_ble_eq_true rfl) ?_
  intro p e s m args below meth c A ls Q hx hb hml hts hown hsz hP hK hD hN hAe hA hS hl hret
  subst hsz
  have hl : lv_has ls 3 [(0, .ref (hs 27)), (1, .int w), (2, .int i)] := hl
  have hrt := fun (r : Int32) (f_rletters' : Nat → Int32) (f_rstack' : Nat → Int32) (hp : (0 ≤ r.toInt ∧ r.toInt ≤ 60)) {H : Heap} {locs : List Loc} {pc : Nat} {ls : Array Slot} => hret r (f_rletters', f_rstack') (H := H) (locs := locs) (pc := pc) (ls := ls) hp
  clear hret
  refine lv_aload_n hx hb dX3_paceBack_0 rfl (lv_at hl 0 rfl) ?_
  refine lv_iload_n hx hb dX3_paceBack_1 rfl (lv_at hl 1 rfl) ?_
  refine lv_iconst (v := 0) hx hb dX3_paceBack_2 (by decide) ?_
  refine lv_iconst (v := 0) hx hb dX3_paceBack_3 (by decide) ?_
  refine lv_iload_n hx hb dX3_paceBack_4 rfl (lv_at hl 2 rfl) ?_
  have k_1 : (0 : Int32).toInt = 0 := by decide
  refine xv hD hS hA (xV (As := [.int w, .int 0, .int 0, .int i]) (rest := []) hx hb hml hown hts hK hP hD hS hA NS_ok hN hAe hl.1 ⟨Nat.le_refl _, Nat.le_refl _⟩ 27 rfl rfl rfl (c_X3_describe l D cy hs hH hT sH sT v_tape_size v_band_walkers v_band_loads v_band_pieces v_rules_clauses v_reader_end v_reader_at v_reader_length v_reader_letter v_reader_fault v_draft_clauses v_paces_version v_packing_quicker v_packing_loads v_packing_looseCount v_marches_told v_marches_changeMinutes v_marches_marching v_marches_gone v_search_known v_search_countHere v_search_countThere v_search_cost v_search_most v_search_found f_bytes f_knee f_weight f_limps f_bheft f_owner f_food f_miles f_slope f_rsteps f_rkind f_ryields f_rholds f_rletters f_rstack f_dsteps f_dkind f_dyields f_dholds f_dletters f_dstack f_caps f_versions f_sharing f_pheft f_prow f_holder f_comes f_pcaps f_room f_loose f_reached f_mrow f_minutesOn f_mtired f_here f_there f_statesHere f_statesThere f_listed f_stired f_burdens f_pacesOn f_restedOn f_behindOn f_behindFor f_first f_second f_plans f_tiredOn tS s.heap.size w 0 0 i (by omega) hr_weight hr_miles (by omega) (by omega)) (gi_V lwd_513 lwd_514 lwd_515 lwd_30 lwd_516) ⟨rfl, hd_X3_describe⟩ ⟨Nat.le_of_ble_eq_true rfl, Nat.le_of_ble_eq_true rfl⟩ rfl (Nat.le_of_ble_eq_true rfl) dX3_paceBack_5) (fun u_2 H locs hw hP hD hS => ?_)
  obtain ⟨zrletters_4, rfl⟩ : ∃ z, z = u_2 := ⟨_, rfl⟩
  try dsimp only at hw hP hD
  clear hw
  refine lv_aload_n hx hb dX3_paceBack_8 rfl (lv_at hl 0 rfl) ?_
  refine gt_SP_paces_rules hx hb hts hown hK hP lwd_90 dX3_paceBack_9 ?_
  refine gt_SP_rules_letters hx hb hts hown hK hP lwd_517 dX3_paceBack_12 ?_
  refine lv_iconst (v := 5) hx hb dX3_paceBack_15 (by decide) ?_
  refine lv_aload_n hx hb dX3_paceBack_16 rfl (lv_at hl 0 rfl) ?_
  refine gt_SP_paces_band hx hb hts hown hK hP lwd_89 dX3_paceBack_17 ?_
  refine gt_SP_band_slope hx hb hts hown hK hP lwd_520 dX3_paceBack_20 ?_
  refine lv_iload_n hx hb dX3_paceBack_23 rfl (lv_at hl 2 rfl) ?_
  refine al_slope hx hb hK hP (i_in (rfl : i.toInt = i.toInt) (by omega) (by omega)) dX3_paceBack_24 (fun n_5 en_5 => ?_)
  refine lv_ineg hx hb dX3_paceBack_25 ?_
  refine lv_topi (fun n_6 en_6 => ?_)
  refine as_rletters (x := n_6) hx hb hK hP hD hS (i_in (by decide : (5 : Int32).toInt = 5) (by decide) (by decide)) dX3_paceBack_26 (fun f_7 ef_7 H locs hP hD hS => ?_)
  refine lv_aload_n hx hb dX3_paceBack_27 rfl (lv_at hl 0 rfl) ?_
  refine lv_iload_n hx hb dX3_paceBack_28 rfl (lv_at hl 1 rfl) ?_
  refine lv_aload_n hx hb dX3_paceBack_29 rfl (lv_at hl 0 rfl) ?_
  refine gt_SP_paces_rules hx hb hts hown hK hP lwd_90 dX3_paceBack_30 ?_
  refine lv_bipush (v := 118) hx hb dX3_paceBack_33 (by decide) ?_
  refine lv_iconst (v := 0) hx hb dX3_paceBack_35 (by decide) ?_
  refine lv_bipush (v := 60) hx hb dX3_paceBack_36 (by decide) ?_
  have k_8 : (118 : Int32).toInt = 118 := by decide
  have k_9 : (60 : Int32).toInt = 60 := by decide
  refine xi hD hS hA (xV (As := [.int 118, .int 0, .int 60]) (rest := [.int w, .ref (hs 27)]) hx hb hml hown hts hK hP hD hS hA NS_ok hN hAe hl.1 ⟨Nat.le_refl _, Nat.le_refl _⟩ 12 rfl rfl rfl (c_X6_value l D cy hs hH hT sH sT v_tape_size v_band_walkers v_band_loads v_band_pieces v_rules_clauses v_reader_end v_reader_at v_reader_length v_reader_letter v_reader_fault v_draft_clauses v_paces_version v_packing_quicker v_packing_loads v_packing_looseCount v_marches_told v_marches_changeMinutes v_marches_marching v_marches_gone v_search_known v_search_countHere v_search_countThere v_search_cost v_search_most v_search_found f_bytes f_knee f_weight f_limps f_bheft f_owner f_food f_miles f_slope f_rsteps f_rkind f_ryields f_rholds f_7 f_rstack f_dsteps f_dkind f_dyields f_dholds f_dletters f_dstack f_caps f_versions f_sharing f_pheft f_prow f_holder f_comes f_pcaps f_room f_loose f_reached f_mrow f_minutesOn f_mtired f_here f_there f_statesHere f_statesThere f_listed f_stired f_burdens f_pacesOn f_restedOn f_behindOn f_behindFor f_first f_second f_plans f_tiredOn tS H.size 118 0 60 (by omega) (by omega)) (gi_V lwd_523 lwd_524 lwd_525 lwd_22 lwd_526) ⟨rfl, hd_X6_value⟩ ⟨Nat.le_of_ble_eq_true rfl, Nat.le_of_ble_eq_true rfl⟩ rfl (Nat.le_of_ble_eq_true rfl) dX3_paceBack_38) (fun r_11 u_10 H locs hw hP hD hS => ?_)
  obtain ⟨zrstack_12, rfl⟩ : ∃ z, z = u_10 := ⟨_, rfl⟩
  try dsimp only at hw hP hD
  have p_13 := hw
  clear hw
  refine xi hD hS hA (xV (As := [.int w, .int r_11]) (rest := []) hx hb hml hown hts hK hP hD hS hA NS_ok hN hAe hl.1 ⟨Nat.le_refl _, Nat.le_refl _⟩ 27 rfl rfl rfl (c_X3_limped l D cy hs hH hT sH sT v_tape_size v_band_walkers v_band_loads v_band_pieces v_rules_clauses v_reader_end v_reader_at v_reader_length v_reader_letter v_reader_fault v_draft_clauses v_paces_version v_packing_quicker v_packing_loads v_packing_looseCount v_marches_told v_marches_changeMinutes v_marches_marching v_marches_gone v_search_known v_search_countHere v_search_countThere v_search_cost v_search_most v_search_found f_bytes f_knee f_weight f_limps f_bheft f_owner f_food f_miles f_slope f_rsteps f_rkind f_ryields f_rholds f_7 zrstack_12 f_dsteps f_dkind f_dyields f_dholds f_dletters f_dstack f_caps f_versions f_sharing f_pheft f_prow f_holder f_comes f_pcaps f_room f_loose f_reached f_mrow f_minutesOn f_mtired f_here f_there f_statesHere f_statesThere f_listed f_stired f_burdens f_pacesOn f_restedOn f_behindOn f_behindFor f_first f_second f_plans f_tiredOn tS H.size w r_11 hr_limps (by omega) (by omega)) (gi_V lwd_538 lwd_539 lwd_540 lwd_30 lwd_541) ⟨rfl, hd_X3_limped⟩ ⟨Nat.le_of_ble_eq_true rfl, Nat.le_of_ble_eq_true rfl⟩ rfl (Nat.le_of_ble_eq_true rfl) dX3_paceBack_41) (fun r_15 u_14 H locs hw hP hD hS => ?_)
  try dsimp only at hw hP hD
  have p_16 := hw
  clear hw
  exact hrt r_15 f_7 zrstack_12 (by omega) hP hD hS rfl dX3_paceBack_44
set_option maxHeartbeats 16000000 in
set_option maxRecDepth 100000 in
theorem c_X3_tiredBehind (l : Launch) (D : va_G) (cy : Nat → ClassId) (hs : Nat → Nat) (hH hT sH sT : Nat) (v_tape_size v_band_walkers v_band_loads v_band_pieces v_rules_clauses v_reader_end v_reader_at v_reader_length v_reader_letter v_reader_fault v_draft_clauses v_paces_version v_packing_quicker v_packing_loads v_packing_looseCount v_marches_told v_marches_changeMinutes v_marches_marching v_marches_gone v_search_known v_search_countHere v_search_countThere v_search_cost v_search_most : Int32) (v_search_found : Int64) (f_bytes f_knee f_weight f_limps f_bheft f_owner f_food f_miles f_slope f_rsteps f_rkind f_ryields f_rholds f_rletters f_rstack f_dsteps f_dkind f_dyields f_dholds f_dletters f_dstack f_caps f_versions f_sharing f_pheft f_prow f_holder f_comes f_pcaps f_room f_loose f_reached f_mrow f_minutesOn f_mtired : Nat → Int32) (f_here f_there : Nat → Int64) (f_statesHere f_statesThere f_listed f_stired f_burdens f_pacesOn f_restedOn f_behindOn f_behindFor f_first f_second : Nat → Int32) (f_plans f_tiredOn : Nat → Nat → Int32) (tS : Nat) (sz : Nat) (w : Int32) (l1 : Int32) (t1 : Int32) (i : Int32) (mi : Int32) (hb_v_band_walkers : 0 ≤ v_band_walkers.toInt ∧ v_band_walkers.toInt ≤ 6) (hb_v_rules_clauses : 0 ≤ v_rules_clauses.toInt ∧ v_rules_clauses.toInt ≤ 14) (hr_weight : rg (0) 250 f_weight) (hr_miles : rg (0) 20 f_miles) (ha_w : 0 ≤ w.toInt ∧ w.toInt ≤ 5) (ha_t1 : 0 ≤ t1.toInt ∧ t1.toInt ≤ 5) (ha_i : 0 ≤ i.toInt ∧ i.toInt ≤ 9) : gMi l yX3_tiredBehind cX3_tiredBehind 7 .int 3 [.ref (hs 27), .int w, .int l1, .int t1, .int i, .int mi] D cy (wSP cy hs hH hT sH sT v_tape_size v_band_walkers v_band_loads v_band_pieces v_rules_clauses v_reader_end v_reader_at v_reader_length v_reader_letter v_reader_fault v_draft_clauses v_paces_version v_packing_quicker v_packing_loads v_packing_looseCount v_marches_told v_marches_changeMinutes v_marches_marching v_marches_gone v_search_known v_search_countHere v_search_countThere v_search_cost v_search_most v_search_found f_bytes f_knee f_weight f_limps f_bheft f_owner f_food f_miles f_slope f_rsteps f_rkind f_ryields f_rholds f_rletters f_rstack f_dsteps f_dkind f_dyields f_dholds f_dletters f_dstack f_caps f_versions f_sharing f_pheft f_prow f_holder f_comes f_pcaps f_room f_loose f_reached f_mrow f_minutesOn f_mtired f_here f_there f_statesHere f_statesThere f_listed f_stired f_burdens f_pacesOn f_restedOn f_behindOn f_behindFor f_first f_second f_plans f_tiredOn) (NS tS) sz (fun (r : Int32) (u : (Nat → Int32) × (Nat → Int32)) => (0 ≤ r.toInt ∧ r.toInt ≤ 5)) (fun u => wSP cy hs hH hT sH sT v_tape_size v_band_walkers v_band_loads v_band_pieces v_rules_clauses v_reader_end v_reader_at v_reader_length v_reader_letter v_reader_fault v_draft_clauses v_paces_version v_packing_quicker v_packing_loads v_packing_looseCount v_marches_told v_marches_changeMinutes v_marches_marching v_marches_gone v_search_known v_search_countHere v_search_countThere v_search_cost v_search_most v_search_found f_bytes f_knee f_weight f_limps f_bheft f_owner f_food f_miles f_slope f_rsteps f_rkind f_ryields f_rholds (u.1) (u.2) f_dsteps f_dkind f_dyields f_dholds f_dletters f_dstack f_caps f_versions f_sharing f_pheft f_prow f_holder f_comes f_pcaps f_room f_loose f_reached f_mrow f_minutesOn f_mtired f_here f_there f_statesHere f_statesThere f_listed f_stired f_burdens f_pacesOn f_restedOn f_behindOn f_behindFor f_first f_second f_plans f_tiredOn) := by
  refine gMi_in (by decide) (Nat.le_of_ble_eq_true rfl) ?_
  intro p e s m args below meth c A ls Q hx hb hml hts hown hsz hP hK hD hN hAe hA hS hl hret
  subst hsz
  have hl : lv_has ls 7 [(0, .ref (hs 27)), (1, .int w), (2, .int l1), (3, .int t1), (4, .int i), (5, .int mi)] := hl
  have hrt := fun (r : Int32) (f_rletters' : Nat → Int32) (f_rstack' : Nat → Int32) (hp : (0 ≤ r.toInt ∧ r.toInt ≤ 5)) {H : Heap} {locs : List Loc} {pc : Nat} {ls : Array Slot} => hret r (f_rletters', f_rstack') (H := H) (locs := locs) (pc := pc) (ls := ls) hp
  clear hret
  refine lv_aload_n hx hb dX3_tiredBehind_0 rfl (lv_at hl 0 rfl) ?_
  refine lv_iload_n hx hb dX3_tiredBehind_1 rfl (lv_at hl 1 rfl) ?_
  refine lv_iload_n hx hb dX3_tiredBehind_2 rfl (lv_at hl 2 rfl) ?_
  refine lv_iload_n hx hb dX3_tiredBehind_3 rfl (lv_at hl 3 rfl) ?_
  refine lv_iload hx hb dX3_tiredBehind_4 (lv_at hl 4 rfl) ?_
  refine xv hD hS hA (xV (As := [.int w, .int l1, .int t1, .int i]) (rest := []) hx hb hml hown hts hK hP hD hS hA NS_ok hN hAe hl.1 ⟨Nat.le_refl _, Nat.le_refl _⟩ 27 rfl rfl rfl (c_X3_describe l D cy hs hH hT sH sT v_tape_size v_band_walkers v_band_loads v_band_pieces v_rules_clauses v_reader_end v_reader_at v_reader_length v_reader_letter v_reader_fault v_draft_clauses v_paces_version v_packing_quicker v_packing_loads v_packing_looseCount v_marches_told v_marches_changeMinutes v_marches_marching v_marches_gone v_search_known v_search_countHere v_search_countThere v_search_cost v_search_most v_search_found f_bytes f_knee f_weight f_limps f_bheft f_owner f_food f_miles f_slope f_rsteps f_rkind f_ryields f_rholds f_rletters f_rstack f_dsteps f_dkind f_dyields f_dholds f_dletters f_dstack f_caps f_versions f_sharing f_pheft f_prow f_holder f_comes f_pcaps f_room f_loose f_reached f_mrow f_minutesOn f_mtired f_here f_there f_statesHere f_statesThere f_listed f_stired f_burdens f_pacesOn f_restedOn f_behindOn f_behindFor f_first f_second f_plans f_tiredOn tS s.heap.size w l1 t1 i (by omega) hr_weight hr_miles (by omega) (by omega)) (gi_V lwd_513 lwd_514 lwd_515 lwd_30 lwd_516) ⟨rfl, hd_X3_describe⟩ ⟨Nat.le_of_ble_eq_true rfl, Nat.le_of_ble_eq_true rfl⟩ rfl (Nat.le_of_ble_eq_true rfl) dX3_tiredBehind_6) (fun u_1 H locs hw hP hD hS => ?_)
  obtain ⟨zrletters_3, rfl⟩ : ∃ z, z = u_1 := ⟨_, rfl⟩
  try dsimp only at hw hP hD
  clear hw
  refine lv_aload_n hx hb dX3_tiredBehind_9 rfl (lv_at hl 0 rfl) ?_
  refine gt_SP_paces_rules hx hb hts hown hK hP lwd_90 dX3_tiredBehind_10 ?_
  refine gt_SP_rules_letters hx hb hts hown hK hP lwd_517 dX3_tiredBehind_13 ?_
  refine lv_bipush (v := 9) hx hb dX3_tiredBehind_16 (by decide) ?_
  refine lv_iload hx hb dX3_tiredBehind_18 (lv_at hl 5 rfl) ?_
  refine as_rletters (x := mi) hx hb hK hP hD hS (i_in (by decide : (9 : Int32).toInt = 9) (by decide) (by decide)) dX3_tiredBehind_20 (fun f_4 ef_4 H locs hP hD hS => ?_)
  refine lv_aload_n hx hb dX3_tiredBehind_21 rfl (lv_at hl 0 rfl) ?_
  refine gt_SP_paces_rules hx hb hts hown hK hP lwd_90 dX3_tiredBehind_22 ?_
  refine lv_bipush (v := 103) hx hb dX3_tiredBehind_25 (by decide) ?_
  refine lv_bipush (v := (-5)) hx hb dX3_tiredBehind_27 (by decide) ?_
  refine lv_iconst (v := 5) hx hb dX3_tiredBehind_29 (by decide) ?_
  have k_5 : (103 : Int32).toInt = 103 := by decide
  have k_6 : ((-5) : Int32).toInt = (-5) := by decide
  have k_7 : (5 : Int32).toInt = 5 := by decide
  refine xi hD hS hA (xV (As := [.int 103, .int (-5), .int 5]) (rest := []) hx hb hml hown hts hK hP hD hS hA NS_ok hN hAe hl.1 ⟨Nat.le_refl _, Nat.le_refl _⟩ 12 rfl rfl rfl (c_X6_value l D cy hs hH hT sH sT v_tape_size v_band_walkers v_band_loads v_band_pieces v_rules_clauses v_reader_end v_reader_at v_reader_length v_reader_letter v_reader_fault v_draft_clauses v_paces_version v_packing_quicker v_packing_loads v_packing_looseCount v_marches_told v_marches_changeMinutes v_marches_marching v_marches_gone v_search_known v_search_countHere v_search_countThere v_search_cost v_search_most v_search_found f_bytes f_knee f_weight f_limps f_bheft f_owner f_food f_miles f_slope f_rsteps f_rkind f_ryields f_rholds f_4 f_rstack f_dsteps f_dkind f_dyields f_dholds f_dletters f_dstack f_caps f_versions f_sharing f_pheft f_prow f_holder f_comes f_pcaps f_room f_loose f_reached f_mrow f_minutesOn f_mtired f_here f_there f_statesHere f_statesThere f_listed f_stired f_burdens f_pacesOn f_restedOn f_behindOn f_behindFor f_first f_second f_plans f_tiredOn tS H.size 103 (-5) 5 (by omega) (by omega)) (gi_V lwd_523 lwd_524 lwd_525 lwd_22 lwd_526) ⟨rfl, hd_X6_value⟩ ⟨Nat.le_of_ble_eq_true rfl, Nat.le_of_ble_eq_true rfl⟩ rfl (Nat.le_of_ble_eq_true rfl) dX3_tiredBehind_30) (fun r_9 u_8 H locs hw hP hD hS => ?_)
  obtain ⟨zrstack_10, rfl⟩ : ∃ z, z = u_8 := ⟨_, rfl⟩
  try dsimp only at hw hP hD
  have p_11 := hw
  clear hw
  refine lv_istore (lv' := [(6, .int r_9), (0, .ref (hs 27)), (1, .int w), (2, .int l1), (3, .int t1), (4, .int i), (5, .int mi)]) hx hb dX3_tiredBehind_33 hl (by decide) rfl (fun ls hl => ?_)
  refine lv_iconst (v := 0) hx hb dX3_tiredBehind_35 (by decide) ?_
  refine lv_iconst (v := 5) hx hb dX3_tiredBehind_36 (by decide) ?_
  refine lv_iload_n hx hb dX3_tiredBehind_37 rfl (lv_at hl 4 rfl) ?_
  refine lv_iload hx hb dX3_tiredBehind_38 (lv_at hl 0 rfl) ?_
  refine lv_iadd hx hb dX3_tiredBehind_40 ?_
  refine lv_topi (fun n_12 en_12 => ?_)
  have tn_12 : n_12.toInt = t1.toInt + r_9.toInt := i_add en_12 (rfl : t1.toInt = t1.toInt) (rfl : r_9.toInt = r_9.toInt) (by omega) (by omega)
  refine va_mmin hx hb (by rw [hml]; exact hl.1.symm) hown (hts _ lwd_962) (hts _ lwd_528) (hts _ lwd_529) (hts _ lwd_530) (Nat.le_of_ble_eq_true rfl) (Nat.le_of_ble_eq_true rfl) (Nat.zero_le _) (Nat.zero_le _) dX3_tiredBehind_41 ?_
  refine lv_topi (fun n_13 en_13 => ?_)
  have tn_13 := i_min en_13 (by decide : (5 : Int32).toInt = 5) tn_12
  refine va_mmax hx hb (by rw [hml]; exact hl.1.symm) hown (hts _ lwd_945) (hts _ lwd_532) (hts _ lwd_529) (hts _ lwd_533) (Nat.le_of_ble_eq_true rfl) (Nat.le_of_ble_eq_true rfl) (Nat.zero_le _) (Nat.zero_le _) dX3_tiredBehind_44 ?_
  refine lv_topi (fun n_14 en_14 => ?_)
  have tn_14 := i_max en_14 (by decide : (0 : Int32).toInt = 0) (rfl : n_13.toInt = n_13.toInt)
  exact hrt n_14 f_4 zrstack_10 (by omega) hP hD hS rfl dX3_tiredBehind_47
set_option maxHeartbeats 16000000 in
set_option maxRecDepth 100000 in
theorem c_X3_tiredRested (l : Launch) (D : va_G) (cy : Nat → ClassId) (hs : Nat → Nat) (hH hT sH sT : Nat) (v_tape_size v_band_walkers v_band_loads v_band_pieces v_rules_clauses v_reader_end v_reader_at v_reader_length v_reader_letter v_reader_fault v_draft_clauses v_paces_version v_packing_quicker v_packing_loads v_packing_looseCount v_marches_told v_marches_changeMinutes v_marches_marching v_marches_gone v_search_known v_search_countHere v_search_countThere v_search_cost v_search_most : Int32) (v_search_found : Int64) (f_bytes f_knee f_weight f_limps f_bheft f_owner f_food f_miles f_slope f_rsteps f_rkind f_ryields f_rholds f_rletters f_rstack f_dsteps f_dkind f_dyields f_dholds f_dletters f_dstack f_caps f_versions f_sharing f_pheft f_prow f_holder f_comes f_pcaps f_room f_loose f_reached f_mrow f_minutesOn f_mtired : Nat → Int32) (f_here f_there : Nat → Int64) (f_statesHere f_statesThere f_listed f_stired f_burdens f_pacesOn f_restedOn f_behindOn f_behindFor f_first f_second : Nat → Int32) (f_plans f_tiredOn : Nat → Nat → Int32) (tS : Nat) (sz : Nat) (w : Int32) (t1 : Int32) (i : Int32) (hb_v_band_walkers : 0 ≤ v_band_walkers.toInt ∧ v_band_walkers.toInt ≤ 6) (hb_v_rules_clauses : 0 ≤ v_rules_clauses.toInt ∧ v_rules_clauses.toInt ≤ 14) (hr_weight : rg (0) 250 f_weight) (hr_miles : rg (0) 20 f_miles) (ha_w : 0 ≤ w.toInt ∧ w.toInt ≤ 5) (ha_t1 : 0 ≤ t1.toInt ∧ t1.toInt ≤ 5) (ha_i : 0 ≤ i.toInt ∧ i.toInt ≤ 9) : gMi l yX3_tiredRested cX3_tiredRested 4 .int 3 [.ref (hs 27), .int w, .int t1, .int i] D cy (wSP cy hs hH hT sH sT v_tape_size v_band_walkers v_band_loads v_band_pieces v_rules_clauses v_reader_end v_reader_at v_reader_length v_reader_letter v_reader_fault v_draft_clauses v_paces_version v_packing_quicker v_packing_loads v_packing_looseCount v_marches_told v_marches_changeMinutes v_marches_marching v_marches_gone v_search_known v_search_countHere v_search_countThere v_search_cost v_search_most v_search_found f_bytes f_knee f_weight f_limps f_bheft f_owner f_food f_miles f_slope f_rsteps f_rkind f_ryields f_rholds f_rletters f_rstack f_dsteps f_dkind f_dyields f_dholds f_dletters f_dstack f_caps f_versions f_sharing f_pheft f_prow f_holder f_comes f_pcaps f_room f_loose f_reached f_mrow f_minutesOn f_mtired f_here f_there f_statesHere f_statesThere f_listed f_stired f_burdens f_pacesOn f_restedOn f_behindOn f_behindFor f_first f_second f_plans f_tiredOn) (NS tS) sz (fun (r : Int32) (u : (Nat → Int32) × (Nat → Int32)) => (0 ≤ r.toInt ∧ r.toInt ≤ 5)) (fun u => wSP cy hs hH hT sH sT v_tape_size v_band_walkers v_band_loads v_band_pieces v_rules_clauses v_reader_end v_reader_at v_reader_length v_reader_letter v_reader_fault v_draft_clauses v_paces_version v_packing_quicker v_packing_loads v_packing_looseCount v_marches_told v_marches_changeMinutes v_marches_marching v_marches_gone v_search_known v_search_countHere v_search_countThere v_search_cost v_search_most v_search_found f_bytes f_knee f_weight f_limps f_bheft f_owner f_food f_miles f_slope f_rsteps f_rkind f_ryields f_rholds (u.1) (u.2) f_dsteps f_dkind f_dyields f_dholds f_dletters f_dstack f_caps f_versions f_sharing f_pheft f_prow f_holder f_comes f_pcaps f_room f_loose f_reached f_mrow f_minutesOn f_mtired f_here f_there f_statesHere f_statesThere f_listed f_stired f_burdens f_pacesOn f_restedOn f_behindOn f_behindFor f_first f_second f_plans f_tiredOn) := by
  refine gMi_in (by decide) (Nat.le_of_ble_eq_true rfl) ?_
  intro p e s m args below meth c A ls Q hx hb hml hts hown hsz hP hK hD hN hAe hA hS hl hret
  subst hsz
  have hl : lv_has ls 4 [(0, .ref (hs 27)), (1, .int w), (2, .int t1), (3, .int i)] := hl
  have hrt := fun (r : Int32) (f_rletters' : Nat → Int32) (f_rstack' : Nat → Int32) (hp : (0 ≤ r.toInt ∧ r.toInt ≤ 5)) {H : Heap} {locs : List Loc} {pc : Nat} {ls : Array Slot} => hret r (f_rletters', f_rstack') (H := H) (locs := locs) (pc := pc) (ls := ls) hp
  clear hret
  refine lv_aload_n hx hb dX3_tiredRested_0 rfl (lv_at hl 0 rfl) ?_
  refine lv_iload_n hx hb dX3_tiredRested_1 rfl (lv_at hl 1 rfl) ?_
  refine lv_iconst (v := 0) hx hb dX3_tiredRested_2 (by decide) ?_
  refine lv_iload_n hx hb dX3_tiredRested_3 rfl (lv_at hl 2 rfl) ?_
  refine lv_iload_n hx hb dX3_tiredRested_4 rfl (lv_at hl 3 rfl) ?_
  have k_1 : (0 : Int32).toInt = 0 := by decide
  refine xv hD hS hA (xV (As := [.int w, .int 0, .int t1, .int i]) (rest := []) hx hb hml hown hts hK hP hD hS hA NS_ok hN hAe hl.1 ⟨Nat.le_refl _, Nat.le_refl _⟩ 27 rfl rfl rfl (c_X3_describe l D cy hs hH hT sH sT v_tape_size v_band_walkers v_band_loads v_band_pieces v_rules_clauses v_reader_end v_reader_at v_reader_length v_reader_letter v_reader_fault v_draft_clauses v_paces_version v_packing_quicker v_packing_loads v_packing_looseCount v_marches_told v_marches_changeMinutes v_marches_marching v_marches_gone v_search_known v_search_countHere v_search_countThere v_search_cost v_search_most v_search_found f_bytes f_knee f_weight f_limps f_bheft f_owner f_food f_miles f_slope f_rsteps f_rkind f_ryields f_rholds f_rletters f_rstack f_dsteps f_dkind f_dyields f_dholds f_dletters f_dstack f_caps f_versions f_sharing f_pheft f_prow f_holder f_comes f_pcaps f_room f_loose f_reached f_mrow f_minutesOn f_mtired f_here f_there f_statesHere f_statesThere f_listed f_stired f_burdens f_pacesOn f_restedOn f_behindOn f_behindFor f_first f_second f_plans f_tiredOn tS s.heap.size w 0 t1 i (by omega) hr_weight hr_miles (by omega) (by omega)) (gi_V lwd_513 lwd_514 lwd_515 lwd_30 lwd_516) ⟨rfl, hd_X3_describe⟩ ⟨Nat.le_of_ble_eq_true rfl, Nat.le_of_ble_eq_true rfl⟩ rfl (Nat.le_of_ble_eq_true rfl) dX3_tiredRested_5) (fun u_2 H locs hw hP hD hS => ?_)
  obtain ⟨zrletters_4, rfl⟩ : ∃ z, z = u_2 := ⟨_, rfl⟩
  try dsimp only at hw hP hD
  clear hw
  refine lv_aload_n hx hb dX3_tiredRested_8 rfl (lv_at hl 0 rfl) ?_
  refine gt_SP_paces_rules hx hb hts hown hK hP lwd_90 dX3_tiredRested_9 ?_
  refine gt_SP_rules_letters hx hb hts hown hK hP lwd_517 dX3_tiredRested_12 ?_
  refine lv_iconst (v := 5) hx hb dX3_tiredRested_15 (by decide) ?_
  refine lv_iconst (v := 0) hx hb dX3_tiredRested_16 (by decide) ?_
  refine as_rletters (x := 0) hx hb hK hP hD hS (i_in (by decide : (5 : Int32).toInt = 5) (by decide) (by decide)) dX3_tiredRested_17 (fun f_5 ef_5 H locs hP hD hS => ?_)
  refine lv_aload_n hx hb dX3_tiredRested_18 rfl (lv_at hl 0 rfl) ?_
  refine gt_SP_paces_rules hx hb hts hown hK hP lwd_90 dX3_tiredRested_19 ?_
  refine gt_SP_rules_letters hx hb hts hown hK hP lwd_517 dX3_tiredRested_22 ?_
  refine lv_bipush (v := 6) hx hb dX3_tiredRested_25 (by decide) ?_
  refine lv_iconst (v := 0) hx hb dX3_tiredRested_27 (by decide) ?_
  refine as_rletters (x := 0) hx hb hK hP hD hS (i_in (by decide : (6 : Int32).toInt = 6) (by decide) (by decide)) dX3_tiredRested_28 (fun f_6 ef_6 H locs hP hD hS => ?_)
  refine lv_iconst (v := 0) hx hb dX3_tiredRested_29 (by decide) ?_
  refine lv_iload_n hx hb dX3_tiredRested_30 rfl (lv_at hl 2 rfl) ?_
  refine lv_aload_n hx hb dX3_tiredRested_31 rfl (lv_at hl 0 rfl) ?_
  refine gt_SP_paces_rules hx hb hts hown hK hP lwd_90 dX3_tiredRested_32 ?_
  refine lv_bipush (v := 114) hx hb dX3_tiredRested_35 (by decide) ?_
  refine lv_iconst (v := 0) hx hb dX3_tiredRested_37 (by decide) ?_
  refine lv_iconst (v := 5) hx hb dX3_tiredRested_38 (by decide) ?_
  have k_7 : (114 : Int32).toInt = 114 := by decide
  have k_8 : (5 : Int32).toInt = 5 := by decide
  refine xi hD hS hA (xV (As := [.int 114, .int 0, .int 5]) (rest := [.int t1, .int 0]) hx hb hml hown hts hK hP hD hS hA NS_ok hN hAe hl.1 ⟨Nat.le_refl _, Nat.le_refl _⟩ 12 rfl rfl rfl (c_X6_value l D cy hs hH hT sH sT v_tape_size v_band_walkers v_band_loads v_band_pieces v_rules_clauses v_reader_end v_reader_at v_reader_length v_reader_letter v_reader_fault v_draft_clauses v_paces_version v_packing_quicker v_packing_loads v_packing_looseCount v_marches_told v_marches_changeMinutes v_marches_marching v_marches_gone v_search_known v_search_countHere v_search_countThere v_search_cost v_search_most v_search_found f_bytes f_knee f_weight f_limps f_bheft f_owner f_food f_miles f_slope f_rsteps f_rkind f_ryields f_rholds f_6 f_rstack f_dsteps f_dkind f_dyields f_dholds f_dletters f_dstack f_caps f_versions f_sharing f_pheft f_prow f_holder f_comes f_pcaps f_room f_loose f_reached f_mrow f_minutesOn f_mtired f_here f_there f_statesHere f_statesThere f_listed f_stired f_burdens f_pacesOn f_restedOn f_behindOn f_behindFor f_first f_second f_plans f_tiredOn tS H.size 114 0 5 (by omega) (by omega)) (gi_V lwd_523 lwd_524 lwd_525 lwd_22 lwd_526) ⟨rfl, hd_X6_value⟩ ⟨Nat.le_of_ble_eq_true rfl, Nat.le_of_ble_eq_true rfl⟩ rfl (Nat.le_of_ble_eq_true rfl) dX3_tiredRested_39) (fun r_10 u_9 H locs hw hP hD hS => ?_)
  obtain ⟨zrstack_11, rfl⟩ : ∃ z, z = u_9 := ⟨_, rfl⟩
  try dsimp only at hw hP hD
  have p_12 := hw
  clear hw
  refine lv_isub hx hb dX3_tiredRested_42 ?_
  refine lv_topi (fun n_13 en_13 => ?_)
  have tn_13 : n_13.toInt = t1.toInt - r_10.toInt := i_sub en_13 (rfl : t1.toInt = t1.toInt) (rfl : r_10.toInt = r_10.toInt) (by omega) (by omega)
  refine va_mmax hx hb (by rw [hml]; exact hl.1.symm) hown (hts _ lwd_945) (hts _ lwd_532) (hts _ lwd_529) (hts _ lwd_533) (Nat.le_of_ble_eq_true rfl) (Nat.le_of_ble_eq_true rfl) (Nat.zero_le _) (Nat.zero_le _) dX3_tiredRested_43 ?_
  refine lv_topi (fun n_14 en_14 => ?_)
  have tn_14 := i_max en_14 (by decide : (0 : Int32).toInt = 0) tn_13
  exact hrt n_14 f_6 zrstack_11 (by omega) hP hD hS rfl dX3_tiredRested_46
set_option maxHeartbeats 16000000 in
set_option maxRecDepth 100000 in
theorem c_X3_reckonCaps (l : Launch) (D : va_G) (cy : Nat → ClassId) (hs : Nat → Nat) (hH hT sH sT : Nat) (v_tape_size v_band_walkers v_band_loads v_band_pieces v_rules_clauses v_reader_end v_reader_at v_reader_length v_reader_letter v_reader_fault v_draft_clauses v_paces_version v_packing_quicker v_packing_loads v_packing_looseCount v_marches_told v_marches_changeMinutes v_marches_marching v_marches_gone v_search_known v_search_countHere v_search_countThere v_search_cost v_search_most : Int32) (v_search_found : Int64) (f_bytes f_knee f_weight f_limps f_bheft f_owner f_food f_miles f_slope f_rsteps f_rkind f_ryields f_rholds f_rletters f_rstack f_dsteps f_dkind f_dyields f_dholds f_dletters f_dstack f_caps f_versions f_sharing f_pheft f_prow f_holder f_comes f_pcaps f_room f_loose f_reached f_mrow f_minutesOn f_mtired : Nat → Int32) (f_here f_there : Nat → Int64) (f_statesHere f_statesThere f_listed f_stired f_burdens f_pacesOn f_restedOn f_behindOn f_behindFor f_first f_second : Nat → Int32) (f_plans f_tiredOn : Nat → Nat → Int32) (tS : Nat) (sz : Nat) (fr0 : Int32) (w : Int32) (t1 : Int32) (i : Int32) (hb_v_band_walkers : 0 ≤ v_band_walkers.toInt ∧ v_band_walkers.toInt ≤ 6) (hb_v_rules_clauses : 0 ≤ v_rules_clauses.toInt ∧ v_rules_clauses.toInt ≤ 14) (hr_weight : rg (0) 250 f_weight) (hr_limps : rg (0) 1 f_limps) (hr_miles : rg (0) 20 f_miles) (hr_caps : rg (-1) 400 f_caps) (ha_fr0 : 0 ≤ fr0.toInt ∧ fr0.toInt ≤ 21899) (ha_w : 0 ≤ w.toInt ∧ w.toInt ≤ 5) (ha_i : 0 ≤ i.toInt ∧ i.toInt ≤ 9) : gMv l yX3_reckonCaps cX3_reckonCaps 8 3 [.ref (hs 27), .int fr0, .int w, .int t1, .int i] D cy (wSP cy hs hH hT sH sT v_tape_size v_band_walkers v_band_loads v_band_pieces v_rules_clauses v_reader_end v_reader_at v_reader_length v_reader_letter v_reader_fault v_draft_clauses v_paces_version v_packing_quicker v_packing_loads v_packing_looseCount v_marches_told v_marches_changeMinutes v_marches_marching v_marches_gone v_search_known v_search_countHere v_search_countThere v_search_cost v_search_most v_search_found f_bytes f_knee f_weight f_limps f_bheft f_owner f_food f_miles f_slope f_rsteps f_rkind f_ryields f_rholds f_rletters f_rstack f_dsteps f_dkind f_dyields f_dholds f_dletters f_dstack f_caps f_versions f_sharing f_pheft f_prow f_holder f_comes f_pcaps f_room f_loose f_reached f_mrow f_minutesOn f_mtired f_here f_there f_statesHere f_statesThere f_listed f_stired f_burdens f_pacesOn f_restedOn f_behindOn f_behindFor f_first f_second f_plans f_tiredOn) (NS tS) sz (fun (u : (Nat → Int32) × (Nat → Int32) × (Nat → Int32)) => (rg (-1) 400 (u.2.2))) (fun u => wSP cy hs hH hT sH sT v_tape_size v_band_walkers v_band_loads v_band_pieces v_rules_clauses v_reader_end v_reader_at v_reader_length v_reader_letter v_reader_fault v_draft_clauses v_paces_version v_packing_quicker v_packing_loads v_packing_looseCount v_marches_told v_marches_changeMinutes v_marches_marching v_marches_gone v_search_known v_search_countHere v_search_countThere v_search_cost v_search_most v_search_found f_bytes f_knee f_weight f_limps f_bheft f_owner f_food f_miles f_slope f_rsteps f_rkind f_ryields f_rholds (u.1) (u.2.1) f_dsteps f_dkind f_dyields f_dholds f_dletters f_dstack (u.2.2) f_versions f_sharing f_pheft f_prow f_holder f_comes f_pcaps f_room f_loose f_reached f_mrow f_minutesOn f_mtired f_here f_there f_statesHere f_statesThere f_listed f_stired f_burdens f_pacesOn f_restedOn f_behindOn f_behindFor f_first f_second f_plans f_tiredOn) := by
  refine gMv_in (by decide) (Nat.le_of_ble_eq_true rfl) ?_
  intro p e s m args below meth c A ls Q hx hb hml hts hown hsz hP hK hD hN hAe hA hS hl hret
  subst hsz
  have hl : lv_has ls 8 [(0, .ref (hs 27)), (1, .int fr0), (2, .int w), (3, .int t1), (4, .int i)] := hl
  have hrt := fun (f_rletters' : Nat → Int32) (f_rstack' : Nat → Int32) (f_caps' : Nat → Int32) (hp : (rg (-1) 400 f_caps')) {H : Heap} {locs : List Loc} {pc : Nat} {ls : Array Slot} => hret (f_rletters', f_rstack', f_caps') (H := H) (locs := locs) (pc := pc) (ls := ls) hp
  clear hret
  refine lv_aload_n hx hb dX3_reckonCaps_0 rfl (lv_at hl 0 rfl) ?_
  refine lv_iload_n hx hb dX3_reckonCaps_1 rfl (lv_at hl 2 rfl) ?_
  refine lv_iconst (v := 0) hx hb dX3_reckonCaps_2 (by decide) ?_
  refine lv_iload_n hx hb dX3_reckonCaps_3 rfl (lv_at hl 3 rfl) ?_
  refine lv_iload hx hb dX3_reckonCaps_4 (lv_at hl 4 rfl) ?_
  have k_1 : (0 : Int32).toInt = 0 := by decide
  refine xv hD hS hA (xV (As := [.int w, .int 0, .int t1, .int i]) (rest := []) hx hb hml hown hts hK hP hD hS hA NS_ok hN hAe hl.1 ⟨Nat.le_refl _, Nat.le_refl _⟩ 27 rfl rfl rfl (c_X3_describe l D cy hs hH hT sH sT v_tape_size v_band_walkers v_band_loads v_band_pieces v_rules_clauses v_reader_end v_reader_at v_reader_length v_reader_letter v_reader_fault v_draft_clauses v_paces_version v_packing_quicker v_packing_loads v_packing_looseCount v_marches_told v_marches_changeMinutes v_marches_marching v_marches_gone v_search_known v_search_countHere v_search_countThere v_search_cost v_search_most v_search_found f_bytes f_knee f_weight f_limps f_bheft f_owner f_food f_miles f_slope f_rsteps f_rkind f_ryields f_rholds f_rletters f_rstack f_dsteps f_dkind f_dyields f_dholds f_dletters f_dstack f_caps f_versions f_sharing f_pheft f_prow f_holder f_comes f_pcaps f_room f_loose f_reached f_mrow f_minutesOn f_mtired f_here f_there f_statesHere f_statesThere f_listed f_stired f_burdens f_pacesOn f_restedOn f_behindOn f_behindFor f_first f_second f_plans f_tiredOn tS s.heap.size w 0 t1 i (by omega) hr_weight hr_miles (by omega) (by omega)) (gi_V lwd_513 lwd_514 lwd_515 lwd_30 lwd_516) ⟨rfl, hd_X3_describe⟩ ⟨Nat.le_of_ble_eq_true rfl, Nat.le_of_ble_eq_true rfl⟩ rfl (Nat.le_of_ble_eq_true rfl) dX3_reckonCaps_6) (fun u_2 H locs hw hP hD hS => ?_)
  obtain ⟨zrletters_4, rfl⟩ : ∃ z, z = u_2 := ⟨_, rfl⟩
  try dsimp only at hw hP hD
  clear hw
  refine lv_bipush (v := 60) hx hb dX3_reckonCaps_9 (by decide) ?_
  refine lv_istore (lv' := [(5, .int 60), (0, .ref (hs 27)), (1, .int fr0), (2, .int w), (3, .int t1), (4, .int i)]) hx hb dX3_reckonCaps_11 hl (by decide) rfl (fun ls hl => ?_)
  refine lv_iconst (v := 0) hx hb dX3_reckonCaps_13 (by decide) ?_
  refine lv_istore (lv' := [(6, .int 0), (5, .int 60), (0, .ref (hs 27)), (1, .int fr0), (2, .int w), (3, .int t1), (4, .int i)]) hx hb dX3_reckonCaps_14 hl (by decide) rfl (fun ls hl => ?_)
  have L16_15 : ∀ (n : Nat) (f_10 : Nat → Int32) (f_11 : Nat → Int32) (f_12 : Nat → Int32) (l_13 : Int32) (l_14 : Int32), (rg (-1) 400 f_10) → (0 ≤ l_13.toInt ∧ l_13.toInt ≤ 60) → (0 ≤ l_14.toInt ∧ l_14.toInt ≤ 401) → 402 - l_14.toInt < n → ∀ (H : Heap) (locs : List Loc) (ls : Array Slot), va_P D vwCl (wSP cy hs hH hT sH sT v_tape_size v_band_walkers v_band_loads v_band_pieces v_rules_clauses v_reader_end v_reader_at v_reader_length v_reader_letter v_reader_fault v_draft_clauses v_paces_version v_packing_quicker v_packing_loads v_packing_looseCount v_marches_told v_marches_changeMinutes v_marches_marching v_marches_gone v_search_known v_search_countHere v_search_countThere v_search_cost v_search_most v_search_found f_bytes f_knee f_weight f_limps f_bheft f_owner f_food f_miles f_slope f_rsteps f_rkind f_ryields f_rholds f_11 f_12 f_dsteps f_dkind f_dyields f_dholds f_dletters f_dstack f_10 f_versions f_sharing f_pheft f_prow f_holder f_comes f_pcaps f_room f_loose f_reached f_mrow f_minutesOn f_mtired f_here f_there f_statesHere f_statesThere f_listed f_stired f_burdens f_pacesOn f_restedOn f_behindOn f_behindFor f_first f_second f_plans f_tiredOn) H → va_D A (wSP cy hs hH hT sH sT v_tape_size v_band_walkers v_band_loads v_band_pieces v_rules_clauses v_reader_end v_reader_at v_reader_length v_reader_letter v_reader_fault v_draft_clauses v_paces_version v_packing_quicker v_packing_loads v_packing_looseCount v_marches_told v_marches_changeMinutes v_marches_marching v_marches_gone v_search_known v_search_countHere v_search_countThere v_search_cost v_search_most v_search_found f_bytes f_knee f_weight f_limps f_bheft f_owner f_food f_miles f_slope f_rsteps f_rkind f_ryields f_rholds f_11 f_12 f_dsteps f_dkind f_dyields f_dholds f_dletters f_dstack f_10 f_versions f_sharing f_pheft f_prow f_holder f_comes f_pcaps f_room f_loose f_reached f_mrow f_minutesOn f_mtired f_here f_there f_statesHere f_statesThere f_listed f_stired f_burdens f_pacesOn f_restedOn f_behindOn f_behindFor f_first f_second f_plans f_tiredOn) → va_S A s.heap H locs → lv_has ls 8 [(6, .int l_14), (5, .int l_13), (0, .ref (hs 27)), (1, .int fr0), (2, .int w), (3, .int t1), (4, .int i)] → W p l e (gRm 3) s m args below meth c H locs 0 0 Q (F0 m 16 ls []) := by
    intro n
    induction n with
    | zero => intro f_10 f_11 f_12 l_13 l_14 hL16_15_0 hL16_15_1 hL16_15_2 hm; exact absurd hm (by omega)
    | succ n ih16_15 =>
      intro f_10 f_11 f_12 l_13 l_14 hL16_15_0 hL16_15_1 hL16_15_2 hmL16_15 H locs ls hP hD hS hl
      refine lv_iload hx hb dX3_reckonCaps_16 (lv_at hl 0 rfl) ?_
      refine lv_sipush (v := 400) hx hb dX3_reckonCaps_18 (by decide) ?_
      refine lv_icmp_gt (tgt := 91) hx hb dX3_reckonCaps_21 (by decide) (fun c_16 => ?_) (fun c_16 => ?_)
      · have gc_16 : 400 < l_14.toInt := i_lt (by decide : (400 : Int32).toInt = 400) (rfl : l_14.toInt = l_14.toInt) c_16
        have L91_21 : ∀ (n : Nat) (f_19 : Nat → Int32) (l_20 : Int32), (rg (-1) 400 f_19) → (0 ≤ l_20.toInt ∧ l_20.toInt ≤ 60) → l_20.toInt + 1001 < n → ∀ (H : Heap) (locs : List Loc) (ls : Array Slot), va_P D vwCl (wSP cy hs hH hT sH sT v_tape_size v_band_walkers v_band_loads v_band_pieces v_rules_clauses v_reader_end v_reader_at v_reader_length v_reader_letter v_reader_fault v_draft_clauses v_paces_version v_packing_quicker v_packing_loads v_packing_looseCount v_marches_told v_marches_changeMinutes v_marches_marching v_marches_gone v_search_known v_search_countHere v_search_countThere v_search_cost v_search_most v_search_found f_bytes f_knee f_weight f_limps f_bheft f_owner f_food f_miles f_slope f_rsteps f_rkind f_ryields f_rholds f_11 f_12 f_dsteps f_dkind f_dyields f_dholds f_dletters f_dstack f_19 f_versions f_sharing f_pheft f_prow f_holder f_comes f_pcaps f_room f_loose f_reached f_mrow f_minutesOn f_mtired f_here f_there f_statesHere f_statesThere f_listed f_stired f_burdens f_pacesOn f_restedOn f_behindOn f_behindFor f_first f_second f_plans f_tiredOn) H → va_D A (wSP cy hs hH hT sH sT v_tape_size v_band_walkers v_band_loads v_band_pieces v_rules_clauses v_reader_end v_reader_at v_reader_length v_reader_letter v_reader_fault v_draft_clauses v_paces_version v_packing_quicker v_packing_loads v_packing_looseCount v_marches_told v_marches_changeMinutes v_marches_marching v_marches_gone v_search_known v_search_countHere v_search_countThere v_search_cost v_search_most v_search_found f_bytes f_knee f_weight f_limps f_bheft f_owner f_food f_miles f_slope f_rsteps f_rkind f_ryields f_rholds f_11 f_12 f_dsteps f_dkind f_dyields f_dholds f_dletters f_dstack f_19 f_versions f_sharing f_pheft f_prow f_holder f_comes f_pcaps f_room f_loose f_reached f_mrow f_minutesOn f_mtired f_here f_there f_statesHere f_statesThere f_listed f_stired f_burdens f_pacesOn f_restedOn f_behindOn f_behindFor f_first f_second f_plans f_tiredOn) → va_S A s.heap H locs → lv_has ls 8 [(6, .int l_14), (5, .int l_20), (0, .ref (hs 27)), (1, .int fr0), (2, .int w), (3, .int t1), (4, .int i)] → W p l e (gRm 3) s m args below meth c H locs 0 0 Q (F0 m 91 ls []) := by
          intro n
          induction n with
          | zero => intro f_19 l_20 hL91_21_0 hL91_21_1 hm; exact absurd hm (by omega)
          | succ n ih91_21 =>
            intro f_19 l_20 hL91_21_0 hL91_21_1 hmL91_21 H locs ls hP hD hS hl
            refine lv_iload hx hb dX3_reckonCaps_91 (lv_at hl 1 rfl) ?_
            refine lv_if_le (tgt := 114) hx hb dX3_reckonCaps_93 (by decide) (fun c_22 => ?_) (fun c_22 => ?_)
            · have gc_22 : l_20.toInt ≤ 0 := i_le (rfl : l_20.toInt = l_20.toInt) (by decide : (0 : Int32).toInt = 0) c_22
              exact hrt f_11 f_12 f_19 hL91_21_0 hP hD hS dX3_reckonCaps_114
            · have gc_22 : 0 < l_20.toInt := i_nle (rfl : l_20.toInt = l_20.toInt) (by decide : (0 : Int32).toInt = 0) c_22
              refine lv_aload_n hx hb dX3_reckonCaps_96 rfl (lv_at hl 2 rfl) ?_
              refine gt_SP_paces_caps hx hb hts hown hK hP lwd_86 dX3_reckonCaps_97 ?_
              refine lv_iload_n hx hb dX3_reckonCaps_100 rfl (lv_at hl 3 rfl) ?_
              refine lv_iload hx hb dX3_reckonCaps_101 (lv_at hl 1 rfl) ?_
              refine lv_iadd hx hb dX3_reckonCaps_103 ?_
              refine lv_topi (fun n_23 en_23 => ?_)
              have tn_23 : n_23.toInt = fr0.toInt + l_20.toInt := i_add en_23 (rfl : fr0.toInt = fr0.toInt) (rfl : l_20.toInt = l_20.toInt) (by omega) (by omega)
              refine lv_sipush (v := 400) hx hb dX3_reckonCaps_104 (by decide) ?_
              refine as_caps (x := 400) hx hb hK hP hD hS hL91_21_0 (i_in tn_23 (by omega) (by omega)) (by decide) dX3_reckonCaps_107 (fun f_24 ef_24 rf_24 H locs hP hD hS => ?_)
              obtain ⟨n_25, en_25⟩ : ∃ y : Int32, y = l_20 + (-1) := ⟨_, rfl⟩
              have tn_25 : n_25.toInt = l_20.toInt + (-1) := i_add en_25 (rfl : l_20.toInt = l_20.toInt) (by decide : ((-1) : Int32).toInt = (-1)) (by omega) (by omega)
              refine lv_iinc (v := n_25) (lv' := [(5, .int n_25), (6, .int l_14), (0, .ref (hs 27)), (1, .int fr0), (2, .int w), (3, .int t1), (4, .int i)]) hx hb dX3_reckonCaps_108 hl (k := 1) rfl (by rw [en_25]; rfl) (by decide) rfl (fun ls hl => ?_)
              refine lv_goto (tgt := 91) hx hb dX3_reckonCaps_111 (by decide) ?_
              exact ih91_21 f_24 n_25 rf_24 (by omega) (by omega) _ _ _ hP hD hS (lv_sub hl [1, 0, 2, 3, 4, 5, 6] rfl)
        exact L91_21 8589934592 f_10 l_13 hL16_15_0 (by omega) (by omega) _ _ _ hP hD hS (lv_sub hl [0, 1, 2, 3, 4, 5, 6] rfl)
      · have gc_16 : l_14.toInt ≤ 400 := i_nlt (by decide : (400 : Int32).toInt = 400) (rfl : l_14.toInt = l_14.toInt) c_16
        refine lv_iload hx hb dX3_reckonCaps_24 (lv_at hl 1 rfl) ?_
        refine lv_if_le (tgt := 91) hx hb dX3_reckonCaps_26 (by decide) (fun c_26 => ?_) (fun c_26 => ?_)
        · have gc_26 : l_13.toInt ≤ 0 := i_le (rfl : l_13.toInt = l_13.toInt) (by decide : (0 : Int32).toInt = 0) c_26
          have L91_27 : ∀ (n : Nat) , l_13.toInt + 1001 < n → ∀ (H : Heap) (locs : List Loc) (ls : Array Slot), va_P D vwCl (wSP cy hs hH hT sH sT v_tape_size v_band_walkers v_band_loads v_band_pieces v_rules_clauses v_reader_end v_reader_at v_reader_length v_reader_letter v_reader_fault v_draft_clauses v_paces_version v_packing_quicker v_packing_loads v_packing_looseCount v_marches_told v_marches_changeMinutes v_marches_marching v_marches_gone v_search_known v_search_countHere v_search_countThere v_search_cost v_search_most v_search_found f_bytes f_knee f_weight f_limps f_bheft f_owner f_food f_miles f_slope f_rsteps f_rkind f_ryields f_rholds f_11 f_12 f_dsteps f_dkind f_dyields f_dholds f_dletters f_dstack f_10 f_versions f_sharing f_pheft f_prow f_holder f_comes f_pcaps f_room f_loose f_reached f_mrow f_minutesOn f_mtired f_here f_there f_statesHere f_statesThere f_listed f_stired f_burdens f_pacesOn f_restedOn f_behindOn f_behindFor f_first f_second f_plans f_tiredOn) H → va_D A (wSP cy hs hH hT sH sT v_tape_size v_band_walkers v_band_loads v_band_pieces v_rules_clauses v_reader_end v_reader_at v_reader_length v_reader_letter v_reader_fault v_draft_clauses v_paces_version v_packing_quicker v_packing_loads v_packing_looseCount v_marches_told v_marches_changeMinutes v_marches_marching v_marches_gone v_search_known v_search_countHere v_search_countThere v_search_cost v_search_most v_search_found f_bytes f_knee f_weight f_limps f_bheft f_owner f_food f_miles f_slope f_rsteps f_rkind f_ryields f_rholds f_11 f_12 f_dsteps f_dkind f_dyields f_dholds f_dletters f_dstack f_10 f_versions f_sharing f_pheft f_prow f_holder f_comes f_pcaps f_room f_loose f_reached f_mrow f_minutesOn f_mtired f_here f_there f_statesHere f_statesThere f_listed f_stired f_burdens f_pacesOn f_restedOn f_behindOn f_behindFor f_first f_second f_plans f_tiredOn) → va_S A s.heap H locs → lv_has ls 8 [(6, .int l_14), (5, .int l_13), (0, .ref (hs 27)), (1, .int fr0), (2, .int w), (3, .int t1), (4, .int i)] → W p l e (gRm 3) s m args below meth c H locs 0 0 Q (F0 m 91 ls []) := by
            intro n
            induction n with
            | zero => intro   hm; exact absurd hm (by omega)
            | succ n ih91_27 =>
              intro   hmL91_27 H locs ls hP hD hS hl
              refine lv_iload hx hb dX3_reckonCaps_91 (lv_at hl 1 rfl) ?_
              refine lv_if_le (tgt := 114) hx hb dX3_reckonCaps_93 (by decide) (fun c_28 => ?_) (fun c_28 => ?_)
              · have gc_28 : l_13.toInt ≤ 0 := i_le (rfl : l_13.toInt = l_13.toInt) (by decide : (0 : Int32).toInt = 0) c_28
                exact hrt f_11 f_12 f_10 hL16_15_0 hP hD hS dX3_reckonCaps_114
              · have gc_28 : 0 < l_13.toInt := i_nle (rfl : l_13.toInt = l_13.toInt) (by decide : (0 : Int32).toInt = 0) c_28
                exact absurd gc_28 (by omega)
          exact L91_27 8589934592 (by omega) _ _ _ hP hD hS (lv_sub hl [0, 1, 2, 3, 4, 5, 6] rfl)
        · have gc_26 : 0 < l_13.toInt := i_nle (rfl : l_13.toInt = l_13.toInt) (by decide : (0 : Int32).toInt = 0) c_26
          refine lv_aload_n hx hb dX3_reckonCaps_29 rfl (lv_at hl 2 rfl) ?_
          refine gt_SP_paces_rules hx hb hts hown hK hP lwd_90 dX3_reckonCaps_30 ?_
          refine gt_SP_rules_letters hx hb hts hown hK hP lwd_517 dX3_reckonCaps_33 ?_
          refine lv_iconst (v := 3) hx hb dX3_reckonCaps_36 (by decide) ?_
          refine lv_iload hx hb dX3_reckonCaps_37 (lv_at hl 0 rfl) ?_
          refine as_rletters (x := l_14) hx hb hK hP hD hS (i_in (by decide : (3 : Int32).toInt = 3) (by decide) (by decide)) dX3_reckonCaps_39 (fun f_29 ef_29 H locs hP hD hS => ?_)
          refine lv_aload_n hx hb dX3_reckonCaps_40 rfl (lv_at hl 2 rfl) ?_
          refine lv_iload_n hx hb dX3_reckonCaps_41 rfl (lv_at hl 4 rfl) ?_
          refine lv_aload_n hx hb dX3_reckonCaps_42 rfl (lv_at hl 2 rfl) ?_
          refine gt_SP_paces_rules hx hb hts hown hK hP lwd_90 dX3_reckonCaps_43 ?_
          refine lv_bipush (v := 118) hx hb dX3_reckonCaps_46 (by decide) ?_
          refine lv_iconst (v := 0) hx hb dX3_reckonCaps_48 (by decide) ?_
          refine lv_bipush (v := 60) hx hb dX3_reckonCaps_49 (by decide) ?_
          have k_30 : (118 : Int32).toInt = 118 := by decide
          have k_31 : (60 : Int32).toInt = 60 := by decide
          refine xi hD hS hA (xV (As := [.int 118, .int 0, .int 60]) (rest := [.int w, .ref (hs 27)]) hx hb hml hown hts hK hP hD hS hA NS_ok hN hAe hl.1 ⟨Nat.le_refl _, Nat.le_refl _⟩ 12 rfl rfl rfl (c_X6_value l D cy hs hH hT sH sT v_tape_size v_band_walkers v_band_loads v_band_pieces v_rules_clauses v_reader_end v_reader_at v_reader_length v_reader_letter v_reader_fault v_draft_clauses v_paces_version v_packing_quicker v_packing_loads v_packing_looseCount v_marches_told v_marches_changeMinutes v_marches_marching v_marches_gone v_search_known v_search_countHere v_search_countThere v_search_cost v_search_most v_search_found f_bytes f_knee f_weight f_limps f_bheft f_owner f_food f_miles f_slope f_rsteps f_rkind f_ryields f_rholds f_29 f_12 f_dsteps f_dkind f_dyields f_dholds f_dletters f_dstack f_10 f_versions f_sharing f_pheft f_prow f_holder f_comes f_pcaps f_room f_loose f_reached f_mrow f_minutesOn f_mtired f_here f_there f_statesHere f_statesThere f_listed f_stired f_burdens f_pacesOn f_restedOn f_behindOn f_behindFor f_first f_second f_plans f_tiredOn tS H.size 118 0 60 (by omega) (by omega)) (gi_V lwd_523 lwd_524 lwd_525 lwd_22 lwd_526) ⟨rfl, hd_X6_value⟩ ⟨Nat.le_of_ble_eq_true rfl, Nat.le_of_ble_eq_true rfl⟩ rfl (Nat.le_of_ble_eq_true rfl) dX3_reckonCaps_51) (fun r_33 u_32 H locs hw hP hD hS => ?_)
          obtain ⟨zrstack_34, rfl⟩ : ∃ z, z = u_32 := ⟨_, rfl⟩
          try dsimp only at hw hP hD
          have p_35 := hw
          clear hw
          refine xi hD hS hA (xV (As := [.int w, .int r_33]) (rest := []) hx hb hml hown hts hK hP hD hS hA NS_ok hN hAe hl.1 ⟨Nat.le_refl _, Nat.le_refl _⟩ 27 rfl rfl rfl (c_X3_limped l D cy hs hH hT sH sT v_tape_size v_band_walkers v_band_loads v_band_pieces v_rules_clauses v_reader_end v_reader_at v_reader_length v_reader_letter v_reader_fault v_draft_clauses v_paces_version v_packing_quicker v_packing_loads v_packing_looseCount v_marches_told v_marches_changeMinutes v_marches_marching v_marches_gone v_search_known v_search_countHere v_search_countThere v_search_cost v_search_most v_search_found f_bytes f_knee f_weight f_limps f_bheft f_owner f_food f_miles f_slope f_rsteps f_rkind f_ryields f_rholds f_29 zrstack_34 f_dsteps f_dkind f_dyields f_dholds f_dletters f_dstack f_10 f_versions f_sharing f_pheft f_prow f_holder f_comes f_pcaps f_room f_loose f_reached f_mrow f_minutesOn f_mtired f_here f_there f_statesHere f_statesThere f_listed f_stired f_burdens f_pacesOn f_restedOn f_behindOn f_behindFor f_first f_second f_plans f_tiredOn tS H.size w r_33 hr_limps (by omega) (by omega)) (gi_V lwd_538 lwd_539 lwd_540 lwd_30 lwd_541) ⟨rfl, hd_X3_limped⟩ ⟨Nat.le_of_ble_eq_true rfl, Nat.le_of_ble_eq_true rfl⟩ rfl (Nat.le_of_ble_eq_true rfl) dX3_reckonCaps_54) (fun r_37 u_36 H locs hw hP hD hS => ?_)
          try dsimp only at hw hP hD
          have p_38 := hw
          clear hw
          refine lv_istore (lv' := [(7, .int r_37), (6, .int l_14), (5, .int l_13), (0, .ref (hs 27)), (1, .int fr0), (2, .int w), (3, .int t1), (4, .int i)]) hx hb dX3_reckonCaps_57 hl (by decide) rfl (fun ls hl => ?_)
          have L59_43 : ∀ (n : Nat) (f_41 : Nat → Int32) (l_42 : Int32), (rg (-1) 400 f_41) → (0 ≤ l_42.toInt ∧ l_42.toInt ≤ 60) → l_42.toInt + 1 < n → ∀ (H : Heap) (locs : List Loc) (ls : Array Slot), va_P D vwCl (wSP cy hs hH hT sH sT v_tape_size v_band_walkers v_band_loads v_band_pieces v_rules_clauses v_reader_end v_reader_at v_reader_length v_reader_letter v_reader_fault v_draft_clauses v_paces_version v_packing_quicker v_packing_loads v_packing_looseCount v_marches_told v_marches_changeMinutes v_marches_marching v_marches_gone v_search_known v_search_countHere v_search_countThere v_search_cost v_search_most v_search_found f_bytes f_knee f_weight f_limps f_bheft f_owner f_food f_miles f_slope f_rsteps f_rkind f_ryields f_rholds f_29 zrstack_34 f_dsteps f_dkind f_dyields f_dholds f_dletters f_dstack f_41 f_versions f_sharing f_pheft f_prow f_holder f_comes f_pcaps f_room f_loose f_reached f_mrow f_minutesOn f_mtired f_here f_there f_statesHere f_statesThere f_listed f_stired f_burdens f_pacesOn f_restedOn f_behindOn f_behindFor f_first f_second f_plans f_tiredOn) H → va_D A (wSP cy hs hH hT sH sT v_tape_size v_band_walkers v_band_loads v_band_pieces v_rules_clauses v_reader_end v_reader_at v_reader_length v_reader_letter v_reader_fault v_draft_clauses v_paces_version v_packing_quicker v_packing_loads v_packing_looseCount v_marches_told v_marches_changeMinutes v_marches_marching v_marches_gone v_search_known v_search_countHere v_search_countThere v_search_cost v_search_most v_search_found f_bytes f_knee f_weight f_limps f_bheft f_owner f_food f_miles f_slope f_rsteps f_rkind f_ryields f_rholds f_29 zrstack_34 f_dsteps f_dkind f_dyields f_dholds f_dletters f_dstack f_41 f_versions f_sharing f_pheft f_prow f_holder f_comes f_pcaps f_room f_loose f_reached f_mrow f_minutesOn f_mtired f_here f_there f_statesHere f_statesThere f_listed f_stired f_burdens f_pacesOn f_restedOn f_behindOn f_behindFor f_first f_second f_plans f_tiredOn) → va_S A s.heap H locs → lv_has ls 8 [(7, .int r_37), (6, .int l_14), (5, .int l_42), (0, .ref (hs 27)), (1, .int fr0), (2, .int w), (3, .int t1), (4, .int i)] → W p l e (gRm 3) s m args below meth c H locs 0 0 Q (F0 m 59 ls []) := by
            intro n
            induction n with
            | zero => intro f_41 l_42 hL59_43_0 hL59_43_1 hm; exact absurd hm (by omega)
            | succ n ih59_43 =>
              intro f_41 l_42 hL59_43_0 hL59_43_1 hmL59_43 H locs ls hP hD hS hl
              refine lv_iload hx hb dX3_reckonCaps_59 (lv_at hl 2 rfl) ?_
              refine lv_iload hx hb dX3_reckonCaps_61 (lv_at hl 0 rfl) ?_
              refine lv_icmp_le (tgt := 85) hx hb dX3_reckonCaps_63 (by decide) (fun c_44 => ?_) (fun c_44 => ?_)
              · have gc_44 : l_42.toInt ≤ r_37.toInt := i_le (rfl : l_42.toInt = l_42.toInt) (rfl : r_37.toInt = r_37.toInt) c_44
                obtain ⟨n_45, en_45⟩ : ∃ y : Int32, y = l_14 + 1 := ⟨_, rfl⟩
                have tn_45 : n_45.toInt = l_14.toInt + 1 := i_add en_45 (rfl : l_14.toInt = l_14.toInt) (by decide : (1 : Int32).toInt = 1) (by omega) (by omega)
                refine lv_iinc (v := n_45) (lv' := [(6, .int n_45), (7, .int r_37), (5, .int l_42), (0, .ref (hs 27)), (1, .int fr0), (2, .int w), (3, .int t1), (4, .int i)]) hx hb dX3_reckonCaps_85 hl (k := 1) rfl (by rw [en_45]; rfl) (by decide) rfl (fun ls hl => ?_)
                refine lv_goto (tgt := 16) hx hb dX3_reckonCaps_88 (by decide) ?_
                exact ih16_15 f_41 f_29 zrstack_34 l_42 n_45 hL59_43_0 (by omega) (by omega) (by omega) _ _ _ hP hD hS (lv_sub hl [0, 2, 3, 4, 5, 6, 7] rfl)
              · have gc_44 : r_37.toInt < l_42.toInt := i_nle (rfl : l_42.toInt = l_42.toInt) (rfl : r_37.toInt = r_37.toInt) c_44
                refine lv_aload_n hx hb dX3_reckonCaps_66 rfl (lv_at hl 3 rfl) ?_
                refine gt_SP_paces_caps hx hb hts hown hK hP lwd_86 dX3_reckonCaps_67 ?_
                refine lv_iload_n hx hb dX3_reckonCaps_70 rfl (lv_at hl 4 rfl) ?_
                refine lv_iload hx hb dX3_reckonCaps_71 (lv_at hl 2 rfl) ?_
                refine lv_iadd hx hb dX3_reckonCaps_73 ?_
                refine lv_topi (fun n_46 en_46 => ?_)
                have tn_46 : n_46.toInt = fr0.toInt + l_42.toInt := i_add en_46 (rfl : fr0.toInt = fr0.toInt) (rfl : l_42.toInt = l_42.toInt) (by omega) (by omega)
                refine lv_iload hx hb dX3_reckonCaps_74 (lv_at hl 1 rfl) ?_
                refine lv_iconst (v := 1) hx hb dX3_reckonCaps_76 (by decide) ?_
                refine lv_isub hx hb dX3_reckonCaps_77 ?_
                refine lv_topi (fun n_47 en_47 => ?_)
                have tn_47 : n_47.toInt = l_14.toInt - 1 := i_sub en_47 (rfl : l_14.toInt = l_14.toInt) (by decide : (1 : Int32).toInt = 1) (by omega) (by omega)
                refine as_caps (x := n_47) hx hb hK hP hD hS hL59_43_0 (i_in tn_46 (by omega) (by omega)) (by omega) dX3_reckonCaps_78 (fun f_48 ef_48 rf_48 H locs hP hD hS => ?_)
                obtain ⟨n_49, en_49⟩ : ∃ y : Int32, y = l_42 + (-1) := ⟨_, rfl⟩
                have tn_49 : n_49.toInt = l_42.toInt + (-1) := i_add en_49 (rfl : l_42.toInt = l_42.toInt) (by decide : ((-1) : Int32).toInt = (-1)) (by omega) (by omega)
                refine lv_iinc (v := n_49) (lv' := [(5, .int n_49), (7, .int r_37), (6, .int l_14), (0, .ref (hs 27)), (1, .int fr0), (2, .int w), (3, .int t1), (4, .int i)]) hx hb dX3_reckonCaps_79 hl (k := 2) rfl (by rw [en_49]; rfl) (by decide) rfl (fun ls hl => ?_)
                refine lv_goto (tgt := 59) hx hb dX3_reckonCaps_82 (by decide) ?_
                exact ih59_43 f_48 n_49 rf_48 (by omega) (by omega) _ _ _ hP hD hS (lv_sub hl [1, 2, 0, 3, 4, 5, 6, 7] rfl)
          exact L59_43 8589934592 f_10 l_13 hL16_15_0 (by omega) (by omega) _ _ _ hP hD hS (lv_sub hl [0, 1, 2, 3, 4, 5, 6, 7] rfl)
  have k_50 : (60 : Int32).toInt = 60 := by decide
  have k_51 : (0 : Int32).toInt = 0 := by decide
  exact L16_15 8589934592 f_caps zrletters_4 f_rstack 60 0 hr_caps (by omega) (by omega) (by omega) _ _ _ hP hD hS (lv_sub hl [0, 1, 2, 3, 4, 5, 6] rfl)
set_option maxHeartbeats 16000000 in
set_option maxRecDepth 100000 in
theorem c_X3_capsFrom (l : Launch) (D : va_G) (cy : Nat → ClassId) (hs : Nat → Nat) (hH hT sH sT : Nat) (v_tape_size v_band_walkers v_band_loads v_band_pieces v_rules_clauses v_reader_end v_reader_at v_reader_length v_reader_letter v_reader_fault v_draft_clauses v_paces_version v_packing_quicker v_packing_loads v_packing_looseCount v_marches_told v_marches_changeMinutes v_marches_marching v_marches_gone v_search_known v_search_countHere v_search_countThere v_search_cost v_search_most : Int32) (v_search_found : Int64) (f_bytes f_knee f_weight f_limps f_bheft f_owner f_food f_miles f_slope f_rsteps f_rkind f_ryields f_rholds f_rletters f_rstack f_dsteps f_dkind f_dyields f_dholds f_dletters f_dstack f_caps f_versions f_sharing f_pheft f_prow f_holder f_comes f_pcaps f_room f_loose f_reached f_mrow f_minutesOn f_mtired : Nat → Int32) (f_here f_there : Nat → Int64) (f_statesHere f_statesThere f_listed f_stired f_burdens f_pacesOn f_restedOn f_behindOn f_behindFor f_first f_second : Nat → Int32) (f_plans f_tiredOn : Nat → Nat → Int32) (tS : Nat) (sz : Nat) (w : Int32) (t1 : Int32) (i : Int32) (hb_v_band_walkers : 0 ≤ v_band_walkers.toInt ∧ v_band_walkers.toInt ≤ 6) (hb_v_rules_clauses : 0 ≤ v_rules_clauses.toInt ∧ v_rules_clauses.toInt ≤ 14) (hr_weight : rg (0) 250 f_weight) (hr_limps : rg (0) 1 f_limps) (hr_miles : rg (0) 20 f_miles) (hr_caps : rg (-1) 400 f_caps) (ha_w : 0 ≤ w.toInt ∧ w.toInt ≤ 5) (ha_t1 : 0 ≤ t1.toInt ∧ t1.toInt ≤ 5) (ha_i : 0 ≤ i.toInt ∧ i.toInt ≤ 9) : gMi l yX3_capsFrom cX3_capsFrom 5 .int 4 [.ref (hs 27), .int w, .int t1, .int i] D cy (wSP cy hs hH hT sH sT v_tape_size v_band_walkers v_band_loads v_band_pieces v_rules_clauses v_reader_end v_reader_at v_reader_length v_reader_letter v_reader_fault v_draft_clauses v_paces_version v_packing_quicker v_packing_loads v_packing_looseCount v_marches_told v_marches_changeMinutes v_marches_marching v_marches_gone v_search_known v_search_countHere v_search_countThere v_search_cost v_search_most v_search_found f_bytes f_knee f_weight f_limps f_bheft f_owner f_food f_miles f_slope f_rsteps f_rkind f_ryields f_rholds f_rletters f_rstack f_dsteps f_dkind f_dyields f_dholds f_dletters f_dstack f_caps f_versions f_sharing f_pheft f_prow f_holder f_comes f_pcaps f_room f_loose f_reached f_mrow f_minutesOn f_mtired f_here f_there f_statesHere f_statesThere f_listed f_stired f_burdens f_pacesOn f_restedOn f_behindOn f_behindFor f_first f_second f_plans f_tiredOn) (NS tS) sz (fun (r : Int32) (u : (Nat → Int32) × (Nat → Int32) × (Nat → Int32) × (Nat → Int32)) => (0 ≤ r.toInt ∧ r.toInt ≤ 21899) ∧ (rg (-1) 400 (u.2.2.1))) (fun u => wSP cy hs hH hT sH sT v_tape_size v_band_walkers v_band_loads v_band_pieces v_rules_clauses v_reader_end v_reader_at v_reader_length v_reader_letter v_reader_fault v_draft_clauses v_paces_version v_packing_quicker v_packing_loads v_packing_looseCount v_marches_told v_marches_changeMinutes v_marches_marching v_marches_gone v_search_known v_search_countHere v_search_countThere v_search_cost v_search_most v_search_found f_bytes f_knee f_weight f_limps f_bheft f_owner f_food f_miles f_slope f_rsteps f_rkind f_ryields f_rholds (u.1) (u.2.1) f_dsteps f_dkind f_dyields f_dholds f_dletters f_dstack (u.2.2.1) (u.2.2.2) f_sharing f_pheft f_prow f_holder f_comes f_pcaps f_room f_loose f_reached f_mrow f_minutesOn f_mtired f_here f_there f_statesHere f_statesThere f_listed f_stired f_burdens f_pacesOn f_restedOn f_behindOn f_behindFor f_first f_second f_plans f_tiredOn) := by
  refine gMi_in (by decide) (Nat.le_of_ble_eq_true rfl) ?_
  intro p e s m args below meth c A ls Q hx hb hml hts hown hsz hP hK hD hN hAe hA hS hl hret
  subst hsz
  have hl : lv_has ls 5 [(0, .ref (hs 27)), (1, .int w), (2, .int t1), (3, .int i)] := hl
  have hrt := fun (r : Int32) (f_rletters' : Nat → Int32) (f_rstack' : Nat → Int32) (f_caps' : Nat → Int32) (f_versions' : Nat → Int32) (hp : (0 ≤ r.toInt ∧ r.toInt ≤ 21899) ∧ (rg (-1) 400 f_caps')) {H : Heap} {locs : List Loc} {pc : Nat} {ls : Array Slot} => hret r (f_rletters', f_rstack', f_caps', f_versions') (H := H) (locs := locs) (pc := pc) (ls := ls) hp
  clear hret
  refine lv_iload_n hx hb dX3_capsFrom_0 rfl (lv_at hl 1 rfl) ?_
  refine lv_bipush (v := 6) hx hb dX3_capsFrom_1 (by decide) ?_
  refine lv_imul hx hb dX3_capsFrom_3 ?_
  refine lv_topi (fun n_1 en_1 => ?_)
  have tn_1 : n_1.toInt = w.toInt * 6 := i_mul en_1 (rfl : w.toInt = w.toInt) (by decide : (6 : Int32).toInt = 6) (by omega) (by omega)
  refine lv_iload_n hx hb dX3_capsFrom_4 rfl (lv_at hl 2 rfl) ?_
  refine lv_iadd hx hb dX3_capsFrom_5 ?_
  refine lv_topi (fun n_2 en_2 => ?_)
  have tn_2 : n_2.toInt = (w.toInt * 6) + t1.toInt := i_add en_2 tn_1 (rfl : t1.toInt = t1.toInt) (by omega) (by omega)
  refine lv_bipush (v := 10) hx hb dX3_capsFrom_6 (by decide) ?_
  refine lv_imul hx hb dX3_capsFrom_8 ?_
  refine lv_topi (fun n_3 en_3 => ?_)
  have tn_3 : n_3.toInt = ((w.toInt * 6) + t1.toInt) * 10 := i_mul en_3 tn_2 (by decide : (10 : Int32).toInt = 10) (by omega) (by omega)
  refine lv_iload_n hx hb dX3_capsFrom_9 rfl (lv_at hl 3 rfl) ?_
  refine lv_iadd hx hb dX3_capsFrom_10 ?_
  refine lv_topi (fun n_4 en_4 => ?_)
  have tn_4 : n_4.toInt = (((w.toInt * 6) + t1.toInt) * 10) + i.toInt := i_add en_4 tn_3 (rfl : i.toInt = i.toInt) (by omega) (by omega)
  refine lv_istore (lv' := [(4, .int n_4), (0, .ref (hs 27)), (1, .int w), (2, .int t1), (3, .int i)]) hx hb dX3_capsFrom_11 hl (by decide) rfl (fun ls hl => ?_)
  refine lv_aload_n hx hb dX3_capsFrom_13 rfl (lv_at hl 1 rfl) ?_
  refine gt_SP_paces_versions hx hb hts hown hK hP lwd_87 dX3_capsFrom_14 ?_
  refine lv_iload hx hb dX3_capsFrom_17 (lv_at hl 0 rfl) ?_
  refine al_versions hx hb hK hP (i_in tn_4 (by omega) (by omega)) dX3_capsFrom_19 (fun n_5 en_5 => ?_)
  refine lv_aload_n hx hb dX3_capsFrom_20 rfl (lv_at hl 1 rfl) ?_
  refine gt_SP_paces_version hx hb hts hown hK hP lwd_85 dX3_capsFrom_21 ?_
  refine lv_icmp_eq (tgt := 50) hx hb dX3_capsFrom_24 (by decide) (fun c_6 => ?_) (fun c_6 => ?_)
  · have gc_6 : n_5.toInt = v_paces_version.toInt := i_eq (rfl : n_5.toInt = n_5.toInt) (rfl : v_paces_version.toInt = v_paces_version.toInt) c_6
    refine lv_iload hx hb dX3_capsFrom_50 (lv_at hl 0 rfl) ?_
    refine lv_bipush (v := 61) hx hb dX3_capsFrom_52 (by decide) ?_
    refine lv_imul hx hb dX3_capsFrom_54 ?_
    refine lv_topi (fun n_7 en_7 => ?_)
    have tn_7 : n_7.toInt = ((((w.toInt * 6) + t1.toInt) * 10) + i.toInt) * 61 := i_mul en_7 tn_4 (by decide : (61 : Int32).toInt = 61) (by omega) (by omega)
    exact hrt n_7 f_rletters f_rstack f_caps f_versions ⟨(by omega), hr_caps⟩ hP hD hS rfl dX3_capsFrom_55
  · have gc_6 : n_5.toInt ≠ v_paces_version.toInt := i_ne (rfl : n_5.toInt = n_5.toInt) (rfl : v_paces_version.toInt = v_paces_version.toInt) c_6
    refine lv_aload_n hx hb dX3_capsFrom_27 rfl (lv_at hl 1 rfl) ?_
    refine lv_iload hx hb dX3_capsFrom_28 (lv_at hl 0 rfl) ?_
    refine lv_bipush (v := 61) hx hb dX3_capsFrom_30 (by decide) ?_
    refine lv_imul hx hb dX3_capsFrom_32 ?_
    refine lv_topi (fun n_8 en_8 => ?_)
    have tn_8 : n_8.toInt = ((((w.toInt * 6) + t1.toInt) * 10) + i.toInt) * 61 := i_mul en_8 tn_4 (by decide : (61 : Int32).toInt = 61) (by omega) (by omega)
    refine lv_iload_n hx hb dX3_capsFrom_33 rfl (lv_at hl 2 rfl) ?_
    refine lv_iload_n hx hb dX3_capsFrom_34 rfl (lv_at hl 3 rfl) ?_
    refine lv_iload_n hx hb dX3_capsFrom_35 rfl (lv_at hl 4 rfl) ?_
    refine xv hD hS hA (xV (As := [.int n_8, .int w, .int t1, .int i]) (rest := []) hx hb hml hown hts hK hP hD hS hA NS_ok hN hAe hl.1 ⟨Nat.le_refl _, Nat.le_refl _⟩ 27 rfl rfl rfl (c_X3_reckonCaps l D cy hs hH hT sH sT v_tape_size v_band_walkers v_band_loads v_band_pieces v_rules_clauses v_reader_end v_reader_at v_reader_length v_reader_letter v_reader_fault v_draft_clauses v_paces_version v_packing_quicker v_packing_loads v_packing_looseCount v_marches_told v_marches_changeMinutes v_marches_marching v_marches_gone v_search_known v_search_countHere v_search_countThere v_search_cost v_search_most v_search_found f_bytes f_knee f_weight f_limps f_bheft f_owner f_food f_miles f_slope f_rsteps f_rkind f_ryields f_rholds f_rletters f_rstack f_dsteps f_dkind f_dyields f_dholds f_dletters f_dstack f_caps f_versions f_sharing f_pheft f_prow f_holder f_comes f_pcaps f_room f_loose f_reached f_mrow f_minutesOn f_mtired f_here f_there f_statesHere f_statesThere f_listed f_stired f_burdens f_pacesOn f_restedOn f_behindOn f_behindFor f_first f_second f_plans f_tiredOn tS s.heap.size n_8 w t1 i (by omega) (by omega) hr_weight hr_limps hr_miles hr_caps (by omega) (by omega) (by omega)) (gi_V lwd_595 lwd_596 lwd_597 lwd_30 lwd_598) ⟨rfl, hd_X3_reckonCaps⟩ ⟨Nat.le_of_ble_eq_true rfl, Nat.le_of_ble_eq_true rfl⟩ rfl (Nat.le_of_ble_eq_true rfl) dX3_capsFrom_36) (fun u_9 H locs hw hP hD hS => ?_)
    obtain ⟨zrletters_11, zrstack_12, zcaps_13⟩ := u_9
    try dsimp only at hw hP hD
    have p_14 := hw
    clear hw
    refine lv_aload_n hx hb dX3_capsFrom_39 rfl (lv_at hl 1 rfl) ?_
    refine gt_SP_paces_versions hx hb hts hown hK hP lwd_87 dX3_capsFrom_40 ?_
    refine lv_iload hx hb dX3_capsFrom_43 (lv_at hl 0 rfl) ?_
    refine lv_aload_n hx hb dX3_capsFrom_45 rfl (lv_at hl 1 rfl) ?_
    refine gt_SP_paces_version hx hb hts hown hK hP lwd_85 dX3_capsFrom_46 ?_
    refine as_versions (x := v_paces_version) hx hb hK hP hD hS (i_in tn_4 (by omega) (by omega)) dX3_capsFrom_49 (fun f_15 ef_15 H locs hP hD hS => ?_)
    refine lv_iload hx hb dX3_capsFrom_50 (lv_at hl 0 rfl) ?_
    refine lv_bipush (v := 61) hx hb dX3_capsFrom_52 (by decide) ?_
    refine lv_imul hx hb dX3_capsFrom_54 ?_
    refine lv_topi (fun n_16 en_16 => ?_)
    have tn_16 : n_16.toInt = ((((w.toInt * 6) + t1.toInt) * 10) + i.toInt) * 61 := i_mul en_16 tn_4 (by decide : (61 : Int32).toInt = 61) (by omega) (by omega)
    exact hrt n_16 zrletters_11 zrstack_12 zcaps_13 f_15 ⟨(by omega), p_14⟩ hP hD hS rfl dX3_capsFrom_55
set_option maxHeartbeats 16000000 in
set_option maxRecDepth 100000 in
theorem c_X3_together (l : Launch) (D : va_G) (cy : Nat → ClassId) (hs : Nat → Nat) (hH hT sH sT : Nat) (v_tape_size v_band_walkers v_band_loads v_band_pieces v_rules_clauses v_reader_end v_reader_at v_reader_length v_reader_letter v_reader_fault v_draft_clauses v_paces_version v_packing_quicker v_packing_loads v_packing_looseCount v_marches_told v_marches_changeMinutes v_marches_marching v_marches_gone v_search_known v_search_countHere v_search_countThere v_search_cost v_search_most : Int32) (v_search_found : Int64) (f_bytes f_knee f_weight f_limps f_bheft f_owner f_food f_miles f_slope f_rsteps f_rkind f_ryields f_rholds f_rletters f_rstack f_dsteps f_dkind f_dyields f_dholds f_dletters f_dstack f_caps f_versions f_sharing f_pheft f_prow f_holder f_comes f_pcaps f_room f_loose f_reached f_mrow f_minutesOn f_mtired : Nat → Int32) (f_here f_there : Nat → Int64) (f_statesHere f_statesThere f_listed f_stired f_burdens f_pacesOn f_restedOn f_behindOn f_behindFor f_first f_second : Nat → Int32) (f_plans f_tiredOn : Nat → Nat → Int32) (tS : Nat) (sz : Nat) (q : Int32) (hb_v_band_walkers : 0 ≤ v_band_walkers.toInt ∧ v_band_walkers.toInt ≤ 6) (hr_caps : rg (-1) 400 f_caps) (hr_sharing : rg (0) 21899 f_sharing) (ha_q : 0 ≤ q.toInt ∧ q.toInt ≤ 60) : gMi l yX3_together cX3_together 5 .int 1 [.ref (hs 27), .int q] D cy (wSP cy hs hH hT sH sT v_tape_size v_band_walkers v_band_loads v_band_pieces v_rules_clauses v_reader_end v_reader_at v_reader_length v_reader_letter v_reader_fault v_draft_clauses v_paces_version v_packing_quicker v_packing_loads v_packing_looseCount v_marches_told v_marches_changeMinutes v_marches_marching v_marches_gone v_search_known v_search_countHere v_search_countThere v_search_cost v_search_most v_search_found f_bytes f_knee f_weight f_limps f_bheft f_owner f_food f_miles f_slope f_rsteps f_rkind f_ryields f_rholds f_rletters f_rstack f_dsteps f_dkind f_dyields f_dholds f_dletters f_dstack f_caps f_versions f_sharing f_pheft f_prow f_holder f_comes f_pcaps f_room f_loose f_reached f_mrow f_minutesOn f_mtired f_here f_there f_statesHere f_statesThere f_listed f_stired f_burdens f_pacesOn f_restedOn f_behindOn f_behindFor f_first f_second f_plans f_tiredOn) (NS tS) sz (fun (r : Int32) (u : Unit) => True) (fun u => wSP cy hs hH hT sH sT v_tape_size v_band_walkers v_band_loads v_band_pieces v_rules_clauses v_reader_end v_reader_at v_reader_length v_reader_letter v_reader_fault v_draft_clauses v_paces_version v_packing_quicker v_packing_loads v_packing_looseCount v_marches_told v_marches_changeMinutes v_marches_marching v_marches_gone v_search_known v_search_countHere v_search_countThere v_search_cost v_search_most v_search_found f_bytes f_knee f_weight f_limps f_bheft f_owner f_food f_miles f_slope f_rsteps f_rkind f_ryields f_rholds f_rletters f_rstack f_dsteps f_dkind f_dyields f_dholds f_dletters f_dstack f_caps f_versions f_sharing f_pheft f_prow f_holder f_comes f_pcaps f_room f_loose f_reached f_mrow f_minutesOn f_mtired f_here f_there f_statesHere f_statesThere f_listed f_stired f_burdens f_pacesOn f_restedOn f_behindOn f_behindFor f_first f_second f_plans f_tiredOn) := by
  refine gMi_in (by decide) (Nat.le_of_ble_eq_true rfl) ?_
  intro p e s m args below meth c A ls Q hx hb hml hts hown hsz hP hK hD hN hAe hA hS hl hret
  subst hsz
  have hl : lv_has ls 5 [(0, .ref (hs 27)), (1, .int q)] := hl
  have hrt := fun (r : Int32)   {H : Heap} {locs : List Loc} {pc : Nat} {ls : Array Slot} => hret r () (H := H) (locs := locs) (pc := pc) (ls := ls) trivial
  clear hret
  refine lv_iconst (v := 0) hx hb dX3_together_0 (by decide) ?_
  refine lv_istore_n (lv' := [(2, .int 0), (0, .ref (hs 27)), (1, .int q)]) hx hb dX3_together_1 rfl hl (by decide) rfl (fun ls hl => ?_)
  refine lv_iconst (v := 0) hx hb dX3_together_2 (by decide) ?_
  refine lv_istore_n (lv' := [(3, .int 0), (2, .int 0), (0, .ref (hs 27)), (1, .int q)]) hx hb dX3_together_3 rfl hl (by decide) rfl (fun ls hl => ?_)
  have L4_5 : ∀ (n : Nat) (l_3 : Int32) (l_4 : Int32), (0 ≤ l_4.toInt ∧ l_4.toInt ≤ 6) → 7 - l_4.toInt < n → ∀ (H : Heap) (locs : List Loc) (ls : Array Slot), va_P D vwCl (wSP cy hs hH hT sH sT v_tape_size v_band_walkers v_band_loads v_band_pieces v_rules_clauses v_reader_end v_reader_at v_reader_length v_reader_letter v_reader_fault v_draft_clauses v_paces_version v_packing_quicker v_packing_loads v_packing_looseCount v_marches_told v_marches_changeMinutes v_marches_marching v_marches_gone v_search_known v_search_countHere v_search_countThere v_search_cost v_search_most v_search_found f_bytes f_knee f_weight f_limps f_bheft f_owner f_food f_miles f_slope f_rsteps f_rkind f_ryields f_rholds f_rletters f_rstack f_dsteps f_dkind f_dyields f_dholds f_dletters f_dstack f_caps f_versions f_sharing f_pheft f_prow f_holder f_comes f_pcaps f_room f_loose f_reached f_mrow f_minutesOn f_mtired f_here f_there f_statesHere f_statesThere f_listed f_stired f_burdens f_pacesOn f_restedOn f_behindOn f_behindFor f_first f_second f_plans f_tiredOn) H → va_D A (wSP cy hs hH hT sH sT v_tape_size v_band_walkers v_band_loads v_band_pieces v_rules_clauses v_reader_end v_reader_at v_reader_length v_reader_letter v_reader_fault v_draft_clauses v_paces_version v_packing_quicker v_packing_loads v_packing_looseCount v_marches_told v_marches_changeMinutes v_marches_marching v_marches_gone v_search_known v_search_countHere v_search_countThere v_search_cost v_search_most v_search_found f_bytes f_knee f_weight f_limps f_bheft f_owner f_food f_miles f_slope f_rsteps f_rkind f_ryields f_rholds f_rletters f_rstack f_dsteps f_dkind f_dyields f_dholds f_dletters f_dstack f_caps f_versions f_sharing f_pheft f_prow f_holder f_comes f_pcaps f_room f_loose f_reached f_mrow f_minutesOn f_mtired f_here f_there f_statesHere f_statesThere f_listed f_stired f_burdens f_pacesOn f_restedOn f_behindOn f_behindFor f_first f_second f_plans f_tiredOn) → va_S A s.heap H locs → lv_has ls 5 [(3, .int l_4), (2, .int l_3), (0, .ref (hs 27)), (1, .int q)] → W p l e (gRm 1) s m args below meth c H locs 0 0 Q (F0 m 4 ls []) := by
    intro n
    induction n with
    | zero => intro l_3 l_4 hL4_5_0 hm; exact absurd hm (by omega)
    | succ n ih4_5 =>
      intro l_3 l_4 hL4_5_0 hmL4_5 H locs ls hP hD hS hl
      refine lv_iload_n hx hb dX3_together_4 rfl (lv_at hl 0 rfl) ?_
      refine lv_aload_n hx hb dX3_together_5 rfl (lv_at hl 2 rfl) ?_
      refine gt_SP_paces_band hx hb hts hown hK hP lwd_89 dX3_together_6 ?_
      refine gt_SP_band_walkers hx hb hts hown hK hP lwd_522 dX3_together_9 ?_
      refine lv_icmp_ge (tgt := 48) hx hb dX3_together_12 (by decide) (fun c_6 => ?_) (fun c_6 => ?_)
      · have gc_6 : v_band_walkers.toInt ≤ l_4.toInt := i_le (rfl : v_band_walkers.toInt = v_band_walkers.toInt) (rfl : l_4.toInt = l_4.toInt) c_6
        refine lv_iload_n hx hb dX3_together_48 rfl (lv_at hl 1 rfl) ?_
        exact hrt l_3   hP hD hS rfl dX3_together_49
      · have gc_6 : l_4.toInt < v_band_walkers.toInt := i_nle (rfl : v_band_walkers.toInt = v_band_walkers.toInt) (rfl : l_4.toInt = l_4.toInt) c_6
        refine lv_aload_n hx hb dX3_together_15 rfl (lv_at hl 2 rfl) ?_
        refine gt_SP_paces_caps hx hb hts hown hK hP lwd_86 dX3_together_16 ?_
        refine lv_aload_n hx hb dX3_together_19 rfl (lv_at hl 2 rfl) ?_
        refine gt_SP_paces_sharing hx hb hts hown hK hP lwd_88 dX3_together_20 ?_
        refine lv_iload_n hx hb dX3_together_23 rfl (lv_at hl 0 rfl) ?_
        refine al_sharing hx hb hK hP hr_sharing (i_in (rfl : l_4.toInt = l_4.toInt) (by omega) (by omega)) dX3_together_24 (fun n_7 en_7 bn_7 => ?_)
        refine lv_iload_n hx hb dX3_together_25 rfl (lv_at hl 3 rfl) ?_
        refine lv_iadd hx hb dX3_together_26 ?_
        refine lv_topi (fun n_8 en_8 => ?_)
        have tn_8 : n_8.toInt = n_7.toInt + q.toInt := i_add en_8 (rfl : n_7.toInt = n_7.toInt) (rfl : q.toInt = q.toInt) (by omega) (by omega)
        refine al_caps hx hb hK hP hr_caps (i_in tn_8 (by omega) (by omega)) dX3_together_27 (fun n_9 en_9 bn_9 => ?_)
        refine lv_istore (lv' := [(4, .int n_9), (3, .int l_4), (2, .int l_3), (0, .ref (hs 27)), (1, .int q)]) hx hb dX3_together_28 hl (by decide) rfl (fun ls hl => ?_)
        refine lv_iload hx hb dX3_together_30 (lv_at hl 0 rfl) ?_
        refine lv_if_ge (tgt := 37) hx hb dX3_together_32 (by decide) (fun c_10 => ?_) (fun c_10 => ?_)
        · have gc_10 : 0 ≤ n_9.toInt := i_le (by decide : (0 : Int32).toInt = 0) (rfl : n_9.toInt = n_9.toInt) c_10
          refine lv_iload_n hx hb dX3_together_37 rfl (lv_at hl 2 rfl) ?_
          refine lv_iload hx hb dX3_together_38 (lv_at hl 0 rfl) ?_
          refine lv_iadd hx hb dX3_together_40 ?_
          refine lv_topi (fun n_11 en_11 => ?_)
          refine lv_istore_n (lv' := [(2, .int n_11), (4, .int n_9), (3, .int l_4), (0, .ref (hs 27)), (1, .int q)]) hx hb dX3_together_41 rfl hl (by decide) rfl (fun ls hl => ?_)
          obtain ⟨n_12, en_12⟩ : ∃ y : Int32, y = l_4 + 1 := ⟨_, rfl⟩
          have tn_12 : n_12.toInt = l_4.toInt + 1 := i_add en_12 (rfl : l_4.toInt = l_4.toInt) (by decide : (1 : Int32).toInt = 1) (by omega) (by omega)
          refine lv_iinc (v := n_12) (lv' := [(3, .int n_12), (2, .int n_11), (4, .int n_9), (0, .ref (hs 27)), (1, .int q)]) hx hb dX3_together_42 hl (k := 2) rfl (by rw [en_12]; rfl) (by decide) rfl (fun ls hl => ?_)
          refine lv_goto (tgt := 4) hx hb dX3_together_45 (by decide) ?_
          exact ih4_5 n_11 n_12 (by omega) (by omega) _ _ _ hP hD hS (lv_sub hl [0, 1, 3, 4] rfl)
        · have gc_10 : n_9.toInt < 0 := i_nle (by decide : (0 : Int32).toInt = 0) (rfl : n_9.toInt = n_9.toInt) c_10
          refine lv_iconst (v := (-1)) hx hb dX3_together_35 (by decide) ?_
          have k_13 : ((-1) : Int32).toInt = (-1) := by decide
          exact hrt (-1)   hP hD hS rfl dX3_together_36
  have k_14 : (0 : Int32).toInt = 0 := by decide
  have k_15 : (0 : Int32).toInt = 0 := by decide
  exact L4_5 8589934592 0 0 (by omega) (by omega) _ _ _ hP hD hS (lv_sub hl [0, 1, 2, 3] rfl)
set_option maxHeartbeats 16000000 in
set_option maxRecDepth 100000 in
theorem c_X3_sharedPace (l : Launch) (D : va_G) (cy : Nat → ClassId) (hs : Nat → Nat) (hH hT sH sT : Nat) (v_tape_size v_band_walkers v_band_loads v_band_pieces v_rules_clauses v_reader_end v_reader_at v_reader_length v_reader_letter v_reader_fault v_draft_clauses v_paces_version v_packing_quicker v_packing_loads v_packing_looseCount v_marches_told v_marches_changeMinutes v_marches_marching v_marches_gone v_search_known v_search_countHere v_search_countThere v_search_cost v_search_most : Int32) (v_search_found : Int64) (f_bytes f_knee f_weight f_limps f_bheft f_owner f_food f_miles f_slope f_rsteps f_rkind f_ryields f_rholds f_rletters f_rstack f_dsteps f_dkind f_dyields f_dholds f_dletters f_dstack f_caps f_versions f_sharing f_pheft f_prow f_holder f_comes f_pcaps f_room f_loose f_reached f_mrow f_minutesOn f_mtired : Nat → Int32) (f_here f_there : Nat → Int64) (f_statesHere f_statesThere f_listed f_stired f_burdens f_pacesOn f_restedOn f_behindOn f_behindFor f_first f_second : Nat → Int32) (f_plans f_tiredOn : Nat → Nat → Int32) (tS : Nat) (sz : Nat) (pd : Int32) (i : Int32) (all : Int32) (hb_v_band_walkers : 0 ≤ v_band_walkers.toInt ∧ v_band_walkers.toInt ≤ 6) (hb_v_rules_clauses : 0 ≤ v_rules_clauses.toInt ∧ v_rules_clauses.toInt ≤ 14) (hr_weight : rg (0) 250 f_weight) (hr_limps : rg (0) 1 f_limps) (hr_miles : rg (0) 20 f_miles) (hr_caps : rg (-1) 400 f_caps) (hr_sharing : rg (0) 21899 f_sharing) (ha_i : 0 ≤ i.toInt ∧ i.toInt ≤ 9) (ha_all : 0 ≤ all.toInt ∧ all.toInt ≤ 46655) : gMi l yX3_sharedPace cX3_sharedPace 8 .int 5 [.ref (hs 27), .int pd, .int i, .int all] D cy (wSP cy hs hH hT sH sT v_tape_size v_band_walkers v_band_loads v_band_pieces v_rules_clauses v_reader_end v_reader_at v_reader_length v_reader_letter v_reader_fault v_draft_clauses v_paces_version v_packing_quicker v_packing_loads v_packing_looseCount v_marches_told v_marches_changeMinutes v_marches_marching v_marches_gone v_search_known v_search_countHere v_search_countThere v_search_cost v_search_most v_search_found f_bytes f_knee f_weight f_limps f_bheft f_owner f_food f_miles f_slope f_rsteps f_rkind f_ryields f_rholds f_rletters f_rstack f_dsteps f_dkind f_dyields f_dholds f_dletters f_dstack f_caps f_versions f_sharing f_pheft f_prow f_holder f_comes f_pcaps f_room f_loose f_reached f_mrow f_minutesOn f_mtired f_here f_there f_statesHere f_statesThere f_listed f_stired f_burdens f_pacesOn f_restedOn f_behindOn f_behindFor f_first f_second f_plans f_tiredOn) (NS tS) sz (fun (r : Int32) (u : (Nat → Int32) × (Nat → Int32) × (Nat → Int32) × (Nat → Int32) × (Nat → Int32)) => (0 ≤ r.toInt ∧ r.toInt ≤ 60) ∧ (rg (-1) 400 (u.2.2.1)) ∧ (rg (0) 21899 (u.2.2.2.2))) (fun u => wSP cy hs hH hT sH sT v_tape_size v_band_walkers v_band_loads v_band_pieces v_rules_clauses v_reader_end v_reader_at v_reader_length v_reader_letter v_reader_fault v_draft_clauses v_paces_version v_packing_quicker v_packing_loads v_packing_looseCount v_marches_told v_marches_changeMinutes v_marches_marching v_marches_gone v_search_known v_search_countHere v_search_countThere v_search_cost v_search_most v_search_found f_bytes f_knee f_weight f_limps f_bheft f_owner f_food f_miles f_slope f_rsteps f_rkind f_ryields f_rholds (u.1) (u.2.1) f_dsteps f_dkind f_dyields f_dholds f_dletters f_dstack (u.2.2.1) (u.2.2.2.1) (u.2.2.2.2) f_pheft f_prow f_holder f_comes f_pcaps f_room f_loose f_reached f_mrow f_minutesOn f_mtired f_here f_there f_statesHere f_statesThere f_listed f_stired f_burdens f_pacesOn f_restedOn f_behindOn f_behindFor f_first f_second f_plans f_tiredOn) := by
  refine gMi_in (by decide) (Nat.le_of_ble_eq_true rfl) ?_
  intro p e s m args below meth c A ls Q hx hb hml hts hown hsz hP hK hD hN hAe hA hS hl hret
  subst hsz
  have hl : lv_has ls 8 [(0, .ref (hs 27)), (1, .int pd), (2, .int i), (3, .int all)] := hl
  have hrt := fun (r : Int32) (f_rletters' : Nat → Int32) (f_rstack' : Nat → Int32) (f_caps' : Nat → Int32) (f_versions' : Nat → Int32) (f_sharing' : Nat → Int32) (hp : (0 ≤ r.toInt ∧ r.toInt ≤ 60) ∧ (rg (-1) 400 f_caps') ∧ (rg (0) 21899 f_sharing')) {H : Heap} {locs : List Loc} {pc : Nat} {ls : Array Slot} => hret r (f_rletters', f_rstack', f_caps', f_versions', f_sharing') (H := H) (locs := locs) (pc := pc) (ls := ls) hp
  clear hret
  refine lv_iconst (v := 0) hx hb dX3_sharedPace_0 (by decide) ?_
  refine lv_istore (lv' := [(4, .int 0), (0, .ref (hs 27)), (1, .int pd), (2, .int i), (3, .int all)]) hx hb dX3_sharedPace_1 hl (by decide) rfl (fun ls hl => ?_)
  have L3_13 : ∀ (n : Nat) (f_7 : Nat → Int32) (f_8 : Nat → Int32) (f_9 : Nat → Int32) (f_10 : Nat → Int32) (f_11 : Nat → Int32) (l_12 : Int32), (rg (-1) 400 f_7) → (rg (0) 21899 f_10) → (0 ≤ l_12.toInt ∧ l_12.toInt ≤ 6) → 7 - l_12.toInt < n → ∀ (H : Heap) (locs : List Loc) (ls : Array Slot), va_P D vwCl (wSP cy hs hH hT sH sT v_tape_size v_band_walkers v_band_loads v_band_pieces v_rules_clauses v_reader_end v_reader_at v_reader_length v_reader_letter v_reader_fault v_draft_clauses v_paces_version v_packing_quicker v_packing_loads v_packing_looseCount v_marches_told v_marches_changeMinutes v_marches_marching v_marches_gone v_search_known v_search_countHere v_search_countThere v_search_cost v_search_most v_search_found f_bytes f_knee f_weight f_limps f_bheft f_owner f_food f_miles f_slope f_rsteps f_rkind f_ryields f_rholds f_8 f_9 f_dsteps f_dkind f_dyields f_dholds f_dletters f_dstack f_7 f_11 f_10 f_pheft f_prow f_holder f_comes f_pcaps f_room f_loose f_reached f_mrow f_minutesOn f_mtired f_here f_there f_statesHere f_statesThere f_listed f_stired f_burdens f_pacesOn f_restedOn f_behindOn f_behindFor f_first f_second f_plans f_tiredOn) H → va_D A (wSP cy hs hH hT sH sT v_tape_size v_band_walkers v_band_loads v_band_pieces v_rules_clauses v_reader_end v_reader_at v_reader_length v_reader_letter v_reader_fault v_draft_clauses v_paces_version v_packing_quicker v_packing_loads v_packing_looseCount v_marches_told v_marches_changeMinutes v_marches_marching v_marches_gone v_search_known v_search_countHere v_search_countThere v_search_cost v_search_most v_search_found f_bytes f_knee f_weight f_limps f_bheft f_owner f_food f_miles f_slope f_rsteps f_rkind f_ryields f_rholds f_8 f_9 f_dsteps f_dkind f_dyields f_dholds f_dletters f_dstack f_7 f_11 f_10 f_pheft f_prow f_holder f_comes f_pcaps f_room f_loose f_reached f_mrow f_minutesOn f_mtired f_here f_there f_statesHere f_statesThere f_listed f_stired f_burdens f_pacesOn f_restedOn f_behindOn f_behindFor f_first f_second f_plans f_tiredOn) → va_S A s.heap H locs → lv_has ls 8 [(4, .int l_12), (0, .ref (hs 27)), (1, .int pd), (2, .int i), (3, .int all)] → W p l e (gRm 5) s m args below meth c H locs 0 0 Q (F0 m 3 ls []) := by
    intro n
    induction n with
    | zero => intro f_7 f_8 f_9 f_10 f_11 l_12 hL3_13_0 hL3_13_1 hL3_13_2 hm; exact absurd hm (by omega)
    | succ n ih3_13 =>
      intro f_7 f_8 f_9 f_10 f_11 l_12 hL3_13_0 hL3_13_1 hL3_13_2 hmL3_13 H locs ls hP hD hS hl
      refine lv_iload hx hb dX3_sharedPace_3 (lv_at hl 0 rfl) ?_
      refine lv_aload_n hx hb dX3_sharedPace_5 rfl (lv_at hl 1 rfl) ?_
      refine gt_SP_paces_band hx hb hts hown hK hP lwd_89 dX3_sharedPace_6 ?_
      refine gt_SP_band_walkers hx hb hts hown hK hP lwd_522 dX3_sharedPace_9 ?_
      refine lv_icmp_ge (tgt := 41) hx hb dX3_sharedPace_12 (by decide) (fun c_14 => ?_) (fun c_14 => ?_)
      · have gc_14 : v_band_walkers.toInt ≤ l_12.toInt := i_le (rfl : v_band_walkers.toInt = v_band_walkers.toInt) (rfl : l_12.toInt = l_12.toInt) c_14
        refine lv_iconst (v := 0) hx hb dX3_sharedPace_41 (by decide) ?_
        refine lv_istore (lv' := [(4, .int 0), (0, .ref (hs 27)), (1, .int pd), (2, .int i), (3, .int all)]) hx hb dX3_sharedPace_42 hl (by decide) rfl (fun ls hl => ?_)
        refine lv_bipush (v := 60) hx hb dX3_sharedPace_44 (by decide) ?_
        refine lv_istore (lv' := [(5, .int 60), (4, .int 0), (0, .ref (hs 27)), (1, .int pd), (2, .int i), (3, .int all)]) hx hb dX3_sharedPace_46 hl (by decide) rfl (fun ls hl => ?_)
        refine lv_iconst (v := 0) hx hb dX3_sharedPace_48 (by decide) ?_
        refine lv_istore (lv' := [(6, .int 0), (5, .int 60), (4, .int 0), (0, .ref (hs 27)), (1, .int pd), (2, .int i), (3, .int all)]) hx hb dX3_sharedPace_49 hl (by decide) rfl (fun ls hl => ?_)
        have L51_21 : ∀ (n : Nat) (l_18 : Int32) (l_19 : Int32) (l_20 : Int32), (0 ≤ l_18.toInt ∧ l_18.toInt ≤ 60) → (0 ≤ l_19.toInt ∧ l_19.toInt ≤ 60) → (0 ≤ l_20.toInt ∧ l_20.toInt ≤ 64) → (l_18.toInt ≤ l_19.toInt) → 65 - l_20.toInt < n → ∀ (H : Heap) (locs : List Loc) (ls : Array Slot), va_P D vwCl (wSP cy hs hH hT sH sT v_tape_size v_band_walkers v_band_loads v_band_pieces v_rules_clauses v_reader_end v_reader_at v_reader_length v_reader_letter v_reader_fault v_draft_clauses v_paces_version v_packing_quicker v_packing_loads v_packing_looseCount v_marches_told v_marches_changeMinutes v_marches_marching v_marches_gone v_search_known v_search_countHere v_search_countThere v_search_cost v_search_most v_search_found f_bytes f_knee f_weight f_limps f_bheft f_owner f_food f_miles f_slope f_rsteps f_rkind f_ryields f_rholds f_8 f_9 f_dsteps f_dkind f_dyields f_dholds f_dletters f_dstack f_7 f_11 f_10 f_pheft f_prow f_holder f_comes f_pcaps f_room f_loose f_reached f_mrow f_minutesOn f_mtired f_here f_there f_statesHere f_statesThere f_listed f_stired f_burdens f_pacesOn f_restedOn f_behindOn f_behindFor f_first f_second f_plans f_tiredOn) H → va_D A (wSP cy hs hH hT sH sT v_tape_size v_band_walkers v_band_loads v_band_pieces v_rules_clauses v_reader_end v_reader_at v_reader_length v_reader_letter v_reader_fault v_draft_clauses v_paces_version v_packing_quicker v_packing_loads v_packing_looseCount v_marches_told v_marches_changeMinutes v_marches_marching v_marches_gone v_search_known v_search_countHere v_search_countThere v_search_cost v_search_most v_search_found f_bytes f_knee f_weight f_limps f_bheft f_owner f_food f_miles f_slope f_rsteps f_rkind f_ryields f_rholds f_8 f_9 f_dsteps f_dkind f_dyields f_dholds f_dletters f_dstack f_7 f_11 f_10 f_pheft f_prow f_holder f_comes f_pcaps f_room f_loose f_reached f_mrow f_minutesOn f_mtired f_here f_there f_statesHere f_statesThere f_listed f_stired f_burdens f_pacesOn f_restedOn f_behindOn f_behindFor f_first f_second f_plans f_tiredOn) → va_S A s.heap H locs → lv_has ls 8 [(6, .int l_20), (5, .int l_19), (4, .int l_18), (0, .ref (hs 27)), (1, .int pd), (2, .int i), (3, .int all)] → W p l e (gRm 5) s m args below meth c H locs 0 0 Q (F0 m 51 ls []) := by
          intro n
          induction n with
          | zero => intro l_18 l_19 l_20 hL51_21_0 hL51_21_1 hL51_21_2 hL51_21_3 hm; exact absurd hm (by omega)
          | succ n ih51_21 =>
            intro l_18 l_19 l_20 hL51_21_0 hL51_21_1 hL51_21_2 hL51_21_3 hmL51_21 H locs ls hP hD hS hl
            refine lv_iload hx hb dX3_sharedPace_51 (lv_at hl 0 rfl) ?_
            refine lv_bipush (v := 64) hx hb dX3_sharedPace_53 (by decide) ?_
            refine lv_icmp_ge (tgt := 105) hx hb dX3_sharedPace_55 (by decide) (fun c_22 => ?_) (fun c_22 => ?_)
            · have gc_22 : 64 ≤ l_20.toInt := i_le (by decide : (64 : Int32).toInt = 64) (rfl : l_20.toInt = l_20.toInt) c_22
              refine lv_iload hx hb dX3_sharedPace_105 (lv_at hl 2 rfl) ?_
              exact hrt l_18 f_8 f_9 f_7 f_11 f_10 ⟨(by omega), hL3_13_0, hL3_13_1⟩ hP hD hS rfl dX3_sharedPace_107
            · have gc_22 : l_20.toInt < 64 := i_nle (by decide : (64 : Int32).toInt = 64) (rfl : l_20.toInt = l_20.toInt) c_22
              refine lv_iload hx hb dX3_sharedPace_58 (lv_at hl 2 rfl) ?_
              refine lv_iload hx hb dX3_sharedPace_60 (lv_at hl 1 rfl) ?_
              refine lv_icmp_ge (tgt := 105) hx hb dX3_sharedPace_62 (by decide) (fun c_23 => ?_) (fun c_23 => ?_)
              · have gc_23 : l_19.toInt ≤ l_18.toInt := i_le (rfl : l_19.toInt = l_19.toInt) (rfl : l_18.toInt = l_18.toInt) c_23
                refine lv_iload hx hb dX3_sharedPace_105 (lv_at hl 2 rfl) ?_
                exact hrt l_18 f_8 f_9 f_7 f_11 f_10 ⟨(by omega), hL3_13_0, hL3_13_1⟩ hP hD hS rfl dX3_sharedPace_107
              · have gc_23 : l_18.toInt < l_19.toInt := i_nle (rfl : l_19.toInt = l_19.toInt) (rfl : l_18.toInt = l_18.toInt) c_23
                refine lv_iload hx hb dX3_sharedPace_65 (lv_at hl 2 rfl) ?_
                refine lv_iload hx hb dX3_sharedPace_67 (lv_at hl 1 rfl) ?_
                refine lv_iadd hx hb dX3_sharedPace_69 ?_
                refine lv_topi (fun n_24 en_24 => ?_)
                have tn_24 : n_24.toInt = l_18.toInt + l_19.toInt := i_add en_24 (rfl : l_18.toInt = l_18.toInt) (rfl : l_19.toInt = l_19.toInt) (by omega) (by omega)
                refine lv_iconst (v := 1) hx hb dX3_sharedPace_70 (by decide) ?_
                refine lv_iadd hx hb dX3_sharedPace_71 ?_
                refine lv_topi (fun n_25 en_25 => ?_)
                have tn_25 : n_25.toInt = (l_18.toInt + l_19.toInt) + 1 := i_add en_25 tn_24 (by decide : (1 : Int32).toInt = 1) (by omega) (by omega)
                refine lv_iconst (v := 2) hx hb dX3_sharedPace_72 (by decide) ?_
                refine lv_idiv hx hb dX3_sharedPace_73 (by decide) ?_
                refine lv_topi (fun n_26 en_26 => ?_)
                have tn_26 : n_26.toInt = ((l_18.toInt + l_19.toInt) + 1) / 2 := i_div en_26 tn_25 (by decide : (2 : Int32).toInt = 2) (by omega) (by omega)
                refine lv_istore (lv' := [(7, .int n_26), (6, .int l_20), (5, .int l_19), (4, .int l_18), (0, .ref (hs 27)), (1, .int pd), (2, .int i), (3, .int all)]) hx hb dX3_sharedPace_74 hl (by decide) rfl (fun ls hl => ?_)
                refine lv_aload_n hx hb dX3_sharedPace_76 rfl (lv_at hl 4 rfl) ?_
                refine lv_iload hx hb dX3_sharedPace_77 (lv_at hl 0 rfl) ?_
                refine xi hD hS hA (xV (As := [.int n_26]) (rest := []) hx hb hml hown hts hK hP hD hS hA NS_ok hN hAe hl.1 ⟨Nat.le_refl _, Nat.le_refl _⟩ 27 rfl rfl rfl (c_X3_together l D cy hs hH hT sH sT v_tape_size v_band_walkers v_band_loads v_band_pieces v_rules_clauses v_reader_end v_reader_at v_reader_length v_reader_letter v_reader_fault v_draft_clauses v_paces_version v_packing_quicker v_packing_loads v_packing_looseCount v_marches_told v_marches_changeMinutes v_marches_marching v_marches_gone v_search_known v_search_countHere v_search_countThere v_search_cost v_search_most v_search_found f_bytes f_knee f_weight f_limps f_bheft f_owner f_food f_miles f_slope f_rsteps f_rkind f_ryields f_rholds f_8 f_9 f_dsteps f_dkind f_dyields f_dholds f_dletters f_dstack f_7 f_11 f_10 f_pheft f_prow f_holder f_comes f_pcaps f_room f_loose f_reached f_mrow f_minutesOn f_mtired f_here f_there f_statesHere f_statesThere f_listed f_stired f_burdens f_pacesOn f_restedOn f_behindOn f_behindFor f_first f_second f_plans f_tiredOn tS H.size n_26 (by omega) hL3_13_0 hL3_13_1 (by omega)) (gi_V lwd_629 lwd_630 lwd_631 lwd_30 lwd_632) ⟨rfl, hd_X3_together⟩ ⟨Nat.le_of_ble_eq_true rfl, Nat.le_of_ble_eq_true rfl⟩ rfl (Nat.le_of_ble_eq_true rfl) dX3_sharedPace_79) (fun r_28 u_27 H locs hw hP hD hS => ?_)
                try dsimp only at hw hP hD
                clear hw
                refine lv_iload_n hx hb dX3_sharedPace_82 rfl (lv_at hl 5 rfl) ?_
                refine lv_icmp_lt (tgt := 93) hx hb dX3_sharedPace_83 (by decide) (fun c_29 => ?_) (fun c_29 => ?_)
                · have gc_29 : r_28.toInt < pd.toInt := i_lt (rfl : r_28.toInt = r_28.toInt) (rfl : pd.toInt = pd.toInt) c_29
                  refine lv_iload hx hb dX3_sharedPace_93 (lv_at hl 0 rfl) ?_
                  refine lv_iconst (v := 1) hx hb dX3_sharedPace_95 (by decide) ?_
                  refine lv_isub hx hb dX3_sharedPace_96 ?_
                  refine lv_topi (fun n_30 en_30 => ?_)
                  have tn_30 : n_30.toInt = (((l_18.toInt + l_19.toInt) + 1) / 2) - 1 := i_sub en_30 tn_26 (by decide : (1 : Int32).toInt = 1) (by omega) (by omega)
                  refine lv_istore (lv' := [(5, .int n_30), (7, .int n_26), (6, .int l_20), (4, .int l_18), (0, .ref (hs 27)), (1, .int pd), (2, .int i), (3, .int all)]) hx hb dX3_sharedPace_97 hl (by decide) rfl (fun ls hl => ?_)
                  obtain ⟨n_31, en_31⟩ : ∃ y : Int32, y = l_20 + 1 := ⟨_, rfl⟩
                  have tn_31 : n_31.toInt = l_20.toInt + 1 := i_add en_31 (rfl : l_20.toInt = l_20.toInt) (by decide : (1 : Int32).toInt = 1) (by omega) (by omega)
                  refine lv_iinc (v := n_31) (lv' := [(6, .int n_31), (5, .int n_30), (7, .int n_26), (4, .int l_18), (0, .ref (hs 27)), (1, .int pd), (2, .int i), (3, .int all)]) hx hb dX3_sharedPace_99 hl (k := 2) rfl (by rw [en_31]; rfl) (by decide) rfl (fun ls hl => ?_)
                  refine lv_goto (tgt := 51) hx hb dX3_sharedPace_102 (by decide) ?_
                  exact ih51_21 l_18 n_30 n_31 (by omega) (by omega) (by omega) (by omega) (by omega) _ _ _ hP hD hS (lv_sub hl [0, 1, 3, 4, 5, 6, 7] rfl)
                · have gc_29 : pd.toInt ≤ r_28.toInt := i_nlt (rfl : r_28.toInt = r_28.toInt) (rfl : pd.toInt = pd.toInt) c_29
                  refine lv_iload hx hb dX3_sharedPace_86 (lv_at hl 0 rfl) ?_
                  refine lv_istore (lv' := [(4, .int n_26), (7, .int n_26), (6, .int l_20), (5, .int l_19), (0, .ref (hs 27)), (1, .int pd), (2, .int i), (3, .int all)]) hx hb dX3_sharedPace_88 hl (by decide) rfl (fun ls hl => ?_)
                  refine lv_goto (tgt := 99) hx hb dX3_sharedPace_90 (by decide) ?_
                  obtain ⟨n_32, en_32⟩ : ∃ y : Int32, y = l_20 + 1 := ⟨_, rfl⟩
                  have tn_32 : n_32.toInt = l_20.toInt + 1 := i_add en_32 (rfl : l_20.toInt = l_20.toInt) (by decide : (1 : Int32).toInt = 1) (by omega) (by omega)
                  refine lv_iinc (v := n_32) (lv' := [(6, .int n_32), (4, .int n_26), (7, .int n_26), (5, .int l_19), (0, .ref (hs 27)), (1, .int pd), (2, .int i), (3, .int all)]) hx hb dX3_sharedPace_99 hl (k := 2) rfl (by rw [en_32]; rfl) (by decide) rfl (fun ls hl => ?_)
                  refine lv_goto (tgt := 51) hx hb dX3_sharedPace_102 (by decide) ?_
                  exact ih51_21 n_26 l_19 n_32 (by omega) (by omega) (by omega) (by omega) (by omega) _ _ _ hP hD hS (lv_sub hl [0, 3, 1, 4, 5, 6, 7] rfl)
        have k_33 : (0 : Int32).toInt = 0 := by decide
        have k_34 : (60 : Int32).toInt = 60 := by decide
        have k_35 : (0 : Int32).toInt = 0 := by decide
        exact L51_21 8589934592 0 60 0 (by omega) (by omega) (by omega) (by omega) (by omega) _ _ _ hP hD hS (lv_sub hl [0, 1, 2, 3, 4, 5, 6] rfl)
      · have gc_14 : l_12.toInt < v_band_walkers.toInt := i_nle (rfl : v_band_walkers.toInt = v_band_walkers.toInt) (rfl : l_12.toInt = l_12.toInt) c_14
        refine lv_aload_n hx hb dX3_sharedPace_15 rfl (lv_at hl 1 rfl) ?_
        refine gt_SP_paces_sharing hx hb hts hown hK hP lwd_88 dX3_sharedPace_16 ?_
        refine lv_iload hx hb dX3_sharedPace_19 (lv_at hl 0 rfl) ?_
        refine lv_aload_n hx hb dX3_sharedPace_21 rfl (lv_at hl 1 rfl) ?_
        refine lv_iload hx hb dX3_sharedPace_22 (lv_at hl 0 rfl) ?_
        refine lv_iload_n hx hb dX3_sharedPace_24 rfl (lv_at hl 4 rfl) ?_
        refine lv_iload hx hb dX3_sharedPace_25 (lv_at hl 0 rfl) ?_
        refine xi hD hS hA (xSN (As := [.int all, .int l_12]) (rest := [.int l_12, .ref (hs 27), .int l_12, .ref (hs 30)]) hx hb hml hown hts hK hP hD hS hA NS_ok hN hAe hl.1 ⟨Nat.le_refl _, Nat.le_refl _⟩ (c_X9_digit l D cy hs hH hT sH sT v_tape_size v_band_walkers v_band_loads v_band_pieces v_rules_clauses v_reader_end v_reader_at v_reader_length v_reader_letter v_reader_fault v_draft_clauses v_paces_version v_packing_quicker v_packing_loads v_packing_looseCount v_marches_told v_marches_changeMinutes v_marches_marching v_marches_gone v_search_known v_search_countHere v_search_countThere v_search_cost v_search_most v_search_found f_bytes f_knee f_weight f_limps f_bheft f_owner f_food f_miles f_slope f_rsteps f_rkind f_ryields f_rholds f_8 f_9 f_dsteps f_dkind f_dyields f_dholds f_dletters f_dstack f_7 f_11 f_10 f_pheft f_prow f_holder f_comes f_pcaps f_room f_loose f_reached f_mrow f_minutesOn f_mtired f_here f_there f_statesHere f_statesThere f_listed f_stired f_burdens f_pacesOn f_restedOn f_behindOn f_behindFor f_first f_second f_plans f_tiredOn tS H.size all l_12 (by omega) (by omega)) hN.1.1 lwd_625 lwd_2 lwd_626 hd_X9_digit ⟨Nat.le_of_ble_eq_true rfl, Nat.le_of_ble_eq_true rfl⟩ rfl (Nat.le_of_ble_eq_true rfl) dX3_sharedPace_27) (fun r_37 u_36 H locs hw hP hD hS => ?_)
        try dsimp only at hw hP hD
        have p_38 := hw
        clear hw
        refine lv_iload_n hx hb dX3_sharedPace_30 rfl (lv_at hl 3 rfl) ?_
        refine xi hD hS hA (xV (As := [.int l_12, .int r_37, .int i]) (rest := [.int l_12, .ref (hs 30)]) hx hb hml hown hts hK hP hD hS hA NS_ok hN hAe hl.1 ⟨Nat.le_refl _, Nat.le_refl _⟩ 27 rfl rfl rfl (c_X3_capsFrom l D cy hs hH hT sH sT v_tape_size v_band_walkers v_band_loads v_band_pieces v_rules_clauses v_reader_end v_reader_at v_reader_length v_reader_letter v_reader_fault v_draft_clauses v_paces_version v_packing_quicker v_packing_loads v_packing_looseCount v_marches_told v_marches_changeMinutes v_marches_marching v_marches_gone v_search_known v_search_countHere v_search_countThere v_search_cost v_search_most v_search_found f_bytes f_knee f_weight f_limps f_bheft f_owner f_food f_miles f_slope f_rsteps f_rkind f_ryields f_rholds f_8 f_9 f_dsteps f_dkind f_dyields f_dholds f_dletters f_dstack f_7 f_11 f_10 f_pheft f_prow f_holder f_comes f_pcaps f_room f_loose f_reached f_mrow f_minutesOn f_mtired f_here f_there f_statesHere f_statesThere f_listed f_stired f_burdens f_pacesOn f_restedOn f_behindOn f_behindFor f_first f_second f_plans f_tiredOn tS H.size l_12 r_37 i (by omega) (by omega) hr_weight hr_limps hr_miles hL3_13_0 (by omega) (by omega) (by omega)) (gi_V lwd_628 lwd_592 lwd_593 lwd_30 lwd_594) ⟨rfl, hd_X3_capsFrom⟩ ⟨Nat.le_of_ble_eq_true rfl, Nat.le_of_ble_eq_true rfl⟩ rfl (Nat.le_of_ble_eq_true rfl) dX3_sharedPace_31) (fun r_40 u_39 H locs hw hP hD hS => ?_)
        obtain ⟨zrletters_41, zrstack_42, zcaps_43, zversions_44⟩ := u_39
        try dsimp only at hw hP hD
        obtain ⟨p_45, p_46⟩ := hw
        refine as_sharing (x := r_40) hx hb hK hP hD hS hL3_13_1 (i_in (rfl : l_12.toInt = l_12.toInt) (by omega) (by omega)) (by omega) dX3_sharedPace_34 (fun f_47 ef_47 rf_47 H locs hP hD hS => ?_)
        obtain ⟨n_48, en_48⟩ : ∃ y : Int32, y = l_12 + 1 := ⟨_, rfl⟩
        have tn_48 : n_48.toInt = l_12.toInt + 1 := i_add en_48 (rfl : l_12.toInt = l_12.toInt) (by decide : (1 : Int32).toInt = 1) (by omega) (by omega)
        refine lv_iinc (v := n_48) (lv' := [(4, .int n_48), (0, .ref (hs 27)), (1, .int pd), (2, .int i), (3, .int all)]) hx hb dX3_sharedPace_35 hl (k := 0) rfl (by rw [en_48]; rfl) (by decide) rfl (fun ls hl => ?_)
        refine lv_goto (tgt := 3) hx hb dX3_sharedPace_38 (by decide) ?_
        exact ih3_13 zcaps_43 zrletters_41 zrstack_42 f_47 zversions_44 n_48 p_46 rf_47 (by omega) (by omega) _ _ _ hP hD hS (lv_sub hl [0, 1, 2, 3, 4] rfl)
  have k_49 : (0 : Int32).toInt = 0 := by decide
  exact L3_13 8589934592 f_caps f_rletters f_rstack f_sharing f_versions 0 hr_caps hr_sharing (by omega) (by omega) _ _ _ hP hD hS (lv_sub hl [0, 1, 2, 3, 4] rfl)
