set_option maxHeartbeats 16000000 in
set_option maxRecDepth 100000 in
theorem c_X6_take (l : Launch) (D : va_G) (cy : Nat → ClassId) (hs : Nat → Nat) (hH hT sH sT : Nat) (v_tape_size v_band_walkers v_band_loads v_band_pieces v_rules_clauses v_reader_end v_reader_at v_reader_length v_reader_letter v_reader_fault v_draft_clauses v_paces_version v_packing_quicker v_packing_loads v_packing_looseCount v_marches_told v_marches_changeMinutes v_marches_marching v_marches_gone v_search_known v_search_countHere v_search_countThere v_search_cost v_search_most : Int32) (v_search_found : Int64) (f_bytes f_knee f_weight f_limps f_bheft f_owner f_food f_miles f_slope f_rsteps f_rkind f_ryields f_rholds f_rletters f_rstack f_dsteps f_dkind f_dyields f_dholds f_dletters f_dstack f_caps f_versions f_sharing f_pheft f_prow f_holder f_comes f_pcaps f_room f_loose f_reached f_mrow f_minutesOn f_mtired : Nat → Int32) (f_here f_there : Nat → Int64) (f_statesHere f_statesThere f_listed f_stired f_burdens f_pacesOn f_restedOn f_behindOn f_behindFor f_first f_second : Nat → Int32) (f_plans f_tiredOn : Nat → Nat → Int32) (tS : Nat) (sz : Nat) (hb_v_rules_clauses : 0 ≤ v_rules_clauses.toInt ∧ v_rules_clauses.toInt ≤ 14) (hb_v_draft_clauses : 0 ≤ v_draft_clauses.toInt ∧ v_draft_clauses.toInt ≤ 14) : gMv l yX6_take cX6_take 2 1 [.ref (hs 12), .ref (hs 20)] D cy (wSP cy hs hH hT sH sT v_tape_size v_band_walkers v_band_loads v_band_pieces v_rules_clauses v_reader_end v_reader_at v_reader_length v_reader_letter v_reader_fault v_draft_clauses v_paces_version v_packing_quicker v_packing_loads v_packing_looseCount v_marches_told v_marches_changeMinutes v_marches_marching v_marches_gone v_search_known v_search_countHere v_search_countThere v_search_cost v_search_most v_search_found f_bytes f_knee f_weight f_limps f_bheft f_owner f_food f_miles f_slope f_rsteps f_rkind f_ryields f_rholds f_rletters f_rstack f_dsteps f_dkind f_dyields f_dholds f_dletters f_dstack f_caps f_versions f_sharing f_pheft f_prow f_holder f_comes f_pcaps f_room f_loose f_reached f_mrow f_minutesOn f_mtired f_here f_there f_statesHere f_statesThere f_listed f_stired f_burdens f_pacesOn f_restedOn f_behindOn f_behindFor f_first f_second f_plans f_tiredOn) (NS tS) sz (fun (u : Int32 × (Nat → Int32) × (Nat → Int32) × (Nat → Int32) × (Nat → Int32)) => (0 ≤ (u.1).toInt ∧ (u.1).toInt ≤ 14)) (fun u => wSP cy hs hH hT sH sT v_tape_size v_band_walkers v_band_loads v_band_pieces (u.1) v_reader_end v_reader_at v_reader_length v_reader_letter v_reader_fault v_draft_clauses v_paces_version v_packing_quicker v_packing_loads v_packing_looseCount v_marches_told v_marches_changeMinutes v_marches_marching v_marches_gone v_search_known v_search_countHere v_search_countThere v_search_cost v_search_most v_search_found f_bytes f_knee f_weight f_limps f_bheft f_owner f_food f_miles f_slope (u.2.1) (u.2.2.1) (u.2.2.2.1) (u.2.2.2.2) f_rletters f_rstack f_dsteps f_dkind f_dyields f_dholds f_dletters f_dstack f_caps f_versions f_sharing f_pheft f_prow f_holder f_comes f_pcaps f_room f_loose f_reached f_mrow f_minutesOn f_mtired f_here f_there f_statesHere f_statesThere f_listed f_stired f_burdens f_pacesOn f_restedOn f_behindOn f_behindFor f_first f_second f_plans f_tiredOn) := by
  refine gMv_in (by decide) (Nat.le_of_ble_eq_true rfl) ?_
  intro p e s m args below meth c A ls Q hx hb hml hts hown hsz hP hK hD hN hAe hA hS hl hret
  subst hsz
  have hl : lv_has ls 2 [(0, .ref (hs 12)), (1, .ref (hs 20))] := hl
  have hrt := fun (v_rules_clauses' : Int32) (f_rsteps' : Nat → Int32) (f_rkind' : Nat → Int32) (f_ryields' : Nat → Int32) (f_rholds' : Nat → Int32) (hp : (0 ≤ v_rules_clauses'.toInt ∧ v_rules_clauses'.toInt ≤ 14)) {H : Heap} {locs : List Loc} {pc : Nat} {ls : Array Slot} => hret (v_rules_clauses', f_rsteps', f_rkind', f_ryields', f_rholds') (H := H) (locs := locs) (pc := pc) (ls := ls) hp
  clear hret
  refine lv_aload_n hx hb dX6_take_0 rfl (lv_at hl 1 rfl) ?_
  refine gt_SP_draft_steps hx hb hts hown hK hP lwd_68 dX6_take_1 ?_
  refine lv_iconst (v := 0) hx hb dX6_take_4 (by decide) ?_
  refine lv_aload_n hx hb dX6_take_5 rfl (lv_at hl 0 rfl) ?_
  refine gt_SP_rules_steps hx hb hts hown hK hP lwd_68 dX6_take_6 ?_
  refine lv_iconst (v := 0) hx hb dX6_take_9 (by decide) ?_
  refine lv_sipush (v := 256) hx hb dX6_take_10 (by decide) ?_
  refine va_copyi hx hb (by rw [hml]; exact hl.1.symm) hown (hts _ lwd_390) (hts _ lwd_391) (hts _ lwd_392) (hts _ lwd_393) hK hP hD hS 21 13 0 0 rfl rfl rfl rfl rfl (by decide) (by decide) (by decide) (by decide) (by decide) (fun _ _ => rfl) (Nat.le_of_ble_eq_true rfl) (Nat.le_of_ble_eq_true rfl) dX6_take_13 (fun H locs hP hD hS => ?_)
  obtain ⟨f_1, ef_1⟩ : ∃ z, z = va_cpy f_dsteps f_rsteps (0 : Int32).toNatClampNeg (0 : Int32).toNatClampNeg (256 : Int32).toNatClampNeg := ⟨_, rfl⟩
  have hP : va_P D vwCl (wSP cy hs hH hT sH sT v_tape_size v_band_walkers v_band_loads v_band_pieces v_rules_clauses v_reader_end v_reader_at v_reader_length v_reader_letter v_reader_fault v_draft_clauses v_paces_version v_packing_quicker v_packing_loads v_packing_looseCount v_marches_told v_marches_changeMinutes v_marches_marching v_marches_gone v_search_known v_search_countHere v_search_countThere v_search_cost v_search_most v_search_found f_bytes f_knee f_weight f_limps f_bheft f_owner f_food f_miles f_slope f_1 f_rkind f_ryields f_rholds f_rletters f_rstack f_dsteps f_dkind f_dyields f_dholds f_dletters f_dstack f_caps f_versions f_sharing f_pheft f_prow f_holder f_comes f_pcaps f_room f_loose f_reached f_mrow f_minutesOn f_mtired f_here f_there f_statesHere f_statesThere f_listed f_stired f_burdens f_pacesOn f_restedOn f_behindOn f_behindFor f_first f_second f_plans f_tiredOn) H := ef_1 ▸ (show va_P D vwCl (wSP cy hs hH hT sH sT v_tape_size v_band_walkers v_band_loads v_band_pieces v_rules_clauses v_reader_end v_reader_at v_reader_length v_reader_letter v_reader_fault v_draft_clauses v_paces_version v_packing_quicker v_packing_loads v_packing_looseCount v_marches_told v_marches_changeMinutes v_marches_marching v_marches_gone v_search_known v_search_countHere v_search_countThere v_search_cost v_search_most v_search_found f_bytes f_knee f_weight f_limps f_bheft f_owner f_food f_miles f_slope (va_cpy f_dsteps f_rsteps (0 : Int32).toNatClampNeg (0 : Int32).toNatClampNeg (256 : Int32).toNatClampNeg) f_rkind f_ryields f_rholds f_rletters f_rstack f_dsteps f_dkind f_dyields f_dholds f_dletters f_dstack f_caps f_versions f_sharing f_pheft f_prow f_holder f_comes f_pcaps f_room f_loose f_reached f_mrow f_minutesOn f_mtired f_here f_there f_statesHere f_statesThere f_listed f_stired f_burdens f_pacesOn f_restedOn f_behindOn f_behindFor f_first f_second f_plans f_tiredOn) H from hP)
  have hD : va_D A (wSP cy hs hH hT sH sT v_tape_size v_band_walkers v_band_loads v_band_pieces v_rules_clauses v_reader_end v_reader_at v_reader_length v_reader_letter v_reader_fault v_draft_clauses v_paces_version v_packing_quicker v_packing_loads v_packing_looseCount v_marches_told v_marches_changeMinutes v_marches_marching v_marches_gone v_search_known v_search_countHere v_search_countThere v_search_cost v_search_most v_search_found f_bytes f_knee f_weight f_limps f_bheft f_owner f_food f_miles f_slope f_1 f_rkind f_ryields f_rholds f_rletters f_rstack f_dsteps f_dkind f_dyields f_dholds f_dletters f_dstack f_caps f_versions f_sharing f_pheft f_prow f_holder f_comes f_pcaps f_room f_loose f_reached f_mrow f_minutesOn f_mtired f_here f_there f_statesHere f_statesThere f_listed f_stired f_burdens f_pacesOn f_restedOn f_behindOn f_behindFor f_first f_second f_plans f_tiredOn) := ef_1 ▸ (show va_D A (wSP cy hs hH hT sH sT v_tape_size v_band_walkers v_band_loads v_band_pieces v_rules_clauses v_reader_end v_reader_at v_reader_length v_reader_letter v_reader_fault v_draft_clauses v_paces_version v_packing_quicker v_packing_loads v_packing_looseCount v_marches_told v_marches_changeMinutes v_marches_marching v_marches_gone v_search_known v_search_countHere v_search_countThere v_search_cost v_search_most v_search_found f_bytes f_knee f_weight f_limps f_bheft f_owner f_food f_miles f_slope (va_cpy f_dsteps f_rsteps (0 : Int32).toNatClampNeg (0 : Int32).toNatClampNeg (256 : Int32).toNatClampNeg) f_rkind f_ryields f_rholds f_rletters f_rstack f_dsteps f_dkind f_dyields f_dholds f_dletters f_dstack f_caps f_versions f_sharing f_pheft f_prow f_holder f_comes f_pcaps f_room f_loose f_reached f_mrow f_minutesOn f_mtired f_here f_there f_statesHere f_statesThere f_listed f_stired f_burdens f_pacesOn f_restedOn f_behindOn f_behindFor f_first f_second f_plans f_tiredOn) from hD)
  refine lv_aload_n hx hb dX6_take_16 rfl (lv_at hl 1 rfl) ?_
  refine gt_SP_draft_kind hx hb hts hown hK hP lwd_69 dX6_take_17 ?_
  refine lv_iconst (v := 0) hx hb dX6_take_20 (by decide) ?_
  refine lv_aload_n hx hb dX6_take_21 rfl (lv_at hl 0 rfl) ?_
  refine gt_SP_rules_kind hx hb hts hown hK hP lwd_69 dX6_take_22 ?_
  refine lv_iconst (v := 0) hx hb dX6_take_25 (by decide) ?_
  refine lv_bipush (v := 14) hx hb dX6_take_26 (by decide) ?_
  refine va_copyi hx hb (by rw [hml]; exact hl.1.symm) hown (hts _ lwd_390) (hts _ lwd_391) (hts _ lwd_392) (hts _ lwd_393) hK hP hD hS 22 14 0 0 rfl rfl rfl rfl rfl (by decide) (by decide) (by decide) (by decide) (by decide) (fun _ _ => rfl) (Nat.le_of_ble_eq_true rfl) (Nat.le_of_ble_eq_true rfl) dX6_take_28 (fun H locs hP hD hS => ?_)
  obtain ⟨f_2, ef_2⟩ : ∃ z, z = va_cpy f_dkind f_rkind (0 : Int32).toNatClampNeg (0 : Int32).toNatClampNeg (14 : Int32).toNatClampNeg := ⟨_, rfl⟩
  have hP : va_P D vwCl (wSP cy hs hH hT sH sT v_tape_size v_band_walkers v_band_loads v_band_pieces v_rules_clauses v_reader_end v_reader_at v_reader_length v_reader_letter v_reader_fault v_draft_clauses v_paces_version v_packing_quicker v_packing_loads v_packing_looseCount v_marches_told v_marches_changeMinutes v_marches_marching v_marches_gone v_search_known v_search_countHere v_search_countThere v_search_cost v_search_most v_search_found f_bytes f_knee f_weight f_limps f_bheft f_owner f_food f_miles f_slope f_1 f_2 f_ryields f_rholds f_rletters f_rstack f_dsteps f_dkind f_dyields f_dholds f_dletters f_dstack f_caps f_versions f_sharing f_pheft f_prow f_holder f_comes f_pcaps f_room f_loose f_reached f_mrow f_minutesOn f_mtired f_here f_there f_statesHere f_statesThere f_listed f_stired f_burdens f_pacesOn f_restedOn f_behindOn f_behindFor f_first f_second f_plans f_tiredOn) H := ef_2 ▸ (show va_P D vwCl (wSP cy hs hH hT sH sT v_tape_size v_band_walkers v_band_loads v_band_pieces v_rules_clauses v_reader_end v_reader_at v_reader_length v_reader_letter v_reader_fault v_draft_clauses v_paces_version v_packing_quicker v_packing_loads v_packing_looseCount v_marches_told v_marches_changeMinutes v_marches_marching v_marches_gone v_search_known v_search_countHere v_search_countThere v_search_cost v_search_most v_search_found f_bytes f_knee f_weight f_limps f_bheft f_owner f_food f_miles f_slope f_1 (va_cpy f_dkind f_rkind (0 : Int32).toNatClampNeg (0 : Int32).toNatClampNeg (14 : Int32).toNatClampNeg) f_ryields f_rholds f_rletters f_rstack f_dsteps f_dkind f_dyields f_dholds f_dletters f_dstack f_caps f_versions f_sharing f_pheft f_prow f_holder f_comes f_pcaps f_room f_loose f_reached f_mrow f_minutesOn f_mtired f_here f_there f_statesHere f_statesThere f_listed f_stired f_burdens f_pacesOn f_restedOn f_behindOn f_behindFor f_first f_second f_plans f_tiredOn) H from hP)
  have hD : va_D A (wSP cy hs hH hT sH sT v_tape_size v_band_walkers v_band_loads v_band_pieces v_rules_clauses v_reader_end v_reader_at v_reader_length v_reader_letter v_reader_fault v_draft_clauses v_paces_version v_packing_quicker v_packing_loads v_packing_looseCount v_marches_told v_marches_changeMinutes v_marches_marching v_marches_gone v_search_known v_search_countHere v_search_countThere v_search_cost v_search_most v_search_found f_bytes f_knee f_weight f_limps f_bheft f_owner f_food f_miles f_slope f_1 f_2 f_ryields f_rholds f_rletters f_rstack f_dsteps f_dkind f_dyields f_dholds f_dletters f_dstack f_caps f_versions f_sharing f_pheft f_prow f_holder f_comes f_pcaps f_room f_loose f_reached f_mrow f_minutesOn f_mtired f_here f_there f_statesHere f_statesThere f_listed f_stired f_burdens f_pacesOn f_restedOn f_behindOn f_behindFor f_first f_second f_plans f_tiredOn) := ef_2 ▸ (show va_D A (wSP cy hs hH hT sH sT v_tape_size v_band_walkers v_band_loads v_band_pieces v_rules_clauses v_reader_end v_reader_at v_reader_length v_reader_letter v_reader_fault v_draft_clauses v_paces_version v_packing_quicker v_packing_loads v_packing_looseCount v_marches_told v_marches_changeMinutes v_marches_marching v_marches_gone v_search_known v_search_countHere v_search_countThere v_search_cost v_search_most v_search_found f_bytes f_knee f_weight f_limps f_bheft f_owner f_food f_miles f_slope f_1 (va_cpy f_dkind f_rkind (0 : Int32).toNatClampNeg (0 : Int32).toNatClampNeg (14 : Int32).toNatClampNeg) f_ryields f_rholds f_rletters f_rstack f_dsteps f_dkind f_dyields f_dholds f_dletters f_dstack f_caps f_versions f_sharing f_pheft f_prow f_holder f_comes f_pcaps f_room f_loose f_reached f_mrow f_minutesOn f_mtired f_here f_there f_statesHere f_statesThere f_listed f_stired f_burdens f_pacesOn f_restedOn f_behindOn f_behindFor f_first f_second f_plans f_tiredOn) from hD)
  refine lv_aload_n hx hb dX6_take_31 rfl (lv_at hl 1 rfl) ?_
  refine gt_SP_draft_yields hx hb hts hown hK hP lwd_70 dX6_take_32 ?_
  refine lv_iconst (v := 0) hx hb dX6_take_35 (by decide) ?_
  refine lv_aload_n hx hb dX6_take_36 rfl (lv_at hl 0 rfl) ?_
  refine gt_SP_rules_yields hx hb hts hown hK hP lwd_70 dX6_take_37 ?_
  refine lv_iconst (v := 0) hx hb dX6_take_40 (by decide) ?_
  refine lv_bipush (v := 14) hx hb dX6_take_41 (by decide) ?_
  refine va_copyi hx hb (by rw [hml]; exact hl.1.symm) hown (hts _ lwd_390) (hts _ lwd_391) (hts _ lwd_392) (hts _ lwd_393) hK hP hD hS 23 15 0 0 rfl rfl rfl rfl rfl (by decide) (by decide) (by decide) (by decide) (by decide) (fun _ _ => rfl) (Nat.le_of_ble_eq_true rfl) (Nat.le_of_ble_eq_true rfl) dX6_take_43 (fun H locs hP hD hS => ?_)
  obtain ⟨f_3, ef_3⟩ : ∃ z, z = va_cpy f_dyields f_ryields (0 : Int32).toNatClampNeg (0 : Int32).toNatClampNeg (14 : Int32).toNatClampNeg := ⟨_, rfl⟩
  have hP : va_P D vwCl (wSP cy hs hH hT sH sT v_tape_size v_band_walkers v_band_loads v_band_pieces v_rules_clauses v_reader_end v_reader_at v_reader_length v_reader_letter v_reader_fault v_draft_clauses v_paces_version v_packing_quicker v_packing_loads v_packing_looseCount v_marches_told v_marches_changeMinutes v_marches_marching v_marches_gone v_search_known v_search_countHere v_search_countThere v_search_cost v_search_most v_search_found f_bytes f_knee f_weight f_limps f_bheft f_owner f_food f_miles f_slope f_1 f_2 f_3 f_rholds f_rletters f_rstack f_dsteps f_dkind f_dyields f_dholds f_dletters f_dstack f_caps f_versions f_sharing f_pheft f_prow f_holder f_comes f_pcaps f_room f_loose f_reached f_mrow f_minutesOn f_mtired f_here f_there f_statesHere f_statesThere f_listed f_stired f_burdens f_pacesOn f_restedOn f_behindOn f_behindFor f_first f_second f_plans f_tiredOn) H := ef_3 ▸ (show va_P D vwCl (wSP cy hs hH hT sH sT v_tape_size v_band_walkers v_band_loads v_band_pieces v_rules_clauses v_reader_end v_reader_at v_reader_length v_reader_letter v_reader_fault v_draft_clauses v_paces_version v_packing_quicker v_packing_loads v_packing_looseCount v_marches_told v_marches_changeMinutes v_marches_marching v_marches_gone v_search_known v_search_countHere v_search_countThere v_search_cost v_search_most v_search_found f_bytes f_knee f_weight f_limps f_bheft f_owner f_food f_miles f_slope f_1 f_2 (va_cpy f_dyields f_ryields (0 : Int32).toNatClampNeg (0 : Int32).toNatClampNeg (14 : Int32).toNatClampNeg) f_rholds f_rletters f_rstack f_dsteps f_dkind f_dyields f_dholds f_dletters f_dstack f_caps f_versions f_sharing f_pheft f_prow f_holder f_comes f_pcaps f_room f_loose f_reached f_mrow f_minutesOn f_mtired f_here f_there f_statesHere f_statesThere f_listed f_stired f_burdens f_pacesOn f_restedOn f_behindOn f_behindFor f_first f_second f_plans f_tiredOn) H from hP)
  have hD : va_D A (wSP cy hs hH hT sH sT v_tape_size v_band_walkers v_band_loads v_band_pieces v_rules_clauses v_reader_end v_reader_at v_reader_length v_reader_letter v_reader_fault v_draft_clauses v_paces_version v_packing_quicker v_packing_loads v_packing_looseCount v_marches_told v_marches_changeMinutes v_marches_marching v_marches_gone v_search_known v_search_countHere v_search_countThere v_search_cost v_search_most v_search_found f_bytes f_knee f_weight f_limps f_bheft f_owner f_food f_miles f_slope f_1 f_2 f_3 f_rholds f_rletters f_rstack f_dsteps f_dkind f_dyields f_dholds f_dletters f_dstack f_caps f_versions f_sharing f_pheft f_prow f_holder f_comes f_pcaps f_room f_loose f_reached f_mrow f_minutesOn f_mtired f_here f_there f_statesHere f_statesThere f_listed f_stired f_burdens f_pacesOn f_restedOn f_behindOn f_behindFor f_first f_second f_plans f_tiredOn) := ef_3 ▸ (show va_D A (wSP cy hs hH hT sH sT v_tape_size v_band_walkers v_band_loads v_band_pieces v_rules_clauses v_reader_end v_reader_at v_reader_length v_reader_letter v_reader_fault v_draft_clauses v_paces_version v_packing_quicker v_packing_loads v_packing_looseCount v_marches_told v_marches_changeMinutes v_marches_marching v_marches_gone v_search_known v_search_countHere v_search_countThere v_search_cost v_search_most v_search_found f_bytes f_knee f_weight f_limps f_bheft f_owner f_food f_miles f_slope f_1 f_2 (va_cpy f_dyields f_ryields (0 : Int32).toNatClampNeg (0 : Int32).toNatClampNeg (14 : Int32).toNatClampNeg) f_rholds f_rletters f_rstack f_dsteps f_dkind f_dyields f_dholds f_dletters f_dstack f_caps f_versions f_sharing f_pheft f_prow f_holder f_comes f_pcaps f_room f_loose f_reached f_mrow f_minutesOn f_mtired f_here f_there f_statesHere f_statesThere f_listed f_stired f_burdens f_pacesOn f_restedOn f_behindOn f_behindFor f_first f_second f_plans f_tiredOn) from hD)
  refine lv_aload_n hx hb dX6_take_46 rfl (lv_at hl 1 rfl) ?_
  refine gt_SP_draft_holds hx hb hts hown hK hP lwd_71 dX6_take_47 ?_
  refine lv_iconst (v := 0) hx hb dX6_take_50 (by decide) ?_
  refine lv_aload_n hx hb dX6_take_51 rfl (lv_at hl 0 rfl) ?_
  refine gt_SP_rules_holds hx hb hts hown hK hP lwd_71 dX6_take_52 ?_
  refine lv_iconst (v := 0) hx hb dX6_take_55 (by decide) ?_
  refine lv_bipush (v := 14) hx hb dX6_take_56 (by decide) ?_
  refine va_copyi hx hb (by rw [hml]; exact hl.1.symm) hown (hts _ lwd_390) (hts _ lwd_391) (hts _ lwd_392) (hts _ lwd_393) hK hP hD hS 24 16 0 0 rfl rfl rfl rfl rfl (by decide) (by decide) (by decide) (by decide) (by decide) (fun _ _ => rfl) (Nat.le_of_ble_eq_true rfl) (Nat.le_of_ble_eq_true rfl) dX6_take_58 (fun H locs hP hD hS => ?_)
  obtain ⟨f_4, ef_4⟩ : ∃ z, z = va_cpy f_dholds f_rholds (0 : Int32).toNatClampNeg (0 : Int32).toNatClampNeg (14 : Int32).toNatClampNeg := ⟨_, rfl⟩
  have hP : va_P D vwCl (wSP cy hs hH hT sH sT v_tape_size v_band_walkers v_band_loads v_band_pieces v_rules_clauses v_reader_end v_reader_at v_reader_length v_reader_letter v_reader_fault v_draft_clauses v_paces_version v_packing_quicker v_packing_loads v_packing_looseCount v_marches_told v_marches_changeMinutes v_marches_marching v_marches_gone v_search_known v_search_countHere v_search_countThere v_search_cost v_search_most v_search_found f_bytes f_knee f_weight f_limps f_bheft f_owner f_food f_miles f_slope f_1 f_2 f_3 f_4 f_rletters f_rstack f_dsteps f_dkind f_dyields f_dholds f_dletters f_dstack f_caps f_versions f_sharing f_pheft f_prow f_holder f_comes f_pcaps f_room f_loose f_reached f_mrow f_minutesOn f_mtired f_here f_there f_statesHere f_statesThere f_listed f_stired f_burdens f_pacesOn f_restedOn f_behindOn f_behindFor f_first f_second f_plans f_tiredOn) H := ef_4 ▸ (show va_P D vwCl (wSP cy hs hH hT sH sT v_tape_size v_band_walkers v_band_loads v_band_pieces v_rules_clauses v_reader_end v_reader_at v_reader_length v_reader_letter v_reader_fault v_draft_clauses v_paces_version v_packing_quicker v_packing_loads v_packing_looseCount v_marches_told v_marches_changeMinutes v_marches_marching v_marches_gone v_search_known v_search_countHere v_search_countThere v_search_cost v_search_most v_search_found f_bytes f_knee f_weight f_limps f_bheft f_owner f_food f_miles f_slope f_1 f_2 f_3 (va_cpy f_dholds f_rholds (0 : Int32).toNatClampNeg (0 : Int32).toNatClampNeg (14 : Int32).toNatClampNeg) f_rletters f_rstack f_dsteps f_dkind f_dyields f_dholds f_dletters f_dstack f_caps f_versions f_sharing f_pheft f_prow f_holder f_comes f_pcaps f_room f_loose f_reached f_mrow f_minutesOn f_mtired f_here f_there f_statesHere f_statesThere f_listed f_stired f_burdens f_pacesOn f_restedOn f_behindOn f_behindFor f_first f_second f_plans f_tiredOn) H from hP)
  have hD : va_D A (wSP cy hs hH hT sH sT v_tape_size v_band_walkers v_band_loads v_band_pieces v_rules_clauses v_reader_end v_reader_at v_reader_length v_reader_letter v_reader_fault v_draft_clauses v_paces_version v_packing_quicker v_packing_loads v_packing_looseCount v_marches_told v_marches_changeMinutes v_marches_marching v_marches_gone v_search_known v_search_countHere v_search_countThere v_search_cost v_search_most v_search_found f_bytes f_knee f_weight f_limps f_bheft f_owner f_food f_miles f_slope f_1 f_2 f_3 f_4 f_rletters f_rstack f_dsteps f_dkind f_dyields f_dholds f_dletters f_dstack f_caps f_versions f_sharing f_pheft f_prow f_holder f_comes f_pcaps f_room f_loose f_reached f_mrow f_minutesOn f_mtired f_here f_there f_statesHere f_statesThere f_listed f_stired f_burdens f_pacesOn f_restedOn f_behindOn f_behindFor f_first f_second f_plans f_tiredOn) := ef_4 ▸ (show va_D A (wSP cy hs hH hT sH sT v_tape_size v_band_walkers v_band_loads v_band_pieces v_rules_clauses v_reader_end v_reader_at v_reader_length v_reader_letter v_reader_fault v_draft_clauses v_paces_version v_packing_quicker v_packing_loads v_packing_looseCount v_marches_told v_marches_changeMinutes v_marches_marching v_marches_gone v_search_known v_search_countHere v_search_countThere v_search_cost v_search_most v_search_found f_bytes f_knee f_weight f_limps f_bheft f_owner f_food f_miles f_slope f_1 f_2 f_3 (va_cpy f_dholds f_rholds (0 : Int32).toNatClampNeg (0 : Int32).toNatClampNeg (14 : Int32).toNatClampNeg) f_rletters f_rstack f_dsteps f_dkind f_dyields f_dholds f_dletters f_dstack f_caps f_versions f_sharing f_pheft f_prow f_holder f_comes f_pcaps f_room f_loose f_reached f_mrow f_minutesOn f_mtired f_here f_there f_statesHere f_statesThere f_listed f_stired f_burdens f_pacesOn f_restedOn f_behindOn f_behindFor f_first f_second f_plans f_tiredOn) from hD)
  refine lv_aload_n hx hb dX6_take_61 rfl (lv_at hl 0 rfl) ?_
  refine lv_aload_n hx hb dX6_take_62 rfl (lv_at hl 1 rfl) ?_
  refine gt_SP_draft_clauses hx hb hts hown hK hP lwd_394 dX6_take_63 ?_
  refine pt_SP_rules_clauses (x := v_draft_clauses) hx hb hts hown hK hP hD hS lwd_394 dX6_take_66 (fun H locs hP hD hS => ?_)
  exact hrt v_draft_clauses f_1 f_2 f_3 f_4 (by omega) hP hD hS dX6_take_69
set_option maxHeartbeats 16000000 in
set_option maxRecDepth 100000 in
theorem c_X4_capAt (l : Launch) (D : va_G) (cy : Nat → ClassId) (hs : Nat → Nat) (hH hT sH sT : Nat) (v_tape_size v_band_walkers v_band_loads v_band_pieces v_rules_clauses v_reader_end v_reader_at v_reader_length v_reader_letter v_reader_fault v_draft_clauses v_paces_version v_packing_quicker v_packing_loads v_packing_looseCount v_marches_told v_marches_changeMinutes v_marches_marching v_marches_gone v_search_known v_search_countHere v_search_countThere v_search_cost v_search_most : Int32) (v_search_found : Int64) (f_bytes f_knee f_weight f_limps f_bheft f_owner f_food f_miles f_slope f_rsteps f_rkind f_ryields f_rholds f_rletters f_rstack f_dsteps f_dkind f_dyields f_dholds f_dletters f_dstack f_caps f_versions f_sharing f_pheft f_prow f_holder f_comes f_pcaps f_room f_loose f_reached f_mrow f_minutesOn f_mtired : Nat → Int32) (f_here f_there : Nat → Int64) (f_statesHere f_statesThere f_listed f_stired f_burdens f_pacesOn f_restedOn f_behindOn f_behindFor f_first f_second : Nat → Int32) (f_plans f_tiredOn : Nat → Nat → Int32) (tS : Nat) (sz : Nat) (w : Int32) (q : Int32) (hb_v_packing_quicker : -1 ≤ v_packing_quicker.toInt ∧ v_packing_quicker.toInt ≤ 5) (hr_caps : rg (-1) 400 f_caps) (hr_pcaps : rg (0) 21899 f_pcaps) (ha_w : 0 ≤ w.toInt ∧ w.toInt ≤ 5) (ha_q : 1 ≤ q.toInt ∧ q.toInt ≤ 60) : gMi l yX4_capAt cX4_capAt 3 .int 1 [.ref (hs 31), .int w, .int q] D cy (wSP cy hs hH hT sH sT v_tape_size v_band_walkers v_band_loads v_band_pieces v_rules_clauses v_reader_end v_reader_at v_reader_length v_reader_letter v_reader_fault v_draft_clauses v_paces_version v_packing_quicker v_packing_loads v_packing_looseCount v_marches_told v_marches_changeMinutes v_marches_marching v_marches_gone v_search_known v_search_countHere v_search_countThere v_search_cost v_search_most v_search_found f_bytes f_knee f_weight f_limps f_bheft f_owner f_food f_miles f_slope f_rsteps f_rkind f_ryields f_rholds f_rletters f_rstack f_dsteps f_dkind f_dyields f_dholds f_dletters f_dstack f_caps f_versions f_sharing f_pheft f_prow f_holder f_comes f_pcaps f_room f_loose f_reached f_mrow f_minutesOn f_mtired f_here f_there f_statesHere f_statesThere f_listed f_stired f_burdens f_pacesOn f_restedOn f_behindOn f_behindFor f_first f_second f_plans f_tiredOn) (NS tS) sz (fun (r : Int32) (u : Unit) => (-1 ≤ r.toInt ∧ r.toInt ≤ 400)) (fun u => wSP cy hs hH hT sH sT v_tape_size v_band_walkers v_band_loads v_band_pieces v_rules_clauses v_reader_end v_reader_at v_reader_length v_reader_letter v_reader_fault v_draft_clauses v_paces_version v_packing_quicker v_packing_loads v_packing_looseCount v_marches_told v_marches_changeMinutes v_marches_marching v_marches_gone v_search_known v_search_countHere v_search_countThere v_search_cost v_search_most v_search_found f_bytes f_knee f_weight f_limps f_bheft f_owner f_food f_miles f_slope f_rsteps f_rkind f_ryields f_rholds f_rletters f_rstack f_dsteps f_dkind f_dyields f_dholds f_dletters f_dstack f_caps f_versions f_sharing f_pheft f_prow f_holder f_comes f_pcaps f_room f_loose f_reached f_mrow f_minutesOn f_mtired f_here f_there f_statesHere f_statesThere f_listed f_stired f_burdens f_pacesOn f_restedOn f_behindOn f_behindFor f_first f_second f_plans f_tiredOn) := by
  refine gMi_in (by decide) (Nat.le_of_ble_eq_true rfl) ?_
  intro p e s m args below meth c A ls Q hx hb hml hts hown hsz hP hK hD hN hAe hA hS hl hret
  subst hsz
  have hl : lv_has ls 3 [(0, .ref (hs 31)), (1, .int w), (2, .int q)] := hl
  have hrt := fun (r : Int32)  (hp : (-1 ≤ r.toInt ∧ r.toInt ≤ 400)) {H : Heap} {locs : List Loc} {pc : Nat} {ls : Array Slot} => hret r () (H := H) (locs := locs) (pc := pc) (ls := ls) hp
  clear hret
  refine lv_iload_n hx hb dX4_capAt_0 rfl (lv_at hl 1 rfl) ?_
  refine lv_aload_n hx hb dX4_capAt_1 rfl (lv_at hl 0 rfl) ?_
  refine gt_SP_packing_quicker hx hb hts hown hK hP lwd_686 dX4_capAt_2 ?_
  refine lv_icmp_ne (tgt := 17) hx hb dX4_capAt_5 (by decide) (fun c_1 => ?_) (fun c_1 => ?_)
  · have gc_1 : w.toInt ≠ v_packing_quicker.toInt := i_ne (rfl : w.toInt = w.toInt) (rfl : v_packing_quicker.toInt = v_packing_quicker.toInt) c_1
    refine lv_aload_n hx hb dX4_capAt_17 rfl (lv_at hl 0 rfl) ?_
    refine gt_SP_packing_paces hx hb hts hown hK hP lwd_104 dX4_capAt_18 ?_
    refine gt_SP_paces_caps hx hb hts hown hK hP lwd_714 dX4_capAt_21 ?_
    refine lv_aload_n hx hb dX4_capAt_24 rfl (lv_at hl 0 rfl) ?_
    refine gt_SP_packing_capsFrom hx hb hts hown hK hP lwd_99 dX4_capAt_25 ?_
    refine lv_iload_n hx hb dX4_capAt_28 rfl (lv_at hl 1 rfl) ?_
    refine al_pcaps hx hb hK hP hr_pcaps (i_in (rfl : w.toInt = w.toInt) (by omega) (by omega)) dX4_capAt_29 (fun n_2 en_2 bn_2 => ?_)
    refine lv_iload_n hx hb dX4_capAt_30 rfl (lv_at hl 1 rfl) ?_
    refine lv_aload_n hx hb dX4_capAt_31 rfl (lv_at hl 0 rfl) ?_
    refine gt_SP_packing_quicker hx hb hts hown hK hP lwd_686 dX4_capAt_32 ?_
    refine lv_icmp_ne (tgt := 44) hx hb dX4_capAt_35 (by decide) (fun c_3 => ?_) (fun c_3 => ?_)
    · have gc_3 : w.toInt ≠ v_packing_quicker.toInt := i_ne (rfl : w.toInt = w.toInt) (rfl : v_packing_quicker.toInt = v_packing_quicker.toInt) c_3
      refine lv_iload_n hx hb dX4_capAt_44 rfl (lv_at hl 2 rfl) ?_
      refine lv_iadd hx hb dX4_capAt_45 ?_
      refine lv_topi (fun n_4 en_4 => ?_)
      have tn_4 : n_4.toInt = n_2.toInt + q.toInt := i_add en_4 (rfl : n_2.toInt = n_2.toInt) (rfl : q.toInt = q.toInt) (by omega) (by omega)
      refine al_caps hx hb hK hP hr_caps (i_in tn_4 (by omega) (by omega)) dX4_capAt_46 (fun n_5 en_5 bn_5 => ?_)
      exact hrt n_5  (by omega) hP hD hS rfl dX4_capAt_47
    · have gc_3 : w.toInt = v_packing_quicker.toInt := i_eq (rfl : w.toInt = w.toInt) (rfl : v_packing_quicker.toInt = v_packing_quicker.toInt) c_3
      exact absurd gc_3 (by omega)
  · have gc_1 : w.toInt = v_packing_quicker.toInt := i_eq (rfl : w.toInt = w.toInt) (rfl : v_packing_quicker.toInt = v_packing_quicker.toInt) c_1
    refine lv_iload_n hx hb dX4_capAt_8 rfl (lv_at hl 2 rfl) ?_
    refine lv_iconst (v := 1) hx hb dX4_capAt_9 (by decide) ?_
    refine lv_icmp_ne (tgt := 17) hx hb dX4_capAt_10 (by decide) (fun c_6 => ?_) (fun c_6 => ?_)
    · have gc_6 : q.toInt ≠ 1 := i_ne (rfl : q.toInt = q.toInt) (by decide : (1 : Int32).toInt = 1) c_6
      refine lv_aload_n hx hb dX4_capAt_17 rfl (lv_at hl 0 rfl) ?_
      refine gt_SP_packing_paces hx hb hts hown hK hP lwd_104 dX4_capAt_18 ?_
      refine gt_SP_paces_caps hx hb hts hown hK hP lwd_714 dX4_capAt_21 ?_
      refine lv_aload_n hx hb dX4_capAt_24 rfl (lv_at hl 0 rfl) ?_
      refine gt_SP_packing_capsFrom hx hb hts hown hK hP lwd_99 dX4_capAt_25 ?_
      refine lv_iload_n hx hb dX4_capAt_28 rfl (lv_at hl 1 rfl) ?_
      refine al_pcaps hx hb hK hP hr_pcaps (i_in (rfl : w.toInt = w.toInt) (by omega) (by omega)) dX4_capAt_29 (fun n_7 en_7 bn_7 => ?_)
      refine lv_iload_n hx hb dX4_capAt_30 rfl (lv_at hl 1 rfl) ?_
      refine lv_aload_n hx hb dX4_capAt_31 rfl (lv_at hl 0 rfl) ?_
      refine gt_SP_packing_quicker hx hb hts hown hK hP lwd_686 dX4_capAt_32 ?_
      refine lv_icmp_ne (tgt := 44) hx hb dX4_capAt_35 (by decide) (fun c_8 => ?_) (fun c_8 => ?_)
      · have gc_8 : w.toInt ≠ v_packing_quicker.toInt := i_ne (rfl : w.toInt = w.toInt) (rfl : v_packing_quicker.toInt = v_packing_quicker.toInt) c_8
        exact absurd gc_8 (by omega)
      · have gc_8 : w.toInt = v_packing_quicker.toInt := i_eq (rfl : w.toInt = w.toInt) (rfl : v_packing_quicker.toInt = v_packing_quicker.toInt) c_8
        refine lv_iload_n hx hb dX4_capAt_38 rfl (lv_at hl 2 rfl) ?_
        refine lv_iconst (v := 1) hx hb dX4_capAt_39 (by decide) ?_
        refine lv_isub hx hb dX4_capAt_40 ?_
        refine lv_topi (fun n_9 en_9 => ?_)
        have tn_9 : n_9.toInt = q.toInt - 1 := i_sub en_9 (rfl : q.toInt = q.toInt) (by decide : (1 : Int32).toInt = 1) (by omega) (by omega)
        refine lv_goto (tgt := 45) hx hb dX4_capAt_41 (by decide) ?_
        refine lv_iadd hx hb dX4_capAt_45 ?_
        refine lv_topi (fun n_10 en_10 => ?_)
        have tn_10 : n_10.toInt = n_7.toInt + (q.toInt - 1) := i_add en_10 (rfl : n_7.toInt = n_7.toInt) tn_9 (by omega) (by omega)
        refine al_caps hx hb hK hP hr_caps (i_in tn_10 (by omega) (by omega)) dX4_capAt_46 (fun n_11 en_11 bn_11 => ?_)
        exact hrt n_11  (by omega) hP hD hS rfl dX4_capAt_47
    · have gc_6 : q.toInt = 1 := i_eq (rfl : q.toInt = q.toInt) (by decide : (1 : Int32).toInt = 1) c_6
      refine lv_sipush (v := 400) hx hb dX4_capAt_13 (by decide) ?_
      have k_12 : (400 : Int32).toInt = 400 := by decide
      exact hrt 400  (by omega) hP hD hS rfl dX4_capAt_16
set_option maxHeartbeats 16000000 in
set_option maxRecDepth 100000 in
theorem c_X4_openRooms (l : Launch) (D : va_G) (cy : Nat → ClassId) (hs : Nat → Nat) (hH hT sH sT : Nat) (v_tape_size v_band_walkers v_band_loads v_band_pieces v_rules_clauses v_reader_end v_reader_at v_reader_length v_reader_letter v_reader_fault v_draft_clauses v_paces_version v_packing_quicker v_packing_loads v_packing_looseCount v_marches_told v_marches_changeMinutes v_marches_marching v_marches_gone v_search_known v_search_countHere v_search_countThere v_search_cost v_search_most : Int32) (v_search_found : Int64) (f_bytes f_knee f_weight f_limps f_bheft f_owner f_food f_miles f_slope f_rsteps f_rkind f_ryields f_rholds f_rletters f_rstack f_dsteps f_dkind f_dyields f_dholds f_dletters f_dstack f_caps f_versions f_sharing f_pheft f_prow f_holder f_comes f_pcaps f_room f_loose f_reached f_mrow f_minutesOn f_mtired : Nat → Int32) (f_here f_there : Nat → Int64) (f_statesHere f_statesThere f_listed f_stired f_burdens f_pacesOn f_restedOn f_behindOn f_behindFor f_first f_second : Nat → Int32) (f_plans f_tiredOn : Nat → Nat → Int32) (tS : Nat) (sz : Nat) (q : Int32) (hb_v_packing_quicker : -1 ≤ v_packing_quicker.toInt ∧ v_packing_quicker.toInt ≤ 5) (hb_v_packing_loads : 0 ≤ v_packing_loads.toInt ∧ v_packing_loads.toInt ≤ 10) (hb_v_packing_looseCount : 0 ≤ v_packing_looseCount.toInt ∧ v_packing_looseCount.toInt ≤ 10) (hr_caps : rg (-1) 400 f_caps) (hr_pheft : rg (0) 250 f_pheft) (hr_holder : rg (-1) 5 f_holder) (hr_comes : rg (0) 1 f_comes) (hr_pcaps : rg (0) 21899 f_pcaps) (hr_room : rg (-1000) 400 f_room) (hr_loose : rg (0) 9 f_loose) (ha_q : 1 ≤ q.toInt ∧ q.toInt ≤ 60) : gMi l yX4_openRooms cX4_openRooms 5 .boolean 2 [.ref (hs 31), .int q] D cy (wSP cy hs hH hT sH sT v_tape_size v_band_walkers v_band_loads v_band_pieces v_rules_clauses v_reader_end v_reader_at v_reader_length v_reader_letter v_reader_fault v_draft_clauses v_paces_version v_packing_quicker v_packing_loads v_packing_looseCount v_marches_told v_marches_changeMinutes v_marches_marching v_marches_gone v_search_known v_search_countHere v_search_countThere v_search_cost v_search_most v_search_found f_bytes f_knee f_weight f_limps f_bheft f_owner f_food f_miles f_slope f_rsteps f_rkind f_ryields f_rholds f_rletters f_rstack f_dsteps f_dkind f_dyields f_dholds f_dletters f_dstack f_caps f_versions f_sharing f_pheft f_prow f_holder f_comes f_pcaps f_room f_loose f_reached f_mrow f_minutesOn f_mtired f_here f_there f_statesHere f_statesThere f_listed f_stired f_burdens f_pacesOn f_restedOn f_behindOn f_behindFor f_first f_second f_plans f_tiredOn) (NS tS) sz (fun (r : Int32) (u : Int32 × (Nat → Int32) × (Nat → Int32)) => (0 ≤ r.toInt ∧ r.toInt ≤ 1) ∧ (r.toInt = 1 → ∀ j : Nat, j < 6 → -1 ≤ ((u.2.1) j).toInt) ∧ (0 ≤ (u.1).toInt ∧ (u.1).toInt ≤ 10) ∧ (rg (-1000) 400 (u.2.1)) ∧ (rg (0) 9 (u.2.2))) (fun u => wSP cy hs hH hT sH sT v_tape_size v_band_walkers v_band_loads v_band_pieces v_rules_clauses v_reader_end v_reader_at v_reader_length v_reader_letter v_reader_fault v_draft_clauses v_paces_version v_packing_quicker v_packing_loads (u.1) v_marches_told v_marches_changeMinutes v_marches_marching v_marches_gone v_search_known v_search_countHere v_search_countThere v_search_cost v_search_most v_search_found f_bytes f_knee f_weight f_limps f_bheft f_owner f_food f_miles f_slope f_rsteps f_rkind f_ryields f_rholds f_rletters f_rstack f_dsteps f_dkind f_dyields f_dholds f_dletters f_dstack f_caps f_versions f_sharing f_pheft f_prow f_holder f_comes f_pcaps (u.2.1) (u.2.2) f_reached f_mrow f_minutesOn f_mtired f_here f_there f_statesHere f_statesThere f_listed f_stired f_burdens f_pacesOn f_restedOn f_behindOn f_behindFor f_first f_second f_plans f_tiredOn) := by
  refine gMi_in (by decide) (Nat.le_of_ble_eq_true rfl) ?_
  intro p e s m args below meth c A ls Q hx hb hml hts hown hsz hP hK hD hN hAe hA hS hl hret
  subst hsz
  have hl : lv_has ls 5 [(0, .ref (hs 31)), (1, .int q)] := hl
  have hrt := fun (r : Int32) (v_packing_looseCount' : Int32) (f_room' : Nat → Int32) (f_loose' : Nat → Int32) (hp : (0 ≤ r.toInt ∧ r.toInt ≤ 1) ∧ (r.toInt = 1 → ∀ j : Nat, j < 6 → -1 ≤ (f_room' j).toInt) ∧ (0 ≤ v_packing_looseCount'.toInt ∧ v_packing_looseCount'.toInt ≤ 10) ∧ (rg (-1000) 400 f_room') ∧ (rg (0) 9 f_loose')) {H : Heap} {locs : List Loc} {pc : Nat} {ls : Array Slot} => hret r (v_packing_looseCount', f_room', f_loose') (H := H) (locs := locs) (pc := pc) (ls := ls) hp
  clear hret
  refine lv_iconst (v := 0) hx hb dX4_openRooms_0 (by decide) ?_
  refine lv_istore_n (lv' := [(2, .int 0), (0, .ref (hs 31)), (1, .int q)]) hx hb dX4_openRooms_1 rfl hl (by decide) rfl (fun ls hl => ?_)
  refine lv_iconst (v := 0) hx hb dX4_openRooms_2 (by decide) ?_
  refine lv_istore_n (lv' := [(3, .int 0), (2, .int 0), (0, .ref (hs 31)), (1, .int q)]) hx hb dX4_openRooms_3 rfl hl (by decide) rfl (fun ls hl => ?_)
  have L4_7 : ∀ (n : Nat) (f_4 : Nat → Int32) (l_5 : Int32) (l_6 : Int32), (rg (-1000) 400 f_4) → (0 ≤ l_6.toInt ∧ l_6.toInt ≤ 6) → (∀ j : Nat, (j : Int) < l_6.toInt → -1 ≤ (f_4 j).toInt) → 7 - l_6.toInt < n → ∀ (H : Heap) (locs : List Loc) (ls : Array Slot), va_P D vwCl (wSP cy hs hH hT sH sT v_tape_size v_band_walkers v_band_loads v_band_pieces v_rules_clauses v_reader_end v_reader_at v_reader_length v_reader_letter v_reader_fault v_draft_clauses v_paces_version v_packing_quicker v_packing_loads v_packing_looseCount v_marches_told v_marches_changeMinutes v_marches_marching v_marches_gone v_search_known v_search_countHere v_search_countThere v_search_cost v_search_most v_search_found f_bytes f_knee f_weight f_limps f_bheft f_owner f_food f_miles f_slope f_rsteps f_rkind f_ryields f_rholds f_rletters f_rstack f_dsteps f_dkind f_dyields f_dholds f_dletters f_dstack f_caps f_versions f_sharing f_pheft f_prow f_holder f_comes f_pcaps f_4 f_loose f_reached f_mrow f_minutesOn f_mtired f_here f_there f_statesHere f_statesThere f_listed f_stired f_burdens f_pacesOn f_restedOn f_behindOn f_behindFor f_first f_second f_plans f_tiredOn) H → va_D A (wSP cy hs hH hT sH sT v_tape_size v_band_walkers v_band_loads v_band_pieces v_rules_clauses v_reader_end v_reader_at v_reader_length v_reader_letter v_reader_fault v_draft_clauses v_paces_version v_packing_quicker v_packing_loads v_packing_looseCount v_marches_told v_marches_changeMinutes v_marches_marching v_marches_gone v_search_known v_search_countHere v_search_countThere v_search_cost v_search_most v_search_found f_bytes f_knee f_weight f_limps f_bheft f_owner f_food f_miles f_slope f_rsteps f_rkind f_ryields f_rholds f_rletters f_rstack f_dsteps f_dkind f_dyields f_dholds f_dletters f_dstack f_caps f_versions f_sharing f_pheft f_prow f_holder f_comes f_pcaps f_4 f_loose f_reached f_mrow f_minutesOn f_mtired f_here f_there f_statesHere f_statesThere f_listed f_stired f_burdens f_pacesOn f_restedOn f_behindOn f_behindFor f_first f_second f_plans f_tiredOn) → va_S A s.heap H locs → lv_has ls 5 [(3, .int l_6), (2, .int l_5), (0, .ref (hs 31)), (1, .int q)] → W p l e (gRm 2) s m args below meth c H locs 0 0 Q (F0 m 4 ls []) := by
    intro n
    induction n with
    | zero => intro f_4 l_5 l_6 hL4_7_0 hL4_7_1 hL4_7_2 hm; exact absurd hm (by omega)
    | succ n ih4_7 =>
      intro f_4 l_5 l_6 hL4_7_0 hL4_7_1 hL4_7_2 hmL4_7 H locs ls hP hD hS hl
      refine lv_iload_n hx hb dX4_openRooms_4 rfl (lv_at hl 0 rfl) ?_
      refine lv_bipush (v := 6) hx hb dX4_openRooms_5 (by decide) ?_
      refine lv_icmp_ge (tgt := 83) hx hb dX4_openRooms_7 (by decide) (fun c_8 => ?_) (fun c_8 => ?_)
      · have gc_8 : 6 ≤ l_6.toInt := i_le (by decide : (6 : Int32).toInt = 6) (rfl : l_6.toInt = l_6.toInt) c_8
        refine lv_aload_n hx hb dX4_openRooms_83 rfl (lv_at hl 2 rfl) ?_
        refine lv_iconst (v := 0) hx hb dX4_openRooms_84 (by decide) ?_
        refine pt_SP_packing_looseCount (x := 0) hx hb hts hown hK hP hD hS lwd_709 dX4_openRooms_85 (fun H locs hP hD hS => ?_)
        refine lv_iconst (v := 0) hx hb dX4_openRooms_88 (by decide) ?_
        refine lv_istore_n (lv' := [(3, .int 0), (2, .int l_5), (0, .ref (hs 31)), (1, .int q)]) hx hb dX4_openRooms_89 rfl hl (by decide) rfl (fun ls hl => ?_)
        have L90_19 : ∀ (n : Nat) (f_14 : Nat → Int32) (f_15 : Nat → Int32) (l_16 : Int32) (l_17 : Int32) (w_18 : Int32), (rg (0) 9 f_14) → (rg (-1000) 400 f_15) → (0 ≤ l_17.toInt ∧ l_17.toInt ≤ 10) → (0 ≤ w_18.toInt ∧ w_18.toInt ≤ 10) → (∀ j : Nat, j < 6 → -1 ≤ (f_15 j).toInt) → (w_18.toInt ≤ l_17.toInt) → 11 - l_17.toInt < n → ∀ (H : Heap) (locs : List Loc) (ls : Array Slot), va_P D vwCl (wSP cy hs hH hT sH sT v_tape_size v_band_walkers v_band_loads v_band_pieces v_rules_clauses v_reader_end v_reader_at v_reader_length v_reader_letter v_reader_fault v_draft_clauses v_paces_version v_packing_quicker v_packing_loads w_18 v_marches_told v_marches_changeMinutes v_marches_marching v_marches_gone v_search_known v_search_countHere v_search_countThere v_search_cost v_search_most v_search_found f_bytes f_knee f_weight f_limps f_bheft f_owner f_food f_miles f_slope f_rsteps f_rkind f_ryields f_rholds f_rletters f_rstack f_dsteps f_dkind f_dyields f_dholds f_dletters f_dstack f_caps f_versions f_sharing f_pheft f_prow f_holder f_comes f_pcaps f_15 f_14 f_reached f_mrow f_minutesOn f_mtired f_here f_there f_statesHere f_statesThere f_listed f_stired f_burdens f_pacesOn f_restedOn f_behindOn f_behindFor f_first f_second f_plans f_tiredOn) H → va_D A (wSP cy hs hH hT sH sT v_tape_size v_band_walkers v_band_loads v_band_pieces v_rules_clauses v_reader_end v_reader_at v_reader_length v_reader_letter v_reader_fault v_draft_clauses v_paces_version v_packing_quicker v_packing_loads w_18 v_marches_told v_marches_changeMinutes v_marches_marching v_marches_gone v_search_known v_search_countHere v_search_countThere v_search_cost v_search_most v_search_found f_bytes f_knee f_weight f_limps f_bheft f_owner f_food f_miles f_slope f_rsteps f_rkind f_ryields f_rholds f_rletters f_rstack f_dsteps f_dkind f_dyields f_dholds f_dletters f_dstack f_caps f_versions f_sharing f_pheft f_prow f_holder f_comes f_pcaps f_15 f_14 f_reached f_mrow f_minutesOn f_mtired f_here f_there f_statesHere f_statesThere f_listed f_stired f_burdens f_pacesOn f_restedOn f_behindOn f_behindFor f_first f_second f_plans f_tiredOn) → va_S A s.heap H locs → lv_has ls 5 [(3, .int l_17), (2, .int l_16), (0, .ref (hs 31)), (1, .int q)] → W p l e (gRm 2) s m args below meth c H locs 0 0 Q (F0 m 90 ls []) := by
          intro n
          induction n with
          | zero => intro f_14 f_15 l_16 l_17 w_18 hL90_19_0 hL90_19_1 hL90_19_2 hL90_19_3 hL90_19_4 hL90_19_5 hm; exact absurd hm (by omega)
          | succ n ih90_19 =>
            intro f_14 f_15 l_16 l_17 w_18 hL90_19_0 hL90_19_1 hL90_19_2 hL90_19_3 hL90_19_4 hL90_19_5 hmL90_19 H locs ls hP hD hS hl
            refine lv_iload_n hx hb dX4_openRooms_90 rfl (lv_at hl 0 rfl) ?_
            refine lv_aload_n hx hb dX4_openRooms_91 rfl (lv_at hl 2 rfl) ?_
            refine gt_SP_packing_loads hx hb hts hown hK hP lwd_688 dX4_openRooms_92 ?_
            refine lv_icmp_ge (tgt := 178) hx hb dX4_openRooms_95 (by decide) (fun c_20 => ?_) (fun c_20 => ?_)
            · have gc_20 : v_packing_loads.toInt ≤ l_17.toInt := i_le (rfl : v_packing_loads.toInt = v_packing_loads.toInt) (rfl : l_17.toInt = l_17.toInt) c_20
              refine lv_iload_n hx hb dX4_openRooms_178 rfl (lv_at hl 1 rfl) ?_
              refine lv_if_lt (tgt := 186) hx hb dX4_openRooms_179 (by decide) (fun c_21 => ?_) (fun c_21 => ?_)
              · have gc_21 : l_16.toInt < 0 := i_lt (rfl : l_16.toInt = l_16.toInt) (by decide : (0 : Int32).toInt = 0) c_21
                refine lv_iconst (v := 0) hx hb dX4_openRooms_186 (by decide) ?_
                have k_22 : (0 : Int32).toInt = 0 := by decide
                exact hrt 0 w_18 f_15 f_14 ⟨(by omega), (fun hz => absurd hz (by omega)), (by omega), hL90_19_1, hL90_19_0⟩ hP hD hS rfl dX4_openRooms_187
              · have gc_21 : 0 ≤ l_16.toInt := i_nlt (rfl : l_16.toInt = l_16.toInt) (by decide : (0 : Int32).toInt = 0) c_21
                refine lv_iconst (v := 1) hx hb dX4_openRooms_182 (by decide) ?_
                refine lv_goto (tgt := 187) hx hb dX4_openRooms_183 (by decide) ?_
                have k_23 : (1 : Int32).toInt = 1 := by decide
                exact hrt 1 w_18 f_15 f_14 ⟨(by omega), (fun hz => hL90_19_4), (by omega), hL90_19_1, hL90_19_0⟩ hP hD hS rfl dX4_openRooms_187
            · have gc_20 : l_17.toInt < v_packing_loads.toInt := i_nle (rfl : v_packing_loads.toInt = v_packing_loads.toInt) (rfl : l_17.toInt = l_17.toInt) c_20
              refine lv_aload_n hx hb dX4_openRooms_98 rfl (lv_at hl 2 rfl) ?_
              refine gt_SP_packing_holder hx hb hts hown hK hP lwd_97 dX4_openRooms_99 ?_
              refine lv_iload_n hx hb dX4_openRooms_102 rfl (lv_at hl 0 rfl) ?_
              refine al_holder hx hb hK hP hr_holder (i_in (rfl : l_17.toInt = l_17.toInt) (by omega) (by omega)) dX4_openRooms_103 (fun n_24 en_24 bn_24 => ?_)
              refine lv_istore (lv' := [(4, .int n_24), (3, .int l_17), (2, .int l_16), (0, .ref (hs 31)), (1, .int q)]) hx hb dX4_openRooms_104 hl (by decide) rfl (fun ls hl => ?_)
              refine lv_iload_n hx hb dX4_openRooms_106 rfl (lv_at hl 2 rfl) ?_
              refine lv_aload_n hx hb dX4_openRooms_107 rfl (lv_at hl 3 rfl) ?_
              refine gt_SP_packing_heft hx hb hts hown hK hP lwd_95 dX4_openRooms_108 ?_
              refine lv_iload_n hx hb dX4_openRooms_111 rfl (lv_at hl 1 rfl) ?_
              refine al_pheft hx hb hK hP hr_pheft (i_in (rfl : l_17.toInt = l_17.toInt) (by omega) (by omega)) dX4_openRooms_112 (fun n_25 en_25 bn_25 => ?_)
              refine lv_isub hx hb dX4_openRooms_113 ?_
              refine lv_topi (fun n_26 en_26 => ?_)
              refine lv_istore_n (lv' := [(2, .int n_26), (4, .int n_24), (3, .int l_17), (0, .ref (hs 31)), (1, .int q)]) hx hb dX4_openRooms_114 rfl hl (by decide) rfl (fun ls hl => ?_)
              refine lv_iload hx hb dX4_openRooms_115 (lv_at hl 1 rfl) ?_
              refine lv_iconst (v := (-1)) hx hb dX4_openRooms_117 (by decide) ?_
              refine lv_icmp_ne (tgt := 144) hx hb dX4_openRooms_118 (by decide) (fun c_27 => ?_) (fun c_27 => ?_)
              · have gc_27 : n_24.toInt ≠ (-1) := i_ne (rfl : n_24.toInt = n_24.toInt) (by decide : ((-1) : Int32).toInt = (-1)) c_27
                refine lv_aload_n hx hb dX4_openRooms_144 rfl (lv_at hl 3 rfl) ?_
                refine gt_SP_packing_room hx hb hts hown hK hP lwd_100 dX4_openRooms_145 ?_
                refine lv_iload hx hb dX4_openRooms_148 (lv_at hl 1 rfl) ?_
                refine lv_dup2_11 hx hb dX4_openRooms_150 rfl rfl ?_
                refine al_room hx hb hK hP hL90_19_1 (i_in (rfl : n_24.toInt = n_24.toInt) (by omega) (by omega)) dX4_openRooms_151 (fun n_28 en_28 bn_28 => ?_)
                have hLn_28 := hL90_19_4 n_24.toNatClampNeg (by have e9 := i_ix (rfl : n_24.toInt = n_24.toInt); omega)
                rw [← en_28] at hLn_28
                refine lv_aload_n hx hb dX4_openRooms_152 rfl (lv_at hl 3 rfl) ?_
                refine gt_SP_packing_heft hx hb hts hown hK hP lwd_95 dX4_openRooms_153 ?_
                refine lv_iload_n hx hb dX4_openRooms_156 rfl (lv_at hl 2 rfl) ?_
                refine al_pheft hx hb hK hP hr_pheft (i_in (rfl : l_17.toInt = l_17.toInt) (by omega) (by omega)) dX4_openRooms_157 (fun n_29 en_29 bn_29 => ?_)
                obtain rfl : n_25 = n_29 := en_25.trans en_29.symm
                refine lv_isub hx hb dX4_openRooms_158 ?_
                refine lv_topi (fun n_30 en_30 => ?_)
                have tn_30 : n_30.toInt = n_28.toInt - n_25.toInt := i_sub en_30 (rfl : n_28.toInt = n_28.toInt) (rfl : n_25.toInt = n_25.toInt) (by omega) (by omega)
                refine as_room (x := n_30) hx hb hK hP hD hS hL90_19_1 (i_in (rfl : n_24.toInt = n_24.toInt) (by omega) (by omega)) (by omega) dX4_openRooms_159 (fun f_31 ef_31 rf_31 H locs hP hD hS => ?_)
                refine lv_aload_n hx hb dX4_openRooms_160 rfl (lv_at hl 3 rfl) ?_
                refine gt_SP_packing_room hx hb hts hown hK hP lwd_100 dX4_openRooms_161 ?_
                refine lv_iload hx hb dX4_openRooms_164 (lv_at hl 1 rfl) ?_
                refine al_room hx hb hK hP rf_31 (i_in (rfl : n_24.toInt = n_24.toInt) (by omega) (by omega)) dX4_openRooms_166 (fun n_32 en_32 bn_32 => ?_)
                have hsn_32 : n_32.toInt = n_30.toInt := by rw [en_32, ef_31, upd_at]
                have hEn_32 : n_32.toInt = n_30.toInt := by rw [en_32, ef_31, upd_at]
                refine lv_if_ge (tgt := 172) hx hb dX4_openRooms_167 (by decide) (fun c_33 => ?_) (fun c_33 => ?_)
                · have gc_33 : 0 ≤ n_32.toInt := i_le (by decide : (0 : Int32).toInt = 0) (rfl : n_32.toInt = n_32.toInt) c_33
                  obtain ⟨n_34, en_34⟩ : ∃ y : Int32, y = l_17 + 1 := ⟨_, rfl⟩
                  have tn_34 : n_34.toInt = l_17.toInt + 1 := i_add en_34 (rfl : l_17.toInt = l_17.toInt) (by decide : (1 : Int32).toInt = 1) (by omega) (by omega)
                  refine lv_iinc (v := n_34) (lv' := [(3, .int n_34), (2, .int n_26), (4, .int n_24), (0, .ref (hs 31)), (1, .int q)]) hx hb dX4_openRooms_172 hl (k := 2) rfl (by rw [en_34]; rfl) (by decide) rfl (fun ls hl => ?_)
                  refine lv_goto (tgt := 90) hx hb dX4_openRooms_175 (by decide) ?_
                  exact ih90_19 f_14 f_31 n_26 n_34 w_18 hL90_19_0 rf_31 (by omega) (by omega) (fun j hj => by
                    rw [ef_31]
                    have e9 := i_ix (rfl : n_24.toInt = n_24.toInt)
                    unfold upd
                    split
                    · first | omega | decide
                    · skip
                      exact hL90_19_4 j (by omega)) (by omega) (by omega) _ _ _ hP hD hS (lv_sub hl [0, 1, 3, 4] rfl)
                · have gc_33 : n_32.toInt < 0 := i_nle (by decide : (0 : Int32).toInt = 0) (rfl : n_32.toInt = n_32.toInt) c_33
                  refine lv_iconst (v := 0) hx hb dX4_openRooms_170 (by decide) ?_
                  have k_35 : (0 : Int32).toInt = 0 := by decide
                  exact hrt 0 w_18 f_31 f_14 ⟨(by omega), (fun hz => absurd hz (by omega)), (by omega), rf_31, hL90_19_0⟩ hP hD hS rfl dX4_openRooms_171
              · have gc_27 : n_24.toInt = (-1) := i_eq (rfl : n_24.toInt = n_24.toInt) (by decide : ((-1) : Int32).toInt = (-1)) c_27
                refine lv_aload_n hx hb dX4_openRooms_121 rfl (lv_at hl 3 rfl) ?_
                refine gt_SP_packing_loose hx hb hts hown hK hP lwd_101 dX4_openRooms_122 ?_
                refine lv_aload_n hx hb dX4_openRooms_125 rfl (lv_at hl 3 rfl) ?_
                refine gt_SP_packing_looseCount hx hb hts hown hK hP lwd_709 dX4_openRooms_126 ?_
                refine lv_iload_n hx hb dX4_openRooms_129 rfl (lv_at hl 2 rfl) ?_
                refine as_loose (x := l_17) hx hb hK hP hD hS hL90_19_0 (i_in (rfl : w_18.toInt = w_18.toInt) (by omega) (by omega)) (by omega) dX4_openRooms_130 (fun f_36 ef_36 rf_36 H locs hP hD hS => ?_)
                refine lv_aload_n hx hb dX4_openRooms_131 rfl (lv_at hl 3 rfl) ?_
                refine lv_dup hx hb dX4_openRooms_132 rfl ?_
                refine gt_SP_packing_looseCount hx hb hts hown hK hP lwd_709 dX4_openRooms_133 ?_
                refine lv_iconst (v := 1) hx hb dX4_openRooms_136 (by decide) ?_
                refine lv_iadd hx hb dX4_openRooms_137 ?_
                refine lv_topi (fun n_37 en_37 => ?_)
                have tn_37 : n_37.toInt = w_18.toInt + 1 := i_add en_37 (rfl : w_18.toInt = w_18.toInt) (by decide : (1 : Int32).toInt = 1) (by omega) (by omega)
                refine pt_SP_packing_looseCount (x := n_37) hx hb hts hown hK hP hD hS lwd_709 dX4_openRooms_138 (fun H locs hP hD hS => ?_)
                refine lv_goto (tgt := 172) hx hb dX4_openRooms_141 (by decide) ?_
                obtain ⟨n_38, en_38⟩ : ∃ y : Int32, y = l_17 + 1 := ⟨_, rfl⟩
                have tn_38 : n_38.toInt = l_17.toInt + 1 := i_add en_38 (rfl : l_17.toInt = l_17.toInt) (by decide : (1 : Int32).toInt = 1) (by omega) (by omega)
                refine lv_iinc (v := n_38) (lv' := [(3, .int n_38), (2, .int n_26), (4, .int n_24), (0, .ref (hs 31)), (1, .int q)]) hx hb dX4_openRooms_172 hl (k := 2) rfl (by rw [en_38]; rfl) (by decide) rfl (fun ls hl => ?_)
                refine lv_goto (tgt := 90) hx hb dX4_openRooms_175 (by decide) ?_
                exact ih90_19 f_36 f_15 n_26 n_38 n_37 rf_36 hL90_19_1 (by omega) (by omega) hL90_19_4 (by omega) (by omega) _ _ _ hP hD hS (lv_sub hl [0, 1, 3, 4] rfl)
        have k_39 : (0 : Int32).toInt = 0 := by decide
        have k_40 : (0 : Int32).toInt = 0 := by decide
        exact L90_19 8589934592 f_loose f_4 l_5 0 0 hr_loose hL4_7_0 (by omega) (by omega) (fun j hj => hL4_7_2 j (by omega)) (by omega) (by omega) _ _ _ hP hD hS (lv_sub hl [0, 1, 2, 3] rfl)
      · have gc_8 : l_6.toInt < 6 := i_nle (by decide : (6 : Int32).toInt = 6) (rfl : l_6.toInt = l_6.toInt) c_8
        refine lv_aload_n hx hb dX4_openRooms_10 rfl (lv_at hl 2 rfl) ?_
        refine gt_SP_packing_room hx hb hts hown hK hP lwd_100 dX4_openRooms_11 ?_
        refine lv_iload_n hx hb dX4_openRooms_14 rfl (lv_at hl 0 rfl) ?_
        refine lv_aload_n hx hb dX4_openRooms_15 rfl (lv_at hl 2 rfl) ?_
        refine gt_SP_packing_comes hx hb hts hown hK hP lwd_98 dX4_openRooms_16 ?_
        refine lv_iload_n hx hb dX4_openRooms_19 rfl (lv_at hl 0 rfl) ?_
        refine al_comes hx hb hK hP hr_comes (i_in (rfl : l_6.toInt = l_6.toInt) (by omega) (by omega)) dX4_openRooms_20 (fun n_41 en_41 bn_41 => ?_)
        refine lv_if_eq (tgt := 33) hx hb dX4_openRooms_21 (by decide) (fun c_42 => ?_) (fun c_42 => ?_)
        · have gc_42 : n_41.toInt = 0 := i_eq (rfl : n_41.toInt = n_41.toInt) (by decide : (0 : Int32).toInt = 0) c_42
          refine lv_iconst (v := (-1)) hx hb dX4_openRooms_33 (by decide) ?_
          refine as_room (x := (-1)) hx hb hK hP hD hS hL4_7_0 (i_in (rfl : l_6.toInt = l_6.toInt) (by omega) (by omega)) (by decide) dX4_openRooms_34 (fun f_43 ef_43 rf_43 H locs hP hD hS => ?_)
          refine lv_aload_n hx hb dX4_openRooms_35 rfl (lv_at hl 2 rfl) ?_
          refine gt_SP_packing_comes hx hb hts hown hK hP lwd_98 dX4_openRooms_36 ?_
          refine lv_iload_n hx hb dX4_openRooms_39 rfl (lv_at hl 0 rfl) ?_
          refine al_comes hx hb hK hP hr_comes (i_in (rfl : l_6.toInt = l_6.toInt) (by omega) (by omega)) dX4_openRooms_40 (fun n_44 en_44 bn_44 => ?_)
          obtain rfl : n_41 = n_44 := en_41.trans en_44.symm
          refine lv_if_eq (tgt := 55) hx hb dX4_openRooms_41 (by decide) (fun c_45 => ?_) (fun c_45 => ?_)
          · have gc_45 : n_41.toInt = 0 := i_eq (rfl : n_41.toInt = n_41.toInt) (by decide : (0 : Int32).toInt = 0) c_45
            refine lv_iload_n hx hb dX4_openRooms_55 rfl (lv_at hl 1 rfl) ?_
            refine lv_aload_n hx hb dX4_openRooms_56 rfl (lv_at hl 2 rfl) ?_
            refine gt_SP_packing_comes hx hb hts hown hK hP lwd_98 dX4_openRooms_57 ?_
            refine lv_iload_n hx hb dX4_openRooms_60 rfl (lv_at hl 0 rfl) ?_
            refine al_comes hx hb hK hP hr_comes (i_in (rfl : l_6.toInt = l_6.toInt) (by omega) (by omega)) dX4_openRooms_61 (fun n_46 en_46 bn_46 => ?_)
            obtain rfl : n_41 = n_46 := en_41.trans en_46.symm
            refine lv_if_eq (tgt := 74) hx hb dX4_openRooms_62 (by decide) (fun c_47 => ?_) (fun c_47 => ?_)
            · have gc_47 : n_41.toInt = 0 := i_eq (rfl : n_41.toInt = n_41.toInt) (by decide : (0 : Int32).toInt = 0) c_47
              refine lv_iconst (v := 0) hx hb dX4_openRooms_74 (by decide) ?_
              refine lv_iadd hx hb dX4_openRooms_75 ?_
              refine lv_topi (fun n_48 en_48 => ?_)
              refine lv_istore_n (lv' := [(2, .int n_48), (3, .int l_6), (0, .ref (hs 31)), (1, .int q)]) hx hb dX4_openRooms_76 rfl hl (by decide) rfl (fun ls hl => ?_)
              obtain ⟨n_49, en_49⟩ : ∃ y : Int32, y = l_6 + 1 := ⟨_, rfl⟩
              have tn_49 : n_49.toInt = l_6.toInt + 1 := i_add en_49 (rfl : l_6.toInt = l_6.toInt) (by decide : (1 : Int32).toInt = 1) (by omega) (by omega)
              refine lv_iinc (v := n_49) (lv' := [(3, .int n_49), (2, .int n_48), (0, .ref (hs 31)), (1, .int q)]) hx hb dX4_openRooms_77 hl (k := 1) rfl (by rw [en_49]; rfl) (by decide) rfl (fun ls hl => ?_)
              refine lv_goto (tgt := 4) hx hb dX4_openRooms_80 (by decide) ?_
              exact ih4_7 f_43 n_48 n_49 rf_43 (by omega) (fun j hj => by
                rw [ef_43]
                have e9 := i_ix (rfl : l_6.toInt = l_6.toInt)
                unfold upd
                split
                · first | omega | decide
                · skip
                  exact hL4_7_2 j (by omega)) (by omega) _ _ _ hP hD hS (lv_sub hl [0, 1, 2, 3] rfl)
            · have gc_47 : n_41.toInt ≠ 0 := i_ne (rfl : n_41.toInt = n_41.toInt) (by decide : (0 : Int32).toInt = 0) c_47
              exact absurd gc_47 (by omega)
          · have gc_45 : n_41.toInt ≠ 0 := i_ne (rfl : n_41.toInt = n_41.toInt) (by decide : (0 : Int32).toInt = 0) c_45
            exact absurd gc_45 (by omega)
        · have gc_42 : n_41.toInt ≠ 0 := i_ne (rfl : n_41.toInt = n_41.toInt) (by decide : (0 : Int32).toInt = 0) c_42
          refine lv_aload_n hx hb dX4_openRooms_24 rfl (lv_at hl 2 rfl) ?_
          refine lv_iload_n hx hb dX4_openRooms_25 rfl (lv_at hl 0 rfl) ?_
          refine lv_iload_n hx hb dX4_openRooms_26 rfl (lv_at hl 3 rfl) ?_
          refine xi hD hS hA (xV (As := [.int l_6, .int q]) (rest := [.int l_6, .ref (hs 37)]) hx hb hml hown hts hK hP hD hS hA NS_ok hN hAe hl.1 ⟨Nat.le_refl _, Nat.le_refl _⟩ 31 rfl rfl rfl (c_X4_capAt l D cy hs hH hT sH sT v_tape_size v_band_walkers v_band_loads v_band_pieces v_rules_clauses v_reader_end v_reader_at v_reader_length v_reader_letter v_reader_fault v_draft_clauses v_paces_version v_packing_quicker v_packing_loads v_packing_looseCount v_marches_told v_marches_changeMinutes v_marches_marching v_marches_gone v_search_known v_search_countHere v_search_countThere v_search_cost v_search_most v_search_found f_bytes f_knee f_weight f_limps f_bheft f_owner f_food f_miles f_slope f_rsteps f_rkind f_ryields f_rholds f_rletters f_rstack f_dsteps f_dkind f_dyields f_dholds f_dletters f_dstack f_caps f_versions f_sharing f_pheft f_prow f_holder f_comes f_pcaps f_4 f_loose f_reached f_mrow f_minutesOn f_mtired f_here f_there f_statesHere f_statesThere f_listed f_stired f_burdens f_pacesOn f_restedOn f_behindOn f_behindFor f_first f_second f_plans f_tiredOn tS H.size l_6 q (by omega) hr_caps hr_pcaps (by omega) (by omega)) (gi_V lwd_710 lwd_711 lwd_712 lwd_34 lwd_713) ⟨rfl, hd_X4_capAt⟩ ⟨Nat.le_of_ble_eq_true rfl, Nat.le_of_ble_eq_true rfl⟩ rfl (Nat.le_of_ble_eq_true rfl) dX4_openRooms_27) (fun r_51 u_50 H locs hw hP hD hS => ?_)
          try dsimp only at hw hP hD
          have p_52 := hw
          clear hw
          refine lv_goto (tgt := 34) hx hb dX4_openRooms_30 (by decide) ?_
          refine as_room (x := r_51) hx hb hK hP hD hS hL4_7_0 (i_in (rfl : l_6.toInt = l_6.toInt) (by omega) (by omega)) (by omega) dX4_openRooms_34 (fun f_53 ef_53 rf_53 H locs hP hD hS => ?_)
          refine lv_aload_n hx hb dX4_openRooms_35 rfl (lv_at hl 2 rfl) ?_
          refine gt_SP_packing_comes hx hb hts hown hK hP lwd_98 dX4_openRooms_36 ?_
          refine lv_iload_n hx hb dX4_openRooms_39 rfl (lv_at hl 0 rfl) ?_
          refine al_comes hx hb hK hP hr_comes (i_in (rfl : l_6.toInt = l_6.toInt) (by omega) (by omega)) dX4_openRooms_40 (fun n_54 en_54 bn_54 => ?_)
          obtain rfl : n_41 = n_54 := en_41.trans en_54.symm
          refine lv_if_eq (tgt := 55) hx hb dX4_openRooms_41 (by decide) (fun c_55 => ?_) (fun c_55 => ?_)
          · have gc_55 : n_41.toInt = 0 := i_eq (rfl : n_41.toInt = n_41.toInt) (by decide : (0 : Int32).toInt = 0) c_55
            exact absurd gc_55 (by omega)
          · have gc_55 : n_41.toInt ≠ 0 := i_ne (rfl : n_41.toInt = n_41.toInt) (by decide : (0 : Int32).toInt = 0) c_55
            refine lv_aload_n hx hb dX4_openRooms_44 rfl (lv_at hl 2 rfl) ?_
            refine gt_SP_packing_room hx hb hts hown hK hP lwd_100 dX4_openRooms_45 ?_
            refine lv_iload_n hx hb dX4_openRooms_48 rfl (lv_at hl 0 rfl) ?_
            refine al_room hx hb hK hP rf_53 (i_in (rfl : l_6.toInt = l_6.toInt) (by omega) (by omega)) dX4_openRooms_49 (fun n_56 en_56 bn_56 => ?_)
            have hsn_56 : n_56.toInt = r_51.toInt := by rw [en_56, ef_53, upd_at]
            refine lv_if_ge (tgt := 55) hx hb dX4_openRooms_50 (by decide) (fun c_57 => ?_) (fun c_57 => ?_)
            · have gc_57 : 0 ≤ n_56.toInt := i_le (by decide : (0 : Int32).toInt = 0) (rfl : n_56.toInt = n_56.toInt) c_57
              refine lv_iload_n hx hb dX4_openRooms_55 rfl (lv_at hl 1 rfl) ?_
              refine lv_aload_n hx hb dX4_openRooms_56 rfl (lv_at hl 2 rfl) ?_
              refine gt_SP_packing_comes hx hb hts hown hK hP lwd_98 dX4_openRooms_57 ?_
              refine lv_iload_n hx hb dX4_openRooms_60 rfl (lv_at hl 0 rfl) ?_
              refine al_comes hx hb hK hP hr_comes (i_in (rfl : l_6.toInt = l_6.toInt) (by omega) (by omega)) dX4_openRooms_61 (fun n_58 en_58 bn_58 => ?_)
              obtain rfl : n_41 = n_58 := en_41.trans en_58.symm
              refine lv_if_eq (tgt := 74) hx hb dX4_openRooms_62 (by decide) (fun c_59 => ?_) (fun c_59 => ?_)
              · have gc_59 : n_41.toInt = 0 := i_eq (rfl : n_41.toInt = n_41.toInt) (by decide : (0 : Int32).toInt = 0) c_59
                exact absurd gc_59 (by omega)
              · have gc_59 : n_41.toInt ≠ 0 := i_ne (rfl : n_41.toInt = n_41.toInt) (by decide : (0 : Int32).toInt = 0) c_59
                refine lv_aload_n hx hb dX4_openRooms_65 rfl (lv_at hl 2 rfl) ?_
                refine gt_SP_packing_room hx hb hts hown hK hP lwd_100 dX4_openRooms_66 ?_
                refine lv_iload_n hx hb dX4_openRooms_69 rfl (lv_at hl 0 rfl) ?_
                refine al_room hx hb hK hP rf_53 (i_in (rfl : l_6.toInt = l_6.toInt) (by omega) (by omega)) dX4_openRooms_70 (fun n_60 en_60 bn_60 => ?_)
                have hsn_60 : n_60.toInt = r_51.toInt := by rw [en_60, ef_53, upd_at]
                obtain rfl : n_56 = n_60 := en_56.trans en_60.symm
                refine lv_goto (tgt := 75) hx hb dX4_openRooms_71 (by decide) ?_
                refine lv_iadd hx hb dX4_openRooms_75 ?_
                refine lv_topi (fun n_61 en_61 => ?_)
                refine lv_istore_n (lv' := [(2, .int n_61), (3, .int l_6), (0, .ref (hs 31)), (1, .int q)]) hx hb dX4_openRooms_76 rfl hl (by decide) rfl (fun ls hl => ?_)
                obtain ⟨n_62, en_62⟩ : ∃ y : Int32, y = l_6 + 1 := ⟨_, rfl⟩
                have tn_62 : n_62.toInt = l_6.toInt + 1 := i_add en_62 (rfl : l_6.toInt = l_6.toInt) (by decide : (1 : Int32).toInt = 1) (by omega) (by omega)
                refine lv_iinc (v := n_62) (lv' := [(3, .int n_62), (2, .int n_61), (0, .ref (hs 31)), (1, .int q)]) hx hb dX4_openRooms_77 hl (k := 1) rfl (by rw [en_62]; rfl) (by decide) rfl (fun ls hl => ?_)
                refine lv_goto (tgt := 4) hx hb dX4_openRooms_80 (by decide) ?_
                exact ih4_7 f_53 n_61 n_62 rf_53 (by omega) (fun j hj => by
                  rw [ef_53]
                  have e9 := i_ix (rfl : l_6.toInt = l_6.toInt)
                  unfold upd
                  split
                  · first | omega | decide
                  · skip
                    exact hL4_7_2 j (by omega)) (by omega) _ _ _ hP hD hS (lv_sub hl [0, 1, 2, 3] rfl)
            · have gc_57 : n_56.toInt < 0 := i_nle (by decide : (0 : Int32).toInt = 0) (rfl : n_56.toInt = n_56.toInt) c_57
              refine lv_iconst (v := 0) hx hb dX4_openRooms_53 (by decide) ?_
              have k_63 : (0 : Int32).toInt = 0 := by decide
              exact hrt 0 v_packing_looseCount f_53 f_loose ⟨(by omega), (fun hz => absurd hz (by omega)), (by omega), rf_53, hr_loose⟩ hP hD hS rfl dX4_openRooms_54
  have k_64 : (0 : Int32).toInt = 0 := by decide
  have k_65 : (0 : Int32).toInt = 0 := by decide
  exact L4_7 8589934592 f_room 0 0 hr_room (by omega) (fun j hj => absurd hj (by omega)) (by omega) _ _ _ hP hD hS (lv_sub hl [0, 1, 2, 3] rfl)
set_option maxHeartbeats 16000000 in
set_option maxRecDepth 100000 in
theorem c_X4_placed (l : Launch) (D : va_G) (cy : Nat → ClassId) (hs : Nat → Nat) (hH hT sH sT : Nat) (v_tape_size v_band_walkers v_band_loads v_band_pieces v_rules_clauses v_reader_end v_reader_at v_reader_length v_reader_letter v_reader_fault v_draft_clauses v_paces_version v_packing_quicker v_packing_loads v_packing_looseCount v_marches_told v_marches_changeMinutes v_marches_marching v_marches_gone v_search_known v_search_countHere v_search_countThere v_search_cost v_search_most : Int32) (v_search_found : Int64) (f_bytes f_knee f_weight f_limps f_bheft f_owner f_food f_miles f_slope f_rsteps f_rkind f_ryields f_rholds f_rletters f_rstack f_dsteps f_dkind f_dyields f_dholds f_dletters f_dstack f_caps f_versions f_sharing f_pheft f_prow f_holder f_comes f_pcaps f_room f_loose f_reached f_mrow f_minutesOn f_mtired : Nat → Int32) (f_here f_there : Nat → Int64) (f_statesHere f_statesThere f_listed f_stired f_burdens f_pacesOn f_restedOn f_behindOn f_behindFor f_first f_second : Nat → Int32) (f_plans f_tiredOn : Nat → Nat → Int32) (tS : Nat) (sz : Nat) (stt : Int32) (pd : Int32) (hr_room : rg (-1000) 400 f_room) (ha_stt : 0 ≤ stt.toInt ∧ stt.toInt ≤ 3072) (ha_pd : 0 ≤ pd.toInt ∧ pd.toInt ≤ 250) : gMi l yX4_placed cX4_placed 4 .int 1 [.ref (hs 31), .int stt, .int pd] D cy (wSP cy hs hH hT sH sT v_tape_size v_band_walkers v_band_loads v_band_pieces v_rules_clauses v_reader_end v_reader_at v_reader_length v_reader_letter v_reader_fault v_draft_clauses v_paces_version v_packing_quicker v_packing_loads v_packing_looseCount v_marches_told v_marches_changeMinutes v_marches_marching v_marches_gone v_search_known v_search_countHere v_search_countThere v_search_cost v_search_most v_search_found f_bytes f_knee f_weight f_limps f_bheft f_owner f_food f_miles f_slope f_rsteps f_rkind f_ryields f_rholds f_rletters f_rstack f_dsteps f_dkind f_dyields f_dholds f_dletters f_dstack f_caps f_versions f_sharing f_pheft f_prow f_holder f_comes f_pcaps f_room f_loose f_reached f_mrow f_minutesOn f_mtired f_here f_there f_statesHere f_statesThere f_listed f_stired f_burdens f_pacesOn f_restedOn f_behindOn f_behindFor f_first f_second f_plans f_tiredOn) (NS tS) sz (fun (r : Int32) (u : Unit) => (0 ≤ r.toInt ∧ r.toInt ≤ 3072)) (fun u => wSP cy hs hH hT sH sT v_tape_size v_band_walkers v_band_loads v_band_pieces v_rules_clauses v_reader_end v_reader_at v_reader_length v_reader_letter v_reader_fault v_draft_clauses v_paces_version v_packing_quicker v_packing_loads v_packing_looseCount v_marches_told v_marches_changeMinutes v_marches_marching v_marches_gone v_search_known v_search_countHere v_search_countThere v_search_cost v_search_most v_search_found f_bytes f_knee f_weight f_limps f_bheft f_owner f_food f_miles f_slope f_rsteps f_rkind f_ryields f_rholds f_rletters f_rstack f_dsteps f_dkind f_dyields f_dholds f_dletters f_dstack f_caps f_versions f_sharing f_pheft f_prow f_holder f_comes f_pcaps f_room f_loose f_reached f_mrow f_minutesOn f_mtired f_here f_there f_statesHere f_statesThere f_listed f_stired f_burdens f_pacesOn f_restedOn f_behindOn f_behindFor f_first f_second f_plans f_tiredOn) := by
  refine gMi_in (by decide) (Nat.le_of_ble_eq_true rfl) ?_
  intro p e s m args below meth c A ls Q hx hb hml hts hown hsz hP hK hD hN hAe hA hS hl hret
  subst hsz
  have hl : lv_has ls 4 [(0, .ref (hs 31)), (1, .int stt), (2, .int pd)] := hl
  have hrt := fun (r : Int32)  (hp : (0 ≤ r.toInt ∧ r.toInt ≤ 3072)) {H : Heap} {locs : List Loc} {pc : Nat} {ls : Array Slot} => hret r () (H := H) (locs := locs) (pc := pc) (ls := ls) hp
  clear hret
  refine lv_iload_n hx hb dX4_placed_0 rfl (lv_at hl 1 rfl) ?_
  refine lv_bipush (v := 9) hx hb dX4_placed_1 (by decide) ?_
  refine lv_ishr hx hb dX4_placed_3 ?_
  refine lv_topi (fun n_1 en_1 => ?_)
  have tn_1 : n_1.toInt = stt.toInt / 512 := i_shr 9 en_1 (rfl : stt.toInt = stt.toInt) (by decide) (by decide)
  refine lv_istore_n (lv' := [(3, .int n_1), (0, .ref (hs 31)), (1, .int stt), (2, .int pd)]) hx hb dX4_placed_4 rfl hl (by decide) rfl (fun ls hl => ?_)
  refine lv_iload_n hx hb dX4_placed_5 rfl (lv_at hl 0 rfl) ?_
  refine lv_bipush (v := 6) hx hb dX4_placed_6 (by decide) ?_
  refine lv_icmp_ge (tgt := 31) hx hb dX4_placed_8 (by decide) (fun c_2 => ?_) (fun c_2 => ?_)
  · have gc_2 : 6 ≤ stt.toInt / 512 := i_le (by decide : (6 : Int32).toInt = 6) tn_1 c_2
    obtain ⟨n_3, en_3⟩ : ∃ y : Int32, y = n_1 + 1 := ⟨_, rfl⟩
    have tn_3 : n_3.toInt = stt.toInt / 512 + 1 := i_add en_3 tn_1 (by decide : (1 : Int32).toInt = 1) (by omega) (by omega)
    refine lv_iinc (v := n_3) (lv' := [(3, .int n_3), (0, .ref (hs 31)), (1, .int stt), (2, .int pd)]) hx hb dX4_placed_31 hl (k := 0) rfl (by rw [en_3]; rfl) (by decide) rfl (fun ls hl => ?_)
    have L34_4 : ∀ (n : Nat) , 8 - (stt.toInt / 512 + 1) < n → ∀ (H : Heap) (locs : List Loc) (ls : Array Slot), va_P D vwCl (wSP cy hs hH hT sH sT v_tape_size v_band_walkers v_band_loads v_band_pieces v_rules_clauses v_reader_end v_reader_at v_reader_length v_reader_letter v_reader_fault v_draft_clauses v_paces_version v_packing_quicker v_packing_loads v_packing_looseCount v_marches_told v_marches_changeMinutes v_marches_marching v_marches_gone v_search_known v_search_countHere v_search_countThere v_search_cost v_search_most v_search_found f_bytes f_knee f_weight f_limps f_bheft f_owner f_food f_miles f_slope f_rsteps f_rkind f_ryields f_rholds f_rletters f_rstack f_dsteps f_dkind f_dyields f_dholds f_dletters f_dstack f_caps f_versions f_sharing f_pheft f_prow f_holder f_comes f_pcaps f_room f_loose f_reached f_mrow f_minutesOn f_mtired f_here f_there f_statesHere f_statesThere f_listed f_stired f_burdens f_pacesOn f_restedOn f_behindOn f_behindFor f_first f_second f_plans f_tiredOn) H → va_D A (wSP cy hs hH hT sH sT v_tape_size v_band_walkers v_band_loads v_band_pieces v_rules_clauses v_reader_end v_reader_at v_reader_length v_reader_letter v_reader_fault v_draft_clauses v_paces_version v_packing_quicker v_packing_loads v_packing_looseCount v_marches_told v_marches_changeMinutes v_marches_marching v_marches_gone v_search_known v_search_countHere v_search_countThere v_search_cost v_search_most v_search_found f_bytes f_knee f_weight f_limps f_bheft f_owner f_food f_miles f_slope f_rsteps f_rkind f_ryields f_rholds f_rletters f_rstack f_dsteps f_dkind f_dyields f_dholds f_dletters f_dstack f_caps f_versions f_sharing f_pheft f_prow f_holder f_comes f_pcaps f_room f_loose f_reached f_mrow f_minutesOn f_mtired f_here f_there f_statesHere f_statesThere f_listed f_stired f_burdens f_pacesOn f_restedOn f_behindOn f_behindFor f_first f_second f_plans f_tiredOn) → va_S A s.heap H locs → lv_has ls 4 [(3, .int n_3), (0, .ref (hs 31)), (1, .int stt), (2, .int pd)] → W p l e (gRm 1) s m args below meth c H locs 0 0 Q (F0 m 34 ls []) := by
      intro n
      induction n with
      | zero => intro   hm; exact absurd hm (by omega)
      | succ n ih34_4 =>
        intro   hmL34_4 H locs ls hP hD hS hl
        refine lv_iload_n hx hb dX4_placed_34 rfl (lv_at hl 0 rfl) ?_
        refine lv_bipush (v := 6) hx hb dX4_placed_35 (by decide) ?_
        refine lv_icmp_ge (tgt := 63) hx hb dX4_placed_37 (by decide) (fun c_5 => ?_) (fun c_5 => ?_)
        · have gc_5 : 6 ≤ stt.toInt / 512 + 1 := i_le (by decide : (6 : Int32).toInt = 6) tn_3 c_5
          refine lv_sipush (v := 3072) hx hb dX4_placed_63 (by decide) ?_
          have k_6 : (3072 : Int32).toInt = 3072 := by decide
          exact hrt 3072  (by omega) hP hD hS rfl dX4_placed_66
        · have gc_5 : stt.toInt / 512 + 1 < 6 := i_nle (by decide : (6 : Int32).toInt = 6) tn_3 c_5
          exact absurd gc_5 (by omega)
    exact L34_4 8589934592 (by omega) _ _ _ hP hD hS (lv_sub hl [0, 1, 2, 3] rfl)
  · have gc_2 : stt.toInt / 512 < 6 := i_nle (by decide : (6 : Int32).toInt = 6) tn_1 c_2
    refine lv_iload_n hx hb dX4_placed_11 rfl (lv_at hl 2 rfl) ?_
    refine lv_sipush (v := 511) hx hb dX4_placed_12 (by decide) ?_
    refine lv_iand hx hb dX4_placed_15 ?_
    refine lv_topi (fun n_7 en_7 => ?_)
    have tn_7 : n_7.toInt = stt.toInt % 512 := i_andm 9 en_7 (by decide) (by decide) (by decide) (rfl : stt.toInt = stt.toInt) (by omega)
    refine lv_iload_n hx hb dX4_placed_16 rfl (lv_at hl 3 rfl) ?_
    refine lv_iadd hx hb dX4_placed_17 ?_
    refine lv_topi (fun n_8 en_8 => ?_)
    have tn_8 : n_8.toInt = (stt.toInt % 512) + pd.toInt := i_add en_8 tn_7 (rfl : pd.toInt = pd.toInt) (by omega) (by omega)
    refine lv_aload_n hx hb dX4_placed_18 rfl (lv_at hl 1 rfl) ?_
    refine gt_SP_packing_room hx hb hts hown hK hP lwd_100 dX4_placed_19 ?_
    refine lv_iload_n hx hb dX4_placed_22 rfl (lv_at hl 0 rfl) ?_
    refine al_room hx hb hK hP hr_room (i_in tn_1 (by omega) (by omega)) dX4_placed_23 (fun n_9 en_9 bn_9 => ?_)
    refine lv_icmp_gt (tgt := 31) hx hb dX4_placed_24 (by decide) (fun c_10 => ?_) (fun c_10 => ?_)
    · have gc_10 : n_9.toInt < (stt.toInt % 512) + pd.toInt := i_lt (rfl : n_9.toInt = n_9.toInt) tn_8 c_10
      obtain ⟨n_11, en_11⟩ : ∃ y : Int32, y = n_1 + 1 := ⟨_, rfl⟩
      have tn_11 : n_11.toInt = stt.toInt / 512 + 1 := i_add en_11 tn_1 (by decide : (1 : Int32).toInt = 1) (by omega) (by omega)
      refine lv_iinc (v := n_11) (lv' := [(3, .int n_11), (0, .ref (hs 31)), (1, .int stt), (2, .int pd)]) hx hb dX4_placed_31 hl (k := 0) rfl (by rw [en_11]; rfl) (by decide) rfl (fun ls hl => ?_)
      have L34_14 : ∀ (n : Nat) (l_13 : Int32), (1 ≤ l_13.toInt ∧ l_13.toInt ≤ 6) → 7 - l_13.toInt < n → ∀ (H : Heap) (locs : List Loc) (ls : Array Slot), va_P D vwCl (wSP cy hs hH hT sH sT v_tape_size v_band_walkers v_band_loads v_band_pieces v_rules_clauses v_reader_end v_reader_at v_reader_length v_reader_letter v_reader_fault v_draft_clauses v_paces_version v_packing_quicker v_packing_loads v_packing_looseCount v_marches_told v_marches_changeMinutes v_marches_marching v_marches_gone v_search_known v_search_countHere v_search_countThere v_search_cost v_search_most v_search_found f_bytes f_knee f_weight f_limps f_bheft f_owner f_food f_miles f_slope f_rsteps f_rkind f_ryields f_rholds f_rletters f_rstack f_dsteps f_dkind f_dyields f_dholds f_dletters f_dstack f_caps f_versions f_sharing f_pheft f_prow f_holder f_comes f_pcaps f_room f_loose f_reached f_mrow f_minutesOn f_mtired f_here f_there f_statesHere f_statesThere f_listed f_stired f_burdens f_pacesOn f_restedOn f_behindOn f_behindFor f_first f_second f_plans f_tiredOn) H → va_D A (wSP cy hs hH hT sH sT v_tape_size v_band_walkers v_band_loads v_band_pieces v_rules_clauses v_reader_end v_reader_at v_reader_length v_reader_letter v_reader_fault v_draft_clauses v_paces_version v_packing_quicker v_packing_loads v_packing_looseCount v_marches_told v_marches_changeMinutes v_marches_marching v_marches_gone v_search_known v_search_countHere v_search_countThere v_search_cost v_search_most v_search_found f_bytes f_knee f_weight f_limps f_bheft f_owner f_food f_miles f_slope f_rsteps f_rkind f_ryields f_rholds f_rletters f_rstack f_dsteps f_dkind f_dyields f_dholds f_dletters f_dstack f_caps f_versions f_sharing f_pheft f_prow f_holder f_comes f_pcaps f_room f_loose f_reached f_mrow f_minutesOn f_mtired f_here f_there f_statesHere f_statesThere f_listed f_stired f_burdens f_pacesOn f_restedOn f_behindOn f_behindFor f_first f_second f_plans f_tiredOn) → va_S A s.heap H locs → lv_has ls 4 [(3, .int l_13), (0, .ref (hs 31)), (1, .int stt), (2, .int pd)] → W p l e (gRm 1) s m args below meth c H locs 0 0 Q (F0 m 34 ls []) := by
        intro n
        induction n with
        | zero => intro l_13 hL34_14_0 hm; exact absurd hm (by omega)
        | succ n ih34_14 =>
          intro l_13 hL34_14_0 hmL34_14 H locs ls hP hD hS hl
          refine lv_iload_n hx hb dX4_placed_34 rfl (lv_at hl 0 rfl) ?_
          refine lv_bipush (v := 6) hx hb dX4_placed_35 (by decide) ?_
          refine lv_icmp_ge (tgt := 63) hx hb dX4_placed_37 (by decide) (fun c_15 => ?_) (fun c_15 => ?_)
          · have gc_15 : 6 ≤ l_13.toInt := i_le (by decide : (6 : Int32).toInt = 6) (rfl : l_13.toInt = l_13.toInt) c_15
            refine lv_sipush (v := 3072) hx hb dX4_placed_63 (by decide) ?_
            have k_16 : (3072 : Int32).toInt = 3072 := by decide
            exact hrt 3072  (by omega) hP hD hS rfl dX4_placed_66
          · have gc_15 : l_13.toInt < 6 := i_nle (by decide : (6 : Int32).toInt = 6) (rfl : l_13.toInt = l_13.toInt) c_15
            refine lv_iload_n hx hb dX4_placed_40 rfl (lv_at hl 3 rfl) ?_
            refine lv_aload_n hx hb dX4_placed_41 rfl (lv_at hl 1 rfl) ?_
            refine gt_SP_packing_room hx hb hts hown hK hP lwd_100 dX4_placed_42 ?_
            refine lv_iload_n hx hb dX4_placed_45 rfl (lv_at hl 0 rfl) ?_
            refine al_room hx hb hK hP hr_room (i_in (rfl : l_13.toInt = l_13.toInt) (by omega) (by omega)) dX4_placed_46 (fun n_17 en_17 bn_17 => ?_)
            refine lv_icmp_gt (tgt := 57) hx hb dX4_placed_47 (by decide) (fun c_18 => ?_) (fun c_18 => ?_)
            · have gc_18 : n_17.toInt < pd.toInt := i_lt (rfl : n_17.toInt = n_17.toInt) (rfl : pd.toInt = pd.toInt) c_18
              obtain ⟨n_19, en_19⟩ : ∃ y : Int32, y = l_13 + 1 := ⟨_, rfl⟩
              have tn_19 : n_19.toInt = l_13.toInt + 1 := i_add en_19 (rfl : l_13.toInt = l_13.toInt) (by decide : (1 : Int32).toInt = 1) (by omega) (by omega)
              refine lv_iinc (v := n_19) (lv' := [(3, .int n_19), (0, .ref (hs 31)), (1, .int stt), (2, .int pd)]) hx hb dX4_placed_57 hl (k := 0) rfl (by rw [en_19]; rfl) (by decide) rfl (fun ls hl => ?_)
              refine lv_goto (tgt := 34) hx hb dX4_placed_60 (by decide) ?_
              exact ih34_14 n_19 (by omega) (by omega) _ _ _ hP hD hS (lv_sub hl [0, 1, 2, 3] rfl)
            · have gc_18 : pd.toInt ≤ n_17.toInt := i_nlt (rfl : n_17.toInt = n_17.toInt) (rfl : pd.toInt = pd.toInt) c_18
              refine lv_iload_n hx hb dX4_placed_50 rfl (lv_at hl 0 rfl) ?_
              refine lv_bipush (v := 9) hx hb dX4_placed_51 (by decide) ?_
              refine lv_ishl hx hb dX4_placed_53 ?_
              refine lv_topi (fun n_20 en_20 => ?_)
              have tn_20 : n_20.toInt = l_13.toInt * 512 := i_shl9 en_20 (rfl : l_13.toInt = l_13.toInt) (by omega)
              refine lv_iload_n hx hb dX4_placed_54 rfl (lv_at hl 3 rfl) ?_
              refine lv_iadd hx hb dX4_placed_55 ?_
              refine lv_topi (fun n_21 en_21 => ?_)
              have tn_21 : n_21.toInt = (l_13.toInt * 512) + pd.toInt := i_add en_21 tn_20 (rfl : pd.toInt = pd.toInt) (by omega) (by omega)
              exact hrt n_21  (by omega) hP hD hS rfl dX4_placed_56
      exact L34_14 8589934592 n_11 (by omega) (by omega) _ _ _ hP hD hS (lv_sub hl [0, 1, 2, 3] rfl)
    · have gc_10 : (stt.toInt % 512) + pd.toInt ≤ n_9.toInt := i_nlt (rfl : n_9.toInt = n_9.toInt) tn_8 c_10
      refine lv_iload_n hx hb dX4_placed_27 rfl (lv_at hl 2 rfl) ?_
      refine lv_iload_n hx hb dX4_placed_28 rfl (lv_at hl 3 rfl) ?_
      refine lv_iadd hx hb dX4_placed_29 ?_
      refine lv_topi (fun n_22 en_22 => ?_)
      have tn_22 : n_22.toInt = stt.toInt + pd.toInt := i_add en_22 (rfl : stt.toInt = stt.toInt) (rfl : pd.toInt = pd.toInt) (by omega) (by omega)
      exact hrt n_22  (by omega) hP hD hS rfl dX4_placed_30
set_option maxHeartbeats 16000000 in
set_option maxRecDepth 100000 in
theorem c_X4_looseFit (l : Launch) (D : va_G) (cy : Nat → ClassId) (hs : Nat → Nat) (hH hT sH sT : Nat) (v_tape_size v_band_walkers v_band_loads v_band_pieces v_rules_clauses v_reader_end v_reader_at v_reader_length v_reader_letter v_reader_fault v_draft_clauses v_paces_version v_packing_quicker v_packing_loads v_packing_looseCount v_marches_told v_marches_changeMinutes v_marches_marching v_marches_gone v_search_known v_search_countHere v_search_countThere v_search_cost v_search_most : Int32) (v_search_found : Int64) (f_bytes f_knee f_weight f_limps f_bheft f_owner f_food f_miles f_slope f_rsteps f_rkind f_ryields f_rholds f_rletters f_rstack f_dsteps f_dkind f_dyields f_dholds f_dletters f_dstack f_caps f_versions f_sharing f_pheft f_prow f_holder f_comes f_pcaps f_room f_loose f_reached f_mrow f_minutesOn f_mtired : Nat → Int32) (f_here f_there : Nat → Int64) (f_statesHere f_statesThere f_listed f_stired f_burdens f_pacesOn f_restedOn f_behindOn f_behindFor f_first f_second : Nat → Int32) (f_plans f_tiredOn : Nat → Nat → Int32) (tS : Nat) (sz : Nat) (fr0 : Int32) (hb_v_packing_looseCount : 0 ≤ v_packing_looseCount.toInt ∧ v_packing_looseCount.toInt ≤ 10) (hr_pheft : rg (0) 250 f_pheft) (hr_room : rg (-1000) 400 f_room) (hr_loose : rg (0) 9 f_loose) (hr_reached : rg (0) 3072 f_reached) (ha_fr0 : 0 ≤ fr0.toInt ∧ fr0.toInt ≤ 10) : gMi l yX4_looseFit cX4_looseFit 6 .boolean 2 [.ref (hs 31), .int fr0] D cy (wSP cy hs hH hT sH sT v_tape_size v_band_walkers v_band_loads v_band_pieces v_rules_clauses v_reader_end v_reader_at v_reader_length v_reader_letter v_reader_fault v_draft_clauses v_paces_version v_packing_quicker v_packing_loads v_packing_looseCount v_marches_told v_marches_changeMinutes v_marches_marching v_marches_gone v_search_known v_search_countHere v_search_countThere v_search_cost v_search_most v_search_found f_bytes f_knee f_weight f_limps f_bheft f_owner f_food f_miles f_slope f_rsteps f_rkind f_ryields f_rholds f_rletters f_rstack f_dsteps f_dkind f_dyields f_dholds f_dletters f_dstack f_caps f_versions f_sharing f_pheft f_prow f_holder f_comes f_pcaps f_room f_loose f_reached f_mrow f_minutesOn f_mtired f_here f_there f_statesHere f_statesThere f_listed f_stired f_burdens f_pacesOn f_restedOn f_behindOn f_behindFor f_first f_second f_plans f_tiredOn) (NS tS) sz (fun (r : Int32) (u : (Nat → Int32)) => (0 ≤ r.toInt ∧ r.toInt ≤ 1) ∧ (rg (0) 3072 u)) (fun u => wSP cy hs hH hT sH sT v_tape_size v_band_walkers v_band_loads v_band_pieces v_rules_clauses v_reader_end v_reader_at v_reader_length v_reader_letter v_reader_fault v_draft_clauses v_paces_version v_packing_quicker v_packing_loads v_packing_looseCount v_marches_told v_marches_changeMinutes v_marches_marching v_marches_gone v_search_known v_search_countHere v_search_countThere v_search_cost v_search_most v_search_found f_bytes f_knee f_weight f_limps f_bheft f_owner f_food f_miles f_slope f_rsteps f_rkind f_ryields f_rholds f_rletters f_rstack f_dsteps f_dkind f_dyields f_dholds f_dletters f_dstack f_caps f_versions f_sharing f_pheft f_prow f_holder f_comes f_pcaps f_room f_loose u f_mrow f_minutesOn f_mtired f_here f_there f_statesHere f_statesThere f_listed f_stired f_burdens f_pacesOn f_restedOn f_behindOn f_behindFor f_first f_second f_plans f_tiredOn) := by
  refine gMi_in (by decide) (Nat.le_of_ble_eq_true rfl) ?_
  intro p e s m args below meth c A ls Q hx hb hml hts hown hsz hP hK hD hN hAe hA hS hl hret
  subst hsz
  have hl : lv_has ls 6 [(0, .ref (hs 31)), (1, .int fr0)] := hl
  have hrt := fun (r : Int32) (f_reached' : Nat → Int32) (hp : (0 ≤ r.toInt ∧ r.toInt ≤ 1) ∧ (rg (0) 3072 f_reached')) {H : Heap} {locs : List Loc} {pc : Nat} {ls : Array Slot} => hret r f_reached' (H := H) (locs := locs) (pc := pc) (ls := ls) hp
  clear hret
  refine lv_aload_n hx hb dX4_looseFit_0 rfl (lv_at hl 0 rfl) ?_
  refine gt_SP_packing_looseCount hx hb hts hown hK hP lwd_709 dX4_looseFit_1 ?_
  refine lv_iload_n hx hb dX4_looseFit_4 rfl (lv_at hl 1 rfl) ?_
  refine lv_isub hx hb dX4_looseFit_5 ?_
  refine lv_topi (fun n_1 en_1 => ?_)
  have tn_1 : n_1.toInt = v_packing_looseCount.toInt - fr0.toInt := i_sub en_1 (rfl : v_packing_looseCount.toInt = v_packing_looseCount.toInt) (rfl : fr0.toInt = fr0.toInt) (by omega) (by omega)
  refine lv_istore_n (lv' := [(2, .int n_1), (0, .ref (hs 31)), (1, .int fr0)]) hx hb dX4_looseFit_6 rfl hl (by decide) rfl (fun ls hl => ?_)
  refine lv_iload_n hx hb dX4_looseFit_7 rfl (lv_at hl 0 rfl) ?_
  refine lv_if_lt (tgt := 17) hx hb dX4_looseFit_8 (by decide) (fun c_2 => ?_) (fun c_2 => ?_)
  · have gc_2 : v_packing_looseCount.toInt - fr0.toInt < 0 := i_lt tn_1 (by decide : (0 : Int32).toInt = 0) c_2
    refine lv_iconst (v := 0) hx hb dX4_looseFit_17 (by decide) ?_
    have k_3 : (0 : Int32).toInt = 0 := by decide
    exact hrt 0 f_reached ⟨(by omega), hr_reached⟩ hP hD hS rfl dX4_looseFit_18
  · have gc_2 : 0 ≤ v_packing_looseCount.toInt - fr0.toInt := i_nlt tn_1 (by decide : (0 : Int32).toInt = 0) c_2
    refine lv_iload_n hx hb dX4_looseFit_11 rfl (lv_at hl 0 rfl) ?_
    refine lv_bipush (v := 10) hx hb dX4_looseFit_12 (by decide) ?_
    refine lv_icmp_le (tgt := 19) hx hb dX4_looseFit_14 (by decide) (fun c_4 => ?_) (fun c_4 => ?_)
    · have gc_4 : v_packing_looseCount.toInt - fr0.toInt ≤ 10 := i_le tn_1 (by decide : (10 : Int32).toInt = 10) c_4
      refine lv_aload_n hx hb dX4_looseFit_19 rfl (lv_at hl 1 rfl) ?_
      refine gt_SP_packing_reached hx hb hts hown hK hP lwd_102 dX4_looseFit_20 ?_
      refine lv_iconst (v := 0) hx hb dX4_looseFit_23 (by decide) ?_
      refine lv_iconst (v := 0) hx hb dX4_looseFit_24 (by decide) ?_
      refine as_reached (x := 0) hx hb hK hP hD hS hr_reached (i_in (by decide : (0 : Int32).toInt = 0) (by decide) (by decide)) (by decide) dX4_looseFit_25 (fun f_5 ef_5 rf_5 H locs hP hD hS => ?_)
      refine lv_iconst (v := 1) hx hb dX4_looseFit_26 (by decide) ?_
      refine lv_istore_n (lv' := [(3, .int 1), (2, .int n_1), (0, .ref (hs 31)), (1, .int fr0)]) hx hb dX4_looseFit_27 rfl hl (by decide) rfl (fun ls hl => ?_)
      have L28_10 : ∀ (n : Nat) (f_8 : Nat → Int32) (l_9 : Int32), (rg (0) 3072 f_8) → (0 ≤ l_9.toInt ∧ l_9.toInt ≤ 1025) → 1026 - l_9.toInt < n → ∀ (H : Heap) (locs : List Loc) (ls : Array Slot), va_P D vwCl (wSP cy hs hH hT sH sT v_tape_size v_band_walkers v_band_loads v_band_pieces v_rules_clauses v_reader_end v_reader_at v_reader_length v_reader_letter v_reader_fault v_draft_clauses v_paces_version v_packing_quicker v_packing_loads v_packing_looseCount v_marches_told v_marches_changeMinutes v_marches_marching v_marches_gone v_search_known v_search_countHere v_search_countThere v_search_cost v_search_most v_search_found f_bytes f_knee f_weight f_limps f_bheft f_owner f_food f_miles f_slope f_rsteps f_rkind f_ryields f_rholds f_rletters f_rstack f_dsteps f_dkind f_dyields f_dholds f_dletters f_dstack f_caps f_versions f_sharing f_pheft f_prow f_holder f_comes f_pcaps f_room f_loose f_8 f_mrow f_minutesOn f_mtired f_here f_there f_statesHere f_statesThere f_listed f_stired f_burdens f_pacesOn f_restedOn f_behindOn f_behindFor f_first f_second f_plans f_tiredOn) H → va_D A (wSP cy hs hH hT sH sT v_tape_size v_band_walkers v_band_loads v_band_pieces v_rules_clauses v_reader_end v_reader_at v_reader_length v_reader_letter v_reader_fault v_draft_clauses v_paces_version v_packing_quicker v_packing_loads v_packing_looseCount v_marches_told v_marches_changeMinutes v_marches_marching v_marches_gone v_search_known v_search_countHere v_search_countThere v_search_cost v_search_most v_search_found f_bytes f_knee f_weight f_limps f_bheft f_owner f_food f_miles f_slope f_rsteps f_rkind f_ryields f_rholds f_rletters f_rstack f_dsteps f_dkind f_dyields f_dholds f_dletters f_dstack f_caps f_versions f_sharing f_pheft f_prow f_holder f_comes f_pcaps f_room f_loose f_8 f_mrow f_minutesOn f_mtired f_here f_there f_statesHere f_statesThere f_listed f_stired f_burdens f_pacesOn f_restedOn f_behindOn f_behindFor f_first f_second f_plans f_tiredOn) → va_S A s.heap H locs → lv_has ls 6 [(3, .int l_9), (2, .int n_1), (0, .ref (hs 31)), (1, .int fr0)] → W p l e (gRm 2) s m args below meth c H locs 0 0 Q (F0 m 28 ls []) := by
        intro n
        induction n with
        | zero => intro f_8 l_9 hL28_10_0 hL28_10_1 hm; exact absurd hm (by omega)
        | succ n ih28_10 =>
          intro f_8 l_9 hL28_10_0 hL28_10_1 hmL28_10 H locs ls hP hD hS hl
          refine lv_iload_n hx hb dX4_looseFit_28 rfl (lv_at hl 0 rfl) ?_
          refine lv_iconst (v := 1) hx hb dX4_looseFit_29 (by decide) ?_
          refine lv_iload_n hx hb dX4_looseFit_30 rfl (lv_at hl 1 rfl) ?_
          refine lv_ishl hx hb dX4_looseFit_31 ?_
          refine lv_topi (fun n_11 en_11 => ?_)
          have bn_11 := (i_sh1 en_11 tn_1 (by omega)).2
          refine lv_icmp_ge (tgt := 124) hx hb dX4_looseFit_32 (by decide) (fun c_12 => ?_) (fun c_12 => ?_)
          · have gc_12 : n_11.toInt ≤ l_9.toInt := i_le (rfl : n_11.toInt = n_11.toInt) (rfl : l_9.toInt = l_9.toInt) c_12
            refine lv_iconst (v := 1) hx hb dX4_looseFit_124 (by decide) ?_
            have k_13 : (1 : Int32).toInt = 1 := by decide
            exact hrt 1 f_8 ⟨(by omega), hL28_10_0⟩ hP hD hS rfl dX4_looseFit_125
          · have gc_12 : l_9.toInt < n_11.toInt := i_nle (rfl : n_11.toInt = n_11.toInt) (rfl : l_9.toInt = l_9.toInt) c_12
            refine lv_sipush (v := 3072) hx hb dX4_looseFit_35 (by decide) ?_
            refine lv_istore (lv' := [(4, .int 3072), (3, .int l_9), (2, .int n_1), (0, .ref (hs 31)), (1, .int fr0)]) hx hb dX4_looseFit_38 hl (by decide) rfl (fun ls hl => ?_)
            refine lv_iconst (v := 0) hx hb dX4_looseFit_40 (by decide) ?_
            refine lv_istore (lv' := [(5, .int 0), (4, .int 3072), (3, .int l_9), (2, .int n_1), (0, .ref (hs 31)), (1, .int fr0)]) hx hb dX4_looseFit_41 hl (by decide) rfl (fun ls hl => ?_)
            have L43_18 : ∀ (n : Nat) (l_16 : Int32) (l_17 : Int32), (0 ≤ l_16.toInt ∧ l_16.toInt ≤ 3072) → (0 ≤ l_17.toInt ∧ l_17.toInt ≤ 10) → 11 - l_17.toInt < n → ∀ (H : Heap) (locs : List Loc) (ls : Array Slot), va_P D vwCl (wSP cy hs hH hT sH sT v_tape_size v_band_walkers v_band_loads v_band_pieces v_rules_clauses v_reader_end v_reader_at v_reader_length v_reader_letter v_reader_fault v_draft_clauses v_paces_version v_packing_quicker v_packing_loads v_packing_looseCount v_marches_told v_marches_changeMinutes v_marches_marching v_marches_gone v_search_known v_search_countHere v_search_countThere v_search_cost v_search_most v_search_found f_bytes f_knee f_weight f_limps f_bheft f_owner f_food f_miles f_slope f_rsteps f_rkind f_ryields f_rholds f_rletters f_rstack f_dsteps f_dkind f_dyields f_dholds f_dletters f_dstack f_caps f_versions f_sharing f_pheft f_prow f_holder f_comes f_pcaps f_room f_loose f_8 f_mrow f_minutesOn f_mtired f_here f_there f_statesHere f_statesThere f_listed f_stired f_burdens f_pacesOn f_restedOn f_behindOn f_behindFor f_first f_second f_plans f_tiredOn) H → va_D A (wSP cy hs hH hT sH sT v_tape_size v_band_walkers v_band_loads v_band_pieces v_rules_clauses v_reader_end v_reader_at v_reader_length v_reader_letter v_reader_fault v_draft_clauses v_paces_version v_packing_quicker v_packing_loads v_packing_looseCount v_marches_told v_marches_changeMinutes v_marches_marching v_marches_gone v_search_known v_search_countHere v_search_countThere v_search_cost v_search_most v_search_found f_bytes f_knee f_weight f_limps f_bheft f_owner f_food f_miles f_slope f_rsteps f_rkind f_ryields f_rholds f_rletters f_rstack f_dsteps f_dkind f_dyields f_dholds f_dletters f_dstack f_caps f_versions f_sharing f_pheft f_prow f_holder f_comes f_pcaps f_room f_loose f_8 f_mrow f_minutesOn f_mtired f_here f_there f_statesHere f_statesThere f_listed f_stired f_burdens f_pacesOn f_restedOn f_behindOn f_behindFor f_first f_second f_plans f_tiredOn) → va_S A s.heap H locs → lv_has ls 6 [(5, .int l_17), (4, .int l_16), (3, .int l_9), (2, .int n_1), (0, .ref (hs 31)), (1, .int fr0)] → W p l e (gRm 2) s m args below meth c H locs 0 0 Q (F0 m 43 ls []) := by
              intro n
              induction n with
              | zero => intro l_16 l_17 hL43_18_0 hL43_18_1 hm; exact absurd hm (by omega)
              | succ n ih43_18 =>
                intro l_16 l_17 hL43_18_0 hL43_18_1 hmL43_18 H locs ls hP hD hS hl
                refine lv_iload hx hb dX4_looseFit_43 (lv_at hl 0 rfl) ?_
                refine lv_iload_n hx hb dX4_looseFit_45 rfl (lv_at hl 3 rfl) ?_
                refine lv_icmp_ge (tgt := 100) hx hb dX4_looseFit_46 (by decide) (fun c_19 => ?_) (fun c_19 => ?_)
                · have gc_19 : v_packing_looseCount.toInt - fr0.toInt ≤ l_17.toInt := i_le tn_1 (rfl : l_17.toInt = l_17.toInt) c_19
                  refine lv_iload hx hb dX4_looseFit_100 (lv_at hl 1 rfl) ?_
                  refine lv_sipush (v := 3072) hx hb dX4_looseFit_102 (by decide) ?_
                  refine lv_icmp_ne (tgt := 110) hx hb dX4_looseFit_105 (by decide) (fun c_20 => ?_) (fun c_20 => ?_)
                  · have gc_20 : l_16.toInt ≠ 3072 := i_ne (rfl : l_16.toInt = l_16.toInt) (by decide : (3072 : Int32).toInt = 3072) c_20
                    refine lv_aload_n hx hb dX4_looseFit_110 rfl (lv_at hl 4 rfl) ?_
                    refine gt_SP_packing_reached hx hb hts hown hK hP lwd_102 dX4_looseFit_111 ?_
                    refine lv_iload_n hx hb dX4_looseFit_114 rfl (lv_at hl 2 rfl) ?_
                    refine lv_iload hx hb dX4_looseFit_115 (lv_at hl 1 rfl) ?_
                    refine as_reached (x := l_16) hx hb hK hP hD hS hL28_10_0 (i_in (rfl : l_9.toInt = l_9.toInt) (by omega) (by omega)) (by omega) dX4_looseFit_117 (fun f_21 ef_21 rf_21 H locs hP hD hS => ?_)
                    obtain ⟨n_22, en_22⟩ : ∃ y : Int32, y = l_9 + 1 := ⟨_, rfl⟩
                    have tn_22 : n_22.toInt = l_9.toInt + 1 := i_add en_22 (rfl : l_9.toInt = l_9.toInt) (by decide : (1 : Int32).toInt = 1) (by omega) (by omega)
                    refine lv_iinc (v := n_22) (lv' := [(3, .int n_22), (5, .int l_17), (4, .int l_16), (2, .int n_1), (0, .ref (hs 31)), (1, .int fr0)]) hx hb dX4_looseFit_118 hl (k := 2) rfl (by rw [en_22]; rfl) (by decide) rfl (fun ls hl => ?_)
                    refine lv_goto (tgt := 28) hx hb dX4_looseFit_121 (by decide) ?_
                    exact ih28_10 f_21 n_22 rf_21 (by omega) (by omega) _ _ _ hP hD hS (lv_sub hl [0, 3, 4, 5] rfl)
                  · have gc_20 : l_16.toInt = 3072 := i_eq (rfl : l_16.toInt = l_16.toInt) (by decide : (3072 : Int32).toInt = 3072) c_20
                    refine lv_iconst (v := 0) hx hb dX4_looseFit_108 (by decide) ?_
                    have k_23 : (0 : Int32).toInt = 0 := by decide
                    exact hrt 0 f_8 ⟨(by omega), hL28_10_0⟩ hP hD hS rfl dX4_looseFit_109
                · have gc_19 : l_17.toInt < v_packing_looseCount.toInt - fr0.toInt := i_nle tn_1 (rfl : l_17.toInt = l_17.toInt) c_19
                  refine lv_iload_n hx hb dX4_looseFit_49 rfl (lv_at hl 2 rfl) ?_
                  refine lv_iload hx hb dX4_looseFit_50 (lv_at hl 0 rfl) ?_
                  refine lv_ishr hx hb dX4_looseFit_52 ?_
                  refine lv_topi (fun n_24 en_24 => ?_)
                  refine lv_iconst (v := 1) hx hb dX4_looseFit_53 (by decide) ?_
                  refine lv_iand hx hb dX4_looseFit_54 ?_
                  refine lv_topi (fun n_25 en_25 => ?_)
                  have bn_25 : 0 ≤ n_25.toInt ∧ n_25.toInt ≤ 1 := i_msk 1 en_25 (by decide) (by decide) (by decide)
                  refine lv_if_eq (tgt := 94) hx hb dX4_looseFit_55 (by decide) (fun c_26 => ?_) (fun c_26 => ?_)
                  · have gc_26 : n_25.toInt = 0 := i_eq (rfl : n_25.toInt = n_25.toInt) (by decide : (0 : Int32).toInt = 0) c_26
                    obtain ⟨n_27, en_27⟩ : ∃ y : Int32, y = l_17 + 1 := ⟨_, rfl⟩
                    have tn_27 : n_27.toInt = l_17.toInt + 1 := i_add en_27 (rfl : l_17.toInt = l_17.toInt) (by decide : (1 : Int32).toInt = 1) (by omega) (by omega)
                    refine lv_iinc (v := n_27) (lv' := [(5, .int n_27), (4, .int l_16), (3, .int l_9), (2, .int n_1), (0, .ref (hs 31)), (1, .int fr0)]) hx hb dX4_looseFit_94 hl (k := 0) rfl (by rw [en_27]; rfl) (by decide) rfl (fun ls hl => ?_)
                    refine lv_goto (tgt := 43) hx hb dX4_looseFit_97 (by decide) ?_
                    exact ih43_18 l_16 n_27 (by omega) (by omega) (by omega) _ _ _ hP hD hS (lv_sub hl [0, 1, 2, 3, 4, 5] rfl)
                  · have gc_26 : n_25.toInt ≠ 0 := i_ne (rfl : n_25.toInt = n_25.toInt) (by decide : (0 : Int32).toInt = 0) c_26
                    refine lv_iload hx hb dX4_looseFit_58 (lv_at hl 1 rfl) ?_
                    refine lv_aload_n hx hb dX4_looseFit_60 rfl (lv_at hl 4 rfl) ?_
                    refine lv_aload_n hx hb dX4_looseFit_61 rfl (lv_at hl 4 rfl) ?_
                    refine gt_SP_packing_reached hx hb hts hown hK hP lwd_102 dX4_looseFit_62 ?_
                    refine lv_iload_n hx hb dX4_looseFit_65 rfl (lv_at hl 2 rfl) ?_
                    refine lv_iconst (v := 1) hx hb dX4_looseFit_66 (by decide) ?_
                    refine lv_iload hx hb dX4_looseFit_67 (lv_at hl 0 rfl) ?_
                    refine lv_ishl hx hb dX4_looseFit_69 ?_
                    refine lv_topi (fun n_28 en_28 => ?_)
                    have bn_28 := (i_sh1 en_28 (rfl : l_17.toInt = l_17.toInt) (by omega)).2
                    refine lv_ixor hx hb dX4_looseFit_70 ?_
                    refine lv_topi (fun n_29 en_29 => ?_)
                    have bn_29 : 0 ≤ n_29.toInt ∧ n_29.toInt ≤ 1023 := i_xorb 10 en_29 (by omega) (by omega) (by decide) (by decide)
                    refine al_reached hx hb hK hP hL28_10_0 (i_in (rfl : n_29.toInt = n_29.toInt) (by omega) (by omega)) dX4_looseFit_71 (fun n_30 en_30 bn_30 => ?_)
                    refine lv_aload_n hx hb dX4_looseFit_72 rfl (lv_at hl 4 rfl) ?_
                    refine gt_SP_packing_heft hx hb hts hown hK hP lwd_95 dX4_looseFit_73 ?_
                    refine lv_aload_n hx hb dX4_looseFit_76 rfl (lv_at hl 4 rfl) ?_
                    refine gt_SP_packing_loose hx hb hts hown hK hP lwd_101 dX4_looseFit_77 ?_
                    refine lv_iload_n hx hb dX4_looseFit_80 rfl (lv_at hl 5 rfl) ?_
                    refine lv_iload hx hb dX4_looseFit_81 (lv_at hl 0 rfl) ?_
                    refine lv_iadd hx hb dX4_looseFit_83 ?_
                    refine lv_topi (fun n_31 en_31 => ?_)
                    have tn_31 : n_31.toInt = fr0.toInt + l_17.toInt := i_add en_31 (rfl : fr0.toInt = fr0.toInt) (rfl : l_17.toInt = l_17.toInt) (by omega) (by omega)
                    refine al_loose hx hb hK hP hr_loose (i_in tn_31 (by omega) (by omega)) dX4_looseFit_84 (fun n_32 en_32 bn_32 => ?_)
                    refine al_pheft hx hb hK hP hr_pheft (i_in (rfl : n_32.toInt = n_32.toInt) (by omega) (by omega)) dX4_looseFit_85 (fun n_33 en_33 bn_33 => ?_)
                    refine xi hD hS hA (xV (As := [.int n_30, .int n_33]) (rest := [.int l_16]) hx hb hml hown hts hK hP hD hS hA NS_ok hN hAe hl.1 ⟨Nat.le_refl _, Nat.le_refl _⟩ 31 rfl rfl rfl (c_X4_placed l D cy hs hH hT sH sT v_tape_size v_band_walkers v_band_loads v_band_pieces v_rules_clauses v_reader_end v_reader_at v_reader_length v_reader_letter v_reader_fault v_draft_clauses v_paces_version v_packing_quicker v_packing_loads v_packing_looseCount v_marches_told v_marches_changeMinutes v_marches_marching v_marches_gone v_search_known v_search_countHere v_search_countThere v_search_cost v_search_most v_search_found f_bytes f_knee f_weight f_limps f_bheft f_owner f_food f_miles f_slope f_rsteps f_rkind f_ryields f_rholds f_rletters f_rstack f_dsteps f_dkind f_dyields f_dholds f_dletters f_dstack f_caps f_versions f_sharing f_pheft f_prow f_holder f_comes f_pcaps f_room f_loose f_8 f_mrow f_minutesOn f_mtired f_here f_there f_statesHere f_statesThere f_listed f_stired f_burdens f_pacesOn f_restedOn f_behindOn f_behindFor f_first f_second f_plans f_tiredOn tS H.size n_30 n_33 hr_room (by omega) (by omega)) (gi_V lwd_720 lwd_721 lwd_722 lwd_34 lwd_723) ⟨rfl, hd_X4_placed⟩ ⟨Nat.le_of_ble_eq_true rfl, Nat.le_of_ble_eq_true rfl⟩ rfl (Nat.le_of_ble_eq_true rfl) dX4_looseFit_86) (fun r_35 u_34 H locs hw hP hD hS => ?_)
                    try dsimp only at hw hP hD
                    have p_36 := hw
                    clear hw
                    refine va_mmin hx hb (by rw [hml]; exact hl.1.symm) hown (hts _ lwd_719) (hts _ lwd_528) (hts _ lwd_529) (hts _ lwd_530) (Nat.le_of_ble_eq_true rfl) (Nat.le_of_ble_eq_true rfl) (Nat.zero_le _) (Nat.zero_le _) dX4_looseFit_89 ?_
                    refine lv_topi (fun n_37 en_37 => ?_)
                    have tn_37 := i_min en_37 (rfl : l_16.toInt = l_16.toInt) (rfl : r_35.toInt = r_35.toInt)
                    refine lv_istore (lv' := [(4, .int n_37), (5, .int l_17), (3, .int l_9), (2, .int n_1), (0, .ref (hs 31)), (1, .int fr0)]) hx hb dX4_looseFit_92 hl (by decide) rfl (fun ls hl => ?_)
                    obtain ⟨n_38, en_38⟩ : ∃ y : Int32, y = l_17 + 1 := ⟨_, rfl⟩
                    have tn_38 : n_38.toInt = l_17.toInt + 1 := i_add en_38 (rfl : l_17.toInt = l_17.toInt) (by decide : (1 : Int32).toInt = 1) (by omega) (by omega)
                    refine lv_iinc (v := n_38) (lv' := [(5, .int n_38), (4, .int n_37), (3, .int l_9), (2, .int n_1), (0, .ref (hs 31)), (1, .int fr0)]) hx hb dX4_looseFit_94 hl (k := 1) rfl (by rw [en_38]; rfl) (by decide) rfl (fun ls hl => ?_)
                    refine lv_goto (tgt := 43) hx hb dX4_looseFit_97 (by decide) ?_
                    exact ih43_18 n_37 n_38 (by omega) (by omega) (by omega) _ _ _ hP hD hS (lv_sub hl [0, 1, 2, 3, 4, 5] rfl)
            have k_39 : (3072 : Int32).toInt = 3072 := by decide
            have k_40 : (0 : Int32).toInt = 0 := by decide
            exact L43_18 8589934592 3072 0 (by omega) (by omega) (by omega) _ _ _ hP hD hS (lv_sub hl [0, 1, 2, 3, 4, 5] rfl)
      have k_41 : (1 : Int32).toInt = 1 := by decide
      exact L28_10 8589934592 f_5 1 rf_5 (by omega) (by omega) _ _ _ hP hD hS (lv_sub hl [0, 1, 2, 3] rfl)
    · have gc_4 : 10 < v_packing_looseCount.toInt - fr0.toInt := i_nle tn_1 (by decide : (10 : Int32).toInt = 10) c_4
      exact absurd gc_4 (by omega)
set_option maxHeartbeats 16000000 in
set_option maxRecDepth 100000 in
theorem c_X4_fits (l : Launch) (D : va_G) (cy : Nat → ClassId) (hs : Nat → Nat) (hH hT sH sT : Nat) (v_tape_size v_band_walkers v_band_loads v_band_pieces v_rules_clauses v_reader_end v_reader_at v_reader_length v_reader_letter v_reader_fault v_draft_clauses v_paces_version v_packing_quicker v_packing_loads v_packing_looseCount v_marches_told v_marches_changeMinutes v_marches_marching v_marches_gone v_search_known v_search_countHere v_search_countThere v_search_cost v_search_most : Int32) (v_search_found : Int64) (f_bytes f_knee f_weight f_limps f_bheft f_owner f_food f_miles f_slope f_rsteps f_rkind f_ryields f_rholds f_rletters f_rstack f_dsteps f_dkind f_dyields f_dholds f_dletters f_dstack f_caps f_versions f_sharing f_pheft f_prow f_holder f_comes f_pcaps f_room f_loose f_reached f_mrow f_minutesOn f_mtired : Nat → Int32) (f_here f_there : Nat → Int64) (f_statesHere f_statesThere f_listed f_stired f_burdens f_pacesOn f_restedOn f_behindOn f_behindFor f_first f_second : Nat → Int32) (f_plans f_tiredOn : Nat → Nat → Int32) (tS : Nat) (sz : Nat) (q : Int32) (hb_v_packing_quicker : -1 ≤ v_packing_quicker.toInt ∧ v_packing_quicker.toInt ≤ 5) (hb_v_packing_loads : 0 ≤ v_packing_loads.toInt ∧ v_packing_loads.toInt ≤ 10) (hb_v_packing_looseCount : 0 ≤ v_packing_looseCount.toInt ∧ v_packing_looseCount.toInt ≤ 10) (hr_caps : rg (-1) 400 f_caps) (hr_pheft : rg (0) 250 f_pheft) (hr_holder : rg (-1) 5 f_holder) (hr_comes : rg (0) 1 f_comes) (hr_pcaps : rg (0) 21899 f_pcaps) (hr_room : rg (-1000) 400 f_room) (hr_loose : rg (0) 9 f_loose) (hr_reached : rg (0) 3072 f_reached) (ha_q : 1 ≤ q.toInt ∧ q.toInt ≤ 60) : gMi l yX4_fits cX4_fits 2 .boolean 3 [.ref (hs 31), .int q] D cy (wSP cy hs hH hT sH sT v_tape_size v_band_walkers v_band_loads v_band_pieces v_rules_clauses v_reader_end v_reader_at v_reader_length v_reader_letter v_reader_fault v_draft_clauses v_paces_version v_packing_quicker v_packing_loads v_packing_looseCount v_marches_told v_marches_changeMinutes v_marches_marching v_marches_gone v_search_known v_search_countHere v_search_countThere v_search_cost v_search_most v_search_found f_bytes f_knee f_weight f_limps f_bheft f_owner f_food f_miles f_slope f_rsteps f_rkind f_ryields f_rholds f_rletters f_rstack f_dsteps f_dkind f_dyields f_dholds f_dletters f_dstack f_caps f_versions f_sharing f_pheft f_prow f_holder f_comes f_pcaps f_room f_loose f_reached f_mrow f_minutesOn f_mtired f_here f_there f_statesHere f_statesThere f_listed f_stired f_burdens f_pacesOn f_restedOn f_behindOn f_behindFor f_first f_second f_plans f_tiredOn) (NS tS) sz (fun (r : Int32) (u : Int32 × (Nat → Int32) × (Nat → Int32) × (Nat → Int32)) => (0 ≤ r.toInt ∧ r.toInt ≤ 1) ∧ (0 ≤ (u.1).toInt ∧ (u.1).toInt ≤ 10) ∧ (rg (-1000) 400 (u.2.1)) ∧ (rg (0) 9 (u.2.2.1)) ∧ (rg (0) 3072 (u.2.2.2))) (fun u => wSP cy hs hH hT sH sT v_tape_size v_band_walkers v_band_loads v_band_pieces v_rules_clauses v_reader_end v_reader_at v_reader_length v_reader_letter v_reader_fault v_draft_clauses v_paces_version v_packing_quicker v_packing_loads (u.1) v_marches_told v_marches_changeMinutes v_marches_marching v_marches_gone v_search_known v_search_countHere v_search_countThere v_search_cost v_search_most v_search_found f_bytes f_knee f_weight f_limps f_bheft f_owner f_food f_miles f_slope f_rsteps f_rkind f_ryields f_rholds f_rletters f_rstack f_dsteps f_dkind f_dyields f_dholds f_dletters f_dstack f_caps f_versions f_sharing f_pheft f_prow f_holder f_comes f_pcaps (u.2.1) (u.2.2.1) (u.2.2.2) f_mrow f_minutesOn f_mtired f_here f_there f_statesHere f_statesThere f_listed f_stired f_burdens f_pacesOn f_restedOn f_behindOn f_behindFor f_first f_second f_plans f_tiredOn) := by
  refine gMi_in (by decide) (Nat.le_of_ble_eq_true rfl) ?_
  intro p e s m args below meth c A ls Q hx hb hml hts hown hsz hP hK hD hN hAe hA hS hl hret
  subst hsz
  have hl : lv_has ls 2 [(0, .ref (hs 31)), (1, .int q)] := hl
  have hrt := fun (r : Int32) (v_packing_looseCount' : Int32) (f_room' : Nat → Int32) (f_loose' : Nat → Int32) (f_reached' : Nat → Int32) (hp : (0 ≤ r.toInt ∧ r.toInt ≤ 1) ∧ (0 ≤ v_packing_looseCount'.toInt ∧ v_packing_looseCount'.toInt ≤ 10) ∧ (rg (-1000) 400 f_room') ∧ (rg (0) 9 f_loose') ∧ (rg (0) 3072 f_reached')) {H : Heap} {locs : List Loc} {pc : Nat} {ls : Array Slot} => hret r (v_packing_looseCount', f_room', f_loose', f_reached') (H := H) (locs := locs) (pc := pc) (ls := ls) hp
  clear hret
  refine lv_aload_n hx hb dX4_fits_0 rfl (lv_at hl 0 rfl) ?_
  refine lv_iload_n hx hb dX4_fits_1 rfl (lv_at hl 1 rfl) ?_
  refine xi hD hS hA (xV (As := [.int q]) (rest := []) hx hb hml hown hts hK hP hD hS hA NS_ok hN hAe hl.1 ⟨Nat.le_refl _, Nat.le_refl _⟩ 31 rfl rfl rfl (c_X4_openRooms l D cy hs hH hT sH sT v_tape_size v_band_walkers v_band_loads v_band_pieces v_rules_clauses v_reader_end v_reader_at v_reader_length v_reader_letter v_reader_fault v_draft_clauses v_paces_version v_packing_quicker v_packing_loads v_packing_looseCount v_marches_told v_marches_changeMinutes v_marches_marching v_marches_gone v_search_known v_search_countHere v_search_countThere v_search_cost v_search_most v_search_found f_bytes f_knee f_weight f_limps f_bheft f_owner f_food f_miles f_slope f_rsteps f_rkind f_ryields f_rholds f_rletters f_rstack f_dsteps f_dkind f_dyields f_dholds f_dletters f_dstack f_caps f_versions f_sharing f_pheft f_prow f_holder f_comes f_pcaps f_room f_loose f_reached f_mrow f_minutesOn f_mtired f_here f_there f_statesHere f_statesThere f_listed f_stired f_burdens f_pacesOn f_restedOn f_behindOn f_behindFor f_first f_second f_plans f_tiredOn tS s.heap.size q (by omega) (by omega) (by omega) hr_caps hr_pheft hr_holder hr_comes hr_pcaps hr_room hr_loose (by omega)) (gi_V lwd_705 lwd_706 lwd_707 lwd_34 lwd_708) ⟨rfl, hd_X4_openRooms⟩ ⟨Nat.le_of_ble_eq_true rfl, Nat.le_of_ble_eq_true rfl⟩ rfl (Nat.le_of_ble_eq_true rfl) dX4_fits_2) (fun r_2 u_1 H locs hw hP hD hS => ?_)
  obtain ⟨zpacking_looseCount_3, zroom_4, zloose_5⟩ := u_1
  try dsimp only at hw hP hD
  obtain ⟨p_6, p_7, p_8, p_9, p_10⟩ := hw
  refine lv_if_eq (tgt := 20) hx hb dX4_fits_5 (by decide) (fun c_11 => ?_) (fun c_11 => ?_)
  · have gc_11 : r_2.toInt = 0 := i_eq (rfl : r_2.toInt = r_2.toInt) (by decide : (0 : Int32).toInt = 0) c_11
    refine lv_iconst (v := 0) hx hb dX4_fits_20 (by decide) ?_
    have k_12 : (0 : Int32).toInt = 0 := by decide
    exact hrt 0 zpacking_looseCount_3 zroom_4 zloose_5 f_reached ⟨(by omega), (by omega), p_9, p_10, hr_reached⟩ hP hD hS rfl dX4_fits_21
  · have gc_11 : r_2.toInt ≠ 0 := i_ne (rfl : r_2.toInt = r_2.toInt) (by decide : (0 : Int32).toInt = 0) c_11
    refine lv_aload_n hx hb dX4_fits_8 rfl (lv_at hl 0 rfl) ?_
    refine lv_iconst (v := 0) hx hb dX4_fits_9 (by decide) ?_
    have k_13 : (0 : Int32).toInt = 0 := by decide
    refine xi hD hS hA (xV (As := [.int 0]) (rest := []) hx hb hml hown hts hK hP hD hS hA NS_ok hN hAe hl.1 ⟨Nat.le_refl _, Nat.le_refl _⟩ 31 rfl rfl rfl (c_X4_looseFit l D cy hs hH hT sH sT v_tape_size v_band_walkers v_band_loads v_band_pieces v_rules_clauses v_reader_end v_reader_at v_reader_length v_reader_letter v_reader_fault v_draft_clauses v_paces_version v_packing_quicker v_packing_loads zpacking_looseCount_3 v_marches_told v_marches_changeMinutes v_marches_marching v_marches_gone v_search_known v_search_countHere v_search_countThere v_search_cost v_search_most v_search_found f_bytes f_knee f_weight f_limps f_bheft f_owner f_food f_miles f_slope f_rsteps f_rkind f_ryields f_rholds f_rletters f_rstack f_dsteps f_dkind f_dyields f_dholds f_dletters f_dstack f_caps f_versions f_sharing f_pheft f_prow f_holder f_comes f_pcaps zroom_4 zloose_5 f_reached f_mrow f_minutesOn f_mtired f_here f_there f_statesHere f_statesThere f_listed f_stired f_burdens f_pacesOn f_restedOn f_behindOn f_behindFor f_first f_second f_plans f_tiredOn tS H.size 0 (by omega) hr_pheft p_9 p_10 hr_reached (by omega)) (gi_V lwd_715 lwd_716 lwd_717 lwd_34 lwd_718) ⟨rfl, hd_X4_looseFit⟩ ⟨Nat.le_of_ble_eq_true rfl, Nat.le_of_ble_eq_true rfl⟩ rfl (Nat.le_of_ble_eq_true rfl) dX4_fits_10) (fun r_15 u_14 H locs hw hP hD hS => ?_)
    obtain ⟨zreached_16, rfl⟩ : ∃ z, z = u_14 := ⟨_, rfl⟩
    try dsimp only at hw hP hD
    obtain ⟨p_17, p_18⟩ := hw
    refine lv_if_eq (tgt := 20) hx hb dX4_fits_13 (by decide) (fun c_19 => ?_) (fun c_19 => ?_)
    · have gc_19 : r_15.toInt = 0 := i_eq (rfl : r_15.toInt = r_15.toInt) (by decide : (0 : Int32).toInt = 0) c_19
      refine lv_iconst (v := 0) hx hb dX4_fits_20 (by decide) ?_
      have k_20 : (0 : Int32).toInt = 0 := by decide
      exact hrt 0 zpacking_looseCount_3 zroom_4 zloose_5 zreached_16 ⟨(by omega), (by omega), p_9, p_10, p_18⟩ hP hD hS rfl dX4_fits_21
    · have gc_19 : r_15.toInt ≠ 0 := i_ne (rfl : r_15.toInt = r_15.toInt) (by decide : (0 : Int32).toInt = 0) c_19
      refine lv_iconst (v := 1) hx hb dX4_fits_16 (by decide) ?_
      refine lv_goto (tgt := 21) hx hb dX4_fits_17 (by decide) ?_
      have k_21 : (1 : Int32).toInt = 1 := by decide
      exact hrt 1 zpacking_looseCount_3 zroom_4 zloose_5 zreached_16 ⟨(by omega), (by omega), p_9, p_10, p_18⟩ hP hD hS rfl dX4_fits_21
set_option maxHeartbeats 16000000 in
set_option maxRecDepth 100000 in
theorem c_X4_begin (l : Launch) (D : va_G) (cy : Nat → ClassId) (hs : Nat → Nat) (hH hT sH sT : Nat) (v_tape_size v_band_walkers v_band_loads v_band_pieces v_rules_clauses v_reader_end v_reader_at v_reader_length v_reader_letter v_reader_fault v_draft_clauses v_paces_version v_packing_quicker v_packing_loads v_packing_looseCount v_marches_told v_marches_changeMinutes v_marches_marching v_marches_gone v_search_known v_search_countHere v_search_countThere v_search_cost v_search_most : Int32) (v_search_found : Int64) (f_bytes f_knee f_weight f_limps f_bheft f_owner f_food f_miles f_slope f_rsteps f_rkind f_ryields f_rholds f_rletters f_rstack f_dsteps f_dkind f_dyields f_dholds f_dletters f_dstack f_caps f_versions f_sharing f_pheft f_prow f_holder f_comes f_pcaps f_room f_loose f_reached f_mrow f_minutesOn f_mtired : Nat → Int32) (f_here f_there : Nat → Int64) (f_statesHere f_statesThere f_listed f_stired f_burdens f_pacesOn f_restedOn f_behindOn f_behindFor f_first f_second : Nat → Int32) (f_plans f_tiredOn : Nat → Nat → Int32) (tS : Nat) (sz : Nat) (i : Int32) (all : Int32) (hb_v_band_walkers : 0 ≤ v_band_walkers.toInt ∧ v_band_walkers.toInt ≤ 6) (hb_v_band_loads : 0 ≤ v_band_loads.toInt ∧ v_band_loads.toInt ≤ 9) (hb_v_rules_clauses : 0 ≤ v_rules_clauses.toInt ∧ v_rules_clauses.toInt ≤ 14) (hb_v_packing_quicker : -1 ≤ v_packing_quicker.toInt ∧ v_packing_quicker.toInt ≤ 5) (hb_v_packing_loads : 0 ≤ v_packing_loads.toInt ∧ v_packing_loads.toInt ≤ 10) (hr_weight : rg (0) 250 f_weight) (hr_limps : rg (0) 1 f_limps) (hr_bheft : rg (0) 120 f_bheft) (hr_owner : rg (-1) 5 f_owner) (hr_food : rg (0) 20 f_food) (hr_miles : rg (0) 20 f_miles) (hr_caps : rg (-1) 400 f_caps) (hr_pheft : rg (0) 250 f_pheft) (hr_holder : rg (-1) 5 f_holder) (hr_comes : rg (0) 1 f_comes) (hr_pcaps : rg (0) 21899 f_pcaps) (ha_i : 0 ≤ i.toInt ∧ i.toInt ≤ 9) (ha_all : 0 ≤ all.toInt ∧ all.toInt ≤ 46655) : gMv l yX4_begin cX4_begin 4 5 [.ref (hs 31), .int i, .int all] D cy (wSP cy hs hH hT sH sT v_tape_size v_band_walkers v_band_loads v_band_pieces v_rules_clauses v_reader_end v_reader_at v_reader_length v_reader_letter v_reader_fault v_draft_clauses v_paces_version v_packing_quicker v_packing_loads v_packing_looseCount v_marches_told v_marches_changeMinutes v_marches_marching v_marches_gone v_search_known v_search_countHere v_search_countThere v_search_cost v_search_most v_search_found f_bytes f_knee f_weight f_limps f_bheft f_owner f_food f_miles f_slope f_rsteps f_rkind f_ryields f_rholds f_rletters f_rstack f_dsteps f_dkind f_dyields f_dholds f_dletters f_dstack f_caps f_versions f_sharing f_pheft f_prow f_holder f_comes f_pcaps f_room f_loose f_reached f_mrow f_minutesOn f_mtired f_here f_there f_statesHere f_statesThere f_listed f_stired f_burdens f_pacesOn f_restedOn f_behindOn f_behindFor f_first f_second f_plans f_tiredOn) (NS tS) sz (fun (u : Int32 × Int32 × (Nat → Int32) × (Nat → Int32) × (Nat → Int32) × (Nat → Int32) × (Nat → Int32) × (Nat → Int32) × (Nat → Int32) × (Nat → Int32)) => ((u.2.1).toInt = v_band_loads.toInt) ∧ (-1 ≤ (u.1).toInt ∧ (u.1).toInt ≤ 5) ∧ (0 ≤ (u.2.1).toInt ∧ (u.2.1).toInt ≤ 10) ∧ (rg (-1) 400 (u.2.2.2.2.1)) ∧ (rg (0) 250 (u.2.2.2.2.2.2.1)) ∧ (rg (-1) 5 (u.2.2.2.2.2.2.2.1)) ∧ (rg (0) 1 (u.2.2.2.2.2.2.2.2.1)) ∧ (rg (0) 21899 (u.2.2.2.2.2.2.2.2.2))) (fun u => wSP cy hs hH hT sH sT v_tape_size v_band_walkers v_band_loads v_band_pieces v_rules_clauses v_reader_end v_reader_at v_reader_length v_reader_letter v_reader_fault v_draft_clauses v_paces_version (u.1) (u.2.1) v_packing_looseCount v_marches_told v_marches_changeMinutes v_marches_marching v_marches_gone v_search_known v_search_countHere v_search_countThere v_search_cost v_search_most v_search_found f_bytes f_knee f_weight f_limps f_bheft f_owner f_food f_miles f_slope f_rsteps f_rkind f_ryields f_rholds (u.2.2.1) (u.2.2.2.1) f_dsteps f_dkind f_dyields f_dholds f_dletters f_dstack (u.2.2.2.2.1) (u.2.2.2.2.2.1) f_sharing (u.2.2.2.2.2.2.1) f_prow (u.2.2.2.2.2.2.2.1) (u.2.2.2.2.2.2.2.2.1) (u.2.2.2.2.2.2.2.2.2) f_room f_loose f_reached f_mrow f_minutesOn f_mtired f_here f_there f_statesHere f_statesThere f_listed f_stired f_burdens f_pacesOn f_restedOn f_behindOn f_behindFor f_first f_second f_plans f_tiredOn) := by
  refine gMv_in (by decide) (Nat.le_of_ble_eq_true rfl) ?_
  intro p e s m args below meth c A ls Q hx hb hml hts hown hsz hP hK hD hN hAe hA hS hl hret
  subst hsz
  have hl : lv_has ls 4 [(0, .ref (hs 31)), (1, .int i), (2, .int all)] := hl
  have hrt := fun (v_packing_quicker' : Int32) (v_packing_loads' : Int32) (f_rletters' : Nat → Int32) (f_rstack' : Nat → Int32) (f_caps' : Nat → Int32) (f_versions' : Nat → Int32) (f_pheft' : Nat → Int32) (f_holder' : Nat → Int32) (f_comes' : Nat → Int32) (f_pcaps' : Nat → Int32) (hp : (v_packing_loads'.toInt = v_band_loads.toInt) ∧ (-1 ≤ v_packing_quicker'.toInt ∧ v_packing_quicker'.toInt ≤ 5) ∧ (0 ≤ v_packing_loads'.toInt ∧ v_packing_loads'.toInt ≤ 10) ∧ (rg (-1) 400 f_caps') ∧ (rg (0) 250 f_pheft') ∧ (rg (-1) 5 f_holder') ∧ (rg (0) 1 f_comes') ∧ (rg (0) 21899 f_pcaps')) {H : Heap} {locs : List Loc} {pc : Nat} {ls : Array Slot} => hret (v_packing_quicker', v_packing_loads', f_rletters', f_rstack', f_caps', f_versions', f_pheft', f_holder', f_comes', f_pcaps') (H := H) (locs := locs) (pc := pc) (ls := ls) hp
  clear hret
  refine lv_aload_n hx hb dX4_begin_0 rfl (lv_at hl 0 rfl) ?_
  refine lv_iconst (v := (-1)) hx hb dX4_begin_1 (by decide) ?_
  refine pt_SP_packing_quicker (x := (-1)) hx hb hts hown hK hP hD hS lwd_686 dX4_begin_2 (fun H locs hP hD hS => ?_)
  refine lv_aload_n hx hb dX4_begin_5 rfl (lv_at hl 0 rfl) ?_
  refine lv_aload_n hx hb dX4_begin_6 rfl (lv_at hl 0 rfl) ?_
  refine gt_SP_packing_band hx hb hts hown hK hP lwd_103 dX4_begin_7 ?_
  refine gt_SP_band_loads hx hb hts hown hK hP lwd_687 dX4_begin_10 ?_
  refine pt_SP_packing_loads (x := v_band_loads) hx hb hts hown hK hP hD hS lwd_688 dX4_begin_13 (fun H locs hP hD hS => ?_)
  refine lv_iconst (v := 0) hx hb dX4_begin_16 (by decide) ?_
  refine lv_istore_n (lv' := [(3, .int 0), (0, .ref (hs 31)), (1, .int i), (2, .int all)]) hx hb dX4_begin_17 rfl hl (by decide) rfl (fun ls hl => ?_)
  have L18_7 : ∀ (n : Nat) (f_4 : Nat → Int32) (f_5 : Nat → Int32) (l_6 : Int32), (rg (-1) 5 f_4) → (rg (0) 250 f_5) → (0 ≤ l_6.toInt ∧ l_6.toInt ≤ 9) → 10 - l_6.toInt < n → ∀ (H : Heap) (locs : List Loc) (ls : Array Slot), va_P D vwCl (wSP cy hs hH hT sH sT v_tape_size v_band_walkers v_band_loads v_band_pieces v_rules_clauses v_reader_end v_reader_at v_reader_length v_reader_letter v_reader_fault v_draft_clauses v_paces_version (-1) v_band_loads v_packing_looseCount v_marches_told v_marches_changeMinutes v_marches_marching v_marches_gone v_search_known v_search_countHere v_search_countThere v_search_cost v_search_most v_search_found f_bytes f_knee f_weight f_limps f_bheft f_owner f_food f_miles f_slope f_rsteps f_rkind f_ryields f_rholds f_rletters f_rstack f_dsteps f_dkind f_dyields f_dholds f_dletters f_dstack f_caps f_versions f_sharing f_5 f_prow f_4 f_comes f_pcaps f_room f_loose f_reached f_mrow f_minutesOn f_mtired f_here f_there f_statesHere f_statesThere f_listed f_stired f_burdens f_pacesOn f_restedOn f_behindOn f_behindFor f_first f_second f_plans f_tiredOn) H → va_D A (wSP cy hs hH hT sH sT v_tape_size v_band_walkers v_band_loads v_band_pieces v_rules_clauses v_reader_end v_reader_at v_reader_length v_reader_letter v_reader_fault v_draft_clauses v_paces_version (-1) v_band_loads v_packing_looseCount v_marches_told v_marches_changeMinutes v_marches_marching v_marches_gone v_search_known v_search_countHere v_search_countThere v_search_cost v_search_most v_search_found f_bytes f_knee f_weight f_limps f_bheft f_owner f_food f_miles f_slope f_rsteps f_rkind f_ryields f_rholds f_rletters f_rstack f_dsteps f_dkind f_dyields f_dholds f_dletters f_dstack f_caps f_versions f_sharing f_5 f_prow f_4 f_comes f_pcaps f_room f_loose f_reached f_mrow f_minutesOn f_mtired f_here f_there f_statesHere f_statesThere f_listed f_stired f_burdens f_pacesOn f_restedOn f_behindOn f_behindFor f_first f_second f_plans f_tiredOn) → va_S A s.heap H locs → lv_has ls 4 [(3, .int l_6), (0, .ref (hs 31)), (1, .int i), (2, .int all)] → W p l e (gRm 5) s m args below meth c H locs 0 0 Q (F0 m 18 ls []) := by
    intro n
    induction n with
    | zero => intro f_4 f_5 l_6 hL18_7_0 hL18_7_1 hL18_7_2 hm; exact absurd hm (by omega)
    | succ n ih18_7 =>
      intro f_4 f_5 l_6 hL18_7_0 hL18_7_1 hL18_7_2 hmL18_7 H locs ls hP hD hS hl
      refine lv_iload_n hx hb dX4_begin_18 rfl (lv_at hl 0 rfl) ?_
      refine lv_aload_n hx hb dX4_begin_19 rfl (lv_at hl 1 rfl) ?_
      refine gt_SP_packing_loads hx hb hts hown hK hP lwd_688 dX4_begin_20 ?_
      refine lv_icmp_ge (tgt := 62) hx hb dX4_begin_23 (by decide) (fun c_8 => ?_) (fun c_8 => ?_)
      · have gc_8 : v_band_loads.toInt ≤ l_6.toInt := i_le (rfl : v_band_loads.toInt = v_band_loads.toInt) (rfl : l_6.toInt = l_6.toInt) c_8
        refine lv_iconst (v := 0) hx hb dX4_begin_62 (by decide) ?_
        refine lv_istore_n (lv' := [(3, .int 0), (0, .ref (hs 31)), (1, .int i), (2, .int all)]) hx hb dX4_begin_63 rfl hl (by decide) rfl (fun ls hl => ?_)
        have L64_23 : ∀ (n : Nat) (f_16 : Nat → Int32) (f_17 : Nat → Int32) (f_18 : Nat → Int32) (f_19 : Nat → Int32) (f_20 : Nat → Int32) (f_21 : Nat → Int32) (l_22 : Int32), (rg (-1) 400 f_16) → (rg (0) 1 f_17) → (rg (0) 21899 f_18) → (0 ≤ l_22.toInt ∧ l_22.toInt ≤ 6) → 7 - l_22.toInt < n → ∀ (H : Heap) (locs : List Loc) (ls : Array Slot), va_P D vwCl (wSP cy hs hH hT sH sT v_tape_size v_band_walkers v_band_loads v_band_pieces v_rules_clauses v_reader_end v_reader_at v_reader_length v_reader_letter v_reader_fault v_draft_clauses v_paces_version (-1) v_band_loads v_packing_looseCount v_marches_told v_marches_changeMinutes v_marches_marching v_marches_gone v_search_known v_search_countHere v_search_countThere v_search_cost v_search_most v_search_found f_bytes f_knee f_weight f_limps f_bheft f_owner f_food f_miles f_slope f_rsteps f_rkind f_ryields f_rholds f_19 f_20 f_dsteps f_dkind f_dyields f_dholds f_dletters f_dstack f_16 f_21 f_sharing f_5 f_prow f_4 f_17 f_18 f_room f_loose f_reached f_mrow f_minutesOn f_mtired f_here f_there f_statesHere f_statesThere f_listed f_stired f_burdens f_pacesOn f_restedOn f_behindOn f_behindFor f_first f_second f_plans f_tiredOn) H → va_D A (wSP cy hs hH hT sH sT v_tape_size v_band_walkers v_band_loads v_band_pieces v_rules_clauses v_reader_end v_reader_at v_reader_length v_reader_letter v_reader_fault v_draft_clauses v_paces_version (-1) v_band_loads v_packing_looseCount v_marches_told v_marches_changeMinutes v_marches_marching v_marches_gone v_search_known v_search_countHere v_search_countThere v_search_cost v_search_most v_search_found f_bytes f_knee f_weight f_limps f_bheft f_owner f_food f_miles f_slope f_rsteps f_rkind f_ryields f_rholds f_19 f_20 f_dsteps f_dkind f_dyields f_dholds f_dletters f_dstack f_16 f_21 f_sharing f_5 f_prow f_4 f_17 f_18 f_room f_loose f_reached f_mrow f_minutesOn f_mtired f_here f_there f_statesHere f_statesThere f_listed f_stired f_burdens f_pacesOn f_restedOn f_behindOn f_behindFor f_first f_second f_plans f_tiredOn) → va_S A s.heap H locs → lv_has ls 4 [(3, .int l_22), (0, .ref (hs 31)), (1, .int i), (2, .int all)] → W p l e (gRm 5) s m args below meth c H locs 0 0 Q (F0 m 64 ls []) := by
          intro n
          induction n with
          | zero => intro f_16 f_17 f_18 f_19 f_20 f_21 l_22 hL64_23_0 hL64_23_1 hL64_23_2 hL64_23_3 hm; exact absurd hm (by omega)
          | succ n ih64_23 =>
            intro f_16 f_17 f_18 f_19 f_20 f_21 l_22 hL64_23_0 hL64_23_1 hL64_23_2 hL64_23_3 hmL64_23 H locs ls hP hD hS hl
            refine lv_iload_n hx hb dX4_begin_64 rfl (lv_at hl 0 rfl) ?_
            refine lv_bipush (v := 6) hx hb dX4_begin_65 (by decide) ?_
            refine lv_icmp_ge (tgt := 127) hx hb dX4_begin_67 (by decide) (fun c_24 => ?_) (fun c_24 => ?_)
            · have gc_24 : 6 ≤ l_22.toInt := i_le (by decide : (6 : Int32).toInt = 6) (rfl : l_22.toInt = l_22.toInt) c_24
              have k_25 : ((-1) : Int32).toInt = (-1) := by decide
              exact hrt (-1) v_band_loads f_19 f_20 f_16 f_21 f_5 f_4 f_17 f_18 ⟨(by omega), (by omega), (by omega), hL64_23_0, hL18_7_1, hL18_7_0, hL64_23_1, hL64_23_2⟩ hP hD hS dX4_begin_127
            · have gc_24 : l_22.toInt < 6 := i_nle (by decide : (6 : Int32).toInt = 6) (rfl : l_22.toInt = l_22.toInt) c_24
              refine lv_aload_n hx hb dX4_begin_70 rfl (lv_at hl 1 rfl) ?_
              refine gt_SP_packing_comes hx hb hts hown hK hP lwd_98 dX4_begin_71 ?_
              refine lv_iload_n hx hb dX4_begin_74 rfl (lv_at hl 0 rfl) ?_
              refine lv_iload_n hx hb dX4_begin_75 rfl (lv_at hl 0 rfl) ?_
              refine lv_aload_n hx hb dX4_begin_76 rfl (lv_at hl 1 rfl) ?_
              refine gt_SP_packing_band hx hb hts hown hK hP lwd_103 dX4_begin_77 ?_
              refine gt_SP_band_walkers hx hb hts hown hK hP lwd_690 dX4_begin_80 ?_
              refine lv_icmp_ge (tgt := 90) hx hb dX4_begin_83 (by decide) (fun c_26 => ?_) (fun c_26 => ?_)
              · have gc_26 : v_band_walkers.toInt ≤ l_22.toInt := i_le (rfl : v_band_walkers.toInt = v_band_walkers.toInt) (rfl : l_22.toInt = l_22.toInt) c_26
                refine lv_iconst (v := 0) hx hb dX4_begin_90 (by decide) ?_
                refine as_comes (x := 0) hx hb hK hP hD hS hL64_23_1 (i_in (rfl : l_22.toInt = l_22.toInt) (by omega) (by omega)) (by decide) dX4_begin_91 (fun f_27 ef_27 rf_27 H locs hP hD hS => ?_)
                refine lv_aload_n hx hb dX4_begin_92 rfl (lv_at hl 1 rfl) ?_
                refine gt_SP_packing_comes hx hb hts hown hK hP lwd_98 dX4_begin_93 ?_
                refine lv_iload_n hx hb dX4_begin_96 rfl (lv_at hl 0 rfl) ?_
                refine al_comes hx hb hK hP rf_27 (i_in (rfl : l_22.toInt = l_22.toInt) (by omega) (by omega)) dX4_begin_97 (fun n_28 en_28 bn_28 => ?_)
                refine lv_if_eq (tgt := 121) hx hb dX4_begin_98 (by decide) (fun c_29 => ?_) (fun c_29 => ?_)
                · have gc_29 : n_28.toInt = 0 := i_eq (rfl : n_28.toInt = n_28.toInt) (by decide : (0 : Int32).toInt = 0) c_29
                  obtain ⟨n_30, en_30⟩ : ∃ y : Int32, y = l_22 + 1 := ⟨_, rfl⟩
                  have tn_30 : n_30.toInt = l_22.toInt + 1 := i_add en_30 (rfl : l_22.toInt = l_22.toInt) (by decide : (1 : Int32).toInt = 1) (by omega) (by omega)
                  refine lv_iinc (v := n_30) (lv' := [(3, .int n_30), (0, .ref (hs 31)), (1, .int i), (2, .int all)]) hx hb dX4_begin_121 hl (k := 0) rfl (by rw [en_30]; rfl) (by decide) rfl (fun ls hl => ?_)
                  refine lv_goto (tgt := 64) hx hb dX4_begin_124 (by decide) ?_
                  exact ih64_23 f_16 f_27 f_18 f_19 f_20 f_21 n_30 hL64_23_0 rf_27 hL64_23_2 (by omega) (by omega) _ _ _ hP hD hS (lv_sub hl [0, 1, 2, 3] rfl)
                · have gc_29 : n_28.toInt ≠ 0 := i_ne (rfl : n_28.toInt = n_28.toInt) (by decide : (0 : Int32).toInt = 0) c_29
                  refine lv_aload_n hx hb dX4_begin_101 rfl (lv_at hl 1 rfl) ?_
                  refine gt_SP_packing_capsFrom hx hb hts hown hK hP lwd_99 dX4_begin_102 ?_
                  refine lv_iload_n hx hb dX4_begin_105 rfl (lv_at hl 0 rfl) ?_
                  refine lv_aload_n hx hb dX4_begin_106 rfl (lv_at hl 1 rfl) ?_
                  refine gt_SP_packing_paces hx hb hts hown hK hP lwd_104 dX4_begin_107 ?_
                  refine lv_iload_n hx hb dX4_begin_110 rfl (lv_at hl 0 rfl) ?_
                  refine lv_iload_n hx hb dX4_begin_111 rfl (lv_at hl 3 rfl) ?_
                  refine lv_iload_n hx hb dX4_begin_112 rfl (lv_at hl 0 rfl) ?_
                  refine xi hD hS hA (xSN (As := [.int all, .int l_22]) (rest := [.int l_22, .ref (hs 27), .int l_22, .ref (hs 36)]) hx hb hml hown hts hK hP hD hS hA NS_ok hN hAe hl.1 ⟨Nat.le_refl _, Nat.le_refl _⟩ (c_X9_digit l D cy hs hH hT sH sT v_tape_size v_band_walkers v_band_loads v_band_pieces v_rules_clauses v_reader_end v_reader_at v_reader_length v_reader_letter v_reader_fault v_draft_clauses v_paces_version (-1) v_band_loads v_packing_looseCount v_marches_told v_marches_changeMinutes v_marches_marching v_marches_gone v_search_known v_search_countHere v_search_countThere v_search_cost v_search_most v_search_found f_bytes f_knee f_weight f_limps f_bheft f_owner f_food f_miles f_slope f_rsteps f_rkind f_ryields f_rholds f_19 f_20 f_dsteps f_dkind f_dyields f_dholds f_dletters f_dstack f_16 f_21 f_sharing f_5 f_prow f_4 f_27 f_18 f_room f_loose f_reached f_mrow f_minutesOn f_mtired f_here f_there f_statesHere f_statesThere f_listed f_stired f_burdens f_pacesOn f_restedOn f_behindOn f_behindFor f_first f_second f_plans f_tiredOn tS H.size all l_22 (by omega) (by omega)) hN.1.2.1 lwd_625 lwd_2 lwd_626 hd_X9_digit ⟨Nat.le_of_ble_eq_true rfl, Nat.le_of_ble_eq_true rfl⟩ rfl (Nat.le_of_ble_eq_true rfl) dX4_begin_113) (fun r_32 u_31 H locs hw hP hD hS => ?_)
                  try dsimp only at hw hP hD
                  have p_33 := hw
                  clear hw
                  refine lv_iload_n hx hb dX4_begin_116 rfl (lv_at hl 2 rfl) ?_
                  refine xi hD hS hA (xV (As := [.int l_22, .int r_32, .int i]) (rest := [.int l_22, .ref (hs 36)]) hx hb hml hown hts hK hP hD hS hA NS_ok hN hAe hl.1 ⟨Nat.le_refl _, Nat.le_refl _⟩ 27 rfl rfl rfl (c_X3_capsFrom l D cy hs hH hT sH sT v_tape_size v_band_walkers v_band_loads v_band_pieces v_rules_clauses v_reader_end v_reader_at v_reader_length v_reader_letter v_reader_fault v_draft_clauses v_paces_version (-1) v_band_loads v_packing_looseCount v_marches_told v_marches_changeMinutes v_marches_marching v_marches_gone v_search_known v_search_countHere v_search_countThere v_search_cost v_search_most v_search_found f_bytes f_knee f_weight f_limps f_bheft f_owner f_food f_miles f_slope f_rsteps f_rkind f_ryields f_rholds f_19 f_20 f_dsteps f_dkind f_dyields f_dholds f_dletters f_dstack f_16 f_21 f_sharing f_5 f_prow f_4 f_27 f_18 f_room f_loose f_reached f_mrow f_minutesOn f_mtired f_here f_there f_statesHere f_statesThere f_listed f_stired f_burdens f_pacesOn f_restedOn f_behindOn f_behindFor f_first f_second f_plans f_tiredOn tS H.size l_22 r_32 i (by omega) (by omega) hr_weight hr_limps hr_miles hL64_23_0 (by omega) (by omega) (by omega)) (gi_V lwd_696 lwd_592 lwd_593 lwd_30 lwd_594) ⟨rfl, hd_X3_capsFrom⟩ ⟨Nat.le_of_ble_eq_true rfl, Nat.le_of_ble_eq_true rfl⟩ rfl (Nat.le_of_ble_eq_true rfl) dX4_begin_117) (fun r_35 u_34 H locs hw hP hD hS => ?_)
                  obtain ⟨zrletters_36, zrstack_37, zcaps_38, zversions_39⟩ := u_34
                  try dsimp only at hw hP hD
                  obtain ⟨p_40, p_41⟩ := hw
                  refine as_pcaps (x := r_35) hx hb hK hP hD hS hL64_23_2 (i_in (rfl : l_22.toInt = l_22.toInt) (by omega) (by omega)) (by omega) dX4_begin_120 (fun f_42 ef_42 rf_42 H locs hP hD hS => ?_)
                  obtain ⟨n_43, en_43⟩ : ∃ y : Int32, y = l_22 + 1 := ⟨_, rfl⟩
                  have tn_43 : n_43.toInt = l_22.toInt + 1 := i_add en_43 (rfl : l_22.toInt = l_22.toInt) (by decide : (1 : Int32).toInt = 1) (by omega) (by omega)
                  refine lv_iinc (v := n_43) (lv' := [(3, .int n_43), (0, .ref (hs 31)), (1, .int i), (2, .int all)]) hx hb dX4_begin_121 hl (k := 0) rfl (by rw [en_43]; rfl) (by decide) rfl (fun ls hl => ?_)
                  refine lv_goto (tgt := 64) hx hb dX4_begin_124 (by decide) ?_
                  exact ih64_23 zcaps_38 f_27 f_42 zrletters_36 zrstack_37 zversions_39 n_43 p_41 rf_27 rf_42 (by omega) (by omega) _ _ _ hP hD hS (lv_sub hl [0, 1, 2, 3] rfl)
              · have gc_26 : l_22.toInt < v_band_walkers.toInt := i_nle (rfl : v_band_walkers.toInt = v_band_walkers.toInt) (rfl : l_22.toInt = l_22.toInt) c_26
                refine lv_iconst (v := 1) hx hb dX4_begin_86 (by decide) ?_
                refine lv_goto (tgt := 91) hx hb dX4_begin_87 (by decide) ?_
                refine as_comes (x := 1) hx hb hK hP hD hS hL64_23_1 (i_in (rfl : l_22.toInt = l_22.toInt) (by omega) (by omega)) (by decide) dX4_begin_91 (fun f_44 ef_44 rf_44 H locs hP hD hS => ?_)
                refine lv_aload_n hx hb dX4_begin_92 rfl (lv_at hl 1 rfl) ?_
                refine gt_SP_packing_comes hx hb hts hown hK hP lwd_98 dX4_begin_93 ?_
                refine lv_iload_n hx hb dX4_begin_96 rfl (lv_at hl 0 rfl) ?_
                refine al_comes hx hb hK hP rf_44 (i_in (rfl : l_22.toInt = l_22.toInt) (by omega) (by omega)) dX4_begin_97 (fun n_45 en_45 bn_45 => ?_)
                refine lv_if_eq (tgt := 121) hx hb dX4_begin_98 (by decide) (fun c_46 => ?_) (fun c_46 => ?_)
                · have gc_46 : n_45.toInt = 0 := i_eq (rfl : n_45.toInt = n_45.toInt) (by decide : (0 : Int32).toInt = 0) c_46
                  obtain ⟨n_47, en_47⟩ : ∃ y : Int32, y = l_22 + 1 := ⟨_, rfl⟩
                  have tn_47 : n_47.toInt = l_22.toInt + 1 := i_add en_47 (rfl : l_22.toInt = l_22.toInt) (by decide : (1 : Int32).toInt = 1) (by omega) (by omega)
                  refine lv_iinc (v := n_47) (lv' := [(3, .int n_47), (0, .ref (hs 31)), (1, .int i), (2, .int all)]) hx hb dX4_begin_121 hl (k := 0) rfl (by rw [en_47]; rfl) (by decide) rfl (fun ls hl => ?_)
                  refine lv_goto (tgt := 64) hx hb dX4_begin_124 (by decide) ?_
                  exact ih64_23 f_16 f_44 f_18 f_19 f_20 f_21 n_47 hL64_23_0 rf_44 hL64_23_2 (by omega) (by omega) _ _ _ hP hD hS (lv_sub hl [0, 1, 2, 3] rfl)
                · have gc_46 : n_45.toInt ≠ 0 := i_ne (rfl : n_45.toInt = n_45.toInt) (by decide : (0 : Int32).toInt = 0) c_46
                  refine lv_aload_n hx hb dX4_begin_101 rfl (lv_at hl 1 rfl) ?_
                  refine gt_SP_packing_capsFrom hx hb hts hown hK hP lwd_99 dX4_begin_102 ?_
                  refine lv_iload_n hx hb dX4_begin_105 rfl (lv_at hl 0 rfl) ?_
                  refine lv_aload_n hx hb dX4_begin_106 rfl (lv_at hl 1 rfl) ?_
                  refine gt_SP_packing_paces hx hb hts hown hK hP lwd_104 dX4_begin_107 ?_
                  refine lv_iload_n hx hb dX4_begin_110 rfl (lv_at hl 0 rfl) ?_
                  refine lv_iload_n hx hb dX4_begin_111 rfl (lv_at hl 3 rfl) ?_
                  refine lv_iload_n hx hb dX4_begin_112 rfl (lv_at hl 0 rfl) ?_
                  refine xi hD hS hA (xSN (As := [.int all, .int l_22]) (rest := [.int l_22, .ref (hs 27), .int l_22, .ref (hs 36)]) hx hb hml hown hts hK hP hD hS hA NS_ok hN hAe hl.1 ⟨Nat.le_refl _, Nat.le_refl _⟩ (c_X9_digit l D cy hs hH hT sH sT v_tape_size v_band_walkers v_band_loads v_band_pieces v_rules_clauses v_reader_end v_reader_at v_reader_length v_reader_letter v_reader_fault v_draft_clauses v_paces_version (-1) v_band_loads v_packing_looseCount v_marches_told v_marches_changeMinutes v_marches_marching v_marches_gone v_search_known v_search_countHere v_search_countThere v_search_cost v_search_most v_search_found f_bytes f_knee f_weight f_limps f_bheft f_owner f_food f_miles f_slope f_rsteps f_rkind f_ryields f_rholds f_19 f_20 f_dsteps f_dkind f_dyields f_dholds f_dletters f_dstack f_16 f_21 f_sharing f_5 f_prow f_4 f_44 f_18 f_room f_loose f_reached f_mrow f_minutesOn f_mtired f_here f_there f_statesHere f_statesThere f_listed f_stired f_burdens f_pacesOn f_restedOn f_behindOn f_behindFor f_first f_second f_plans f_tiredOn tS H.size all l_22 (by omega) (by omega)) hN.1.2.1 lwd_625 lwd_2 lwd_626 hd_X9_digit ⟨Nat.le_of_ble_eq_true rfl, Nat.le_of_ble_eq_true rfl⟩ rfl (Nat.le_of_ble_eq_true rfl) dX4_begin_113) (fun r_49 u_48 H locs hw hP hD hS => ?_)
                  try dsimp only at hw hP hD
                  have p_50 := hw
                  clear hw
                  refine lv_iload_n hx hb dX4_begin_116 rfl (lv_at hl 2 rfl) ?_
                  refine xi hD hS hA (xV (As := [.int l_22, .int r_49, .int i]) (rest := [.int l_22, .ref (hs 36)]) hx hb hml hown hts hK hP hD hS hA NS_ok hN hAe hl.1 ⟨Nat.le_refl _, Nat.le_refl _⟩ 27 rfl rfl rfl (c_X3_capsFrom l D cy hs hH hT sH sT v_tape_size v_band_walkers v_band_loads v_band_pieces v_rules_clauses v_reader_end v_reader_at v_reader_length v_reader_letter v_reader_fault v_draft_clauses v_paces_version (-1) v_band_loads v_packing_looseCount v_marches_told v_marches_changeMinutes v_marches_marching v_marches_gone v_search_known v_search_countHere v_search_countThere v_search_cost v_search_most v_search_found f_bytes f_knee f_weight f_limps f_bheft f_owner f_food f_miles f_slope f_rsteps f_rkind f_ryields f_rholds f_19 f_20 f_dsteps f_dkind f_dyields f_dholds f_dletters f_dstack f_16 f_21 f_sharing f_5 f_prow f_4 f_44 f_18 f_room f_loose f_reached f_mrow f_minutesOn f_mtired f_here f_there f_statesHere f_statesThere f_listed f_stired f_burdens f_pacesOn f_restedOn f_behindOn f_behindFor f_first f_second f_plans f_tiredOn tS H.size l_22 r_49 i (by omega) (by omega) hr_weight hr_limps hr_miles hL64_23_0 (by omega) (by omega) (by omega)) (gi_V lwd_696 lwd_592 lwd_593 lwd_30 lwd_594) ⟨rfl, hd_X3_capsFrom⟩ ⟨Nat.le_of_ble_eq_true rfl, Nat.le_of_ble_eq_true rfl⟩ rfl (Nat.le_of_ble_eq_true rfl) dX4_begin_117) (fun r_52 u_51 H locs hw hP hD hS => ?_)
                  obtain ⟨zrletters_53, zrstack_54, zcaps_55, zversions_56⟩ := u_51
                  try dsimp only at hw hP hD
                  obtain ⟨p_57, p_58⟩ := hw
                  refine as_pcaps (x := r_52) hx hb hK hP hD hS hL64_23_2 (i_in (rfl : l_22.toInt = l_22.toInt) (by omega) (by omega)) (by omega) dX4_begin_120 (fun f_59 ef_59 rf_59 H locs hP hD hS => ?_)
                  obtain ⟨n_60, en_60⟩ : ∃ y : Int32, y = l_22 + 1 := ⟨_, rfl⟩
                  have tn_60 : n_60.toInt = l_22.toInt + 1 := i_add en_60 (rfl : l_22.toInt = l_22.toInt) (by decide : (1 : Int32).toInt = 1) (by omega) (by omega)
                  refine lv_iinc (v := n_60) (lv' := [(3, .int n_60), (0, .ref (hs 31)), (1, .int i), (2, .int all)]) hx hb dX4_begin_121 hl (k := 0) rfl (by rw [en_60]; rfl) (by decide) rfl (fun ls hl => ?_)
                  refine lv_goto (tgt := 64) hx hb dX4_begin_124 (by decide) ?_
                  exact ih64_23 zcaps_55 f_44 f_59 zrletters_53 zrstack_54 zversions_56 n_60 p_58 rf_44 rf_59 (by omega) (by omega) _ _ _ hP hD hS (lv_sub hl [0, 1, 2, 3] rfl)
        have k_61 : (0 : Int32).toInt = 0 := by decide
        exact L64_23 8589934592 f_caps f_comes f_pcaps f_rletters f_rstack f_versions 0 hr_caps hr_comes hr_pcaps (by omega) (by omega) _ _ _ hP hD hS (lv_sub hl [0, 1, 2, 3] rfl)
      · have gc_8 : l_6.toInt < v_band_loads.toInt := i_nle (rfl : v_band_loads.toInt = v_band_loads.toInt) (rfl : l_6.toInt = l_6.toInt) c_8
        refine lv_aload_n hx hb dX4_begin_26 rfl (lv_at hl 1 rfl) ?_
        refine gt_SP_packing_heft hx hb hts hown hK hP lwd_95 dX4_begin_27 ?_
        refine lv_iload_n hx hb dX4_begin_30 rfl (lv_at hl 0 rfl) ?_
        refine lv_aload_n hx hb dX4_begin_31 rfl (lv_at hl 1 rfl) ?_
        refine gt_SP_packing_band hx hb hts hown hK hP lwd_103 dX4_begin_32 ?_
        refine lv_iload_n hx hb dX4_begin_35 rfl (lv_at hl 0 rfl) ?_
        refine lv_iload_n hx hb dX4_begin_36 rfl (lv_at hl 2 rfl) ?_
        refine xi hD hS hA (xV (As := [.int l_6, .int i]) (rest := [.int l_6, .ref (hs 32)]) hx hb hml hown hts hK hP hD hS hA NS_ok hN hAe hl.1 ⟨Nat.le_refl _, Nat.le_refl _⟩ 3 rfl rfl rfl (c_X0_heftAt l D cy hs hH hT sH sT v_tape_size v_band_walkers v_band_loads v_band_pieces v_rules_clauses v_reader_end v_reader_at v_reader_length v_reader_letter v_reader_fault v_draft_clauses v_paces_version (-1) v_band_loads v_packing_looseCount v_marches_told v_marches_changeMinutes v_marches_marching v_marches_gone v_search_known v_search_countHere v_search_countThere v_search_cost v_search_most v_search_found f_bytes f_knee f_weight f_limps f_bheft f_owner f_food f_miles f_slope f_rsteps f_rkind f_ryields f_rholds f_rletters f_rstack f_dsteps f_dkind f_dyields f_dholds f_dletters f_dstack f_caps f_versions f_sharing f_5 f_prow f_4 f_comes f_pcaps f_room f_loose f_reached f_mrow f_minutesOn f_mtired f_here f_there f_statesHere f_statesThere f_listed f_stired f_burdens f_pacesOn f_restedOn f_behindOn f_behindFor f_first f_second f_plans f_tiredOn tS H.size l_6 i hr_bheft hr_food (by omega) (by omega)) (gi_V lwd_691 lwd_692 lwd_693 lwd_18 lwd_694) ⟨rfl, hd_X0_heftAt⟩ ⟨Nat.le_of_ble_eq_true rfl, Nat.le_of_ble_eq_true rfl⟩ rfl (Nat.le_of_ble_eq_true rfl) dX4_begin_37) (fun r_63 u_62 H locs hw hP hD hS => ?_)
        try dsimp only at hw hP hD
        have p_64 := hw
        clear hw
        refine as_pheft (x := r_63) hx hb hK hP hD hS hL18_7_1 (i_in (rfl : l_6.toInt = l_6.toInt) (by omega) (by omega)) (by omega) dX4_begin_40 (fun f_65 ef_65 rf_65 H locs hP hD hS => ?_)
        refine lv_aload_n hx hb dX4_begin_41 rfl (lv_at hl 1 rfl) ?_
        refine gt_SP_packing_holder hx hb hts hown hK hP lwd_97 dX4_begin_42 ?_
        refine lv_iload_n hx hb dX4_begin_45 rfl (lv_at hl 0 rfl) ?_
        refine lv_aload_n hx hb dX4_begin_46 rfl (lv_at hl 1 rfl) ?_
        refine gt_SP_packing_band hx hb hts hown hK hP lwd_103 dX4_begin_47 ?_
        refine gt_SP_band_owner hx hb hts hown hK hP lwd_689 dX4_begin_50 ?_
        refine lv_iload_n hx hb dX4_begin_53 rfl (lv_at hl 0 rfl) ?_
        refine al_owner hx hb hK hP hr_owner (i_in (rfl : l_6.toInt = l_6.toInt) (by omega) (by omega)) dX4_begin_54 (fun n_66 en_66 bn_66 => ?_)
        refine as_holder (x := n_66) hx hb hK hP hD hS hL18_7_0 (i_in (rfl : l_6.toInt = l_6.toInt) (by omega) (by omega)) (by omega) dX4_begin_55 (fun f_67 ef_67 rf_67 H locs hP hD hS => ?_)
        obtain ⟨n_68, en_68⟩ : ∃ y : Int32, y = l_6 + 1 := ⟨_, rfl⟩
        have tn_68 : n_68.toInt = l_6.toInt + 1 := i_add en_68 (rfl : l_6.toInt = l_6.toInt) (by decide : (1 : Int32).toInt = 1) (by omega) (by omega)
        refine lv_iinc (v := n_68) (lv' := [(3, .int n_68), (0, .ref (hs 31)), (1, .int i), (2, .int all)]) hx hb dX4_begin_56 hl (k := 0) rfl (by rw [en_68]; rfl) (by decide) rfl (fun ls hl => ?_)
        refine lv_goto (tgt := 18) hx hb dX4_begin_59 (by decide) ?_
        exact ih18_7 f_67 f_65 n_68 rf_67 rf_65 (by omega) (by omega) _ _ _ hP hD hS (lv_sub hl [0, 1, 2, 3] rfl)
  have k_69 : (0 : Int32).toInt = 0 := by decide
  exact L18_7 8589934592 f_holder f_pheft 0 hr_holder hr_pheft (by omega) (by omega) _ _ _ hP hD hS (lv_sub hl [0, 1, 2, 3] rfl)
set_option maxHeartbeats 16000000 in
set_option maxRecDepth 100000 in
theorem c_X4_freeAll (l : Launch) (D : va_G) (cy : Nat → ClassId) (hs : Nat → Nat) (hH hT sH sT : Nat) (v_tape_size v_band_walkers v_band_loads v_band_pieces v_rules_clauses v_reader_end v_reader_at v_reader_length v_reader_letter v_reader_fault v_draft_clauses v_paces_version v_packing_quicker v_packing_loads v_packing_looseCount v_marches_told v_marches_changeMinutes v_marches_marching v_marches_gone v_search_known v_search_countHere v_search_countThere v_search_cost v_search_most : Int32) (v_search_found : Int64) (f_bytes f_knee f_weight f_limps f_bheft f_owner f_food f_miles f_slope f_rsteps f_rkind f_ryields f_rholds f_rletters f_rstack f_dsteps f_dkind f_dyields f_dholds f_dletters f_dstack f_caps f_versions f_sharing f_pheft f_prow f_holder f_comes f_pcaps f_room f_loose f_reached f_mrow f_minutesOn f_mtired : Nat → Int32) (f_here f_there : Nat → Int64) (f_statesHere f_statesThere f_listed f_stired f_burdens f_pacesOn f_restedOn f_behindOn f_behindFor f_first f_second : Nat → Int32) (f_plans f_tiredOn : Nat → Nat → Int32) (tS : Nat) (sz : Nat) (hb_v_packing_loads : 0 ≤ v_packing_loads.toInt ∧ v_packing_loads.toInt ≤ 10) (hr_holder : rg (-1) 5 f_holder) : gMv l yX4_freeAll cX4_freeAll 2 1 [.ref (hs 31)] D cy (wSP cy hs hH hT sH sT v_tape_size v_band_walkers v_band_loads v_band_pieces v_rules_clauses v_reader_end v_reader_at v_reader_length v_reader_letter v_reader_fault v_draft_clauses v_paces_version v_packing_quicker v_packing_loads v_packing_looseCount v_marches_told v_marches_changeMinutes v_marches_marching v_marches_gone v_search_known v_search_countHere v_search_countThere v_search_cost v_search_most v_search_found f_bytes f_knee f_weight f_limps f_bheft f_owner f_food f_miles f_slope f_rsteps f_rkind f_ryields f_rholds f_rletters f_rstack f_dsteps f_dkind f_dyields f_dholds f_dletters f_dstack f_caps f_versions f_sharing f_pheft f_prow f_holder f_comes f_pcaps f_room f_loose f_reached f_mrow f_minutesOn f_mtired f_here f_there f_statesHere f_statesThere f_listed f_stired f_burdens f_pacesOn f_restedOn f_behindOn f_behindFor f_first f_second f_plans f_tiredOn) (NS tS) sz (fun (u : (Nat → Int32)) => (rg (-1) 5 u)) (fun u => wSP cy hs hH hT sH sT v_tape_size v_band_walkers v_band_loads v_band_pieces v_rules_clauses v_reader_end v_reader_at v_reader_length v_reader_letter v_reader_fault v_draft_clauses v_paces_version v_packing_quicker v_packing_loads v_packing_looseCount v_marches_told v_marches_changeMinutes v_marches_marching v_marches_gone v_search_known v_search_countHere v_search_countThere v_search_cost v_search_most v_search_found f_bytes f_knee f_weight f_limps f_bheft f_owner f_food f_miles f_slope f_rsteps f_rkind f_ryields f_rholds f_rletters f_rstack f_dsteps f_dkind f_dyields f_dholds f_dletters f_dstack f_caps f_versions f_sharing f_pheft f_prow u f_comes f_pcaps f_room f_loose f_reached f_mrow f_minutesOn f_mtired f_here f_there f_statesHere f_statesThere f_listed f_stired f_burdens f_pacesOn f_restedOn f_behindOn f_behindFor f_first f_second f_plans f_tiredOn) := by
  refine gMv_in (by decide) (Nat.le_of_ble_eq_true rfl) ?_
  intro p e s m args below meth c A ls Q hx hb hml hts hown hsz hP hK hD hN hAe hA hS hl hret
  subst hsz
  have hl : lv_has ls 2 [(0, .ref (hs 31))] := hl
  have hrt := fun (f_holder' : Nat → Int32) (hp : (rg (-1) 5 f_holder')) {H : Heap} {locs : List Loc} {pc : Nat} {ls : Array Slot} => hret f_holder' (H := H) (locs := locs) (pc := pc) (ls := ls) hp
  clear hret
  refine lv_iconst (v := 0) hx hb dX4_freeAll_0 (by decide) ?_
  refine lv_istore_n (lv' := [(1, .int 0), (0, .ref (hs 31))]) hx hb dX4_freeAll_1 rfl hl (by decide) rfl (fun ls hl => ?_)
  have L2_5 : ∀ (n : Nat) (f_3 : Nat → Int32) (l_4 : Int32), (rg (-1) 5 f_3) → (0 ≤ l_4.toInt ∧ l_4.toInt ≤ 10) → 11 - l_4.toInt < n → ∀ (H : Heap) (locs : List Loc) (ls : Array Slot), va_P D vwCl (wSP cy hs hH hT sH sT v_tape_size v_band_walkers v_band_loads v_band_pieces v_rules_clauses v_reader_end v_reader_at v_reader_length v_reader_letter v_reader_fault v_draft_clauses v_paces_version v_packing_quicker v_packing_loads v_packing_looseCount v_marches_told v_marches_changeMinutes v_marches_marching v_marches_gone v_search_known v_search_countHere v_search_countThere v_search_cost v_search_most v_search_found f_bytes f_knee f_weight f_limps f_bheft f_owner f_food f_miles f_slope f_rsteps f_rkind f_ryields f_rholds f_rletters f_rstack f_dsteps f_dkind f_dyields f_dholds f_dletters f_dstack f_caps f_versions f_sharing f_pheft f_prow f_3 f_comes f_pcaps f_room f_loose f_reached f_mrow f_minutesOn f_mtired f_here f_there f_statesHere f_statesThere f_listed f_stired f_burdens f_pacesOn f_restedOn f_behindOn f_behindFor f_first f_second f_plans f_tiredOn) H → va_D A (wSP cy hs hH hT sH sT v_tape_size v_band_walkers v_band_loads v_band_pieces v_rules_clauses v_reader_end v_reader_at v_reader_length v_reader_letter v_reader_fault v_draft_clauses v_paces_version v_packing_quicker v_packing_loads v_packing_looseCount v_marches_told v_marches_changeMinutes v_marches_marching v_marches_gone v_search_known v_search_countHere v_search_countThere v_search_cost v_search_most v_search_found f_bytes f_knee f_weight f_limps f_bheft f_owner f_food f_miles f_slope f_rsteps f_rkind f_ryields f_rholds f_rletters f_rstack f_dsteps f_dkind f_dyields f_dholds f_dletters f_dstack f_caps f_versions f_sharing f_pheft f_prow f_3 f_comes f_pcaps f_room f_loose f_reached f_mrow f_minutesOn f_mtired f_here f_there f_statesHere f_statesThere f_listed f_stired f_burdens f_pacesOn f_restedOn f_behindOn f_behindFor f_first f_second f_plans f_tiredOn) → va_S A s.heap H locs → lv_has ls 2 [(1, .int l_4), (0, .ref (hs 31))] → W p l e (gRm 1) s m args below meth c H locs 0 0 Q (F0 m 2 ls []) := by
    intro n
    induction n with
    | zero => intro f_3 l_4 hL2_5_0 hL2_5_1 hm; exact absurd hm (by omega)
    | succ n ih2_5 =>
      intro f_3 l_4 hL2_5_0 hL2_5_1 hmL2_5 H locs ls hP hD hS hl
      refine lv_iload_n hx hb dX4_freeAll_2 rfl (lv_at hl 0 rfl) ?_
      refine lv_aload_n hx hb dX4_freeAll_3 rfl (lv_at hl 1 rfl) ?_
      refine gt_SP_packing_loads hx hb hts hown hK hP lwd_688 dX4_freeAll_4 ?_
      refine lv_icmp_ge (tgt := 23) hx hb dX4_freeAll_7 (by decide) (fun c_6 => ?_) (fun c_6 => ?_)
      · have gc_6 : v_packing_loads.toInt ≤ l_4.toInt := i_le (rfl : v_packing_loads.toInt = v_packing_loads.toInt) (rfl : l_4.toInt = l_4.toInt) c_6
        exact hrt f_3 hL2_5_0 hP hD hS dX4_freeAll_23
      · have gc_6 : l_4.toInt < v_packing_loads.toInt := i_nle (rfl : v_packing_loads.toInt = v_packing_loads.toInt) (rfl : l_4.toInt = l_4.toInt) c_6
        refine lv_aload_n hx hb dX4_freeAll_10 rfl (lv_at hl 1 rfl) ?_
        refine gt_SP_packing_holder hx hb hts hown hK hP lwd_97 dX4_freeAll_11 ?_
        refine lv_iload_n hx hb dX4_freeAll_14 rfl (lv_at hl 0 rfl) ?_
        refine lv_iconst (v := (-1)) hx hb dX4_freeAll_15 (by decide) ?_
        refine as_holder (x := (-1)) hx hb hK hP hD hS hL2_5_0 (i_in (rfl : l_4.toInt = l_4.toInt) (by omega) (by omega)) (by decide) dX4_freeAll_16 (fun f_7 ef_7 rf_7 H locs hP hD hS => ?_)
        obtain ⟨n_8, en_8⟩ : ∃ y : Int32, y = l_4 + 1 := ⟨_, rfl⟩
        have tn_8 : n_8.toInt = l_4.toInt + 1 := i_add en_8 (rfl : l_4.toInt = l_4.toInt) (by decide : (1 : Int32).toInt = 1) (by omega) (by omega)
        refine lv_iinc (v := n_8) (lv' := [(1, .int n_8), (0, .ref (hs 31))]) hx hb dX4_freeAll_17 hl (k := 0) rfl (by rw [en_8]; rfl) (by decide) rfl (fun ls hl => ?_)
        refine lv_goto (tgt := 2) hx hb dX4_freeAll_20 (by decide) ?_
        exact ih2_5 f_7 n_8 rf_7 (by omega) (by omega) _ _ _ hP hD hS (lv_sub hl [0, 1] rfl)
  have k_9 : (0 : Int32).toInt = 0 := by decide
  exact L2_5 8589934592 f_holder 0 hr_holder (by omega) (by omega) _ _ _ hP hD hS (lv_sub hl [0, 1] rfl)
set_option maxHeartbeats 16000000 in
set_option maxRecDepth 100000 in
theorem c_X4_leaveOut (l : Launch) (D : va_G) (cy : Nat → ClassId) (hs : Nat → Nat) (hH hT sH sT : Nat) (v_tape_size v_band_walkers v_band_loads v_band_pieces v_rules_clauses v_reader_end v_reader_at v_reader_length v_reader_letter v_reader_fault v_draft_clauses v_paces_version v_packing_quicker v_packing_loads v_packing_looseCount v_marches_told v_marches_changeMinutes v_marches_marching v_marches_gone v_search_known v_search_countHere v_search_countThere v_search_cost v_search_most : Int32) (v_search_found : Int64) (f_bytes f_knee f_weight f_limps f_bheft f_owner f_food f_miles f_slope f_rsteps f_rkind f_ryields f_rholds f_rletters f_rstack f_dsteps f_dkind f_dyields f_dholds f_dletters f_dstack f_caps f_versions f_sharing f_pheft f_prow f_holder f_comes f_pcaps f_room f_loose f_reached f_mrow f_minutesOn f_mtired : Nat → Int32) (f_here f_there : Nat → Int64) (f_statesHere f_statesThere f_listed f_stired f_burdens f_pacesOn f_restedOn f_behindOn f_behindFor f_first f_second : Nat → Int32) (f_plans f_tiredOn : Nat → Nat → Int32) (tS : Nat) (sz : Nat) (w : Int32) (hb_v_packing_loads : 0 ≤ v_packing_loads.toInt ∧ v_packing_loads.toInt ≤ 10) (hr_holder : rg (-1) 5 f_holder) (hr_comes : rg (0) 1 f_comes) (ha_w : 0 ≤ w.toInt ∧ w.toInt ≤ 5) : gMv l yX4_leaveOut cX4_leaveOut 3 1 [.ref (hs 31), .int w] D cy (wSP cy hs hH hT sH sT v_tape_size v_band_walkers v_band_loads v_band_pieces v_rules_clauses v_reader_end v_reader_at v_reader_length v_reader_letter v_reader_fault v_draft_clauses v_paces_version v_packing_quicker v_packing_loads v_packing_looseCount v_marches_told v_marches_changeMinutes v_marches_marching v_marches_gone v_search_known v_search_countHere v_search_countThere v_search_cost v_search_most v_search_found f_bytes f_knee f_weight f_limps f_bheft f_owner f_food f_miles f_slope f_rsteps f_rkind f_ryields f_rholds f_rletters f_rstack f_dsteps f_dkind f_dyields f_dholds f_dletters f_dstack f_caps f_versions f_sharing f_pheft f_prow f_holder f_comes f_pcaps f_room f_loose f_reached f_mrow f_minutesOn f_mtired f_here f_there f_statesHere f_statesThere f_listed f_stired f_burdens f_pacesOn f_restedOn f_behindOn f_behindFor f_first f_second f_plans f_tiredOn) (NS tS) sz (fun (u : (Nat → Int32) × (Nat → Int32)) => (rg (-1) 5 (u.1)) ∧ (rg (0) 1 (u.2))) (fun u => wSP cy hs hH hT sH sT v_tape_size v_band_walkers v_band_loads v_band_pieces v_rules_clauses v_reader_end v_reader_at v_reader_length v_reader_letter v_reader_fault v_draft_clauses v_paces_version v_packing_quicker v_packing_loads v_packing_looseCount v_marches_told v_marches_changeMinutes v_marches_marching v_marches_gone v_search_known v_search_countHere v_search_countThere v_search_cost v_search_most v_search_found f_bytes f_knee f_weight f_limps f_bheft f_owner f_food f_miles f_slope f_rsteps f_rkind f_ryields f_rholds f_rletters f_rstack f_dsteps f_dkind f_dyields f_dholds f_dletters f_dstack f_caps f_versions f_sharing f_pheft f_prow (u.1) (u.2) f_pcaps f_room f_loose f_reached f_mrow f_minutesOn f_mtired f_here f_there f_statesHere f_statesThere f_listed f_stired f_burdens f_pacesOn f_restedOn f_behindOn f_behindFor f_first f_second f_plans f_tiredOn) := by
  refine gMv_in (by decide) (Nat.le_of_ble_eq_true rfl) ?_
  intro p e s m args below meth c A ls Q hx hb hml hts hown hsz hP hK hD hN hAe hA hS hl hret
  subst hsz
  have hl : lv_has ls 3 [(0, .ref (hs 31)), (1, .int w)] := hl
  have hrt := fun (f_holder' : Nat → Int32) (f_comes' : Nat → Int32) (hp : (rg (-1) 5 f_holder') ∧ (rg (0) 1 f_comes')) {H : Heap} {locs : List Loc} {pc : Nat} {ls : Array Slot} => hret (f_holder', f_comes') (H := H) (locs := locs) (pc := pc) (ls := ls) hp
  clear hret
  refine lv_aload_n hx hb dX4_leaveOut_0 rfl (lv_at hl 0 rfl) ?_
  refine gt_SP_packing_comes hx hb hts hown hK hP lwd_98 dX4_leaveOut_1 ?_
  refine lv_iload_n hx hb dX4_leaveOut_4 rfl (lv_at hl 1 rfl) ?_
  refine lv_iconst (v := 0) hx hb dX4_leaveOut_5 (by decide) ?_
  refine as_comes (x := 0) hx hb hK hP hD hS hr_comes (i_in (rfl : w.toInt = w.toInt) (by omega) (by omega)) (by decide) dX4_leaveOut_6 (fun f_1 ef_1 rf_1 H locs hP hD hS => ?_)
  refine lv_iconst (v := 0) hx hb dX4_leaveOut_7 (by decide) ?_
  refine lv_istore_n (lv' := [(2, .int 0), (0, .ref (hs 31)), (1, .int w)]) hx hb dX4_leaveOut_8 rfl hl (by decide) rfl (fun ls hl => ?_)
  have L9_6 : ∀ (n : Nat) (f_4 : Nat → Int32) (l_5 : Int32), (rg (-1) 5 f_4) → (0 ≤ l_5.toInt ∧ l_5.toInt ≤ 10) → 11 - l_5.toInt < n → ∀ (H : Heap) (locs : List Loc) (ls : Array Slot), va_P D vwCl (wSP cy hs hH hT sH sT v_tape_size v_band_walkers v_band_loads v_band_pieces v_rules_clauses v_reader_end v_reader_at v_reader_length v_reader_letter v_reader_fault v_draft_clauses v_paces_version v_packing_quicker v_packing_loads v_packing_looseCount v_marches_told v_marches_changeMinutes v_marches_marching v_marches_gone v_search_known v_search_countHere v_search_countThere v_search_cost v_search_most v_search_found f_bytes f_knee f_weight f_limps f_bheft f_owner f_food f_miles f_slope f_rsteps f_rkind f_ryields f_rholds f_rletters f_rstack f_dsteps f_dkind f_dyields f_dholds f_dletters f_dstack f_caps f_versions f_sharing f_pheft f_prow f_4 f_1 f_pcaps f_room f_loose f_reached f_mrow f_minutesOn f_mtired f_here f_there f_statesHere f_statesThere f_listed f_stired f_burdens f_pacesOn f_restedOn f_behindOn f_behindFor f_first f_second f_plans f_tiredOn) H → va_D A (wSP cy hs hH hT sH sT v_tape_size v_band_walkers v_band_loads v_band_pieces v_rules_clauses v_reader_end v_reader_at v_reader_length v_reader_letter v_reader_fault v_draft_clauses v_paces_version v_packing_quicker v_packing_loads v_packing_looseCount v_marches_told v_marches_changeMinutes v_marches_marching v_marches_gone v_search_known v_search_countHere v_search_countThere v_search_cost v_search_most v_search_found f_bytes f_knee f_weight f_limps f_bheft f_owner f_food f_miles f_slope f_rsteps f_rkind f_ryields f_rholds f_rletters f_rstack f_dsteps f_dkind f_dyields f_dholds f_dletters f_dstack f_caps f_versions f_sharing f_pheft f_prow f_4 f_1 f_pcaps f_room f_loose f_reached f_mrow f_minutesOn f_mtired f_here f_there f_statesHere f_statesThere f_listed f_stired f_burdens f_pacesOn f_restedOn f_behindOn f_behindFor f_first f_second f_plans f_tiredOn) → va_S A s.heap H locs → lv_has ls 3 [(2, .int l_5), (0, .ref (hs 31)), (1, .int w)] → W p l e (gRm 1) s m args below meth c H locs 0 0 Q (F0 m 9 ls []) := by
    intro n
    induction n with
    | zero => intro f_4 l_5 hL9_6_0 hL9_6_1 hm; exact absurd hm (by omega)
    | succ n ih9_6 =>
      intro f_4 l_5 hL9_6_0 hL9_6_1 hmL9_6 H locs ls hP hD hS hl
      refine lv_iload_n hx hb dX4_leaveOut_9 rfl (lv_at hl 0 rfl) ?_
      refine lv_aload_n hx hb dX4_leaveOut_10 rfl (lv_at hl 1 rfl) ?_
      refine gt_SP_packing_loads hx hb hts hown hK hP lwd_688 dX4_leaveOut_11 ?_
      refine lv_icmp_ge (tgt := 40) hx hb dX4_leaveOut_14 (by decide) (fun c_7 => ?_) (fun c_7 => ?_)
      · have gc_7 : v_packing_loads.toInt ≤ l_5.toInt := i_le (rfl : v_packing_loads.toInt = v_packing_loads.toInt) (rfl : l_5.toInt = l_5.toInt) c_7
        exact hrt f_4 f_1 ⟨hL9_6_0, rf_1⟩ hP hD hS dX4_leaveOut_40
      · have gc_7 : l_5.toInt < v_packing_loads.toInt := i_nle (rfl : v_packing_loads.toInt = v_packing_loads.toInt) (rfl : l_5.toInt = l_5.toInt) c_7
        refine lv_aload_n hx hb dX4_leaveOut_17 rfl (lv_at hl 1 rfl) ?_
        refine gt_SP_packing_holder hx hb hts hown hK hP lwd_97 dX4_leaveOut_18 ?_
        refine lv_iload_n hx hb dX4_leaveOut_21 rfl (lv_at hl 0 rfl) ?_
        refine al_holder hx hb hK hP hL9_6_0 (i_in (rfl : l_5.toInt = l_5.toInt) (by omega) (by omega)) dX4_leaveOut_22 (fun n_8 en_8 bn_8 => ?_)
        refine lv_iload_n hx hb dX4_leaveOut_23 rfl (lv_at hl 2 rfl) ?_
        refine lv_icmp_ne (tgt := 34) hx hb dX4_leaveOut_24 (by decide) (fun c_9 => ?_) (fun c_9 => ?_)
        · have gc_9 : n_8.toInt ≠ w.toInt := i_ne (rfl : n_8.toInt = n_8.toInt) (rfl : w.toInt = w.toInt) c_9
          obtain ⟨n_10, en_10⟩ : ∃ y : Int32, y = l_5 + 1 := ⟨_, rfl⟩
          have tn_10 : n_10.toInt = l_5.toInt + 1 := i_add en_10 (rfl : l_5.toInt = l_5.toInt) (by decide : (1 : Int32).toInt = 1) (by omega) (by omega)
          refine lv_iinc (v := n_10) (lv' := [(2, .int n_10), (0, .ref (hs 31)), (1, .int w)]) hx hb dX4_leaveOut_34 hl (k := 0) rfl (by rw [en_10]; rfl) (by decide) rfl (fun ls hl => ?_)
          refine lv_goto (tgt := 9) hx hb dX4_leaveOut_37 (by decide) ?_
          exact ih9_6 f_4 n_10 hL9_6_0 (by omega) (by omega) _ _ _ hP hD hS (lv_sub hl [0, 1, 2] rfl)
        · have gc_9 : n_8.toInt = w.toInt := i_eq (rfl : n_8.toInt = n_8.toInt) (rfl : w.toInt = w.toInt) c_9
          refine lv_aload_n hx hb dX4_leaveOut_27 rfl (lv_at hl 1 rfl) ?_
          refine gt_SP_packing_holder hx hb hts hown hK hP lwd_97 dX4_leaveOut_28 ?_
          refine lv_iload_n hx hb dX4_leaveOut_31 rfl (lv_at hl 0 rfl) ?_
          refine lv_iconst (v := (-1)) hx hb dX4_leaveOut_32 (by decide) ?_
          refine as_holder (x := (-1)) hx hb hK hP hD hS hL9_6_0 (i_in (rfl : l_5.toInt = l_5.toInt) (by omega) (by omega)) (by decide) dX4_leaveOut_33 (fun f_11 ef_11 rf_11 H locs hP hD hS => ?_)
          obtain ⟨n_12, en_12⟩ : ∃ y : Int32, y = l_5 + 1 := ⟨_, rfl⟩
          have tn_12 : n_12.toInt = l_5.toInt + 1 := i_add en_12 (rfl : l_5.toInt = l_5.toInt) (by decide : (1 : Int32).toInt = 1) (by omega) (by omega)
          refine lv_iinc (v := n_12) (lv' := [(2, .int n_12), (0, .ref (hs 31)), (1, .int w)]) hx hb dX4_leaveOut_34 hl (k := 0) rfl (by rw [en_12]; rfl) (by decide) rfl (fun ls hl => ?_)
          refine lv_goto (tgt := 9) hx hb dX4_leaveOut_37 (by decide) ?_
          exact ih9_6 f_11 n_12 rf_11 (by omega) (by omega) _ _ _ hP hD hS (lv_sub hl [0, 1, 2] rfl)
  have k_13 : (0 : Int32).toInt = 0 := by decide
  exact L9_6 8589934592 f_holder 0 hr_holder (by omega) (by omega) _ _ _ hP hD hS (lv_sub hl [0, 1, 2] rfl)
set_option maxHeartbeats 16000000 in
set_option maxRecDepth 100000 in
theorem c_X4_addLoad (l : Launch) (D : va_G) (cy : Nat → ClassId) (hs : Nat → Nat) (hH hT sH sT : Nat) (v_tape_size v_band_walkers v_band_loads v_band_pieces v_rules_clauses v_reader_end v_reader_at v_reader_length v_reader_letter v_reader_fault v_draft_clauses v_paces_version v_packing_quicker v_packing_loads v_packing_looseCount v_marches_told v_marches_changeMinutes v_marches_marching v_marches_gone v_search_known v_search_countHere v_search_countThere v_search_cost v_search_most : Int32) (v_search_found : Int64) (f_bytes f_knee f_weight f_limps f_bheft f_owner f_food f_miles f_slope f_rsteps f_rkind f_ryields f_rholds f_rletters f_rstack f_dsteps f_dkind f_dyields f_dholds f_dletters f_dstack f_caps f_versions f_sharing f_pheft f_prow f_holder f_comes f_pcaps f_room f_loose f_reached f_mrow f_minutesOn f_mtired : Nat → Int32) (f_here f_there : Nat → Int64) (f_statesHere f_statesThere f_listed f_stired f_burdens f_pacesOn f_restedOn f_behindOn f_behindFor f_first f_second : Nat → Int32) (f_plans f_tiredOn : Nat → Nat → Int32) (tS : Nat) (sz : Nat) (pd : Int32) (hb_v_packing_loads : 0 ≤ v_packing_loads.toInt ∧ v_packing_loads.toInt ≤ 10) (hr_pheft : rg (0) 250 f_pheft) (hr_holder : rg (-1) 5 f_holder) (ha_pd : 0 ≤ pd.toInt ∧ pd.toInt ≤ 250) : gMv l yX4_addLoad cX4_addLoad 2 1 [.ref (hs 31), .int pd] D cy (wSP cy hs hH hT sH sT v_tape_size v_band_walkers v_band_loads v_band_pieces v_rules_clauses v_reader_end v_reader_at v_reader_length v_reader_letter v_reader_fault v_draft_clauses v_paces_version v_packing_quicker v_packing_loads v_packing_looseCount v_marches_told v_marches_changeMinutes v_marches_marching v_marches_gone v_search_known v_search_countHere v_search_countThere v_search_cost v_search_most v_search_found f_bytes f_knee f_weight f_limps f_bheft f_owner f_food f_miles f_slope f_rsteps f_rkind f_ryields f_rholds f_rletters f_rstack f_dsteps f_dkind f_dyields f_dholds f_dletters f_dstack f_caps f_versions f_sharing f_pheft f_prow f_holder f_comes f_pcaps f_room f_loose f_reached f_mrow f_minutesOn f_mtired f_here f_there f_statesHere f_statesThere f_listed f_stired f_burdens f_pacesOn f_restedOn f_behindOn f_behindFor f_first f_second f_plans f_tiredOn) (NS tS) sz (fun (u : Int32 × (Nat → Int32) × (Nat → Int32)) => (0 ≤ (u.1).toInt ∧ (u.1).toInt ≤ 10) ∧ (rg (0) 250 (u.2.1)) ∧ (rg (-1) 5 (u.2.2))) (fun u => wSP cy hs hH hT sH sT v_tape_size v_band_walkers v_band_loads v_band_pieces v_rules_clauses v_reader_end v_reader_at v_reader_length v_reader_letter v_reader_fault v_draft_clauses v_paces_version v_packing_quicker (u.1) v_packing_looseCount v_marches_told v_marches_changeMinutes v_marches_marching v_marches_gone v_search_known v_search_countHere v_search_countThere v_search_cost v_search_most v_search_found f_bytes f_knee f_weight f_limps f_bheft f_owner f_food f_miles f_slope f_rsteps f_rkind f_ryields f_rholds f_rletters f_rstack f_dsteps f_dkind f_dyields f_dholds f_dletters f_dstack f_caps f_versions f_sharing (u.2.1) f_prow (u.2.2) f_comes f_pcaps f_room f_loose f_reached f_mrow f_minutesOn f_mtired f_here f_there f_statesHere f_statesThere f_listed f_stired f_burdens f_pacesOn f_restedOn f_behindOn f_behindFor f_first f_second f_plans f_tiredOn) := by
  refine gMv_in (by decide) (Nat.le_of_ble_eq_true rfl) ?_
  intro p e s m args below meth c A ls Q hx hb hml hts hown hsz hP hK hD hN hAe hA hS hl hret
  subst hsz
  have hl : lv_has ls 2 [(0, .ref (hs 31)), (1, .int pd)] := hl
  have hrt := fun (v_packing_loads' : Int32) (f_pheft' : Nat → Int32) (f_holder' : Nat → Int32) (hp : (0 ≤ v_packing_loads'.toInt ∧ v_packing_loads'.toInt ≤ 10) ∧ (rg (0) 250 f_pheft') ∧ (rg (-1) 5 f_holder')) {H : Heap} {locs : List Loc} {pc : Nat} {ls : Array Slot} => hret (v_packing_loads', f_pheft', f_holder') (H := H) (locs := locs) (pc := pc) (ls := ls) hp
  clear hret
  refine lv_aload_n hx hb dX4_addLoad_0 rfl (lv_at hl 0 rfl) ?_
  refine gt_SP_packing_loads hx hb hts hown hK hP lwd_688 dX4_addLoad_1 ?_
  refine lv_bipush (v := 10) hx hb dX4_addLoad_4 (by decide) ?_
  refine lv_icmp_ge (tgt := 39) hx hb dX4_addLoad_6 (by decide) (fun c_1 => ?_) (fun c_1 => ?_)
  · have gc_1 : 10 ≤ v_packing_loads.toInt := i_le (by decide : (10 : Int32).toInt = 10) (rfl : v_packing_loads.toInt = v_packing_loads.toInt) c_1
    exact hrt v_packing_loads f_pheft f_holder ⟨(by omega), hr_pheft, hr_holder⟩ hP hD hS dX4_addLoad_39
  · have gc_1 : v_packing_loads.toInt < 10 := i_nle (by decide : (10 : Int32).toInt = 10) (rfl : v_packing_loads.toInt = v_packing_loads.toInt) c_1
    refine lv_aload_n hx hb dX4_addLoad_9 rfl (lv_at hl 0 rfl) ?_
    refine gt_SP_packing_heft hx hb hts hown hK hP lwd_95 dX4_addLoad_10 ?_
    refine lv_aload_n hx hb dX4_addLoad_13 rfl (lv_at hl 0 rfl) ?_
    refine gt_SP_packing_loads hx hb hts hown hK hP lwd_688 dX4_addLoad_14 ?_
    refine lv_iload_n hx hb dX4_addLoad_17 rfl (lv_at hl 1 rfl) ?_
    refine as_pheft (x := pd) hx hb hK hP hD hS hr_pheft (i_in (rfl : v_packing_loads.toInt = v_packing_loads.toInt) (by omega) (by omega)) (by omega) dX4_addLoad_18 (fun f_2 ef_2 rf_2 H locs hP hD hS => ?_)
    refine lv_aload_n hx hb dX4_addLoad_19 rfl (lv_at hl 0 rfl) ?_
    refine gt_SP_packing_holder hx hb hts hown hK hP lwd_97 dX4_addLoad_20 ?_
    refine lv_aload_n hx hb dX4_addLoad_23 rfl (lv_at hl 0 rfl) ?_
    refine gt_SP_packing_loads hx hb hts hown hK hP lwd_688 dX4_addLoad_24 ?_
    refine lv_iconst (v := (-1)) hx hb dX4_addLoad_27 (by decide) ?_
    refine as_holder (x := (-1)) hx hb hK hP hD hS hr_holder (i_in (rfl : v_packing_loads.toInt = v_packing_loads.toInt) (by omega) (by omega)) (by decide) dX4_addLoad_28 (fun f_3 ef_3 rf_3 H locs hP hD hS => ?_)
    refine lv_aload_n hx hb dX4_addLoad_29 rfl (lv_at hl 0 rfl) ?_
    refine lv_dup hx hb dX4_addLoad_30 rfl ?_
    refine gt_SP_packing_loads hx hb hts hown hK hP lwd_688 dX4_addLoad_31 ?_
    refine lv_iconst (v := 1) hx hb dX4_addLoad_34 (by decide) ?_
    refine lv_iadd hx hb dX4_addLoad_35 ?_
    refine lv_topi (fun n_4 en_4 => ?_)
    have tn_4 : n_4.toInt = v_packing_loads.toInt + 1 := i_add en_4 (rfl : v_packing_loads.toInt = v_packing_loads.toInt) (by decide : (1 : Int32).toInt = 1) (by omega) (by omega)
    refine pt_SP_packing_loads (x := n_4) hx hb hts hown hK hP hD hS lwd_688 dX4_addLoad_36 (fun H locs hP hD hS => ?_)
    exact hrt n_4 f_2 f_3 ⟨(by omega), rf_2, rf_3⟩ hP hD hS dX4_addLoad_39
set_option maxHeartbeats 16000000 in
set_option maxRecDepth 100000 in
theorem c_X4_greatest (l : Launch) (D : va_G) (cy : Nat → ClassId) (hs : Nat → Nat) (hH hT sH sT : Nat) (v_tape_size v_band_walkers v_band_loads v_band_pieces v_rules_clauses v_reader_end v_reader_at v_reader_length v_reader_letter v_reader_fault v_draft_clauses v_paces_version v_packing_quicker v_packing_loads v_packing_looseCount v_marches_told v_marches_changeMinutes v_marches_marching v_marches_gone v_search_known v_search_countHere v_search_countThere v_search_cost v_search_most : Int32) (v_search_found : Int64) (f_bytes f_knee f_weight f_limps f_bheft f_owner f_food f_miles f_slope f_rsteps f_rkind f_ryields f_rholds f_rletters f_rstack f_dsteps f_dkind f_dyields f_dholds f_dletters f_dstack f_caps f_versions f_sharing f_pheft f_prow f_holder f_comes f_pcaps f_room f_loose f_reached f_mrow f_minutesOn f_mtired : Nat → Int32) (f_here f_there : Nat → Int64) (f_statesHere f_statesThere f_listed f_stired f_burdens f_pacesOn f_restedOn f_behindOn f_behindFor f_first f_second : Nat → Int32) (f_plans f_tiredOn : Nat → Nat → Int32) (tS : Nat) (sz : Nat) (hb_v_packing_quicker : -1 ≤ v_packing_quicker.toInt ∧ v_packing_quicker.toInt ≤ 5) (hb_v_packing_loads : 0 ≤ v_packing_loads.toInt ∧ v_packing_loads.toInt ≤ 10) (hb_v_packing_looseCount : 0 ≤ v_packing_looseCount.toInt ∧ v_packing_looseCount.toInt ≤ 10) (hr_caps : rg (-1) 400 f_caps) (hr_pheft : rg (0) 250 f_pheft) (hr_holder : rg (-1) 5 f_holder) (hr_comes : rg (0) 1 f_comes) (hr_pcaps : rg (0) 21899 f_pcaps) (hr_room : rg (-1000) 400 f_room) (hr_loose : rg (0) 9 f_loose) (hr_reached : rg (0) 3072 f_reached) : gMi l yX4_greatest cX4_greatest 5 .int 4 [.ref (hs 31)] D cy (wSP cy hs hH hT sH sT v_tape_size v_band_walkers v_band_loads v_band_pieces v_rules_clauses v_reader_end v_reader_at v_reader_length v_reader_letter v_reader_fault v_draft_clauses v_paces_version v_packing_quicker v_packing_loads v_packing_looseCount v_marches_told v_marches_changeMinutes v_marches_marching v_marches_gone v_search_known v_search_countHere v_search_countThere v_search_cost v_search_most v_search_found f_bytes f_knee f_weight f_limps f_bheft f_owner f_food f_miles f_slope f_rsteps f_rkind f_ryields f_rholds f_rletters f_rstack f_dsteps f_dkind f_dyields f_dholds f_dletters f_dstack f_caps f_versions f_sharing f_pheft f_prow f_holder f_comes f_pcaps f_room f_loose f_reached f_mrow f_minutesOn f_mtired f_here f_there f_statesHere f_statesThere f_listed f_stired f_burdens f_pacesOn f_restedOn f_behindOn f_behindFor f_first f_second f_plans f_tiredOn) (NS tS) sz (fun (r : Int32) (u : Int32 × (Nat → Int32) × (Nat → Int32) × (Nat → Int32)) => (0 ≤ r.toInt ∧ r.toInt ≤ 60) ∧ (0 ≤ (u.1).toInt ∧ (u.1).toInt ≤ 10) ∧ (rg (-1000) 400 (u.2.1)) ∧ (rg (0) 9 (u.2.2.1)) ∧ (rg (0) 3072 (u.2.2.2))) (fun u => wSP cy hs hH hT sH sT v_tape_size v_band_walkers v_band_loads v_band_pieces v_rules_clauses v_reader_end v_reader_at v_reader_length v_reader_letter v_reader_fault v_draft_clauses v_paces_version v_packing_quicker v_packing_loads (u.1) v_marches_told v_marches_changeMinutes v_marches_marching v_marches_gone v_search_known v_search_countHere v_search_countThere v_search_cost v_search_most v_search_found f_bytes f_knee f_weight f_limps f_bheft f_owner f_food f_miles f_slope f_rsteps f_rkind f_ryields f_rholds f_rletters f_rstack f_dsteps f_dkind f_dyields f_dholds f_dletters f_dstack f_caps f_versions f_sharing f_pheft f_prow f_holder f_comes f_pcaps (u.2.1) (u.2.2.1) (u.2.2.2) f_mrow f_minutesOn f_mtired f_here f_there f_statesHere f_statesThere f_listed f_stired f_burdens f_pacesOn f_restedOn f_behindOn f_behindFor f_first f_second f_plans f_tiredOn) := by
  refine gMi_in (by decide) (Nat.le_of_ble_eq_true rfl) ?_
  intro p e s m args below meth c A ls Q hx hb hml hts hown hsz hP hK hD hN hAe hA hS hl hret
  subst hsz
  have hl : lv_has ls 5 [(0, .ref (hs 31))] := hl
  have hrt := fun (r : Int32) (v_packing_looseCount' : Int32) (f_room' : Nat → Int32) (f_loose' : Nat → Int32) (f_reached' : Nat → Int32) (hp : (0 ≤ r.toInt ∧ r.toInt ≤ 60) ∧ (0 ≤ v_packing_looseCount'.toInt ∧ v_packing_looseCount'.toInt ≤ 10) ∧ (rg (-1000) 400 f_room') ∧ (rg (0) 9 f_loose') ∧ (rg (0) 3072 f_reached')) {H : Heap} {locs : List Loc} {pc : Nat} {ls : Array Slot} => hret r (v_packing_looseCount', f_room', f_loose', f_reached') (H := H) (locs := locs) (pc := pc) (ls := ls) hp
  clear hret
  refine lv_iconst (v := 0) hx hb dX4_greatest_0 (by decide) ?_
  refine lv_istore_n (lv' := [(1, .int 0), (0, .ref (hs 31))]) hx hb dX4_greatest_1 rfl hl (by decide) rfl (fun ls hl => ?_)
  refine lv_bipush (v := 60) hx hb dX4_greatest_2 (by decide) ?_
  refine lv_istore_n (lv' := [(2, .int 60), (1, .int 0), (0, .ref (hs 31))]) hx hb dX4_greatest_4 rfl hl (by decide) rfl (fun ls hl => ?_)
  refine lv_iconst (v := 0) hx hb dX4_greatest_5 (by decide) ?_
  refine lv_istore_n (lv' := [(3, .int 0), (2, .int 60), (1, .int 0), (0, .ref (hs 31))]) hx hb dX4_greatest_6 rfl hl (by decide) rfl (fun ls hl => ?_)
  have L7_15 : ∀ (n : Nat) (f_8 : Nat → Int32) (f_9 : Nat → Int32) (f_10 : Nat → Int32) (l_11 : Int32) (l_12 : Int32) (l_13 : Int32) (w_14 : Int32), (rg (0) 9 f_8) → (rg (0) 3072 f_9) → (rg (-1000) 400 f_10) → (0 ≤ l_11.toInt ∧ l_11.toInt ≤ 60) → (0 ≤ l_12.toInt ∧ l_12.toInt ≤ 60) → (0 ≤ l_13.toInt ∧ l_13.toInt ≤ 64) → (0 ≤ w_14.toInt ∧ w_14.toInt ≤ 10) → (l_11.toInt ≤ l_12.toInt) → 65 - l_13.toInt < n → ∀ (H : Heap) (locs : List Loc) (ls : Array Slot), va_P D vwCl (wSP cy hs hH hT sH sT v_tape_size v_band_walkers v_band_loads v_band_pieces v_rules_clauses v_reader_end v_reader_at v_reader_length v_reader_letter v_reader_fault v_draft_clauses v_paces_version v_packing_quicker v_packing_loads w_14 v_marches_told v_marches_changeMinutes v_marches_marching v_marches_gone v_search_known v_search_countHere v_search_countThere v_search_cost v_search_most v_search_found f_bytes f_knee f_weight f_limps f_bheft f_owner f_food f_miles f_slope f_rsteps f_rkind f_ryields f_rholds f_rletters f_rstack f_dsteps f_dkind f_dyields f_dholds f_dletters f_dstack f_caps f_versions f_sharing f_pheft f_prow f_holder f_comes f_pcaps f_10 f_8 f_9 f_mrow f_minutesOn f_mtired f_here f_there f_statesHere f_statesThere f_listed f_stired f_burdens f_pacesOn f_restedOn f_behindOn f_behindFor f_first f_second f_plans f_tiredOn) H → va_D A (wSP cy hs hH hT sH sT v_tape_size v_band_walkers v_band_loads v_band_pieces v_rules_clauses v_reader_end v_reader_at v_reader_length v_reader_letter v_reader_fault v_draft_clauses v_paces_version v_packing_quicker v_packing_loads w_14 v_marches_told v_marches_changeMinutes v_marches_marching v_marches_gone v_search_known v_search_countHere v_search_countThere v_search_cost v_search_most v_search_found f_bytes f_knee f_weight f_limps f_bheft f_owner f_food f_miles f_slope f_rsteps f_rkind f_ryields f_rholds f_rletters f_rstack f_dsteps f_dkind f_dyields f_dholds f_dletters f_dstack f_caps f_versions f_sharing f_pheft f_prow f_holder f_comes f_pcaps f_10 f_8 f_9 f_mrow f_minutesOn f_mtired f_here f_there f_statesHere f_statesThere f_listed f_stired f_burdens f_pacesOn f_restedOn f_behindOn f_behindFor f_first f_second f_plans f_tiredOn) → va_S A s.heap H locs → lv_has ls 5 [(3, .int l_13), (2, .int l_12), (1, .int l_11), (0, .ref (hs 31))] → W p l e (gRm 4) s m args below meth c H locs 0 0 Q (F0 m 7 ls []) := by
    intro n
    induction n with
    | zero => intro f_8 f_9 f_10 l_11 l_12 l_13 w_14 hL7_15_0 hL7_15_1 hL7_15_2 hL7_15_3 hL7_15_4 hL7_15_5 hL7_15_6 hL7_15_7 hm; exact absurd hm (by omega)
    | succ n ih7_15 =>
      intro f_8 f_9 f_10 l_11 l_12 l_13 w_14 hL7_15_0 hL7_15_1 hL7_15_2 hL7_15_3 hL7_15_4 hL7_15_5 hL7_15_6 hL7_15_7 hmL7_15 H locs ls hP hD hS hl
      refine lv_iload_n hx hb dX4_greatest_7 rfl (lv_at hl 0 rfl) ?_
      refine lv_bipush (v := 64) hx hb dX4_greatest_8 (by decide) ?_
      refine lv_icmp_ge (tgt := 53) hx hb dX4_greatest_10 (by decide) (fun c_16 => ?_) (fun c_16 => ?_)
      · have gc_16 : 64 ≤ l_13.toInt := i_le (by decide : (64 : Int32).toInt = 64) (rfl : l_13.toInt = l_13.toInt) c_16
        refine lv_iload_n hx hb dX4_greatest_53 rfl (lv_at hl 2 rfl) ?_
        exact hrt l_11 w_14 f_10 f_8 f_9 ⟨(by omega), (by omega), hL7_15_2, hL7_15_0, hL7_15_1⟩ hP hD hS rfl dX4_greatest_54
      · have gc_16 : l_13.toInt < 64 := i_nle (by decide : (64 : Int32).toInt = 64) (rfl : l_13.toInt = l_13.toInt) c_16
        refine lv_iload_n hx hb dX4_greatest_13 rfl (lv_at hl 2 rfl) ?_
        refine lv_iload_n hx hb dX4_greatest_14 rfl (lv_at hl 1 rfl) ?_
        refine lv_icmp_ge (tgt := 53) hx hb dX4_greatest_15 (by decide) (fun c_17 => ?_) (fun c_17 => ?_)
        · have gc_17 : l_12.toInt ≤ l_11.toInt := i_le (rfl : l_12.toInt = l_12.toInt) (rfl : l_11.toInt = l_11.toInt) c_17
          refine lv_iload_n hx hb dX4_greatest_53 rfl (lv_at hl 2 rfl) ?_
          exact hrt l_11 w_14 f_10 f_8 f_9 ⟨(by omega), (by omega), hL7_15_2, hL7_15_0, hL7_15_1⟩ hP hD hS rfl dX4_greatest_54
        · have gc_17 : l_11.toInt < l_12.toInt := i_nle (rfl : l_12.toInt = l_12.toInt) (rfl : l_11.toInt = l_11.toInt) c_17
          refine lv_iload_n hx hb dX4_greatest_18 rfl (lv_at hl 2 rfl) ?_
          refine lv_iload_n hx hb dX4_greatest_19 rfl (lv_at hl 1 rfl) ?_
          refine lv_iadd hx hb dX4_greatest_20 ?_
          refine lv_topi (fun n_18 en_18 => ?_)
          have tn_18 : n_18.toInt = l_11.toInt + l_12.toInt := i_add en_18 (rfl : l_11.toInt = l_11.toInt) (rfl : l_12.toInt = l_12.toInt) (by omega) (by omega)
          refine lv_iconst (v := 1) hx hb dX4_greatest_21 (by decide) ?_
          refine lv_iadd hx hb dX4_greatest_22 ?_
          refine lv_topi (fun n_19 en_19 => ?_)
          have tn_19 : n_19.toInt = (l_11.toInt + l_12.toInt) + 1 := i_add en_19 tn_18 (by decide : (1 : Int32).toInt = 1) (by omega) (by omega)
          refine lv_iconst (v := 2) hx hb dX4_greatest_23 (by decide) ?_
          refine lv_idiv hx hb dX4_greatest_24 (by decide) ?_
          refine lv_topi (fun n_20 en_20 => ?_)
          have tn_20 : n_20.toInt = ((l_11.toInt + l_12.toInt) + 1) / 2 := i_div en_20 tn_19 (by decide : (2 : Int32).toInt = 2) (by omega) (by omega)
          refine lv_istore (lv' := [(4, .int n_20), (3, .int l_13), (2, .int l_12), (1, .int l_11), (0, .ref (hs 31))]) hx hb dX4_greatest_25 hl (by decide) rfl (fun ls hl => ?_)
          refine lv_aload_n hx hb dX4_greatest_27 rfl (lv_at hl 4 rfl) ?_
          refine lv_iload hx hb dX4_greatest_28 (lv_at hl 0 rfl) ?_
          refine xi hD hS hA (xV (As := [.int n_20]) (rest := []) hx hb hml hown hts hK hP hD hS hA NS_ok hN hAe hl.1 ⟨Nat.le_refl _, Nat.le_refl _⟩ 31 rfl rfl rfl (c_X4_fits l D cy hs hH hT sH sT v_tape_size v_band_walkers v_band_loads v_band_pieces v_rules_clauses v_reader_end v_reader_at v_reader_length v_reader_letter v_reader_fault v_draft_clauses v_paces_version v_packing_quicker v_packing_loads w_14 v_marches_told v_marches_changeMinutes v_marches_marching v_marches_gone v_search_known v_search_countHere v_search_countThere v_search_cost v_search_most v_search_found f_bytes f_knee f_weight f_limps f_bheft f_owner f_food f_miles f_slope f_rsteps f_rkind f_ryields f_rholds f_rletters f_rstack f_dsteps f_dkind f_dyields f_dholds f_dletters f_dstack f_caps f_versions f_sharing f_pheft f_prow f_holder f_comes f_pcaps f_10 f_8 f_9 f_mrow f_minutesOn f_mtired f_here f_there f_statesHere f_statesThere f_listed f_stired f_burdens f_pacesOn f_restedOn f_behindOn f_behindFor f_first f_second f_plans f_tiredOn tS H.size n_20 (by omega) (by omega) (by omega) hr_caps hr_pheft hr_holder hr_comes hr_pcaps hL7_15_2 hL7_15_0 hL7_15_1 (by omega)) (gi_V lwd_701 lwd_702 lwd_703 lwd_34 lwd_704) ⟨rfl, hd_X4_fits⟩ ⟨Nat.le_of_ble_eq_true rfl, Nat.le_of_ble_eq_true rfl⟩ rfl (Nat.le_of_ble_eq_true rfl) dX4_greatest_30) (fun r_22 u_21 H locs hw hP hD hS => ?_)
          obtain ⟨zpacking_looseCount_23, zroom_24, zloose_25, zreached_26⟩ := u_21
          try dsimp only at hw hP hD
          obtain ⟨p_27, p_28, p_29, p_30, p_31⟩ := hw
          refine lv_if_eq (tgt := 42) hx hb dX4_greatest_33 (by decide) (fun c_32 => ?_) (fun c_32 => ?_)
          · have gc_32 : r_22.toInt = 0 := i_eq (rfl : r_22.toInt = r_22.toInt) (by decide : (0 : Int32).toInt = 0) c_32
            refine lv_iload hx hb dX4_greatest_42 (lv_at hl 0 rfl) ?_
            refine lv_iconst (v := 1) hx hb dX4_greatest_44 (by decide) ?_
            refine lv_isub hx hb dX4_greatest_45 ?_
            refine lv_topi (fun n_33 en_33 => ?_)
            have tn_33 : n_33.toInt = (((l_11.toInt + l_12.toInt) + 1) / 2) - 1 := i_sub en_33 tn_20 (by decide : (1 : Int32).toInt = 1) (by omega) (by omega)
            refine lv_istore_n (lv' := [(2, .int n_33), (4, .int n_20), (3, .int l_13), (1, .int l_11), (0, .ref (hs 31))]) hx hb dX4_greatest_46 rfl hl (by decide) rfl (fun ls hl => ?_)
            obtain ⟨n_34, en_34⟩ : ∃ y : Int32, y = l_13 + 1 := ⟨_, rfl⟩
            have tn_34 : n_34.toInt = l_13.toInt + 1 := i_add en_34 (rfl : l_13.toInt = l_13.toInt) (by decide : (1 : Int32).toInt = 1) (by omega) (by omega)
            refine lv_iinc (v := n_34) (lv' := [(3, .int n_34), (2, .int n_33), (4, .int n_20), (1, .int l_11), (0, .ref (hs 31))]) hx hb dX4_greatest_47 hl (k := 2) rfl (by rw [en_34]; rfl) (by decide) rfl (fun ls hl => ?_)
            refine lv_goto (tgt := 7) hx hb dX4_greatest_50 (by decide) ?_
            exact ih7_15 zloose_25 zreached_26 zroom_24 l_11 n_33 n_34 zpacking_looseCount_23 p_30 p_31 p_29 (by omega) (by omega) (by omega) (by omega) (by omega) (by omega) _ _ _ hP hD hS (lv_sub hl [0, 1, 3, 4] rfl)
          · have gc_32 : r_22.toInt ≠ 0 := i_ne (rfl : r_22.toInt = r_22.toInt) (by decide : (0 : Int32).toInt = 0) c_32
            refine lv_iload hx hb dX4_greatest_36 (lv_at hl 0 rfl) ?_
            refine lv_istore_n (lv' := [(1, .int n_20), (4, .int n_20), (3, .int l_13), (2, .int l_12), (0, .ref (hs 31))]) hx hb dX4_greatest_38 rfl hl (by decide) rfl (fun ls hl => ?_)
            refine lv_goto (tgt := 47) hx hb dX4_greatest_39 (by decide) ?_
            obtain ⟨n_35, en_35⟩ : ∃ y : Int32, y = l_13 + 1 := ⟨_, rfl⟩
            have tn_35 : n_35.toInt = l_13.toInt + 1 := i_add en_35 (rfl : l_13.toInt = l_13.toInt) (by decide : (1 : Int32).toInt = 1) (by omega) (by omega)
            refine lv_iinc (v := n_35) (lv' := [(3, .int n_35), (1, .int n_20), (4, .int n_20), (2, .int l_12), (0, .ref (hs 31))]) hx hb dX4_greatest_47 hl (k := 2) rfl (by rw [en_35]; rfl) (by decide) rfl (fun ls hl => ?_)
            refine lv_goto (tgt := 7) hx hb dX4_greatest_50 (by decide) ?_
            exact ih7_15 zloose_25 zreached_26 zroom_24 n_20 l_12 n_35 zpacking_looseCount_23 p_30 p_31 p_29 (by omega) (by omega) (by omega) (by omega) (by omega) (by omega) _ _ _ hP hD hS (lv_sub hl [0, 3, 1, 4] rfl)
  have k_36 : (0 : Int32).toInt = 0 := by decide
  have k_37 : (60 : Int32).toInt = 60 := by decide
  have k_38 : (0 : Int32).toInt = 0 := by decide
  exact L7_15 8589934592 f_loose f_reached f_room 0 60 0 v_packing_looseCount hr_loose hr_reached hr_room (by omega) (by omega) (by omega) (by omega) (by omega) (by omega) _ _ _ hP hD hS (lv_sub hl [0, 1, 2, 3] rfl)
set_option maxHeartbeats 16000000 in
set_option maxRecDepth 100000 in
theorem c_X4_settle (l : Launch) (D : va_G) (cy : Nat → ClassId) (hs : Nat → Nat) (hH hT sH sT : Nat) (v_tape_size v_band_walkers v_band_loads v_band_pieces v_rules_clauses v_reader_end v_reader_at v_reader_length v_reader_letter v_reader_fault v_draft_clauses v_paces_version v_packing_quicker v_packing_loads v_packing_looseCount v_marches_told v_marches_changeMinutes v_marches_marching v_marches_gone v_search_known v_search_countHere v_search_countThere v_search_cost v_search_most : Int32) (v_search_found : Int64) (f_bytes f_knee f_weight f_limps f_bheft f_owner f_food f_miles f_slope f_rsteps f_rkind f_ryields f_rholds f_rletters f_rstack f_dsteps f_dkind f_dyields f_dholds f_dletters f_dstack f_caps f_versions f_sharing f_pheft f_prow f_holder f_comes f_pcaps f_room f_loose f_reached f_mrow f_minutesOn f_mtired : Nat → Int32) (f_here f_there : Nat → Int64) (f_statesHere f_statesThere f_listed f_stired f_burdens f_pacesOn f_restedOn f_behindOn f_behindFor f_first f_second : Nat → Int32) (f_plans f_tiredOn : Nat → Nat → Int32) (tS : Nat) (sz : Nat) (q : Int32) (hb_v_packing_quicker : -1 ≤ v_packing_quicker.toInt ∧ v_packing_quicker.toInt ≤ 5) (hb_v_packing_loads : 0 ≤ v_packing_loads.toInt ∧ v_packing_loads.toInt ≤ 10) (hb_v_packing_looseCount : 0 ≤ v_packing_looseCount.toInt ∧ v_packing_looseCount.toInt ≤ 10) (hr_caps : rg (-1) 400 f_caps) (hr_pheft : rg (0) 250 f_pheft) (hr_holder : rg (-1) 5 f_holder) (hr_comes : rg (0) 1 f_comes) (hr_pcaps : rg (0) 21899 f_pcaps) (hr_room : rg (-1000) 400 f_room) (hr_loose : rg (0) 9 f_loose) (hr_reached : rg (0) 3072 f_reached) (ha_q : 1 ≤ q.toInt ∧ q.toInt ≤ 60) : gMv l yX4_settle cX4_settle 6 3 [.ref (hs 31), .int q] D cy (wSP cy hs hH hT sH sT v_tape_size v_band_walkers v_band_loads v_band_pieces v_rules_clauses v_reader_end v_reader_at v_reader_length v_reader_letter v_reader_fault v_draft_clauses v_paces_version v_packing_quicker v_packing_loads v_packing_looseCount v_marches_told v_marches_changeMinutes v_marches_marching v_marches_gone v_search_known v_search_countHere v_search_countThere v_search_cost v_search_most v_search_found f_bytes f_knee f_weight f_limps f_bheft f_owner f_food f_miles f_slope f_rsteps f_rkind f_ryields f_rholds f_rletters f_rstack f_dsteps f_dkind f_dyields f_dholds f_dletters f_dstack f_caps f_versions f_sharing f_pheft f_prow f_holder f_comes f_pcaps f_room f_loose f_reached f_mrow f_minutesOn f_mtired f_here f_there f_statesHere f_statesThere f_listed f_stired f_burdens f_pacesOn f_restedOn f_behindOn f_behindFor f_first f_second f_plans f_tiredOn) (NS tS) sz (fun (u : Int32 × (Nat → Int32) × (Nat → Int32) × (Nat → Int32) × (Nat → Int32)) => (0 ≤ (u.1).toInt ∧ (u.1).toInt ≤ 10) ∧ (rg (-1000) 400 (u.2.2.1)) ∧ (rg (0) 9 (u.2.2.2.1)) ∧ (rg (0) 3072 (u.2.2.2.2))) (fun u => wSP cy hs hH hT sH sT v_tape_size v_band_walkers v_band_loads v_band_pieces v_rules_clauses v_reader_end v_reader_at v_reader_length v_reader_letter v_reader_fault v_draft_clauses v_paces_version v_packing_quicker v_packing_loads (u.1) v_marches_told v_marches_changeMinutes v_marches_marching v_marches_gone v_search_known v_search_countHere v_search_countThere v_search_cost v_search_most v_search_found f_bytes f_knee f_weight f_limps f_bheft f_owner f_food f_miles f_slope f_rsteps f_rkind f_ryields f_rholds f_rletters f_rstack f_dsteps f_dkind f_dyields f_dholds f_dletters f_dstack f_caps f_versions f_sharing f_pheft (u.2.1) f_holder f_comes f_pcaps (u.2.2.1) (u.2.2.2.1) (u.2.2.2.2) f_mrow f_minutesOn f_mtired f_here f_there f_statesHere f_statesThere f_listed f_stired f_burdens f_pacesOn f_restedOn f_behindOn f_behindFor f_first f_second f_plans f_tiredOn) := by
  refine gMv_in (by decide) (Nat.le_of_ble_eq_true rfl) ?_
  intro p e s m args below meth c A ls Q hx hb hml hts hown hsz hP hK hD hN hAe hA hS hl hret
  subst hsz
  have hl : lv_has ls 6 [(0, .ref (hs 31)), (1, .int q)] := hl
  have hrt := fun (v_packing_looseCount' : Int32) (f_prow' : Nat → Int32) (f_room' : Nat → Int32) (f_loose' : Nat → Int32) (f_reached' : Nat → Int32) (hp : (0 ≤ v_packing_looseCount'.toInt ∧ v_packing_looseCount'.toInt ≤ 10) ∧ (rg (-1000) 400 f_room') ∧ (rg (0) 9 f_loose') ∧ (rg (0) 3072 f_reached')) {H : Heap} {locs : List Loc} {pc : Nat} {ls : Array Slot} => hret (v_packing_looseCount', f_prow', f_room', f_loose', f_reached') (H := H) (locs := locs) (pc := pc) (ls := ls) hp
  clear hret
  refine lv_aload_n hx hb dX4_settle_0 rfl (lv_at hl 0 rfl) ?_
  refine lv_iload_n hx hb dX4_settle_1 rfl (lv_at hl 1 rfl) ?_
  refine xi hD hS hA (xV (As := [.int q]) (rest := []) hx hb hml hown hts hK hP hD hS hA NS_ok hN hAe hl.1 ⟨Nat.le_refl _, Nat.le_refl _⟩ 31 rfl rfl rfl (c_X4_openRooms l D cy hs hH hT sH sT v_tape_size v_band_walkers v_band_loads v_band_pieces v_rules_clauses v_reader_end v_reader_at v_reader_length v_reader_letter v_reader_fault v_draft_clauses v_paces_version v_packing_quicker v_packing_loads v_packing_looseCount v_marches_told v_marches_changeMinutes v_marches_marching v_marches_gone v_search_known v_search_countHere v_search_countThere v_search_cost v_search_most v_search_found f_bytes f_knee f_weight f_limps f_bheft f_owner f_food f_miles f_slope f_rsteps f_rkind f_ryields f_rholds f_rletters f_rstack f_dsteps f_dkind f_dyields f_dholds f_dletters f_dstack f_caps f_versions f_sharing f_pheft f_prow f_holder f_comes f_pcaps f_room f_loose f_reached f_mrow f_minutesOn f_mtired f_here f_there f_statesHere f_statesThere f_listed f_stired f_burdens f_pacesOn f_restedOn f_behindOn f_behindFor f_first f_second f_plans f_tiredOn tS s.heap.size q (by omega) (by omega) (by omega) hr_caps hr_pheft hr_holder hr_comes hr_pcaps hr_room hr_loose (by omega)) (gi_V lwd_705 lwd_706 lwd_707 lwd_34 lwd_708) ⟨rfl, hd_X4_openRooms⟩ ⟨Nat.le_of_ble_eq_true rfl, Nat.le_of_ble_eq_true rfl⟩ rfl (Nat.le_of_ble_eq_true rfl) dX4_settle_2) (fun r_2 u_1 H locs hw hP hD hS => ?_)
  obtain ⟨zpacking_looseCount_3, zroom_4, zloose_5⟩ := u_1
  try dsimp only at hw hP hD
  obtain ⟨p_6, p_7, p_8, p_9, p_10⟩ := hw
  refine lv_istore_n (lv' := [(2, .int r_2), (0, .ref (hs 31)), (1, .int q)]) hx hb dX4_settle_5 rfl hl (by decide) rfl (fun ls hl => ?_)
  refine lv_iconst (v := 0) hx hb dX4_settle_6 (by decide) ?_
  refine lv_istore_n (lv' := [(3, .int 0), (2, .int r_2), (0, .ref (hs 31)), (1, .int q)]) hx hb dX4_settle_7 rfl hl (by decide) rfl (fun ls hl => ?_)
  have L8_15 : ∀ (n : Nat) (f_13 : Nat → Int32) (l_14 : Int32), (0 ≤ l_14.toInt ∧ l_14.toInt ≤ 10) → 11 - l_14.toInt < n → ∀ (H : Heap) (locs : List Loc) (ls : Array Slot), va_P D vwCl (wSP cy hs hH hT sH sT v_tape_size v_band_walkers v_band_loads v_band_pieces v_rules_clauses v_reader_end v_reader_at v_reader_length v_reader_letter v_reader_fault v_draft_clauses v_paces_version v_packing_quicker v_packing_loads zpacking_looseCount_3 v_marches_told v_marches_changeMinutes v_marches_marching v_marches_gone v_search_known v_search_countHere v_search_countThere v_search_cost v_search_most v_search_found f_bytes f_knee f_weight f_limps f_bheft f_owner f_food f_miles f_slope f_rsteps f_rkind f_ryields f_rholds f_rletters f_rstack f_dsteps f_dkind f_dyields f_dholds f_dletters f_dstack f_caps f_versions f_sharing f_pheft f_13 f_holder f_comes f_pcaps zroom_4 zloose_5 f_reached f_mrow f_minutesOn f_mtired f_here f_there f_statesHere f_statesThere f_listed f_stired f_burdens f_pacesOn f_restedOn f_behindOn f_behindFor f_first f_second f_plans f_tiredOn) H → va_D A (wSP cy hs hH hT sH sT v_tape_size v_band_walkers v_band_loads v_band_pieces v_rules_clauses v_reader_end v_reader_at v_reader_length v_reader_letter v_reader_fault v_draft_clauses v_paces_version v_packing_quicker v_packing_loads zpacking_looseCount_3 v_marches_told v_marches_changeMinutes v_marches_marching v_marches_gone v_search_known v_search_countHere v_search_countThere v_search_cost v_search_most v_search_found f_bytes f_knee f_weight f_limps f_bheft f_owner f_food f_miles f_slope f_rsteps f_rkind f_ryields f_rholds f_rletters f_rstack f_dsteps f_dkind f_dyields f_dholds f_dletters f_dstack f_caps f_versions f_sharing f_pheft f_13 f_holder f_comes f_pcaps zroom_4 zloose_5 f_reached f_mrow f_minutesOn f_mtired f_here f_there f_statesHere f_statesThere f_listed f_stired f_burdens f_pacesOn f_restedOn f_behindOn f_behindFor f_first f_second f_plans f_tiredOn) → va_S A s.heap H locs → lv_has ls 6 [(3, .int l_14), (2, .int r_2), (0, .ref (hs 31)), (1, .int q)] → W p l e (gRm 3) s m args below meth c H locs 0 0 Q (F0 m 8 ls []) := by
    intro n
    induction n with
    | zero => intro f_13 l_14 hL8_15_0 hm; exact absurd hm (by omega)
    | succ n ih8_15 =>
      intro f_13 l_14 hL8_15_0 hmL8_15 H locs ls hP hD hS hl
      refine lv_iload_n hx hb dX4_settle_8 rfl (lv_at hl 0 rfl) ?_
      refine lv_aload_n hx hb dX4_settle_9 rfl (lv_at hl 2 rfl) ?_
      refine gt_SP_packing_loads hx hb hts hown hK hP lwd_688 dX4_settle_10 ?_
      refine lv_icmp_ge (tgt := 34) hx hb dX4_settle_13 (by decide) (fun c_16 => ?_) (fun c_16 => ?_)
      · have gc_16 : v_packing_loads.toInt ≤ l_14.toInt := i_le (rfl : v_packing_loads.toInt = v_packing_loads.toInt) (rfl : l_14.toInt = l_14.toInt) c_16
        refine lv_iconst (v := 0) hx hb dX4_settle_34 (by decide) ?_
        refine lv_istore_n (lv' := [(3, .int 0), (2, .int r_2), (0, .ref (hs 31)), (1, .int q)]) hx hb dX4_settle_35 rfl hl (by decide) rfl (fun ls hl => ?_)
        have L36_25 : ∀ (n : Nat) (f_21 : Nat → Int32) (f_22 : Nat → Int32) (f_23 : Nat → Int32) (l_24 : Int32), (rg (0) 3072 f_22) → (rg (-1000) 400 f_23) → (0 ≤ l_24.toInt ∧ l_24.toInt ≤ 10) → (r_2.toInt ≠ 0 → ∀ j : Nat, j < 6 → -1 ≤ (f_23 j).toInt) → 11 - l_24.toInt < n → ∀ (H : Heap) (locs : List Loc) (ls : Array Slot), va_P D vwCl (wSP cy hs hH hT sH sT v_tape_size v_band_walkers v_band_loads v_band_pieces v_rules_clauses v_reader_end v_reader_at v_reader_length v_reader_letter v_reader_fault v_draft_clauses v_paces_version v_packing_quicker v_packing_loads zpacking_looseCount_3 v_marches_told v_marches_changeMinutes v_marches_marching v_marches_gone v_search_known v_search_countHere v_search_countThere v_search_cost v_search_most v_search_found f_bytes f_knee f_weight f_limps f_bheft f_owner f_food f_miles f_slope f_rsteps f_rkind f_ryields f_rholds f_rletters f_rstack f_dsteps f_dkind f_dyields f_dholds f_dletters f_dstack f_caps f_versions f_sharing f_pheft f_21 f_holder f_comes f_pcaps f_23 zloose_5 f_22 f_mrow f_minutesOn f_mtired f_here f_there f_statesHere f_statesThere f_listed f_stired f_burdens f_pacesOn f_restedOn f_behindOn f_behindFor f_first f_second f_plans f_tiredOn) H → va_D A (wSP cy hs hH hT sH sT v_tape_size v_band_walkers v_band_loads v_band_pieces v_rules_clauses v_reader_end v_reader_at v_reader_length v_reader_letter v_reader_fault v_draft_clauses v_paces_version v_packing_quicker v_packing_loads zpacking_looseCount_3 v_marches_told v_marches_changeMinutes v_marches_marching v_marches_gone v_search_known v_search_countHere v_search_countThere v_search_cost v_search_most v_search_found f_bytes f_knee f_weight f_limps f_bheft f_owner f_food f_miles f_slope f_rsteps f_rkind f_ryields f_rholds f_rletters f_rstack f_dsteps f_dkind f_dyields f_dholds f_dletters f_dstack f_caps f_versions f_sharing f_pheft f_21 f_holder f_comes f_pcaps f_23 zloose_5 f_22 f_mrow f_minutesOn f_mtired f_here f_there f_statesHere f_statesThere f_listed f_stired f_burdens f_pacesOn f_restedOn f_behindOn f_behindFor f_first f_second f_plans f_tiredOn) → va_S A s.heap H locs → lv_has ls 6 [(3, .int l_24), (2, .int r_2), (0, .ref (hs 31)), (1, .int q)] → W p l e (gRm 3) s m args below meth c H locs 0 0 Q (F0 m 36 ls []) := by
          intro n
          induction n with
          | zero => intro f_21 f_22 f_23 l_24 hL36_25_0 hL36_25_1 hL36_25_2 hL36_25_3 hm; exact absurd hm (by omega)
          | succ n ih36_25 =>
            intro f_21 f_22 f_23 l_24 hL36_25_0 hL36_25_1 hL36_25_2 hL36_25_3 hmL36_25 H locs ls hP hD hS hl
            refine lv_iload_n hx hb dX4_settle_36 rfl (lv_at hl 0 rfl) ?_
            refine lv_aload_n hx hb dX4_settle_37 rfl (lv_at hl 2 rfl) ?_
            refine gt_SP_packing_looseCount hx hb hts hown hK hP lwd_709 dX4_settle_38 ?_
            refine lv_icmp_ge (tgt := 155) hx hb dX4_settle_41 (by decide) (fun c_26 => ?_) (fun c_26 => ?_)
            · have gc_26 : zpacking_looseCount_3.toInt ≤ l_24.toInt := i_le (rfl : zpacking_looseCount_3.toInt = zpacking_looseCount_3.toInt) (rfl : l_24.toInt = l_24.toInt) c_26
              exact hrt zpacking_looseCount_3 f_21 f_23 zloose_5 f_22 ⟨(by omega), hL36_25_1, p_10, hL36_25_0⟩ hP hD hS dX4_settle_155
            · have gc_26 : l_24.toInt < zpacking_looseCount_3.toInt := i_nle (rfl : zpacking_looseCount_3.toInt = zpacking_looseCount_3.toInt) (rfl : l_24.toInt = l_24.toInt) c_26
              refine lv_iload_n hx hb dX4_settle_44 rfl (lv_at hl 1 rfl) ?_
              refine lv_if_eq (tgt := 155) hx hb dX4_settle_45 (by decide) (fun c_27 => ?_) (fun c_27 => ?_)
              · have gc_27 : r_2.toInt = 0 := i_eq (rfl : r_2.toInt = r_2.toInt) (by decide : (0 : Int32).toInt = 0) c_27
                exact hrt zpacking_looseCount_3 f_21 f_23 zloose_5 f_22 ⟨(by omega), hL36_25_1, p_10, hL36_25_0⟩ hP hD hS dX4_settle_155
              · have gc_27 : r_2.toInt ≠ 0 := i_ne (rfl : r_2.toInt = r_2.toInt) (by decide : (0 : Int32).toInt = 0) c_27
                refine lv_aload_n hx hb dX4_settle_48 rfl (lv_at hl 2 rfl) ?_
                refine gt_SP_packing_loose hx hb hts hown hK hP lwd_101 dX4_settle_49 ?_
                refine lv_iload_n hx hb dX4_settle_52 rfl (lv_at hl 0 rfl) ?_
                refine al_loose hx hb hK hP p_10 (i_in (rfl : l_24.toInt = l_24.toInt) (by omega) (by omega)) dX4_settle_53 (fun n_28 en_28 bn_28 => ?_)
                refine lv_istore (lv' := [(4, .int n_28), (3, .int l_24), (2, .int r_2), (0, .ref (hs 31)), (1, .int q)]) hx hb dX4_settle_54 hl (by decide) rfl (fun ls hl => ?_)
                refine lv_iconst (v := 0) hx hb dX4_settle_56 (by decide) ?_
                refine lv_istore (lv' := [(5, .int 0), (4, .int n_28), (3, .int l_24), (2, .int r_2), (0, .ref (hs 31)), (1, .int q)]) hx hb dX4_settle_57 hl (by decide) rfl (fun ls hl => ?_)
                have L59_37 : ∀ (n : Nat) (f_33 : Nat → Int32) (f_34 : Nat → Int32) (f_35 : Nat → Int32) (l_36 : Int32), (rg (0) 3072 f_34) → (rg (-1000) 400 f_35) → (0 ≤ l_36.toInt ∧ l_36.toInt ≤ 6) → (r_2.toInt ≠ 0 → ∀ j : Nat, j < 6 → -1 ≤ (f_35 j).toInt) → 7 - l_36.toInt < n → ∀ (H : Heap) (locs : List Loc) (ls : Array Slot), va_P D vwCl (wSP cy hs hH hT sH sT v_tape_size v_band_walkers v_band_loads v_band_pieces v_rules_clauses v_reader_end v_reader_at v_reader_length v_reader_letter v_reader_fault v_draft_clauses v_paces_version v_packing_quicker v_packing_loads zpacking_looseCount_3 v_marches_told v_marches_changeMinutes v_marches_marching v_marches_gone v_search_known v_search_countHere v_search_countThere v_search_cost v_search_most v_search_found f_bytes f_knee f_weight f_limps f_bheft f_owner f_food f_miles f_slope f_rsteps f_rkind f_ryields f_rholds f_rletters f_rstack f_dsteps f_dkind f_dyields f_dholds f_dletters f_dstack f_caps f_versions f_sharing f_pheft f_33 f_holder f_comes f_pcaps f_35 zloose_5 f_34 f_mrow f_minutesOn f_mtired f_here f_there f_statesHere f_statesThere f_listed f_stired f_burdens f_pacesOn f_restedOn f_behindOn f_behindFor f_first f_second f_plans f_tiredOn) H → va_D A (wSP cy hs hH hT sH sT v_tape_size v_band_walkers v_band_loads v_band_pieces v_rules_clauses v_reader_end v_reader_at v_reader_length v_reader_letter v_reader_fault v_draft_clauses v_paces_version v_packing_quicker v_packing_loads zpacking_looseCount_3 v_marches_told v_marches_changeMinutes v_marches_marching v_marches_gone v_search_known v_search_countHere v_search_countThere v_search_cost v_search_most v_search_found f_bytes f_knee f_weight f_limps f_bheft f_owner f_food f_miles f_slope f_rsteps f_rkind f_ryields f_rholds f_rletters f_rstack f_dsteps f_dkind f_dyields f_dholds f_dletters f_dstack f_caps f_versions f_sharing f_pheft f_33 f_holder f_comes f_pcaps f_35 zloose_5 f_34 f_mrow f_minutesOn f_mtired f_here f_there f_statesHere f_statesThere f_listed f_stired f_burdens f_pacesOn f_restedOn f_behindOn f_behindFor f_first f_second f_plans f_tiredOn) → va_S A s.heap H locs → lv_has ls 6 [(5, .int l_36), (4, .int n_28), (3, .int l_24), (2, .int r_2), (0, .ref (hs 31)), (1, .int q)] → W p l e (gRm 3) s m args below meth c H locs 0 0 Q (F0 m 59 ls []) := by
                  intro n
                  induction n with
                  | zero => intro f_33 f_34 f_35 l_36 hL59_37_0 hL59_37_1 hL59_37_2 hL59_37_3 hm; exact absurd hm (by omega)
                  | succ n ih59_37 =>
                    intro f_33 f_34 f_35 l_36 hL59_37_0 hL59_37_1 hL59_37_2 hL59_37_3 hmL59_37 H locs ls hP hD hS hl
                    refine lv_iload hx hb dX4_settle_59 (lv_at hl 0 rfl) ?_
                    refine lv_bipush (v := 6) hx hb dX4_settle_61 (by decide) ?_
                    refine lv_icmp_ge (tgt := 149) hx hb dX4_settle_63 (by decide) (fun c_38 => ?_) (fun c_38 => ?_)
                    · have gc_38 : 6 ≤ l_36.toInt := i_le (by decide : (6 : Int32).toInt = 6) (rfl : l_36.toInt = l_36.toInt) c_38
                      obtain ⟨n_39, en_39⟩ : ∃ y : Int32, y = l_24 + 1 := ⟨_, rfl⟩
                      have tn_39 : n_39.toInt = l_24.toInt + 1 := i_add en_39 (rfl : l_24.toInt = l_24.toInt) (by decide : (1 : Int32).toInt = 1) (by omega) (by omega)
                      refine lv_iinc (v := n_39) (lv' := [(3, .int n_39), (5, .int l_36), (4, .int n_28), (2, .int r_2), (0, .ref (hs 31)), (1, .int q)]) hx hb dX4_settle_149 hl (k := 2) rfl (by rw [en_39]; rfl) (by decide) rfl (fun ls hl => ?_)
                      refine lv_goto (tgt := 36) hx hb dX4_settle_152 (by decide) ?_
                      exact ih36_25 f_33 f_34 f_35 n_39 hL59_37_0 hL59_37_1 (by omega) hL59_37_3 (by omega) _ _ _ hP hD hS (lv_sub hl [0, 3, 4, 5] rfl)
                    · have gc_38 : l_36.toInt < 6 := i_nle (by decide : (6 : Int32).toInt = 6) (rfl : l_36.toInt = l_36.toInt) c_38
                      skip
                      refine lv_aload_n hx hb dX4_settle_66 rfl (lv_at hl 4 rfl) ?_
                      refine gt_SP_packing_row hx hb hts hown hK hP lwd_96 dX4_settle_67 ?_
                      refine lv_iload hx hb dX4_settle_70 (lv_at hl 1 rfl) ?_
                      refine al_prow hx hb hK hP (i_in (rfl : n_28.toInt = n_28.toInt) (by omega) (by omega)) dX4_settle_72 (fun n_40 en_40 => ?_)
                      refine lv_iconst (v := (-1)) hx hb dX4_settle_73 (by decide) ?_
                      refine lv_icmp_ne (tgt := 149) hx hb dX4_settle_74 (by decide) (fun c_41 => ?_) (fun c_41 => ?_)
                      · have gc_41 : n_40.toInt ≠ (-1) := i_ne (rfl : n_40.toInt = n_40.toInt) (by decide : ((-1) : Int32).toInt = (-1)) c_41
                        obtain ⟨n_42, en_42⟩ : ∃ y : Int32, y = l_24 + 1 := ⟨_, rfl⟩
                        have tn_42 : n_42.toInt = l_24.toInt + 1 := i_add en_42 (rfl : l_24.toInt = l_24.toInt) (by decide : (1 : Int32).toInt = 1) (by omega) (by omega)
                        refine lv_iinc (v := n_42) (lv' := [(3, .int n_42), (5, .int l_36), (4, .int n_28), (2, .int r_2), (0, .ref (hs 31)), (1, .int q)]) hx hb dX4_settle_149 hl (k := 2) rfl (by rw [en_42]; rfl) (by decide) rfl (fun ls hl => ?_)
                        refine lv_goto (tgt := 36) hx hb dX4_settle_152 (by decide) ?_
                        exact ih36_25 f_33 f_34 f_35 n_42 hL59_37_0 hL59_37_1 (by omega) hL59_37_3 (by omega) _ _ _ hP hD hS (lv_sub hl [0, 3, 4, 5] rfl)
                      · have gc_41 : n_40.toInt = (-1) := i_eq (rfl : n_40.toInt = n_40.toInt) (by decide : ((-1) : Int32).toInt = (-1)) c_41
                        refine lv_aload_n hx hb dX4_settle_77 rfl (lv_at hl 4 rfl) ?_
                        refine gt_SP_packing_room hx hb hts hown hK hP lwd_100 dX4_settle_78 ?_
                        refine lv_iload hx hb dX4_settle_81 (lv_at hl 0 rfl) ?_
                        refine lv_dup2_11 hx hb dX4_settle_83 rfl rfl ?_
                        refine al_room hx hb hK hP hL59_37_1 (i_in (rfl : l_36.toInt = l_36.toInt) (by omega) (by omega)) dX4_settle_84 (fun n_43 en_43 bn_43 => ?_)
                        have hLn_43 := hL59_37_3 (by omega) l_36.toNatClampNeg (by have e9 := i_ix (rfl : l_36.toInt = l_36.toInt); omega)
                        rw [← en_43] at hLn_43
                        refine lv_aload_n hx hb dX4_settle_85 rfl (lv_at hl 4 rfl) ?_
                        refine gt_SP_packing_heft hx hb hts hown hK hP lwd_95 dX4_settle_86 ?_
                        refine lv_iload hx hb dX4_settle_89 (lv_at hl 1 rfl) ?_
                        refine al_pheft hx hb hK hP hr_pheft (i_in (rfl : n_28.toInt = n_28.toInt) (by omega) (by omega)) dX4_settle_91 (fun n_44 en_44 bn_44 => ?_)
                        refine lv_isub hx hb dX4_settle_92 ?_
                        refine lv_topi (fun n_45 en_45 => ?_)
                        have tn_45 : n_45.toInt = n_43.toInt - n_44.toInt := i_sub en_45 (rfl : n_43.toInt = n_43.toInt) (rfl : n_44.toInt = n_44.toInt) (by omega) (by omega)
                        refine as_room (x := n_45) hx hb hK hP hD hS hL59_37_1 (i_in (rfl : l_36.toInt = l_36.toInt) (by omega) (by omega)) (by omega) dX4_settle_93 (fun f_46 ef_46 rf_46 H locs hP hD hS => ?_)
                        refine lv_aload_n hx hb dX4_settle_94 rfl (lv_at hl 4 rfl) ?_
                        refine gt_SP_packing_room hx hb hts hown hK hP lwd_100 dX4_settle_95 ?_
                        refine lv_iload hx hb dX4_settle_98 (lv_at hl 0 rfl) ?_
                        refine al_room hx hb hK hP rf_46 (i_in (rfl : l_36.toInt = l_36.toInt) (by omega) (by omega)) dX4_settle_100 (fun n_47 en_47 bn_47 => ?_)
                        have hsn_47 : n_47.toInt = n_45.toInt := by rw [en_47, ef_46, upd_at]
                        have hEn_47 : n_47.toInt = n_45.toInt := by rw [en_47, ef_46, upd_at]
                        refine lv_if_lt (tgt := 126) hx hb dX4_settle_101 (by decide) (fun c_48 => ?_) (fun c_48 => ?_)
                        · have gc_48 : n_47.toInt < 0 := i_lt (rfl : n_47.toInt = n_47.toInt) (by decide : (0 : Int32).toInt = 0) c_48
                          refine lv_aload_n hx hb dX4_settle_126 rfl (lv_at hl 4 rfl) ?_
                          refine gt_SP_packing_room hx hb hts hown hK hP lwd_100 dX4_settle_127 ?_
                          refine lv_iload hx hb dX4_settle_130 (lv_at hl 0 rfl) ?_
                          refine lv_dup2_11 hx hb dX4_settle_132 rfl rfl ?_
                          refine al_room hx hb hK hP rf_46 (i_in (rfl : l_36.toInt = l_36.toInt) (by omega) (by omega)) dX4_settle_133 (fun n_49 en_49 bn_49 => ?_)
                          have hsn_49 : n_49.toInt = n_45.toInt := by rw [en_49, ef_46, upd_at]
                          obtain rfl : n_47 = n_49 := en_47.trans en_49.symm
                          refine lv_aload_n hx hb dX4_settle_134 rfl (lv_at hl 4 rfl) ?_
                          refine gt_SP_packing_heft hx hb hts hown hK hP lwd_95 dX4_settle_135 ?_
                          refine lv_iload hx hb dX4_settle_138 (lv_at hl 1 rfl) ?_
                          refine al_pheft hx hb hK hP hr_pheft (i_in (rfl : n_28.toInt = n_28.toInt) (by omega) (by omega)) dX4_settle_140 (fun n_50 en_50 bn_50 => ?_)
                          obtain rfl : n_44 = n_50 := en_44.trans en_50.symm
                          refine lv_iadd hx hb dX4_settle_141 ?_
                          refine lv_topi (fun n_51 en_51 => ?_)
                          have tn_51 : n_51.toInt = n_47.toInt + n_44.toInt := i_add en_51 (rfl : n_47.toInt = n_47.toInt) (rfl : n_44.toInt = n_44.toInt) (by omega) (by omega)
                          refine as_room (x := n_51) hx hb hK hP hD hS rf_46 (i_in (rfl : l_36.toInt = l_36.toInt) (by omega) (by omega)) (by omega) dX4_settle_142 (fun f_52 ef_52 rf_52 H locs hP hD hS => ?_)
                          obtain ⟨n_53, en_53⟩ : ∃ y : Int32, y = l_36 + 1 := ⟨_, rfl⟩
                          have tn_53 : n_53.toInt = l_36.toInt + 1 := i_add en_53 (rfl : l_36.toInt = l_36.toInt) (by decide : (1 : Int32).toInt = 1) (by omega) (by omega)
                          refine lv_iinc (v := n_53) (lv' := [(5, .int n_53), (4, .int n_28), (3, .int l_24), (2, .int r_2), (0, .ref (hs 31)), (1, .int q)]) hx hb dX4_settle_143 hl (k := 0) rfl (by rw [en_53]; rfl) (by decide) rfl (fun ls hl => ?_)
                          refine lv_goto (tgt := 59) hx hb dX4_settle_146 (by decide) ?_
                          exact ih59_37 f_33 f_34 f_52 n_53 hL59_37_0 rf_52 (by omega) (fun hz j hj => by
                            rw [ef_52]
                            have e9 := i_ix (rfl : l_36.toInt = l_36.toInt)
                            unfold upd
                            split
                            · first | omega | decide
                            · skip
                              rw [ef_46]
                              have e9 := i_ix (rfl : l_36.toInt = l_36.toInt)
                              unfold upd
                              split
                              · first | omega | decide
                              · skip
                                exact hL59_37_3 hz j (by omega)) (by omega) _ _ _ hP hD hS (lv_sub hl [0, 1, 2, 3, 4, 5] rfl)
                        · have gc_48 : 0 ≤ n_47.toInt := i_nlt (rfl : n_47.toInt = n_47.toInt) (by decide : (0 : Int32).toInt = 0) c_48
                          refine lv_aload_n hx hb dX4_settle_104 rfl (lv_at hl 4 rfl) ?_
                          refine lv_iload_n hx hb dX4_settle_105 rfl (lv_at hl 2 rfl) ?_
                          refine lv_iconst (v := 1) hx hb dX4_settle_106 (by decide) ?_
                          refine lv_iadd hx hb dX4_settle_107 ?_
                          refine lv_topi (fun n_54 en_54 => ?_)
                          have tn_54 : n_54.toInt = l_24.toInt + 1 := i_add en_54 (rfl : l_24.toInt = l_24.toInt) (by decide : (1 : Int32).toInt = 1) (by omega) (by omega)
                          refine xi hD hS hA (xV (As := [.int n_54]) (rest := []) hx hb hml hown hts hK hP hD hS hA NS_ok hN hAe hl.1 ⟨Nat.le_refl _, Nat.le_refl _⟩ 31 rfl rfl rfl (c_X4_looseFit l D cy hs hH hT sH sT v_tape_size v_band_walkers v_band_loads v_band_pieces v_rules_clauses v_reader_end v_reader_at v_reader_length v_reader_letter v_reader_fault v_draft_clauses v_paces_version v_packing_quicker v_packing_loads zpacking_looseCount_3 v_marches_told v_marches_changeMinutes v_marches_marching v_marches_gone v_search_known v_search_countHere v_search_countThere v_search_cost v_search_most v_search_found f_bytes f_knee f_weight f_limps f_bheft f_owner f_food f_miles f_slope f_rsteps f_rkind f_ryields f_rholds f_rletters f_rstack f_dsteps f_dkind f_dyields f_dholds f_dletters f_dstack f_caps f_versions f_sharing f_pheft f_33 f_holder f_comes f_pcaps f_46 zloose_5 f_34 f_mrow f_minutesOn f_mtired f_here f_there f_statesHere f_statesThere f_listed f_stired f_burdens f_pacesOn f_restedOn f_behindOn f_behindFor f_first f_second f_plans f_tiredOn tS H.size n_54 (by omega) hr_pheft rf_46 p_10 hL59_37_0 (by omega)) (gi_V lwd_715 lwd_716 lwd_717 lwd_34 lwd_718) ⟨rfl, hd_X4_looseFit⟩ ⟨Nat.le_of_ble_eq_true rfl, Nat.le_of_ble_eq_true rfl⟩ rfl (Nat.le_of_ble_eq_true rfl) dX4_settle_108) (fun r_56 u_55 H locs hw hP hD hS => ?_)
                          obtain ⟨zreached_57, rfl⟩ : ∃ z, z = u_55 := ⟨_, rfl⟩
                          try dsimp only at hw hP hD
                          obtain ⟨p_58, p_59⟩ := hw
                          refine lv_if_eq (tgt := 126) hx hb dX4_settle_111 (by decide) (fun c_60 => ?_) (fun c_60 => ?_)
                          · have gc_60 : r_56.toInt = 0 := i_eq (rfl : r_56.toInt = r_56.toInt) (by decide : (0 : Int32).toInt = 0) c_60
                            refine lv_aload_n hx hb dX4_settle_126 rfl (lv_at hl 4 rfl) ?_
                            refine gt_SP_packing_room hx hb hts hown hK hP lwd_100 dX4_settle_127 ?_
                            refine lv_iload hx hb dX4_settle_130 (lv_at hl 0 rfl) ?_
                            refine lv_dup2_11 hx hb dX4_settle_132 rfl rfl ?_
                            refine al_room hx hb hK hP rf_46 (i_in (rfl : l_36.toInt = l_36.toInt) (by omega) (by omega)) dX4_settle_133 (fun n_61 en_61 bn_61 => ?_)
                            have hsn_61 : n_61.toInt = n_45.toInt := by rw [en_61, ef_46, upd_at]
                            obtain rfl : n_47 = n_61 := en_47.trans en_61.symm
                            refine lv_aload_n hx hb dX4_settle_134 rfl (lv_at hl 4 rfl) ?_
                            refine gt_SP_packing_heft hx hb hts hown hK hP lwd_95 dX4_settle_135 ?_
                            refine lv_iload hx hb dX4_settle_138 (lv_at hl 1 rfl) ?_
                            refine al_pheft hx hb hK hP hr_pheft (i_in (rfl : n_28.toInt = n_28.toInt) (by omega) (by omega)) dX4_settle_140 (fun n_62 en_62 bn_62 => ?_)
                            obtain rfl : n_44 = n_62 := en_44.trans en_62.symm
                            refine lv_iadd hx hb dX4_settle_141 ?_
                            refine lv_topi (fun n_63 en_63 => ?_)
                            have tn_63 : n_63.toInt = n_47.toInt + n_44.toInt := i_add en_63 (rfl : n_47.toInt = n_47.toInt) (rfl : n_44.toInt = n_44.toInt) (by omega) (by omega)
                            refine as_room (x := n_63) hx hb hK hP hD hS rf_46 (i_in (rfl : l_36.toInt = l_36.toInt) (by omega) (by omega)) (by omega) dX4_settle_142 (fun f_64 ef_64 rf_64 H locs hP hD hS => ?_)
                            obtain ⟨n_65, en_65⟩ : ∃ y : Int32, y = l_36 + 1 := ⟨_, rfl⟩
                            have tn_65 : n_65.toInt = l_36.toInt + 1 := i_add en_65 (rfl : l_36.toInt = l_36.toInt) (by decide : (1 : Int32).toInt = 1) (by omega) (by omega)
                            refine lv_iinc (v := n_65) (lv' := [(5, .int n_65), (4, .int n_28), (3, .int l_24), (2, .int r_2), (0, .ref (hs 31)), (1, .int q)]) hx hb dX4_settle_143 hl (k := 0) rfl (by rw [en_65]; rfl) (by decide) rfl (fun ls hl => ?_)
                            refine lv_goto (tgt := 59) hx hb dX4_settle_146 (by decide) ?_
                            exact ih59_37 f_33 zreached_57 f_64 n_65 p_59 rf_64 (by omega) (fun hz j hj => by
                              rw [ef_64]
                              have e9 := i_ix (rfl : l_36.toInt = l_36.toInt)
                              unfold upd
                              split
                              · first | omega | decide
                              · skip
                                rw [ef_46]
                                have e9 := i_ix (rfl : l_36.toInt = l_36.toInt)
                                unfold upd
                                split
                                · first | omega | decide
                                · skip
                                  exact hL59_37_3 hz j (by omega)) (by omega) _ _ _ hP hD hS (lv_sub hl [0, 1, 2, 3, 4, 5] rfl)
                          · have gc_60 : r_56.toInt ≠ 0 := i_ne (rfl : r_56.toInt = r_56.toInt) (by decide : (0 : Int32).toInt = 0) c_60
                            refine lv_aload_n hx hb dX4_settle_114 rfl (lv_at hl 4 rfl) ?_
                            refine gt_SP_packing_row hx hb hts hown hK hP lwd_96 dX4_settle_115 ?_
                            refine lv_iload hx hb dX4_settle_118 (lv_at hl 1 rfl) ?_
                            refine lv_iload hx hb dX4_settle_120 (lv_at hl 0 rfl) ?_
                            refine as_prow (x := l_36) hx hb hK hP hD hS (i_in (rfl : n_28.toInt = n_28.toInt) (by omega) (by omega)) dX4_settle_122 (fun f_66 ef_66 H locs hP hD hS => ?_)
                            refine lv_goto (tgt := 143) hx hb dX4_settle_123 (by decide) ?_
                            obtain ⟨n_67, en_67⟩ : ∃ y : Int32, y = l_36 + 1 := ⟨_, rfl⟩
                            have tn_67 : n_67.toInt = l_36.toInt + 1 := i_add en_67 (rfl : l_36.toInt = l_36.toInt) (by decide : (1 : Int32).toInt = 1) (by omega) (by omega)
                            refine lv_iinc (v := n_67) (lv' := [(5, .int n_67), (4, .int n_28), (3, .int l_24), (2, .int r_2), (0, .ref (hs 31)), (1, .int q)]) hx hb dX4_settle_143 hl (k := 0) rfl (by rw [en_67]; rfl) (by decide) rfl (fun ls hl => ?_)
                            refine lv_goto (tgt := 59) hx hb dX4_settle_146 (by decide) ?_
                            exact ih59_37 f_66 zreached_57 f_46 n_67 p_59 rf_46 (by omega) (fun hz j hj => by
                              rw [ef_46]
                              have e9 := i_ix (rfl : l_36.toInt = l_36.toInt)
                              unfold upd
                              split
                              · first | omega | decide
                              · skip
                                exact hL59_37_3 hz j (by omega)) (by omega) _ _ _ hP hD hS (lv_sub hl [0, 1, 2, 3, 4, 5] rfl)
                have k_68 : (0 : Int32).toInt = 0 := by decide
                exact L59_37 8589934592 f_21 f_22 f_23 0 hL36_25_0 hL36_25_1 (by omega) hL36_25_3 (by omega) _ _ _ hP hD hS (lv_sub hl [0, 1, 2, 3, 4, 5] rfl)
        have k_69 : (0 : Int32).toInt = 0 := by decide
        exact L36_25 8589934592 f_13 f_reached zroom_4 0 hr_reached p_9 (by omega) (fun hz => p_7 (by omega)) (by omega) _ _ _ hP hD hS (lv_sub hl [0, 1, 2, 3] rfl)
      · have gc_16 : l_14.toInt < v_packing_loads.toInt := i_nle (rfl : v_packing_loads.toInt = v_packing_loads.toInt) (rfl : l_14.toInt = l_14.toInt) c_16
        refine lv_aload_n hx hb dX4_settle_16 rfl (lv_at hl 2 rfl) ?_
        refine gt_SP_packing_row hx hb hts hown hK hP lwd_96 dX4_settle_17 ?_
        refine lv_iload_n hx hb dX4_settle_20 rfl (lv_at hl 0 rfl) ?_
        refine lv_aload_n hx hb dX4_settle_21 rfl (lv_at hl 2 rfl) ?_
        refine gt_SP_packing_holder hx hb hts hown hK hP lwd_97 dX4_settle_22 ?_
        refine lv_iload_n hx hb dX4_settle_25 rfl (lv_at hl 0 rfl) ?_
        refine al_holder hx hb hK hP hr_holder (i_in (rfl : l_14.toInt = l_14.toInt) (by omega) (by omega)) dX4_settle_26 (fun n_70 en_70 bn_70 => ?_)
        refine as_prow (x := n_70) hx hb hK hP hD hS (i_in (rfl : l_14.toInt = l_14.toInt) (by omega) (by omega)) dX4_settle_27 (fun f_71 ef_71 H locs hP hD hS => ?_)
        obtain ⟨n_72, en_72⟩ : ∃ y : Int32, y = l_14 + 1 := ⟨_, rfl⟩
        have tn_72 : n_72.toInt = l_14.toInt + 1 := i_add en_72 (rfl : l_14.toInt = l_14.toInt) (by decide : (1 : Int32).toInt = 1) (by omega) (by omega)
        refine lv_iinc (v := n_72) (lv' := [(3, .int n_72), (2, .int r_2), (0, .ref (hs 31)), (1, .int q)]) hx hb dX4_settle_28 hl (k := 0) rfl (by rw [en_72]; rfl) (by decide) rfl (fun ls hl => ?_)
        refine lv_goto (tgt := 8) hx hb dX4_settle_31 (by decide) ?_
        exact ih8_15 f_71 n_72 (by omega) (by omega) _ _ _ hP hD hS (lv_sub hl [0, 1, 2, 3] rfl)
  have k_73 : (0 : Int32).toInt = 0 := by decide
  exact L8_15 8589934592 f_prow 0 (by omega) (by omega) _ _ _ hP hD hS (lv_sub hl [0, 1, 2, 3] rfl)
