set_option maxHeartbeats 16000000 in
set_option maxRecDepth 100000 in
theorem c_X0_hasWalker (l : Launch) (D : va_G) (cy : Nat → ClassId) (hs : Nat → Nat) (hH hT sH sT : Nat) (v_tape_size v_band_walkers v_band_loads v_band_pieces v_rules_clauses v_reader_end v_reader_at v_reader_length v_reader_letter v_reader_fault v_draft_clauses v_paces_version v_packing_quicker v_packing_loads v_packing_looseCount v_marches_told v_marches_changeMinutes v_marches_marching v_marches_gone v_search_known v_search_countHere v_search_countThere v_search_cost v_search_most : Int32) (v_search_found : Int64) (f_bytes f_knee f_weight f_limps f_bheft f_owner f_food f_miles f_slope f_rsteps f_rkind f_ryields f_rholds f_rletters f_rstack f_dsteps f_dkind f_dyields f_dholds f_dletters f_dstack f_caps f_versions f_sharing f_pheft f_prow f_holder f_comes f_pcaps f_room f_loose f_reached f_mrow f_minutesOn f_mtired : Nat → Int32) (f_here f_there : Nat → Int64) (f_statesHere f_statesThere f_listed f_stired f_burdens f_pacesOn f_restedOn f_behindOn f_behindFor f_first f_second : Nat → Int32) (f_plans f_tiredOn : Nat → Nat → Int32) (tS : Nat) (sz : Nat) (k : Int32) (hb_v_band_walkers : 0 ≤ v_band_walkers.toInt ∧ v_band_walkers.toInt ≤ 6) : gMi l yX0_hasWalker cX0_hasWalker 2 .boolean 1 [.ref (hs 3), .int k] D cy (wSP cy hs hH hT sH sT v_tape_size v_band_walkers v_band_loads v_band_pieces v_rules_clauses v_reader_end v_reader_at v_reader_length v_reader_letter v_reader_fault v_draft_clauses v_paces_version v_packing_quicker v_packing_loads v_packing_looseCount v_marches_told v_marches_changeMinutes v_marches_marching v_marches_gone v_search_known v_search_countHere v_search_countThere v_search_cost v_search_most v_search_found f_bytes f_knee f_weight f_limps f_bheft f_owner f_food f_miles f_slope f_rsteps f_rkind f_ryields f_rholds f_rletters f_rstack f_dsteps f_dkind f_dyields f_dholds f_dletters f_dstack f_caps f_versions f_sharing f_pheft f_prow f_holder f_comes f_pcaps f_room f_loose f_reached f_mrow f_minutesOn f_mtired f_here f_there f_statesHere f_statesThere f_listed f_stired f_burdens f_pacesOn f_restedOn f_behindOn f_behindFor f_first f_second f_plans f_tiredOn) (NS tS) sz (fun (r : Int32) (u : Unit) => (0 ≤ r.toInt ∧ r.toInt ≤ 1) ∧ ((r.toInt = 1 ∧ 0 ≤ k.toInt ∧ k.toInt < v_band_walkers.toInt) ∨ (r.toInt = 0 ∧ ¬ (0 ≤ k.toInt ∧ k.toInt < v_band_walkers.toInt)))) (fun u => wSP cy hs hH hT sH sT v_tape_size v_band_walkers v_band_loads v_band_pieces v_rules_clauses v_reader_end v_reader_at v_reader_length v_reader_letter v_reader_fault v_draft_clauses v_paces_version v_packing_quicker v_packing_loads v_packing_looseCount v_marches_told v_marches_changeMinutes v_marches_marching v_marches_gone v_search_known v_search_countHere v_search_countThere v_search_cost v_search_most v_search_found f_bytes f_knee f_weight f_limps f_bheft f_owner f_food f_miles f_slope f_rsteps f_rkind f_ryields f_rholds f_rletters f_rstack f_dsteps f_dkind f_dyields f_dholds f_dletters f_dstack f_caps f_versions f_sharing f_pheft f_prow f_holder f_comes f_pcaps f_room f_loose f_reached f_mrow f_minutesOn f_mtired f_here f_there f_statesHere f_statesThere f_listed f_stired f_burdens f_pacesOn f_restedOn f_behindOn f_behindFor f_first f_second f_plans f_tiredOn) := by
  refine gMi_in (by decide) (Nat.le_of_ble_eq_true rfl) ?_
  intro p e s m args below meth c A ls Q hx hb hml hts hown hsz hP hK hD hN hAe hA hS hl hret
  subst hsz
  have hl : lv_has ls 2 [(0, .ref (hs 3)), (1, .int k)] := hl
  have hrt := fun (r : Int32)  (hp : (0 ≤ r.toInt ∧ r.toInt ≤ 1) ∧ ((r.toInt = 1 ∧ 0 ≤ k.toInt ∧ k.toInt < v_band_walkers.toInt) ∨ (r.toInt = 0 ∧ ¬ (0 ≤ k.toInt ∧ k.toInt < v_band_walkers.toInt)))) {H : Heap} {locs : List Loc} {pc : Nat} {ls : Array Slot} => hret r () (H := H) (locs := locs) (pc := pc) (ls := ls) hp
  clear hret
  refine lv_iload_n hx hb dX0_hasWalker_0 rfl (lv_at hl 1 rfl) ?_
  refine lv_if_lt (tgt := 16) hx hb dX0_hasWalker_1 (by decide) (fun c_1 => ?_) (fun c_1 => ?_)
  · have gc_1 : k.toInt < 0 := i_lt (rfl : k.toInt = k.toInt) (by decide : (0 : Int32).toInt = 0) c_1
    refine lv_iconst (v := 0) hx hb dX0_hasWalker_16 (by decide) ?_
    have k_2 : (0 : Int32).toInt = 0 := by decide
    exact hrt 0  ⟨(by omega), (by omega)⟩ hP hD hS rfl dX0_hasWalker_17
  · have gc_1 : 0 ≤ k.toInt := i_nlt (rfl : k.toInt = k.toInt) (by decide : (0 : Int32).toInt = 0) c_1
    refine lv_iload_n hx hb dX0_hasWalker_4 rfl (lv_at hl 1 rfl) ?_
    refine lv_aload_n hx hb dX0_hasWalker_5 rfl (lv_at hl 0 rfl) ?_
    refine gt_SP_band_walkers hx hb hts hown hK hP lwd_242 dX0_hasWalker_6 ?_
    refine lv_icmp_ge (tgt := 16) hx hb dX0_hasWalker_9 (by decide) (fun c_3 => ?_) (fun c_3 => ?_)
    · have gc_3 : v_band_walkers.toInt ≤ k.toInt := i_le (rfl : v_band_walkers.toInt = v_band_walkers.toInt) (rfl : k.toInt = k.toInt) c_3
      refine lv_iconst (v := 0) hx hb dX0_hasWalker_16 (by decide) ?_
      have k_4 : (0 : Int32).toInt = 0 := by decide
      exact hrt 0  ⟨(by omega), (by omega)⟩ hP hD hS rfl dX0_hasWalker_17
    · have gc_3 : k.toInt < v_band_walkers.toInt := i_nle (rfl : v_band_walkers.toInt = v_band_walkers.toInt) (rfl : k.toInt = k.toInt) c_3
      refine lv_iconst (v := 1) hx hb dX0_hasWalker_12 (by decide) ?_
      refine lv_goto (tgt := 17) hx hb dX0_hasWalker_13 (by decide) ?_
      have k_5 : (1 : Int32).toInt = 1 := by decide
      exact hrt 1  ⟨(by omega), (by omega)⟩ hP hD hS rfl dX0_hasWalker_17
set_option maxHeartbeats 16000000 in
set_option maxRecDepth 100000 in
theorem c_X0_hasLoad (l : Launch) (D : va_G) (cy : Nat → ClassId) (hs : Nat → Nat) (hH hT sH sT : Nat) (v_tape_size v_band_walkers v_band_loads v_band_pieces v_rules_clauses v_reader_end v_reader_at v_reader_length v_reader_letter v_reader_fault v_draft_clauses v_paces_version v_packing_quicker v_packing_loads v_packing_looseCount v_marches_told v_marches_changeMinutes v_marches_marching v_marches_gone v_search_known v_search_countHere v_search_countThere v_search_cost v_search_most : Int32) (v_search_found : Int64) (f_bytes f_knee f_weight f_limps f_bheft f_owner f_food f_miles f_slope f_rsteps f_rkind f_ryields f_rholds f_rletters f_rstack f_dsteps f_dkind f_dyields f_dholds f_dletters f_dstack f_caps f_versions f_sharing f_pheft f_prow f_holder f_comes f_pcaps f_room f_loose f_reached f_mrow f_minutesOn f_mtired : Nat → Int32) (f_here f_there : Nat → Int64) (f_statesHere f_statesThere f_listed f_stired f_burdens f_pacesOn f_restedOn f_behindOn f_behindFor f_first f_second : Nat → Int32) (f_plans f_tiredOn : Nat → Nat → Int32) (tS : Nat) (sz : Nat) (k : Int32) (hb_v_band_loads : 0 ≤ v_band_loads.toInt ∧ v_band_loads.toInt ≤ 9) : gMi l yX0_hasLoad cX0_hasLoad 2 .boolean 1 [.ref (hs 3), .int k] D cy (wSP cy hs hH hT sH sT v_tape_size v_band_walkers v_band_loads v_band_pieces v_rules_clauses v_reader_end v_reader_at v_reader_length v_reader_letter v_reader_fault v_draft_clauses v_paces_version v_packing_quicker v_packing_loads v_packing_looseCount v_marches_told v_marches_changeMinutes v_marches_marching v_marches_gone v_search_known v_search_countHere v_search_countThere v_search_cost v_search_most v_search_found f_bytes f_knee f_weight f_limps f_bheft f_owner f_food f_miles f_slope f_rsteps f_rkind f_ryields f_rholds f_rletters f_rstack f_dsteps f_dkind f_dyields f_dholds f_dletters f_dstack f_caps f_versions f_sharing f_pheft f_prow f_holder f_comes f_pcaps f_room f_loose f_reached f_mrow f_minutesOn f_mtired f_here f_there f_statesHere f_statesThere f_listed f_stired f_burdens f_pacesOn f_restedOn f_behindOn f_behindFor f_first f_second f_plans f_tiredOn) (NS tS) sz (fun (r : Int32) (u : Unit) => (0 ≤ r.toInt ∧ r.toInt ≤ 1) ∧ ((r.toInt = 1 ∧ 0 ≤ k.toInt ∧ k.toInt < v_band_loads.toInt) ∨ (r.toInt = 0 ∧ ¬ (0 ≤ k.toInt ∧ k.toInt < v_band_loads.toInt)))) (fun u => wSP cy hs hH hT sH sT v_tape_size v_band_walkers v_band_loads v_band_pieces v_rules_clauses v_reader_end v_reader_at v_reader_length v_reader_letter v_reader_fault v_draft_clauses v_paces_version v_packing_quicker v_packing_loads v_packing_looseCount v_marches_told v_marches_changeMinutes v_marches_marching v_marches_gone v_search_known v_search_countHere v_search_countThere v_search_cost v_search_most v_search_found f_bytes f_knee f_weight f_limps f_bheft f_owner f_food f_miles f_slope f_rsteps f_rkind f_ryields f_rholds f_rletters f_rstack f_dsteps f_dkind f_dyields f_dholds f_dletters f_dstack f_caps f_versions f_sharing f_pheft f_prow f_holder f_comes f_pcaps f_room f_loose f_reached f_mrow f_minutesOn f_mtired f_here f_there f_statesHere f_statesThere f_listed f_stired f_burdens f_pacesOn f_restedOn f_behindOn f_behindFor f_first f_second f_plans f_tiredOn) := by
  refine gMi_in (by decide) (Nat.le_of_ble_eq_true rfl) ?_
  intro p e s m args below meth c A ls Q hx hb hml hts hown hsz hP hK hD hN hAe hA hS hl hret
  subst hsz
  have hl : lv_has ls 2 [(0, .ref (hs 3)), (1, .int k)] := hl
  have hrt := fun (r : Int32)  (hp : (0 ≤ r.toInt ∧ r.toInt ≤ 1) ∧ ((r.toInt = 1 ∧ 0 ≤ k.toInt ∧ k.toInt < v_band_loads.toInt) ∨ (r.toInt = 0 ∧ ¬ (0 ≤ k.toInt ∧ k.toInt < v_band_loads.toInt)))) {H : Heap} {locs : List Loc} {pc : Nat} {ls : Array Slot} => hret r () (H := H) (locs := locs) (pc := pc) (ls := ls) hp
  clear hret
  refine lv_iload_n hx hb dX0_hasLoad_0 rfl (lv_at hl 1 rfl) ?_
  refine lv_if_lt (tgt := 16) hx hb dX0_hasLoad_1 (by decide) (fun c_1 => ?_) (fun c_1 => ?_)
  · have gc_1 : k.toInt < 0 := i_lt (rfl : k.toInt = k.toInt) (by decide : (0 : Int32).toInt = 0) c_1
    refine lv_iconst (v := 0) hx hb dX0_hasLoad_16 (by decide) ?_
    have k_2 : (0 : Int32).toInt = 0 := by decide
    exact hrt 0  ⟨(by omega), (by omega)⟩ hP hD hS rfl dX0_hasLoad_17
  · have gc_1 : 0 ≤ k.toInt := i_nlt (rfl : k.toInt = k.toInt) (by decide : (0 : Int32).toInt = 0) c_1
    refine lv_iload_n hx hb dX0_hasLoad_4 rfl (lv_at hl 1 rfl) ?_
    refine lv_aload_n hx hb dX0_hasLoad_5 rfl (lv_at hl 0 rfl) ?_
    refine gt_SP_band_loads hx hb hts hown hK hP lwd_681 dX0_hasLoad_6 ?_
    refine lv_icmp_ge (tgt := 16) hx hb dX0_hasLoad_9 (by decide) (fun c_3 => ?_) (fun c_3 => ?_)
    · have gc_3 : v_band_loads.toInt ≤ k.toInt := i_le (rfl : v_band_loads.toInt = v_band_loads.toInt) (rfl : k.toInt = k.toInt) c_3
      refine lv_iconst (v := 0) hx hb dX0_hasLoad_16 (by decide) ?_
      have k_4 : (0 : Int32).toInt = 0 := by decide
      exact hrt 0  ⟨(by omega), (by omega)⟩ hP hD hS rfl dX0_hasLoad_17
    · have gc_3 : k.toInt < v_band_loads.toInt := i_nle (rfl : v_band_loads.toInt = v_band_loads.toInt) (rfl : k.toInt = k.toInt) c_3
      refine lv_iconst (v := 1) hx hb dX0_hasLoad_12 (by decide) ?_
      refine lv_goto (tgt := 17) hx hb dX0_hasLoad_13 (by decide) ?_
      have k_5 : (1 : Int32).toInt = 1 := by decide
      exact hrt 1  ⟨(by omega), (by omega)⟩ hP hD hS rfl dX0_hasLoad_17
set_option maxHeartbeats 16000000 in
set_option maxRecDepth 100000 in
theorem c_X0_hasPiece (l : Launch) (D : va_G) (cy : Nat → ClassId) (hs : Nat → Nat) (hH hT sH sT : Nat) (v_tape_size v_band_walkers v_band_loads v_band_pieces v_rules_clauses v_reader_end v_reader_at v_reader_length v_reader_letter v_reader_fault v_draft_clauses v_paces_version v_packing_quicker v_packing_loads v_packing_looseCount v_marches_told v_marches_changeMinutes v_marches_marching v_marches_gone v_search_known v_search_countHere v_search_countThere v_search_cost v_search_most : Int32) (v_search_found : Int64) (f_bytes f_knee f_weight f_limps f_bheft f_owner f_food f_miles f_slope f_rsteps f_rkind f_ryields f_rholds f_rletters f_rstack f_dsteps f_dkind f_dyields f_dholds f_dletters f_dstack f_caps f_versions f_sharing f_pheft f_prow f_holder f_comes f_pcaps f_room f_loose f_reached f_mrow f_minutesOn f_mtired : Nat → Int32) (f_here f_there : Nat → Int64) (f_statesHere f_statesThere f_listed f_stired f_burdens f_pacesOn f_restedOn f_behindOn f_behindFor f_first f_second : Nat → Int32) (f_plans f_tiredOn : Nat → Nat → Int32) (tS : Nat) (sz : Nat) (k : Int32) (hb_v_band_pieces : 0 ≤ v_band_pieces.toInt ∧ v_band_pieces.toInt ≤ 10) : gMi l yX0_hasPiece cX0_hasPiece 2 .boolean 1 [.ref (hs 3), .int k] D cy (wSP cy hs hH hT sH sT v_tape_size v_band_walkers v_band_loads v_band_pieces v_rules_clauses v_reader_end v_reader_at v_reader_length v_reader_letter v_reader_fault v_draft_clauses v_paces_version v_packing_quicker v_packing_loads v_packing_looseCount v_marches_told v_marches_changeMinutes v_marches_marching v_marches_gone v_search_known v_search_countHere v_search_countThere v_search_cost v_search_most v_search_found f_bytes f_knee f_weight f_limps f_bheft f_owner f_food f_miles f_slope f_rsteps f_rkind f_ryields f_rholds f_rletters f_rstack f_dsteps f_dkind f_dyields f_dholds f_dletters f_dstack f_caps f_versions f_sharing f_pheft f_prow f_holder f_comes f_pcaps f_room f_loose f_reached f_mrow f_minutesOn f_mtired f_here f_there f_statesHere f_statesThere f_listed f_stired f_burdens f_pacesOn f_restedOn f_behindOn f_behindFor f_first f_second f_plans f_tiredOn) (NS tS) sz (fun (r : Int32) (u : Unit) => (0 ≤ r.toInt ∧ r.toInt ≤ 1) ∧ ((r.toInt = 1 ∧ 0 ≤ k.toInt ∧ k.toInt < v_band_pieces.toInt) ∨ (r.toInt = 0 ∧ ¬ (0 ≤ k.toInt ∧ k.toInt < v_band_pieces.toInt)))) (fun u => wSP cy hs hH hT sH sT v_tape_size v_band_walkers v_band_loads v_band_pieces v_rules_clauses v_reader_end v_reader_at v_reader_length v_reader_letter v_reader_fault v_draft_clauses v_paces_version v_packing_quicker v_packing_loads v_packing_looseCount v_marches_told v_marches_changeMinutes v_marches_marching v_marches_gone v_search_known v_search_countHere v_search_countThere v_search_cost v_search_most v_search_found f_bytes f_knee f_weight f_limps f_bheft f_owner f_food f_miles f_slope f_rsteps f_rkind f_ryields f_rholds f_rletters f_rstack f_dsteps f_dkind f_dyields f_dholds f_dletters f_dstack f_caps f_versions f_sharing f_pheft f_prow f_holder f_comes f_pcaps f_room f_loose f_reached f_mrow f_minutesOn f_mtired f_here f_there f_statesHere f_statesThere f_listed f_stired f_burdens f_pacesOn f_restedOn f_behindOn f_behindFor f_first f_second f_plans f_tiredOn) := by
  refine gMi_in (by decide) (Nat.le_of_ble_eq_true rfl) ?_
  intro p e s m args below meth c A ls Q hx hb hml hts hown hsz hP hK hD hN hAe hA hS hl hret
  subst hsz
  have hl : lv_has ls 2 [(0, .ref (hs 3)), (1, .int k)] := hl
  have hrt := fun (r : Int32)  (hp : (0 ≤ r.toInt ∧ r.toInt ≤ 1) ∧ ((r.toInt = 1 ∧ 0 ≤ k.toInt ∧ k.toInt < v_band_pieces.toInt) ∨ (r.toInt = 0 ∧ ¬ (0 ≤ k.toInt ∧ k.toInt < v_band_pieces.toInt)))) {H : Heap} {locs : List Loc} {pc : Nat} {ls : Array Slot} => hret r () (H := H) (locs := locs) (pc := pc) (ls := ls) hp
  clear hret
  refine lv_iload_n hx hb dX0_hasPiece_0 rfl (lv_at hl 1 rfl) ?_
  refine lv_if_lt (tgt := 16) hx hb dX0_hasPiece_1 (by decide) (fun c_1 => ?_) (fun c_1 => ?_)
  · have gc_1 : k.toInt < 0 := i_lt (rfl : k.toInt = k.toInt) (by decide : (0 : Int32).toInt = 0) c_1
    refine lv_iconst (v := 0) hx hb dX0_hasPiece_16 (by decide) ?_
    have k_2 : (0 : Int32).toInt = 0 := by decide
    exact hrt 0  ⟨(by omega), (by omega)⟩ hP hD hS rfl dX0_hasPiece_17
  · have gc_1 : 0 ≤ k.toInt := i_nlt (rfl : k.toInt = k.toInt) (by decide : (0 : Int32).toInt = 0) c_1
    refine lv_iload_n hx hb dX0_hasPiece_4 rfl (lv_at hl 1 rfl) ?_
    refine lv_aload_n hx hb dX0_hasPiece_5 rfl (lv_at hl 0 rfl) ?_
    refine gt_SP_band_pieces hx hb hts hown hK hP lwd_508 dX0_hasPiece_6 ?_
    refine lv_icmp_ge (tgt := 16) hx hb dX0_hasPiece_9 (by decide) (fun c_3 => ?_) (fun c_3 => ?_)
    · have gc_3 : v_band_pieces.toInt ≤ k.toInt := i_le (rfl : v_band_pieces.toInt = v_band_pieces.toInt) (rfl : k.toInt = k.toInt) c_3
      refine lv_iconst (v := 0) hx hb dX0_hasPiece_16 (by decide) ?_
      have k_4 : (0 : Int32).toInt = 0 := by decide
      exact hrt 0  ⟨(by omega), (by omega)⟩ hP hD hS rfl dX0_hasPiece_17
    · have gc_3 : k.toInt < v_band_pieces.toInt := i_nle (rfl : v_band_pieces.toInt = v_band_pieces.toInt) (rfl : k.toInt = k.toInt) c_3
      refine lv_iconst (v := 1) hx hb dX0_hasPiece_12 (by decide) ?_
      refine lv_goto (tgt := 17) hx hb dX0_hasPiece_13 (by decide) ?_
      have k_5 : (1 : Int32).toInt = 1 := by decide
      exact hrt 1  ⟨(by omega), (by omega)⟩ hP hD hS rfl dX0_hasPiece_17
set_option maxHeartbeats 16000000 in
set_option maxRecDepth 100000 in
theorem c_X0_heftAt (l : Launch) (D : va_G) (cy : Nat → ClassId) (hs : Nat → Nat) (hH hT sH sT : Nat) (v_tape_size v_band_walkers v_band_loads v_band_pieces v_rules_clauses v_reader_end v_reader_at v_reader_length v_reader_letter v_reader_fault v_draft_clauses v_paces_version v_packing_quicker v_packing_loads v_packing_looseCount v_marches_told v_marches_changeMinutes v_marches_marching v_marches_gone v_search_known v_search_countHere v_search_countThere v_search_cost v_search_most : Int32) (v_search_found : Int64) (f_bytes f_knee f_weight f_limps f_bheft f_owner f_food f_miles f_slope f_rsteps f_rkind f_ryields f_rholds f_rletters f_rstack f_dsteps f_dkind f_dyields f_dholds f_dletters f_dstack f_caps f_versions f_sharing f_pheft f_prow f_holder f_comes f_pcaps f_room f_loose f_reached f_mrow f_minutesOn f_mtired : Nat → Int32) (f_here f_there : Nat → Int64) (f_statesHere f_statesThere f_listed f_stired f_burdens f_pacesOn f_restedOn f_behindOn f_behindFor f_first f_second : Nat → Int32) (f_plans f_tiredOn : Nat → Nat → Int32) (tS : Nat) (sz : Nat) (x : Int32) (i : Int32) (hr_bheft : rg (0) 120 f_bheft) (hr_food : rg (0) 20 f_food) (ha_x : 0 ≤ x.toInt ∧ x.toInt ≤ 8) (ha_i : 0 ≤ i.toInt ∧ i.toInt ≤ 9) : gMi l yX0_heftAt cX0_heftAt 3 .int 1 [.ref (hs 3), .int x, .int i] D cy (wSP cy hs hH hT sH sT v_tape_size v_band_walkers v_band_loads v_band_pieces v_rules_clauses v_reader_end v_reader_at v_reader_length v_reader_letter v_reader_fault v_draft_clauses v_paces_version v_packing_quicker v_packing_loads v_packing_looseCount v_marches_told v_marches_changeMinutes v_marches_marching v_marches_gone v_search_known v_search_countHere v_search_countThere v_search_cost v_search_most v_search_found f_bytes f_knee f_weight f_limps f_bheft f_owner f_food f_miles f_slope f_rsteps f_rkind f_ryields f_rholds f_rletters f_rstack f_dsteps f_dkind f_dyields f_dholds f_dletters f_dstack f_caps f_versions f_sharing f_pheft f_prow f_holder f_comes f_pcaps f_room f_loose f_reached f_mrow f_minutesOn f_mtired f_here f_there f_statesHere f_statesThere f_listed f_stired f_burdens f_pacesOn f_restedOn f_behindOn f_behindFor f_first f_second f_plans f_tiredOn) (NS tS) sz (fun (r : Int32) (u : Unit) => (0 ≤ r.toInt ∧ r.toInt ≤ 120)) (fun u => wSP cy hs hH hT sH sT v_tape_size v_band_walkers v_band_loads v_band_pieces v_rules_clauses v_reader_end v_reader_at v_reader_length v_reader_letter v_reader_fault v_draft_clauses v_paces_version v_packing_quicker v_packing_loads v_packing_looseCount v_marches_told v_marches_changeMinutes v_marches_marching v_marches_gone v_search_known v_search_countHere v_search_countThere v_search_cost v_search_most v_search_found f_bytes f_knee f_weight f_limps f_bheft f_owner f_food f_miles f_slope f_rsteps f_rkind f_ryields f_rholds f_rletters f_rstack f_dsteps f_dkind f_dyields f_dholds f_dletters f_dstack f_caps f_versions f_sharing f_pheft f_prow f_holder f_comes f_pcaps f_room f_loose f_reached f_mrow f_minutesOn f_mtired f_here f_there f_statesHere f_statesThere f_listed f_stired f_burdens f_pacesOn f_restedOn f_behindOn f_behindFor f_first f_second f_plans f_tiredOn) := by
  refine gMi_in (by decide) (Nat.le_of_ble_eq_true rfl) ?_
  intro p e s m args below meth c A ls Q hx hb hml hts hown hsz hP hK hD hN hAe hA hS hl hret
  subst hsz
  have hl : lv_has ls 3 [(0, .ref (hs 3)), (1, .int x), (2, .int i)] := hl
  have hrt := fun (r : Int32)  (hp : (0 ≤ r.toInt ∧ r.toInt ≤ 120)) {H : Heap} {locs : List Loc} {pc : Nat} {ls : Array Slot} => hret r () (H := H) (locs := locs) (pc := pc) (ls := ls) hp
  clear hret
  refine lv_iconst (v := 0) hx hb dX0_heftAt_0 (by decide) ?_
  refine lv_aload_n hx hb dX0_heftAt_1 rfl (lv_at hl 0 rfl) ?_
  refine gt_SP_band_heft hx hb hts hown hK hP lwd_60 dX0_heftAt_2 ?_
  refine lv_iload_n hx hb dX0_heftAt_5 rfl (lv_at hl 1 rfl) ?_
  refine al_bheft hx hb hK hP hr_bheft (i_in (rfl : x.toInt = x.toInt) (by omega) (by omega)) dX0_heftAt_6 (fun n_1 en_1 bn_1 => ?_)
  refine lv_aload_n hx hb dX0_heftAt_7 rfl (lv_at hl 0 rfl) ?_
  refine gt_SP_band_food hx hb hts hown hK hP lwd_62 dX0_heftAt_8 ?_
  refine lv_iload_n hx hb dX0_heftAt_11 rfl (lv_at hl 1 rfl) ?_
  refine al_food hx hb hK hP hr_food (i_in (rfl : x.toInt = x.toInt) (by omega) (by omega)) dX0_heftAt_12 (fun n_2 en_2 bn_2 => ?_)
  refine lv_iload_n hx hb dX0_heftAt_13 rfl (lv_at hl 2 rfl) ?_
  refine lv_imul hx hb dX0_heftAt_14 ?_
  have mb_3 := mul_bd (a := n_2.toInt) (b := i.toInt) (A := 20) (B := 9) (by omega) (by omega) (by omega) (by omega)
  refine lv_topi (fun n_4 en_4 => ?_)
  have tn_4 : n_4.toInt = n_2.toInt * i.toInt := i_mul en_4 (rfl : n_2.toInt = n_2.toInt) (rfl : i.toInt = i.toInt) (by omega) (by omega)
  refine lv_isub hx hb dX0_heftAt_15 ?_
  refine lv_topi (fun n_5 en_5 => ?_)
  have tn_5 : n_5.toInt = n_1.toInt - (n_2.toInt * i.toInt) := i_sub en_5 (rfl : n_1.toInt = n_1.toInt) tn_4 (by omega) (by omega)
  refine va_mmax hx hb (by rw [hml]; exact hl.1.symm) hown (hts _ lwd_695) (hts _ lwd_532) (hts _ lwd_529) (hts _ lwd_533) (Nat.le_of_ble_eq_true rfl) (Nat.le_of_ble_eq_true rfl) (Nat.zero_le _) (Nat.zero_le _) dX0_heftAt_16 ?_
  refine lv_topi (fun n_6 en_6 => ?_)
  have tn_6 := i_max en_6 (by decide : (0 : Int32).toInt = 0) tn_5
  exact hrt n_6  (by omega) hP hD hS rfl dX0_heftAt_19
set_option maxHeartbeats 16000000 in
set_option maxRecDepth 100000 in
theorem c_X0_allHeftAt (l : Launch) (D : va_G) (cy : Nat → ClassId) (hs : Nat → Nat) (hH hT sH sT : Nat) (v_tape_size v_band_walkers v_band_loads v_band_pieces v_rules_clauses v_reader_end v_reader_at v_reader_length v_reader_letter v_reader_fault v_draft_clauses v_paces_version v_packing_quicker v_packing_loads v_packing_looseCount v_marches_told v_marches_changeMinutes v_marches_marching v_marches_gone v_search_known v_search_countHere v_search_countThere v_search_cost v_search_most : Int32) (v_search_found : Int64) (f_bytes f_knee f_weight f_limps f_bheft f_owner f_food f_miles f_slope f_rsteps f_rkind f_ryields f_rholds f_rletters f_rstack f_dsteps f_dkind f_dyields f_dholds f_dletters f_dstack f_caps f_versions f_sharing f_pheft f_prow f_holder f_comes f_pcaps f_room f_loose f_reached f_mrow f_minutesOn f_mtired : Nat → Int32) (f_here f_there : Nat → Int64) (f_statesHere f_statesThere f_listed f_stired f_burdens f_pacesOn f_restedOn f_behindOn f_behindFor f_first f_second : Nat → Int32) (f_plans f_tiredOn : Nat → Nat → Int32) (tS : Nat) (sz : Nat) (i : Int32) (hb_v_band_loads : 0 ≤ v_band_loads.toInt ∧ v_band_loads.toInt ≤ 9) (hr_bheft : rg (0) 120 f_bheft) (hr_food : rg (0) 20 f_food) (ha_i : 0 ≤ i.toInt ∧ i.toInt ≤ 9) : gMi l yX0_allHeftAt cX0_allHeftAt 4 .int 2 [.ref (hs 3), .int i] D cy (wSP cy hs hH hT sH sT v_tape_size v_band_walkers v_band_loads v_band_pieces v_rules_clauses v_reader_end v_reader_at v_reader_length v_reader_letter v_reader_fault v_draft_clauses v_paces_version v_packing_quicker v_packing_loads v_packing_looseCount v_marches_told v_marches_changeMinutes v_marches_marching v_marches_gone v_search_known v_search_countHere v_search_countThere v_search_cost v_search_most v_search_found f_bytes f_knee f_weight f_limps f_bheft f_owner f_food f_miles f_slope f_rsteps f_rkind f_ryields f_rholds f_rletters f_rstack f_dsteps f_dkind f_dyields f_dholds f_dletters f_dstack f_caps f_versions f_sharing f_pheft f_prow f_holder f_comes f_pcaps f_room f_loose f_reached f_mrow f_minutesOn f_mtired f_here f_there f_statesHere f_statesThere f_listed f_stired f_burdens f_pacesOn f_restedOn f_behindOn f_behindFor f_first f_second f_plans f_tiredOn) (NS tS) sz (fun (r : Int32) (u : Unit) => True) (fun u => wSP cy hs hH hT sH sT v_tape_size v_band_walkers v_band_loads v_band_pieces v_rules_clauses v_reader_end v_reader_at v_reader_length v_reader_letter v_reader_fault v_draft_clauses v_paces_version v_packing_quicker v_packing_loads v_packing_looseCount v_marches_told v_marches_changeMinutes v_marches_marching v_marches_gone v_search_known v_search_countHere v_search_countThere v_search_cost v_search_most v_search_found f_bytes f_knee f_weight f_limps f_bheft f_owner f_food f_miles f_slope f_rsteps f_rkind f_ryields f_rholds f_rletters f_rstack f_dsteps f_dkind f_dyields f_dholds f_dletters f_dstack f_caps f_versions f_sharing f_pheft f_prow f_holder f_comes f_pcaps f_room f_loose f_reached f_mrow f_minutesOn f_mtired f_here f_there f_statesHere f_statesThere f_listed f_stired f_burdens f_pacesOn f_restedOn f_behindOn f_behindFor f_first f_second f_plans f_tiredOn) := by
  refine gMi_in (by decide) (Nat.le_of_ble_eq_true rfl) ?_
  intro p e s m args below meth c A ls Q hx hb hml hts hown hsz hP hK hD hN hAe hA hS hl hret
  subst hsz
  have hl : lv_has ls 4 [(0, .ref (hs 3)), (1, .int i)] := hl
  have hrt := fun (r : Int32)   {H : Heap} {locs : List Loc} {pc : Nat} {ls : Array Slot} => hret r () (H := H) (locs := locs) (pc := pc) (ls := ls) trivial
  clear hret
  refine lv_iconst (v := 0) hx hb dX0_allHeftAt_0 (by decide) ?_
  refine lv_istore_n (lv' := [(2, .int 0), (0, .ref (hs 3)), (1, .int i)]) hx hb dX0_allHeftAt_1 rfl hl (by decide) rfl (fun ls hl => ?_)
  refine lv_iconst (v := 0) hx hb dX0_allHeftAt_2 (by decide) ?_
  refine lv_istore_n (lv' := [(3, .int 0), (2, .int 0), (0, .ref (hs 3)), (1, .int i)]) hx hb dX0_allHeftAt_3 rfl hl (by decide) rfl (fun ls hl => ?_)
  have L4_5 : ∀ (n : Nat) (l_3 : Int32) (l_4 : Int32), (0 ≤ l_4.toInt ∧ l_4.toInt ≤ 9) → 10 - l_4.toInt < n → ∀ (H : Heap) (locs : List Loc) (ls : Array Slot), va_P D vwCl (wSP cy hs hH hT sH sT v_tape_size v_band_walkers v_band_loads v_band_pieces v_rules_clauses v_reader_end v_reader_at v_reader_length v_reader_letter v_reader_fault v_draft_clauses v_paces_version v_packing_quicker v_packing_loads v_packing_looseCount v_marches_told v_marches_changeMinutes v_marches_marching v_marches_gone v_search_known v_search_countHere v_search_countThere v_search_cost v_search_most v_search_found f_bytes f_knee f_weight f_limps f_bheft f_owner f_food f_miles f_slope f_rsteps f_rkind f_ryields f_rholds f_rletters f_rstack f_dsteps f_dkind f_dyields f_dholds f_dletters f_dstack f_caps f_versions f_sharing f_pheft f_prow f_holder f_comes f_pcaps f_room f_loose f_reached f_mrow f_minutesOn f_mtired f_here f_there f_statesHere f_statesThere f_listed f_stired f_burdens f_pacesOn f_restedOn f_behindOn f_behindFor f_first f_second f_plans f_tiredOn) H → va_D A (wSP cy hs hH hT sH sT v_tape_size v_band_walkers v_band_loads v_band_pieces v_rules_clauses v_reader_end v_reader_at v_reader_length v_reader_letter v_reader_fault v_draft_clauses v_paces_version v_packing_quicker v_packing_loads v_packing_looseCount v_marches_told v_marches_changeMinutes v_marches_marching v_marches_gone v_search_known v_search_countHere v_search_countThere v_search_cost v_search_most v_search_found f_bytes f_knee f_weight f_limps f_bheft f_owner f_food f_miles f_slope f_rsteps f_rkind f_ryields f_rholds f_rletters f_rstack f_dsteps f_dkind f_dyields f_dholds f_dletters f_dstack f_caps f_versions f_sharing f_pheft f_prow f_holder f_comes f_pcaps f_room f_loose f_reached f_mrow f_minutesOn f_mtired f_here f_there f_statesHere f_statesThere f_listed f_stired f_burdens f_pacesOn f_restedOn f_behindOn f_behindFor f_first f_second f_plans f_tiredOn) → va_S A s.heap H locs → lv_has ls 4 [(3, .int l_4), (2, .int l_3), (0, .ref (hs 3)), (1, .int i)] → W p l e (gRm 2) s m args below meth c H locs 0 0 Q (F0 m 4 ls []) := by
    intro n
    induction n with
    | zero => intro l_3 l_4 hL4_5_0 hm; exact absurd hm (by omega)
    | succ n ih4_5 =>
      intro l_3 l_4 hL4_5_0 hmL4_5 H locs ls hP hD hS hl
      refine lv_iload_n hx hb dX0_allHeftAt_4 rfl (lv_at hl 0 rfl) ?_
      refine lv_aload_n hx hb dX0_allHeftAt_5 rfl (lv_at hl 2 rfl) ?_
      refine gt_SP_band_loads hx hb hts hown hK hP lwd_681 dX0_allHeftAt_6 ?_
      refine lv_icmp_ge (tgt := 27) hx hb dX0_allHeftAt_9 (by decide) (fun c_6 => ?_) (fun c_6 => ?_)
      · have gc_6 : v_band_loads.toInt ≤ l_4.toInt := i_le (rfl : v_band_loads.toInt = v_band_loads.toInt) (rfl : l_4.toInt = l_4.toInt) c_6
        refine lv_iload_n hx hb dX0_allHeftAt_27 rfl (lv_at hl 1 rfl) ?_
        exact hrt l_3   hP hD hS rfl dX0_allHeftAt_28
      · have gc_6 : l_4.toInt < v_band_loads.toInt := i_nle (rfl : v_band_loads.toInt = v_band_loads.toInt) (rfl : l_4.toInt = l_4.toInt) c_6
        refine lv_iload_n hx hb dX0_allHeftAt_12 rfl (lv_at hl 1 rfl) ?_
        refine lv_aload_n hx hb dX0_allHeftAt_13 rfl (lv_at hl 2 rfl) ?_
        refine lv_iload_n hx hb dX0_allHeftAt_14 rfl (lv_at hl 0 rfl) ?_
        refine lv_iload_n hx hb dX0_allHeftAt_15 rfl (lv_at hl 3 rfl) ?_
        refine xi hD hS hA (xV (As := [.int l_4, .int i]) (rest := [.int l_3]) hx hb hml hown hts hK hP hD hS hA NS_ok hN hAe hl.1 ⟨Nat.le_refl _, Nat.le_refl _⟩ 3 rfl rfl rfl (c_X0_heftAt l D cy hs hH hT sH sT v_tape_size v_band_walkers v_band_loads v_band_pieces v_rules_clauses v_reader_end v_reader_at v_reader_length v_reader_letter v_reader_fault v_draft_clauses v_paces_version v_packing_quicker v_packing_loads v_packing_looseCount v_marches_told v_marches_changeMinutes v_marches_marching v_marches_gone v_search_known v_search_countHere v_search_countThere v_search_cost v_search_most v_search_found f_bytes f_knee f_weight f_limps f_bheft f_owner f_food f_miles f_slope f_rsteps f_rkind f_ryields f_rholds f_rletters f_rstack f_dsteps f_dkind f_dyields f_dholds f_dletters f_dstack f_caps f_versions f_sharing f_pheft f_prow f_holder f_comes f_pcaps f_room f_loose f_reached f_mrow f_minutesOn f_mtired f_here f_there f_statesHere f_statesThere f_listed f_stired f_burdens f_pacesOn f_restedOn f_behindOn f_behindFor f_first f_second f_plans f_tiredOn tS H.size l_4 i hr_bheft hr_food (by omega) (by omega)) (gi_V lwd_844 lwd_692 lwd_693 lwd_18 lwd_694) ⟨rfl, hd_X0_heftAt⟩ ⟨Nat.le_of_ble_eq_true rfl, Nat.le_of_ble_eq_true rfl⟩ rfl (Nat.le_of_ble_eq_true rfl) dX0_allHeftAt_16) (fun r_8 u_7 H locs hw hP hD hS => ?_)
        try dsimp only at hw hP hD
        have p_9 := hw
        clear hw
        refine lv_iadd hx hb dX0_allHeftAt_19 ?_
        refine lv_topi (fun n_10 en_10 => ?_)
        refine lv_istore_n (lv' := [(2, .int n_10), (3, .int l_4), (0, .ref (hs 3)), (1, .int i)]) hx hb dX0_allHeftAt_20 rfl hl (by decide) rfl (fun ls hl => ?_)
        obtain ⟨n_11, en_11⟩ : ∃ y : Int32, y = l_4 + 1 := ⟨_, rfl⟩
        have tn_11 : n_11.toInt = l_4.toInt + 1 := i_add en_11 (rfl : l_4.toInt = l_4.toInt) (by decide : (1 : Int32).toInt = 1) (by omega) (by omega)
        refine lv_iinc (v := n_11) (lv' := [(3, .int n_11), (2, .int n_10), (0, .ref (hs 3)), (1, .int i)]) hx hb dX0_allHeftAt_21 hl (k := 1) rfl (by rw [en_11]; rfl) (by decide) rfl (fun ls hl => ?_)
        refine lv_goto (tgt := 4) hx hb dX0_allHeftAt_24 (by decide) ?_
        exact ih4_5 n_10 n_11 (by omega) (by omega) _ _ _ hP hD hS (lv_sub hl [0, 1, 2, 3] rfl)
  have k_12 : (0 : Int32).toInt = 0 := by decide
  have k_13 : (0 : Int32).toInt = 0 := by decide
  exact L4_5 8589934592 0 0 (by omega) (by omega) _ _ _ hP hD hS (lv_sub hl [0, 1, 2, 3] rfl)
set_option maxHeartbeats 16000000 in
set_option maxRecDepth 100000 in
theorem c_X0_minutes (l : Launch) (D : va_G) (cy : Nat → ClassId) (hs : Nat → Nat) (hH hT sH sT : Nat) (v_tape_size v_band_walkers v_band_loads v_band_pieces v_rules_clauses v_reader_end v_reader_at v_reader_length v_reader_letter v_reader_fault v_draft_clauses v_paces_version v_packing_quicker v_packing_loads v_packing_looseCount v_marches_told v_marches_changeMinutes v_marches_marching v_marches_gone v_search_known v_search_countHere v_search_countThere v_search_cost v_search_most : Int32) (v_search_found : Int64) (f_bytes f_knee f_weight f_limps f_bheft f_owner f_food f_miles f_slope f_rsteps f_rkind f_ryields f_rholds f_rletters f_rstack f_dsteps f_dkind f_dyields f_dholds f_dletters f_dstack f_caps f_versions f_sharing f_pheft f_prow f_holder f_comes f_pcaps f_room f_loose f_reached f_mrow f_minutesOn f_mtired : Nat → Int32) (f_here f_there : Nat → Int64) (f_statesHere f_statesThere f_listed f_stired f_burdens f_pacesOn f_restedOn f_behindOn f_behindFor f_first f_second : Nat → Int32) (f_plans f_tiredOn : Nat → Nat → Int32) (tS : Nat) (sz : Nat) (i : Int32) (q : Int32) (hr_miles : rg (0) 20 f_miles) (ha_i : 0 ≤ i.toInt ∧ i.toInt ≤ 9) : gMi l yX0_minutes cX0_minutes 3 .int 1 [.ref (hs 3), .int i, .int q] D cy (wSP cy hs hH hT sH sT v_tape_size v_band_walkers v_band_loads v_band_pieces v_rules_clauses v_reader_end v_reader_at v_reader_length v_reader_letter v_reader_fault v_draft_clauses v_paces_version v_packing_quicker v_packing_loads v_packing_looseCount v_marches_told v_marches_changeMinutes v_marches_marching v_marches_gone v_search_known v_search_countHere v_search_countThere v_search_cost v_search_most v_search_found f_bytes f_knee f_weight f_limps f_bheft f_owner f_food f_miles f_slope f_rsteps f_rkind f_ryields f_rholds f_rletters f_rstack f_dsteps f_dkind f_dyields f_dholds f_dletters f_dstack f_caps f_versions f_sharing f_pheft f_prow f_holder f_comes f_pcaps f_room f_loose f_reached f_mrow f_minutesOn f_mtired f_here f_there f_statesHere f_statesThere f_listed f_stired f_burdens f_pacesOn f_restedOn f_behindOn f_behindFor f_first f_second f_plans f_tiredOn) (NS tS) sz (fun (r : Int32) (u : Unit) => True) (fun u => wSP cy hs hH hT sH sT v_tape_size v_band_walkers v_band_loads v_band_pieces v_rules_clauses v_reader_end v_reader_at v_reader_length v_reader_letter v_reader_fault v_draft_clauses v_paces_version v_packing_quicker v_packing_loads v_packing_looseCount v_marches_told v_marches_changeMinutes v_marches_marching v_marches_gone v_search_known v_search_countHere v_search_countThere v_search_cost v_search_most v_search_found f_bytes f_knee f_weight f_limps f_bheft f_owner f_food f_miles f_slope f_rsteps f_rkind f_ryields f_rholds f_rletters f_rstack f_dsteps f_dkind f_dyields f_dholds f_dletters f_dstack f_caps f_versions f_sharing f_pheft f_prow f_holder f_comes f_pcaps f_room f_loose f_reached f_mrow f_minutesOn f_mtired f_here f_there f_statesHere f_statesThere f_listed f_stired f_burdens f_pacesOn f_restedOn f_behindOn f_behindFor f_first f_second f_plans f_tiredOn) := by
  refine gMi_in (by decide) (Nat.le_of_ble_eq_true rfl) ?_
  intro p e s m args below meth c A ls Q hx hb hml hts hown hsz hP hK hD hN hAe hA hS hl hret
  subst hsz
  have hl : lv_has ls 3 [(0, .ref (hs 3)), (1, .int i), (2, .int q)] := hl
  have hrt := fun (r : Int32)   {H : Heap} {locs : List Loc} {pc : Nat} {ls : Array Slot} => hret r () (H := H) (locs := locs) (pc := pc) (ls := ls) trivial
  clear hret
  refine lv_iload_n hx hb dX0_minutes_0 rfl (lv_at hl 2 rfl) ?_
  refine lv_iconst (v := 1) hx hb dX0_minutes_1 (by decide) ?_
  refine lv_icmp_ge (tgt := 10) hx hb dX0_minutes_2 (by decide) (fun c_1 => ?_) (fun c_1 => ?_)
  · have gc_1 : 1 ≤ q.toInt := i_le (by decide : (1 : Int32).toInt = 1) (rfl : q.toInt = q.toInt) c_1
    refine lv_sipush (v := 600) hx hb dX0_minutes_10 (by decide) ?_
    refine lv_aload_n hx hb dX0_minutes_13 rfl (lv_at hl 0 rfl) ?_
    refine gt_SP_band_miles hx hb hts hown hK hP lwd_63 dX0_minutes_14 ?_
    refine lv_iload_n hx hb dX0_minutes_17 rfl (lv_at hl 1 rfl) ?_
    refine al_miles hx hb hK hP hr_miles (i_in (rfl : i.toInt = i.toInt) (by omega) (by omega)) dX0_minutes_18 (fun n_2 en_2 bn_2 => ?_)
    refine lv_imul hx hb dX0_minutes_19 ?_
    refine lv_topi (fun n_3 en_3 => ?_)
    have tn_3 : n_3.toInt = 600 * n_2.toInt := i_mul en_3 (by decide : (600 : Int32).toInt = 600) (rfl : n_2.toInt = n_2.toInt) (by omega) (by omega)
    refine lv_iload_n hx hb dX0_minutes_20 rfl (lv_at hl 2 rfl) ?_
    refine lv_iadd hx hb dX0_minutes_21 ?_
    refine lv_topi (fun n_4 en_4 => ?_)
    refine lv_iconst (v := 1) hx hb dX0_minutes_22 (by decide) ?_
    refine lv_isub hx hb dX0_minutes_23 ?_
    refine lv_topi (fun n_5 en_5 => ?_)
    refine lv_iload_n hx hb dX0_minutes_24 rfl (lv_at hl 2 rfl) ?_
    refine lv_idiv hx hb dX0_minutes_25 (i_nz (rfl : q.toInt = q.toInt) (by omega)) ?_
    refine lv_topi (fun n_6 en_6 => ?_)
    exact hrt n_6   hP hD hS rfl dX0_minutes_26
  · have gc_1 : q.toInt < 1 := i_nle (by decide : (1 : Int32).toInt = 1) (rfl : q.toInt = q.toInt) c_1
    refine lv_ldc hx hb hown (hts _ lwd_638) dX0_minutes_5 ?_
    refine lv_goto (tgt := 26) hx hb dX0_minutes_7 (by decide) ?_
    have k_7 : (1000000000 : Int32).toInt = 1000000000 := by decide
    exact hrt 1000000000   hP hD hS rfl dX0_minutes_26
set_option maxHeartbeats 16000000 in
set_option maxRecDepth 100000 in
theorem c_X8_number (l : Launch) (D : va_G) (cy : Nat → ClassId) (hs : Nat → Nat) (hH hT sH sT : Nat) (v_tape_size v_band_walkers v_band_loads v_band_pieces v_rules_clauses v_reader_end v_reader_at v_reader_length v_reader_letter v_reader_fault v_draft_clauses v_paces_version v_packing_quicker v_packing_loads v_packing_looseCount v_marches_told v_marches_changeMinutes v_marches_marching v_marches_gone v_search_known v_search_countHere v_search_countThere v_search_cost v_search_most : Int32) (v_search_found : Int64) (f_bytes f_knee f_weight f_limps f_bheft f_owner f_food f_miles f_slope f_rsteps f_rkind f_ryields f_rholds f_rletters f_rstack f_dsteps f_dkind f_dyields f_dholds f_dletters f_dstack f_caps f_versions f_sharing f_pheft f_prow f_holder f_comes f_pcaps f_room f_loose f_reached f_mrow f_minutesOn f_mtired : Nat → Int32) (f_here f_there : Nat → Int64) (f_statesHere f_statesThere f_listed f_stired f_burdens f_pacesOn f_restedOn f_behindOn f_behindFor f_first f_second : Nat → Int32) (f_plans f_tiredOn : Nat → Nat → Int32) (tS : Nat) (sz : Nat) (i : Int32) (hr_bytes : rg (0) 255 f_bytes) (ha_i : 0 ≤ i.toInt ∧ i.toInt ≤ 9) : gMi l yX8_number cX8_number 3 .int 1 [.ref (hs 1), .int i] D cy (wSP cy hs hH hT sH sT v_tape_size v_band_walkers v_band_loads v_band_pieces v_rules_clauses v_reader_end v_reader_at v_reader_length v_reader_letter v_reader_fault v_draft_clauses v_paces_version v_packing_quicker v_packing_loads v_packing_looseCount v_marches_told v_marches_changeMinutes v_marches_marching v_marches_gone v_search_known v_search_countHere v_search_countThere v_search_cost v_search_most v_search_found f_bytes f_knee f_weight f_limps f_bheft f_owner f_food f_miles f_slope f_rsteps f_rkind f_ryields f_rholds f_rletters f_rstack f_dsteps f_dkind f_dyields f_dholds f_dletters f_dstack f_caps f_versions f_sharing f_pheft f_prow f_holder f_comes f_pcaps f_room f_loose f_reached f_mrow f_minutesOn f_mtired f_here f_there f_statesHere f_statesThere f_listed f_stired f_burdens f_pacesOn f_restedOn f_behindOn f_behindFor f_first f_second f_plans f_tiredOn) (NS tS) sz (fun (r : Int32) (u : Unit) => True) (fun u => wSP cy hs hH hT sH sT v_tape_size v_band_walkers v_band_loads v_band_pieces v_rules_clauses v_reader_end v_reader_at v_reader_length v_reader_letter v_reader_fault v_draft_clauses v_paces_version v_packing_quicker v_packing_loads v_packing_looseCount v_marches_told v_marches_changeMinutes v_marches_marching v_marches_gone v_search_known v_search_countHere v_search_countThere v_search_cost v_search_most v_search_found f_bytes f_knee f_weight f_limps f_bheft f_owner f_food f_miles f_slope f_rsteps f_rkind f_ryields f_rholds f_rletters f_rstack f_dsteps f_dkind f_dyields f_dholds f_dletters f_dstack f_caps f_versions f_sharing f_pheft f_prow f_holder f_comes f_pcaps f_room f_loose f_reached f_mrow f_minutesOn f_mtired f_here f_there f_statesHere f_statesThere f_listed f_stired f_burdens f_pacesOn f_restedOn f_behindOn f_behindFor f_first f_second f_plans f_tiredOn) := by
  refine gMi_in (by decide) (Nat.le_of_ble_eq_true rfl) ?_
  intro p e s m args below meth c A ls Q hx hb hml hts hown hsz hP hK hD hN hAe hA hS hl hret
  subst hsz
  have hl : lv_has ls 3 [(0, .ref (hs 1)), (1, .int i)] := hl
  have hrt := fun (r : Int32)   {H : Heap} {locs : List Loc} {pc : Nat} {ls : Array Slot} => hret r () (H := H) (locs := locs) (pc := pc) (ls := ls) trivial
  clear hret
  refine lv_iconst (v := 4) hx hb dX8_number_0 (by decide) ?_
  refine lv_iload_n hx hb dX8_number_1 rfl (lv_at hl 1 rfl) ?_
  refine lv_imul hx hb dX8_number_2 ?_
  refine lv_topi (fun n_1 en_1 => ?_)
  have tn_1 : n_1.toInt = 4 * i.toInt := i_mul en_1 (by decide : (4 : Int32).toInt = 4) (rfl : i.toInt = i.toInt) (by omega) (by omega)
  refine lv_istore_n (lv' := [(2, .int n_1), (0, .ref (hs 1)), (1, .int i)]) hx hb dX8_number_3 rfl hl (by decide) rfl (fun ls hl => ?_)
  refine lv_iload_n hx hb dX8_number_4 rfl (lv_at hl 0 rfl) ?_
  refine lv_if_lt (tgt := 17) hx hb dX8_number_5 (by decide) (fun c_2 => ?_) (fun c_2 => ?_)
  · have gc_2 : 4 * i.toInt < 0 := i_lt tn_1 (by decide : (0 : Int32).toInt = 0) c_2
    exact absurd gc_2 (by omega)
  · have gc_2 : 0 ≤ 4 * i.toInt := i_nlt tn_1 (by decide : (0 : Int32).toInt = 0) c_2
    refine lv_iload_n hx hb dX8_number_8 rfl (lv_at hl 0 rfl) ?_
    refine lv_iconst (v := 3) hx hb dX8_number_9 (by decide) ?_
    refine lv_iadd hx hb dX8_number_10 ?_
    refine lv_topi (fun n_3 en_3 => ?_)
    have tn_3 : n_3.toInt = (4 * i.toInt) + 3 := i_add en_3 tn_1 (by decide : (3 : Int32).toInt = 3) (by omega) (by omega)
    refine lv_sipush (v := 220) hx hb dX8_number_11 (by decide) ?_
    refine lv_icmp_lt (tgt := 19) hx hb dX8_number_14 (by decide) (fun c_4 => ?_) (fun c_4 => ?_)
    · have gc_4 : (4 * i.toInt) + 3 < 220 := i_lt tn_3 (by decide : (220 : Int32).toInt = 220) c_4
      refine lv_aload_n hx hb dX8_number_19 rfl (lv_at hl 1 rfl) ?_
      refine gt_SP_tape_bytes hx hb hts hown hK hP lwd_52 dX8_number_20 ?_
      refine lv_iload_n hx hb dX8_number_23 rfl (lv_at hl 0 rfl) ?_
      refine al_bytes hx hb hK hP hr_bytes (i_in tn_1 (by omega) (by omega)) dX8_number_24 (fun n_5 en_5 bn_5 => ?_)
      refine lv_bipush (v := 24) hx hb dX8_number_25 (by decide) ?_
      refine lv_ishl hx hb dX8_number_27 ?_
      refine lv_topi (fun n_6 en_6 => ?_)
      refine lv_aload_n hx hb dX8_number_28 rfl (lv_at hl 1 rfl) ?_
      refine gt_SP_tape_bytes hx hb hts hown hK hP lwd_52 dX8_number_29 ?_
      refine lv_iload_n hx hb dX8_number_32 rfl (lv_at hl 0 rfl) ?_
      refine lv_iconst (v := 1) hx hb dX8_number_33 (by decide) ?_
      refine lv_iadd hx hb dX8_number_34 ?_
      refine lv_topi (fun n_7 en_7 => ?_)
      have tn_7 : n_7.toInt = (4 * i.toInt) + 1 := i_add en_7 tn_1 (by decide : (1 : Int32).toInt = 1) (by omega) (by omega)
      refine al_bytes hx hb hK hP hr_bytes (i_in tn_7 (by omega) (by omega)) dX8_number_35 (fun n_8 en_8 bn_8 => ?_)
      refine lv_bipush (v := 16) hx hb dX8_number_36 (by decide) ?_
      refine lv_ishl hx hb dX8_number_38 ?_
      refine lv_topi (fun n_9 en_9 => ?_)
      refine lv_ior hx hb dX8_number_39 ?_
      refine lv_topi (fun n_10 en_10 => ?_)
      refine lv_aload_n hx hb dX8_number_40 rfl (lv_at hl 1 rfl) ?_
      refine gt_SP_tape_bytes hx hb hts hown hK hP lwd_52 dX8_number_41 ?_
      refine lv_iload_n hx hb dX8_number_44 rfl (lv_at hl 0 rfl) ?_
      refine lv_iconst (v := 2) hx hb dX8_number_45 (by decide) ?_
      refine lv_iadd hx hb dX8_number_46 ?_
      refine lv_topi (fun n_11 en_11 => ?_)
      have tn_11 : n_11.toInt = (4 * i.toInt) + 2 := i_add en_11 tn_1 (by decide : (2 : Int32).toInt = 2) (by omega) (by omega)
      refine al_bytes hx hb hK hP hr_bytes (i_in tn_11 (by omega) (by omega)) dX8_number_47 (fun n_12 en_12 bn_12 => ?_)
      refine lv_bipush (v := 8) hx hb dX8_number_48 (by decide) ?_
      refine lv_ishl hx hb dX8_number_50 ?_
      refine lv_topi (fun n_13 en_13 => ?_)
      refine lv_ior hx hb dX8_number_51 ?_
      refine lv_topi (fun n_14 en_14 => ?_)
      refine lv_aload_n hx hb dX8_number_52 rfl (lv_at hl 1 rfl) ?_
      refine gt_SP_tape_bytes hx hb hts hown hK hP lwd_52 dX8_number_53 ?_
      refine lv_iload_n hx hb dX8_number_56 rfl (lv_at hl 0 rfl) ?_
      refine lv_iconst (v := 3) hx hb dX8_number_57 (by decide) ?_
      refine lv_iadd hx hb dX8_number_58 ?_
      refine lv_topi (fun n_15 en_15 => ?_)
      have tn_15 : n_15.toInt = (4 * i.toInt) + 3 := i_add en_15 tn_1 (by decide : (3 : Int32).toInt = 3) (by omega) (by omega)
      refine al_bytes hx hb hK hP hr_bytes (i_in tn_15 (by omega) (by omega)) dX8_number_59 (fun n_16 en_16 bn_16 => ?_)
      refine lv_ior hx hb dX8_number_60 ?_
      refine lv_topi (fun n_17 en_17 => ?_)
      exact hrt n_17   hP hD hS rfl dX8_number_61
    · have gc_4 : 220 ≤ (4 * i.toInt) + 3 := i_nlt tn_3 (by decide : (220 : Int32).toInt = 220) c_4
      exact absurd gc_4 (by omega)
set_option maxHeartbeats 16000000 in
set_option maxRecDepth 100000 in
theorem c_X8_append (l : Launch) (D : va_G) (cy : Nat → ClassId) (hs : Nat → Nat) (hH hT sH sT : Nat) (v_tape_size v_band_walkers v_band_loads v_band_pieces v_rules_clauses v_reader_end v_reader_at v_reader_length v_reader_letter v_reader_fault v_draft_clauses v_paces_version v_packing_quicker v_packing_loads v_packing_looseCount v_marches_told v_marches_changeMinutes v_marches_marching v_marches_gone v_search_known v_search_countHere v_search_countThere v_search_cost v_search_most : Int32) (v_search_found : Int64) (f_bytes f_knee f_weight f_limps f_bheft f_owner f_food f_miles f_slope f_rsteps f_rkind f_ryields f_rholds f_rletters f_rstack f_dsteps f_dkind f_dyields f_dholds f_dletters f_dstack f_caps f_versions f_sharing f_pheft f_prow f_holder f_comes f_pcaps f_room f_loose f_reached f_mrow f_minutesOn f_mtired : Nat → Int32) (f_here f_there : Nat → Int64) (f_statesHere f_statesThere f_listed f_stired f_burdens f_pacesOn f_restedOn f_behindOn f_behindFor f_first f_second : Nat → Int32) (f_plans f_tiredOn : Nat → Nat → Int32) (tS : Nat) (sz : Nat) (x : Int32) (hb_v_tape_size : 0 ≤ v_tape_size.toInt ∧ v_tape_size.toInt ≤ 220) (hr_bytes : rg (0) 255 f_bytes) (h1 : v_tape_size.toInt ≤ 216) : gMv l yX8_append cX8_append 3 1 [.ref (hs 1), .int x] D cy (wSP cy hs hH hT sH sT v_tape_size v_band_walkers v_band_loads v_band_pieces v_rules_clauses v_reader_end v_reader_at v_reader_length v_reader_letter v_reader_fault v_draft_clauses v_paces_version v_packing_quicker v_packing_loads v_packing_looseCount v_marches_told v_marches_changeMinutes v_marches_marching v_marches_gone v_search_known v_search_countHere v_search_countThere v_search_cost v_search_most v_search_found f_bytes f_knee f_weight f_limps f_bheft f_owner f_food f_miles f_slope f_rsteps f_rkind f_ryields f_rholds f_rletters f_rstack f_dsteps f_dkind f_dyields f_dholds f_dletters f_dstack f_caps f_versions f_sharing f_pheft f_prow f_holder f_comes f_pcaps f_room f_loose f_reached f_mrow f_minutesOn f_mtired f_here f_there f_statesHere f_statesThere f_listed f_stired f_burdens f_pacesOn f_restedOn f_behindOn f_behindFor f_first f_second f_plans f_tiredOn) (NS tS) sz (fun (u : Int32 × (Nat → Int32)) => ((u.1).toInt = v_tape_size.toInt + 4) ∧ (0 ≤ (u.1).toInt ∧ (u.1).toInt ≤ 220) ∧ (rg (0) 255 (u.2))) (fun u => wSP cy hs hH hT sH sT (u.1) v_band_walkers v_band_loads v_band_pieces v_rules_clauses v_reader_end v_reader_at v_reader_length v_reader_letter v_reader_fault v_draft_clauses v_paces_version v_packing_quicker v_packing_loads v_packing_looseCount v_marches_told v_marches_changeMinutes v_marches_marching v_marches_gone v_search_known v_search_countHere v_search_countThere v_search_cost v_search_most v_search_found (u.2) f_knee f_weight f_limps f_bheft f_owner f_food f_miles f_slope f_rsteps f_rkind f_ryields f_rholds f_rletters f_rstack f_dsteps f_dkind f_dyields f_dholds f_dletters f_dstack f_caps f_versions f_sharing f_pheft f_prow f_holder f_comes f_pcaps f_room f_loose f_reached f_mrow f_minutesOn f_mtired f_here f_there f_statesHere f_statesThere f_listed f_stired f_burdens f_pacesOn f_restedOn f_behindOn f_behindFor f_first f_second f_plans f_tiredOn) := by
  refine gMv_in (by decide) (Nat.le_of_ble_eq_true rfl) ?_
  intro p e s m args below meth c A ls Q hx hb hml hts hown hsz hP hK hD hN hAe hA hS hl hret
  subst hsz
  have hl : lv_has ls 3 [(0, .ref (hs 1)), (1, .int x)] := hl
  have hrt := fun (v_tape_size' : Int32) (f_bytes' : Nat → Int32) (hp : (v_tape_size'.toInt = v_tape_size.toInt + 4) ∧ (0 ≤ v_tape_size'.toInt ∧ v_tape_size'.toInt ≤ 220) ∧ (rg (0) 255 f_bytes')) {H : Heap} {locs : List Loc} {pc : Nat} {ls : Array Slot} => hret (v_tape_size', f_bytes') (H := H) (locs := locs) (pc := pc) (ls := ls) hp
  clear hret
  refine lv_bipush (v := 24) hx hb dX8_append_0 (by decide) ?_
  refine lv_istore_n (lv' := [(2, .int 24), (0, .ref (hs 1)), (1, .int x)]) hx hb dX8_append_2 rfl hl (by decide) rfl (fun ls hl => ?_)
  refine lv_iload_n hx hb dX8_append_3 rfl (lv_at hl 0 rfl) ?_
  refine lv_if_lt (tgt := 49) hx hb dX8_append_4 (by decide) (fun c_1 => ?_) (fun c_1 => ?_)
  · exact absurd c_1 (by decide)
  · skip
    refine lv_aload_n hx hb dX8_append_7 rfl (lv_at hl 1 rfl) ?_
    refine gt_SP_tape_size hx hb hts hown hK hP lwd_293 dX8_append_8 ?_
    refine lv_sipush (v := 220) hx hb dX8_append_11 (by decide) ?_
    refine lv_icmp_ge (tgt := 49) hx hb dX8_append_14 (by decide) (fun c_2 => ?_) (fun c_2 => ?_)
    · have gc_2 : 220 ≤ v_tape_size.toInt := i_le (by decide : (220 : Int32).toInt = 220) (rfl : v_tape_size.toInt = v_tape_size.toInt) c_2
      exact hrt v_tape_size f_bytes ⟨(by omega), (by omega), hr_bytes⟩ hP hD hS dX8_append_49
    · have gc_2 : v_tape_size.toInt < 220 := i_nle (by decide : (220 : Int32).toInt = 220) (rfl : v_tape_size.toInt = v_tape_size.toInt) c_2
      refine lv_aload_n hx hb dX8_append_17 rfl (lv_at hl 1 rfl) ?_
      refine gt_SP_tape_bytes hx hb hts hown hK hP lwd_52 dX8_append_18 ?_
      refine lv_aload_n hx hb dX8_append_21 rfl (lv_at hl 1 rfl) ?_
      refine gt_SP_tape_size hx hb hts hown hK hP lwd_293 dX8_append_22 ?_
      refine lv_iload_n hx hb dX8_append_25 rfl (lv_at hl 2 rfl) ?_
      refine lv_iload_n hx hb dX8_append_26 rfl (lv_at hl 0 rfl) ?_
      obtain ⟨n_3, en_3⟩ : ∃ y : Int32, y = (x.toUInt32 >>> ((24 : Int32).toUInt32 &&& Int32.toUInt32 31)).toInt32 := ⟨_, rfl⟩
      refine lv_iushr (v := n_3) hx hb dX8_append_27 en_3.symm ?_
      refine lv_sipush (v := 255) hx hb dX8_append_28 (by decide) ?_
      refine lv_iand hx hb dX8_append_31 ?_
      refine lv_topi (fun n_4 en_4 => ?_)
      have bn_4 : 0 ≤ n_4.toInt ∧ n_4.toInt ≤ 255 := i_msk 8 en_4 (by decide) (by decide) (by decide)
      refine as_bytes (x := n_4) hx hb hK hP hD hS hr_bytes (i_in (rfl : v_tape_size.toInt = v_tape_size.toInt) (by omega) (by omega)) (by omega) dX8_append_32 (fun f_5 ef_5 rf_5 H locs hP hD hS => ?_)
      refine lv_aload_n hx hb dX8_append_33 rfl (lv_at hl 1 rfl) ?_
      refine lv_dup hx hb dX8_append_34 rfl ?_
      refine gt_SP_tape_size hx hb hts hown hK hP lwd_293 dX8_append_35 ?_
      refine lv_iconst (v := 1) hx hb dX8_append_38 (by decide) ?_
      refine lv_iadd hx hb dX8_append_39 ?_
      refine lv_topi (fun n_6 en_6 => ?_)
      have tn_6 : n_6.toInt = v_tape_size.toInt + 1 := i_add en_6 (rfl : v_tape_size.toInt = v_tape_size.toInt) (by decide : (1 : Int32).toInt = 1) (by omega) (by omega)
      refine pt_SP_tape_size (x := n_6) hx hb hts hown hK hP hD hS lwd_293 dX8_append_40 (fun H locs hP hD hS => ?_)
      refine lv_iinc (v := 16) (lv' := [(2, .int 16), (0, .ref (hs 1)), (1, .int x)]) hx hb dX8_append_43 hl (k := 0) rfl (by decide) (by decide) rfl (fun ls hl => ?_)
      refine lv_goto (tgt := 3) hx hb dX8_append_46 (by decide) ?_
      refine lv_iload_n hx hb dX8_append_3 rfl (lv_at hl 0 rfl) ?_
      refine lv_if_lt (tgt := 49) hx hb dX8_append_4 (by decide) (fun c_7 => ?_) (fun c_7 => ?_)
      · exact absurd c_7 (by decide)
      · skip
        refine lv_aload_n hx hb dX8_append_7 rfl (lv_at hl 1 rfl) ?_
        refine gt_SP_tape_size hx hb hts hown hK hP lwd_293 dX8_append_8 ?_
        refine lv_sipush (v := 220) hx hb dX8_append_11 (by decide) ?_
        refine lv_icmp_ge (tgt := 49) hx hb dX8_append_14 (by decide) (fun c_8 => ?_) (fun c_8 => ?_)
        · have gc_8 : 220 ≤ v_tape_size.toInt + 1 := i_le (by decide : (220 : Int32).toInt = 220) tn_6 c_8
          exact hrt n_6 f_5 ⟨(by omega), (by omega), rf_5⟩ hP hD hS dX8_append_49
        · have gc_8 : v_tape_size.toInt + 1 < 220 := i_nle (by decide : (220 : Int32).toInt = 220) tn_6 c_8
          refine lv_aload_n hx hb dX8_append_17 rfl (lv_at hl 1 rfl) ?_
          refine gt_SP_tape_bytes hx hb hts hown hK hP lwd_52 dX8_append_18 ?_
          refine lv_aload_n hx hb dX8_append_21 rfl (lv_at hl 1 rfl) ?_
          refine gt_SP_tape_size hx hb hts hown hK hP lwd_293 dX8_append_22 ?_
          refine lv_iload_n hx hb dX8_append_25 rfl (lv_at hl 2 rfl) ?_
          refine lv_iload_n hx hb dX8_append_26 rfl (lv_at hl 0 rfl) ?_
          obtain ⟨n_9, en_9⟩ : ∃ y : Int32, y = (x.toUInt32 >>> ((16 : Int32).toUInt32 &&& Int32.toUInt32 31)).toInt32 := ⟨_, rfl⟩
          refine lv_iushr (v := n_9) hx hb dX8_append_27 en_9.symm ?_
          refine lv_sipush (v := 255) hx hb dX8_append_28 (by decide) ?_
          refine lv_iand hx hb dX8_append_31 ?_
          refine lv_topi (fun n_10 en_10 => ?_)
          have bn_10 : 0 ≤ n_10.toInt ∧ n_10.toInt ≤ 255 := i_msk 8 en_10 (by decide) (by decide) (by decide)
          refine as_bytes (x := n_10) hx hb hK hP hD hS rf_5 (i_in tn_6 (by omega) (by omega)) (by omega) dX8_append_32 (fun f_11 ef_11 rf_11 H locs hP hD hS => ?_)
          refine lv_aload_n hx hb dX8_append_33 rfl (lv_at hl 1 rfl) ?_
          refine lv_dup hx hb dX8_append_34 rfl ?_
          refine gt_SP_tape_size hx hb hts hown hK hP lwd_293 dX8_append_35 ?_
          refine lv_iconst (v := 1) hx hb dX8_append_38 (by decide) ?_
          refine lv_iadd hx hb dX8_append_39 ?_
          refine lv_topi (fun n_12 en_12 => ?_)
          have tn_12 : n_12.toInt = (v_tape_size.toInt + 1) + 1 := i_add en_12 tn_6 (by decide : (1 : Int32).toInt = 1) (by omega) (by omega)
          refine pt_SP_tape_size (x := n_12) hx hb hts hown hK hP hD hS lwd_293 dX8_append_40 (fun H locs hP hD hS => ?_)
          refine lv_iinc (v := 8) (lv' := [(2, .int 8), (0, .ref (hs 1)), (1, .int x)]) hx hb dX8_append_43 hl (k := 0) rfl (by decide) (by decide) rfl (fun ls hl => ?_)
          refine lv_goto (tgt := 3) hx hb dX8_append_46 (by decide) ?_
          refine lv_iload_n hx hb dX8_append_3 rfl (lv_at hl 0 rfl) ?_
          refine lv_if_lt (tgt := 49) hx hb dX8_append_4 (by decide) (fun c_13 => ?_) (fun c_13 => ?_)
          · exact absurd c_13 (by decide)
          · skip
            refine lv_aload_n hx hb dX8_append_7 rfl (lv_at hl 1 rfl) ?_
            refine gt_SP_tape_size hx hb hts hown hK hP lwd_293 dX8_append_8 ?_
            refine lv_sipush (v := 220) hx hb dX8_append_11 (by decide) ?_
            refine lv_icmp_ge (tgt := 49) hx hb dX8_append_14 (by decide) (fun c_14 => ?_) (fun c_14 => ?_)
            · have gc_14 : 220 ≤ (v_tape_size.toInt + 1) + 1 := i_le (by decide : (220 : Int32).toInt = 220) tn_12 c_14
              exact hrt n_12 f_11 ⟨(by omega), (by omega), rf_11⟩ hP hD hS dX8_append_49
            · have gc_14 : (v_tape_size.toInt + 1) + 1 < 220 := i_nle (by decide : (220 : Int32).toInt = 220) tn_12 c_14
              refine lv_aload_n hx hb dX8_append_17 rfl (lv_at hl 1 rfl) ?_
              refine gt_SP_tape_bytes hx hb hts hown hK hP lwd_52 dX8_append_18 ?_
              refine lv_aload_n hx hb dX8_append_21 rfl (lv_at hl 1 rfl) ?_
              refine gt_SP_tape_size hx hb hts hown hK hP lwd_293 dX8_append_22 ?_
              refine lv_iload_n hx hb dX8_append_25 rfl (lv_at hl 2 rfl) ?_
              refine lv_iload_n hx hb dX8_append_26 rfl (lv_at hl 0 rfl) ?_
              obtain ⟨n_15, en_15⟩ : ∃ y : Int32, y = (x.toUInt32 >>> ((8 : Int32).toUInt32 &&& Int32.toUInt32 31)).toInt32 := ⟨_, rfl⟩
              refine lv_iushr (v := n_15) hx hb dX8_append_27 en_15.symm ?_
              refine lv_sipush (v := 255) hx hb dX8_append_28 (by decide) ?_
              refine lv_iand hx hb dX8_append_31 ?_
              refine lv_topi (fun n_16 en_16 => ?_)
              have bn_16 : 0 ≤ n_16.toInt ∧ n_16.toInt ≤ 255 := i_msk 8 en_16 (by decide) (by decide) (by decide)
              refine as_bytes (x := n_16) hx hb hK hP hD hS rf_11 (i_in tn_12 (by omega) (by omega)) (by omega) dX8_append_32 (fun f_17 ef_17 rf_17 H locs hP hD hS => ?_)
              refine lv_aload_n hx hb dX8_append_33 rfl (lv_at hl 1 rfl) ?_
              refine lv_dup hx hb dX8_append_34 rfl ?_
              refine gt_SP_tape_size hx hb hts hown hK hP lwd_293 dX8_append_35 ?_
              refine lv_iconst (v := 1) hx hb dX8_append_38 (by decide) ?_
              refine lv_iadd hx hb dX8_append_39 ?_
              refine lv_topi (fun n_18 en_18 => ?_)
              have tn_18 : n_18.toInt = ((v_tape_size.toInt + 1) + 1) + 1 := i_add en_18 tn_12 (by decide : (1 : Int32).toInt = 1) (by omega) (by omega)
              refine pt_SP_tape_size (x := n_18) hx hb hts hown hK hP hD hS lwd_293 dX8_append_40 (fun H locs hP hD hS => ?_)
              refine lv_iinc (v := 0) (lv' := [(2, .int 0), (0, .ref (hs 1)), (1, .int x)]) hx hb dX8_append_43 hl (k := 0) rfl (by decide) (by decide) rfl (fun ls hl => ?_)
              refine lv_goto (tgt := 3) hx hb dX8_append_46 (by decide) ?_
              refine lv_iload_n hx hb dX8_append_3 rfl (lv_at hl 0 rfl) ?_
              refine lv_if_lt (tgt := 49) hx hb dX8_append_4 (by decide) (fun c_19 => ?_) (fun c_19 => ?_)
              · exact absurd c_19 (by decide)
              · skip
                refine lv_aload_n hx hb dX8_append_7 rfl (lv_at hl 1 rfl) ?_
                refine gt_SP_tape_size hx hb hts hown hK hP lwd_293 dX8_append_8 ?_
                refine lv_sipush (v := 220) hx hb dX8_append_11 (by decide) ?_
                refine lv_icmp_ge (tgt := 49) hx hb dX8_append_14 (by decide) (fun c_20 => ?_) (fun c_20 => ?_)
                · have gc_20 : 220 ≤ ((v_tape_size.toInt + 1) + 1) + 1 := i_le (by decide : (220 : Int32).toInt = 220) tn_18 c_20
                  exact hrt n_18 f_17 ⟨(by omega), (by omega), rf_17⟩ hP hD hS dX8_append_49
                · have gc_20 : ((v_tape_size.toInt + 1) + 1) + 1 < 220 := i_nle (by decide : (220 : Int32).toInt = 220) tn_18 c_20
                  refine lv_aload_n hx hb dX8_append_17 rfl (lv_at hl 1 rfl) ?_
                  refine gt_SP_tape_bytes hx hb hts hown hK hP lwd_52 dX8_append_18 ?_
                  refine lv_aload_n hx hb dX8_append_21 rfl (lv_at hl 1 rfl) ?_
                  refine gt_SP_tape_size hx hb hts hown hK hP lwd_293 dX8_append_22 ?_
                  refine lv_iload_n hx hb dX8_append_25 rfl (lv_at hl 2 rfl) ?_
                  refine lv_iload_n hx hb dX8_append_26 rfl (lv_at hl 0 rfl) ?_
                  obtain ⟨n_21, en_21⟩ : ∃ y : Int32, y = (x.toUInt32 >>> ((0 : Int32).toUInt32 &&& Int32.toUInt32 31)).toInt32 := ⟨_, rfl⟩
                  refine lv_iushr (v := n_21) hx hb dX8_append_27 en_21.symm ?_
                  refine lv_sipush (v := 255) hx hb dX8_append_28 (by decide) ?_
                  refine lv_iand hx hb dX8_append_31 ?_
                  refine lv_topi (fun n_22 en_22 => ?_)
                  have bn_22 : 0 ≤ n_22.toInt ∧ n_22.toInt ≤ 255 := i_msk 8 en_22 (by decide) (by decide) (by decide)
                  refine as_bytes (x := n_22) hx hb hK hP hD hS rf_17 (i_in tn_18 (by omega) (by omega)) (by omega) dX8_append_32 (fun f_23 ef_23 rf_23 H locs hP hD hS => ?_)
                  refine lv_aload_n hx hb dX8_append_33 rfl (lv_at hl 1 rfl) ?_
                  refine lv_dup hx hb dX8_append_34 rfl ?_
                  refine gt_SP_tape_size hx hb hts hown hK hP lwd_293 dX8_append_35 ?_
                  refine lv_iconst (v := 1) hx hb dX8_append_38 (by decide) ?_
                  refine lv_iadd hx hb dX8_append_39 ?_
                  refine lv_topi (fun n_24 en_24 => ?_)
                  have tn_24 : n_24.toInt = (((v_tape_size.toInt + 1) + 1) + 1) + 1 := i_add en_24 tn_18 (by decide : (1 : Int32).toInt = 1) (by omega) (by omega)
                  refine pt_SP_tape_size (x := n_24) hx hb hts hown hK hP hD hS lwd_293 dX8_append_40 (fun H locs hP hD hS => ?_)
                  refine lv_iinc (v := (-8)) (lv' := [(2, .int (-8)), (0, .ref (hs 1)), (1, .int x)]) hx hb dX8_append_43 hl (k := 0) rfl (by decide) (by decide) rfl (fun ls hl => ?_)
                  refine lv_goto (tgt := 3) hx hb dX8_append_46 (by decide) ?_
                  refine lv_iload_n hx hb dX8_append_3 rfl (lv_at hl 0 rfl) ?_
                  refine lv_if_lt (tgt := 49) hx hb dX8_append_4 (by decide) (fun c_25 => ?_) (fun c_25 => ?_)
                  · skip
                    exact hrt n_24 f_23 ⟨(by omega), (by omega), rf_23⟩ hP hD hS dX8_append_49
                  · exact absurd c_25 (by decide)
set_option maxHeartbeats 16000000 in
set_option maxRecDepth 100000 in
theorem c_X6_run (l : Launch) (D : va_G) (cy : Nat → ClassId) (hs : Nat → Nat) (hH hT sH sT : Nat) (v_tape_size v_band_walkers v_band_loads v_band_pieces v_rules_clauses v_reader_end v_reader_at v_reader_length v_reader_letter v_reader_fault v_draft_clauses v_paces_version v_packing_quicker v_packing_loads v_packing_looseCount v_marches_told v_marches_changeMinutes v_marches_marching v_marches_gone v_search_known v_search_countHere v_search_countThere v_search_cost v_search_most : Int32) (v_search_found : Int64) (f_bytes f_knee f_weight f_limps f_bheft f_owner f_food f_miles f_slope f_rsteps f_rkind f_ryields f_rholds f_rletters f_rstack f_dsteps f_dkind f_dyields f_dholds f_dletters f_dstack f_caps f_versions f_sharing f_pheft f_prow f_holder f_comes f_pcaps f_room f_loose f_reached f_mrow f_minutesOn f_mtired : Nat → Int32) (f_here f_there : Nat → Int64) (f_statesHere f_statesThere f_listed f_stired f_burdens f_pacesOn f_restedOn f_behindOn f_behindFor f_first f_second : Nat → Int32) (f_plans f_tiredOn : Nat → Nat → Int32) (tS : Nat) (sz : Nat) (fr : Int32) : gMi l yX6_run cX6_run 9 .int 1 [.ref (hs 12), .int fr] D cy (wSP cy hs hH hT sH sT v_tape_size v_band_walkers v_band_loads v_band_pieces v_rules_clauses v_reader_end v_reader_at v_reader_length v_reader_letter v_reader_fault v_draft_clauses v_paces_version v_packing_quicker v_packing_loads v_packing_looseCount v_marches_told v_marches_changeMinutes v_marches_marching v_marches_gone v_search_known v_search_countHere v_search_countThere v_search_cost v_search_most v_search_found f_bytes f_knee f_weight f_limps f_bheft f_owner f_food f_miles f_slope f_rsteps f_rkind f_ryields f_rholds f_rletters f_rstack f_dsteps f_dkind f_dyields f_dholds f_dletters f_dstack f_caps f_versions f_sharing f_pheft f_prow f_holder f_comes f_pcaps f_room f_loose f_reached f_mrow f_minutesOn f_mtired f_here f_there f_statesHere f_statesThere f_listed f_stired f_burdens f_pacesOn f_restedOn f_behindOn f_behindFor f_first f_second f_plans f_tiredOn) (NS tS) sz (fun (r : Int32) (u : (Nat → Int32)) => True) (fun u => wSP cy hs hH hT sH sT v_tape_size v_band_walkers v_band_loads v_band_pieces v_rules_clauses v_reader_end v_reader_at v_reader_length v_reader_letter v_reader_fault v_draft_clauses v_paces_version v_packing_quicker v_packing_loads v_packing_looseCount v_marches_told v_marches_changeMinutes v_marches_marching v_marches_gone v_search_known v_search_countHere v_search_countThere v_search_cost v_search_most v_search_found f_bytes f_knee f_weight f_limps f_bheft f_owner f_food f_miles f_slope f_rsteps f_rkind f_ryields f_rholds f_rletters u f_dsteps f_dkind f_dyields f_dholds f_dletters f_dstack f_caps f_versions f_sharing f_pheft f_prow f_holder f_comes f_pcaps f_room f_loose f_reached f_mrow f_minutesOn f_mtired f_here f_there f_statesHere f_statesThere f_listed f_stired f_burdens f_pacesOn f_restedOn f_behindOn f_behindFor f_first f_second f_plans f_tiredOn) := by
  refine gMi_in (by decide) (Nat.le_of_ble_eq_true rfl) ?_
  intro p e s m args below meth c A ls Q hx hb hml hts hown hsz hP hK hD hN hAe hA hS hl hret
  subst hsz
  have hl : lv_has ls 9 [(0, .ref (hs 12)), (1, .int fr)] := hl
  have hrt := fun (r : Int32) (f_rstack' : Nat → Int32)  {H : Heap} {locs : List Loc} {pc : Nat} {ls : Array Slot} => hret r f_rstack' (H := H) (locs := locs) (pc := pc) (ls := ls) trivial
  clear hret
  refine lv_iload_n hx hb dX6_run_0 rfl (lv_at hl 1 rfl) ?_
  refine lv_istore_n (lv' := [(2, .int fr), (0, .ref (hs 12)), (1, .int fr)]) hx hb dX6_run_1 rfl hl (by decide) rfl (fun ls hl => ?_)
  refine lv_iconst (v := 1) hx hb dX6_run_2 (by decide) ?_
  refine lv_istore_n (lv' := [(3, .int 1), (2, .int fr), (0, .ref (hs 12)), (1, .int fr)]) hx hb dX6_run_3 rfl hl (by decide) rfl (fun ls hl => ?_)
  refine lv_iconst (v := 0) hx hb dX6_run_4 (by decide) ?_
  refine lv_istore (lv' := [(4, .int 0), (3, .int 1), (2, .int fr), (0, .ref (hs 12)), (1, .int fr)]) hx hb dX6_run_5 hl (by decide) rfl (fun ls hl => ?_)
  have L7_9 : ∀ (n : Nat) (f_5 : Nat → Int32) (l_6 : Int32) (l_7 : Int32) (l_8 : Int32), (0 ≤ l_8.toInt ∧ l_8.toInt ≤ 256) → 257 - l_8.toInt < n → ∀ (H : Heap) (locs : List Loc) (ls : Array Slot), va_P D vwCl (wSP cy hs hH hT sH sT v_tape_size v_band_walkers v_band_loads v_band_pieces v_rules_clauses v_reader_end v_reader_at v_reader_length v_reader_letter v_reader_fault v_draft_clauses v_paces_version v_packing_quicker v_packing_loads v_packing_looseCount v_marches_told v_marches_changeMinutes v_marches_marching v_marches_gone v_search_known v_search_countHere v_search_countThere v_search_cost v_search_most v_search_found f_bytes f_knee f_weight f_limps f_bheft f_owner f_food f_miles f_slope f_rsteps f_rkind f_ryields f_rholds f_rletters f_5 f_dsteps f_dkind f_dyields f_dholds f_dletters f_dstack f_caps f_versions f_sharing f_pheft f_prow f_holder f_comes f_pcaps f_room f_loose f_reached f_mrow f_minutesOn f_mtired f_here f_there f_statesHere f_statesThere f_listed f_stired f_burdens f_pacesOn f_restedOn f_behindOn f_behindFor f_first f_second f_plans f_tiredOn) H → va_D A (wSP cy hs hH hT sH sT v_tape_size v_band_walkers v_band_loads v_band_pieces v_rules_clauses v_reader_end v_reader_at v_reader_length v_reader_letter v_reader_fault v_draft_clauses v_paces_version v_packing_quicker v_packing_loads v_packing_looseCount v_marches_told v_marches_changeMinutes v_marches_marching v_marches_gone v_search_known v_search_countHere v_search_countThere v_search_cost v_search_most v_search_found f_bytes f_knee f_weight f_limps f_bheft f_owner f_food f_miles f_slope f_rsteps f_rkind f_ryields f_rholds f_rletters f_5 f_dsteps f_dkind f_dyields f_dholds f_dletters f_dstack f_caps f_versions f_sharing f_pheft f_prow f_holder f_comes f_pcaps f_room f_loose f_reached f_mrow f_minutesOn f_mtired f_here f_there f_statesHere f_statesThere f_listed f_stired f_burdens f_pacesOn f_restedOn f_behindOn f_behindFor f_first f_second f_plans f_tiredOn) → va_S A s.heap H locs → lv_has ls 9 [(4, .int l_8), (3, .int l_7), (2, .int l_6), (0, .ref (hs 12)), (1, .int fr)] → W p l e (gRm 1) s m args below meth c H locs 0 0 Q (F0 m 7 ls []) := by
    intro n
    induction n with
    | zero => intro f_5 l_6 l_7 l_8 hL7_9_0 hm; exact absurd hm (by omega)
    | succ n ih7_9 =>
      intro f_5 l_6 l_7 l_8 hL7_9_0 hmL7_9 H locs ls hP hD hS hl
      refine lv_iload hx hb dX6_run_7 (lv_at hl 0 rfl) ?_
      refine lv_sipush (v := 256) hx hb dX6_run_9 (by decide) ?_
      refine lv_icmp_ge (tgt := 408) hx hb dX6_run_12 (by decide) (fun c_10 => ?_) (fun c_10 => ?_)
      · have gc_10 : 256 ≤ l_8.toInt := i_le (by decide : (256 : Int32).toInt = 256) (rfl : l_8.toInt = l_8.toInt) c_10
        refine lv_iconst (v := 0) hx hb dX6_run_408 (by decide) ?_
        have k_11 : (0 : Int32).toInt = 0 := by decide
        exact hrt 0 f_5  hP hD hS rfl dX6_run_409
      · have gc_10 : l_8.toInt < 256 := i_nle (by decide : (256 : Int32).toInt = 256) (rfl : l_8.toInt = l_8.toInt) c_10
        refine lv_iload_n hx hb dX6_run_15 rfl (lv_at hl 2 rfl) ?_
        refine lv_if_lt (tgt := 408) hx hb dX6_run_16 (by decide) (fun c_12 => ?_) (fun c_12 => ?_)
        · have gc_12 : l_6.toInt < 0 := i_lt (rfl : l_6.toInt = l_6.toInt) (by decide : (0 : Int32).toInt = 0) c_12
          refine lv_iconst (v := 0) hx hb dX6_run_408 (by decide) ?_
          have k_13 : (0 : Int32).toInt = 0 := by decide
          exact hrt 0 f_5  hP hD hS rfl dX6_run_409
        · have gc_12 : 0 ≤ l_6.toInt := i_nlt (rfl : l_6.toInt = l_6.toInt) (by decide : (0 : Int32).toInt = 0) c_12
          refine lv_iload_n hx hb dX6_run_19 rfl (lv_at hl 2 rfl) ?_
          refine lv_sipush (v := 256) hx hb dX6_run_20 (by decide) ?_
          refine lv_icmp_ge (tgt := 408) hx hb dX6_run_23 (by decide) (fun c_14 => ?_) (fun c_14 => ?_)
          · have gc_14 : 256 ≤ l_6.toInt := i_le (by decide : (256 : Int32).toInt = 256) (rfl : l_6.toInt = l_6.toInt) c_14
            refine lv_iconst (v := 0) hx hb dX6_run_408 (by decide) ?_
            have k_15 : (0 : Int32).toInt = 0 := by decide
            exact hrt 0 f_5  hP hD hS rfl dX6_run_409
          · have gc_14 : l_6.toInt < 256 := i_nle (by decide : (256 : Int32).toInt = 256) (rfl : l_6.toInt = l_6.toInt) c_14
            refine lv_aload_n hx hb dX6_run_26 rfl (lv_at hl 3 rfl) ?_
            refine gt_SP_rules_steps hx hb hts hown hK hP lwd_68 dX6_run_27 ?_
            refine lv_iload_n hx hb dX6_run_30 rfl (lv_at hl 2 rfl) ?_
            refine al_rsteps hx hb hK hP (i_in (rfl : l_6.toInt = l_6.toInt) (by omega) (by omega)) dX6_run_31 (fun n_16 en_16 => ?_)
            refine lv_iconst (v := 4) hx hb dX6_run_32 (by decide) ?_
            refine lv_ishr hx hb dX6_run_33 ?_
            refine lv_topi (fun n_17 en_17 => ?_)
            have tn_17 : n_17.toInt = n_16.toInt / 16 := i_shr 4 en_17 (rfl : n_16.toInt = n_16.toInt) (by decide) (by decide)
            refine lv_istore (lv' := [(5, .int n_17), (4, .int l_8), (3, .int l_7), (2, .int l_6), (0, .ref (hs 12)), (1, .int fr)]) hx hb dX6_run_34 hl (by decide) rfl (fun ls hl => ?_)
            refine lv_aload_n hx hb dX6_run_36 rfl (lv_at hl 4 rfl) ?_
            refine gt_SP_rules_steps hx hb hts hown hK hP lwd_68 dX6_run_37 ?_
            refine lv_iload_n hx hb dX6_run_40 rfl (lv_at hl 3 rfl) ?_
            refine al_rsteps hx hb hK hP (i_in (rfl : l_6.toInt = l_6.toInt) (by omega) (by omega)) dX6_run_41 (fun n_18 en_18 => ?_)
            obtain rfl : n_16 = n_18 := en_16.trans en_18.symm
            refine lv_bipush (v := 15) hx hb dX6_run_42 (by decide) ?_
            refine lv_iand hx hb dX6_run_44 ?_
            refine lv_topi (fun n_19 en_19 => ?_)
            have bn_19 : 0 ≤ n_19.toInt ∧ n_19.toInt ≤ 15 := i_msk 4 en_19 (by decide) (by decide) (by decide)
            refine lv_istore (lv' := [(6, .int n_19), (5, .int n_17), (4, .int l_8), (3, .int l_7), (2, .int l_6), (0, .ref (hs 12)), (1, .int fr)]) hx hb dX6_run_45 hl (by decide) rfl (fun ls hl => ?_)
            obtain ⟨n_20, en_20⟩ : ∃ y : Int32, y = l_6 + 1 := ⟨_, rfl⟩
            have tn_20 : n_20.toInt = l_6.toInt + 1 := i_add en_20 (rfl : l_6.toInt = l_6.toInt) (by decide : (1 : Int32).toInt = 1) (by omega) (by omega)
            refine lv_iinc (v := n_20) (lv' := [(2, .int n_20), (6, .int n_19), (5, .int n_17), (4, .int l_8), (3, .int l_7), (0, .ref (hs 12)), (1, .int fr)]) hx hb dX6_run_47 hl (k := 4) rfl (by rw [en_20]; rfl) (by decide) rfl (fun ls hl => ?_)
            refine lv_iload_n hx hb dX6_run_50 rfl (lv_at hl 4 rfl) ?_
            refine lv_iconst (v := 1) hx hb dX6_run_51 (by decide) ?_
            refine lv_icmp_lt (tgt := 61) hx hb dX6_run_52 (by decide) (fun c_21 => ?_) (fun c_21 => ?_)
            · have gc_21 : l_7.toInt < 1 := i_lt (rfl : l_7.toInt = l_7.toInt) (by decide : (1 : Int32).toInt = 1) c_21
              refine lv_iconst (v := 0) hx hb dX6_run_61 (by decide) ?_
              have k_22 : (0 : Int32).toInt = 0 := by decide
              exact hrt 0 f_5  hP hD hS rfl dX6_run_62
            · have gc_21 : 1 ≤ l_7.toInt := i_nlt (rfl : l_7.toInt = l_7.toInt) (by decide : (1 : Int32).toInt = 1) c_21
              refine lv_iload_n hx hb dX6_run_55 rfl (lv_at hl 4 rfl) ?_
              refine lv_bipush (v := 31) hx hb dX6_run_56 (by decide) ?_
              refine lv_icmp_lt (tgt := 63) hx hb dX6_run_58 (by decide) (fun c_23 => ?_) (fun c_23 => ?_)
              · have gc_23 : l_7.toInt < 31 := i_lt (rfl : l_7.toInt = l_7.toInt) (by decide : (31 : Int32).toInt = 31) c_23
                refine lv_iload hx hb dX6_run_63 (lv_at hl 1 rfl) ?_
                refine lv_if_ne (tgt := 75) hx hb dX6_run_65 (by decide) (fun c_24 => ?_) (fun c_24 => ?_)
                · have gc_24 : n_19.toInt ≠ 0 := i_ne (rfl : n_19.toInt = n_19.toInt) (by decide : (0 : Int32).toInt = 0) c_24
                  refine lv_iload hx hb dX6_run_75 (lv_at hl 1 rfl) ?_
                  refine lv_iconst (v := 1) hx hb dX6_run_77 (by decide) ?_
                  refine lv_icmp_ne (tgt := 95) hx hb dX6_run_78 (by decide) (fun c_25 => ?_) (fun c_25 => ?_)
                  · have gc_25 : n_19.toInt ≠ 1 := i_ne (rfl : n_19.toInt = n_19.toInt) (by decide : (1 : Int32).toInt = 1) c_25
                    refine lv_iload hx hb dX6_run_95 (lv_at hl 1 rfl) ?_
                    refine lv_iconst (v := 2) hx hb dX6_run_97 (by decide) ?_
                    refine lv_icmp_ne (tgt := 136) hx hb dX6_run_98 (by decide) (fun c_26 => ?_) (fun c_26 => ?_)
                    · have gc_26 : n_19.toInt ≠ 2 := i_ne (rfl : n_19.toInt = n_19.toInt) (by decide : (2 : Int32).toInt = 2) c_26
                      refine lv_iload hx hb dX6_run_136 (lv_at hl 1 rfl) ?_
                      refine lv_iconst (v := 3) hx hb dX6_run_138 (by decide) ?_
                      refine lv_icmp_ne (tgt := 159) hx hb dX6_run_139 (by decide) (fun c_27 => ?_) (fun c_27 => ?_)
                      · have gc_27 : n_19.toInt ≠ 3 := i_ne (rfl : n_19.toInt = n_19.toInt) (by decide : (3 : Int32).toInt = 3) c_27
                        refine lv_iload hx hb dX6_run_159 (lv_at hl 1 rfl) ?_
                        refine lv_iconst (v := 4) hx hb dX6_run_161 (by decide) ?_
                        refine lv_icmp_eq (tgt := 171) hx hb dX6_run_162 (by decide) (fun c_28 => ?_) (fun c_28 => ?_)
                        · have gc_28 : n_19.toInt = 4 := i_eq (rfl : n_19.toInt = n_19.toInt) (by decide : (4 : Int32).toInt = 4) c_28
                          refine lv_aload_n hx hb dX6_run_171 rfl (lv_at hl 5 rfl) ?_
                          refine gt_SP_rules_stack hx hb hts hown hK hP lwd_73 dX6_run_172 ?_
                          refine lv_iload_n hx hb dX6_run_175 rfl (lv_at hl 4 rfl) ?_
                          refine al_rstack hx hb hK hP (i_in (rfl : l_7.toInt = l_7.toInt) (by omega) (by omega)) dX6_run_176 (fun n_29 en_29 => ?_)
                          refine lv_if_eq (tgt := 184) hx hb dX6_run_177 (by decide) (fun c_30 => ?_) (fun c_30 => ?_)
                          · have gc_30 : n_29.toInt = 0 := i_eq (rfl : n_29.toInt = n_29.toInt) (by decide : (0 : Int32).toInt = 0) c_30
                            refine lv_iconst (v := 0) hx hb dX6_run_184 (by decide) ?_
                            refine lv_iload hx hb dX6_run_185 (lv_at hl 1 rfl) ?_
                            refine lv_iconst (v := 5) hx hb dX6_run_187 (by decide) ?_
                            refine lv_icmp_ne (tgt := 195) hx hb dX6_run_188 (by decide) (fun c_31 => ?_) (fun c_31 => ?_)
                            · have gc_31 : n_19.toInt ≠ 5 := i_ne (rfl : n_19.toInt = n_19.toInt) (by decide : (5 : Int32).toInt = 5) c_31
                              refine lv_iconst (v := 0) hx hb dX6_run_195 (by decide) ?_
                              refine lv_icmp_ne (tgt := 205) hx hb dX6_run_196 (by decide) (fun c_32 => ?_) (fun c_32 => ?_)
                              · exact absurd c_32 (by decide)
                              · skip
                                refine lv_iload hx hb dX6_run_199 (lv_at hl 2 rfl) ?_
                                refine lv_istore_n (lv' := [(2, .int n_17), (6, .int n_19), (5, .int n_17), (4, .int l_8), (3, .int l_7), (0, .ref (hs 12)), (1, .int fr)]) hx hb dX6_run_201 rfl hl (by decide) rfl (fun ls hl => ?_)
                                refine lv_goto (tgt := 402) hx hb dX6_run_202 (by decide) ?_
                                obtain ⟨n_33, en_33⟩ : ∃ y : Int32, y = l_8 + 1 := ⟨_, rfl⟩
                                have tn_33 : n_33.toInt = l_8.toInt + 1 := i_add en_33 (rfl : l_8.toInt = l_8.toInt) (by decide : (1 : Int32).toInt = 1) (by omega) (by omega)
                                refine lv_iinc (v := n_33) (lv' := [(4, .int n_33), (2, .int n_17), (6, .int n_19), (5, .int n_17), (3, .int l_7), (0, .ref (hs 12)), (1, .int fr)]) hx hb dX6_run_402 hl (k := 3) rfl (by rw [en_33]; rfl) (by decide) rfl (fun ls hl => ?_)
                                refine lv_goto (tgt := 7) hx hb dX6_run_405 (by decide) ?_
                                exact ih7_9 f_5 n_17 l_7 n_33 (by omega) (by omega) _ _ _ hP hD hS (lv_sub hl [0, 4, 1, 5, 6] rfl)
                            · have gc_31 : n_19.toInt = 5 := i_eq (rfl : n_19.toInt = n_19.toInt) (by decide : (5 : Int32).toInt = 5) c_31
                              exact absurd gc_31 (by omega)
                          · have gc_30 : n_29.toInt ≠ 0 := i_ne (rfl : n_29.toInt = n_29.toInt) (by decide : (0 : Int32).toInt = 0) c_30
                            refine lv_iconst (v := 1) hx hb dX6_run_180 (by decide) ?_
                            refine lv_goto (tgt := 185) hx hb dX6_run_181 (by decide) ?_
                            refine lv_iload hx hb dX6_run_185 (lv_at hl 1 rfl) ?_
                            refine lv_iconst (v := 5) hx hb dX6_run_187 (by decide) ?_
                            refine lv_icmp_ne (tgt := 195) hx hb dX6_run_188 (by decide) (fun c_34 => ?_) (fun c_34 => ?_)
                            · have gc_34 : n_19.toInt ≠ 5 := i_ne (rfl : n_19.toInt = n_19.toInt) (by decide : (5 : Int32).toInt = 5) c_34
                              refine lv_iconst (v := 0) hx hb dX6_run_195 (by decide) ?_
                              refine lv_icmp_ne (tgt := 205) hx hb dX6_run_196 (by decide) (fun c_35 => ?_) (fun c_35 => ?_)
                              · skip
                                obtain ⟨n_36, en_36⟩ : ∃ y : Int32, y = l_7 + (-1) := ⟨_, rfl⟩
                                have tn_36 : n_36.toInt = l_7.toInt + (-1) := i_add en_36 (rfl : l_7.toInt = l_7.toInt) (by decide : ((-1) : Int32).toInt = (-1)) (by omega) (by omega)
                                refine lv_iinc (v := n_36) (lv' := [(3, .int n_36), (2, .int n_20), (6, .int n_19), (5, .int n_17), (4, .int l_8), (0, .ref (hs 12)), (1, .int fr)]) hx hb dX6_run_205 hl (k := 4) rfl (by rw [en_36]; rfl) (by decide) rfl (fun ls hl => ?_)
                                refine lv_goto (tgt := 402) hx hb dX6_run_208 (by decide) ?_
                                obtain ⟨n_37, en_37⟩ : ∃ y : Int32, y = l_8 + 1 := ⟨_, rfl⟩
                                have tn_37 : n_37.toInt = l_8.toInt + 1 := i_add en_37 (rfl : l_8.toInt = l_8.toInt) (by decide : (1 : Int32).toInt = 1) (by omega) (by omega)
                                refine lv_iinc (v := n_37) (lv' := [(4, .int n_37), (3, .int n_36), (2, .int n_20), (6, .int n_19), (5, .int n_17), (0, .ref (hs 12)), (1, .int fr)]) hx hb dX6_run_402 hl (k := 4) rfl (by rw [en_37]; rfl) (by decide) rfl (fun ls hl => ?_)
                                refine lv_goto (tgt := 7) hx hb dX6_run_405 (by decide) ?_
                                exact ih7_9 f_5 n_20 n_36 n_37 (by omega) (by omega) _ _ _ hP hD hS (lv_sub hl [0, 1, 2, 5, 6] rfl)
                              · exact absurd c_35 (by decide)
                            · have gc_34 : n_19.toInt = 5 := i_eq (rfl : n_19.toInt = n_19.toInt) (by decide : (5 : Int32).toInt = 5) c_34
                              exact absurd gc_34 (by omega)
                        · have gc_28 : n_19.toInt ≠ 4 := i_ne (rfl : n_19.toInt = n_19.toInt) (by decide : (4 : Int32).toInt = 4) c_28
                          refine lv_iload hx hb dX6_run_165 (lv_at hl 1 rfl) ?_
                          refine lv_iconst (v := 5) hx hb dX6_run_167 (by decide) ?_
                          refine lv_icmp_ne (tgt := 211) hx hb dX6_run_168 (by decide) (fun c_38 => ?_) (fun c_38 => ?_)
                          · have gc_38 : n_19.toInt ≠ 5 := i_ne (rfl : n_19.toInt = n_19.toInt) (by decide : (5 : Int32).toInt = 5) c_38
                            refine lv_aload_n hx hb dX6_run_211 rfl (lv_at hl 5 rfl) ?_
                            refine gt_SP_rules_stack hx hb hts hown hK hP lwd_73 dX6_run_212 ?_
                            refine lv_iload_n hx hb dX6_run_215 rfl (lv_at hl 4 rfl) ?_
                            refine al_rstack hx hb hK hP (i_in (rfl : l_7.toInt = l_7.toInt) (by omega) (by omega)) dX6_run_216 (fun n_39 en_39 => ?_)
                            refine lv_istore (lv' := [(7, .int n_39), (2, .int n_20), (6, .int n_19), (5, .int n_17), (4, .int l_8), (3, .int l_7), (0, .ref (hs 12)), (1, .int fr)]) hx hb dX6_run_217 hl (by decide) rfl (fun ls hl => ?_)
                            refine lv_iload hx hb dX6_run_219 (lv_at hl 0 rfl) ?_
                            refine lv_if_ne (tgt := 240) hx hb dX6_run_221 (by decide) (fun c_40 => ?_) (fun c_40 => ?_)
                            · have gc_40 : n_39.toInt ≠ 0 := i_ne (rfl : n_39.toInt = n_39.toInt) (by decide : (0 : Int32).toInt = 0) c_40
                              obtain ⟨n_41, en_41⟩ : ∃ y : Int32, y = l_7 + (-1) := ⟨_, rfl⟩
                              have tn_41 : n_41.toInt = l_7.toInt + (-1) := i_add en_41 (rfl : l_7.toInt = l_7.toInt) (by decide : ((-1) : Int32).toInt = (-1)) (by omega) (by omega)
                              refine lv_iinc (v := n_41) (lv' := [(3, .int n_41), (7, .int n_39), (2, .int n_20), (6, .int n_19), (5, .int n_17), (4, .int l_8), (0, .ref (hs 12)), (1, .int fr)]) hx hb dX6_run_240 hl (k := 5) rfl (by rw [en_41]; rfl) (by decide) rfl (fun ls hl => ?_)
                              refine lv_aload_n hx hb dX6_run_243 rfl (lv_at hl 6 rfl) ?_
                              refine gt_SP_rules_stack hx hb hts hown hK hP lwd_73 dX6_run_244 ?_
                              refine lv_iload_n hx hb dX6_run_247 rfl (lv_at hl 0 rfl) ?_
                              refine al_rstack hx hb hK hP (i_in tn_41 (by omega) (by omega)) dX6_run_248 (fun n_42 en_42 => ?_)
                              refine lv_istore (lv' := [(8, .int n_42), (3, .int n_41), (7, .int n_39), (2, .int n_20), (6, .int n_19), (5, .int n_17), (4, .int l_8), (0, .ref (hs 12)), (1, .int fr)]) hx hb dX6_run_249 hl (by decide) rfl (fun ls hl => ?_)
                              refine lv_iload hx hb dX6_run_251 (lv_at hl 4 rfl) ?_
                              rcases (show n_19.toInt < 6 ∨ 12 < n_19.toInt ∨ n_19.toInt = 6 ∨ n_19.toInt = 7 ∨ n_19.toInt = 8 ∨ n_19.toInt = 9 ∨ n_19.toInt = 10 ∨ n_19.toInt = 11 ∨ n_19.toInt = 12 by omega) with c_43 | c_43 | c_43 | c_43 | c_43 | c_43 | c_43 | c_43 | c_43
                              · refine lv_tableOut (tgt := 380) hx hb dX6_run_253 (Or.inl c_43) (by decide) ?_
                                refine lv_iload hx hb dX6_run_380 (lv_at hl 0 rfl) ?_
                                refine lv_iload hx hb dX6_run_382 (lv_at hl 2 rfl) ?_
                                refine lv_icmp_ne (tgt := 391) hx hb dX6_run_384 (by decide) (fun c_44 => ?_) (fun c_44 => ?_)
                                · have gc_44 : n_42.toInt ≠ n_39.toInt := i_ne (rfl : n_42.toInt = n_42.toInt) (rfl : n_39.toInt = n_39.toInt) c_44
                                  refine lv_iconst (v := 0) hx hb dX6_run_391 (by decide) ?_
                                  refine lv_istore (lv' := [(8, .int 0), (3, .int n_41), (7, .int n_39), (2, .int n_20), (6, .int n_19), (5, .int n_17), (4, .int l_8), (0, .ref (hs 12)), (1, .int fr)]) hx hb dX6_run_392 hl (by decide) rfl (fun ls hl => ?_)
                                  refine lv_aload_n hx hb dX6_run_394 rfl (lv_at hl 7 rfl) ?_
                                  refine gt_SP_rules_stack hx hb hts hown hK hP lwd_73 dX6_run_395 ?_
                                  refine lv_iload_n hx hb dX6_run_398 rfl (lv_at hl 1 rfl) ?_
                                  refine lv_iload hx hb dX6_run_399 (lv_at hl 0 rfl) ?_
                                  refine as_rstack (x := 0) hx hb hK hP hD hS (i_in tn_41 (by omega) (by omega)) dX6_run_401 (fun f_45 ef_45 H locs hP hD hS => ?_)
                                  obtain ⟨n_46, en_46⟩ : ∃ y : Int32, y = l_8 + 1 := ⟨_, rfl⟩
                                  have tn_46 : n_46.toInt = l_8.toInt + 1 := i_add en_46 (rfl : l_8.toInt = l_8.toInt) (by decide : (1 : Int32).toInt = 1) (by omega) (by omega)
                                  refine lv_iinc (v := n_46) (lv' := [(4, .int n_46), (8, .int 0), (3, .int n_41), (7, .int n_39), (2, .int n_20), (6, .int n_19), (5, .int n_17), (0, .ref (hs 12)), (1, .int fr)]) hx hb dX6_run_402 hl (k := 6) rfl (by rw [en_46]; rfl) (by decide) rfl (fun ls hl => ?_)
                                  refine lv_goto (tgt := 7) hx hb dX6_run_405 (by decide) ?_
                                  exact ih7_9 f_45 n_20 n_41 n_46 (by omega) (by omega) _ _ _ hP hD hS (lv_sub hl [0, 2, 4, 7, 8] rfl)
                                · have gc_44 : n_42.toInt = n_39.toInt := i_eq (rfl : n_42.toInt = n_42.toInt) (rfl : n_39.toInt = n_39.toInt) c_44
                                  refine lv_iconst (v := 1) hx hb dX6_run_387 (by decide) ?_
                                  refine lv_goto (tgt := 392) hx hb dX6_run_388 (by decide) ?_
                                  refine lv_istore (lv' := [(8, .int 1), (3, .int n_41), (7, .int n_39), (2, .int n_20), (6, .int n_19), (5, .int n_17), (4, .int l_8), (0, .ref (hs 12)), (1, .int fr)]) hx hb dX6_run_392 hl (by decide) rfl (fun ls hl => ?_)
                                  refine lv_aload_n hx hb dX6_run_394 rfl (lv_at hl 7 rfl) ?_
                                  refine gt_SP_rules_stack hx hb hts hown hK hP lwd_73 dX6_run_395 ?_
                                  refine lv_iload_n hx hb dX6_run_398 rfl (lv_at hl 1 rfl) ?_
                                  refine lv_iload hx hb dX6_run_399 (lv_at hl 0 rfl) ?_
                                  refine as_rstack (x := 1) hx hb hK hP hD hS (i_in tn_41 (by omega) (by omega)) dX6_run_401 (fun f_47 ef_47 H locs hP hD hS => ?_)
                                  obtain ⟨n_48, en_48⟩ : ∃ y : Int32, y = l_8 + 1 := ⟨_, rfl⟩
                                  have tn_48 : n_48.toInt = l_8.toInt + 1 := i_add en_48 (rfl : l_8.toInt = l_8.toInt) (by decide : (1 : Int32).toInt = 1) (by omega) (by omega)
                                  refine lv_iinc (v := n_48) (lv' := [(4, .int n_48), (8, .int 1), (3, .int n_41), (7, .int n_39), (2, .int n_20), (6, .int n_19), (5, .int n_17), (0, .ref (hs 12)), (1, .int fr)]) hx hb dX6_run_402 hl (k := 6) rfl (by rw [en_48]; rfl) (by decide) rfl (fun ls hl => ?_)
                                  refine lv_goto (tgt := 7) hx hb dX6_run_405 (by decide) ?_
                                  exact ih7_9 f_47 n_20 n_41 n_48 (by omega) (by omega) _ _ _ hP hD hS (lv_sub hl [0, 2, 4, 7, 8] rfl)
                              · refine lv_tableOut (tgt := 380) hx hb dX6_run_253 (Or.inr c_43) (by decide) ?_
                                refine lv_iload hx hb dX6_run_380 (lv_at hl 0 rfl) ?_
                                refine lv_iload hx hb dX6_run_382 (lv_at hl 2 rfl) ?_
                                refine lv_icmp_ne (tgt := 391) hx hb dX6_run_384 (by decide) (fun c_49 => ?_) (fun c_49 => ?_)
                                · have gc_49 : n_42.toInt ≠ n_39.toInt := i_ne (rfl : n_42.toInt = n_42.toInt) (rfl : n_39.toInt = n_39.toInt) c_49
                                  refine lv_iconst (v := 0) hx hb dX6_run_391 (by decide) ?_
                                  refine lv_istore (lv' := [(8, .int 0), (3, .int n_41), (7, .int n_39), (2, .int n_20), (6, .int n_19), (5, .int n_17), (4, .int l_8), (0, .ref (hs 12)), (1, .int fr)]) hx hb dX6_run_392 hl (by decide) rfl (fun ls hl => ?_)
                                  refine lv_aload_n hx hb dX6_run_394 rfl (lv_at hl 7 rfl) ?_
                                  refine gt_SP_rules_stack hx hb hts hown hK hP lwd_73 dX6_run_395 ?_
                                  refine lv_iload_n hx hb dX6_run_398 rfl (lv_at hl 1 rfl) ?_
                                  refine lv_iload hx hb dX6_run_399 (lv_at hl 0 rfl) ?_
                                  refine as_rstack (x := 0) hx hb hK hP hD hS (i_in tn_41 (by omega) (by omega)) dX6_run_401 (fun f_50 ef_50 H locs hP hD hS => ?_)
                                  obtain ⟨n_51, en_51⟩ : ∃ y : Int32, y = l_8 + 1 := ⟨_, rfl⟩
                                  have tn_51 : n_51.toInt = l_8.toInt + 1 := i_add en_51 (rfl : l_8.toInt = l_8.toInt) (by decide : (1 : Int32).toInt = 1) (by omega) (by omega)
                                  refine lv_iinc (v := n_51) (lv' := [(4, .int n_51), (8, .int 0), (3, .int n_41), (7, .int n_39), (2, .int n_20), (6, .int n_19), (5, .int n_17), (0, .ref (hs 12)), (1, .int fr)]) hx hb dX6_run_402 hl (k := 6) rfl (by rw [en_51]; rfl) (by decide) rfl (fun ls hl => ?_)
                                  refine lv_goto (tgt := 7) hx hb dX6_run_405 (by decide) ?_
                                  exact ih7_9 f_50 n_20 n_41 n_51 (by omega) (by omega) _ _ _ hP hD hS (lv_sub hl [0, 2, 4, 7, 8] rfl)
                                · have gc_49 : n_42.toInt = n_39.toInt := i_eq (rfl : n_42.toInt = n_42.toInt) (rfl : n_39.toInt = n_39.toInt) c_49
                                  refine lv_iconst (v := 1) hx hb dX6_run_387 (by decide) ?_
                                  refine lv_goto (tgt := 392) hx hb dX6_run_388 (by decide) ?_
                                  refine lv_istore (lv' := [(8, .int 1), (3, .int n_41), (7, .int n_39), (2, .int n_20), (6, .int n_19), (5, .int n_17), (4, .int l_8), (0, .ref (hs 12)), (1, .int fr)]) hx hb dX6_run_392 hl (by decide) rfl (fun ls hl => ?_)
                                  refine lv_aload_n hx hb dX6_run_394 rfl (lv_at hl 7 rfl) ?_
                                  refine gt_SP_rules_stack hx hb hts hown hK hP lwd_73 dX6_run_395 ?_
                                  refine lv_iload_n hx hb dX6_run_398 rfl (lv_at hl 1 rfl) ?_
                                  refine lv_iload hx hb dX6_run_399 (lv_at hl 0 rfl) ?_
                                  refine as_rstack (x := 1) hx hb hK hP hD hS (i_in tn_41 (by omega) (by omega)) dX6_run_401 (fun f_52 ef_52 H locs hP hD hS => ?_)
                                  obtain ⟨n_53, en_53⟩ : ∃ y : Int32, y = l_8 + 1 := ⟨_, rfl⟩
                                  have tn_53 : n_53.toInt = l_8.toInt + 1 := i_add en_53 (rfl : l_8.toInt = l_8.toInt) (by decide : (1 : Int32).toInt = 1) (by omega) (by omega)
                                  refine lv_iinc (v := n_53) (lv' := [(4, .int n_53), (8, .int 1), (3, .int n_41), (7, .int n_39), (2, .int n_20), (6, .int n_19), (5, .int n_17), (0, .ref (hs 12)), (1, .int fr)]) hx hb dX6_run_402 hl (k := 6) rfl (by rw [en_53]; rfl) (by decide) rfl (fun ls hl => ?_)
                                  refine lv_goto (tgt := 7) hx hb dX6_run_405 (by decide) ?_
                                  exact ih7_9 f_52 n_20 n_41 n_53 (by omega) (by omega) _ _ _ hP hD hS (lv_sub hl [0, 2, 4, 7, 8] rfl)
                              · refine lv_tableIn (tgt := 296) (off := 43) hx hb dX6_run_253 (by omega) (by omega) (by rw [c_43]; rfl) (by decide) ?_
                                refine lv_iload hx hb dX6_run_296 (lv_at hl 0 rfl) ?_
                                refine lv_iload hx hb dX6_run_298 (lv_at hl 2 rfl) ?_
                                refine lv_iadd hx hb dX6_run_300 ?_
                                refine lv_topi (fun n_54 en_54 => ?_)
                                refine lv_istore (lv' := [(8, .int n_54), (3, .int n_41), (7, .int n_39), (2, .int n_20), (6, .int n_19), (5, .int n_17), (4, .int l_8), (0, .ref (hs 12)), (1, .int fr)]) hx hb dX6_run_301 hl (by decide) rfl (fun ls hl => ?_)
                                refine lv_goto (tgt := 394) hx hb dX6_run_303 (by decide) ?_
                                refine lv_aload_n hx hb dX6_run_394 rfl (lv_at hl 7 rfl) ?_
                                refine gt_SP_rules_stack hx hb hts hown hK hP lwd_73 dX6_run_395 ?_
                                refine lv_iload_n hx hb dX6_run_398 rfl (lv_at hl 1 rfl) ?_
                                refine lv_iload hx hb dX6_run_399 (lv_at hl 0 rfl) ?_
                                refine as_rstack (x := n_54) hx hb hK hP hD hS (i_in tn_41 (by omega) (by omega)) dX6_run_401 (fun f_55 ef_55 H locs hP hD hS => ?_)
                                obtain ⟨n_56, en_56⟩ : ∃ y : Int32, y = l_8 + 1 := ⟨_, rfl⟩
                                have tn_56 : n_56.toInt = l_8.toInt + 1 := i_add en_56 (rfl : l_8.toInt = l_8.toInt) (by decide : (1 : Int32).toInt = 1) (by omega) (by omega)
                                refine lv_iinc (v := n_56) (lv' := [(4, .int n_56), (8, .int n_54), (3, .int n_41), (7, .int n_39), (2, .int n_20), (6, .int n_19), (5, .int n_17), (0, .ref (hs 12)), (1, .int fr)]) hx hb dX6_run_402 hl (k := 6) rfl (by rw [en_56]; rfl) (by decide) rfl (fun ls hl => ?_)
                                refine lv_goto (tgt := 7) hx hb dX6_run_405 (by decide) ?_
                                exact ih7_9 f_55 n_20 n_41 n_56 (by omega) (by omega) _ _ _ hP hD hS (lv_sub hl [0, 2, 4, 7, 8] rfl)
                              · refine lv_tableIn (tgt := 306) (off := 53) hx hb dX6_run_253 (by omega) (by omega) (by rw [c_43]; rfl) (by decide) ?_
                                refine lv_iload hx hb dX6_run_306 (lv_at hl 0 rfl) ?_
                                refine lv_iload hx hb dX6_run_308 (lv_at hl 2 rfl) ?_
                                refine lv_isub hx hb dX6_run_310 ?_
                                refine lv_topi (fun n_57 en_57 => ?_)
                                refine lv_istore (lv' := [(8, .int n_57), (3, .int n_41), (7, .int n_39), (2, .int n_20), (6, .int n_19), (5, .int n_17), (4, .int l_8), (0, .ref (hs 12)), (1, .int fr)]) hx hb dX6_run_311 hl (by decide) rfl (fun ls hl => ?_)
                                refine lv_goto (tgt := 394) hx hb dX6_run_313 (by decide) ?_
                                refine lv_aload_n hx hb dX6_run_394 rfl (lv_at hl 7 rfl) ?_
                                refine gt_SP_rules_stack hx hb hts hown hK hP lwd_73 dX6_run_395 ?_
                                refine lv_iload_n hx hb dX6_run_398 rfl (lv_at hl 1 rfl) ?_
                                refine lv_iload hx hb dX6_run_399 (lv_at hl 0 rfl) ?_
                                refine as_rstack (x := n_57) hx hb hK hP hD hS (i_in tn_41 (by omega) (by omega)) dX6_run_401 (fun f_58 ef_58 H locs hP hD hS => ?_)
                                obtain ⟨n_59, en_59⟩ : ∃ y : Int32, y = l_8 + 1 := ⟨_, rfl⟩
                                have tn_59 : n_59.toInt = l_8.toInt + 1 := i_add en_59 (rfl : l_8.toInt = l_8.toInt) (by decide : (1 : Int32).toInt = 1) (by omega) (by omega)
                                refine lv_iinc (v := n_59) (lv' := [(4, .int n_59), (8, .int n_57), (3, .int n_41), (7, .int n_39), (2, .int n_20), (6, .int n_19), (5, .int n_17), (0, .ref (hs 12)), (1, .int fr)]) hx hb dX6_run_402 hl (k := 6) rfl (by rw [en_59]; rfl) (by decide) rfl (fun ls hl => ?_)
                                refine lv_goto (tgt := 7) hx hb dX6_run_405 (by decide) ?_
                                exact ih7_9 f_58 n_20 n_41 n_59 (by omega) (by omega) _ _ _ hP hD hS (lv_sub hl [0, 2, 4, 7, 8] rfl)
                              · refine lv_tableIn (tgt := 316) (off := 63) hx hb dX6_run_253 (by omega) (by omega) (by rw [c_43]; rfl) (by decide) ?_
                                refine lv_iload hx hb dX6_run_316 (lv_at hl 0 rfl) ?_
                                refine lv_iload hx hb dX6_run_318 (lv_at hl 2 rfl) ?_
                                refine lv_imul hx hb dX6_run_320 ?_
                                refine lv_topi (fun n_60 en_60 => ?_)
                                refine lv_istore (lv' := [(8, .int n_60), (3, .int n_41), (7, .int n_39), (2, .int n_20), (6, .int n_19), (5, .int n_17), (4, .int l_8), (0, .ref (hs 12)), (1, .int fr)]) hx hb dX6_run_321 hl (by decide) rfl (fun ls hl => ?_)
                                refine lv_goto (tgt := 394) hx hb dX6_run_323 (by decide) ?_
                                refine lv_aload_n hx hb dX6_run_394 rfl (lv_at hl 7 rfl) ?_
                                refine gt_SP_rules_stack hx hb hts hown hK hP lwd_73 dX6_run_395 ?_
                                refine lv_iload_n hx hb dX6_run_398 rfl (lv_at hl 1 rfl) ?_
                                refine lv_iload hx hb dX6_run_399 (lv_at hl 0 rfl) ?_
                                refine as_rstack (x := n_60) hx hb hK hP hD hS (i_in tn_41 (by omega) (by omega)) dX6_run_401 (fun f_61 ef_61 H locs hP hD hS => ?_)
                                obtain ⟨n_62, en_62⟩ : ∃ y : Int32, y = l_8 + 1 := ⟨_, rfl⟩
                                have tn_62 : n_62.toInt = l_8.toInt + 1 := i_add en_62 (rfl : l_8.toInt = l_8.toInt) (by decide : (1 : Int32).toInt = 1) (by omega) (by omega)
                                refine lv_iinc (v := n_62) (lv' := [(4, .int n_62), (8, .int n_60), (3, .int n_41), (7, .int n_39), (2, .int n_20), (6, .int n_19), (5, .int n_17), (0, .ref (hs 12)), (1, .int fr)]) hx hb dX6_run_402 hl (k := 6) rfl (by rw [en_62]; rfl) (by decide) rfl (fun ls hl => ?_)
                                refine lv_goto (tgt := 7) hx hb dX6_run_405 (by decide) ?_
                                exact ih7_9 f_61 n_20 n_41 n_62 (by omega) (by omega) _ _ _ hP hD hS (lv_sub hl [0, 2, 4, 7, 8] rfl)
                              · refine lv_tableIn (tgt := 326) (off := 73) hx hb dX6_run_253 (by omega) (by omega) (by rw [c_43]; rfl) (by decide) ?_
                                refine lv_iload hx hb dX6_run_326 (lv_at hl 0 rfl) ?_
                                refine lv_iload hx hb dX6_run_328 (lv_at hl 2 rfl) ?_
                                refine lv_idiv hx hb dX6_run_330 (i_nz (rfl : n_39.toInt = n_39.toInt) (by omega)) ?_
                                refine lv_topi (fun n_63 en_63 => ?_)
                                refine lv_istore (lv' := [(8, .int n_63), (3, .int n_41), (7, .int n_39), (2, .int n_20), (6, .int n_19), (5, .int n_17), (4, .int l_8), (0, .ref (hs 12)), (1, .int fr)]) hx hb dX6_run_331 hl (by decide) rfl (fun ls hl => ?_)
                                refine lv_goto (tgt := 394) hx hb dX6_run_333 (by decide) ?_
                                refine lv_aload_n hx hb dX6_run_394 rfl (lv_at hl 7 rfl) ?_
                                refine gt_SP_rules_stack hx hb hts hown hK hP lwd_73 dX6_run_395 ?_
                                refine lv_iload_n hx hb dX6_run_398 rfl (lv_at hl 1 rfl) ?_
                                refine lv_iload hx hb dX6_run_399 (lv_at hl 0 rfl) ?_
                                refine as_rstack (x := n_63) hx hb hK hP hD hS (i_in tn_41 (by omega) (by omega)) dX6_run_401 (fun f_64 ef_64 H locs hP hD hS => ?_)
                                obtain ⟨n_65, en_65⟩ : ∃ y : Int32, y = l_8 + 1 := ⟨_, rfl⟩
                                have tn_65 : n_65.toInt = l_8.toInt + 1 := i_add en_65 (rfl : l_8.toInt = l_8.toInt) (by decide : (1 : Int32).toInt = 1) (by omega) (by omega)
                                refine lv_iinc (v := n_65) (lv' := [(4, .int n_65), (8, .int n_63), (3, .int n_41), (7, .int n_39), (2, .int n_20), (6, .int n_19), (5, .int n_17), (0, .ref (hs 12)), (1, .int fr)]) hx hb dX6_run_402 hl (k := 6) rfl (by rw [en_65]; rfl) (by decide) rfl (fun ls hl => ?_)
                                refine lv_goto (tgt := 7) hx hb dX6_run_405 (by decide) ?_
                                exact ih7_9 f_64 n_20 n_41 n_65 (by omega) (by omega) _ _ _ hP hD hS (lv_sub hl [0, 2, 4, 7, 8] rfl)
                              · refine lv_tableIn (tgt := 336) (off := 83) hx hb dX6_run_253 (by omega) (by omega) (by rw [c_43]; rfl) (by decide) ?_
                                refine lv_iload hx hb dX6_run_336 (lv_at hl 0 rfl) ?_
                                refine lv_iload hx hb dX6_run_338 (lv_at hl 2 rfl) ?_
                                refine lv_irem hx hb dX6_run_340 (i_nz (rfl : n_39.toInt = n_39.toInt) (by omega)) ?_
                                refine lv_topi (fun n_66 en_66 => ?_)
                                refine lv_istore (lv' := [(8, .int n_66), (3, .int n_41), (7, .int n_39), (2, .int n_20), (6, .int n_19), (5, .int n_17), (4, .int l_8), (0, .ref (hs 12)), (1, .int fr)]) hx hb dX6_run_341 hl (by decide) rfl (fun ls hl => ?_)
                                refine lv_goto (tgt := 394) hx hb dX6_run_343 (by decide) ?_
                                refine lv_aload_n hx hb dX6_run_394 rfl (lv_at hl 7 rfl) ?_
                                refine gt_SP_rules_stack hx hb hts hown hK hP lwd_73 dX6_run_395 ?_
                                refine lv_iload_n hx hb dX6_run_398 rfl (lv_at hl 1 rfl) ?_
                                refine lv_iload hx hb dX6_run_399 (lv_at hl 0 rfl) ?_
                                refine as_rstack (x := n_66) hx hb hK hP hD hS (i_in tn_41 (by omega) (by omega)) dX6_run_401 (fun f_67 ef_67 H locs hP hD hS => ?_)
                                obtain ⟨n_68, en_68⟩ : ∃ y : Int32, y = l_8 + 1 := ⟨_, rfl⟩
                                have tn_68 : n_68.toInt = l_8.toInt + 1 := i_add en_68 (rfl : l_8.toInt = l_8.toInt) (by decide : (1 : Int32).toInt = 1) (by omega) (by omega)
                                refine lv_iinc (v := n_68) (lv' := [(4, .int n_68), (8, .int n_66), (3, .int n_41), (7, .int n_39), (2, .int n_20), (6, .int n_19), (5, .int n_17), (0, .ref (hs 12)), (1, .int fr)]) hx hb dX6_run_402 hl (k := 6) rfl (by rw [en_68]; rfl) (by decide) rfl (fun ls hl => ?_)
                                refine lv_goto (tgt := 7) hx hb dX6_run_405 (by decide) ?_
                                exact ih7_9 f_67 n_20 n_41 n_68 (by omega) (by omega) _ _ _ hP hD hS (lv_sub hl [0, 2, 4, 7, 8] rfl)
                              · refine lv_tableIn (tgt := 346) (off := 93) hx hb dX6_run_253 (by omega) (by omega) (by rw [c_43]; rfl) (by decide) ?_
                                refine lv_iload hx hb dX6_run_346 (lv_at hl 0 rfl) ?_
                                refine lv_iload hx hb dX6_run_348 (lv_at hl 2 rfl) ?_
                                refine lv_icmp_ge (tgt := 357) hx hb dX6_run_350 (by decide) (fun c_69 => ?_) (fun c_69 => ?_)
                                · have gc_69 : n_39.toInt ≤ n_42.toInt := i_le (rfl : n_39.toInt = n_39.toInt) (rfl : n_42.toInt = n_42.toInt) c_69
                                  refine lv_iconst (v := 0) hx hb dX6_run_357 (by decide) ?_
                                  refine lv_istore (lv' := [(8, .int 0), (3, .int n_41), (7, .int n_39), (2, .int n_20), (6, .int n_19), (5, .int n_17), (4, .int l_8), (0, .ref (hs 12)), (1, .int fr)]) hx hb dX6_run_358 hl (by decide) rfl (fun ls hl => ?_)
                                  refine lv_goto (tgt := 394) hx hb dX6_run_360 (by decide) ?_
                                  refine lv_aload_n hx hb dX6_run_394 rfl (lv_at hl 7 rfl) ?_
                                  refine gt_SP_rules_stack hx hb hts hown hK hP lwd_73 dX6_run_395 ?_
                                  refine lv_iload_n hx hb dX6_run_398 rfl (lv_at hl 1 rfl) ?_
                                  refine lv_iload hx hb dX6_run_399 (lv_at hl 0 rfl) ?_
                                  refine as_rstack (x := 0) hx hb hK hP hD hS (i_in tn_41 (by omega) (by omega)) dX6_run_401 (fun f_70 ef_70 H locs hP hD hS => ?_)
                                  obtain ⟨n_71, en_71⟩ : ∃ y : Int32, y = l_8 + 1 := ⟨_, rfl⟩
                                  have tn_71 : n_71.toInt = l_8.toInt + 1 := i_add en_71 (rfl : l_8.toInt = l_8.toInt) (by decide : (1 : Int32).toInt = 1) (by omega) (by omega)
                                  refine lv_iinc (v := n_71) (lv' := [(4, .int n_71), (8, .int 0), (3, .int n_41), (7, .int n_39), (2, .int n_20), (6, .int n_19), (5, .int n_17), (0, .ref (hs 12)), (1, .int fr)]) hx hb dX6_run_402 hl (k := 6) rfl (by rw [en_71]; rfl) (by decide) rfl (fun ls hl => ?_)
                                  refine lv_goto (tgt := 7) hx hb dX6_run_405 (by decide) ?_
                                  exact ih7_9 f_70 n_20 n_41 n_71 (by omega) (by omega) _ _ _ hP hD hS (lv_sub hl [0, 2, 4, 7, 8] rfl)
                                · have gc_69 : n_42.toInt < n_39.toInt := i_nle (rfl : n_39.toInt = n_39.toInt) (rfl : n_42.toInt = n_42.toInt) c_69
                                  refine lv_iconst (v := 1) hx hb dX6_run_353 (by decide) ?_
                                  refine lv_goto (tgt := 358) hx hb dX6_run_354 (by decide) ?_
                                  refine lv_istore (lv' := [(8, .int 1), (3, .int n_41), (7, .int n_39), (2, .int n_20), (6, .int n_19), (5, .int n_17), (4, .int l_8), (0, .ref (hs 12)), (1, .int fr)]) hx hb dX6_run_358 hl (by decide) rfl (fun ls hl => ?_)
                                  refine lv_goto (tgt := 394) hx hb dX6_run_360 (by decide) ?_
                                  refine lv_aload_n hx hb dX6_run_394 rfl (lv_at hl 7 rfl) ?_
                                  refine gt_SP_rules_stack hx hb hts hown hK hP lwd_73 dX6_run_395 ?_
                                  refine lv_iload_n hx hb dX6_run_398 rfl (lv_at hl 1 rfl) ?_
                                  refine lv_iload hx hb dX6_run_399 (lv_at hl 0 rfl) ?_
                                  refine as_rstack (x := 1) hx hb hK hP hD hS (i_in tn_41 (by omega) (by omega)) dX6_run_401 (fun f_72 ef_72 H locs hP hD hS => ?_)
                                  obtain ⟨n_73, en_73⟩ : ∃ y : Int32, y = l_8 + 1 := ⟨_, rfl⟩
                                  have tn_73 : n_73.toInt = l_8.toInt + 1 := i_add en_73 (rfl : l_8.toInt = l_8.toInt) (by decide : (1 : Int32).toInt = 1) (by omega) (by omega)
                                  refine lv_iinc (v := n_73) (lv' := [(4, .int n_73), (8, .int 1), (3, .int n_41), (7, .int n_39), (2, .int n_20), (6, .int n_19), (5, .int n_17), (0, .ref (hs 12)), (1, .int fr)]) hx hb dX6_run_402 hl (k := 6) rfl (by rw [en_73]; rfl) (by decide) rfl (fun ls hl => ?_)
                                  refine lv_goto (tgt := 7) hx hb dX6_run_405 (by decide) ?_
                                  exact ih7_9 f_72 n_20 n_41 n_73 (by omega) (by omega) _ _ _ hP hD hS (lv_sub hl [0, 2, 4, 7, 8] rfl)
                              · refine lv_tableIn (tgt := 363) (off := 110) hx hb dX6_run_253 (by omega) (by omega) (by rw [c_43]; rfl) (by decide) ?_
                                refine lv_iload hx hb dX6_run_363 (lv_at hl 0 rfl) ?_
                                refine lv_iload hx hb dX6_run_365 (lv_at hl 2 rfl) ?_
                                refine lv_icmp_le (tgt := 374) hx hb dX6_run_367 (by decide) (fun c_74 => ?_) (fun c_74 => ?_)
                                · have gc_74 : n_42.toInt ≤ n_39.toInt := i_le (rfl : n_42.toInt = n_42.toInt) (rfl : n_39.toInt = n_39.toInt) c_74
                                  refine lv_iconst (v := 0) hx hb dX6_run_374 (by decide) ?_
                                  refine lv_istore (lv' := [(8, .int 0), (3, .int n_41), (7, .int n_39), (2, .int n_20), (6, .int n_19), (5, .int n_17), (4, .int l_8), (0, .ref (hs 12)), (1, .int fr)]) hx hb dX6_run_375 hl (by decide) rfl (fun ls hl => ?_)
                                  refine lv_goto (tgt := 394) hx hb dX6_run_377 (by decide) ?_
                                  refine lv_aload_n hx hb dX6_run_394 rfl (lv_at hl 7 rfl) ?_
                                  refine gt_SP_rules_stack hx hb hts hown hK hP lwd_73 dX6_run_395 ?_
                                  refine lv_iload_n hx hb dX6_run_398 rfl (lv_at hl 1 rfl) ?_
                                  refine lv_iload hx hb dX6_run_399 (lv_at hl 0 rfl) ?_
                                  refine as_rstack (x := 0) hx hb hK hP hD hS (i_in tn_41 (by omega) (by omega)) dX6_run_401 (fun f_75 ef_75 H locs hP hD hS => ?_)
                                  obtain ⟨n_76, en_76⟩ : ∃ y : Int32, y = l_8 + 1 := ⟨_, rfl⟩
                                  have tn_76 : n_76.toInt = l_8.toInt + 1 := i_add en_76 (rfl : l_8.toInt = l_8.toInt) (by decide : (1 : Int32).toInt = 1) (by omega) (by omega)
                                  refine lv_iinc (v := n_76) (lv' := [(4, .int n_76), (8, .int 0), (3, .int n_41), (7, .int n_39), (2, .int n_20), (6, .int n_19), (5, .int n_17), (0, .ref (hs 12)), (1, .int fr)]) hx hb dX6_run_402 hl (k := 6) rfl (by rw [en_76]; rfl) (by decide) rfl (fun ls hl => ?_)
                                  refine lv_goto (tgt := 7) hx hb dX6_run_405 (by decide) ?_
                                  exact ih7_9 f_75 n_20 n_41 n_76 (by omega) (by omega) _ _ _ hP hD hS (lv_sub hl [0, 2, 4, 7, 8] rfl)
                                · have gc_74 : n_39.toInt < n_42.toInt := i_nle (rfl : n_42.toInt = n_42.toInt) (rfl : n_39.toInt = n_39.toInt) c_74
                                  refine lv_iconst (v := 1) hx hb dX6_run_370 (by decide) ?_
                                  refine lv_goto (tgt := 375) hx hb dX6_run_371 (by decide) ?_
                                  refine lv_istore (lv' := [(8, .int 1), (3, .int n_41), (7, .int n_39), (2, .int n_20), (6, .int n_19), (5, .int n_17), (4, .int l_8), (0, .ref (hs 12)), (1, .int fr)]) hx hb dX6_run_375 hl (by decide) rfl (fun ls hl => ?_)
                                  refine lv_goto (tgt := 394) hx hb dX6_run_377 (by decide) ?_
                                  refine lv_aload_n hx hb dX6_run_394 rfl (lv_at hl 7 rfl) ?_
                                  refine gt_SP_rules_stack hx hb hts hown hK hP lwd_73 dX6_run_395 ?_
                                  refine lv_iload_n hx hb dX6_run_398 rfl (lv_at hl 1 rfl) ?_
                                  refine lv_iload hx hb dX6_run_399 (lv_at hl 0 rfl) ?_
                                  refine as_rstack (x := 1) hx hb hK hP hD hS (i_in tn_41 (by omega) (by omega)) dX6_run_401 (fun f_77 ef_77 H locs hP hD hS => ?_)
                                  obtain ⟨n_78, en_78⟩ : ∃ y : Int32, y = l_8 + 1 := ⟨_, rfl⟩
                                  have tn_78 : n_78.toInt = l_8.toInt + 1 := i_add en_78 (rfl : l_8.toInt = l_8.toInt) (by decide : (1 : Int32).toInt = 1) (by omega) (by omega)
                                  refine lv_iinc (v := n_78) (lv' := [(4, .int n_78), (8, .int 1), (3, .int n_41), (7, .int n_39), (2, .int n_20), (6, .int n_19), (5, .int n_17), (0, .ref (hs 12)), (1, .int fr)]) hx hb dX6_run_402 hl (k := 6) rfl (by rw [en_78]; rfl) (by decide) rfl (fun ls hl => ?_)
                                  refine lv_goto (tgt := 7) hx hb dX6_run_405 (by decide) ?_
                                  exact ih7_9 f_77 n_20 n_41 n_78 (by omega) (by omega) _ _ _ hP hD hS (lv_sub hl [0, 2, 4, 7, 8] rfl)
                            · have gc_40 : n_39.toInt = 0 := i_eq (rfl : n_39.toInt = n_39.toInt) (by decide : (0 : Int32).toInt = 0) c_40
                              refine lv_iload hx hb dX6_run_224 (lv_at hl 2 rfl) ?_
                              refine lv_bipush (v := 9) hx hb dX6_run_226 (by decide) ?_
                              refine lv_icmp_eq (tgt := 238) hx hb dX6_run_228 (by decide) (fun c_79 => ?_) (fun c_79 => ?_)
                              · have gc_79 : n_19.toInt = 9 := i_eq (rfl : n_19.toInt = n_19.toInt) (by decide : (9 : Int32).toInt = 9) c_79
                                refine lv_iconst (v := 0) hx hb dX6_run_238 (by decide) ?_
                                have k_80 : (0 : Int32).toInt = 0 := by decide
                                exact hrt 0 f_5  hP hD hS rfl dX6_run_239
                              · have gc_79 : n_19.toInt ≠ 9 := i_ne (rfl : n_19.toInt = n_19.toInt) (by decide : (9 : Int32).toInt = 9) c_79
                                refine lv_iload hx hb dX6_run_231 (lv_at hl 2 rfl) ?_
                                refine lv_bipush (v := 10) hx hb dX6_run_233 (by decide) ?_
                                refine lv_icmp_ne (tgt := 240) hx hb dX6_run_235 (by decide) (fun c_81 => ?_) (fun c_81 => ?_)
                                · have gc_81 : n_19.toInt ≠ 10 := i_ne (rfl : n_19.toInt = n_19.toInt) (by decide : (10 : Int32).toInt = 10) c_81
                                  obtain ⟨n_82, en_82⟩ : ∃ y : Int32, y = l_7 + (-1) := ⟨_, rfl⟩
                                  have tn_82 : n_82.toInt = l_7.toInt + (-1) := i_add en_82 (rfl : l_7.toInt = l_7.toInt) (by decide : ((-1) : Int32).toInt = (-1)) (by omega) (by omega)
                                  refine lv_iinc (v := n_82) (lv' := [(3, .int n_82), (7, .int n_39), (2, .int n_20), (6, .int n_19), (5, .int n_17), (4, .int l_8), (0, .ref (hs 12)), (1, .int fr)]) hx hb dX6_run_240 hl (k := 5) rfl (by rw [en_82]; rfl) (by decide) rfl (fun ls hl => ?_)
                                  refine lv_aload_n hx hb dX6_run_243 rfl (lv_at hl 6 rfl) ?_
                                  refine gt_SP_rules_stack hx hb hts hown hK hP lwd_73 dX6_run_244 ?_
                                  refine lv_iload_n hx hb dX6_run_247 rfl (lv_at hl 0 rfl) ?_
                                  refine al_rstack hx hb hK hP (i_in tn_82 (by omega) (by omega)) dX6_run_248 (fun n_83 en_83 => ?_)
                                  refine lv_istore (lv' := [(8, .int n_83), (3, .int n_82), (7, .int n_39), (2, .int n_20), (6, .int n_19), (5, .int n_17), (4, .int l_8), (0, .ref (hs 12)), (1, .int fr)]) hx hb dX6_run_249 hl (by decide) rfl (fun ls hl => ?_)
                                  refine lv_iload hx hb dX6_run_251 (lv_at hl 4 rfl) ?_
                                  rcases (show n_19.toInt < 6 ∨ 12 < n_19.toInt ∨ n_19.toInt = 6 ∨ n_19.toInt = 7 ∨ n_19.toInt = 8 ∨ n_19.toInt = 9 ∨ n_19.toInt = 10 ∨ n_19.toInt = 11 ∨ n_19.toInt = 12 by omega) with c_84 | c_84 | c_84 | c_84 | c_84 | c_84 | c_84 | c_84 | c_84
                                  · refine lv_tableOut (tgt := 380) hx hb dX6_run_253 (Or.inl c_84) (by decide) ?_
                                    refine lv_iload hx hb dX6_run_380 (lv_at hl 0 rfl) ?_
                                    refine lv_iload hx hb dX6_run_382 (lv_at hl 2 rfl) ?_
                                    refine lv_icmp_ne (tgt := 391) hx hb dX6_run_384 (by decide) (fun c_85 => ?_) (fun c_85 => ?_)
                                    · have gc_85 : n_83.toInt ≠ n_39.toInt := i_ne (rfl : n_83.toInt = n_83.toInt) (rfl : n_39.toInt = n_39.toInt) c_85
                                      refine lv_iconst (v := 0) hx hb dX6_run_391 (by decide) ?_
                                      refine lv_istore (lv' := [(8, .int 0), (3, .int n_82), (7, .int n_39), (2, .int n_20), (6, .int n_19), (5, .int n_17), (4, .int l_8), (0, .ref (hs 12)), (1, .int fr)]) hx hb dX6_run_392 hl (by decide) rfl (fun ls hl => ?_)
                                      refine lv_aload_n hx hb dX6_run_394 rfl (lv_at hl 7 rfl) ?_
                                      refine gt_SP_rules_stack hx hb hts hown hK hP lwd_73 dX6_run_395 ?_
                                      refine lv_iload_n hx hb dX6_run_398 rfl (lv_at hl 1 rfl) ?_
                                      refine lv_iload hx hb dX6_run_399 (lv_at hl 0 rfl) ?_
                                      refine as_rstack (x := 0) hx hb hK hP hD hS (i_in tn_82 (by omega) (by omega)) dX6_run_401 (fun f_86 ef_86 H locs hP hD hS => ?_)
                                      obtain ⟨n_87, en_87⟩ : ∃ y : Int32, y = l_8 + 1 := ⟨_, rfl⟩
                                      have tn_87 : n_87.toInt = l_8.toInt + 1 := i_add en_87 (rfl : l_8.toInt = l_8.toInt) (by decide : (1 : Int32).toInt = 1) (by omega) (by omega)
                                      refine lv_iinc (v := n_87) (lv' := [(4, .int n_87), (8, .int 0), (3, .int n_82), (7, .int n_39), (2, .int n_20), (6, .int n_19), (5, .int n_17), (0, .ref (hs 12)), (1, .int fr)]) hx hb dX6_run_402 hl (k := 6) rfl (by rw [en_87]; rfl) (by decide) rfl (fun ls hl => ?_)
                                      refine lv_goto (tgt := 7) hx hb dX6_run_405 (by decide) ?_
                                      exact ih7_9 f_86 n_20 n_82 n_87 (by omega) (by omega) _ _ _ hP hD hS (lv_sub hl [0, 2, 4, 7, 8] rfl)
                                    · have gc_85 : n_83.toInt = n_39.toInt := i_eq (rfl : n_83.toInt = n_83.toInt) (rfl : n_39.toInt = n_39.toInt) c_85
                                      refine lv_iconst (v := 1) hx hb dX6_run_387 (by decide) ?_
                                      refine lv_goto (tgt := 392) hx hb dX6_run_388 (by decide) ?_
                                      refine lv_istore (lv' := [(8, .int 1), (3, .int n_82), (7, .int n_39), (2, .int n_20), (6, .int n_19), (5, .int n_17), (4, .int l_8), (0, .ref (hs 12)), (1, .int fr)]) hx hb dX6_run_392 hl (by decide) rfl (fun ls hl => ?_)
                                      refine lv_aload_n hx hb dX6_run_394 rfl (lv_at hl 7 rfl) ?_
                                      refine gt_SP_rules_stack hx hb hts hown hK hP lwd_73 dX6_run_395 ?_
                                      refine lv_iload_n hx hb dX6_run_398 rfl (lv_at hl 1 rfl) ?_
                                      refine lv_iload hx hb dX6_run_399 (lv_at hl 0 rfl) ?_
                                      refine as_rstack (x := 1) hx hb hK hP hD hS (i_in tn_82 (by omega) (by omega)) dX6_run_401 (fun f_88 ef_88 H locs hP hD hS => ?_)
                                      obtain ⟨n_89, en_89⟩ : ∃ y : Int32, y = l_8 + 1 := ⟨_, rfl⟩
                                      have tn_89 : n_89.toInt = l_8.toInt + 1 := i_add en_89 (rfl : l_8.toInt = l_8.toInt) (by decide : (1 : Int32).toInt = 1) (by omega) (by omega)
                                      refine lv_iinc (v := n_89) (lv' := [(4, .int n_89), (8, .int 1), (3, .int n_82), (7, .int n_39), (2, .int n_20), (6, .int n_19), (5, .int n_17), (0, .ref (hs 12)), (1, .int fr)]) hx hb dX6_run_402 hl (k := 6) rfl (by rw [en_89]; rfl) (by decide) rfl (fun ls hl => ?_)
                                      refine lv_goto (tgt := 7) hx hb dX6_run_405 (by decide) ?_
                                      exact ih7_9 f_88 n_20 n_82 n_89 (by omega) (by omega) _ _ _ hP hD hS (lv_sub hl [0, 2, 4, 7, 8] rfl)
                                  · refine lv_tableOut (tgt := 380) hx hb dX6_run_253 (Or.inr c_84) (by decide) ?_
                                    refine lv_iload hx hb dX6_run_380 (lv_at hl 0 rfl) ?_
                                    refine lv_iload hx hb dX6_run_382 (lv_at hl 2 rfl) ?_
                                    refine lv_icmp_ne (tgt := 391) hx hb dX6_run_384 (by decide) (fun c_90 => ?_) (fun c_90 => ?_)
                                    · have gc_90 : n_83.toInt ≠ n_39.toInt := i_ne (rfl : n_83.toInt = n_83.toInt) (rfl : n_39.toInt = n_39.toInt) c_90
                                      refine lv_iconst (v := 0) hx hb dX6_run_391 (by decide) ?_
                                      refine lv_istore (lv' := [(8, .int 0), (3, .int n_82), (7, .int n_39), (2, .int n_20), (6, .int n_19), (5, .int n_17), (4, .int l_8), (0, .ref (hs 12)), (1, .int fr)]) hx hb dX6_run_392 hl (by decide) rfl (fun ls hl => ?_)
                                      refine lv_aload_n hx hb dX6_run_394 rfl (lv_at hl 7 rfl) ?_
                                      refine gt_SP_rules_stack hx hb hts hown hK hP lwd_73 dX6_run_395 ?_
                                      refine lv_iload_n hx hb dX6_run_398 rfl (lv_at hl 1 rfl) ?_
                                      refine lv_iload hx hb dX6_run_399 (lv_at hl 0 rfl) ?_
                                      refine as_rstack (x := 0) hx hb hK hP hD hS (i_in tn_82 (by omega) (by omega)) dX6_run_401 (fun f_91 ef_91 H locs hP hD hS => ?_)
                                      obtain ⟨n_92, en_92⟩ : ∃ y : Int32, y = l_8 + 1 := ⟨_, rfl⟩
                                      have tn_92 : n_92.toInt = l_8.toInt + 1 := i_add en_92 (rfl : l_8.toInt = l_8.toInt) (by decide : (1 : Int32).toInt = 1) (by omega) (by omega)
                                      refine lv_iinc (v := n_92) (lv' := [(4, .int n_92), (8, .int 0), (3, .int n_82), (7, .int n_39), (2, .int n_20), (6, .int n_19), (5, .int n_17), (0, .ref (hs 12)), (1, .int fr)]) hx hb dX6_run_402 hl (k := 6) rfl (by rw [en_92]; rfl) (by decide) rfl (fun ls hl => ?_)
                                      refine lv_goto (tgt := 7) hx hb dX6_run_405 (by decide) ?_
                                      exact ih7_9 f_91 n_20 n_82 n_92 (by omega) (by omega) _ _ _ hP hD hS (lv_sub hl [0, 2, 4, 7, 8] rfl)
                                    · have gc_90 : n_83.toInt = n_39.toInt := i_eq (rfl : n_83.toInt = n_83.toInt) (rfl : n_39.toInt = n_39.toInt) c_90
                                      refine lv_iconst (v := 1) hx hb dX6_run_387 (by decide) ?_
                                      refine lv_goto (tgt := 392) hx hb dX6_run_388 (by decide) ?_
                                      refine lv_istore (lv' := [(8, .int 1), (3, .int n_82), (7, .int n_39), (2, .int n_20), (6, .int n_19), (5, .int n_17), (4, .int l_8), (0, .ref (hs 12)), (1, .int fr)]) hx hb dX6_run_392 hl (by decide) rfl (fun ls hl => ?_)
                                      refine lv_aload_n hx hb dX6_run_394 rfl (lv_at hl 7 rfl) ?_
                                      refine gt_SP_rules_stack hx hb hts hown hK hP lwd_73 dX6_run_395 ?_
                                      refine lv_iload_n hx hb dX6_run_398 rfl (lv_at hl 1 rfl) ?_
                                      refine lv_iload hx hb dX6_run_399 (lv_at hl 0 rfl) ?_
                                      refine as_rstack (x := 1) hx hb hK hP hD hS (i_in tn_82 (by omega) (by omega)) dX6_run_401 (fun f_93 ef_93 H locs hP hD hS => ?_)
                                      obtain ⟨n_94, en_94⟩ : ∃ y : Int32, y = l_8 + 1 := ⟨_, rfl⟩
                                      have tn_94 : n_94.toInt = l_8.toInt + 1 := i_add en_94 (rfl : l_8.toInt = l_8.toInt) (by decide : (1 : Int32).toInt = 1) (by omega) (by omega)
                                      refine lv_iinc (v := n_94) (lv' := [(4, .int n_94), (8, .int 1), (3, .int n_82), (7, .int n_39), (2, .int n_20), (6, .int n_19), (5, .int n_17), (0, .ref (hs 12)), (1, .int fr)]) hx hb dX6_run_402 hl (k := 6) rfl (by rw [en_94]; rfl) (by decide) rfl (fun ls hl => ?_)
                                      refine lv_goto (tgt := 7) hx hb dX6_run_405 (by decide) ?_
                                      exact ih7_9 f_93 n_20 n_82 n_94 (by omega) (by omega) _ _ _ hP hD hS (lv_sub hl [0, 2, 4, 7, 8] rfl)
                                  · refine lv_tableIn (tgt := 296) (off := 43) hx hb dX6_run_253 (by omega) (by omega) (by rw [c_84]; rfl) (by decide) ?_
                                    refine lv_iload hx hb dX6_run_296 (lv_at hl 0 rfl) ?_
                                    refine lv_iload hx hb dX6_run_298 (lv_at hl 2 rfl) ?_
                                    refine lv_iadd hx hb dX6_run_300 ?_
                                    have hb_95 := And.intro (i_bot n_83) (i_top n_83)
                                    refine lv_topi (fun n_96 en_96 => ?_)
                                    have tn_96 : n_96.toInt = n_83.toInt + n_39.toInt := i_add en_96 (rfl : n_83.toInt = n_83.toInt) (rfl : n_39.toInt = n_39.toInt) (by omega) (by omega)
                                    refine lv_istore (lv' := [(8, .int n_96), (3, .int n_82), (7, .int n_39), (2, .int n_20), (6, .int n_19), (5, .int n_17), (4, .int l_8), (0, .ref (hs 12)), (1, .int fr)]) hx hb dX6_run_301 hl (by decide) rfl (fun ls hl => ?_)
                                    refine lv_goto (tgt := 394) hx hb dX6_run_303 (by decide) ?_
                                    refine lv_aload_n hx hb dX6_run_394 rfl (lv_at hl 7 rfl) ?_
                                    refine gt_SP_rules_stack hx hb hts hown hK hP lwd_73 dX6_run_395 ?_
                                    refine lv_iload_n hx hb dX6_run_398 rfl (lv_at hl 1 rfl) ?_
                                    refine lv_iload hx hb dX6_run_399 (lv_at hl 0 rfl) ?_
                                    refine as_rstack (x := n_96) hx hb hK hP hD hS (i_in tn_82 (by omega) (by omega)) dX6_run_401 (fun f_97 ef_97 H locs hP hD hS => ?_)
                                    obtain ⟨n_98, en_98⟩ : ∃ y : Int32, y = l_8 + 1 := ⟨_, rfl⟩
                                    have tn_98 : n_98.toInt = l_8.toInt + 1 := i_add en_98 (rfl : l_8.toInt = l_8.toInt) (by decide : (1 : Int32).toInt = 1) (by omega) (by omega)
                                    refine lv_iinc (v := n_98) (lv' := [(4, .int n_98), (8, .int n_96), (3, .int n_82), (7, .int n_39), (2, .int n_20), (6, .int n_19), (5, .int n_17), (0, .ref (hs 12)), (1, .int fr)]) hx hb dX6_run_402 hl (k := 6) rfl (by rw [en_98]; rfl) (by decide) rfl (fun ls hl => ?_)
                                    refine lv_goto (tgt := 7) hx hb dX6_run_405 (by decide) ?_
                                    exact ih7_9 f_97 n_20 n_82 n_98 (by omega) (by omega) _ _ _ hP hD hS (lv_sub hl [0, 2, 4, 7, 8] rfl)
                                  · refine lv_tableIn (tgt := 306) (off := 53) hx hb dX6_run_253 (by omega) (by omega) (by rw [c_84]; rfl) (by decide) ?_
                                    refine lv_iload hx hb dX6_run_306 (lv_at hl 0 rfl) ?_
                                    refine lv_iload hx hb dX6_run_308 (lv_at hl 2 rfl) ?_
                                    refine lv_isub hx hb dX6_run_310 ?_
                                    have hb_99 := And.intro (i_bot n_83) (i_top n_83)
                                    refine lv_topi (fun n_100 en_100 => ?_)
                                    have tn_100 : n_100.toInt = n_83.toInt - n_39.toInt := i_sub en_100 (rfl : n_83.toInt = n_83.toInt) (rfl : n_39.toInt = n_39.toInt) (by omega) (by omega)
                                    refine lv_istore (lv' := [(8, .int n_100), (3, .int n_82), (7, .int n_39), (2, .int n_20), (6, .int n_19), (5, .int n_17), (4, .int l_8), (0, .ref (hs 12)), (1, .int fr)]) hx hb dX6_run_311 hl (by decide) rfl (fun ls hl => ?_)
                                    refine lv_goto (tgt := 394) hx hb dX6_run_313 (by decide) ?_
                                    refine lv_aload_n hx hb dX6_run_394 rfl (lv_at hl 7 rfl) ?_
                                    refine gt_SP_rules_stack hx hb hts hown hK hP lwd_73 dX6_run_395 ?_
                                    refine lv_iload_n hx hb dX6_run_398 rfl (lv_at hl 1 rfl) ?_
                                    refine lv_iload hx hb dX6_run_399 (lv_at hl 0 rfl) ?_
                                    refine as_rstack (x := n_100) hx hb hK hP hD hS (i_in tn_82 (by omega) (by omega)) dX6_run_401 (fun f_101 ef_101 H locs hP hD hS => ?_)
                                    obtain ⟨n_102, en_102⟩ : ∃ y : Int32, y = l_8 + 1 := ⟨_, rfl⟩
                                    have tn_102 : n_102.toInt = l_8.toInt + 1 := i_add en_102 (rfl : l_8.toInt = l_8.toInt) (by decide : (1 : Int32).toInt = 1) (by omega) (by omega)
                                    refine lv_iinc (v := n_102) (lv' := [(4, .int n_102), (8, .int n_100), (3, .int n_82), (7, .int n_39), (2, .int n_20), (6, .int n_19), (5, .int n_17), (0, .ref (hs 12)), (1, .int fr)]) hx hb dX6_run_402 hl (k := 6) rfl (by rw [en_102]; rfl) (by decide) rfl (fun ls hl => ?_)
                                    refine lv_goto (tgt := 7) hx hb dX6_run_405 (by decide) ?_
                                    exact ih7_9 f_101 n_20 n_82 n_102 (by omega) (by omega) _ _ _ hP hD hS (lv_sub hl [0, 2, 4, 7, 8] rfl)
                                  · refine lv_tableIn (tgt := 316) (off := 63) hx hb dX6_run_253 (by omega) (by omega) (by rw [c_84]; rfl) (by decide) ?_
                                    refine lv_iload hx hb dX6_run_316 (lv_at hl 0 rfl) ?_
                                    refine lv_iload hx hb dX6_run_318 (lv_at hl 2 rfl) ?_
                                    refine lv_imul hx hb dX6_run_320 ?_
                                    refine lv_topi (fun n_103 en_103 => ?_)
                                    refine lv_istore (lv' := [(8, .int n_103), (3, .int n_82), (7, .int n_39), (2, .int n_20), (6, .int n_19), (5, .int n_17), (4, .int l_8), (0, .ref (hs 12)), (1, .int fr)]) hx hb dX6_run_321 hl (by decide) rfl (fun ls hl => ?_)
                                    refine lv_goto (tgt := 394) hx hb dX6_run_323 (by decide) ?_
                                    refine lv_aload_n hx hb dX6_run_394 rfl (lv_at hl 7 rfl) ?_
                                    refine gt_SP_rules_stack hx hb hts hown hK hP lwd_73 dX6_run_395 ?_
                                    refine lv_iload_n hx hb dX6_run_398 rfl (lv_at hl 1 rfl) ?_
                                    refine lv_iload hx hb dX6_run_399 (lv_at hl 0 rfl) ?_
                                    refine as_rstack (x := n_103) hx hb hK hP hD hS (i_in tn_82 (by omega) (by omega)) dX6_run_401 (fun f_104 ef_104 H locs hP hD hS => ?_)
                                    obtain ⟨n_105, en_105⟩ : ∃ y : Int32, y = l_8 + 1 := ⟨_, rfl⟩
                                    have tn_105 : n_105.toInt = l_8.toInt + 1 := i_add en_105 (rfl : l_8.toInt = l_8.toInt) (by decide : (1 : Int32).toInt = 1) (by omega) (by omega)
                                    refine lv_iinc (v := n_105) (lv' := [(4, .int n_105), (8, .int n_103), (3, .int n_82), (7, .int n_39), (2, .int n_20), (6, .int n_19), (5, .int n_17), (0, .ref (hs 12)), (1, .int fr)]) hx hb dX6_run_402 hl (k := 6) rfl (by rw [en_105]; rfl) (by decide) rfl (fun ls hl => ?_)
                                    refine lv_goto (tgt := 7) hx hb dX6_run_405 (by decide) ?_
                                    exact ih7_9 f_104 n_20 n_82 n_105 (by omega) (by omega) _ _ _ hP hD hS (lv_sub hl [0, 2, 4, 7, 8] rfl)
                                  · refine lv_tableIn (tgt := 326) (off := 73) hx hb dX6_run_253 (by omega) (by omega) (by rw [c_84]; rfl) (by decide) ?_
                                    refine lv_iload hx hb dX6_run_326 (lv_at hl 0 rfl) ?_
                                    refine lv_iload hx hb dX6_run_328 (lv_at hl 2 rfl) ?_
                                    refine lv_idiv hx hb dX6_run_330 (i_nz (rfl : n_39.toInt = n_39.toInt) (by omega)) ?_
                                    refine lv_topi (fun n_106 en_106 => ?_)
                                    refine lv_istore (lv' := [(8, .int n_106), (3, .int n_82), (7, .int n_39), (2, .int n_20), (6, .int n_19), (5, .int n_17), (4, .int l_8), (0, .ref (hs 12)), (1, .int fr)]) hx hb dX6_run_331 hl (by decide) rfl (fun ls hl => ?_)
                                    refine lv_goto (tgt := 394) hx hb dX6_run_333 (by decide) ?_
                                    refine lv_aload_n hx hb dX6_run_394 rfl (lv_at hl 7 rfl) ?_
                                    refine gt_SP_rules_stack hx hb hts hown hK hP lwd_73 dX6_run_395 ?_
                                    refine lv_iload_n hx hb dX6_run_398 rfl (lv_at hl 1 rfl) ?_
                                    refine lv_iload hx hb dX6_run_399 (lv_at hl 0 rfl) ?_
                                    refine as_rstack (x := n_106) hx hb hK hP hD hS (i_in tn_82 (by omega) (by omega)) dX6_run_401 (fun f_107 ef_107 H locs hP hD hS => ?_)
                                    obtain ⟨n_108, en_108⟩ : ∃ y : Int32, y = l_8 + 1 := ⟨_, rfl⟩
                                    have tn_108 : n_108.toInt = l_8.toInt + 1 := i_add en_108 (rfl : l_8.toInt = l_8.toInt) (by decide : (1 : Int32).toInt = 1) (by omega) (by omega)
                                    refine lv_iinc (v := n_108) (lv' := [(4, .int n_108), (8, .int n_106), (3, .int n_82), (7, .int n_39), (2, .int n_20), (6, .int n_19), (5, .int n_17), (0, .ref (hs 12)), (1, .int fr)]) hx hb dX6_run_402 hl (k := 6) rfl (by rw [en_108]; rfl) (by decide) rfl (fun ls hl => ?_)
                                    refine lv_goto (tgt := 7) hx hb dX6_run_405 (by decide) ?_
                                    exact ih7_9 f_107 n_20 n_82 n_108 (by omega) (by omega) _ _ _ hP hD hS (lv_sub hl [0, 2, 4, 7, 8] rfl)
                                  · refine lv_tableIn (tgt := 336) (off := 83) hx hb dX6_run_253 (by omega) (by omega) (by rw [c_84]; rfl) (by decide) ?_
                                    refine lv_iload hx hb dX6_run_336 (lv_at hl 0 rfl) ?_
                                    refine lv_iload hx hb dX6_run_338 (lv_at hl 2 rfl) ?_
                                    refine lv_irem hx hb dX6_run_340 (i_nz (rfl : n_39.toInt = n_39.toInt) (by omega)) ?_
                                    refine lv_topi (fun n_109 en_109 => ?_)
                                    refine lv_istore (lv' := [(8, .int n_109), (3, .int n_82), (7, .int n_39), (2, .int n_20), (6, .int n_19), (5, .int n_17), (4, .int l_8), (0, .ref (hs 12)), (1, .int fr)]) hx hb dX6_run_341 hl (by decide) rfl (fun ls hl => ?_)
                                    refine lv_goto (tgt := 394) hx hb dX6_run_343 (by decide) ?_
                                    refine lv_aload_n hx hb dX6_run_394 rfl (lv_at hl 7 rfl) ?_
                                    refine gt_SP_rules_stack hx hb hts hown hK hP lwd_73 dX6_run_395 ?_
                                    refine lv_iload_n hx hb dX6_run_398 rfl (lv_at hl 1 rfl) ?_
                                    refine lv_iload hx hb dX6_run_399 (lv_at hl 0 rfl) ?_
                                    refine as_rstack (x := n_109) hx hb hK hP hD hS (i_in tn_82 (by omega) (by omega)) dX6_run_401 (fun f_110 ef_110 H locs hP hD hS => ?_)
                                    obtain ⟨n_111, en_111⟩ : ∃ y : Int32, y = l_8 + 1 := ⟨_, rfl⟩
                                    have tn_111 : n_111.toInt = l_8.toInt + 1 := i_add en_111 (rfl : l_8.toInt = l_8.toInt) (by decide : (1 : Int32).toInt = 1) (by omega) (by omega)
                                    refine lv_iinc (v := n_111) (lv' := [(4, .int n_111), (8, .int n_109), (3, .int n_82), (7, .int n_39), (2, .int n_20), (6, .int n_19), (5, .int n_17), (0, .ref (hs 12)), (1, .int fr)]) hx hb dX6_run_402 hl (k := 6) rfl (by rw [en_111]; rfl) (by decide) rfl (fun ls hl => ?_)
                                    refine lv_goto (tgt := 7) hx hb dX6_run_405 (by decide) ?_
                                    exact ih7_9 f_110 n_20 n_82 n_111 (by omega) (by omega) _ _ _ hP hD hS (lv_sub hl [0, 2, 4, 7, 8] rfl)
                                  · refine lv_tableIn (tgt := 346) (off := 93) hx hb dX6_run_253 (by omega) (by omega) (by rw [c_84]; rfl) (by decide) ?_
                                    refine lv_iload hx hb dX6_run_346 (lv_at hl 0 rfl) ?_
                                    refine lv_iload hx hb dX6_run_348 (lv_at hl 2 rfl) ?_
                                    refine lv_icmp_ge (tgt := 357) hx hb dX6_run_350 (by decide) (fun c_112 => ?_) (fun c_112 => ?_)
                                    · have gc_112 : n_39.toInt ≤ n_83.toInt := i_le (rfl : n_39.toInt = n_39.toInt) (rfl : n_83.toInt = n_83.toInt) c_112
                                      refine lv_iconst (v := 0) hx hb dX6_run_357 (by decide) ?_
                                      refine lv_istore (lv' := [(8, .int 0), (3, .int n_82), (7, .int n_39), (2, .int n_20), (6, .int n_19), (5, .int n_17), (4, .int l_8), (0, .ref (hs 12)), (1, .int fr)]) hx hb dX6_run_358 hl (by decide) rfl (fun ls hl => ?_)
                                      refine lv_goto (tgt := 394) hx hb dX6_run_360 (by decide) ?_
                                      refine lv_aload_n hx hb dX6_run_394 rfl (lv_at hl 7 rfl) ?_
                                      refine gt_SP_rules_stack hx hb hts hown hK hP lwd_73 dX6_run_395 ?_
                                      refine lv_iload_n hx hb dX6_run_398 rfl (lv_at hl 1 rfl) ?_
                                      refine lv_iload hx hb dX6_run_399 (lv_at hl 0 rfl) ?_
                                      refine as_rstack (x := 0) hx hb hK hP hD hS (i_in tn_82 (by omega) (by omega)) dX6_run_401 (fun f_113 ef_113 H locs hP hD hS => ?_)
                                      obtain ⟨n_114, en_114⟩ : ∃ y : Int32, y = l_8 + 1 := ⟨_, rfl⟩
                                      have tn_114 : n_114.toInt = l_8.toInt + 1 := i_add en_114 (rfl : l_8.toInt = l_8.toInt) (by decide : (1 : Int32).toInt = 1) (by omega) (by omega)
                                      refine lv_iinc (v := n_114) (lv' := [(4, .int n_114), (8, .int 0), (3, .int n_82), (7, .int n_39), (2, .int n_20), (6, .int n_19), (5, .int n_17), (0, .ref (hs 12)), (1, .int fr)]) hx hb dX6_run_402 hl (k := 6) rfl (by rw [en_114]; rfl) (by decide) rfl (fun ls hl => ?_)
                                      refine lv_goto (tgt := 7) hx hb dX6_run_405 (by decide) ?_
                                      exact ih7_9 f_113 n_20 n_82 n_114 (by omega) (by omega) _ _ _ hP hD hS (lv_sub hl [0, 2, 4, 7, 8] rfl)
                                    · have gc_112 : n_83.toInt < n_39.toInt := i_nle (rfl : n_39.toInt = n_39.toInt) (rfl : n_83.toInt = n_83.toInt) c_112
                                      refine lv_iconst (v := 1) hx hb dX6_run_353 (by decide) ?_
                                      refine lv_goto (tgt := 358) hx hb dX6_run_354 (by decide) ?_
                                      refine lv_istore (lv' := [(8, .int 1), (3, .int n_82), (7, .int n_39), (2, .int n_20), (6, .int n_19), (5, .int n_17), (4, .int l_8), (0, .ref (hs 12)), (1, .int fr)]) hx hb dX6_run_358 hl (by decide) rfl (fun ls hl => ?_)
                                      refine lv_goto (tgt := 394) hx hb dX6_run_360 (by decide) ?_
                                      refine lv_aload_n hx hb dX6_run_394 rfl (lv_at hl 7 rfl) ?_
                                      refine gt_SP_rules_stack hx hb hts hown hK hP lwd_73 dX6_run_395 ?_
                                      refine lv_iload_n hx hb dX6_run_398 rfl (lv_at hl 1 rfl) ?_
                                      refine lv_iload hx hb dX6_run_399 (lv_at hl 0 rfl) ?_
                                      refine as_rstack (x := 1) hx hb hK hP hD hS (i_in tn_82 (by omega) (by omega)) dX6_run_401 (fun f_115 ef_115 H locs hP hD hS => ?_)
                                      obtain ⟨n_116, en_116⟩ : ∃ y : Int32, y = l_8 + 1 := ⟨_, rfl⟩
                                      have tn_116 : n_116.toInt = l_8.toInt + 1 := i_add en_116 (rfl : l_8.toInt = l_8.toInt) (by decide : (1 : Int32).toInt = 1) (by omega) (by omega)
                                      refine lv_iinc (v := n_116) (lv' := [(4, .int n_116), (8, .int 1), (3, .int n_82), (7, .int n_39), (2, .int n_20), (6, .int n_19), (5, .int n_17), (0, .ref (hs 12)), (1, .int fr)]) hx hb dX6_run_402 hl (k := 6) rfl (by rw [en_116]; rfl) (by decide) rfl (fun ls hl => ?_)
                                      refine lv_goto (tgt := 7) hx hb dX6_run_405 (by decide) ?_
                                      exact ih7_9 f_115 n_20 n_82 n_116 (by omega) (by omega) _ _ _ hP hD hS (lv_sub hl [0, 2, 4, 7, 8] rfl)
                                  · refine lv_tableIn (tgt := 363) (off := 110) hx hb dX6_run_253 (by omega) (by omega) (by rw [c_84]; rfl) (by decide) ?_
                                    refine lv_iload hx hb dX6_run_363 (lv_at hl 0 rfl) ?_
                                    refine lv_iload hx hb dX6_run_365 (lv_at hl 2 rfl) ?_
                                    refine lv_icmp_le (tgt := 374) hx hb dX6_run_367 (by decide) (fun c_117 => ?_) (fun c_117 => ?_)
                                    · have gc_117 : n_83.toInt ≤ n_39.toInt := i_le (rfl : n_83.toInt = n_83.toInt) (rfl : n_39.toInt = n_39.toInt) c_117
                                      refine lv_iconst (v := 0) hx hb dX6_run_374 (by decide) ?_
                                      refine lv_istore (lv' := [(8, .int 0), (3, .int n_82), (7, .int n_39), (2, .int n_20), (6, .int n_19), (5, .int n_17), (4, .int l_8), (0, .ref (hs 12)), (1, .int fr)]) hx hb dX6_run_375 hl (by decide) rfl (fun ls hl => ?_)
                                      refine lv_goto (tgt := 394) hx hb dX6_run_377 (by decide) ?_
                                      refine lv_aload_n hx hb dX6_run_394 rfl (lv_at hl 7 rfl) ?_
                                      refine gt_SP_rules_stack hx hb hts hown hK hP lwd_73 dX6_run_395 ?_
                                      refine lv_iload_n hx hb dX6_run_398 rfl (lv_at hl 1 rfl) ?_
                                      refine lv_iload hx hb dX6_run_399 (lv_at hl 0 rfl) ?_
                                      refine as_rstack (x := 0) hx hb hK hP hD hS (i_in tn_82 (by omega) (by omega)) dX6_run_401 (fun f_118 ef_118 H locs hP hD hS => ?_)
                                      obtain ⟨n_119, en_119⟩ : ∃ y : Int32, y = l_8 + 1 := ⟨_, rfl⟩
                                      have tn_119 : n_119.toInt = l_8.toInt + 1 := i_add en_119 (rfl : l_8.toInt = l_8.toInt) (by decide : (1 : Int32).toInt = 1) (by omega) (by omega)
                                      refine lv_iinc (v := n_119) (lv' := [(4, .int n_119), (8, .int 0), (3, .int n_82), (7, .int n_39), (2, .int n_20), (6, .int n_19), (5, .int n_17), (0, .ref (hs 12)), (1, .int fr)]) hx hb dX6_run_402 hl (k := 6) rfl (by rw [en_119]; rfl) (by decide) rfl (fun ls hl => ?_)
                                      refine lv_goto (tgt := 7) hx hb dX6_run_405 (by decide) ?_
                                      exact ih7_9 f_118 n_20 n_82 n_119 (by omega) (by omega) _ _ _ hP hD hS (lv_sub hl [0, 2, 4, 7, 8] rfl)
                                    · have gc_117 : n_39.toInt < n_83.toInt := i_nle (rfl : n_83.toInt = n_83.toInt) (rfl : n_39.toInt = n_39.toInt) c_117
                                      refine lv_iconst (v := 1) hx hb dX6_run_370 (by decide) ?_
                                      refine lv_goto (tgt := 375) hx hb dX6_run_371 (by decide) ?_
                                      refine lv_istore (lv' := [(8, .int 1), (3, .int n_82), (7, .int n_39), (2, .int n_20), (6, .int n_19), (5, .int n_17), (4, .int l_8), (0, .ref (hs 12)), (1, .int fr)]) hx hb dX6_run_375 hl (by decide) rfl (fun ls hl => ?_)
                                      refine lv_goto (tgt := 394) hx hb dX6_run_377 (by decide) ?_
                                      refine lv_aload_n hx hb dX6_run_394 rfl (lv_at hl 7 rfl) ?_
                                      refine gt_SP_rules_stack hx hb hts hown hK hP lwd_73 dX6_run_395 ?_
                                      refine lv_iload_n hx hb dX6_run_398 rfl (lv_at hl 1 rfl) ?_
                                      refine lv_iload hx hb dX6_run_399 (lv_at hl 0 rfl) ?_
                                      refine as_rstack (x := 1) hx hb hK hP hD hS (i_in tn_82 (by omega) (by omega)) dX6_run_401 (fun f_120 ef_120 H locs hP hD hS => ?_)
                                      obtain ⟨n_121, en_121⟩ : ∃ y : Int32, y = l_8 + 1 := ⟨_, rfl⟩
                                      have tn_121 : n_121.toInt = l_8.toInt + 1 := i_add en_121 (rfl : l_8.toInt = l_8.toInt) (by decide : (1 : Int32).toInt = 1) (by omega) (by omega)
                                      refine lv_iinc (v := n_121) (lv' := [(4, .int n_121), (8, .int 1), (3, .int n_82), (7, .int n_39), (2, .int n_20), (6, .int n_19), (5, .int n_17), (0, .ref (hs 12)), (1, .int fr)]) hx hb dX6_run_402 hl (k := 6) rfl (by rw [en_121]; rfl) (by decide) rfl (fun ls hl => ?_)
                                      refine lv_goto (tgt := 7) hx hb dX6_run_405 (by decide) ?_
                                      exact ih7_9 f_120 n_20 n_82 n_121 (by omega) (by omega) _ _ _ hP hD hS (lv_sub hl [0, 2, 4, 7, 8] rfl)
                                · have gc_81 : n_19.toInt = 10 := i_eq (rfl : n_19.toInt = n_19.toInt) (by decide : (10 : Int32).toInt = 10) c_81
                                  refine lv_iconst (v := 0) hx hb dX6_run_238 (by decide) ?_
                                  have k_122 : (0 : Int32).toInt = 0 := by decide
                                  exact hrt 0 f_5  hP hD hS rfl dX6_run_239
                          · have gc_38 : n_19.toInt = 5 := i_eq (rfl : n_19.toInt = n_19.toInt) (by decide : (5 : Int32).toInt = 5) c_38
                            refine lv_aload_n hx hb dX6_run_171 rfl (lv_at hl 5 rfl) ?_
                            refine gt_SP_rules_stack hx hb hts hown hK hP lwd_73 dX6_run_172 ?_
                            refine lv_iload_n hx hb dX6_run_175 rfl (lv_at hl 4 rfl) ?_
                            refine al_rstack hx hb hK hP (i_in (rfl : l_7.toInt = l_7.toInt) (by omega) (by omega)) dX6_run_176 (fun n_123 en_123 => ?_)
                            refine lv_if_eq (tgt := 184) hx hb dX6_run_177 (by decide) (fun c_124 => ?_) (fun c_124 => ?_)
                            · have gc_124 : n_123.toInt = 0 := i_eq (rfl : n_123.toInt = n_123.toInt) (by decide : (0 : Int32).toInt = 0) c_124
                              refine lv_iconst (v := 0) hx hb dX6_run_184 (by decide) ?_
                              refine lv_iload hx hb dX6_run_185 (lv_at hl 1 rfl) ?_
                              refine lv_iconst (v := 5) hx hb dX6_run_187 (by decide) ?_
                              refine lv_icmp_ne (tgt := 195) hx hb dX6_run_188 (by decide) (fun c_125 => ?_) (fun c_125 => ?_)
                              · have gc_125 : n_19.toInt ≠ 5 := i_ne (rfl : n_19.toInt = n_19.toInt) (by decide : (5 : Int32).toInt = 5) c_125
                                exact absurd gc_125 (by omega)
                              · have gc_125 : n_19.toInt = 5 := i_eq (rfl : n_19.toInt = n_19.toInt) (by decide : (5 : Int32).toInt = 5) c_125
                                refine lv_iconst (v := 1) hx hb dX6_run_191 (by decide) ?_
                                refine lv_goto (tgt := 196) hx hb dX6_run_192 (by decide) ?_
                                refine lv_icmp_ne (tgt := 205) hx hb dX6_run_196 (by decide) (fun c_126 => ?_) (fun c_126 => ?_)
                                · skip
                                  obtain ⟨n_127, en_127⟩ : ∃ y : Int32, y = l_7 + (-1) := ⟨_, rfl⟩
                                  have tn_127 : n_127.toInt = l_7.toInt + (-1) := i_add en_127 (rfl : l_7.toInt = l_7.toInt) (by decide : ((-1) : Int32).toInt = (-1)) (by omega) (by omega)
                                  refine lv_iinc (v := n_127) (lv' := [(3, .int n_127), (2, .int n_20), (6, .int n_19), (5, .int n_17), (4, .int l_8), (0, .ref (hs 12)), (1, .int fr)]) hx hb dX6_run_205 hl (k := 4) rfl (by rw [en_127]; rfl) (by decide) rfl (fun ls hl => ?_)
                                  refine lv_goto (tgt := 402) hx hb dX6_run_208 (by decide) ?_
                                  obtain ⟨n_128, en_128⟩ : ∃ y : Int32, y = l_8 + 1 := ⟨_, rfl⟩
                                  have tn_128 : n_128.toInt = l_8.toInt + 1 := i_add en_128 (rfl : l_8.toInt = l_8.toInt) (by decide : (1 : Int32).toInt = 1) (by omega) (by omega)
                                  refine lv_iinc (v := n_128) (lv' := [(4, .int n_128), (3, .int n_127), (2, .int n_20), (6, .int n_19), (5, .int n_17), (0, .ref (hs 12)), (1, .int fr)]) hx hb dX6_run_402 hl (k := 4) rfl (by rw [en_128]; rfl) (by decide) rfl (fun ls hl => ?_)
                                  refine lv_goto (tgt := 7) hx hb dX6_run_405 (by decide) ?_
                                  exact ih7_9 f_5 n_20 n_127 n_128 (by omega) (by omega) _ _ _ hP hD hS (lv_sub hl [0, 1, 2, 5, 6] rfl)
                                · exact absurd c_126 (by decide)
                            · have gc_124 : n_123.toInt ≠ 0 := i_ne (rfl : n_123.toInt = n_123.toInt) (by decide : (0 : Int32).toInt = 0) c_124
                              refine lv_iconst (v := 1) hx hb dX6_run_180 (by decide) ?_
                              refine lv_goto (tgt := 185) hx hb dX6_run_181 (by decide) ?_
                              refine lv_iload hx hb dX6_run_185 (lv_at hl 1 rfl) ?_
                              refine lv_iconst (v := 5) hx hb dX6_run_187 (by decide) ?_
                              refine lv_icmp_ne (tgt := 195) hx hb dX6_run_188 (by decide) (fun c_129 => ?_) (fun c_129 => ?_)
                              · have gc_129 : n_19.toInt ≠ 5 := i_ne (rfl : n_19.toInt = n_19.toInt) (by decide : (5 : Int32).toInt = 5) c_129
                                exact absurd gc_129 (by omega)
                              · have gc_129 : n_19.toInt = 5 := i_eq (rfl : n_19.toInt = n_19.toInt) (by decide : (5 : Int32).toInt = 5) c_129
                                refine lv_iconst (v := 1) hx hb dX6_run_191 (by decide) ?_
                                refine lv_goto (tgt := 196) hx hb dX6_run_192 (by decide) ?_
                                refine lv_icmp_ne (tgt := 205) hx hb dX6_run_196 (by decide) (fun c_130 => ?_) (fun c_130 => ?_)
                                · exact absurd c_130 (by decide)
                                · skip
                                  refine lv_iload hx hb dX6_run_199 (lv_at hl 2 rfl) ?_
                                  refine lv_istore_n (lv' := [(2, .int n_17), (6, .int n_19), (5, .int n_17), (4, .int l_8), (3, .int l_7), (0, .ref (hs 12)), (1, .int fr)]) hx hb dX6_run_201 rfl hl (by decide) rfl (fun ls hl => ?_)
                                  refine lv_goto (tgt := 402) hx hb dX6_run_202 (by decide) ?_
                                  obtain ⟨n_131, en_131⟩ : ∃ y : Int32, y = l_8 + 1 := ⟨_, rfl⟩
                                  have tn_131 : n_131.toInt = l_8.toInt + 1 := i_add en_131 (rfl : l_8.toInt = l_8.toInt) (by decide : (1 : Int32).toInt = 1) (by omega) (by omega)
                                  refine lv_iinc (v := n_131) (lv' := [(4, .int n_131), (2, .int n_17), (6, .int n_19), (5, .int n_17), (3, .int l_7), (0, .ref (hs 12)), (1, .int fr)]) hx hb dX6_run_402 hl (k := 3) rfl (by rw [en_131]; rfl) (by decide) rfl (fun ls hl => ?_)
                                  refine lv_goto (tgt := 7) hx hb dX6_run_405 (by decide) ?_
                                  exact ih7_9 f_5 n_17 l_7 n_131 (by omega) (by omega) _ _ _ hP hD hS (lv_sub hl [0, 4, 1, 5, 6] rfl)
                      · have gc_27 : n_19.toInt = 3 := i_eq (rfl : n_19.toInt = n_19.toInt) (by decide : (3 : Int32).toInt = 3) c_27
                        refine lv_aload_n hx hb dX6_run_142 rfl (lv_at hl 5 rfl) ?_
                        refine gt_SP_rules_stack hx hb hts hown hK hP lwd_73 dX6_run_143 ?_
                        refine lv_iload_n hx hb dX6_run_146 rfl (lv_at hl 4 rfl) ?_
                        refine lv_iconst (v := 1) hx hb dX6_run_147 (by decide) ?_
                        refine lv_aload_n hx hb dX6_run_148 rfl (lv_at hl 5 rfl) ?_
                        refine gt_SP_rules_stack hx hb hts hown hK hP lwd_73 dX6_run_149 ?_
                        refine lv_iload_n hx hb dX6_run_152 rfl (lv_at hl 4 rfl) ?_
                        refine al_rstack hx hb hK hP (i_in (rfl : l_7.toInt = l_7.toInt) (by omega) (by omega)) dX6_run_153 (fun n_132 en_132 => ?_)
                        refine lv_isub hx hb dX6_run_154 ?_
                        refine lv_topi (fun n_133 en_133 => ?_)
                        refine as_rstack (x := n_133) hx hb hK hP hD hS (i_in (rfl : l_7.toInt = l_7.toInt) (by omega) (by omega)) dX6_run_155 (fun f_134 ef_134 H locs hP hD hS => ?_)
                        refine lv_goto (tgt := 402) hx hb dX6_run_156 (by decide) ?_
                        obtain ⟨n_135, en_135⟩ : ∃ y : Int32, y = l_8 + 1 := ⟨_, rfl⟩
                        have tn_135 : n_135.toInt = l_8.toInt + 1 := i_add en_135 (rfl : l_8.toInt = l_8.toInt) (by decide : (1 : Int32).toInt = 1) (by omega) (by omega)
                        refine lv_iinc (v := n_135) (lv' := [(4, .int n_135), (2, .int n_20), (6, .int n_19), (5, .int n_17), (3, .int l_7), (0, .ref (hs 12)), (1, .int fr)]) hx hb dX6_run_402 hl (k := 3) rfl (by rw [en_135]; rfl) (by decide) rfl (fun ls hl => ?_)
                        refine lv_goto (tgt := 7) hx hb dX6_run_405 (by decide) ?_
                        exact ih7_9 f_134 n_20 l_7 n_135 (by omega) (by omega) _ _ _ hP hD hS (lv_sub hl [0, 4, 1, 5, 6] rfl)
                    · have gc_26 : n_19.toInt = 2 := i_eq (rfl : n_19.toInt = n_19.toInt) (by decide : (2 : Int32).toInt = 2) c_26
                      obtain ⟨n_136, en_136⟩ : ∃ y : Int32, y = l_7 + 1 := ⟨_, rfl⟩
                      have tn_136 : n_136.toInt = l_7.toInt + 1 := i_add en_136 (rfl : l_7.toInt = l_7.toInt) (by decide : (1 : Int32).toInt = 1) (by omega) (by omega)
                      refine lv_iinc (v := n_136) (lv' := [(3, .int n_136), (2, .int n_20), (6, .int n_19), (5, .int n_17), (4, .int l_8), (0, .ref (hs 12)), (1, .int fr)]) hx hb dX6_run_101 hl (k := 4) rfl (by rw [en_136]; rfl) (by decide) rfl (fun ls hl => ?_)
                      refine lv_aload_n hx hb dX6_run_104 rfl (lv_at hl 5 rfl) ?_
                      refine gt_SP_rules_stack hx hb hts hown hK hP lwd_73 dX6_run_105 ?_
                      refine lv_iload_n hx hb dX6_run_108 rfl (lv_at hl 0 rfl) ?_
                      refine lv_iload hx hb dX6_run_109 (lv_at hl 3 rfl) ?_
                      refine lv_if_lt (tgt := 131) hx hb dX6_run_111 (by decide) (fun c_137 => ?_) (fun c_137 => ?_)
                      · have gc_137 : n_16.toInt / 16 < 0 := i_lt tn_17 (by decide : (0 : Int32).toInt = 0) c_137
                        refine lv_iconst (v := 0) hx hb dX6_run_131 (by decide) ?_
                        refine as_rstack (x := 0) hx hb hK hP hD hS (i_in tn_136 (by omega) (by omega)) dX6_run_132 (fun f_138 ef_138 H locs hP hD hS => ?_)
                        refine lv_goto (tgt := 402) hx hb dX6_run_133 (by decide) ?_
                        obtain ⟨n_139, en_139⟩ : ∃ y : Int32, y = l_8 + 1 := ⟨_, rfl⟩
                        have tn_139 : n_139.toInt = l_8.toInt + 1 := i_add en_139 (rfl : l_8.toInt = l_8.toInt) (by decide : (1 : Int32).toInt = 1) (by omega) (by omega)
                        refine lv_iinc (v := n_139) (lv' := [(4, .int n_139), (3, .int n_136), (2, .int n_20), (6, .int n_19), (5, .int n_17), (0, .ref (hs 12)), (1, .int fr)]) hx hb dX6_run_402 hl (k := 4) rfl (by rw [en_139]; rfl) (by decide) rfl (fun ls hl => ?_)
                        refine lv_goto (tgt := 7) hx hb dX6_run_405 (by decide) ?_
                        exact ih7_9 f_138 n_20 n_136 n_139 (by omega) (by omega) _ _ _ hP hD hS (lv_sub hl [0, 1, 2, 5, 6] rfl)
                      · have gc_137 : 0 ≤ n_16.toInt / 16 := i_nlt tn_17 (by decide : (0 : Int32).toInt = 0) c_137
                        refine lv_iload hx hb dX6_run_114 (lv_at hl 3 rfl) ?_
                        refine lv_bipush (v := 10) hx hb dX6_run_116 (by decide) ?_
                        refine lv_icmp_ge (tgt := 131) hx hb dX6_run_118 (by decide) (fun c_140 => ?_) (fun c_140 => ?_)
                        · have gc_140 : 10 ≤ n_16.toInt / 16 := i_le (by decide : (10 : Int32).toInt = 10) tn_17 c_140
                          refine lv_iconst (v := 0) hx hb dX6_run_131 (by decide) ?_
                          refine as_rstack (x := 0) hx hb hK hP hD hS (i_in tn_136 (by omega) (by omega)) dX6_run_132 (fun f_141 ef_141 H locs hP hD hS => ?_)
                          refine lv_goto (tgt := 402) hx hb dX6_run_133 (by decide) ?_
                          obtain ⟨n_142, en_142⟩ : ∃ y : Int32, y = l_8 + 1 := ⟨_, rfl⟩
                          have tn_142 : n_142.toInt = l_8.toInt + 1 := i_add en_142 (rfl : l_8.toInt = l_8.toInt) (by decide : (1 : Int32).toInt = 1) (by omega) (by omega)
                          refine lv_iinc (v := n_142) (lv' := [(4, .int n_142), (3, .int n_136), (2, .int n_20), (6, .int n_19), (5, .int n_17), (0, .ref (hs 12)), (1, .int fr)]) hx hb dX6_run_402 hl (k := 4) rfl (by rw [en_142]; rfl) (by decide) rfl (fun ls hl => ?_)
                          refine lv_goto (tgt := 7) hx hb dX6_run_405 (by decide) ?_
                          exact ih7_9 f_141 n_20 n_136 n_142 (by omega) (by omega) _ _ _ hP hD hS (lv_sub hl [0, 1, 2, 5, 6] rfl)
                        · have gc_140 : n_16.toInt / 16 < 10 := i_nle (by decide : (10 : Int32).toInt = 10) tn_17 c_140
                          refine lv_aload_n hx hb dX6_run_121 rfl (lv_at hl 5 rfl) ?_
                          refine gt_SP_rules_letters hx hb hts hown hK hP lwd_72 dX6_run_122 ?_
                          refine lv_iload hx hb dX6_run_125 (lv_at hl 3 rfl) ?_
                          refine al_rletters hx hb hK hP (i_in tn_17 (by omega) (by omega)) dX6_run_127 (fun n_143 en_143 => ?_)
                          refine lv_goto (tgt := 132) hx hb dX6_run_128 (by decide) ?_
                          refine as_rstack (x := n_143) hx hb hK hP hD hS (i_in tn_136 (by omega) (by omega)) dX6_run_132 (fun f_144 ef_144 H locs hP hD hS => ?_)
                          refine lv_goto (tgt := 402) hx hb dX6_run_133 (by decide) ?_
                          obtain ⟨n_145, en_145⟩ : ∃ y : Int32, y = l_8 + 1 := ⟨_, rfl⟩
                          have tn_145 : n_145.toInt = l_8.toInt + 1 := i_add en_145 (rfl : l_8.toInt = l_8.toInt) (by decide : (1 : Int32).toInt = 1) (by omega) (by omega)
                          refine lv_iinc (v := n_145) (lv' := [(4, .int n_145), (3, .int n_136), (2, .int n_20), (6, .int n_19), (5, .int n_17), (0, .ref (hs 12)), (1, .int fr)]) hx hb dX6_run_402 hl (k := 4) rfl (by rw [en_145]; rfl) (by decide) rfl (fun ls hl => ?_)
                          refine lv_goto (tgt := 7) hx hb dX6_run_405 (by decide) ?_
                          exact ih7_9 f_144 n_20 n_136 n_145 (by omega) (by omega) _ _ _ hP hD hS (lv_sub hl [0, 1, 2, 5, 6] rfl)
                  · have gc_25 : n_19.toInt = 1 := i_eq (rfl : n_19.toInt = n_19.toInt) (by decide : (1 : Int32).toInt = 1) c_25
                    obtain ⟨n_146, en_146⟩ : ∃ y : Int32, y = l_7 + 1 := ⟨_, rfl⟩
                    have tn_146 : n_146.toInt = l_7.toInt + 1 := i_add en_146 (rfl : l_7.toInt = l_7.toInt) (by decide : (1 : Int32).toInt = 1) (by omega) (by omega)
                    refine lv_iinc (v := n_146) (lv' := [(3, .int n_146), (2, .int n_20), (6, .int n_19), (5, .int n_17), (4, .int l_8), (0, .ref (hs 12)), (1, .int fr)]) hx hb dX6_run_81 hl (k := 4) rfl (by rw [en_146]; rfl) (by decide) rfl (fun ls hl => ?_)
                    refine lv_aload_n hx hb dX6_run_84 rfl (lv_at hl 5 rfl) ?_
                    refine gt_SP_rules_stack hx hb hts hown hK hP lwd_73 dX6_run_85 ?_
                    refine lv_iload_n hx hb dX6_run_88 rfl (lv_at hl 0 rfl) ?_
                    refine lv_iload hx hb dX6_run_89 (lv_at hl 3 rfl) ?_
                    refine as_rstack (x := n_17) hx hb hK hP hD hS (i_in tn_146 (by omega) (by omega)) dX6_run_91 (fun f_147 ef_147 H locs hP hD hS => ?_)
                    refine lv_goto (tgt := 402) hx hb dX6_run_92 (by decide) ?_
                    obtain ⟨n_148, en_148⟩ : ∃ y : Int32, y = l_8 + 1 := ⟨_, rfl⟩
                    have tn_148 : n_148.toInt = l_8.toInt + 1 := i_add en_148 (rfl : l_8.toInt = l_8.toInt) (by decide : (1 : Int32).toInt = 1) (by omega) (by omega)
                    refine lv_iinc (v := n_148) (lv' := [(4, .int n_148), (3, .int n_146), (2, .int n_20), (6, .int n_19), (5, .int n_17), (0, .ref (hs 12)), (1, .int fr)]) hx hb dX6_run_402 hl (k := 4) rfl (by rw [en_148]; rfl) (by decide) rfl (fun ls hl => ?_)
                    refine lv_goto (tgt := 7) hx hb dX6_run_405 (by decide) ?_
                    exact ih7_9 f_147 n_20 n_146 n_148 (by omega) (by omega) _ _ _ hP hD hS (lv_sub hl [0, 1, 2, 5, 6] rfl)
                · have gc_24 : n_19.toInt = 0 := i_eq (rfl : n_19.toInt = n_19.toInt) (by decide : (0 : Int32).toInt = 0) c_24
                  refine lv_aload_n hx hb dX6_run_68 rfl (lv_at hl 5 rfl) ?_
                  refine gt_SP_rules_stack hx hb hts hown hK hP lwd_73 dX6_run_69 ?_
                  refine lv_iload_n hx hb dX6_run_72 rfl (lv_at hl 4 rfl) ?_
                  refine al_rstack hx hb hK hP (i_in (rfl : l_7.toInt = l_7.toInt) (by omega) (by omega)) dX6_run_73 (fun n_149 en_149 => ?_)
                  exact hrt n_149 f_5  hP hD hS rfl dX6_run_74
              · have gc_23 : 31 ≤ l_7.toInt := i_nlt (rfl : l_7.toInt = l_7.toInt) (by decide : (31 : Int32).toInt = 31) c_23
                refine lv_iconst (v := 0) hx hb dX6_run_61 (by decide) ?_
                have k_150 : (0 : Int32).toInt = 0 := by decide
                exact hrt 0 f_5  hP hD hS rfl dX6_run_62
  have k_151 : (1 : Int32).toInt = 1 := by decide
  have k_152 : (0 : Int32).toInt = 0 := by decide
  exact L7_9 8589934592 f_rstack fr 1 0 (by omega) (by omega) _ _ _ hP hD hS (lv_sub hl [0, 1, 2, 3, 4] rfl)
set_option maxHeartbeats 16000000 in
set_option maxRecDepth 100000 in
theorem c_X6_value (l : Launch) (D : va_G) (cy : Nat → ClassId) (hs : Nat → Nat) (hH hT sH sT : Nat) (v_tape_size v_band_walkers v_band_loads v_band_pieces v_rules_clauses v_reader_end v_reader_at v_reader_length v_reader_letter v_reader_fault v_draft_clauses v_paces_version v_packing_quicker v_packing_loads v_packing_looseCount v_marches_told v_marches_changeMinutes v_marches_marching v_marches_gone v_search_known v_search_countHere v_search_countThere v_search_cost v_search_most : Int32) (v_search_found : Int64) (f_bytes f_knee f_weight f_limps f_bheft f_owner f_food f_miles f_slope f_rsteps f_rkind f_ryields f_rholds f_rletters f_rstack f_dsteps f_dkind f_dyields f_dholds f_dletters f_dstack f_caps f_versions f_sharing f_pheft f_prow f_holder f_comes f_pcaps f_room f_loose f_reached f_mrow f_minutesOn f_mtired : Nat → Int32) (f_here f_there : Nat → Int64) (f_statesHere f_statesThere f_listed f_stired f_burdens f_pacesOn f_restedOn f_behindOn f_behindFor f_first f_second : Nat → Int32) (f_plans f_tiredOn : Nat → Nat → Int32) (tS : Nat) (sz : Nat) (letter : Int32) (lo1 : Int32) (hi1 : Int32) (hb_v_rules_clauses : 0 ≤ v_rules_clauses.toInt ∧ v_rules_clauses.toInt ≤ 14) (hl : lo1.toInt ≤ 0 ∧ 0 ≤ hi1.toInt) : gMi l yX6_value cX6_value 5 .int 2 [.ref (hs 12), .int letter, .int lo1, .int hi1] D cy (wSP cy hs hH hT sH sT v_tape_size v_band_walkers v_band_loads v_band_pieces v_rules_clauses v_reader_end v_reader_at v_reader_length v_reader_letter v_reader_fault v_draft_clauses v_paces_version v_packing_quicker v_packing_loads v_packing_looseCount v_marches_told v_marches_changeMinutes v_marches_marching v_marches_gone v_search_known v_search_countHere v_search_countThere v_search_cost v_search_most v_search_found f_bytes f_knee f_weight f_limps f_bheft f_owner f_food f_miles f_slope f_rsteps f_rkind f_ryields f_rholds f_rletters f_rstack f_dsteps f_dkind f_dyields f_dholds f_dletters f_dstack f_caps f_versions f_sharing f_pheft f_prow f_holder f_comes f_pcaps f_room f_loose f_reached f_mrow f_minutesOn f_mtired f_here f_there f_statesHere f_statesThere f_listed f_stired f_burdens f_pacesOn f_restedOn f_behindOn f_behindFor f_first f_second f_plans f_tiredOn) (NS tS) sz (fun (r : Int32) (u : (Nat → Int32)) => (lo1.toInt ≤ r.toInt ∧ r.toInt ≤ hi1.toInt)) (fun u => wSP cy hs hH hT sH sT v_tape_size v_band_walkers v_band_loads v_band_pieces v_rules_clauses v_reader_end v_reader_at v_reader_length v_reader_letter v_reader_fault v_draft_clauses v_paces_version v_packing_quicker v_packing_loads v_packing_looseCount v_marches_told v_marches_changeMinutes v_marches_marching v_marches_gone v_search_known v_search_countHere v_search_countThere v_search_cost v_search_most v_search_found f_bytes f_knee f_weight f_limps f_bheft f_owner f_food f_miles f_slope f_rsteps f_rkind f_ryields f_rholds f_rletters u f_dsteps f_dkind f_dyields f_dholds f_dletters f_dstack f_caps f_versions f_sharing f_pheft f_prow f_holder f_comes f_pcaps f_room f_loose f_reached f_mrow f_minutesOn f_mtired f_here f_there f_statesHere f_statesThere f_listed f_stired f_burdens f_pacesOn f_restedOn f_behindOn f_behindFor f_first f_second f_plans f_tiredOn) := by
  refine gMi_in (by decide) (Nat.le_of_ble_eq_true rfl) ?_
  intro p e s m args below meth c A ls Q hx hb hml hts hown hsz hP hK hD hN hAe hA hS hl hret
  subst hsz
  have hl : lv_has ls 5 [(0, .ref (hs 12)), (1, .int letter), (2, .int lo1), (3, .int hi1)] := hl
  have hrt := fun (r : Int32) (f_rstack' : Nat → Int32) (hp : (lo1.toInt ≤ r.toInt ∧ r.toInt ≤ hi1.toInt)) {H : Heap} {locs : List Loc} {pc : Nat} {ls : Array Slot} => hret r f_rstack' (H := H) (locs := locs) (pc := pc) (ls := ls) hp
  clear hret
  refine lv_iconst (v := 0) hx hb dX6_value_0 (by decide) ?_
  refine lv_istore (lv' := [(4, .int 0), (0, .ref (hs 12)), (1, .int letter), (2, .int lo1), (3, .int hi1)]) hx hb dX6_value_1 hl (by decide) rfl (fun ls hl => ?_)
  have L3_5 : ∀ (n : Nat) (f_3 : Nat → Int32) (l_4 : Int32), (0 ≤ l_4.toInt ∧ l_4.toInt ≤ 14) → 15 - l_4.toInt < n → ∀ (H : Heap) (locs : List Loc) (ls : Array Slot), va_P D vwCl (wSP cy hs hH hT sH sT v_tape_size v_band_walkers v_band_loads v_band_pieces v_rules_clauses v_reader_end v_reader_at v_reader_length v_reader_letter v_reader_fault v_draft_clauses v_paces_version v_packing_quicker v_packing_loads v_packing_looseCount v_marches_told v_marches_changeMinutes v_marches_marching v_marches_gone v_search_known v_search_countHere v_search_countThere v_search_cost v_search_most v_search_found f_bytes f_knee f_weight f_limps f_bheft f_owner f_food f_miles f_slope f_rsteps f_rkind f_ryields f_rholds f_rletters f_3 f_dsteps f_dkind f_dyields f_dholds f_dletters f_dstack f_caps f_versions f_sharing f_pheft f_prow f_holder f_comes f_pcaps f_room f_loose f_reached f_mrow f_minutesOn f_mtired f_here f_there f_statesHere f_statesThere f_listed f_stired f_burdens f_pacesOn f_restedOn f_behindOn f_behindFor f_first f_second f_plans f_tiredOn) H → va_D A (wSP cy hs hH hT sH sT v_tape_size v_band_walkers v_band_loads v_band_pieces v_rules_clauses v_reader_end v_reader_at v_reader_length v_reader_letter v_reader_fault v_draft_clauses v_paces_version v_packing_quicker v_packing_loads v_packing_looseCount v_marches_told v_marches_changeMinutes v_marches_marching v_marches_gone v_search_known v_search_countHere v_search_countThere v_search_cost v_search_most v_search_found f_bytes f_knee f_weight f_limps f_bheft f_owner f_food f_miles f_slope f_rsteps f_rkind f_ryields f_rholds f_rletters f_3 f_dsteps f_dkind f_dyields f_dholds f_dletters f_dstack f_caps f_versions f_sharing f_pheft f_prow f_holder f_comes f_pcaps f_room f_loose f_reached f_mrow f_minutesOn f_mtired f_here f_there f_statesHere f_statesThere f_listed f_stired f_burdens f_pacesOn f_restedOn f_behindOn f_behindFor f_first f_second f_plans f_tiredOn) → va_S A s.heap H locs → lv_has ls 5 [(4, .int l_4), (0, .ref (hs 12)), (1, .int letter), (2, .int lo1), (3, .int hi1)] → W p l e (gRm 2) s m args below meth c H locs 0 0 Q (F0 m 3 ls []) := by
    intro n
    induction n with
    | zero => intro f_3 l_4 hL3_5_0 hm; exact absurd hm (by omega)
    | succ n ih3_5 =>
      intro f_3 l_4 hL3_5_0 hmL3_5 H locs ls hP hD hS hl
      refine lv_iload hx hb dX6_value_3 (lv_at hl 0 rfl) ?_
      refine lv_aload_n hx hb dX6_value_5 rfl (lv_at hl 1 rfl) ?_
      refine gt_SP_rules_clauses hx hb hts hown hK hP lwd_394 dX6_value_6 ?_
      refine lv_icmp_ge (tgt := 63) hx hb dX6_value_9 (by decide) (fun c_6 => ?_) (fun c_6 => ?_)
      · have gc_6 : v_rules_clauses.toInt ≤ l_4.toInt := i_le (rfl : v_rules_clauses.toInt = v_rules_clauses.toInt) (rfl : l_4.toInt = l_4.toInt) c_6
        refine lv_iconst (v := 0) hx hb dX6_value_63 (by decide) ?_
        have k_7 : (0 : Int32).toInt = 0 := by decide
        exact hrt 0 f_3 (by omega) hP hD hS rfl dX6_value_64
      · have gc_6 : l_4.toInt < v_rules_clauses.toInt := i_nle (rfl : v_rules_clauses.toInt = v_rules_clauses.toInt) (rfl : l_4.toInt = l_4.toInt) c_6
        refine lv_aload_n hx hb dX6_value_12 rfl (lv_at hl 1 rfl) ?_
        refine gt_SP_rules_kind hx hb hts hown hK hP lwd_69 dX6_value_13 ?_
        refine lv_iload hx hb dX6_value_16 (lv_at hl 0 rfl) ?_
        refine al_rkind hx hb hK hP (i_in (rfl : l_4.toInt = l_4.toInt) (by omega) (by omega)) dX6_value_18 (fun n_8 en_8 => ?_)
        refine lv_iload_n hx hb dX6_value_19 rfl (lv_at hl 2 rfl) ?_
        refine lv_icmp_ne (tgt := 57) hx hb dX6_value_20 (by decide) (fun c_9 => ?_) (fun c_9 => ?_)
        · have gc_9 : n_8.toInt ≠ letter.toInt := i_ne (rfl : n_8.toInt = n_8.toInt) (rfl : letter.toInt = letter.toInt) c_9
          obtain ⟨n_10, en_10⟩ : ∃ y : Int32, y = l_4 + 1 := ⟨_, rfl⟩
          have tn_10 : n_10.toInt = l_4.toInt + 1 := i_add en_10 (rfl : l_4.toInt = l_4.toInt) (by decide : (1 : Int32).toInt = 1) (by omega) (by omega)
          refine lv_iinc (v := n_10) (lv' := [(4, .int n_10), (0, .ref (hs 12)), (1, .int letter), (2, .int lo1), (3, .int hi1)]) hx hb dX6_value_57 hl (k := 0) rfl (by rw [en_10]; rfl) (by decide) rfl (fun ls hl => ?_)
          refine lv_goto (tgt := 3) hx hb dX6_value_60 (by decide) ?_
          exact ih3_5 f_3 n_10 (by omega) (by omega) _ _ _ hP hD hS (lv_sub hl [0, 1, 2, 3, 4] rfl)
        · have gc_9 : n_8.toInt = letter.toInt := i_eq (rfl : n_8.toInt = n_8.toInt) (rfl : letter.toInt = letter.toInt) c_9
          refine lv_aload_n hx hb dX6_value_23 rfl (lv_at hl 1 rfl) ?_
          refine lv_aload_n hx hb dX6_value_24 rfl (lv_at hl 1 rfl) ?_
          refine gt_SP_rules_holds hx hb hts hown hK hP lwd_71 dX6_value_25 ?_
          refine lv_iload hx hb dX6_value_28 (lv_at hl 0 rfl) ?_
          refine al_rholds hx hb hK hP (i_in (rfl : l_4.toInt = l_4.toInt) (by omega) (by omega)) dX6_value_30 (fun n_11 en_11 => ?_)
          refine xi hD hS hA (xV (As := [.int n_11]) (rest := []) hx hb hml hown hts hK hP hD hS hA NS_ok hN hAe hl.1 ⟨Nat.le_refl _, Nat.le_refl _⟩ 12 rfl rfl rfl (c_X6_run l D cy hs hH hT sH sT v_tape_size v_band_walkers v_band_loads v_band_pieces v_rules_clauses v_reader_end v_reader_at v_reader_length v_reader_letter v_reader_fault v_draft_clauses v_paces_version v_packing_quicker v_packing_loads v_packing_looseCount v_marches_told v_marches_changeMinutes v_marches_marching v_marches_gone v_search_known v_search_countHere v_search_countThere v_search_cost v_search_most v_search_found f_bytes f_knee f_weight f_limps f_bheft f_owner f_food f_miles f_slope f_rsteps f_rkind f_ryields f_rholds f_rletters f_3 f_dsteps f_dkind f_dyields f_dholds f_dletters f_dstack f_caps f_versions f_sharing f_pheft f_prow f_holder f_comes f_pcaps f_room f_loose f_reached f_mrow f_minutesOn f_mtired f_here f_there f_statesHere f_statesThere f_listed f_stired f_burdens f_pacesOn f_restedOn f_behindOn f_behindFor f_first f_second f_plans f_tiredOn tS H.size n_11) (gi_V lwd_534 lwd_535 lwd_536 lwd_22 lwd_537) ⟨rfl, hd_X6_run⟩ ⟨Nat.le_of_ble_eq_true rfl, Nat.le_of_ble_eq_true rfl⟩ rfl (Nat.le_of_ble_eq_true rfl) dX6_value_31) (fun r_13 u_12 H locs hw hP hD hS => ?_)
          obtain ⟨zrstack_14, rfl⟩ : ∃ z, z = u_12 := ⟨_, rfl⟩
          try dsimp only at hw hP hD
          clear hw
          refine lv_if_eq (tgt := 57) hx hb dX6_value_34 (by decide) (fun c_15 => ?_) (fun c_15 => ?_)
          · have gc_15 : r_13.toInt = 0 := i_eq (rfl : r_13.toInt = r_13.toInt) (by decide : (0 : Int32).toInt = 0) c_15
            obtain ⟨n_16, en_16⟩ : ∃ y : Int32, y = l_4 + 1 := ⟨_, rfl⟩
            have tn_16 : n_16.toInt = l_4.toInt + 1 := i_add en_16 (rfl : l_4.toInt = l_4.toInt) (by decide : (1 : Int32).toInt = 1) (by omega) (by omega)
            refine lv_iinc (v := n_16) (lv' := [(4, .int n_16), (0, .ref (hs 12)), (1, .int letter), (2, .int lo1), (3, .int hi1)]) hx hb dX6_value_57 hl (k := 0) rfl (by rw [en_16]; rfl) (by decide) rfl (fun ls hl => ?_)
            refine lv_goto (tgt := 3) hx hb dX6_value_60 (by decide) ?_
            exact ih3_5 zrstack_14 n_16 (by omega) (by omega) _ _ _ hP hD hS (lv_sub hl [0, 1, 2, 3, 4] rfl)
          · have gc_15 : r_13.toInt ≠ 0 := i_ne (rfl : r_13.toInt = r_13.toInt) (by decide : (0 : Int32).toInt = 0) c_15
            refine lv_iload_n hx hb dX6_value_37 rfl (lv_at hl 3 rfl) ?_
            refine lv_iload_n hx hb dX6_value_38 rfl (lv_at hl 4 rfl) ?_
            refine lv_aload_n hx hb dX6_value_39 rfl (lv_at hl 1 rfl) ?_
            refine lv_aload_n hx hb dX6_value_40 rfl (lv_at hl 1 rfl) ?_
            refine gt_SP_rules_yields hx hb hts hown hK hP lwd_70 dX6_value_41 ?_
            refine lv_iload hx hb dX6_value_44 (lv_at hl 0 rfl) ?_
            refine al_ryields hx hb hK hP (i_in (rfl : l_4.toInt = l_4.toInt) (by omega) (by omega)) dX6_value_46 (fun n_17 en_17 => ?_)
            refine xi hD hS hA (xV (As := [.int n_17]) (rest := [.int hi1, .int lo1]) hx hb hml hown hts hK hP hD hS hA NS_ok hN hAe hl.1 ⟨Nat.le_refl _, Nat.le_refl _⟩ 12 rfl rfl rfl (c_X6_run l D cy hs hH hT sH sT v_tape_size v_band_walkers v_band_loads v_band_pieces v_rules_clauses v_reader_end v_reader_at v_reader_length v_reader_letter v_reader_fault v_draft_clauses v_paces_version v_packing_quicker v_packing_loads v_packing_looseCount v_marches_told v_marches_changeMinutes v_marches_marching v_marches_gone v_search_known v_search_countHere v_search_countThere v_search_cost v_search_most v_search_found f_bytes f_knee f_weight f_limps f_bheft f_owner f_food f_miles f_slope f_rsteps f_rkind f_ryields f_rholds f_rletters zrstack_14 f_dsteps f_dkind f_dyields f_dholds f_dletters f_dstack f_caps f_versions f_sharing f_pheft f_prow f_holder f_comes f_pcaps f_room f_loose f_reached f_mrow f_minutesOn f_mtired f_here f_there f_statesHere f_statesThere f_listed f_stired f_burdens f_pacesOn f_restedOn f_behindOn f_behindFor f_first f_second f_plans f_tiredOn tS H.size n_17) (gi_V lwd_534 lwd_535 lwd_536 lwd_22 lwd_537) ⟨rfl, hd_X6_run⟩ ⟨Nat.le_of_ble_eq_true rfl, Nat.le_of_ble_eq_true rfl⟩ rfl (Nat.le_of_ble_eq_true rfl) dX6_value_47) (fun r_19 u_18 H locs hw hP hD hS => ?_)
            obtain ⟨zrstack_20, rfl⟩ : ∃ z, z = u_18 := ⟨_, rfl⟩
            try dsimp only at hw hP hD
            clear hw
            refine va_mmin hx hb (by rw [hml]; exact hl.1.symm) hown (hts _ lwd_527) (hts _ lwd_528) (hts _ lwd_529) (hts _ lwd_530) (Nat.le_of_ble_eq_true rfl) (Nat.le_of_ble_eq_true rfl) (Nat.zero_le _) (Nat.zero_le _) dX6_value_50 ?_
            refine lv_topi (fun n_21 en_21 => ?_)
            have tn_21 := i_min en_21 (rfl : hi1.toInt = hi1.toInt) (rfl : r_19.toInt = r_19.toInt)
            refine va_mmax hx hb (by rw [hml]; exact hl.1.symm) hown (hts _ lwd_531) (hts _ lwd_532) (hts _ lwd_529) (hts _ lwd_533) (Nat.le_of_ble_eq_true rfl) (Nat.le_of_ble_eq_true rfl) (Nat.zero_le _) (Nat.zero_le _) dX6_value_53 ?_
            refine lv_topi (fun n_22 en_22 => ?_)
            have tn_22 := i_max en_22 (rfl : lo1.toInt = lo1.toInt) (rfl : n_21.toInt = n_21.toInt)
            exact hrt n_22 zrstack_20 (by omega) hP hD hS rfl dX6_value_56
  have k_23 : (0 : Int32).toInt = 0 := by decide
  exact L3_5 8589934592 f_rstack 0 (by omega) (by omega) _ _ _ hP hD hS (lv_sub hl [0, 1, 2, 3, 4] rfl)
