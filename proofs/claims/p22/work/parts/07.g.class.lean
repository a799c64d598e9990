set_option maxHeartbeats 16000000 in
set_option maxRecDepth 100000 in
theorem c_X9_forget (l : Launch) (D : va_G) (cy : Nat → ClassId) (hs : Nat → Nat) (hH hT sH sT : Nat) (v_tape_size v_band_walkers v_band_loads v_band_pieces v_rules_clauses v_reader_end v_reader_at v_reader_length v_reader_letter v_reader_fault v_draft_clauses v_paces_version v_packing_quicker v_packing_loads v_packing_looseCount v_marches_told v_marches_changeMinutes v_marches_marching v_marches_gone v_search_known v_search_countHere v_search_countThere v_search_cost v_search_most : Int32) (v_search_found : Int64) (f_bytes f_knee f_weight f_limps f_bheft f_owner f_food f_miles f_slope f_rsteps f_rkind f_ryields f_rholds f_rletters f_rstack f_dsteps f_dkind f_dyields f_dholds f_dletters f_dstack f_caps f_versions f_sharing f_pheft f_prow f_holder f_comes f_pcaps f_room f_loose f_reached f_mrow f_minutesOn f_mtired : Nat → Int32) (f_here f_there : Nat → Int64) (f_statesHere f_statesThere f_listed f_stired f_burdens f_pacesOn f_restedOn f_behindOn f_behindFor f_first f_second : Nat → Int32) (f_plans f_tiredOn : Nat → Nat → Int32) (tS : Nat) (sz : Nat) (hb_v_search_known : 0 ≤ v_search_known.toInt ∧ v_search_known.toInt ≤ 1) : gMv l yX9_forget cX9_forget 1 1 [.ref (hs 0)] D cy (wSP cy hs hH hT sH sT v_tape_size v_band_walkers v_band_loads v_band_pieces v_rules_clauses v_reader_end v_reader_at v_reader_length v_reader_letter v_reader_fault v_draft_clauses v_paces_version v_packing_quicker v_packing_loads v_packing_looseCount v_marches_told v_marches_changeMinutes v_marches_marching v_marches_gone v_search_known v_search_countHere v_search_countThere v_search_cost v_search_most v_search_found f_bytes f_knee f_weight f_limps f_bheft f_owner f_food f_miles f_slope f_rsteps f_rkind f_ryields f_rholds f_rletters f_rstack f_dsteps f_dkind f_dyields f_dholds f_dletters f_dstack f_caps f_versions f_sharing f_pheft f_prow f_holder f_comes f_pcaps f_room f_loose f_reached f_mrow f_minutesOn f_mtired f_here f_there f_statesHere f_statesThere f_listed f_stired f_burdens f_pacesOn f_restedOn f_behindOn f_behindFor f_first f_second f_plans f_tiredOn) (NS tS) sz (fun (u : Int32 × Int32) => (0 ≤ (u.2).toInt ∧ (u.2).toInt ≤ 1)) (fun u => wSP cy hs hH hT sH sT v_tape_size v_band_walkers v_band_loads v_band_pieces v_rules_clauses v_reader_end v_reader_at v_reader_length v_reader_letter v_reader_fault v_draft_clauses (u.1) v_packing_quicker v_packing_loads v_packing_looseCount v_marches_told v_marches_changeMinutes v_marches_marching v_marches_gone (u.2) v_search_countHere v_search_countThere v_search_cost v_search_most v_search_found f_bytes f_knee f_weight f_limps f_bheft f_owner f_food f_miles f_slope f_rsteps f_rkind f_ryields f_rholds f_rletters f_rstack f_dsteps f_dkind f_dyields f_dholds f_dletters f_dstack f_caps f_versions f_sharing f_pheft f_prow f_holder f_comes f_pcaps f_room f_loose f_reached f_mrow f_minutesOn f_mtired f_here f_there f_statesHere f_statesThere f_listed f_stired f_burdens f_pacesOn f_restedOn f_behindOn f_behindFor f_first f_second f_plans f_tiredOn) := by
  refine gMv_in (by decide) (Nat.le_of_ble_eq_true rfl) ?_
  intro p e s m args below meth c A ls Q hx hb hml hts hown hsz hP hK hD hN hAe hA hS hl hret
  subst hsz
  have hl : lv_has ls 1 [(0, .ref (hs 0))] := hl
  have hrt := fun (v_paces_version' : Int32) (v_search_known' : Int32) (hp : (0 ≤ v_search_known'.toInt ∧ v_search_known'.toInt ≤ 1)) {H : Heap} {locs : List Loc} {pc : Nat} {ls : Array Slot} => hret (v_paces_version', v_search_known') (H := H) (locs := locs) (pc := pc) (ls := ls) hp
  clear hret
  refine lv_aload_n hx hb dX9_forget_0 rfl (lv_at hl 0 rfl) ?_
  refine gt_SP_SP_paces hx hb hts hown hK hP lwd_31 dX9_forget_1 ?_
  refine lv_dup hx hb dX9_forget_4 rfl ?_
  refine gt_SP_paces_version hx hb hts hown hK hP lwd_215 dX9_forget_5 ?_
  refine lv_iconst (v := 1) hx hb dX9_forget_8 (by decide) ?_
  refine lv_iadd hx hb dX9_forget_9 ?_
  refine lv_topi (fun n_1 en_1 => ?_)
  refine pt_SP_paces_version (x := n_1) hx hb hts hown hK hP hD hS lwd_215 dX9_forget_10 (fun H locs hP hD hS => ?_)
  refine lv_aload_n hx hb dX9_forget_13 rfl (lv_at hl 0 rfl) ?_
  refine gt_SP_SP_search hx hb hts hown hK hP lwd_43 dX9_forget_14 ?_
  refine lv_iconst (v := 0) hx hb dX9_forget_17 (by decide) ?_
  refine pt_SP_search_known (x := 0) hx hb hts hown hK hP hD hS lwd_216 (by decide) dX9_forget_18 (fun H locs hP hD hS => ?_)
  have k_2 : (0 : Int32).toInt = 0 := by decide
  exact hrt n_1 0 (by omega) hP hD hS dX9_forget_21
set_option maxHeartbeats 16000000 in
set_option maxRecDepth 100000 in
theorem c_X9_standsOn (l : Launch) (D : va_G) (cy : Nat → ClassId) (hs : Nat → Nat) (hH hT sH sT : Nat) (v_tape_size v_band_walkers v_band_loads v_band_pieces v_rules_clauses v_reader_end v_reader_at v_reader_length v_reader_letter v_reader_fault v_draft_clauses v_paces_version v_packing_quicker v_packing_loads v_packing_looseCount v_marches_told v_marches_changeMinutes v_marches_marching v_marches_gone v_search_known v_search_countHere v_search_countThere v_search_cost v_search_most : Int32) (v_search_found : Int64) (f_bytes f_knee f_weight f_limps f_bheft f_owner f_food f_miles f_slope f_rsteps f_rkind f_ryields f_rholds f_rletters f_rstack f_dsteps f_dkind f_dyields f_dholds f_dletters f_dstack f_caps f_versions f_sharing f_pheft f_prow f_holder f_comes f_pcaps f_room f_loose f_reached f_mrow f_minutesOn f_mtired : Nat → Int32) (f_here f_there : Nat → Int64) (f_statesHere f_statesThere f_listed f_stired f_burdens f_pacesOn f_restedOn f_behindOn f_behindFor f_first f_second : Nat → Int32) (f_plans f_tiredOn : Nat → Nat → Int32) (tS : Nat) (sz : Nat) (i : Int32) (all : Int32) (hb_v_band_walkers : 0 ≤ v_band_walkers.toInt ∧ v_band_walkers.toInt ≤ 6) (hb_v_band_pieces : 0 ≤ v_band_pieces.toInt ∧ v_band_pieces.toInt ≤ 10) : gMi l yX9_standsOn cX9_standsOn 3 .boolean 2 [.ref (hs 0), .int i, .int all] D cy (wSP cy hs hH hT sH sT v_tape_size v_band_walkers v_band_loads v_band_pieces v_rules_clauses v_reader_end v_reader_at v_reader_length v_reader_letter v_reader_fault v_draft_clauses v_paces_version v_packing_quicker v_packing_loads v_packing_looseCount v_marches_told v_marches_changeMinutes v_marches_marching v_marches_gone v_search_known v_search_countHere v_search_countThere v_search_cost v_search_most v_search_found f_bytes f_knee f_weight f_limps f_bheft f_owner f_food f_miles f_slope f_rsteps f_rkind f_ryields f_rholds f_rletters f_rstack f_dsteps f_dkind f_dyields f_dholds f_dletters f_dstack f_caps f_versions f_sharing f_pheft f_prow f_holder f_comes f_pcaps f_room f_loose f_reached f_mrow f_minutesOn f_mtired f_here f_there f_statesHere f_statesThere f_listed f_stired f_burdens f_pacesOn f_restedOn f_behindOn f_behindFor f_first f_second f_plans f_tiredOn) (NS tS) sz (fun (r : Int32) (u : Unit) => (0 ≤ r.toInt ∧ r.toInt ≤ 1) ∧ (r.toInt = 1 → 0 < v_band_walkers.toInt ∧ 0 ≤ i.toInt ∧ i.toInt < v_band_pieces.toInt ∧ 0 ≤ all.toInt ∧ all.toInt < 46656)) (fun u => wSP cy hs hH hT sH sT v_tape_size v_band_walkers v_band_loads v_band_pieces v_rules_clauses v_reader_end v_reader_at v_reader_length v_reader_letter v_reader_fault v_draft_clauses v_paces_version v_packing_quicker v_packing_loads v_packing_looseCount v_marches_told v_marches_changeMinutes v_marches_marching v_marches_gone v_search_known v_search_countHere v_search_countThere v_search_cost v_search_most v_search_found f_bytes f_knee f_weight f_limps f_bheft f_owner f_food f_miles f_slope f_rsteps f_rkind f_ryields f_rholds f_rletters f_rstack f_dsteps f_dkind f_dyields f_dholds f_dletters f_dstack f_caps f_versions f_sharing f_pheft f_prow f_holder f_comes f_pcaps f_room f_loose f_reached f_mrow f_minutesOn f_mtired f_here f_there f_statesHere f_statesThere f_listed f_stired f_burdens f_pacesOn f_restedOn f_behindOn f_behindFor f_first f_second f_plans f_tiredOn) := by
  refine gMi_in (by decide) (Nat.le_of_ble_eq_true rfl) ?_
  intro p e s m args below meth c A ls Q hx hb hml hts hown hsz hP hK hD hN hAe hA hS hl hret
  subst hsz
  have hl : lv_has ls 3 [(0, .ref (hs 0)), (1, .int i), (2, .int all)] := hl
  have hrt := fun (r : Int32)  (hp : (0 ≤ r.toInt ∧ r.toInt ≤ 1) ∧ (r.toInt = 1 → 0 < v_band_walkers.toInt ∧ 0 ≤ i.toInt ∧ i.toInt < v_band_pieces.toInt ∧ 0 ≤ all.toInt ∧ all.toInt < 46656)) {H : Heap} {locs : List Loc} {pc : Nat} {ls : Array Slot} => hret r () (H := H) (locs := locs) (pc := pc) (ls := ls) hp
  clear hret
  refine lv_aload_n hx hb dX9_standsOn_0 rfl (lv_at hl 0 rfl) ?_
  refine gt_SP_SP_band hx hb hts hown hK hP lwd_19 dX9_standsOn_1 ?_
  refine gt_SP_band_walkers hx hb hts hown hK hP lwd_206 dX9_standsOn_4 ?_
  refine lv_if_le (tgt := 36) hx hb dX9_standsOn_7 (by decide) (fun c_1 => ?_) (fun c_1 => ?_)
  · have gc_1 : v_band_walkers.toInt ≤ 0 := i_le (rfl : v_band_walkers.toInt = v_band_walkers.toInt) (by decide : (0 : Int32).toInt = 0) c_1
    refine lv_iconst (v := 0) hx hb dX9_standsOn_36 (by decide) ?_
    have k_2 : (0 : Int32).toInt = 0 := by decide
    exact hrt 0  ⟨(by omega), (by omega)⟩ hP hD hS rfl dX9_standsOn_37
  · have gc_1 : 0 < v_band_walkers.toInt := i_nle (rfl : v_band_walkers.toInt = v_band_walkers.toInt) (by decide : (0 : Int32).toInt = 0) c_1
    refine lv_aload_n hx hb dX9_standsOn_10 rfl (lv_at hl 0 rfl) ?_
    refine gt_SP_SP_band hx hb hts hown hK hP lwd_19 dX9_standsOn_11 ?_
    refine lv_iload_n hx hb dX9_standsOn_14 rfl (lv_at hl 1 rfl) ?_
    refine xi hD hS hA (xV (As := [.int i]) (rest := []) hx hb hml hown hts hK hP hD hS hA NS_ok hN hAe hl.1 ⟨Nat.le_refl _, Nat.le_refl _⟩ 3 rfl rfl rfl (c_X0_hasPiece l D cy hs hH hT sH sT v_tape_size v_band_walkers v_band_loads v_band_pieces v_rules_clauses v_reader_end v_reader_at v_reader_length v_reader_letter v_reader_fault v_draft_clauses v_paces_version v_packing_quicker v_packing_loads v_packing_looseCount v_marches_told v_marches_changeMinutes v_marches_marching v_marches_gone v_search_known v_search_countHere v_search_countThere v_search_cost v_search_most v_search_found f_bytes f_knee f_weight f_limps f_bheft f_owner f_food f_miles f_slope f_rsteps f_rkind f_ryields f_rholds f_rletters f_rstack f_dsteps f_dkind f_dyields f_dholds f_dletters f_dstack f_caps f_versions f_sharing f_pheft f_prow f_holder f_comes f_pcaps f_room f_loose f_reached f_mrow f_minutesOn f_mtired f_here f_there f_statesHere f_statesThere f_listed f_stired f_burdens f_pacesOn f_restedOn f_behindOn f_behindFor f_first f_second f_plans f_tiredOn tS s.heap.size i (by omega)) (gi_V lwd_504 lwd_505 lwd_506 lwd_18 lwd_507) ⟨rfl, hd_X0_hasPiece⟩ ⟨Nat.le_of_ble_eq_true rfl, Nat.le_of_ble_eq_true rfl⟩ rfl (Nat.le_of_ble_eq_true rfl) dX9_standsOn_15) (fun r_4 u_3 H locs hw hP hD hS => ?_)
    try dsimp only at hw hP hD
    obtain ⟨p_5, p_6⟩ := hw
    refine lv_if_eq (tgt := 36) hx hb dX9_standsOn_18 (by decide) (fun c_7 => ?_) (fun c_7 => ?_)
    · have gc_7 : r_4.toInt = 0 := i_eq (rfl : r_4.toInt = r_4.toInt) (by decide : (0 : Int32).toInt = 0) c_7
      refine lv_iconst (v := 0) hx hb dX9_standsOn_36 (by decide) ?_
      have k_8 : (0 : Int32).toInt = 0 := by decide
      exact hrt 0  ⟨(by omega), (by omega)⟩ hP hD hS rfl dX9_standsOn_37
    · have gc_7 : r_4.toInt ≠ 0 := i_ne (rfl : r_4.toInt = r_4.toInt) (by decide : (0 : Int32).toInt = 0) c_7
      refine lv_iload_n hx hb dX9_standsOn_21 rfl (lv_at hl 2 rfl) ?_
      refine lv_if_lt (tgt := 36) hx hb dX9_standsOn_22 (by decide) (fun c_9 => ?_) (fun c_9 => ?_)
      · have gc_9 : all.toInt < 0 := i_lt (rfl : all.toInt = all.toInt) (by decide : (0 : Int32).toInt = 0) c_9
        refine lv_iconst (v := 0) hx hb dX9_standsOn_36 (by decide) ?_
        have k_10 : (0 : Int32).toInt = 0 := by decide
        exact hrt 0  ⟨(by omega), (by omega)⟩ hP hD hS rfl dX9_standsOn_37
      · have gc_9 : 0 ≤ all.toInt := i_nlt (rfl : all.toInt = all.toInt) (by decide : (0 : Int32).toInt = 0) c_9
        refine lv_iload_n hx hb dX9_standsOn_25 rfl (lv_at hl 2 rfl) ?_
        refine lv_ldcw hx hb hown (hts _ lwd_620) dX9_standsOn_26 ?_
        refine lv_icmp_ge (tgt := 36) hx hb dX9_standsOn_29 (by decide) (fun c_11 => ?_) (fun c_11 => ?_)
        · have gc_11 : 46656 ≤ all.toInt := i_le (by decide : (46656 : Int32).toInt = 46656) (rfl : all.toInt = all.toInt) c_11
          refine lv_iconst (v := 0) hx hb dX9_standsOn_36 (by decide) ?_
          have k_12 : (0 : Int32).toInt = 0 := by decide
          exact hrt 0  ⟨(by omega), (by omega)⟩ hP hD hS rfl dX9_standsOn_37
        · have gc_11 : all.toInt < 46656 := i_nle (by decide : (46656 : Int32).toInt = 46656) (rfl : all.toInt = all.toInt) c_11
          refine lv_iconst (v := 1) hx hb dX9_standsOn_32 (by decide) ?_
          refine lv_goto (tgt := 37) hx hb dX9_standsOn_33 (by decide) ?_
          have k_13 : (1 : Int32).toInt = 1 := by decide
          exact hrt 1  ⟨(by omega), (by omega)⟩ hP hD hS rfl dX9_standsOn_37
set_option maxHeartbeats 16000000 in
set_option maxRecDepth 100000 in
theorem c_X9_walker (l : Launch) (D : va_G) (cy : Nat → ClassId) (hs : Nat → Nat) (hH hT sH sT : Nat) (v_tape_size v_band_walkers v_band_loads v_band_pieces v_rules_clauses v_reader_end v_reader_at v_reader_length v_reader_letter v_reader_fault v_draft_clauses v_paces_version v_packing_quicker v_packing_loads v_packing_looseCount v_marches_told v_marches_changeMinutes v_marches_marching v_marches_gone v_search_known v_search_countHere v_search_countThere v_search_cost v_search_most : Int32) (v_search_found : Int64) (f_bytes f_knee f_weight f_limps f_bheft f_owner f_food f_miles f_slope f_rsteps f_rkind f_ryields f_rholds f_rletters f_rstack f_dsteps f_dkind f_dyields f_dholds f_dletters f_dstack f_caps f_versions f_sharing f_pheft f_prow f_holder f_comes f_pcaps f_room f_loose f_reached f_mrow f_minutesOn f_mtired : Nat → Int32) (f_here f_there : Nat → Int64) (f_statesHere f_statesThere f_listed f_stired f_burdens f_pacesOn f_restedOn f_behindOn f_behindFor f_first f_second : Nat → Int32) (f_plans f_tiredOn : Nat → Nat → Int32) (tS : Nat) (sz : Nat) (k : Int32) (b : Int32) (hb_v_band_walkers : 0 ≤ v_band_walkers.toInt ∧ v_band_walkers.toInt ≤ 6) (hb_v_marches_marching : 0 ≤ v_marches_marching.toInt ∧ v_marches_marching.toInt ≤ 1) (hb_v_search_known : 0 ≤ v_search_known.toInt ∧ v_search_known.toInt ≤ 1) (hr_weight : rg (0) 250 f_weight) (hr_limps : rg (0) 1 f_limps) : gMi l yX9_walker cX9_walker 5 .int 2 [.ref (hs 0), .int k, .int b] D cy (wSP cy hs hH hT sH sT v_tape_size v_band_walkers v_band_loads v_band_pieces v_rules_clauses v_reader_end v_reader_at v_reader_length v_reader_letter v_reader_fault v_draft_clauses v_paces_version v_packing_quicker v_packing_loads v_packing_looseCount v_marches_told v_marches_changeMinutes v_marches_marching v_marches_gone v_search_known v_search_countHere v_search_countThere v_search_cost v_search_most v_search_found f_bytes f_knee f_weight f_limps f_bheft f_owner f_food f_miles f_slope f_rsteps f_rkind f_ryields f_rholds f_rletters f_rstack f_dsteps f_dkind f_dyields f_dholds f_dletters f_dstack f_caps f_versions f_sharing f_pheft f_prow f_holder f_comes f_pcaps f_room f_loose f_reached f_mrow f_minutesOn f_mtired f_here f_there f_statesHere f_statesThere f_listed f_stired f_burdens f_pacesOn f_restedOn f_behindOn f_behindFor f_first f_second f_plans f_tiredOn) (NS tS) sz (fun (r : Int32) (u : Int32 × Int32 × Int32 × Int32 × (Nat → Int32) × (Nat → Int32) × (Nat → Int32)) => ((r.toInt = v_band_walkers.toInt ∧ v_band_walkers.toInt < 6 ∧ 0 ≤ k.toInt ∧ k.toInt ≤ 9 ∧ 20 ≤ b.toInt ∧ b.toInt ≤ 250 ∧ (u.1).toInt = v_band_walkers.toInt + 1 ∧ (u.2.2.1).toInt = 0) ∨ (r.toInt = -1 ∧ ¬ (v_band_walkers.toInt < 6 ∧ 0 ≤ k.toInt ∧ k.toInt ≤ 9 ∧ 20 ≤ b.toInt ∧ b.toInt ≤ 250) ∧ (u.1).toInt = v_band_walkers.toInt ∧ (u.2.2.1).toInt = v_marches_marching.toInt)) ∧ ((r.toInt ≠ -1 → (u.2.2.2.2.2.2) = upd f_limps v_band_walkers.toNatClampNeg 0) ∧ (r.toInt = -1 → (u.2.2.2.2.2.2) = f_limps)) ∧ (0 ≤ (u.1).toInt ∧ (u.1).toInt ≤ 6) ∧ (0 ≤ (u.2.2.1).toInt ∧ (u.2.2.1).toInt ≤ 1) ∧ (0 ≤ (u.2.2.2.1).toInt ∧ (u.2.2.2.1).toInt ≤ 1) ∧ (rg (0) 250 (u.2.2.2.2.2.1)) ∧ (rg (0) 1 (u.2.2.2.2.2.2))) (fun u => wSP cy hs hH hT sH sT v_tape_size (u.1) v_band_loads v_band_pieces v_rules_clauses v_reader_end v_reader_at v_reader_length v_reader_letter v_reader_fault v_draft_clauses (u.2.1) v_packing_quicker v_packing_loads v_packing_looseCount v_marches_told v_marches_changeMinutes (u.2.2.1) v_marches_gone (u.2.2.2.1) v_search_countHere v_search_countThere v_search_cost v_search_most v_search_found f_bytes (u.2.2.2.2.1) (u.2.2.2.2.2.1) (u.2.2.2.2.2.2) f_bheft f_owner f_food f_miles f_slope f_rsteps f_rkind f_ryields f_rholds f_rletters f_rstack f_dsteps f_dkind f_dyields f_dholds f_dletters f_dstack f_caps f_versions f_sharing f_pheft f_prow f_holder f_comes f_pcaps f_room f_loose f_reached f_mrow f_minutesOn f_mtired f_here f_there f_statesHere f_statesThere f_listed f_stired f_burdens f_pacesOn f_restedOn f_behindOn f_behindFor f_first f_second f_plans f_tiredOn) := by
  refine gMi_in (by decide) (Nat.le_of_ble_eq_true rfl) ?_
  intro p e s m args below meth c A ls Q hx hb hml hts hown hsz hP hK hD hN hAe hA hS hl hret
  subst hsz
  have hl : lv_has ls 5 [(0, .ref (hs 0)), (1, .int k), (2, .int b)] := hl
  have hrt := fun (r : Int32) (v_band_walkers' : Int32) (v_paces_version' : Int32) (v_marches_marching' : Int32) (v_search_known' : Int32) (f_knee' : Nat → Int32) (f_weight' : Nat → Int32) (f_limps' : Nat → Int32) (hp : ((r.toInt = v_band_walkers.toInt ∧ v_band_walkers.toInt < 6 ∧ 0 ≤ k.toInt ∧ k.toInt ≤ 9 ∧ 20 ≤ b.toInt ∧ b.toInt ≤ 250 ∧ v_band_walkers'.toInt = v_band_walkers.toInt + 1 ∧ v_marches_marching'.toInt = 0) ∨ (r.toInt = -1 ∧ ¬ (v_band_walkers.toInt < 6 ∧ 0 ≤ k.toInt ∧ k.toInt ≤ 9 ∧ 20 ≤ b.toInt ∧ b.toInt ≤ 250) ∧ v_band_walkers'.toInt = v_band_walkers.toInt ∧ v_marches_marching'.toInt = v_marches_marching.toInt)) ∧ ((r.toInt ≠ -1 → f_limps' = upd f_limps v_band_walkers.toNatClampNeg 0) ∧ (r.toInt = -1 → f_limps' = f_limps)) ∧ (0 ≤ v_band_walkers'.toInt ∧ v_band_walkers'.toInt ≤ 6) ∧ (0 ≤ v_marches_marching'.toInt ∧ v_marches_marching'.toInt ≤ 1) ∧ (0 ≤ v_search_known'.toInt ∧ v_search_known'.toInt ≤ 1) ∧ (rg (0) 250 f_weight') ∧ (rg (0) 1 f_limps')) {H : Heap} {locs : List Loc} {pc : Nat} {ls : Array Slot} => hret r (v_band_walkers', v_paces_version', v_marches_marching', v_search_known', f_knee', f_weight', f_limps') (H := H) (locs := locs) (pc := pc) (ls := ls) hp
  clear hret
  refine lv_iload_n hx hb dX9_walker_0 rfl (lv_at hl 1 rfl) ?_
  refine lv_if_lt (tgt := 27) hx hb dX9_walker_1 (by decide) (fun c_1 => ?_) (fun c_1 => ?_)
  · have gc_1 : k.toInt < 0 := i_lt (rfl : k.toInt = k.toInt) (by decide : (0 : Int32).toInt = 0) c_1
    refine lv_iconst (v := 0) hx hb dX9_walker_27 (by decide) ?_
    refine lv_istore_n (lv' := [(3, .int 0), (0, .ref (hs 0)), (1, .int k), (2, .int b)]) hx hb dX9_walker_28 rfl hl (by decide) rfl (fun ls hl => ?_)
    refine lv_iload_n hx hb dX9_walker_29 rfl (lv_at hl 0 rfl) ?_
    refine lv_if_eq (tgt := 45) hx hb dX9_walker_30 (by decide) (fun c_2 => ?_) (fun c_2 => ?_)
    · skip
      refine lv_iconst (v := (-1)) hx hb dX9_walker_45 (by decide) ?_
      have k_3 : ((-1) : Int32).toInt = (-1) := by decide
      exact hrt (-1) v_band_walkers v_paces_version v_marches_marching v_search_known f_knee f_weight f_limps ⟨(by omega), ⟨fun h => absurd h (by omega), fun _ => rfl⟩, (by omega), (by omega), (by omega), hr_weight, hr_limps⟩ hP hD hS rfl dX9_walker_46
    · exact absurd c_2 (by decide)
  · have gc_1 : 0 ≤ k.toInt := i_nlt (rfl : k.toInt = k.toInt) (by decide : (0 : Int32).toInt = 0) c_1
    refine lv_iload_n hx hb dX9_walker_4 rfl (lv_at hl 1 rfl) ?_
    refine lv_bipush (v := 9) hx hb dX9_walker_5 (by decide) ?_
    refine lv_icmp_gt (tgt := 27) hx hb dX9_walker_7 (by decide) (fun c_4 => ?_) (fun c_4 => ?_)
    · have gc_4 : 9 < k.toInt := i_lt (by decide : (9 : Int32).toInt = 9) (rfl : k.toInt = k.toInt) c_4
      refine lv_iconst (v := 0) hx hb dX9_walker_27 (by decide) ?_
      refine lv_istore_n (lv' := [(3, .int 0), (0, .ref (hs 0)), (1, .int k), (2, .int b)]) hx hb dX9_walker_28 rfl hl (by decide) rfl (fun ls hl => ?_)
      refine lv_iload_n hx hb dX9_walker_29 rfl (lv_at hl 0 rfl) ?_
      refine lv_if_eq (tgt := 45) hx hb dX9_walker_30 (by decide) (fun c_5 => ?_) (fun c_5 => ?_)
      · skip
        refine lv_iconst (v := (-1)) hx hb dX9_walker_45 (by decide) ?_
        have k_6 : ((-1) : Int32).toInt = (-1) := by decide
        exact hrt (-1) v_band_walkers v_paces_version v_marches_marching v_search_known f_knee f_weight f_limps ⟨(by omega), ⟨fun h => absurd h (by omega), fun _ => rfl⟩, (by omega), (by omega), (by omega), hr_weight, hr_limps⟩ hP hD hS rfl dX9_walker_46
      · exact absurd c_5 (by decide)
    · have gc_4 : k.toInt ≤ 9 := i_nlt (by decide : (9 : Int32).toInt = 9) (rfl : k.toInt = k.toInt) c_4
      refine lv_iload_n hx hb dX9_walker_10 rfl (lv_at hl 2 rfl) ?_
      refine lv_bipush (v := 20) hx hb dX9_walker_11 (by decide) ?_
      refine lv_icmp_lt (tgt := 27) hx hb dX9_walker_13 (by decide) (fun c_7 => ?_) (fun c_7 => ?_)
      · have gc_7 : b.toInt < 20 := i_lt (rfl : b.toInt = b.toInt) (by decide : (20 : Int32).toInt = 20) c_7
        refine lv_iconst (v := 0) hx hb dX9_walker_27 (by decide) ?_
        refine lv_istore_n (lv' := [(3, .int 0), (0, .ref (hs 0)), (1, .int k), (2, .int b)]) hx hb dX9_walker_28 rfl hl (by decide) rfl (fun ls hl => ?_)
        refine lv_iload_n hx hb dX9_walker_29 rfl (lv_at hl 0 rfl) ?_
        refine lv_if_eq (tgt := 45) hx hb dX9_walker_30 (by decide) (fun c_8 => ?_) (fun c_8 => ?_)
        · skip
          refine lv_iconst (v := (-1)) hx hb dX9_walker_45 (by decide) ?_
          have k_9 : ((-1) : Int32).toInt = (-1) := by decide
          exact hrt (-1) v_band_walkers v_paces_version v_marches_marching v_search_known f_knee f_weight f_limps ⟨(by omega), ⟨fun h => absurd h (by omega), fun _ => rfl⟩, (by omega), (by omega), (by omega), hr_weight, hr_limps⟩ hP hD hS rfl dX9_walker_46
        · exact absurd c_8 (by decide)
      · have gc_7 : 20 ≤ b.toInt := i_nlt (rfl : b.toInt = b.toInt) (by decide : (20 : Int32).toInt = 20) c_7
        refine lv_iload_n hx hb dX9_walker_16 rfl (lv_at hl 2 rfl) ?_
        refine lv_sipush (v := 250) hx hb dX9_walker_17 (by decide) ?_
        refine lv_icmp_gt (tgt := 27) hx hb dX9_walker_20 (by decide) (fun c_10 => ?_) (fun c_10 => ?_)
        · have gc_10 : 250 < b.toInt := i_lt (by decide : (250 : Int32).toInt = 250) (rfl : b.toInt = b.toInt) c_10
          refine lv_iconst (v := 0) hx hb dX9_walker_27 (by decide) ?_
          refine lv_istore_n (lv' := [(3, .int 0), (0, .ref (hs 0)), (1, .int k), (2, .int b)]) hx hb dX9_walker_28 rfl hl (by decide) rfl (fun ls hl => ?_)
          refine lv_iload_n hx hb dX9_walker_29 rfl (lv_at hl 0 rfl) ?_
          refine lv_if_eq (tgt := 45) hx hb dX9_walker_30 (by decide) (fun c_11 => ?_) (fun c_11 => ?_)
          · skip
            refine lv_iconst (v := (-1)) hx hb dX9_walker_45 (by decide) ?_
            have k_12 : ((-1) : Int32).toInt = (-1) := by decide
            exact hrt (-1) v_band_walkers v_paces_version v_marches_marching v_search_known f_knee f_weight f_limps ⟨(by omega), ⟨fun h => absurd h (by omega), fun _ => rfl⟩, (by omega), (by omega), (by omega), hr_weight, hr_limps⟩ hP hD hS rfl dX9_walker_46
          · exact absurd c_11 (by decide)
        · have gc_10 : b.toInt ≤ 250 := i_nlt (by decide : (250 : Int32).toInt = 250) (rfl : b.toInt = b.toInt) c_10
          refine lv_iconst (v := 1) hx hb dX9_walker_23 (by decide) ?_
          refine lv_goto (tgt := 28) hx hb dX9_walker_24 (by decide) ?_
          refine lv_istore_n (lv' := [(3, .int 1), (0, .ref (hs 0)), (1, .int k), (2, .int b)]) hx hb dX9_walker_28 rfl hl (by decide) rfl (fun ls hl => ?_)
          refine lv_iload_n hx hb dX9_walker_29 rfl (lv_at hl 0 rfl) ?_
          refine lv_if_eq (tgt := 45) hx hb dX9_walker_30 (by decide) (fun c_13 => ?_) (fun c_13 => ?_)
          · exact absurd c_13 (by decide)
          · skip
            refine lv_aload_n hx hb dX9_walker_33 rfl (lv_at hl 1 rfl) ?_
            refine gt_SP_SP_band hx hb hts hown hK hP lwd_19 dX9_walker_34 ?_
            refine gt_SP_band_walkers hx hb hts hown hK hP lwd_206 dX9_walker_37 ?_
            refine lv_bipush (v := 6) hx hb dX9_walker_40 (by decide) ?_
            refine lv_icmp_lt (tgt := 47) hx hb dX9_walker_42 (by decide) (fun c_14 => ?_) (fun c_14 => ?_)
            · have gc_14 : v_band_walkers.toInt < 6 := i_lt (rfl : v_band_walkers.toInt = v_band_walkers.toInt) (by decide : (6 : Int32).toInt = 6) c_14
              refine lv_aload_n hx hb dX9_walker_47 rfl (lv_at hl 1 rfl) ?_
              refine gt_SP_SP_band hx hb hts hown hK hP lwd_19 dX9_walker_48 ?_
              refine gt_SP_band_walkers hx hb hts hown hK hP lwd_206 dX9_walker_51 ?_
              refine lv_istore (lv' := [(4, .int v_band_walkers), (3, .int 1), (0, .ref (hs 0)), (1, .int k), (2, .int b)]) hx hb dX9_walker_54 hl (by decide) rfl (fun ls hl => ?_)
              refine lv_aload_n hx hb dX9_walker_56 rfl (lv_at hl 2 rfl) ?_
              refine gt_SP_SP_band hx hb hts hown hK hP lwd_19 dX9_walker_57 ?_
              refine gt_SP_band_knee hx hb hts hown hK hP lwd_207 dX9_walker_60 ?_
              refine lv_iload hx hb dX9_walker_63 (lv_at hl 0 rfl) ?_
              refine lv_iload_n hx hb dX9_walker_65 rfl (lv_at hl 3 rfl) ?_
              refine as_knee (x := k) hx hb hK hP hD hS (i_in (rfl : v_band_walkers.toInt = v_band_walkers.toInt) (by omega) (by omega)) dX9_walker_66 (fun f_15 ef_15 H locs hP hD hS => ?_)
              refine lv_aload_n hx hb dX9_walker_67 rfl (lv_at hl 2 rfl) ?_
              refine gt_SP_SP_band hx hb hts hown hK hP lwd_19 dX9_walker_68 ?_
              refine gt_SP_band_weight hx hb hts hown hK hP lwd_208 dX9_walker_71 ?_
              refine lv_iload hx hb dX9_walker_74 (lv_at hl 0 rfl) ?_
              refine lv_iload_n hx hb dX9_walker_76 rfl (lv_at hl 4 rfl) ?_
              refine as_weight (x := b) hx hb hK hP hD hS hr_weight (i_in (rfl : v_band_walkers.toInt = v_band_walkers.toInt) (by omega) (by omega)) (by omega) dX9_walker_77 (fun f_16 ef_16 rf_16 H locs hP hD hS => ?_)
              refine lv_aload_n hx hb dX9_walker_78 rfl (lv_at hl 2 rfl) ?_
              refine gt_SP_SP_band hx hb hts hown hK hP lwd_19 dX9_walker_79 ?_
              refine gt_SP_band_limps hx hb hts hown hK hP lwd_209 dX9_walker_82 ?_
              refine lv_iload hx hb dX9_walker_85 (lv_at hl 0 rfl) ?_
              refine lv_iconst (v := 0) hx hb dX9_walker_87 (by decide) ?_
              refine as_limps (x := 0) hx hb hK hP hD hS hr_limps (i_in (rfl : v_band_walkers.toInt = v_band_walkers.toInt) (by omega) (by omega)) (by decide) dX9_walker_88 (fun f_17 ef_17 rf_17 H locs hP hD hS => ?_)
              refine lv_aload_n hx hb dX9_walker_89 rfl (lv_at hl 2 rfl) ?_
              refine gt_SP_SP_band hx hb hts hown hK hP lwd_19 dX9_walker_90 ?_
              refine lv_dup hx hb dX9_walker_93 rfl ?_
              refine gt_SP_band_walkers hx hb hts hown hK hP lwd_206 dX9_walker_94 ?_
              refine lv_iconst (v := 1) hx hb dX9_walker_97 (by decide) ?_
              refine lv_iadd hx hb dX9_walker_98 ?_
              refine lv_topi (fun n_18 en_18 => ?_)
              have tn_18 : n_18.toInt = v_band_walkers.toInt + 1 := i_add en_18 (rfl : v_band_walkers.toInt = v_band_walkers.toInt) (by decide : (1 : Int32).toInt = 1) (by omega) (by omega)
              refine pt_SP_band_walkers (x := n_18) hx hb hts hown hK hP hD hS lwd_206 dX9_walker_99 (fun H locs hP hD hS => ?_)
              refine lv_aload_n hx hb dX9_walker_102 rfl (lv_at hl 2 rfl) ?_
              refine gt_SP_SP_marches hx hb hts hown hK hP lwd_39 dX9_walker_103 ?_
              refine lv_iconst (v := 0) hx hb dX9_walker_106 (by decide) ?_
              refine pt_SP_marches_marching (x := 0) hx hb hts hown hK hP hD hS lwd_210 (by decide) dX9_walker_107 (fun H locs hP hD hS => ?_)
              refine lv_aload_n hx hb dX9_walker_110 rfl (lv_at hl 2 rfl) ?_
              refine xv hD hS hA (xV (As := []) (rest := []) hx hb hml hown hts hK hP hD hS hA NS_ok hN hAe hl.1 ⟨Nat.le_refl _, Nat.le_refl _⟩ 0 rfl rfl rfl (c_X9_forget l D cy hs hH hT sH sT v_tape_size n_18 v_band_loads v_band_pieces v_rules_clauses v_reader_end v_reader_at v_reader_length v_reader_letter v_reader_fault v_draft_clauses v_paces_version v_packing_quicker v_packing_loads v_packing_looseCount v_marches_told v_marches_changeMinutes 0 v_marches_gone v_search_known v_search_countHere v_search_countThere v_search_cost v_search_most v_search_found f_bytes f_15 f_16 f_17 f_bheft f_owner f_food f_miles f_slope f_rsteps f_rkind f_ryields f_rholds f_rletters f_rstack f_dsteps f_dkind f_dyields f_dholds f_dletters f_dstack f_caps f_versions f_sharing f_pheft f_prow f_holder f_comes f_pcaps f_room f_loose f_reached f_mrow f_minutesOn f_mtired f_here f_there f_statesHere f_statesThere f_listed f_stired f_burdens f_pacesOn f_restedOn f_behindOn f_behindFor f_first f_second f_plans f_tiredOn tS H.size (by omega)) (gi_V lwd_211 lwd_212 lwd_213 lwd_2 lwd_214) ⟨rfl, hd_X9_forget⟩ ⟨Nat.le_of_ble_eq_true rfl, Nat.le_of_ble_eq_true rfl⟩ rfl (Nat.le_of_ble_eq_true rfl) dX9_walker_111) (fun u_19 H locs hw hP hD hS => ?_)
              obtain ⟨zpaces_version_21, zsearch_known_22⟩ := u_19
              try dsimp only at hw hP hD
              have p_23 := hw
              clear hw
              refine lv_iload hx hb dX9_walker_114 (lv_at hl 0 rfl) ?_
              have k_24 : (0 : Int32).toInt = 0 := by decide
              exact hrt v_band_walkers n_18 zpaces_version_21 0 zsearch_known_22 f_15 f_16 f_17 ⟨(by omega), ⟨fun _ => ef_17, fun h => absurd h (by omega)⟩, (by omega), (by omega), (by omega), rf_16, rf_17⟩ hP hD hS rfl dX9_walker_116
            · have gc_14 : 6 ≤ v_band_walkers.toInt := i_nlt (rfl : v_band_walkers.toInt = v_band_walkers.toInt) (by decide : (6 : Int32).toInt = 6) c_14
              refine lv_iconst (v := (-1)) hx hb dX9_walker_45 (by decide) ?_
              have k_25 : ((-1) : Int32).toInt = (-1) := by decide
              exact hrt (-1) v_band_walkers v_paces_version v_marches_marching v_search_known f_knee f_weight f_limps ⟨(by omega), ⟨fun h => absurd h (by omega), fun _ => rfl⟩, (by omega), (by omega), (by omega), hr_weight, hr_limps⟩ hP hD hS rfl dX9_walker_46
set_option maxHeartbeats 16000000 in
set_option maxRecDepth 100000 in
theorem c_X9_load (l : Launch) (D : va_G) (cy : Nat → ClassId) (hs : Nat → Nat) (hH hT sH sT : Nat) (v_tape_size v_band_walkers v_band_loads v_band_pieces v_rules_clauses v_reader_end v_reader_at v_reader_length v_reader_letter v_reader_fault v_draft_clauses v_paces_version v_packing_quicker v_packing_loads v_packing_looseCount v_marches_told v_marches_changeMinutes v_marches_marching v_marches_gone v_search_known v_search_countHere v_search_countThere v_search_cost v_search_most : Int32) (v_search_found : Int64) (f_bytes f_knee f_weight f_limps f_bheft f_owner f_food f_miles f_slope f_rsteps f_rkind f_ryields f_rholds f_rletters f_rstack f_dsteps f_dkind f_dyields f_dholds f_dletters f_dstack f_caps f_versions f_sharing f_pheft f_prow f_holder f_comes f_pcaps f_room f_loose f_reached f_mrow f_minutesOn f_mtired : Nat → Int32) (f_here f_there : Nat → Int64) (f_statesHere f_statesThere f_listed f_stired f_burdens f_pacesOn f_restedOn f_behindOn f_behindFor f_first f_second : Nat → Int32) (f_plans f_tiredOn : Nat → Nat → Int32) (tS : Nat) (sz : Nat) (b : Int32) (o : Int32) (f : Int32) (hb_v_band_walkers : 0 ≤ v_band_walkers.toInt ∧ v_band_walkers.toInt ≤ 6) (hb_v_band_loads : 0 ≤ v_band_loads.toInt ∧ v_band_loads.toInt ≤ 9) (hb_v_marches_marching : 0 ≤ v_marches_marching.toInt ∧ v_marches_marching.toInt ≤ 1) (hb_v_search_known : 0 ≤ v_search_known.toInt ∧ v_search_known.toInt ≤ 1) (hr_bheft : rg (0) 120 f_bheft) (hr_owner : rg (-1) 5 f_owner) (hr_food : rg (0) 20 f_food) : gMi l yX9_load cX9_load 7 .int 2 [.ref (hs 0), .int b, .int o, .int f] D cy (wSP cy hs hH hT sH sT v_tape_size v_band_walkers v_band_loads v_band_pieces v_rules_clauses v_reader_end v_reader_at v_reader_length v_reader_letter v_reader_fault v_draft_clauses v_paces_version v_packing_quicker v_packing_loads v_packing_looseCount v_marches_told v_marches_changeMinutes v_marches_marching v_marches_gone v_search_known v_search_countHere v_search_countThere v_search_cost v_search_most v_search_found f_bytes f_knee f_weight f_limps f_bheft f_owner f_food f_miles f_slope f_rsteps f_rkind f_ryields f_rholds f_rletters f_rstack f_dsteps f_dkind f_dyields f_dholds f_dletters f_dstack f_caps f_versions f_sharing f_pheft f_prow f_holder f_comes f_pcaps f_room f_loose f_reached f_mrow f_minutesOn f_mtired f_here f_there f_statesHere f_statesThere f_listed f_stired f_burdens f_pacesOn f_restedOn f_behindOn f_behindFor f_first f_second f_plans f_tiredOn) (NS tS) sz (fun (r : Int32) (u : Int32 × Int32 × Int32 × Int32 × (Nat → Int32) × (Nat → Int32) × (Nat → Int32)) => ((r.toInt = v_band_loads.toInt ∧ v_band_loads.toInt < 9 ∧ 1 ≤ b.toInt ∧ b.toInt ≤ 120 ∧ (o.toInt = -1 ∨ 0 ≤ o.toInt ∧ o.toInt < v_band_walkers.toInt) ∧ 0 ≤ f.toInt ∧ f.toInt ≤ 20 ∧ (u.1).toInt = v_band_loads.toInt + 1 ∧ (u.2.2.1).toInt = 0 ∧ (u.2.1).toInt = 0) ∨ (r.toInt = -1 ∧ ¬ (v_band_loads.toInt < 9 ∧ 1 ≤ b.toInt ∧ b.toInt ≤ 120 ∧ (o.toInt = -1 ∨ 0 ≤ o.toInt ∧ o.toInt < v_band_walkers.toInt) ∧ 0 ≤ f.toInt ∧ f.toInt ≤ 20) ∧ (u.1).toInt = v_band_loads.toInt ∧ (u.2.2.1).toInt = v_marches_marching.toInt ∧ (u.2.1).toInt = v_marches_told.toInt)) ∧ ((r.toInt ≠ -1 → (u.2.2.2.2.2.1) = upd f_owner v_band_loads.toNatClampNeg o) ∧ (r.toInt = -1 → (u.2.2.2.2.2.1) = f_owner)) ∧ (0 ≤ (u.1).toInt ∧ (u.1).toInt ≤ 9) ∧ (0 ≤ (u.2.2.1).toInt ∧ (u.2.2.1).toInt ≤ 1) ∧ (0 ≤ (u.2.2.2.1).toInt ∧ (u.2.2.2.1).toInt ≤ 1) ∧ (rg (0) 120 (u.2.2.2.2.1)) ∧ (rg (-1) 5 (u.2.2.2.2.2.1)) ∧ (rg (0) 20 (u.2.2.2.2.2.2))) (fun u => wSP cy hs hH hT sH sT v_tape_size v_band_walkers (u.1) v_band_pieces v_rules_clauses v_reader_end v_reader_at v_reader_length v_reader_letter v_reader_fault v_draft_clauses v_paces_version v_packing_quicker v_packing_loads v_packing_looseCount (u.2.1) v_marches_changeMinutes (u.2.2.1) v_marches_gone (u.2.2.2.1) v_search_countHere v_search_countThere v_search_cost v_search_most v_search_found f_bytes f_knee f_weight f_limps (u.2.2.2.2.1) (u.2.2.2.2.2.1) (u.2.2.2.2.2.2) f_miles f_slope f_rsteps f_rkind f_ryields f_rholds f_rletters f_rstack f_dsteps f_dkind f_dyields f_dholds f_dletters f_dstack f_caps f_versions f_sharing f_pheft f_prow f_holder f_comes f_pcaps f_room f_loose f_reached f_mrow f_minutesOn f_mtired f_here f_there f_statesHere f_statesThere f_listed f_stired f_burdens f_pacesOn f_restedOn f_behindOn f_behindFor f_first f_second f_plans f_tiredOn) := by
  refine gMi_in (by decide) (Nat.le_of_ble_eq_true rfl) ?_
  intro p e s m args below meth c A ls Q hx hb hml hts hown hsz hP hK hD hN hAe hA hS hl hret
  subst hsz
  have hl : lv_has ls 7 [(0, .ref (hs 0)), (1, .int b), (2, .int o), (3, .int f)] := hl
  have hrt := fun (r : Int32) (v_band_loads' : Int32) (v_marches_told' : Int32) (v_marches_marching' : Int32) (v_search_known' : Int32) (f_bheft' : Nat → Int32) (f_owner' : Nat → Int32) (f_food' : Nat → Int32) (hp : ((r.toInt = v_band_loads.toInt ∧ v_band_loads.toInt < 9 ∧ 1 ≤ b.toInt ∧ b.toInt ≤ 120 ∧ (o.toInt = -1 ∨ 0 ≤ o.toInt ∧ o.toInt < v_band_walkers.toInt) ∧ 0 ≤ f.toInt ∧ f.toInt ≤ 20 ∧ v_band_loads'.toInt = v_band_loads.toInt + 1 ∧ v_marches_marching'.toInt = 0 ∧ v_marches_told'.toInt = 0) ∨ (r.toInt = -1 ∧ ¬ (v_band_loads.toInt < 9 ∧ 1 ≤ b.toInt ∧ b.toInt ≤ 120 ∧ (o.toInt = -1 ∨ 0 ≤ o.toInt ∧ o.toInt < v_band_walkers.toInt) ∧ 0 ≤ f.toInt ∧ f.toInt ≤ 20) ∧ v_band_loads'.toInt = v_band_loads.toInt ∧ v_marches_marching'.toInt = v_marches_marching.toInt ∧ v_marches_told'.toInt = v_marches_told.toInt)) ∧ ((r.toInt ≠ -1 → f_owner' = upd f_owner v_band_loads.toNatClampNeg o) ∧ (r.toInt = -1 → f_owner' = f_owner)) ∧ (0 ≤ v_band_loads'.toInt ∧ v_band_loads'.toInt ≤ 9) ∧ (0 ≤ v_marches_marching'.toInt ∧ v_marches_marching'.toInt ≤ 1) ∧ (0 ≤ v_search_known'.toInt ∧ v_search_known'.toInt ≤ 1) ∧ (rg (0) 120 f_bheft') ∧ (rg (-1) 5 f_owner') ∧ (rg (0) 20 f_food')) {H : Heap} {locs : List Loc} {pc : Nat} {ls : Array Slot} => hret r (v_band_loads', v_marches_told', v_marches_marching', v_search_known', f_bheft', f_owner', f_food') (H := H) (locs := locs) (pc := pc) (ls := ls) hp
  clear hret
  refine lv_iload_n hx hb dX9_load_0 rfl (lv_at hl 1 rfl) ?_
  refine lv_iconst (v := 1) hx hb dX9_load_1 (by decide) ?_
  refine lv_icmp_lt (tgt := 25) hx hb dX9_load_2 (by decide) (fun c_1 => ?_) (fun c_1 => ?_)
  · have gc_1 : b.toInt < 1 := i_lt (rfl : b.toInt = b.toInt) (by decide : (1 : Int32).toInt = 1) c_1
    refine lv_iconst (v := 0) hx hb dX9_load_25 (by decide) ?_
    refine lv_istore (lv' := [(4, .int 0), (0, .ref (hs 0)), (1, .int b), (2, .int o), (3, .int f)]) hx hb dX9_load_26 hl (by decide) rfl (fun ls hl => ?_)
    refine lv_iload_n hx hb dX9_load_28 rfl (lv_at hl 3 rfl) ?_
    refine lv_iconst (v := (-1)) hx hb dX9_load_29 (by decide) ?_
    refine lv_icmp_eq (tgt := 44) hx hb dX9_load_30 (by decide) (fun c_2 => ?_) (fun c_2 => ?_)
    · have gc_2 : o.toInt = (-1) := i_eq (rfl : o.toInt = o.toInt) (by decide : ((-1) : Int32).toInt = (-1)) c_2
      refine lv_iconst (v := 1) hx hb dX9_load_44 (by decide) ?_
      refine lv_goto (tgt := 49) hx hb dX9_load_45 (by decide) ?_
      refine lv_istore (lv' := [(5, .int 1), (4, .int 0), (0, .ref (hs 0)), (1, .int b), (2, .int o), (3, .int f)]) hx hb dX9_load_49 hl (by decide) rfl (fun ls hl => ?_)
      refine lv_iload hx hb dX9_load_51 (lv_at hl 1 rfl) ?_
      refine lv_if_eq (tgt := 73) hx hb dX9_load_53 (by decide) (fun c_3 => ?_) (fun c_3 => ?_)
      · skip
        refine lv_iconst (v := (-1)) hx hb dX9_load_73 (by decide) ?_
        have k_4 : ((-1) : Int32).toInt = (-1) := by decide
        exact hrt (-1) v_band_loads v_marches_told v_marches_marching v_search_known f_bheft f_owner f_food ⟨(by omega), ⟨fun h => absurd h (by omega), fun _ => rfl⟩, (by omega), (by omega), (by omega), hr_bheft, hr_owner, hr_food⟩ hP hD hS rfl dX9_load_74
      · exact absurd c_3 (by decide)
    · have gc_2 : o.toInt ≠ (-1) := i_ne (rfl : o.toInt = o.toInt) (by decide : ((-1) : Int32).toInt = (-1)) c_2
      refine lv_aload_n hx hb dX9_load_33 rfl (lv_at hl 1 rfl) ?_
      refine gt_SP_SP_band hx hb hts hown hK hP lwd_19 dX9_load_34 ?_
      refine lv_iload_n hx hb dX9_load_37 rfl (lv_at hl 3 rfl) ?_
      refine xi hD hS hA (xV (As := [.int o]) (rest := []) hx hb hml hown hts hK hP hD hS hA NS_ok hN hAe hl.1 ⟨Nat.le_refl _, Nat.le_refl _⟩ 3 rfl rfl rfl (c_X0_hasWalker l D cy hs hH hT sH sT v_tape_size v_band_walkers v_band_loads v_band_pieces v_rules_clauses v_reader_end v_reader_at v_reader_length v_reader_letter v_reader_fault v_draft_clauses v_paces_version v_packing_quicker v_packing_loads v_packing_looseCount v_marches_told v_marches_changeMinutes v_marches_marching v_marches_gone v_search_known v_search_countHere v_search_countThere v_search_cost v_search_most v_search_found f_bytes f_knee f_weight f_limps f_bheft f_owner f_food f_miles f_slope f_rsteps f_rkind f_ryields f_rholds f_rletters f_rstack f_dsteps f_dkind f_dyields f_dholds f_dletters f_dstack f_caps f_versions f_sharing f_pheft f_prow f_holder f_comes f_pcaps f_room f_loose f_reached f_mrow f_minutesOn f_mtired f_here f_there f_statesHere f_statesThere f_listed f_stired f_burdens f_pacesOn f_restedOn f_behindOn f_behindFor f_first f_second f_plans f_tiredOn tS s.heap.size o (by omega)) (gi_V lwd_238 lwd_239 lwd_240 lwd_18 lwd_241) ⟨rfl, hd_X0_hasWalker⟩ ⟨Nat.le_of_ble_eq_true rfl, Nat.le_of_ble_eq_true rfl⟩ rfl (Nat.le_of_ble_eq_true rfl) dX9_load_38) (fun r_6 u_5 H locs hw hP hD hS => ?_)
      try dsimp only at hw hP hD
      obtain ⟨p_7, p_8⟩ := hw
      refine lv_if_eq (tgt := 48) hx hb dX9_load_41 (by decide) (fun c_9 => ?_) (fun c_9 => ?_)
      · have gc_9 : r_6.toInt = 0 := i_eq (rfl : r_6.toInt = r_6.toInt) (by decide : (0 : Int32).toInt = 0) c_9
        refine lv_iconst (v := 0) hx hb dX9_load_48 (by decide) ?_
        refine lv_istore (lv' := [(5, .int 0), (4, .int 0), (0, .ref (hs 0)), (1, .int b), (2, .int o), (3, .int f)]) hx hb dX9_load_49 hl (by decide) rfl (fun ls hl => ?_)
        refine lv_iload hx hb dX9_load_51 (lv_at hl 1 rfl) ?_
        refine lv_if_eq (tgt := 73) hx hb dX9_load_53 (by decide) (fun c_10 => ?_) (fun c_10 => ?_)
        · skip
          refine lv_iconst (v := (-1)) hx hb dX9_load_73 (by decide) ?_
          have k_11 : ((-1) : Int32).toInt = (-1) := by decide
          exact hrt (-1) v_band_loads v_marches_told v_marches_marching v_search_known f_bheft f_owner f_food ⟨(by omega), ⟨fun h => absurd h (by omega), fun _ => rfl⟩, (by omega), (by omega), (by omega), hr_bheft, hr_owner, hr_food⟩ hP hD hS rfl dX9_load_74
        · exact absurd c_10 (by decide)
      · have gc_9 : r_6.toInt ≠ 0 := i_ne (rfl : r_6.toInt = r_6.toInt) (by decide : (0 : Int32).toInt = 0) c_9
        refine lv_iconst (v := 1) hx hb dX9_load_44 (by decide) ?_
        refine lv_goto (tgt := 49) hx hb dX9_load_45 (by decide) ?_
        refine lv_istore (lv' := [(5, .int 1), (4, .int 0), (0, .ref (hs 0)), (1, .int b), (2, .int o), (3, .int f)]) hx hb dX9_load_49 hl (by decide) rfl (fun ls hl => ?_)
        refine lv_iload hx hb dX9_load_51 (lv_at hl 1 rfl) ?_
        refine lv_if_eq (tgt := 73) hx hb dX9_load_53 (by decide) (fun c_12 => ?_) (fun c_12 => ?_)
        · skip
          refine lv_iconst (v := (-1)) hx hb dX9_load_73 (by decide) ?_
          have k_13 : ((-1) : Int32).toInt = (-1) := by decide
          exact hrt (-1) v_band_loads v_marches_told v_marches_marching v_search_known f_bheft f_owner f_food ⟨(by omega), ⟨fun h => absurd h (by omega), fun _ => rfl⟩, (by omega), (by omega), (by omega), hr_bheft, hr_owner, hr_food⟩ hP hD hS rfl dX9_load_74
        · exact absurd c_12 (by decide)
  · have gc_1 : 1 ≤ b.toInt := i_nlt (rfl : b.toInt = b.toInt) (by decide : (1 : Int32).toInt = 1) c_1
    refine lv_iload_n hx hb dX9_load_5 rfl (lv_at hl 1 rfl) ?_
    refine lv_bipush (v := 120) hx hb dX9_load_6 (by decide) ?_
    refine lv_icmp_gt (tgt := 25) hx hb dX9_load_8 (by decide) (fun c_14 => ?_) (fun c_14 => ?_)
    · have gc_14 : 120 < b.toInt := i_lt (by decide : (120 : Int32).toInt = 120) (rfl : b.toInt = b.toInt) c_14
      refine lv_iconst (v := 0) hx hb dX9_load_25 (by decide) ?_
      refine lv_istore (lv' := [(4, .int 0), (0, .ref (hs 0)), (1, .int b), (2, .int o), (3, .int f)]) hx hb dX9_load_26 hl (by decide) rfl (fun ls hl => ?_)
      refine lv_iload_n hx hb dX9_load_28 rfl (lv_at hl 3 rfl) ?_
      refine lv_iconst (v := (-1)) hx hb dX9_load_29 (by decide) ?_
      refine lv_icmp_eq (tgt := 44) hx hb dX9_load_30 (by decide) (fun c_15 => ?_) (fun c_15 => ?_)
      · have gc_15 : o.toInt = (-1) := i_eq (rfl : o.toInt = o.toInt) (by decide : ((-1) : Int32).toInt = (-1)) c_15
        refine lv_iconst (v := 1) hx hb dX9_load_44 (by decide) ?_
        refine lv_goto (tgt := 49) hx hb dX9_load_45 (by decide) ?_
        refine lv_istore (lv' := [(5, .int 1), (4, .int 0), (0, .ref (hs 0)), (1, .int b), (2, .int o), (3, .int f)]) hx hb dX9_load_49 hl (by decide) rfl (fun ls hl => ?_)
        refine lv_iload hx hb dX9_load_51 (lv_at hl 1 rfl) ?_
        refine lv_if_eq (tgt := 73) hx hb dX9_load_53 (by decide) (fun c_16 => ?_) (fun c_16 => ?_)
        · skip
          refine lv_iconst (v := (-1)) hx hb dX9_load_73 (by decide) ?_
          have k_17 : ((-1) : Int32).toInt = (-1) := by decide
          exact hrt (-1) v_band_loads v_marches_told v_marches_marching v_search_known f_bheft f_owner f_food ⟨(by omega), ⟨fun h => absurd h (by omega), fun _ => rfl⟩, (by omega), (by omega), (by omega), hr_bheft, hr_owner, hr_food⟩ hP hD hS rfl dX9_load_74
        · exact absurd c_16 (by decide)
      · have gc_15 : o.toInt ≠ (-1) := i_ne (rfl : o.toInt = o.toInt) (by decide : ((-1) : Int32).toInt = (-1)) c_15
        refine lv_aload_n hx hb dX9_load_33 rfl (lv_at hl 1 rfl) ?_
        refine gt_SP_SP_band hx hb hts hown hK hP lwd_19 dX9_load_34 ?_
        refine lv_iload_n hx hb dX9_load_37 rfl (lv_at hl 3 rfl) ?_
        refine xi hD hS hA (xV (As := [.int o]) (rest := []) hx hb hml hown hts hK hP hD hS hA NS_ok hN hAe hl.1 ⟨Nat.le_refl _, Nat.le_refl _⟩ 3 rfl rfl rfl (c_X0_hasWalker l D cy hs hH hT sH sT v_tape_size v_band_walkers v_band_loads v_band_pieces v_rules_clauses v_reader_end v_reader_at v_reader_length v_reader_letter v_reader_fault v_draft_clauses v_paces_version v_packing_quicker v_packing_loads v_packing_looseCount v_marches_told v_marches_changeMinutes v_marches_marching v_marches_gone v_search_known v_search_countHere v_search_countThere v_search_cost v_search_most v_search_found f_bytes f_knee f_weight f_limps f_bheft f_owner f_food f_miles f_slope f_rsteps f_rkind f_ryields f_rholds f_rletters f_rstack f_dsteps f_dkind f_dyields f_dholds f_dletters f_dstack f_caps f_versions f_sharing f_pheft f_prow f_holder f_comes f_pcaps f_room f_loose f_reached f_mrow f_minutesOn f_mtired f_here f_there f_statesHere f_statesThere f_listed f_stired f_burdens f_pacesOn f_restedOn f_behindOn f_behindFor f_first f_second f_plans f_tiredOn tS s.heap.size o (by omega)) (gi_V lwd_238 lwd_239 lwd_240 lwd_18 lwd_241) ⟨rfl, hd_X0_hasWalker⟩ ⟨Nat.le_of_ble_eq_true rfl, Nat.le_of_ble_eq_true rfl⟩ rfl (Nat.le_of_ble_eq_true rfl) dX9_load_38) (fun r_19 u_18 H locs hw hP hD hS => ?_)
        try dsimp only at hw hP hD
        obtain ⟨p_20, p_21⟩ := hw
        refine lv_if_eq (tgt := 48) hx hb dX9_load_41 (by decide) (fun c_22 => ?_) (fun c_22 => ?_)
        · have gc_22 : r_19.toInt = 0 := i_eq (rfl : r_19.toInt = r_19.toInt) (by decide : (0 : Int32).toInt = 0) c_22
          refine lv_iconst (v := 0) hx hb dX9_load_48 (by decide) ?_
          refine lv_istore (lv' := [(5, .int 0), (4, .int 0), (0, .ref (hs 0)), (1, .int b), (2, .int o), (3, .int f)]) hx hb dX9_load_49 hl (by decide) rfl (fun ls hl => ?_)
          refine lv_iload hx hb dX9_load_51 (lv_at hl 1 rfl) ?_
          refine lv_if_eq (tgt := 73) hx hb dX9_load_53 (by decide) (fun c_23 => ?_) (fun c_23 => ?_)
          · skip
            refine lv_iconst (v := (-1)) hx hb dX9_load_73 (by decide) ?_
            have k_24 : ((-1) : Int32).toInt = (-1) := by decide
            exact hrt (-1) v_band_loads v_marches_told v_marches_marching v_search_known f_bheft f_owner f_food ⟨(by omega), ⟨fun h => absurd h (by omega), fun _ => rfl⟩, (by omega), (by omega), (by omega), hr_bheft, hr_owner, hr_food⟩ hP hD hS rfl dX9_load_74
          · exact absurd c_23 (by decide)
        · have gc_22 : r_19.toInt ≠ 0 := i_ne (rfl : r_19.toInt = r_19.toInt) (by decide : (0 : Int32).toInt = 0) c_22
          refine lv_iconst (v := 1) hx hb dX9_load_44 (by decide) ?_
          refine lv_goto (tgt := 49) hx hb dX9_load_45 (by decide) ?_
          refine lv_istore (lv' := [(5, .int 1), (4, .int 0), (0, .ref (hs 0)), (1, .int b), (2, .int o), (3, .int f)]) hx hb dX9_load_49 hl (by decide) rfl (fun ls hl => ?_)
          refine lv_iload hx hb dX9_load_51 (lv_at hl 1 rfl) ?_
          refine lv_if_eq (tgt := 73) hx hb dX9_load_53 (by decide) (fun c_25 => ?_) (fun c_25 => ?_)
          · skip
            refine lv_iconst (v := (-1)) hx hb dX9_load_73 (by decide) ?_
            have k_26 : ((-1) : Int32).toInt = (-1) := by decide
            exact hrt (-1) v_band_loads v_marches_told v_marches_marching v_search_known f_bheft f_owner f_food ⟨(by omega), ⟨fun h => absurd h (by omega), fun _ => rfl⟩, (by omega), (by omega), (by omega), hr_bheft, hr_owner, hr_food⟩ hP hD hS rfl dX9_load_74
          · exact absurd c_25 (by decide)
    · have gc_14 : b.toInt ≤ 120 := i_nlt (by decide : (120 : Int32).toInt = 120) (rfl : b.toInt = b.toInt) c_14
      refine lv_iload_n hx hb dX9_load_11 rfl (lv_at hl 3 rfl) ?_
      refine lv_if_lt (tgt := 25) hx hb dX9_load_12 (by decide) (fun c_27 => ?_) (fun c_27 => ?_)
      · have gc_27 : f.toInt < 0 := i_lt (rfl : f.toInt = f.toInt) (by decide : (0 : Int32).toInt = 0) c_27
        refine lv_iconst (v := 0) hx hb dX9_load_25 (by decide) ?_
        refine lv_istore (lv' := [(4, .int 0), (0, .ref (hs 0)), (1, .int b), (2, .int o), (3, .int f)]) hx hb dX9_load_26 hl (by decide) rfl (fun ls hl => ?_)
        refine lv_iload_n hx hb dX9_load_28 rfl (lv_at hl 3 rfl) ?_
        refine lv_iconst (v := (-1)) hx hb dX9_load_29 (by decide) ?_
        refine lv_icmp_eq (tgt := 44) hx hb dX9_load_30 (by decide) (fun c_28 => ?_) (fun c_28 => ?_)
        · have gc_28 : o.toInt = (-1) := i_eq (rfl : o.toInt = o.toInt) (by decide : ((-1) : Int32).toInt = (-1)) c_28
          refine lv_iconst (v := 1) hx hb dX9_load_44 (by decide) ?_
          refine lv_goto (tgt := 49) hx hb dX9_load_45 (by decide) ?_
          refine lv_istore (lv' := [(5, .int 1), (4, .int 0), (0, .ref (hs 0)), (1, .int b), (2, .int o), (3, .int f)]) hx hb dX9_load_49 hl (by decide) rfl (fun ls hl => ?_)
          refine lv_iload hx hb dX9_load_51 (lv_at hl 1 rfl) ?_
          refine lv_if_eq (tgt := 73) hx hb dX9_load_53 (by decide) (fun c_29 => ?_) (fun c_29 => ?_)
          · skip
            refine lv_iconst (v := (-1)) hx hb dX9_load_73 (by decide) ?_
            have k_30 : ((-1) : Int32).toInt = (-1) := by decide
            exact hrt (-1) v_band_loads v_marches_told v_marches_marching v_search_known f_bheft f_owner f_food ⟨(by omega), ⟨fun h => absurd h (by omega), fun _ => rfl⟩, (by omega), (by omega), (by omega), hr_bheft, hr_owner, hr_food⟩ hP hD hS rfl dX9_load_74
          · exact absurd c_29 (by decide)
        · have gc_28 : o.toInt ≠ (-1) := i_ne (rfl : o.toInt = o.toInt) (by decide : ((-1) : Int32).toInt = (-1)) c_28
          refine lv_aload_n hx hb dX9_load_33 rfl (lv_at hl 1 rfl) ?_
          refine gt_SP_SP_band hx hb hts hown hK hP lwd_19 dX9_load_34 ?_
          refine lv_iload_n hx hb dX9_load_37 rfl (lv_at hl 3 rfl) ?_
          refine xi hD hS hA (xV (As := [.int o]) (rest := []) hx hb hml hown hts hK hP hD hS hA NS_ok hN hAe hl.1 ⟨Nat.le_refl _, Nat.le_refl _⟩ 3 rfl rfl rfl (c_X0_hasWalker l D cy hs hH hT sH sT v_tape_size v_band_walkers v_band_loads v_band_pieces v_rules_clauses v_reader_end v_reader_at v_reader_length v_reader_letter v_reader_fault v_draft_clauses v_paces_version v_packing_quicker v_packing_loads v_packing_looseCount v_marches_told v_marches_changeMinutes v_marches_marching v_marches_gone v_search_known v_search_countHere v_search_countThere v_search_cost v_search_most v_search_found f_bytes f_knee f_weight f_limps f_bheft f_owner f_food f_miles f_slope f_rsteps f_rkind f_ryields f_rholds f_rletters f_rstack f_dsteps f_dkind f_dyields f_dholds f_dletters f_dstack f_caps f_versions f_sharing f_pheft f_prow f_holder f_comes f_pcaps f_room f_loose f_reached f_mrow f_minutesOn f_mtired f_here f_there f_statesHere f_statesThere f_listed f_stired f_burdens f_pacesOn f_restedOn f_behindOn f_behindFor f_first f_second f_plans f_tiredOn tS s.heap.size o (by omega)) (gi_V lwd_238 lwd_239 lwd_240 lwd_18 lwd_241) ⟨rfl, hd_X0_hasWalker⟩ ⟨Nat.le_of_ble_eq_true rfl, Nat.le_of_ble_eq_true rfl⟩ rfl (Nat.le_of_ble_eq_true rfl) dX9_load_38) (fun r_32 u_31 H locs hw hP hD hS => ?_)
          try dsimp only at hw hP hD
          obtain ⟨p_33, p_34⟩ := hw
          refine lv_if_eq (tgt := 48) hx hb dX9_load_41 (by decide) (fun c_35 => ?_) (fun c_35 => ?_)
          · have gc_35 : r_32.toInt = 0 := i_eq (rfl : r_32.toInt = r_32.toInt) (by decide : (0 : Int32).toInt = 0) c_35
            refine lv_iconst (v := 0) hx hb dX9_load_48 (by decide) ?_
            refine lv_istore (lv' := [(5, .int 0), (4, .int 0), (0, .ref (hs 0)), (1, .int b), (2, .int o), (3, .int f)]) hx hb dX9_load_49 hl (by decide) rfl (fun ls hl => ?_)
            refine lv_iload hx hb dX9_load_51 (lv_at hl 1 rfl) ?_
            refine lv_if_eq (tgt := 73) hx hb dX9_load_53 (by decide) (fun c_36 => ?_) (fun c_36 => ?_)
            · skip
              refine lv_iconst (v := (-1)) hx hb dX9_load_73 (by decide) ?_
              have k_37 : ((-1) : Int32).toInt = (-1) := by decide
              exact hrt (-1) v_band_loads v_marches_told v_marches_marching v_search_known f_bheft f_owner f_food ⟨(by omega), ⟨fun h => absurd h (by omega), fun _ => rfl⟩, (by omega), (by omega), (by omega), hr_bheft, hr_owner, hr_food⟩ hP hD hS rfl dX9_load_74
            · exact absurd c_36 (by decide)
          · have gc_35 : r_32.toInt ≠ 0 := i_ne (rfl : r_32.toInt = r_32.toInt) (by decide : (0 : Int32).toInt = 0) c_35
            refine lv_iconst (v := 1) hx hb dX9_load_44 (by decide) ?_
            refine lv_goto (tgt := 49) hx hb dX9_load_45 (by decide) ?_
            refine lv_istore (lv' := [(5, .int 1), (4, .int 0), (0, .ref (hs 0)), (1, .int b), (2, .int o), (3, .int f)]) hx hb dX9_load_49 hl (by decide) rfl (fun ls hl => ?_)
            refine lv_iload hx hb dX9_load_51 (lv_at hl 1 rfl) ?_
            refine lv_if_eq (tgt := 73) hx hb dX9_load_53 (by decide) (fun c_38 => ?_) (fun c_38 => ?_)
            · skip
              refine lv_iconst (v := (-1)) hx hb dX9_load_73 (by decide) ?_
              have k_39 : ((-1) : Int32).toInt = (-1) := by decide
              exact hrt (-1) v_band_loads v_marches_told v_marches_marching v_search_known f_bheft f_owner f_food ⟨(by omega), ⟨fun h => absurd h (by omega), fun _ => rfl⟩, (by omega), (by omega), (by omega), hr_bheft, hr_owner, hr_food⟩ hP hD hS rfl dX9_load_74
            · exact absurd c_38 (by decide)
      · have gc_27 : 0 ≤ f.toInt := i_nlt (rfl : f.toInt = f.toInt) (by decide : (0 : Int32).toInt = 0) c_27
        refine lv_iload_n hx hb dX9_load_15 rfl (lv_at hl 3 rfl) ?_
        refine lv_bipush (v := 20) hx hb dX9_load_16 (by decide) ?_
        refine lv_icmp_gt (tgt := 25) hx hb dX9_load_18 (by decide) (fun c_40 => ?_) (fun c_40 => ?_)
        · have gc_40 : 20 < f.toInt := i_lt (by decide : (20 : Int32).toInt = 20) (rfl : f.toInt = f.toInt) c_40
          refine lv_iconst (v := 0) hx hb dX9_load_25 (by decide) ?_
          refine lv_istore (lv' := [(4, .int 0), (0, .ref (hs 0)), (1, .int b), (2, .int o), (3, .int f)]) hx hb dX9_load_26 hl (by decide) rfl (fun ls hl => ?_)
          refine lv_iload_n hx hb dX9_load_28 rfl (lv_at hl 3 rfl) ?_
          refine lv_iconst (v := (-1)) hx hb dX9_load_29 (by decide) ?_
          refine lv_icmp_eq (tgt := 44) hx hb dX9_load_30 (by decide) (fun c_41 => ?_) (fun c_41 => ?_)
          · have gc_41 : o.toInt = (-1) := i_eq (rfl : o.toInt = o.toInt) (by decide : ((-1) : Int32).toInt = (-1)) c_41
            refine lv_iconst (v := 1) hx hb dX9_load_44 (by decide) ?_
            refine lv_goto (tgt := 49) hx hb dX9_load_45 (by decide) ?_
            refine lv_istore (lv' := [(5, .int 1), (4, .int 0), (0, .ref (hs 0)), (1, .int b), (2, .int o), (3, .int f)]) hx hb dX9_load_49 hl (by decide) rfl (fun ls hl => ?_)
            refine lv_iload hx hb dX9_load_51 (lv_at hl 1 rfl) ?_
            refine lv_if_eq (tgt := 73) hx hb dX9_load_53 (by decide) (fun c_42 => ?_) (fun c_42 => ?_)
            · skip
              refine lv_iconst (v := (-1)) hx hb dX9_load_73 (by decide) ?_
              have k_43 : ((-1) : Int32).toInt = (-1) := by decide
              exact hrt (-1) v_band_loads v_marches_told v_marches_marching v_search_known f_bheft f_owner f_food ⟨(by omega), ⟨fun h => absurd h (by omega), fun _ => rfl⟩, (by omega), (by omega), (by omega), hr_bheft, hr_owner, hr_food⟩ hP hD hS rfl dX9_load_74
            · exact absurd c_42 (by decide)
          · have gc_41 : o.toInt ≠ (-1) := i_ne (rfl : o.toInt = o.toInt) (by decide : ((-1) : Int32).toInt = (-1)) c_41
            refine lv_aload_n hx hb dX9_load_33 rfl (lv_at hl 1 rfl) ?_
            refine gt_SP_SP_band hx hb hts hown hK hP lwd_19 dX9_load_34 ?_
            refine lv_iload_n hx hb dX9_load_37 rfl (lv_at hl 3 rfl) ?_
            refine xi hD hS hA (xV (As := [.int o]) (rest := []) hx hb hml hown hts hK hP hD hS hA NS_ok hN hAe hl.1 ⟨Nat.le_refl _, Nat.le_refl _⟩ 3 rfl rfl rfl (c_X0_hasWalker l D cy hs hH hT sH sT v_tape_size v_band_walkers v_band_loads v_band_pieces v_rules_clauses v_reader_end v_reader_at v_reader_length v_reader_letter v_reader_fault v_draft_clauses v_paces_version v_packing_quicker v_packing_loads v_packing_looseCount v_marches_told v_marches_changeMinutes v_marches_marching v_marches_gone v_search_known v_search_countHere v_search_countThere v_search_cost v_search_most v_search_found f_bytes f_knee f_weight f_limps f_bheft f_owner f_food f_miles f_slope f_rsteps f_rkind f_ryields f_rholds f_rletters f_rstack f_dsteps f_dkind f_dyields f_dholds f_dletters f_dstack f_caps f_versions f_sharing f_pheft f_prow f_holder f_comes f_pcaps f_room f_loose f_reached f_mrow f_minutesOn f_mtired f_here f_there f_statesHere f_statesThere f_listed f_stired f_burdens f_pacesOn f_restedOn f_behindOn f_behindFor f_first f_second f_plans f_tiredOn tS s.heap.size o (by omega)) (gi_V lwd_238 lwd_239 lwd_240 lwd_18 lwd_241) ⟨rfl, hd_X0_hasWalker⟩ ⟨Nat.le_of_ble_eq_true rfl, Nat.le_of_ble_eq_true rfl⟩ rfl (Nat.le_of_ble_eq_true rfl) dX9_load_38) (fun r_45 u_44 H locs hw hP hD hS => ?_)
            try dsimp only at hw hP hD
            obtain ⟨p_46, p_47⟩ := hw
            refine lv_if_eq (tgt := 48) hx hb dX9_load_41 (by decide) (fun c_48 => ?_) (fun c_48 => ?_)
            · have gc_48 : r_45.toInt = 0 := i_eq (rfl : r_45.toInt = r_45.toInt) (by decide : (0 : Int32).toInt = 0) c_48
              refine lv_iconst (v := 0) hx hb dX9_load_48 (by decide) ?_
              refine lv_istore (lv' := [(5, .int 0), (4, .int 0), (0, .ref (hs 0)), (1, .int b), (2, .int o), (3, .int f)]) hx hb dX9_load_49 hl (by decide) rfl (fun ls hl => ?_)
              refine lv_iload hx hb dX9_load_51 (lv_at hl 1 rfl) ?_
              refine lv_if_eq (tgt := 73) hx hb dX9_load_53 (by decide) (fun c_49 => ?_) (fun c_49 => ?_)
              · skip
                refine lv_iconst (v := (-1)) hx hb dX9_load_73 (by decide) ?_
                have k_50 : ((-1) : Int32).toInt = (-1) := by decide
                exact hrt (-1) v_band_loads v_marches_told v_marches_marching v_search_known f_bheft f_owner f_food ⟨(by omega), ⟨fun h => absurd h (by omega), fun _ => rfl⟩, (by omega), (by omega), (by omega), hr_bheft, hr_owner, hr_food⟩ hP hD hS rfl dX9_load_74
              · exact absurd c_49 (by decide)
            · have gc_48 : r_45.toInt ≠ 0 := i_ne (rfl : r_45.toInt = r_45.toInt) (by decide : (0 : Int32).toInt = 0) c_48
              refine lv_iconst (v := 1) hx hb dX9_load_44 (by decide) ?_
              refine lv_goto (tgt := 49) hx hb dX9_load_45 (by decide) ?_
              refine lv_istore (lv' := [(5, .int 1), (4, .int 0), (0, .ref (hs 0)), (1, .int b), (2, .int o), (3, .int f)]) hx hb dX9_load_49 hl (by decide) rfl (fun ls hl => ?_)
              refine lv_iload hx hb dX9_load_51 (lv_at hl 1 rfl) ?_
              refine lv_if_eq (tgt := 73) hx hb dX9_load_53 (by decide) (fun c_51 => ?_) (fun c_51 => ?_)
              · skip
                refine lv_iconst (v := (-1)) hx hb dX9_load_73 (by decide) ?_
                have k_52 : ((-1) : Int32).toInt = (-1) := by decide
                exact hrt (-1) v_band_loads v_marches_told v_marches_marching v_search_known f_bheft f_owner f_food ⟨(by omega), ⟨fun h => absurd h (by omega), fun _ => rfl⟩, (by omega), (by omega), (by omega), hr_bheft, hr_owner, hr_food⟩ hP hD hS rfl dX9_load_74
              · exact absurd c_51 (by decide)
        · have gc_40 : f.toInt ≤ 20 := i_nlt (by decide : (20 : Int32).toInt = 20) (rfl : f.toInt = f.toInt) c_40
          refine lv_iconst (v := 1) hx hb dX9_load_21 (by decide) ?_
          refine lv_goto (tgt := 26) hx hb dX9_load_22 (by decide) ?_
          refine lv_istore (lv' := [(4, .int 1), (0, .ref (hs 0)), (1, .int b), (2, .int o), (3, .int f)]) hx hb dX9_load_26 hl (by decide) rfl (fun ls hl => ?_)
          refine lv_iload_n hx hb dX9_load_28 rfl (lv_at hl 3 rfl) ?_
          refine lv_iconst (v := (-1)) hx hb dX9_load_29 (by decide) ?_
          refine lv_icmp_eq (tgt := 44) hx hb dX9_load_30 (by decide) (fun c_53 => ?_) (fun c_53 => ?_)
          · have gc_53 : o.toInt = (-1) := i_eq (rfl : o.toInt = o.toInt) (by decide : ((-1) : Int32).toInt = (-1)) c_53
            refine lv_iconst (v := 1) hx hb dX9_load_44 (by decide) ?_
            refine lv_goto (tgt := 49) hx hb dX9_load_45 (by decide) ?_
            refine lv_istore (lv' := [(5, .int 1), (4, .int 1), (0, .ref (hs 0)), (1, .int b), (2, .int o), (3, .int f)]) hx hb dX9_load_49 hl (by decide) rfl (fun ls hl => ?_)
            refine lv_iload hx hb dX9_load_51 (lv_at hl 1 rfl) ?_
            refine lv_if_eq (tgt := 73) hx hb dX9_load_53 (by decide) (fun c_54 => ?_) (fun c_54 => ?_)
            · exact absurd c_54 (by decide)
            · skip
              refine lv_iload hx hb dX9_load_56 (lv_at hl 0 rfl) ?_
              refine lv_if_eq (tgt := 73) hx hb dX9_load_58 (by decide) (fun c_55 => ?_) (fun c_55 => ?_)
              · exact absurd c_55 (by decide)
              · skip
                refine lv_aload_n hx hb dX9_load_61 rfl (lv_at hl 2 rfl) ?_
                refine gt_SP_SP_band hx hb hts hown hK hP lwd_19 dX9_load_62 ?_
                refine gt_SP_band_loads hx hb hts hown hK hP lwd_233 dX9_load_65 ?_
                refine lv_bipush (v := 9) hx hb dX9_load_68 (by decide) ?_
                refine lv_icmp_lt (tgt := 75) hx hb dX9_load_70 (by decide) (fun c_56 => ?_) (fun c_56 => ?_)
                · have gc_56 : v_band_loads.toInt < 9 := i_lt (rfl : v_band_loads.toInt = v_band_loads.toInt) (by decide : (9 : Int32).toInt = 9) c_56
                  refine lv_aload_n hx hb dX9_load_75 rfl (lv_at hl 2 rfl) ?_
                  refine gt_SP_SP_band hx hb hts hown hK hP lwd_19 dX9_load_76 ?_
                  refine gt_SP_band_loads hx hb hts hown hK hP lwd_233 dX9_load_79 ?_
                  refine lv_istore (lv' := [(6, .int v_band_loads), (5, .int 1), (4, .int 1), (0, .ref (hs 0)), (1, .int b), (2, .int o), (3, .int f)]) hx hb dX9_load_82 hl (by decide) rfl (fun ls hl => ?_)
                  refine lv_aload_n hx hb dX9_load_84 rfl (lv_at hl 3 rfl) ?_
                  refine gt_SP_SP_band hx hb hts hown hK hP lwd_19 dX9_load_85 ?_
                  refine gt_SP_band_heft hx hb hts hown hK hP lwd_234 dX9_load_88 ?_
                  refine lv_iload hx hb dX9_load_91 (lv_at hl 0 rfl) ?_
                  refine lv_iload_n hx hb dX9_load_93 rfl (lv_at hl 4 rfl) ?_
                  refine as_bheft (x := b) hx hb hK hP hD hS hr_bheft (i_in (rfl : v_band_loads.toInt = v_band_loads.toInt) (by omega) (by omega)) (by omega) dX9_load_94 (fun f_57 ef_57 rf_57 H locs hP hD hS => ?_)
                  refine lv_aload_n hx hb dX9_load_95 rfl (lv_at hl 3 rfl) ?_
                  refine gt_SP_SP_band hx hb hts hown hK hP lwd_19 dX9_load_96 ?_
                  refine gt_SP_band_owner hx hb hts hown hK hP lwd_235 dX9_load_99 ?_
                  refine lv_iload hx hb dX9_load_102 (lv_at hl 0 rfl) ?_
                  refine lv_iload_n hx hb dX9_load_104 rfl (lv_at hl 5 rfl) ?_
                  refine as_owner (x := o) hx hb hK hP hD hS hr_owner (i_in (rfl : v_band_loads.toInt = v_band_loads.toInt) (by omega) (by omega)) (by omega) dX9_load_105 (fun f_58 ef_58 rf_58 H locs hP hD hS => ?_)
                  refine lv_aload_n hx hb dX9_load_106 rfl (lv_at hl 3 rfl) ?_
                  refine gt_SP_SP_band hx hb hts hown hK hP lwd_19 dX9_load_107 ?_
                  refine gt_SP_band_food hx hb hts hown hK hP lwd_236 dX9_load_110 ?_
                  refine lv_iload hx hb dX9_load_113 (lv_at hl 0 rfl) ?_
                  refine lv_iload_n hx hb dX9_load_115 rfl (lv_at hl 6 rfl) ?_
                  refine as_food (x := f) hx hb hK hP hD hS hr_food (i_in (rfl : v_band_loads.toInt = v_band_loads.toInt) (by omega) (by omega)) (by omega) dX9_load_116 (fun f_59 ef_59 rf_59 H locs hP hD hS => ?_)
                  refine lv_aload_n hx hb dX9_load_117 rfl (lv_at hl 3 rfl) ?_
                  refine gt_SP_SP_band hx hb hts hown hK hP lwd_19 dX9_load_118 ?_
                  refine lv_dup hx hb dX9_load_121 rfl ?_
                  refine gt_SP_band_loads hx hb hts hown hK hP lwd_233 dX9_load_122 ?_
                  refine lv_iconst (v := 1) hx hb dX9_load_125 (by decide) ?_
                  refine lv_iadd hx hb dX9_load_126 ?_
                  refine lv_topi (fun n_60 en_60 => ?_)
                  have tn_60 : n_60.toInt = v_band_loads.toInt + 1 := i_add en_60 (rfl : v_band_loads.toInt = v_band_loads.toInt) (by decide : (1 : Int32).toInt = 1) (by omega) (by omega)
                  refine pt_SP_band_loads (x := n_60) hx hb hts hown hK hP hD hS lwd_233 dX9_load_127 (fun H locs hP hD hS => ?_)
                  refine lv_aload_n hx hb dX9_load_130 rfl (lv_at hl 3 rfl) ?_
                  refine gt_SP_SP_marches hx hb hts hown hK hP lwd_39 dX9_load_131 ?_
                  refine lv_iconst (v := 0) hx hb dX9_load_134 (by decide) ?_
                  refine pt_SP_marches_marching (x := 0) hx hb hts hown hK hP hD hS lwd_210 (by decide) dX9_load_135 (fun H locs hP hD hS => ?_)
                  refine lv_aload_n hx hb dX9_load_138 rfl (lv_at hl 3 rfl) ?_
                  refine gt_SP_SP_marches hx hb hts hown hK hP lwd_39 dX9_load_139 ?_
                  refine lv_iconst (v := 0) hx hb dX9_load_142 (by decide) ?_
                  refine pt_SP_marches_told (x := 0) hx hb hts hown hK hP hD hS lwd_237 dX9_load_143 (fun H locs hP hD hS => ?_)
                  refine lv_aload_n hx hb dX9_load_146 rfl (lv_at hl 3 rfl) ?_
                  refine gt_SP_SP_search hx hb hts hown hK hP lwd_43 dX9_load_147 ?_
                  refine lv_iconst (v := 0) hx hb dX9_load_150 (by decide) ?_
                  refine pt_SP_search_known (x := 0) hx hb hts hown hK hP hD hS lwd_216 (by decide) dX9_load_151 (fun H locs hP hD hS => ?_)
                  refine lv_iload hx hb dX9_load_154 (lv_at hl 0 rfl) ?_
                  have k_61 : (0 : Int32).toInt = 0 := by decide
                  have k_62 : (0 : Int32).toInt = 0 := by decide
                  have k_63 : (0 : Int32).toInt = 0 := by decide
                  exact hrt v_band_loads n_60 0 0 0 f_57 f_58 f_59 ⟨(by omega), ⟨fun _ => ef_58, fun h => absurd h (by omega)⟩, (by omega), (by omega), (by omega), rf_57, rf_58, rf_59⟩ hP hD hS rfl dX9_load_156
                · have gc_56 : 9 ≤ v_band_loads.toInt := i_nlt (rfl : v_band_loads.toInt = v_band_loads.toInt) (by decide : (9 : Int32).toInt = 9) c_56
                  refine lv_iconst (v := (-1)) hx hb dX9_load_73 (by decide) ?_
                  have k_64 : ((-1) : Int32).toInt = (-1) := by decide
                  exact hrt (-1) v_band_loads v_marches_told v_marches_marching v_search_known f_bheft f_owner f_food ⟨(by omega), ⟨fun h => absurd h (by omega), fun _ => rfl⟩, (by omega), (by omega), (by omega), hr_bheft, hr_owner, hr_food⟩ hP hD hS rfl dX9_load_74
          · have gc_53 : o.toInt ≠ (-1) := i_ne (rfl : o.toInt = o.toInt) (by decide : ((-1) : Int32).toInt = (-1)) c_53
            refine lv_aload_n hx hb dX9_load_33 rfl (lv_at hl 1 rfl) ?_
            refine gt_SP_SP_band hx hb hts hown hK hP lwd_19 dX9_load_34 ?_
            refine lv_iload_n hx hb dX9_load_37 rfl (lv_at hl 3 rfl) ?_
            refine xi hD hS hA (xV (As := [.int o]) (rest := []) hx hb hml hown hts hK hP hD hS hA NS_ok hN hAe hl.1 ⟨Nat.le_refl _, Nat.le_refl _⟩ 3 rfl rfl rfl (c_X0_hasWalker l D cy hs hH hT sH sT v_tape_size v_band_walkers v_band_loads v_band_pieces v_rules_clauses v_reader_end v_reader_at v_reader_length v_reader_letter v_reader_fault v_draft_clauses v_paces_version v_packing_quicker v_packing_loads v_packing_looseCount v_marches_told v_marches_changeMinutes v_marches_marching v_marches_gone v_search_known v_search_countHere v_search_countThere v_search_cost v_search_most v_search_found f_bytes f_knee f_weight f_limps f_bheft f_owner f_food f_miles f_slope f_rsteps f_rkind f_ryields f_rholds f_rletters f_rstack f_dsteps f_dkind f_dyields f_dholds f_dletters f_dstack f_caps f_versions f_sharing f_pheft f_prow f_holder f_comes f_pcaps f_room f_loose f_reached f_mrow f_minutesOn f_mtired f_here f_there f_statesHere f_statesThere f_listed f_stired f_burdens f_pacesOn f_restedOn f_behindOn f_behindFor f_first f_second f_plans f_tiredOn tS s.heap.size o (by omega)) (gi_V lwd_238 lwd_239 lwd_240 lwd_18 lwd_241) ⟨rfl, hd_X0_hasWalker⟩ ⟨Nat.le_of_ble_eq_true rfl, Nat.le_of_ble_eq_true rfl⟩ rfl (Nat.le_of_ble_eq_true rfl) dX9_load_38) (fun r_66 u_65 H locs hw hP hD hS => ?_)
            try dsimp only at hw hP hD
            obtain ⟨p_67, p_68⟩ := hw
            refine lv_if_eq (tgt := 48) hx hb dX9_load_41 (by decide) (fun c_69 => ?_) (fun c_69 => ?_)
            · have gc_69 : r_66.toInt = 0 := i_eq (rfl : r_66.toInt = r_66.toInt) (by decide : (0 : Int32).toInt = 0) c_69
              refine lv_iconst (v := 0) hx hb dX9_load_48 (by decide) ?_
              refine lv_istore (lv' := [(5, .int 0), (4, .int 1), (0, .ref (hs 0)), (1, .int b), (2, .int o), (3, .int f)]) hx hb dX9_load_49 hl (by decide) rfl (fun ls hl => ?_)
              refine lv_iload hx hb dX9_load_51 (lv_at hl 1 rfl) ?_
              refine lv_if_eq (tgt := 73) hx hb dX9_load_53 (by decide) (fun c_70 => ?_) (fun c_70 => ?_)
              · exact absurd c_70 (by decide)
              · skip
                refine lv_iload hx hb dX9_load_56 (lv_at hl 0 rfl) ?_
                refine lv_if_eq (tgt := 73) hx hb dX9_load_58 (by decide) (fun c_71 => ?_) (fun c_71 => ?_)
                · skip
                  refine lv_iconst (v := (-1)) hx hb dX9_load_73 (by decide) ?_
                  have k_72 : ((-1) : Int32).toInt = (-1) := by decide
                  exact hrt (-1) v_band_loads v_marches_told v_marches_marching v_search_known f_bheft f_owner f_food ⟨(by omega), ⟨fun h => absurd h (by omega), fun _ => rfl⟩, (by omega), (by omega), (by omega), hr_bheft, hr_owner, hr_food⟩ hP hD hS rfl dX9_load_74
                · exact absurd c_71 (by decide)
            · have gc_69 : r_66.toInt ≠ 0 := i_ne (rfl : r_66.toInt = r_66.toInt) (by decide : (0 : Int32).toInt = 0) c_69
              refine lv_iconst (v := 1) hx hb dX9_load_44 (by decide) ?_
              refine lv_goto (tgt := 49) hx hb dX9_load_45 (by decide) ?_
              refine lv_istore (lv' := [(5, .int 1), (4, .int 1), (0, .ref (hs 0)), (1, .int b), (2, .int o), (3, .int f)]) hx hb dX9_load_49 hl (by decide) rfl (fun ls hl => ?_)
              refine lv_iload hx hb dX9_load_51 (lv_at hl 1 rfl) ?_
              refine lv_if_eq (tgt := 73) hx hb dX9_load_53 (by decide) (fun c_73 => ?_) (fun c_73 => ?_)
              · exact absurd c_73 (by decide)
              · skip
                refine lv_iload hx hb dX9_load_56 (lv_at hl 0 rfl) ?_
                refine lv_if_eq (tgt := 73) hx hb dX9_load_58 (by decide) (fun c_74 => ?_) (fun c_74 => ?_)
                · exact absurd c_74 (by decide)
                · skip
                  refine lv_aload_n hx hb dX9_load_61 rfl (lv_at hl 2 rfl) ?_
                  refine gt_SP_SP_band hx hb hts hown hK hP lwd_19 dX9_load_62 ?_
                  refine gt_SP_band_loads hx hb hts hown hK hP lwd_233 dX9_load_65 ?_
                  refine lv_bipush (v := 9) hx hb dX9_load_68 (by decide) ?_
                  refine lv_icmp_lt (tgt := 75) hx hb dX9_load_70 (by decide) (fun c_75 => ?_) (fun c_75 => ?_)
                  · have gc_75 : v_band_loads.toInt < 9 := i_lt (rfl : v_band_loads.toInt = v_band_loads.toInt) (by decide : (9 : Int32).toInt = 9) c_75
                    refine lv_aload_n hx hb dX9_load_75 rfl (lv_at hl 2 rfl) ?_
                    refine gt_SP_SP_band hx hb hts hown hK hP lwd_19 dX9_load_76 ?_
                    refine gt_SP_band_loads hx hb hts hown hK hP lwd_233 dX9_load_79 ?_
                    refine lv_istore (lv' := [(6, .int v_band_loads), (5, .int 1), (4, .int 1), (0, .ref (hs 0)), (1, .int b), (2, .int o), (3, .int f)]) hx hb dX9_load_82 hl (by decide) rfl (fun ls hl => ?_)
                    refine lv_aload_n hx hb dX9_load_84 rfl (lv_at hl 3 rfl) ?_
                    refine gt_SP_SP_band hx hb hts hown hK hP lwd_19 dX9_load_85 ?_
                    refine gt_SP_band_heft hx hb hts hown hK hP lwd_234 dX9_load_88 ?_
                    refine lv_iload hx hb dX9_load_91 (lv_at hl 0 rfl) ?_
                    refine lv_iload_n hx hb dX9_load_93 rfl (lv_at hl 4 rfl) ?_
                    refine as_bheft (x := b) hx hb hK hP hD hS hr_bheft (i_in (rfl : v_band_loads.toInt = v_band_loads.toInt) (by omega) (by omega)) (by omega) dX9_load_94 (fun f_76 ef_76 rf_76 H locs hP hD hS => ?_)
                    refine lv_aload_n hx hb dX9_load_95 rfl (lv_at hl 3 rfl) ?_
                    refine gt_SP_SP_band hx hb hts hown hK hP lwd_19 dX9_load_96 ?_
                    refine gt_SP_band_owner hx hb hts hown hK hP lwd_235 dX9_load_99 ?_
                    refine lv_iload hx hb dX9_load_102 (lv_at hl 0 rfl) ?_
                    refine lv_iload_n hx hb dX9_load_104 rfl (lv_at hl 5 rfl) ?_
                    refine as_owner (x := o) hx hb hK hP hD hS hr_owner (i_in (rfl : v_band_loads.toInt = v_band_loads.toInt) (by omega) (by omega)) (by omega) dX9_load_105 (fun f_77 ef_77 rf_77 H locs hP hD hS => ?_)
                    refine lv_aload_n hx hb dX9_load_106 rfl (lv_at hl 3 rfl) ?_
                    refine gt_SP_SP_band hx hb hts hown hK hP lwd_19 dX9_load_107 ?_
                    refine gt_SP_band_food hx hb hts hown hK hP lwd_236 dX9_load_110 ?_
                    refine lv_iload hx hb dX9_load_113 (lv_at hl 0 rfl) ?_
                    refine lv_iload_n hx hb dX9_load_115 rfl (lv_at hl 6 rfl) ?_
                    refine as_food (x := f) hx hb hK hP hD hS hr_food (i_in (rfl : v_band_loads.toInt = v_band_loads.toInt) (by omega) (by omega)) (by omega) dX9_load_116 (fun f_78 ef_78 rf_78 H locs hP hD hS => ?_)
                    refine lv_aload_n hx hb dX9_load_117 rfl (lv_at hl 3 rfl) ?_
                    refine gt_SP_SP_band hx hb hts hown hK hP lwd_19 dX9_load_118 ?_
                    refine lv_dup hx hb dX9_load_121 rfl ?_
                    refine gt_SP_band_loads hx hb hts hown hK hP lwd_233 dX9_load_122 ?_
                    refine lv_iconst (v := 1) hx hb dX9_load_125 (by decide) ?_
                    refine lv_iadd hx hb dX9_load_126 ?_
                    refine lv_topi (fun n_79 en_79 => ?_)
                    have tn_79 : n_79.toInt = v_band_loads.toInt + 1 := i_add en_79 (rfl : v_band_loads.toInt = v_band_loads.toInt) (by decide : (1 : Int32).toInt = 1) (by omega) (by omega)
                    refine pt_SP_band_loads (x := n_79) hx hb hts hown hK hP hD hS lwd_233 dX9_load_127 (fun H locs hP hD hS => ?_)
                    refine lv_aload_n hx hb dX9_load_130 rfl (lv_at hl 3 rfl) ?_
                    refine gt_SP_SP_marches hx hb hts hown hK hP lwd_39 dX9_load_131 ?_
                    refine lv_iconst (v := 0) hx hb dX9_load_134 (by decide) ?_
                    refine pt_SP_marches_marching (x := 0) hx hb hts hown hK hP hD hS lwd_210 (by decide) dX9_load_135 (fun H locs hP hD hS => ?_)
                    refine lv_aload_n hx hb dX9_load_138 rfl (lv_at hl 3 rfl) ?_
                    refine gt_SP_SP_marches hx hb hts hown hK hP lwd_39 dX9_load_139 ?_
                    refine lv_iconst (v := 0) hx hb dX9_load_142 (by decide) ?_
                    refine pt_SP_marches_told (x := 0) hx hb hts hown hK hP hD hS lwd_237 dX9_load_143 (fun H locs hP hD hS => ?_)
                    refine lv_aload_n hx hb dX9_load_146 rfl (lv_at hl 3 rfl) ?_
                    refine gt_SP_SP_search hx hb hts hown hK hP lwd_43 dX9_load_147 ?_
                    refine lv_iconst (v := 0) hx hb dX9_load_150 (by decide) ?_
                    refine pt_SP_search_known (x := 0) hx hb hts hown hK hP hD hS lwd_216 (by decide) dX9_load_151 (fun H locs hP hD hS => ?_)
                    refine lv_iload hx hb dX9_load_154 (lv_at hl 0 rfl) ?_
                    have k_80 : (0 : Int32).toInt = 0 := by decide
                    have k_81 : (0 : Int32).toInt = 0 := by decide
                    have k_82 : (0 : Int32).toInt = 0 := by decide
                    exact hrt v_band_loads n_79 0 0 0 f_76 f_77 f_78 ⟨(by omega), ⟨fun _ => ef_77, fun h => absurd h (by omega)⟩, (by omega), (by omega), (by omega), rf_76, rf_77, rf_78⟩ hP hD hS rfl dX9_load_156
                  · have gc_75 : 9 ≤ v_band_loads.toInt := i_nlt (rfl : v_band_loads.toInt = v_band_loads.toInt) (by decide : (9 : Int32).toInt = 9) c_75
                    refine lv_iconst (v := (-1)) hx hb dX9_load_73 (by decide) ?_
                    have k_83 : ((-1) : Int32).toInt = (-1) := by decide
                    exact hrt (-1) v_band_loads v_marches_told v_marches_marching v_search_known f_bheft f_owner f_food ⟨(by omega), ⟨fun h => absurd h (by omega), fun _ => rfl⟩, (by omega), (by omega), (by omega), hr_bheft, hr_owner, hr_food⟩ hP hD hS rfl dX9_load_74
set_option maxHeartbeats 16000000 in
set_option maxRecDepth 100000 in
theorem c_X9_piece (l : Launch) (D : va_G) (cy : Nat → ClassId) (hs : Nat → Nat) (hH hT sH sT : Nat) (v_tape_size v_band_walkers v_band_loads v_band_pieces v_rules_clauses v_reader_end v_reader_at v_reader_length v_reader_letter v_reader_fault v_draft_clauses v_paces_version v_packing_quicker v_packing_loads v_packing_looseCount v_marches_told v_marches_changeMinutes v_marches_marching v_marches_gone v_search_known v_search_countHere v_search_countThere v_search_cost v_search_most : Int32) (v_search_found : Int64) (f_bytes f_knee f_weight f_limps f_bheft f_owner f_food f_miles f_slope f_rsteps f_rkind f_ryields f_rholds f_rletters f_rstack f_dsteps f_dkind f_dyields f_dholds f_dletters f_dstack f_caps f_versions f_sharing f_pheft f_prow f_holder f_comes f_pcaps f_room f_loose f_reached f_mrow f_minutesOn f_mtired : Nat → Int32) (f_here f_there : Nat → Int64) (f_statesHere f_statesThere f_listed f_stired f_burdens f_pacesOn f_restedOn f_behindOn f_behindFor f_first f_second : Nat → Int32) (f_plans f_tiredOn : Nat → Nat → Int32) (tS : Nat) (sz : Nat) (m1 : Int32) (h : Int32) (hb_v_band_pieces : 0 ≤ v_band_pieces.toInt ∧ v_band_pieces.toInt ≤ 10) (hb_v_marches_marching : 0 ≤ v_marches_marching.toInt ∧ v_marches_marching.toInt ≤ 1) (hb_v_search_known : 0 ≤ v_search_known.toInt ∧ v_search_known.toInt ≤ 1) (hr_miles : rg (0) 20 f_miles) : gMi l yX9_piece cX9_piece 5 .int 1 [.ref (hs 0), .int m1, .int h] D cy (wSP cy hs hH hT sH sT v_tape_size v_band_walkers v_band_loads v_band_pieces v_rules_clauses v_reader_end v_reader_at v_reader_length v_reader_letter v_reader_fault v_draft_clauses v_paces_version v_packing_quicker v_packing_loads v_packing_looseCount v_marches_told v_marches_changeMinutes v_marches_marching v_marches_gone v_search_known v_search_countHere v_search_countThere v_search_cost v_search_most v_search_found f_bytes f_knee f_weight f_limps f_bheft f_owner f_food f_miles f_slope f_rsteps f_rkind f_ryields f_rholds f_rletters f_rstack f_dsteps f_dkind f_dyields f_dholds f_dletters f_dstack f_caps f_versions f_sharing f_pheft f_prow f_holder f_comes f_pcaps f_room f_loose f_reached f_mrow f_minutesOn f_mtired f_here f_there f_statesHere f_statesThere f_listed f_stired f_burdens f_pacesOn f_restedOn f_behindOn f_behindFor f_first f_second f_plans f_tiredOn) (NS tS) sz (fun (r : Int32) (u : Int32 × Int32 × Int32 × (Nat → Int32) × (Nat → Int32)) => ((r.toInt = v_band_pieces.toInt ∧ v_band_pieces.toInt < 10 ∧ 1 ≤ m1.toInt ∧ m1.toInt ≤ 20 ∧ -9 ≤ h.toInt ∧ h.toInt ≤ 9 ∧ (u.1).toInt = v_band_pieces.toInt + 1 ∧ (u.2.1).toInt = 0) ∨ (r.toInt = -1 ∧ ¬ (v_band_pieces.toInt < 10 ∧ 1 ≤ m1.toInt ∧ m1.toInt ≤ 20 ∧ -9 ≤ h.toInt ∧ h.toInt ≤ 9) ∧ (u.1).toInt = v_band_pieces.toInt ∧ (u.2.1).toInt = v_marches_marching.toInt)) ∧ (0 ≤ (u.1).toInt ∧ (u.1).toInt ≤ 10) ∧ (0 ≤ (u.2.1).toInt ∧ (u.2.1).toInt ≤ 1) ∧ (0 ≤ (u.2.2.1).toInt ∧ (u.2.2.1).toInt ≤ 1) ∧ (rg (0) 20 (u.2.2.2.1))) (fun u => wSP cy hs hH hT sH sT v_tape_size v_band_walkers v_band_loads (u.1) v_rules_clauses v_reader_end v_reader_at v_reader_length v_reader_letter v_reader_fault v_draft_clauses v_paces_version v_packing_quicker v_packing_loads v_packing_looseCount v_marches_told v_marches_changeMinutes (u.2.1) v_marches_gone (u.2.2.1) v_search_countHere v_search_countThere v_search_cost v_search_most v_search_found f_bytes f_knee f_weight f_limps f_bheft f_owner f_food (u.2.2.2.1) (u.2.2.2.2) f_rsteps f_rkind f_ryields f_rholds f_rletters f_rstack f_dsteps f_dkind f_dyields f_dholds f_dletters f_dstack f_caps f_versions f_sharing f_pheft f_prow f_holder f_comes f_pcaps f_room f_loose f_reached f_mrow f_minutesOn f_mtired f_here f_there f_statesHere f_statesThere f_listed f_stired f_burdens f_pacesOn f_restedOn f_behindOn f_behindFor f_first f_second f_plans f_tiredOn) := by
  refine gMi_in (by decide) (Nat.le_of_ble_eq_true rfl) ?_
  intro p e s m args below meth c A ls Q hx hb hml hts hown hsz hP hK hD hN hAe hA hS hl hret
  subst hsz
  have hl : lv_has ls 5 [(0, .ref (hs 0)), (1, .int m1), (2, .int h)] := hl
  have hrt := fun (r : Int32) (v_band_pieces' : Int32) (v_marches_marching' : Int32) (v_search_known' : Int32) (f_miles' : Nat → Int32) (f_slope' : Nat → Int32) (hp : ((r.toInt = v_band_pieces.toInt ∧ v_band_pieces.toInt < 10 ∧ 1 ≤ m1.toInt ∧ m1.toInt ≤ 20 ∧ -9 ≤ h.toInt ∧ h.toInt ≤ 9 ∧ v_band_pieces'.toInt = v_band_pieces.toInt + 1 ∧ v_marches_marching'.toInt = 0) ∨ (r.toInt = -1 ∧ ¬ (v_band_pieces.toInt < 10 ∧ 1 ≤ m1.toInt ∧ m1.toInt ≤ 20 ∧ -9 ≤ h.toInt ∧ h.toInt ≤ 9) ∧ v_band_pieces'.toInt = v_band_pieces.toInt ∧ v_marches_marching'.toInt = v_marches_marching.toInt)) ∧ (0 ≤ v_band_pieces'.toInt ∧ v_band_pieces'.toInt ≤ 10) ∧ (0 ≤ v_marches_marching'.toInt ∧ v_marches_marching'.toInt ≤ 1) ∧ (0 ≤ v_search_known'.toInt ∧ v_search_known'.toInt ≤ 1) ∧ (rg (0) 20 f_miles')) {H : Heap} {locs : List Loc} {pc : Nat} {ls : Array Slot} => hret r (v_band_pieces', v_marches_marching', v_search_known', f_miles', f_slope') (H := H) (locs := locs) (pc := pc) (ls := ls) hp
  clear hret
  refine lv_iload_n hx hb dX9_piece_0 rfl (lv_at hl 1 rfl) ?_
  refine lv_iconst (v := 1) hx hb dX9_piece_1 (by decide) ?_
  refine lv_icmp_lt (tgt := 27) hx hb dX9_piece_2 (by decide) (fun c_1 => ?_) (fun c_1 => ?_)
  · have gc_1 : m1.toInt < 1 := i_lt (rfl : m1.toInt = m1.toInt) (by decide : (1 : Int32).toInt = 1) c_1
    refine lv_iconst (v := 0) hx hb dX9_piece_27 (by decide) ?_
    refine lv_istore_n (lv' := [(3, .int 0), (0, .ref (hs 0)), (1, .int m1), (2, .int h)]) hx hb dX9_piece_28 rfl hl (by decide) rfl (fun ls hl => ?_)
    refine lv_iload_n hx hb dX9_piece_29 rfl (lv_at hl 0 rfl) ?_
    refine lv_if_eq (tgt := 45) hx hb dX9_piece_30 (by decide) (fun c_2 => ?_) (fun c_2 => ?_)
    · skip
      refine lv_iconst (v := (-1)) hx hb dX9_piece_45 (by decide) ?_
      have k_3 : ((-1) : Int32).toInt = (-1) := by decide
      exact hrt (-1) v_band_pieces v_marches_marching v_search_known f_miles f_slope ⟨(by omega), (by omega), (by omega), (by omega), hr_miles⟩ hP hD hS rfl dX9_piece_46
    · exact absurd c_2 (by decide)
  · have gc_1 : 1 ≤ m1.toInt := i_nlt (rfl : m1.toInt = m1.toInt) (by decide : (1 : Int32).toInt = 1) c_1
    refine lv_iload_n hx hb dX9_piece_5 rfl (lv_at hl 1 rfl) ?_
    refine lv_bipush (v := 20) hx hb dX9_piece_6 (by decide) ?_
    refine lv_icmp_gt (tgt := 27) hx hb dX9_piece_8 (by decide) (fun c_4 => ?_) (fun c_4 => ?_)
    · have gc_4 : 20 < m1.toInt := i_lt (by decide : (20 : Int32).toInt = 20) (rfl : m1.toInt = m1.toInt) c_4
      refine lv_iconst (v := 0) hx hb dX9_piece_27 (by decide) ?_
      refine lv_istore_n (lv' := [(3, .int 0), (0, .ref (hs 0)), (1, .int m1), (2, .int h)]) hx hb dX9_piece_28 rfl hl (by decide) rfl (fun ls hl => ?_)
      refine lv_iload_n hx hb dX9_piece_29 rfl (lv_at hl 0 rfl) ?_
      refine lv_if_eq (tgt := 45) hx hb dX9_piece_30 (by decide) (fun c_5 => ?_) (fun c_5 => ?_)
      · skip
        refine lv_iconst (v := (-1)) hx hb dX9_piece_45 (by decide) ?_
        have k_6 : ((-1) : Int32).toInt = (-1) := by decide
        exact hrt (-1) v_band_pieces v_marches_marching v_search_known f_miles f_slope ⟨(by omega), (by omega), (by omega), (by omega), hr_miles⟩ hP hD hS rfl dX9_piece_46
      · exact absurd c_5 (by decide)
    · have gc_4 : m1.toInt ≤ 20 := i_nlt (by decide : (20 : Int32).toInt = 20) (rfl : m1.toInt = m1.toInt) c_4
      refine lv_iload_n hx hb dX9_piece_11 rfl (lv_at hl 2 rfl) ?_
      refine lv_bipush (v := (-9)) hx hb dX9_piece_12 (by decide) ?_
      refine lv_icmp_lt (tgt := 27) hx hb dX9_piece_14 (by decide) (fun c_7 => ?_) (fun c_7 => ?_)
      · have gc_7 : h.toInt < (-9) := i_lt (rfl : h.toInt = h.toInt) (by decide : ((-9) : Int32).toInt = (-9)) c_7
        refine lv_iconst (v := 0) hx hb dX9_piece_27 (by decide) ?_
        refine lv_istore_n (lv' := [(3, .int 0), (0, .ref (hs 0)), (1, .int m1), (2, .int h)]) hx hb dX9_piece_28 rfl hl (by decide) rfl (fun ls hl => ?_)
        refine lv_iload_n hx hb dX9_piece_29 rfl (lv_at hl 0 rfl) ?_
        refine lv_if_eq (tgt := 45) hx hb dX9_piece_30 (by decide) (fun c_8 => ?_) (fun c_8 => ?_)
        · skip
          refine lv_iconst (v := (-1)) hx hb dX9_piece_45 (by decide) ?_
          have k_9 : ((-1) : Int32).toInt = (-1) := by decide
          exact hrt (-1) v_band_pieces v_marches_marching v_search_known f_miles f_slope ⟨(by omega), (by omega), (by omega), (by omega), hr_miles⟩ hP hD hS rfl dX9_piece_46
        · exact absurd c_8 (by decide)
      · have gc_7 : (-9) ≤ h.toInt := i_nlt (rfl : h.toInt = h.toInt) (by decide : ((-9) : Int32).toInt = (-9)) c_7
        refine lv_iload_n hx hb dX9_piece_17 rfl (lv_at hl 2 rfl) ?_
        refine lv_bipush (v := 9) hx hb dX9_piece_18 (by decide) ?_
        refine lv_icmp_gt (tgt := 27) hx hb dX9_piece_20 (by decide) (fun c_10 => ?_) (fun c_10 => ?_)
        · have gc_10 : 9 < h.toInt := i_lt (by decide : (9 : Int32).toInt = 9) (rfl : h.toInt = h.toInt) c_10
          refine lv_iconst (v := 0) hx hb dX9_piece_27 (by decide) ?_
          refine lv_istore_n (lv' := [(3, .int 0), (0, .ref (hs 0)), (1, .int m1), (2, .int h)]) hx hb dX9_piece_28 rfl hl (by decide) rfl (fun ls hl => ?_)
          refine lv_iload_n hx hb dX9_piece_29 rfl (lv_at hl 0 rfl) ?_
          refine lv_if_eq (tgt := 45) hx hb dX9_piece_30 (by decide) (fun c_11 => ?_) (fun c_11 => ?_)
          · skip
            refine lv_iconst (v := (-1)) hx hb dX9_piece_45 (by decide) ?_
            have k_12 : ((-1) : Int32).toInt = (-1) := by decide
            exact hrt (-1) v_band_pieces v_marches_marching v_search_known f_miles f_slope ⟨(by omega), (by omega), (by omega), (by omega), hr_miles⟩ hP hD hS rfl dX9_piece_46
          · exact absurd c_11 (by decide)
        · have gc_10 : h.toInt ≤ 9 := i_nlt (by decide : (9 : Int32).toInt = 9) (rfl : h.toInt = h.toInt) c_10
          refine lv_iconst (v := 1) hx hb dX9_piece_23 (by decide) ?_
          refine lv_goto (tgt := 28) hx hb dX9_piece_24 (by decide) ?_
          refine lv_istore_n (lv' := [(3, .int 1), (0, .ref (hs 0)), (1, .int m1), (2, .int h)]) hx hb dX9_piece_28 rfl hl (by decide) rfl (fun ls hl => ?_)
          refine lv_iload_n hx hb dX9_piece_29 rfl (lv_at hl 0 rfl) ?_
          refine lv_if_eq (tgt := 45) hx hb dX9_piece_30 (by decide) (fun c_13 => ?_) (fun c_13 => ?_)
          · exact absurd c_13 (by decide)
          · skip
            refine lv_aload_n hx hb dX9_piece_33 rfl (lv_at hl 1 rfl) ?_
            refine gt_SP_SP_band hx hb hts hown hK hP lwd_19 dX9_piece_34 ?_
            refine gt_SP_band_pieces hx hb hts hown hK hP lwd_258 dX9_piece_37 ?_
            refine lv_bipush (v := 10) hx hb dX9_piece_40 (by decide) ?_
            refine lv_icmp_lt (tgt := 47) hx hb dX9_piece_42 (by decide) (fun c_14 => ?_) (fun c_14 => ?_)
            · have gc_14 : v_band_pieces.toInt < 10 := i_lt (rfl : v_band_pieces.toInt = v_band_pieces.toInt) (by decide : (10 : Int32).toInt = 10) c_14
              refine lv_aload_n hx hb dX9_piece_47 rfl (lv_at hl 1 rfl) ?_
              refine gt_SP_SP_band hx hb hts hown hK hP lwd_19 dX9_piece_48 ?_
              refine gt_SP_band_pieces hx hb hts hown hK hP lwd_258 dX9_piece_51 ?_
              refine lv_istore (lv' := [(4, .int v_band_pieces), (3, .int 1), (0, .ref (hs 0)), (1, .int m1), (2, .int h)]) hx hb dX9_piece_54 hl (by decide) rfl (fun ls hl => ?_)
              refine lv_aload_n hx hb dX9_piece_56 rfl (lv_at hl 2 rfl) ?_
              refine gt_SP_SP_band hx hb hts hown hK hP lwd_19 dX9_piece_57 ?_
              refine gt_SP_band_miles hx hb hts hown hK hP lwd_259 dX9_piece_60 ?_
              refine lv_iload hx hb dX9_piece_63 (lv_at hl 0 rfl) ?_
              refine lv_iload_n hx hb dX9_piece_65 rfl (lv_at hl 3 rfl) ?_
              refine as_miles (x := m1) hx hb hK hP hD hS hr_miles (i_in (rfl : v_band_pieces.toInt = v_band_pieces.toInt) (by omega) (by omega)) (by omega) dX9_piece_66 (fun f_15 ef_15 rf_15 H locs hP hD hS => ?_)
              refine lv_aload_n hx hb dX9_piece_67 rfl (lv_at hl 2 rfl) ?_
              refine gt_SP_SP_band hx hb hts hown hK hP lwd_19 dX9_piece_68 ?_
              refine gt_SP_band_slope hx hb hts hown hK hP lwd_260 dX9_piece_71 ?_
              refine lv_iload hx hb dX9_piece_74 (lv_at hl 0 rfl) ?_
              refine lv_iload_n hx hb dX9_piece_76 rfl (lv_at hl 4 rfl) ?_
              refine as_slope (x := h) hx hb hK hP hD hS (i_in (rfl : v_band_pieces.toInt = v_band_pieces.toInt) (by omega) (by omega)) dX9_piece_77 (fun f_16 ef_16 H locs hP hD hS => ?_)
              refine lv_aload_n hx hb dX9_piece_78 rfl (lv_at hl 2 rfl) ?_
              refine gt_SP_SP_band hx hb hts hown hK hP lwd_19 dX9_piece_79 ?_
              refine lv_dup hx hb dX9_piece_82 rfl ?_
              refine gt_SP_band_pieces hx hb hts hown hK hP lwd_258 dX9_piece_83 ?_
              refine lv_iconst (v := 1) hx hb dX9_piece_86 (by decide) ?_
              refine lv_iadd hx hb dX9_piece_87 ?_
              refine lv_topi (fun n_17 en_17 => ?_)
              have tn_17 : n_17.toInt = v_band_pieces.toInt + 1 := i_add en_17 (rfl : v_band_pieces.toInt = v_band_pieces.toInt) (by decide : (1 : Int32).toInt = 1) (by omega) (by omega)
              refine pt_SP_band_pieces (x := n_17) hx hb hts hown hK hP hD hS lwd_258 dX9_piece_88 (fun H locs hP hD hS => ?_)
              refine lv_aload_n hx hb dX9_piece_91 rfl (lv_at hl 2 rfl) ?_
              refine gt_SP_SP_marches hx hb hts hown hK hP lwd_39 dX9_piece_92 ?_
              refine lv_iconst (v := 0) hx hb dX9_piece_95 (by decide) ?_
              refine pt_SP_marches_marching (x := 0) hx hb hts hown hK hP hD hS lwd_210 (by decide) dX9_piece_96 (fun H locs hP hD hS => ?_)
              refine lv_aload_n hx hb dX9_piece_99 rfl (lv_at hl 2 rfl) ?_
              refine gt_SP_SP_search hx hb hts hown hK hP lwd_43 dX9_piece_100 ?_
              refine lv_iconst (v := 0) hx hb dX9_piece_103 (by decide) ?_
              refine pt_SP_search_known (x := 0) hx hb hts hown hK hP hD hS lwd_216 (by decide) dX9_piece_104 (fun H locs hP hD hS => ?_)
              refine lv_iload hx hb dX9_piece_107 (lv_at hl 0 rfl) ?_
              have k_18 : (0 : Int32).toInt = 0 := by decide
              have k_19 : (0 : Int32).toInt = 0 := by decide
              exact hrt v_band_pieces n_17 0 0 f_15 f_16 ⟨(by omega), (by omega), (by omega), (by omega), rf_15⟩ hP hD hS rfl dX9_piece_109
            · have gc_14 : 10 ≤ v_band_pieces.toInt := i_nlt (rfl : v_band_pieces.toInt = v_band_pieces.toInt) (by decide : (10 : Int32).toInt = 10) c_14
              refine lv_iconst (v := (-1)) hx hb dX9_piece_45 (by decide) ?_
              have k_20 : ((-1) : Int32).toInt = (-1) := by decide
              exact hrt (-1) v_band_pieces v_marches_marching v_search_known f_miles f_slope ⟨(by omega), (by omega), (by omega), (by omega), hr_miles⟩ hP hD hS rfl dX9_piece_46
set_option maxHeartbeats 16000000 in
set_option maxRecDepth 100000 in
theorem c_X9_lame (l : Launch) (D : va_G) (cy : Nat → ClassId) (hs : Nat → Nat) (hH hT sH sT : Nat) (v_tape_size v_band_walkers v_band_loads v_band_pieces v_rules_clauses v_reader_end v_reader_at v_reader_length v_reader_letter v_reader_fault v_draft_clauses v_paces_version v_packing_quicker v_packing_loads v_packing_looseCount v_marches_told v_marches_changeMinutes v_marches_marching v_marches_gone v_search_known v_search_countHere v_search_countThere v_search_cost v_search_most : Int32) (v_search_found : Int64) (f_bytes f_knee f_weight f_limps f_bheft f_owner f_food f_miles f_slope f_rsteps f_rkind f_ryields f_rholds f_rletters f_rstack f_dsteps f_dkind f_dyields f_dholds f_dletters f_dstack f_caps f_versions f_sharing f_pheft f_prow f_holder f_comes f_pcaps f_room f_loose f_reached f_mrow f_minutesOn f_mtired : Nat → Int32) (f_here f_there : Nat → Int64) (f_statesHere f_statesThere f_listed f_stired f_burdens f_pacesOn f_restedOn f_behindOn f_behindFor f_first f_second : Nat → Int32) (f_plans f_tiredOn : Nat → Nat → Int32) (tS : Nat) (sz : Nat) (w : Int32) (is : Int32) (hb_v_band_walkers : 0 ≤ v_band_walkers.toInt ∧ v_band_walkers.toInt ≤ 6) (hb_v_search_known : 0 ≤ v_search_known.toInt ∧ v_search_known.toInt ≤ 1) (hr_limps : rg (0) 1 f_limps) (ha_is : 0 ≤ is.toInt ∧ is.toInt ≤ 1) : gMi l yX9_lame cX9_lame 3 .boolean 2 [.ref (hs 0), .int w, .int is] D cy (wSP cy hs hH hT sH sT v_tape_size v_band_walkers v_band_loads v_band_pieces v_rules_clauses v_reader_end v_reader_at v_reader_length v_reader_letter v_reader_fault v_draft_clauses v_paces_version v_packing_quicker v_packing_loads v_packing_looseCount v_marches_told v_marches_changeMinutes v_marches_marching v_marches_gone v_search_known v_search_countHere v_search_countThere v_search_cost v_search_most v_search_found f_bytes f_knee f_weight f_limps f_bheft f_owner f_food f_miles f_slope f_rsteps f_rkind f_ryields f_rholds f_rletters f_rstack f_dsteps f_dkind f_dyields f_dholds f_dletters f_dstack f_caps f_versions f_sharing f_pheft f_prow f_holder f_comes f_pcaps f_room f_loose f_reached f_mrow f_minutesOn f_mtired f_here f_there f_statesHere f_statesThere f_listed f_stired f_burdens f_pacesOn f_restedOn f_behindOn f_behindFor f_first f_second f_plans f_tiredOn) (NS tS) sz (fun (r : Int32) (u : Int32 × Int32 × (Nat → Int32)) => (0 ≤ r.toInt ∧ r.toInt ≤ 1) ∧ ((r.toInt = 1 ∧ 0 ≤ w.toInt ∧ w.toInt < v_band_walkers.toInt ∧ (f_limps w.toNatClampNeg).toInt ≠ is.toInt) ∨ (r.toInt = 0 ∧ ¬ (0 ≤ w.toInt ∧ w.toInt < v_band_walkers.toInt ∧ (f_limps w.toNatClampNeg).toInt ≠ is.toInt))) ∧ ((r.toInt ≠ 0 → (u.2.2) = upd f_limps w.toNatClampNeg is) ∧ (r.toInt = 0 → (u.2.2) = f_limps)) ∧ (0 ≤ (u.2.1).toInt ∧ (u.2.1).toInt ≤ 1) ∧ (rg (0) 1 (u.2.2))) (fun u => wSP cy hs hH hT sH sT v_tape_size v_band_walkers v_band_loads v_band_pieces v_rules_clauses v_reader_end v_reader_at v_reader_length v_reader_letter v_reader_fault v_draft_clauses (u.1) v_packing_quicker v_packing_loads v_packing_looseCount v_marches_told v_marches_changeMinutes v_marches_marching v_marches_gone (u.2.1) v_search_countHere v_search_countThere v_search_cost v_search_most v_search_found f_bytes f_knee f_weight (u.2.2) f_bheft f_owner f_food f_miles f_slope f_rsteps f_rkind f_ryields f_rholds f_rletters f_rstack f_dsteps f_dkind f_dyields f_dholds f_dletters f_dstack f_caps f_versions f_sharing f_pheft f_prow f_holder f_comes f_pcaps f_room f_loose f_reached f_mrow f_minutesOn f_mtired f_here f_there f_statesHere f_statesThere f_listed f_stired f_burdens f_pacesOn f_restedOn f_behindOn f_behindFor f_first f_second f_plans f_tiredOn) := by
  refine gMi_in (by decide) (Nat.le_of_ble_eq_true rfl) ?_
  intro p e s m args below meth c A ls Q hx hb hml hts hown hsz hP hK hD hN hAe hA hS hl hret
  subst hsz
  have hl : lv_has ls 3 [(0, .ref (hs 0)), (1, .int w), (2, .int is)] := hl
  have hrt := fun (r : Int32) (v_paces_version' : Int32) (v_search_known' : Int32) (f_limps' : Nat → Int32) (hp : (0 ≤ r.toInt ∧ r.toInt ≤ 1) ∧ ((r.toInt = 1 ∧ 0 ≤ w.toInt ∧ w.toInt < v_band_walkers.toInt ∧ (f_limps w.toNatClampNeg).toInt ≠ is.toInt) ∨ (r.toInt = 0 ∧ ¬ (0 ≤ w.toInt ∧ w.toInt < v_band_walkers.toInt ∧ (f_limps w.toNatClampNeg).toInt ≠ is.toInt))) ∧ ((r.toInt ≠ 0 → f_limps' = upd f_limps w.toNatClampNeg is) ∧ (r.toInt = 0 → f_limps' = f_limps)) ∧ (0 ≤ v_search_known'.toInt ∧ v_search_known'.toInt ≤ 1) ∧ (rg (0) 1 f_limps')) {H : Heap} {locs : List Loc} {pc : Nat} {ls : Array Slot} => hret r (v_paces_version', v_search_known', f_limps') (H := H) (locs := locs) (pc := pc) (ls := ls) hp
  clear hret
  refine lv_aload_n hx hb dX9_lame_0 rfl (lv_at hl 0 rfl) ?_
  refine gt_SP_SP_band hx hb hts hown hK hP lwd_19 dX9_lame_1 ?_
  refine lv_iload_n hx hb dX9_lame_4 rfl (lv_at hl 1 rfl) ?_
  refine xi hD hS hA (xV (As := [.int w]) (rest := []) hx hb hml hown hts hK hP hD hS hA NS_ok hN hAe hl.1 ⟨Nat.le_refl _, Nat.le_refl _⟩ 3 rfl rfl rfl (c_X0_hasWalker l D cy hs hH hT sH sT v_tape_size v_band_walkers v_band_loads v_band_pieces v_rules_clauses v_reader_end v_reader_at v_reader_length v_reader_letter v_reader_fault v_draft_clauses v_paces_version v_packing_quicker v_packing_loads v_packing_looseCount v_marches_told v_marches_changeMinutes v_marches_marching v_marches_gone v_search_known v_search_countHere v_search_countThere v_search_cost v_search_most v_search_found f_bytes f_knee f_weight f_limps f_bheft f_owner f_food f_miles f_slope f_rsteps f_rkind f_ryields f_rholds f_rletters f_rstack f_dsteps f_dkind f_dyields f_dholds f_dletters f_dstack f_caps f_versions f_sharing f_pheft f_prow f_holder f_comes f_pcaps f_room f_loose f_reached f_mrow f_minutesOn f_mtired f_here f_there f_statesHere f_statesThere f_listed f_stired f_burdens f_pacesOn f_restedOn f_behindOn f_behindFor f_first f_second f_plans f_tiredOn tS s.heap.size w (by omega)) (gi_V lwd_238 lwd_239 lwd_240 lwd_18 lwd_241) ⟨rfl, hd_X0_hasWalker⟩ ⟨Nat.le_of_ble_eq_true rfl, Nat.le_of_ble_eq_true rfl⟩ rfl (Nat.le_of_ble_eq_true rfl) dX9_lame_5) (fun r_2 u_1 H locs hw hP hD hS => ?_)
  try dsimp only at hw hP hD
  obtain ⟨p_3, p_4⟩ := hw
  refine lv_if_eq (tgt := 24) hx hb dX9_lame_8 (by decide) (fun c_5 => ?_) (fun c_5 => ?_)
  · have gc_5 : r_2.toInt = 0 := i_eq (rfl : r_2.toInt = r_2.toInt) (by decide : (0 : Int32).toInt = 0) c_5
    refine lv_iconst (v := 0) hx hb dX9_lame_24 (by decide) ?_
    have k_6 : (0 : Int32).toInt = 0 := by decide
    exact hrt 0 v_paces_version v_search_known f_limps ⟨(by omega), (by omega), ⟨fun h => absurd h (by omega), fun _ => rfl⟩, (by omega), hr_limps⟩ hP hD hS rfl dX9_lame_25
  · have gc_5 : r_2.toInt ≠ 0 := i_ne (rfl : r_2.toInt = r_2.toInt) (by decide : (0 : Int32).toInt = 0) c_5
    refine lv_aload_n hx hb dX9_lame_11 rfl (lv_at hl 0 rfl) ?_
    refine gt_SP_SP_band hx hb hts hown hK hP lwd_19 dX9_lame_12 ?_
    refine gt_SP_band_limps hx hb hts hown hK hP lwd_209 dX9_lame_15 ?_
    refine lv_iload_n hx hb dX9_lame_18 rfl (lv_at hl 1 rfl) ?_
    refine al_limps hx hb hK hP hr_limps (i_in (rfl : w.toInt = w.toInt) (by omega) (by omega)) dX9_lame_19 (fun n_7 en_7 bn_7 => ?_)
    have qn_7 := congrArg Int32.toInt en_7
    refine lv_iload_n hx hb dX9_lame_20 rfl (lv_at hl 2 rfl) ?_
    refine lv_icmp_ne (tgt := 26) hx hb dX9_lame_21 (by decide) (fun c_8 => ?_) (fun c_8 => ?_)
    · have gc_8 : n_7.toInt ≠ is.toInt := i_ne (rfl : n_7.toInt = n_7.toInt) (rfl : is.toInt = is.toInt) c_8
      refine lv_aload_n hx hb dX9_lame_26 rfl (lv_at hl 0 rfl) ?_
      refine gt_SP_SP_band hx hb hts hown hK hP lwd_19 dX9_lame_27 ?_
      refine gt_SP_band_limps hx hb hts hown hK hP lwd_209 dX9_lame_30 ?_
      refine lv_iload_n hx hb dX9_lame_33 rfl (lv_at hl 1 rfl) ?_
      refine lv_iload_n hx hb dX9_lame_34 rfl (lv_at hl 2 rfl) ?_
      refine as_limps (x := is) hx hb hK hP hD hS hr_limps (i_in (rfl : w.toInt = w.toInt) (by omega) (by omega)) (by omega) dX9_lame_35 (fun f_9 ef_9 rf_9 H locs hP hD hS => ?_)
      refine lv_aload_n hx hb dX9_lame_36 rfl (lv_at hl 0 rfl) ?_
      refine xv hD hS hA (xV (As := []) (rest := []) hx hb hml hown hts hK hP hD hS hA NS_ok hN hAe hl.1 ⟨Nat.le_refl _, Nat.le_refl _⟩ 0 rfl rfl rfl (c_X9_forget l D cy hs hH hT sH sT v_tape_size v_band_walkers v_band_loads v_band_pieces v_rules_clauses v_reader_end v_reader_at v_reader_length v_reader_letter v_reader_fault v_draft_clauses v_paces_version v_packing_quicker v_packing_loads v_packing_looseCount v_marches_told v_marches_changeMinutes v_marches_marching v_marches_gone v_search_known v_search_countHere v_search_countThere v_search_cost v_search_most v_search_found f_bytes f_knee f_weight f_9 f_bheft f_owner f_food f_miles f_slope f_rsteps f_rkind f_ryields f_rholds f_rletters f_rstack f_dsteps f_dkind f_dyields f_dholds f_dletters f_dstack f_caps f_versions f_sharing f_pheft f_prow f_holder f_comes f_pcaps f_room f_loose f_reached f_mrow f_minutesOn f_mtired f_here f_there f_statesHere f_statesThere f_listed f_stired f_burdens f_pacesOn f_restedOn f_behindOn f_behindFor f_first f_second f_plans f_tiredOn tS H.size (by omega)) (gi_V lwd_211 lwd_212 lwd_213 lwd_2 lwd_214) ⟨rfl, hd_X9_forget⟩ ⟨Nat.le_of_ble_eq_true rfl, Nat.le_of_ble_eq_true rfl⟩ rfl (Nat.le_of_ble_eq_true rfl) dX9_lame_37) (fun u_10 H locs hw hP hD hS => ?_)
      obtain ⟨zpaces_version_12, zsearch_known_13⟩ := u_10
      try dsimp only at hw hP hD
      have p_14 := hw
      clear hw
      refine lv_iconst (v := 1) hx hb dX9_lame_40 (by decide) ?_
      have k_15 : (1 : Int32).toInt = 1 := by decide
      exact hrt 1 zpaces_version_12 zsearch_known_13 f_9 ⟨(by omega), (by omega), ⟨fun _ => ef_9, fun h => absurd h (by omega)⟩, (by omega), rf_9⟩ hP hD hS rfl dX9_lame_41
    · have gc_8 : n_7.toInt = is.toInt := i_eq (rfl : n_7.toInt = n_7.toInt) (rfl : is.toInt = is.toInt) c_8
      refine lv_iconst (v := 0) hx hb dX9_lame_24 (by decide) ?_
      have k_16 : (0 : Int32).toInt = 0 := by decide
      exact hrt 0 v_paces_version v_search_known f_limps ⟨(by omega), (by omega), ⟨fun h => absurd h (by omega), fun _ => rfl⟩, (by omega), hr_limps⟩ hP hD hS rfl dX9_lame_25
set_option maxHeartbeats 16000000 in
set_option maxRecDepth 100000 in
theorem c_X9_change (l : Launch) (D : va_G) (cy : Nat → ClassId) (hs : Nat → Nat) (hH hT sH sT : Nat) (v_tape_size v_band_walkers v_band_loads v_band_pieces v_rules_clauses v_reader_end v_reader_at v_reader_length v_reader_letter v_reader_fault v_draft_clauses v_paces_version v_packing_quicker v_packing_loads v_packing_looseCount v_marches_told v_marches_changeMinutes v_marches_marching v_marches_gone v_search_known v_search_countHere v_search_countThere v_search_cost v_search_most : Int32) (v_search_found : Int64) (f_bytes f_knee f_weight f_limps f_bheft f_owner f_food f_miles f_slope f_rsteps f_rkind f_ryields f_rholds f_rletters f_rstack f_dsteps f_dkind f_dyields f_dholds f_dletters f_dstack f_caps f_versions f_sharing f_pheft f_prow f_holder f_comes f_pcaps f_room f_loose f_reached f_mrow f_minutesOn f_mtired : Nat → Int32) (f_here f_there : Nat → Int64) (f_statesHere f_statesThere f_listed f_stired f_burdens f_pacesOn f_restedOn f_behindOn f_behindFor f_first f_second : Nat → Int32) (f_plans f_tiredOn : Nat → Nat → Int32) (tS : Nat) (sz : Nat) (q : Int32) : gMi l yX9_change cX9_change 2 .boolean 1 [.ref (hs 0), .int q] D cy (wSP cy hs hH hT sH sT v_tape_size v_band_walkers v_band_loads v_band_pieces v_rules_clauses v_reader_end v_reader_at v_reader_length v_reader_letter v_reader_fault v_draft_clauses v_paces_version v_packing_quicker v_packing_loads v_packing_looseCount v_marches_told v_marches_changeMinutes v_marches_marching v_marches_gone v_search_known v_search_countHere v_search_countThere v_search_cost v_search_most v_search_found f_bytes f_knee f_weight f_limps f_bheft f_owner f_food f_miles f_slope f_rsteps f_rkind f_ryields f_rholds f_rletters f_rstack f_dsteps f_dkind f_dyields f_dholds f_dletters f_dstack f_caps f_versions f_sharing f_pheft f_prow f_holder f_comes f_pcaps f_room f_loose f_reached f_mrow f_minutesOn f_mtired f_here f_there f_statesHere f_statesThere f_listed f_stired f_burdens f_pacesOn f_restedOn f_behindOn f_behindFor f_first f_second f_plans f_tiredOn) (NS tS) sz (fun (r : Int32) (u : Int32) => (0 ≤ r.toInt ∧ r.toInt ≤ 1) ∧ ((r.toInt = 1 ∧ 0 ≤ q.toInt ∧ q.toInt ≤ 120) ∨ (r.toInt = 0 ∧ ¬ (0 ≤ q.toInt ∧ q.toInt ≤ 120)))) (fun u => wSP cy hs hH hT sH sT v_tape_size v_band_walkers v_band_loads v_band_pieces v_rules_clauses v_reader_end v_reader_at v_reader_length v_reader_letter v_reader_fault v_draft_clauses v_paces_version v_packing_quicker v_packing_loads v_packing_looseCount v_marches_told u v_marches_marching v_marches_gone v_search_known v_search_countHere v_search_countThere v_search_cost v_search_most v_search_found f_bytes f_knee f_weight f_limps f_bheft f_owner f_food f_miles f_slope f_rsteps f_rkind f_ryields f_rholds f_rletters f_rstack f_dsteps f_dkind f_dyields f_dholds f_dletters f_dstack f_caps f_versions f_sharing f_pheft f_prow f_holder f_comes f_pcaps f_room f_loose f_reached f_mrow f_minutesOn f_mtired f_here f_there f_statesHere f_statesThere f_listed f_stired f_burdens f_pacesOn f_restedOn f_behindOn f_behindFor f_first f_second f_plans f_tiredOn) := by
  refine gMi_in (by decide) (Nat.le_of_ble_eq_true rfl) ?_
  intro p e s m args below meth c A ls Q hx hb hml hts hown hsz hP hK hD hN hAe hA hS hl hret
  subst hsz
  have hl : lv_has ls 2 [(0, .ref (hs 0)), (1, .int q)] := hl
  have hrt := fun (r : Int32) (v_marches_changeMinutes' : Int32) (hp : (0 ≤ r.toInt ∧ r.toInt ≤ 1) ∧ ((r.toInt = 1 ∧ 0 ≤ q.toInt ∧ q.toInt ≤ 120) ∨ (r.toInt = 0 ∧ ¬ (0 ≤ q.toInt ∧ q.toInt ≤ 120)))) {H : Heap} {locs : List Loc} {pc : Nat} {ls : Array Slot} => hret r v_marches_changeMinutes' (H := H) (locs := locs) (pc := pc) (ls := ls) hp
  clear hret
  refine lv_iload_n hx hb dX9_change_0 rfl (lv_at hl 1 rfl) ?_
  refine lv_if_lt (tgt := 10) hx hb dX9_change_1 (by decide) (fun c_1 => ?_) (fun c_1 => ?_)
  · have gc_1 : q.toInt < 0 := i_lt (rfl : q.toInt = q.toInt) (by decide : (0 : Int32).toInt = 0) c_1
    refine lv_iconst (v := 0) hx hb dX9_change_10 (by decide) ?_
    have k_2 : (0 : Int32).toInt = 0 := by decide
    exact hrt 0 v_marches_changeMinutes ⟨(by omega), (by omega)⟩ hP hD hS rfl dX9_change_11
  · have gc_1 : 0 ≤ q.toInt := i_nlt (rfl : q.toInt = q.toInt) (by decide : (0 : Int32).toInt = 0) c_1
    refine lv_iload_n hx hb dX9_change_4 rfl (lv_at hl 1 rfl) ?_
    refine lv_bipush (v := 120) hx hb dX9_change_5 (by decide) ?_
    refine lv_icmp_le (tgt := 12) hx hb dX9_change_7 (by decide) (fun c_3 => ?_) (fun c_3 => ?_)
    · have gc_3 : q.toInt ≤ 120 := i_le (rfl : q.toInt = q.toInt) (by decide : (120 : Int32).toInt = 120) c_3
      refine lv_aload_n hx hb dX9_change_12 rfl (lv_at hl 0 rfl) ?_
      refine gt_SP_SP_marches hx hb hts hown hK hP lwd_39 dX9_change_13 ?_
      refine lv_iload_n hx hb dX9_change_16 rfl (lv_at hl 1 rfl) ?_
      refine pt_SP_marches_changeMinutes (x := q) hx hb hts hown hK hP hD hS lwd_279 dX9_change_17 (fun H locs hP hD hS => ?_)
      refine lv_iconst (v := 1) hx hb dX9_change_20 (by decide) ?_
      have k_4 : (1 : Int32).toInt = 1 := by decide
      exact hrt 1 q ⟨(by omega), (by omega)⟩ hP hD hS rfl dX9_change_21
    · have gc_3 : 120 < q.toInt := i_nle (rfl : q.toInt = q.toInt) (by decide : (120 : Int32).toInt = 120) c_3
      refine lv_iconst (v := 0) hx hb dX9_change_10 (by decide) ?_
      have k_5 : (0 : Int32).toInt = 0 := by decide
      exact hrt 0 v_marches_changeMinutes ⟨(by omega), (by omega)⟩ hP hD hS rfl dX9_change_11
set_option maxHeartbeats 16000000 in
set_option maxRecDepth 100000 in
theorem c_X9_feed (l : Launch) (D : va_G) (cy : Nat → ClassId) (hs : Nat → Nat) (hH hT sH sT : Nat) (v_tape_size v_band_walkers v_band_loads v_band_pieces v_rules_clauses v_reader_end v_reader_at v_reader_length v_reader_letter v_reader_fault v_draft_clauses v_paces_version v_packing_quicker v_packing_loads v_packing_looseCount v_marches_told v_marches_changeMinutes v_marches_marching v_marches_gone v_search_known v_search_countHere v_search_countThere v_search_cost v_search_most : Int32) (v_search_found : Int64) (f_bytes f_knee f_weight f_limps f_bheft f_owner f_food f_miles f_slope f_rsteps f_rkind f_ryields f_rholds f_rletters f_rstack f_dsteps f_dkind f_dyields f_dholds f_dletters f_dstack f_caps f_versions f_sharing f_pheft f_prow f_holder f_comes f_pcaps f_room f_loose f_reached f_mrow f_minutesOn f_mtired : Nat → Int32) (f_here f_there : Nat → Int64) (f_statesHere f_statesThere f_listed f_stired f_burdens f_pacesOn f_restedOn f_behindOn f_behindFor f_first f_second : Nat → Int32) (f_plans f_tiredOn : Nat → Nat → Int32) (tS : Nat) (sz : Nat) (a1 : Int32) (a2 : Int32) (a3 : Int32) (a4 : Int32) (a5 : Int32) (hb_v_tape_size : 0 ≤ v_tape_size.toInt ∧ v_tape_size.toInt ≤ 220) (hr_bytes : rg (0) 255 f_bytes) : gMi l yX9_feed cX9_feed 6 .int 2 [.ref (hs 0), .int a1, .int a2, .int a3, .int a4, .int a5] D cy (wSP cy hs hH hT sH sT v_tape_size v_band_walkers v_band_loads v_band_pieces v_rules_clauses v_reader_end v_reader_at v_reader_length v_reader_letter v_reader_fault v_draft_clauses v_paces_version v_packing_quicker v_packing_loads v_packing_looseCount v_marches_told v_marches_changeMinutes v_marches_marching v_marches_gone v_search_known v_search_countHere v_search_countThere v_search_cost v_search_most v_search_found f_bytes f_knee f_weight f_limps f_bheft f_owner f_food f_miles f_slope f_rsteps f_rkind f_ryields f_rholds f_rletters f_rstack f_dsteps f_dkind f_dyields f_dholds f_dletters f_dstack f_caps f_versions f_sharing f_pheft f_prow f_holder f_comes f_pcaps f_room f_loose f_reached f_mrow f_minutesOn f_mtired f_here f_there f_statesHere f_statesThere f_listed f_stired f_burdens f_pacesOn f_restedOn f_behindOn f_behindFor f_first f_second f_plans f_tiredOn) (NS tS) sz (fun (r : Int32) (u : Int32 × (Nat → Int32)) => ((r.toInt = v_tape_size.toInt + 20 ∧ v_tape_size.toInt ≤ 200 ∧ (u.1).toInt = v_tape_size.toInt + 20) ∨ (r.toInt = -1 ∧ 200 < v_tape_size.toInt ∧ (u.1).toInt = v_tape_size.toInt)) ∧ (0 ≤ (u.1).toInt ∧ (u.1).toInt ≤ 220) ∧ (rg (0) 255 (u.2))) (fun u => wSP cy hs hH hT sH sT (u.1) v_band_walkers v_band_loads v_band_pieces v_rules_clauses v_reader_end v_reader_at v_reader_length v_reader_letter v_reader_fault v_draft_clauses v_paces_version v_packing_quicker v_packing_loads v_packing_looseCount v_marches_told v_marches_changeMinutes v_marches_marching v_marches_gone v_search_known v_search_countHere v_search_countThere v_search_cost v_search_most v_search_found (u.2) f_knee f_weight f_limps f_bheft f_owner f_food f_miles f_slope f_rsteps f_rkind f_ryields f_rholds f_rletters f_rstack f_dsteps f_dkind f_dyields f_dholds f_dletters f_dstack f_caps f_versions f_sharing f_pheft f_prow f_holder f_comes f_pcaps f_room f_loose f_reached f_mrow f_minutesOn f_mtired f_here f_there f_statesHere f_statesThere f_listed f_stired f_burdens f_pacesOn f_restedOn f_behindOn f_behindFor f_first f_second f_plans f_tiredOn) := by
  refine gMi_in (by decide) (Nat.le_of_ble_eq_true rfl) ?_
  intro p e s m args below meth c A ls Q hx hb hml hts hown hsz hP hK hD hN hAe hA hS hl hret
  subst hsz
  have hl : lv_has ls 6 [(0, .ref (hs 0)), (1, .int a1), (2, .int a2), (3, .int a3), (4, .int a4), (5, .int a5)] := hl
  have hrt := fun (r : Int32) (v_tape_size' : Int32) (f_bytes' : Nat → Int32) (hp : ((r.toInt = v_tape_size.toInt + 20 ∧ v_tape_size.toInt ≤ 200 ∧ v_tape_size'.toInt = v_tape_size.toInt + 20) ∨ (r.toInt = -1 ∧ 200 < v_tape_size.toInt ∧ v_tape_size'.toInt = v_tape_size.toInt)) ∧ (0 ≤ v_tape_size'.toInt ∧ v_tape_size'.toInt ≤ 220) ∧ (rg (0) 255 f_bytes')) {H : Heap} {locs : List Loc} {pc : Nat} {ls : Array Slot} => hret r (v_tape_size', f_bytes') (H := H) (locs := locs) (pc := pc) (ls := ls) hp
  clear hret
  refine lv_aload_n hx hb dX9_feed_0 rfl (lv_at hl 0 rfl) ?_
  refine gt_SP_SP_tape hx hb hts hown hK hP lwd_15 dX9_feed_1 ?_
  refine gt_SP_tape_size hx hb hts hown hK hP lwd_288 dX9_feed_4 ?_
  refine lv_bipush (v := 20) hx hb dX9_feed_7 (by decide) ?_
  refine lv_iadd hx hb dX9_feed_9 ?_
  refine lv_topi (fun n_1 en_1 => ?_)
  have tn_1 : n_1.toInt = v_tape_size.toInt + 20 := i_add en_1 (rfl : v_tape_size.toInt = v_tape_size.toInt) (by decide : (20 : Int32).toInt = 20) (by omega) (by omega)
  refine lv_sipush (v := 220) hx hb dX9_feed_10 (by decide) ?_
  refine lv_icmp_le (tgt := 18) hx hb dX9_feed_13 (by decide) (fun c_2 => ?_) (fun c_2 => ?_)
  · have gc_2 : v_tape_size.toInt + 20 ≤ 220 := i_le tn_1 (by decide : (220 : Int32).toInt = 220) c_2
    refine lv_aload_n hx hb dX9_feed_18 rfl (lv_at hl 0 rfl) ?_
    refine gt_SP_SP_tape hx hb hts hown hK hP lwd_15 dX9_feed_19 ?_
    refine lv_iload_n hx hb dX9_feed_22 rfl (lv_at hl 1 rfl) ?_
    refine xv hD hS hA (xV (As := [.int a1]) (rest := []) hx hb hml hown hts hK hP hD hS hA NS_ok hN hAe hl.1 ⟨Nat.le_refl _, Nat.le_refl _⟩ 1 rfl rfl rfl (c_X8_append l D cy hs hH hT sH sT v_tape_size v_band_walkers v_band_loads v_band_pieces v_rules_clauses v_reader_end v_reader_at v_reader_length v_reader_letter v_reader_fault v_draft_clauses v_paces_version v_packing_quicker v_packing_loads v_packing_looseCount v_marches_told v_marches_changeMinutes v_marches_marching v_marches_gone v_search_known v_search_countHere v_search_countThere v_search_cost v_search_most v_search_found f_bytes f_knee f_weight f_limps f_bheft f_owner f_food f_miles f_slope f_rsteps f_rkind f_ryields f_rholds f_rletters f_rstack f_dsteps f_dkind f_dyields f_dholds f_dletters f_dstack f_caps f_versions f_sharing f_pheft f_prow f_holder f_comes f_pcaps f_room f_loose f_reached f_mrow f_minutesOn f_mtired f_here f_there f_statesHere f_statesThere f_listed f_stired f_burdens f_pacesOn f_restedOn f_behindOn f_behindFor f_first f_second f_plans f_tiredOn tS s.heap.size a1 (by omega) hr_bytes (by omega)) (gi_V lwd_289 lwd_290 lwd_291 lwd_14 lwd_292) ⟨rfl, hd_X8_append⟩ ⟨Nat.le_of_ble_eq_true rfl, Nat.le_of_ble_eq_true rfl⟩ rfl (Nat.le_of_ble_eq_true rfl) dX9_feed_23) (fun u_3 H locs hw hP hD hS => ?_)
    obtain ⟨ztape_size_5, zbytes_6⟩ := u_3
    try dsimp only at hw hP hD
    obtain ⟨p_7, p_8, p_9⟩ := hw
    refine lv_aload_n hx hb dX9_feed_26 rfl (lv_at hl 0 rfl) ?_
    refine gt_SP_SP_tape hx hb hts hown hK hP lwd_15 dX9_feed_27 ?_
    refine lv_iload_n hx hb dX9_feed_30 rfl (lv_at hl 2 rfl) ?_
    refine xv hD hS hA (xV (As := [.int a2]) (rest := []) hx hb hml hown hts hK hP hD hS hA NS_ok hN hAe hl.1 ⟨Nat.le_refl _, Nat.le_refl _⟩ 1 rfl rfl rfl (c_X8_append l D cy hs hH hT sH sT ztape_size_5 v_band_walkers v_band_loads v_band_pieces v_rules_clauses v_reader_end v_reader_at v_reader_length v_reader_letter v_reader_fault v_draft_clauses v_paces_version v_packing_quicker v_packing_loads v_packing_looseCount v_marches_told v_marches_changeMinutes v_marches_marching v_marches_gone v_search_known v_search_countHere v_search_countThere v_search_cost v_search_most v_search_found zbytes_6 f_knee f_weight f_limps f_bheft f_owner f_food f_miles f_slope f_rsteps f_rkind f_ryields f_rholds f_rletters f_rstack f_dsteps f_dkind f_dyields f_dholds f_dletters f_dstack f_caps f_versions f_sharing f_pheft f_prow f_holder f_comes f_pcaps f_room f_loose f_reached f_mrow f_minutesOn f_mtired f_here f_there f_statesHere f_statesThere f_listed f_stired f_burdens f_pacesOn f_restedOn f_behindOn f_behindFor f_first f_second f_plans f_tiredOn tS H.size a2 (by omega) p_9 (by omega)) (gi_V lwd_289 lwd_290 lwd_291 lwd_14 lwd_292) ⟨rfl, hd_X8_append⟩ ⟨Nat.le_of_ble_eq_true rfl, Nat.le_of_ble_eq_true rfl⟩ rfl (Nat.le_of_ble_eq_true rfl) dX9_feed_31) (fun u_10 H locs hw hP hD hS => ?_)
    obtain ⟨ztape_size_12, zbytes_13⟩ := u_10
    try dsimp only at hw hP hD
    obtain ⟨p_14, p_15, p_16⟩ := hw
    refine lv_aload_n hx hb dX9_feed_34 rfl (lv_at hl 0 rfl) ?_
    refine gt_SP_SP_tape hx hb hts hown hK hP lwd_15 dX9_feed_35 ?_
    refine lv_iload_n hx hb dX9_feed_38 rfl (lv_at hl 3 rfl) ?_
    refine xv hD hS hA (xV (As := [.int a3]) (rest := []) hx hb hml hown hts hK hP hD hS hA NS_ok hN hAe hl.1 ⟨Nat.le_refl _, Nat.le_refl _⟩ 1 rfl rfl rfl (c_X8_append l D cy hs hH hT sH sT ztape_size_12 v_band_walkers v_band_loads v_band_pieces v_rules_clauses v_reader_end v_reader_at v_reader_length v_reader_letter v_reader_fault v_draft_clauses v_paces_version v_packing_quicker v_packing_loads v_packing_looseCount v_marches_told v_marches_changeMinutes v_marches_marching v_marches_gone v_search_known v_search_countHere v_search_countThere v_search_cost v_search_most v_search_found zbytes_13 f_knee f_weight f_limps f_bheft f_owner f_food f_miles f_slope f_rsteps f_rkind f_ryields f_rholds f_rletters f_rstack f_dsteps f_dkind f_dyields f_dholds f_dletters f_dstack f_caps f_versions f_sharing f_pheft f_prow f_holder f_comes f_pcaps f_room f_loose f_reached f_mrow f_minutesOn f_mtired f_here f_there f_statesHere f_statesThere f_listed f_stired f_burdens f_pacesOn f_restedOn f_behindOn f_behindFor f_first f_second f_plans f_tiredOn tS H.size a3 (by omega) p_16 (by omega)) (gi_V lwd_289 lwd_290 lwd_291 lwd_14 lwd_292) ⟨rfl, hd_X8_append⟩ ⟨Nat.le_of_ble_eq_true rfl, Nat.le_of_ble_eq_true rfl⟩ rfl (Nat.le_of_ble_eq_true rfl) dX9_feed_39) (fun u_17 H locs hw hP hD hS => ?_)
    obtain ⟨ztape_size_19, zbytes_20⟩ := u_17
    try dsimp only at hw hP hD
    obtain ⟨p_21, p_22, p_23⟩ := hw
    refine lv_aload_n hx hb dX9_feed_42 rfl (lv_at hl 0 rfl) ?_
    refine gt_SP_SP_tape hx hb hts hown hK hP lwd_15 dX9_feed_43 ?_
    refine lv_iload hx hb dX9_feed_46 (lv_at hl 4 rfl) ?_
    refine xv hD hS hA (xV (As := [.int a4]) (rest := []) hx hb hml hown hts hK hP hD hS hA NS_ok hN hAe hl.1 ⟨Nat.le_refl _, Nat.le_refl _⟩ 1 rfl rfl rfl (c_X8_append l D cy hs hH hT sH sT ztape_size_19 v_band_walkers v_band_loads v_band_pieces v_rules_clauses v_reader_end v_reader_at v_reader_length v_reader_letter v_reader_fault v_draft_clauses v_paces_version v_packing_quicker v_packing_loads v_packing_looseCount v_marches_told v_marches_changeMinutes v_marches_marching v_marches_gone v_search_known v_search_countHere v_search_countThere v_search_cost v_search_most v_search_found zbytes_20 f_knee f_weight f_limps f_bheft f_owner f_food f_miles f_slope f_rsteps f_rkind f_ryields f_rholds f_rletters f_rstack f_dsteps f_dkind f_dyields f_dholds f_dletters f_dstack f_caps f_versions f_sharing f_pheft f_prow f_holder f_comes f_pcaps f_room f_loose f_reached f_mrow f_minutesOn f_mtired f_here f_there f_statesHere f_statesThere f_listed f_stired f_burdens f_pacesOn f_restedOn f_behindOn f_behindFor f_first f_second f_plans f_tiredOn tS H.size a4 (by omega) p_23 (by omega)) (gi_V lwd_289 lwd_290 lwd_291 lwd_14 lwd_292) ⟨rfl, hd_X8_append⟩ ⟨Nat.le_of_ble_eq_true rfl, Nat.le_of_ble_eq_true rfl⟩ rfl (Nat.le_of_ble_eq_true rfl) dX9_feed_48) (fun u_24 H locs hw hP hD hS => ?_)
    obtain ⟨ztape_size_26, zbytes_27⟩ := u_24
    try dsimp only at hw hP hD
    obtain ⟨p_28, p_29, p_30⟩ := hw
    refine lv_aload_n hx hb dX9_feed_51 rfl (lv_at hl 0 rfl) ?_
    refine gt_SP_SP_tape hx hb hts hown hK hP lwd_15 dX9_feed_52 ?_
    refine lv_iload hx hb dX9_feed_55 (lv_at hl 5 rfl) ?_
    refine xv hD hS hA (xV (As := [.int a5]) (rest := []) hx hb hml hown hts hK hP hD hS hA NS_ok hN hAe hl.1 ⟨Nat.le_refl _, Nat.le_refl _⟩ 1 rfl rfl rfl (c_X8_append l D cy hs hH hT sH sT ztape_size_26 v_band_walkers v_band_loads v_band_pieces v_rules_clauses v_reader_end v_reader_at v_reader_length v_reader_letter v_reader_fault v_draft_clauses v_paces_version v_packing_quicker v_packing_loads v_packing_looseCount v_marches_told v_marches_changeMinutes v_marches_marching v_marches_gone v_search_known v_search_countHere v_search_countThere v_search_cost v_search_most v_search_found zbytes_27 f_knee f_weight f_limps f_bheft f_owner f_food f_miles f_slope f_rsteps f_rkind f_ryields f_rholds f_rletters f_rstack f_dsteps f_dkind f_dyields f_dholds f_dletters f_dstack f_caps f_versions f_sharing f_pheft f_prow f_holder f_comes f_pcaps f_room f_loose f_reached f_mrow f_minutesOn f_mtired f_here f_there f_statesHere f_statesThere f_listed f_stired f_burdens f_pacesOn f_restedOn f_behindOn f_behindFor f_first f_second f_plans f_tiredOn tS H.size a5 (by omega) p_30 (by omega)) (gi_V lwd_289 lwd_290 lwd_291 lwd_14 lwd_292) ⟨rfl, hd_X8_append⟩ ⟨Nat.le_of_ble_eq_true rfl, Nat.le_of_ble_eq_true rfl⟩ rfl (Nat.le_of_ble_eq_true rfl) dX9_feed_57) (fun u_31 H locs hw hP hD hS => ?_)
    obtain ⟨ztape_size_33, zbytes_34⟩ := u_31
    try dsimp only at hw hP hD
    obtain ⟨p_35, p_36, p_37⟩ := hw
    refine lv_aload_n hx hb dX9_feed_60 rfl (lv_at hl 0 rfl) ?_
    refine gt_SP_SP_tape hx hb hts hown hK hP lwd_15 dX9_feed_61 ?_
    refine gt_SP_tape_size hx hb hts hown hK hP lwd_288 dX9_feed_64 ?_
    exact hrt ztape_size_33 ztape_size_33 zbytes_34 ⟨(by omega), (by omega), p_37⟩ hP hD hS rfl dX9_feed_67
  · have gc_2 : 220 < v_tape_size.toInt + 20 := i_nle tn_1 (by decide : (220 : Int32).toInt = 220) c_2
    refine lv_iconst (v := (-1)) hx hb dX9_feed_16 (by decide) ?_
    have k_38 : ((-1) : Int32).toInt = (-1) := by decide
    exact hrt (-1) v_tape_size f_bytes ⟨(by omega), (by omega), hr_bytes⟩ hP hD hS rfl dX9_feed_17
set_option maxHeartbeats 16000000 in
set_option maxRecDepth 100000 in
theorem c_X9_text (l : Launch) (D : va_G) (cy : Nat → ClassId) (hs : Nat → Nat) (hH hT sH sT : Nat) (v_tape_size v_band_walkers v_band_loads v_band_pieces v_rules_clauses v_reader_end v_reader_at v_reader_length v_reader_letter v_reader_fault v_draft_clauses v_paces_version v_packing_quicker v_packing_loads v_packing_looseCount v_marches_told v_marches_changeMinutes v_marches_marching v_marches_gone v_search_known v_search_countHere v_search_countThere v_search_cost v_search_most : Int32) (v_search_found : Int64) (f_bytes f_knee f_weight f_limps f_bheft f_owner f_food f_miles f_slope f_rsteps f_rkind f_ryields f_rholds f_rletters f_rstack f_dsteps f_dkind f_dyields f_dholds f_dletters f_dstack f_caps f_versions f_sharing f_pheft f_prow f_holder f_comes f_pcaps f_room f_loose f_reached f_mrow f_minutesOn f_mtired : Nat → Int32) (f_here f_there : Nat → Int64) (f_statesHere f_statesThere f_listed f_stired f_burdens f_pacesOn f_restedOn f_behindOn f_behindFor f_first f_second : Nat → Int32) (f_plans f_tiredOn : Nat → Nat → Int32) (tS : Nat) (sz : Nat) (n1 : Int32) (hb_v_tape_size : 0 ≤ v_tape_size.toInt ∧ v_tape_size.toInt ≤ 220) (hb_v_rules_clauses : 0 ≤ v_rules_clauses.toInt ∧ v_rules_clauses.toInt ≤ 14) (hb_v_reader_at : 0 ≤ v_reader_at.toInt ∧ v_reader_at.toInt ≤ 220) (hb_v_reader_length : 0 ≤ v_reader_length.toInt ∧ v_reader_length.toInt ≤ 256) (hb_v_draft_clauses : 0 ≤ v_draft_clauses.toInt ∧ v_draft_clauses.toInt ≤ 14) (hb_v_search_known : 0 ≤ v_search_known.toInt ∧ v_search_known.toInt ≤ 1) (hr_bytes : rg (0) 255 f_bytes) : gMi l yX9_text cX9_text 3 .int 29 [.ref (hs 0), .int n1] D cy (wSP cy hs hH hT sH sT v_tape_size v_band_walkers v_band_loads v_band_pieces v_rules_clauses v_reader_end v_reader_at v_reader_length v_reader_letter v_reader_fault v_draft_clauses v_paces_version v_packing_quicker v_packing_loads v_packing_looseCount v_marches_told v_marches_changeMinutes v_marches_marching v_marches_gone v_search_known v_search_countHere v_search_countThere v_search_cost v_search_most v_search_found f_bytes f_knee f_weight f_limps f_bheft f_owner f_food f_miles f_slope f_rsteps f_rkind f_ryields f_rholds f_rletters f_rstack f_dsteps f_dkind f_dyields f_dholds f_dletters f_dstack f_caps f_versions f_sharing f_pheft f_prow f_holder f_comes f_pcaps f_room f_loose f_reached f_mrow f_minutesOn f_mtired f_here f_there f_statesHere f_statesThere f_listed f_stired f_burdens f_pacesOn f_restedOn f_behindOn f_behindFor f_first f_second f_plans f_tiredOn) (NS tS) sz (fun (r : Int32) (u : Int32 × Int32 × Int32 × Int32 × Int32 × Int32 × Int32 × Int32 × Int32 × Int32 × (Nat → Int32) × (Nat → Int32) × (Nat → Int32) × (Nat → Int32) × (Nat → Int32) × (Nat → Int32) × (Nat → Int32) × (Nat → Int32)) => (0 ≤ (u.1).toInt ∧ (u.1).toInt ≤ 220) ∧ (0 ≤ (u.2.1).toInt ∧ (u.2.1).toInt ≤ 14) ∧ (0 ≤ (u.2.2.2.1).toInt ∧ (u.2.2.2.1).toInt ≤ 220) ∧ (0 ≤ (u.2.2.2.2.1).toInt ∧ (u.2.2.2.2.1).toInt ≤ 256) ∧ (0 ≤ (u.2.2.2.2.2.2.2.1).toInt ∧ (u.2.2.2.2.2.2.2.1).toInt ≤ 14) ∧ (0 ≤ (u.2.2.2.2.2.2.2.2.2.1).toInt ∧ (u.2.2.2.2.2.2.2.2.2.1).toInt ≤ 1)) (fun u => wSP cy hs hH hT sH sT (u.1) v_band_walkers v_band_loads v_band_pieces (u.2.1) (u.2.2.1) (u.2.2.2.1) (u.2.2.2.2.1) (u.2.2.2.2.2.1) (u.2.2.2.2.2.2.1) (u.2.2.2.2.2.2.2.1) (u.2.2.2.2.2.2.2.2.1) v_packing_quicker v_packing_loads v_packing_looseCount v_marches_told v_marches_changeMinutes v_marches_marching v_marches_gone (u.2.2.2.2.2.2.2.2.2.1) v_search_countHere v_search_countThere v_search_cost v_search_most v_search_found f_bytes f_knee f_weight f_limps f_bheft f_owner f_food f_miles f_slope (u.2.2.2.2.2.2.2.2.2.2.1) (u.2.2.2.2.2.2.2.2.2.2.2.1) (u.2.2.2.2.2.2.2.2.2.2.2.2.1) (u.2.2.2.2.2.2.2.2.2.2.2.2.2.1) f_rletters f_rstack (u.2.2.2.2.2.2.2.2.2.2.2.2.2.2.1) (u.2.2.2.2.2.2.2.2.2.2.2.2.2.2.2.1) (u.2.2.2.2.2.2.2.2.2.2.2.2.2.2.2.2.1) (u.2.2.2.2.2.2.2.2.2.2.2.2.2.2.2.2.2) f_dletters f_dstack f_caps f_versions f_sharing f_pheft f_prow f_holder f_comes f_pcaps f_room f_loose f_reached f_mrow f_minutesOn f_mtired f_here f_there f_statesHere f_statesThere f_listed f_stired f_burdens f_pacesOn f_restedOn f_behindOn f_behindFor f_first f_second f_plans f_tiredOn) := by
  refine gMi_in (by decide) (Nat.le_of_ble_eq_true rfl) ?_
  intro p e s m args below meth c A ls Q hx hb hml hts hown hsz hP hK hD hN hAe hA hS hl hret
  subst hsz
  have hl : lv_has ls 3 [(0, .ref (hs 0)), (1, .int n1)] := hl
  have hrt := fun (r : Int32) (v_tape_size' : Int32) (v_rules_clauses' : Int32) (v_reader_end' : Int32) (v_reader_at' : Int32) (v_reader_length' : Int32) (v_reader_letter' : Int32) (v_reader_fault' : Int32) (v_draft_clauses' : Int32) (v_paces_version' : Int32) (v_search_known' : Int32) (f_rsteps' : Nat → Int32) (f_rkind' : Nat → Int32) (f_ryields' : Nat → Int32) (f_rholds' : Nat → Int32) (f_dsteps' : Nat → Int32) (f_dkind' : Nat → Int32) (f_dyields' : Nat → Int32) (f_dholds' : Nat → Int32) (hp : (0 ≤ v_tape_size'.toInt ∧ v_tape_size'.toInt ≤ 220) ∧ (0 ≤ v_rules_clauses'.toInt ∧ v_rules_clauses'.toInt ≤ 14) ∧ (0 ≤ v_reader_at'.toInt ∧ v_reader_at'.toInt ≤ 220) ∧ (0 ≤ v_reader_length'.toInt ∧ v_reader_length'.toInt ≤ 256) ∧ (0 ≤ v_draft_clauses'.toInt ∧ v_draft_clauses'.toInt ≤ 14) ∧ (0 ≤ v_search_known'.toInt ∧ v_search_known'.toInt ≤ 1)) {H : Heap} {locs : List Loc} {pc : Nat} {ls : Array Slot} => hret r (v_tape_size', v_rules_clauses', v_reader_end', v_reader_at', v_reader_length', v_reader_letter', v_reader_fault', v_draft_clauses', v_paces_version', v_search_known', f_rsteps', f_rkind', f_ryields', f_rholds', f_dsteps', f_dkind', f_dyields', f_dholds') (H := H) (locs := locs) (pc := pc) (ls := ls) hp
  clear hret
  refine lv_iload_n hx hb dX9_text_0 rfl (lv_at hl 1 rfl) ?_
  refine lv_iconst (v := 1) hx hb dX9_text_1 (by decide) ?_
  refine lv_icmp_lt (tgt := 23) hx hb dX9_text_2 (by decide) (fun c_1 => ?_) (fun c_1 => ?_)
  · have gc_1 : n1.toInt < 1 := i_lt (rfl : n1.toInt = n1.toInt) (by decide : (1 : Int32).toInt = 1) c_1
    refine lv_iconst (v := (-1)) hx hb dX9_text_23 (by decide) ?_
    have k_2 : ((-1) : Int32).toInt = (-1) := by decide
    exact hrt (-1) v_tape_size v_rules_clauses v_reader_end v_reader_at v_reader_length v_reader_letter v_reader_fault v_draft_clauses v_paces_version v_search_known f_rsteps f_rkind f_ryields f_rholds f_dsteps f_dkind f_dyields f_dholds ⟨(by omega), (by omega), (by omega), (by omega), (by omega), (by omega)⟩ hP hD hS rfl dX9_text_24
  · have gc_1 : 1 ≤ n1.toInt := i_nlt (rfl : n1.toInt = n1.toInt) (by decide : (1 : Int32).toInt = 1) c_1
    refine lv_iload_n hx hb dX9_text_5 rfl (lv_at hl 1 rfl) ?_
    refine lv_sipush (v := 200) hx hb dX9_text_6 (by decide) ?_
    refine lv_icmp_gt (tgt := 23) hx hb dX9_text_9 (by decide) (fun c_3 => ?_) (fun c_3 => ?_)
    · have gc_3 : 200 < n1.toInt := i_lt (by decide : (200 : Int32).toInt = 200) (rfl : n1.toInt = n1.toInt) c_3
      refine lv_iconst (v := (-1)) hx hb dX9_text_23 (by decide) ?_
      have k_4 : ((-1) : Int32).toInt = (-1) := by decide
      exact hrt (-1) v_tape_size v_rules_clauses v_reader_end v_reader_at v_reader_length v_reader_letter v_reader_fault v_draft_clauses v_paces_version v_search_known f_rsteps f_rkind f_ryields f_rholds f_dsteps f_dkind f_dyields f_dholds ⟨(by omega), (by omega), (by omega), (by omega), (by omega), (by omega)⟩ hP hD hS rfl dX9_text_24
    · have gc_3 : n1.toInt ≤ 200 := i_nlt (by decide : (200 : Int32).toInt = 200) (rfl : n1.toInt = n1.toInt) c_3
      refine lv_iload_n hx hb dX9_text_12 rfl (lv_at hl 1 rfl) ?_
      refine lv_aload_n hx hb dX9_text_13 rfl (lv_at hl 0 rfl) ?_
      refine gt_SP_SP_tape hx hb hts hown hK hP lwd_15 dX9_text_14 ?_
      refine gt_SP_tape_size hx hb hts hown hK hP lwd_288 dX9_text_17 ?_
      refine lv_icmp_le (tgt := 25) hx hb dX9_text_20 (by decide) (fun c_5 => ?_) (fun c_5 => ?_)
      · have gc_5 : n1.toInt ≤ v_tape_size.toInt := i_le (rfl : n1.toInt = n1.toInt) (rfl : v_tape_size.toInt = v_tape_size.toInt) c_5
        refine lv_aload_n hx hb dX9_text_25 rfl (lv_at hl 0 rfl) ?_
        refine gt_SP_SP_reader hx hb hts hown hK hP lwd_27 dX9_text_26 ?_
        refine lv_iload_n hx hb dX9_text_29 rfl (lv_at hl 1 rfl) ?_
        refine xi hD hS hA (xV (As := [.int n1]) (rest := []) hx hb hml hown hts hK hP hD hS hA NS_ok hN hAe hl.1 ⟨Nat.le_refl _, Nat.le_refl _⟩ 19 rfl rfl rfl (c_X5_read l D cy hs hH hT sH sT v_tape_size v_band_walkers v_band_loads v_band_pieces v_rules_clauses v_reader_end v_reader_at v_reader_length v_reader_letter v_reader_fault v_draft_clauses v_paces_version v_packing_quicker v_packing_loads v_packing_looseCount v_marches_told v_marches_changeMinutes v_marches_marching v_marches_gone v_search_known v_search_countHere v_search_countThere v_search_cost v_search_most v_search_found f_bytes f_knee f_weight f_limps f_bheft f_owner f_food f_miles f_slope f_rsteps f_rkind f_ryields f_rholds f_rletters f_rstack f_dsteps f_dkind f_dyields f_dholds f_dletters f_dstack f_caps f_versions f_sharing f_pheft f_prow f_holder f_comes f_pcaps f_room f_loose f_reached f_mrow f_minutesOn f_mtired f_here f_there f_statesHere f_statesThere f_listed f_stired f_burdens f_pacesOn f_restedOn f_behindOn f_behindFor f_first f_second f_plans f_tiredOn tS s.heap.size n1 (by omega) (by omega) (by omega) hr_bytes) (gi_V lwd_309 lwd_310 lwd_311 lwd_26 lwd_312) ⟨rfl, hd_X5_read⟩ ⟨Nat.le_of_ble_eq_true rfl, Nat.le_of_ble_eq_true rfl⟩ rfl (Nat.le_of_ble_eq_true rfl) dX9_text_30) (fun r_7 u_6 H locs hw hP hD hS => ?_)
        obtain ⟨zreader_end_8, zreader_at_9, zreader_length_10, zreader_letter_11, zreader_fault_12, zdraft_clauses_13, zdsteps_14, zdkind_15, zdyields_16, zdholds_17⟩ := u_6
        try dsimp only at hw hP hD
        obtain ⟨p_18, p_19, p_20⟩ := hw
        refine lv_istore_n (lv' := [(2, .int r_7), (0, .ref (hs 0)), (1, .int n1)]) hx hb dX9_text_33 rfl hl (by decide) rfl (fun ls hl => ?_)
        refine lv_aload_n hx hb dX9_text_34 rfl (lv_at hl 1 rfl) ?_
        refine gt_SP_SP_tape hx hb hts hown hK hP lwd_15 dX9_text_35 ?_
        refine lv_iconst (v := 0) hx hb dX9_text_38 (by decide) ?_
        refine pt_SP_tape_size (x := 0) hx hb hts hown hK hP hD hS lwd_288 dX9_text_39 (fun H locs hP hD hS => ?_)
        refine lv_iload_n hx hb dX9_text_42 rfl (lv_at hl 0 rfl) ?_
        refine lv_if_eq (tgt := 48) hx hb dX9_text_43 (by decide) (fun c_21 => ?_) (fun c_21 => ?_)
        · have gc_21 : r_7.toInt = 0 := i_eq (rfl : r_7.toInt = r_7.toInt) (by decide : (0 : Int32).toInt = 0) c_21
          refine lv_aload_n hx hb dX9_text_48 rfl (lv_at hl 1 rfl) ?_
          refine gt_SP_SP_rules hx hb hts hown hK hP lwd_23 dX9_text_49 ?_
          refine lv_aload_n hx hb dX9_text_52 rfl (lv_at hl 1 rfl) ?_
          refine gt_SP_SP_reader hx hb hts hown hK hP lwd_27 dX9_text_53 ?_
          refine gt_SP_reader_draft hx hb hts hown hK hP lwd_307 dX9_text_56 ?_
          refine xv hD hS hA (xV (As := [.ref (hs 20)]) (rest := []) hx hb hml hown hts hK hP hD hS hA NS_ok hN hAe hl.1 ⟨Nat.le_refl _, Nat.le_refl _⟩ 12 rfl rfl rfl (c_X6_take l D cy hs hH hT sH sT 0 v_band_walkers v_band_loads v_band_pieces v_rules_clauses zreader_end_8 zreader_at_9 zreader_length_10 zreader_letter_11 zreader_fault_12 zdraft_clauses_13 v_paces_version v_packing_quicker v_packing_loads v_packing_looseCount v_marches_told v_marches_changeMinutes v_marches_marching v_marches_gone v_search_known v_search_countHere v_search_countThere v_search_cost v_search_most v_search_found f_bytes f_knee f_weight f_limps f_bheft f_owner f_food f_miles f_slope f_rsteps f_rkind f_ryields f_rholds f_rletters f_rstack zdsteps_14 zdkind_15 zdyields_16 zdholds_17 f_dletters f_dstack f_caps f_versions f_sharing f_pheft f_prow f_holder f_comes f_pcaps f_room f_loose f_reached f_mrow f_minutesOn f_mtired f_here f_there f_statesHere f_statesThere f_listed f_stired f_burdens f_pacesOn f_restedOn f_behindOn f_behindFor f_first f_second f_plans f_tiredOn tS H.size (by omega) (by omega)) (gi_V lwd_386 lwd_387 lwd_388 lwd_22 lwd_389) ⟨rfl, hd_X6_take⟩ ⟨Nat.le_of_ble_eq_true rfl, Nat.le_of_ble_eq_true rfl⟩ rfl (Nat.le_of_ble_eq_true rfl) dX9_text_59) (fun u_22 H locs hw hP hD hS => ?_)
          obtain ⟨zrules_clauses_24, zrsteps_25, zrkind_26, zryields_27, zrholds_28⟩ := u_22
          try dsimp only at hw hP hD
          have p_29 := hw
          clear hw
          refine lv_aload_n hx hb dX9_text_62 rfl (lv_at hl 1 rfl) ?_
          refine xv hD hS hA (xV (As := []) (rest := []) hx hb hml hown hts hK hP hD hS hA NS_ok hN hAe hl.1 ⟨Nat.le_refl _, Nat.le_refl _⟩ 0 rfl rfl rfl (c_X9_forget l D cy hs hH hT sH sT 0 v_band_walkers v_band_loads v_band_pieces zrules_clauses_24 zreader_end_8 zreader_at_9 zreader_length_10 zreader_letter_11 zreader_fault_12 zdraft_clauses_13 v_paces_version v_packing_quicker v_packing_loads v_packing_looseCount v_marches_told v_marches_changeMinutes v_marches_marching v_marches_gone v_search_known v_search_countHere v_search_countThere v_search_cost v_search_most v_search_found f_bytes f_knee f_weight f_limps f_bheft f_owner f_food f_miles f_slope zrsteps_25 zrkind_26 zryields_27 zrholds_28 f_rletters f_rstack zdsteps_14 zdkind_15 zdyields_16 zdholds_17 f_dletters f_dstack f_caps f_versions f_sharing f_pheft f_prow f_holder f_comes f_pcaps f_room f_loose f_reached f_mrow f_minutesOn f_mtired f_here f_there f_statesHere f_statesThere f_listed f_stired f_burdens f_pacesOn f_restedOn f_behindOn f_behindFor f_first f_second f_plans f_tiredOn tS H.size (by omega)) (gi_V lwd_211 lwd_212 lwd_213 lwd_2 lwd_214) ⟨rfl, hd_X9_forget⟩ ⟨Nat.le_of_ble_eq_true rfl, Nat.le_of_ble_eq_true rfl⟩ rfl (Nat.le_of_ble_eq_true rfl) dX9_text_63) (fun u_30 H locs hw hP hD hS => ?_)
          obtain ⟨zpaces_version_32, zsearch_known_33⟩ := u_30
          try dsimp only at hw hP hD
          have p_34 := hw
          clear hw
          refine lv_aload_n hx hb dX9_text_66 rfl (lv_at hl 1 rfl) ?_
          refine gt_SP_SP_rules hx hb hts hown hK hP lwd_23 dX9_text_67 ?_
          refine gt_SP_rules_clauses hx hb hts hown hK hP lwd_308 dX9_text_70 ?_
          have k_35 : (0 : Int32).toInt = 0 := by decide
          exact hrt zrules_clauses_24 0 zrules_clauses_24 zreader_end_8 zreader_at_9 zreader_length_10 zreader_letter_11 zreader_fault_12 zdraft_clauses_13 zpaces_version_32 zsearch_known_33 zrsteps_25 zrkind_26 zryields_27 zrholds_28 zdsteps_14 zdkind_15 zdyields_16 zdholds_17 ⟨(by omega), (by omega), (by omega), (by omega), (by omega), (by omega)⟩ hP hD hS rfl dX9_text_73
        · have gc_21 : r_7.toInt ≠ 0 := i_ne (rfl : r_7.toInt = r_7.toInt) (by decide : (0 : Int32).toInt = 0) c_21
          refine lv_iload_n hx hb dX9_text_46 rfl (lv_at hl 0 rfl) ?_
          have k_36 : (0 : Int32).toInt = 0 := by decide
          exact hrt r_7 0 v_rules_clauses zreader_end_8 zreader_at_9 zreader_length_10 zreader_letter_11 zreader_fault_12 zdraft_clauses_13 v_paces_version v_search_known f_rsteps f_rkind f_ryields f_rholds zdsteps_14 zdkind_15 zdyields_16 zdholds_17 ⟨(by omega), (by omega), (by omega), (by omega), (by omega), (by omega)⟩ hP hD hS rfl dX9_text_47
      · have gc_5 : v_tape_size.toInt < n1.toInt := i_nle (rfl : n1.toInt = n1.toInt) (rfl : v_tape_size.toInt = v_tape_size.toInt) c_5
        refine lv_iconst (v := (-1)) hx hb dX9_text_23 (by decide) ?_
        have k_37 : ((-1) : Int32).toInt = (-1) := by decide
        exact hrt (-1) v_tape_size v_rules_clauses v_reader_end v_reader_at v_reader_length v_reader_letter v_reader_fault v_draft_clauses v_paces_version v_search_known f_rsteps f_rkind f_ryields f_rholds f_dsteps f_dkind f_dyields f_dholds ⟨(by omega), (by omega), (by omega), (by omega), (by omega), (by omega)⟩ hP hD hS rfl dX9_text_24
set_option maxHeartbeats 16000000 in
set_option maxRecDepth 100000 in
theorem c_X9_pace (l : Launch) (D : va_G) (cy : Nat → ClassId) (hs : Nat → Nat) (hH hT sH sT : Nat) (v_tape_size v_band_walkers v_band_loads v_band_pieces v_rules_clauses v_reader_end v_reader_at v_reader_length v_reader_letter v_reader_fault v_draft_clauses v_paces_version v_packing_quicker v_packing_loads v_packing_looseCount v_marches_told v_marches_changeMinutes v_marches_marching v_marches_gone v_search_known v_search_countHere v_search_countThere v_search_cost v_search_most : Int32) (v_search_found : Int64) (f_bytes f_knee f_weight f_limps f_bheft f_owner f_food f_miles f_slope f_rsteps f_rkind f_ryields f_rholds f_rletters f_rstack f_dsteps f_dkind f_dyields f_dholds f_dletters f_dstack f_caps f_versions f_sharing f_pheft f_prow f_holder f_comes f_pcaps f_room f_loose f_reached f_mrow f_minutesOn f_mtired : Nat → Int32) (f_here f_there : Nat → Int64) (f_statesHere f_statesThere f_listed f_stired f_burdens f_pacesOn f_restedOn f_behindOn f_behindFor f_first f_second : Nat → Int32) (f_plans f_tiredOn : Nat → Nat → Int32) (tS : Nat) (sz : Nat) (w : Int32) (pd : Int32) (t1 : Int32) (i : Int32) (hb_v_band_walkers : 0 ≤ v_band_walkers.toInt ∧ v_band_walkers.toInt ≤ 6) (hb_v_band_pieces : 0 ≤ v_band_pieces.toInt ∧ v_band_pieces.toInt ≤ 10) (hb_v_rules_clauses : 0 ≤ v_rules_clauses.toInt ∧ v_rules_clauses.toInt ≤ 14) (hr_weight : rg (0) 250 f_weight) (hr_limps : rg (0) 1 f_limps) (hr_miles : rg (0) 20 f_miles) : gMi l yX9_pace cX9_pace 6 .int 4 [.ref (hs 0), .int w, .int pd, .int t1, .int i] D cy (wSP cy hs hH hT sH sT v_tape_size v_band_walkers v_band_loads v_band_pieces v_rules_clauses v_reader_end v_reader_at v_reader_length v_reader_letter v_reader_fault v_draft_clauses v_paces_version v_packing_quicker v_packing_loads v_packing_looseCount v_marches_told v_marches_changeMinutes v_marches_marching v_marches_gone v_search_known v_search_countHere v_search_countThere v_search_cost v_search_most v_search_found f_bytes f_knee f_weight f_limps f_bheft f_owner f_food f_miles f_slope f_rsteps f_rkind f_ryields f_rholds f_rletters f_rstack f_dsteps f_dkind f_dyields f_dholds f_dletters f_dstack f_caps f_versions f_sharing f_pheft f_prow f_holder f_comes f_pcaps f_room f_loose f_reached f_mrow f_minutesOn f_mtired f_here f_there f_statesHere f_statesThere f_listed f_stired f_burdens f_pacesOn f_restedOn f_behindOn f_behindFor f_first f_second f_plans f_tiredOn) (NS tS) sz (fun (r : Int32) (u : (Nat → Int32) × (Nat → Int32)) => True) (fun u => wSP cy hs hH hT sH sT v_tape_size v_band_walkers v_band_loads v_band_pieces v_rules_clauses v_reader_end v_reader_at v_reader_length v_reader_letter v_reader_fault v_draft_clauses v_paces_version v_packing_quicker v_packing_loads v_packing_looseCount v_marches_told v_marches_changeMinutes v_marches_marching v_marches_gone v_search_known v_search_countHere v_search_countThere v_search_cost v_search_most v_search_found f_bytes f_knee f_weight f_limps f_bheft f_owner f_food f_miles f_slope f_rsteps f_rkind f_ryields f_rholds (u.1) (u.2) f_dsteps f_dkind f_dyields f_dholds f_dletters f_dstack f_caps f_versions f_sharing f_pheft f_prow f_holder f_comes f_pcaps f_room f_loose f_reached f_mrow f_minutesOn f_mtired f_here f_there f_statesHere f_statesThere f_listed f_stired f_burdens f_pacesOn f_restedOn f_behindOn f_behindFor f_first f_second f_plans f_tiredOn) := by
  refine gMi_in (by decide) (Nat.le_of_ble_eq_true rfl) ?_
  intro p e s m args below meth c A ls Q hx hb hml hts hown hsz hP hK hD hN hAe hA hS hl hret
  subst hsz
  have hl : lv_has ls 6 [(0, .ref (hs 0)), (1, .int w), (2, .int pd), (3, .int t1), (4, .int i)] := hl
  have hrt := fun (r : Int32) (f_rletters' : Nat → Int32) (f_rstack' : Nat → Int32)  {H : Heap} {locs : List Loc} {pc : Nat} {ls : Array Slot} => hret r (f_rletters', f_rstack') (H := H) (locs := locs) (pc := pc) (ls := ls) trivial
  clear hret
  refine lv_iload_n hx hb dX9_pace_0 rfl (lv_at hl 2 rfl) ?_
  refine lv_if_lt (tgt := 24) hx hb dX9_pace_1 (by decide) (fun c_1 => ?_) (fun c_1 => ?_)
  · have gc_1 : pd.toInt < 0 := i_lt (rfl : pd.toInt = pd.toInt) (by decide : (0 : Int32).toInt = 0) c_1
    refine lv_iconst (v := 0) hx hb dX9_pace_24 (by decide) ?_
    refine lv_istore (lv' := [(5, .int 0), (0, .ref (hs 0)), (1, .int w), (2, .int pd), (3, .int t1), (4, .int i)]) hx hb dX9_pace_25 hl (by decide) rfl (fun ls hl => ?_)
    refine lv_iload hx hb dX9_pace_27 (lv_at hl 0 rfl) ?_
    refine lv_if_eq (tgt := 55) hx hb dX9_pace_29 (by decide) (fun c_2 => ?_) (fun c_2 => ?_)
    · skip
      refine lv_iconst (v := (-1)) hx hb dX9_pace_55 (by decide) ?_
      have k_3 : ((-1) : Int32).toInt = (-1) := by decide
      exact hrt (-1) f_rletters f_rstack  hP hD hS rfl dX9_pace_56
    · exact absurd c_2 (by decide)
  · have gc_1 : 0 ≤ pd.toInt := i_nlt (rfl : pd.toInt = pd.toInt) (by decide : (0 : Int32).toInt = 0) c_1
    refine lv_iload_n hx hb dX9_pace_4 rfl (lv_at hl 2 rfl) ?_
    refine lv_sipush (v := 1000) hx hb dX9_pace_5 (by decide) ?_
    refine lv_icmp_gt (tgt := 24) hx hb dX9_pace_8 (by decide) (fun c_4 => ?_) (fun c_4 => ?_)
    · have gc_4 : 1000 < pd.toInt := i_lt (by decide : (1000 : Int32).toInt = 1000) (rfl : pd.toInt = pd.toInt) c_4
      refine lv_iconst (v := 0) hx hb dX9_pace_24 (by decide) ?_
      refine lv_istore (lv' := [(5, .int 0), (0, .ref (hs 0)), (1, .int w), (2, .int pd), (3, .int t1), (4, .int i)]) hx hb dX9_pace_25 hl (by decide) rfl (fun ls hl => ?_)
      refine lv_iload hx hb dX9_pace_27 (lv_at hl 0 rfl) ?_
      refine lv_if_eq (tgt := 55) hx hb dX9_pace_29 (by decide) (fun c_5 => ?_) (fun c_5 => ?_)
      · skip
        refine lv_iconst (v := (-1)) hx hb dX9_pace_55 (by decide) ?_
        have k_6 : ((-1) : Int32).toInt = (-1) := by decide
        exact hrt (-1) f_rletters f_rstack  hP hD hS rfl dX9_pace_56
      · exact absurd c_5 (by decide)
    · have gc_4 : pd.toInt ≤ 1000 := i_nlt (by decide : (1000 : Int32).toInt = 1000) (rfl : pd.toInt = pd.toInt) c_4
      refine lv_iload_n hx hb dX9_pace_11 rfl (lv_at hl 3 rfl) ?_
      refine lv_if_lt (tgt := 24) hx hb dX9_pace_12 (by decide) (fun c_7 => ?_) (fun c_7 => ?_)
      · have gc_7 : t1.toInt < 0 := i_lt (rfl : t1.toInt = t1.toInt) (by decide : (0 : Int32).toInt = 0) c_7
        refine lv_iconst (v := 0) hx hb dX9_pace_24 (by decide) ?_
        refine lv_istore (lv' := [(5, .int 0), (0, .ref (hs 0)), (1, .int w), (2, .int pd), (3, .int t1), (4, .int i)]) hx hb dX9_pace_25 hl (by decide) rfl (fun ls hl => ?_)
        refine lv_iload hx hb dX9_pace_27 (lv_at hl 0 rfl) ?_
        refine lv_if_eq (tgt := 55) hx hb dX9_pace_29 (by decide) (fun c_8 => ?_) (fun c_8 => ?_)
        · skip
          refine lv_iconst (v := (-1)) hx hb dX9_pace_55 (by decide) ?_
          have k_9 : ((-1) : Int32).toInt = (-1) := by decide
          exact hrt (-1) f_rletters f_rstack  hP hD hS rfl dX9_pace_56
        · exact absurd c_8 (by decide)
      · have gc_7 : 0 ≤ t1.toInt := i_nlt (rfl : t1.toInt = t1.toInt) (by decide : (0 : Int32).toInt = 0) c_7
        refine lv_iload_n hx hb dX9_pace_15 rfl (lv_at hl 3 rfl) ?_
        refine lv_iconst (v := 5) hx hb dX9_pace_16 (by decide) ?_
        refine lv_icmp_gt (tgt := 24) hx hb dX9_pace_17 (by decide) (fun c_10 => ?_) (fun c_10 => ?_)
        · have gc_10 : 5 < t1.toInt := i_lt (by decide : (5 : Int32).toInt = 5) (rfl : t1.toInt = t1.toInt) c_10
          refine lv_iconst (v := 0) hx hb dX9_pace_24 (by decide) ?_
          refine lv_istore (lv' := [(5, .int 0), (0, .ref (hs 0)), (1, .int w), (2, .int pd), (3, .int t1), (4, .int i)]) hx hb dX9_pace_25 hl (by decide) rfl (fun ls hl => ?_)
          refine lv_iload hx hb dX9_pace_27 (lv_at hl 0 rfl) ?_
          refine lv_if_eq (tgt := 55) hx hb dX9_pace_29 (by decide) (fun c_11 => ?_) (fun c_11 => ?_)
          · skip
            refine lv_iconst (v := (-1)) hx hb dX9_pace_55 (by decide) ?_
            have k_12 : ((-1) : Int32).toInt = (-1) := by decide
            exact hrt (-1) f_rletters f_rstack  hP hD hS rfl dX9_pace_56
          · exact absurd c_11 (by decide)
        · have gc_10 : t1.toInt ≤ 5 := i_nlt (by decide : (5 : Int32).toInt = 5) (rfl : t1.toInt = t1.toInt) c_10
          refine lv_iconst (v := 1) hx hb dX9_pace_20 (by decide) ?_
          refine lv_goto (tgt := 25) hx hb dX9_pace_21 (by decide) ?_
          refine lv_istore (lv' := [(5, .int 1), (0, .ref (hs 0)), (1, .int w), (2, .int pd), (3, .int t1), (4, .int i)]) hx hb dX9_pace_25 hl (by decide) rfl (fun ls hl => ?_)
          refine lv_iload hx hb dX9_pace_27 (lv_at hl 0 rfl) ?_
          refine lv_if_eq (tgt := 55) hx hb dX9_pace_29 (by decide) (fun c_13 => ?_) (fun c_13 => ?_)
          · exact absurd c_13 (by decide)
          · skip
            refine lv_aload_n hx hb dX9_pace_32 rfl (lv_at hl 1 rfl) ?_
            refine gt_SP_SP_band hx hb hts hown hK hP lwd_19 dX9_pace_33 ?_
            refine lv_iload_n hx hb dX9_pace_36 rfl (lv_at hl 2 rfl) ?_
            refine xi hD hS hA (xV (As := [.int w]) (rest := []) hx hb hml hown hts hK hP hD hS hA NS_ok hN hAe hl.1 ⟨Nat.le_refl _, Nat.le_refl _⟩ 3 rfl rfl rfl (c_X0_hasWalker l D cy hs hH hT sH sT v_tape_size v_band_walkers v_band_loads v_band_pieces v_rules_clauses v_reader_end v_reader_at v_reader_length v_reader_letter v_reader_fault v_draft_clauses v_paces_version v_packing_quicker v_packing_loads v_packing_looseCount v_marches_told v_marches_changeMinutes v_marches_marching v_marches_gone v_search_known v_search_countHere v_search_countThere v_search_cost v_search_most v_search_found f_bytes f_knee f_weight f_limps f_bheft f_owner f_food f_miles f_slope f_rsteps f_rkind f_ryields f_rholds f_rletters f_rstack f_dsteps f_dkind f_dyields f_dholds f_dletters f_dstack f_caps f_versions f_sharing f_pheft f_prow f_holder f_comes f_pcaps f_room f_loose f_reached f_mrow f_minutesOn f_mtired f_here f_there f_statesHere f_statesThere f_listed f_stired f_burdens f_pacesOn f_restedOn f_behindOn f_behindFor f_first f_second f_plans f_tiredOn tS s.heap.size w (by omega)) (gi_V lwd_238 lwd_239 lwd_240 lwd_18 lwd_241) ⟨rfl, hd_X0_hasWalker⟩ ⟨Nat.le_of_ble_eq_true rfl, Nat.le_of_ble_eq_true rfl⟩ rfl (Nat.le_of_ble_eq_true rfl) dX9_pace_37) (fun r_15 u_14 H locs hw hP hD hS => ?_)
            try dsimp only at hw hP hD
            obtain ⟨p_16, p_17⟩ := hw
            refine lv_if_eq (tgt := 55) hx hb dX9_pace_40 (by decide) (fun c_18 => ?_) (fun c_18 => ?_)
            · have gc_18 : r_15.toInt = 0 := i_eq (rfl : r_15.toInt = r_15.toInt) (by decide : (0 : Int32).toInt = 0) c_18
              refine lv_iconst (v := (-1)) hx hb dX9_pace_55 (by decide) ?_
              have k_19 : ((-1) : Int32).toInt = (-1) := by decide
              exact hrt (-1) f_rletters f_rstack  hP hD hS rfl dX9_pace_56
            · have gc_18 : r_15.toInt ≠ 0 := i_ne (rfl : r_15.toInt = r_15.toInt) (by decide : (0 : Int32).toInt = 0) c_18
              refine lv_aload_n hx hb dX9_pace_43 rfl (lv_at hl 1 rfl) ?_
              refine gt_SP_SP_band hx hb hts hown hK hP lwd_19 dX9_pace_44 ?_
              refine lv_iload hx hb dX9_pace_47 (lv_at hl 5 rfl) ?_
              refine xi hD hS hA (xV (As := [.int i]) (rest := []) hx hb hml hown hts hK hP hD hS hA NS_ok hN hAe hl.1 ⟨Nat.le_refl _, Nat.le_refl _⟩ 3 rfl rfl rfl (c_X0_hasPiece l D cy hs hH hT sH sT v_tape_size v_band_walkers v_band_loads v_band_pieces v_rules_clauses v_reader_end v_reader_at v_reader_length v_reader_letter v_reader_fault v_draft_clauses v_paces_version v_packing_quicker v_packing_loads v_packing_looseCount v_marches_told v_marches_changeMinutes v_marches_marching v_marches_gone v_search_known v_search_countHere v_search_countThere v_search_cost v_search_most v_search_found f_bytes f_knee f_weight f_limps f_bheft f_owner f_food f_miles f_slope f_rsteps f_rkind f_ryields f_rholds f_rletters f_rstack f_dsteps f_dkind f_dyields f_dholds f_dletters f_dstack f_caps f_versions f_sharing f_pheft f_prow f_holder f_comes f_pcaps f_room f_loose f_reached f_mrow f_minutesOn f_mtired f_here f_there f_statesHere f_statesThere f_listed f_stired f_burdens f_pacesOn f_restedOn f_behindOn f_behindFor f_first f_second f_plans f_tiredOn tS H.size i (by omega)) (gi_V lwd_504 lwd_505 lwd_506 lwd_18 lwd_507) ⟨rfl, hd_X0_hasPiece⟩ ⟨Nat.le_of_ble_eq_true rfl, Nat.le_of_ble_eq_true rfl⟩ rfl (Nat.le_of_ble_eq_true rfl) dX9_pace_49) (fun r_21 u_20 H locs hw hP hD hS => ?_)
              try dsimp only at hw hP hD
              obtain ⟨p_22, p_23⟩ := hw
              refine lv_if_ne (tgt := 57) hx hb dX9_pace_52 (by decide) (fun c_24 => ?_) (fun c_24 => ?_)
              · have gc_24 : r_21.toInt ≠ 0 := i_ne (rfl : r_21.toInt = r_21.toInt) (by decide : (0 : Int32).toInt = 0) c_24
                refine lv_aload_n hx hb dX9_pace_57 rfl (lv_at hl 1 rfl) ?_
                refine gt_SP_SP_paces hx hb hts hown hK hP lwd_31 dX9_pace_58 ?_
                refine lv_iload_n hx hb dX9_pace_61 rfl (lv_at hl 2 rfl) ?_
                refine lv_iload_n hx hb dX9_pace_62 rfl (lv_at hl 3 rfl) ?_
                refine lv_iload_n hx hb dX9_pace_63 rfl (lv_at hl 4 rfl) ?_
                refine lv_iload hx hb dX9_pace_64 (lv_at hl 5 rfl) ?_
                refine xi hD hS hA (xV (As := [.int w, .int pd, .int t1, .int i]) (rest := []) hx hb hml hown hts hK hP hD hS hA NS_ok hN hAe hl.1 ⟨Nat.le_refl _, Nat.le_refl _⟩ 27 rfl rfl rfl (c_X3_paceOf l D cy hs hH hT sH sT v_tape_size v_band_walkers v_band_loads v_band_pieces v_rules_clauses v_reader_end v_reader_at v_reader_length v_reader_letter v_reader_fault v_draft_clauses v_paces_version v_packing_quicker v_packing_loads v_packing_looseCount v_marches_told v_marches_changeMinutes v_marches_marching v_marches_gone v_search_known v_search_countHere v_search_countThere v_search_cost v_search_most v_search_found f_bytes f_knee f_weight f_limps f_bheft f_owner f_food f_miles f_slope f_rsteps f_rkind f_ryields f_rholds f_rletters f_rstack f_dsteps f_dkind f_dyields f_dholds f_dletters f_dstack f_caps f_versions f_sharing f_pheft f_prow f_holder f_comes f_pcaps f_room f_loose f_reached f_mrow f_minutesOn f_mtired f_here f_there f_statesHere f_statesThere f_listed f_stired f_burdens f_pacesOn f_restedOn f_behindOn f_behindFor f_first f_second f_plans f_tiredOn tS H.size w pd t1 i (by omega) (by omega) hr_weight hr_limps hr_miles (by omega) (by omega)) (gi_V lwd_509 lwd_510 lwd_511 lwd_30 lwd_512) ⟨rfl, hd_X3_paceOf⟩ ⟨Nat.le_of_ble_eq_true rfl, Nat.le_of_ble_eq_true rfl⟩ rfl (Nat.le_of_ble_eq_true rfl) dX9_pace_66) (fun r_26 u_25 H locs hw hP hD hS => ?_)
                obtain ⟨zrletters_27, zrstack_28⟩ := u_25
                try dsimp only at hw hP hD
                have p_29 := hw
                clear hw
                exact hrt r_26 zrletters_27 zrstack_28  hP hD hS rfl dX9_pace_69
              · have gc_24 : r_21.toInt = 0 := i_eq (rfl : r_21.toInt = r_21.toInt) (by decide : (0 : Int32).toInt = 0) c_24
                refine lv_iconst (v := (-1)) hx hb dX9_pace_55 (by decide) ?_
                have k_30 : ((-1) : Int32).toInt = (-1) := by decide
                exact hrt (-1) f_rletters f_rstack  hP hD hS rfl dX9_pace_56
set_option maxHeartbeats 16000000 in
set_option maxRecDepth 100000 in
theorem c_X9_carry (l : Launch) (D : va_G) (cy : Nat → ClassId) (hs : Nat → Nat) (hH hT sH sT : Nat) (v_tape_size v_band_walkers v_band_loads v_band_pieces v_rules_clauses v_reader_end v_reader_at v_reader_length v_reader_letter v_reader_fault v_draft_clauses v_paces_version v_packing_quicker v_packing_loads v_packing_looseCount v_marches_told v_marches_changeMinutes v_marches_marching v_marches_gone v_search_known v_search_countHere v_search_countThere v_search_cost v_search_most : Int32) (v_search_found : Int64) (f_bytes f_knee f_weight f_limps f_bheft f_owner f_food f_miles f_slope f_rsteps f_rkind f_ryields f_rholds f_rletters f_rstack f_dsteps f_dkind f_dyields f_dholds f_dletters f_dstack f_caps f_versions f_sharing f_pheft f_prow f_holder f_comes f_pcaps f_room f_loose f_reached f_mrow f_minutesOn f_mtired : Nat → Int32) (f_here f_there : Nat → Int64) (f_statesHere f_statesThere f_listed f_stired f_burdens f_pacesOn f_restedOn f_behindOn f_behindFor f_first f_second : Nat → Int32) (f_plans f_tiredOn : Nat → Nat → Int32) (tS : Nat) (sz : Nat) (w : Int32) (q : Int32) (t1 : Int32) (i : Int32) (hb_v_band_walkers : 0 ≤ v_band_walkers.toInt ∧ v_band_walkers.toInt ≤ 6) (hb_v_band_pieces : 0 ≤ v_band_pieces.toInt ∧ v_band_pieces.toInt ≤ 10) (hb_v_rules_clauses : 0 ≤ v_rules_clauses.toInt ∧ v_rules_clauses.toInt ≤ 14) (hr_weight : rg (0) 250 f_weight) (hr_limps : rg (0) 1 f_limps) (hr_miles : rg (0) 20 f_miles) (hr_caps : rg (-1) 400 f_caps) : gMi l yX9_carry cX9_carry 6 .int 5 [.ref (hs 0), .int w, .int q, .int t1, .int i] D cy (wSP cy hs hH hT sH sT v_tape_size v_band_walkers v_band_loads v_band_pieces v_rules_clauses v_reader_end v_reader_at v_reader_length v_reader_letter v_reader_fault v_draft_clauses v_paces_version v_packing_quicker v_packing_loads v_packing_looseCount v_marches_told v_marches_changeMinutes v_marches_marching v_marches_gone v_search_known v_search_countHere v_search_countThere v_search_cost v_search_most v_search_found f_bytes f_knee f_weight f_limps f_bheft f_owner f_food f_miles f_slope f_rsteps f_rkind f_ryields f_rholds f_rletters f_rstack f_dsteps f_dkind f_dyields f_dholds f_dletters f_dstack f_caps f_versions f_sharing f_pheft f_prow f_holder f_comes f_pcaps f_room f_loose f_reached f_mrow f_minutesOn f_mtired f_here f_there f_statesHere f_statesThere f_listed f_stired f_burdens f_pacesOn f_restedOn f_behindOn f_behindFor f_first f_second f_plans f_tiredOn) (NS tS) sz (fun (r : Int32) (u : (Nat → Int32) × (Nat → Int32) × (Nat → Int32) × (Nat → Int32)) => (rg (-1) 400 (u.2.2.1))) (fun u => wSP cy hs hH hT sH sT v_tape_size v_band_walkers v_band_loads v_band_pieces v_rules_clauses v_reader_end v_reader_at v_reader_length v_reader_letter v_reader_fault v_draft_clauses v_paces_version v_packing_quicker v_packing_loads v_packing_looseCount v_marches_told v_marches_changeMinutes v_marches_marching v_marches_gone v_search_known v_search_countHere v_search_countThere v_search_cost v_search_most v_search_found f_bytes f_knee f_weight f_limps f_bheft f_owner f_food f_miles f_slope f_rsteps f_rkind f_ryields f_rholds (u.1) (u.2.1) f_dsteps f_dkind f_dyields f_dholds f_dletters f_dstack (u.2.2.1) (u.2.2.2) f_sharing f_pheft f_prow f_holder f_comes f_pcaps f_room f_loose f_reached f_mrow f_minutesOn f_mtired f_here f_there f_statesHere f_statesThere f_listed f_stired f_burdens f_pacesOn f_restedOn f_behindOn f_behindFor f_first f_second f_plans f_tiredOn) := by
  refine gMi_in (by decide) (Nat.le_of_ble_eq_true rfl) ?_
  intro p e s m args below meth c A ls Q hx hb hml hts hown hsz hP hK hD hN hAe hA hS hl hret
  subst hsz
  have hl : lv_has ls 6 [(0, .ref (hs 0)), (1, .int w), (2, .int q), (3, .int t1), (4, .int i)] := hl
  have hrt := fun (r : Int32) (f_rletters' : Nat → Int32) (f_rstack' : Nat → Int32) (f_caps' : Nat → Int32) (f_versions' : Nat → Int32) (hp : (rg (-1) 400 f_caps')) {H : Heap} {locs : List Loc} {pc : Nat} {ls : Array Slot} => hret r (f_rletters', f_rstack', f_caps', f_versions') (H := H) (locs := locs) (pc := pc) (ls := ls) hp
  clear hret
  refine lv_iload_n hx hb dX9_carry_0 rfl (lv_at hl 2 rfl) ?_
  refine lv_iconst (v := 1) hx hb dX9_carry_1 (by decide) ?_
  refine lv_icmp_lt (tgt := 24) hx hb dX9_carry_2 (by decide) (fun c_1 => ?_) (fun c_1 => ?_)
  · have gc_1 : q.toInt < 1 := i_lt (rfl : q.toInt = q.toInt) (by decide : (1 : Int32).toInt = 1) c_1
    refine lv_iconst (v := 0) hx hb dX9_carry_24 (by decide) ?_
    refine lv_istore (lv' := [(5, .int 0), (0, .ref (hs 0)), (1, .int w), (2, .int q), (3, .int t1), (4, .int i)]) hx hb dX9_carry_25 hl (by decide) rfl (fun ls hl => ?_)
    refine lv_iload hx hb dX9_carry_27 (lv_at hl 0 rfl) ?_
    refine lv_if_eq (tgt := 55) hx hb dX9_carry_29 (by decide) (fun c_2 => ?_) (fun c_2 => ?_)
    · skip
      refine lv_bipush (v := (-2)) hx hb dX9_carry_55 (by decide) ?_
      have k_3 : ((-2) : Int32).toInt = (-2) := by decide
      exact hrt (-2) f_rletters f_rstack f_caps f_versions hr_caps hP hD hS rfl dX9_carry_57
    · exact absurd c_2 (by decide)
  · have gc_1 : 1 ≤ q.toInt := i_nlt (rfl : q.toInt = q.toInt) (by decide : (1 : Int32).toInt = 1) c_1
    refine lv_iload_n hx hb dX9_carry_5 rfl (lv_at hl 2 rfl) ?_
    refine lv_bipush (v := 60) hx hb dX9_carry_6 (by decide) ?_
    refine lv_icmp_gt (tgt := 24) hx hb dX9_carry_8 (by decide) (fun c_4 => ?_) (fun c_4 => ?_)
    · have gc_4 : 60 < q.toInt := i_lt (by decide : (60 : Int32).toInt = 60) (rfl : q.toInt = q.toInt) c_4
      refine lv_iconst (v := 0) hx hb dX9_carry_24 (by decide) ?_
      refine lv_istore (lv' := [(5, .int 0), (0, .ref (hs 0)), (1, .int w), (2, .int q), (3, .int t1), (4, .int i)]) hx hb dX9_carry_25 hl (by decide) rfl (fun ls hl => ?_)
      refine lv_iload hx hb dX9_carry_27 (lv_at hl 0 rfl) ?_
      refine lv_if_eq (tgt := 55) hx hb dX9_carry_29 (by decide) (fun c_5 => ?_) (fun c_5 => ?_)
      · skip
        refine lv_bipush (v := (-2)) hx hb dX9_carry_55 (by decide) ?_
        have k_6 : ((-2) : Int32).toInt = (-2) := by decide
        exact hrt (-2) f_rletters f_rstack f_caps f_versions hr_caps hP hD hS rfl dX9_carry_57
      · exact absurd c_5 (by decide)
    · have gc_4 : q.toInt ≤ 60 := i_nlt (by decide : (60 : Int32).toInt = 60) (rfl : q.toInt = q.toInt) c_4
      refine lv_iload_n hx hb dX9_carry_11 rfl (lv_at hl 3 rfl) ?_
      refine lv_if_lt (tgt := 24) hx hb dX9_carry_12 (by decide) (fun c_7 => ?_) (fun c_7 => ?_)
      · have gc_7 : t1.toInt < 0 := i_lt (rfl : t1.toInt = t1.toInt) (by decide : (0 : Int32).toInt = 0) c_7
        refine lv_iconst (v := 0) hx hb dX9_carry_24 (by decide) ?_
        refine lv_istore (lv' := [(5, .int 0), (0, .ref (hs 0)), (1, .int w), (2, .int q), (3, .int t1), (4, .int i)]) hx hb dX9_carry_25 hl (by decide) rfl (fun ls hl => ?_)
        refine lv_iload hx hb dX9_carry_27 (lv_at hl 0 rfl) ?_
        refine lv_if_eq (tgt := 55) hx hb dX9_carry_29 (by decide) (fun c_8 => ?_) (fun c_8 => ?_)
        · skip
          refine lv_bipush (v := (-2)) hx hb dX9_carry_55 (by decide) ?_
          have k_9 : ((-2) : Int32).toInt = (-2) := by decide
          exact hrt (-2) f_rletters f_rstack f_caps f_versions hr_caps hP hD hS rfl dX9_carry_57
        · exact absurd c_8 (by decide)
      · have gc_7 : 0 ≤ t1.toInt := i_nlt (rfl : t1.toInt = t1.toInt) (by decide : (0 : Int32).toInt = 0) c_7
        refine lv_iload_n hx hb dX9_carry_15 rfl (lv_at hl 3 rfl) ?_
        refine lv_iconst (v := 5) hx hb dX9_carry_16 (by decide) ?_
        refine lv_icmp_gt (tgt := 24) hx hb dX9_carry_17 (by decide) (fun c_10 => ?_) (fun c_10 => ?_)
        · have gc_10 : 5 < t1.toInt := i_lt (by decide : (5 : Int32).toInt = 5) (rfl : t1.toInt = t1.toInt) c_10
          refine lv_iconst (v := 0) hx hb dX9_carry_24 (by decide) ?_
          refine lv_istore (lv' := [(5, .int 0), (0, .ref (hs 0)), (1, .int w), (2, .int q), (3, .int t1), (4, .int i)]) hx hb dX9_carry_25 hl (by decide) rfl (fun ls hl => ?_)
          refine lv_iload hx hb dX9_carry_27 (lv_at hl 0 rfl) ?_
          refine lv_if_eq (tgt := 55) hx hb dX9_carry_29 (by decide) (fun c_11 => ?_) (fun c_11 => ?_)
          · skip
            refine lv_bipush (v := (-2)) hx hb dX9_carry_55 (by decide) ?_
            have k_12 : ((-2) : Int32).toInt = (-2) := by decide
            exact hrt (-2) f_rletters f_rstack f_caps f_versions hr_caps hP hD hS rfl dX9_carry_57
          · exact absurd c_11 (by decide)
        · have gc_10 : t1.toInt ≤ 5 := i_nlt (by decide : (5 : Int32).toInt = 5) (rfl : t1.toInt = t1.toInt) c_10
          refine lv_iconst (v := 1) hx hb dX9_carry_20 (by decide) ?_
          refine lv_goto (tgt := 25) hx hb dX9_carry_21 (by decide) ?_
          refine lv_istore (lv' := [(5, .int 1), (0, .ref (hs 0)), (1, .int w), (2, .int q), (3, .int t1), (4, .int i)]) hx hb dX9_carry_25 hl (by decide) rfl (fun ls hl => ?_)
          refine lv_iload hx hb dX9_carry_27 (lv_at hl 0 rfl) ?_
          refine lv_if_eq (tgt := 55) hx hb dX9_carry_29 (by decide) (fun c_13 => ?_) (fun c_13 => ?_)
          · exact absurd c_13 (by decide)
          · skip
            refine lv_aload_n hx hb dX9_carry_32 rfl (lv_at hl 1 rfl) ?_
            refine gt_SP_SP_band hx hb hts hown hK hP lwd_19 dX9_carry_33 ?_
            refine lv_iload_n hx hb dX9_carry_36 rfl (lv_at hl 2 rfl) ?_
            refine xi hD hS hA (xV (As := [.int w]) (rest := []) hx hb hml hown hts hK hP hD hS hA NS_ok hN hAe hl.1 ⟨Nat.le_refl _, Nat.le_refl _⟩ 3 rfl rfl rfl (c_X0_hasWalker l D cy hs hH hT sH sT v_tape_size v_band_walkers v_band_loads v_band_pieces v_rules_clauses v_reader_end v_reader_at v_reader_length v_reader_letter v_reader_fault v_draft_clauses v_paces_version v_packing_quicker v_packing_loads v_packing_looseCount v_marches_told v_marches_changeMinutes v_marches_marching v_marches_gone v_search_known v_search_countHere v_search_countThere v_search_cost v_search_most v_search_found f_bytes f_knee f_weight f_limps f_bheft f_owner f_food f_miles f_slope f_rsteps f_rkind f_ryields f_rholds f_rletters f_rstack f_dsteps f_dkind f_dyields f_dholds f_dletters f_dstack f_caps f_versions f_sharing f_pheft f_prow f_holder f_comes f_pcaps f_room f_loose f_reached f_mrow f_minutesOn f_mtired f_here f_there f_statesHere f_statesThere f_listed f_stired f_burdens f_pacesOn f_restedOn f_behindOn f_behindFor f_first f_second f_plans f_tiredOn tS s.heap.size w (by omega)) (gi_V lwd_238 lwd_239 lwd_240 lwd_18 lwd_241) ⟨rfl, hd_X0_hasWalker⟩ ⟨Nat.le_of_ble_eq_true rfl, Nat.le_of_ble_eq_true rfl⟩ rfl (Nat.le_of_ble_eq_true rfl) dX9_carry_37) (fun r_15 u_14 H locs hw hP hD hS => ?_)
            try dsimp only at hw hP hD
            obtain ⟨p_16, p_17⟩ := hw
            refine lv_if_eq (tgt := 55) hx hb dX9_carry_40 (by decide) (fun c_18 => ?_) (fun c_18 => ?_)
            · have gc_18 : r_15.toInt = 0 := i_eq (rfl : r_15.toInt = r_15.toInt) (by decide : (0 : Int32).toInt = 0) c_18
              refine lv_bipush (v := (-2)) hx hb dX9_carry_55 (by decide) ?_
              have k_19 : ((-2) : Int32).toInt = (-2) := by decide
              exact hrt (-2) f_rletters f_rstack f_caps f_versions hr_caps hP hD hS rfl dX9_carry_57
            · have gc_18 : r_15.toInt ≠ 0 := i_ne (rfl : r_15.toInt = r_15.toInt) (by decide : (0 : Int32).toInt = 0) c_18
              refine lv_aload_n hx hb dX9_carry_43 rfl (lv_at hl 1 rfl) ?_
              refine gt_SP_SP_band hx hb hts hown hK hP lwd_19 dX9_carry_44 ?_
              refine lv_iload hx hb dX9_carry_47 (lv_at hl 5 rfl) ?_
              refine xi hD hS hA (xV (As := [.int i]) (rest := []) hx hb hml hown hts hK hP hD hS hA NS_ok hN hAe hl.1 ⟨Nat.le_refl _, Nat.le_refl _⟩ 3 rfl rfl rfl (c_X0_hasPiece l D cy hs hH hT sH sT v_tape_size v_band_walkers v_band_loads v_band_pieces v_rules_clauses v_reader_end v_reader_at v_reader_length v_reader_letter v_reader_fault v_draft_clauses v_paces_version v_packing_quicker v_packing_loads v_packing_looseCount v_marches_told v_marches_changeMinutes v_marches_marching v_marches_gone v_search_known v_search_countHere v_search_countThere v_search_cost v_search_most v_search_found f_bytes f_knee f_weight f_limps f_bheft f_owner f_food f_miles f_slope f_rsteps f_rkind f_ryields f_rholds f_rletters f_rstack f_dsteps f_dkind f_dyields f_dholds f_dletters f_dstack f_caps f_versions f_sharing f_pheft f_prow f_holder f_comes f_pcaps f_room f_loose f_reached f_mrow f_minutesOn f_mtired f_here f_there f_statesHere f_statesThere f_listed f_stired f_burdens f_pacesOn f_restedOn f_behindOn f_behindFor f_first f_second f_plans f_tiredOn tS H.size i (by omega)) (gi_V lwd_504 lwd_505 lwd_506 lwd_18 lwd_507) ⟨rfl, hd_X0_hasPiece⟩ ⟨Nat.le_of_ble_eq_true rfl, Nat.le_of_ble_eq_true rfl⟩ rfl (Nat.le_of_ble_eq_true rfl) dX9_carry_49) (fun r_21 u_20 H locs hw hP hD hS => ?_)
              try dsimp only at hw hP hD
              obtain ⟨p_22, p_23⟩ := hw
              refine lv_if_ne (tgt := 58) hx hb dX9_carry_52 (by decide) (fun c_24 => ?_) (fun c_24 => ?_)
              · have gc_24 : r_21.toInt ≠ 0 := i_ne (rfl : r_21.toInt = r_21.toInt) (by decide : (0 : Int32).toInt = 0) c_24
                refine lv_aload_n hx hb dX9_carry_58 rfl (lv_at hl 1 rfl) ?_
                refine gt_SP_SP_paces hx hb hts hown hK hP lwd_31 dX9_carry_59 ?_
                refine gt_SP_paces_caps hx hb hts hown hK hP lwd_590 dX9_carry_62 ?_
                refine lv_aload_n hx hb dX9_carry_65 rfl (lv_at hl 1 rfl) ?_
                refine gt_SP_SP_paces hx hb hts hown hK hP lwd_31 dX9_carry_66 ?_
                refine lv_iload_n hx hb dX9_carry_69 rfl (lv_at hl 2 rfl) ?_
                refine lv_iload_n hx hb dX9_carry_70 rfl (lv_at hl 4 rfl) ?_
                refine lv_iload hx hb dX9_carry_71 (lv_at hl 5 rfl) ?_
                refine xi hD hS hA (xV (As := [.int w, .int t1, .int i]) (rest := [.ref (hs 28)]) hx hb hml hown hts hK hP hD hS hA NS_ok hN hAe hl.1 ⟨Nat.le_refl _, Nat.le_refl _⟩ 27 rfl rfl rfl (c_X3_capsFrom l D cy hs hH hT sH sT v_tape_size v_band_walkers v_band_loads v_band_pieces v_rules_clauses v_reader_end v_reader_at v_reader_length v_reader_letter v_reader_fault v_draft_clauses v_paces_version v_packing_quicker v_packing_loads v_packing_looseCount v_marches_told v_marches_changeMinutes v_marches_marching v_marches_gone v_search_known v_search_countHere v_search_countThere v_search_cost v_search_most v_search_found f_bytes f_knee f_weight f_limps f_bheft f_owner f_food f_miles f_slope f_rsteps f_rkind f_ryields f_rholds f_rletters f_rstack f_dsteps f_dkind f_dyields f_dholds f_dletters f_dstack f_caps f_versions f_sharing f_pheft f_prow f_holder f_comes f_pcaps f_room f_loose f_reached f_mrow f_minutesOn f_mtired f_here f_there f_statesHere f_statesThere f_listed f_stired f_burdens f_pacesOn f_restedOn f_behindOn f_behindFor f_first f_second f_plans f_tiredOn tS H.size w t1 i (by omega) (by omega) hr_weight hr_limps hr_miles hr_caps (by omega) (by omega) (by omega)) (gi_V lwd_591 lwd_592 lwd_593 lwd_30 lwd_594) ⟨rfl, hd_X3_capsFrom⟩ ⟨Nat.le_of_ble_eq_true rfl, Nat.le_of_ble_eq_true rfl⟩ rfl (Nat.le_of_ble_eq_true rfl) dX9_carry_73) (fun r_26 u_25 H locs hw hP hD hS => ?_)
                obtain ⟨zrletters_27, zrstack_28, zcaps_29, zversions_30⟩ := u_25
                try dsimp only at hw hP hD
                obtain ⟨p_31, p_32⟩ := hw
                refine lv_iload_n hx hb dX9_carry_76 rfl (lv_at hl 3 rfl) ?_
                refine lv_iadd hx hb dX9_carry_77 ?_
                refine lv_topi (fun n_33 en_33 => ?_)
                have tn_33 : n_33.toInt = r_26.toInt + q.toInt := i_add en_33 (rfl : r_26.toInt = r_26.toInt) (rfl : q.toInt = q.toInt) (by omega) (by omega)
                refine al_caps hx hb hK hP p_32 (i_in tn_33 (by omega) (by omega)) dX9_carry_78 (fun n_34 en_34 bn_34 => ?_)
                exact hrt n_34 zrletters_27 zrstack_28 zcaps_29 zversions_30 p_32 hP hD hS rfl dX9_carry_79
              · have gc_24 : r_21.toInt = 0 := i_eq (rfl : r_21.toInt = r_21.toInt) (by decide : (0 : Int32).toInt = 0) c_24
                refine lv_bipush (v := (-2)) hx hb dX9_carry_55 (by decide) ?_
                have k_35 : ((-2) : Int32).toInt = (-2) := by decide
                exact hrt (-2) f_rletters f_rstack f_caps f_versions hr_caps hP hD hS rfl dX9_carry_57
set_option maxHeartbeats 16000000 in
set_option maxRecDepth 100000 in
theorem c_X9_parts (l : Launch) (D : va_G) (cy : Nat → ClassId) (hs : Nat → Nat) (hH hT sH sT : Nat) (v_tape_size v_band_walkers v_band_loads v_band_pieces v_rules_clauses v_reader_end v_reader_at v_reader_length v_reader_letter v_reader_fault v_draft_clauses v_paces_version v_packing_quicker v_packing_loads v_packing_looseCount v_marches_told v_marches_changeMinutes v_marches_marching v_marches_gone v_search_known v_search_countHere v_search_countThere v_search_cost v_search_most : Int32) (v_search_found : Int64) (f_bytes f_knee f_weight f_limps f_bheft f_owner f_food f_miles f_slope f_rsteps f_rkind f_ryields f_rholds f_rletters f_rstack f_dsteps f_dkind f_dyields f_dholds f_dletters f_dstack f_caps f_versions f_sharing f_pheft f_prow f_holder f_comes f_pcaps f_room f_loose f_reached f_mrow f_minutesOn f_mtired : Nat → Int32) (f_here f_there : Nat → Int64) (f_statesHere f_statesThere f_listed f_stired f_burdens f_pacesOn f_restedOn f_behindOn f_behindFor f_first f_second : Nat → Int32) (f_plans f_tiredOn : Nat → Nat → Int32) (tS : Nat) (sz : Nat) (pd : Int32) (i : Int32) (all : Int32) (what : Int32) (hb_v_band_walkers : 0 ≤ v_band_walkers.toInt ∧ v_band_walkers.toInt ≤ 6) (hb_v_band_pieces : 0 ≤ v_band_pieces.toInt ∧ v_band_pieces.toInt ≤ 10) (hb_v_rules_clauses : 0 ≤ v_rules_clauses.toInt ∧ v_rules_clauses.toInt ≤ 14) (hr_weight : rg (0) 250 f_weight) (hr_limps : rg (0) 1 f_limps) (hr_miles : rg (0) 20 f_miles) (hr_caps : rg (-1) 400 f_caps) (hr_sharing : rg (0) 21899 f_sharing) : gMi l yX9_parts cX9_parts 7 .int 6 [.ref (hs 0), .int pd, .int i, .int all, .int what] D cy (wSP cy hs hH hT sH sT v_tape_size v_band_walkers v_band_loads v_band_pieces v_rules_clauses v_reader_end v_reader_at v_reader_length v_reader_letter v_reader_fault v_draft_clauses v_paces_version v_packing_quicker v_packing_loads v_packing_looseCount v_marches_told v_marches_changeMinutes v_marches_marching v_marches_gone v_search_known v_search_countHere v_search_countThere v_search_cost v_search_most v_search_found f_bytes f_knee f_weight f_limps f_bheft f_owner f_food f_miles f_slope f_rsteps f_rkind f_ryields f_rholds f_rletters f_rstack f_dsteps f_dkind f_dyields f_dholds f_dletters f_dstack f_caps f_versions f_sharing f_pheft f_prow f_holder f_comes f_pcaps f_room f_loose f_reached f_mrow f_minutesOn f_mtired f_here f_there f_statesHere f_statesThere f_listed f_stired f_burdens f_pacesOn f_restedOn f_behindOn f_behindFor f_first f_second f_plans f_tiredOn) (NS tS) sz (fun (r : Int32) (u : (Nat → Int32) × (Nat → Int32) × (Nat → Int32) × (Nat → Int32) × (Nat → Int32)) => (rg (-1) 400 (u.2.2.1)) ∧ (rg (0) 21899 (u.2.2.2.2))) (fun u => wSP cy hs hH hT sH sT v_tape_size v_band_walkers v_band_loads v_band_pieces v_rules_clauses v_reader_end v_reader_at v_reader_length v_reader_letter v_reader_fault v_draft_clauses v_paces_version v_packing_quicker v_packing_loads v_packing_looseCount v_marches_told v_marches_changeMinutes v_marches_marching v_marches_gone v_search_known v_search_countHere v_search_countThere v_search_cost v_search_most v_search_found f_bytes f_knee f_weight f_limps f_bheft f_owner f_food f_miles f_slope f_rsteps f_rkind f_ryields f_rholds (u.1) (u.2.1) f_dsteps f_dkind f_dyields f_dholds f_dletters f_dstack (u.2.2.1) (u.2.2.2.1) (u.2.2.2.2) f_pheft f_prow f_holder f_comes f_pcaps f_room f_loose f_reached f_mrow f_minutesOn f_mtired f_here f_there f_statesHere f_statesThere f_listed f_stired f_burdens f_pacesOn f_restedOn f_behindOn f_behindFor f_first f_second f_plans f_tiredOn) := by
  refine gMi_in (by decide) (Nat.le_of_ble_eq_true rfl) ?_
  intro p e s m args below meth c A ls Q hx hb hml hts hown hsz hP hK hD hN hAe hA hS hl hret
  subst hsz
  have hl : lv_has ls 7 [(0, .ref (hs 0)), (1, .int pd), (2, .int i), (3, .int all), (4, .int what)] := hl
  have hrt := fun (r : Int32) (f_rletters' : Nat → Int32) (f_rstack' : Nat → Int32) (f_caps' : Nat → Int32) (f_versions' : Nat → Int32) (f_sharing' : Nat → Int32) (hp : (rg (-1) 400 f_caps') ∧ (rg (0) 21899 f_sharing')) {H : Heap} {locs : List Loc} {pc : Nat} {ls : Array Slot} => hret r (f_rletters', f_rstack', f_caps', f_versions', f_sharing') (H := H) (locs := locs) (pc := pc) (ls := ls) hp
  clear hret
  refine lv_iload_n hx hb dX9_parts_0 rfl (lv_at hl 1 rfl) ?_
  refine lv_if_lt (tgt := 26) hx hb dX9_parts_1 (by decide) (fun c_1 => ?_) (fun c_1 => ?_)
  · have gc_1 : pd.toInt < 0 := i_lt (rfl : pd.toInt = pd.toInt) (by decide : (0 : Int32).toInt = 0) c_1
    refine lv_iconst (v := 0) hx hb dX9_parts_26 (by decide) ?_
    refine lv_istore (lv' := [(5, .int 0), (0, .ref (hs 0)), (1, .int pd), (2, .int i), (3, .int all), (4, .int what)]) hx hb dX9_parts_27 hl (by decide) rfl (fun ls hl => ?_)
    refine lv_iload hx hb dX9_parts_29 (lv_at hl 0 rfl) ?_
    refine lv_if_eq (tgt := 43) hx hb dX9_parts_31 (by decide) (fun c_2 => ?_) (fun c_2 => ?_)
    · skip
      refine lv_iconst (v := (-1)) hx hb dX9_parts_43 (by decide) ?_
      have k_3 : ((-1) : Int32).toInt = (-1) := by decide
      exact hrt (-1) f_rletters f_rstack f_caps f_versions f_sharing ⟨hr_caps, hr_sharing⟩ hP hD hS rfl dX9_parts_44
    · exact absurd c_2 (by decide)
  · have gc_1 : 0 ≤ pd.toInt := i_nlt (rfl : pd.toInt = pd.toInt) (by decide : (0 : Int32).toInt = 0) c_1
    refine lv_iload_n hx hb dX9_parts_4 rfl (lv_at hl 1 rfl) ?_
    refine lv_sipush (v := 2400) hx hb dX9_parts_5 (by decide) ?_
    refine lv_icmp_gt (tgt := 26) hx hb dX9_parts_8 (by decide) (fun c_4 => ?_) (fun c_4 => ?_)
    · have gc_4 : 2400 < pd.toInt := i_lt (by decide : (2400 : Int32).toInt = 2400) (rfl : pd.toInt = pd.toInt) c_4
      refine lv_iconst (v := 0) hx hb dX9_parts_26 (by decide) ?_
      refine lv_istore (lv' := [(5, .int 0), (0, .ref (hs 0)), (1, .int pd), (2, .int i), (3, .int all), (4, .int what)]) hx hb dX9_parts_27 hl (by decide) rfl (fun ls hl => ?_)
      refine lv_iload hx hb dX9_parts_29 (lv_at hl 0 rfl) ?_
      refine lv_if_eq (tgt := 43) hx hb dX9_parts_31 (by decide) (fun c_5 => ?_) (fun c_5 => ?_)
      · skip
        refine lv_iconst (v := (-1)) hx hb dX9_parts_43 (by decide) ?_
        have k_6 : ((-1) : Int32).toInt = (-1) := by decide
        exact hrt (-1) f_rletters f_rstack f_caps f_versions f_sharing ⟨hr_caps, hr_sharing⟩ hP hD hS rfl dX9_parts_44
      · exact absurd c_5 (by decide)
    · have gc_4 : pd.toInt ≤ 2400 := i_nlt (by decide : (2400 : Int32).toInt = 2400) (rfl : pd.toInt = pd.toInt) c_4
      refine lv_iload hx hb dX9_parts_11 (lv_at hl 4 rfl) ?_
      refine lv_if_lt (tgt := 26) hx hb dX9_parts_13 (by decide) (fun c_7 => ?_) (fun c_7 => ?_)
      · have gc_7 : what.toInt < 0 := i_lt (rfl : what.toInt = what.toInt) (by decide : (0 : Int32).toInt = 0) c_7
        refine lv_iconst (v := 0) hx hb dX9_parts_26 (by decide) ?_
        refine lv_istore (lv' := [(5, .int 0), (0, .ref (hs 0)), (1, .int pd), (2, .int i), (3, .int all), (4, .int what)]) hx hb dX9_parts_27 hl (by decide) rfl (fun ls hl => ?_)
        refine lv_iload hx hb dX9_parts_29 (lv_at hl 0 rfl) ?_
        refine lv_if_eq (tgt := 43) hx hb dX9_parts_31 (by decide) (fun c_8 => ?_) (fun c_8 => ?_)
        · skip
          refine lv_iconst (v := (-1)) hx hb dX9_parts_43 (by decide) ?_
          have k_9 : ((-1) : Int32).toInt = (-1) := by decide
          exact hrt (-1) f_rletters f_rstack f_caps f_versions f_sharing ⟨hr_caps, hr_sharing⟩ hP hD hS rfl dX9_parts_44
        · exact absurd c_8 (by decide)
      · have gc_7 : 0 ≤ what.toInt := i_nlt (rfl : what.toInt = what.toInt) (by decide : (0 : Int32).toInt = 0) c_7
        refine lv_iload hx hb dX9_parts_16 (lv_at hl 4 rfl) ?_
        refine lv_iconst (v := 2) hx hb dX9_parts_18 (by decide) ?_
        refine lv_icmp_gt (tgt := 26) hx hb dX9_parts_19 (by decide) (fun c_10 => ?_) (fun c_10 => ?_)
        · have gc_10 : 2 < what.toInt := i_lt (by decide : (2 : Int32).toInt = 2) (rfl : what.toInt = what.toInt) c_10
          refine lv_iconst (v := 0) hx hb dX9_parts_26 (by decide) ?_
          refine lv_istore (lv' := [(5, .int 0), (0, .ref (hs 0)), (1, .int pd), (2, .int i), (3, .int all), (4, .int what)]) hx hb dX9_parts_27 hl (by decide) rfl (fun ls hl => ?_)
          refine lv_iload hx hb dX9_parts_29 (lv_at hl 0 rfl) ?_
          refine lv_if_eq (tgt := 43) hx hb dX9_parts_31 (by decide) (fun c_11 => ?_) (fun c_11 => ?_)
          · skip
            refine lv_iconst (v := (-1)) hx hb dX9_parts_43 (by decide) ?_
            have k_12 : ((-1) : Int32).toInt = (-1) := by decide
            exact hrt (-1) f_rletters f_rstack f_caps f_versions f_sharing ⟨hr_caps, hr_sharing⟩ hP hD hS rfl dX9_parts_44
          · exact absurd c_11 (by decide)
        · have gc_10 : what.toInt ≤ 2 := i_nlt (by decide : (2 : Int32).toInt = 2) (rfl : what.toInt = what.toInt) c_10
          refine lv_iconst (v := 1) hx hb dX9_parts_22 (by decide) ?_
          refine lv_goto (tgt := 27) hx hb dX9_parts_23 (by decide) ?_
          refine lv_istore (lv' := [(5, .int 1), (0, .ref (hs 0)), (1, .int pd), (2, .int i), (3, .int all), (4, .int what)]) hx hb dX9_parts_27 hl (by decide) rfl (fun ls hl => ?_)
          refine lv_iload hx hb dX9_parts_29 (lv_at hl 0 rfl) ?_
          refine lv_if_eq (tgt := 43) hx hb dX9_parts_31 (by decide) (fun c_13 => ?_) (fun c_13 => ?_)
          · exact absurd c_13 (by decide)
          · skip
            refine lv_aload_n hx hb dX9_parts_34 rfl (lv_at hl 1 rfl) ?_
            refine lv_iload_n hx hb dX9_parts_35 rfl (lv_at hl 3 rfl) ?_
            refine lv_iload_n hx hb dX9_parts_36 rfl (lv_at hl 4 rfl) ?_
            refine xi hD hS hA (xV (As := [.int i, .int all]) (rest := []) hx hb hml hown hts hK hP hD hS hA NS_ok hN hAe hl.1 ⟨Nat.le_refl _, Nat.le_refl _⟩ 0 rfl rfl rfl (c_X9_standsOn l D cy hs hH hT sH sT v_tape_size v_band_walkers v_band_loads v_band_pieces v_rules_clauses v_reader_end v_reader_at v_reader_length v_reader_letter v_reader_fault v_draft_clauses v_paces_version v_packing_quicker v_packing_loads v_packing_looseCount v_marches_told v_marches_changeMinutes v_marches_marching v_marches_gone v_search_known v_search_countHere v_search_countThere v_search_cost v_search_most v_search_found f_bytes f_knee f_weight f_limps f_bheft f_owner f_food f_miles f_slope f_rsteps f_rkind f_ryields f_rholds f_rletters f_rstack f_dsteps f_dkind f_dyields f_dholds f_dletters f_dstack f_caps f_versions f_sharing f_pheft f_prow f_holder f_comes f_pcaps f_room f_loose f_reached f_mrow f_minutesOn f_mtired f_here f_there f_statesHere f_statesThere f_listed f_stired f_burdens f_pacesOn f_restedOn f_behindOn f_behindFor f_first f_second f_plans f_tiredOn tS s.heap.size i all (by omega) (by omega)) (gi_V lwd_616 lwd_617 lwd_618 lwd_2 lwd_619) ⟨rfl, hd_X9_standsOn⟩ ⟨Nat.le_of_ble_eq_true rfl, Nat.le_of_ble_eq_true rfl⟩ rfl (Nat.le_of_ble_eq_true rfl) dX9_parts_37) (fun r_15 u_14 H locs hw hP hD hS => ?_)
            try dsimp only at hw hP hD
            obtain ⟨p_16, p_17⟩ := hw
            refine lv_if_ne (tgt := 45) hx hb dX9_parts_40 (by decide) (fun c_18 => ?_) (fun c_18 => ?_)
            · have gc_18 : r_15.toInt ≠ 0 := i_ne (rfl : r_15.toInt = r_15.toInt) (by decide : (0 : Int32).toInt = 0) c_18
              refine lv_aload_n hx hb dX9_parts_45 rfl (lv_at hl 1 rfl) ?_
              refine gt_SP_SP_paces hx hb hts hown hK hP lwd_31 dX9_parts_46 ?_
              refine lv_iload_n hx hb dX9_parts_49 rfl (lv_at hl 2 rfl) ?_
              refine lv_iload_n hx hb dX9_parts_50 rfl (lv_at hl 3 rfl) ?_
              refine lv_iload_n hx hb dX9_parts_51 rfl (lv_at hl 4 rfl) ?_
              refine xi hD hS hA (xV (As := [.int pd, .int i, .int all]) (rest := []) hx hb hml hown hts hK hP hD hS hA NS_ok hN hAe hl.1 ⟨Nat.le_refl _, Nat.le_refl _⟩ 27 rfl rfl rfl (c_X3_sharedPace l D cy hs hH hT sH sT v_tape_size v_band_walkers v_band_loads v_band_pieces v_rules_clauses v_reader_end v_reader_at v_reader_length v_reader_letter v_reader_fault v_draft_clauses v_paces_version v_packing_quicker v_packing_loads v_packing_looseCount v_marches_told v_marches_changeMinutes v_marches_marching v_marches_gone v_search_known v_search_countHere v_search_countThere v_search_cost v_search_most v_search_found f_bytes f_knee f_weight f_limps f_bheft f_owner f_food f_miles f_slope f_rsteps f_rkind f_ryields f_rholds f_rletters f_rstack f_dsteps f_dkind f_dyields f_dholds f_dletters f_dstack f_caps f_versions f_sharing f_pheft f_prow f_holder f_comes f_pcaps f_room f_loose f_reached f_mrow f_minutesOn f_mtired f_here f_there f_statesHere f_statesThere f_listed f_stired f_burdens f_pacesOn f_restedOn f_behindOn f_behindFor f_first f_second f_plans f_tiredOn tS H.size pd i all (by omega) (by omega) hr_weight hr_limps hr_miles hr_caps hr_sharing (by omega) (by omega)) (gi_V lwd_621 lwd_622 lwd_623 lwd_30 lwd_624) ⟨rfl, hd_X3_sharedPace⟩ ⟨Nat.le_of_ble_eq_true rfl, Nat.le_of_ble_eq_true rfl⟩ rfl (Nat.le_of_ble_eq_true rfl) dX9_parts_52) (fun r_20 u_19 H locs hw hP hD hS => ?_)
              obtain ⟨zrletters_21, zrstack_22, zcaps_23, zversions_24, zsharing_25⟩ := u_19
              try dsimp only at hw hP hD
              obtain ⟨p_26, p_27, p_28⟩ := hw
              refine lv_istore (lv' := [(6, .int r_20), (5, .int 1), (0, .ref (hs 0)), (1, .int pd), (2, .int i), (3, .int all), (4, .int what)]) hx hb dX9_parts_55 hl (by decide) rfl (fun ls hl => ?_)
              refine lv_iload hx hb dX9_parts_57 (lv_at hl 6 rfl) ?_
              refine lv_if_ne (tgt := 65) hx hb dX9_parts_59 (by decide) (fun c_29 => ?_) (fun c_29 => ?_)
              · have gc_29 : what.toInt ≠ 0 := i_ne (rfl : what.toInt = what.toInt) (by decide : (0 : Int32).toInt = 0) c_29
                refine lv_iload hx hb dX9_parts_65 (lv_at hl 6 rfl) ?_
                refine lv_iconst (v := 1) hx hb dX9_parts_67 (by decide) ?_
                refine lv_icmp_ne (tgt := 92) hx hb dX9_parts_68 (by decide) (fun c_30 => ?_) (fun c_30 => ?_)
                · have gc_30 : what.toInt ≠ 1 := i_ne (rfl : what.toInt = what.toInt) (by decide : (1 : Int32).toInt = 1) c_30
                  refine lv_iload hx hb dX9_parts_92 (lv_at hl 0 rfl) ?_
                  refine lv_if_ne (tgt := 102) hx hb dX9_parts_94 (by decide) (fun c_31 => ?_) (fun c_31 => ?_)
                  · have gc_31 : r_20.toInt ≠ 0 := i_ne (rfl : r_20.toInt = r_20.toInt) (by decide : (0 : Int32).toInt = 0) c_31
                    refine lv_aload_n hx hb dX9_parts_102 rfl (lv_at hl 2 rfl) ?_
                    refine gt_SP_SP_band hx hb hts hown hK hP lwd_19 dX9_parts_103 ?_
                    refine lv_iload_n hx hb dX9_parts_106 rfl (lv_at hl 4 rfl) ?_
                    refine lv_iload hx hb dX9_parts_107 (lv_at hl 0 rfl) ?_
                    refine xi hD hS hA (xV (As := [.int i, .int r_20]) (rest := []) hx hb hml hown hts hK hP hD hS hA NS_ok hN hAe hl.1 ⟨Nat.le_refl _, Nat.le_refl _⟩ 3 rfl rfl rfl (c_X0_minutes l D cy hs hH hT sH sT v_tape_size v_band_walkers v_band_loads v_band_pieces v_rules_clauses v_reader_end v_reader_at v_reader_length v_reader_letter v_reader_fault v_draft_clauses v_paces_version v_packing_quicker v_packing_loads v_packing_looseCount v_marches_told v_marches_changeMinutes v_marches_marching v_marches_gone v_search_known v_search_countHere v_search_countThere v_search_cost v_search_most v_search_found f_bytes f_knee f_weight f_limps f_bheft f_owner f_food f_miles f_slope f_rsteps f_rkind f_ryields f_rholds zrletters_21 zrstack_22 f_dsteps f_dkind f_dyields f_dholds f_dletters f_dstack zcaps_23 zversions_24 zsharing_25 f_pheft f_prow f_holder f_comes f_pcaps f_room f_loose f_reached f_mrow f_minutesOn f_mtired f_here f_there f_statesHere f_statesThere f_listed f_stired f_burdens f_pacesOn f_restedOn f_behindOn f_behindFor f_first f_second f_plans f_tiredOn tS H.size i r_20 hr_miles (by omega)) (gi_V lwd_634 lwd_635 lwd_636 lwd_18 lwd_637) ⟨rfl, hd_X0_minutes⟩ ⟨Nat.le_of_ble_eq_true rfl, Nat.le_of_ble_eq_true rfl⟩ rfl (Nat.le_of_ble_eq_true rfl) dX9_parts_109) (fun r_33 u_32 H locs hw hP hD hS => ?_)
                    try dsimp only at hw hP hD
                    clear hw
                    exact hrt r_33 zrletters_21 zrstack_22 zcaps_23 zversions_24 zsharing_25 ⟨p_27, p_28⟩ hP hD hS rfl dX9_parts_112
                  · have gc_31 : r_20.toInt = 0 := i_eq (rfl : r_20.toInt = r_20.toInt) (by decide : (0 : Int32).toInt = 0) c_31
                    refine lv_bipush (v := (-2)) hx hb dX9_parts_97 (by decide) ?_
                    refine lv_goto (tgt := 112) hx hb dX9_parts_99 (by decide) ?_
                    have k_34 : ((-2) : Int32).toInt = (-2) := by decide
                    exact hrt (-2) zrletters_21 zrstack_22 zcaps_23 zversions_24 zsharing_25 ⟨p_27, p_28⟩ hP hD hS rfl dX9_parts_112
                · have gc_30 : what.toInt = 1 := i_eq (rfl : what.toInt = what.toInt) (by decide : (1 : Int32).toInt = 1) c_30
                  refine lv_iload hx hb dX9_parts_71 (lv_at hl 0 rfl) ?_
                  refine lv_if_ne (tgt := 80) hx hb dX9_parts_73 (by decide) (fun c_35 => ?_) (fun c_35 => ?_)
                  · have gc_35 : r_20.toInt ≠ 0 := i_ne (rfl : r_20.toInt = r_20.toInt) (by decide : (0 : Int32).toInt = 0) c_35
                    refine lv_aload_n hx hb dX9_parts_80 rfl (lv_at hl 2 rfl) ?_
                    refine gt_SP_SP_paces hx hb hts hown hK hP lwd_31 dX9_parts_81 ?_
                    refine lv_iload hx hb dX9_parts_84 (lv_at hl 0 rfl) ?_
                    refine xi hD hS hA (xV (As := [.int r_20]) (rest := []) hx hb hml hown hts hK hP hD hS hA NS_ok hN hAe hl.1 ⟨Nat.le_refl _, Nat.le_refl _⟩ 27 rfl rfl rfl (c_X3_together l D cy hs hH hT sH sT v_tape_size v_band_walkers v_band_loads v_band_pieces v_rules_clauses v_reader_end v_reader_at v_reader_length v_reader_letter v_reader_fault v_draft_clauses v_paces_version v_packing_quicker v_packing_loads v_packing_looseCount v_marches_told v_marches_changeMinutes v_marches_marching v_marches_gone v_search_known v_search_countHere v_search_countThere v_search_cost v_search_most v_search_found f_bytes f_knee f_weight f_limps f_bheft f_owner f_food f_miles f_slope f_rsteps f_rkind f_ryields f_rholds zrletters_21 zrstack_22 f_dsteps f_dkind f_dyields f_dholds f_dletters f_dstack zcaps_23 zversions_24 zsharing_25 f_pheft f_prow f_holder f_comes f_pcaps f_room f_loose f_reached f_mrow f_minutesOn f_mtired f_here f_there f_statesHere f_statesThere f_listed f_stired f_burdens f_pacesOn f_restedOn f_behindOn f_behindFor f_first f_second f_plans f_tiredOn tS H.size r_20 (by omega) p_27 p_28 (by omega)) (gi_V lwd_633 lwd_630 lwd_631 lwd_30 lwd_632) ⟨rfl, hd_X3_together⟩ ⟨Nat.le_of_ble_eq_true rfl, Nat.le_of_ble_eq_true rfl⟩ rfl (Nat.le_of_ble_eq_true rfl) dX9_parts_86) (fun r_37 u_36 H locs hw hP hD hS => ?_)
                    try dsimp only at hw hP hD
                    clear hw
                    refine lv_iload_n hx hb dX9_parts_89 rfl (lv_at hl 3 rfl) ?_
                    refine lv_isub hx hb dX9_parts_90 ?_
                    refine lv_topi (fun n_38 en_38 => ?_)
                    exact hrt n_38 zrletters_21 zrstack_22 zcaps_23 zversions_24 zsharing_25 ⟨p_27, p_28⟩ hP hD hS rfl dX9_parts_91
                  · have gc_35 : r_20.toInt = 0 := i_eq (rfl : r_20.toInt = r_20.toInt) (by decide : (0 : Int32).toInt = 0) c_35
                    refine lv_iconst (v := 0) hx hb dX9_parts_76 (by decide) ?_
                    refine lv_goto (tgt := 91) hx hb dX9_parts_77 (by decide) ?_
                    have k_39 : (0 : Int32).toInt = 0 := by decide
                    exact hrt 0 zrletters_21 zrstack_22 zcaps_23 zversions_24 zsharing_25 ⟨p_27, p_28⟩ hP hD hS rfl dX9_parts_91
              · have gc_29 : what.toInt = 0 := i_eq (rfl : what.toInt = what.toInt) (by decide : (0 : Int32).toInt = 0) c_29
                refine lv_iload hx hb dX9_parts_62 (lv_at hl 0 rfl) ?_
                exact hrt r_20 zrletters_21 zrstack_22 zcaps_23 zversions_24 zsharing_25 ⟨p_27, p_28⟩ hP hD hS rfl dX9_parts_64
            · have gc_18 : r_15.toInt = 0 := i_eq (rfl : r_15.toInt = r_15.toInt) (by decide : (0 : Int32).toInt = 0) c_18
              refine lv_iconst (v := (-1)) hx hb dX9_parts_43 (by decide) ?_
              have k_40 : ((-1) : Int32).toInt = (-1) := by decide
              exact hrt (-1) f_rletters f_rstack f_caps f_versions f_sharing ⟨hr_caps, hr_sharing⟩ hP hD hS rfl dX9_parts_44
set_option maxHeartbeats 16000000 in
set_option maxRecDepth 100000 in
theorem c_X9_whole (l : Launch) (D : va_G) (cy : Nat → ClassId) (hs : Nat → Nat) (hH hT sH sT : Nat) (v_tape_size v_band_walkers v_band_loads v_band_pieces v_rules_clauses v_reader_end v_reader_at v_reader_length v_reader_letter v_reader_fault v_draft_clauses v_paces_version v_packing_quicker v_packing_loads v_packing_looseCount v_marches_told v_marches_changeMinutes v_marches_marching v_marches_gone v_search_known v_search_countHere v_search_countThere v_search_cost v_search_most : Int32) (v_search_found : Int64) (f_bytes f_knee f_weight f_limps f_bheft f_owner f_food f_miles f_slope f_rsteps f_rkind f_ryields f_rholds f_rletters f_rstack f_dsteps f_dkind f_dyields f_dholds f_dletters f_dstack f_caps f_versions f_sharing f_pheft f_prow f_holder f_comes f_pcaps f_room f_loose f_reached f_mrow f_minutesOn f_mtired : Nat → Int32) (f_here f_there : Nat → Int64) (f_statesHere f_statesThere f_listed f_stired f_burdens f_pacesOn f_restedOn f_behindOn f_behindFor f_first f_second : Nat → Int32) (f_plans f_tiredOn : Nat → Nat → Int32) (tS : Nat) (sz : Nat) (i : Int32) (all : Int32) (what : Int32) (hb_v_band_walkers : 0 ≤ v_band_walkers.toInt ∧ v_band_walkers.toInt ≤ 6) (hb_v_band_loads : 0 ≤ v_band_loads.toInt ∧ v_band_loads.toInt ≤ 9) (hb_v_band_pieces : 0 ≤ v_band_pieces.toInt ∧ v_band_pieces.toInt ≤ 10) (hb_v_rules_clauses : 0 ≤ v_rules_clauses.toInt ∧ v_rules_clauses.toInt ≤ 14) (hb_v_packing_quicker : -1 ≤ v_packing_quicker.toInt ∧ v_packing_quicker.toInt ≤ 5) (hb_v_packing_loads : 0 ≤ v_packing_loads.toInt ∧ v_packing_loads.toInt ≤ 10) (hb_v_packing_looseCount : 0 ≤ v_packing_looseCount.toInt ∧ v_packing_looseCount.toInt ≤ 10) (hr_weight : rg (0) 250 f_weight) (hr_limps : rg (0) 1 f_limps) (hr_bheft : rg (0) 120 f_bheft) (hr_owner : rg (-1) 5 f_owner) (hr_food : rg (0) 20 f_food) (hr_miles : rg (0) 20 f_miles) (hr_caps : rg (-1) 400 f_caps) (hr_pheft : rg (0) 250 f_pheft) (hr_holder : rg (-1) 5 f_holder) (hr_comes : rg (0) 1 f_comes) (hr_pcaps : rg (0) 21899 f_pcaps) (hr_room : rg (-1000) 400 f_room) (hr_loose : rg (0) 9 f_loose) (hr_reached : rg (0) 3072 f_reached) : gMi l yX9_whole cX9_whole 6 .int 6 [.ref (hs 0), .int i, .int all, .int what] D cy (wSP cy hs hH hT sH sT v_tape_size v_band_walkers v_band_loads v_band_pieces v_rules_clauses v_reader_end v_reader_at v_reader_length v_reader_letter v_reader_fault v_draft_clauses v_paces_version v_packing_quicker v_packing_loads v_packing_looseCount v_marches_told v_marches_changeMinutes v_marches_marching v_marches_gone v_search_known v_search_countHere v_search_countThere v_search_cost v_search_most v_search_found f_bytes f_knee f_weight f_limps f_bheft f_owner f_food f_miles f_slope f_rsteps f_rkind f_ryields f_rholds f_rletters f_rstack f_dsteps f_dkind f_dyields f_dholds f_dletters f_dstack f_caps f_versions f_sharing f_pheft f_prow f_holder f_comes f_pcaps f_room f_loose f_reached f_mrow f_minutesOn f_mtired f_here f_there f_statesHere f_statesThere f_listed f_stired f_burdens f_pacesOn f_restedOn f_behindOn f_behindFor f_first f_second f_plans f_tiredOn) (NS tS) sz (fun (r : Int32) (u : Int32 × Int32 × Int32 × (Nat → Int32) × (Nat → Int32) × (Nat → Int32) × (Nat → Int32) × (Nat → Int32) × (Nat → Int32) × (Nat → Int32) × (Nat → Int32) × (Nat → Int32) × (Nat → Int32) × (Nat → Int32) × (Nat → Int32)) => (-1 ≤ (u.1).toInt ∧ (u.1).toInt ≤ 5) ∧ (0 ≤ (u.2.1).toInt ∧ (u.2.1).toInt ≤ 10) ∧ (0 ≤ (u.2.2.1).toInt ∧ (u.2.2.1).toInt ≤ 10) ∧ (rg (-1) 400 (u.2.2.2.2.2.1)) ∧ (rg (0) 250 (u.2.2.2.2.2.2.2.1)) ∧ (rg (-1) 5 (u.2.2.2.2.2.2.2.2.2.1)) ∧ (rg (0) 1 (u.2.2.2.2.2.2.2.2.2.2.1)) ∧ (rg (0) 21899 (u.2.2.2.2.2.2.2.2.2.2.2.1)) ∧ (rg (-1000) 400 (u.2.2.2.2.2.2.2.2.2.2.2.2.1)) ∧ (rg (0) 9 (u.2.2.2.2.2.2.2.2.2.2.2.2.2.1)) ∧ (rg (0) 3072 (u.2.2.2.2.2.2.2.2.2.2.2.2.2.2))) (fun u => wSP cy hs hH hT sH sT v_tape_size v_band_walkers v_band_loads v_band_pieces v_rules_clauses v_reader_end v_reader_at v_reader_length v_reader_letter v_reader_fault v_draft_clauses v_paces_version (u.1) (u.2.1) (u.2.2.1) v_marches_told v_marches_changeMinutes v_marches_marching v_marches_gone v_search_known v_search_countHere v_search_countThere v_search_cost v_search_most v_search_found f_bytes f_knee f_weight f_limps f_bheft f_owner f_food f_miles f_slope f_rsteps f_rkind f_ryields f_rholds (u.2.2.2.1) (u.2.2.2.2.1) f_dsteps f_dkind f_dyields f_dholds f_dletters f_dstack (u.2.2.2.2.2.1) (u.2.2.2.2.2.2.1) f_sharing (u.2.2.2.2.2.2.2.1) (u.2.2.2.2.2.2.2.2.1) (u.2.2.2.2.2.2.2.2.2.1) (u.2.2.2.2.2.2.2.2.2.2.1) (u.2.2.2.2.2.2.2.2.2.2.2.1) (u.2.2.2.2.2.2.2.2.2.2.2.2.1) (u.2.2.2.2.2.2.2.2.2.2.2.2.2.1) (u.2.2.2.2.2.2.2.2.2.2.2.2.2.2) f_mrow f_minutesOn f_mtired f_here f_there f_statesHere f_statesThere f_listed f_stired f_burdens f_pacesOn f_restedOn f_behindOn f_behindFor f_first f_second f_plans f_tiredOn) := by
  refine gMi_in (by decide) (Nat.le_of_ble_eq_true rfl) ?_
  intro p e s m args below meth c A ls Q hx hb hml hts hown hsz hP hK hD hN hAe hA hS hl hret
  subst hsz
  have hl : lv_has ls 6 [(0, .ref (hs 0)), (1, .int i), (2, .int all), (3, .int what)] := hl
  have hrt := fun (r : Int32) (v_packing_quicker' : Int32) (v_packing_loads' : Int32) (v_packing_looseCount' : Int32) (f_rletters' : Nat → Int32) (f_rstack' : Nat → Int32) (f_caps' : Nat → Int32) (f_versions' : Nat → Int32) (f_pheft' : Nat → Int32) (f_prow' : Nat → Int32) (f_holder' : Nat → Int32) (f_comes' : Nat → Int32) (f_pcaps' : Nat → Int32) (f_room' : Nat → Int32) (f_loose' : Nat → Int32) (f_reached' : Nat → Int32) (hp : (-1 ≤ v_packing_quicker'.toInt ∧ v_packing_quicker'.toInt ≤ 5) ∧ (0 ≤ v_packing_loads'.toInt ∧ v_packing_loads'.toInt ≤ 10) ∧ (0 ≤ v_packing_looseCount'.toInt ∧ v_packing_looseCount'.toInt ≤ 10) ∧ (rg (-1) 400 f_caps') ∧ (rg (0) 250 f_pheft') ∧ (rg (-1) 5 f_holder') ∧ (rg (0) 1 f_comes') ∧ (rg (0) 21899 f_pcaps') ∧ (rg (-1000) 400 f_room') ∧ (rg (0) 9 f_loose') ∧ (rg (0) 3072 f_reached')) {H : Heap} {locs : List Loc} {pc : Nat} {ls : Array Slot} => hret r (v_packing_quicker', v_packing_loads', v_packing_looseCount', f_rletters', f_rstack', f_caps', f_versions', f_pheft', f_prow', f_holder', f_comes', f_pcaps', f_room', f_loose', f_reached') (H := H) (locs := locs) (pc := pc) (ls := ls) hp
  clear hret
  refine lv_iload_n hx hb dX9_whole_0 rfl (lv_at hl 3 rfl) ?_
  refine lv_iconst (v := (-1)) hx hb dX9_whole_1 (by decide) ?_
  refine lv_icmp_eq (tgt := 22) hx hb dX9_whole_2 (by decide) (fun c_1 => ?_) (fun c_1 => ?_)
  · have gc_1 : what.toInt = (-1) := i_eq (rfl : what.toInt = what.toInt) (by decide : ((-1) : Int32).toInt = (-1)) c_1
    refine lv_iconst (v := 1) hx hb dX9_whole_22 (by decide) ?_
    refine lv_goto (tgt := 27) hx hb dX9_whole_23 (by decide) ?_
    refine lv_istore (lv' := [(4, .int 1), (0, .ref (hs 0)), (1, .int i), (2, .int all), (3, .int what)]) hx hb dX9_whole_27 hl (by decide) rfl (fun ls hl => ?_)
    refine lv_iload hx hb dX9_whole_29 (lv_at hl 0 rfl) ?_
    refine lv_if_eq (tgt := 43) hx hb dX9_whole_31 (by decide) (fun c_2 => ?_) (fun c_2 => ?_)
    · exact absurd c_2 (by decide)
    · skip
      refine lv_aload_n hx hb dX9_whole_34 rfl (lv_at hl 1 rfl) ?_
      refine lv_iload_n hx hb dX9_whole_35 rfl (lv_at hl 2 rfl) ?_
      refine lv_iload_n hx hb dX9_whole_36 rfl (lv_at hl 3 rfl) ?_
      refine xi hD hS hA (xV (As := [.int i, .int all]) (rest := []) hx hb hml hown hts hK hP hD hS hA NS_ok hN hAe hl.1 ⟨Nat.le_refl _, Nat.le_refl _⟩ 0 rfl rfl rfl (c_X9_standsOn l D cy hs hH hT sH sT v_tape_size v_band_walkers v_band_loads v_band_pieces v_rules_clauses v_reader_end v_reader_at v_reader_length v_reader_letter v_reader_fault v_draft_clauses v_paces_version v_packing_quicker v_packing_loads v_packing_looseCount v_marches_told v_marches_changeMinutes v_marches_marching v_marches_gone v_search_known v_search_countHere v_search_countThere v_search_cost v_search_most v_search_found f_bytes f_knee f_weight f_limps f_bheft f_owner f_food f_miles f_slope f_rsteps f_rkind f_ryields f_rholds f_rletters f_rstack f_dsteps f_dkind f_dyields f_dholds f_dletters f_dstack f_caps f_versions f_sharing f_pheft f_prow f_holder f_comes f_pcaps f_room f_loose f_reached f_mrow f_minutesOn f_mtired f_here f_there f_statesHere f_statesThere f_listed f_stired f_burdens f_pacesOn f_restedOn f_behindOn f_behindFor f_first f_second f_plans f_tiredOn tS s.heap.size i all (by omega) (by omega)) (gi_V lwd_616 lwd_617 lwd_618 lwd_2 lwd_619) ⟨rfl, hd_X9_standsOn⟩ ⟨Nat.le_of_ble_eq_true rfl, Nat.le_of_ble_eq_true rfl⟩ rfl (Nat.le_of_ble_eq_true rfl) dX9_whole_37) (fun r_4 u_3 H locs hw hP hD hS => ?_)
      try dsimp only at hw hP hD
      obtain ⟨p_5, p_6⟩ := hw
      refine lv_if_ne (tgt := 46) hx hb dX9_whole_40 (by decide) (fun c_7 => ?_) (fun c_7 => ?_)
      · have gc_7 : r_4.toInt ≠ 0 := i_ne (rfl : r_4.toInt = r_4.toInt) (by decide : (0 : Int32).toInt = 0) c_7
        refine lv_aload_n hx hb dX9_whole_46 rfl (lv_at hl 1 rfl) ?_
        refine gt_SP_SP_packing hx hb hts hown hK hP lwd_35 dX9_whole_47 ?_
        refine lv_iload_n hx hb dX9_whole_50 rfl (lv_at hl 2 rfl) ?_
        refine lv_iload_n hx hb dX9_whole_51 rfl (lv_at hl 3 rfl) ?_
        refine xv hD hS hA (xV (As := [.int i, .int all]) (rest := []) hx hb hml hown hts hK hP hD hS hA NS_ok hN hAe hl.1 ⟨Nat.le_refl _, Nat.le_refl _⟩ 31 rfl rfl rfl (c_X4_begin l D cy hs hH hT sH sT v_tape_size v_band_walkers v_band_loads v_band_pieces v_rules_clauses v_reader_end v_reader_at v_reader_length v_reader_letter v_reader_fault v_draft_clauses v_paces_version v_packing_quicker v_packing_loads v_packing_looseCount v_marches_told v_marches_changeMinutes v_marches_marching v_marches_gone v_search_known v_search_countHere v_search_countThere v_search_cost v_search_most v_search_found f_bytes f_knee f_weight f_limps f_bheft f_owner f_food f_miles f_slope f_rsteps f_rkind f_ryields f_rholds f_rletters f_rstack f_dsteps f_dkind f_dyields f_dholds f_dletters f_dstack f_caps f_versions f_sharing f_pheft f_prow f_holder f_comes f_pcaps f_room f_loose f_reached f_mrow f_minutesOn f_mtired f_here f_there f_statesHere f_statesThere f_listed f_stired f_burdens f_pacesOn f_restedOn f_behindOn f_behindFor f_first f_second f_plans f_tiredOn tS H.size i all (by omega) (by omega) (by omega) (by omega) (by omega) hr_weight hr_limps hr_bheft hr_owner hr_food hr_miles hr_caps hr_pheft hr_holder hr_comes hr_pcaps (by omega) (by omega)) (gi_V lwd_682 lwd_683 lwd_684 lwd_34 lwd_685) ⟨rfl, hd_X4_begin⟩ ⟨Nat.le_of_ble_eq_true rfl, Nat.le_of_ble_eq_true rfl⟩ rfl (Nat.le_of_ble_eq_true rfl) dX9_whole_52) (fun u_8 H locs hw hP hD hS => ?_)
        obtain ⟨zpacking_quicker_10, zpacking_loads_11, zrletters_12, zrstack_13, zcaps_14, zversions_15, zpheft_16, zholder_17, zcomes_18, zpcaps_19⟩ := u_8
        try dsimp only at hw hP hD
        obtain ⟨p_20, p_21, p_22, p_23, p_24, p_25, p_26, p_27⟩ := hw
        refine lv_aload_n hx hb dX9_whole_55 rfl (lv_at hl 1 rfl) ?_
        refine gt_SP_SP_packing hx hb hts hown hK hP lwd_35 dX9_whole_56 ?_
        refine xi hD hS hA (xV (As := []) (rest := []) hx hb hml hown hts hK hP hD hS hA NS_ok hN hAe hl.1 ⟨Nat.le_refl _, Nat.le_refl _⟩ 31 rfl rfl rfl (c_X4_greatest l D cy hs hH hT sH sT v_tape_size v_band_walkers v_band_loads v_band_pieces v_rules_clauses v_reader_end v_reader_at v_reader_length v_reader_letter v_reader_fault v_draft_clauses v_paces_version zpacking_quicker_10 zpacking_loads_11 v_packing_looseCount v_marches_told v_marches_changeMinutes v_marches_marching v_marches_gone v_search_known v_search_countHere v_search_countThere v_search_cost v_search_most v_search_found f_bytes f_knee f_weight f_limps f_bheft f_owner f_food f_miles f_slope f_rsteps f_rkind f_ryields f_rholds zrletters_12 zrstack_13 f_dsteps f_dkind f_dyields f_dholds f_dletters f_dstack zcaps_14 zversions_15 f_sharing zpheft_16 f_prow zholder_17 zcomes_18 zpcaps_19 f_room f_loose f_reached f_mrow f_minutesOn f_mtired f_here f_there f_statesHere f_statesThere f_listed f_stired f_burdens f_pacesOn f_restedOn f_behindOn f_behindFor f_first f_second f_plans f_tiredOn tS H.size (by omega) (by omega) (by omega) p_23 p_24 p_25 p_26 p_27 hr_room hr_loose hr_reached) (gi_V lwd_697 lwd_698 lwd_699 lwd_34 lwd_700) ⟨rfl, hd_X4_greatest⟩ ⟨Nat.le_of_ble_eq_true rfl, Nat.le_of_ble_eq_true rfl⟩ rfl (Nat.le_of_ble_eq_true rfl) dX9_whole_59) (fun r_29 u_28 H locs hw hP hD hS => ?_)
        obtain ⟨zpacking_looseCount_30, zroom_31, zloose_32, zreached_33⟩ := u_28
        try dsimp only at hw hP hD
        obtain ⟨p_34, p_35, p_36, p_37, p_38⟩ := hw
        refine lv_istore (lv' := [(5, .int r_29), (4, .int 1), (0, .ref (hs 0)), (1, .int i), (2, .int all), (3, .int what)]) hx hb dX9_whole_62 hl (by decide) rfl (fun ls hl => ?_)
        refine lv_iload_n hx hb dX9_whole_64 rfl (lv_at hl 5 rfl) ?_
        refine lv_iconst (v := (-1)) hx hb dX9_whole_65 (by decide) ?_
        refine lv_icmp_ne (tgt := 72) hx hb dX9_whole_66 (by decide) (fun c_39 => ?_) (fun c_39 => ?_)
        · have gc_39 : what.toInt ≠ (-1) := i_ne (rfl : what.toInt = what.toInt) (by decide : ((-1) : Int32).toInt = (-1)) c_39
          exact absurd gc_39 (by omega)
        · have gc_39 : what.toInt = (-1) := i_eq (rfl : what.toInt = what.toInt) (by decide : ((-1) : Int32).toInt = (-1)) c_39
          refine lv_iload hx hb dX9_whole_69 (lv_at hl 0 rfl) ?_
          exact hrt r_29 zpacking_quicker_10 zpacking_loads_11 zpacking_looseCount_30 zrletters_12 zrstack_13 zcaps_14 zversions_15 zpheft_16 f_prow zholder_17 zcomes_18 zpcaps_19 zroom_31 zloose_32 zreached_33 ⟨(by omega), (by omega), (by omega), p_23, p_24, p_25, p_26, p_27, p_36, p_37, p_38⟩ hP hD hS rfl dX9_whole_71
      · have gc_7 : r_4.toInt = 0 := i_eq (rfl : r_4.toInt = r_4.toInt) (by decide : (0 : Int32).toInt = 0) c_7
        refine lv_bipush (v := (-3)) hx hb dX9_whole_43 (by decide) ?_
        have k_40 : ((-3) : Int32).toInt = (-3) := by decide
        exact hrt (-3) v_packing_quicker v_packing_loads v_packing_looseCount f_rletters f_rstack f_caps f_versions f_pheft f_prow f_holder f_comes f_pcaps f_room f_loose f_reached ⟨(by omega), (by omega), (by omega), hr_caps, hr_pheft, hr_holder, hr_comes, hr_pcaps, hr_room, hr_loose, hr_reached⟩ hP hD hS rfl dX9_whole_45
  · have gc_1 : what.toInt ≠ (-1) := i_ne (rfl : what.toInt = what.toInt) (by decide : ((-1) : Int32).toInt = (-1)) c_1
    refine lv_iload_n hx hb dX9_whole_5 rfl (lv_at hl 3 rfl) ?_
    refine lv_bipush (v := 9) hx hb dX9_whole_6 (by decide) ?_
    refine lv_icmp_eq (tgt := 22) hx hb dX9_whole_8 (by decide) (fun c_41 => ?_) (fun c_41 => ?_)
    · have gc_41 : what.toInt = 9 := i_eq (rfl : what.toInt = what.toInt) (by decide : (9 : Int32).toInt = 9) c_41
      refine lv_iconst (v := 1) hx hb dX9_whole_22 (by decide) ?_
      refine lv_goto (tgt := 27) hx hb dX9_whole_23 (by decide) ?_
      refine lv_istore (lv' := [(4, .int 1), (0, .ref (hs 0)), (1, .int i), (2, .int all), (3, .int what)]) hx hb dX9_whole_27 hl (by decide) rfl (fun ls hl => ?_)
      refine lv_iload hx hb dX9_whole_29 (lv_at hl 0 rfl) ?_
      refine lv_if_eq (tgt := 43) hx hb dX9_whole_31 (by decide) (fun c_42 => ?_) (fun c_42 => ?_)
      · exact absurd c_42 (by decide)
      · skip
        refine lv_aload_n hx hb dX9_whole_34 rfl (lv_at hl 1 rfl) ?_
        refine lv_iload_n hx hb dX9_whole_35 rfl (lv_at hl 2 rfl) ?_
        refine lv_iload_n hx hb dX9_whole_36 rfl (lv_at hl 3 rfl) ?_
        refine xi hD hS hA (xV (As := [.int i, .int all]) (rest := []) hx hb hml hown hts hK hP hD hS hA NS_ok hN hAe hl.1 ⟨Nat.le_refl _, Nat.le_refl _⟩ 0 rfl rfl rfl (c_X9_standsOn l D cy hs hH hT sH sT v_tape_size v_band_walkers v_band_loads v_band_pieces v_rules_clauses v_reader_end v_reader_at v_reader_length v_reader_letter v_reader_fault v_draft_clauses v_paces_version v_packing_quicker v_packing_loads v_packing_looseCount v_marches_told v_marches_changeMinutes v_marches_marching v_marches_gone v_search_known v_search_countHere v_search_countThere v_search_cost v_search_most v_search_found f_bytes f_knee f_weight f_limps f_bheft f_owner f_food f_miles f_slope f_rsteps f_rkind f_ryields f_rholds f_rletters f_rstack f_dsteps f_dkind f_dyields f_dholds f_dletters f_dstack f_caps f_versions f_sharing f_pheft f_prow f_holder f_comes f_pcaps f_room f_loose f_reached f_mrow f_minutesOn f_mtired f_here f_there f_statesHere f_statesThere f_listed f_stired f_burdens f_pacesOn f_restedOn f_behindOn f_behindFor f_first f_second f_plans f_tiredOn tS s.heap.size i all (by omega) (by omega)) (gi_V lwd_616 lwd_617 lwd_618 lwd_2 lwd_619) ⟨rfl, hd_X9_standsOn⟩ ⟨Nat.le_of_ble_eq_true rfl, Nat.le_of_ble_eq_true rfl⟩ rfl (Nat.le_of_ble_eq_true rfl) dX9_whole_37) (fun r_44 u_43 H locs hw hP hD hS => ?_)
        try dsimp only at hw hP hD
        obtain ⟨p_45, p_46⟩ := hw
        refine lv_if_ne (tgt := 46) hx hb dX9_whole_40 (by decide) (fun c_47 => ?_) (fun c_47 => ?_)
        · have gc_47 : r_44.toInt ≠ 0 := i_ne (rfl : r_44.toInt = r_44.toInt) (by decide : (0 : Int32).toInt = 0) c_47
          refine lv_aload_n hx hb dX9_whole_46 rfl (lv_at hl 1 rfl) ?_
          refine gt_SP_SP_packing hx hb hts hown hK hP lwd_35 dX9_whole_47 ?_
          refine lv_iload_n hx hb dX9_whole_50 rfl (lv_at hl 2 rfl) ?_
          refine lv_iload_n hx hb dX9_whole_51 rfl (lv_at hl 3 rfl) ?_
          refine xv hD hS hA (xV (As := [.int i, .int all]) (rest := []) hx hb hml hown hts hK hP hD hS hA NS_ok hN hAe hl.1 ⟨Nat.le_refl _, Nat.le_refl _⟩ 31 rfl rfl rfl (c_X4_begin l D cy hs hH hT sH sT v_tape_size v_band_walkers v_band_loads v_band_pieces v_rules_clauses v_reader_end v_reader_at v_reader_length v_reader_letter v_reader_fault v_draft_clauses v_paces_version v_packing_quicker v_packing_loads v_packing_looseCount v_marches_told v_marches_changeMinutes v_marches_marching v_marches_gone v_search_known v_search_countHere v_search_countThere v_search_cost v_search_most v_search_found f_bytes f_knee f_weight f_limps f_bheft f_owner f_food f_miles f_slope f_rsteps f_rkind f_ryields f_rholds f_rletters f_rstack f_dsteps f_dkind f_dyields f_dholds f_dletters f_dstack f_caps f_versions f_sharing f_pheft f_prow f_holder f_comes f_pcaps f_room f_loose f_reached f_mrow f_minutesOn f_mtired f_here f_there f_statesHere f_statesThere f_listed f_stired f_burdens f_pacesOn f_restedOn f_behindOn f_behindFor f_first f_second f_plans f_tiredOn tS H.size i all (by omega) (by omega) (by omega) (by omega) (by omega) hr_weight hr_limps hr_bheft hr_owner hr_food hr_miles hr_caps hr_pheft hr_holder hr_comes hr_pcaps (by omega) (by omega)) (gi_V lwd_682 lwd_683 lwd_684 lwd_34 lwd_685) ⟨rfl, hd_X4_begin⟩ ⟨Nat.le_of_ble_eq_true rfl, Nat.le_of_ble_eq_true rfl⟩ rfl (Nat.le_of_ble_eq_true rfl) dX9_whole_52) (fun u_48 H locs hw hP hD hS => ?_)
          obtain ⟨zpacking_quicker_50, zpacking_loads_51, zrletters_52, zrstack_53, zcaps_54, zversions_55, zpheft_56, zholder_57, zcomes_58, zpcaps_59⟩ := u_48
          try dsimp only at hw hP hD
          obtain ⟨p_60, p_61, p_62, p_63, p_64, p_65, p_66, p_67⟩ := hw
          refine lv_aload_n hx hb dX9_whole_55 rfl (lv_at hl 1 rfl) ?_
          refine gt_SP_SP_packing hx hb hts hown hK hP lwd_35 dX9_whole_56 ?_
          refine xi hD hS hA (xV (As := []) (rest := []) hx hb hml hown hts hK hP hD hS hA NS_ok hN hAe hl.1 ⟨Nat.le_refl _, Nat.le_refl _⟩ 31 rfl rfl rfl (c_X4_greatest l D cy hs hH hT sH sT v_tape_size v_band_walkers v_band_loads v_band_pieces v_rules_clauses v_reader_end v_reader_at v_reader_length v_reader_letter v_reader_fault v_draft_clauses v_paces_version zpacking_quicker_50 zpacking_loads_51 v_packing_looseCount v_marches_told v_marches_changeMinutes v_marches_marching v_marches_gone v_search_known v_search_countHere v_search_countThere v_search_cost v_search_most v_search_found f_bytes f_knee f_weight f_limps f_bheft f_owner f_food f_miles f_slope f_rsteps f_rkind f_ryields f_rholds zrletters_52 zrstack_53 f_dsteps f_dkind f_dyields f_dholds f_dletters f_dstack zcaps_54 zversions_55 f_sharing zpheft_56 f_prow zholder_57 zcomes_58 zpcaps_59 f_room f_loose f_reached f_mrow f_minutesOn f_mtired f_here f_there f_statesHere f_statesThere f_listed f_stired f_burdens f_pacesOn f_restedOn f_behindOn f_behindFor f_first f_second f_plans f_tiredOn tS H.size (by omega) (by omega) (by omega) p_63 p_64 p_65 p_66 p_67 hr_room hr_loose hr_reached) (gi_V lwd_697 lwd_698 lwd_699 lwd_34 lwd_700) ⟨rfl, hd_X4_greatest⟩ ⟨Nat.le_of_ble_eq_true rfl, Nat.le_of_ble_eq_true rfl⟩ rfl (Nat.le_of_ble_eq_true rfl) dX9_whole_59) (fun r_69 u_68 H locs hw hP hD hS => ?_)
          obtain ⟨zpacking_looseCount_70, zroom_71, zloose_72, zreached_73⟩ := u_68
          try dsimp only at hw hP hD
          obtain ⟨p_74, p_75, p_76, p_77, p_78⟩ := hw
          refine lv_istore (lv' := [(5, .int r_69), (4, .int 1), (0, .ref (hs 0)), (1, .int i), (2, .int all), (3, .int what)]) hx hb dX9_whole_62 hl (by decide) rfl (fun ls hl => ?_)
          refine lv_iload_n hx hb dX9_whole_64 rfl (lv_at hl 5 rfl) ?_
          refine lv_iconst (v := (-1)) hx hb dX9_whole_65 (by decide) ?_
          refine lv_icmp_ne (tgt := 72) hx hb dX9_whole_66 (by decide) (fun c_79 => ?_) (fun c_79 => ?_)
          · have gc_79 : what.toInt ≠ (-1) := i_ne (rfl : what.toInt = what.toInt) (by decide : ((-1) : Int32).toInt = (-1)) c_79
            refine lv_iload hx hb dX9_whole_72 (lv_at hl 0 rfl) ?_
            refine lv_if_ne (tgt := 80) hx hb dX9_whole_74 (by decide) (fun c_80 => ?_) (fun c_80 => ?_)
            · have gc_80 : r_69.toInt ≠ 0 := i_ne (rfl : r_69.toInt = r_69.toInt) (by decide : (0 : Int32).toInt = 0) c_80
              refine lv_iload_n hx hb dX9_whole_80 rfl (lv_at hl 5 rfl) ?_
              refine lv_bipush (v := 9) hx hb dX9_whole_81 (by decide) ?_
              refine lv_icmp_ne (tgt := 97) hx hb dX9_whole_83 (by decide) (fun c_81 => ?_) (fun c_81 => ?_)
              · have gc_81 : what.toInt ≠ 9 := i_ne (rfl : what.toInt = what.toInt) (by decide : (9 : Int32).toInt = 9) c_81
                exact absurd gc_81 (by omega)
              · have gc_81 : what.toInt = 9 := i_eq (rfl : what.toInt = what.toInt) (by decide : (9 : Int32).toInt = 9) c_81
                refine lv_aload_n hx hb dX9_whole_86 rfl (lv_at hl 2 rfl) ?_
                refine gt_SP_SP_band hx hb hts hown hK hP lwd_19 dX9_whole_87 ?_
                refine lv_iload_n hx hb dX9_whole_90 rfl (lv_at hl 3 rfl) ?_
                refine lv_iload hx hb dX9_whole_91 (lv_at hl 0 rfl) ?_
                refine xi hD hS hA (xV (As := [.int i, .int r_69]) (rest := []) hx hb hml hown hts hK hP hD hS hA NS_ok hN hAe hl.1 ⟨Nat.le_refl _, Nat.le_refl _⟩ 3 rfl rfl rfl (c_X0_minutes l D cy hs hH hT sH sT v_tape_size v_band_walkers v_band_loads v_band_pieces v_rules_clauses v_reader_end v_reader_at v_reader_length v_reader_letter v_reader_fault v_draft_clauses v_paces_version zpacking_quicker_50 zpacking_loads_51 zpacking_looseCount_70 v_marches_told v_marches_changeMinutes v_marches_marching v_marches_gone v_search_known v_search_countHere v_search_countThere v_search_cost v_search_most v_search_found f_bytes f_knee f_weight f_limps f_bheft f_owner f_food f_miles f_slope f_rsteps f_rkind f_ryields f_rholds zrletters_52 zrstack_53 f_dsteps f_dkind f_dyields f_dholds f_dletters f_dstack zcaps_54 zversions_55 f_sharing zpheft_56 f_prow zholder_57 zcomes_58 zpcaps_59 zroom_71 zloose_72 zreached_73 f_mrow f_minutesOn f_mtired f_here f_there f_statesHere f_statesThere f_listed f_stired f_burdens f_pacesOn f_restedOn f_behindOn f_behindFor f_first f_second f_plans f_tiredOn tS H.size i r_69 hr_miles (by omega)) (gi_V lwd_634 lwd_635 lwd_636 lwd_18 lwd_637) ⟨rfl, hd_X0_minutes⟩ ⟨Nat.le_of_ble_eq_true rfl, Nat.le_of_ble_eq_true rfl⟩ rfl (Nat.le_of_ble_eq_true rfl) dX9_whole_93) (fun r_83 u_82 H locs hw hP hD hS => ?_)
                try dsimp only at hw hP hD
                clear hw
                exact hrt r_83 zpacking_quicker_50 zpacking_loads_51 zpacking_looseCount_70 zrletters_52 zrstack_53 zcaps_54 zversions_55 zpheft_56 f_prow zholder_57 zcomes_58 zpcaps_59 zroom_71 zloose_72 zreached_73 ⟨(by omega), (by omega), (by omega), p_63, p_64, p_65, p_66, p_67, p_76, p_77, p_78⟩ hP hD hS rfl dX9_whole_96
            · have gc_80 : r_69.toInt = 0 := i_eq (rfl : r_69.toInt = r_69.toInt) (by decide : (0 : Int32).toInt = 0) c_80
              refine lv_bipush (v := (-2)) hx hb dX9_whole_77 (by decide) ?_
              have k_84 : ((-2) : Int32).toInt = (-2) := by decide
              exact hrt (-2) zpacking_quicker_50 zpacking_loads_51 zpacking_looseCount_70 zrletters_52 zrstack_53 zcaps_54 zversions_55 zpheft_56 f_prow zholder_57 zcomes_58 zpcaps_59 zroom_71 zloose_72 zreached_73 ⟨(by omega), (by omega), (by omega), p_63, p_64, p_65, p_66, p_67, p_76, p_77, p_78⟩ hP hD hS rfl dX9_whole_79
          · have gc_79 : what.toInt = (-1) := i_eq (rfl : what.toInt = what.toInt) (by decide : ((-1) : Int32).toInt = (-1)) c_79
            exact absurd gc_79 (by omega)
        · have gc_47 : r_44.toInt = 0 := i_eq (rfl : r_44.toInt = r_44.toInt) (by decide : (0 : Int32).toInt = 0) c_47
          refine lv_bipush (v := (-3)) hx hb dX9_whole_43 (by decide) ?_
          have k_85 : ((-3) : Int32).toInt = (-3) := by decide
          exact hrt (-3) v_packing_quicker v_packing_loads v_packing_looseCount f_rletters f_rstack f_caps f_versions f_pheft f_prow f_holder f_comes f_pcaps f_room f_loose f_reached ⟨(by omega), (by omega), (by omega), hr_caps, hr_pheft, hr_holder, hr_comes, hr_pcaps, hr_room, hr_loose, hr_reached⟩ hP hD hS rfl dX9_whole_45
    · have gc_41 : what.toInt ≠ 9 := i_ne (rfl : what.toInt = what.toInt) (by decide : (9 : Int32).toInt = 9) c_41
      refine lv_aload_n hx hb dX9_whole_11 rfl (lv_at hl 0 rfl) ?_
      refine gt_SP_SP_band hx hb hts hown hK hP lwd_19 dX9_whole_12 ?_
      refine lv_iload_n hx hb dX9_whole_15 rfl (lv_at hl 3 rfl) ?_
      refine xi hD hS hA (xV (As := [.int what]) (rest := []) hx hb hml hown hts hK hP hD hS hA NS_ok hN hAe hl.1 ⟨Nat.le_refl _, Nat.le_refl _⟩ 3 rfl rfl rfl (c_X0_hasLoad l D cy hs hH hT sH sT v_tape_size v_band_walkers v_band_loads v_band_pieces v_rules_clauses v_reader_end v_reader_at v_reader_length v_reader_letter v_reader_fault v_draft_clauses v_paces_version v_packing_quicker v_packing_loads v_packing_looseCount v_marches_told v_marches_changeMinutes v_marches_marching v_marches_gone v_search_known v_search_countHere v_search_countThere v_search_cost v_search_most v_search_found f_bytes f_knee f_weight f_limps f_bheft f_owner f_food f_miles f_slope f_rsteps f_rkind f_ryields f_rholds f_rletters f_rstack f_dsteps f_dkind f_dyields f_dholds f_dletters f_dstack f_caps f_versions f_sharing f_pheft f_prow f_holder f_comes f_pcaps f_room f_loose f_reached f_mrow f_minutesOn f_mtired f_here f_there f_statesHere f_statesThere f_listed f_stired f_burdens f_pacesOn f_restedOn f_behindOn f_behindFor f_first f_second f_plans f_tiredOn tS s.heap.size what (by omega)) (gi_V lwd_677 lwd_678 lwd_679 lwd_18 lwd_680) ⟨rfl, hd_X0_hasLoad⟩ ⟨Nat.le_of_ble_eq_true rfl, Nat.le_of_ble_eq_true rfl⟩ rfl (Nat.le_of_ble_eq_true rfl) dX9_whole_16) (fun r_87 u_86 H locs hw hP hD hS => ?_)
      try dsimp only at hw hP hD
      obtain ⟨p_88, p_89⟩ := hw
      refine lv_if_eq (tgt := 26) hx hb dX9_whole_19 (by decide) (fun c_90 => ?_) (fun c_90 => ?_)
      · have gc_90 : r_87.toInt = 0 := i_eq (rfl : r_87.toInt = r_87.toInt) (by decide : (0 : Int32).toInt = 0) c_90
        refine lv_iconst (v := 0) hx hb dX9_whole_26 (by decide) ?_
        refine lv_istore (lv' := [(4, .int 0), (0, .ref (hs 0)), (1, .int i), (2, .int all), (3, .int what)]) hx hb dX9_whole_27 hl (by decide) rfl (fun ls hl => ?_)
        refine lv_iload hx hb dX9_whole_29 (lv_at hl 0 rfl) ?_
        refine lv_if_eq (tgt := 43) hx hb dX9_whole_31 (by decide) (fun c_91 => ?_) (fun c_91 => ?_)
        · skip
          refine lv_bipush (v := (-3)) hx hb dX9_whole_43 (by decide) ?_
          have k_92 : ((-3) : Int32).toInt = (-3) := by decide
          exact hrt (-3) v_packing_quicker v_packing_loads v_packing_looseCount f_rletters f_rstack f_caps f_versions f_pheft f_prow f_holder f_comes f_pcaps f_room f_loose f_reached ⟨(by omega), (by omega), (by omega), hr_caps, hr_pheft, hr_holder, hr_comes, hr_pcaps, hr_room, hr_loose, hr_reached⟩ hP hD hS rfl dX9_whole_45
        · exact absurd c_91 (by decide)
      · have gc_90 : r_87.toInt ≠ 0 := i_ne (rfl : r_87.toInt = r_87.toInt) (by decide : (0 : Int32).toInt = 0) c_90
        refine lv_iconst (v := 1) hx hb dX9_whole_22 (by decide) ?_
        refine lv_goto (tgt := 27) hx hb dX9_whole_23 (by decide) ?_
        refine lv_istore (lv' := [(4, .int 1), (0, .ref (hs 0)), (1, .int i), (2, .int all), (3, .int what)]) hx hb dX9_whole_27 hl (by decide) rfl (fun ls hl => ?_)
        refine lv_iload hx hb dX9_whole_29 (lv_at hl 0 rfl) ?_
        refine lv_if_eq (tgt := 43) hx hb dX9_whole_31 (by decide) (fun c_93 => ?_) (fun c_93 => ?_)
        · exact absurd c_93 (by decide)
        · skip
          refine lv_aload_n hx hb dX9_whole_34 rfl (lv_at hl 1 rfl) ?_
          refine lv_iload_n hx hb dX9_whole_35 rfl (lv_at hl 2 rfl) ?_
          refine lv_iload_n hx hb dX9_whole_36 rfl (lv_at hl 3 rfl) ?_
          refine xi hD hS hA (xV (As := [.int i, .int all]) (rest := []) hx hb hml hown hts hK hP hD hS hA NS_ok hN hAe hl.1 ⟨Nat.le_refl _, Nat.le_refl _⟩ 0 rfl rfl rfl (c_X9_standsOn l D cy hs hH hT sH sT v_tape_size v_band_walkers v_band_loads v_band_pieces v_rules_clauses v_reader_end v_reader_at v_reader_length v_reader_letter v_reader_fault v_draft_clauses v_paces_version v_packing_quicker v_packing_loads v_packing_looseCount v_marches_told v_marches_changeMinutes v_marches_marching v_marches_gone v_search_known v_search_countHere v_search_countThere v_search_cost v_search_most v_search_found f_bytes f_knee f_weight f_limps f_bheft f_owner f_food f_miles f_slope f_rsteps f_rkind f_ryields f_rholds f_rletters f_rstack f_dsteps f_dkind f_dyields f_dholds f_dletters f_dstack f_caps f_versions f_sharing f_pheft f_prow f_holder f_comes f_pcaps f_room f_loose f_reached f_mrow f_minutesOn f_mtired f_here f_there f_statesHere f_statesThere f_listed f_stired f_burdens f_pacesOn f_restedOn f_behindOn f_behindFor f_first f_second f_plans f_tiredOn tS H.size i all (by omega) (by omega)) (gi_V lwd_616 lwd_617 lwd_618 lwd_2 lwd_619) ⟨rfl, hd_X9_standsOn⟩ ⟨Nat.le_of_ble_eq_true rfl, Nat.le_of_ble_eq_true rfl⟩ rfl (Nat.le_of_ble_eq_true rfl) dX9_whole_37) (fun r_95 u_94 H locs hw hP hD hS => ?_)
          try dsimp only at hw hP hD
          obtain ⟨p_96, p_97⟩ := hw
          refine lv_if_ne (tgt := 46) hx hb dX9_whole_40 (by decide) (fun c_98 => ?_) (fun c_98 => ?_)
          · have gc_98 : r_95.toInt ≠ 0 := i_ne (rfl : r_95.toInt = r_95.toInt) (by decide : (0 : Int32).toInt = 0) c_98
            refine lv_aload_n hx hb dX9_whole_46 rfl (lv_at hl 1 rfl) ?_
            refine gt_SP_SP_packing hx hb hts hown hK hP lwd_35 dX9_whole_47 ?_
            refine lv_iload_n hx hb dX9_whole_50 rfl (lv_at hl 2 rfl) ?_
            refine lv_iload_n hx hb dX9_whole_51 rfl (lv_at hl 3 rfl) ?_
            refine xv hD hS hA (xV (As := [.int i, .int all]) (rest := []) hx hb hml hown hts hK hP hD hS hA NS_ok hN hAe hl.1 ⟨Nat.le_refl _, Nat.le_refl _⟩ 31 rfl rfl rfl (c_X4_begin l D cy hs hH hT sH sT v_tape_size v_band_walkers v_band_loads v_band_pieces v_rules_clauses v_reader_end v_reader_at v_reader_length v_reader_letter v_reader_fault v_draft_clauses v_paces_version v_packing_quicker v_packing_loads v_packing_looseCount v_marches_told v_marches_changeMinutes v_marches_marching v_marches_gone v_search_known v_search_countHere v_search_countThere v_search_cost v_search_most v_search_found f_bytes f_knee f_weight f_limps f_bheft f_owner f_food f_miles f_slope f_rsteps f_rkind f_ryields f_rholds f_rletters f_rstack f_dsteps f_dkind f_dyields f_dholds f_dletters f_dstack f_caps f_versions f_sharing f_pheft f_prow f_holder f_comes f_pcaps f_room f_loose f_reached f_mrow f_minutesOn f_mtired f_here f_there f_statesHere f_statesThere f_listed f_stired f_burdens f_pacesOn f_restedOn f_behindOn f_behindFor f_first f_second f_plans f_tiredOn tS H.size i all (by omega) (by omega) (by omega) (by omega) (by omega) hr_weight hr_limps hr_bheft hr_owner hr_food hr_miles hr_caps hr_pheft hr_holder hr_comes hr_pcaps (by omega) (by omega)) (gi_V lwd_682 lwd_683 lwd_684 lwd_34 lwd_685) ⟨rfl, hd_X4_begin⟩ ⟨Nat.le_of_ble_eq_true rfl, Nat.le_of_ble_eq_true rfl⟩ rfl (Nat.le_of_ble_eq_true rfl) dX9_whole_52) (fun u_99 H locs hw hP hD hS => ?_)
            obtain ⟨zpacking_quicker_101, zpacking_loads_102, zrletters_103, zrstack_104, zcaps_105, zversions_106, zpheft_107, zholder_108, zcomes_109, zpcaps_110⟩ := u_99
            try dsimp only at hw hP hD
            obtain ⟨p_111, p_112, p_113, p_114, p_115, p_116, p_117, p_118⟩ := hw
            refine lv_aload_n hx hb dX9_whole_55 rfl (lv_at hl 1 rfl) ?_
            refine gt_SP_SP_packing hx hb hts hown hK hP lwd_35 dX9_whole_56 ?_
            refine xi hD hS hA (xV (As := []) (rest := []) hx hb hml hown hts hK hP hD hS hA NS_ok hN hAe hl.1 ⟨Nat.le_refl _, Nat.le_refl _⟩ 31 rfl rfl rfl (c_X4_greatest l D cy hs hH hT sH sT v_tape_size v_band_walkers v_band_loads v_band_pieces v_rules_clauses v_reader_end v_reader_at v_reader_length v_reader_letter v_reader_fault v_draft_clauses v_paces_version zpacking_quicker_101 zpacking_loads_102 v_packing_looseCount v_marches_told v_marches_changeMinutes v_marches_marching v_marches_gone v_search_known v_search_countHere v_search_countThere v_search_cost v_search_most v_search_found f_bytes f_knee f_weight f_limps f_bheft f_owner f_food f_miles f_slope f_rsteps f_rkind f_ryields f_rholds zrletters_103 zrstack_104 f_dsteps f_dkind f_dyields f_dholds f_dletters f_dstack zcaps_105 zversions_106 f_sharing zpheft_107 f_prow zholder_108 zcomes_109 zpcaps_110 f_room f_loose f_reached f_mrow f_minutesOn f_mtired f_here f_there f_statesHere f_statesThere f_listed f_stired f_burdens f_pacesOn f_restedOn f_behindOn f_behindFor f_first f_second f_plans f_tiredOn tS H.size (by omega) (by omega) (by omega) p_114 p_115 p_116 p_117 p_118 hr_room hr_loose hr_reached) (gi_V lwd_697 lwd_698 lwd_699 lwd_34 lwd_700) ⟨rfl, hd_X4_greatest⟩ ⟨Nat.le_of_ble_eq_true rfl, Nat.le_of_ble_eq_true rfl⟩ rfl (Nat.le_of_ble_eq_true rfl) dX9_whole_59) (fun r_120 u_119 H locs hw hP hD hS => ?_)
            obtain ⟨zpacking_looseCount_121, zroom_122, zloose_123, zreached_124⟩ := u_119
            try dsimp only at hw hP hD
            obtain ⟨p_125, p_126, p_127, p_128, p_129⟩ := hw
            refine lv_istore (lv' := [(5, .int r_120), (4, .int 1), (0, .ref (hs 0)), (1, .int i), (2, .int all), (3, .int what)]) hx hb dX9_whole_62 hl (by decide) rfl (fun ls hl => ?_)
            refine lv_iload_n hx hb dX9_whole_64 rfl (lv_at hl 5 rfl) ?_
            refine lv_iconst (v := (-1)) hx hb dX9_whole_65 (by decide) ?_
            refine lv_icmp_ne (tgt := 72) hx hb dX9_whole_66 (by decide) (fun c_130 => ?_) (fun c_130 => ?_)
            · have gc_130 : what.toInt ≠ (-1) := i_ne (rfl : what.toInt = what.toInt) (by decide : ((-1) : Int32).toInt = (-1)) c_130
              refine lv_iload hx hb dX9_whole_72 (lv_at hl 0 rfl) ?_
              refine lv_if_ne (tgt := 80) hx hb dX9_whole_74 (by decide) (fun c_131 => ?_) (fun c_131 => ?_)
              · have gc_131 : r_120.toInt ≠ 0 := i_ne (rfl : r_120.toInt = r_120.toInt) (by decide : (0 : Int32).toInt = 0) c_131
                refine lv_iload_n hx hb dX9_whole_80 rfl (lv_at hl 5 rfl) ?_
                refine lv_bipush (v := 9) hx hb dX9_whole_81 (by decide) ?_
                refine lv_icmp_ne (tgt := 97) hx hb dX9_whole_83 (by decide) (fun c_132 => ?_) (fun c_132 => ?_)
                · have gc_132 : what.toInt ≠ 9 := i_ne (rfl : what.toInt = what.toInt) (by decide : (9 : Int32).toInt = 9) c_132
                  refine lv_aload_n hx hb dX9_whole_97 rfl (lv_at hl 2 rfl) ?_
                  refine gt_SP_SP_packing hx hb hts hown hK hP lwd_35 dX9_whole_98 ?_
                  refine lv_iload hx hb dX9_whole_101 (lv_at hl 0 rfl) ?_
                  refine xv hD hS hA (xV (As := [.int r_120]) (rest := []) hx hb hml hown hts hK hP hD hS hA NS_ok hN hAe hl.1 ⟨Nat.le_refl _, Nat.le_refl _⟩ 31 rfl rfl rfl (c_X4_settle l D cy hs hH hT sH sT v_tape_size v_band_walkers v_band_loads v_band_pieces v_rules_clauses v_reader_end v_reader_at v_reader_length v_reader_letter v_reader_fault v_draft_clauses v_paces_version zpacking_quicker_101 zpacking_loads_102 zpacking_looseCount_121 v_marches_told v_marches_changeMinutes v_marches_marching v_marches_gone v_search_known v_search_countHere v_search_countThere v_search_cost v_search_most v_search_found f_bytes f_knee f_weight f_limps f_bheft f_owner f_food f_miles f_slope f_rsteps f_rkind f_ryields f_rholds zrletters_103 zrstack_104 f_dsteps f_dkind f_dyields f_dholds f_dletters f_dstack zcaps_105 zversions_106 f_sharing zpheft_107 f_prow zholder_108 zcomes_109 zpcaps_110 zroom_122 zloose_123 zreached_124 f_mrow f_minutesOn f_mtired f_here f_there f_statesHere f_statesThere f_listed f_stired f_burdens f_pacesOn f_restedOn f_behindOn f_behindFor f_first f_second f_plans f_tiredOn tS H.size r_120 (by omega) (by omega) (by omega) p_114 p_115 p_116 p_117 p_118 p_127 p_128 p_129 (by omega)) (gi_V lwd_724 lwd_725 lwd_726 lwd_34 lwd_727) ⟨rfl, hd_X4_settle⟩ ⟨Nat.le_of_ble_eq_true rfl, Nat.le_of_ble_eq_true rfl⟩ rfl (Nat.le_of_ble_eq_true rfl) dX9_whole_103) (fun u_133 H locs hw hP hD hS => ?_)
                  obtain ⟨zpacking_looseCount_135, zprow_136, zroom_137, zloose_138, zreached_139⟩ := u_133
                  try dsimp only at hw hP hD
                  obtain ⟨p_140, p_141, p_142, p_143⟩ := hw
                  refine lv_aload_n hx hb dX9_whole_106 rfl (lv_at hl 2 rfl) ?_
                  refine gt_SP_SP_packing hx hb hts hown hK hP lwd_35 dX9_whole_107 ?_
                  refine gt_SP_packing_row hx hb hts hown hK hP lwd_676 dX9_whole_110 ?_
                  refine lv_iload_n hx hb dX9_whole_113 rfl (lv_at hl 5 rfl) ?_
                  refine al_prow hx hb hK hP (i_in (rfl : what.toInt = what.toInt) (by omega) (by omega)) dX9_whole_114 (fun n_144 en_144 => ?_)
                  exact hrt n_144 zpacking_quicker_101 zpacking_loads_102 zpacking_looseCount_135 zrletters_103 zrstack_104 zcaps_105 zversions_106 zpheft_107 zprow_136 zholder_108 zcomes_109 zpcaps_110 zroom_137 zloose_138 zreached_139 ⟨(by omega), (by omega), (by omega), p_114, p_115, p_116, p_117, p_118, p_141, p_142, p_143⟩ hP hD hS rfl dX9_whole_115
                · have gc_132 : what.toInt = 9 := i_eq (rfl : what.toInt = what.toInt) (by decide : (9 : Int32).toInt = 9) c_132
                  exact absurd gc_132 (by omega)
              · have gc_131 : r_120.toInt = 0 := i_eq (rfl : r_120.toInt = r_120.toInt) (by decide : (0 : Int32).toInt = 0) c_131
                refine lv_bipush (v := (-2)) hx hb dX9_whole_77 (by decide) ?_
                have k_145 : ((-2) : Int32).toInt = (-2) := by decide
                exact hrt (-2) zpacking_quicker_101 zpacking_loads_102 zpacking_looseCount_121 zrletters_103 zrstack_104 zcaps_105 zversions_106 zpheft_107 f_prow zholder_108 zcomes_109 zpcaps_110 zroom_122 zloose_123 zreached_124 ⟨(by omega), (by omega), (by omega), p_114, p_115, p_116, p_117, p_118, p_127, p_128, p_129⟩ hP hD hS rfl dX9_whole_79
            · have gc_130 : what.toInt = (-1) := i_eq (rfl : what.toInt = what.toInt) (by decide : ((-1) : Int32).toInt = (-1)) c_130
              exact absurd gc_130 (by omega)
          · have gc_98 : r_95.toInt = 0 := i_eq (rfl : r_95.toInt = r_95.toInt) (by decide : (0 : Int32).toInt = 0) c_98
            refine lv_bipush (v := (-3)) hx hb dX9_whole_43 (by decide) ?_
            have k_146 : ((-3) : Int32).toInt = (-3) := by decide
            exact hrt (-3) v_packing_quicker v_packing_loads v_packing_looseCount f_rletters f_rstack f_caps f_versions f_pheft f_prow f_holder f_comes f_pcaps f_room f_loose f_reached ⟨(by omega), (by omega), (by omega), hr_caps, hr_pheft, hr_holder, hr_comes, hr_pcaps, hr_room, hr_loose, hr_reached⟩ hP hD hS rfl dX9_whole_45
set_option maxHeartbeats 16000000 in
set_option maxRecDepth 100000 in
theorem c_X9_wont (l : Launch) (D : va_G) (cy : Nat → ClassId) (hs : Nat → Nat) (hH hT sH sT : Nat) (v_tape_size v_band_walkers v_band_loads v_band_pieces v_rules_clauses v_reader_end v_reader_at v_reader_length v_reader_letter v_reader_fault v_draft_clauses v_paces_version v_packing_quicker v_packing_loads v_packing_looseCount v_marches_told v_marches_changeMinutes v_marches_marching v_marches_gone v_search_known v_search_countHere v_search_countThere v_search_cost v_search_most : Int32) (v_search_found : Int64) (f_bytes f_knee f_weight f_limps f_bheft f_owner f_food f_miles f_slope f_rsteps f_rkind f_ryields f_rholds f_rletters f_rstack f_dsteps f_dkind f_dyields f_dholds f_dletters f_dstack f_caps f_versions f_sharing f_pheft f_prow f_holder f_comes f_pcaps f_room f_loose f_reached f_mrow f_minutesOn f_mtired : Nat → Int32) (f_here f_there : Nat → Int64) (f_statesHere f_statesThere f_listed f_stired f_burdens f_pacesOn f_restedOn f_behindOn f_behindFor f_first f_second : Nat → Int32) (f_plans f_tiredOn : Nat → Nat → Int32) (tS : Nat) (sz : Nat) (i : Int32) (all : Int32) (hb_v_band_walkers : 0 ≤ v_band_walkers.toInt ∧ v_band_walkers.toInt ≤ 6) (hb_v_band_loads : 0 ≤ v_band_loads.toInt ∧ v_band_loads.toInt ≤ 9) (hb_v_band_pieces : 0 ≤ v_band_pieces.toInt ∧ v_band_pieces.toInt ≤ 10) (hb_v_rules_clauses : 0 ≤ v_rules_clauses.toInt ∧ v_rules_clauses.toInt ≤ 14) (hb_v_packing_quicker : -1 ≤ v_packing_quicker.toInt ∧ v_packing_quicker.toInt ≤ 5) (hb_v_packing_loads : 0 ≤ v_packing_loads.toInt ∧ v_packing_loads.toInt ≤ 10) (hb_v_packing_looseCount : 0 ≤ v_packing_looseCount.toInt ∧ v_packing_looseCount.toInt ≤ 10) (hr_weight : rg (0) 250 f_weight) (hr_limps : rg (0) 1 f_limps) (hr_bheft : rg (0) 120 f_bheft) (hr_owner : rg (-1) 5 f_owner) (hr_food : rg (0) 20 f_food) (hr_miles : rg (0) 20 f_miles) (hr_caps : rg (-1) 400 f_caps) (hr_pheft : rg (0) 250 f_pheft) (hr_holder : rg (-1) 5 f_holder) (hr_comes : rg (0) 1 f_comes) (hr_pcaps : rg (0) 21899 f_pcaps) (hr_room : rg (-1000) 400 f_room) (hr_loose : rg (0) 9 f_loose) (hr_reached : rg (0) 3072 f_reached) : gMi l yX9_wont cX9_wont 5 .int 6 [.ref (hs 0), .int i, .int all] D cy (wSP cy hs hH hT sH sT v_tape_size v_band_walkers v_band_loads v_band_pieces v_rules_clauses v_reader_end v_reader_at v_reader_length v_reader_letter v_reader_fault v_draft_clauses v_paces_version v_packing_quicker v_packing_loads v_packing_looseCount v_marches_told v_marches_changeMinutes v_marches_marching v_marches_gone v_search_known v_search_countHere v_search_countThere v_search_cost v_search_most v_search_found f_bytes f_knee f_weight f_limps f_bheft f_owner f_food f_miles f_slope f_rsteps f_rkind f_ryields f_rholds f_rletters f_rstack f_dsteps f_dkind f_dyields f_dholds f_dletters f_dstack f_caps f_versions f_sharing f_pheft f_prow f_holder f_comes f_pcaps f_room f_loose f_reached f_mrow f_minutesOn f_mtired f_here f_there f_statesHere f_statesThere f_listed f_stired f_burdens f_pacesOn f_restedOn f_behindOn f_behindFor f_first f_second f_plans f_tiredOn) (NS tS) sz (fun (r : Int32) (u : Int32 × Int32 × Int32 × (Nat → Int32) × (Nat → Int32) × (Nat → Int32) × (Nat → Int32) × (Nat → Int32) × (Nat → Int32) × (Nat → Int32) × (Nat → Int32) × (Nat → Int32) × (Nat → Int32) × (Nat → Int32)) => (-1 ≤ (u.1).toInt ∧ (u.1).toInt ≤ 5) ∧ (0 ≤ (u.2.1).toInt ∧ (u.2.1).toInt ≤ 10) ∧ (0 ≤ (u.2.2.1).toInt ∧ (u.2.2.1).toInt ≤ 10) ∧ (rg (-1) 400 (u.2.2.2.2.2.1)) ∧ (rg (0) 250 (u.2.2.2.2.2.2.2.1)) ∧ (rg (-1) 5 (u.2.2.2.2.2.2.2.2.1)) ∧ (rg (0) 1 (u.2.2.2.2.2.2.2.2.2.1)) ∧ (rg (0) 21899 (u.2.2.2.2.2.2.2.2.2.2.1)) ∧ (rg (-1000) 400 (u.2.2.2.2.2.2.2.2.2.2.2.1)) ∧ (rg (0) 9 (u.2.2.2.2.2.2.2.2.2.2.2.2.1)) ∧ (rg (0) 3072 (u.2.2.2.2.2.2.2.2.2.2.2.2.2))) (fun u => wSP cy hs hH hT sH sT v_tape_size v_band_walkers v_band_loads v_band_pieces v_rules_clauses v_reader_end v_reader_at v_reader_length v_reader_letter v_reader_fault v_draft_clauses v_paces_version (u.1) (u.2.1) (u.2.2.1) v_marches_told v_marches_changeMinutes v_marches_marching v_marches_gone v_search_known v_search_countHere v_search_countThere v_search_cost v_search_most v_search_found f_bytes f_knee f_weight f_limps f_bheft f_owner f_food f_miles f_slope f_rsteps f_rkind f_ryields f_rholds (u.2.2.2.1) (u.2.2.2.2.1) f_dsteps f_dkind f_dyields f_dholds f_dletters f_dstack (u.2.2.2.2.2.1) (u.2.2.2.2.2.2.1) f_sharing (u.2.2.2.2.2.2.2.1) f_prow (u.2.2.2.2.2.2.2.2.1) (u.2.2.2.2.2.2.2.2.2.1) (u.2.2.2.2.2.2.2.2.2.2.1) (u.2.2.2.2.2.2.2.2.2.2.2.1) (u.2.2.2.2.2.2.2.2.2.2.2.2.1) (u.2.2.2.2.2.2.2.2.2.2.2.2.2) f_mrow f_minutesOn f_mtired f_here f_there f_statesHere f_statesThere f_listed f_stired f_burdens f_pacesOn f_restedOn f_behindOn f_behindFor f_first f_second f_plans f_tiredOn) := by
  refine gMi_in (by decide) (Nat.le_of_ble_eq_true rfl) ?_
  intro p e s m args below meth c A ls Q hx hb hml hts hown hsz hP hK hD hN hAe hA hS hl hret
  subst hsz
  have hl : lv_has ls 5 [(0, .ref (hs 0)), (1, .int i), (2, .int all)] := hl
  have hrt := fun (r : Int32) (v_packing_quicker' : Int32) (v_packing_loads' : Int32) (v_packing_looseCount' : Int32) (f_rletters' : Nat → Int32) (f_rstack' : Nat → Int32) (f_caps' : Nat → Int32) (f_versions' : Nat → Int32) (f_pheft' : Nat → Int32) (f_holder' : Nat → Int32) (f_comes' : Nat → Int32) (f_pcaps' : Nat → Int32) (f_room' : Nat → Int32) (f_loose' : Nat → Int32) (f_reached' : Nat → Int32) (hp : (-1 ≤ v_packing_quicker'.toInt ∧ v_packing_quicker'.toInt ≤ 5) ∧ (0 ≤ v_packing_loads'.toInt ∧ v_packing_loads'.toInt ≤ 10) ∧ (0 ≤ v_packing_looseCount'.toInt ∧ v_packing_looseCount'.toInt ≤ 10) ∧ (rg (-1) 400 f_caps') ∧ (rg (0) 250 f_pheft') ∧ (rg (-1) 5 f_holder') ∧ (rg (0) 1 f_comes') ∧ (rg (0) 21899 f_pcaps') ∧ (rg (-1000) 400 f_room') ∧ (rg (0) 9 f_loose') ∧ (rg (0) 3072 f_reached')) {H : Heap} {locs : List Loc} {pc : Nat} {ls : Array Slot} => hret r (v_packing_quicker', v_packing_loads', v_packing_looseCount', f_rletters', f_rstack', f_caps', f_versions', f_pheft', f_holder', f_comes', f_pcaps', f_room', f_loose', f_reached') (H := H) (locs := locs) (pc := pc) (ls := ls) hp
  clear hret
  refine lv_aload_n hx hb dX9_wont_0 rfl (lv_at hl 0 rfl) ?_
  refine lv_iload_n hx hb dX9_wont_1 rfl (lv_at hl 1 rfl) ?_
  refine lv_iload_n hx hb dX9_wont_2 rfl (lv_at hl 2 rfl) ?_
  refine xi hD hS hA (xV (As := [.int i, .int all]) (rest := []) hx hb hml hown hts hK hP hD hS hA NS_ok hN hAe hl.1 ⟨Nat.le_refl _, Nat.le_refl _⟩ 0 rfl rfl rfl (c_X9_standsOn l D cy hs hH hT sH sT v_tape_size v_band_walkers v_band_loads v_band_pieces v_rules_clauses v_reader_end v_reader_at v_reader_length v_reader_letter v_reader_fault v_draft_clauses v_paces_version v_packing_quicker v_packing_loads v_packing_looseCount v_marches_told v_marches_changeMinutes v_marches_marching v_marches_gone v_search_known v_search_countHere v_search_countThere v_search_cost v_search_most v_search_found f_bytes f_knee f_weight f_limps f_bheft f_owner f_food f_miles f_slope f_rsteps f_rkind f_ryields f_rholds f_rletters f_rstack f_dsteps f_dkind f_dyields f_dholds f_dletters f_dstack f_caps f_versions f_sharing f_pheft f_prow f_holder f_comes f_pcaps f_room f_loose f_reached f_mrow f_minutesOn f_mtired f_here f_there f_statesHere f_statesThere f_listed f_stired f_burdens f_pacesOn f_restedOn f_behindOn f_behindFor f_first f_second f_plans f_tiredOn tS s.heap.size i all (by omega) (by omega)) (gi_V lwd_616 lwd_617 lwd_618 lwd_2 lwd_619) ⟨rfl, hd_X9_standsOn⟩ ⟨Nat.le_of_ble_eq_true rfl, Nat.le_of_ble_eq_true rfl⟩ rfl (Nat.le_of_ble_eq_true rfl) dX9_wont_3) (fun r_2 u_1 H locs hw hP hD hS => ?_)
  try dsimp only at hw hP hD
  obtain ⟨p_3, p_4⟩ := hw
  refine lv_if_ne (tgt := 12) hx hb dX9_wont_6 (by decide) (fun c_5 => ?_) (fun c_5 => ?_)
  · have gc_5 : r_2.toInt ≠ 0 := i_ne (rfl : r_2.toInt = r_2.toInt) (by decide : (0 : Int32).toInt = 0) c_5
    refine lv_aload_n hx hb dX9_wont_12 rfl (lv_at hl 0 rfl) ?_
    refine gt_SP_SP_packing hx hb hts hown hK hP lwd_35 dX9_wont_13 ?_
    refine lv_iload_n hx hb dX9_wont_16 rfl (lv_at hl 1 rfl) ?_
    refine lv_iload_n hx hb dX9_wont_17 rfl (lv_at hl 2 rfl) ?_
    refine xv hD hS hA (xV (As := [.int i, .int all]) (rest := []) hx hb hml hown hts hK hP hD hS hA NS_ok hN hAe hl.1 ⟨Nat.le_refl _, Nat.le_refl _⟩ 31 rfl rfl rfl (c_X4_begin l D cy hs hH hT sH sT v_tape_size v_band_walkers v_band_loads v_band_pieces v_rules_clauses v_reader_end v_reader_at v_reader_length v_reader_letter v_reader_fault v_draft_clauses v_paces_version v_packing_quicker v_packing_loads v_packing_looseCount v_marches_told v_marches_changeMinutes v_marches_marching v_marches_gone v_search_known v_search_countHere v_search_countThere v_search_cost v_search_most v_search_found f_bytes f_knee f_weight f_limps f_bheft f_owner f_food f_miles f_slope f_rsteps f_rkind f_ryields f_rholds f_rletters f_rstack f_dsteps f_dkind f_dyields f_dholds f_dletters f_dstack f_caps f_versions f_sharing f_pheft f_prow f_holder f_comes f_pcaps f_room f_loose f_reached f_mrow f_minutesOn f_mtired f_here f_there f_statesHere f_statesThere f_listed f_stired f_burdens f_pacesOn f_restedOn f_behindOn f_behindFor f_first f_second f_plans f_tiredOn tS H.size i all (by omega) (by omega) (by omega) (by omega) (by omega) hr_weight hr_limps hr_bheft hr_owner hr_food hr_miles hr_caps hr_pheft hr_holder hr_comes hr_pcaps (by omega) (by omega)) (gi_V lwd_682 lwd_683 lwd_684 lwd_34 lwd_685) ⟨rfl, hd_X4_begin⟩ ⟨Nat.le_of_ble_eq_true rfl, Nat.le_of_ble_eq_true rfl⟩ rfl (Nat.le_of_ble_eq_true rfl) dX9_wont_18) (fun u_6 H locs hw hP hD hS => ?_)
    obtain ⟨zpacking_quicker_8, zpacking_loads_9, zrletters_10, zrstack_11, zcaps_12, zversions_13, zpheft_14, zholder_15, zcomes_16, zpcaps_17⟩ := u_6
    try dsimp only at hw hP hD
    obtain ⟨p_18, p_19, p_20, p_21, p_22, p_23, p_24, p_25⟩ := hw
    refine lv_aload_n hx hb dX9_wont_21 rfl (lv_at hl 0 rfl) ?_
    refine gt_SP_SP_band hx hb hts hown hK hP lwd_19 dX9_wont_22 ?_
    refine lv_iload_n hx hb dX9_wont_25 rfl (lv_at hl 1 rfl) ?_
    refine lv_aload_n hx hb dX9_wont_26 rfl (lv_at hl 0 rfl) ?_
    refine gt_SP_SP_packing hx hb hts hown hK hP lwd_35 dX9_wont_27 ?_
    refine xi hD hS hA (xV (As := []) (rest := [.int i, .ref (hs 3)]) hx hb hml hown hts hK hP hD hS hA NS_ok hN hAe hl.1 ⟨Nat.le_refl _, Nat.le_refl _⟩ 31 rfl rfl rfl (c_X4_greatest l D cy hs hH hT sH sT v_tape_size v_band_walkers v_band_loads v_band_pieces v_rules_clauses v_reader_end v_reader_at v_reader_length v_reader_letter v_reader_fault v_draft_clauses v_paces_version zpacking_quicker_8 zpacking_loads_9 v_packing_looseCount v_marches_told v_marches_changeMinutes v_marches_marching v_marches_gone v_search_known v_search_countHere v_search_countThere v_search_cost v_search_most v_search_found f_bytes f_knee f_weight f_limps f_bheft f_owner f_food f_miles f_slope f_rsteps f_rkind f_ryields f_rholds zrletters_10 zrstack_11 f_dsteps f_dkind f_dyields f_dholds f_dletters f_dstack zcaps_12 zversions_13 f_sharing zpheft_14 f_prow zholder_15 zcomes_16 zpcaps_17 f_room f_loose f_reached f_mrow f_minutesOn f_mtired f_here f_there f_statesHere f_statesThere f_listed f_stired f_burdens f_pacesOn f_restedOn f_behindOn f_behindFor f_first f_second f_plans f_tiredOn tS H.size (by omega) (by omega) (by omega) p_21 p_22 p_23 p_24 p_25 hr_room hr_loose hr_reached) (gi_V lwd_697 lwd_698 lwd_699 lwd_34 lwd_700) ⟨rfl, hd_X4_greatest⟩ ⟨Nat.le_of_ble_eq_true rfl, Nat.le_of_ble_eq_true rfl⟩ rfl (Nat.le_of_ble_eq_true rfl) dX9_wont_30) (fun r_27 u_26 H locs hw hP hD hS => ?_)
    obtain ⟨zpacking_looseCount_28, zroom_29, zloose_30, zreached_31⟩ := u_26
    try dsimp only at hw hP hD
    obtain ⟨p_32, p_33, p_34, p_35, p_36⟩ := hw
    refine xi hD hS hA (xV (As := [.int i, .int r_27]) (rest := []) hx hb hml hown hts hK hP hD hS hA NS_ok hN hAe hl.1 ⟨Nat.le_refl _, Nat.le_refl _⟩ 3 rfl rfl rfl (c_X0_minutes l D cy hs hH hT sH sT v_tape_size v_band_walkers v_band_loads v_band_pieces v_rules_clauses v_reader_end v_reader_at v_reader_length v_reader_letter v_reader_fault v_draft_clauses v_paces_version zpacking_quicker_8 zpacking_loads_9 zpacking_looseCount_28 v_marches_told v_marches_changeMinutes v_marches_marching v_marches_gone v_search_known v_search_countHere v_search_countThere v_search_cost v_search_most v_search_found f_bytes f_knee f_weight f_limps f_bheft f_owner f_food f_miles f_slope f_rsteps f_rkind f_ryields f_rholds zrletters_10 zrstack_11 f_dsteps f_dkind f_dyields f_dholds f_dletters f_dstack zcaps_12 zversions_13 f_sharing zpheft_14 f_prow zholder_15 zcomes_16 zpcaps_17 zroom_29 zloose_30 zreached_31 f_mrow f_minutesOn f_mtired f_here f_there f_statesHere f_statesThere f_listed f_stired f_burdens f_pacesOn f_restedOn f_behindOn f_behindFor f_first f_second f_plans f_tiredOn tS H.size i r_27 hr_miles (by omega)) (gi_V lwd_634 lwd_635 lwd_636 lwd_18 lwd_637) ⟨rfl, hd_X0_minutes⟩ ⟨Nat.le_of_ble_eq_true rfl, Nat.le_of_ble_eq_true rfl⟩ rfl (Nat.le_of_ble_eq_true rfl) dX9_wont_33) (fun r_38 u_37 H locs hw hP hD hS => ?_)
    try dsimp only at hw hP hD
    clear hw
    refine lv_istore_n (lv' := [(3, .int r_38), (0, .ref (hs 0)), (1, .int i), (2, .int all)]) hx hb dX9_wont_36 rfl hl (by decide) rfl (fun ls hl => ?_)
    refine lv_aload_n hx hb dX9_wont_37 rfl (lv_at hl 1 rfl) ?_
    refine gt_SP_SP_packing hx hb hts hown hK hP lwd_35 dX9_wont_38 ?_
    refine xv hD hS hA (xV (As := []) (rest := []) hx hb hml hown hts hK hP hD hS hA NS_ok hN hAe hl.1 ⟨Nat.le_refl _, Nat.le_refl _⟩ 31 rfl rfl rfl (c_X4_freeAll l D cy hs hH hT sH sT v_tape_size v_band_walkers v_band_loads v_band_pieces v_rules_clauses v_reader_end v_reader_at v_reader_length v_reader_letter v_reader_fault v_draft_clauses v_paces_version zpacking_quicker_8 zpacking_loads_9 zpacking_looseCount_28 v_marches_told v_marches_changeMinutes v_marches_marching v_marches_gone v_search_known v_search_countHere v_search_countThere v_search_cost v_search_most v_search_found f_bytes f_knee f_weight f_limps f_bheft f_owner f_food f_miles f_slope f_rsteps f_rkind f_ryields f_rholds zrletters_10 zrstack_11 f_dsteps f_dkind f_dyields f_dholds f_dletters f_dstack zcaps_12 zversions_13 f_sharing zpheft_14 f_prow zholder_15 zcomes_16 zpcaps_17 zroom_29 zloose_30 zreached_31 f_mrow f_minutesOn f_mtired f_here f_there f_statesHere f_statesThere f_listed f_stired f_burdens f_pacesOn f_restedOn f_behindOn f_behindFor f_first f_second f_plans f_tiredOn tS H.size (by omega) p_23) (gi_V lwd_779 lwd_780 lwd_781 lwd_34 lwd_782) ⟨rfl, hd_X4_freeAll⟩ ⟨Nat.le_of_ble_eq_true rfl, Nat.le_of_ble_eq_true rfl⟩ rfl (Nat.le_of_ble_eq_true rfl) dX9_wont_41) (fun u_39 H locs hw hP hD hS => ?_)
    obtain ⟨zholder_41, rfl⟩ : ∃ z, z = u_39 := ⟨_, rfl⟩
    try dsimp only at hw hP hD
    have p_42 := hw
    clear hw
    refine lv_aload_n hx hb dX9_wont_44 rfl (lv_at hl 1 rfl) ?_
    refine gt_SP_SP_band hx hb hts hown hK hP lwd_19 dX9_wont_45 ?_
    refine lv_iload_n hx hb dX9_wont_48 rfl (lv_at hl 2 rfl) ?_
    refine lv_aload_n hx hb dX9_wont_49 rfl (lv_at hl 1 rfl) ?_
    refine gt_SP_SP_packing hx hb hts hown hK hP lwd_35 dX9_wont_50 ?_
    refine xi hD hS hA (xV (As := []) (rest := [.int i, .ref (hs 3)]) hx hb hml hown hts hK hP hD hS hA NS_ok hN hAe hl.1 ⟨Nat.le_refl _, Nat.le_refl _⟩ 31 rfl rfl rfl (c_X4_greatest l D cy hs hH hT sH sT v_tape_size v_band_walkers v_band_loads v_band_pieces v_rules_clauses v_reader_end v_reader_at v_reader_length v_reader_letter v_reader_fault v_draft_clauses v_paces_version zpacking_quicker_8 zpacking_loads_9 zpacking_looseCount_28 v_marches_told v_marches_changeMinutes v_marches_marching v_marches_gone v_search_known v_search_countHere v_search_countThere v_search_cost v_search_most v_search_found f_bytes f_knee f_weight f_limps f_bheft f_owner f_food f_miles f_slope f_rsteps f_rkind f_ryields f_rholds zrletters_10 zrstack_11 f_dsteps f_dkind f_dyields f_dholds f_dletters f_dstack zcaps_12 zversions_13 f_sharing zpheft_14 f_prow zholder_41 zcomes_16 zpcaps_17 zroom_29 zloose_30 zreached_31 f_mrow f_minutesOn f_mtired f_here f_there f_statesHere f_statesThere f_listed f_stired f_burdens f_pacesOn f_restedOn f_behindOn f_behindFor f_first f_second f_plans f_tiredOn tS H.size (by omega) (by omega) (by omega) p_21 p_22 p_42 p_24 p_25 p_34 p_35 p_36) (gi_V lwd_697 lwd_698 lwd_699 lwd_34 lwd_700) ⟨rfl, hd_X4_greatest⟩ ⟨Nat.le_of_ble_eq_true rfl, Nat.le_of_ble_eq_true rfl⟩ rfl (Nat.le_of_ble_eq_true rfl) dX9_wont_53) (fun r_44 u_43 H locs hw hP hD hS => ?_)
    obtain ⟨zpacking_looseCount_45, zroom_46, zloose_47, zreached_48⟩ := u_43
    try dsimp only at hw hP hD
    obtain ⟨p_49, p_50, p_51, p_52, p_53⟩ := hw
    refine xi hD hS hA (xV (As := [.int i, .int r_44]) (rest := []) hx hb hml hown hts hK hP hD hS hA NS_ok hN hAe hl.1 ⟨Nat.le_refl _, Nat.le_refl _⟩ 3 rfl rfl rfl (c_X0_minutes l D cy hs hH hT sH sT v_tape_size v_band_walkers v_band_loads v_band_pieces v_rules_clauses v_reader_end v_reader_at v_reader_length v_reader_letter v_reader_fault v_draft_clauses v_paces_version zpacking_quicker_8 zpacking_loads_9 zpacking_looseCount_45 v_marches_told v_marches_changeMinutes v_marches_marching v_marches_gone v_search_known v_search_countHere v_search_countThere v_search_cost v_search_most v_search_found f_bytes f_knee f_weight f_limps f_bheft f_owner f_food f_miles f_slope f_rsteps f_rkind f_ryields f_rholds zrletters_10 zrstack_11 f_dsteps f_dkind f_dyields f_dholds f_dletters f_dstack zcaps_12 zversions_13 f_sharing zpheft_14 f_prow zholder_41 zcomes_16 zpcaps_17 zroom_46 zloose_47 zreached_48 f_mrow f_minutesOn f_mtired f_here f_there f_statesHere f_statesThere f_listed f_stired f_burdens f_pacesOn f_restedOn f_behindOn f_behindFor f_first f_second f_plans f_tiredOn tS H.size i r_44 hr_miles (by omega)) (gi_V lwd_634 lwd_635 lwd_636 lwd_18 lwd_637) ⟨rfl, hd_X0_minutes⟩ ⟨Nat.le_of_ble_eq_true rfl, Nat.le_of_ble_eq_true rfl⟩ rfl (Nat.le_of_ble_eq_true rfl) dX9_wont_56) (fun r_55 u_54 H locs hw hP hD hS => ?_)
    try dsimp only at hw hP hD
    clear hw
    refine lv_istore (lv' := [(4, .int r_55), (3, .int r_38), (0, .ref (hs 0)), (1, .int i), (2, .int all)]) hx hb dX9_wont_59 hl (by decide) rfl (fun ls hl => ?_)
    refine lv_iload_n hx hb dX9_wont_61 rfl (lv_at hl 1 rfl) ?_
    refine lv_ldc hx hb hown (hts _ lwd_778) dX9_wont_62 ?_
    refine lv_icmp_eq (tgt := 74) hx hb dX9_wont_64 (by decide) (fun c_56 => ?_) (fun c_56 => ?_)
    · have gc_56 : r_38.toInt = 1000000000 := i_eq (rfl : r_38.toInt = r_38.toInt) (by decide : (1000000000 : Int32).toInt = 1000000000) c_56
      refine lv_ldc hx hb hown (hts _ lwd_777) dX9_wont_74 ?_
      refine lv_goto (tgt := 83) hx hb dX9_wont_76 (by decide) ?_
      have k_57 : ((-1000000) : Int32).toInt = (-1000000) := by decide
      exact hrt (-1000000) zpacking_quicker_8 zpacking_loads_9 zpacking_looseCount_45 zrletters_10 zrstack_11 zcaps_12 zversions_13 zpheft_14 zholder_41 zcomes_16 zpcaps_17 zroom_46 zloose_47 zreached_48 ⟨(by omega), (by omega), (by omega), p_21, p_22, p_42, p_24, p_25, p_51, p_52, p_53⟩ hP hD hS rfl dX9_wont_83
    · have gc_56 : r_38.toInt ≠ 1000000000 := i_ne (rfl : r_38.toInt = r_38.toInt) (by decide : (1000000000 : Int32).toInt = 1000000000) c_56
      refine lv_iload hx hb dX9_wont_67 (lv_at hl 0 rfl) ?_
      refine lv_ldc hx hb hown (hts _ lwd_778) dX9_wont_69 ?_
      refine lv_icmp_ne (tgt := 79) hx hb dX9_wont_71 (by decide) (fun c_58 => ?_) (fun c_58 => ?_)
      · have gc_58 : r_55.toInt ≠ 1000000000 := i_ne (rfl : r_55.toInt = r_55.toInt) (by decide : (1000000000 : Int32).toInt = 1000000000) c_58
        refine lv_iload_n hx hb dX9_wont_79 rfl (lv_at hl 1 rfl) ?_
        refine lv_iload hx hb dX9_wont_80 (lv_at hl 0 rfl) ?_
        refine lv_isub hx hb dX9_wont_82 ?_
        refine lv_topi (fun n_59 en_59 => ?_)
        exact hrt n_59 zpacking_quicker_8 zpacking_loads_9 zpacking_looseCount_45 zrletters_10 zrstack_11 zcaps_12 zversions_13 zpheft_14 zholder_41 zcomes_16 zpcaps_17 zroom_46 zloose_47 zreached_48 ⟨(by omega), (by omega), (by omega), p_21, p_22, p_42, p_24, p_25, p_51, p_52, p_53⟩ hP hD hS rfl dX9_wont_83
      · have gc_58 : r_55.toInt = 1000000000 := i_eq (rfl : r_55.toInt = r_55.toInt) (by decide : (1000000000 : Int32).toInt = 1000000000) c_58
        refine lv_ldc hx hb hown (hts _ lwd_777) dX9_wont_74 ?_
        refine lv_goto (tgt := 83) hx hb dX9_wont_76 (by decide) ?_
        have k_60 : ((-1000000) : Int32).toInt = (-1000000) := by decide
        exact hrt (-1000000) zpacking_quicker_8 zpacking_loads_9 zpacking_looseCount_45 zrletters_10 zrstack_11 zcaps_12 zversions_13 zpheft_14 zholder_41 zcomes_16 zpcaps_17 zroom_46 zloose_47 zreached_48 ⟨(by omega), (by omega), (by omega), p_21, p_22, p_42, p_24, p_25, p_51, p_52, p_53⟩ hP hD hS rfl dX9_wont_83
  · have gc_5 : r_2.toInt = 0 := i_eq (rfl : r_2.toInt = r_2.toInt) (by decide : (0 : Int32).toInt = 0) c_5
    refine lv_ldc hx hb hown (hts _ lwd_777) dX9_wont_9 ?_
    have k_61 : ((-1000000) : Int32).toInt = (-1000000) := by decide
    exact hrt (-1000000) v_packing_quicker v_packing_loads v_packing_looseCount f_rletters f_rstack f_caps f_versions f_pheft f_holder f_comes f_pcaps f_room f_loose f_reached ⟨(by omega), (by omega), (by omega), hr_caps, hr_pheft, hr_holder, hr_comes, hr_pcaps, hr_room, hr_loose, hr_reached⟩ hP hD hS rfl dX9_wont_11
set_option maxHeartbeats 16000000 in
set_option maxRecDepth 100000 in
theorem c_X9_who (l : Launch) (D : va_G) (cy : Nat → ClassId) (hs : Nat → Nat) (hH hT sH sT : Nat) (v_tape_size v_band_walkers v_band_loads v_band_pieces v_rules_clauses v_reader_end v_reader_at v_reader_length v_reader_letter v_reader_fault v_draft_clauses v_paces_version v_packing_quicker v_packing_loads v_packing_looseCount v_marches_told v_marches_changeMinutes v_marches_marching v_marches_gone v_search_known v_search_countHere v_search_countThere v_search_cost v_search_most : Int32) (v_search_found : Int64) (f_bytes f_knee f_weight f_limps f_bheft f_owner f_food f_miles f_slope f_rsteps f_rkind f_ryields f_rholds f_rletters f_rstack f_dsteps f_dkind f_dyields f_dholds f_dletters f_dstack f_caps f_versions f_sharing f_pheft f_prow f_holder f_comes f_pcaps f_room f_loose f_reached f_mrow f_minutesOn f_mtired : Nat → Int32) (f_here f_there : Nat → Int64) (f_statesHere f_statesThere f_listed f_stired f_burdens f_pacesOn f_restedOn f_behindOn f_behindFor f_first f_second : Nat → Int32) (f_plans f_tiredOn : Nat → Nat → Int32) (tS : Nat) (sz : Nat) (i : Int32) (all : Int32) (what : Int32) (hb_v_band_walkers : 0 ≤ v_band_walkers.toInt ∧ v_band_walkers.toInt ≤ 6) (hb_v_band_loads : 0 ≤ v_band_loads.toInt ∧ v_band_loads.toInt ≤ 9) (hb_v_band_pieces : 0 ≤ v_band_pieces.toInt ∧ v_band_pieces.toInt ≤ 10) (hb_v_rules_clauses : 0 ≤ v_rules_clauses.toInt ∧ v_rules_clauses.toInt ≤ 14) (hb_v_packing_quicker : -1 ≤ v_packing_quicker.toInt ∧ v_packing_quicker.toInt ≤ 5) (hb_v_packing_loads : 0 ≤ v_packing_loads.toInt ∧ v_packing_loads.toInt ≤ 10) (hb_v_packing_looseCount : 0 ≤ v_packing_looseCount.toInt ∧ v_packing_looseCount.toInt ≤ 10) (hr_weight : rg (0) 250 f_weight) (hr_limps : rg (0) 1 f_limps) (hr_bheft : rg (0) 120 f_bheft) (hr_owner : rg (-1) 5 f_owner) (hr_food : rg (0) 20 f_food) (hr_miles : rg (0) 20 f_miles) (hr_caps : rg (-1) 400 f_caps) (hr_pheft : rg (0) 250 f_pheft) (hr_holder : rg (-1) 5 f_holder) (hr_comes : rg (0) 1 f_comes) (hr_pcaps : rg (0) 21899 f_pcaps) (hr_room : rg (-1000) 400 f_room) (hr_loose : rg (0) 9 f_loose) (hr_reached : rg (0) 3072 f_reached) : gMi l yX9_who cX9_who 7 .int 6 [.ref (hs 0), .int i, .int all, .int what] D cy (wSP cy hs hH hT sH sT v_tape_size v_band_walkers v_band_loads v_band_pieces v_rules_clauses v_reader_end v_reader_at v_reader_length v_reader_letter v_reader_fault v_draft_clauses v_paces_version v_packing_quicker v_packing_loads v_packing_looseCount v_marches_told v_marches_changeMinutes v_marches_marching v_marches_gone v_search_known v_search_countHere v_search_countThere v_search_cost v_search_most v_search_found f_bytes f_knee f_weight f_limps f_bheft f_owner f_food f_miles f_slope f_rsteps f_rkind f_ryields f_rholds f_rletters f_rstack f_dsteps f_dkind f_dyields f_dholds f_dletters f_dstack f_caps f_versions f_sharing f_pheft f_prow f_holder f_comes f_pcaps f_room f_loose f_reached f_mrow f_minutesOn f_mtired f_here f_there f_statesHere f_statesThere f_listed f_stired f_burdens f_pacesOn f_restedOn f_behindOn f_behindFor f_first f_second f_plans f_tiredOn) (NS tS) sz (fun (r : Int32) (u : Int32 × Int32 × Int32 × (Nat → Int32) × (Nat → Int32) × (Nat → Int32) × (Nat → Int32) × (Nat → Int32) × (Nat → Int32) × (Nat → Int32) × (Nat → Int32) × (Nat → Int32) × (Nat → Int32) × (Nat → Int32)) => (-1 ≤ (u.1).toInt ∧ (u.1).toInt ≤ 5) ∧ (0 ≤ (u.2.1).toInt ∧ (u.2.1).toInt ≤ 10) ∧ (0 ≤ (u.2.2.1).toInt ∧ (u.2.2.1).toInt ≤ 10) ∧ (rg (-1) 400 (u.2.2.2.2.2.1)) ∧ (rg (0) 250 (u.2.2.2.2.2.2.2.1)) ∧ (rg (-1) 5 (u.2.2.2.2.2.2.2.2.1)) ∧ (rg (0) 1 (u.2.2.2.2.2.2.2.2.2.1)) ∧ (rg (0) 21899 (u.2.2.2.2.2.2.2.2.2.2.1)) ∧ (rg (-1000) 400 (u.2.2.2.2.2.2.2.2.2.2.2.1)) ∧ (rg (0) 9 (u.2.2.2.2.2.2.2.2.2.2.2.2.1)) ∧ (rg (0) 3072 (u.2.2.2.2.2.2.2.2.2.2.2.2.2))) (fun u => wSP cy hs hH hT sH sT v_tape_size v_band_walkers v_band_loads v_band_pieces v_rules_clauses v_reader_end v_reader_at v_reader_length v_reader_letter v_reader_fault v_draft_clauses v_paces_version (u.1) (u.2.1) (u.2.2.1) v_marches_told v_marches_changeMinutes v_marches_marching v_marches_gone v_search_known v_search_countHere v_search_countThere v_search_cost v_search_most v_search_found f_bytes f_knee f_weight f_limps f_bheft f_owner f_food f_miles f_slope f_rsteps f_rkind f_ryields f_rholds (u.2.2.2.1) (u.2.2.2.2.1) f_dsteps f_dkind f_dyields f_dholds f_dletters f_dstack (u.2.2.2.2.2.1) (u.2.2.2.2.2.2.1) f_sharing (u.2.2.2.2.2.2.2.1) f_prow (u.2.2.2.2.2.2.2.2.1) (u.2.2.2.2.2.2.2.2.2.1) (u.2.2.2.2.2.2.2.2.2.2.1) (u.2.2.2.2.2.2.2.2.2.2.2.1) (u.2.2.2.2.2.2.2.2.2.2.2.2.1) (u.2.2.2.2.2.2.2.2.2.2.2.2.2) f_mrow f_minutesOn f_mtired f_here f_there f_statesHere f_statesThere f_listed f_stired f_burdens f_pacesOn f_restedOn f_behindOn f_behindFor f_first f_second f_plans f_tiredOn) := by
  refine gMi_in (by decide) (Nat.le_of_ble_eq_true rfl) ?_
  intro p e s m args below meth c A ls Q hx hb hml hts hown hsz hP hK hD hN hAe hA hS hl hret
  subst hsz
  have hl : lv_has ls 7 [(0, .ref (hs 0)), (1, .int i), (2, .int all), (3, .int what)] := hl
  have hrt := fun (r : Int32) (v_packing_quicker' : Int32) (v_packing_loads' : Int32) (v_packing_looseCount' : Int32) (f_rletters' : Nat → Int32) (f_rstack' : Nat → Int32) (f_caps' : Nat → Int32) (f_versions' : Nat → Int32) (f_pheft' : Nat → Int32) (f_holder' : Nat → Int32) (f_comes' : Nat → Int32) (f_pcaps' : Nat → Int32) (f_room' : Nat → Int32) (f_loose' : Nat → Int32) (f_reached' : Nat → Int32) (hp : (-1 ≤ v_packing_quicker'.toInt ∧ v_packing_quicker'.toInt ≤ 5) ∧ (0 ≤ v_packing_loads'.toInt ∧ v_packing_loads'.toInt ≤ 10) ∧ (0 ≤ v_packing_looseCount'.toInt ∧ v_packing_looseCount'.toInt ≤ 10) ∧ (rg (-1) 400 f_caps') ∧ (rg (0) 250 f_pheft') ∧ (rg (-1) 5 f_holder') ∧ (rg (0) 1 f_comes') ∧ (rg (0) 21899 f_pcaps') ∧ (rg (-1000) 400 f_room') ∧ (rg (0) 9 f_loose') ∧ (rg (0) 3072 f_reached')) {H : Heap} {locs : List Loc} {pc : Nat} {ls : Array Slot} => hret r (v_packing_quicker', v_packing_loads', v_packing_looseCount', f_rletters', f_rstack', f_caps', f_versions', f_pheft', f_holder', f_comes', f_pcaps', f_room', f_loose', f_reached') (H := H) (locs := locs) (pc := pc) (ls := ls) hp
  clear hret
  refine lv_iload_n hx hb dX9_who_0 rfl (lv_at hl 3 rfl) ?_
  refine lv_if_lt (tgt := 18) hx hb dX9_who_1 (by decide) (fun c_1 => ?_) (fun c_1 => ?_)
  · have gc_1 : what.toInt < 0 := i_lt (rfl : what.toInt = what.toInt) (by decide : (0 : Int32).toInt = 0) c_1
    refine lv_bipush (v := (-2)) hx hb dX9_who_18 (by decide) ?_
    have k_2 : ((-2) : Int32).toInt = (-2) := by decide
    exact hrt (-2) v_packing_quicker v_packing_loads v_packing_looseCount f_rletters f_rstack f_caps f_versions f_pheft f_holder f_comes f_pcaps f_room f_loose f_reached ⟨(by omega), (by omega), (by omega), hr_caps, hr_pheft, hr_holder, hr_comes, hr_pcaps, hr_room, hr_loose, hr_reached⟩ hP hD hS rfl dX9_who_20
  · have gc_1 : 0 ≤ what.toInt := i_nlt (rfl : what.toInt = what.toInt) (by decide : (0 : Int32).toInt = 0) c_1
    refine lv_iload_n hx hb dX9_who_4 rfl (lv_at hl 3 rfl) ?_
    refine lv_iconst (v := 1) hx hb dX9_who_5 (by decide) ?_
    refine lv_icmp_gt (tgt := 18) hx hb dX9_who_6 (by decide) (fun c_3 => ?_) (fun c_3 => ?_)
    · have gc_3 : 1 < what.toInt := i_lt (by decide : (1 : Int32).toInt = 1) (rfl : what.toInt = what.toInt) c_3
      refine lv_bipush (v := (-2)) hx hb dX9_who_18 (by decide) ?_
      have k_4 : ((-2) : Int32).toInt = (-2) := by decide
      exact hrt (-2) v_packing_quicker v_packing_loads v_packing_looseCount f_rletters f_rstack f_caps f_versions f_pheft f_holder f_comes f_pcaps f_room f_loose f_reached ⟨(by omega), (by omega), (by omega), hr_caps, hr_pheft, hr_holder, hr_comes, hr_pcaps, hr_room, hr_loose, hr_reached⟩ hP hD hS rfl dX9_who_20
    · have gc_3 : what.toInt ≤ 1 := i_nlt (by decide : (1 : Int32).toInt = 1) (rfl : what.toInt = what.toInt) c_3
      refine lv_aload_n hx hb dX9_who_9 rfl (lv_at hl 0 rfl) ?_
      refine lv_iload_n hx hb dX9_who_10 rfl (lv_at hl 1 rfl) ?_
      refine lv_iload_n hx hb dX9_who_11 rfl (lv_at hl 2 rfl) ?_
      refine xi hD hS hA (xV (As := [.int i, .int all]) (rest := []) hx hb hml hown hts hK hP hD hS hA NS_ok hN hAe hl.1 ⟨Nat.le_refl _, Nat.le_refl _⟩ 0 rfl rfl rfl (c_X9_standsOn l D cy hs hH hT sH sT v_tape_size v_band_walkers v_band_loads v_band_pieces v_rules_clauses v_reader_end v_reader_at v_reader_length v_reader_letter v_reader_fault v_draft_clauses v_paces_version v_packing_quicker v_packing_loads v_packing_looseCount v_marches_told v_marches_changeMinutes v_marches_marching v_marches_gone v_search_known v_search_countHere v_search_countThere v_search_cost v_search_most v_search_found f_bytes f_knee f_weight f_limps f_bheft f_owner f_food f_miles f_slope f_rsteps f_rkind f_ryields f_rholds f_rletters f_rstack f_dsteps f_dkind f_dyields f_dholds f_dletters f_dstack f_caps f_versions f_sharing f_pheft f_prow f_holder f_comes f_pcaps f_room f_loose f_reached f_mrow f_minutesOn f_mtired f_here f_there f_statesHere f_statesThere f_listed f_stired f_burdens f_pacesOn f_restedOn f_behindOn f_behindFor f_first f_second f_plans f_tiredOn tS s.heap.size i all (by omega) (by omega)) (gi_V lwd_616 lwd_617 lwd_618 lwd_2 lwd_619) ⟨rfl, hd_X9_standsOn⟩ ⟨Nat.le_of_ble_eq_true rfl, Nat.le_of_ble_eq_true rfl⟩ rfl (Nat.le_of_ble_eq_true rfl) dX9_who_12) (fun r_6 u_5 H locs hw hP hD hS => ?_)
      try dsimp only at hw hP hD
      obtain ⟨p_7, p_8⟩ := hw
      refine lv_if_ne (tgt := 21) hx hb dX9_who_15 (by decide) (fun c_9 => ?_) (fun c_9 => ?_)
      · have gc_9 : r_6.toInt ≠ 0 := i_ne (rfl : r_6.toInt = r_6.toInt) (by decide : (0 : Int32).toInt = 0) c_9
        refine lv_aload_n hx hb dX9_who_21 rfl (lv_at hl 0 rfl) ?_
        refine gt_SP_SP_packing hx hb hts hown hK hP lwd_35 dX9_who_22 ?_
        refine lv_iload_n hx hb dX9_who_25 rfl (lv_at hl 1 rfl) ?_
        refine lv_iload_n hx hb dX9_who_26 rfl (lv_at hl 2 rfl) ?_
        refine xv hD hS hA (xV (As := [.int i, .int all]) (rest := []) hx hb hml hown hts hK hP hD hS hA NS_ok hN hAe hl.1 ⟨Nat.le_refl _, Nat.le_refl _⟩ 31 rfl rfl rfl (c_X4_begin l D cy hs hH hT sH sT v_tape_size v_band_walkers v_band_loads v_band_pieces v_rules_clauses v_reader_end v_reader_at v_reader_length v_reader_letter v_reader_fault v_draft_clauses v_paces_version v_packing_quicker v_packing_loads v_packing_looseCount v_marches_told v_marches_changeMinutes v_marches_marching v_marches_gone v_search_known v_search_countHere v_search_countThere v_search_cost v_search_most v_search_found f_bytes f_knee f_weight f_limps f_bheft f_owner f_food f_miles f_slope f_rsteps f_rkind f_ryields f_rholds f_rletters f_rstack f_dsteps f_dkind f_dyields f_dholds f_dletters f_dstack f_caps f_versions f_sharing f_pheft f_prow f_holder f_comes f_pcaps f_room f_loose f_reached f_mrow f_minutesOn f_mtired f_here f_there f_statesHere f_statesThere f_listed f_stired f_burdens f_pacesOn f_restedOn f_behindOn f_behindFor f_first f_second f_plans f_tiredOn tS H.size i all (by omega) (by omega) (by omega) (by omega) (by omega) hr_weight hr_limps hr_bheft hr_owner hr_food hr_miles hr_caps hr_pheft hr_holder hr_comes hr_pcaps (by omega) (by omega)) (gi_V lwd_682 lwd_683 lwd_684 lwd_34 lwd_685) ⟨rfl, hd_X4_begin⟩ ⟨Nat.le_of_ble_eq_true rfl, Nat.le_of_ble_eq_true rfl⟩ rfl (Nat.le_of_ble_eq_true rfl) dX9_who_27) (fun u_10 H locs hw hP hD hS => ?_)
        obtain ⟨zpacking_quicker_12, zpacking_loads_13, zrletters_14, zrstack_15, zcaps_16, zversions_17, zpheft_18, zholder_19, zcomes_20, zpcaps_21⟩ := u_10
        try dsimp only at hw hP hD
        obtain ⟨p_22, p_23, p_24, p_25, p_26, p_27, p_28, p_29⟩ := hw
        refine lv_aload_n hx hb dX9_who_30 rfl (lv_at hl 0 rfl) ?_
        refine gt_SP_SP_packing hx hb hts hown hK hP lwd_35 dX9_who_31 ?_
        refine xi hD hS hA (xV (As := []) (rest := []) hx hb hml hown hts hK hP hD hS hA NS_ok hN hAe hl.1 ⟨Nat.le_refl _, Nat.le_refl _⟩ 31 rfl rfl rfl (c_X4_greatest l D cy hs hH hT sH sT v_tape_size v_band_walkers v_band_loads v_band_pieces v_rules_clauses v_reader_end v_reader_at v_reader_length v_reader_letter v_reader_fault v_draft_clauses v_paces_version zpacking_quicker_12 zpacking_loads_13 v_packing_looseCount v_marches_told v_marches_changeMinutes v_marches_marching v_marches_gone v_search_known v_search_countHere v_search_countThere v_search_cost v_search_most v_search_found f_bytes f_knee f_weight f_limps f_bheft f_owner f_food f_miles f_slope f_rsteps f_rkind f_ryields f_rholds zrletters_14 zrstack_15 f_dsteps f_dkind f_dyields f_dholds f_dletters f_dstack zcaps_16 zversions_17 f_sharing zpheft_18 f_prow zholder_19 zcomes_20 zpcaps_21 f_room f_loose f_reached f_mrow f_minutesOn f_mtired f_here f_there f_statesHere f_statesThere f_listed f_stired f_burdens f_pacesOn f_restedOn f_behindOn f_behindFor f_first f_second f_plans f_tiredOn tS H.size (by omega) (by omega) (by omega) p_25 p_26 p_27 p_28 p_29 hr_room hr_loose hr_reached) (gi_V lwd_697 lwd_698 lwd_699 lwd_34 lwd_700) ⟨rfl, hd_X4_greatest⟩ ⟨Nat.le_of_ble_eq_true rfl, Nat.le_of_ble_eq_true rfl⟩ rfl (Nat.le_of_ble_eq_true rfl) dX9_who_34) (fun r_31 u_30 H locs hw hP hD hS => ?_)
        obtain ⟨zpacking_looseCount_32, zroom_33, zloose_34, zreached_35⟩ := u_30
        try dsimp only at hw hP hD
        obtain ⟨p_36, p_37, p_38, p_39, p_40⟩ := hw
        refine lv_istore (lv' := [(4, .int r_31), (0, .ref (hs 0)), (1, .int i), (2, .int all), (3, .int what)]) hx hb dX9_who_37 hl (by decide) rfl (fun ls hl => ?_)
        refine lv_iconst (v := (-1)) hx hb dX9_who_39 (by decide) ?_
        refine lv_istore (lv' := [(5, .int (-1)), (4, .int r_31), (0, .ref (hs 0)), (1, .int i), (2, .int all), (3, .int what)]) hx hb dX9_who_40 hl (by decide) rfl (fun ls hl => ?_)
        refine lv_iconst (v := 0) hx hb dX9_who_42 (by decide) ?_
        refine lv_istore (lv' := [(6, .int 0), (5, .int (-1)), (4, .int r_31), (0, .ref (hs 0)), (1, .int i), (2, .int all), (3, .int what)]) hx hb dX9_who_43 hl (by decide) rfl (fun ls hl => ?_)
        have L45_55 : ∀ (n : Nat) (f_48 : Nat → Int32) (f_49 : Nat → Int32) (f_50 : Nat → Int32) (l_51 : Int32) (l_52 : Int32) (w_53 : Int32) (w_54 : Int32), (rg (0) 9 f_48) → (rg (0) 3072 f_49) → (rg (-1000) 400 f_50) → (-1 ≤ l_51.toInt ∧ l_51.toInt ≤ 5) → (0 ≤ l_52.toInt ∧ l_52.toInt ≤ 6) → (0 ≤ w_53.toInt ∧ w_53.toInt ≤ 10) → (-1 ≤ w_54.toInt ∧ w_54.toInt ≤ 5) → 7 - l_52.toInt < n → ∀ (H : Heap) (locs : List Loc) (ls : Array Slot), va_P D vwCl (wSP cy hs hH hT sH sT v_tape_size v_band_walkers v_band_loads v_band_pieces v_rules_clauses v_reader_end v_reader_at v_reader_length v_reader_letter v_reader_fault v_draft_clauses v_paces_version w_54 zpacking_loads_13 w_53 v_marches_told v_marches_changeMinutes v_marches_marching v_marches_gone v_search_known v_search_countHere v_search_countThere v_search_cost v_search_most v_search_found f_bytes f_knee f_weight f_limps f_bheft f_owner f_food f_miles f_slope f_rsteps f_rkind f_ryields f_rholds zrletters_14 zrstack_15 f_dsteps f_dkind f_dyields f_dholds f_dletters f_dstack zcaps_16 zversions_17 f_sharing zpheft_18 f_prow zholder_19 zcomes_20 zpcaps_21 f_50 f_48 f_49 f_mrow f_minutesOn f_mtired f_here f_there f_statesHere f_statesThere f_listed f_stired f_burdens f_pacesOn f_restedOn f_behindOn f_behindFor f_first f_second f_plans f_tiredOn) H → va_D A (wSP cy hs hH hT sH sT v_tape_size v_band_walkers v_band_loads v_band_pieces v_rules_clauses v_reader_end v_reader_at v_reader_length v_reader_letter v_reader_fault v_draft_clauses v_paces_version w_54 zpacking_loads_13 w_53 v_marches_told v_marches_changeMinutes v_marches_marching v_marches_gone v_search_known v_search_countHere v_search_countThere v_search_cost v_search_most v_search_found f_bytes f_knee f_weight f_limps f_bheft f_owner f_food f_miles f_slope f_rsteps f_rkind f_ryields f_rholds zrletters_14 zrstack_15 f_dsteps f_dkind f_dyields f_dholds f_dletters f_dstack zcaps_16 zversions_17 f_sharing zpheft_18 f_prow zholder_19 zcomes_20 zpcaps_21 f_50 f_48 f_49 f_mrow f_minutesOn f_mtired f_here f_there f_statesHere f_statesThere f_listed f_stired f_burdens f_pacesOn f_restedOn f_behindOn f_behindFor f_first f_second f_plans f_tiredOn) → va_S A s.heap H locs → lv_has ls 7 [(6, .int l_52), (5, .int l_51), (4, .int r_31), (0, .ref (hs 0)), (1, .int i), (2, .int all), (3, .int what)] → W p l e (gRm 6) s m args below meth c H locs 0 0 Q (F0 m 45 ls []) := by
          intro n
          induction n with
          | zero => intro f_48 f_49 f_50 l_51 l_52 w_53 w_54 hL45_55_0 hL45_55_1 hL45_55_2 hL45_55_3 hL45_55_4 hL45_55_5 hL45_55_6 hm; exact absurd hm (by omega)
          | succ n ih45_55 =>
            intro f_48 f_49 f_50 l_51 l_52 w_53 w_54 hL45_55_0 hL45_55_1 hL45_55_2 hL45_55_3 hL45_55_4 hL45_55_5 hL45_55_6 hmL45_55 H locs ls hP hD hS hl
            refine lv_iload hx hb dX9_who_45 (lv_at hl 0 rfl) ?_
            refine lv_aload_n hx hb dX9_who_47 rfl (lv_at hl 3 rfl) ?_
            refine gt_SP_SP_band hx hb hts hown hK hP lwd_19 dX9_who_48 ?_
            refine gt_SP_band_walkers hx hb hts hown hK hP lwd_206 dX9_who_51 ?_
            refine lv_icmp_ge (tgt := 103) hx hb dX9_who_54 (by decide) (fun c_56 => ?_) (fun c_56 => ?_)
            · have gc_56 : v_band_walkers.toInt ≤ l_52.toInt := i_le (rfl : v_band_walkers.toInt = v_band_walkers.toInt) (rfl : l_52.toInt = l_52.toInt) c_56
              refine lv_iload_n hx hb dX9_who_103 rfl (lv_at hl 6 rfl) ?_
              refine lv_if_ne (tgt := 110) hx hb dX9_who_104 (by decide) (fun c_57 => ?_) (fun c_57 => ?_)
              · have gc_57 : what.toInt ≠ 0 := i_ne (rfl : what.toInt = what.toInt) (by decide : (0 : Int32).toInt = 0) c_57
                refine lv_iload hx hb dX9_who_110 (lv_at hl 1 rfl) ?_
                refine lv_iconst (v := (-1)) hx hb dX9_who_112 (by decide) ?_
                refine lv_icmp_ne (tgt := 120) hx hb dX9_who_113 (by decide) (fun c_58 => ?_) (fun c_58 => ?_)
                · have gc_58 : l_51.toInt ≠ (-1) := i_ne (rfl : l_51.toInt = l_51.toInt) (by decide : ((-1) : Int32).toInt = (-1)) c_58
                  refine lv_iconst (v := 1) hx hb dX9_who_120 (by decide) ?_
                  have k_59 : (1 : Int32).toInt = 1 := by decide
                  exact hrt 1 w_54 zpacking_loads_13 w_53 zrletters_14 zrstack_15 zcaps_16 zversions_17 zpheft_18 zholder_19 zcomes_20 zpcaps_21 f_50 f_48 f_49 ⟨(by omega), (by omega), (by omega), p_25, p_26, p_27, p_28, p_29, hL45_55_2, hL45_55_0, hL45_55_1⟩ hP hD hS rfl dX9_who_121
                · have gc_58 : l_51.toInt = (-1) := i_eq (rfl : l_51.toInt = l_51.toInt) (by decide : ((-1) : Int32).toInt = (-1)) c_58
                  refine lv_iconst (v := 0) hx hb dX9_who_116 (by decide) ?_
                  refine lv_goto (tgt := 121) hx hb dX9_who_117 (by decide) ?_
                  have k_60 : (0 : Int32).toInt = 0 := by decide
                  exact hrt 0 w_54 zpacking_loads_13 w_53 zrletters_14 zrstack_15 zcaps_16 zversions_17 zpheft_18 zholder_19 zcomes_20 zpcaps_21 f_50 f_48 f_49 ⟨(by omega), (by omega), (by omega), p_25, p_26, p_27, p_28, p_29, hL45_55_2, hL45_55_0, hL45_55_1⟩ hP hD hS rfl dX9_who_121
              · have gc_57 : what.toInt = 0 := i_eq (rfl : what.toInt = what.toInt) (by decide : (0 : Int32).toInt = 0) c_57
                refine lv_iload hx hb dX9_who_107 (lv_at hl 1 rfl) ?_
                exact hrt l_51 w_54 zpacking_loads_13 w_53 zrletters_14 zrstack_15 zcaps_16 zversions_17 zpheft_18 zholder_19 zcomes_20 zpcaps_21 f_50 f_48 f_49 ⟨(by omega), (by omega), (by omega), p_25, p_26, p_27, p_28, p_29, hL45_55_2, hL45_55_0, hL45_55_1⟩ hP hD hS rfl dX9_who_109
            · have gc_56 : l_52.toInt < v_band_walkers.toInt := i_nle (rfl : v_band_walkers.toInt = v_band_walkers.toInt) (rfl : l_52.toInt = l_52.toInt) c_56
              refine lv_iload hx hb dX9_who_57 (lv_at hl 1 rfl) ?_
              refine lv_iconst (v := (-1)) hx hb dX9_who_59 (by decide) ?_
              refine lv_icmp_ne (tgt := 103) hx hb dX9_who_60 (by decide) (fun c_61 => ?_) (fun c_61 => ?_)
              · have gc_61 : l_51.toInt ≠ (-1) := i_ne (rfl : l_51.toInt = l_51.toInt) (by decide : ((-1) : Int32).toInt = (-1)) c_61
                refine lv_iload_n hx hb dX9_who_103 rfl (lv_at hl 6 rfl) ?_
                refine lv_if_ne (tgt := 110) hx hb dX9_who_104 (by decide) (fun c_62 => ?_) (fun c_62 => ?_)
                · have gc_62 : what.toInt ≠ 0 := i_ne (rfl : what.toInt = what.toInt) (by decide : (0 : Int32).toInt = 0) c_62
                  refine lv_iload hx hb dX9_who_110 (lv_at hl 1 rfl) ?_
                  refine lv_iconst (v := (-1)) hx hb dX9_who_112 (by decide) ?_
                  refine lv_icmp_ne (tgt := 120) hx hb dX9_who_113 (by decide) (fun c_63 => ?_) (fun c_63 => ?_)
                  · have gc_63 : l_51.toInt ≠ (-1) := i_ne (rfl : l_51.toInt = l_51.toInt) (by decide : ((-1) : Int32).toInt = (-1)) c_63
                    refine lv_iconst (v := 1) hx hb dX9_who_120 (by decide) ?_
                    have k_64 : (1 : Int32).toInt = 1 := by decide
                    exact hrt 1 w_54 zpacking_loads_13 w_53 zrletters_14 zrstack_15 zcaps_16 zversions_17 zpheft_18 zholder_19 zcomes_20 zpcaps_21 f_50 f_48 f_49 ⟨(by omega), (by omega), (by omega), p_25, p_26, p_27, p_28, p_29, hL45_55_2, hL45_55_0, hL45_55_1⟩ hP hD hS rfl dX9_who_121
                  · have gc_63 : l_51.toInt = (-1) := i_eq (rfl : l_51.toInt = l_51.toInt) (by decide : ((-1) : Int32).toInt = (-1)) c_63
                    exact absurd gc_63 (by omega)
                · have gc_62 : what.toInt = 0 := i_eq (rfl : what.toInt = what.toInt) (by decide : (0 : Int32).toInt = 0) c_62
                  refine lv_iload hx hb dX9_who_107 (lv_at hl 1 rfl) ?_
                  exact hrt l_51 w_54 zpacking_loads_13 w_53 zrletters_14 zrstack_15 zcaps_16 zversions_17 zpheft_18 zholder_19 zcomes_20 zpcaps_21 f_50 f_48 f_49 ⟨(by omega), (by omega), (by omega), p_25, p_26, p_27, p_28, p_29, hL45_55_2, hL45_55_0, hL45_55_1⟩ hP hD hS rfl dX9_who_109
              · have gc_61 : l_51.toInt = (-1) := i_eq (rfl : l_51.toInt = l_51.toInt) (by decide : ((-1) : Int32).toInt = (-1)) c_61
                refine lv_iload hx hb dX9_who_63 (lv_at hl 2 rfl) ?_
                refine lv_bipush (v := 60) hx hb dX9_who_65 (by decide) ?_
                refine lv_icmp_ge (tgt := 103) hx hb dX9_who_67 (by decide) (fun c_65 => ?_) (fun c_65 => ?_)
                · have gc_65 : 60 ≤ r_31.toInt := i_le (by decide : (60 : Int32).toInt = 60) (rfl : r_31.toInt = r_31.toInt) c_65
                  refine lv_iload_n hx hb dX9_who_103 rfl (lv_at hl 6 rfl) ?_
                  refine lv_if_ne (tgt := 110) hx hb dX9_who_104 (by decide) (fun c_66 => ?_) (fun c_66 => ?_)
                  · have gc_66 : what.toInt ≠ 0 := i_ne (rfl : what.toInt = what.toInt) (by decide : (0 : Int32).toInt = 0) c_66
                    refine lv_iload hx hb dX9_who_110 (lv_at hl 1 rfl) ?_
                    refine lv_iconst (v := (-1)) hx hb dX9_who_112 (by decide) ?_
                    refine lv_icmp_ne (tgt := 120) hx hb dX9_who_113 (by decide) (fun c_67 => ?_) (fun c_67 => ?_)
                    · have gc_67 : l_51.toInt ≠ (-1) := i_ne (rfl : l_51.toInt = l_51.toInt) (by decide : ((-1) : Int32).toInt = (-1)) c_67
                      exact absurd gc_67 (by omega)
                    · have gc_67 : l_51.toInt = (-1) := i_eq (rfl : l_51.toInt = l_51.toInt) (by decide : ((-1) : Int32).toInt = (-1)) c_67
                      refine lv_iconst (v := 0) hx hb dX9_who_116 (by decide) ?_
                      refine lv_goto (tgt := 121) hx hb dX9_who_117 (by decide) ?_
                      have k_68 : (0 : Int32).toInt = 0 := by decide
                      exact hrt 0 w_54 zpacking_loads_13 w_53 zrletters_14 zrstack_15 zcaps_16 zversions_17 zpheft_18 zholder_19 zcomes_20 zpcaps_21 f_50 f_48 f_49 ⟨(by omega), (by omega), (by omega), p_25, p_26, p_27, p_28, p_29, hL45_55_2, hL45_55_0, hL45_55_1⟩ hP hD hS rfl dX9_who_121
                  · have gc_66 : what.toInt = 0 := i_eq (rfl : what.toInt = what.toInt) (by decide : (0 : Int32).toInt = 0) c_66
                    refine lv_iload hx hb dX9_who_107 (lv_at hl 1 rfl) ?_
                    exact hrt l_51 w_54 zpacking_loads_13 w_53 zrletters_14 zrstack_15 zcaps_16 zversions_17 zpheft_18 zholder_19 zcomes_20 zpcaps_21 f_50 f_48 f_49 ⟨(by omega), (by omega), (by omega), p_25, p_26, p_27, p_28, p_29, hL45_55_2, hL45_55_0, hL45_55_1⟩ hP hD hS rfl dX9_who_109
                · have gc_65 : r_31.toInt < 60 := i_nle (by decide : (60 : Int32).toInt = 60) (rfl : r_31.toInt = r_31.toInt) c_65
                  refine lv_aload_n hx hb dX9_who_70 rfl (lv_at hl 3 rfl) ?_
                  refine gt_SP_SP_packing hx hb hts hown hK hP lwd_35 dX9_who_71 ?_
                  refine lv_iload hx hb dX9_who_74 (lv_at hl 0 rfl) ?_
                  refine pt_SP_packing_quicker (x := l_52) hx hb hts hown hK hP hD hS lwd_792 dX9_who_76 (fun H locs hP hD hS => ?_)
                  refine lv_aload_n hx hb dX9_who_79 rfl (lv_at hl 3 rfl) ?_
                  refine gt_SP_SP_packing hx hb hts hown hK hP lwd_35 dX9_who_80 ?_
                  refine lv_iload hx hb dX9_who_83 (lv_at hl 2 rfl) ?_
                  refine lv_iconst (v := 1) hx hb dX9_who_85 (by decide) ?_
                  refine lv_iadd hx hb dX9_who_86 ?_
                  refine lv_topi (fun n_69 en_69 => ?_)
                  have tn_69 : n_69.toInt = r_31.toInt + 1 := i_add en_69 (rfl : r_31.toInt = r_31.toInt) (by decide : (1 : Int32).toInt = 1) (by omega) (by omega)
                  refine xi hD hS hA (xV (As := [.int n_69]) (rest := []) hx hb hml hown hts hK hP hD hS hA NS_ok hN hAe hl.1 ⟨Nat.le_refl _, Nat.le_refl _⟩ 31 rfl rfl rfl (c_X4_fits l D cy hs hH hT sH sT v_tape_size v_band_walkers v_band_loads v_band_pieces v_rules_clauses v_reader_end v_reader_at v_reader_length v_reader_letter v_reader_fault v_draft_clauses v_paces_version l_52 zpacking_loads_13 w_53 v_marches_told v_marches_changeMinutes v_marches_marching v_marches_gone v_search_known v_search_countHere v_search_countThere v_search_cost v_search_most v_search_found f_bytes f_knee f_weight f_limps f_bheft f_owner f_food f_miles f_slope f_rsteps f_rkind f_ryields f_rholds zrletters_14 zrstack_15 f_dsteps f_dkind f_dyields f_dholds f_dletters f_dstack zcaps_16 zversions_17 f_sharing zpheft_18 f_prow zholder_19 zcomes_20 zpcaps_21 f_50 f_48 f_49 f_mrow f_minutesOn f_mtired f_here f_there f_statesHere f_statesThere f_listed f_stired f_burdens f_pacesOn f_restedOn f_behindOn f_behindFor f_first f_second f_plans f_tiredOn tS H.size n_69 (by omega) (by omega) (by omega) p_25 p_26 p_27 p_28 p_29 hL45_55_2 hL45_55_0 hL45_55_1 (by omega)) (gi_V lwd_793 lwd_702 lwd_703 lwd_34 lwd_704) ⟨rfl, hd_X4_fits⟩ ⟨Nat.le_of_ble_eq_true rfl, Nat.le_of_ble_eq_true rfl⟩ rfl (Nat.le_of_ble_eq_true rfl) dX9_who_87) (fun r_71 u_70 H locs hw hP hD hS => ?_)
                  obtain ⟨zpacking_looseCount_72, zroom_73, zloose_74, zreached_75⟩ := u_70
                  try dsimp only at hw hP hD
                  obtain ⟨p_76, p_77, p_78, p_79, p_80⟩ := hw
                  refine lv_if_eq (tgt := 97) hx hb dX9_who_90 (by decide) (fun c_81 => ?_) (fun c_81 => ?_)
                  · have gc_81 : r_71.toInt = 0 := i_eq (rfl : r_71.toInt = r_71.toInt) (by decide : (0 : Int32).toInt = 0) c_81
                    obtain ⟨n_82, en_82⟩ : ∃ y : Int32, y = l_52 + 1 := ⟨_, rfl⟩
                    have tn_82 : n_82.toInt = l_52.toInt + 1 := i_add en_82 (rfl : l_52.toInt = l_52.toInt) (by decide : (1 : Int32).toInt = 1) (by omega) (by omega)
                    refine lv_iinc (v := n_82) (lv' := [(6, .int n_82), (5, .int l_51), (4, .int r_31), (0, .ref (hs 0)), (1, .int i), (2, .int all), (3, .int what)]) hx hb dX9_who_97 hl (k := 0) rfl (by rw [en_82]; rfl) (by decide) rfl (fun ls hl => ?_)
                    refine lv_goto (tgt := 45) hx hb dX9_who_100 (by decide) ?_
                    exact ih45_55 zloose_74 zreached_75 zroom_73 l_51 n_82 zpacking_looseCount_72 l_52 p_79 p_80 p_78 (by omega) (by omega) (by omega) (by omega) (by omega) _ _ _ hP hD hS (lv_sub hl [0, 1, 2, 3, 4, 5, 6] rfl)
                  · have gc_81 : r_71.toInt ≠ 0 := i_ne (rfl : r_71.toInt = r_71.toInt) (by decide : (0 : Int32).toInt = 0) c_81
                    refine lv_iload hx hb dX9_who_93 (lv_at hl 0 rfl) ?_
                    refine lv_istore (lv' := [(5, .int l_52), (6, .int l_52), (4, .int r_31), (0, .ref (hs 0)), (1, .int i), (2, .int all), (3, .int what)]) hx hb dX9_who_95 hl (by decide) rfl (fun ls hl => ?_)
                    obtain ⟨n_83, en_83⟩ : ∃ y : Int32, y = l_52 + 1 := ⟨_, rfl⟩
                    have tn_83 : n_83.toInt = l_52.toInt + 1 := i_add en_83 (rfl : l_52.toInt = l_52.toInt) (by decide : (1 : Int32).toInt = 1) (by omega) (by omega)
                    refine lv_iinc (v := n_83) (lv' := [(6, .int n_83), (5, .int l_52), (4, .int r_31), (0, .ref (hs 0)), (1, .int i), (2, .int all), (3, .int what)]) hx hb dX9_who_97 hl (k := 1) rfl (by rw [en_83]; rfl) (by decide) rfl (fun ls hl => ?_)
                    refine lv_goto (tgt := 45) hx hb dX9_who_100 (by decide) ?_
                    exact ih45_55 zloose_74 zreached_75 zroom_73 l_52 n_83 zpacking_looseCount_72 l_52 p_79 p_80 p_78 (by omega) (by omega) (by omega) (by omega) (by omega) _ _ _ hP hD hS (lv_sub hl [0, 1, 2, 3, 4, 5, 6] rfl)
        have k_84 : ((-1) : Int32).toInt = (-1) := by decide
        have k_85 : (0 : Int32).toInt = 0 := by decide
        exact L45_55 8589934592 zloose_34 zreached_35 zroom_33 (-1) 0 zpacking_looseCount_32 zpacking_quicker_12 p_39 p_40 p_38 (by omega) (by omega) (by omega) (by omega) (by omega) _ _ _ hP hD hS (lv_sub hl [0, 1, 2, 3, 4, 5, 6] rfl)
      · have gc_9 : r_6.toInt = 0 := i_eq (rfl : r_6.toInt = r_6.toInt) (by decide : (0 : Int32).toInt = 0) c_9
        refine lv_bipush (v := (-2)) hx hb dX9_who_18 (by decide) ?_
        have k_86 : ((-2) : Int32).toInt = (-2) := by decide
        exact hrt (-2) v_packing_quicker v_packing_loads v_packing_looseCount f_rletters f_rstack f_caps f_versions f_pheft f_holder f_comes f_pcaps f_room f_loose f_reached ⟨(by omega), (by omega), (by omega), hr_caps, hr_pheft, hr_holder, hr_comes, hr_pcaps, hr_room, hr_loose, hr_reached⟩ hP hD hS rfl dX9_who_20
set_option maxHeartbeats 16000000 in
set_option maxRecDepth 100000 in
theorem c_X9_pounds (l : Launch) (D : va_G) (cy : Nat → ClassId) (hs : Nat → Nat) (hH hT sH sT : Nat) (v_tape_size v_band_walkers v_band_loads v_band_pieces v_rules_clauses v_reader_end v_reader_at v_reader_length v_reader_letter v_reader_fault v_draft_clauses v_paces_version v_packing_quicker v_packing_loads v_packing_looseCount v_marches_told v_marches_changeMinutes v_marches_marching v_marches_gone v_search_known v_search_countHere v_search_countThere v_search_cost v_search_most : Int32) (v_search_found : Int64) (f_bytes f_knee f_weight f_limps f_bheft f_owner f_food f_miles f_slope f_rsteps f_rkind f_ryields f_rholds f_rletters f_rstack f_dsteps f_dkind f_dyields f_dholds f_dletters f_dstack f_caps f_versions f_sharing f_pheft f_prow f_holder f_comes f_pcaps f_room f_loose f_reached f_mrow f_minutesOn f_mtired : Nat → Int32) (f_here f_there : Nat → Int64) (f_statesHere f_statesThere f_listed f_stired f_burdens f_pacesOn f_restedOn f_behindOn f_behindFor f_first f_second : Nat → Int32) (f_plans f_tiredOn : Nat → Nat → Int32) (tS : Nat) (sz : Nat) (x : Int32) (i : Int32) (all : Int32) (hb_v_band_walkers : 0 ≤ v_band_walkers.toInt ∧ v_band_walkers.toInt ≤ 6) (hb_v_band_loads : 0 ≤ v_band_loads.toInt ∧ v_band_loads.toInt ≤ 9) (hb_v_band_pieces : 0 ≤ v_band_pieces.toInt ∧ v_band_pieces.toInt ≤ 10) (hb_v_rules_clauses : 0 ≤ v_rules_clauses.toInt ∧ v_rules_clauses.toInt ≤ 14) (hb_v_packing_quicker : -1 ≤ v_packing_quicker.toInt ∧ v_packing_quicker.toInt ≤ 5) (hb_v_packing_loads : 0 ≤ v_packing_loads.toInt ∧ v_packing_loads.toInt ≤ 10) (hb_v_packing_looseCount : 0 ≤ v_packing_looseCount.toInt ∧ v_packing_looseCount.toInt ≤ 10) (hr_weight : rg (0) 250 f_weight) (hr_limps : rg (0) 1 f_limps) (hr_bheft : rg (0) 120 f_bheft) (hr_owner : rg (-1) 5 f_owner) (hr_food : rg (0) 20 f_food) (hr_miles : rg (0) 20 f_miles) (hr_caps : rg (-1) 400 f_caps) (hr_pheft : rg (0) 250 f_pheft) (hr_holder : rg (-1) 5 f_holder) (hr_comes : rg (0) 1 f_comes) (hr_pcaps : rg (0) 21899 f_pcaps) (hr_room : rg (-1000) 400 f_room) (hr_loose : rg (0) 9 f_loose) (hr_reached : rg (0) 3072 f_reached) : gMi l yX9_pounds cX9_pounds 10 .int 6 [.ref (hs 0), .int x, .int i, .int all] D cy (wSP cy hs hH hT sH sT v_tape_size v_band_walkers v_band_loads v_band_pieces v_rules_clauses v_reader_end v_reader_at v_reader_length v_reader_letter v_reader_fault v_draft_clauses v_paces_version v_packing_quicker v_packing_loads v_packing_looseCount v_marches_told v_marches_changeMinutes v_marches_marching v_marches_gone v_search_known v_search_countHere v_search_countThere v_search_cost v_search_most v_search_found f_bytes f_knee f_weight f_limps f_bheft f_owner f_food f_miles f_slope f_rsteps f_rkind f_ryields f_rholds f_rletters f_rstack f_dsteps f_dkind f_dyields f_dholds f_dletters f_dstack f_caps f_versions f_sharing f_pheft f_prow f_holder f_comes f_pcaps f_room f_loose f_reached f_mrow f_minutesOn f_mtired f_here f_there f_statesHere f_statesThere f_listed f_stired f_burdens f_pacesOn f_restedOn f_behindOn f_behindFor f_first f_second f_plans f_tiredOn) (NS tS) sz (fun (r : Int32) (u : Int32 × Int32 × Int32 × (Nat → Int32) × (Nat → Int32) × (Nat → Int32) × (Nat → Int32) × (Nat → Int32) × (Nat → Int32) × (Nat → Int32) × (Nat → Int32) × (Nat → Int32) × (Nat → Int32) × (Nat → Int32)) => (-1 ≤ (u.1).toInt ∧ (u.1).toInt ≤ 5) ∧ (0 ≤ (u.2.1).toInt ∧ (u.2.1).toInt ≤ 10) ∧ (0 ≤ (u.2.2.1).toInt ∧ (u.2.2.1).toInt ≤ 10) ∧ (rg (-1) 400 (u.2.2.2.2.2.1)) ∧ (rg (0) 250 (u.2.2.2.2.2.2.2.1)) ∧ (rg (-1) 5 (u.2.2.2.2.2.2.2.2.1)) ∧ (rg (0) 1 (u.2.2.2.2.2.2.2.2.2.1)) ∧ (rg (0) 21899 (u.2.2.2.2.2.2.2.2.2.2.1)) ∧ (rg (-1000) 400 (u.2.2.2.2.2.2.2.2.2.2.2.1)) ∧ (rg (0) 9 (u.2.2.2.2.2.2.2.2.2.2.2.2.1)) ∧ (rg (0) 3072 (u.2.2.2.2.2.2.2.2.2.2.2.2.2))) (fun u => wSP cy hs hH hT sH sT v_tape_size v_band_walkers v_band_loads v_band_pieces v_rules_clauses v_reader_end v_reader_at v_reader_length v_reader_letter v_reader_fault v_draft_clauses v_paces_version (u.1) (u.2.1) (u.2.2.1) v_marches_told v_marches_changeMinutes v_marches_marching v_marches_gone v_search_known v_search_countHere v_search_countThere v_search_cost v_search_most v_search_found f_bytes f_knee f_weight f_limps f_bheft f_owner f_food f_miles f_slope f_rsteps f_rkind f_ryields f_rholds (u.2.2.2.1) (u.2.2.2.2.1) f_dsteps f_dkind f_dyields f_dholds f_dletters f_dstack (u.2.2.2.2.2.1) (u.2.2.2.2.2.2.1) f_sharing (u.2.2.2.2.2.2.2.1) f_prow (u.2.2.2.2.2.2.2.2.1) (u.2.2.2.2.2.2.2.2.2.1) (u.2.2.2.2.2.2.2.2.2.2.1) (u.2.2.2.2.2.2.2.2.2.2.2.1) (u.2.2.2.2.2.2.2.2.2.2.2.2.1) (u.2.2.2.2.2.2.2.2.2.2.2.2.2) f_mrow f_minutesOn f_mtired f_here f_there f_statesHere f_statesThere f_listed f_stired f_burdens f_pacesOn f_restedOn f_behindOn f_behindFor f_first f_second f_plans f_tiredOn) := by
  refine gMi_in (by decide) (Nat.le_of_ble_eq_true rfl) ?_
  intro p e s m args below meth c A ls Q hx hb hml hts hown hsz hP hK hD hN hAe hA hS hl hret
  subst hsz
  have hl : lv_has ls 10 [(0, .ref (hs 0)), (1, .int x), (2, .int i), (3, .int all)] := hl
  have hrt := fun (r : Int32) (v_packing_quicker' : Int32) (v_packing_loads' : Int32) (v_packing_looseCount' : Int32) (f_rletters' : Nat → Int32) (f_rstack' : Nat → Int32) (f_caps' : Nat → Int32) (f_versions' : Nat → Int32) (f_pheft' : Nat → Int32) (f_holder' : Nat → Int32) (f_comes' : Nat → Int32) (f_pcaps' : Nat → Int32) (f_room' : Nat → Int32) (f_loose' : Nat → Int32) (f_reached' : Nat → Int32) (hp : (-1 ≤ v_packing_quicker'.toInt ∧ v_packing_quicker'.toInt ≤ 5) ∧ (0 ≤ v_packing_loads'.toInt ∧ v_packing_loads'.toInt ≤ 10) ∧ (0 ≤ v_packing_looseCount'.toInt ∧ v_packing_looseCount'.toInt ≤ 10) ∧ (rg (-1) 400 f_caps') ∧ (rg (0) 250 f_pheft') ∧ (rg (-1) 5 f_holder') ∧ (rg (0) 1 f_comes') ∧ (rg (0) 21899 f_pcaps') ∧ (rg (-1000) 400 f_room') ∧ (rg (0) 9 f_loose') ∧ (rg (0) 3072 f_reached')) {H : Heap} {locs : List Loc} {pc : Nat} {ls : Array Slot} => hret r (v_packing_quicker', v_packing_loads', v_packing_looseCount', f_rletters', f_rstack', f_caps', f_versions', f_pheft', f_holder', f_comes', f_pcaps', f_room', f_loose', f_reached') (H := H) (locs := locs) (pc := pc) (ls := ls) hp
  clear hret
  refine lv_aload_n hx hb dX9_pounds_0 rfl (lv_at hl 0 rfl) ?_
  refine gt_SP_SP_band hx hb hts hown hK hP lwd_19 dX9_pounds_1 ?_
  refine lv_iload_n hx hb dX9_pounds_4 rfl (lv_at hl 1 rfl) ?_
  refine xi hD hS hA (xV (As := [.int x]) (rest := []) hx hb hml hown hts hK hP hD hS hA NS_ok hN hAe hl.1 ⟨Nat.le_refl _, Nat.le_refl _⟩ 3 rfl rfl rfl (c_X0_hasLoad l D cy hs hH hT sH sT v_tape_size v_band_walkers v_band_loads v_band_pieces v_rules_clauses v_reader_end v_reader_at v_reader_length v_reader_letter v_reader_fault v_draft_clauses v_paces_version v_packing_quicker v_packing_loads v_packing_looseCount v_marches_told v_marches_changeMinutes v_marches_marching v_marches_gone v_search_known v_search_countHere v_search_countThere v_search_cost v_search_most v_search_found f_bytes f_knee f_weight f_limps f_bheft f_owner f_food f_miles f_slope f_rsteps f_rkind f_ryields f_rholds f_rletters f_rstack f_dsteps f_dkind f_dyields f_dholds f_dletters f_dstack f_caps f_versions f_sharing f_pheft f_prow f_holder f_comes f_pcaps f_room f_loose f_reached f_mrow f_minutesOn f_mtired f_here f_there f_statesHere f_statesThere f_listed f_stired f_burdens f_pacesOn f_restedOn f_behindOn f_behindFor f_first f_second f_plans f_tiredOn tS s.heap.size x (by omega)) (gi_V lwd_677 lwd_678 lwd_679 lwd_18 lwd_680) ⟨rfl, hd_X0_hasLoad⟩ ⟨Nat.le_of_ble_eq_true rfl, Nat.le_of_ble_eq_true rfl⟩ rfl (Nat.le_of_ble_eq_true rfl) dX9_pounds_5) (fun r_2 u_1 H locs hw hP hD hS => ?_)
  try dsimp only at hw hP hD
  obtain ⟨p_3, p_4⟩ := hw
  refine lv_if_eq (tgt := 20) hx hb dX9_pounds_8 (by decide) (fun c_5 => ?_) (fun c_5 => ?_)
  · have gc_5 : r_2.toInt = 0 := i_eq (rfl : r_2.toInt = r_2.toInt) (by decide : (0 : Int32).toInt = 0) c_5
    refine lv_iconst (v := (-1)) hx hb dX9_pounds_20 (by decide) ?_
    have k_6 : ((-1) : Int32).toInt = (-1) := by decide
    exact hrt (-1) v_packing_quicker v_packing_loads v_packing_looseCount f_rletters f_rstack f_caps f_versions f_pheft f_holder f_comes f_pcaps f_room f_loose f_reached ⟨(by omega), (by omega), (by omega), hr_caps, hr_pheft, hr_holder, hr_comes, hr_pcaps, hr_room, hr_loose, hr_reached⟩ hP hD hS rfl dX9_pounds_21
  · have gc_5 : r_2.toInt ≠ 0 := i_ne (rfl : r_2.toInt = r_2.toInt) (by decide : (0 : Int32).toInt = 0) c_5
    refine lv_aload_n hx hb dX9_pounds_11 rfl (lv_at hl 0 rfl) ?_
    refine lv_iload_n hx hb dX9_pounds_12 rfl (lv_at hl 2 rfl) ?_
    refine lv_iload_n hx hb dX9_pounds_13 rfl (lv_at hl 3 rfl) ?_
    refine xi hD hS hA (xV (As := [.int i, .int all]) (rest := []) hx hb hml hown hts hK hP hD hS hA NS_ok hN hAe hl.1 ⟨Nat.le_refl _, Nat.le_refl _⟩ 0 rfl rfl rfl (c_X9_standsOn l D cy hs hH hT sH sT v_tape_size v_band_walkers v_band_loads v_band_pieces v_rules_clauses v_reader_end v_reader_at v_reader_length v_reader_letter v_reader_fault v_draft_clauses v_paces_version v_packing_quicker v_packing_loads v_packing_looseCount v_marches_told v_marches_changeMinutes v_marches_marching v_marches_gone v_search_known v_search_countHere v_search_countThere v_search_cost v_search_most v_search_found f_bytes f_knee f_weight f_limps f_bheft f_owner f_food f_miles f_slope f_rsteps f_rkind f_ryields f_rholds f_rletters f_rstack f_dsteps f_dkind f_dyields f_dholds f_dletters f_dstack f_caps f_versions f_sharing f_pheft f_prow f_holder f_comes f_pcaps f_room f_loose f_reached f_mrow f_minutesOn f_mtired f_here f_there f_statesHere f_statesThere f_listed f_stired f_burdens f_pacesOn f_restedOn f_behindOn f_behindFor f_first f_second f_plans f_tiredOn tS H.size i all (by omega) (by omega)) (gi_V lwd_616 lwd_617 lwd_618 lwd_2 lwd_619) ⟨rfl, hd_X9_standsOn⟩ ⟨Nat.le_of_ble_eq_true rfl, Nat.le_of_ble_eq_true rfl⟩ rfl (Nat.le_of_ble_eq_true rfl) dX9_pounds_14) (fun r_8 u_7 H locs hw hP hD hS => ?_)
    try dsimp only at hw hP hD
    obtain ⟨p_9, p_10⟩ := hw
    refine lv_if_ne (tgt := 22) hx hb dX9_pounds_17 (by decide) (fun c_11 => ?_) (fun c_11 => ?_)
    · have gc_11 : r_8.toInt ≠ 0 := i_ne (rfl : r_8.toInt = r_8.toInt) (by decide : (0 : Int32).toInt = 0) c_11
      refine lv_aload_n hx hb dX9_pounds_22 rfl (lv_at hl 0 rfl) ?_
      refine gt_SP_SP_packing hx hb hts hown hK hP lwd_35 dX9_pounds_23 ?_
      refine lv_iload_n hx hb dX9_pounds_26 rfl (lv_at hl 2 rfl) ?_
      refine lv_iload_n hx hb dX9_pounds_27 rfl (lv_at hl 3 rfl) ?_
      refine xv hD hS hA (xV (As := [.int i, .int all]) (rest := []) hx hb hml hown hts hK hP hD hS hA NS_ok hN hAe hl.1 ⟨Nat.le_refl _, Nat.le_refl _⟩ 31 rfl rfl rfl (c_X4_begin l D cy hs hH hT sH sT v_tape_size v_band_walkers v_band_loads v_band_pieces v_rules_clauses v_reader_end v_reader_at v_reader_length v_reader_letter v_reader_fault v_draft_clauses v_paces_version v_packing_quicker v_packing_loads v_packing_looseCount v_marches_told v_marches_changeMinutes v_marches_marching v_marches_gone v_search_known v_search_countHere v_search_countThere v_search_cost v_search_most v_search_found f_bytes f_knee f_weight f_limps f_bheft f_owner f_food f_miles f_slope f_rsteps f_rkind f_ryields f_rholds f_rletters f_rstack f_dsteps f_dkind f_dyields f_dholds f_dletters f_dstack f_caps f_versions f_sharing f_pheft f_prow f_holder f_comes f_pcaps f_room f_loose f_reached f_mrow f_minutesOn f_mtired f_here f_there f_statesHere f_statesThere f_listed f_stired f_burdens f_pacesOn f_restedOn f_behindOn f_behindFor f_first f_second f_plans f_tiredOn tS H.size i all (by omega) (by omega) (by omega) (by omega) (by omega) hr_weight hr_limps hr_bheft hr_owner hr_food hr_miles hr_caps hr_pheft hr_holder hr_comes hr_pcaps (by omega) (by omega)) (gi_V lwd_682 lwd_683 lwd_684 lwd_34 lwd_685) ⟨rfl, hd_X4_begin⟩ ⟨Nat.le_of_ble_eq_true rfl, Nat.le_of_ble_eq_true rfl⟩ rfl (Nat.le_of_ble_eq_true rfl) dX9_pounds_28) (fun u_12 H locs hw hP hD hS => ?_)
      obtain ⟨zpacking_quicker_14, zpacking_loads_15, zrletters_16, zrstack_17, zcaps_18, zversions_19, zpheft_20, zholder_21, zcomes_22, zpcaps_23⟩ := u_12
      try dsimp only at hw hP hD
      obtain ⟨p_24, p_25, p_26, p_27, p_28, p_29, p_30, p_31⟩ := hw
      refine lv_aload_n hx hb dX9_pounds_31 rfl (lv_at hl 0 rfl) ?_
      refine gt_SP_SP_packing hx hb hts hown hK hP lwd_35 dX9_pounds_32 ?_
      refine xi hD hS hA (xV (As := []) (rest := []) hx hb hml hown hts hK hP hD hS hA NS_ok hN hAe hl.1 ⟨Nat.le_refl _, Nat.le_refl _⟩ 31 rfl rfl rfl (c_X4_greatest l D cy hs hH hT sH sT v_tape_size v_band_walkers v_band_loads v_band_pieces v_rules_clauses v_reader_end v_reader_at v_reader_length v_reader_letter v_reader_fault v_draft_clauses v_paces_version zpacking_quicker_14 zpacking_loads_15 v_packing_looseCount v_marches_told v_marches_changeMinutes v_marches_marching v_marches_gone v_search_known v_search_countHere v_search_countThere v_search_cost v_search_most v_search_found f_bytes f_knee f_weight f_limps f_bheft f_owner f_food f_miles f_slope f_rsteps f_rkind f_ryields f_rholds zrletters_16 zrstack_17 f_dsteps f_dkind f_dyields f_dholds f_dletters f_dstack zcaps_18 zversions_19 f_sharing zpheft_20 f_prow zholder_21 zcomes_22 zpcaps_23 f_room f_loose f_reached f_mrow f_minutesOn f_mtired f_here f_there f_statesHere f_statesThere f_listed f_stired f_burdens f_pacesOn f_restedOn f_behindOn f_behindFor f_first f_second f_plans f_tiredOn tS H.size (by omega) (by omega) (by omega) p_27 p_28 p_29 p_30 p_31 hr_room hr_loose hr_reached) (gi_V lwd_697 lwd_698 lwd_699 lwd_34 lwd_700) ⟨rfl, hd_X4_greatest⟩ ⟨Nat.le_of_ble_eq_true rfl, Nat.le_of_ble_eq_true rfl⟩ rfl (Nat.le_of_ble_eq_true rfl) dX9_pounds_35) (fun r_33 u_32 H locs hw hP hD hS => ?_)
      obtain ⟨zpacking_looseCount_34, zroom_35, zloose_36, zreached_37⟩ := u_32
      try dsimp only at hw hP hD
      obtain ⟨p_38, p_39, p_40, p_41, p_42⟩ := hw
      refine lv_iconst (v := 1) hx hb dX9_pounds_38 (by decide) ?_
      refine lv_iadd hx hb dX9_pounds_39 ?_
      refine lv_topi (fun n_43 en_43 => ?_)
      have tn_43 : n_43.toInt = r_33.toInt + 1 := i_add en_43 (rfl : r_33.toInt = r_33.toInt) (by decide : (1 : Int32).toInt = 1) (by omega) (by omega)
      refine lv_istore (lv' := [(4, .int n_43), (0, .ref (hs 0)), (1, .int x), (2, .int i), (3, .int all)]) hx hb dX9_pounds_40 hl (by decide) rfl (fun ls hl => ?_)
      refine lv_aload_n hx hb dX9_pounds_42 rfl (lv_at hl 1 rfl) ?_
      refine gt_SP_SP_packing hx hb hts hown hK hP lwd_35 dX9_pounds_43 ?_
      refine gt_SP_packing_heft hx hb hts hown hK hP lwd_802 dX9_pounds_46 ?_
      refine lv_iload_n hx hb dX9_pounds_49 rfl (lv_at hl 2 rfl) ?_
      refine al_pheft hx hb hK hP p_28 (i_in (rfl : x.toInt = x.toInt) (by omega) (by omega)) dX9_pounds_50 (fun n_44 en_44 bn_44 => ?_)
      refine lv_istore (lv' := [(5, .int n_44), (4, .int n_43), (0, .ref (hs 0)), (1, .int x), (2, .int i), (3, .int all)]) hx hb dX9_pounds_51 hl (by decide) rfl (fun ls hl => ?_)
      refine lv_aload_n hx hb dX9_pounds_53 rfl (lv_at hl 2 rfl) ?_
      refine gt_SP_SP_packing hx hb hts hown hK hP lwd_35 dX9_pounds_54 ?_
      refine gt_SP_packing_heft hx hb hts hown hK hP lwd_802 dX9_pounds_57 ?_
      refine lv_iload_n hx hb dX9_pounds_60 rfl (lv_at hl 3 rfl) ?_
      refine lv_iconst (v := 0) hx hb dX9_pounds_61 (by decide) ?_
      refine as_pheft (x := 0) hx hb hK hP hD hS p_28 (i_in (rfl : x.toInt = x.toInt) (by omega) (by omega)) (by decide) dX9_pounds_62 (fun f_45 ef_45 rf_45 H locs hP hD hS => ?_)
      refine lv_iload hx hb dX9_pounds_63 (lv_at hl 1 rfl) ?_
      refine lv_bipush (v := 60) hx hb dX9_pounds_65 (by decide) ?_
      refine lv_icmp_gt (tgt := 82) hx hb dX9_pounds_67 (by decide) (fun c_46 => ?_) (fun c_46 => ?_)
      · have gc_46 : 60 < r_33.toInt + 1 := i_lt (by decide : (60 : Int32).toInt = 60) tn_43 c_46
        refine lv_bipush (v := (-2)) hx hb dX9_pounds_82 (by decide) ?_
        have k_47 : ((-2) : Int32).toInt = (-2) := by decide
        exact hrt (-2) zpacking_quicker_14 zpacking_loads_15 zpacking_looseCount_34 zrletters_16 zrstack_17 zcaps_18 zversions_19 f_45 zholder_21 zcomes_22 zpcaps_23 zroom_35 zloose_36 zreached_37 ⟨(by omega), (by omega), (by omega), p_27, rf_45, p_29, p_30, p_31, p_40, p_41, p_42⟩ hP hD hS rfl dX9_pounds_84
      · have gc_46 : r_33.toInt + 1 ≤ 60 := i_nlt (by decide : (60 : Int32).toInt = 60) tn_43 c_46
        refine lv_aload_n hx hb dX9_pounds_70 rfl (lv_at hl 2 rfl) ?_
        refine gt_SP_SP_packing hx hb hts hown hK hP lwd_35 dX9_pounds_71 ?_
        refine lv_iload hx hb dX9_pounds_74 (lv_at hl 1 rfl) ?_
        refine xi hD hS hA (xV (As := [.int n_43]) (rest := []) hx hb hml hown hts hK hP hD hS hA NS_ok hN hAe hl.1 ⟨Nat.le_refl _, Nat.le_refl _⟩ 31 rfl rfl rfl (c_X4_fits l D cy hs hH hT sH sT v_tape_size v_band_walkers v_band_loads v_band_pieces v_rules_clauses v_reader_end v_reader_at v_reader_length v_reader_letter v_reader_fault v_draft_clauses v_paces_version zpacking_quicker_14 zpacking_loads_15 zpacking_looseCount_34 v_marches_told v_marches_changeMinutes v_marches_marching v_marches_gone v_search_known v_search_countHere v_search_countThere v_search_cost v_search_most v_search_found f_bytes f_knee f_weight f_limps f_bheft f_owner f_food f_miles f_slope f_rsteps f_rkind f_ryields f_rholds zrletters_16 zrstack_17 f_dsteps f_dkind f_dyields f_dholds f_dletters f_dstack zcaps_18 zversions_19 f_sharing f_45 f_prow zholder_21 zcomes_22 zpcaps_23 zroom_35 zloose_36 zreached_37 f_mrow f_minutesOn f_mtired f_here f_there f_statesHere f_statesThere f_listed f_stired f_burdens f_pacesOn f_restedOn f_behindOn f_behindFor f_first f_second f_plans f_tiredOn tS H.size n_43 (by omega) (by omega) (by omega) p_27 rf_45 p_29 p_30 p_31 p_40 p_41 p_42 (by omega)) (gi_V lwd_793 lwd_702 lwd_703 lwd_34 lwd_704) ⟨rfl, hd_X4_fits⟩ ⟨Nat.le_of_ble_eq_true rfl, Nat.le_of_ble_eq_true rfl⟩ rfl (Nat.le_of_ble_eq_true rfl) dX9_pounds_76) (fun r_49 u_48 H locs hw hP hD hS => ?_)
        obtain ⟨zpacking_looseCount_50, zroom_51, zloose_52, zreached_53⟩ := u_48
        try dsimp only at hw hP hD
        obtain ⟨p_54, p_55, p_56, p_57, p_58⟩ := hw
        refine lv_if_ne (tgt := 85) hx hb dX9_pounds_79 (by decide) (fun c_59 => ?_) (fun c_59 => ?_)
        · have gc_59 : r_49.toInt ≠ 0 := i_ne (rfl : r_49.toInt = r_49.toInt) (by decide : (0 : Int32).toInt = 0) c_59
          refine lv_iconst (v := 1) hx hb dX9_pounds_85 (by decide) ?_
          refine lv_istore (lv' := [(6, .int 1), (5, .int n_44), (4, .int n_43), (0, .ref (hs 0)), (1, .int x), (2, .int i), (3, .int all)]) hx hb dX9_pounds_86 hl (by decide) rfl (fun ls hl => ?_)
          refine lv_iload hx hb dX9_pounds_88 (lv_at hl 1 rfl) ?_
          refine lv_istore (lv' := [(7, .int n_44), (6, .int 1), (5, .int n_44), (4, .int n_43), (0, .ref (hs 0)), (1, .int x), (2, .int i), (3, .int all)]) hx hb dX9_pounds_90 hl (by decide) rfl (fun ls hl => ?_)
          refine lv_iconst (v := 0) hx hb dX9_pounds_92 (by decide) ?_
          refine lv_istore (lv' := [(8, .int 0), (7, .int n_44), (6, .int 1), (5, .int n_44), (4, .int n_43), (0, .ref (hs 0)), (1, .int x), (2, .int i), (3, .int all)]) hx hb dX9_pounds_93 hl (by decide) rfl (fun ls hl => ?_)
          have L95_76 : ∀ (n : Nat) (f_68 : Nat → Int32) (f_69 : Nat → Int32) (f_70 : Nat → Int32) (f_71 : Nat → Int32) (l_72 : Int32) (l_73 : Int32) (l_74 : Int32) (w_75 : Int32), (rg (0) 9 f_68) → (rg (0) 250 f_69) → (rg (0) 3072 f_70) → (rg (-1000) 400 f_71) → (1 ≤ l_72.toInt ∧ l_72.toInt ≤ 251) → (0 ≤ l_73.toInt ∧ l_73.toInt ≤ 250) → (0 ≤ l_74.toInt ∧ l_74.toInt ≤ 64) → (0 ≤ w_75.toInt ∧ w_75.toInt ≤ 10) → (l_73.toInt ≤ n_44.toInt) → 65 - l_74.toInt < n → ∀ (H : Heap) (locs : List Loc) (ls : Array Slot), va_P D vwCl (wSP cy hs hH hT sH sT v_tape_size v_band_walkers v_band_loads v_band_pieces v_rules_clauses v_reader_end v_reader_at v_reader_length v_reader_letter v_reader_fault v_draft_clauses v_paces_version zpacking_quicker_14 zpacking_loads_15 w_75 v_marches_told v_marches_changeMinutes v_marches_marching v_marches_gone v_search_known v_search_countHere v_search_countThere v_search_cost v_search_most v_search_found f_bytes f_knee f_weight f_limps f_bheft f_owner f_food f_miles f_slope f_rsteps f_rkind f_ryields f_rholds zrletters_16 zrstack_17 f_dsteps f_dkind f_dyields f_dholds f_dletters f_dstack zcaps_18 zversions_19 f_sharing f_69 f_prow zholder_21 zcomes_22 zpcaps_23 f_71 f_68 f_70 f_mrow f_minutesOn f_mtired f_here f_there f_statesHere f_statesThere f_listed f_stired f_burdens f_pacesOn f_restedOn f_behindOn f_behindFor f_first f_second f_plans f_tiredOn) H → va_D A (wSP cy hs hH hT sH sT v_tape_size v_band_walkers v_band_loads v_band_pieces v_rules_clauses v_reader_end v_reader_at v_reader_length v_reader_letter v_reader_fault v_draft_clauses v_paces_version zpacking_quicker_14 zpacking_loads_15 w_75 v_marches_told v_marches_changeMinutes v_marches_marching v_marches_gone v_search_known v_search_countHere v_search_countThere v_search_cost v_search_most v_search_found f_bytes f_knee f_weight f_limps f_bheft f_owner f_food f_miles f_slope f_rsteps f_rkind f_ryields f_rholds zrletters_16 zrstack_17 f_dsteps f_dkind f_dyields f_dholds f_dletters f_dstack zcaps_18 zversions_19 f_sharing f_69 f_prow zholder_21 zcomes_22 zpcaps_23 f_71 f_68 f_70 f_mrow f_minutesOn f_mtired f_here f_there f_statesHere f_statesThere f_listed f_stired f_burdens f_pacesOn f_restedOn f_behindOn f_behindFor f_first f_second f_plans f_tiredOn) → va_S A s.heap H locs → lv_has ls 10 [(8, .int l_74), (7, .int l_73), (6, .int l_72), (5, .int n_44), (4, .int n_43), (0, .ref (hs 0)), (1, .int x), (2, .int i), (3, .int all)] → W p l e (gRm 6) s m args below meth c H locs 0 0 Q (F0 m 95 ls []) := by
            intro n
            induction n with
            | zero => intro f_68 f_69 f_70 f_71 l_72 l_73 l_74 w_75 hL95_76_0 hL95_76_1 hL95_76_2 hL95_76_3 hL95_76_4 hL95_76_5 hL95_76_6 hL95_76_7 hL95_76_8 hm; exact absurd hm (by omega)
            | succ n ih95_76 =>
              intro f_68 f_69 f_70 f_71 l_72 l_73 l_74 w_75 hL95_76_0 hL95_76_1 hL95_76_2 hL95_76_3 hL95_76_4 hL95_76_5 hL95_76_6 hL95_76_7 hL95_76_8 hmL95_76 H locs ls hP hD hS hl
              refine lv_iload hx hb dX9_pounds_95 (lv_at hl 0 rfl) ?_
              refine lv_bipush (v := 64) hx hb dX9_pounds_97 (by decide) ?_
              refine lv_icmp_ge (tgt := 163) hx hb dX9_pounds_99 (by decide) (fun c_77 => ?_) (fun c_77 => ?_)
              · have gc_77 : 64 ≤ l_74.toInt := i_le (by decide : (64 : Int32).toInt = 64) (rfl : l_74.toInt = l_74.toInt) c_77
                refine lv_iload hx hb dX9_pounds_163 (lv_at hl 2 rfl) ?_
                exact hrt l_72 zpacking_quicker_14 zpacking_loads_15 w_75 zrletters_16 zrstack_17 zcaps_18 zversions_19 f_69 zholder_21 zcomes_22 zpcaps_23 f_71 f_68 f_70 ⟨(by omega), (by omega), (by omega), p_27, hL95_76_1, p_29, p_30, p_31, hL95_76_3, hL95_76_0, hL95_76_2⟩ hP hD hS rfl dX9_pounds_165
              · have gc_77 : l_74.toInt < 64 := i_nle (by decide : (64 : Int32).toInt = 64) (rfl : l_74.toInt = l_74.toInt) c_77
                refine lv_iload hx hb dX9_pounds_102 (lv_at hl 2 rfl) ?_
                refine lv_iload hx hb dX9_pounds_104 (lv_at hl 1 rfl) ?_
                refine lv_icmp_ge (tgt := 163) hx hb dX9_pounds_106 (by decide) (fun c_78 => ?_) (fun c_78 => ?_)
                · have gc_78 : l_73.toInt ≤ l_72.toInt := i_le (rfl : l_73.toInt = l_73.toInt) (rfl : l_72.toInt = l_72.toInt) c_78
                  refine lv_iload hx hb dX9_pounds_163 (lv_at hl 2 rfl) ?_
                  exact hrt l_72 zpacking_quicker_14 zpacking_loads_15 w_75 zrletters_16 zrstack_17 zcaps_18 zversions_19 f_69 zholder_21 zcomes_22 zpcaps_23 f_71 f_68 f_70 ⟨(by omega), (by omega), (by omega), p_27, hL95_76_1, p_29, p_30, p_31, hL95_76_3, hL95_76_0, hL95_76_2⟩ hP hD hS rfl dX9_pounds_165
                · have gc_78 : l_72.toInt < l_73.toInt := i_nle (rfl : l_73.toInt = l_73.toInt) (rfl : l_72.toInt = l_72.toInt) c_78
                  refine lv_iload hx hb dX9_pounds_109 (lv_at hl 2 rfl) ?_
                  refine lv_iload hx hb dX9_pounds_111 (lv_at hl 1 rfl) ?_
                  refine lv_iadd hx hb dX9_pounds_113 ?_
                  refine lv_topi (fun n_79 en_79 => ?_)
                  have tn_79 : n_79.toInt = l_72.toInt + l_73.toInt := i_add en_79 (rfl : l_72.toInt = l_72.toInt) (rfl : l_73.toInt = l_73.toInt) (by omega) (by omega)
                  refine lv_iconst (v := 2) hx hb dX9_pounds_114 (by decide) ?_
                  refine lv_idiv hx hb dX9_pounds_115 (by decide) ?_
                  refine lv_topi (fun n_80 en_80 => ?_)
                  have tn_80 : n_80.toInt = (l_72.toInt + l_73.toInt) / 2 := i_div en_80 tn_79 (by decide : (2 : Int32).toInt = 2) (by omega) (by omega)
                  refine lv_istore (lv' := [(9, .int n_80), (8, .int l_74), (7, .int l_73), (6, .int l_72), (5, .int n_44), (4, .int n_43), (0, .ref (hs 0)), (1, .int x), (2, .int i), (3, .int all)]) hx hb dX9_pounds_116 hl (by decide) rfl (fun ls hl => ?_)
                  refine lv_aload_n hx hb dX9_pounds_118 rfl (lv_at hl 6 rfl) ?_
                  refine gt_SP_SP_packing hx hb hts hown hK hP lwd_35 dX9_pounds_119 ?_
                  refine gt_SP_packing_heft hx hb hts hown hK hP lwd_802 dX9_pounds_122 ?_
                  refine lv_iload_n hx hb dX9_pounds_125 rfl (lv_at hl 7 rfl) ?_
                  refine lv_iload hx hb dX9_pounds_126 (lv_at hl 4 rfl) ?_
                  refine lv_iload hx hb dX9_pounds_128 (lv_at hl 0 rfl) ?_
                  refine lv_isub hx hb dX9_pounds_130 ?_
                  refine lv_topi (fun n_81 en_81 => ?_)
                  have tn_81 : n_81.toInt = n_44.toInt - ((l_72.toInt + l_73.toInt) / 2) := i_sub en_81 (rfl : n_44.toInt = n_44.toInt) tn_80 (by omega) (by omega)
                  refine as_pheft (x := n_81) hx hb hK hP hD hS hL95_76_1 (i_in (rfl : x.toInt = x.toInt) (by omega) (by omega)) (by omega) dX9_pounds_131 (fun f_82 ef_82 rf_82 H locs hP hD hS => ?_)
                  refine lv_aload_n hx hb dX9_pounds_132 rfl (lv_at hl 6 rfl) ?_
                  refine gt_SP_SP_packing hx hb hts hown hK hP lwd_35 dX9_pounds_133 ?_
                  refine lv_iload hx hb dX9_pounds_136 (lv_at hl 5 rfl) ?_
                  refine xi hD hS hA (xV (As := [.int n_43]) (rest := []) hx hb hml hown hts hK hP hD hS hA NS_ok hN hAe hl.1 ⟨Nat.le_refl _, Nat.le_refl _⟩ 31 rfl rfl rfl (c_X4_fits l D cy hs hH hT sH sT v_tape_size v_band_walkers v_band_loads v_band_pieces v_rules_clauses v_reader_end v_reader_at v_reader_length v_reader_letter v_reader_fault v_draft_clauses v_paces_version zpacking_quicker_14 zpacking_loads_15 w_75 v_marches_told v_marches_changeMinutes v_marches_marching v_marches_gone v_search_known v_search_countHere v_search_countThere v_search_cost v_search_most v_search_found f_bytes f_knee f_weight f_limps f_bheft f_owner f_food f_miles f_slope f_rsteps f_rkind f_ryields f_rholds zrletters_16 zrstack_17 f_dsteps f_dkind f_dyields f_dholds f_dletters f_dstack zcaps_18 zversions_19 f_sharing f_82 f_prow zholder_21 zcomes_22 zpcaps_23 f_71 f_68 f_70 f_mrow f_minutesOn f_mtired f_here f_there f_statesHere f_statesThere f_listed f_stired f_burdens f_pacesOn f_restedOn f_behindOn f_behindFor f_first f_second f_plans f_tiredOn tS H.size n_43 (by omega) (by omega) (by omega) p_27 rf_82 p_29 p_30 p_31 hL95_76_3 hL95_76_0 hL95_76_2 (by omega)) (gi_V lwd_793 lwd_702 lwd_703 lwd_34 lwd_704) ⟨rfl, hd_X4_fits⟩ ⟨Nat.le_of_ble_eq_true rfl, Nat.le_of_ble_eq_true rfl⟩ rfl (Nat.le_of_ble_eq_true rfl) dX9_pounds_138) (fun r_84 u_83 H locs hw hP hD hS => ?_)
                  obtain ⟨zpacking_looseCount_85, zroom_86, zloose_87, zreached_88⟩ := u_83
                  try dsimp only at hw hP hD
                  obtain ⟨p_89, p_90, p_91, p_92, p_93⟩ := hw
                  refine lv_if_eq (tgt := 151) hx hb dX9_pounds_141 (by decide) (fun c_94 => ?_) (fun c_94 => ?_)
                  · have gc_94 : r_84.toInt = 0 := i_eq (rfl : r_84.toInt = r_84.toInt) (by decide : (0 : Int32).toInt = 0) c_94
                    refine lv_iload hx hb dX9_pounds_151 (lv_at hl 0 rfl) ?_
                    refine lv_iconst (v := 1) hx hb dX9_pounds_153 (by decide) ?_
                    refine lv_iadd hx hb dX9_pounds_154 ?_
                    refine lv_topi (fun n_95 en_95 => ?_)
                    have tn_95 : n_95.toInt = ((l_72.toInt + l_73.toInt) / 2) + 1 := i_add en_95 tn_80 (by decide : (1 : Int32).toInt = 1) (by omega) (by omega)
                    refine lv_istore (lv' := [(6, .int n_95), (9, .int n_80), (8, .int l_74), (7, .int l_73), (5, .int n_44), (4, .int n_43), (0, .ref (hs 0)), (1, .int x), (2, .int i), (3, .int all)]) hx hb dX9_pounds_155 hl (by decide) rfl (fun ls hl => ?_)
                    obtain ⟨n_96, en_96⟩ : ∃ y : Int32, y = l_74 + 1 := ⟨_, rfl⟩
                    have tn_96 : n_96.toInt = l_74.toInt + 1 := i_add en_96 (rfl : l_74.toInt = l_74.toInt) (by decide : (1 : Int32).toInt = 1) (by omega) (by omega)
                    refine lv_iinc (v := n_96) (lv' := [(8, .int n_96), (6, .int n_95), (9, .int n_80), (7, .int l_73), (5, .int n_44), (4, .int n_43), (0, .ref (hs 0)), (1, .int x), (2, .int i), (3, .int all)]) hx hb dX9_pounds_157 hl (k := 2) rfl (by rw [en_96]; rfl) (by decide) rfl (fun ls hl => ?_)
                    refine lv_goto (tgt := 95) hx hb dX9_pounds_160 (by decide) ?_
                    exact ih95_76 zloose_87 f_82 zreached_88 zroom_86 n_95 l_73 n_96 zpacking_looseCount_85 p_92 rf_82 p_93 p_91 (by omega) (by omega) (by omega) (by omega) (by omega) (by omega) _ _ _ hP hD hS (lv_sub hl [0, 3, 1, 4, 5, 6, 7, 8, 9] rfl)
                  · have gc_94 : r_84.toInt ≠ 0 := i_ne (rfl : r_84.toInt = r_84.toInt) (by decide : (0 : Int32).toInt = 0) c_94
                    refine lv_iload hx hb dX9_pounds_144 (lv_at hl 0 rfl) ?_
                    refine lv_istore (lv' := [(7, .int n_80), (9, .int n_80), (8, .int l_74), (6, .int l_72), (5, .int n_44), (4, .int n_43), (0, .ref (hs 0)), (1, .int x), (2, .int i), (3, .int all)]) hx hb dX9_pounds_146 hl (by decide) rfl (fun ls hl => ?_)
                    refine lv_goto (tgt := 157) hx hb dX9_pounds_148 (by decide) ?_
                    obtain ⟨n_97, en_97⟩ : ∃ y : Int32, y = l_74 + 1 := ⟨_, rfl⟩
                    have tn_97 : n_97.toInt = l_74.toInt + 1 := i_add en_97 (rfl : l_74.toInt = l_74.toInt) (by decide : (1 : Int32).toInt = 1) (by omega) (by omega)
                    refine lv_iinc (v := n_97) (lv' := [(8, .int n_97), (7, .int n_80), (9, .int n_80), (6, .int l_72), (5, .int n_44), (4, .int n_43), (0, .ref (hs 0)), (1, .int x), (2, .int i), (3, .int all)]) hx hb dX9_pounds_157 hl (k := 2) rfl (by rw [en_97]; rfl) (by decide) rfl (fun ls hl => ?_)
                    refine lv_goto (tgt := 95) hx hb dX9_pounds_160 (by decide) ?_
                    exact ih95_76 zloose_87 f_82 zreached_88 zroom_86 l_72 n_80 n_97 zpacking_looseCount_85 p_92 rf_82 p_93 p_91 (by omega) (by omega) (by omega) (by omega) (by omega) (by omega) _ _ _ hP hD hS (lv_sub hl [0, 1, 3, 4, 5, 6, 7, 8, 9] rfl)
          have k_98 : (1 : Int32).toInt = 1 := by decide
          have k_99 : (0 : Int32).toInt = 0 := by decide
          exact L95_76 8589934592 zloose_52 f_45 zreached_53 zroom_51 1 n_44 0 zpacking_looseCount_50 p_57 rf_45 p_58 p_56 (by omega) (by omega) (by omega) (by omega) (by omega) (by omega) _ _ _ hP hD hS (lv_sub hl [0, 1, 2, 3, 4, 5, 6, 7, 8] rfl)
        · have gc_59 : r_49.toInt = 0 := i_eq (rfl : r_49.toInt = r_49.toInt) (by decide : (0 : Int32).toInt = 0) c_59
          refine lv_bipush (v := (-2)) hx hb dX9_pounds_82 (by decide) ?_
          have k_100 : ((-2) : Int32).toInt = (-2) := by decide
          exact hrt (-2) zpacking_quicker_14 zpacking_loads_15 zpacking_looseCount_50 zrletters_16 zrstack_17 zcaps_18 zversions_19 f_45 zholder_21 zcomes_22 zpcaps_23 zroom_51 zloose_52 zreached_53 ⟨(by omega), (by omega), (by omega), p_27, rf_45, p_29, p_30, p_31, p_56, p_57, p_58⟩ hP hD hS rfl dX9_pounds_84
    · have gc_11 : r_8.toInt = 0 := i_eq (rfl : r_8.toInt = r_8.toInt) (by decide : (0 : Int32).toInt = 0) c_11
      refine lv_iconst (v := (-1)) hx hb dX9_pounds_20 (by decide) ?_
      have k_101 : ((-1) : Int32).toInt = (-1) := by decide
      exact hrt (-1) v_packing_quicker v_packing_loads v_packing_looseCount f_rletters f_rstack f_caps f_versions f_pheft f_holder f_comes f_pcaps f_room f_loose f_reached ⟨(by omega), (by omega), (by omega), hr_caps, hr_pheft, hr_holder, hr_comes, hr_pcaps, hr_room, hr_loose, hr_reached⟩ hP hD hS rfl dX9_pounds_21
set_option maxHeartbeats 16000000 in
set_option maxRecDepth 100000 in
theorem c_X9_minutesWithAhead (l : Launch) (D : va_G) (cy : Nat → ClassId) (hs : Nat → Nat) (hH hT sH sT : Nat) (v_tape_size v_band_walkers v_band_loads v_band_pieces v_rules_clauses v_reader_end v_reader_at v_reader_length v_reader_letter v_reader_fault v_draft_clauses v_paces_version v_packing_quicker v_packing_loads v_packing_looseCount v_marches_told v_marches_changeMinutes v_marches_marching v_marches_gone v_search_known v_search_countHere v_search_countThere v_search_cost v_search_most : Int32) (v_search_found : Int64) (f_bytes f_knee f_weight f_limps f_bheft f_owner f_food f_miles f_slope f_rsteps f_rkind f_ryields f_rholds f_rletters f_rstack f_dsteps f_dkind f_dyields f_dholds f_dletters f_dstack f_caps f_versions f_sharing f_pheft f_prow f_holder f_comes f_pcaps f_room f_loose f_reached f_mrow f_minutesOn f_mtired : Nat → Int32) (f_here f_there : Nat → Int64) (f_statesHere f_statesThere f_listed f_stired f_burdens f_pacesOn f_restedOn f_behindOn f_behindFor f_first f_second : Nat → Int32) (f_plans f_tiredOn : Nat → Nat → Int32) (tS : Nat) (sz : Nat) (i : Int32) (all : Int32) (ck : Int32) (a1 : Int32) (b1 : Int32) (fewer : Int32) (hb_v_band_walkers : 0 ≤ v_band_walkers.toInt ∧ v_band_walkers.toInt ≤ 6) (hb_v_band_loads : 0 ≤ v_band_loads.toInt ∧ v_band_loads.toInt ≤ 9) (hb_v_rules_clauses : 0 ≤ v_rules_clauses.toInt ∧ v_rules_clauses.toInt ≤ 14) (hb_v_packing_quicker : -1 ≤ v_packing_quicker.toInt ∧ v_packing_quicker.toInt ≤ 5) (hb_v_packing_loads : 0 ≤ v_packing_loads.toInt ∧ v_packing_loads.toInt ≤ 10) (hb_v_packing_looseCount : 0 ≤ v_packing_looseCount.toInt ∧ v_packing_looseCount.toInt ≤ 10) (hr_weight : rg (0) 250 f_weight) (hr_limps : rg (0) 1 f_limps) (hr_bheft : rg (0) 120 f_bheft) (hr_owner : rg (-1) 5 f_owner) (hr_food : rg (0) 20 f_food) (hr_miles : rg (0) 20 f_miles) (hr_caps : rg (-1) 400 f_caps) (hr_pheft : rg (0) 250 f_pheft) (hr_holder : rg (-1) 5 f_holder) (hr_comes : rg (0) 1 f_comes) (hr_pcaps : rg (0) 21899 f_pcaps) (hr_room : rg (-1000) 400 f_room) (hr_loose : rg (0) 9 f_loose) (hr_reached : rg (0) 3072 f_reached) (ha_i : 0 ≤ i.toInt ∧ i.toInt ≤ 9) (ha_all : 0 ≤ all.toInt ∧ all.toInt ≤ 46655) (ha_a1 : 0 ≤ a1.toInt ∧ a1.toInt ≤ 5) (ha_b1 : 0 ≤ b1.toInt ∧ b1.toInt ≤ 5) : gMi l yX9_minutesWithAhead cX9_minutesWithAhead 10 .int 6 [.ref (hs 0), .int i, .int all, .int ck, .int a1, .int b1, .int fewer] D cy (wSP cy hs hH hT sH sT v_tape_size v_band_walkers v_band_loads v_band_pieces v_rules_clauses v_reader_end v_reader_at v_reader_length v_reader_letter v_reader_fault v_draft_clauses v_paces_version v_packing_quicker v_packing_loads v_packing_looseCount v_marches_told v_marches_changeMinutes v_marches_marching v_marches_gone v_search_known v_search_countHere v_search_countThere v_search_cost v_search_most v_search_found f_bytes f_knee f_weight f_limps f_bheft f_owner f_food f_miles f_slope f_rsteps f_rkind f_ryields f_rholds f_rletters f_rstack f_dsteps f_dkind f_dyields f_dholds f_dletters f_dstack f_caps f_versions f_sharing f_pheft f_prow f_holder f_comes f_pcaps f_room f_loose f_reached f_mrow f_minutesOn f_mtired f_here f_there f_statesHere f_statesThere f_listed f_stired f_burdens f_pacesOn f_restedOn f_behindOn f_behindFor f_first f_second f_plans f_tiredOn) (NS tS) sz (fun (r : Int32) (u : Int32 × Int32 × Int32 × (Nat → Int32) × (Nat → Int32) × (Nat → Int32) × (Nat → Int32) × (Nat → Int32) × (Nat → Int32) × (Nat → Int32) × (Nat → Int32) × (Nat → Int32) × (Nat → Int32) × (Nat → Int32)) => (-1 ≤ (u.1).toInt ∧ (u.1).toInt ≤ 5) ∧ (0 ≤ (u.2.1).toInt ∧ (u.2.1).toInt ≤ 10) ∧ (0 ≤ (u.2.2.1).toInt ∧ (u.2.2.1).toInt ≤ 10) ∧ (rg (-1) 400 (u.2.2.2.2.2.1)) ∧ (rg (0) 250 (u.2.2.2.2.2.2.2.1)) ∧ (rg (-1) 5 (u.2.2.2.2.2.2.2.2.1)) ∧ (rg (0) 1 (u.2.2.2.2.2.2.2.2.2.1)) ∧ (rg (0) 21899 (u.2.2.2.2.2.2.2.2.2.2.1)) ∧ (rg (-1000) 400 (u.2.2.2.2.2.2.2.2.2.2.2.1)) ∧ (rg (0) 9 (u.2.2.2.2.2.2.2.2.2.2.2.2.1)) ∧ (rg (0) 3072 (u.2.2.2.2.2.2.2.2.2.2.2.2.2))) (fun u => wSP cy hs hH hT sH sT v_tape_size v_band_walkers v_band_loads v_band_pieces v_rules_clauses v_reader_end v_reader_at v_reader_length v_reader_letter v_reader_fault v_draft_clauses v_paces_version (u.1) (u.2.1) (u.2.2.1) v_marches_told v_marches_changeMinutes v_marches_marching v_marches_gone v_search_known v_search_countHere v_search_countThere v_search_cost v_search_most v_search_found f_bytes f_knee f_weight f_limps f_bheft f_owner f_food f_miles f_slope f_rsteps f_rkind f_ryields f_rholds (u.2.2.2.1) (u.2.2.2.2.1) f_dsteps f_dkind f_dyields f_dholds f_dletters f_dstack (u.2.2.2.2.2.1) (u.2.2.2.2.2.2.1) f_sharing (u.2.2.2.2.2.2.2.1) f_prow (u.2.2.2.2.2.2.2.2.1) (u.2.2.2.2.2.2.2.2.2.1) (u.2.2.2.2.2.2.2.2.2.2.1) (u.2.2.2.2.2.2.2.2.2.2.2.1) (u.2.2.2.2.2.2.2.2.2.2.2.2.1) (u.2.2.2.2.2.2.2.2.2.2.2.2.2) f_mrow f_minutesOn f_mtired f_here f_there f_statesHere f_statesThere f_listed f_stired f_burdens f_pacesOn f_restedOn f_behindOn f_behindFor f_first f_second f_plans f_tiredOn) := by
  refine gMi_in (by decide) (Nat.le_of_ble_eq_true rfl) ?_
  intro p e s m args below meth c A ls Q hx hb hml hts hown hsz hP hK hD hN hAe hA hS hl hret
  subst hsz
  have hl : lv_has ls 10 [(0, .ref (hs 0)), (1, .int i), (2, .int all), (3, .int ck), (4, .int a1), (5, .int b1), (6, .int fewer)] := hl
  have hrt := fun (r : Int32) (v_packing_quicker' : Int32) (v_packing_loads' : Int32) (v_packing_looseCount' : Int32) (f_rletters' : Nat → Int32) (f_rstack' : Nat → Int32) (f_caps' : Nat → Int32) (f_versions' : Nat → Int32) (f_pheft' : Nat → Int32) (f_holder' : Nat → Int32) (f_comes' : Nat → Int32) (f_pcaps' : Nat → Int32) (f_room' : Nat → Int32) (f_loose' : Nat → Int32) (f_reached' : Nat → Int32) (hp : (-1 ≤ v_packing_quicker'.toInt ∧ v_packing_quicker'.toInt ≤ 5) ∧ (0 ≤ v_packing_loads'.toInt ∧ v_packing_loads'.toInt ≤ 10) ∧ (0 ≤ v_packing_looseCount'.toInt ∧ v_packing_looseCount'.toInt ≤ 10) ∧ (rg (-1) 400 f_caps') ∧ (rg (0) 250 f_pheft') ∧ (rg (-1) 5 f_holder') ∧ (rg (0) 1 f_comes') ∧ (rg (0) 21899 f_pcaps') ∧ (rg (-1000) 400 f_room') ∧ (rg (0) 9 f_loose') ∧ (rg (0) 3072 f_reached')) {H : Heap} {locs : List Loc} {pc : Nat} {ls : Array Slot} => hret r (v_packing_quicker', v_packing_loads', v_packing_looseCount', f_rletters', f_rstack', f_caps', f_versions', f_pheft', f_holder', f_comes', f_pcaps', f_room', f_loose', f_reached') (H := H) (locs := locs) (pc := pc) (ls := ls) hp
  clear hret
  refine lv_aload_n hx hb dX9_minutesWithAhead_0 rfl (lv_at hl 0 rfl) ?_
  refine gt_SP_SP_paces hx hb hts hown hK hP lwd_31 dX9_minutesWithAhead_1 ?_
  refine lv_iload hx hb dX9_minutesWithAhead_4 (lv_at hl 4 rfl) ?_
  refine lv_iconst (v := 0) hx hb dX9_minutesWithAhead_6 (by decide) ?_
  refine lv_iload_n hx hb dX9_minutesWithAhead_7 rfl (lv_at hl 2 rfl) ?_
  refine lv_iload hx hb dX9_minutesWithAhead_8 (lv_at hl 4 rfl) ?_
  refine xi hD hS hA (xS (As := [.int all, .int a1]) (rest := [.int 0, .int a1, .ref (hs 27)]) hx hb hml hown hts hK hP hD hS hA NS_ok hN hAe hl.1 ⟨Nat.le_refl _, Nat.le_refl _⟩ (c_X9_digit l D cy hs hH hT sH sT v_tape_size v_band_walkers v_band_loads v_band_pieces v_rules_clauses v_reader_end v_reader_at v_reader_length v_reader_letter v_reader_fault v_draft_clauses v_paces_version v_packing_quicker v_packing_loads v_packing_looseCount v_marches_told v_marches_changeMinutes v_marches_marching v_marches_gone v_search_known v_search_countHere v_search_countThere v_search_cost v_search_most v_search_found f_bytes f_knee f_weight f_limps f_bheft f_owner f_food f_miles f_slope f_rsteps f_rkind f_ryields f_rholds f_rletters f_rstack f_dsteps f_dkind f_dyields f_dholds f_dletters f_dstack f_caps f_versions f_sharing f_pheft f_prow f_holder f_comes f_pcaps f_room f_loose f_reached f_mrow f_minutesOn f_mtired f_here f_there f_statesHere f_statesThere f_listed f_stired f_burdens f_pacesOn f_restedOn f_behindOn f_behindFor f_first f_second f_plans f_tiredOn tS s.heap.size all a1 (by omega) (by omega)) (gi_S lwd_817 lwd_625 lwd_2 lwd_626) hd_X9_digit ⟨Nat.le_of_ble_eq_true rfl, Nat.le_of_ble_eq_true rfl⟩ rfl (Nat.le_of_ble_eq_true rfl) dX9_minutesWithAhead_10) (fun r_2 u_1 H locs hw hP hD hS => ?_)
  try dsimp only at hw hP hD
  have p_3 := hw
  clear hw
  refine lv_iload_n hx hb dX9_minutesWithAhead_13 rfl (lv_at hl 1 rfl) ?_
  have k_4 : (0 : Int32).toInt = 0 := by decide
  refine xi hD hS hA (xV (As := [.int a1, .int 0, .int r_2, .int i]) (rest := []) hx hb hml hown hts hK hP hD hS hA NS_ok hN hAe hl.1 ⟨Nat.le_refl _, Nat.le_refl _⟩ 27 rfl rfl rfl (c_X3_paceOf l D cy hs hH hT sH sT v_tape_size v_band_walkers v_band_loads v_band_pieces v_rules_clauses v_reader_end v_reader_at v_reader_length v_reader_letter v_reader_fault v_draft_clauses v_paces_version v_packing_quicker v_packing_loads v_packing_looseCount v_marches_told v_marches_changeMinutes v_marches_marching v_marches_gone v_search_known v_search_countHere v_search_countThere v_search_cost v_search_most v_search_found f_bytes f_knee f_weight f_limps f_bheft f_owner f_food f_miles f_slope f_rsteps f_rkind f_ryields f_rholds f_rletters f_rstack f_dsteps f_dkind f_dyields f_dholds f_dletters f_dstack f_caps f_versions f_sharing f_pheft f_prow f_holder f_comes f_pcaps f_room f_loose f_reached f_mrow f_minutesOn f_mtired f_here f_there f_statesHere f_statesThere f_listed f_stired f_burdens f_pacesOn f_restedOn f_behindOn f_behindFor f_first f_second f_plans f_tiredOn tS H.size a1 0 r_2 i (by omega) (by omega) hr_weight hr_limps hr_miles (by omega) (by omega)) (gi_V lwd_509 lwd_510 lwd_511 lwd_30 lwd_512) ⟨rfl, hd_X3_paceOf⟩ ⟨Nat.le_of_ble_eq_true rfl, Nat.le_of_ble_eq_true rfl⟩ rfl (Nat.le_of_ble_eq_true rfl) dX9_minutesWithAhead_14) (fun r_6 u_5 H locs hw hP hD hS => ?_)
  obtain ⟨zrletters_7, zrstack_8⟩ := u_5
  try dsimp only at hw hP hD
  have p_9 := hw
  clear hw
  refine lv_istore (lv' := [(7, .int r_6), (0, .ref (hs 0)), (1, .int i), (2, .int all), (3, .int ck), (4, .int a1), (5, .int b1), (6, .int fewer)]) hx hb dX9_minutesWithAhead_17 hl (by decide) rfl (fun ls hl => ?_)
  refine lv_aload_n hx hb dX9_minutesWithAhead_19 rfl (lv_at hl 1 rfl) ?_
  refine gt_SP_SP_paces hx hb hts hown hK hP lwd_31 dX9_minutesWithAhead_20 ?_
  refine lv_iload hx hb dX9_minutesWithAhead_23 (lv_at hl 6 rfl) ?_
  refine lv_iconst (v := 0) hx hb dX9_minutesWithAhead_25 (by decide) ?_
  refine lv_iload_n hx hb dX9_minutesWithAhead_26 rfl (lv_at hl 3 rfl) ?_
  refine lv_iload hx hb dX9_minutesWithAhead_27 (lv_at hl 6 rfl) ?_
  refine xi hD hS hA (xS (As := [.int all, .int b1]) (rest := [.int 0, .int b1, .ref (hs 27)]) hx hb hml hown hts hK hP hD hS hA NS_ok hN hAe hl.1 ⟨Nat.le_refl _, Nat.le_refl _⟩ (c_X9_digit l D cy hs hH hT sH sT v_tape_size v_band_walkers v_band_loads v_band_pieces v_rules_clauses v_reader_end v_reader_at v_reader_length v_reader_letter v_reader_fault v_draft_clauses v_paces_version v_packing_quicker v_packing_loads v_packing_looseCount v_marches_told v_marches_changeMinutes v_marches_marching v_marches_gone v_search_known v_search_countHere v_search_countThere v_search_cost v_search_most v_search_found f_bytes f_knee f_weight f_limps f_bheft f_owner f_food f_miles f_slope f_rsteps f_rkind f_ryields f_rholds zrletters_7 zrstack_8 f_dsteps f_dkind f_dyields f_dholds f_dletters f_dstack f_caps f_versions f_sharing f_pheft f_prow f_holder f_comes f_pcaps f_room f_loose f_reached f_mrow f_minutesOn f_mtired f_here f_there f_statesHere f_statesThere f_listed f_stired f_burdens f_pacesOn f_restedOn f_behindOn f_behindFor f_first f_second f_plans f_tiredOn tS H.size all b1 (by omega) (by omega)) (gi_S lwd_817 lwd_625 lwd_2 lwd_626) hd_X9_digit ⟨Nat.le_of_ble_eq_true rfl, Nat.le_of_ble_eq_true rfl⟩ rfl (Nat.le_of_ble_eq_true rfl) dX9_minutesWithAhead_29) (fun r_11 u_10 H locs hw hP hD hS => ?_)
  try dsimp only at hw hP hD
  have p_12 := hw
  clear hw
  refine lv_iload_n hx hb dX9_minutesWithAhead_32 rfl (lv_at hl 2 rfl) ?_
  refine xi hD hS hA (xV (As := [.int b1, .int 0, .int r_11, .int i]) (rest := []) hx hb hml hown hts hK hP hD hS hA NS_ok hN hAe hl.1 ⟨Nat.le_refl _, Nat.le_refl _⟩ 27 rfl rfl rfl (c_X3_paceOf l D cy hs hH hT sH sT v_tape_size v_band_walkers v_band_loads v_band_pieces v_rules_clauses v_reader_end v_reader_at v_reader_length v_reader_letter v_reader_fault v_draft_clauses v_paces_version v_packing_quicker v_packing_loads v_packing_looseCount v_marches_told v_marches_changeMinutes v_marches_marching v_marches_gone v_search_known v_search_countHere v_search_countThere v_search_cost v_search_most v_search_found f_bytes f_knee f_weight f_limps f_bheft f_owner f_food f_miles f_slope f_rsteps f_rkind f_ryields f_rholds zrletters_7 zrstack_8 f_dsteps f_dkind f_dyields f_dholds f_dletters f_dstack f_caps f_versions f_sharing f_pheft f_prow f_holder f_comes f_pcaps f_room f_loose f_reached f_mrow f_minutesOn f_mtired f_here f_there f_statesHere f_statesThere f_listed f_stired f_burdens f_pacesOn f_restedOn f_behindOn f_behindFor f_first f_second f_plans f_tiredOn tS H.size b1 0 r_11 i (by omega) (by omega) hr_weight hr_limps hr_miles (by omega) (by omega)) (gi_V lwd_509 lwd_510 lwd_511 lwd_30 lwd_512) ⟨rfl, hd_X3_paceOf⟩ ⟨Nat.le_of_ble_eq_true rfl, Nat.le_of_ble_eq_true rfl⟩ rfl (Nat.le_of_ble_eq_true rfl) dX9_minutesWithAhead_33) (fun r_14 u_13 H locs hw hP hD hS => ?_)
  obtain ⟨zrletters_15, zrstack_16⟩ := u_13
  try dsimp only at hw hP hD
  have p_17 := hw
  clear hw
  refine lv_istore (lv' := [(8, .int r_14), (7, .int r_6), (0, .ref (hs 0)), (1, .int i), (2, .int all), (3, .int ck), (4, .int a1), (5, .int b1), (6, .int fewer)]) hx hb dX9_minutesWithAhead_36 hl (by decide) rfl (fun ls hl => ?_)
  refine lv_aload_n hx hb dX9_minutesWithAhead_38 rfl (lv_at hl 2 rfl) ?_
  refine gt_SP_SP_band hx hb hts hown hK hP lwd_19 dX9_minutesWithAhead_39 ?_
  refine lv_iload_n hx hb dX9_minutesWithAhead_42 rfl (lv_at hl 3 rfl) ?_
  refine lv_iload hx hb dX9_minutesWithAhead_43 (lv_at hl 1 rfl) ?_
  refine lv_iload hx hb dX9_minutesWithAhead_45 (lv_at hl 0 rfl) ?_
  refine va_mmin hx hb (by rw [hml]; exact hl.1.symm) hown (hts _ lwd_815) (hts _ lwd_528) (hts _ lwd_529) (hts _ lwd_530) (Nat.le_of_ble_eq_true rfl) (Nat.le_of_ble_eq_true rfl) (Nat.zero_le _) (Nat.zero_le _) dX9_minutesWithAhead_47 ?_
  refine lv_topi (fun n_18 en_18 => ?_)
  have tn_18 := i_min en_18 (rfl : r_6.toInt = r_6.toInt) (rfl : r_14.toInt = r_14.toInt)
  refine xi hD hS hA (xV (As := [.int i, .int n_18]) (rest := []) hx hb hml hown hts hK hP hD hS hA NS_ok hN hAe hl.1 ⟨Nat.le_refl _, Nat.le_refl _⟩ 3 rfl rfl rfl (c_X0_minutes l D cy hs hH hT sH sT v_tape_size v_band_walkers v_band_loads v_band_pieces v_rules_clauses v_reader_end v_reader_at v_reader_length v_reader_letter v_reader_fault v_draft_clauses v_paces_version v_packing_quicker v_packing_loads v_packing_looseCount v_marches_told v_marches_changeMinutes v_marches_marching v_marches_gone v_search_known v_search_countHere v_search_countThere v_search_cost v_search_most v_search_found f_bytes f_knee f_weight f_limps f_bheft f_owner f_food f_miles f_slope f_rsteps f_rkind f_ryields f_rholds zrletters_15 zrstack_16 f_dsteps f_dkind f_dyields f_dholds f_dletters f_dstack f_caps f_versions f_sharing f_pheft f_prow f_holder f_comes f_pcaps f_room f_loose f_reached f_mrow f_minutesOn f_mtired f_here f_there f_statesHere f_statesThere f_listed f_stired f_burdens f_pacesOn f_restedOn f_behindOn f_behindFor f_first f_second f_plans f_tiredOn tS H.size i n_18 hr_miles (by omega)) (gi_V lwd_634 lwd_635 lwd_636 lwd_18 lwd_637) ⟨rfl, hd_X0_minutes⟩ ⟨Nat.le_of_ble_eq_true rfl, Nat.le_of_ble_eq_true rfl⟩ rfl (Nat.le_of_ble_eq_true rfl) dX9_minutesWithAhead_50) (fun r_20 u_19 H locs hw hP hD hS => ?_)
  try dsimp only at hw hP hD
  clear hw
  refine lv_iload_n hx hb dX9_minutesWithAhead_53 rfl (lv_at hl 5 rfl) ?_
  refine lv_iadd hx hb dX9_minutesWithAhead_54 ?_
  refine lv_topi (fun n_21 en_21 => ?_)
  refine lv_istore (lv' := [(9, .int n_21), (8, .int r_14), (7, .int r_6), (0, .ref (hs 0)), (1, .int i), (2, .int all), (3, .int ck), (4, .int a1), (5, .int b1), (6, .int fewer)]) hx hb dX9_minutesWithAhead_55 hl (by decide) rfl (fun ls hl => ?_)
  refine lv_iload hx hb dX9_minutesWithAhead_57 (lv_at hl 0 rfl) ?_
  refine lv_iload hx hb dX9_minutesWithAhead_59 (lv_at hl 9 rfl) ?_
  refine lv_icmp_lt (tgt := 67) hx hb dX9_minutesWithAhead_61 (by decide) (fun c_22 => ?_) (fun c_22 => ?_)
  · have gc_22 : n_21.toInt < fewer.toInt := i_lt (rfl : n_21.toInt = n_21.toInt) (rfl : fewer.toInt = fewer.toInt) c_22
    refine lv_aload_n hx hb dX9_minutesWithAhead_67 rfl (lv_at hl 3 rfl) ?_
    refine gt_SP_SP_packing hx hb hts hown hK hP lwd_35 dX9_minutesWithAhead_68 ?_
    refine lv_iload_n hx hb dX9_minutesWithAhead_71 rfl (lv_at hl 4 rfl) ?_
    refine lv_iload_n hx hb dX9_minutesWithAhead_72 rfl (lv_at hl 5 rfl) ?_
    refine xv hD hS hA (xV (As := [.int i, .int all]) (rest := []) hx hb hml hown hts hK hP hD hS hA NS_ok hN hAe hl.1 ⟨Nat.le_refl _, Nat.le_refl _⟩ 31 rfl rfl rfl (c_X4_begin l D cy hs hH hT sH sT v_tape_size v_band_walkers v_band_loads v_band_pieces v_rules_clauses v_reader_end v_reader_at v_reader_length v_reader_letter v_reader_fault v_draft_clauses v_paces_version v_packing_quicker v_packing_loads v_packing_looseCount v_marches_told v_marches_changeMinutes v_marches_marching v_marches_gone v_search_known v_search_countHere v_search_countThere v_search_cost v_search_most v_search_found f_bytes f_knee f_weight f_limps f_bheft f_owner f_food f_miles f_slope f_rsteps f_rkind f_ryields f_rholds zrletters_15 zrstack_16 f_dsteps f_dkind f_dyields f_dholds f_dletters f_dstack f_caps f_versions f_sharing f_pheft f_prow f_holder f_comes f_pcaps f_room f_loose f_reached f_mrow f_minutesOn f_mtired f_here f_there f_statesHere f_statesThere f_listed f_stired f_burdens f_pacesOn f_restedOn f_behindOn f_behindFor f_first f_second f_plans f_tiredOn tS H.size i all (by omega) (by omega) (by omega) (by omega) (by omega) hr_weight hr_limps hr_bheft hr_owner hr_food hr_miles hr_caps hr_pheft hr_holder hr_comes hr_pcaps (by omega) (by omega)) (gi_V lwd_682 lwd_683 lwd_684 lwd_34 lwd_685) ⟨rfl, hd_X4_begin⟩ ⟨Nat.le_of_ble_eq_true rfl, Nat.le_of_ble_eq_true rfl⟩ rfl (Nat.le_of_ble_eq_true rfl) dX9_minutesWithAhead_73) (fun u_23 H locs hw hP hD hS => ?_)
    obtain ⟨zpacking_quicker_25, zpacking_loads_26, zrletters_27, zrstack_28, zcaps_29, zversions_30, zpheft_31, zholder_32, zcomes_33, zpcaps_34⟩ := u_23
    try dsimp only at hw hP hD
    obtain ⟨p_35, p_36, p_37, p_38, p_39, p_40, p_41, p_42⟩ := hw
    refine lv_aload_n hx hb dX9_minutesWithAhead_76 rfl (lv_at hl 3 rfl) ?_
    refine gt_SP_SP_packing hx hb hts hown hK hP lwd_35 dX9_minutesWithAhead_77 ?_
    refine lv_iload hx hb dX9_minutesWithAhead_80 (lv_at hl 7 rfl) ?_
    refine xv hD hS hA (xV (As := [.int a1]) (rest := []) hx hb hml hown hts hK hP hD hS hA NS_ok hN hAe hl.1 ⟨Nat.le_refl _, Nat.le_refl _⟩ 31 rfl rfl rfl (c_X4_leaveOut l D cy hs hH hT sH sT v_tape_size v_band_walkers v_band_loads v_band_pieces v_rules_clauses v_reader_end v_reader_at v_reader_length v_reader_letter v_reader_fault v_draft_clauses v_paces_version zpacking_quicker_25 zpacking_loads_26 v_packing_looseCount v_marches_told v_marches_changeMinutes v_marches_marching v_marches_gone v_search_known v_search_countHere v_search_countThere v_search_cost v_search_most v_search_found f_bytes f_knee f_weight f_limps f_bheft f_owner f_food f_miles f_slope f_rsteps f_rkind f_ryields f_rholds zrletters_27 zrstack_28 f_dsteps f_dkind f_dyields f_dholds f_dletters f_dstack zcaps_29 zversions_30 f_sharing zpheft_31 f_prow zholder_32 zcomes_33 zpcaps_34 f_room f_loose f_reached f_mrow f_minutesOn f_mtired f_here f_there f_statesHere f_statesThere f_listed f_stired f_burdens f_pacesOn f_restedOn f_behindOn f_behindFor f_first f_second f_plans f_tiredOn tS H.size a1 (by omega) p_40 p_41 (by omega)) (gi_V lwd_818 lwd_819 lwd_820 lwd_34 lwd_821) ⟨rfl, hd_X4_leaveOut⟩ ⟨Nat.le_of_ble_eq_true rfl, Nat.le_of_ble_eq_true rfl⟩ rfl (Nat.le_of_ble_eq_true rfl) dX9_minutesWithAhead_82) (fun u_43 H locs hw hP hD hS => ?_)
    obtain ⟨zholder_45, zcomes_46⟩ := u_43
    try dsimp only at hw hP hD
    obtain ⟨p_47, p_48⟩ := hw
    refine lv_aload_n hx hb dX9_minutesWithAhead_85 rfl (lv_at hl 3 rfl) ?_
    refine gt_SP_SP_packing hx hb hts hown hK hP lwd_35 dX9_minutesWithAhead_86 ?_
    refine lv_iload hx hb dX9_minutesWithAhead_89 (lv_at hl 8 rfl) ?_
    refine xv hD hS hA (xV (As := [.int b1]) (rest := []) hx hb hml hown hts hK hP hD hS hA NS_ok hN hAe hl.1 ⟨Nat.le_refl _, Nat.le_refl _⟩ 31 rfl rfl rfl (c_X4_leaveOut l D cy hs hH hT sH sT v_tape_size v_band_walkers v_band_loads v_band_pieces v_rules_clauses v_reader_end v_reader_at v_reader_length v_reader_letter v_reader_fault v_draft_clauses v_paces_version zpacking_quicker_25 zpacking_loads_26 v_packing_looseCount v_marches_told v_marches_changeMinutes v_marches_marching v_marches_gone v_search_known v_search_countHere v_search_countThere v_search_cost v_search_most v_search_found f_bytes f_knee f_weight f_limps f_bheft f_owner f_food f_miles f_slope f_rsteps f_rkind f_ryields f_rholds zrletters_27 zrstack_28 f_dsteps f_dkind f_dyields f_dholds f_dletters f_dstack zcaps_29 zversions_30 f_sharing zpheft_31 f_prow zholder_45 zcomes_46 zpcaps_34 f_room f_loose f_reached f_mrow f_minutesOn f_mtired f_here f_there f_statesHere f_statesThere f_listed f_stired f_burdens f_pacesOn f_restedOn f_behindOn f_behindFor f_first f_second f_plans f_tiredOn tS H.size b1 (by omega) p_47 p_48 (by omega)) (gi_V lwd_818 lwd_819 lwd_820 lwd_34 lwd_821) ⟨rfl, hd_X4_leaveOut⟩ ⟨Nat.le_of_ble_eq_true rfl, Nat.le_of_ble_eq_true rfl⟩ rfl (Nat.le_of_ble_eq_true rfl) dX9_minutesWithAhead_91) (fun u_49 H locs hw hP hD hS => ?_)
    obtain ⟨zholder_51, zcomes_52⟩ := u_49
    try dsimp only at hw hP hD
    obtain ⟨p_53, p_54⟩ := hw
    refine lv_iload hx hb dX9_minutesWithAhead_94 (lv_at hl 0 rfl) ?_
    refine lv_aload_n hx hb dX9_minutesWithAhead_96 rfl (lv_at hl 3 rfl) ?_
    refine gt_SP_SP_band hx hb hts hown hK hP lwd_19 dX9_minutesWithAhead_97 ?_
    refine lv_iload_n hx hb dX9_minutesWithAhead_100 rfl (lv_at hl 4 rfl) ?_
    refine lv_aload_n hx hb dX9_minutesWithAhead_101 rfl (lv_at hl 3 rfl) ?_
    refine gt_SP_SP_packing hx hb hts hown hK hP lwd_35 dX9_minutesWithAhead_102 ?_
    refine xi hD hS hA (xV (As := []) (rest := [.int i, .ref (hs 3), .int n_21]) hx hb hml hown hts hK hP hD hS hA NS_ok hN hAe hl.1 ⟨Nat.le_refl _, Nat.le_refl _⟩ 31 rfl rfl rfl (c_X4_greatest l D cy hs hH hT sH sT v_tape_size v_band_walkers v_band_loads v_band_pieces v_rules_clauses v_reader_end v_reader_at v_reader_length v_reader_letter v_reader_fault v_draft_clauses v_paces_version zpacking_quicker_25 zpacking_loads_26 v_packing_looseCount v_marches_told v_marches_changeMinutes v_marches_marching v_marches_gone v_search_known v_search_countHere v_search_countThere v_search_cost v_search_most v_search_found f_bytes f_knee f_weight f_limps f_bheft f_owner f_food f_miles f_slope f_rsteps f_rkind f_ryields f_rholds zrletters_27 zrstack_28 f_dsteps f_dkind f_dyields f_dholds f_dletters f_dstack zcaps_29 zversions_30 f_sharing zpheft_31 f_prow zholder_51 zcomes_52 zpcaps_34 f_room f_loose f_reached f_mrow f_minutesOn f_mtired f_here f_there f_statesHere f_statesThere f_listed f_stired f_burdens f_pacesOn f_restedOn f_behindOn f_behindFor f_first f_second f_plans f_tiredOn tS H.size (by omega) (by omega) (by omega) p_38 p_39 p_53 p_54 p_42 hr_room hr_loose hr_reached) (gi_V lwd_697 lwd_698 lwd_699 lwd_34 lwd_700) ⟨rfl, hd_X4_greatest⟩ ⟨Nat.le_of_ble_eq_true rfl, Nat.le_of_ble_eq_true rfl⟩ rfl (Nat.le_of_ble_eq_true rfl) dX9_minutesWithAhead_105) (fun r_56 u_55 H locs hw hP hD hS => ?_)
    obtain ⟨zpacking_looseCount_57, zroom_58, zloose_59, zreached_60⟩ := u_55
    try dsimp only at hw hP hD
    obtain ⟨p_61, p_62, p_63, p_64, p_65⟩ := hw
    refine xi hD hS hA (xV (As := [.int i, .int r_56]) (rest := [.int n_21]) hx hb hml hown hts hK hP hD hS hA NS_ok hN hAe hl.1 ⟨Nat.le_refl _, Nat.le_refl _⟩ 3 rfl rfl rfl (c_X0_minutes l D cy hs hH hT sH sT v_tape_size v_band_walkers v_band_loads v_band_pieces v_rules_clauses v_reader_end v_reader_at v_reader_length v_reader_letter v_reader_fault v_draft_clauses v_paces_version zpacking_quicker_25 zpacking_loads_26 zpacking_looseCount_57 v_marches_told v_marches_changeMinutes v_marches_marching v_marches_gone v_search_known v_search_countHere v_search_countThere v_search_cost v_search_most v_search_found f_bytes f_knee f_weight f_limps f_bheft f_owner f_food f_miles f_slope f_rsteps f_rkind f_ryields f_rholds zrletters_27 zrstack_28 f_dsteps f_dkind f_dyields f_dholds f_dletters f_dstack zcaps_29 zversions_30 f_sharing zpheft_31 f_prow zholder_51 zcomes_52 zpcaps_34 zroom_58 zloose_59 zreached_60 f_mrow f_minutesOn f_mtired f_here f_there f_statesHere f_statesThere f_listed f_stired f_burdens f_pacesOn f_restedOn f_behindOn f_behindFor f_first f_second f_plans f_tiredOn tS H.size i r_56 hr_miles (by omega)) (gi_V lwd_634 lwd_635 lwd_636 lwd_18 lwd_637) ⟨rfl, hd_X0_minutes⟩ ⟨Nat.le_of_ble_eq_true rfl, Nat.le_of_ble_eq_true rfl⟩ rfl (Nat.le_of_ble_eq_true rfl) dX9_minutesWithAhead_108) (fun r_67 u_66 H locs hw hP hD hS => ?_)
    try dsimp only at hw hP hD
    clear hw
    refine va_mmax hx hb (by rw [hml]; exact hl.1.symm) hown (hts _ lwd_816) (hts _ lwd_532) (hts _ lwd_529) (hts _ lwd_533) (Nat.le_of_ble_eq_true rfl) (Nat.le_of_ble_eq_true rfl) (Nat.zero_le _) (Nat.zero_le _) dX9_minutesWithAhead_111 ?_
    refine lv_topi (fun n_68 en_68 => ?_)
    have tn_68 := i_max en_68 (rfl : n_21.toInt = n_21.toInt) (rfl : r_67.toInt = r_67.toInt)
    exact hrt n_68 zpacking_quicker_25 zpacking_loads_26 zpacking_looseCount_57 zrletters_27 zrstack_28 zcaps_29 zversions_30 zpheft_31 zholder_51 zcomes_52 zpcaps_34 zroom_58 zloose_59 zreached_60 ⟨(by omega), (by omega), (by omega), p_38, p_39, p_53, p_54, p_42, p_63, p_64, p_65⟩ hP hD hS rfl dX9_minutesWithAhead_114
  · have gc_22 : fewer.toInt ≤ n_21.toInt := i_nlt (rfl : n_21.toInt = n_21.toInt) (rfl : fewer.toInt = fewer.toInt) c_22
    refine lv_ldc hx hb hown (hts _ lwd_778) dX9_minutesWithAhead_64 ?_
    have k_69 : (1000000000 : Int32).toInt = 1000000000 := by decide
    exact hrt 1000000000 v_packing_quicker v_packing_loads v_packing_looseCount zrletters_15 zrstack_16 f_caps f_versions f_pheft f_holder f_comes f_pcaps f_room f_loose f_reached ⟨(by omega), (by omega), (by omega), hr_caps, hr_pheft, hr_holder, hr_comes, hr_pcaps, hr_room, hr_loose, hr_reached⟩ hP hD hS rfl dX9_minutesWithAhead_66
set_option maxHeartbeats 16000000 in
set_option maxRecDepth 100000 in
theorem c_X9_ahead (l : Launch) (D : va_G) (cy : Nat → ClassId) (hs : Nat → Nat) (hH hT sH sT : Nat) (v_tape_size v_band_walkers v_band_loads v_band_pieces v_rules_clauses v_reader_end v_reader_at v_reader_length v_reader_letter v_reader_fault v_draft_clauses v_paces_version v_packing_quicker v_packing_loads v_packing_looseCount v_marches_told v_marches_changeMinutes v_marches_marching v_marches_gone v_search_known v_search_countHere v_search_countThere v_search_cost v_search_most : Int32) (v_search_found : Int64) (f_bytes f_knee f_weight f_limps f_bheft f_owner f_food f_miles f_slope f_rsteps f_rkind f_ryields f_rholds f_rletters f_rstack f_dsteps f_dkind f_dyields f_dholds f_dletters f_dstack f_caps f_versions f_sharing f_pheft f_prow f_holder f_comes f_pcaps f_room f_loose f_reached f_mrow f_minutesOn f_mtired : Nat → Int32) (f_here f_there : Nat → Int64) (f_statesHere f_statesThere f_listed f_stired f_burdens f_pacesOn f_restedOn f_behindOn f_behindFor f_first f_second : Nat → Int32) (f_plans f_tiredOn : Nat → Nat → Int32) (tS : Nat) (sz : Nat) (i : Int32) (all : Int32) (ck : Int32) (what : Int32) (hb_v_band_walkers : 0 ≤ v_band_walkers.toInt ∧ v_band_walkers.toInt ≤ 6) (hb_v_band_loads : 0 ≤ v_band_loads.toInt ∧ v_band_loads.toInt ≤ 9) (hb_v_band_pieces : 0 ≤ v_band_pieces.toInt ∧ v_band_pieces.toInt ≤ 10) (hb_v_rules_clauses : 0 ≤ v_rules_clauses.toInt ∧ v_rules_clauses.toInt ≤ 14) (hb_v_packing_quicker : -1 ≤ v_packing_quicker.toInt ∧ v_packing_quicker.toInt ≤ 5) (hb_v_packing_loads : 0 ≤ v_packing_loads.toInt ∧ v_packing_loads.toInt ≤ 10) (hb_v_packing_looseCount : 0 ≤ v_packing_looseCount.toInt ∧ v_packing_looseCount.toInt ≤ 10) (hr_weight : rg (0) 250 f_weight) (hr_limps : rg (0) 1 f_limps) (hr_bheft : rg (0) 120 f_bheft) (hr_owner : rg (-1) 5 f_owner) (hr_food : rg (0) 20 f_food) (hr_miles : rg (0) 20 f_miles) (hr_caps : rg (-1) 400 f_caps) (hr_pheft : rg (0) 250 f_pheft) (hr_holder : rg (-1) 5 f_holder) (hr_comes : rg (0) 1 f_comes) (hr_pcaps : rg (0) 21899 f_pcaps) (hr_room : rg (-1000) 400 f_room) (hr_loose : rg (0) 9 f_loose) (hr_reached : rg (0) 3072 f_reached) : gMi l yX9_ahead cX9_ahead 12 .int 7 [.ref (hs 0), .int i, .int all, .int ck, .int what] D cy (wSP cy hs hH hT sH sT v_tape_size v_band_walkers v_band_loads v_band_pieces v_rules_clauses v_reader_end v_reader_at v_reader_length v_reader_letter v_reader_fault v_draft_clauses v_paces_version v_packing_quicker v_packing_loads v_packing_looseCount v_marches_told v_marches_changeMinutes v_marches_marching v_marches_gone v_search_known v_search_countHere v_search_countThere v_search_cost v_search_most v_search_found f_bytes f_knee f_weight f_limps f_bheft f_owner f_food f_miles f_slope f_rsteps f_rkind f_ryields f_rholds f_rletters f_rstack f_dsteps f_dkind f_dyields f_dholds f_dletters f_dstack f_caps f_versions f_sharing f_pheft f_prow f_holder f_comes f_pcaps f_room f_loose f_reached f_mrow f_minutesOn f_mtired f_here f_there f_statesHere f_statesThere f_listed f_stired f_burdens f_pacesOn f_restedOn f_behindOn f_behindFor f_first f_second f_plans f_tiredOn) (NS tS) sz (fun (r : Int32) (u : Int32 × Int32 × Int32 × (Nat → Int32) × (Nat → Int32) × (Nat → Int32) × (Nat → Int32) × (Nat → Int32) × (Nat → Int32) × (Nat → Int32) × (Nat → Int32) × (Nat → Int32) × (Nat → Int32) × (Nat → Int32)) => (-1 ≤ (u.1).toInt ∧ (u.1).toInt ≤ 5) ∧ (0 ≤ (u.2.1).toInt ∧ (u.2.1).toInt ≤ 10) ∧ (0 ≤ (u.2.2.1).toInt ∧ (u.2.2.1).toInt ≤ 10) ∧ (rg (-1) 400 (u.2.2.2.2.2.1)) ∧ (rg (0) 250 (u.2.2.2.2.2.2.2.1)) ∧ (rg (-1) 5 (u.2.2.2.2.2.2.2.2.1)) ∧ (rg (0) 1 (u.2.2.2.2.2.2.2.2.2.1)) ∧ (rg (0) 21899 (u.2.2.2.2.2.2.2.2.2.2.1)) ∧ (rg (-1000) 400 (u.2.2.2.2.2.2.2.2.2.2.2.1)) ∧ (rg (0) 9 (u.2.2.2.2.2.2.2.2.2.2.2.2.1)) ∧ (rg (0) 3072 (u.2.2.2.2.2.2.2.2.2.2.2.2.2))) (fun u => wSP cy hs hH hT sH sT v_tape_size v_band_walkers v_band_loads v_band_pieces v_rules_clauses v_reader_end v_reader_at v_reader_length v_reader_letter v_reader_fault v_draft_clauses v_paces_version (u.1) (u.2.1) (u.2.2.1) v_marches_told v_marches_changeMinutes v_marches_marching v_marches_gone v_search_known v_search_countHere v_search_countThere v_search_cost v_search_most v_search_found f_bytes f_knee f_weight f_limps f_bheft f_owner f_food f_miles f_slope f_rsteps f_rkind f_ryields f_rholds (u.2.2.2.1) (u.2.2.2.2.1) f_dsteps f_dkind f_dyields f_dholds f_dletters f_dstack (u.2.2.2.2.2.1) (u.2.2.2.2.2.2.1) f_sharing (u.2.2.2.2.2.2.2.1) f_prow (u.2.2.2.2.2.2.2.2.1) (u.2.2.2.2.2.2.2.2.2.1) (u.2.2.2.2.2.2.2.2.2.2.1) (u.2.2.2.2.2.2.2.2.2.2.2.1) (u.2.2.2.2.2.2.2.2.2.2.2.2.1) (u.2.2.2.2.2.2.2.2.2.2.2.2.2) f_mrow f_minutesOn f_mtired f_here f_there f_statesHere f_statesThere f_listed f_stired f_burdens f_pacesOn f_restedOn f_behindOn f_behindFor f_first f_second f_plans f_tiredOn) := by
  refine gMi_in (by decide) (Nat.le_of_ble_eq_true rfl) ?_
  intro p e s m args below meth c A ls Q hx hb hml hts hown hsz hP hK hD hN hAe hA hS hl hret
  subst hsz
  have hl : lv_has ls 12 [(0, .ref (hs 0)), (1, .int i), (2, .int all), (3, .int ck), (4, .int what)] := hl
  have hrt := fun (r : Int32) (v_packing_quicker' : Int32) (v_packing_loads' : Int32) (v_packing_looseCount' : Int32) (f_rletters' : Nat → Int32) (f_rstack' : Nat → Int32) (f_caps' : Nat → Int32) (f_versions' : Nat → Int32) (f_pheft' : Nat → Int32) (f_holder' : Nat → Int32) (f_comes' : Nat → Int32) (f_pcaps' : Nat → Int32) (f_room' : Nat → Int32) (f_loose' : Nat → Int32) (f_reached' : Nat → Int32) (hp : (-1 ≤ v_packing_quicker'.toInt ∧ v_packing_quicker'.toInt ≤ 5) ∧ (0 ≤ v_packing_loads'.toInt ∧ v_packing_loads'.toInt ≤ 10) ∧ (0 ≤ v_packing_looseCount'.toInt ∧ v_packing_looseCount'.toInt ≤ 10) ∧ (rg (-1) 400 f_caps') ∧ (rg (0) 250 f_pheft') ∧ (rg (-1) 5 f_holder') ∧ (rg (0) 1 f_comes') ∧ (rg (0) 21899 f_pcaps') ∧ (rg (-1000) 400 f_room') ∧ (rg (0) 9 f_loose') ∧ (rg (0) 3072 f_reached')) {H : Heap} {locs : List Loc} {pc : Nat} {ls : Array Slot} => hret r (v_packing_quicker', v_packing_loads', v_packing_looseCount', f_rletters', f_rstack', f_caps', f_versions', f_pheft', f_holder', f_comes', f_pcaps', f_room', f_loose', f_reached') (H := H) (locs := locs) (pc := pc) (ls := ls) hp
  clear hret
  refine lv_iload_n hx hb dX9_ahead_0 rfl (lv_at hl 3 rfl) ?_
  refine lv_if_lt (tgt := 26) hx hb dX9_ahead_1 (by decide) (fun c_1 => ?_) (fun c_1 => ?_)
  · have gc_1 : ck.toInt < 0 := i_lt (rfl : ck.toInt = ck.toInt) (by decide : (0 : Int32).toInt = 0) c_1
    refine lv_iconst (v := 0) hx hb dX9_ahead_26 (by decide) ?_
    refine lv_istore (lv' := [(5, .int 0), (0, .ref (hs 0)), (1, .int i), (2, .int all), (3, .int ck), (4, .int what)]) hx hb dX9_ahead_27 hl (by decide) rfl (fun ls hl => ?_)
    refine lv_iload hx hb dX9_ahead_29 (lv_at hl 0 rfl) ?_
    refine lv_if_eq (tgt := 54) hx hb dX9_ahead_31 (by decide) (fun c_2 => ?_) (fun c_2 => ?_)
    · skip
      refine lv_iconst (v := (-1)) hx hb dX9_ahead_54 (by decide) ?_
      have k_3 : ((-1) : Int32).toInt = (-1) := by decide
      exact hrt (-1) v_packing_quicker v_packing_loads v_packing_looseCount f_rletters f_rstack f_caps f_versions f_pheft f_holder f_comes f_pcaps f_room f_loose f_reached ⟨(by omega), (by omega), (by omega), hr_caps, hr_pheft, hr_holder, hr_comes, hr_pcaps, hr_room, hr_loose, hr_reached⟩ hP hD hS rfl dX9_ahead_55
    · exact absurd c_2 (by decide)
  · have gc_1 : 0 ≤ ck.toInt := i_nlt (rfl : ck.toInt = ck.toInt) (by decide : (0 : Int32).toInt = 0) c_1
    refine lv_iload_n hx hb dX9_ahead_4 rfl (lv_at hl 3 rfl) ?_
    refine lv_sipush (v := 600) hx hb dX9_ahead_5 (by decide) ?_
    refine lv_icmp_gt (tgt := 26) hx hb dX9_ahead_8 (by decide) (fun c_4 => ?_) (fun c_4 => ?_)
    · have gc_4 : 600 < ck.toInt := i_lt (by decide : (600 : Int32).toInt = 600) (rfl : ck.toInt = ck.toInt) c_4
      refine lv_iconst (v := 0) hx hb dX9_ahead_26 (by decide) ?_
      refine lv_istore (lv' := [(5, .int 0), (0, .ref (hs 0)), (1, .int i), (2, .int all), (3, .int ck), (4, .int what)]) hx hb dX9_ahead_27 hl (by decide) rfl (fun ls hl => ?_)
      refine lv_iload hx hb dX9_ahead_29 (lv_at hl 0 rfl) ?_
      refine lv_if_eq (tgt := 54) hx hb dX9_ahead_31 (by decide) (fun c_5 => ?_) (fun c_5 => ?_)
      · skip
        refine lv_iconst (v := (-1)) hx hb dX9_ahead_54 (by decide) ?_
        have k_6 : ((-1) : Int32).toInt = (-1) := by decide
        exact hrt (-1) v_packing_quicker v_packing_loads v_packing_looseCount f_rletters f_rstack f_caps f_versions f_pheft f_holder f_comes f_pcaps f_room f_loose f_reached ⟨(by omega), (by omega), (by omega), hr_caps, hr_pheft, hr_holder, hr_comes, hr_pcaps, hr_room, hr_loose, hr_reached⟩ hP hD hS rfl dX9_ahead_55
      · exact absurd c_5 (by decide)
    · have gc_4 : ck.toInt ≤ 600 := i_nlt (by decide : (600 : Int32).toInt = 600) (rfl : ck.toInt = ck.toInt) c_4
      refine lv_iload hx hb dX9_ahead_11 (lv_at hl 4 rfl) ?_
      refine lv_if_lt (tgt := 26) hx hb dX9_ahead_13 (by decide) (fun c_7 => ?_) (fun c_7 => ?_)
      · have gc_7 : what.toInt < 0 := i_lt (rfl : what.toInt = what.toInt) (by decide : (0 : Int32).toInt = 0) c_7
        refine lv_iconst (v := 0) hx hb dX9_ahead_26 (by decide) ?_
        refine lv_istore (lv' := [(5, .int 0), (0, .ref (hs 0)), (1, .int i), (2, .int all), (3, .int ck), (4, .int what)]) hx hb dX9_ahead_27 hl (by decide) rfl (fun ls hl => ?_)
        refine lv_iload hx hb dX9_ahead_29 (lv_at hl 0 rfl) ?_
        refine lv_if_eq (tgt := 54) hx hb dX9_ahead_31 (by decide) (fun c_8 => ?_) (fun c_8 => ?_)
        · skip
          refine lv_iconst (v := (-1)) hx hb dX9_ahead_54 (by decide) ?_
          have k_9 : ((-1) : Int32).toInt = (-1) := by decide
          exact hrt (-1) v_packing_quicker v_packing_loads v_packing_looseCount f_rletters f_rstack f_caps f_versions f_pheft f_holder f_comes f_pcaps f_room f_loose f_reached ⟨(by omega), (by omega), (by omega), hr_caps, hr_pheft, hr_holder, hr_comes, hr_pcaps, hr_room, hr_loose, hr_reached⟩ hP hD hS rfl dX9_ahead_55
        · exact absurd c_8 (by decide)
      · have gc_7 : 0 ≤ what.toInt := i_nlt (rfl : what.toInt = what.toInt) (by decide : (0 : Int32).toInt = 0) c_7
        refine lv_iload hx hb dX9_ahead_16 (lv_at hl 4 rfl) ?_
        refine lv_iconst (v := 2) hx hb dX9_ahead_18 (by decide) ?_
        refine lv_icmp_gt (tgt := 26) hx hb dX9_ahead_19 (by decide) (fun c_10 => ?_) (fun c_10 => ?_)
        · have gc_10 : 2 < what.toInt := i_lt (by decide : (2 : Int32).toInt = 2) (rfl : what.toInt = what.toInt) c_10
          refine lv_iconst (v := 0) hx hb dX9_ahead_26 (by decide) ?_
          refine lv_istore (lv' := [(5, .int 0), (0, .ref (hs 0)), (1, .int i), (2, .int all), (3, .int ck), (4, .int what)]) hx hb dX9_ahead_27 hl (by decide) rfl (fun ls hl => ?_)
          refine lv_iload hx hb dX9_ahead_29 (lv_at hl 0 rfl) ?_
          refine lv_if_eq (tgt := 54) hx hb dX9_ahead_31 (by decide) (fun c_11 => ?_) (fun c_11 => ?_)
          · skip
            refine lv_iconst (v := (-1)) hx hb dX9_ahead_54 (by decide) ?_
            have k_12 : ((-1) : Int32).toInt = (-1) := by decide
            exact hrt (-1) v_packing_quicker v_packing_loads v_packing_looseCount f_rletters f_rstack f_caps f_versions f_pheft f_holder f_comes f_pcaps f_room f_loose f_reached ⟨(by omega), (by omega), (by omega), hr_caps, hr_pheft, hr_holder, hr_comes, hr_pcaps, hr_room, hr_loose, hr_reached⟩ hP hD hS rfl dX9_ahead_55
          · exact absurd c_11 (by decide)
        · have gc_10 : what.toInt ≤ 2 := i_nlt (by decide : (2 : Int32).toInt = 2) (rfl : what.toInt = what.toInt) c_10
          refine lv_iconst (v := 1) hx hb dX9_ahead_22 (by decide) ?_
          refine lv_goto (tgt := 27) hx hb dX9_ahead_23 (by decide) ?_
          refine lv_istore (lv' := [(5, .int 1), (0, .ref (hs 0)), (1, .int i), (2, .int all), (3, .int ck), (4, .int what)]) hx hb dX9_ahead_27 hl (by decide) rfl (fun ls hl => ?_)
          refine lv_iload hx hb dX9_ahead_29 (lv_at hl 0 rfl) ?_
          refine lv_if_eq (tgt := 54) hx hb dX9_ahead_31 (by decide) (fun c_13 => ?_) (fun c_13 => ?_)
          · exact absurd c_13 (by decide)
          · skip
            refine lv_aload_n hx hb dX9_ahead_34 rfl (lv_at hl 1 rfl) ?_
            refine gt_SP_SP_band hx hb hts hown hK hP lwd_19 dX9_ahead_35 ?_
            refine gt_SP_band_walkers hx hb hts hown hK hP lwd_206 dX9_ahead_38 ?_
            refine lv_iconst (v := 3) hx hb dX9_ahead_41 (by decide) ?_
            refine lv_icmp_lt (tgt := 54) hx hb dX9_ahead_42 (by decide) (fun c_14 => ?_) (fun c_14 => ?_)
            · have gc_14 : v_band_walkers.toInt < 3 := i_lt (rfl : v_band_walkers.toInt = v_band_walkers.toInt) (by decide : (3 : Int32).toInt = 3) c_14
              refine lv_iconst (v := (-1)) hx hb dX9_ahead_54 (by decide) ?_
              have k_15 : ((-1) : Int32).toInt = (-1) := by decide
              exact hrt (-1) v_packing_quicker v_packing_loads v_packing_looseCount f_rletters f_rstack f_caps f_versions f_pheft f_holder f_comes f_pcaps f_room f_loose f_reached ⟨(by omega), (by omega), (by omega), hr_caps, hr_pheft, hr_holder, hr_comes, hr_pcaps, hr_room, hr_loose, hr_reached⟩ hP hD hS rfl dX9_ahead_55
            · have gc_14 : 3 ≤ v_band_walkers.toInt := i_nlt (rfl : v_band_walkers.toInt = v_band_walkers.toInt) (by decide : (3 : Int32).toInt = 3) c_14
              refine lv_aload_n hx hb dX9_ahead_45 rfl (lv_at hl 1 rfl) ?_
              refine lv_iload_n hx hb dX9_ahead_46 rfl (lv_at hl 2 rfl) ?_
              refine lv_iload_n hx hb dX9_ahead_47 rfl (lv_at hl 3 rfl) ?_
              refine xi hD hS hA (xV (As := [.int i, .int all]) (rest := []) hx hb hml hown hts hK hP hD hS hA NS_ok hN hAe hl.1 ⟨Nat.le_refl _, Nat.le_refl _⟩ 0 rfl rfl rfl (c_X9_standsOn l D cy hs hH hT sH sT v_tape_size v_band_walkers v_band_loads v_band_pieces v_rules_clauses v_reader_end v_reader_at v_reader_length v_reader_letter v_reader_fault v_draft_clauses v_paces_version v_packing_quicker v_packing_loads v_packing_looseCount v_marches_told v_marches_changeMinutes v_marches_marching v_marches_gone v_search_known v_search_countHere v_search_countThere v_search_cost v_search_most v_search_found f_bytes f_knee f_weight f_limps f_bheft f_owner f_food f_miles f_slope f_rsteps f_rkind f_ryields f_rholds f_rletters f_rstack f_dsteps f_dkind f_dyields f_dholds f_dletters f_dstack f_caps f_versions f_sharing f_pheft f_prow f_holder f_comes f_pcaps f_room f_loose f_reached f_mrow f_minutesOn f_mtired f_here f_there f_statesHere f_statesThere f_listed f_stired f_burdens f_pacesOn f_restedOn f_behindOn f_behindFor f_first f_second f_plans f_tiredOn tS s.heap.size i all (by omega) (by omega)) (gi_V lwd_616 lwd_617 lwd_618 lwd_2 lwd_619) ⟨rfl, hd_X9_standsOn⟩ ⟨Nat.le_of_ble_eq_true rfl, Nat.le_of_ble_eq_true rfl⟩ rfl (Nat.le_of_ble_eq_true rfl) dX9_ahead_48) (fun r_17 u_16 H locs hw hP hD hS => ?_)
              try dsimp only at hw hP hD
              obtain ⟨p_18, p_19⟩ := hw
              refine lv_if_ne (tgt := 56) hx hb dX9_ahead_51 (by decide) (fun c_20 => ?_) (fun c_20 => ?_)
              · have gc_20 : r_17.toInt ≠ 0 := i_ne (rfl : r_17.toInt = r_17.toInt) (by decide : (0 : Int32).toInt = 0) c_20
                refine lv_ldc hx hb hown (hts _ lwd_778) dX9_ahead_56 ?_
                refine lv_istore (lv' := [(6, .int 1000000000), (5, .int 1), (0, .ref (hs 0)), (1, .int i), (2, .int all), (3, .int ck), (4, .int what)]) hx hb dX9_ahead_58 hl (by decide) rfl (fun ls hl => ?_)
                refine lv_iconst (v := (-1)) hx hb dX9_ahead_60 (by decide) ?_
                refine lv_istore (lv' := [(7, .int (-1)), (6, .int 1000000000), (5, .int 1), (0, .ref (hs 0)), (1, .int i), (2, .int all), (3, .int ck), (4, .int what)]) hx hb dX9_ahead_61 hl (by decide) rfl (fun ls hl => ?_)
                refine lv_iconst (v := (-1)) hx hb dX9_ahead_63 (by decide) ?_
                refine lv_istore (lv' := [(8, .int (-1)), (7, .int (-1)), (6, .int 1000000000), (5, .int 1), (0, .ref (hs 0)), (1, .int i), (2, .int all), (3, .int ck), (4, .int what)]) hx hb dX9_ahead_64 hl (by decide) rfl (fun ls hl => ?_)
                refine lv_iconst (v := 0) hx hb dX9_ahead_66 (by decide) ?_
                refine lv_istore (lv' := [(9, .int 0), (8, .int (-1)), (7, .int (-1)), (6, .int 1000000000), (5, .int 1), (0, .ref (hs 0)), (1, .int i), (2, .int all), (3, .int ck), (4, .int what)]) hx hb dX9_ahead_67 hl (by decide) rfl (fun ls hl => ?_)
                have L69_57 : ∀ (n : Nat) (f_39 : Nat → Int32) (f_40 : Nat → Int32) (f_41 : Nat → Int32) (f_42 : Nat → Int32) (f_43 : Nat → Int32) (f_44 : Nat → Int32) (f_45 : Nat → Int32) (f_46 : Nat → Int32) (f_47 : Nat → Int32) (f_48 : Nat → Int32) (f_49 : Nat → Int32) (l_50 : Int32) (l_51 : Int32) (l_52 : Int32) (l_53 : Int32) (w_54 : Int32) (w_55 : Int32) (w_56 : Int32), (rg (-1) 400 f_39) → (rg (0) 1 f_40) → (rg (-1) 5 f_41) → (rg (0) 9 f_42) → (rg (0) 21899 f_43) → (rg (0) 250 f_44) → (rg (0) 3072 f_45) → (rg (-1000) 400 f_47) → (0 ≤ l_53.toInt ∧ l_53.toInt ≤ 6) → (0 ≤ w_54.toInt ∧ w_54.toInt ≤ 10) → (0 ≤ w_55.toInt ∧ w_55.toInt ≤ 10) → (-1 ≤ w_56.toInt ∧ w_56.toInt ≤ 5) → 7 - l_53.toInt < n → ∀ (H : Heap) (locs : List Loc) (ls : Array Slot), va_P D vwCl (wSP cy hs hH hT sH sT v_tape_size v_band_walkers v_band_loads v_band_pieces v_rules_clauses v_reader_end v_reader_at v_reader_length v_reader_letter v_reader_fault v_draft_clauses v_paces_version w_56 w_54 w_55 v_marches_told v_marches_changeMinutes v_marches_marching v_marches_gone v_search_known v_search_countHere v_search_countThere v_search_cost v_search_most v_search_found f_bytes f_knee f_weight f_limps f_bheft f_owner f_food f_miles f_slope f_rsteps f_rkind f_ryields f_rholds f_46 f_48 f_dsteps f_dkind f_dyields f_dholds f_dletters f_dstack f_39 f_49 f_sharing f_44 f_prow f_41 f_40 f_43 f_47 f_42 f_45 f_mrow f_minutesOn f_mtired f_here f_there f_statesHere f_statesThere f_listed f_stired f_burdens f_pacesOn f_restedOn f_behindOn f_behindFor f_first f_second f_plans f_tiredOn) H → va_D A (wSP cy hs hH hT sH sT v_tape_size v_band_walkers v_band_loads v_band_pieces v_rules_clauses v_reader_end v_reader_at v_reader_length v_reader_letter v_reader_fault v_draft_clauses v_paces_version w_56 w_54 w_55 v_marches_told v_marches_changeMinutes v_marches_marching v_marches_gone v_search_known v_search_countHere v_search_countThere v_search_cost v_search_most v_search_found f_bytes f_knee f_weight f_limps f_bheft f_owner f_food f_miles f_slope f_rsteps f_rkind f_ryields f_rholds f_46 f_48 f_dsteps f_dkind f_dyields f_dholds f_dletters f_dstack f_39 f_49 f_sharing f_44 f_prow f_41 f_40 f_43 f_47 f_42 f_45 f_mrow f_minutesOn f_mtired f_here f_there f_statesHere f_statesThere f_listed f_stired f_burdens f_pacesOn f_restedOn f_behindOn f_behindFor f_first f_second f_plans f_tiredOn) → va_S A s.heap H locs → lv_has ls 12 [(9, .int l_53), (8, .int l_52), (7, .int l_51), (6, .int l_50), (5, .int 1), (0, .ref (hs 0)), (1, .int i), (2, .int all), (3, .int ck), (4, .int what)] → W p l e (gRm 7) s m args below meth c H locs 0 0 Q (F0 m 69 ls []) := by
                  intro n
                  induction n with
                  | zero => intro f_39 f_40 f_41 f_42 f_43 f_44 f_45 f_46 f_47 f_48 f_49 l_50 l_51 l_52 l_53 w_54 w_55 w_56 hL69_57_0 hL69_57_1 hL69_57_2 hL69_57_3 hL69_57_4 hL69_57_5 hL69_57_6 hL69_57_7 hL69_57_8 hL69_57_9 hL69_57_10 hL69_57_11 hm; exact absurd hm (by omega)
                  | succ n ih69_57 =>
                    intro f_39 f_40 f_41 f_42 f_43 f_44 f_45 f_46 f_47 f_48 f_49 l_50 l_51 l_52 l_53 w_54 w_55 w_56 hL69_57_0 hL69_57_1 hL69_57_2 hL69_57_3 hL69_57_4 hL69_57_5 hL69_57_6 hL69_57_7 hL69_57_8 hL69_57_9 hL69_57_10 hL69_57_11 hmL69_57 H locs ls hP hD hS hl
                    refine lv_iload hx hb dX9_ahead_69 (lv_at hl 0 rfl) ?_
                    refine lv_aload_n hx hb dX9_ahead_71 rfl (lv_at hl 5 rfl) ?_
                    refine gt_SP_SP_band hx hb hts hown hK hP lwd_19 dX9_ahead_72 ?_
                    refine gt_SP_band_walkers hx hb hts hown hK hP lwd_206 dX9_ahead_75 ?_
                    refine lv_icmp_ge (tgt := 145) hx hb dX9_ahead_78 (by decide) (fun c_58 => ?_) (fun c_58 => ?_)
                    · have gc_58 : v_band_walkers.toInt ≤ l_53.toInt := i_le (rfl : v_band_walkers.toInt = v_band_walkers.toInt) (rfl : l_53.toInt = l_53.toInt) c_58
                      refine lv_iload hx hb dX9_ahead_145 (lv_at hl 3 rfl) ?_
                      refine lv_ldc hx hb hown (hts _ lwd_778) dX9_ahead_147 ?_
                      refine lv_icmp_ne (tgt := 155) hx hb dX9_ahead_149 (by decide) (fun c_59 => ?_) (fun c_59 => ?_)
                      · have gc_59 : l_50.toInt ≠ 1000000000 := i_ne (rfl : l_50.toInt = l_50.toInt) (by decide : (1000000000 : Int32).toInt = 1000000000) c_59
                        refine lv_iload hx hb dX9_ahead_155 (lv_at hl 9 rfl) ?_
                        refine lv_if_ne (tgt := 163) hx hb dX9_ahead_157 (by decide) (fun c_60 => ?_) (fun c_60 => ?_)
                        · have gc_60 : what.toInt ≠ 0 := i_ne (rfl : what.toInt = what.toInt) (by decide : (0 : Int32).toInt = 0) c_60
                          refine lv_iload hx hb dX9_ahead_163 (lv_at hl 9 rfl) ?_
                          refine lv_iconst (v := 1) hx hb dX9_ahead_165 (by decide) ?_
                          refine lv_icmp_ne (tgt := 174) hx hb dX9_ahead_166 (by decide) (fun c_61 => ?_) (fun c_61 => ?_)
                          · have gc_61 : what.toInt ≠ 1 := i_ne (rfl : what.toInt = what.toInt) (by decide : (1 : Int32).toInt = 1) c_61
                            refine lv_iload hx hb dX9_ahead_174 (lv_at hl 1 rfl) ?_
                            exact hrt l_52 w_56 w_54 w_55 f_46 f_48 f_39 f_49 f_44 f_41 f_40 f_43 f_47 f_42 f_45 ⟨(by omega), (by omega), (by omega), hL69_57_0, hL69_57_5, hL69_57_2, hL69_57_1, hL69_57_4, hL69_57_7, hL69_57_3, hL69_57_6⟩ hP hD hS rfl dX9_ahead_176
                          · have gc_61 : what.toInt = 1 := i_eq (rfl : what.toInt = what.toInt) (by decide : (1 : Int32).toInt = 1) c_61
                            refine lv_iload hx hb dX9_ahead_169 (lv_at hl 2 rfl) ?_
                            refine lv_goto (tgt := 176) hx hb dX9_ahead_171 (by decide) ?_
                            exact hrt l_51 w_56 w_54 w_55 f_46 f_48 f_39 f_49 f_44 f_41 f_40 f_43 f_47 f_42 f_45 ⟨(by omega), (by omega), (by omega), hL69_57_0, hL69_57_5, hL69_57_2, hL69_57_1, hL69_57_4, hL69_57_7, hL69_57_3, hL69_57_6⟩ hP hD hS rfl dX9_ahead_176
                        · have gc_60 : what.toInt = 0 := i_eq (rfl : what.toInt = what.toInt) (by decide : (0 : Int32).toInt = 0) c_60
                          refine lv_iload hx hb dX9_ahead_160 (lv_at hl 3 rfl) ?_
                          exact hrt l_50 w_56 w_54 w_55 f_46 f_48 f_39 f_49 f_44 f_41 f_40 f_43 f_47 f_42 f_45 ⟨(by omega), (by omega), (by omega), hL69_57_0, hL69_57_5, hL69_57_2, hL69_57_1, hL69_57_4, hL69_57_7, hL69_57_3, hL69_57_6⟩ hP hD hS rfl dX9_ahead_162
                      · have gc_59 : l_50.toInt = 1000000000 := i_eq (rfl : l_50.toInt = l_50.toInt) (by decide : (1000000000 : Int32).toInt = 1000000000) c_59
                        refine lv_bipush (v := (-2)) hx hb dX9_ahead_152 (by decide) ?_
                        have k_62 : ((-2) : Int32).toInt = (-2) := by decide
                        exact hrt (-2) w_56 w_54 w_55 f_46 f_48 f_39 f_49 f_44 f_41 f_40 f_43 f_47 f_42 f_45 ⟨(by omega), (by omega), (by omega), hL69_57_0, hL69_57_5, hL69_57_2, hL69_57_1, hL69_57_4, hL69_57_7, hL69_57_3, hL69_57_6⟩ hP hD hS rfl dX9_ahead_154
                    · have gc_58 : l_53.toInt < v_band_walkers.toInt := i_nle (rfl : v_band_walkers.toInt = v_band_walkers.toInt) (rfl : l_53.toInt = l_53.toInt) c_58
                      refine lv_iload hx hb dX9_ahead_81 (lv_at hl 0 rfl) ?_
                      refine lv_iconst (v := 1) hx hb dX9_ahead_83 (by decide) ?_
                      refine lv_iadd hx hb dX9_ahead_84 ?_
                      refine lv_topi (fun n_63 en_63 => ?_)
                      have tn_63 : n_63.toInt = l_53.toInt + 1 := i_add en_63 (rfl : l_53.toInt = l_53.toInt) (by decide : (1 : Int32).toInt = 1) (by omega) (by omega)
                      refine lv_istore (lv' := [(10, .int n_63), (9, .int l_53), (8, .int l_52), (7, .int l_51), (6, .int l_50), (5, .int 1), (0, .ref (hs 0)), (1, .int i), (2, .int all), (3, .int ck), (4, .int what)]) hx hb dX9_ahead_85 hl (by decide) rfl (fun ls hl => ?_)
                      have L87_100 : ∀ (n : Nat) (f_82 : Nat → Int32) (f_83 : Nat → Int32) (f_84 : Nat → Int32) (f_85 : Nat → Int32) (f_86 : Nat → Int32) (f_87 : Nat → Int32) (f_88 : Nat → Int32) (f_89 : Nat → Int32) (f_90 : Nat → Int32) (f_91 : Nat → Int32) (f_92 : Nat → Int32) (l_93 : Int32) (l_94 : Int32) (l_95 : Int32) (l_96 : Int32) (w_97 : Int32) (w_98 : Int32) (w_99 : Int32), (rg (-1) 400 f_82) → (rg (0) 1 f_83) → (rg (-1) 5 f_84) → (rg (0) 9 f_85) → (rg (0) 21899 f_86) → (rg (0) 250 f_87) → (rg (0) 3072 f_88) → (rg (-1000) 400 f_90) → (1 ≤ l_93.toInt ∧ l_93.toInt ≤ 6) → (0 ≤ w_97.toInt ∧ w_97.toInt ≤ 10) → (0 ≤ w_98.toInt ∧ w_98.toInt ≤ 10) → (-1 ≤ w_99.toInt ∧ w_99.toInt ≤ 5) → 7 - l_93.toInt < n → ∀ (H : Heap) (locs : List Loc) (ls : Array Slot), va_P D vwCl (wSP cy hs hH hT sH sT v_tape_size v_band_walkers v_band_loads v_band_pieces v_rules_clauses v_reader_end v_reader_at v_reader_length v_reader_letter v_reader_fault v_draft_clauses v_paces_version w_99 w_97 w_98 v_marches_told v_marches_changeMinutes v_marches_marching v_marches_gone v_search_known v_search_countHere v_search_countThere v_search_cost v_search_most v_search_found f_bytes f_knee f_weight f_limps f_bheft f_owner f_food f_miles f_slope f_rsteps f_rkind f_ryields f_rholds f_89 f_91 f_dsteps f_dkind f_dyields f_dholds f_dletters f_dstack f_82 f_92 f_sharing f_87 f_prow f_84 f_83 f_86 f_90 f_85 f_88 f_mrow f_minutesOn f_mtired f_here f_there f_statesHere f_statesThere f_listed f_stired f_burdens f_pacesOn f_restedOn f_behindOn f_behindFor f_first f_second f_plans f_tiredOn) H → va_D A (wSP cy hs hH hT sH sT v_tape_size v_band_walkers v_band_loads v_band_pieces v_rules_clauses v_reader_end v_reader_at v_reader_length v_reader_letter v_reader_fault v_draft_clauses v_paces_version w_99 w_97 w_98 v_marches_told v_marches_changeMinutes v_marches_marching v_marches_gone v_search_known v_search_countHere v_search_countThere v_search_cost v_search_most v_search_found f_bytes f_knee f_weight f_limps f_bheft f_owner f_food f_miles f_slope f_rsteps f_rkind f_ryields f_rholds f_89 f_91 f_dsteps f_dkind f_dyields f_dholds f_dletters f_dstack f_82 f_92 f_sharing f_87 f_prow f_84 f_83 f_86 f_90 f_85 f_88 f_mrow f_minutesOn f_mtired f_here f_there f_statesHere f_statesThere f_listed f_stired f_burdens f_pacesOn f_restedOn f_behindOn f_behindFor f_first f_second f_plans f_tiredOn) → va_S A s.heap H locs → lv_has ls 12 [(10, .int l_93), (9, .int l_53), (8, .int l_96), (7, .int l_95), (6, .int l_94), (5, .int 1), (0, .ref (hs 0)), (1, .int i), (2, .int all), (3, .int ck), (4, .int what)] → W p l e (gRm 7) s m args below meth c H locs 0 0 Q (F0 m 87 ls []) := by
                        intro n
                        induction n with
                        | zero => intro f_82 f_83 f_84 f_85 f_86 f_87 f_88 f_89 f_90 f_91 f_92 l_93 l_94 l_95 l_96 w_97 w_98 w_99 hL87_100_0 hL87_100_1 hL87_100_2 hL87_100_3 hL87_100_4 hL87_100_5 hL87_100_6 hL87_100_7 hL87_100_8 hL87_100_9 hL87_100_10 hL87_100_11 hm; exact absurd hm (by omega)
                        | succ n ih87_100 =>
                          intro f_82 f_83 f_84 f_85 f_86 f_87 f_88 f_89 f_90 f_91 f_92 l_93 l_94 l_95 l_96 w_97 w_98 w_99 hL87_100_0 hL87_100_1 hL87_100_2 hL87_100_3 hL87_100_4 hL87_100_5 hL87_100_6 hL87_100_7 hL87_100_8 hL87_100_9 hL87_100_10 hL87_100_11 hmL87_100 H locs ls hP hD hS hl
                          refine lv_iload hx hb dX9_ahead_87 (lv_at hl 0 rfl) ?_
                          refine lv_aload_n hx hb dX9_ahead_89 rfl (lv_at hl 6 rfl) ?_
                          refine gt_SP_SP_band hx hb hts hown hK hP lwd_19 dX9_ahead_90 ?_
                          refine gt_SP_band_walkers hx hb hts hown hK hP lwd_206 dX9_ahead_93 ?_
                          refine lv_icmp_ge (tgt := 139) hx hb dX9_ahead_96 (by decide) (fun c_101 => ?_) (fun c_101 => ?_)
                          · have gc_101 : v_band_walkers.toInt ≤ l_93.toInt := i_le (rfl : v_band_walkers.toInt = v_band_walkers.toInt) (rfl : l_93.toInt = l_93.toInt) c_101
                            obtain ⟨n_102, en_102⟩ : ∃ y : Int32, y = l_53 + 1 := ⟨_, rfl⟩
                            have tn_102 : n_102.toInt = l_53.toInt + 1 := i_add en_102 (rfl : l_53.toInt = l_53.toInt) (by decide : (1 : Int32).toInt = 1) (by omega) (by omega)
                            refine lv_iinc (v := n_102) (lv' := [(9, .int n_102), (10, .int l_93), (8, .int l_96), (7, .int l_95), (6, .int l_94), (5, .int 1), (0, .ref (hs 0)), (1, .int i), (2, .int all), (3, .int ck), (4, .int what)]) hx hb dX9_ahead_139 hl (k := 1) rfl (by rw [en_102]; rfl) (by decide) rfl (fun ls hl => ?_)
                            refine lv_goto (tgt := 69) hx hb dX9_ahead_142 (by decide) ?_
                            exact ih69_57 f_82 f_83 f_84 f_85 f_86 f_87 f_88 f_89 f_90 f_91 f_92 l_94 l_95 l_96 n_102 w_97 w_98 w_99 hL87_100_0 hL87_100_1 hL87_100_2 hL87_100_3 hL87_100_4 hL87_100_5 hL87_100_6 hL87_100_7 (by omega) (by omega) (by omega) (by omega) (by omega) _ _ _ hP hD hS (lv_sub hl [0, 2, 3, 4, 5, 6, 7, 8, 9, 10] rfl)
                          · have gc_101 : l_93.toInt < v_band_walkers.toInt := i_nle (rfl : v_band_walkers.toInt = v_band_walkers.toInt) (rfl : l_93.toInt = l_93.toInt) c_101
                            refine lv_aload_n hx hb dX9_ahead_99 rfl (lv_at hl 6 rfl) ?_
                            refine lv_iload_n hx hb dX9_ahead_100 rfl (lv_at hl 7 rfl) ?_
                            refine lv_iload_n hx hb dX9_ahead_101 rfl (lv_at hl 8 rfl) ?_
                            refine lv_iload_n hx hb dX9_ahead_102 rfl (lv_at hl 9 rfl) ?_
                            refine lv_iload hx hb dX9_ahead_103 (lv_at hl 1 rfl) ?_
                            refine lv_iload hx hb dX9_ahead_105 (lv_at hl 0 rfl) ?_
                            refine lv_iload hx hb dX9_ahead_107 (lv_at hl 4 rfl) ?_
                            refine xi hD hS hA (xV (As := [.int i, .int all, .int ck, .int l_53, .int l_93, .int l_94]) (rest := []) hx hb hml hown hts hK hP hD hS hA NS_ok hN hAe hl.1 ⟨Nat.le_refl _, Nat.le_refl _⟩ 0 rfl rfl rfl (c_X9_minutesWithAhead l D cy hs hH hT sH sT v_tape_size v_band_walkers v_band_loads v_band_pieces v_rules_clauses v_reader_end v_reader_at v_reader_length v_reader_letter v_reader_fault v_draft_clauses v_paces_version w_99 w_97 w_98 v_marches_told v_marches_changeMinutes v_marches_marching v_marches_gone v_search_known v_search_countHere v_search_countThere v_search_cost v_search_most v_search_found f_bytes f_knee f_weight f_limps f_bheft f_owner f_food f_miles f_slope f_rsteps f_rkind f_ryields f_rholds f_89 f_91 f_dsteps f_dkind f_dyields f_dholds f_dletters f_dstack f_82 f_92 f_sharing f_87 f_prow f_84 f_83 f_86 f_90 f_85 f_88 f_mrow f_minutesOn f_mtired f_here f_there f_statesHere f_statesThere f_listed f_stired f_burdens f_pacesOn f_restedOn f_behindOn f_behindFor f_first f_second f_plans f_tiredOn tS H.size i all ck l_53 l_93 l_94 (by omega) (by omega) (by omega) (by omega) (by omega) (by omega) hr_weight hr_limps hr_bheft hr_owner hr_food hr_miles hL87_100_0 hL87_100_5 hL87_100_2 hL87_100_1 hL87_100_4 hL87_100_7 hL87_100_3 hL87_100_6 (by omega) (by omega) (by omega) (by omega)) (gi_V lwd_811 lwd_812 lwd_813 lwd_2 lwd_814) ⟨rfl, hd_X9_minutesWithAhead⟩ ⟨Nat.le_of_ble_eq_true rfl, Nat.le_of_ble_eq_true rfl⟩ rfl (Nat.le_of_ble_eq_true rfl) dX9_ahead_109) (fun r_104 u_103 H locs hw hP hD hS => ?_)
                            obtain ⟨zpacking_quicker_105, zpacking_loads_106, zpacking_looseCount_107, zrletters_108, zrstack_109, zcaps_110, zversions_111, zpheft_112, zholder_113, zcomes_114, zpcaps_115, zroom_116, zloose_117, zreached_118⟩ := u_103
                            try dsimp only at hw hP hD
                            obtain ⟨p_119, p_120, p_121, p_122, p_123, p_124, p_125, p_126, p_127, p_128, p_129⟩ := hw
                            refine lv_istore (lv' := [(11, .int r_104), (10, .int l_93), (9, .int l_53), (8, .int l_96), (7, .int l_95), (6, .int l_94), (5, .int 1), (0, .ref (hs 0)), (1, .int i), (2, .int all), (3, .int ck), (4, .int what)]) hx hb dX9_ahead_112 hl (by decide) rfl (fun ls hl => ?_)
                            refine lv_iload hx hb dX9_ahead_114 (lv_at hl 0 rfl) ?_
                            refine lv_iload hx hb dX9_ahead_116 (lv_at hl 5 rfl) ?_
                            refine lv_icmp_ge (tgt := 133) hx hb dX9_ahead_118 (by decide) (fun c_130 => ?_) (fun c_130 => ?_)
                            · have gc_130 : l_94.toInt ≤ r_104.toInt := i_le (rfl : l_94.toInt = l_94.toInt) (rfl : r_104.toInt = r_104.toInt) c_130
                              obtain ⟨n_131, en_131⟩ : ∃ y : Int32, y = l_93 + 1 := ⟨_, rfl⟩
                              have tn_131 : n_131.toInt = l_93.toInt + 1 := i_add en_131 (rfl : l_93.toInt = l_93.toInt) (by decide : (1 : Int32).toInt = 1) (by omega) (by omega)
                              refine lv_iinc (v := n_131) (lv' := [(10, .int n_131), (11, .int r_104), (9, .int l_53), (8, .int l_96), (7, .int l_95), (6, .int l_94), (5, .int 1), (0, .ref (hs 0)), (1, .int i), (2, .int all), (3, .int ck), (4, .int what)]) hx hb dX9_ahead_133 hl (k := 1) rfl (by rw [en_131]; rfl) (by decide) rfl (fun ls hl => ?_)
                              refine lv_goto (tgt := 87) hx hb dX9_ahead_136 (by decide) ?_
                              exact ih87_100 zcaps_110 zcomes_114 zholder_113 zloose_117 zpcaps_115 zpheft_112 zreached_118 zrletters_108 zroom_116 zrstack_109 zversions_111 n_131 l_94 l_95 l_96 zpacking_loads_106 zpacking_looseCount_107 zpacking_quicker_105 p_122 p_125 p_124 p_128 p_126 p_123 p_129 p_127 (by omega) (by omega) (by omega) (by omega) (by omega) _ _ _ hP hD hS (lv_sub hl [0, 2, 3, 4, 5, 6, 7, 8, 9, 10, 11] rfl)
                            · have gc_130 : r_104.toInt < l_94.toInt := i_nle (rfl : l_94.toInt = l_94.toInt) (rfl : r_104.toInt = r_104.toInt) c_130
                              refine lv_iload hx hb dX9_ahead_121 (lv_at hl 0 rfl) ?_
                              refine lv_istore (lv' := [(6, .int r_104), (11, .int r_104), (10, .int l_93), (9, .int l_53), (8, .int l_96), (7, .int l_95), (5, .int 1), (0, .ref (hs 0)), (1, .int i), (2, .int all), (3, .int ck), (4, .int what)]) hx hb dX9_ahead_123 hl (by decide) rfl (fun ls hl => ?_)
                              refine lv_iload hx hb dX9_ahead_125 (lv_at hl 3 rfl) ?_
                              refine lv_istore (lv' := [(7, .int l_53), (6, .int r_104), (11, .int r_104), (10, .int l_93), (9, .int l_53), (8, .int l_96), (5, .int 1), (0, .ref (hs 0)), (1, .int i), (2, .int all), (3, .int ck), (4, .int what)]) hx hb dX9_ahead_127 hl (by decide) rfl (fun ls hl => ?_)
                              refine lv_iload hx hb dX9_ahead_129 (lv_at hl 3 rfl) ?_
                              refine lv_istore (lv' := [(8, .int l_93), (7, .int l_53), (6, .int r_104), (11, .int r_104), (10, .int l_93), (9, .int l_53), (5, .int 1), (0, .ref (hs 0)), (1, .int i), (2, .int all), (3, .int ck), (4, .int what)]) hx hb dX9_ahead_131 hl (by decide) rfl (fun ls hl => ?_)
                              obtain ⟨n_132, en_132⟩ : ∃ y : Int32, y = l_93 + 1 := ⟨_, rfl⟩
                              have tn_132 : n_132.toInt = l_93.toInt + 1 := i_add en_132 (rfl : l_93.toInt = l_93.toInt) (by decide : (1 : Int32).toInt = 1) (by omega) (by omega)
                              refine lv_iinc (v := n_132) (lv' := [(10, .int n_132), (8, .int l_93), (7, .int l_53), (6, .int r_104), (11, .int r_104), (9, .int l_53), (5, .int 1), (0, .ref (hs 0)), (1, .int i), (2, .int all), (3, .int ck), (4, .int what)]) hx hb dX9_ahead_133 hl (k := 4) rfl (by rw [en_132]; rfl) (by decide) rfl (fun ls hl => ?_)
                              refine lv_goto (tgt := 87) hx hb dX9_ahead_136 (by decide) ?_
                              exact ih87_100 zcaps_110 zcomes_114 zholder_113 zloose_117 zpcaps_115 zpheft_112 zreached_118 zrletters_108 zroom_116 zrstack_109 zversions_111 n_132 r_104 l_53 l_93 zpacking_loads_106 zpacking_looseCount_107 zpacking_quicker_105 p_122 p_125 p_124 p_128 p_126 p_123 p_129 p_127 (by omega) (by omega) (by omega) (by omega) (by omega) _ _ _ hP hD hS (lv_sub hl [0, 5, 1, 2, 3, 6, 7, 8, 9, 10, 11] rfl)
                      exact L87_100 8589934592 f_39 f_40 f_41 f_42 f_43 f_44 f_45 f_46 f_47 f_48 f_49 n_63 l_50 l_51 l_52 w_54 w_55 w_56 hL69_57_0 hL69_57_1 hL69_57_2 hL69_57_3 hL69_57_4 hL69_57_5 hL69_57_6 hL69_57_7 (by omega) (by omega) (by omega) (by omega) (by omega) _ _ _ hP hD hS (lv_sub hl [0, 1, 2, 3, 4, 5, 6, 7, 8, 9, 10] rfl)
                have k_133 : (1000000000 : Int32).toInt = 1000000000 := by decide
                have k_134 : ((-1) : Int32).toInt = (-1) := by decide
                have k_135 : ((-1) : Int32).toInt = (-1) := by decide
                have k_136 : (0 : Int32).toInt = 0 := by decide
                exact L69_57 8589934592 f_caps f_comes f_holder f_loose f_pcaps f_pheft f_reached f_rletters f_room f_rstack f_versions 1000000000 (-1) (-1) 0 v_packing_loads v_packing_looseCount v_packing_quicker hr_caps hr_comes hr_holder hr_loose hr_pcaps hr_pheft hr_reached hr_room (by omega) (by omega) (by omega) (by omega) (by omega) _ _ _ hP hD hS (lv_sub hl [0, 1, 2, 3, 4, 5, 6, 7, 8, 9] rfl)
              · have gc_20 : r_17.toInt = 0 := i_eq (rfl : r_17.toInt = r_17.toInt) (by decide : (0 : Int32).toInt = 0) c_20
                refine lv_iconst (v := (-1)) hx hb dX9_ahead_54 (by decide) ?_
                have k_137 : ((-1) : Int32).toInt = (-1) := by decide
                exact hrt (-1) v_packing_quicker v_packing_loads v_packing_looseCount f_rletters f_rstack f_caps f_versions f_pheft f_holder f_comes f_pcaps f_room f_loose f_reached ⟨(by omega), (by omega), (by omega), hr_caps, hr_pheft, hr_holder, hr_comes, hr_pcaps, hr_room, hr_loose, hr_reached⟩ hP hD hS rfl dX9_ahead_55
set_option maxHeartbeats 16000000 in
set_option maxRecDepth 100000 in
theorem c_X9_minutesByStages (l : Launch) (D : va_G) (cy : Nat → ClassId) (hs : Nat → Nat) (hH hT sH sT : Nat) (v_tape_size v_band_walkers v_band_loads v_band_pieces v_rules_clauses v_reader_end v_reader_at v_reader_length v_reader_letter v_reader_fault v_draft_clauses v_paces_version v_packing_quicker v_packing_loads v_packing_looseCount v_marches_told v_marches_changeMinutes v_marches_marching v_marches_gone v_search_known v_search_countHere v_search_countThere v_search_cost v_search_most : Int32) (v_search_found : Int64) (f_bytes f_knee f_weight f_limps f_bheft f_owner f_food f_miles f_slope f_rsteps f_rkind f_ryields f_rholds f_rletters f_rstack f_dsteps f_dkind f_dyields f_dholds f_dletters f_dstack f_caps f_versions f_sharing f_pheft f_prow f_holder f_comes f_pcaps f_room f_loose f_reached f_mrow f_minutesOn f_mtired : Nat → Int32) (f_here f_there : Nat → Int64) (f_statesHere f_statesThere f_listed f_stired f_burdens f_pacesOn f_restedOn f_behindOn f_behindFor f_first f_second : Nat → Int32) (f_plans f_tiredOn : Nat → Nat → Int32) (tS : Nat) (sz : Nat) (i : Int32) (all : Int32) (n1 : Int32) (hb_v_band_walkers : 0 ≤ v_band_walkers.toInt ∧ v_band_walkers.toInt ≤ 6) (hb_v_band_loads : 0 ≤ v_band_loads.toInt ∧ v_band_loads.toInt ≤ 9) (hb_v_rules_clauses : 0 ≤ v_rules_clauses.toInt ∧ v_rules_clauses.toInt ≤ 14) (hr_weight : rg (0) 250 f_weight) (hr_limps : rg (0) 1 f_limps) (hr_bheft : rg (0) 120 f_bheft) (hr_food : rg (0) 20 f_food) (hr_miles : rg (0) 20 f_miles) (hr_caps : rg (-1) 400 f_caps) (hr_sharing : rg (0) 21899 f_sharing) (ha_i : 0 ≤ i.toInt ∧ i.toInt ≤ 9) (ha_all : 0 ≤ all.toInt ∧ all.toInt ≤ 46655) : gMi l yX9_minutesByStages cX9_minutesByStages 8 .int 6 [.ref (hs 0), .int i, .int all, .int n1] D cy (wSP cy hs hH hT sH sT v_tape_size v_band_walkers v_band_loads v_band_pieces v_rules_clauses v_reader_end v_reader_at v_reader_length v_reader_letter v_reader_fault v_draft_clauses v_paces_version v_packing_quicker v_packing_loads v_packing_looseCount v_marches_told v_marches_changeMinutes v_marches_marching v_marches_gone v_search_known v_search_countHere v_search_countThere v_search_cost v_search_most v_search_found f_bytes f_knee f_weight f_limps f_bheft f_owner f_food f_miles f_slope f_rsteps f_rkind f_ryields f_rholds f_rletters f_rstack f_dsteps f_dkind f_dyields f_dholds f_dletters f_dstack f_caps f_versions f_sharing f_pheft f_prow f_holder f_comes f_pcaps f_room f_loose f_reached f_mrow f_minutesOn f_mtired f_here f_there f_statesHere f_statesThere f_listed f_stired f_burdens f_pacesOn f_restedOn f_behindOn f_behindFor f_first f_second f_plans f_tiredOn) (NS tS) sz (fun (r : Int32) (u : (Nat → Int32) × (Nat → Int32) × (Nat → Int32) × (Nat → Int32) × (Nat → Int32)) => (rg (-1) 400 (u.2.2.1)) ∧ (rg (0) 21899 (u.2.2.2.2))) (fun u => wSP cy hs hH hT sH sT v_tape_size v_band_walkers v_band_loads v_band_pieces v_rules_clauses v_reader_end v_reader_at v_reader_length v_reader_letter v_reader_fault v_draft_clauses v_paces_version v_packing_quicker v_packing_loads v_packing_looseCount v_marches_told v_marches_changeMinutes v_marches_marching v_marches_gone v_search_known v_search_countHere v_search_countThere v_search_cost v_search_most v_search_found f_bytes f_knee f_weight f_limps f_bheft f_owner f_food f_miles f_slope f_rsteps f_rkind f_ryields f_rholds (u.1) (u.2.1) f_dsteps f_dkind f_dyields f_dholds f_dletters f_dstack (u.2.2.1) (u.2.2.2.1) (u.2.2.2.2) f_pheft f_prow f_holder f_comes f_pcaps f_room f_loose f_reached f_mrow f_minutesOn f_mtired f_here f_there f_statesHere f_statesThere f_listed f_stired f_burdens f_pacesOn f_restedOn f_behindOn f_behindFor f_first f_second f_plans f_tiredOn) := by
  refine gMi_in (by decide) (Nat.le_of_ble_eq_true rfl) ?_
  intro p e s m args below meth c A ls Q hx hb hml hts hown hsz hP hK hD hN hAe hA hS hl hret
  subst hsz
  have hl : lv_has ls 8 [(0, .ref (hs 0)), (1, .int i), (2, .int all), (3, .int n1)] := hl
  have hrt := fun (r : Int32) (f_rletters' : Nat → Int32) (f_rstack' : Nat → Int32) (f_caps' : Nat → Int32) (f_versions' : Nat → Int32) (f_sharing' : Nat → Int32) (hp : (rg (-1) 400 f_caps') ∧ (rg (0) 21899 f_sharing')) {H : Heap} {locs : List Loc} {pc : Nat} {ls : Array Slot} => hret r (f_rletters', f_rstack', f_caps', f_versions', f_sharing') (H := H) (locs := locs) (pc := pc) (ls := ls) hp
  clear hret
  refine lv_iload_n hx hb dX9_minutesByStages_0 rfl (lv_at hl 3 rfl) ?_
  refine lv_iconst (v := 1) hx hb dX9_minutesByStages_1 (by decide) ?_
  refine lv_icmp_ge (tgt := 8) hx hb dX9_minutesByStages_2 (by decide) (fun c_1 => ?_) (fun c_1 => ?_)
  · have gc_1 : 1 ≤ n1.toInt := i_le (by decide : (1 : Int32).toInt = 1) (rfl : n1.toInt = n1.toInt) c_1
    refine lv_aload_n hx hb dX9_minutesByStages_8 rfl (lv_at hl 0 rfl) ?_
    refine gt_SP_SP_band hx hb hts hown hK hP lwd_19 dX9_minutesByStages_9 ?_
    refine lv_iload_n hx hb dX9_minutesByStages_12 rfl (lv_at hl 1 rfl) ?_
    refine xi hD hS hA (xV (As := [.int i]) (rest := []) hx hb hml hown hts hK hP hD hS hA NS_ok hN hAe hl.1 ⟨Nat.le_refl _, Nat.le_refl _⟩ 3 rfl rfl rfl (c_X0_allHeftAt l D cy hs hH hT sH sT v_tape_size v_band_walkers v_band_loads v_band_pieces v_rules_clauses v_reader_end v_reader_at v_reader_length v_reader_letter v_reader_fault v_draft_clauses v_paces_version v_packing_quicker v_packing_loads v_packing_looseCount v_marches_told v_marches_changeMinutes v_marches_marching v_marches_gone v_search_known v_search_countHere v_search_countThere v_search_cost v_search_most v_search_found f_bytes f_knee f_weight f_limps f_bheft f_owner f_food f_miles f_slope f_rsteps f_rkind f_ryields f_rholds f_rletters f_rstack f_dsteps f_dkind f_dyields f_dholds f_dletters f_dstack f_caps f_versions f_sharing f_pheft f_prow f_holder f_comes f_pcaps f_room f_loose f_reached f_mrow f_minutesOn f_mtired f_here f_there f_statesHere f_statesThere f_listed f_stired f_burdens f_pacesOn f_restedOn f_behindOn f_behindFor f_first f_second f_plans f_tiredOn tS s.heap.size i (by omega) hr_bheft hr_food (by omega)) (gi_V lwd_840 lwd_841 lwd_842 lwd_18 lwd_843) ⟨rfl, hd_X0_allHeftAt⟩ ⟨Nat.le_of_ble_eq_true rfl, Nat.le_of_ble_eq_true rfl⟩ rfl (Nat.le_of_ble_eq_true rfl) dX9_minutesByStages_13) (fun r_3 u_2 H locs hw hP hD hS => ?_)
    try dsimp only at hw hP hD
    clear hw
    refine lv_iload_n hx hb dX9_minutesByStages_16 rfl (lv_at hl 3 rfl) ?_
    refine lv_iadd hx hb dX9_minutesByStages_17 ?_
    refine lv_topi (fun n_4 en_4 => ?_)
    refine lv_iconst (v := 1) hx hb dX9_minutesByStages_18 (by decide) ?_
    refine lv_isub hx hb dX9_minutesByStages_19 ?_
    refine lv_topi (fun n_5 en_5 => ?_)
    refine lv_iload_n hx hb dX9_minutesByStages_20 rfl (lv_at hl 3 rfl) ?_
    refine lv_idiv hx hb dX9_minutesByStages_21 (i_nz (rfl : n1.toInt = n1.toInt) (by omega)) ?_
    refine lv_topi (fun n_6 en_6 => ?_)
    refine lv_istore (lv' := [(4, .int n_6), (0, .ref (hs 0)), (1, .int i), (2, .int all), (3, .int n1)]) hx hb dX9_minutesByStages_22 hl (by decide) rfl (fun ls hl => ?_)
    refine lv_aload_n hx hb dX9_minutesByStages_24 rfl (lv_at hl 1 rfl) ?_
    refine gt_SP_SP_paces hx hb hts hown hK hP lwd_31 dX9_minutesByStages_25 ?_
    refine lv_iload hx hb dX9_minutesByStages_28 (lv_at hl 0 rfl) ?_
    refine lv_iload_n hx hb dX9_minutesByStages_30 rfl (lv_at hl 2 rfl) ?_
    refine lv_iload_n hx hb dX9_minutesByStages_31 rfl (lv_at hl 3 rfl) ?_
    refine xi hD hS hA (xV (As := [.int n_6, .int i, .int all]) (rest := []) hx hb hml hown hts hK hP hD hS hA NS_ok hN hAe hl.1 ⟨Nat.le_refl _, Nat.le_refl _⟩ 27 rfl rfl rfl (c_X3_sharedPace l D cy hs hH hT sH sT v_tape_size v_band_walkers v_band_loads v_band_pieces v_rules_clauses v_reader_end v_reader_at v_reader_length v_reader_letter v_reader_fault v_draft_clauses v_paces_version v_packing_quicker v_packing_loads v_packing_looseCount v_marches_told v_marches_changeMinutes v_marches_marching v_marches_gone v_search_known v_search_countHere v_search_countThere v_search_cost v_search_most v_search_found f_bytes f_knee f_weight f_limps f_bheft f_owner f_food f_miles f_slope f_rsteps f_rkind f_ryields f_rholds f_rletters f_rstack f_dsteps f_dkind f_dyields f_dholds f_dletters f_dstack f_caps f_versions f_sharing f_pheft f_prow f_holder f_comes f_pcaps f_room f_loose f_reached f_mrow f_minutesOn f_mtired f_here f_there f_statesHere f_statesThere f_listed f_stired f_burdens f_pacesOn f_restedOn f_behindOn f_behindFor f_first f_second f_plans f_tiredOn tS H.size n_6 i all (by omega) (by omega) hr_weight hr_limps hr_miles hr_caps hr_sharing (by omega) (by omega)) (gi_V lwd_621 lwd_622 lwd_623 lwd_30 lwd_624) ⟨rfl, hd_X3_sharedPace⟩ ⟨Nat.le_of_ble_eq_true rfl, Nat.le_of_ble_eq_true rfl⟩ rfl (Nat.le_of_ble_eq_true rfl) dX9_minutesByStages_32) (fun r_8 u_7 H locs hw hP hD hS => ?_)
    obtain ⟨zrletters_9, zrstack_10, zcaps_11, zversions_12, zsharing_13⟩ := u_7
    try dsimp only at hw hP hD
    obtain ⟨p_14, p_15, p_16⟩ := hw
    refine lv_istore (lv' := [(5, .int r_8), (4, .int n_6), (0, .ref (hs 0)), (1, .int i), (2, .int all), (3, .int n1)]) hx hb dX9_minutesByStages_35 hl (by decide) rfl (fun ls hl => ?_)
    refine lv_iload hx hb dX9_minutesByStages_37 (lv_at hl 0 rfl) ?_
    refine lv_if_ne (tgt := 45) hx hb dX9_minutesByStages_39 (by decide) (fun c_17 => ?_) (fun c_17 => ?_)
    · have gc_17 : r_8.toInt ≠ 0 := i_ne (rfl : r_8.toInt = r_8.toInt) (by decide : (0 : Int32).toInt = 0) c_17
      refine lv_bipush (v := 60) hx hb dX9_minutesByStages_45 (by decide) ?_
      refine lv_istore (lv' := [(6, .int 60), (5, .int r_8), (4, .int n_6), (0, .ref (hs 0)), (1, .int i), (2, .int all), (3, .int n1)]) hx hb dX9_minutesByStages_47 hl (by decide) rfl (fun ls hl => ?_)
      refine lv_iconst (v := 0) hx hb dX9_minutesByStages_49 (by decide) ?_
      refine lv_istore (lv' := [(7, .int 0), (6, .int 60), (5, .int r_8), (4, .int n_6), (0, .ref (hs 0)), (1, .int i), (2, .int all), (3, .int n1)]) hx hb dX9_minutesByStages_50 hl (by decide) rfl (fun ls hl => ?_)
      have L52_26 : ∀ (n : Nat) (f_22 : Nat → Int32) (f_23 : Nat → Int32) (l_24 : Int32) (l_25 : Int32), (0 ≤ l_24.toInt ∧ l_24.toInt ≤ 60) → (0 ≤ l_25.toInt ∧ l_25.toInt ≤ 6) → 7 - l_25.toInt < n → ∀ (H : Heap) (locs : List Loc) (ls : Array Slot), va_P D vwCl (wSP cy hs hH hT sH sT v_tape_size v_band_walkers v_band_loads v_band_pieces v_rules_clauses v_reader_end v_reader_at v_reader_length v_reader_letter v_reader_fault v_draft_clauses v_paces_version v_packing_quicker v_packing_loads v_packing_looseCount v_marches_told v_marches_changeMinutes v_marches_marching v_marches_gone v_search_known v_search_countHere v_search_countThere v_search_cost v_search_most v_search_found f_bytes f_knee f_weight f_limps f_bheft f_owner f_food f_miles f_slope f_rsteps f_rkind f_ryields f_rholds f_22 f_23 f_dsteps f_dkind f_dyields f_dholds f_dletters f_dstack zcaps_11 zversions_12 zsharing_13 f_pheft f_prow f_holder f_comes f_pcaps f_room f_loose f_reached f_mrow f_minutesOn f_mtired f_here f_there f_statesHere f_statesThere f_listed f_stired f_burdens f_pacesOn f_restedOn f_behindOn f_behindFor f_first f_second f_plans f_tiredOn) H → va_D A (wSP cy hs hH hT sH sT v_tape_size v_band_walkers v_band_loads v_band_pieces v_rules_clauses v_reader_end v_reader_at v_reader_length v_reader_letter v_reader_fault v_draft_clauses v_paces_version v_packing_quicker v_packing_loads v_packing_looseCount v_marches_told v_marches_changeMinutes v_marches_marching v_marches_gone v_search_known v_search_countHere v_search_countThere v_search_cost v_search_most v_search_found f_bytes f_knee f_weight f_limps f_bheft f_owner f_food f_miles f_slope f_rsteps f_rkind f_ryields f_rholds f_22 f_23 f_dsteps f_dkind f_dyields f_dholds f_dletters f_dstack zcaps_11 zversions_12 zsharing_13 f_pheft f_prow f_holder f_comes f_pcaps f_room f_loose f_reached f_mrow f_minutesOn f_mtired f_here f_there f_statesHere f_statesThere f_listed f_stired f_burdens f_pacesOn f_restedOn f_behindOn f_behindFor f_first f_second f_plans f_tiredOn) → va_S A s.heap H locs → lv_has ls 8 [(7, .int l_25), (6, .int l_24), (5, .int r_8), (4, .int n_6), (0, .ref (hs 0)), (1, .int i), (2, .int all), (3, .int n1)] → W p l e (gRm 6) s m args below meth c H locs 0 0 Q (F0 m 52 ls []) := by
        intro n
        induction n with
        | zero => intro f_22 f_23 l_24 l_25 hL52_26_0 hL52_26_1 hm; exact absurd hm (by omega)
        | succ n ih52_26 =>
          intro f_22 f_23 l_24 l_25 hL52_26_0 hL52_26_1 hmL52_26 H locs ls hP hD hS hl
          refine lv_iload hx hb dX9_minutesByStages_52 (lv_at hl 0 rfl) ?_
          refine lv_aload_n hx hb dX9_minutesByStages_54 rfl (lv_at hl 4 rfl) ?_
          refine gt_SP_SP_band hx hb hts hown hK hP lwd_19 dX9_minutesByStages_55 ?_
          refine gt_SP_band_walkers hx hb hts hown hK hP lwd_206 dX9_minutesByStages_58 ?_
          refine lv_icmp_ge (tgt := 94) hx hb dX9_minutesByStages_61 (by decide) (fun c_27 => ?_) (fun c_27 => ?_)
          · have gc_27 : v_band_walkers.toInt ≤ l_25.toInt := i_le (rfl : v_band_walkers.toInt = v_band_walkers.toInt) (rfl : l_25.toInt = l_25.toInt) c_27
            refine lv_iload_n hx hb dX9_minutesByStages_94 rfl (lv_at hl 7 rfl) ?_
            refine lv_aload_n hx hb dX9_minutesByStages_95 rfl (lv_at hl 4 rfl) ?_
            refine gt_SP_SP_band hx hb hts hown hK hP lwd_19 dX9_minutesByStages_96 ?_
            refine lv_iload_n hx hb dX9_minutesByStages_99 rfl (lv_at hl 5 rfl) ?_
            refine lv_iload hx hb dX9_minutesByStages_100 (lv_at hl 2 rfl) ?_
            refine xi hD hS hA (xV (As := [.int i, .int r_8]) (rest := [.int n1]) hx hb hml hown hts hK hP hD hS hA NS_ok hN hAe hl.1 ⟨Nat.le_refl _, Nat.le_refl _⟩ 3 rfl rfl rfl (c_X0_minutes l D cy hs hH hT sH sT v_tape_size v_band_walkers v_band_loads v_band_pieces v_rules_clauses v_reader_end v_reader_at v_reader_length v_reader_letter v_reader_fault v_draft_clauses v_paces_version v_packing_quicker v_packing_loads v_packing_looseCount v_marches_told v_marches_changeMinutes v_marches_marching v_marches_gone v_search_known v_search_countHere v_search_countThere v_search_cost v_search_most v_search_found f_bytes f_knee f_weight f_limps f_bheft f_owner f_food f_miles f_slope f_rsteps f_rkind f_ryields f_rholds f_22 f_23 f_dsteps f_dkind f_dyields f_dholds f_dletters f_dstack zcaps_11 zversions_12 zsharing_13 f_pheft f_prow f_holder f_comes f_pcaps f_room f_loose f_reached f_mrow f_minutesOn f_mtired f_here f_there f_statesHere f_statesThere f_listed f_stired f_burdens f_pacesOn f_restedOn f_behindOn f_behindFor f_first f_second f_plans f_tiredOn tS H.size i r_8 hr_miles (by omega)) (gi_V lwd_634 lwd_635 lwd_636 lwd_18 lwd_637) ⟨rfl, hd_X0_minutes⟩ ⟨Nat.le_of_ble_eq_true rfl, Nat.le_of_ble_eq_true rfl⟩ rfl (Nat.le_of_ble_eq_true rfl) dX9_minutesByStages_102) (fun r_29 u_28 H locs hw hP hD hS => ?_)
            try dsimp only at hw hP hD
            clear hw
            refine lv_imul hx hb dX9_minutesByStages_105 ?_
            refine lv_topi (fun n_30 en_30 => ?_)
            refine lv_iload_n hx hb dX9_minutesByStages_106 rfl (lv_at hl 7 rfl) ?_
            refine lv_iconst (v := 1) hx hb dX9_minutesByStages_107 (by decide) ?_
            refine lv_isub hx hb dX9_minutesByStages_108 ?_
            have hb_31 := And.intro (i_bot n1) (i_top n1)
            refine lv_topi (fun n_32 en_32 => ?_)
            have tn_32 : n_32.toInt = n1.toInt - 1 := i_sub en_32 (rfl : n1.toInt = n1.toInt) (by decide : (1 : Int32).toInt = 1) (by omega) (by omega)
            refine lv_aload_n hx hb dX9_minutesByStages_109 rfl (lv_at hl 4 rfl) ?_
            refine gt_SP_SP_band hx hb hts hown hK hP lwd_19 dX9_minutesByStages_110 ?_
            refine lv_iload_n hx hb dX9_minutesByStages_113 rfl (lv_at hl 5 rfl) ?_
            refine lv_iload hx hb dX9_minutesByStages_114 (lv_at hl 1 rfl) ?_
            refine xi hD hS hA (xV (As := [.int i, .int l_24]) (rest := [.int n_32, .int n_30]) hx hb hml hown hts hK hP hD hS hA NS_ok hN hAe hl.1 ⟨Nat.le_refl _, Nat.le_refl _⟩ 3 rfl rfl rfl (c_X0_minutes l D cy hs hH hT sH sT v_tape_size v_band_walkers v_band_loads v_band_pieces v_rules_clauses v_reader_end v_reader_at v_reader_length v_reader_letter v_reader_fault v_draft_clauses v_paces_version v_packing_quicker v_packing_loads v_packing_looseCount v_marches_told v_marches_changeMinutes v_marches_marching v_marches_gone v_search_known v_search_countHere v_search_countThere v_search_cost v_search_most v_search_found f_bytes f_knee f_weight f_limps f_bheft f_owner f_food f_miles f_slope f_rsteps f_rkind f_ryields f_rholds f_22 f_23 f_dsteps f_dkind f_dyields f_dholds f_dletters f_dstack zcaps_11 zversions_12 zsharing_13 f_pheft f_prow f_holder f_comes f_pcaps f_room f_loose f_reached f_mrow f_minutesOn f_mtired f_here f_there f_statesHere f_statesThere f_listed f_stired f_burdens f_pacesOn f_restedOn f_behindOn f_behindFor f_first f_second f_plans f_tiredOn tS H.size i l_24 hr_miles (by omega)) (gi_V lwd_634 lwd_635 lwd_636 lwd_18 lwd_637) ⟨rfl, hd_X0_minutes⟩ ⟨Nat.le_of_ble_eq_true rfl, Nat.le_of_ble_eq_true rfl⟩ rfl (Nat.le_of_ble_eq_true rfl) dX9_minutesByStages_116) (fun r_34 u_33 H locs hw hP hD hS => ?_)
            try dsimp only at hw hP hD
            clear hw
            refine lv_imul hx hb dX9_minutesByStages_119 ?_
            refine lv_topi (fun n_35 en_35 => ?_)
            refine lv_iadd hx hb dX9_minutesByStages_120 ?_
            refine lv_topi (fun n_36 en_36 => ?_)
            exact hrt n_36 f_22 f_23 zcaps_11 zversions_12 zsharing_13 ⟨p_15, p_16⟩ hP hD hS rfl dX9_minutesByStages_121
          · have gc_27 : l_25.toInt < v_band_walkers.toInt := i_nle (rfl : v_band_walkers.toInt = v_band_walkers.toInt) (rfl : l_25.toInt = l_25.toInt) c_27
            refine lv_iload hx hb dX9_minutesByStages_64 (lv_at hl 1 rfl) ?_
            refine lv_aload_n hx hb dX9_minutesByStages_66 rfl (lv_at hl 4 rfl) ?_
            refine gt_SP_SP_paces hx hb hts hown hK hP lwd_31 dX9_minutesByStages_67 ?_
            refine lv_iload hx hb dX9_minutesByStages_70 (lv_at hl 0 rfl) ?_
            refine lv_iconst (v := 0) hx hb dX9_minutesByStages_72 (by decide) ?_
            refine lv_iload_n hx hb dX9_minutesByStages_73 rfl (lv_at hl 6 rfl) ?_
            refine lv_iload hx hb dX9_minutesByStages_74 (lv_at hl 0 rfl) ?_
            refine xi hD hS hA (xS (As := [.int all, .int l_25]) (rest := [.int 0, .int l_25, .ref (hs 27), .int l_24]) hx hb hml hown hts hK hP hD hS hA NS_ok hN hAe hl.1 ⟨Nat.le_refl _, Nat.le_refl _⟩ (c_X9_digit l D cy hs hH hT sH sT v_tape_size v_band_walkers v_band_loads v_band_pieces v_rules_clauses v_reader_end v_reader_at v_reader_length v_reader_letter v_reader_fault v_draft_clauses v_paces_version v_packing_quicker v_packing_loads v_packing_looseCount v_marches_told v_marches_changeMinutes v_marches_marching v_marches_gone v_search_known v_search_countHere v_search_countThere v_search_cost v_search_most v_search_found f_bytes f_knee f_weight f_limps f_bheft f_owner f_food f_miles f_slope f_rsteps f_rkind f_ryields f_rholds f_22 f_23 f_dsteps f_dkind f_dyields f_dholds f_dletters f_dstack zcaps_11 zversions_12 zsharing_13 f_pheft f_prow f_holder f_comes f_pcaps f_room f_loose f_reached f_mrow f_minutesOn f_mtired f_here f_there f_statesHere f_statesThere f_listed f_stired f_burdens f_pacesOn f_restedOn f_behindOn f_behindFor f_first f_second f_plans f_tiredOn tS H.size all l_25 (by omega) (by omega)) (gi_S lwd_817 lwd_625 lwd_2 lwd_626) hd_X9_digit ⟨Nat.le_of_ble_eq_true rfl, Nat.le_of_ble_eq_true rfl⟩ rfl (Nat.le_of_ble_eq_true rfl) dX9_minutesByStages_76) (fun r_38 u_37 H locs hw hP hD hS => ?_)
            try dsimp only at hw hP hD
            have p_39 := hw
            clear hw
            refine lv_iload_n hx hb dX9_minutesByStages_79 rfl (lv_at hl 5 rfl) ?_
            have k_40 : (0 : Int32).toInt = 0 := by decide
            refine xi hD hS hA (xV (As := [.int l_25, .int 0, .int r_38, .int i]) (rest := [.int l_24]) hx hb hml hown hts hK hP hD hS hA NS_ok hN hAe hl.1 ⟨Nat.le_refl _, Nat.le_refl _⟩ 27 rfl rfl rfl (c_X3_paceOf l D cy hs hH hT sH sT v_tape_size v_band_walkers v_band_loads v_band_pieces v_rules_clauses v_reader_end v_reader_at v_reader_length v_reader_letter v_reader_fault v_draft_clauses v_paces_version v_packing_quicker v_packing_loads v_packing_looseCount v_marches_told v_marches_changeMinutes v_marches_marching v_marches_gone v_search_known v_search_countHere v_search_countThere v_search_cost v_search_most v_search_found f_bytes f_knee f_weight f_limps f_bheft f_owner f_food f_miles f_slope f_rsteps f_rkind f_ryields f_rholds f_22 f_23 f_dsteps f_dkind f_dyields f_dholds f_dletters f_dstack zcaps_11 zversions_12 zsharing_13 f_pheft f_prow f_holder f_comes f_pcaps f_room f_loose f_reached f_mrow f_minutesOn f_mtired f_here f_there f_statesHere f_statesThere f_listed f_stired f_burdens f_pacesOn f_restedOn f_behindOn f_behindFor f_first f_second f_plans f_tiredOn tS H.size l_25 0 r_38 i (by omega) (by omega) hr_weight hr_limps hr_miles (by omega) (by omega)) (gi_V lwd_509 lwd_510 lwd_511 lwd_30 lwd_512) ⟨rfl, hd_X3_paceOf⟩ ⟨Nat.le_of_ble_eq_true rfl, Nat.le_of_ble_eq_true rfl⟩ rfl (Nat.le_of_ble_eq_true rfl) dX9_minutesByStages_80) (fun r_42 u_41 H locs hw hP hD hS => ?_)
            obtain ⟨zrletters_43, zrstack_44⟩ := u_41
            try dsimp only at hw hP hD
            have p_45 := hw
            clear hw
            refine va_mmin hx hb (by rw [hml]; exact hl.1.symm) hown (hts _ lwd_815) (hts _ lwd_528) (hts _ lwd_529) (hts _ lwd_530) (Nat.le_of_ble_eq_true rfl) (Nat.le_of_ble_eq_true rfl) (Nat.zero_le _) (Nat.zero_le _) dX9_minutesByStages_83 ?_
            refine lv_topi (fun n_46 en_46 => ?_)
            have tn_46 := i_min en_46 (rfl : l_24.toInt = l_24.toInt) (rfl : r_42.toInt = r_42.toInt)
            refine lv_istore (lv' := [(6, .int n_46), (7, .int l_25), (5, .int r_8), (4, .int n_6), (0, .ref (hs 0)), (1, .int i), (2, .int all), (3, .int n1)]) hx hb dX9_minutesByStages_86 hl (by decide) rfl (fun ls hl => ?_)
            obtain ⟨n_47, en_47⟩ : ∃ y : Int32, y = l_25 + 1 := ⟨_, rfl⟩
            have tn_47 : n_47.toInt = l_25.toInt + 1 := i_add en_47 (rfl : l_25.toInt = l_25.toInt) (by decide : (1 : Int32).toInt = 1) (by omega) (by omega)
            refine lv_iinc (v := n_47) (lv' := [(7, .int n_47), (6, .int n_46), (5, .int r_8), (4, .int n_6), (0, .ref (hs 0)), (1, .int i), (2, .int all), (3, .int n1)]) hx hb dX9_minutesByStages_88 hl (k := 1) rfl (by rw [en_47]; rfl) (by decide) rfl (fun ls hl => ?_)
            refine lv_goto (tgt := 52) hx hb dX9_minutesByStages_91 (by decide) ?_
            exact ih52_26 zrletters_43 zrstack_44 n_46 n_47 (by omega) (by omega) (by omega) _ _ _ hP hD hS (lv_sub hl [0, 1, 2, 3, 4, 5, 6, 7] rfl)
      have k_48 : (60 : Int32).toInt = 60 := by decide
      have k_49 : (0 : Int32).toInt = 0 := by decide
      exact L52_26 8589934592 zrletters_9 zrstack_10 60 0 (by omega) (by omega) (by omega) _ _ _ hP hD hS (lv_sub hl [0, 1, 2, 3, 4, 5, 6, 7] rfl)
    · have gc_17 : r_8.toInt = 0 := i_eq (rfl : r_8.toInt = r_8.toInt) (by decide : (0 : Int32).toInt = 0) c_17
      refine lv_ldc hx hb hown (hts _ lwd_778) dX9_minutesByStages_42 ?_
      have k_50 : (1000000000 : Int32).toInt = 1000000000 := by decide
      exact hrt 1000000000 zrletters_9 zrstack_10 zcaps_11 zversions_12 zsharing_13 ⟨p_15, p_16⟩ hP hD hS rfl dX9_minutesByStages_44
  · have gc_1 : n1.toInt < 1 := i_nle (by decide : (1 : Int32).toInt = 1) (rfl : n1.toInt = n1.toInt) c_1
    refine lv_ldc hx hb hown (hts _ lwd_778) dX9_minutesByStages_5 ?_
    have k_51 : (1000000000 : Int32).toInt = 1000000000 := by decide
    exact hrt 1000000000 f_rletters f_rstack f_caps f_versions f_sharing ⟨hr_caps, hr_sharing⟩ hP hD hS rfl dX9_minutesByStages_7
set_option maxHeartbeats 16000000 in
set_option maxRecDepth 100000 in
theorem c_X9_stages (l : Launch) (D : va_G) (cy : Nat → ClassId) (hs : Nat → Nat) (hH hT sH sT : Nat) (v_tape_size v_band_walkers v_band_loads v_band_pieces v_rules_clauses v_reader_end v_reader_at v_reader_length v_reader_letter v_reader_fault v_draft_clauses v_paces_version v_packing_quicker v_packing_loads v_packing_looseCount v_marches_told v_marches_changeMinutes v_marches_marching v_marches_gone v_search_known v_search_countHere v_search_countThere v_search_cost v_search_most : Int32) (v_search_found : Int64) (f_bytes f_knee f_weight f_limps f_bheft f_owner f_food f_miles f_slope f_rsteps f_rkind f_ryields f_rholds f_rletters f_rstack f_dsteps f_dkind f_dyields f_dholds f_dletters f_dstack f_caps f_versions f_sharing f_pheft f_prow f_holder f_comes f_pcaps f_room f_loose f_reached f_mrow f_minutesOn f_mtired : Nat → Int32) (f_here f_there : Nat → Int64) (f_statesHere f_statesThere f_listed f_stired f_burdens f_pacesOn f_restedOn f_behindOn f_behindFor f_first f_second : Nat → Int32) (f_plans f_tiredOn : Nat → Nat → Int32) (tS : Nat) (sz : Nat) (i : Int32) (all : Int32) (n1 : Int32) (hb_v_band_walkers : 0 ≤ v_band_walkers.toInt ∧ v_band_walkers.toInt ≤ 6) (hb_v_band_loads : 0 ≤ v_band_loads.toInt ∧ v_band_loads.toInt ≤ 9) (hb_v_band_pieces : 0 ≤ v_band_pieces.toInt ∧ v_band_pieces.toInt ≤ 10) (hb_v_rules_clauses : 0 ≤ v_rules_clauses.toInt ∧ v_rules_clauses.toInt ≤ 14) (hr_weight : rg (0) 250 f_weight) (hr_limps : rg (0) 1 f_limps) (hr_bheft : rg (0) 120 f_bheft) (hr_food : rg (0) 20 f_food) (hr_miles : rg (0) 20 f_miles) (hr_caps : rg (-1) 400 f_caps) (hr_sharing : rg (0) 21899 f_sharing) : gMi l yX9_stages cX9_stages 5 .int 7 [.ref (hs 0), .int i, .int all, .int n1] D cy (wSP cy hs hH hT sH sT v_tape_size v_band_walkers v_band_loads v_band_pieces v_rules_clauses v_reader_end v_reader_at v_reader_length v_reader_letter v_reader_fault v_draft_clauses v_paces_version v_packing_quicker v_packing_loads v_packing_looseCount v_marches_told v_marches_changeMinutes v_marches_marching v_marches_gone v_search_known v_search_countHere v_search_countThere v_search_cost v_search_most v_search_found f_bytes f_knee f_weight f_limps f_bheft f_owner f_food f_miles f_slope f_rsteps f_rkind f_ryields f_rholds f_rletters f_rstack f_dsteps f_dkind f_dyields f_dholds f_dletters f_dstack f_caps f_versions f_sharing f_pheft f_prow f_holder f_comes f_pcaps f_room f_loose f_reached f_mrow f_minutesOn f_mtired f_here f_there f_statesHere f_statesThere f_listed f_stired f_burdens f_pacesOn f_restedOn f_behindOn f_behindFor f_first f_second f_plans f_tiredOn) (NS tS) sz (fun (r : Int32) (u : (Nat → Int32) × (Nat → Int32) × (Nat → Int32) × (Nat → Int32) × (Nat → Int32)) => (rg (-1) 400 (u.2.2.1)) ∧ (rg (0) 21899 (u.2.2.2.2))) (fun u => wSP cy hs hH hT sH sT v_tape_size v_band_walkers v_band_loads v_band_pieces v_rules_clauses v_reader_end v_reader_at v_reader_length v_reader_letter v_reader_fault v_draft_clauses v_paces_version v_packing_quicker v_packing_loads v_packing_looseCount v_marches_told v_marches_changeMinutes v_marches_marching v_marches_gone v_search_known v_search_countHere v_search_countThere v_search_cost v_search_most v_search_found f_bytes f_knee f_weight f_limps f_bheft f_owner f_food f_miles f_slope f_rsteps f_rkind f_ryields f_rholds (u.1) (u.2.1) f_dsteps f_dkind f_dyields f_dholds f_dletters f_dstack (u.2.2.1) (u.2.2.2.1) (u.2.2.2.2) f_pheft f_prow f_holder f_comes f_pcaps f_room f_loose f_reached f_mrow f_minutesOn f_mtired f_here f_there f_statesHere f_statesThere f_listed f_stired f_burdens f_pacesOn f_restedOn f_behindOn f_behindFor f_first f_second f_plans f_tiredOn) := by
  refine gMi_in (by decide) (Nat.le_of_ble_eq_true rfl) ?_
  intro p e s m args below meth c A ls Q hx hb hml hts hown hsz hP hK hD hN hAe hA hS hl hret
  subst hsz
  have hl : lv_has ls 5 [(0, .ref (hs 0)), (1, .int i), (2, .int all), (3, .int n1)] := hl
  have hrt := fun (r : Int32) (f_rletters' : Nat → Int32) (f_rstack' : Nat → Int32) (f_caps' : Nat → Int32) (f_versions' : Nat → Int32) (f_sharing' : Nat → Int32) (hp : (rg (-1) 400 f_caps') ∧ (rg (0) 21899 f_sharing')) {H : Heap} {locs : List Loc} {pc : Nat} {ls : Array Slot} => hret r (f_rletters', f_rstack', f_caps', f_versions', f_sharing') (H := H) (locs := locs) (pc := pc) (ls := ls) hp
  clear hret
  refine lv_iload_n hx hb dX9_stages_0 rfl (lv_at hl 3 rfl) ?_
  refine lv_iconst (v := 1) hx hb dX9_stages_1 (by decide) ?_
  refine lv_icmp_lt (tgt := 19) hx hb dX9_stages_2 (by decide) (fun c_1 => ?_) (fun c_1 => ?_)
  · have gc_1 : n1.toInt < 1 := i_lt (rfl : n1.toInt = n1.toInt) (by decide : (1 : Int32).toInt = 1) c_1
    refine lv_iconst (v := (-1)) hx hb dX9_stages_19 (by decide) ?_
    have k_2 : ((-1) : Int32).toInt = (-1) := by decide
    exact hrt (-1) f_rletters f_rstack f_caps f_versions f_sharing ⟨hr_caps, hr_sharing⟩ hP hD hS rfl dX9_stages_20
  · have gc_1 : 1 ≤ n1.toInt := i_nlt (rfl : n1.toInt = n1.toInt) (by decide : (1 : Int32).toInt = 1) c_1
    refine lv_iload_n hx hb dX9_stages_5 rfl (lv_at hl 3 rfl) ?_
    refine lv_iconst (v := 5) hx hb dX9_stages_6 (by decide) ?_
    refine lv_icmp_gt (tgt := 19) hx hb dX9_stages_7 (by decide) (fun c_3 => ?_) (fun c_3 => ?_)
    · have gc_3 : 5 < n1.toInt := i_lt (by decide : (5 : Int32).toInt = 5) (rfl : n1.toInt = n1.toInt) c_3
      refine lv_iconst (v := (-1)) hx hb dX9_stages_19 (by decide) ?_
      have k_4 : ((-1) : Int32).toInt = (-1) := by decide
      exact hrt (-1) f_rletters f_rstack f_caps f_versions f_sharing ⟨hr_caps, hr_sharing⟩ hP hD hS rfl dX9_stages_20
    · have gc_3 : n1.toInt ≤ 5 := i_nlt (by decide : (5 : Int32).toInt = 5) (rfl : n1.toInt = n1.toInt) c_3
      refine lv_aload_n hx hb dX9_stages_10 rfl (lv_at hl 0 rfl) ?_
      refine lv_iload_n hx hb dX9_stages_11 rfl (lv_at hl 1 rfl) ?_
      refine lv_iload_n hx hb dX9_stages_12 rfl (lv_at hl 2 rfl) ?_
      refine xi hD hS hA (xV (As := [.int i, .int all]) (rest := []) hx hb hml hown hts hK hP hD hS hA NS_ok hN hAe hl.1 ⟨Nat.le_refl _, Nat.le_refl _⟩ 0 rfl rfl rfl (c_X9_standsOn l D cy hs hH hT sH sT v_tape_size v_band_walkers v_band_loads v_band_pieces v_rules_clauses v_reader_end v_reader_at v_reader_length v_reader_letter v_reader_fault v_draft_clauses v_paces_version v_packing_quicker v_packing_loads v_packing_looseCount v_marches_told v_marches_changeMinutes v_marches_marching v_marches_gone v_search_known v_search_countHere v_search_countThere v_search_cost v_search_most v_search_found f_bytes f_knee f_weight f_limps f_bheft f_owner f_food f_miles f_slope f_rsteps f_rkind f_ryields f_rholds f_rletters f_rstack f_dsteps f_dkind f_dyields f_dholds f_dletters f_dstack f_caps f_versions f_sharing f_pheft f_prow f_holder f_comes f_pcaps f_room f_loose f_reached f_mrow f_minutesOn f_mtired f_here f_there f_statesHere f_statesThere f_listed f_stired f_burdens f_pacesOn f_restedOn f_behindOn f_behindFor f_first f_second f_plans f_tiredOn tS s.heap.size i all (by omega) (by omega)) (gi_V lwd_616 lwd_617 lwd_618 lwd_2 lwd_619) ⟨rfl, hd_X9_standsOn⟩ ⟨Nat.le_of_ble_eq_true rfl, Nat.le_of_ble_eq_true rfl⟩ rfl (Nat.le_of_ble_eq_true rfl) dX9_stages_13) (fun r_6 u_5 H locs hw hP hD hS => ?_)
      try dsimp only at hw hP hD
      obtain ⟨p_7, p_8⟩ := hw
      refine lv_if_ne (tgt := 21) hx hb dX9_stages_16 (by decide) (fun c_9 => ?_) (fun c_9 => ?_)
      · have gc_9 : r_6.toInt ≠ 0 := i_ne (rfl : r_6.toInt = r_6.toInt) (by decide : (0 : Int32).toInt = 0) c_9
        refine lv_aload_n hx hb dX9_stages_21 rfl (lv_at hl 0 rfl) ?_
        refine lv_iload_n hx hb dX9_stages_22 rfl (lv_at hl 1 rfl) ?_
        refine lv_iload_n hx hb dX9_stages_23 rfl (lv_at hl 2 rfl) ?_
        refine lv_iload_n hx hb dX9_stages_24 rfl (lv_at hl 3 rfl) ?_
        refine xi hD hS hA (xV (As := [.int i, .int all, .int n1]) (rest := []) hx hb hml hown hts hK hP hD hS hA NS_ok hN hAe hl.1 ⟨Nat.le_refl _, Nat.le_refl _⟩ 0 rfl rfl rfl (c_X9_minutesByStages l D cy hs hH hT sH sT v_tape_size v_band_walkers v_band_loads v_band_pieces v_rules_clauses v_reader_end v_reader_at v_reader_length v_reader_letter v_reader_fault v_draft_clauses v_paces_version v_packing_quicker v_packing_loads v_packing_looseCount v_marches_told v_marches_changeMinutes v_marches_marching v_marches_gone v_search_known v_search_countHere v_search_countThere v_search_cost v_search_most v_search_found f_bytes f_knee f_weight f_limps f_bheft f_owner f_food f_miles f_slope f_rsteps f_rkind f_ryields f_rholds f_rletters f_rstack f_dsteps f_dkind f_dyields f_dholds f_dletters f_dstack f_caps f_versions f_sharing f_pheft f_prow f_holder f_comes f_pcaps f_room f_loose f_reached f_mrow f_minutesOn f_mtired f_here f_there f_statesHere f_statesThere f_listed f_stired f_burdens f_pacesOn f_restedOn f_behindOn f_behindFor f_first f_second f_plans f_tiredOn tS H.size i all n1 (by omega) (by omega) (by omega) hr_weight hr_limps hr_bheft hr_food hr_miles hr_caps hr_sharing (by omega) (by omega)) (gi_V lwd_836 lwd_837 lwd_838 lwd_2 lwd_839) ⟨rfl, hd_X9_minutesByStages⟩ ⟨Nat.le_of_ble_eq_true rfl, Nat.le_of_ble_eq_true rfl⟩ rfl (Nat.le_of_ble_eq_true rfl) dX9_stages_25) (fun r_11 u_10 H locs hw hP hD hS => ?_)
        obtain ⟨zrletters_12, zrstack_13, zcaps_14, zversions_15, zsharing_16⟩ := u_10
        try dsimp only at hw hP hD
        obtain ⟨p_17, p_18⟩ := hw
        refine lv_istore (lv' := [(4, .int r_11), (0, .ref (hs 0)), (1, .int i), (2, .int all), (3, .int n1)]) hx hb dX9_stages_28 hl (by decide) rfl (fun ls hl => ?_)
        refine lv_iload hx hb dX9_stages_30 (lv_at hl 0 rfl) ?_
        refine lv_ldc hx hb hown (hts _ lwd_778) dX9_stages_32 ?_
        refine lv_icmp_ne (tgt := 42) hx hb dX9_stages_34 (by decide) (fun c_19 => ?_) (fun c_19 => ?_)
        · have gc_19 : r_11.toInt ≠ 1000000000 := i_ne (rfl : r_11.toInt = r_11.toInt) (by decide : (1000000000 : Int32).toInt = 1000000000) c_19
          refine lv_iload hx hb dX9_stages_42 (lv_at hl 0 rfl) ?_
          exact hrt r_11 zrletters_12 zrstack_13 zcaps_14 zversions_15 zsharing_16 ⟨p_17, p_18⟩ hP hD hS rfl dX9_stages_44
        · have gc_19 : r_11.toInt = 1000000000 := i_eq (rfl : r_11.toInt = r_11.toInt) (by decide : (1000000000 : Int32).toInt = 1000000000) c_19
          refine lv_bipush (v := (-2)) hx hb dX9_stages_37 (by decide) ?_
          refine lv_goto (tgt := 44) hx hb dX9_stages_39 (by decide) ?_
          have k_20 : ((-2) : Int32).toInt = (-2) := by decide
          exact hrt (-2) zrletters_12 zrstack_13 zcaps_14 zversions_15 zsharing_16 ⟨p_17, p_18⟩ hP hD hS rfl dX9_stages_44
      · have gc_9 : r_6.toInt = 0 := i_eq (rfl : r_6.toInt = r_6.toInt) (by decide : (0 : Int32).toInt = 0) c_9
        refine lv_iconst (v := (-1)) hx hb dX9_stages_19 (by decide) ?_
        have k_21 : ((-1) : Int32).toInt = (-1) := by decide
        exact hrt (-1) f_rletters f_rstack f_caps f_versions f_sharing ⟨hr_caps, hr_sharing⟩ hP hD hS rfl dX9_stages_20
set_option maxHeartbeats 16000000 in
set_option maxRecDepth 100000 in
theorem c_X9_goes (l : Launch) (D : va_G) (cy : Nat → ClassId) (hs : Nat → Nat) (hH hT sH sT : Nat) (v_tape_size v_band_walkers v_band_loads v_band_pieces v_rules_clauses v_reader_end v_reader_at v_reader_length v_reader_letter v_reader_fault v_draft_clauses v_paces_version v_packing_quicker v_packing_loads v_packing_looseCount v_marches_told v_marches_changeMinutes v_marches_marching v_marches_gone v_search_known v_search_countHere v_search_countThere v_search_cost v_search_most : Int32) (v_search_found : Int64) (f_bytes f_knee f_weight f_limps f_bheft f_owner f_food f_miles f_slope f_rsteps f_rkind f_ryields f_rholds f_rletters f_rstack f_dsteps f_dkind f_dyields f_dholds f_dletters f_dstack f_caps f_versions f_sharing f_pheft f_prow f_holder f_comes f_pcaps f_room f_loose f_reached f_mrow f_minutesOn f_mtired : Nat → Int32) (f_here f_there : Nat → Int64) (f_statesHere f_statesThere f_listed f_stired f_burdens f_pacesOn f_restedOn f_behindOn f_behindFor f_first f_second : Nat → Int32) (f_plans f_tiredOn : Nat → Nat → Int32) (tS : Nat) (sz : Nat) (i : Int32) (all : Int32) (hb_v_band_walkers : 0 ≤ v_band_walkers.toInt ∧ v_band_walkers.toInt ≤ 6) (hb_v_band_loads : 0 ≤ v_band_loads.toInt ∧ v_band_loads.toInt ≤ 9) (hb_v_band_pieces : 0 ≤ v_band_pieces.toInt ∧ v_band_pieces.toInt ≤ 10) (hb_v_rules_clauses : 0 ≤ v_rules_clauses.toInt ∧ v_rules_clauses.toInt ≤ 14) (hr_weight : rg (0) 250 f_weight) (hr_limps : rg (0) 1 f_limps) (hr_bheft : rg (0) 120 f_bheft) (hr_food : rg (0) 20 f_food) (hr_miles : rg (0) 20 f_miles) (hr_caps : rg (-1) 400 f_caps) (hr_sharing : rg (0) 21899 f_sharing) : gMi l yX9_goes cX9_goes 7 .int 7 [.ref (hs 0), .int i, .int all] D cy (wSP cy hs hH hT sH sT v_tape_size v_band_walkers v_band_loads v_band_pieces v_rules_clauses v_reader_end v_reader_at v_reader_length v_reader_letter v_reader_fault v_draft_clauses v_paces_version v_packing_quicker v_packing_loads v_packing_looseCount v_marches_told v_marches_changeMinutes v_marches_marching v_marches_gone v_search_known v_search_countHere v_search_countThere v_search_cost v_search_most v_search_found f_bytes f_knee f_weight f_limps f_bheft f_owner f_food f_miles f_slope f_rsteps f_rkind f_ryields f_rholds f_rletters f_rstack f_dsteps f_dkind f_dyields f_dholds f_dletters f_dstack f_caps f_versions f_sharing f_pheft f_prow f_holder f_comes f_pcaps f_room f_loose f_reached f_mrow f_minutesOn f_mtired f_here f_there f_statesHere f_statesThere f_listed f_stired f_burdens f_pacesOn f_restedOn f_behindOn f_behindFor f_first f_second f_plans f_tiredOn) (NS tS) sz (fun (r : Int32) (u : (Nat → Int32) × (Nat → Int32) × (Nat → Int32) × (Nat → Int32) × (Nat → Int32)) => (rg (-1) 400 (u.2.2.1)) ∧ (rg (0) 21899 (u.2.2.2.2))) (fun u => wSP cy hs hH hT sH sT v_tape_size v_band_walkers v_band_loads v_band_pieces v_rules_clauses v_reader_end v_reader_at v_reader_length v_reader_letter v_reader_fault v_draft_clauses v_paces_version v_packing_quicker v_packing_loads v_packing_looseCount v_marches_told v_marches_changeMinutes v_marches_marching v_marches_gone v_search_known v_search_countHere v_search_countThere v_search_cost v_search_most v_search_found f_bytes f_knee f_weight f_limps f_bheft f_owner f_food f_miles f_slope f_rsteps f_rkind f_ryields f_rholds (u.1) (u.2.1) f_dsteps f_dkind f_dyields f_dholds f_dletters f_dstack (u.2.2.1) (u.2.2.2.1) (u.2.2.2.2) f_pheft f_prow f_holder f_comes f_pcaps f_room f_loose f_reached f_mrow f_minutesOn f_mtired f_here f_there f_statesHere f_statesThere f_listed f_stired f_burdens f_pacesOn f_restedOn f_behindOn f_behindFor f_first f_second f_plans f_tiredOn) := by
  refine gMi_in (by decide) (Nat.le_of_ble_eq_true rfl) ?_
  intro p e s m args below meth c A ls Q hx hb hml hts hown hsz hP hK hD hN hAe hA hS hl hret
  subst hsz
  have hl : lv_has ls 7 [(0, .ref (hs 0)), (1, .int i), (2, .int all)] := hl
  have hrt := fun (r : Int32) (f_rletters' : Nat → Int32) (f_rstack' : Nat → Int32) (f_caps' : Nat → Int32) (f_versions' : Nat → Int32) (f_sharing' : Nat → Int32) (hp : (rg (-1) 400 f_caps') ∧ (rg (0) 21899 f_sharing')) {H : Heap} {locs : List Loc} {pc : Nat} {ls : Array Slot} => hret r (f_rletters', f_rstack', f_caps', f_versions', f_sharing') (H := H) (locs := locs) (pc := pc) (ls := ls) hp
  clear hret
  refine lv_aload_n hx hb dX9_goes_0 rfl (lv_at hl 0 rfl) ?_
  refine lv_iload_n hx hb dX9_goes_1 rfl (lv_at hl 1 rfl) ?_
  refine lv_iload_n hx hb dX9_goes_2 rfl (lv_at hl 2 rfl) ?_
  refine xi hD hS hA (xV (As := [.int i, .int all]) (rest := []) hx hb hml hown hts hK hP hD hS hA NS_ok hN hAe hl.1 ⟨Nat.le_refl _, Nat.le_refl _⟩ 0 rfl rfl rfl (c_X9_standsOn l D cy hs hH hT sH sT v_tape_size v_band_walkers v_band_loads v_band_pieces v_rules_clauses v_reader_end v_reader_at v_reader_length v_reader_letter v_reader_fault v_draft_clauses v_paces_version v_packing_quicker v_packing_loads v_packing_looseCount v_marches_told v_marches_changeMinutes v_marches_marching v_marches_gone v_search_known v_search_countHere v_search_countThere v_search_cost v_search_most v_search_found f_bytes f_knee f_weight f_limps f_bheft f_owner f_food f_miles f_slope f_rsteps f_rkind f_ryields f_rholds f_rletters f_rstack f_dsteps f_dkind f_dyields f_dholds f_dletters f_dstack f_caps f_versions f_sharing f_pheft f_prow f_holder f_comes f_pcaps f_room f_loose f_reached f_mrow f_minutesOn f_mtired f_here f_there f_statesHere f_statesThere f_listed f_stired f_burdens f_pacesOn f_restedOn f_behindOn f_behindFor f_first f_second f_plans f_tiredOn tS s.heap.size i all (by omega) (by omega)) (gi_V lwd_616 lwd_617 lwd_618 lwd_2 lwd_619) ⟨rfl, hd_X9_standsOn⟩ ⟨Nat.le_of_ble_eq_true rfl, Nat.le_of_ble_eq_true rfl⟩ rfl (Nat.le_of_ble_eq_true rfl) dX9_goes_3) (fun r_2 u_1 H locs hw hP hD hS => ?_)
  try dsimp only at hw hP hD
  obtain ⟨p_3, p_4⟩ := hw
  refine lv_if_ne (tgt := 11) hx hb dX9_goes_6 (by decide) (fun c_5 => ?_) (fun c_5 => ?_)
  · have gc_5 : r_2.toInt ≠ 0 := i_ne (rfl : r_2.toInt = r_2.toInt) (by decide : (0 : Int32).toInt = 0) c_5
    refine lv_ldc hx hb hown (hts _ lwd_778) dX9_goes_11 ?_
    refine lv_istore_n (lv' := [(3, .int 1000000000), (0, .ref (hs 0)), (1, .int i), (2, .int all)]) hx hb dX9_goes_13 rfl hl (by decide) rfl (fun ls hl => ?_)
    refine lv_bipush (v := (-2)) hx hb dX9_goes_14 (by decide) ?_
    refine lv_istore (lv' := [(4, .int (-2)), (3, .int 1000000000), (0, .ref (hs 0)), (1, .int i), (2, .int all)]) hx hb dX9_goes_16 hl (by decide) rfl (fun ls hl => ?_)
    refine lv_iconst (v := 1) hx hb dX9_goes_18 (by decide) ?_
    refine lv_istore (lv' := [(5, .int 1), (4, .int (-2)), (3, .int 1000000000), (0, .ref (hs 0)), (1, .int i), (2, .int all)]) hx hb dX9_goes_19 hl (by decide) rfl (fun ls hl => ?_)
    have L21_22 : ∀ (n : Nat) (f_14 : Nat → Int32) (f_15 : Nat → Int32) (f_16 : Nat → Int32) (f_17 : Nat → Int32) (f_18 : Nat → Int32) (l_19 : Int32) (l_20 : Int32) (l_21 : Int32), (rg (-1) 400 f_14) → (rg (0) 21899 f_17) → (1 ≤ l_21.toInt ∧ l_21.toInt ≤ 6) → 7 - l_21.toInt < n → ∀ (H : Heap) (locs : List Loc) (ls : Array Slot), va_P D vwCl (wSP cy hs hH hT sH sT v_tape_size v_band_walkers v_band_loads v_band_pieces v_rules_clauses v_reader_end v_reader_at v_reader_length v_reader_letter v_reader_fault v_draft_clauses v_paces_version v_packing_quicker v_packing_loads v_packing_looseCount v_marches_told v_marches_changeMinutes v_marches_marching v_marches_gone v_search_known v_search_countHere v_search_countThere v_search_cost v_search_most v_search_found f_bytes f_knee f_weight f_limps f_bheft f_owner f_food f_miles f_slope f_rsteps f_rkind f_ryields f_rholds f_15 f_16 f_dsteps f_dkind f_dyields f_dholds f_dletters f_dstack f_14 f_18 f_17 f_pheft f_prow f_holder f_comes f_pcaps f_room f_loose f_reached f_mrow f_minutesOn f_mtired f_here f_there f_statesHere f_statesThere f_listed f_stired f_burdens f_pacesOn f_restedOn f_behindOn f_behindFor f_first f_second f_plans f_tiredOn) H → va_D A (wSP cy hs hH hT sH sT v_tape_size v_band_walkers v_band_loads v_band_pieces v_rules_clauses v_reader_end v_reader_at v_reader_length v_reader_letter v_reader_fault v_draft_clauses v_paces_version v_packing_quicker v_packing_loads v_packing_looseCount v_marches_told v_marches_changeMinutes v_marches_marching v_marches_gone v_search_known v_search_countHere v_search_countThere v_search_cost v_search_most v_search_found f_bytes f_knee f_weight f_limps f_bheft f_owner f_food f_miles f_slope f_rsteps f_rkind f_ryields f_rholds f_15 f_16 f_dsteps f_dkind f_dyields f_dholds f_dletters f_dstack f_14 f_18 f_17 f_pheft f_prow f_holder f_comes f_pcaps f_room f_loose f_reached f_mrow f_minutesOn f_mtired f_here f_there f_statesHere f_statesThere f_listed f_stired f_burdens f_pacesOn f_restedOn f_behindOn f_behindFor f_first f_second f_plans f_tiredOn) → va_S A s.heap H locs → lv_has ls 7 [(5, .int l_21), (4, .int l_20), (3, .int l_19), (0, .ref (hs 0)), (1, .int i), (2, .int all)] → W p l e (gRm 7) s m args below meth c H locs 0 0 Q (F0 m 21 ls []) := by
      intro n
      induction n with
      | zero => intro f_14 f_15 f_16 f_17 f_18 l_19 l_20 l_21 hL21_22_0 hL21_22_1 hL21_22_2 hm; exact absurd hm (by omega)
      | succ n ih21_22 =>
        intro f_14 f_15 f_16 f_17 f_18 l_19 l_20 l_21 hL21_22_0 hL21_22_1 hL21_22_2 hmL21_22 H locs ls hP hD hS hl
        refine lv_iload hx hb dX9_goes_21 (lv_at hl 0 rfl) ?_
        refine lv_iconst (v := 5) hx hb dX9_goes_23 (by decide) ?_
        refine lv_icmp_gt (tgt := 56) hx hb dX9_goes_24 (by decide) (fun c_23 => ?_) (fun c_23 => ?_)
        · have gc_23 : 5 < l_21.toInt := i_lt (by decide : (5 : Int32).toInt = 5) (rfl : l_21.toInt = l_21.toInt) c_23
          refine lv_iload hx hb dX9_goes_56 (lv_at hl 1 rfl) ?_
          exact hrt l_20 f_15 f_16 f_14 f_18 f_17 ⟨hL21_22_0, hL21_22_1⟩ hP hD hS rfl dX9_goes_58
        · have gc_23 : l_21.toInt ≤ 5 := i_nlt (by decide : (5 : Int32).toInt = 5) (rfl : l_21.toInt = l_21.toInt) c_23
          refine lv_aload_n hx hb dX9_goes_27 rfl (lv_at hl 3 rfl) ?_
          refine lv_iload_n hx hb dX9_goes_28 rfl (lv_at hl 4 rfl) ?_
          refine lv_iload_n hx hb dX9_goes_29 rfl (lv_at hl 5 rfl) ?_
          refine lv_iload hx hb dX9_goes_30 (lv_at hl 0 rfl) ?_
          refine xi hD hS hA (xV (As := [.int i, .int all, .int l_21]) (rest := []) hx hb hml hown hts hK hP hD hS hA NS_ok hN hAe hl.1 ⟨Nat.le_refl _, Nat.le_refl _⟩ 0 rfl rfl rfl (c_X9_minutesByStages l D cy hs hH hT sH sT v_tape_size v_band_walkers v_band_loads v_band_pieces v_rules_clauses v_reader_end v_reader_at v_reader_length v_reader_letter v_reader_fault v_draft_clauses v_paces_version v_packing_quicker v_packing_loads v_packing_looseCount v_marches_told v_marches_changeMinutes v_marches_marching v_marches_gone v_search_known v_search_countHere v_search_countThere v_search_cost v_search_most v_search_found f_bytes f_knee f_weight f_limps f_bheft f_owner f_food f_miles f_slope f_rsteps f_rkind f_ryields f_rholds f_15 f_16 f_dsteps f_dkind f_dyields f_dholds f_dletters f_dstack f_14 f_18 f_17 f_pheft f_prow f_holder f_comes f_pcaps f_room f_loose f_reached f_mrow f_minutesOn f_mtired f_here f_there f_statesHere f_statesThere f_listed f_stired f_burdens f_pacesOn f_restedOn f_behindOn f_behindFor f_first f_second f_plans f_tiredOn tS H.size i all l_21 (by omega) (by omega) (by omega) hr_weight hr_limps hr_bheft hr_food hr_miles hL21_22_0 hL21_22_1 (by omega) (by omega)) (gi_V lwd_836 lwd_837 lwd_838 lwd_2 lwd_839) ⟨rfl, hd_X9_minutesByStages⟩ ⟨Nat.le_of_ble_eq_true rfl, Nat.le_of_ble_eq_true rfl⟩ rfl (Nat.le_of_ble_eq_true rfl) dX9_goes_32) (fun r_25 u_24 H locs hw hP hD hS => ?_)
          obtain ⟨zrletters_26, zrstack_27, zcaps_28, zversions_29, zsharing_30⟩ := u_24
          try dsimp only at hw hP hD
          obtain ⟨p_31, p_32⟩ := hw
          refine lv_istore (lv' := [(6, .int r_25), (5, .int l_21), (4, .int l_20), (3, .int l_19), (0, .ref (hs 0)), (1, .int i), (2, .int all)]) hx hb dX9_goes_35 hl (by decide) rfl (fun ls hl => ?_)
          refine lv_iload hx hb dX9_goes_37 (lv_at hl 0 rfl) ?_
          refine lv_iload_n hx hb dX9_goes_39 rfl (lv_at hl 3 rfl) ?_
          refine lv_icmp_ge (tgt := 50) hx hb dX9_goes_40 (by decide) (fun c_33 => ?_) (fun c_33 => ?_)
          · have gc_33 : l_19.toInt ≤ r_25.toInt := i_le (rfl : l_19.toInt = l_19.toInt) (rfl : r_25.toInt = r_25.toInt) c_33
            obtain ⟨n_34, en_34⟩ : ∃ y : Int32, y = l_21 + 1 := ⟨_, rfl⟩
            have tn_34 : n_34.toInt = l_21.toInt + 1 := i_add en_34 (rfl : l_21.toInt = l_21.toInt) (by decide : (1 : Int32).toInt = 1) (by omega) (by omega)
            refine lv_iinc (v := n_34) (lv' := [(5, .int n_34), (6, .int r_25), (4, .int l_20), (3, .int l_19), (0, .ref (hs 0)), (1, .int i), (2, .int all)]) hx hb dX9_goes_50 hl (k := 1) rfl (by rw [en_34]; rfl) (by decide) rfl (fun ls hl => ?_)
            refine lv_goto (tgt := 21) hx hb dX9_goes_53 (by decide) ?_
            exact ih21_22 zcaps_28 zrletters_26 zrstack_27 zsharing_30 zversions_29 l_19 l_20 n_34 p_31 p_32 (by omega) (by omega) _ _ _ hP hD hS (lv_sub hl [0, 2, 3, 4, 5, 6] rfl)
          · have gc_33 : r_25.toInt < l_19.toInt := i_nle (rfl : l_19.toInt = l_19.toInt) (rfl : r_25.toInt = r_25.toInt) c_33
            refine lv_iload hx hb dX9_goes_43 (lv_at hl 0 rfl) ?_
            refine lv_istore_n (lv' := [(3, .int r_25), (6, .int r_25), (5, .int l_21), (4, .int l_20), (0, .ref (hs 0)), (1, .int i), (2, .int all)]) hx hb dX9_goes_45 rfl hl (by decide) rfl (fun ls hl => ?_)
            refine lv_iload hx hb dX9_goes_46 (lv_at hl 2 rfl) ?_
            refine lv_istore (lv' := [(4, .int l_21), (3, .int r_25), (6, .int r_25), (5, .int l_21), (0, .ref (hs 0)), (1, .int i), (2, .int all)]) hx hb dX9_goes_48 hl (by decide) rfl (fun ls hl => ?_)
            obtain ⟨n_35, en_35⟩ : ∃ y : Int32, y = l_21 + 1 := ⟨_, rfl⟩
            have tn_35 : n_35.toInt = l_21.toInt + 1 := i_add en_35 (rfl : l_21.toInt = l_21.toInt) (by decide : (1 : Int32).toInt = 1) (by omega) (by omega)
            refine lv_iinc (v := n_35) (lv' := [(5, .int n_35), (4, .int l_21), (3, .int r_25), (6, .int r_25), (0, .ref (hs 0)), (1, .int i), (2, .int all)]) hx hb dX9_goes_50 hl (k := 3) rfl (by rw [en_35]; rfl) (by decide) rfl (fun ls hl => ?_)
            refine lv_goto (tgt := 21) hx hb dX9_goes_53 (by decide) ?_
            exact ih21_22 zcaps_28 zrletters_26 zrstack_27 zsharing_30 zversions_29 r_25 l_21 n_35 p_31 p_32 (by omega) (by omega) _ _ _ hP hD hS (lv_sub hl [0, 1, 2, 4, 5, 6] rfl)
    have k_36 : (1000000000 : Int32).toInt = 1000000000 := by decide
    have k_37 : ((-2) : Int32).toInt = (-2) := by decide
    have k_38 : (1 : Int32).toInt = 1 := by decide
    exact L21_22 8589934592 f_caps f_rletters f_rstack f_sharing f_versions 1000000000 (-2) 1 hr_caps hr_sharing (by omega) (by omega) _ _ _ hP hD hS (lv_sub hl [0, 1, 2, 3, 4, 5] rfl)
  · have gc_5 : r_2.toInt = 0 := i_eq (rfl : r_2.toInt = r_2.toInt) (by decide : (0 : Int32).toInt = 0) c_5
    refine lv_iconst (v := (-1)) hx hb dX9_goes_9 (by decide) ?_
    have k_39 : ((-1) : Int32).toInt = (-1) := by decide
    exact hrt (-1) f_rletters f_rstack f_caps f_versions f_sharing ⟨hr_caps, hr_sharing⟩ hP hD hS rfl dX9_goes_10
set_option maxHeartbeats 16000000 in
set_option maxRecDepth 100000 in
theorem c_X9_carried (l : Launch) (D : va_G) (cy : Nat → ClassId) (hs : Nat → Nat) (hH hT sH sT : Nat) (v_tape_size v_band_walkers v_band_loads v_band_pieces v_rules_clauses v_reader_end v_reader_at v_reader_length v_reader_letter v_reader_fault v_draft_clauses v_paces_version v_packing_quicker v_packing_loads v_packing_looseCount v_marches_told v_marches_changeMinutes v_marches_marching v_marches_gone v_search_known v_search_countHere v_search_countThere v_search_cost v_search_most : Int32) (v_search_found : Int64) (f_bytes f_knee f_weight f_limps f_bheft f_owner f_food f_miles f_slope f_rsteps f_rkind f_ryields f_rholds f_rletters f_rstack f_dsteps f_dkind f_dyields f_dholds f_dletters f_dstack f_caps f_versions f_sharing f_pheft f_prow f_holder f_comes f_pcaps f_room f_loose f_reached f_mrow f_minutesOn f_mtired : Nat → Int32) (f_here f_there : Nat → Int64) (f_statesHere f_statesThere f_listed f_stired f_burdens f_pacesOn f_restedOn f_behindOn f_behindFor f_first f_second : Nat → Int32) (f_plans f_tiredOn : Nat → Nat → Int32) (tS : Nat) (sz : Nat) (i : Int32) (all : Int32) (what : Int32) (hb_v_band_walkers : 0 ≤ v_band_walkers.toInt ∧ v_band_walkers.toInt ≤ 6) (hb_v_band_loads : 0 ≤ v_band_loads.toInt ∧ v_band_loads.toInt ≤ 9) (hb_v_band_pieces : 0 ≤ v_band_pieces.toInt ∧ v_band_pieces.toInt ≤ 10) (hb_v_rules_clauses : 0 ≤ v_rules_clauses.toInt ∧ v_rules_clauses.toInt ≤ 14) (hb_v_packing_quicker : -1 ≤ v_packing_quicker.toInt ∧ v_packing_quicker.toInt ≤ 5) (hb_v_packing_loads : 0 ≤ v_packing_loads.toInt ∧ v_packing_loads.toInt ≤ 10) (hb_v_packing_looseCount : 0 ≤ v_packing_looseCount.toInt ∧ v_packing_looseCount.toInt ≤ 10) (hr_weight : rg (0) 250 f_weight) (hr_limps : rg (0) 1 f_limps) (hr_bheft : rg (0) 120 f_bheft) (hr_owner : rg (-1) 5 f_owner) (hr_food : rg (0) 20 f_food) (hr_miles : rg (0) 20 f_miles) (hr_caps : rg (-1) 400 f_caps) (hr_pheft : rg (0) 250 f_pheft) (hr_holder : rg (-1) 5 f_holder) (hr_comes : rg (0) 1 f_comes) (hr_pcaps : rg (0) 21899 f_pcaps) (hr_room : rg (-1000) 400 f_room) (hr_loose : rg (0) 9 f_loose) (hr_reached : rg (0) 3072 f_reached) : gMi l yX9_carried cX9_carried 8 .int 6 [.ref (hs 0), .int i, .int all, .int what] D cy (wSP cy hs hH hT sH sT v_tape_size v_band_walkers v_band_loads v_band_pieces v_rules_clauses v_reader_end v_reader_at v_reader_length v_reader_letter v_reader_fault v_draft_clauses v_paces_version v_packing_quicker v_packing_loads v_packing_looseCount v_marches_told v_marches_changeMinutes v_marches_marching v_marches_gone v_search_known v_search_countHere v_search_countThere v_search_cost v_search_most v_search_found f_bytes f_knee f_weight f_limps f_bheft f_owner f_food f_miles f_slope f_rsteps f_rkind f_ryields f_rholds f_rletters f_rstack f_dsteps f_dkind f_dyields f_dholds f_dletters f_dstack f_caps f_versions f_sharing f_pheft f_prow f_holder f_comes f_pcaps f_room f_loose f_reached f_mrow f_minutesOn f_mtired f_here f_there f_statesHere f_statesThere f_listed f_stired f_burdens f_pacesOn f_restedOn f_behindOn f_behindFor f_first f_second f_plans f_tiredOn) (NS tS) sz (fun (r : Int32) (u : Int32 × Int32 × Int32 × (Nat → Int32) × (Nat → Int32) × (Nat → Int32) × (Nat → Int32) × (Nat → Int32) × (Nat → Int32) × (Nat → Int32) × (Nat → Int32) × (Nat → Int32) × (Nat → Int32) × (Nat → Int32)) => (-1 ≤ (u.1).toInt ∧ (u.1).toInt ≤ 5) ∧ (0 ≤ (u.2.1).toInt ∧ (u.2.1).toInt ≤ 10) ∧ (0 ≤ (u.2.2.1).toInt ∧ (u.2.2.1).toInt ≤ 10) ∧ (rg (-1) 400 (u.2.2.2.2.2.1)) ∧ (rg (0) 250 (u.2.2.2.2.2.2.2.1)) ∧ (rg (-1) 5 (u.2.2.2.2.2.2.2.2.1)) ∧ (rg (0) 1 (u.2.2.2.2.2.2.2.2.2.1)) ∧ (rg (0) 21899 (u.2.2.2.2.2.2.2.2.2.2.1)) ∧ (rg (-1000) 400 (u.2.2.2.2.2.2.2.2.2.2.2.1)) ∧ (rg (0) 9 (u.2.2.2.2.2.2.2.2.2.2.2.2.1)) ∧ (rg (0) 3072 (u.2.2.2.2.2.2.2.2.2.2.2.2.2))) (fun u => wSP cy hs hH hT sH sT v_tape_size v_band_walkers v_band_loads v_band_pieces v_rules_clauses v_reader_end v_reader_at v_reader_length v_reader_letter v_reader_fault v_draft_clauses v_paces_version (u.1) (u.2.1) (u.2.2.1) v_marches_told v_marches_changeMinutes v_marches_marching v_marches_gone v_search_known v_search_countHere v_search_countThere v_search_cost v_search_most v_search_found f_bytes f_knee f_weight f_limps f_bheft f_owner f_food f_miles f_slope f_rsteps f_rkind f_ryields f_rholds (u.2.2.2.1) (u.2.2.2.2.1) f_dsteps f_dkind f_dyields f_dholds f_dletters f_dstack (u.2.2.2.2.2.1) (u.2.2.2.2.2.2.1) f_sharing (u.2.2.2.2.2.2.2.1) f_prow (u.2.2.2.2.2.2.2.2.1) (u.2.2.2.2.2.2.2.2.2.1) (u.2.2.2.2.2.2.2.2.2.2.1) (u.2.2.2.2.2.2.2.2.2.2.2.1) (u.2.2.2.2.2.2.2.2.2.2.2.2.1) (u.2.2.2.2.2.2.2.2.2.2.2.2.2) f_mrow f_minutesOn f_mtired f_here f_there f_statesHere f_statesThere f_listed f_stired f_burdens f_pacesOn f_restedOn f_behindOn f_behindFor f_first f_second f_plans f_tiredOn) := by
  refine gMi_in (by decide) (Nat.le_of_ble_eq_true rfl) ?_
  intro p e s m args below meth c A ls Q hx hb hml hts hown hsz hP hK hD hN hAe hA hS hl hret
  subst hsz
  have hl : lv_has ls 8 [(0, .ref (hs 0)), (1, .int i), (2, .int all), (3, .int what)] := hl
  have hrt := fun (r : Int32) (v_packing_quicker' : Int32) (v_packing_loads' : Int32) (v_packing_looseCount' : Int32) (f_rletters' : Nat → Int32) (f_rstack' : Nat → Int32) (f_caps' : Nat → Int32) (f_versions' : Nat → Int32) (f_pheft' : Nat → Int32) (f_holder' : Nat → Int32) (f_comes' : Nat → Int32) (f_pcaps' : Nat → Int32) (f_room' : Nat → Int32) (f_loose' : Nat → Int32) (f_reached' : Nat → Int32) (hp : (-1 ≤ v_packing_quicker'.toInt ∧ v_packing_quicker'.toInt ≤ 5) ∧ (0 ≤ v_packing_loads'.toInt ∧ v_packing_loads'.toInt ≤ 10) ∧ (0 ≤ v_packing_looseCount'.toInt ∧ v_packing_looseCount'.toInt ≤ 10) ∧ (rg (-1) 400 f_caps') ∧ (rg (0) 250 f_pheft') ∧ (rg (-1) 5 f_holder') ∧ (rg (0) 1 f_comes') ∧ (rg (0) 21899 f_pcaps') ∧ (rg (-1000) 400 f_room') ∧ (rg (0) 9 f_loose') ∧ (rg (0) 3072 f_reached')) {H : Heap} {locs : List Loc} {pc : Nat} {ls : Array Slot} => hret r (v_packing_quicker', v_packing_loads', v_packing_looseCount', f_rletters', f_rstack', f_caps', f_versions', f_pheft', f_holder', f_comes', f_pcaps', f_room', f_loose', f_reached') (H := H) (locs := locs) (pc := pc) (ls := ls) hp
  clear hret
  refine lv_iload_n hx hb dX9_carried_0 rfl (lv_at hl 3 rfl) ?_
  refine lv_if_lt (tgt := 18) hx hb dX9_carried_1 (by decide) (fun c_1 => ?_) (fun c_1 => ?_)
  · have gc_1 : what.toInt < 0 := i_lt (rfl : what.toInt = what.toInt) (by decide : (0 : Int32).toInt = 0) c_1
    refine lv_bipush (v := (-3)) hx hb dX9_carried_18 (by decide) ?_
    have k_2 : ((-3) : Int32).toInt = (-3) := by decide
    exact hrt (-3) v_packing_quicker v_packing_loads v_packing_looseCount f_rletters f_rstack f_caps f_versions f_pheft f_holder f_comes f_pcaps f_room f_loose f_reached ⟨(by omega), (by omega), (by omega), hr_caps, hr_pheft, hr_holder, hr_comes, hr_pcaps, hr_room, hr_loose, hr_reached⟩ hP hD hS rfl dX9_carried_20
  · have gc_1 : 0 ≤ what.toInt := i_nlt (rfl : what.toInt = what.toInt) (by decide : (0 : Int32).toInt = 0) c_1
    refine lv_iload_n hx hb dX9_carried_4 rfl (lv_at hl 3 rfl) ?_
    refine lv_iconst (v := 1) hx hb dX9_carried_5 (by decide) ?_
    refine lv_icmp_gt (tgt := 18) hx hb dX9_carried_6 (by decide) (fun c_3 => ?_) (fun c_3 => ?_)
    · have gc_3 : 1 < what.toInt := i_lt (by decide : (1 : Int32).toInt = 1) (rfl : what.toInt = what.toInt) c_3
      refine lv_bipush (v := (-3)) hx hb dX9_carried_18 (by decide) ?_
      have k_4 : ((-3) : Int32).toInt = (-3) := by decide
      exact hrt (-3) v_packing_quicker v_packing_loads v_packing_looseCount f_rletters f_rstack f_caps f_versions f_pheft f_holder f_comes f_pcaps f_room f_loose f_reached ⟨(by omega), (by omega), (by omega), hr_caps, hr_pheft, hr_holder, hr_comes, hr_pcaps, hr_room, hr_loose, hr_reached⟩ hP hD hS rfl dX9_carried_20
    · have gc_3 : what.toInt ≤ 1 := i_nlt (by decide : (1 : Int32).toInt = 1) (rfl : what.toInt = what.toInt) c_3
      refine lv_aload_n hx hb dX9_carried_9 rfl (lv_at hl 0 rfl) ?_
      refine lv_iload_n hx hb dX9_carried_10 rfl (lv_at hl 1 rfl) ?_
      refine lv_iload_n hx hb dX9_carried_11 rfl (lv_at hl 2 rfl) ?_
      refine xi hD hS hA (xV (As := [.int i, .int all]) (rest := []) hx hb hml hown hts hK hP hD hS hA NS_ok hN hAe hl.1 ⟨Nat.le_refl _, Nat.le_refl _⟩ 0 rfl rfl rfl (c_X9_standsOn l D cy hs hH hT sH sT v_tape_size v_band_walkers v_band_loads v_band_pieces v_rules_clauses v_reader_end v_reader_at v_reader_length v_reader_letter v_reader_fault v_draft_clauses v_paces_version v_packing_quicker v_packing_loads v_packing_looseCount v_marches_told v_marches_changeMinutes v_marches_marching v_marches_gone v_search_known v_search_countHere v_search_countThere v_search_cost v_search_most v_search_found f_bytes f_knee f_weight f_limps f_bheft f_owner f_food f_miles f_slope f_rsteps f_rkind f_ryields f_rholds f_rletters f_rstack f_dsteps f_dkind f_dyields f_dholds f_dletters f_dstack f_caps f_versions f_sharing f_pheft f_prow f_holder f_comes f_pcaps f_room f_loose f_reached f_mrow f_minutesOn f_mtired f_here f_there f_statesHere f_statesThere f_listed f_stired f_burdens f_pacesOn f_restedOn f_behindOn f_behindFor f_first f_second f_plans f_tiredOn tS s.heap.size i all (by omega) (by omega)) (gi_V lwd_616 lwd_617 lwd_618 lwd_2 lwd_619) ⟨rfl, hd_X9_standsOn⟩ ⟨Nat.le_of_ble_eq_true rfl, Nat.le_of_ble_eq_true rfl⟩ rfl (Nat.le_of_ble_eq_true rfl) dX9_carried_12) (fun r_6 u_5 H locs hw hP hD hS => ?_)
      try dsimp only at hw hP hD
      obtain ⟨p_7, p_8⟩ := hw
      refine lv_if_ne (tgt := 21) hx hb dX9_carried_15 (by decide) (fun c_9 => ?_) (fun c_9 => ?_)
      · have gc_9 : r_6.toInt ≠ 0 := i_ne (rfl : r_6.toInt = r_6.toInt) (by decide : (0 : Int32).toInt = 0) c_9
        refine lv_aload_n hx hb dX9_carried_21 rfl (lv_at hl 0 rfl) ?_
        refine gt_SP_SP_packing hx hb hts hown hK hP lwd_35 dX9_carried_22 ?_
        refine lv_iload_n hx hb dX9_carried_25 rfl (lv_at hl 1 rfl) ?_
        refine lv_iload_n hx hb dX9_carried_26 rfl (lv_at hl 2 rfl) ?_
        refine xv hD hS hA (xV (As := [.int i, .int all]) (rest := []) hx hb hml hown hts hK hP hD hS hA NS_ok hN hAe hl.1 ⟨Nat.le_refl _, Nat.le_refl _⟩ 31 rfl rfl rfl (c_X4_begin l D cy hs hH hT sH sT v_tape_size v_band_walkers v_band_loads v_band_pieces v_rules_clauses v_reader_end v_reader_at v_reader_length v_reader_letter v_reader_fault v_draft_clauses v_paces_version v_packing_quicker v_packing_loads v_packing_looseCount v_marches_told v_marches_changeMinutes v_marches_marching v_marches_gone v_search_known v_search_countHere v_search_countThere v_search_cost v_search_most v_search_found f_bytes f_knee f_weight f_limps f_bheft f_owner f_food f_miles f_slope f_rsteps f_rkind f_ryields f_rholds f_rletters f_rstack f_dsteps f_dkind f_dyields f_dholds f_dletters f_dstack f_caps f_versions f_sharing f_pheft f_prow f_holder f_comes f_pcaps f_room f_loose f_reached f_mrow f_minutesOn f_mtired f_here f_there f_statesHere f_statesThere f_listed f_stired f_burdens f_pacesOn f_restedOn f_behindOn f_behindFor f_first f_second f_plans f_tiredOn tS H.size i all (by omega) (by omega) (by omega) (by omega) (by omega) hr_weight hr_limps hr_bheft hr_owner hr_food hr_miles hr_caps hr_pheft hr_holder hr_comes hr_pcaps (by omega) (by omega)) (gi_V lwd_682 lwd_683 lwd_684 lwd_34 lwd_685) ⟨rfl, hd_X4_begin⟩ ⟨Nat.le_of_ble_eq_true rfl, Nat.le_of_ble_eq_true rfl⟩ rfl (Nat.le_of_ble_eq_true rfl) dX9_carried_27) (fun u_10 H locs hw hP hD hS => ?_)
        obtain ⟨zpacking_quicker_12, zpacking_loads_13, zrletters_14, zrstack_15, zcaps_16, zversions_17, zpheft_18, zholder_19, zcomes_20, zpcaps_21⟩ := u_10
        try dsimp only at hw hP hD
        obtain ⟨p_22, p_23, p_24, p_25, p_26, p_27, p_28, p_29⟩ := hw
        refine lv_aload_n hx hb dX9_carried_30 rfl (lv_at hl 0 rfl) ?_
        refine gt_SP_SP_band hx hb hts hown hK hP lwd_19 dX9_carried_31 ?_
        refine lv_iload_n hx hb dX9_carried_34 rfl (lv_at hl 1 rfl) ?_
        refine lv_aload_n hx hb dX9_carried_35 rfl (lv_at hl 0 rfl) ?_
        refine gt_SP_SP_packing hx hb hts hown hK hP lwd_35 dX9_carried_36 ?_
        refine xi hD hS hA (xV (As := []) (rest := [.int i, .ref (hs 3)]) hx hb hml hown hts hK hP hD hS hA NS_ok hN hAe hl.1 ⟨Nat.le_refl _, Nat.le_refl _⟩ 31 rfl rfl rfl (c_X4_greatest l D cy hs hH hT sH sT v_tape_size v_band_walkers v_band_loads v_band_pieces v_rules_clauses v_reader_end v_reader_at v_reader_length v_reader_letter v_reader_fault v_draft_clauses v_paces_version zpacking_quicker_12 zpacking_loads_13 v_packing_looseCount v_marches_told v_marches_changeMinutes v_marches_marching v_marches_gone v_search_known v_search_countHere v_search_countThere v_search_cost v_search_most v_search_found f_bytes f_knee f_weight f_limps f_bheft f_owner f_food f_miles f_slope f_rsteps f_rkind f_ryields f_rholds zrletters_14 zrstack_15 f_dsteps f_dkind f_dyields f_dholds f_dletters f_dstack zcaps_16 zversions_17 f_sharing zpheft_18 f_prow zholder_19 zcomes_20 zpcaps_21 f_room f_loose f_reached f_mrow f_minutesOn f_mtired f_here f_there f_statesHere f_statesThere f_listed f_stired f_burdens f_pacesOn f_restedOn f_behindOn f_behindFor f_first f_second f_plans f_tiredOn tS H.size (by omega) (by omega) (by omega) p_25 p_26 p_27 p_28 p_29 hr_room hr_loose hr_reached) (gi_V lwd_697 lwd_698 lwd_699 lwd_34 lwd_700) ⟨rfl, hd_X4_greatest⟩ ⟨Nat.le_of_ble_eq_true rfl, Nat.le_of_ble_eq_true rfl⟩ rfl (Nat.le_of_ble_eq_true rfl) dX9_carried_39) (fun r_31 u_30 H locs hw hP hD hS => ?_)
        obtain ⟨zpacking_looseCount_32, zroom_33, zloose_34, zreached_35⟩ := u_30
        try dsimp only at hw hP hD
        obtain ⟨p_36, p_37, p_38, p_39, p_40⟩ := hw
        refine xi hD hS hA (xV (As := [.int i, .int r_31]) (rest := []) hx hb hml hown hts hK hP hD hS hA NS_ok hN hAe hl.1 ⟨Nat.le_refl _, Nat.le_refl _⟩ 3 rfl rfl rfl (c_X0_minutes l D cy hs hH hT sH sT v_tape_size v_band_walkers v_band_loads v_band_pieces v_rules_clauses v_reader_end v_reader_at v_reader_length v_reader_letter v_reader_fault v_draft_clauses v_paces_version zpacking_quicker_12 zpacking_loads_13 zpacking_looseCount_32 v_marches_told v_marches_changeMinutes v_marches_marching v_marches_gone v_search_known v_search_countHere v_search_countThere v_search_cost v_search_most v_search_found f_bytes f_knee f_weight f_limps f_bheft f_owner f_food f_miles f_slope f_rsteps f_rkind f_ryields f_rholds zrletters_14 zrstack_15 f_dsteps f_dkind f_dyields f_dholds f_dletters f_dstack zcaps_16 zversions_17 f_sharing zpheft_18 f_prow zholder_19 zcomes_20 zpcaps_21 zroom_33 zloose_34 zreached_35 f_mrow f_minutesOn f_mtired f_here f_there f_statesHere f_statesThere f_listed f_stired f_burdens f_pacesOn f_restedOn f_behindOn f_behindFor f_first f_second f_plans f_tiredOn tS H.size i r_31 hr_miles (by omega)) (gi_V lwd_634 lwd_635 lwd_636 lwd_18 lwd_637) ⟨rfl, hd_X0_minutes⟩ ⟨Nat.le_of_ble_eq_true rfl, Nat.le_of_ble_eq_true rfl⟩ rfl (Nat.le_of_ble_eq_true rfl) dX9_carried_42) (fun r_42 u_41 H locs hw hP hD hS => ?_)
        try dsimp only at hw hP hD
        clear hw
        refine lv_istore (lv' := [(4, .int r_42), (0, .ref (hs 0)), (1, .int i), (2, .int all), (3, .int what)]) hx hb dX9_carried_45 hl (by decide) rfl (fun ls hl => ?_)
        refine lv_iconst (v := (-1)) hx hb dX9_carried_47 (by decide) ?_
        refine lv_istore (lv' := [(5, .int (-1)), (4, .int r_42), (0, .ref (hs 0)), (1, .int i), (2, .int all), (3, .int what)]) hx hb dX9_carried_48 hl (by decide) rfl (fun ls hl => ?_)
        refine lv_iconst (v := 0) hx hb dX9_carried_50 (by decide) ?_
        refine lv_istore (lv' := [(6, .int 0), (5, .int (-1)), (4, .int r_42), (0, .ref (hs 0)), (1, .int i), (2, .int all), (3, .int what)]) hx hb dX9_carried_51 hl (by decide) rfl (fun ls hl => ?_)
        have L53_77 : ∀ (n : Nat) (f_60 : Nat → Int32) (f_61 : Nat → Int32) (f_62 : Nat → Int32) (f_63 : Nat → Int32) (f_64 : Nat → Int32) (f_65 : Nat → Int32) (f_66 : Nat → Int32) (f_67 : Nat → Int32) (f_68 : Nat → Int32) (f_69 : Nat → Int32) (f_70 : Nat → Int32) (l_71 : Int32) (l_72 : Int32) (l_73 : Int32) (w_74 : Int32) (w_75 : Int32) (w_76 : Int32), (rg (-1) 400 f_60) → (rg (0) 1 f_61) → (rg (-1) 5 f_62) → (rg (0) 9 f_63) → (rg (0) 21899 f_64) → (rg (0) 250 f_65) → (rg (0) 3072 f_66) → (rg (-1000) 400 f_68) → (0 ≤ l_73.toInt ∧ l_73.toInt ≤ 6) → (0 ≤ w_74.toInt ∧ w_74.toInt ≤ 10) → (0 ≤ w_75.toInt ∧ w_75.toInt ≤ 10) → (-1 ≤ w_76.toInt ∧ w_76.toInt ≤ 5) → 7 - l_73.toInt < n → ∀ (H : Heap) (locs : List Loc) (ls : Array Slot), va_P D vwCl (wSP cy hs hH hT sH sT v_tape_size v_band_walkers v_band_loads v_band_pieces v_rules_clauses v_reader_end v_reader_at v_reader_length v_reader_letter v_reader_fault v_draft_clauses v_paces_version w_76 w_74 w_75 v_marches_told v_marches_changeMinutes v_marches_marching v_marches_gone v_search_known v_search_countHere v_search_countThere v_search_cost v_search_most v_search_found f_bytes f_knee f_weight f_limps f_bheft f_owner f_food f_miles f_slope f_rsteps f_rkind f_ryields f_rholds f_67 f_69 f_dsteps f_dkind f_dyields f_dholds f_dletters f_dstack f_60 f_70 f_sharing f_65 f_prow f_62 f_61 f_64 f_68 f_63 f_66 f_mrow f_minutesOn f_mtired f_here f_there f_statesHere f_statesThere f_listed f_stired f_burdens f_pacesOn f_restedOn f_behindOn f_behindFor f_first f_second f_plans f_tiredOn) H → va_D A (wSP cy hs hH hT sH sT v_tape_size v_band_walkers v_band_loads v_band_pieces v_rules_clauses v_reader_end v_reader_at v_reader_length v_reader_letter v_reader_fault v_draft_clauses v_paces_version w_76 w_74 w_75 v_marches_told v_marches_changeMinutes v_marches_marching v_marches_gone v_search_known v_search_countHere v_search_countThere v_search_cost v_search_most v_search_found f_bytes f_knee f_weight f_limps f_bheft f_owner f_food f_miles f_slope f_rsteps f_rkind f_ryields f_rholds f_67 f_69 f_dsteps f_dkind f_dyields f_dholds f_dletters f_dstack f_60 f_70 f_sharing f_65 f_prow f_62 f_61 f_64 f_68 f_63 f_66 f_mrow f_minutesOn f_mtired f_here f_there f_statesHere f_statesThere f_listed f_stired f_burdens f_pacesOn f_restedOn f_behindOn f_behindFor f_first f_second f_plans f_tiredOn) → va_S A s.heap H locs → lv_has ls 8 [(6, .int l_73), (5, .int l_72), (4, .int l_71), (0, .ref (hs 0)), (1, .int i), (2, .int all), (3, .int what)] → W p l e (gRm 6) s m args below meth c H locs 0 0 Q (F0 m 53 ls []) := by
          intro n
          induction n with
          | zero => intro f_60 f_61 f_62 f_63 f_64 f_65 f_66 f_67 f_68 f_69 f_70 l_71 l_72 l_73 w_74 w_75 w_76 hL53_77_0 hL53_77_1 hL53_77_2 hL53_77_3 hL53_77_4 hL53_77_5 hL53_77_6 hL53_77_7 hL53_77_8 hL53_77_9 hL53_77_10 hL53_77_11 hm; exact absurd hm (by omega)
          | succ n ih53_77 =>
            intro f_60 f_61 f_62 f_63 f_64 f_65 f_66 f_67 f_68 f_69 f_70 l_71 l_72 l_73 w_74 w_75 w_76 hL53_77_0 hL53_77_1 hL53_77_2 hL53_77_3 hL53_77_4 hL53_77_5 hL53_77_6 hL53_77_7 hL53_77_8 hL53_77_9 hL53_77_10 hL53_77_11 hmL53_77 H locs ls hP hD hS hl
            refine lv_iload hx hb dX9_carried_53 (lv_at hl 0 rfl) ?_
            refine lv_aload_n hx hb dX9_carried_55 rfl (lv_at hl 3 rfl) ?_
            refine gt_SP_SP_band hx hb hts hown hK hP lwd_19 dX9_carried_56 ?_
            refine gt_SP_band_walkers hx hb hts hown hK hP lwd_206 dX9_carried_59 ?_
            refine lv_icmp_ge (tgt := 149) hx hb dX9_carried_62 (by decide) (fun c_78 => ?_) (fun c_78 => ?_)
            · have gc_78 : v_band_walkers.toInt ≤ l_73.toInt := i_le (rfl : v_band_walkers.toInt = v_band_walkers.toInt) (rfl : l_73.toInt = l_73.toInt) c_78
              refine lv_iload hx hb dX9_carried_149 (lv_at hl 2 rfl) ?_
              refine lv_ldc hx hb hown (hts _ lwd_778) dX9_carried_151 ?_
              refine lv_icmp_ne (tgt := 159) hx hb dX9_carried_153 (by decide) (fun c_79 => ?_) (fun c_79 => ?_)
              · have gc_79 : l_71.toInt ≠ 1000000000 := i_ne (rfl : l_71.toInt = l_71.toInt) (by decide : (1000000000 : Int32).toInt = 1000000000) c_79
                refine lv_iload_n hx hb dX9_carried_159 rfl (lv_at hl 6 rfl) ?_
                refine lv_if_ne (tgt := 168) hx hb dX9_carried_160 (by decide) (fun c_80 => ?_) (fun c_80 => ?_)
                · have gc_80 : what.toInt ≠ 0 := i_ne (rfl : what.toInt = what.toInt) (by decide : (0 : Int32).toInt = 0) c_80
                  refine lv_iload hx hb dX9_carried_168 (lv_at hl 2 rfl) ?_
                  exact hrt l_71 w_76 w_74 w_75 f_67 f_69 f_60 f_70 f_65 f_62 f_61 f_64 f_68 f_63 f_66 ⟨(by omega), (by omega), (by omega), hL53_77_0, hL53_77_5, hL53_77_2, hL53_77_1, hL53_77_4, hL53_77_7, hL53_77_3, hL53_77_6⟩ hP hD hS rfl dX9_carried_170
                · have gc_80 : what.toInt = 0 := i_eq (rfl : what.toInt = what.toInt) (by decide : (0 : Int32).toInt = 0) c_80
                  refine lv_iload hx hb dX9_carried_163 (lv_at hl 1 rfl) ?_
                  refine lv_goto (tgt := 170) hx hb dX9_carried_165 (by decide) ?_
                  exact hrt l_72 w_76 w_74 w_75 f_67 f_69 f_60 f_70 f_65 f_62 f_61 f_64 f_68 f_63 f_66 ⟨(by omega), (by omega), (by omega), hL53_77_0, hL53_77_5, hL53_77_2, hL53_77_1, hL53_77_4, hL53_77_7, hL53_77_3, hL53_77_6⟩ hP hD hS rfl dX9_carried_170
              · have gc_79 : l_71.toInt = 1000000000 := i_eq (rfl : l_71.toInt = l_71.toInt) (by decide : (1000000000 : Int32).toInt = 1000000000) c_79
                refine lv_bipush (v := (-2)) hx hb dX9_carried_156 (by decide) ?_
                have k_81 : ((-2) : Int32).toInt = (-2) := by decide
                exact hrt (-2) w_76 w_74 w_75 f_67 f_69 f_60 f_70 f_65 f_62 f_61 f_64 f_68 f_63 f_66 ⟨(by omega), (by omega), (by omega), hL53_77_0, hL53_77_5, hL53_77_2, hL53_77_1, hL53_77_4, hL53_77_7, hL53_77_3, hL53_77_6⟩ hP hD hS rfl dX9_carried_158
            · have gc_78 : l_73.toInt < v_band_walkers.toInt := i_nle (rfl : v_band_walkers.toInt = v_band_walkers.toInt) (rfl : l_73.toInt = l_73.toInt) c_78
              refine lv_aload_n hx hb dX9_carried_65 rfl (lv_at hl 3 rfl) ?_
              refine gt_SP_SP_band hx hb hts hown hK hP lwd_19 dX9_carried_66 ?_
              refine gt_SP_band_walkers hx hb hts hown hK hP lwd_206 dX9_carried_69 ?_
              refine lv_iconst (v := 1) hx hb dX9_carried_72 (by decide) ?_
              refine lv_icmp_le (tgt := 149) hx hb dX9_carried_73 (by decide) (fun c_82 => ?_) (fun c_82 => ?_)
              · have gc_82 : v_band_walkers.toInt ≤ 1 := i_le (rfl : v_band_walkers.toInt = v_band_walkers.toInt) (by decide : (1 : Int32).toInt = 1) c_82
                refine lv_iload hx hb dX9_carried_149 (lv_at hl 2 rfl) ?_
                refine lv_ldc hx hb hown (hts _ lwd_778) dX9_carried_151 ?_
                refine lv_icmp_ne (tgt := 159) hx hb dX9_carried_153 (by decide) (fun c_83 => ?_) (fun c_83 => ?_)
                · have gc_83 : l_71.toInt ≠ 1000000000 := i_ne (rfl : l_71.toInt = l_71.toInt) (by decide : (1000000000 : Int32).toInt = 1000000000) c_83
                  refine lv_iload_n hx hb dX9_carried_159 rfl (lv_at hl 6 rfl) ?_
                  refine lv_if_ne (tgt := 168) hx hb dX9_carried_160 (by decide) (fun c_84 => ?_) (fun c_84 => ?_)
                  · have gc_84 : what.toInt ≠ 0 := i_ne (rfl : what.toInt = what.toInt) (by decide : (0 : Int32).toInt = 0) c_84
                    refine lv_iload hx hb dX9_carried_168 (lv_at hl 2 rfl) ?_
                    exact hrt l_71 w_76 w_74 w_75 f_67 f_69 f_60 f_70 f_65 f_62 f_61 f_64 f_68 f_63 f_66 ⟨(by omega), (by omega), (by omega), hL53_77_0, hL53_77_5, hL53_77_2, hL53_77_1, hL53_77_4, hL53_77_7, hL53_77_3, hL53_77_6⟩ hP hD hS rfl dX9_carried_170
                  · have gc_84 : what.toInt = 0 := i_eq (rfl : what.toInt = what.toInt) (by decide : (0 : Int32).toInt = 0) c_84
                    refine lv_iload hx hb dX9_carried_163 (lv_at hl 1 rfl) ?_
                    refine lv_goto (tgt := 170) hx hb dX9_carried_165 (by decide) ?_
                    exact hrt l_72 w_76 w_74 w_75 f_67 f_69 f_60 f_70 f_65 f_62 f_61 f_64 f_68 f_63 f_66 ⟨(by omega), (by omega), (by omega), hL53_77_0, hL53_77_5, hL53_77_2, hL53_77_1, hL53_77_4, hL53_77_7, hL53_77_3, hL53_77_6⟩ hP hD hS rfl dX9_carried_170
                · have gc_83 : l_71.toInt = 1000000000 := i_eq (rfl : l_71.toInt = l_71.toInt) (by decide : (1000000000 : Int32).toInt = 1000000000) c_83
                  refine lv_bipush (v := (-2)) hx hb dX9_carried_156 (by decide) ?_
                  have k_85 : ((-2) : Int32).toInt = (-2) := by decide
                  exact hrt (-2) w_76 w_74 w_75 f_67 f_69 f_60 f_70 f_65 f_62 f_61 f_64 f_68 f_63 f_66 ⟨(by omega), (by omega), (by omega), hL53_77_0, hL53_77_5, hL53_77_2, hL53_77_1, hL53_77_4, hL53_77_7, hL53_77_3, hL53_77_6⟩ hP hD hS rfl dX9_carried_158
              · have gc_82 : 1 < v_band_walkers.toInt := i_nle (rfl : v_band_walkers.toInt = v_band_walkers.toInt) (by decide : (1 : Int32).toInt = 1) c_82
                refine lv_aload_n hx hb dX9_carried_76 rfl (lv_at hl 3 rfl) ?_
                refine gt_SP_SP_packing hx hb hts hown hK hP lwd_35 dX9_carried_77 ?_
                refine lv_iload_n hx hb dX9_carried_80 rfl (lv_at hl 4 rfl) ?_
                refine lv_iload_n hx hb dX9_carried_81 rfl (lv_at hl 5 rfl) ?_
                refine xv hD hS hA (xV (As := [.int i, .int all]) (rest := []) hx hb hml hown hts hK hP hD hS hA NS_ok hN hAe hl.1 ⟨Nat.le_refl _, Nat.le_refl _⟩ 31 rfl rfl rfl (c_X4_begin l D cy hs hH hT sH sT v_tape_size v_band_walkers v_band_loads v_band_pieces v_rules_clauses v_reader_end v_reader_at v_reader_length v_reader_letter v_reader_fault v_draft_clauses v_paces_version w_76 w_74 w_75 v_marches_told v_marches_changeMinutes v_marches_marching v_marches_gone v_search_known v_search_countHere v_search_countThere v_search_cost v_search_most v_search_found f_bytes f_knee f_weight f_limps f_bheft f_owner f_food f_miles f_slope f_rsteps f_rkind f_ryields f_rholds f_67 f_69 f_dsteps f_dkind f_dyields f_dholds f_dletters f_dstack f_60 f_70 f_sharing f_65 f_prow f_62 f_61 f_64 f_68 f_63 f_66 f_mrow f_minutesOn f_mtired f_here f_there f_statesHere f_statesThere f_listed f_stired f_burdens f_pacesOn f_restedOn f_behindOn f_behindFor f_first f_second f_plans f_tiredOn tS H.size i all (by omega) (by omega) (by omega) (by omega) (by omega) hr_weight hr_limps hr_bheft hr_owner hr_food hr_miles hL53_77_0 hL53_77_5 hL53_77_2 hL53_77_1 hL53_77_4 (by omega) (by omega)) (gi_V lwd_682 lwd_683 lwd_684 lwd_34 lwd_685) ⟨rfl, hd_X4_begin⟩ ⟨Nat.le_of_ble_eq_true rfl, Nat.le_of_ble_eq_true rfl⟩ rfl (Nat.le_of_ble_eq_true rfl) dX9_carried_82) (fun u_86 H locs hw hP hD hS => ?_)
                obtain ⟨zpacking_quicker_88, zpacking_loads_89, zrletters_90, zrstack_91, zcaps_92, zversions_93, zpheft_94, zholder_95, zcomes_96, zpcaps_97⟩ := u_86
                try dsimp only at hw hP hD
                obtain ⟨p_98, p_99, p_100, p_101, p_102, p_103, p_104, p_105⟩ := hw
                refine lv_aload_n hx hb dX9_carried_85 rfl (lv_at hl 3 rfl) ?_
                refine gt_SP_SP_packing hx hb hts hown hK hP lwd_35 dX9_carried_86 ?_
                refine lv_iload hx hb dX9_carried_89 (lv_at hl 0 rfl) ?_
                refine xv hD hS hA (xV (As := [.int l_73]) (rest := []) hx hb hml hown hts hK hP hD hS hA NS_ok hN hAe hl.1 ⟨Nat.le_refl _, Nat.le_refl _⟩ 31 rfl rfl rfl (c_X4_leaveOut l D cy hs hH hT sH sT v_tape_size v_band_walkers v_band_loads v_band_pieces v_rules_clauses v_reader_end v_reader_at v_reader_length v_reader_letter v_reader_fault v_draft_clauses v_paces_version zpacking_quicker_88 zpacking_loads_89 w_75 v_marches_told v_marches_changeMinutes v_marches_marching v_marches_gone v_search_known v_search_countHere v_search_countThere v_search_cost v_search_most v_search_found f_bytes f_knee f_weight f_limps f_bheft f_owner f_food f_miles f_slope f_rsteps f_rkind f_ryields f_rholds zrletters_90 zrstack_91 f_dsteps f_dkind f_dyields f_dholds f_dletters f_dstack zcaps_92 zversions_93 f_sharing zpheft_94 f_prow zholder_95 zcomes_96 zpcaps_97 f_68 f_63 f_66 f_mrow f_minutesOn f_mtired f_here f_there f_statesHere f_statesThere f_listed f_stired f_burdens f_pacesOn f_restedOn f_behindOn f_behindFor f_first f_second f_plans f_tiredOn tS H.size l_73 (by omega) p_103 p_104 (by omega)) (gi_V lwd_818 lwd_819 lwd_820 lwd_34 lwd_821) ⟨rfl, hd_X4_leaveOut⟩ ⟨Nat.le_of_ble_eq_true rfl, Nat.le_of_ble_eq_true rfl⟩ rfl (Nat.le_of_ble_eq_true rfl) dX9_carried_91) (fun u_106 H locs hw hP hD hS => ?_)
                obtain ⟨zholder_108, zcomes_109⟩ := u_106
                try dsimp only at hw hP hD
                obtain ⟨p_110, p_111⟩ := hw
                refine lv_aload_n hx hb dX9_carried_94 rfl (lv_at hl 3 rfl) ?_
                refine gt_SP_SP_packing hx hb hts hown hK hP lwd_35 dX9_carried_95 ?_
                refine lv_aload_n hx hb dX9_carried_98 rfl (lv_at hl 3 rfl) ?_
                refine gt_SP_SP_band hx hb hts hown hK hP lwd_19 dX9_carried_99 ?_
                refine gt_SP_band_weight hx hb hts hown hK hP lwd_208 dX9_carried_102 ?_
                refine lv_iload hx hb dX9_carried_105 (lv_at hl 0 rfl) ?_
                refine al_weight hx hb hK hP hr_weight (i_in (rfl : l_73.toInt = l_73.toInt) (by omega) (by omega)) dX9_carried_107 (fun n_112 en_112 bn_112 => ?_)
                refine xv hD hS hA (xV (As := [.int n_112]) (rest := []) hx hb hml hown hts hK hP hD hS hA NS_ok hN hAe hl.1 ⟨Nat.le_refl _, Nat.le_refl _⟩ 31 rfl rfl rfl (c_X4_addLoad l D cy hs hH hT sH sT v_tape_size v_band_walkers v_band_loads v_band_pieces v_rules_clauses v_reader_end v_reader_at v_reader_length v_reader_letter v_reader_fault v_draft_clauses v_paces_version zpacking_quicker_88 zpacking_loads_89 w_75 v_marches_told v_marches_changeMinutes v_marches_marching v_marches_gone v_search_known v_search_countHere v_search_countThere v_search_cost v_search_most v_search_found f_bytes f_knee f_weight f_limps f_bheft f_owner f_food f_miles f_slope f_rsteps f_rkind f_ryields f_rholds zrletters_90 zrstack_91 f_dsteps f_dkind f_dyields f_dholds f_dletters f_dstack zcaps_92 zversions_93 f_sharing zpheft_94 f_prow zholder_108 zcomes_109 zpcaps_97 f_68 f_63 f_66 f_mrow f_minutesOn f_mtired f_here f_there f_statesHere f_statesThere f_listed f_stired f_burdens f_pacesOn f_restedOn f_behindOn f_behindFor f_first f_second f_plans f_tiredOn tS H.size n_112 (by omega) p_102 p_110 (by omega)) (gi_V lwd_869 lwd_870 lwd_871 lwd_34 lwd_872) ⟨rfl, hd_X4_addLoad⟩ ⟨Nat.le_of_ble_eq_true rfl, Nat.le_of_ble_eq_true rfl⟩ rfl (Nat.le_of_ble_eq_true rfl) dX9_carried_108) (fun u_113 H locs hw hP hD hS => ?_)
                obtain ⟨zpacking_loads_115, zpheft_116, zholder_117⟩ := u_113
                try dsimp only at hw hP hD
                obtain ⟨p_118, p_119, p_120⟩ := hw
                refine lv_aload_n hx hb dX9_carried_111 rfl (lv_at hl 3 rfl) ?_
                refine gt_SP_SP_band hx hb hts hown hK hP lwd_19 dX9_carried_112 ?_
                refine lv_iload_n hx hb dX9_carried_115 rfl (lv_at hl 4 rfl) ?_
                refine lv_aload_n hx hb dX9_carried_116 rfl (lv_at hl 3 rfl) ?_
                refine gt_SP_SP_packing hx hb hts hown hK hP lwd_35 dX9_carried_117 ?_
                refine xi hD hS hA (xV (As := []) (rest := [.int i, .ref (hs 3)]) hx hb hml hown hts hK hP hD hS hA NS_ok hN hAe hl.1 ⟨Nat.le_refl _, Nat.le_refl _⟩ 31 rfl rfl rfl (c_X4_greatest l D cy hs hH hT sH sT v_tape_size v_band_walkers v_band_loads v_band_pieces v_rules_clauses v_reader_end v_reader_at v_reader_length v_reader_letter v_reader_fault v_draft_clauses v_paces_version zpacking_quicker_88 zpacking_loads_115 w_75 v_marches_told v_marches_changeMinutes v_marches_marching v_marches_gone v_search_known v_search_countHere v_search_countThere v_search_cost v_search_most v_search_found f_bytes f_knee f_weight f_limps f_bheft f_owner f_food f_miles f_slope f_rsteps f_rkind f_ryields f_rholds zrletters_90 zrstack_91 f_dsteps f_dkind f_dyields f_dholds f_dletters f_dstack zcaps_92 zversions_93 f_sharing zpheft_116 f_prow zholder_117 zcomes_109 zpcaps_97 f_68 f_63 f_66 f_mrow f_minutesOn f_mtired f_here f_there f_statesHere f_statesThere f_listed f_stired f_burdens f_pacesOn f_restedOn f_behindOn f_behindFor f_first f_second f_plans f_tiredOn tS H.size (by omega) (by omega) (by omega) p_101 p_119 p_120 p_111 p_105 hL53_77_7 hL53_77_3 hL53_77_6) (gi_V lwd_697 lwd_698 lwd_699 lwd_34 lwd_700) ⟨rfl, hd_X4_greatest⟩ ⟨Nat.le_of_ble_eq_true rfl, Nat.le_of_ble_eq_true rfl⟩ rfl (Nat.le_of_ble_eq_true rfl) dX9_carried_120) (fun r_122 u_121 H locs hw hP hD hS => ?_)
                obtain ⟨zpacking_looseCount_123, zroom_124, zloose_125, zreached_126⟩ := u_121
                try dsimp only at hw hP hD
                obtain ⟨p_127, p_128, p_129, p_130, p_131⟩ := hw
                refine xi hD hS hA (xV (As := [.int i, .int r_122]) (rest := []) hx hb hml hown hts hK hP hD hS hA NS_ok hN hAe hl.1 ⟨Nat.le_refl _, Nat.le_refl _⟩ 3 rfl rfl rfl (c_X0_minutes l D cy hs hH hT sH sT v_tape_size v_band_walkers v_band_loads v_band_pieces v_rules_clauses v_reader_end v_reader_at v_reader_length v_reader_letter v_reader_fault v_draft_clauses v_paces_version zpacking_quicker_88 zpacking_loads_115 zpacking_looseCount_123 v_marches_told v_marches_changeMinutes v_marches_marching v_marches_gone v_search_known v_search_countHere v_search_countThere v_search_cost v_search_most v_search_found f_bytes f_knee f_weight f_limps f_bheft f_owner f_food f_miles f_slope f_rsteps f_rkind f_ryields f_rholds zrletters_90 zrstack_91 f_dsteps f_dkind f_dyields f_dholds f_dletters f_dstack zcaps_92 zversions_93 f_sharing zpheft_116 f_prow zholder_117 zcomes_109 zpcaps_97 zroom_124 zloose_125 zreached_126 f_mrow f_minutesOn f_mtired f_here f_there f_statesHere f_statesThere f_listed f_stired f_burdens f_pacesOn f_restedOn f_behindOn f_behindFor f_first f_second f_plans f_tiredOn tS H.size i r_122 hr_miles (by omega)) (gi_V lwd_634 lwd_635 lwd_636 lwd_18 lwd_637) ⟨rfl, hd_X0_minutes⟩ ⟨Nat.le_of_ble_eq_true rfl, Nat.le_of_ble_eq_true rfl⟩ rfl (Nat.le_of_ble_eq_true rfl) dX9_carried_123) (fun r_133 u_132 H locs hw hP hD hS => ?_)
                try dsimp only at hw hP hD
                clear hw
                refine lv_istore (lv' := [(7, .int r_133), (6, .int l_73), (5, .int l_72), (4, .int l_71), (0, .ref (hs 0)), (1, .int i), (2, .int all), (3, .int what)]) hx hb dX9_carried_126 hl (by decide) rfl (fun ls hl => ?_)
                refine lv_iload hx hb dX9_carried_128 (lv_at hl 0 rfl) ?_
                refine lv_iload hx hb dX9_carried_130 (lv_at hl 3 rfl) ?_
                refine lv_icmp_ge (tgt := 143) hx hb dX9_carried_132 (by decide) (fun c_134 => ?_) (fun c_134 => ?_)
                · have gc_134 : l_71.toInt ≤ r_133.toInt := i_le (rfl : l_71.toInt = l_71.toInt) (rfl : r_133.toInt = r_133.toInt) c_134
                  obtain ⟨n_135, en_135⟩ : ∃ y : Int32, y = l_73 + 1 := ⟨_, rfl⟩
                  have tn_135 : n_135.toInt = l_73.toInt + 1 := i_add en_135 (rfl : l_73.toInt = l_73.toInt) (by decide : (1 : Int32).toInt = 1) (by omega) (by omega)
                  refine lv_iinc (v := n_135) (lv' := [(6, .int n_135), (7, .int r_133), (5, .int l_72), (4, .int l_71), (0, .ref (hs 0)), (1, .int i), (2, .int all), (3, .int what)]) hx hb dX9_carried_143 hl (k := 1) rfl (by rw [en_135]; rfl) (by decide) rfl (fun ls hl => ?_)
                  refine lv_goto (tgt := 53) hx hb dX9_carried_146 (by decide) ?_
                  exact ih53_77 zcaps_92 zcomes_109 zholder_117 zloose_125 zpcaps_97 zpheft_116 zreached_126 zrletters_90 zroom_124 zrstack_91 zversions_93 l_71 l_72 n_135 zpacking_loads_115 zpacking_looseCount_123 zpacking_quicker_88 p_101 p_111 p_120 p_130 p_105 p_119 p_131 p_129 (by omega) (by omega) (by omega) (by omega) (by omega) _ _ _ hP hD hS (lv_sub hl [0, 2, 3, 4, 5, 6, 7] rfl)
                · have gc_134 : r_133.toInt < l_71.toInt := i_nle (rfl : l_71.toInt = l_71.toInt) (rfl : r_133.toInt = r_133.toInt) c_134
                  refine lv_iload hx hb dX9_carried_135 (lv_at hl 0 rfl) ?_
                  refine lv_istore (lv' := [(4, .int r_133), (7, .int r_133), (6, .int l_73), (5, .int l_72), (0, .ref (hs 0)), (1, .int i), (2, .int all), (3, .int what)]) hx hb dX9_carried_137 hl (by decide) rfl (fun ls hl => ?_)
                  refine lv_iload hx hb dX9_carried_139 (lv_at hl 2 rfl) ?_
                  refine lv_istore (lv' := [(5, .int l_73), (4, .int r_133), (7, .int r_133), (6, .int l_73), (0, .ref (hs 0)), (1, .int i), (2, .int all), (3, .int what)]) hx hb dX9_carried_141 hl (by decide) rfl (fun ls hl => ?_)
                  obtain ⟨n_136, en_136⟩ : ∃ y : Int32, y = l_73 + 1 := ⟨_, rfl⟩
                  have tn_136 : n_136.toInt = l_73.toInt + 1 := i_add en_136 (rfl : l_73.toInt = l_73.toInt) (by decide : (1 : Int32).toInt = 1) (by omega) (by omega)
                  refine lv_iinc (v := n_136) (lv' := [(6, .int n_136), (5, .int l_73), (4, .int r_133), (7, .int r_133), (0, .ref (hs 0)), (1, .int i), (2, .int all), (3, .int what)]) hx hb dX9_carried_143 hl (k := 3) rfl (by rw [en_136]; rfl) (by decide) rfl (fun ls hl => ?_)
                  refine lv_goto (tgt := 53) hx hb dX9_carried_146 (by decide) ?_
                  exact ih53_77 zcaps_92 zcomes_109 zholder_117 zloose_125 zpcaps_97 zpheft_116 zreached_126 zrletters_90 zroom_124 zrstack_91 zversions_93 r_133 l_73 n_136 zpacking_loads_115 zpacking_looseCount_123 zpacking_quicker_88 p_101 p_111 p_120 p_130 p_105 p_119 p_131 p_129 (by omega) (by omega) (by omega) (by omega) (by omega) _ _ _ hP hD hS (lv_sub hl [0, 1, 2, 4, 5, 6, 7] rfl)
        have k_137 : ((-1) : Int32).toInt = (-1) := by decide
        have k_138 : (0 : Int32).toInt = 0 := by decide
        exact L53_77 8589934592 zcaps_16 zcomes_20 zholder_19 zloose_34 zpcaps_21 zpheft_18 zreached_35 zrletters_14 zroom_33 zrstack_15 zversions_17 r_42 (-1) 0 zpacking_loads_13 zpacking_looseCount_32 zpacking_quicker_12 p_25 p_28 p_27 p_39 p_29 p_26 p_40 p_38 (by omega) (by omega) (by omega) (by omega) (by omega) _ _ _ hP hD hS (lv_sub hl [0, 1, 2, 3, 4, 5, 6] rfl)
      · have gc_9 : r_6.toInt = 0 := i_eq (rfl : r_6.toInt = r_6.toInt) (by decide : (0 : Int32).toInt = 0) c_9
        refine lv_bipush (v := (-3)) hx hb dX9_carried_18 (by decide) ?_
        have k_139 : ((-3) : Int32).toInt = (-3) := by decide
        exact hrt (-3) v_packing_quicker v_packing_loads v_packing_looseCount f_rletters f_rstack f_caps f_versions f_pheft f_holder f_comes f_pcaps f_room f_loose f_reached ⟨(by omega), (by omega), (by omega), hr_caps, hr_pheft, hr_holder, hr_comes, hr_pcaps, hr_room, hr_loose, hr_reached⟩ hP hD hS rfl dX9_carried_20
set_option maxHeartbeats 16000000 in
set_option maxRecDepth 100000 in
theorem c_X9_minutesWithMule (l : Launch) (D : va_G) (cy : Nat → ClassId) (hs : Nat → Nat) (hH hT sH sT : Nat) (v_tape_size v_band_walkers v_band_loads v_band_pieces v_rules_clauses v_reader_end v_reader_at v_reader_length v_reader_letter v_reader_fault v_draft_clauses v_paces_version v_packing_quicker v_packing_loads v_packing_looseCount v_marches_told v_marches_changeMinutes v_marches_marching v_marches_gone v_search_known v_search_countHere v_search_countThere v_search_cost v_search_most : Int32) (v_search_found : Int64) (f_bytes f_knee f_weight f_limps f_bheft f_owner f_food f_miles f_slope f_rsteps f_rkind f_ryields f_rholds f_rletters f_rstack f_dsteps f_dkind f_dyields f_dholds f_dletters f_dstack f_caps f_versions f_sharing f_pheft f_prow f_holder f_comes f_pcaps f_room f_loose f_reached f_mrow f_minutesOn f_mtired : Nat → Int32) (f_here f_there : Nat → Int64) (f_statesHere f_statesThere f_listed f_stired f_burdens f_pacesOn f_restedOn f_behindOn f_behindFor f_first f_second : Nat → Int32) (f_plans f_tiredOn : Nat → Nat → Int32) (tS : Nat) (sz : Nat) (most : Int32) (bg : Int32) (en : Int32) (all : Int32) (hb_v_band_walkers : 0 ≤ v_band_walkers.toInt ∧ v_band_walkers.toInt ≤ 6) (hb_v_band_loads : 0 ≤ v_band_loads.toInt ∧ v_band_loads.toInt ≤ 9) (hb_v_band_pieces : 0 ≤ v_band_pieces.toInt ∧ v_band_pieces.toInt ≤ 10) (hb_v_rules_clauses : 0 ≤ v_rules_clauses.toInt ∧ v_rules_clauses.toInt ≤ 14) (hr_weight : rg (0) 250 f_weight) (hr_limps : rg (0) 1 f_limps) (hr_bheft : rg (0) 120 f_bheft) (hr_food : rg (0) 20 f_food) (hr_miles : rg (0) 20 f_miles) (hr_caps : rg (-1) 400 f_caps) (hr_sharing : rg (0) 21899 f_sharing) (ha_all : 0 ≤ all.toInt ∧ all.toInt ≤ 46655) : gMi l yX9_minutesWithMule cX9_minutesWithMule 9 .int 6 [.ref (hs 0), .int most, .int bg, .int en, .int all] D cy (wSP cy hs hH hT sH sT v_tape_size v_band_walkers v_band_loads v_band_pieces v_rules_clauses v_reader_end v_reader_at v_reader_length v_reader_letter v_reader_fault v_draft_clauses v_paces_version v_packing_quicker v_packing_loads v_packing_looseCount v_marches_told v_marches_changeMinutes v_marches_marching v_marches_gone v_search_known v_search_countHere v_search_countThere v_search_cost v_search_most v_search_found f_bytes f_knee f_weight f_limps f_bheft f_owner f_food f_miles f_slope f_rsteps f_rkind f_ryields f_rholds f_rletters f_rstack f_dsteps f_dkind f_dyields f_dholds f_dletters f_dstack f_caps f_versions f_sharing f_pheft f_prow f_holder f_comes f_pcaps f_room f_loose f_reached f_mrow f_minutesOn f_mtired f_here f_there f_statesHere f_statesThere f_listed f_stired f_burdens f_pacesOn f_restedOn f_behindOn f_behindFor f_first f_second f_plans f_tiredOn) (NS tS) sz (fun (r : Int32) (u : (Nat → Int32) × (Nat → Int32) × (Nat → Int32) × (Nat → Int32) × (Nat → Int32)) => (rg (-1) 400 (u.2.2.1)) ∧ (rg (0) 21899 (u.2.2.2.2))) (fun u => wSP cy hs hH hT sH sT v_tape_size v_band_walkers v_band_loads v_band_pieces v_rules_clauses v_reader_end v_reader_at v_reader_length v_reader_letter v_reader_fault v_draft_clauses v_paces_version v_packing_quicker v_packing_loads v_packing_looseCount v_marches_told v_marches_changeMinutes v_marches_marching v_marches_gone v_search_known v_search_countHere v_search_countThere v_search_cost v_search_most v_search_found f_bytes f_knee f_weight f_limps f_bheft f_owner f_food f_miles f_slope f_rsteps f_rkind f_ryields f_rholds (u.1) (u.2.1) f_dsteps f_dkind f_dyields f_dholds f_dletters f_dstack (u.2.2.1) (u.2.2.2.1) (u.2.2.2.2) f_pheft f_prow f_holder f_comes f_pcaps f_room f_loose f_reached f_mrow f_minutesOn f_mtired f_here f_there f_statesHere f_statesThere f_listed f_stired f_burdens f_pacesOn f_restedOn f_behindOn f_behindFor f_first f_second f_plans f_tiredOn) := by
  refine gMi_in (by decide) (Nat.le_of_ble_eq_true rfl) ?_
  intro p e s m args below meth c A ls Q hx hb hml hts hown hsz hP hK hD hN hAe hA hS hl hret
  subst hsz
  have hl : lv_has ls 9 [(0, .ref (hs 0)), (1, .int most), (2, .int bg), (3, .int en), (4, .int all)] := hl
  have hrt := fun (r : Int32) (f_rletters' : Nat → Int32) (f_rstack' : Nat → Int32) (f_caps' : Nat → Int32) (f_versions' : Nat → Int32) (f_sharing' : Nat → Int32) (hp : (rg (-1) 400 f_caps') ∧ (rg (0) 21899 f_sharing')) {H : Heap} {locs : List Loc} {pc : Nat} {ls : Array Slot} => hret r (f_rletters', f_rstack', f_caps', f_versions', f_sharing') (H := H) (locs := locs) (pc := pc) (ls := ls) hp
  clear hret
  refine lv_iconst (v := 0) hx hb dX9_minutesWithMule_0 (by decide) ?_
  refine lv_istore (lv' := [(5, .int 0), (0, .ref (hs 0)), (1, .int most), (2, .int bg), (3, .int en), (4, .int all)]) hx hb dX9_minutesWithMule_1 hl (by decide) rfl (fun ls hl => ?_)
  refine lv_iconst (v := 0) hx hb dX9_minutesWithMule_3 (by decide) ?_
  refine lv_istore (lv' := [(6, .int 0), (5, .int 0), (0, .ref (hs 0)), (1, .int most), (2, .int bg), (3, .int en), (4, .int all)]) hx hb dX9_minutesWithMule_4 hl (by decide) rfl (fun ls hl => ?_)
  have L6_15 : ∀ (n : Nat) (f_8 : Nat → Int32) (f_9 : Nat → Int32) (f_10 : Nat → Int32) (f_11 : Nat → Int32) (f_12 : Nat → Int32) (l_13 : Int32) (l_14 : Int32), (rg (-1) 400 f_8) → (rg (0) 21899 f_11) → (0 ≤ l_14.toInt ∧ l_14.toInt ≤ 10) → 11 - l_14.toInt < n → ∀ (H : Heap) (locs : List Loc) (ls : Array Slot), va_P D vwCl (wSP cy hs hH hT sH sT v_tape_size v_band_walkers v_band_loads v_band_pieces v_rules_clauses v_reader_end v_reader_at v_reader_length v_reader_letter v_reader_fault v_draft_clauses v_paces_version v_packing_quicker v_packing_loads v_packing_looseCount v_marches_told v_marches_changeMinutes v_marches_marching v_marches_gone v_search_known v_search_countHere v_search_countThere v_search_cost v_search_most v_search_found f_bytes f_knee f_weight f_limps f_bheft f_owner f_food f_miles f_slope f_rsteps f_rkind f_ryields f_rholds f_9 f_10 f_dsteps f_dkind f_dyields f_dholds f_dletters f_dstack f_8 f_12 f_11 f_pheft f_prow f_holder f_comes f_pcaps f_room f_loose f_reached f_mrow f_minutesOn f_mtired f_here f_there f_statesHere f_statesThere f_listed f_stired f_burdens f_pacesOn f_restedOn f_behindOn f_behindFor f_first f_second f_plans f_tiredOn) H → va_D A (wSP cy hs hH hT sH sT v_tape_size v_band_walkers v_band_loads v_band_pieces v_rules_clauses v_reader_end v_reader_at v_reader_length v_reader_letter v_reader_fault v_draft_clauses v_paces_version v_packing_quicker v_packing_loads v_packing_looseCount v_marches_told v_marches_changeMinutes v_marches_marching v_marches_gone v_search_known v_search_countHere v_search_countThere v_search_cost v_search_most v_search_found f_bytes f_knee f_weight f_limps f_bheft f_owner f_food f_miles f_slope f_rsteps f_rkind f_ryields f_rholds f_9 f_10 f_dsteps f_dkind f_dyields f_dholds f_dletters f_dstack f_8 f_12 f_11 f_pheft f_prow f_holder f_comes f_pcaps f_room f_loose f_reached f_mrow f_minutesOn f_mtired f_here f_there f_statesHere f_statesThere f_listed f_stired f_burdens f_pacesOn f_restedOn f_behindOn f_behindFor f_first f_second f_plans f_tiredOn) → va_S A s.heap H locs → lv_has ls 9 [(6, .int l_14), (5, .int l_13), (0, .ref (hs 0)), (1, .int most), (2, .int bg), (3, .int en), (4, .int all)] → W p l e (gRm 6) s m args below meth c H locs 0 0 Q (F0 m 6 ls []) := by
    intro n
    induction n with
    | zero => intro f_8 f_9 f_10 f_11 f_12 l_13 l_14 hL6_15_0 hL6_15_1 hL6_15_2 hm; exact absurd hm (by omega)
    | succ n ih6_15 =>
      intro f_8 f_9 f_10 f_11 f_12 l_13 l_14 hL6_15_0 hL6_15_1 hL6_15_2 hmL6_15 H locs ls hP hD hS hl
      refine lv_iload hx hb dX9_minutesWithMule_6 (lv_at hl 0 rfl) ?_
      refine lv_aload_n hx hb dX9_minutesWithMule_8 rfl (lv_at hl 2 rfl) ?_
      refine gt_SP_SP_band hx hb hts hown hK hP lwd_19 dX9_minutesWithMule_9 ?_
      refine gt_SP_band_pieces hx hb hts hown hK hP lwd_258 dX9_minutesWithMule_12 ?_
      refine lv_icmp_ge (tgt := 96) hx hb dX9_minutesWithMule_15 (by decide) (fun c_16 => ?_) (fun c_16 => ?_)
      · have gc_16 : v_band_pieces.toInt ≤ l_14.toInt := i_le (rfl : v_band_pieces.toInt = v_band_pieces.toInt) (rfl : l_14.toInt = l_14.toInt) c_16
        refine lv_iload hx hb dX9_minutesWithMule_96 (lv_at hl 1 rfl) ?_
        exact hrt l_13 f_9 f_10 f_8 f_12 f_11 ⟨hL6_15_0, hL6_15_1⟩ hP hD hS rfl dX9_minutesWithMule_98
      · have gc_16 : l_14.toInt < v_band_pieces.toInt := i_nle (rfl : v_band_pieces.toInt = v_band_pieces.toInt) (rfl : l_14.toInt = l_14.toInt) c_16
        refine lv_aload_n hx hb dX9_minutesWithMule_18 rfl (lv_at hl 2 rfl) ?_
        refine gt_SP_SP_band hx hb hts hown hK hP lwd_19 dX9_minutesWithMule_19 ?_
        refine lv_iload hx hb dX9_minutesWithMule_22 (lv_at hl 0 rfl) ?_
        refine xi hD hS hA (xV (As := [.int l_14]) (rest := []) hx hb hml hown hts hK hP hD hS hA NS_ok hN hAe hl.1 ⟨Nat.le_refl _, Nat.le_refl _⟩ 3 rfl rfl rfl (c_X0_allHeftAt l D cy hs hH hT sH sT v_tape_size v_band_walkers v_band_loads v_band_pieces v_rules_clauses v_reader_end v_reader_at v_reader_length v_reader_letter v_reader_fault v_draft_clauses v_paces_version v_packing_quicker v_packing_loads v_packing_looseCount v_marches_told v_marches_changeMinutes v_marches_marching v_marches_gone v_search_known v_search_countHere v_search_countThere v_search_cost v_search_most v_search_found f_bytes f_knee f_weight f_limps f_bheft f_owner f_food f_miles f_slope f_rsteps f_rkind f_ryields f_rholds f_9 f_10 f_dsteps f_dkind f_dyields f_dholds f_dletters f_dstack f_8 f_12 f_11 f_pheft f_prow f_holder f_comes f_pcaps f_room f_loose f_reached f_mrow f_minutesOn f_mtired f_here f_there f_statesHere f_statesThere f_listed f_stired f_burdens f_pacesOn f_restedOn f_behindOn f_behindFor f_first f_second f_plans f_tiredOn tS H.size l_14 (by omega) hr_bheft hr_food (by omega)) (gi_V lwd_840 lwd_841 lwd_842 lwd_18 lwd_843) ⟨rfl, hd_X0_allHeftAt⟩ ⟨Nat.le_of_ble_eq_true rfl, Nat.le_of_ble_eq_true rfl⟩ rfl (Nat.le_of_ble_eq_true rfl) dX9_minutesWithMule_24) (fun r_18 u_17 H locs hw hP hD hS => ?_)
        try dsimp only at hw hP hD
        clear hw
        refine lv_istore (lv' := [(7, .int r_18), (6, .int l_14), (5, .int l_13), (0, .ref (hs 0)), (1, .int most), (2, .int bg), (3, .int en), (4, .int all)]) hx hb dX9_minutesWithMule_27 hl (by decide) rfl (fun ls hl => ?_)
        refine lv_iload hx hb dX9_minutesWithMule_29 (lv_at hl 1 rfl) ?_
        refine lv_iload_n hx hb dX9_minutesWithMule_31 rfl (lv_at hl 5 rfl) ?_
        refine lv_icmp_lt (tgt := 51) hx hb dX9_minutesWithMule_32 (by decide) (fun c_19 => ?_) (fun c_19 => ?_)
        · have gc_19 : l_14.toInt < bg.toInt := i_lt (rfl : l_14.toInt = l_14.toInt) (rfl : bg.toInt = bg.toInt) c_19
          refine lv_aload_n hx hb dX9_minutesWithMule_51 rfl (lv_at hl 3 rfl) ?_
          refine gt_SP_SP_paces hx hb hts hown hK hP lwd_31 dX9_minutesWithMule_52 ?_
          refine lv_iload hx hb dX9_minutesWithMule_55 (lv_at hl 0 rfl) ?_
          refine lv_iload hx hb dX9_minutesWithMule_57 (lv_at hl 1 rfl) ?_
          refine lv_iload hx hb dX9_minutesWithMule_59 (lv_at hl 7 rfl) ?_
          refine xi hD hS hA (xV (As := [.int r_18, .int l_14, .int all]) (rest := []) hx hb hml hown hts hK hP hD hS hA NS_ok hN hAe hl.1 ⟨Nat.le_refl _, Nat.le_refl _⟩ 27 rfl rfl rfl (c_X3_sharedPace l D cy hs hH hT sH sT v_tape_size v_band_walkers v_band_loads v_band_pieces v_rules_clauses v_reader_end v_reader_at v_reader_length v_reader_letter v_reader_fault v_draft_clauses v_paces_version v_packing_quicker v_packing_loads v_packing_looseCount v_marches_told v_marches_changeMinutes v_marches_marching v_marches_gone v_search_known v_search_countHere v_search_countThere v_search_cost v_search_most v_search_found f_bytes f_knee f_weight f_limps f_bheft f_owner f_food f_miles f_slope f_rsteps f_rkind f_ryields f_rholds f_9 f_10 f_dsteps f_dkind f_dyields f_dholds f_dletters f_dstack f_8 f_12 f_11 f_pheft f_prow f_holder f_comes f_pcaps f_room f_loose f_reached f_mrow f_minutesOn f_mtired f_here f_there f_statesHere f_statesThere f_listed f_stired f_burdens f_pacesOn f_restedOn f_behindOn f_behindFor f_first f_second f_plans f_tiredOn tS H.size r_18 l_14 all (by omega) (by omega) hr_weight hr_limps hr_miles hL6_15_0 hL6_15_1 (by omega) (by omega)) (gi_V lwd_621 lwd_622 lwd_623 lwd_30 lwd_624) ⟨rfl, hd_X3_sharedPace⟩ ⟨Nat.le_of_ble_eq_true rfl, Nat.le_of_ble_eq_true rfl⟩ rfl (Nat.le_of_ble_eq_true rfl) dX9_minutesWithMule_61) (fun r_21 u_20 H locs hw hP hD hS => ?_)
          obtain ⟨zrletters_22, zrstack_23, zcaps_24, zversions_25, zsharing_26⟩ := u_20
          try dsimp only at hw hP hD
          obtain ⟨p_27, p_28, p_29⟩ := hw
          refine lv_istore (lv' := [(8, .int r_21), (7, .int r_18), (6, .int l_14), (5, .int l_13), (0, .ref (hs 0)), (1, .int most), (2, .int bg), (3, .int en), (4, .int all)]) hx hb dX9_minutesWithMule_64 hl (by decide) rfl (fun ls hl => ?_)
          refine lv_iload hx hb dX9_minutesWithMule_66 (lv_at hl 0 rfl) ?_
          refine lv_if_ne (tgt := 74) hx hb dX9_minutesWithMule_68 (by decide) (fun c_30 => ?_) (fun c_30 => ?_)
          · have gc_30 : r_21.toInt ≠ 0 := i_ne (rfl : r_21.toInt = r_21.toInt) (by decide : (0 : Int32).toInt = 0) c_30
            refine lv_iload hx hb dX9_minutesWithMule_74 (lv_at hl 3 rfl) ?_
            refine lv_aload_n hx hb dX9_minutesWithMule_76 rfl (lv_at hl 4 rfl) ?_
            refine gt_SP_SP_band hx hb hts hown hK hP lwd_19 dX9_minutesWithMule_77 ?_
            refine lv_iload hx hb dX9_minutesWithMule_80 (lv_at hl 2 rfl) ?_
            refine lv_iload hx hb dX9_minutesWithMule_82 (lv_at hl 0 rfl) ?_
            refine xi hD hS hA (xV (As := [.int l_14, .int r_21]) (rest := [.int l_13]) hx hb hml hown hts hK hP hD hS hA NS_ok hN hAe hl.1 ⟨Nat.le_refl _, Nat.le_refl _⟩ 3 rfl rfl rfl (c_X0_minutes l D cy hs hH hT sH sT v_tape_size v_band_walkers v_band_loads v_band_pieces v_rules_clauses v_reader_end v_reader_at v_reader_length v_reader_letter v_reader_fault v_draft_clauses v_paces_version v_packing_quicker v_packing_loads v_packing_looseCount v_marches_told v_marches_changeMinutes v_marches_marching v_marches_gone v_search_known v_search_countHere v_search_countThere v_search_cost v_search_most v_search_found f_bytes f_knee f_weight f_limps f_bheft f_owner f_food f_miles f_slope f_rsteps f_rkind f_ryields f_rholds zrletters_22 zrstack_23 f_dsteps f_dkind f_dyields f_dholds f_dletters f_dstack zcaps_24 zversions_25 zsharing_26 f_pheft f_prow f_holder f_comes f_pcaps f_room f_loose f_reached f_mrow f_minutesOn f_mtired f_here f_there f_statesHere f_statesThere f_listed f_stired f_burdens f_pacesOn f_restedOn f_behindOn f_behindFor f_first f_second f_plans f_tiredOn tS H.size l_14 r_21 hr_miles (by omega)) (gi_V lwd_634 lwd_635 lwd_636 lwd_18 lwd_637) ⟨rfl, hd_X0_minutes⟩ ⟨Nat.le_of_ble_eq_true rfl, Nat.le_of_ble_eq_true rfl⟩ rfl (Nat.le_of_ble_eq_true rfl) dX9_minutesWithMule_84) (fun r_32 u_31 H locs hw hP hD hS => ?_)
            try dsimp only at hw hP hD
            clear hw
            refine lv_iadd hx hb dX9_minutesWithMule_87 ?_
            refine lv_topi (fun n_33 en_33 => ?_)
            refine lv_istore (lv' := [(5, .int n_33), (8, .int r_21), (7, .int r_18), (6, .int l_14), (0, .ref (hs 0)), (1, .int most), (2, .int bg), (3, .int en), (4, .int all)]) hx hb dX9_minutesWithMule_88 hl (by decide) rfl (fun ls hl => ?_)
            obtain ⟨n_34, en_34⟩ : ∃ y : Int32, y = l_14 + 1 := ⟨_, rfl⟩
            have tn_34 : n_34.toInt = l_14.toInt + 1 := i_add en_34 (rfl : l_14.toInt = l_14.toInt) (by decide : (1 : Int32).toInt = 1) (by omega) (by omega)
            refine lv_iinc (v := n_34) (lv' := [(6, .int n_34), (5, .int n_33), (8, .int r_21), (7, .int r_18), (0, .ref (hs 0)), (1, .int most), (2, .int bg), (3, .int en), (4, .int all)]) hx hb dX9_minutesWithMule_90 hl (k := 3) rfl (by rw [en_34]; rfl) (by decide) rfl (fun ls hl => ?_)
            refine lv_goto (tgt := 6) hx hb dX9_minutesWithMule_93 (by decide) ?_
            exact ih6_15 zcaps_24 zrletters_22 zrstack_23 zsharing_26 zversions_25 n_33 n_34 p_28 p_29 (by omega) (by omega) _ _ _ hP hD hS (lv_sub hl [0, 1, 4, 5, 6, 7, 8] rfl)
          · have gc_30 : r_21.toInt = 0 := i_eq (rfl : r_21.toInt = r_21.toInt) (by decide : (0 : Int32).toInt = 0) c_30
            refine lv_ldc hx hb hown (hts _ lwd_778) dX9_minutesWithMule_71 ?_
            have k_35 : (1000000000 : Int32).toInt = 1000000000 := by decide
            exact hrt 1000000000 zrletters_22 zrstack_23 zcaps_24 zversions_25 zsharing_26 ⟨p_28, p_29⟩ hP hD hS rfl dX9_minutesWithMule_73
        · have gc_19 : bg.toInt ≤ l_14.toInt := i_nlt (rfl : l_14.toInt = l_14.toInt) (rfl : bg.toInt = bg.toInt) c_19
          refine lv_iload hx hb dX9_minutesWithMule_35 (lv_at hl 1 rfl) ?_
          refine lv_iload_n hx hb dX9_minutesWithMule_37 rfl (lv_at hl 6 rfl) ?_
          refine lv_icmp_ge (tgt := 51) hx hb dX9_minutesWithMule_38 (by decide) (fun c_36 => ?_) (fun c_36 => ?_)
          · have gc_36 : en.toInt ≤ l_14.toInt := i_le (rfl : en.toInt = en.toInt) (rfl : l_14.toInt = l_14.toInt) c_36
            refine lv_aload_n hx hb dX9_minutesWithMule_51 rfl (lv_at hl 3 rfl) ?_
            refine gt_SP_SP_paces hx hb hts hown hK hP lwd_31 dX9_minutesWithMule_52 ?_
            refine lv_iload hx hb dX9_minutesWithMule_55 (lv_at hl 0 rfl) ?_
            refine lv_iload hx hb dX9_minutesWithMule_57 (lv_at hl 1 rfl) ?_
            refine lv_iload hx hb dX9_minutesWithMule_59 (lv_at hl 7 rfl) ?_
            refine xi hD hS hA (xV (As := [.int r_18, .int l_14, .int all]) (rest := []) hx hb hml hown hts hK hP hD hS hA NS_ok hN hAe hl.1 ⟨Nat.le_refl _, Nat.le_refl _⟩ 27 rfl rfl rfl (c_X3_sharedPace l D cy hs hH hT sH sT v_tape_size v_band_walkers v_band_loads v_band_pieces v_rules_clauses v_reader_end v_reader_at v_reader_length v_reader_letter v_reader_fault v_draft_clauses v_paces_version v_packing_quicker v_packing_loads v_packing_looseCount v_marches_told v_marches_changeMinutes v_marches_marching v_marches_gone v_search_known v_search_countHere v_search_countThere v_search_cost v_search_most v_search_found f_bytes f_knee f_weight f_limps f_bheft f_owner f_food f_miles f_slope f_rsteps f_rkind f_ryields f_rholds f_9 f_10 f_dsteps f_dkind f_dyields f_dholds f_dletters f_dstack f_8 f_12 f_11 f_pheft f_prow f_holder f_comes f_pcaps f_room f_loose f_reached f_mrow f_minutesOn f_mtired f_here f_there f_statesHere f_statesThere f_listed f_stired f_burdens f_pacesOn f_restedOn f_behindOn f_behindFor f_first f_second f_plans f_tiredOn tS H.size r_18 l_14 all (by omega) (by omega) hr_weight hr_limps hr_miles hL6_15_0 hL6_15_1 (by omega) (by omega)) (gi_V lwd_621 lwd_622 lwd_623 lwd_30 lwd_624) ⟨rfl, hd_X3_sharedPace⟩ ⟨Nat.le_of_ble_eq_true rfl, Nat.le_of_ble_eq_true rfl⟩ rfl (Nat.le_of_ble_eq_true rfl) dX9_minutesWithMule_61) (fun r_38 u_37 H locs hw hP hD hS => ?_)
            obtain ⟨zrletters_39, zrstack_40, zcaps_41, zversions_42, zsharing_43⟩ := u_37
            try dsimp only at hw hP hD
            obtain ⟨p_44, p_45, p_46⟩ := hw
            refine lv_istore (lv' := [(8, .int r_38), (7, .int r_18), (6, .int l_14), (5, .int l_13), (0, .ref (hs 0)), (1, .int most), (2, .int bg), (3, .int en), (4, .int all)]) hx hb dX9_minutesWithMule_64 hl (by decide) rfl (fun ls hl => ?_)
            refine lv_iload hx hb dX9_minutesWithMule_66 (lv_at hl 0 rfl) ?_
            refine lv_if_ne (tgt := 74) hx hb dX9_minutesWithMule_68 (by decide) (fun c_47 => ?_) (fun c_47 => ?_)
            · have gc_47 : r_38.toInt ≠ 0 := i_ne (rfl : r_38.toInt = r_38.toInt) (by decide : (0 : Int32).toInt = 0) c_47
              refine lv_iload hx hb dX9_minutesWithMule_74 (lv_at hl 3 rfl) ?_
              refine lv_aload_n hx hb dX9_minutesWithMule_76 rfl (lv_at hl 4 rfl) ?_
              refine gt_SP_SP_band hx hb hts hown hK hP lwd_19 dX9_minutesWithMule_77 ?_
              refine lv_iload hx hb dX9_minutesWithMule_80 (lv_at hl 2 rfl) ?_
              refine lv_iload hx hb dX9_minutesWithMule_82 (lv_at hl 0 rfl) ?_
              refine xi hD hS hA (xV (As := [.int l_14, .int r_38]) (rest := [.int l_13]) hx hb hml hown hts hK hP hD hS hA NS_ok hN hAe hl.1 ⟨Nat.le_refl _, Nat.le_refl _⟩ 3 rfl rfl rfl (c_X0_minutes l D cy hs hH hT sH sT v_tape_size v_band_walkers v_band_loads v_band_pieces v_rules_clauses v_reader_end v_reader_at v_reader_length v_reader_letter v_reader_fault v_draft_clauses v_paces_version v_packing_quicker v_packing_loads v_packing_looseCount v_marches_told v_marches_changeMinutes v_marches_marching v_marches_gone v_search_known v_search_countHere v_search_countThere v_search_cost v_search_most v_search_found f_bytes f_knee f_weight f_limps f_bheft f_owner f_food f_miles f_slope f_rsteps f_rkind f_ryields f_rholds zrletters_39 zrstack_40 f_dsteps f_dkind f_dyields f_dholds f_dletters f_dstack zcaps_41 zversions_42 zsharing_43 f_pheft f_prow f_holder f_comes f_pcaps f_room f_loose f_reached f_mrow f_minutesOn f_mtired f_here f_there f_statesHere f_statesThere f_listed f_stired f_burdens f_pacesOn f_restedOn f_behindOn f_behindFor f_first f_second f_plans f_tiredOn tS H.size l_14 r_38 hr_miles (by omega)) (gi_V lwd_634 lwd_635 lwd_636 lwd_18 lwd_637) ⟨rfl, hd_X0_minutes⟩ ⟨Nat.le_of_ble_eq_true rfl, Nat.le_of_ble_eq_true rfl⟩ rfl (Nat.le_of_ble_eq_true rfl) dX9_minutesWithMule_84) (fun r_49 u_48 H locs hw hP hD hS => ?_)
              try dsimp only at hw hP hD
              clear hw
              refine lv_iadd hx hb dX9_minutesWithMule_87 ?_
              refine lv_topi (fun n_50 en_50 => ?_)
              refine lv_istore (lv' := [(5, .int n_50), (8, .int r_38), (7, .int r_18), (6, .int l_14), (0, .ref (hs 0)), (1, .int most), (2, .int bg), (3, .int en), (4, .int all)]) hx hb dX9_minutesWithMule_88 hl (by decide) rfl (fun ls hl => ?_)
              obtain ⟨n_51, en_51⟩ : ∃ y : Int32, y = l_14 + 1 := ⟨_, rfl⟩
              have tn_51 : n_51.toInt = l_14.toInt + 1 := i_add en_51 (rfl : l_14.toInt = l_14.toInt) (by decide : (1 : Int32).toInt = 1) (by omega) (by omega)
              refine lv_iinc (v := n_51) (lv' := [(6, .int n_51), (5, .int n_50), (8, .int r_38), (7, .int r_18), (0, .ref (hs 0)), (1, .int most), (2, .int bg), (3, .int en), (4, .int all)]) hx hb dX9_minutesWithMule_90 hl (k := 3) rfl (by rw [en_51]; rfl) (by decide) rfl (fun ls hl => ?_)
              refine lv_goto (tgt := 6) hx hb dX9_minutesWithMule_93 (by decide) ?_
              exact ih6_15 zcaps_41 zrletters_39 zrstack_40 zsharing_43 zversions_42 n_50 n_51 p_45 p_46 (by omega) (by omega) _ _ _ hP hD hS (lv_sub hl [0, 1, 4, 5, 6, 7, 8] rfl)
            · have gc_47 : r_38.toInt = 0 := i_eq (rfl : r_38.toInt = r_38.toInt) (by decide : (0 : Int32).toInt = 0) c_47
              refine lv_ldc hx hb hown (hts _ lwd_778) dX9_minutesWithMule_71 ?_
              have k_52 : (1000000000 : Int32).toInt = 1000000000 := by decide
              exact hrt 1000000000 zrletters_39 zrstack_40 zcaps_41 zversions_42 zsharing_43 ⟨p_45, p_46⟩ hP hD hS rfl dX9_minutesWithMule_73
          · have gc_36 : l_14.toInt < en.toInt := i_nle (rfl : en.toInt = en.toInt) (rfl : l_14.toInt = l_14.toInt) c_36
            refine lv_iconst (v := 0) hx hb dX9_minutesWithMule_41 (by decide) ?_
            refine lv_iload hx hb dX9_minutesWithMule_42 (lv_at hl 0 rfl) ?_
            refine lv_iload_n hx hb dX9_minutesWithMule_44 rfl (lv_at hl 4 rfl) ?_
            refine lv_isub hx hb dX9_minutesWithMule_45 ?_
            refine lv_topi (fun n_53 en_53 => ?_)
            refine va_mmax hx hb (by rw [hml]; exact hl.1.symm) hown (hts _ lwd_816) (hts _ lwd_532) (hts _ lwd_529) (hts _ lwd_533) (Nat.le_of_ble_eq_true rfl) (Nat.le_of_ble_eq_true rfl) (Nat.zero_le _) (Nat.zero_le _) dX9_minutesWithMule_46 ?_
            refine lv_topi (fun n_54 en_54 => ?_)
            have tn_54 := i_max en_54 (by decide : (0 : Int32).toInt = 0) (rfl : n_53.toInt = n_53.toInt)
            refine lv_istore (lv' := [(7, .int n_54), (6, .int l_14), (5, .int l_13), (0, .ref (hs 0)), (1, .int most), (2, .int bg), (3, .int en), (4, .int all)]) hx hb dX9_minutesWithMule_49 hl (by decide) rfl (fun ls hl => ?_)
            refine lv_aload_n hx hb dX9_minutesWithMule_51 rfl (lv_at hl 3 rfl) ?_
            refine gt_SP_SP_paces hx hb hts hown hK hP lwd_31 dX9_minutesWithMule_52 ?_
            refine lv_iload hx hb dX9_minutesWithMule_55 (lv_at hl 0 rfl) ?_
            refine lv_iload hx hb dX9_minutesWithMule_57 (lv_at hl 1 rfl) ?_
            refine lv_iload hx hb dX9_minutesWithMule_59 (lv_at hl 7 rfl) ?_
            refine xi hD hS hA (xV (As := [.int n_54, .int l_14, .int all]) (rest := []) hx hb hml hown hts hK hP hD hS hA NS_ok hN hAe hl.1 ⟨Nat.le_refl _, Nat.le_refl _⟩ 27 rfl rfl rfl (c_X3_sharedPace l D cy hs hH hT sH sT v_tape_size v_band_walkers v_band_loads v_band_pieces v_rules_clauses v_reader_end v_reader_at v_reader_length v_reader_letter v_reader_fault v_draft_clauses v_paces_version v_packing_quicker v_packing_loads v_packing_looseCount v_marches_told v_marches_changeMinutes v_marches_marching v_marches_gone v_search_known v_search_countHere v_search_countThere v_search_cost v_search_most v_search_found f_bytes f_knee f_weight f_limps f_bheft f_owner f_food f_miles f_slope f_rsteps f_rkind f_ryields f_rholds f_9 f_10 f_dsteps f_dkind f_dyields f_dholds f_dletters f_dstack f_8 f_12 f_11 f_pheft f_prow f_holder f_comes f_pcaps f_room f_loose f_reached f_mrow f_minutesOn f_mtired f_here f_there f_statesHere f_statesThere f_listed f_stired f_burdens f_pacesOn f_restedOn f_behindOn f_behindFor f_first f_second f_plans f_tiredOn tS H.size n_54 l_14 all (by omega) (by omega) hr_weight hr_limps hr_miles hL6_15_0 hL6_15_1 (by omega) (by omega)) (gi_V lwd_621 lwd_622 lwd_623 lwd_30 lwd_624) ⟨rfl, hd_X3_sharedPace⟩ ⟨Nat.le_of_ble_eq_true rfl, Nat.le_of_ble_eq_true rfl⟩ rfl (Nat.le_of_ble_eq_true rfl) dX9_minutesWithMule_61) (fun r_56 u_55 H locs hw hP hD hS => ?_)
            obtain ⟨zrletters_57, zrstack_58, zcaps_59, zversions_60, zsharing_61⟩ := u_55
            try dsimp only at hw hP hD
            obtain ⟨p_62, p_63, p_64⟩ := hw
            refine lv_istore (lv' := [(8, .int r_56), (7, .int n_54), (6, .int l_14), (5, .int l_13), (0, .ref (hs 0)), (1, .int most), (2, .int bg), (3, .int en), (4, .int all)]) hx hb dX9_minutesWithMule_64 hl (by decide) rfl (fun ls hl => ?_)
            refine lv_iload hx hb dX9_minutesWithMule_66 (lv_at hl 0 rfl) ?_
            refine lv_if_ne (tgt := 74) hx hb dX9_minutesWithMule_68 (by decide) (fun c_65 => ?_) (fun c_65 => ?_)
            · have gc_65 : r_56.toInt ≠ 0 := i_ne (rfl : r_56.toInt = r_56.toInt) (by decide : (0 : Int32).toInt = 0) c_65
              refine lv_iload hx hb dX9_minutesWithMule_74 (lv_at hl 3 rfl) ?_
              refine lv_aload_n hx hb dX9_minutesWithMule_76 rfl (lv_at hl 4 rfl) ?_
              refine gt_SP_SP_band hx hb hts hown hK hP lwd_19 dX9_minutesWithMule_77 ?_
              refine lv_iload hx hb dX9_minutesWithMule_80 (lv_at hl 2 rfl) ?_
              refine lv_iload hx hb dX9_minutesWithMule_82 (lv_at hl 0 rfl) ?_
              refine xi hD hS hA (xV (As := [.int l_14, .int r_56]) (rest := [.int l_13]) hx hb hml hown hts hK hP hD hS hA NS_ok hN hAe hl.1 ⟨Nat.le_refl _, Nat.le_refl _⟩ 3 rfl rfl rfl (c_X0_minutes l D cy hs hH hT sH sT v_tape_size v_band_walkers v_band_loads v_band_pieces v_rules_clauses v_reader_end v_reader_at v_reader_length v_reader_letter v_reader_fault v_draft_clauses v_paces_version v_packing_quicker v_packing_loads v_packing_looseCount v_marches_told v_marches_changeMinutes v_marches_marching v_marches_gone v_search_known v_search_countHere v_search_countThere v_search_cost v_search_most v_search_found f_bytes f_knee f_weight f_limps f_bheft f_owner f_food f_miles f_slope f_rsteps f_rkind f_ryields f_rholds zrletters_57 zrstack_58 f_dsteps f_dkind f_dyields f_dholds f_dletters f_dstack zcaps_59 zversions_60 zsharing_61 f_pheft f_prow f_holder f_comes f_pcaps f_room f_loose f_reached f_mrow f_minutesOn f_mtired f_here f_there f_statesHere f_statesThere f_listed f_stired f_burdens f_pacesOn f_restedOn f_behindOn f_behindFor f_first f_second f_plans f_tiredOn tS H.size l_14 r_56 hr_miles (by omega)) (gi_V lwd_634 lwd_635 lwd_636 lwd_18 lwd_637) ⟨rfl, hd_X0_minutes⟩ ⟨Nat.le_of_ble_eq_true rfl, Nat.le_of_ble_eq_true rfl⟩ rfl (Nat.le_of_ble_eq_true rfl) dX9_minutesWithMule_84) (fun r_67 u_66 H locs hw hP hD hS => ?_)
              try dsimp only at hw hP hD
              clear hw
              refine lv_iadd hx hb dX9_minutesWithMule_87 ?_
              refine lv_topi (fun n_68 en_68 => ?_)
              refine lv_istore (lv' := [(5, .int n_68), (8, .int r_56), (7, .int n_54), (6, .int l_14), (0, .ref (hs 0)), (1, .int most), (2, .int bg), (3, .int en), (4, .int all)]) hx hb dX9_minutesWithMule_88 hl (by decide) rfl (fun ls hl => ?_)
              obtain ⟨n_69, en_69⟩ : ∃ y : Int32, y = l_14 + 1 := ⟨_, rfl⟩
              have tn_69 : n_69.toInt = l_14.toInt + 1 := i_add en_69 (rfl : l_14.toInt = l_14.toInt) (by decide : (1 : Int32).toInt = 1) (by omega) (by omega)
              refine lv_iinc (v := n_69) (lv' := [(6, .int n_69), (5, .int n_68), (8, .int r_56), (7, .int n_54), (0, .ref (hs 0)), (1, .int most), (2, .int bg), (3, .int en), (4, .int all)]) hx hb dX9_minutesWithMule_90 hl (k := 3) rfl (by rw [en_69]; rfl) (by decide) rfl (fun ls hl => ?_)
              refine lv_goto (tgt := 6) hx hb dX9_minutesWithMule_93 (by decide) ?_
              exact ih6_15 zcaps_59 zrletters_57 zrstack_58 zsharing_61 zversions_60 n_68 n_69 p_63 p_64 (by omega) (by omega) _ _ _ hP hD hS (lv_sub hl [0, 1, 4, 5, 6, 7, 8] rfl)
            · have gc_65 : r_56.toInt = 0 := i_eq (rfl : r_56.toInt = r_56.toInt) (by decide : (0 : Int32).toInt = 0) c_65
              refine lv_ldc hx hb hown (hts _ lwd_778) dX9_minutesWithMule_71 ?_
              have k_70 : (1000000000 : Int32).toInt = 1000000000 := by decide
              exact hrt 1000000000 zrletters_57 zrstack_58 zcaps_59 zversions_60 zsharing_61 ⟨p_63, p_64⟩ hP hD hS rfl dX9_minutesWithMule_73
  have k_71 : (0 : Int32).toInt = 0 := by decide
  have k_72 : (0 : Int32).toInt = 0 := by decide
  exact L6_15 8589934592 f_caps f_rletters f_rstack f_sharing f_versions 0 0 hr_caps hr_sharing (by omega) (by omega) _ _ _ hP hD hS (lv_sub hl [0, 1, 2, 3, 4, 5, 6] rfl)
set_option maxHeartbeats 16000000 in
set_option maxRecDepth 100000 in
theorem c_X9_mule (l : Launch) (D : va_G) (cy : Nat → ClassId) (hs : Nat → Nat) (hH hT sH sT : Nat) (v_tape_size v_band_walkers v_band_loads v_band_pieces v_rules_clauses v_reader_end v_reader_at v_reader_length v_reader_letter v_reader_fault v_draft_clauses v_paces_version v_packing_quicker v_packing_loads v_packing_looseCount v_marches_told v_marches_changeMinutes v_marches_marching v_marches_gone v_search_known v_search_countHere v_search_countThere v_search_cost v_search_most : Int32) (v_search_found : Int64) (f_bytes f_knee f_weight f_limps f_bheft f_owner f_food f_miles f_slope f_rsteps f_rkind f_ryields f_rholds f_rletters f_rstack f_dsteps f_dkind f_dyields f_dholds f_dletters f_dstack f_caps f_versions f_sharing f_pheft f_prow f_holder f_comes f_pcaps f_room f_loose f_reached f_mrow f_minutesOn f_mtired : Nat → Int32) (f_here f_there : Nat → Int64) (f_statesHere f_statesThere f_listed f_stired f_burdens f_pacesOn f_restedOn f_behindOn f_behindFor f_first f_second : Nat → Int32) (f_plans f_tiredOn : Nat → Nat → Int32) (tS : Nat) (sz : Nat) (most : Int32) (dd : Int32) (all : Int32) (what : Int32) (hb_v_band_walkers : 0 ≤ v_band_walkers.toInt ∧ v_band_walkers.toInt ≤ 6) (hb_v_band_loads : 0 ≤ v_band_loads.toInt ∧ v_band_loads.toInt ≤ 9) (hb_v_band_pieces : 0 ≤ v_band_pieces.toInt ∧ v_band_pieces.toInt ≤ 10) (hb_v_rules_clauses : 0 ≤ v_rules_clauses.toInt ∧ v_rules_clauses.toInt ≤ 14) (hr_weight : rg (0) 250 f_weight) (hr_limps : rg (0) 1 f_limps) (hr_bheft : rg (0) 120 f_bheft) (hr_food : rg (0) 20 f_food) (hr_miles : rg (0) 20 f_miles) (hr_caps : rg (-1) 400 f_caps) (hr_sharing : rg (0) 21899 f_sharing) : gMi l yX9_mule cX9_mule 10 .int 7 [.ref (hs 0), .int most, .int dd, .int all, .int what] D cy (wSP cy hs hH hT sH sT v_tape_size v_band_walkers v_band_loads v_band_pieces v_rules_clauses v_reader_end v_reader_at v_reader_length v_reader_letter v_reader_fault v_draft_clauses v_paces_version v_packing_quicker v_packing_loads v_packing_looseCount v_marches_told v_marches_changeMinutes v_marches_marching v_marches_gone v_search_known v_search_countHere v_search_countThere v_search_cost v_search_most v_search_found f_bytes f_knee f_weight f_limps f_bheft f_owner f_food f_miles f_slope f_rsteps f_rkind f_ryields f_rholds f_rletters f_rstack f_dsteps f_dkind f_dyields f_dholds f_dletters f_dstack f_caps f_versions f_sharing f_pheft f_prow f_holder f_comes f_pcaps f_room f_loose f_reached f_mrow f_minutesOn f_mtired f_here f_there f_statesHere f_statesThere f_listed f_stired f_burdens f_pacesOn f_restedOn f_behindOn f_behindFor f_first f_second f_plans f_tiredOn) (NS tS) sz (fun (r : Int32) (u : (Nat → Int32) × (Nat → Int32) × (Nat → Int32) × (Nat → Int32) × (Nat → Int32)) => (rg (-1) 400 (u.2.2.1)) ∧ (rg (0) 21899 (u.2.2.2.2))) (fun u => wSP cy hs hH hT sH sT v_tape_size v_band_walkers v_band_loads v_band_pieces v_rules_clauses v_reader_end v_reader_at v_reader_length v_reader_letter v_reader_fault v_draft_clauses v_paces_version v_packing_quicker v_packing_loads v_packing_looseCount v_marches_told v_marches_changeMinutes v_marches_marching v_marches_gone v_search_known v_search_countHere v_search_countThere v_search_cost v_search_most v_search_found f_bytes f_knee f_weight f_limps f_bheft f_owner f_food f_miles f_slope f_rsteps f_rkind f_ryields f_rholds (u.1) (u.2.1) f_dsteps f_dkind f_dyields f_dholds f_dletters f_dstack (u.2.2.1) (u.2.2.2.1) (u.2.2.2.2) f_pheft f_prow f_holder f_comes f_pcaps f_room f_loose f_reached f_mrow f_minutesOn f_mtired f_here f_there f_statesHere f_statesThere f_listed f_stired f_burdens f_pacesOn f_restedOn f_behindOn f_behindFor f_first f_second f_plans f_tiredOn) := by
  refine gMi_in (by decide) (Nat.le_of_ble_eq_true rfl) ?_
  intro p e s m args below meth c A ls Q hx hb hml hts hown hsz hP hK hD hN hAe hA hS hl hret
  subst hsz
  have hl : lv_has ls 10 [(0, .ref (hs 0)), (1, .int most), (2, .int dd), (3, .int all), (4, .int what)] := hl
  have hrt := fun (r : Int32) (f_rletters' : Nat → Int32) (f_rstack' : Nat → Int32) (f_caps' : Nat → Int32) (f_versions' : Nat → Int32) (f_sharing' : Nat → Int32) (hp : (rg (-1) 400 f_caps') ∧ (rg (0) 21899 f_sharing')) {H : Heap} {locs : List Loc} {pc : Nat} {ls : Array Slot} => hret r (f_rletters', f_rstack', f_caps', f_versions', f_sharing') (H := H) (locs := locs) (pc := pc) (ls := ls) hp
  clear hret
  refine lv_iload_n hx hb dX9_mule_0 rfl (lv_at hl 1 rfl) ?_
  refine lv_iconst (v := 1) hx hb dX9_mule_1 (by decide) ?_
  refine lv_icmp_lt (tgt := 43) hx hb dX9_mule_2 (by decide) (fun c_1 => ?_) (fun c_1 => ?_)
  · have gc_1 : most.toInt < 1 := i_lt (rfl : most.toInt = most.toInt) (by decide : (1 : Int32).toInt = 1) c_1
    refine lv_iconst (v := 0) hx hb dX9_mule_43 (by decide) ?_
    refine lv_istore (lv' := [(5, .int 0), (0, .ref (hs 0)), (1, .int most), (2, .int dd), (3, .int all), (4, .int what)]) hx hb dX9_mule_44 hl (by decide) rfl (fun ls hl => ?_)
    refine lv_iload hx hb dX9_mule_46 (lv_at hl 0 rfl) ?_
    refine lv_if_eq (tgt := 60) hx hb dX9_mule_48 (by decide) (fun c_2 => ?_) (fun c_2 => ?_)
    · skip
      refine lv_iconst (v := (-1)) hx hb dX9_mule_60 (by decide) ?_
      have k_3 : ((-1) : Int32).toInt = (-1) := by decide
      exact hrt (-1) f_rletters f_rstack f_caps f_versions f_sharing ⟨hr_caps, hr_sharing⟩ hP hD hS rfl dX9_mule_61
    · exact absurd c_2 (by decide)
  · have gc_1 : 1 ≤ most.toInt := i_nlt (rfl : most.toInt = most.toInt) (by decide : (1 : Int32).toInt = 1) c_1
    refine lv_iload_n hx hb dX9_mule_5 rfl (lv_at hl 1 rfl) ?_
    refine lv_sipush (v := 500) hx hb dX9_mule_6 (by decide) ?_
    refine lv_icmp_gt (tgt := 43) hx hb dX9_mule_9 (by decide) (fun c_4 => ?_) (fun c_4 => ?_)
    · have gc_4 : 500 < most.toInt := i_lt (by decide : (500 : Int32).toInt = 500) (rfl : most.toInt = most.toInt) c_4
      refine lv_iconst (v := 0) hx hb dX9_mule_43 (by decide) ?_
      refine lv_istore (lv' := [(5, .int 0), (0, .ref (hs 0)), (1, .int most), (2, .int dd), (3, .int all), (4, .int what)]) hx hb dX9_mule_44 hl (by decide) rfl (fun ls hl => ?_)
      refine lv_iload hx hb dX9_mule_46 (lv_at hl 0 rfl) ?_
      refine lv_if_eq (tgt := 60) hx hb dX9_mule_48 (by decide) (fun c_5 => ?_) (fun c_5 => ?_)
      · skip
        refine lv_iconst (v := (-1)) hx hb dX9_mule_60 (by decide) ?_
        have k_6 : ((-1) : Int32).toInt = (-1) := by decide
        exact hrt (-1) f_rletters f_rstack f_caps f_versions f_sharing ⟨hr_caps, hr_sharing⟩ hP hD hS rfl dX9_mule_61
      · exact absurd c_5 (by decide)
    · have gc_4 : most.toInt ≤ 500 := i_nlt (by decide : (500 : Int32).toInt = 500) (rfl : most.toInt = most.toInt) c_4
      refine lv_iload_n hx hb dX9_mule_12 rfl (lv_at hl 2 rfl) ?_
      refine lv_iconst (v := 1) hx hb dX9_mule_13 (by decide) ?_
      refine lv_icmp_lt (tgt := 43) hx hb dX9_mule_14 (by decide) (fun c_7 => ?_) (fun c_7 => ?_)
      · have gc_7 : dd.toInt < 1 := i_lt (rfl : dd.toInt = dd.toInt) (by decide : (1 : Int32).toInt = 1) c_7
        refine lv_iconst (v := 0) hx hb dX9_mule_43 (by decide) ?_
        refine lv_istore (lv' := [(5, .int 0), (0, .ref (hs 0)), (1, .int most), (2, .int dd), (3, .int all), (4, .int what)]) hx hb dX9_mule_44 hl (by decide) rfl (fun ls hl => ?_)
        refine lv_iload hx hb dX9_mule_46 (lv_at hl 0 rfl) ?_
        refine lv_if_eq (tgt := 60) hx hb dX9_mule_48 (by decide) (fun c_8 => ?_) (fun c_8 => ?_)
        · skip
          refine lv_iconst (v := (-1)) hx hb dX9_mule_60 (by decide) ?_
          have k_9 : ((-1) : Int32).toInt = (-1) := by decide
          exact hrt (-1) f_rletters f_rstack f_caps f_versions f_sharing ⟨hr_caps, hr_sharing⟩ hP hD hS rfl dX9_mule_61
        · exact absurd c_8 (by decide)
      · have gc_7 : 1 ≤ dd.toInt := i_nlt (rfl : dd.toInt = dd.toInt) (by decide : (1 : Int32).toInt = 1) c_7
        refine lv_iload_n hx hb dX9_mule_17 rfl (lv_at hl 2 rfl) ?_
        refine lv_aload_n hx hb dX9_mule_18 rfl (lv_at hl 0 rfl) ?_
        refine gt_SP_SP_band hx hb hts hown hK hP lwd_19 dX9_mule_19 ?_
        refine gt_SP_band_pieces hx hb hts hown hK hP lwd_258 dX9_mule_22 ?_
        refine lv_icmp_gt (tgt := 43) hx hb dX9_mule_25 (by decide) (fun c_10 => ?_) (fun c_10 => ?_)
        · have gc_10 : v_band_pieces.toInt < dd.toInt := i_lt (rfl : v_band_pieces.toInt = v_band_pieces.toInt) (rfl : dd.toInt = dd.toInt) c_10
          refine lv_iconst (v := 0) hx hb dX9_mule_43 (by decide) ?_
          refine lv_istore (lv' := [(5, .int 0), (0, .ref (hs 0)), (1, .int most), (2, .int dd), (3, .int all), (4, .int what)]) hx hb dX9_mule_44 hl (by decide) rfl (fun ls hl => ?_)
          refine lv_iload hx hb dX9_mule_46 (lv_at hl 0 rfl) ?_
          refine lv_if_eq (tgt := 60) hx hb dX9_mule_48 (by decide) (fun c_11 => ?_) (fun c_11 => ?_)
          · skip
            refine lv_iconst (v := (-1)) hx hb dX9_mule_60 (by decide) ?_
            have k_12 : ((-1) : Int32).toInt = (-1) := by decide
            exact hrt (-1) f_rletters f_rstack f_caps f_versions f_sharing ⟨hr_caps, hr_sharing⟩ hP hD hS rfl dX9_mule_61
          · exact absurd c_11 (by decide)
        · have gc_10 : dd.toInt ≤ v_band_pieces.toInt := i_nlt (rfl : v_band_pieces.toInt = v_band_pieces.toInt) (rfl : dd.toInt = dd.toInt) c_10
          refine lv_iload hx hb dX9_mule_28 (lv_at hl 4 rfl) ?_
          refine lv_if_lt (tgt := 43) hx hb dX9_mule_30 (by decide) (fun c_13 => ?_) (fun c_13 => ?_)
          · have gc_13 : what.toInt < 0 := i_lt (rfl : what.toInt = what.toInt) (by decide : (0 : Int32).toInt = 0) c_13
            refine lv_iconst (v := 0) hx hb dX9_mule_43 (by decide) ?_
            refine lv_istore (lv' := [(5, .int 0), (0, .ref (hs 0)), (1, .int most), (2, .int dd), (3, .int all), (4, .int what)]) hx hb dX9_mule_44 hl (by decide) rfl (fun ls hl => ?_)
            refine lv_iload hx hb dX9_mule_46 (lv_at hl 0 rfl) ?_
            refine lv_if_eq (tgt := 60) hx hb dX9_mule_48 (by decide) (fun c_14 => ?_) (fun c_14 => ?_)
            · skip
              refine lv_iconst (v := (-1)) hx hb dX9_mule_60 (by decide) ?_
              have k_15 : ((-1) : Int32).toInt = (-1) := by decide
              exact hrt (-1) f_rletters f_rstack f_caps f_versions f_sharing ⟨hr_caps, hr_sharing⟩ hP hD hS rfl dX9_mule_61
            · exact absurd c_14 (by decide)
          · have gc_13 : 0 ≤ what.toInt := i_nlt (rfl : what.toInt = what.toInt) (by decide : (0 : Int32).toInt = 0) c_13
            refine lv_iload hx hb dX9_mule_33 (lv_at hl 4 rfl) ?_
            refine lv_iconst (v := 1) hx hb dX9_mule_35 (by decide) ?_
            refine lv_icmp_gt (tgt := 43) hx hb dX9_mule_36 (by decide) (fun c_16 => ?_) (fun c_16 => ?_)
            · have gc_16 : 1 < what.toInt := i_lt (by decide : (1 : Int32).toInt = 1) (rfl : what.toInt = what.toInt) c_16
              refine lv_iconst (v := 0) hx hb dX9_mule_43 (by decide) ?_
              refine lv_istore (lv' := [(5, .int 0), (0, .ref (hs 0)), (1, .int most), (2, .int dd), (3, .int all), (4, .int what)]) hx hb dX9_mule_44 hl (by decide) rfl (fun ls hl => ?_)
              refine lv_iload hx hb dX9_mule_46 (lv_at hl 0 rfl) ?_
              refine lv_if_eq (tgt := 60) hx hb dX9_mule_48 (by decide) (fun c_17 => ?_) (fun c_17 => ?_)
              · skip
                refine lv_iconst (v := (-1)) hx hb dX9_mule_60 (by decide) ?_
                have k_18 : ((-1) : Int32).toInt = (-1) := by decide
                exact hrt (-1) f_rletters f_rstack f_caps f_versions f_sharing ⟨hr_caps, hr_sharing⟩ hP hD hS rfl dX9_mule_61
              · exact absurd c_17 (by decide)
            · have gc_16 : what.toInt ≤ 1 := i_nlt (by decide : (1 : Int32).toInt = 1) (rfl : what.toInt = what.toInt) c_16
              refine lv_iconst (v := 1) hx hb dX9_mule_39 (by decide) ?_
              refine lv_goto (tgt := 44) hx hb dX9_mule_40 (by decide) ?_
              refine lv_istore (lv' := [(5, .int 1), (0, .ref (hs 0)), (1, .int most), (2, .int dd), (3, .int all), (4, .int what)]) hx hb dX9_mule_44 hl (by decide) rfl (fun ls hl => ?_)
              refine lv_iload hx hb dX9_mule_46 (lv_at hl 0 rfl) ?_
              refine lv_if_eq (tgt := 60) hx hb dX9_mule_48 (by decide) (fun c_19 => ?_) (fun c_19 => ?_)
              · exact absurd c_19 (by decide)
              · skip
                refine lv_aload_n hx hb dX9_mule_51 rfl (lv_at hl 1 rfl) ?_
                refine lv_iconst (v := 0) hx hb dX9_mule_52 (by decide) ?_
                refine lv_iload_n hx hb dX9_mule_53 rfl (lv_at hl 4 rfl) ?_
                have k_20 : (0 : Int32).toInt = 0 := by decide
                refine xi hD hS hA (xV (As := [.int 0, .int all]) (rest := []) hx hb hml hown hts hK hP hD hS hA NS_ok hN hAe hl.1 ⟨Nat.le_refl _, Nat.le_refl _⟩ 0 rfl rfl rfl (c_X9_standsOn l D cy hs hH hT sH sT v_tape_size v_band_walkers v_band_loads v_band_pieces v_rules_clauses v_reader_end v_reader_at v_reader_length v_reader_letter v_reader_fault v_draft_clauses v_paces_version v_packing_quicker v_packing_loads v_packing_looseCount v_marches_told v_marches_changeMinutes v_marches_marching v_marches_gone v_search_known v_search_countHere v_search_countThere v_search_cost v_search_most v_search_found f_bytes f_knee f_weight f_limps f_bheft f_owner f_food f_miles f_slope f_rsteps f_rkind f_ryields f_rholds f_rletters f_rstack f_dsteps f_dkind f_dyields f_dholds f_dletters f_dstack f_caps f_versions f_sharing f_pheft f_prow f_holder f_comes f_pcaps f_room f_loose f_reached f_mrow f_minutesOn f_mtired f_here f_there f_statesHere f_statesThere f_listed f_stired f_burdens f_pacesOn f_restedOn f_behindOn f_behindFor f_first f_second f_plans f_tiredOn tS s.heap.size 0 all (by omega) (by omega)) (gi_V lwd_616 lwd_617 lwd_618 lwd_2 lwd_619) ⟨rfl, hd_X9_standsOn⟩ ⟨Nat.le_of_ble_eq_true rfl, Nat.le_of_ble_eq_true rfl⟩ rfl (Nat.le_of_ble_eq_true rfl) dX9_mule_54) (fun r_22 u_21 H locs hw hP hD hS => ?_)
                try dsimp only at hw hP hD
                obtain ⟨p_23, p_24⟩ := hw
                refine lv_if_ne (tgt := 62) hx hb dX9_mule_57 (by decide) (fun c_25 => ?_) (fun c_25 => ?_)
                · have gc_25 : r_22.toInt ≠ 0 := i_ne (rfl : r_22.toInt = r_22.toInt) (by decide : (0 : Int32).toInt = 0) c_25
                  refine lv_ldc hx hb hown (hts _ lwd_778) dX9_mule_62 ?_
                  refine lv_istore (lv' := [(6, .int 1000000000), (5, .int 1), (0, .ref (hs 0)), (1, .int most), (2, .int dd), (3, .int all), (4, .int what)]) hx hb dX9_mule_64 hl (by decide) rfl (fun ls hl => ?_)
                  refine lv_iconst (v := (-1)) hx hb dX9_mule_66 (by decide) ?_
                  refine lv_istore (lv' := [(7, .int (-1)), (6, .int 1000000000), (5, .int 1), (0, .ref (hs 0)), (1, .int most), (2, .int dd), (3, .int all), (4, .int what)]) hx hb dX9_mule_67 hl (by decide) rfl (fun ls hl => ?_)
                  refine lv_iconst (v := 0) hx hb dX9_mule_69 (by decide) ?_
                  refine lv_istore (lv' := [(8, .int 0), (7, .int (-1)), (6, .int 1000000000), (5, .int 1), (0, .ref (hs 0)), (1, .int most), (2, .int dd), (3, .int all), (4, .int what)]) hx hb dX9_mule_70 hl (by decide) rfl (fun ls hl => ?_)
                  have L72_42 : ∀ (n : Nat) (f_34 : Nat → Int32) (f_35 : Nat → Int32) (f_36 : Nat → Int32) (f_37 : Nat → Int32) (f_38 : Nat → Int32) (l_39 : Int32) (l_40 : Int32) (l_41 : Int32), (rg (-1) 400 f_34) → (rg (0) 21899 f_37) → (0 ≤ l_41.toInt ∧ l_41.toInt ≤ 10) → 11 - l_41.toInt < n → ∀ (H : Heap) (locs : List Loc) (ls : Array Slot), va_P D vwCl (wSP cy hs hH hT sH sT v_tape_size v_band_walkers v_band_loads v_band_pieces v_rules_clauses v_reader_end v_reader_at v_reader_length v_reader_letter v_reader_fault v_draft_clauses v_paces_version v_packing_quicker v_packing_loads v_packing_looseCount v_marches_told v_marches_changeMinutes v_marches_marching v_marches_gone v_search_known v_search_countHere v_search_countThere v_search_cost v_search_most v_search_found f_bytes f_knee f_weight f_limps f_bheft f_owner f_food f_miles f_slope f_rsteps f_rkind f_ryields f_rholds f_35 f_36 f_dsteps f_dkind f_dyields f_dholds f_dletters f_dstack f_34 f_38 f_37 f_pheft f_prow f_holder f_comes f_pcaps f_room f_loose f_reached f_mrow f_minutesOn f_mtired f_here f_there f_statesHere f_statesThere f_listed f_stired f_burdens f_pacesOn f_restedOn f_behindOn f_behindFor f_first f_second f_plans f_tiredOn) H → va_D A (wSP cy hs hH hT sH sT v_tape_size v_band_walkers v_band_loads v_band_pieces v_rules_clauses v_reader_end v_reader_at v_reader_length v_reader_letter v_reader_fault v_draft_clauses v_paces_version v_packing_quicker v_packing_loads v_packing_looseCount v_marches_told v_marches_changeMinutes v_marches_marching v_marches_gone v_search_known v_search_countHere v_search_countThere v_search_cost v_search_most v_search_found f_bytes f_knee f_weight f_limps f_bheft f_owner f_food f_miles f_slope f_rsteps f_rkind f_ryields f_rholds f_35 f_36 f_dsteps f_dkind f_dyields f_dholds f_dletters f_dstack f_34 f_38 f_37 f_pheft f_prow f_holder f_comes f_pcaps f_room f_loose f_reached f_mrow f_minutesOn f_mtired f_here f_there f_statesHere f_statesThere f_listed f_stired f_burdens f_pacesOn f_restedOn f_behindOn f_behindFor f_first f_second f_plans f_tiredOn) → va_S A s.heap H locs → lv_has ls 10 [(8, .int l_41), (7, .int l_40), (6, .int l_39), (5, .int 1), (0, .ref (hs 0)), (1, .int most), (2, .int dd), (3, .int all), (4, .int what)] → W p l e (gRm 7) s m args below meth c H locs 0 0 Q (F0 m 72 ls []) := by
                    intro n
                    induction n with
                    | zero => intro f_34 f_35 f_36 f_37 f_38 l_39 l_40 l_41 hL72_42_0 hL72_42_1 hL72_42_2 hm; exact absurd hm (by omega)
                    | succ n ih72_42 =>
                      intro f_34 f_35 f_36 f_37 f_38 l_39 l_40 l_41 hL72_42_0 hL72_42_1 hL72_42_2 hmL72_42 H locs ls hP hD hS hl
                      refine lv_iload hx hb dX9_mule_72 (lv_at hl 0 rfl) ?_
                      refine lv_iload_n hx hb dX9_mule_74 rfl (lv_at hl 6 rfl) ?_
                      refine lv_iadd hx hb dX9_mule_75 ?_
                      refine lv_topi (fun n_43 en_43 => ?_)
                      have tn_43 : n_43.toInt = l_41.toInt + dd.toInt := i_add en_43 (rfl : l_41.toInt = l_41.toInt) (rfl : dd.toInt = dd.toInt) (by omega) (by omega)
                      refine lv_aload_n hx hb dX9_mule_76 rfl (lv_at hl 4 rfl) ?_
                      refine gt_SP_SP_band hx hb hts hown hK hP lwd_19 dX9_mule_77 ?_
                      refine gt_SP_band_pieces hx hb hts hown hK hP lwd_258 dX9_mule_80 ?_
                      refine lv_icmp_gt (tgt := 121) hx hb dX9_mule_83 (by decide) (fun c_44 => ?_) (fun c_44 => ?_)
                      · have gc_44 : v_band_pieces.toInt < l_41.toInt + dd.toInt := i_lt (rfl : v_band_pieces.toInt = v_band_pieces.toInt) tn_43 c_44
                        refine lv_iload hx hb dX9_mule_121 (lv_at hl 2 rfl) ?_
                        refine lv_ldc hx hb hown (hts _ lwd_778) dX9_mule_123 ?_
                        refine lv_icmp_ne (tgt := 131) hx hb dX9_mule_125 (by decide) (fun c_45 => ?_) (fun c_45 => ?_)
                        · have gc_45 : l_39.toInt ≠ 1000000000 := i_ne (rfl : l_39.toInt = l_39.toInt) (by decide : (1000000000 : Int32).toInt = 1000000000) c_45
                          refine lv_iload hx hb dX9_mule_131 (lv_at hl 8 rfl) ?_
                          refine lv_if_ne (tgt := 141) hx hb dX9_mule_133 (by decide) (fun c_46 => ?_) (fun c_46 => ?_)
                          · have gc_46 : what.toInt ≠ 0 := i_ne (rfl : what.toInt = what.toInt) (by decide : (0 : Int32).toInt = 0) c_46
                            refine lv_iload hx hb dX9_mule_141 (lv_at hl 2 rfl) ?_
                            exact hrt l_39 f_35 f_36 f_34 f_38 f_37 ⟨hL72_42_0, hL72_42_1⟩ hP hD hS rfl dX9_mule_143
                          · have gc_46 : what.toInt = 0 := i_eq (rfl : what.toInt = what.toInt) (by decide : (0 : Int32).toInt = 0) c_46
                            refine lv_iload hx hb dX9_mule_136 (lv_at hl 1 rfl) ?_
                            refine lv_goto (tgt := 143) hx hb dX9_mule_138 (by decide) ?_
                            exact hrt l_40 f_35 f_36 f_34 f_38 f_37 ⟨hL72_42_0, hL72_42_1⟩ hP hD hS rfl dX9_mule_143
                        · have gc_45 : l_39.toInt = 1000000000 := i_eq (rfl : l_39.toInt = l_39.toInt) (by decide : (1000000000 : Int32).toInt = 1000000000) c_45
                          refine lv_bipush (v := (-2)) hx hb dX9_mule_128 (by decide) ?_
                          have k_47 : ((-2) : Int32).toInt = (-2) := by decide
                          exact hrt (-2) f_35 f_36 f_34 f_38 f_37 ⟨hL72_42_0, hL72_42_1⟩ hP hD hS rfl dX9_mule_130
                      · have gc_44 : l_41.toInt + dd.toInt ≤ v_band_pieces.toInt := i_nlt (rfl : v_band_pieces.toInt = v_band_pieces.toInt) tn_43 c_44
                        refine lv_aload_n hx hb dX9_mule_86 rfl (lv_at hl 4 rfl) ?_
                        refine lv_iload_n hx hb dX9_mule_87 rfl (lv_at hl 5 rfl) ?_
                        refine lv_iload hx hb dX9_mule_88 (lv_at hl 0 rfl) ?_
                        refine lv_iload hx hb dX9_mule_90 (lv_at hl 0 rfl) ?_
                        refine lv_iload_n hx hb dX9_mule_92 rfl (lv_at hl 6 rfl) ?_
                        refine lv_iadd hx hb dX9_mule_93 ?_
                        refine lv_topi (fun n_48 en_48 => ?_)
                        have tn_48 : n_48.toInt = l_41.toInt + dd.toInt := i_add en_48 (rfl : l_41.toInt = l_41.toInt) (rfl : dd.toInt = dd.toInt) (by omega) (by omega)
                        refine lv_iload_n hx hb dX9_mule_94 rfl (lv_at hl 7 rfl) ?_
                        refine xi hD hS hA (xV (As := [.int most, .int l_41, .int n_48, .int all]) (rest := []) hx hb hml hown hts hK hP hD hS hA NS_ok hN hAe hl.1 ⟨Nat.le_refl _, Nat.le_refl _⟩ 0 rfl rfl rfl (c_X9_minutesWithMule l D cy hs hH hT sH sT v_tape_size v_band_walkers v_band_loads v_band_pieces v_rules_clauses v_reader_end v_reader_at v_reader_length v_reader_letter v_reader_fault v_draft_clauses v_paces_version v_packing_quicker v_packing_loads v_packing_looseCount v_marches_told v_marches_changeMinutes v_marches_marching v_marches_gone v_search_known v_search_countHere v_search_countThere v_search_cost v_search_most v_search_found f_bytes f_knee f_weight f_limps f_bheft f_owner f_food f_miles f_slope f_rsteps f_rkind f_ryields f_rholds f_35 f_36 f_dsteps f_dkind f_dyields f_dholds f_dletters f_dstack f_34 f_38 f_37 f_pheft f_prow f_holder f_comes f_pcaps f_room f_loose f_reached f_mrow f_minutesOn f_mtired f_here f_there f_statesHere f_statesThere f_listed f_stired f_burdens f_pacesOn f_restedOn f_behindOn f_behindFor f_first f_second f_plans f_tiredOn tS H.size most l_41 n_48 all (by omega) (by omega) (by omega) (by omega) hr_weight hr_limps hr_bheft hr_food hr_miles hL72_42_0 hL72_42_1 (by omega)) (gi_V lwd_881 lwd_882 lwd_883 lwd_2 lwd_884) ⟨rfl, hd_X9_minutesWithMule⟩ ⟨Nat.le_of_ble_eq_true rfl, Nat.le_of_ble_eq_true rfl⟩ rfl (Nat.le_of_ble_eq_true rfl) dX9_mule_95) (fun r_50 u_49 H locs hw hP hD hS => ?_)
                        obtain ⟨zrletters_51, zrstack_52, zcaps_53, zversions_54, zsharing_55⟩ := u_49
                        try dsimp only at hw hP hD
                        obtain ⟨p_56, p_57⟩ := hw
                        refine lv_istore (lv' := [(9, .int r_50), (8, .int l_41), (7, .int l_40), (6, .int l_39), (5, .int 1), (0, .ref (hs 0)), (1, .int most), (2, .int dd), (3, .int all), (4, .int what)]) hx hb dX9_mule_98 hl (by decide) rfl (fun ls hl => ?_)
                        refine lv_iload hx hb dX9_mule_100 (lv_at hl 0 rfl) ?_
                        refine lv_iload hx hb dX9_mule_102 (lv_at hl 3 rfl) ?_
                        refine lv_icmp_ge (tgt := 115) hx hb dX9_mule_104 (by decide) (fun c_58 => ?_) (fun c_58 => ?_)
                        · have gc_58 : l_39.toInt ≤ r_50.toInt := i_le (rfl : l_39.toInt = l_39.toInt) (rfl : r_50.toInt = r_50.toInt) c_58
                          obtain ⟨n_59, en_59⟩ : ∃ y : Int32, y = l_41 + 1 := ⟨_, rfl⟩
                          have tn_59 : n_59.toInt = l_41.toInt + 1 := i_add en_59 (rfl : l_41.toInt = l_41.toInt) (by decide : (1 : Int32).toInt = 1) (by omega) (by omega)
                          refine lv_iinc (v := n_59) (lv' := [(8, .int n_59), (9, .int r_50), (7, .int l_40), (6, .int l_39), (5, .int 1), (0, .ref (hs 0)), (1, .int most), (2, .int dd), (3, .int all), (4, .int what)]) hx hb dX9_mule_115 hl (k := 1) rfl (by rw [en_59]; rfl) (by decide) rfl (fun ls hl => ?_)
                          refine lv_goto (tgt := 72) hx hb dX9_mule_118 (by decide) ?_
                          exact ih72_42 zcaps_53 zrletters_51 zrstack_52 zsharing_55 zversions_54 l_39 l_40 n_59 p_56 p_57 (by omega) (by omega) _ _ _ hP hD hS (lv_sub hl [0, 2, 3, 4, 5, 6, 7, 8, 9] rfl)
                        · have gc_58 : r_50.toInt < l_39.toInt := i_nle (rfl : l_39.toInt = l_39.toInt) (rfl : r_50.toInt = r_50.toInt) c_58
                          refine lv_iload hx hb dX9_mule_107 (lv_at hl 0 rfl) ?_
                          refine lv_istore (lv' := [(6, .int r_50), (9, .int r_50), (8, .int l_41), (7, .int l_40), (5, .int 1), (0, .ref (hs 0)), (1, .int most), (2, .int dd), (3, .int all), (4, .int what)]) hx hb dX9_mule_109 hl (by decide) rfl (fun ls hl => ?_)
                          refine lv_iload hx hb dX9_mule_111 (lv_at hl 2 rfl) ?_
                          refine lv_istore (lv' := [(7, .int l_41), (6, .int r_50), (9, .int r_50), (8, .int l_41), (5, .int 1), (0, .ref (hs 0)), (1, .int most), (2, .int dd), (3, .int all), (4, .int what)]) hx hb dX9_mule_113 hl (by decide) rfl (fun ls hl => ?_)
                          obtain ⟨n_60, en_60⟩ : ∃ y : Int32, y = l_41 + 1 := ⟨_, rfl⟩
                          have tn_60 : n_60.toInt = l_41.toInt + 1 := i_add en_60 (rfl : l_41.toInt = l_41.toInt) (by decide : (1 : Int32).toInt = 1) (by omega) (by omega)
                          refine lv_iinc (v := n_60) (lv' := [(8, .int n_60), (7, .int l_41), (6, .int r_50), (9, .int r_50), (5, .int 1), (0, .ref (hs 0)), (1, .int most), (2, .int dd), (3, .int all), (4, .int what)]) hx hb dX9_mule_115 hl (k := 3) rfl (by rw [en_60]; rfl) (by decide) rfl (fun ls hl => ?_)
                          refine lv_goto (tgt := 72) hx hb dX9_mule_118 (by decide) ?_
                          exact ih72_42 zcaps_53 zrletters_51 zrstack_52 zsharing_55 zversions_54 r_50 l_41 n_60 p_56 p_57 (by omega) (by omega) _ _ _ hP hD hS (lv_sub hl [0, 1, 2, 4, 5, 6, 7, 8, 9] rfl)
                  have k_61 : (1000000000 : Int32).toInt = 1000000000 := by decide
                  have k_62 : ((-1) : Int32).toInt = (-1) := by decide
                  have k_63 : (0 : Int32).toInt = 0 := by decide
                  exact L72_42 8589934592 f_caps f_rletters f_rstack f_sharing f_versions 1000000000 (-1) 0 hr_caps hr_sharing (by omega) (by omega) _ _ _ hP hD hS (lv_sub hl [0, 1, 2, 3, 4, 5, 6, 7, 8] rfl)
                · have gc_25 : r_22.toInt = 0 := i_eq (rfl : r_22.toInt = r_22.toInt) (by decide : (0 : Int32).toInt = 0) c_25
                  refine lv_iconst (v := (-1)) hx hb dX9_mule_60 (by decide) ?_
                  have k_64 : ((-1) : Int32).toInt = (-1) := by decide
                  exact hrt (-1) f_rletters f_rstack f_caps f_versions f_sharing ⟨hr_caps, hr_sharing⟩ hP hD hS rfl dX9_mule_61
set_option maxHeartbeats 16000000 in
set_option maxRecDepth 100000 in
theorem c_X9_plan (l : Launch) (D : va_G) (cy : Nat → ClassId) (hs : Nat → Nat) (hH hT sH sT : Nat) (v_tape_size v_band_walkers v_band_loads v_band_pieces v_rules_clauses v_reader_end v_reader_at v_reader_length v_reader_letter v_reader_fault v_draft_clauses v_paces_version v_packing_quicker v_packing_loads v_packing_looseCount v_marches_told v_marches_changeMinutes v_marches_marching v_marches_gone v_search_known v_search_countHere v_search_countThere v_search_cost v_search_most : Int32) (v_search_found : Int64) (f_bytes f_knee f_weight f_limps f_bheft f_owner f_food f_miles f_slope f_rsteps f_rkind f_ryields f_rholds f_rletters f_rstack f_dsteps f_dkind f_dyields f_dholds f_dletters f_dstack f_caps f_versions f_sharing f_pheft f_prow f_holder f_comes f_pcaps f_room f_loose f_reached f_mrow f_minutesOn f_mtired : Nat → Int32) (f_here f_there : Nat → Int64) (f_statesHere f_statesThere f_listed f_stired f_burdens f_pacesOn f_restedOn f_behindOn f_behindFor f_first f_second : Nat → Int32) (f_plans f_tiredOn : Nat → Nat → Int32) (tS : Nat) (sz : Nat) (k : Int32) (hb_v_tape_size : 0 ≤ v_tape_size.toInt ∧ v_tape_size.toInt ≤ 220) (hb_v_band_walkers : 0 ≤ v_band_walkers.toInt ∧ v_band_walkers.toInt ≤ 6) (hb_v_band_loads : 0 ≤ v_band_loads.toInt ∧ v_band_loads.toInt ≤ 9) (hb_v_marches_marching : 0 ≤ v_marches_marching.toInt ∧ v_marches_marching.toInt ≤ 1) (hb_v_search_known : 0 ≤ v_search_known.toInt ∧ v_search_known.toInt ≤ 1) (hr_bytes : rg (0) 255 f_bytes) (hr_owner : rg (-1) 5 f_owner) : gMi l yX9_plan cX9_plan 6 .boolean 2 [.ref (hs 0), .int k] D cy (wSP cy hs hH hT sH sT v_tape_size v_band_walkers v_band_loads v_band_pieces v_rules_clauses v_reader_end v_reader_at v_reader_length v_reader_letter v_reader_fault v_draft_clauses v_paces_version v_packing_quicker v_packing_loads v_packing_looseCount v_marches_told v_marches_changeMinutes v_marches_marching v_marches_gone v_search_known v_search_countHere v_search_countThere v_search_cost v_search_most v_search_found f_bytes f_knee f_weight f_limps f_bheft f_owner f_food f_miles f_slope f_rsteps f_rkind f_ryields f_rholds f_rletters f_rstack f_dsteps f_dkind f_dyields f_dholds f_dletters f_dstack f_caps f_versions f_sharing f_pheft f_prow f_holder f_comes f_pcaps f_room f_loose f_reached f_mrow f_minutesOn f_mtired f_here f_there f_statesHere f_statesThere f_listed f_stired f_burdens f_pacesOn f_restedOn f_behindOn f_behindFor f_first f_second f_plans f_tiredOn) (NS tS) sz (fun (r : Int32) (u : Int32 × Int32 × Int32 × Int32 × (Nat → Nat → Int32)) => (0 ≤ r.toInt ∧ r.toInt ≤ 1) ∧ (0 ≤ (u.1).toInt ∧ (u.1).toInt ≤ 220) ∧ (0 ≤ (u.2.2.1).toInt ∧ (u.2.2.1).toInt ≤ 1) ∧ (0 ≤ (u.2.2.2.1).toInt ∧ (u.2.2.2.1).toInt ≤ 1)) (fun u => wSP cy hs hH hT sH sT (u.1) v_band_walkers v_band_loads v_band_pieces v_rules_clauses v_reader_end v_reader_at v_reader_length v_reader_letter v_reader_fault v_draft_clauses v_paces_version v_packing_quicker v_packing_loads v_packing_looseCount (u.2.1) v_marches_changeMinutes (u.2.2.1) v_marches_gone (u.2.2.2.1) v_search_countHere v_search_countThere v_search_cost v_search_most v_search_found f_bytes f_knee f_weight f_limps f_bheft f_owner f_food f_miles f_slope f_rsteps f_rkind f_ryields f_rholds f_rletters f_rstack f_dsteps f_dkind f_dyields f_dholds f_dletters f_dstack f_caps f_versions f_sharing f_pheft f_prow f_holder f_comes f_pcaps f_room f_loose f_reached f_mrow f_minutesOn f_mtired f_here f_there f_statesHere f_statesThere f_listed f_stired f_burdens f_pacesOn f_restedOn f_behindOn f_behindFor f_first f_second (u.2.2.2.2) f_tiredOn) := by
  refine gMi_in (by decide) (Nat.le_of_ble_eq_true rfl) ?_
  intro p e s m args below meth c A ls Q hx hb hml hts hown hsz hP hK hD hN hAe hA hS hl hret
  subst hsz
  have hl : lv_has ls 6 [(0, .ref (hs 0)), (1, .int k)] := hl
  have hrt := fun (r : Int32) (v_tape_size' : Int32) (v_marches_told' : Int32) (v_marches_marching' : Int32) (v_search_known' : Int32) (f_plans' : Nat → Nat → Int32) (hp : (0 ≤ r.toInt ∧ r.toInt ≤ 1) ∧ (0 ≤ v_tape_size'.toInt ∧ v_tape_size'.toInt ≤ 220) ∧ (0 ≤ v_marches_marching'.toInt ∧ v_marches_marching'.toInt ≤ 1) ∧ (0 ≤ v_search_known'.toInt ∧ v_search_known'.toInt ≤ 1)) {H : Heap} {locs : List Loc} {pc : Nat} {ls : Array Slot} => hret r (v_tape_size', v_marches_told', v_marches_marching', v_search_known', f_plans') (H := H) (locs := locs) (pc := pc) (ls := ls) hp
  clear hret
  refine lv_iload_n hx hb dX9_plan_0 rfl (lv_at hl 1 rfl) ?_
  refine lv_if_lt (tgt := 27) hx hb dX9_plan_1 (by decide) (fun c_1 => ?_) (fun c_1 => ?_)
  · have gc_1 : k.toInt < 0 := i_lt (rfl : k.toInt = k.toInt) (by decide : (0 : Int32).toInt = 0) c_1
    refine lv_iconst (v := 0) hx hb dX9_plan_27 (by decide) ?_
    have k_2 : (0 : Int32).toInt = 0 := by decide
    exact hrt 0 v_tape_size v_marches_told v_marches_marching v_search_known f_plans ⟨(by omega), (by omega), (by omega), (by omega)⟩ hP hD hS rfl dX9_plan_28
  · have gc_1 : 0 ≤ k.toInt := i_nlt (rfl : k.toInt = k.toInt) (by decide : (0 : Int32).toInt = 0) c_1
    refine lv_iload_n hx hb dX9_plan_4 rfl (lv_at hl 1 rfl) ?_
    refine lv_bipush (v := 6) hx hb dX9_plan_5 (by decide) ?_
    refine lv_icmp_ge (tgt := 27) hx hb dX9_plan_7 (by decide) (fun c_3 => ?_) (fun c_3 => ?_)
    · have gc_3 : 6 ≤ k.toInt := i_le (by decide : (6 : Int32).toInt = 6) (rfl : k.toInt = k.toInt) c_3
      refine lv_iconst (v := 0) hx hb dX9_plan_27 (by decide) ?_
      have k_4 : (0 : Int32).toInt = 0 := by decide
      exact hrt 0 v_tape_size v_marches_told v_marches_marching v_search_known f_plans ⟨(by omega), (by omega), (by omega), (by omega)⟩ hP hD hS rfl dX9_plan_28
    · have gc_3 : k.toInt < 6 := i_nle (by decide : (6 : Int32).toInt = 6) (rfl : k.toInt = k.toInt) c_3
      refine lv_aload_n hx hb dX9_plan_10 rfl (lv_at hl 0 rfl) ?_
      refine gt_SP_SP_tape hx hb hts hown hK hP lwd_15 dX9_plan_11 ?_
      refine gt_SP_tape_size hx hb hts hown hK hP lwd_288 dX9_plan_14 ?_
      refine lv_aload_n hx hb dX9_plan_17 rfl (lv_at hl 0 rfl) ?_
      refine gt_SP_SP_band hx hb hts hown hK hP lwd_19 dX9_plan_18 ?_
      refine gt_SP_band_loads hx hb hts hown hK hP lwd_233 dX9_plan_21 ?_
      refine lv_icmp_ge (tgt := 29) hx hb dX9_plan_24 (by decide) (fun c_5 => ?_) (fun c_5 => ?_)
      · have gc_5 : v_band_loads.toInt ≤ v_tape_size.toInt := i_le (rfl : v_band_loads.toInt = v_band_loads.toInt) (rfl : v_tape_size.toInt = v_tape_size.toInt) c_5
        refine lv_iconst (v := 1) hx hb dX9_plan_29 (by decide) ?_
        refine lv_istore_n (lv' := [(2, .int 1), (0, .ref (hs 0)), (1, .int k)]) hx hb dX9_plan_30 rfl hl (by decide) rfl (fun ls hl => ?_)
        refine lv_iconst (v := 0) hx hb dX9_plan_31 (by decide) ?_
        refine lv_istore_n (lv' := [(3, .int 0), (2, .int 1), (0, .ref (hs 0)), (1, .int k)]) hx hb dX9_plan_32 rfl hl (by decide) rfl (fun ls hl => ?_)
        have L33_10 : ∀ (n : Nat) (l_8 : Int32) (l_9 : Int32), (0 ≤ l_8.toInt ∧ l_8.toInt ≤ 1) → (0 ≤ l_9.toInt ∧ l_9.toInt ≤ 9) → 10 - l_9.toInt < n → ∀ (H : Heap) (locs : List Loc) (ls : Array Slot), va_P D vwCl (wSP cy hs hH hT sH sT v_tape_size v_band_walkers v_band_loads v_band_pieces v_rules_clauses v_reader_end v_reader_at v_reader_length v_reader_letter v_reader_fault v_draft_clauses v_paces_version v_packing_quicker v_packing_loads v_packing_looseCount v_marches_told v_marches_changeMinutes v_marches_marching v_marches_gone v_search_known v_search_countHere v_search_countThere v_search_cost v_search_most v_search_found f_bytes f_knee f_weight f_limps f_bheft f_owner f_food f_miles f_slope f_rsteps f_rkind f_ryields f_rholds f_rletters f_rstack f_dsteps f_dkind f_dyields f_dholds f_dletters f_dstack f_caps f_versions f_sharing f_pheft f_prow f_holder f_comes f_pcaps f_room f_loose f_reached f_mrow f_minutesOn f_mtired f_here f_there f_statesHere f_statesThere f_listed f_stired f_burdens f_pacesOn f_restedOn f_behindOn f_behindFor f_first f_second f_plans f_tiredOn) H → va_D A (wSP cy hs hH hT sH sT v_tape_size v_band_walkers v_band_loads v_band_pieces v_rules_clauses v_reader_end v_reader_at v_reader_length v_reader_letter v_reader_fault v_draft_clauses v_paces_version v_packing_quicker v_packing_loads v_packing_looseCount v_marches_told v_marches_changeMinutes v_marches_marching v_marches_gone v_search_known v_search_countHere v_search_countThere v_search_cost v_search_most v_search_found f_bytes f_knee f_weight f_limps f_bheft f_owner f_food f_miles f_slope f_rsteps f_rkind f_ryields f_rholds f_rletters f_rstack f_dsteps f_dkind f_dyields f_dholds f_dletters f_dstack f_caps f_versions f_sharing f_pheft f_prow f_holder f_comes f_pcaps f_room f_loose f_reached f_mrow f_minutesOn f_mtired f_here f_there f_statesHere f_statesThere f_listed f_stired f_burdens f_pacesOn f_restedOn f_behindOn f_behindFor f_first f_second f_plans f_tiredOn) → va_S A s.heap H locs → lv_has ls 6 [(3, .int l_9), (2, .int l_8), (0, .ref (hs 0)), (1, .int k)] → W p l e (gRm 2) s m args below meth c H locs 0 0 Q (F0 m 33 ls []) := by
          intro n
          induction n with
          | zero => intro l_8 l_9 hL33_10_0 hL33_10_1 hm; exact absurd hm (by omega)
          | succ n ih33_10 =>
            intro l_8 l_9 hL33_10_0 hL33_10_1 hmL33_10 H locs ls hP hD hS hl
            refine lv_iload_n hx hb dX9_plan_33 rfl (lv_at hl 0 rfl) ?_
            refine lv_aload_n hx hb dX9_plan_34 rfl (lv_at hl 2 rfl) ?_
            refine gt_SP_SP_band hx hb hts hown hK hP lwd_19 dX9_plan_35 ?_
            refine gt_SP_band_loads hx hb hts hown hK hP lwd_233 dX9_plan_38 ?_
            refine lv_icmp_ge (tgt := 122) hx hb dX9_plan_41 (by decide) (fun c_11 => ?_) (fun c_11 => ?_)
            · have gc_11 : v_band_loads.toInt ≤ l_9.toInt := i_le (rfl : v_band_loads.toInt = v_band_loads.toInt) (rfl : l_9.toInt = l_9.toInt) c_11
              refine lv_aload_n hx hb dX9_plan_122 rfl (lv_at hl 2 rfl) ?_
              refine gt_SP_SP_tape hx hb hts hown hK hP lwd_15 dX9_plan_123 ?_
              refine lv_iconst (v := 0) hx hb dX9_plan_126 (by decide) ?_
              refine pt_SP_tape_size (x := 0) hx hb hts hown hK hP hD hS lwd_288 dX9_plan_127 (fun H locs hP hD hS => ?_)
              refine lv_iload_n hx hb dX9_plan_130 rfl (lv_at hl 1 rfl) ?_
              refine lv_if_eq (tgt := 193) hx hb dX9_plan_131 (by decide) (fun c_12 => ?_) (fun c_12 => ?_)
              · have gc_12 : l_8.toInt = 0 := i_eq (rfl : l_8.toInt = l_8.toInt) (by decide : (0 : Int32).toInt = 0) c_12
                refine lv_iload_n hx hb dX9_plan_193 rfl (lv_at hl 1 rfl) ?_
                have k_13 : (0 : Int32).toInt = 0 := by decide
                exact hrt l_8 0 v_marches_told v_marches_marching v_search_known f_plans ⟨(by omega), (by omega), (by omega), (by omega)⟩ hP hD hS (nar_b (i_01' (by omega))) dX9_plan_194
              · have gc_12 : l_8.toInt ≠ 0 := i_ne (rfl : l_8.toInt = l_8.toInt) (by decide : (0 : Int32).toInt = 0) c_12
                refine lv_aload_n hx hb dX9_plan_134 rfl (lv_at hl 2 rfl) ?_
                refine gt_SP_SP_tape hx hb hts hown hK hP lwd_15 dX9_plan_135 ?_
                refine gt_SP_tape_bytes hx hb hts hown hK hP lwd_899 dX9_plan_138 ?_
                refine lv_iconst (v := 0) hx hb dX9_plan_141 (by decide) ?_
                refine lv_aload_n hx hb dX9_plan_142 rfl (lv_at hl 2 rfl) ?_
                refine gt_SP_SP_marches hx hb hts hown hK hP lwd_39 dX9_plan_143 ?_
                refine gt_SP_marches_plans hx hb hts hown hK hP lwd_900 dX9_plan_146 ?_
                refine lv_iload_n hx hb dX9_plan_149 rfl (lv_at hl 3 rfl) ?_
                refine aq_plans (i := k) hx hb hK hP (by first | omega | decide) dX9_plan_150 ?_
                refine lv_iconst (v := 0) hx hb dX9_plan_151 (by decide) ?_
                refine lv_aload_n hx hb dX9_plan_152 rfl (lv_at hl 2 rfl) ?_
                refine gt_SP_SP_band hx hb hts hown hK hP lwd_19 dX9_plan_153 ?_
                refine gt_SP_band_loads hx hb hts hown hK hP lwd_233 dX9_plan_156 ?_
                refine cp_plans (k := k) hx hb (by rw [hml]; exact hl.1.symm) hown (hts _ lwd_901) (hts _ lwd_391) (hts _ lwd_392) (hts _ lwd_393) hK hP hD hS (by omega) (by omega) (Nat.le_of_ble_eq_true rfl) (Nat.le_of_ble_eq_true rfl) dX9_plan_159 (fun f_14 H locs hP hD hS => ?_)
                refine lv_aload_n hx hb dX9_plan_162 rfl (lv_at hl 2 rfl) ?_
                refine gt_SP_SP_marches hx hb hts hown hK hP lwd_39 dX9_plan_163 ?_
                refine lv_dup hx hb dX9_plan_166 rfl ?_
                refine gt_SP_marches_told hx hb hts hown hK hP lwd_237 dX9_plan_167 ?_
                refine lv_iconst (v := 1) hx hb dX9_plan_170 (by decide) ?_
                refine lv_iload_n hx hb dX9_plan_171 rfl (lv_at hl 3 rfl) ?_
                refine lv_ishl hx hb dX9_plan_172 ?_
                refine lv_topi (fun n_15 en_15 => ?_)
                have bn_15 := (i_sh1 en_15 (rfl : k.toInt = k.toInt) (by omega)).2
                refine lv_ior hx hb dX9_plan_173 ?_
                refine lv_topi (fun n_16 en_16 => ?_)
                refine pt_SP_marches_told (x := n_16) hx hb hts hown hK hP hD hS lwd_237 dX9_plan_174 (fun H locs hP hD hS => ?_)
                refine lv_aload_n hx hb dX9_plan_177 rfl (lv_at hl 2 rfl) ?_
                refine gt_SP_SP_marches hx hb hts hown hK hP lwd_39 dX9_plan_178 ?_
                refine lv_iconst (v := 0) hx hb dX9_plan_181 (by decide) ?_
                refine pt_SP_marches_marching (x := 0) hx hb hts hown hK hP hD hS lwd_210 (by decide) dX9_plan_182 (fun H locs hP hD hS => ?_)
                refine lv_aload_n hx hb dX9_plan_185 rfl (lv_at hl 2 rfl) ?_
                refine gt_SP_SP_search hx hb hts hown hK hP lwd_43 dX9_plan_186 ?_
                refine lv_iconst (v := 0) hx hb dX9_plan_189 (by decide) ?_
                refine pt_SP_search_known (x := 0) hx hb hts hown hK hP hD hS lwd_216 (by decide) dX9_plan_190 (fun H locs hP hD hS => ?_)
                refine lv_iload_n hx hb dX9_plan_193 rfl (lv_at hl 1 rfl) ?_
                have k_17 : (0 : Int32).toInt = 0 := by decide
                have k_18 : (0 : Int32).toInt = 0 := by decide
                have k_19 : (0 : Int32).toInt = 0 := by decide
                exact hrt l_8 0 n_16 0 0 f_14 ⟨(by omega), (by omega), (by omega), (by omega)⟩ hP hD hS (nar_b (i_01' (by omega))) dX9_plan_194
            · have gc_11 : l_9.toInt < v_band_loads.toInt := i_nle (rfl : v_band_loads.toInt = v_band_loads.toInt) (rfl : l_9.toInt = l_9.toInt) c_11
              refine lv_aload_n hx hb dX9_plan_44 rfl (lv_at hl 2 rfl) ?_
              refine gt_SP_SP_tape hx hb hts hown hK hP lwd_15 dX9_plan_45 ?_
              refine gt_SP_tape_bytes hx hb hts hown hK hP lwd_899 dX9_plan_48 ?_
              refine lv_iload_n hx hb dX9_plan_51 rfl (lv_at hl 0 rfl) ?_
              refine al_bytes hx hb hK hP hr_bytes (i_in (rfl : l_9.toInt = l_9.toInt) (by omega) (by omega)) dX9_plan_52 (fun n_20 en_20 bn_20 => ?_)
              refine lv_istore (lv' := [(4, .int n_20), (3, .int l_9), (2, .int l_8), (0, .ref (hs 0)), (1, .int k)]) hx hb dX9_plan_53 hl (by decide) rfl (fun ls hl => ?_)
              refine lv_aload_n hx hb dX9_plan_55 rfl (lv_at hl 3 rfl) ?_
              refine gt_SP_SP_band hx hb hts hown hK hP lwd_19 dX9_plan_56 ?_
              refine gt_SP_band_owner hx hb hts hown hK hP lwd_235 dX9_plan_59 ?_
              refine lv_iload_n hx hb dX9_plan_62 rfl (lv_at hl 1 rfl) ?_
              refine al_owner hx hb hK hP hr_owner (i_in (rfl : l_9.toInt = l_9.toInt) (by omega) (by omega)) dX9_plan_63 (fun n_21 en_21 bn_21 => ?_)
              refine lv_iconst (v := (-1)) hx hb dX9_plan_64 (by decide) ?_
              refine lv_icmp_eq (tgt := 82) hx hb dX9_plan_65 (by decide) (fun c_22 => ?_) (fun c_22 => ?_)
              · have gc_22 : n_21.toInt = (-1) := i_eq (rfl : n_21.toInt = n_21.toInt) (by decide : ((-1) : Int32).toInt = (-1)) c_22
                refine lv_iconst (v := 1) hx hb dX9_plan_82 (by decide) ?_
                refine lv_goto (tgt := 87) hx hb dX9_plan_83 (by decide) ?_
                refine lv_istore (lv' := [(5, .int 1), (4, .int n_20), (3, .int l_9), (2, .int l_8), (0, .ref (hs 0)), (1, .int k)]) hx hb dX9_plan_87 hl (by decide) rfl (fun ls hl => ?_)
                refine lv_iload_n hx hb dX9_plan_89 rfl (lv_at hl 3 rfl) ?_
                refine lv_if_eq (tgt := 114) hx hb dX9_plan_90 (by decide) (fun c_23 => ?_) (fun c_23 => ?_)
                · have gc_23 : l_8.toInt = 0 := i_eq (rfl : l_8.toInt = l_8.toInt) (by decide : (0 : Int32).toInt = 0) c_23
                  refine lv_iconst (v := 0) hx hb dX9_plan_114 (by decide) ?_
                  refine lv_istore_n (lv' := [(2, .int 0), (5, .int 1), (4, .int n_20), (3, .int l_9), (0, .ref (hs 0)), (1, .int k)]) hx hb dX9_plan_115 rfl hl (by decide) rfl (fun ls hl => ?_)
                  obtain ⟨n_24, en_24⟩ : ∃ y : Int32, y = l_9 + 1 := ⟨_, rfl⟩
                  have tn_24 : n_24.toInt = l_9.toInt + 1 := i_add en_24 (rfl : l_9.toInt = l_9.toInt) (by decide : (1 : Int32).toInt = 1) (by omega) (by omega)
                  refine lv_iinc (v := n_24) (lv' := [(3, .int n_24), (2, .int 0), (5, .int 1), (4, .int n_20), (0, .ref (hs 0)), (1, .int k)]) hx hb dX9_plan_116 hl (k := 3) rfl (by rw [en_24]; rfl) (by decide) rfl (fun ls hl => ?_)
                  refine lv_goto (tgt := 33) hx hb dX9_plan_119 (by decide) ?_
                  have k_25 : (0 : Int32).toInt = 0 := by decide
                  exact ih33_10 0 n_24 (by omega) (by omega) (by omega) _ _ _ hP hD hS (lv_sub hl [0, 1, 4, 5] rfl)
                · have gc_23 : l_8.toInt ≠ 0 := i_ne (rfl : l_8.toInt = l_8.toInt) (by decide : (0 : Int32).toInt = 0) c_23
                  refine lv_aload_n hx hb dX9_plan_93 rfl (lv_at hl 4 rfl) ?_
                  refine gt_SP_SP_band hx hb hts hown hK hP lwd_19 dX9_plan_94 ?_
                  refine lv_iload hx hb dX9_plan_97 (lv_at hl 1 rfl) ?_
                  refine xi hD hS hA (xV (As := [.int n_20]) (rest := []) hx hb hml hown hts hK hP hD hS hA NS_ok hN hAe hl.1 ⟨Nat.le_refl _, Nat.le_refl _⟩ 3 rfl rfl rfl (c_X0_hasWalker l D cy hs hH hT sH sT v_tape_size v_band_walkers v_band_loads v_band_pieces v_rules_clauses v_reader_end v_reader_at v_reader_length v_reader_letter v_reader_fault v_draft_clauses v_paces_version v_packing_quicker v_packing_loads v_packing_looseCount v_marches_told v_marches_changeMinutes v_marches_marching v_marches_gone v_search_known v_search_countHere v_search_countThere v_search_cost v_search_most v_search_found f_bytes f_knee f_weight f_limps f_bheft f_owner f_food f_miles f_slope f_rsteps f_rkind f_ryields f_rholds f_rletters f_rstack f_dsteps f_dkind f_dyields f_dholds f_dletters f_dstack f_caps f_versions f_sharing f_pheft f_prow f_holder f_comes f_pcaps f_room f_loose f_reached f_mrow f_minutesOn f_mtired f_here f_there f_statesHere f_statesThere f_listed f_stired f_burdens f_pacesOn f_restedOn f_behindOn f_behindFor f_first f_second f_plans f_tiredOn tS H.size n_20 (by omega)) (gi_V lwd_238 lwd_239 lwd_240 lwd_18 lwd_241) ⟨rfl, hd_X0_hasWalker⟩ ⟨Nat.le_of_ble_eq_true rfl, Nat.le_of_ble_eq_true rfl⟩ rfl (Nat.le_of_ble_eq_true rfl) dX9_plan_99) (fun r_27 u_26 H locs hw hP hD hS => ?_)
                  try dsimp only at hw hP hD
                  obtain ⟨p_28, p_29⟩ := hw
                  refine lv_if_eq (tgt := 114) hx hb dX9_plan_102 (by decide) (fun c_30 => ?_) (fun c_30 => ?_)
                  · have gc_30 : r_27.toInt = 0 := i_eq (rfl : r_27.toInt = r_27.toInt) (by decide : (0 : Int32).toInt = 0) c_30
                    refine lv_iconst (v := 0) hx hb dX9_plan_114 (by decide) ?_
                    refine lv_istore_n (lv' := [(2, .int 0), (5, .int 1), (4, .int n_20), (3, .int l_9), (0, .ref (hs 0)), (1, .int k)]) hx hb dX9_plan_115 rfl hl (by decide) rfl (fun ls hl => ?_)
                    obtain ⟨n_31, en_31⟩ : ∃ y : Int32, y = l_9 + 1 := ⟨_, rfl⟩
                    have tn_31 : n_31.toInt = l_9.toInt + 1 := i_add en_31 (rfl : l_9.toInt = l_9.toInt) (by decide : (1 : Int32).toInt = 1) (by omega) (by omega)
                    refine lv_iinc (v := n_31) (lv' := [(3, .int n_31), (2, .int 0), (5, .int 1), (4, .int n_20), (0, .ref (hs 0)), (1, .int k)]) hx hb dX9_plan_116 hl (k := 3) rfl (by rw [en_31]; rfl) (by decide) rfl (fun ls hl => ?_)
                    refine lv_goto (tgt := 33) hx hb dX9_plan_119 (by decide) ?_
                    have k_32 : (0 : Int32).toInt = 0 := by decide
                    exact ih33_10 0 n_31 (by omega) (by omega) (by omega) _ _ _ hP hD hS (lv_sub hl [0, 1, 4, 5] rfl)
                  · have gc_30 : r_27.toInt ≠ 0 := i_ne (rfl : r_27.toInt = r_27.toInt) (by decide : (0 : Int32).toInt = 0) c_30
                    refine lv_iload hx hb dX9_plan_105 (lv_at hl 0 rfl) ?_
                    refine lv_if_eq (tgt := 114) hx hb dX9_plan_107 (by decide) (fun c_33 => ?_) (fun c_33 => ?_)
                    · exact absurd c_33 (by decide)
                    · skip
                      refine lv_iconst (v := 1) hx hb dX9_plan_110 (by decide) ?_
                      refine lv_goto (tgt := 115) hx hb dX9_plan_111 (by decide) ?_
                      refine lv_istore_n (lv' := [(2, .int 1), (5, .int 1), (4, .int n_20), (3, .int l_9), (0, .ref (hs 0)), (1, .int k)]) hx hb dX9_plan_115 rfl hl (by decide) rfl (fun ls hl => ?_)
                      obtain ⟨n_34, en_34⟩ : ∃ y : Int32, y = l_9 + 1 := ⟨_, rfl⟩
                      have tn_34 : n_34.toInt = l_9.toInt + 1 := i_add en_34 (rfl : l_9.toInt = l_9.toInt) (by decide : (1 : Int32).toInt = 1) (by omega) (by omega)
                      refine lv_iinc (v := n_34) (lv' := [(3, .int n_34), (2, .int 1), (5, .int 1), (4, .int n_20), (0, .ref (hs 0)), (1, .int k)]) hx hb dX9_plan_116 hl (k := 3) rfl (by rw [en_34]; rfl) (by decide) rfl (fun ls hl => ?_)
                      refine lv_goto (tgt := 33) hx hb dX9_plan_119 (by decide) ?_
                      have k_35 : (1 : Int32).toInt = 1 := by decide
                      exact ih33_10 1 n_34 (by omega) (by omega) (by omega) _ _ _ hP hD hS (lv_sub hl [0, 1, 4, 5] rfl)
              · have gc_22 : n_21.toInt ≠ (-1) := i_ne (rfl : n_21.toInt = n_21.toInt) (by decide : ((-1) : Int32).toInt = (-1)) c_22
                refine lv_aload_n hx hb dX9_plan_68 rfl (lv_at hl 3 rfl) ?_
                refine gt_SP_SP_band hx hb hts hown hK hP lwd_19 dX9_plan_69 ?_
                refine gt_SP_band_owner hx hb hts hown hK hP lwd_235 dX9_plan_72 ?_
                refine lv_iload_n hx hb dX9_plan_75 rfl (lv_at hl 1 rfl) ?_
                refine al_owner hx hb hK hP hr_owner (i_in (rfl : l_9.toInt = l_9.toInt) (by omega) (by omega)) dX9_plan_76 (fun n_36 en_36 bn_36 => ?_)
                obtain rfl : n_21 = n_36 := en_21.trans en_36.symm
                refine lv_iload hx hb dX9_plan_77 (lv_at hl 0 rfl) ?_
                refine lv_icmp_ne (tgt := 86) hx hb dX9_plan_79 (by decide) (fun c_37 => ?_) (fun c_37 => ?_)
                · have gc_37 : n_21.toInt ≠ n_20.toInt := i_ne (rfl : n_21.toInt = n_21.toInt) (rfl : n_20.toInt = n_20.toInt) c_37
                  refine lv_iconst (v := 0) hx hb dX9_plan_86 (by decide) ?_
                  refine lv_istore (lv' := [(5, .int 0), (4, .int n_20), (3, .int l_9), (2, .int l_8), (0, .ref (hs 0)), (1, .int k)]) hx hb dX9_plan_87 hl (by decide) rfl (fun ls hl => ?_)
                  refine lv_iload_n hx hb dX9_plan_89 rfl (lv_at hl 3 rfl) ?_
                  refine lv_if_eq (tgt := 114) hx hb dX9_plan_90 (by decide) (fun c_38 => ?_) (fun c_38 => ?_)
                  · have gc_38 : l_8.toInt = 0 := i_eq (rfl : l_8.toInt = l_8.toInt) (by decide : (0 : Int32).toInt = 0) c_38
                    refine lv_iconst (v := 0) hx hb dX9_plan_114 (by decide) ?_
                    refine lv_istore_n (lv' := [(2, .int 0), (5, .int 0), (4, .int n_20), (3, .int l_9), (0, .ref (hs 0)), (1, .int k)]) hx hb dX9_plan_115 rfl hl (by decide) rfl (fun ls hl => ?_)
                    obtain ⟨n_39, en_39⟩ : ∃ y : Int32, y = l_9 + 1 := ⟨_, rfl⟩
                    have tn_39 : n_39.toInt = l_9.toInt + 1 := i_add en_39 (rfl : l_9.toInt = l_9.toInt) (by decide : (1 : Int32).toInt = 1) (by omega) (by omega)
                    refine lv_iinc (v := n_39) (lv' := [(3, .int n_39), (2, .int 0), (5, .int 0), (4, .int n_20), (0, .ref (hs 0)), (1, .int k)]) hx hb dX9_plan_116 hl (k := 3) rfl (by rw [en_39]; rfl) (by decide) rfl (fun ls hl => ?_)
                    refine lv_goto (tgt := 33) hx hb dX9_plan_119 (by decide) ?_
                    have k_40 : (0 : Int32).toInt = 0 := by decide
                    exact ih33_10 0 n_39 (by omega) (by omega) (by omega) _ _ _ hP hD hS (lv_sub hl [0, 1, 4, 5] rfl)
                  · have gc_38 : l_8.toInt ≠ 0 := i_ne (rfl : l_8.toInt = l_8.toInt) (by decide : (0 : Int32).toInt = 0) c_38
                    refine lv_aload_n hx hb dX9_plan_93 rfl (lv_at hl 4 rfl) ?_
                    refine gt_SP_SP_band hx hb hts hown hK hP lwd_19 dX9_plan_94 ?_
                    refine lv_iload hx hb dX9_plan_97 (lv_at hl 1 rfl) ?_
                    refine xi hD hS hA (xV (As := [.int n_20]) (rest := []) hx hb hml hown hts hK hP hD hS hA NS_ok hN hAe hl.1 ⟨Nat.le_refl _, Nat.le_refl _⟩ 3 rfl rfl rfl (c_X0_hasWalker l D cy hs hH hT sH sT v_tape_size v_band_walkers v_band_loads v_band_pieces v_rules_clauses v_reader_end v_reader_at v_reader_length v_reader_letter v_reader_fault v_draft_clauses v_paces_version v_packing_quicker v_packing_loads v_packing_looseCount v_marches_told v_marches_changeMinutes v_marches_marching v_marches_gone v_search_known v_search_countHere v_search_countThere v_search_cost v_search_most v_search_found f_bytes f_knee f_weight f_limps f_bheft f_owner f_food f_miles f_slope f_rsteps f_rkind f_ryields f_rholds f_rletters f_rstack f_dsteps f_dkind f_dyields f_dholds f_dletters f_dstack f_caps f_versions f_sharing f_pheft f_prow f_holder f_comes f_pcaps f_room f_loose f_reached f_mrow f_minutesOn f_mtired f_here f_there f_statesHere f_statesThere f_listed f_stired f_burdens f_pacesOn f_restedOn f_behindOn f_behindFor f_first f_second f_plans f_tiredOn tS H.size n_20 (by omega)) (gi_V lwd_238 lwd_239 lwd_240 lwd_18 lwd_241) ⟨rfl, hd_X0_hasWalker⟩ ⟨Nat.le_of_ble_eq_true rfl, Nat.le_of_ble_eq_true rfl⟩ rfl (Nat.le_of_ble_eq_true rfl) dX9_plan_99) (fun r_42 u_41 H locs hw hP hD hS => ?_)
                    try dsimp only at hw hP hD
                    obtain ⟨p_43, p_44⟩ := hw
                    refine lv_if_eq (tgt := 114) hx hb dX9_plan_102 (by decide) (fun c_45 => ?_) (fun c_45 => ?_)
                    · have gc_45 : r_42.toInt = 0 := i_eq (rfl : r_42.toInt = r_42.toInt) (by decide : (0 : Int32).toInt = 0) c_45
                      refine lv_iconst (v := 0) hx hb dX9_plan_114 (by decide) ?_
                      refine lv_istore_n (lv' := [(2, .int 0), (5, .int 0), (4, .int n_20), (3, .int l_9), (0, .ref (hs 0)), (1, .int k)]) hx hb dX9_plan_115 rfl hl (by decide) rfl (fun ls hl => ?_)
                      obtain ⟨n_46, en_46⟩ : ∃ y : Int32, y = l_9 + 1 := ⟨_, rfl⟩
                      have tn_46 : n_46.toInt = l_9.toInt + 1 := i_add en_46 (rfl : l_9.toInt = l_9.toInt) (by decide : (1 : Int32).toInt = 1) (by omega) (by omega)
                      refine lv_iinc (v := n_46) (lv' := [(3, .int n_46), (2, .int 0), (5, .int 0), (4, .int n_20), (0, .ref (hs 0)), (1, .int k)]) hx hb dX9_plan_116 hl (k := 3) rfl (by rw [en_46]; rfl) (by decide) rfl (fun ls hl => ?_)
                      refine lv_goto (tgt := 33) hx hb dX9_plan_119 (by decide) ?_
                      have k_47 : (0 : Int32).toInt = 0 := by decide
                      exact ih33_10 0 n_46 (by omega) (by omega) (by omega) _ _ _ hP hD hS (lv_sub hl [0, 1, 4, 5] rfl)
                    · have gc_45 : r_42.toInt ≠ 0 := i_ne (rfl : r_42.toInt = r_42.toInt) (by decide : (0 : Int32).toInt = 0) c_45
                      refine lv_iload hx hb dX9_plan_105 (lv_at hl 0 rfl) ?_
                      refine lv_if_eq (tgt := 114) hx hb dX9_plan_107 (by decide) (fun c_48 => ?_) (fun c_48 => ?_)
                      · skip
                        refine lv_iconst (v := 0) hx hb dX9_plan_114 (by decide) ?_
                        refine lv_istore_n (lv' := [(2, .int 0), (5, .int 0), (4, .int n_20), (3, .int l_9), (0, .ref (hs 0)), (1, .int k)]) hx hb dX9_plan_115 rfl hl (by decide) rfl (fun ls hl => ?_)
                        obtain ⟨n_49, en_49⟩ : ∃ y : Int32, y = l_9 + 1 := ⟨_, rfl⟩
                        have tn_49 : n_49.toInt = l_9.toInt + 1 := i_add en_49 (rfl : l_9.toInt = l_9.toInt) (by decide : (1 : Int32).toInt = 1) (by omega) (by omega)
                        refine lv_iinc (v := n_49) (lv' := [(3, .int n_49), (2, .int 0), (5, .int 0), (4, .int n_20), (0, .ref (hs 0)), (1, .int k)]) hx hb dX9_plan_116 hl (k := 3) rfl (by rw [en_49]; rfl) (by decide) rfl (fun ls hl => ?_)
                        refine lv_goto (tgt := 33) hx hb dX9_plan_119 (by decide) ?_
                        have k_50 : (0 : Int32).toInt = 0 := by decide
                        exact ih33_10 0 n_49 (by omega) (by omega) (by omega) _ _ _ hP hD hS (lv_sub hl [0, 1, 4, 5] rfl)
                      · exact absurd c_48 (by decide)
                · have gc_37 : n_21.toInt = n_20.toInt := i_eq (rfl : n_21.toInt = n_21.toInt) (rfl : n_20.toInt = n_20.toInt) c_37
                  refine lv_iconst (v := 1) hx hb dX9_plan_82 (by decide) ?_
                  refine lv_goto (tgt := 87) hx hb dX9_plan_83 (by decide) ?_
                  refine lv_istore (lv' := [(5, .int 1), (4, .int n_20), (3, .int l_9), (2, .int l_8), (0, .ref (hs 0)), (1, .int k)]) hx hb dX9_plan_87 hl (by decide) rfl (fun ls hl => ?_)
                  refine lv_iload_n hx hb dX9_plan_89 rfl (lv_at hl 3 rfl) ?_
                  refine lv_if_eq (tgt := 114) hx hb dX9_plan_90 (by decide) (fun c_51 => ?_) (fun c_51 => ?_)
                  · have gc_51 : l_8.toInt = 0 := i_eq (rfl : l_8.toInt = l_8.toInt) (by decide : (0 : Int32).toInt = 0) c_51
                    refine lv_iconst (v := 0) hx hb dX9_plan_114 (by decide) ?_
                    refine lv_istore_n (lv' := [(2, .int 0), (5, .int 1), (4, .int n_20), (3, .int l_9), (0, .ref (hs 0)), (1, .int k)]) hx hb dX9_plan_115 rfl hl (by decide) rfl (fun ls hl => ?_)
                    obtain ⟨n_52, en_52⟩ : ∃ y : Int32, y = l_9 + 1 := ⟨_, rfl⟩
                    have tn_52 : n_52.toInt = l_9.toInt + 1 := i_add en_52 (rfl : l_9.toInt = l_9.toInt) (by decide : (1 : Int32).toInt = 1) (by omega) (by omega)
                    refine lv_iinc (v := n_52) (lv' := [(3, .int n_52), (2, .int 0), (5, .int 1), (4, .int n_20), (0, .ref (hs 0)), (1, .int k)]) hx hb dX9_plan_116 hl (k := 3) rfl (by rw [en_52]; rfl) (by decide) rfl (fun ls hl => ?_)
                    refine lv_goto (tgt := 33) hx hb dX9_plan_119 (by decide) ?_
                    have k_53 : (0 : Int32).toInt = 0 := by decide
                    exact ih33_10 0 n_52 (by omega) (by omega) (by omega) _ _ _ hP hD hS (lv_sub hl [0, 1, 4, 5] rfl)
                  · have gc_51 : l_8.toInt ≠ 0 := i_ne (rfl : l_8.toInt = l_8.toInt) (by decide : (0 : Int32).toInt = 0) c_51
                    refine lv_aload_n hx hb dX9_plan_93 rfl (lv_at hl 4 rfl) ?_
                    refine gt_SP_SP_band hx hb hts hown hK hP lwd_19 dX9_plan_94 ?_
                    refine lv_iload hx hb dX9_plan_97 (lv_at hl 1 rfl) ?_
                    refine xi hD hS hA (xV (As := [.int n_20]) (rest := []) hx hb hml hown hts hK hP hD hS hA NS_ok hN hAe hl.1 ⟨Nat.le_refl _, Nat.le_refl _⟩ 3 rfl rfl rfl (c_X0_hasWalker l D cy hs hH hT sH sT v_tape_size v_band_walkers v_band_loads v_band_pieces v_rules_clauses v_reader_end v_reader_at v_reader_length v_reader_letter v_reader_fault v_draft_clauses v_paces_version v_packing_quicker v_packing_loads v_packing_looseCount v_marches_told v_marches_changeMinutes v_marches_marching v_marches_gone v_search_known v_search_countHere v_search_countThere v_search_cost v_search_most v_search_found f_bytes f_knee f_weight f_limps f_bheft f_owner f_food f_miles f_slope f_rsteps f_rkind f_ryields f_rholds f_rletters f_rstack f_dsteps f_dkind f_dyields f_dholds f_dletters f_dstack f_caps f_versions f_sharing f_pheft f_prow f_holder f_comes f_pcaps f_room f_loose f_reached f_mrow f_minutesOn f_mtired f_here f_there f_statesHere f_statesThere f_listed f_stired f_burdens f_pacesOn f_restedOn f_behindOn f_behindFor f_first f_second f_plans f_tiredOn tS H.size n_20 (by omega)) (gi_V lwd_238 lwd_239 lwd_240 lwd_18 lwd_241) ⟨rfl, hd_X0_hasWalker⟩ ⟨Nat.le_of_ble_eq_true rfl, Nat.le_of_ble_eq_true rfl⟩ rfl (Nat.le_of_ble_eq_true rfl) dX9_plan_99) (fun r_55 u_54 H locs hw hP hD hS => ?_)
                    try dsimp only at hw hP hD
                    obtain ⟨p_56, p_57⟩ := hw
                    refine lv_if_eq (tgt := 114) hx hb dX9_plan_102 (by decide) (fun c_58 => ?_) (fun c_58 => ?_)
                    · have gc_58 : r_55.toInt = 0 := i_eq (rfl : r_55.toInt = r_55.toInt) (by decide : (0 : Int32).toInt = 0) c_58
                      refine lv_iconst (v := 0) hx hb dX9_plan_114 (by decide) ?_
                      refine lv_istore_n (lv' := [(2, .int 0), (5, .int 1), (4, .int n_20), (3, .int l_9), (0, .ref (hs 0)), (1, .int k)]) hx hb dX9_plan_115 rfl hl (by decide) rfl (fun ls hl => ?_)
                      obtain ⟨n_59, en_59⟩ : ∃ y : Int32, y = l_9 + 1 := ⟨_, rfl⟩
                      have tn_59 : n_59.toInt = l_9.toInt + 1 := i_add en_59 (rfl : l_9.toInt = l_9.toInt) (by decide : (1 : Int32).toInt = 1) (by omega) (by omega)
                      refine lv_iinc (v := n_59) (lv' := [(3, .int n_59), (2, .int 0), (5, .int 1), (4, .int n_20), (0, .ref (hs 0)), (1, .int k)]) hx hb dX9_plan_116 hl (k := 3) rfl (by rw [en_59]; rfl) (by decide) rfl (fun ls hl => ?_)
                      refine lv_goto (tgt := 33) hx hb dX9_plan_119 (by decide) ?_
                      have k_60 : (0 : Int32).toInt = 0 := by decide
                      exact ih33_10 0 n_59 (by omega) (by omega) (by omega) _ _ _ hP hD hS (lv_sub hl [0, 1, 4, 5] rfl)
                    · have gc_58 : r_55.toInt ≠ 0 := i_ne (rfl : r_55.toInt = r_55.toInt) (by decide : (0 : Int32).toInt = 0) c_58
                      refine lv_iload hx hb dX9_plan_105 (lv_at hl 0 rfl) ?_
                      refine lv_if_eq (tgt := 114) hx hb dX9_plan_107 (by decide) (fun c_61 => ?_) (fun c_61 => ?_)
                      · exact absurd c_61 (by decide)
                      · skip
                        refine lv_iconst (v := 1) hx hb dX9_plan_110 (by decide) ?_
                        refine lv_goto (tgt := 115) hx hb dX9_plan_111 (by decide) ?_
                        refine lv_istore_n (lv' := [(2, .int 1), (5, .int 1), (4, .int n_20), (3, .int l_9), (0, .ref (hs 0)), (1, .int k)]) hx hb dX9_plan_115 rfl hl (by decide) rfl (fun ls hl => ?_)
                        obtain ⟨n_62, en_62⟩ : ∃ y : Int32, y = l_9 + 1 := ⟨_, rfl⟩
                        have tn_62 : n_62.toInt = l_9.toInt + 1 := i_add en_62 (rfl : l_9.toInt = l_9.toInt) (by decide : (1 : Int32).toInt = 1) (by omega) (by omega)
                        refine lv_iinc (v := n_62) (lv' := [(3, .int n_62), (2, .int 1), (5, .int 1), (4, .int n_20), (0, .ref (hs 0)), (1, .int k)]) hx hb dX9_plan_116 hl (k := 3) rfl (by rw [en_62]; rfl) (by decide) rfl (fun ls hl => ?_)
                        refine lv_goto (tgt := 33) hx hb dX9_plan_119 (by decide) ?_
                        have k_63 : (1 : Int32).toInt = 1 := by decide
                        exact ih33_10 1 n_62 (by omega) (by omega) (by omega) _ _ _ hP hD hS (lv_sub hl [0, 1, 4, 5] rfl)
        have k_64 : (1 : Int32).toInt = 1 := by decide
        have k_65 : (0 : Int32).toInt = 0 := by decide
        exact L33_10 8589934592 1 0 (by omega) (by omega) (by omega) _ _ _ hP hD hS (lv_sub hl [0, 1, 2, 3] rfl)
      · have gc_5 : v_tape_size.toInt < v_band_loads.toInt := i_nle (rfl : v_band_loads.toInt = v_band_loads.toInt) (rfl : v_tape_size.toInt = v_tape_size.toInt) c_5
        refine lv_iconst (v := 0) hx hb dX9_plan_27 (by decide) ?_
        have k_66 : (0 : Int32).toInt = 0 := by decide
        exact hrt 0 v_tape_size v_marches_told v_marches_marching v_search_known f_plans ⟨(by omega), (by omega), (by omega), (by omega)⟩ hP hD hS rfl dX9_plan_28
set_option maxHeartbeats 16000000 in
set_option maxRecDepth 100000 in
theorem c_X9_march (l : Launch) (D : va_G) (cy : Nat → ClassId) (hs : Nat → Nat) (hH hT sH sT : Nat) (v_tape_size v_band_walkers v_band_loads v_band_pieces v_rules_clauses v_reader_end v_reader_at v_reader_length v_reader_letter v_reader_fault v_draft_clauses v_paces_version v_packing_quicker v_packing_loads v_packing_looseCount v_marches_told v_marches_changeMinutes v_marches_marching v_marches_gone v_search_known v_search_countHere v_search_countThere v_search_cost v_search_most : Int32) (v_search_found : Int64) (f_bytes f_knee f_weight f_limps f_bheft f_owner f_food f_miles f_slope f_rsteps f_rkind f_ryields f_rholds f_rletters f_rstack f_dsteps f_dkind f_dyields f_dholds f_dletters f_dstack f_caps f_versions f_sharing f_pheft f_prow f_holder f_comes f_pcaps f_room f_loose f_reached f_mrow f_minutesOn f_mtired : Nat → Int32) (f_here f_there : Nat → Int64) (f_statesHere f_statesThere f_listed f_stired f_burdens f_pacesOn f_restedOn f_behindOn f_behindFor f_first f_second : Nat → Int32) (f_plans f_tiredOn : Nat → Nat → Int32) (tS : Nat) (sz : Nat) (n1 : Int32) (hb_v_tape_size : 0 ≤ v_tape_size.toInt ∧ v_tape_size.toInt ≤ 220) (hb_v_band_walkers : 0 ≤ v_band_walkers.toInt ∧ v_band_walkers.toInt ≤ 6) (hb_v_band_pieces : 0 ≤ v_band_pieces.toInt ∧ v_band_pieces.toInt ≤ 10) (hb_v_marches_marching : 0 ≤ v_marches_marching.toInt ∧ v_marches_marching.toInt ≤ 1) (hr_bytes : rg (0) 255 f_bytes) (hr_mrow : rg (0) 17 f_mrow) : gMi l yX9_march cX9_march 5 .boolean 2 [.ref (hs 0), .int n1] D cy (wSP cy hs hH hT sH sT v_tape_size v_band_walkers v_band_loads v_band_pieces v_rules_clauses v_reader_end v_reader_at v_reader_length v_reader_letter v_reader_fault v_draft_clauses v_paces_version v_packing_quicker v_packing_loads v_packing_looseCount v_marches_told v_marches_changeMinutes v_marches_marching v_marches_gone v_search_known v_search_countHere v_search_countThere v_search_cost v_search_most v_search_found f_bytes f_knee f_weight f_limps f_bheft f_owner f_food f_miles f_slope f_rsteps f_rkind f_ryields f_rholds f_rletters f_rstack f_dsteps f_dkind f_dyields f_dholds f_dletters f_dstack f_caps f_versions f_sharing f_pheft f_prow f_holder f_comes f_pcaps f_room f_loose f_reached f_mrow f_minutesOn f_mtired f_here f_there f_statesHere f_statesThere f_listed f_stired f_burdens f_pacesOn f_restedOn f_behindOn f_behindFor f_first f_second f_plans f_tiredOn) (NS tS) sz (fun (r : Int32) (u : Int32 × Int32 × (Nat → Int32)) => (0 ≤ r.toInt ∧ r.toInt ≤ 1) ∧ (0 ≤ (u.1).toInt ∧ (u.1).toInt ≤ 220) ∧ (0 ≤ (u.2.1).toInt ∧ (u.2.1).toInt ≤ 1) ∧ (rg (0) 17 (u.2.2))) (fun u => wSP cy hs hH hT sH sT (u.1) v_band_walkers v_band_loads v_band_pieces v_rules_clauses v_reader_end v_reader_at v_reader_length v_reader_letter v_reader_fault v_draft_clauses v_paces_version v_packing_quicker v_packing_loads v_packing_looseCount v_marches_told v_marches_changeMinutes (u.2.1) v_marches_gone v_search_known v_search_countHere v_search_countThere v_search_cost v_search_most v_search_found f_bytes f_knee f_weight f_limps f_bheft f_owner f_food f_miles f_slope f_rsteps f_rkind f_ryields f_rholds f_rletters f_rstack f_dsteps f_dkind f_dyields f_dholds f_dletters f_dstack f_caps f_versions f_sharing f_pheft f_prow f_holder f_comes f_pcaps f_room f_loose f_reached (u.2.2) f_minutesOn f_mtired f_here f_there f_statesHere f_statesThere f_listed f_stired f_burdens f_pacesOn f_restedOn f_behindOn f_behindFor f_first f_second f_plans f_tiredOn) := by
  refine gMi_in (by decide) (Nat.le_of_ble_eq_true rfl) ?_
  intro p e s m args below meth c A ls Q hx hb hml hts hown hsz hP hK hD hN hAe hA hS hl hret
  subst hsz
  have hl : lv_has ls 5 [(0, .ref (hs 0)), (1, .int n1)] := hl
  have hrt := fun (r : Int32) (v_tape_size' : Int32) (v_marches_marching' : Int32) (f_mrow' : Nat → Int32) (hp : (0 ≤ r.toInt ∧ r.toInt ≤ 1) ∧ (0 ≤ v_tape_size'.toInt ∧ v_tape_size'.toInt ≤ 220) ∧ (0 ≤ v_marches_marching'.toInt ∧ v_marches_marching'.toInt ≤ 1) ∧ (rg (0) 17 f_mrow')) {H : Heap} {locs : List Loc} {pc : Nat} {ls : Array Slot} => hret r (v_tape_size', v_marches_marching', f_mrow') (H := H) (locs := locs) (pc := pc) (ls := ls) hp
  clear hret
  refine lv_iload_n hx hb dX9_march_0 rfl (lv_at hl 1 rfl) ?_
  refine lv_iconst (v := 1) hx hb dX9_march_1 (by decide) ?_
  refine lv_icmp_lt (tgt := 37) hx hb dX9_march_2 (by decide) (fun c_1 => ?_) (fun c_1 => ?_)
  · have gc_1 : n1.toInt < 1 := i_lt (rfl : n1.toInt = n1.toInt) (by decide : (1 : Int32).toInt = 1) c_1
    refine lv_iconst (v := 0) hx hb dX9_march_37 (by decide) ?_
    have k_2 : (0 : Int32).toInt = 0 := by decide
    exact hrt 0 v_tape_size v_marches_marching f_mrow ⟨(by omega), (by omega), (by omega), hr_mrow⟩ hP hD hS rfl dX9_march_38
  · have gc_1 : 1 ≤ n1.toInt := i_nlt (rfl : n1.toInt = n1.toInt) (by decide : (1 : Int32).toInt = 1) c_1
    refine lv_iload_n hx hb dX9_march_5 rfl (lv_at hl 1 rfl) ?_
    refine lv_aload_n hx hb dX9_march_6 rfl (lv_at hl 0 rfl) ?_
    refine gt_SP_SP_band hx hb hts hown hK hP lwd_19 dX9_march_7 ?_
    refine gt_SP_band_pieces hx hb hts hown hK hP lwd_258 dX9_march_10 ?_
    refine lv_icmp_ne (tgt := 37) hx hb dX9_march_13 (by decide) (fun c_3 => ?_) (fun c_3 => ?_)
    · have gc_3 : n1.toInt ≠ v_band_pieces.toInt := i_ne (rfl : n1.toInt = n1.toInt) (rfl : v_band_pieces.toInt = v_band_pieces.toInt) c_3
      refine lv_iconst (v := 0) hx hb dX9_march_37 (by decide) ?_
      have k_4 : (0 : Int32).toInt = 0 := by decide
      exact hrt 0 v_tape_size v_marches_marching f_mrow ⟨(by omega), (by omega), (by omega), hr_mrow⟩ hP hD hS rfl dX9_march_38
    · have gc_3 : n1.toInt = v_band_pieces.toInt := i_eq (rfl : n1.toInt = n1.toInt) (rfl : v_band_pieces.toInt = v_band_pieces.toInt) c_3
      refine lv_aload_n hx hb dX9_march_16 rfl (lv_at hl 0 rfl) ?_
      refine gt_SP_SP_band hx hb hts hown hK hP lwd_19 dX9_march_17 ?_
      refine gt_SP_band_walkers hx hb hts hown hK hP lwd_206 dX9_march_20 ?_
      refine lv_if_eq (tgt := 37) hx hb dX9_march_23 (by decide) (fun c_5 => ?_) (fun c_5 => ?_)
      · have gc_5 : v_band_walkers.toInt = 0 := i_eq (rfl : v_band_walkers.toInt = v_band_walkers.toInt) (by decide : (0 : Int32).toInt = 0) c_5
        refine lv_iconst (v := 0) hx hb dX9_march_37 (by decide) ?_
        have k_6 : (0 : Int32).toInt = 0 := by decide
        exact hrt 0 v_tape_size v_marches_marching f_mrow ⟨(by omega), (by omega), (by omega), hr_mrow⟩ hP hD hS rfl dX9_march_38
      · have gc_5 : v_band_walkers.toInt ≠ 0 := i_ne (rfl : v_band_walkers.toInt = v_band_walkers.toInt) (by decide : (0 : Int32).toInt = 0) c_5
        refine lv_aload_n hx hb dX9_march_26 rfl (lv_at hl 0 rfl) ?_
        refine gt_SP_SP_tape hx hb hts hown hK hP lwd_15 dX9_march_27 ?_
        refine gt_SP_tape_size hx hb hts hown hK hP lwd_288 dX9_march_30 ?_
        refine lv_iload_n hx hb dX9_march_33 rfl (lv_at hl 1 rfl) ?_
        refine lv_icmp_ge (tgt := 39) hx hb dX9_march_34 (by decide) (fun c_7 => ?_) (fun c_7 => ?_)
        · have gc_7 : n1.toInt ≤ v_tape_size.toInt := i_le (rfl : n1.toInt = n1.toInt) (rfl : v_tape_size.toInt = v_tape_size.toInt) c_7
          refine lv_iconst (v := 1) hx hb dX9_march_39 (by decide) ?_
          refine lv_istore_n (lv' := [(2, .int 1), (0, .ref (hs 0)), (1, .int n1)]) hx hb dX9_march_40 rfl hl (by decide) rfl (fun ls hl => ?_)
          refine lv_iconst (v := 0) hx hb dX9_march_41 (by decide) ?_
          refine lv_istore_n (lv' := [(3, .int 0), (2, .int 1), (0, .ref (hs 0)), (1, .int n1)]) hx hb dX9_march_42 rfl hl (by decide) rfl (fun ls hl => ?_)
          have L43_12 : ∀ (n : Nat) (l_10 : Int32) (l_11 : Int32), (0 ≤ l_10.toInt ∧ l_10.toInt ≤ 1) → (0 ≤ l_11.toInt ∧ l_11.toInt ≤ 10) → (l_10.toInt ≠ 0 → ∀ j : Nat, (j : Int) < l_11.toInt → 0 ≤ (f_bytes j).toInt ∧ (f_bytes j).toInt ≤ 17) → 11 - l_11.toInt < n → ∀ (H : Heap) (locs : List Loc) (ls : Array Slot), va_P D vwCl (wSP cy hs hH hT sH sT v_tape_size v_band_walkers v_band_loads v_band_pieces v_rules_clauses v_reader_end v_reader_at v_reader_length v_reader_letter v_reader_fault v_draft_clauses v_paces_version v_packing_quicker v_packing_loads v_packing_looseCount v_marches_told v_marches_changeMinutes v_marches_marching v_marches_gone v_search_known v_search_countHere v_search_countThere v_search_cost v_search_most v_search_found f_bytes f_knee f_weight f_limps f_bheft f_owner f_food f_miles f_slope f_rsteps f_rkind f_ryields f_rholds f_rletters f_rstack f_dsteps f_dkind f_dyields f_dholds f_dletters f_dstack f_caps f_versions f_sharing f_pheft f_prow f_holder f_comes f_pcaps f_room f_loose f_reached f_mrow f_minutesOn f_mtired f_here f_there f_statesHere f_statesThere f_listed f_stired f_burdens f_pacesOn f_restedOn f_behindOn f_behindFor f_first f_second f_plans f_tiredOn) H → va_D A (wSP cy hs hH hT sH sT v_tape_size v_band_walkers v_band_loads v_band_pieces v_rules_clauses v_reader_end v_reader_at v_reader_length v_reader_letter v_reader_fault v_draft_clauses v_paces_version v_packing_quicker v_packing_loads v_packing_looseCount v_marches_told v_marches_changeMinutes v_marches_marching v_marches_gone v_search_known v_search_countHere v_search_countThere v_search_cost v_search_most v_search_found f_bytes f_knee f_weight f_limps f_bheft f_owner f_food f_miles f_slope f_rsteps f_rkind f_ryields f_rholds f_rletters f_rstack f_dsteps f_dkind f_dyields f_dholds f_dletters f_dstack f_caps f_versions f_sharing f_pheft f_prow f_holder f_comes f_pcaps f_room f_loose f_reached f_mrow f_minutesOn f_mtired f_here f_there f_statesHere f_statesThere f_listed f_stired f_burdens f_pacesOn f_restedOn f_behindOn f_behindFor f_first f_second f_plans f_tiredOn) → va_S A s.heap H locs → lv_has ls 5 [(3, .int l_11), (2, .int l_10), (0, .ref (hs 0)), (1, .int n1)] → W p l e (gRm 2) s m args below meth c H locs 0 0 Q (F0 m 43 ls []) := by
            intro n
            induction n with
            | zero => intro l_10 l_11 hL43_12_0 hL43_12_1 hL43_12_2 hm; exact absurd hm (by omega)
            | succ n ih43_12 =>
              intro l_10 l_11 hL43_12_0 hL43_12_1 hL43_12_2 hmL43_12 H locs ls hP hD hS hl
              refine lv_iload_n hx hb dX9_march_43 rfl (lv_at hl 0 rfl) ?_
              refine lv_iload_n hx hb dX9_march_44 rfl (lv_at hl 3 rfl) ?_
              refine lv_icmp_ge (tgt := 99) hx hb dX9_march_45 (by decide) (fun c_13 => ?_) (fun c_13 => ?_)
              · have gc_13 : n1.toInt ≤ l_11.toInt := i_le (rfl : n1.toInt = n1.toInt) (rfl : l_11.toInt = l_11.toInt) c_13
                refine lv_aload_n hx hb dX9_march_99 rfl (lv_at hl 2 rfl) ?_
                refine gt_SP_SP_tape hx hb hts hown hK hP lwd_15 dX9_march_100 ?_
                refine lv_iconst (v := 0) hx hb dX9_march_103 (by decide) ?_
                refine pt_SP_tape_size (x := 0) hx hb hts hown hK hP hD hS lwd_288 dX9_march_104 (fun H locs hP hD hS => ?_)
                refine lv_iload_n hx hb dX9_march_107 rfl (lv_at hl 1 rfl) ?_
                refine lv_if_eq (tgt := 139) hx hb dX9_march_108 (by decide) (fun c_14 => ?_) (fun c_14 => ?_)
                · have gc_14 : l_10.toInt = 0 := i_eq (rfl : l_10.toInt = l_10.toInt) (by decide : (0 : Int32).toInt = 0) c_14
                  refine lv_iload_n hx hb dX9_march_139 rfl (lv_at hl 1 rfl) ?_
                  have k_15 : (0 : Int32).toInt = 0 := by decide
                  exact hrt l_10 0 v_marches_marching f_mrow ⟨(by omega), (by omega), (by omega), hr_mrow⟩ hP hD hS (nar_b (i_01' (by omega))) dX9_march_140
                · have gc_14 : l_10.toInt ≠ 0 := i_ne (rfl : l_10.toInt = l_10.toInt) (by decide : (0 : Int32).toInt = 0) c_14
                  refine lv_aload_n hx hb dX9_march_111 rfl (lv_at hl 2 rfl) ?_
                  refine gt_SP_SP_tape hx hb hts hown hK hP lwd_15 dX9_march_112 ?_
                  refine gt_SP_tape_bytes hx hb hts hown hK hP lwd_899 dX9_march_115 ?_
                  refine lv_iconst (v := 0) hx hb dX9_march_118 (by decide) ?_
                  refine lv_aload_n hx hb dX9_march_119 rfl (lv_at hl 2 rfl) ?_
                  refine gt_SP_SP_marches hx hb hts hown hK hP lwd_39 dX9_march_120 ?_
                  refine gt_SP_marches_row hx hb hts hown hK hP lwd_910 dX9_march_123 ?_
                  refine lv_iconst (v := 0) hx hb dX9_march_126 (by decide) ?_
                  refine lv_iload_n hx hb dX9_march_127 rfl (lv_at hl 3 rfl) ?_
                  refine va_copyi hx hb (by rw [hml]; exact hl.1.symm) hown (hts _ lwd_901) (hts _ lwd_391) (hts _ lwd_392) (hts _ lwd_393) hK hP hD hS 2 48 0 0 rfl rfl rfl rfl rfl (by decide) (by decide) (fun z => absurd (i_lt (rfl : n1.toInt = n1.toInt) (by decide : (0 : Int32).toInt = 0) z) (by omega)) (by rw [show (0 : Int32).toNatClampNeg = 0 from by decide, i_ix (rfl : n1.toInt = n1.toInt)]; omega) (by rw [show (0 : Int32).toNatClampNeg = 0 from by decide, i_ix (rfl : n1.toInt = n1.toInt)]; omega) (fun _ _ => rfl) (Nat.le_of_ble_eq_true rfl) (Nat.le_of_ble_eq_true rfl) dX9_march_128 (fun H locs hP hD hS => ?_)
                  obtain ⟨f_16, ef_16⟩ : ∃ z, z = va_cpy f_bytes f_mrow (0 : Int32).toNatClampNeg (0 : Int32).toNatClampNeg n1.toNatClampNeg := ⟨_, rfl⟩
                  have hP : va_P D vwCl (wSP cy hs hH hT sH sT 0 v_band_walkers v_band_loads v_band_pieces v_rules_clauses v_reader_end v_reader_at v_reader_length v_reader_letter v_reader_fault v_draft_clauses v_paces_version v_packing_quicker v_packing_loads v_packing_looseCount v_marches_told v_marches_changeMinutes v_marches_marching v_marches_gone v_search_known v_search_countHere v_search_countThere v_search_cost v_search_most v_search_found f_bytes f_knee f_weight f_limps f_bheft f_owner f_food f_miles f_slope f_rsteps f_rkind f_ryields f_rholds f_rletters f_rstack f_dsteps f_dkind f_dyields f_dholds f_dletters f_dstack f_caps f_versions f_sharing f_pheft f_prow f_holder f_comes f_pcaps f_room f_loose f_reached f_16 f_minutesOn f_mtired f_here f_there f_statesHere f_statesThere f_listed f_stired f_burdens f_pacesOn f_restedOn f_behindOn f_behindFor f_first f_second f_plans f_tiredOn) H := ef_16 ▸ (show va_P D vwCl (wSP cy hs hH hT sH sT 0 v_band_walkers v_band_loads v_band_pieces v_rules_clauses v_reader_end v_reader_at v_reader_length v_reader_letter v_reader_fault v_draft_clauses v_paces_version v_packing_quicker v_packing_loads v_packing_looseCount v_marches_told v_marches_changeMinutes v_marches_marching v_marches_gone v_search_known v_search_countHere v_search_countThere v_search_cost v_search_most v_search_found f_bytes f_knee f_weight f_limps f_bheft f_owner f_food f_miles f_slope f_rsteps f_rkind f_ryields f_rholds f_rletters f_rstack f_dsteps f_dkind f_dyields f_dholds f_dletters f_dstack f_caps f_versions f_sharing f_pheft f_prow f_holder f_comes f_pcaps f_room f_loose f_reached (va_cpy f_bytes f_mrow (0 : Int32).toNatClampNeg (0 : Int32).toNatClampNeg n1.toNatClampNeg) f_minutesOn f_mtired f_here f_there f_statesHere f_statesThere f_listed f_stired f_burdens f_pacesOn f_restedOn f_behindOn f_behindFor f_first f_second f_plans f_tiredOn) H from hP)
                  have hD : va_D A (wSP cy hs hH hT sH sT 0 v_band_walkers v_band_loads v_band_pieces v_rules_clauses v_reader_end v_reader_at v_reader_length v_reader_letter v_reader_fault v_draft_clauses v_paces_version v_packing_quicker v_packing_loads v_packing_looseCount v_marches_told v_marches_changeMinutes v_marches_marching v_marches_gone v_search_known v_search_countHere v_search_countThere v_search_cost v_search_most v_search_found f_bytes f_knee f_weight f_limps f_bheft f_owner f_food f_miles f_slope f_rsteps f_rkind f_ryields f_rholds f_rletters f_rstack f_dsteps f_dkind f_dyields f_dholds f_dletters f_dstack f_caps f_versions f_sharing f_pheft f_prow f_holder f_comes f_pcaps f_room f_loose f_reached f_16 f_minutesOn f_mtired f_here f_there f_statesHere f_statesThere f_listed f_stired f_burdens f_pacesOn f_restedOn f_behindOn f_behindFor f_first f_second f_plans f_tiredOn) := ef_16 ▸ (show va_D A (wSP cy hs hH hT sH sT 0 v_band_walkers v_band_loads v_band_pieces v_rules_clauses v_reader_end v_reader_at v_reader_length v_reader_letter v_reader_fault v_draft_clauses v_paces_version v_packing_quicker v_packing_loads v_packing_looseCount v_marches_told v_marches_changeMinutes v_marches_marching v_marches_gone v_search_known v_search_countHere v_search_countThere v_search_cost v_search_most v_search_found f_bytes f_knee f_weight f_limps f_bheft f_owner f_food f_miles f_slope f_rsteps f_rkind f_ryields f_rholds f_rletters f_rstack f_dsteps f_dkind f_dyields f_dholds f_dletters f_dstack f_caps f_versions f_sharing f_pheft f_prow f_holder f_comes f_pcaps f_room f_loose f_reached (va_cpy f_bytes f_mrow (0 : Int32).toNatClampNeg (0 : Int32).toNatClampNeg n1.toNatClampNeg) f_minutesOn f_mtired f_here f_there f_statesHere f_statesThere f_listed f_stired f_burdens f_pacesOn f_restedOn f_behindOn f_behindFor f_first f_second f_plans f_tiredOn) from hD)
                  have rf_16 : rg (0) 17 f_16 := by rw [ef_16]; exact rg_cpy hr_mrow (fun j hj => hL43_12_2 (by omega) j (by have e9 := i_ix (rfl : n1.toInt = n1.toInt); omega))
                  refine lv_aload_n hx hb dX9_march_131 rfl (lv_at hl 2 rfl) ?_
                  refine gt_SP_SP_marches hx hb hts hown hK hP lwd_39 dX9_march_132 ?_
                  refine lv_iconst (v := 1) hx hb dX9_march_135 (by decide) ?_
                  refine pt_SP_marches_marching (x := 1) hx hb hts hown hK hP hD hS lwd_210 (by decide) dX9_march_136 (fun H locs hP hD hS => ?_)
                  refine lv_iload_n hx hb dX9_march_139 rfl (lv_at hl 1 rfl) ?_
                  have k_17 : (0 : Int32).toInt = 0 := by decide
                  have k_18 : (1 : Int32).toInt = 1 := by decide
                  exact hrt l_10 0 1 f_16 ⟨(by omega), (by omega), (by omega), rf_16⟩ hP hD hS (nar_b (i_01' (by omega))) dX9_march_140
              · have gc_13 : l_11.toInt < n1.toInt := i_nle (rfl : n1.toInt = n1.toInt) (rfl : l_11.toInt = l_11.toInt) c_13
                skip
                refine lv_aload_n hx hb dX9_march_48 rfl (lv_at hl 2 rfl) ?_
                refine gt_SP_SP_tape hx hb hts hown hK hP lwd_15 dX9_march_49 ?_
                refine gt_SP_tape_bytes hx hb hts hown hK hP lwd_899 dX9_march_52 ?_
                refine lv_iload_n hx hb dX9_march_55 rfl (lv_at hl 0 rfl) ?_
                refine al_bytes hx hb hK hP hr_bytes (i_in (rfl : l_11.toInt = l_11.toInt) (by omega) (by omega)) dX9_march_56 (fun n_19 en_19 bn_19 => ?_)
                refine lv_istore (lv' := [(4, .int n_19), (3, .int l_11), (2, .int l_10), (0, .ref (hs 0)), (1, .int n1)]) hx hb dX9_march_57 hl (by decide) rfl (fun ls hl => ?_)
                refine lv_iload_n hx hb dX9_march_59 rfl (lv_at hl 2 rfl) ?_
                refine lv_if_eq (tgt := 91) hx hb dX9_march_60 (by decide) (fun c_20 => ?_) (fun c_20 => ?_)
                · have gc_20 : l_10.toInt = 0 := i_eq (rfl : l_10.toInt = l_10.toInt) (by decide : (0 : Int32).toInt = 0) c_20
                  refine lv_iconst (v := 0) hx hb dX9_march_91 (by decide) ?_
                  refine lv_istore_n (lv' := [(2, .int 0), (4, .int n_19), (3, .int l_11), (0, .ref (hs 0)), (1, .int n1)]) hx hb dX9_march_92 rfl hl (by decide) rfl (fun ls hl => ?_)
                  obtain ⟨n_21, en_21⟩ : ∃ y : Int32, y = l_11 + 1 := ⟨_, rfl⟩
                  have tn_21 : n_21.toInt = l_11.toInt + 1 := i_add en_21 (rfl : l_11.toInt = l_11.toInt) (by decide : (1 : Int32).toInt = 1) (by omega) (by omega)
                  refine lv_iinc (v := n_21) (lv' := [(3, .int n_21), (2, .int 0), (4, .int n_19), (0, .ref (hs 0)), (1, .int n1)]) hx hb dX9_march_93 hl (k := 2) rfl (by rw [en_21]; rfl) (by decide) rfl (fun ls hl => ?_)
                  refine lv_goto (tgt := 43) hx hb dX9_march_96 (by decide) ?_
                  have k_22 : (0 : Int32).toInt = 0 := by decide
                  exact ih43_12 0 n_21 (by omega) (by omega) (fun hz => absurd rfl hz) (by omega) _ _ _ hP hD hS (lv_sub hl [0, 1, 3, 4] rfl)
                · have gc_20 : l_10.toInt ≠ 0 := i_ne (rfl : l_10.toInt = l_10.toInt) (by decide : (0 : Int32).toInt = 0) c_20
                  refine lv_iload hx hb dX9_march_63 (lv_at hl 0 rfl) ?_
                  refine lv_bipush (v := 6) hx hb dX9_march_65 (by decide) ?_
                  refine lv_idiv hx hb dX9_march_67 (by decide) ?_
                  refine lv_topi (fun n_23 en_23 => ?_)
                  have tn_23 : n_23.toInt = n_19.toInt / 6 := i_div en_23 (rfl : n_19.toInt = n_19.toInt) (by decide : (6 : Int32).toInt = 6) (by omega) (by omega)
                  refine lv_iconst (v := 2) hx hb dX9_march_68 (by decide) ?_
                  refine lv_icmp_gt (tgt := 91) hx hb dX9_march_69 (by decide) (fun c_24 => ?_) (fun c_24 => ?_)
                  · have gc_24 : 2 < n_19.toInt / 6 := i_lt (by decide : (2 : Int32).toInt = 2) tn_23 c_24
                    refine lv_iconst (v := 0) hx hb dX9_march_91 (by decide) ?_
                    refine lv_istore_n (lv' := [(2, .int 0), (4, .int n_19), (3, .int l_11), (0, .ref (hs 0)), (1, .int n1)]) hx hb dX9_march_92 rfl hl (by decide) rfl (fun ls hl => ?_)
                    obtain ⟨n_25, en_25⟩ : ∃ y : Int32, y = l_11 + 1 := ⟨_, rfl⟩
                    have tn_25 : n_25.toInt = l_11.toInt + 1 := i_add en_25 (rfl : l_11.toInt = l_11.toInt) (by decide : (1 : Int32).toInt = 1) (by omega) (by omega)
                    refine lv_iinc (v := n_25) (lv' := [(3, .int n_25), (2, .int 0), (4, .int n_19), (0, .ref (hs 0)), (1, .int n1)]) hx hb dX9_march_93 hl (k := 2) rfl (by rw [en_25]; rfl) (by decide) rfl (fun ls hl => ?_)
                    refine lv_goto (tgt := 43) hx hb dX9_march_96 (by decide) ?_
                    have k_26 : (0 : Int32).toInt = 0 := by decide
                    exact ih43_12 0 n_25 (by omega) (by omega) (fun hz => absurd rfl hz) (by omega) _ _ _ hP hD hS (lv_sub hl [0, 1, 3, 4] rfl)
                  · have gc_24 : n_19.toInt / 6 ≤ 2 := i_nlt (by decide : (2 : Int32).toInt = 2) tn_23 c_24
                    refine lv_aload_n hx hb dX9_march_72 rfl (lv_at hl 3 rfl) ?_
                    refine gt_SP_SP_marches hx hb hts hown hK hP lwd_39 dX9_march_73 ?_
                    refine lv_iload hx hb dX9_march_76 (lv_at hl 0 rfl) ?_
                    refine lv_bipush (v := 6) hx hb dX9_march_78 (by decide) ?_
                    refine lv_irem hx hb dX9_march_80 (by decide) ?_
                    refine lv_topi (fun n_27 en_27 => ?_)
                    have tn_27 : n_27.toInt = n_19.toInt % 6 := i_rem en_27 (rfl : n_19.toInt = n_19.toInt) (by decide : (6 : Int32).toInt = 6) (by omega) (by omega)
                    refine xi hD hS hA (xV (As := [.int n_27]) (rest := []) hx hb hml hown hts hK hP hD hS hA NS_ok hN hAe hl.1 ⟨Nat.le_refl _, Nat.le_refl _⟩ 40 rfl rfl rfl (c_X1_isTold l D cy hs hH hT sH sT v_tape_size v_band_walkers v_band_loads v_band_pieces v_rules_clauses v_reader_end v_reader_at v_reader_length v_reader_letter v_reader_fault v_draft_clauses v_paces_version v_packing_quicker v_packing_loads v_packing_looseCount v_marches_told v_marches_changeMinutes v_marches_marching v_marches_gone v_search_known v_search_countHere v_search_countThere v_search_cost v_search_most v_search_found f_bytes f_knee f_weight f_limps f_bheft f_owner f_food f_miles f_slope f_rsteps f_rkind f_ryields f_rholds f_rletters f_rstack f_dsteps f_dkind f_dyields f_dholds f_dletters f_dstack f_caps f_versions f_sharing f_pheft f_prow f_holder f_comes f_pcaps f_room f_loose f_reached f_mrow f_minutesOn f_mtired f_here f_there f_statesHere f_statesThere f_listed f_stired f_burdens f_pacesOn f_restedOn f_behindOn f_behindFor f_first f_second f_plans f_tiredOn tS H.size n_27) (gi_V lwd_911 lwd_912 lwd_913 lwd_38 lwd_914) ⟨rfl, hd_X1_isTold⟩ ⟨Nat.le_of_ble_eq_true rfl, Nat.le_of_ble_eq_true rfl⟩ rfl (Nat.le_of_ble_eq_true rfl) dX9_march_81) (fun r_29 u_28 H locs hw hP hD hS => ?_)
                    try dsimp only at hw hP hD
                    obtain ⟨p_30, p_31⟩ := hw
                    refine lv_if_eq (tgt := 91) hx hb dX9_march_84 (by decide) (fun c_32 => ?_) (fun c_32 => ?_)
                    · have gc_32 : r_29.toInt = 0 := i_eq (rfl : r_29.toInt = r_29.toInt) (by decide : (0 : Int32).toInt = 0) c_32
                      refine lv_iconst (v := 0) hx hb dX9_march_91 (by decide) ?_
                      refine lv_istore_n (lv' := [(2, .int 0), (4, .int n_19), (3, .int l_11), (0, .ref (hs 0)), (1, .int n1)]) hx hb dX9_march_92 rfl hl (by decide) rfl (fun ls hl => ?_)
                      obtain ⟨n_33, en_33⟩ : ∃ y : Int32, y = l_11 + 1 := ⟨_, rfl⟩
                      have tn_33 : n_33.toInt = l_11.toInt + 1 := i_add en_33 (rfl : l_11.toInt = l_11.toInt) (by decide : (1 : Int32).toInt = 1) (by omega) (by omega)
                      refine lv_iinc (v := n_33) (lv' := [(3, .int n_33), (2, .int 0), (4, .int n_19), (0, .ref (hs 0)), (1, .int n1)]) hx hb dX9_march_93 hl (k := 2) rfl (by rw [en_33]; rfl) (by decide) rfl (fun ls hl => ?_)
                      refine lv_goto (tgt := 43) hx hb dX9_march_96 (by decide) ?_
                      have k_34 : (0 : Int32).toInt = 0 := by decide
                      exact ih43_12 0 n_33 (by omega) (by omega) (fun hz => absurd rfl hz) (by omega) _ _ _ hP hD hS (lv_sub hl [0, 1, 3, 4] rfl)
                    · have gc_32 : r_29.toInt ≠ 0 := i_ne (rfl : r_29.toInt = r_29.toInt) (by decide : (0 : Int32).toInt = 0) c_32
                      refine lv_iconst (v := 1) hx hb dX9_march_87 (by decide) ?_
                      refine lv_goto (tgt := 92) hx hb dX9_march_88 (by decide) ?_
                      refine lv_istore_n (lv' := [(2, .int 1), (4, .int n_19), (3, .int l_11), (0, .ref (hs 0)), (1, .int n1)]) hx hb dX9_march_92 rfl hl (by decide) rfl (fun ls hl => ?_)
                      obtain ⟨n_35, en_35⟩ : ∃ y : Int32, y = l_11 + 1 := ⟨_, rfl⟩
                      have tn_35 : n_35.toInt = l_11.toInt + 1 := i_add en_35 (rfl : l_11.toInt = l_11.toInt) (by decide : (1 : Int32).toInt = 1) (by omega) (by omega)
                      refine lv_iinc (v := n_35) (lv' := [(3, .int n_35), (2, .int 1), (4, .int n_19), (0, .ref (hs 0)), (1, .int n1)]) hx hb dX9_march_93 hl (k := 2) rfl (by rw [en_35]; rfl) (by decide) rfl (fun ls hl => ?_)
                      refine lv_goto (tgt := 43) hx hb dX9_march_96 (by decide) ?_
                      have k_36 : (1 : Int32).toInt = 1 := by decide
                      exact ih43_12 1 n_35 (by omega) (by omega) (fun hz j hj => by
                        by_cases q : (j : Int) < l_11.toInt
                        · exact hL43_12_2 (by omega) j q
                        · have e9 : j = l_11.toNatClampNeg := by rw [i_ix (rfl : l_11.toInt = l_11.toInt)]; omega
                          rw [e9, ← en_19]; omega) (by omega) _ _ _ hP hD hS (lv_sub hl [0, 1, 3, 4] rfl)
          have k_37 : (1 : Int32).toInt = 1 := by decide
          have k_38 : (0 : Int32).toInt = 0 := by decide
          exact L43_12 8589934592 1 0 (by omega) (by omega) (fun hz j hj => absurd hj (by omega)) (by omega) _ _ _ hP hD hS (lv_sub hl [0, 1, 2, 3] rfl)
        · have gc_7 : v_tape_size.toInt < n1.toInt := i_nle (rfl : n1.toInt = n1.toInt) (rfl : v_tape_size.toInt = v_tape_size.toInt) c_7
          refine lv_iconst (v := 0) hx hb dX9_march_37 (by decide) ?_
          have k_39 : (0 : Int32).toInt = 0 := by decide
          exact hrt 0 v_tape_size v_marches_marching f_mrow ⟨(by omega), (by omega), (by omega), hr_mrow⟩ hP hD hS rfl dX9_march_38
set_option maxHeartbeats 16000000 in
set_option maxRecDepth 100000 in
theorem c_X9_ran (l : Launch) (D : va_G) (cy : Nat → ClassId) (hs : Nat → Nat) (hH hT sH sT : Nat) (v_tape_size v_band_walkers v_band_loads v_band_pieces v_rules_clauses v_reader_end v_reader_at v_reader_length v_reader_letter v_reader_fault v_draft_clauses v_paces_version v_packing_quicker v_packing_loads v_packing_looseCount v_marches_told v_marches_changeMinutes v_marches_marching v_marches_gone v_search_known v_search_countHere v_search_countThere v_search_cost v_search_most : Int32) (v_search_found : Int64) (f_bytes f_knee f_weight f_limps f_bheft f_owner f_food f_miles f_slope f_rsteps f_rkind f_ryields f_rholds f_rletters f_rstack f_dsteps f_dkind f_dyields f_dholds f_dletters f_dstack f_caps f_versions f_sharing f_pheft f_prow f_holder f_comes f_pcaps f_room f_loose f_reached f_mrow f_minutesOn f_mtired : Nat → Int32) (f_here f_there : Nat → Int64) (f_statesHere f_statesThere f_listed f_stired f_burdens f_pacesOn f_restedOn f_behindOn f_behindFor f_first f_second : Nat → Int32) (f_plans f_tiredOn : Nat → Nat → Int32) (tS : Nat) (sz : Nat) (what : Int32) (hb_v_band_walkers : 0 ≤ v_band_walkers.toInt ∧ v_band_walkers.toInt ≤ 6) (hb_v_band_loads : 0 ≤ v_band_loads.toInt ∧ v_band_loads.toInt ≤ 9) (hb_v_band_pieces : 0 ≤ v_band_pieces.toInt ∧ v_band_pieces.toInt ≤ 10) (hb_v_rules_clauses : 0 ≤ v_rules_clauses.toInt ∧ v_rules_clauses.toInt ≤ 14) (hb_v_marches_marching : 0 ≤ v_marches_marching.toInt ∧ v_marches_marching.toInt ≤ 1) (hb_v_marches_gone : 0 ≤ v_marches_gone.toInt ∧ v_marches_gone.toInt ≤ 10) (hr_weight : rg (0) 250 f_weight) (hr_limps : rg (0) 1 f_limps) (hr_bheft : rg (0) 120 f_bheft) (hr_food : rg (0) 20 f_food) (hr_miles : rg (0) 20 f_miles) (hr_mrow : rg (0) 17 f_mrow) (hr_mtired : rg (0) 5 f_mtired) (hr_tiredOn : rg2 (0) 5 f_tiredOn) : gMi l yX9_ran cX9_ran 2 .int 6 [.ref (hs 0), .int what] D cy (wSP cy hs hH hT sH sT v_tape_size v_band_walkers v_band_loads v_band_pieces v_rules_clauses v_reader_end v_reader_at v_reader_length v_reader_letter v_reader_fault v_draft_clauses v_paces_version v_packing_quicker v_packing_loads v_packing_looseCount v_marches_told v_marches_changeMinutes v_marches_marching v_marches_gone v_search_known v_search_countHere v_search_countThere v_search_cost v_search_most v_search_found f_bytes f_knee f_weight f_limps f_bheft f_owner f_food f_miles f_slope f_rsteps f_rkind f_ryields f_rholds f_rletters f_rstack f_dsteps f_dkind f_dyields f_dholds f_dletters f_dstack f_caps f_versions f_sharing f_pheft f_prow f_holder f_comes f_pcaps f_room f_loose f_reached f_mrow f_minutesOn f_mtired f_here f_there f_statesHere f_statesThere f_listed f_stired f_burdens f_pacesOn f_restedOn f_behindOn f_behindFor f_first f_second f_plans f_tiredOn) (NS tS) sz (fun (r : Int32) (u : Int32 × (Nat → Int32) × (Nat → Int32) × (Nat → Int32) × (Nat → Int32) × (Nat → Nat → Int32)) => (0 ≤ (u.1).toInt ∧ (u.1).toInt ≤ 10) ∧ (rg (0) 5 (u.2.2.2.2.1)) ∧ (rg2 (0) 5 (u.2.2.2.2.2))) (fun u => wSP cy hs hH hT sH sT v_tape_size v_band_walkers v_band_loads v_band_pieces v_rules_clauses v_reader_end v_reader_at v_reader_length v_reader_letter v_reader_fault v_draft_clauses v_paces_version v_packing_quicker v_packing_loads v_packing_looseCount v_marches_told v_marches_changeMinutes v_marches_marching (u.1) v_search_known v_search_countHere v_search_countThere v_search_cost v_search_most v_search_found f_bytes f_knee f_weight f_limps f_bheft f_owner f_food f_miles f_slope f_rsteps f_rkind f_ryields f_rholds (u.2.1) (u.2.2.1) f_dsteps f_dkind f_dyields f_dholds f_dletters f_dstack f_caps f_versions f_sharing f_pheft f_prow f_holder f_comes f_pcaps f_room f_loose f_reached f_mrow (u.2.2.2.1) (u.2.2.2.2.1) f_here f_there f_statesHere f_statesThere f_listed f_stired f_burdens f_pacesOn f_restedOn f_behindOn f_behindFor f_first f_second f_plans (u.2.2.2.2.2)) := by
  refine gMi_in (by decide) (Nat.le_of_ble_eq_true rfl) ?_
  intro p e s m args below meth c A ls Q hx hb hml hts hown hsz hP hK hD hN hAe hA hS hl hret
  subst hsz
  have hl : lv_has ls 2 [(0, .ref (hs 0)), (1, .int what)] := hl
  have hrt := fun (r : Int32) (v_marches_gone' : Int32) (f_rletters' : Nat → Int32) (f_rstack' : Nat → Int32) (f_minutesOn' : Nat → Int32) (f_mtired' : Nat → Int32) (f_tiredOn' : Nat → Nat → Int32) (hp : (0 ≤ v_marches_gone'.toInt ∧ v_marches_gone'.toInt ≤ 10) ∧ (rg (0) 5 f_mtired') ∧ (rg2 (0) 5 f_tiredOn')) {H : Heap} {locs : List Loc} {pc : Nat} {ls : Array Slot} => hret r (v_marches_gone', f_rletters', f_rstack', f_minutesOn', f_mtired', f_tiredOn') (H := H) (locs := locs) (pc := pc) (ls := ls) hp
  clear hret
  refine lv_iload_n hx hb dX9_ran_0 rfl (lv_at hl 1 rfl) ?_
  refine lv_if_lt (tgt := 9) hx hb dX9_ran_1 (by decide) (fun c_1 => ?_) (fun c_1 => ?_)
  · have gc_1 : what.toInt < 0 := i_lt (rfl : what.toInt = what.toInt) (by decide : (0 : Int32).toInt = 0) c_1
    refine lv_iconst (v := (-1)) hx hb dX9_ran_9 (by decide) ?_
    have k_2 : ((-1) : Int32).toInt = (-1) := by decide
    exact hrt (-1) v_marches_gone f_rletters f_rstack f_minutesOn f_mtired f_tiredOn ⟨(by omega), hr_mtired, hr_tiredOn⟩ hP hD hS rfl dX9_ran_10
  · have gc_1 : 0 ≤ what.toInt := i_nlt (rfl : what.toInt = what.toInt) (by decide : (0 : Int32).toInt = 0) c_1
    refine lv_iload_n hx hb dX9_ran_4 rfl (lv_at hl 1 rfl) ?_
    refine lv_iconst (v := 3) hx hb dX9_ran_5 (by decide) ?_
    refine lv_icmp_le (tgt := 11) hx hb dX9_ran_6 (by decide) (fun c_3 => ?_) (fun c_3 => ?_)
    · have gc_3 : what.toInt ≤ 3 := i_le (rfl : what.toInt = what.toInt) (by decide : (3 : Int32).toInt = 3) c_3
      refine lv_aload_n hx hb dX9_ran_11 rfl (lv_at hl 0 rfl) ?_
      refine gt_SP_SP_marches hx hb hts hown hK hP lwd_39 dX9_ran_12 ?_
      refine gt_SP_marches_marching hx hb hts hown hK hP lwd_210 dX9_ran_15 ?_
      refine lv_if_ne (tgt := 24) hx hb dX9_ran_18 (by decide) (fun c_4 => ?_) (fun c_4 => ?_)
      · have gc_4 : v_marches_marching.toInt ≠ 0 := i_ne (rfl : v_marches_marching.toInt = v_marches_marching.toInt) (by decide : (0 : Int32).toInt = 0) c_4
        refine lv_aload_n hx hb dX9_ran_24 rfl (lv_at hl 0 rfl) ?_
        refine gt_SP_SP_marches hx hb hts hown hK hP lwd_39 dX9_ran_25 ?_
        refine xv hD hS hA (xV (As := []) (rest := []) hx hb hml hown hts hK hP hD hS hA NS_ok hN hAe hl.1 ⟨Nat.le_refl _, Nat.le_refl _⟩ 40 rfl rfl rfl (c_X1_follow l D cy hs hH hT sH sT v_tape_size v_band_walkers v_band_loads v_band_pieces v_rules_clauses v_reader_end v_reader_at v_reader_length v_reader_letter v_reader_fault v_draft_clauses v_paces_version v_packing_quicker v_packing_loads v_packing_looseCount v_marches_told v_marches_changeMinutes v_marches_marching v_marches_gone v_search_known v_search_countHere v_search_countThere v_search_cost v_search_most v_search_found f_bytes f_knee f_weight f_limps f_bheft f_owner f_food f_miles f_slope f_rsteps f_rkind f_ryields f_rholds f_rletters f_rstack f_dsteps f_dkind f_dyields f_dholds f_dletters f_dstack f_caps f_versions f_sharing f_pheft f_prow f_holder f_comes f_pcaps f_room f_loose f_reached f_mrow f_minutesOn f_mtired f_here f_there f_statesHere f_statesThere f_listed f_stired f_burdens f_pacesOn f_restedOn f_behindOn f_behindFor f_first f_second f_plans f_tiredOn tS s.heap.size (by omega) (by omega) (by omega) (by omega) (by omega) hr_weight hr_limps hr_bheft hr_food hr_miles hr_mrow hr_mtired hr_tiredOn) (gi_V lwd_926 lwd_927 lwd_928 lwd_38 lwd_929) ⟨rfl, hd_X1_follow⟩ ⟨Nat.le_of_ble_eq_true rfl, Nat.le_of_ble_eq_true rfl⟩ rfl (Nat.le_of_ble_eq_true rfl) dX9_ran_28) (fun u_5 H locs hw hP hD hS => ?_)
        obtain ⟨zmarches_gone_7, zrletters_8, zrstack_9, zminutesOn_10, zmtired_11, ztiredOn_12⟩ := u_5
        try dsimp only at hw hP hD
        obtain ⟨p_13, p_14, p_15⟩ := hw
        refine lv_iload_n hx hb dX9_ran_31 rfl (lv_at hl 1 rfl) ?_
        refine lv_if_ne (tgt := 43) hx hb dX9_ran_32 (by decide) (fun c_16 => ?_) (fun c_16 => ?_)
        · have gc_16 : what.toInt ≠ 0 := i_ne (rfl : what.toInt = what.toInt) (by decide : (0 : Int32).toInt = 0) c_16
          refine lv_iload_n hx hb dX9_ran_43 rfl (lv_at hl 1 rfl) ?_
          refine lv_iconst (v := 1) hx hb dX9_ran_44 (by decide) ?_
          refine lv_icmp_ne (tgt := 56) hx hb dX9_ran_45 (by decide) (fun c_17 => ?_) (fun c_17 => ?_)
          · have gc_17 : what.toInt ≠ 1 := i_ne (rfl : what.toInt = what.toInt) (by decide : (1 : Int32).toInt = 1) c_17
            refine lv_iload_n hx hb dX9_ran_56 rfl (lv_at hl 1 rfl) ?_
            refine lv_iconst (v := 2) hx hb dX9_ran_57 (by decide) ?_
            refine lv_icmp_ne (tgt := 90) hx hb dX9_ran_58 (by decide) (fun c_18 => ?_) (fun c_18 => ?_)
            · have gc_18 : what.toInt ≠ 2 := i_ne (rfl : what.toInt = what.toInt) (by decide : (2 : Int32).toInt = 2) c_18
              refine lv_aload_n hx hb dX9_ran_90 rfl (lv_at hl 0 rfl) ?_
              refine gt_SP_SP_marches hx hb hts hown hK hP lwd_39 dX9_ran_91 ?_
              refine xi hD hS hA (xV (As := []) (rest := []) hx hb hml hown hts hK hP hD hS hA NS_ok hN hAe hl.1 ⟨Nat.le_refl _, Nat.le_refl _⟩ 40 rfl rfl rfl (c_X1_changes l D cy hs hH hT sH sT v_tape_size v_band_walkers v_band_loads v_band_pieces v_rules_clauses v_reader_end v_reader_at v_reader_length v_reader_letter v_reader_fault v_draft_clauses v_paces_version v_packing_quicker v_packing_loads v_packing_looseCount v_marches_told v_marches_changeMinutes v_marches_marching zmarches_gone_7 v_search_known v_search_countHere v_search_countThere v_search_cost v_search_most v_search_found f_bytes f_knee f_weight f_limps f_bheft f_owner f_food f_miles f_slope f_rsteps f_rkind f_ryields f_rholds zrletters_8 zrstack_9 f_dsteps f_dkind f_dyields f_dholds f_dletters f_dstack f_caps f_versions f_sharing f_pheft f_prow f_holder f_comes f_pcaps f_room f_loose f_reached f_mrow zminutesOn_10 zmtired_11 f_here f_there f_statesHere f_statesThere f_listed f_stired f_burdens f_pacesOn f_restedOn f_behindOn f_behindFor f_first f_second f_plans ztiredOn_12 tS H.size (by omega) hr_mrow) (gi_V lwd_975 lwd_976 lwd_977 lwd_38 lwd_978) ⟨rfl, hd_X1_changes⟩ ⟨Nat.le_of_ble_eq_true rfl, Nat.le_of_ble_eq_true rfl⟩ rfl (Nat.le_of_ble_eq_true rfl) dX9_ran_94) (fun r_20 u_19 H locs hw hP hD hS => ?_)
              try dsimp only at hw hP hD
              clear hw
              exact hrt r_20 zmarches_gone_7 zrletters_8 zrstack_9 zminutesOn_10 zmtired_11 ztiredOn_12 ⟨(by omega), p_14, p_15⟩ hP hD hS rfl dX9_ran_97
            · have gc_18 : what.toInt = 2 := i_eq (rfl : what.toInt = what.toInt) (by decide : (2 : Int32).toInt = 2) c_18
              refine lv_aload_n hx hb dX9_ran_61 rfl (lv_at hl 0 rfl) ?_
              refine gt_SP_SP_marches hx hb hts hown hK hP lwd_39 dX9_ran_62 ?_
              refine gt_SP_marches_gone hx hb hts hown hK hP lwd_925 dX9_ran_65 ?_
              refine lv_aload_n hx hb dX9_ran_68 rfl (lv_at hl 0 rfl) ?_
              refine gt_SP_SP_band hx hb hts hown hK hP lwd_19 dX9_ran_69 ?_
              refine gt_SP_band_pieces hx hb hts hown hK hP lwd_258 dX9_ran_72 ?_
              refine lv_icmp_ge (tgt := 88) hx hb dX9_ran_75 (by decide) (fun c_21 => ?_) (fun c_21 => ?_)
              · have gc_21 : v_band_pieces.toInt ≤ zmarches_gone_7.toInt := i_le (rfl : v_band_pieces.toInt = v_band_pieces.toInt) (rfl : zmarches_gone_7.toInt = zmarches_gone_7.toInt) c_21
                refine lv_iconst (v := (-1)) hx hb dX9_ran_88 (by decide) ?_
                have k_22 : ((-1) : Int32).toInt = (-1) := by decide
                exact hrt (-1) zmarches_gone_7 zrletters_8 zrstack_9 zminutesOn_10 zmtired_11 ztiredOn_12 ⟨(by omega), p_14, p_15⟩ hP hD hS rfl dX9_ran_89
              · have gc_21 : zmarches_gone_7.toInt < v_band_pieces.toInt := i_nle (rfl : v_band_pieces.toInt = v_band_pieces.toInt) (rfl : zmarches_gone_7.toInt = zmarches_gone_7.toInt) c_21
                refine lv_aload_n hx hb dX9_ran_78 rfl (lv_at hl 0 rfl) ?_
                refine gt_SP_SP_marches hx hb hts hown hK hP lwd_39 dX9_ran_79 ?_
                refine gt_SP_marches_gone hx hb hts hown hK hP lwd_925 dX9_ran_82 ?_
                refine lv_goto (tgt := 89) hx hb dX9_ran_85 (by decide) ?_
                exact hrt zmarches_gone_7 zmarches_gone_7 zrletters_8 zrstack_9 zminutesOn_10 zmtired_11 ztiredOn_12 ⟨(by omega), p_14, p_15⟩ hP hD hS rfl dX9_ran_89
          · have gc_17 : what.toInt = 1 := i_eq (rfl : what.toInt = what.toInt) (by decide : (1 : Int32).toInt = 1) c_17
            refine lv_aload_n hx hb dX9_ran_48 rfl (lv_at hl 0 rfl) ?_
            refine gt_SP_SP_marches hx hb hts hown hK hP lwd_39 dX9_ran_49 ?_
            refine xi hD hS hA (xV (As := []) (rest := []) hx hb hml hown hts hK hP hD hS hA NS_ok hN hAe hl.1 ⟨Nat.le_refl _, Nat.le_refl _⟩ 40 rfl rfl rfl (c_X1_tiredness l D cy hs hH hT sH sT v_tape_size v_band_walkers v_band_loads v_band_pieces v_rules_clauses v_reader_end v_reader_at v_reader_length v_reader_letter v_reader_fault v_draft_clauses v_paces_version v_packing_quicker v_packing_loads v_packing_looseCount v_marches_told v_marches_changeMinutes v_marches_marching zmarches_gone_7 v_search_known v_search_countHere v_search_countThere v_search_cost v_search_most v_search_found f_bytes f_knee f_weight f_limps f_bheft f_owner f_food f_miles f_slope f_rsteps f_rkind f_ryields f_rholds zrletters_8 zrstack_9 f_dsteps f_dkind f_dyields f_dholds f_dletters f_dstack f_caps f_versions f_sharing f_pheft f_prow f_holder f_comes f_pcaps f_room f_loose f_reached f_mrow zminutesOn_10 zmtired_11 f_here f_there f_statesHere f_statesThere f_listed f_stired f_burdens f_pacesOn f_restedOn f_behindOn f_behindFor f_first f_second f_plans ztiredOn_12 tS H.size (by omega) p_14) (gi_V lwd_971 lwd_972 lwd_973 lwd_38 lwd_974) ⟨rfl, hd_X1_tiredness⟩ ⟨Nat.le_of_ble_eq_true rfl, Nat.le_of_ble_eq_true rfl⟩ rfl (Nat.le_of_ble_eq_true rfl) dX9_ran_52) (fun r_24 u_23 H locs hw hP hD hS => ?_)
            try dsimp only at hw hP hD
            clear hw
            exact hrt r_24 zmarches_gone_7 zrletters_8 zrstack_9 zminutesOn_10 zmtired_11 ztiredOn_12 ⟨(by omega), p_14, p_15⟩ hP hD hS rfl dX9_ran_55
        · have gc_16 : what.toInt = 0 := i_eq (rfl : what.toInt = what.toInt) (by decide : (0 : Int32).toInt = 0) c_16
          refine lv_aload_n hx hb dX9_ran_35 rfl (lv_at hl 0 rfl) ?_
          refine gt_SP_SP_marches hx hb hts hown hK hP lwd_39 dX9_ran_36 ?_
          refine xi hD hS hA (xV (As := []) (rest := []) hx hb hml hown hts hK hP hD hS hA NS_ok hN hAe hl.1 ⟨Nat.le_refl _, Nat.le_refl _⟩ 40 rfl rfl rfl (c_X1_allMinutes l D cy hs hH hT sH sT v_tape_size v_band_walkers v_band_loads v_band_pieces v_rules_clauses v_reader_end v_reader_at v_reader_length v_reader_letter v_reader_fault v_draft_clauses v_paces_version v_packing_quicker v_packing_loads v_packing_looseCount v_marches_told v_marches_changeMinutes v_marches_marching zmarches_gone_7 v_search_known v_search_countHere v_search_countThere v_search_cost v_search_most v_search_found f_bytes f_knee f_weight f_limps f_bheft f_owner f_food f_miles f_slope f_rsteps f_rkind f_ryields f_rholds zrletters_8 zrstack_9 f_dsteps f_dkind f_dyields f_dholds f_dletters f_dstack f_caps f_versions f_sharing f_pheft f_prow f_holder f_comes f_pcaps f_room f_loose f_reached f_mrow zminutesOn_10 zmtired_11 f_here f_there f_statesHere f_statesThere f_listed f_stired f_burdens f_pacesOn f_restedOn f_behindOn f_behindFor f_first f_second f_plans ztiredOn_12 tS H.size (by omega)) (gi_V lwd_967 lwd_968 lwd_969 lwd_38 lwd_970) ⟨rfl, hd_X1_allMinutes⟩ ⟨Nat.le_of_ble_eq_true rfl, Nat.le_of_ble_eq_true rfl⟩ rfl (Nat.le_of_ble_eq_true rfl) dX9_ran_39) (fun r_26 u_25 H locs hw hP hD hS => ?_)
          try dsimp only at hw hP hD
          clear hw
          exact hrt r_26 zmarches_gone_7 zrletters_8 zrstack_9 zminutesOn_10 zmtired_11 ztiredOn_12 ⟨(by omega), p_14, p_15⟩ hP hD hS rfl dX9_ran_42
      · have gc_4 : v_marches_marching.toInt = 0 := i_eq (rfl : v_marches_marching.toInt = v_marches_marching.toInt) (by decide : (0 : Int32).toInt = 0) c_4
        refine lv_bipush (v := (-2)) hx hb dX9_ran_21 (by decide) ?_
        have k_27 : ((-2) : Int32).toInt = (-2) := by decide
        exact hrt (-2) v_marches_gone f_rletters f_rstack f_minutesOn f_mtired f_tiredOn ⟨(by omega), hr_mtired, hr_tiredOn⟩ hP hD hS rfl dX9_ran_23
    · have gc_3 : 3 < what.toInt := i_nle (rfl : what.toInt = what.toInt) (by decide : (3 : Int32).toInt = 3) c_3
      refine lv_iconst (v := (-1)) hx hb dX9_ran_9 (by decide) ?_
      have k_28 : ((-1) : Int32).toInt = (-1) := by decide
      exact hrt (-1) v_marches_gone f_rletters f_rstack f_minutesOn f_mtired f_tiredOn ⟨(by omega), hr_mtired, hr_tiredOn⟩ hP hD hS rfl dX9_ran_10
set_option maxHeartbeats 16000000 in
set_option maxRecDepth 100000 in
theorem c_X9_gap (l : Launch) (D : va_G) (cy : Nat → ClassId) (hs : Nat → Nat) (hH hT sH sT : Nat) (v_tape_size v_band_walkers v_band_loads v_band_pieces v_rules_clauses v_reader_end v_reader_at v_reader_length v_reader_letter v_reader_fault v_draft_clauses v_paces_version v_packing_quicker v_packing_loads v_packing_looseCount v_marches_told v_marches_changeMinutes v_marches_marching v_marches_gone v_search_known v_search_countHere v_search_countThere v_search_cost v_search_most : Int32) (v_search_found : Int64) (f_bytes f_knee f_weight f_limps f_bheft f_owner f_food f_miles f_slope f_rsteps f_rkind f_ryields f_rholds f_rletters f_rstack f_dsteps f_dkind f_dyields f_dholds f_dletters f_dstack f_caps f_versions f_sharing f_pheft f_prow f_holder f_comes f_pcaps f_room f_loose f_reached f_mrow f_minutesOn f_mtired : Nat → Int32) (f_here f_there : Nat → Int64) (f_statesHere f_statesThere f_listed f_stired f_burdens f_pacesOn f_restedOn f_behindOn f_behindFor f_first f_second : Nat → Int32) (f_plans f_tiredOn : Nat → Nat → Int32) (tS : Nat) (sz : Nat) (i : Int32) (hb_v_band_walkers : 0 ≤ v_band_walkers.toInt ∧ v_band_walkers.toInt ≤ 6) (hb_v_band_loads : 0 ≤ v_band_loads.toInt ∧ v_band_loads.toInt ≤ 9) (hb_v_band_pieces : 0 ≤ v_band_pieces.toInt ∧ v_band_pieces.toInt ≤ 10) (hb_v_rules_clauses : 0 ≤ v_rules_clauses.toInt ∧ v_rules_clauses.toInt ≤ 14) (hb_v_marches_marching : 0 ≤ v_marches_marching.toInt ∧ v_marches_marching.toInt ≤ 1) (hb_v_marches_gone : 0 ≤ v_marches_gone.toInt ∧ v_marches_gone.toInt ≤ 10) (hr_weight : rg (0) 250 f_weight) (hr_limps : rg (0) 1 f_limps) (hr_bheft : rg (0) 120 f_bheft) (hr_food : rg (0) 20 f_food) (hr_miles : rg (0) 20 f_miles) (hr_mrow : rg (0) 17 f_mrow) (hr_mtired : rg (0) 5 f_mtired) (hr_tiredOn : rg2 (0) 5 f_tiredOn) : gMi l yX9_gap cX9_gap 9 .int 6 [.ref (hs 0), .int i] D cy (wSP cy hs hH hT sH sT v_tape_size v_band_walkers v_band_loads v_band_pieces v_rules_clauses v_reader_end v_reader_at v_reader_length v_reader_letter v_reader_fault v_draft_clauses v_paces_version v_packing_quicker v_packing_loads v_packing_looseCount v_marches_told v_marches_changeMinutes v_marches_marching v_marches_gone v_search_known v_search_countHere v_search_countThere v_search_cost v_search_most v_search_found f_bytes f_knee f_weight f_limps f_bheft f_owner f_food f_miles f_slope f_rsteps f_rkind f_ryields f_rholds f_rletters f_rstack f_dsteps f_dkind f_dyields f_dholds f_dletters f_dstack f_caps f_versions f_sharing f_pheft f_prow f_holder f_comes f_pcaps f_room f_loose f_reached f_mrow f_minutesOn f_mtired f_here f_there f_statesHere f_statesThere f_listed f_stired f_burdens f_pacesOn f_restedOn f_behindOn f_behindFor f_first f_second f_plans f_tiredOn) (NS tS) sz (fun (r : Int32) (u : Int32 × (Nat → Int32) × (Nat → Int32) × (Nat → Int32) × (Nat → Int32) × (Nat → Nat → Int32)) => (0 ≤ (u.1).toInt ∧ (u.1).toInt ≤ 10) ∧ (rg (0) 5 (u.2.2.2.2.1)) ∧ (rg2 (0) 5 (u.2.2.2.2.2))) (fun u => wSP cy hs hH hT sH sT v_tape_size v_band_walkers v_band_loads v_band_pieces v_rules_clauses v_reader_end v_reader_at v_reader_length v_reader_letter v_reader_fault v_draft_clauses v_paces_version v_packing_quicker v_packing_loads v_packing_looseCount v_marches_told v_marches_changeMinutes v_marches_marching (u.1) v_search_known v_search_countHere v_search_countThere v_search_cost v_search_most v_search_found f_bytes f_knee f_weight f_limps f_bheft f_owner f_food f_miles f_slope f_rsteps f_rkind f_ryields f_rholds (u.2.1) (u.2.2.1) f_dsteps f_dkind f_dyields f_dholds f_dletters f_dstack f_caps f_versions f_sharing f_pheft f_prow f_holder f_comes f_pcaps f_room f_loose f_reached f_mrow (u.2.2.2.1) (u.2.2.2.2.1) f_here f_there f_statesHere f_statesThere f_listed f_stired f_burdens f_pacesOn f_restedOn f_behindOn f_behindFor f_first f_second f_plans (u.2.2.2.2.2)) := by
  refine gMi_in (by decide) (Nat.le_of_ble_eq_true rfl) ?_
  intro p e s m args below meth c A ls Q hx hb hml hts hown hsz hP hK hD hN hAe hA hS hl hret
  subst hsz
  have hl : lv_has ls 9 [(0, .ref (hs 0)), (1, .int i)] := hl
  have hrt := fun (r : Int32) (v_marches_gone' : Int32) (f_rletters' : Nat → Int32) (f_rstack' : Nat → Int32) (f_minutesOn' : Nat → Int32) (f_mtired' : Nat → Int32) (f_tiredOn' : Nat → Nat → Int32) (hp : (0 ≤ v_marches_gone'.toInt ∧ v_marches_gone'.toInt ≤ 10) ∧ (rg (0) 5 f_mtired') ∧ (rg2 (0) 5 f_tiredOn')) {H : Heap} {locs : List Loc} {pc : Nat} {ls : Array Slot} => hret r (v_marches_gone', f_rletters', f_rstack', f_minutesOn', f_mtired', f_tiredOn') (H := H) (locs := locs) (pc := pc) (ls := ls) hp
  clear hret
  refine lv_aload_n hx hb dX9_gap_0 rfl (lv_at hl 0 rfl) ?_
  refine gt_SP_SP_marches hx hb hts hown hK hP lwd_39 dX9_gap_1 ?_
  refine gt_SP_marches_marching hx hb hts hown hK hP lwd_210 dX9_gap_4 ?_
  refine lv_if_eq (tgt := 21) hx hb dX9_gap_7 (by decide) (fun c_1 => ?_) (fun c_1 => ?_)
  · have gc_1 : v_marches_marching.toInt = 0 := i_eq (rfl : v_marches_marching.toInt = v_marches_marching.toInt) (by decide : (0 : Int32).toInt = 0) c_1
    refine lv_iconst (v := (-1)) hx hb dX9_gap_21 (by decide) ?_
    have k_2 : ((-1) : Int32).toInt = (-1) := by decide
    exact hrt (-1) v_marches_gone f_rletters f_rstack f_minutesOn f_mtired f_tiredOn ⟨(by omega), hr_mtired, hr_tiredOn⟩ hP hD hS rfl dX9_gap_22
  · have gc_1 : v_marches_marching.toInt ≠ 0 := i_ne (rfl : v_marches_marching.toInt = v_marches_marching.toInt) (by decide : (0 : Int32).toInt = 0) c_1
    refine lv_aload_n hx hb dX9_gap_10 rfl (lv_at hl 0 rfl) ?_
    refine gt_SP_SP_band hx hb hts hown hK hP lwd_19 dX9_gap_11 ?_
    refine lv_iload_n hx hb dX9_gap_14 rfl (lv_at hl 1 rfl) ?_
    refine xi hD hS hA (xV (As := [.int i]) (rest := []) hx hb hml hown hts hK hP hD hS hA NS_ok hN hAe hl.1 ⟨Nat.le_refl _, Nat.le_refl _⟩ 3 rfl rfl rfl (c_X0_hasPiece l D cy hs hH hT sH sT v_tape_size v_band_walkers v_band_loads v_band_pieces v_rules_clauses v_reader_end v_reader_at v_reader_length v_reader_letter v_reader_fault v_draft_clauses v_paces_version v_packing_quicker v_packing_loads v_packing_looseCount v_marches_told v_marches_changeMinutes v_marches_marching v_marches_gone v_search_known v_search_countHere v_search_countThere v_search_cost v_search_most v_search_found f_bytes f_knee f_weight f_limps f_bheft f_owner f_food f_miles f_slope f_rsteps f_rkind f_ryields f_rholds f_rletters f_rstack f_dsteps f_dkind f_dyields f_dholds f_dletters f_dstack f_caps f_versions f_sharing f_pheft f_prow f_holder f_comes f_pcaps f_room f_loose f_reached f_mrow f_minutesOn f_mtired f_here f_there f_statesHere f_statesThere f_listed f_stired f_burdens f_pacesOn f_restedOn f_behindOn f_behindFor f_first f_second f_plans f_tiredOn tS s.heap.size i (by omega)) (gi_V lwd_504 lwd_505 lwd_506 lwd_18 lwd_507) ⟨rfl, hd_X0_hasPiece⟩ ⟨Nat.le_of_ble_eq_true rfl, Nat.le_of_ble_eq_true rfl⟩ rfl (Nat.le_of_ble_eq_true rfl) dX9_gap_15) (fun r_4 u_3 H locs hw hP hD hS => ?_)
    try dsimp only at hw hP hD
    obtain ⟨p_5, p_6⟩ := hw
    refine lv_if_ne (tgt := 23) hx hb dX9_gap_18 (by decide) (fun c_7 => ?_) (fun c_7 => ?_)
    · have gc_7 : r_4.toInt ≠ 0 := i_ne (rfl : r_4.toInt = r_4.toInt) (by decide : (0 : Int32).toInt = 0) c_7
      refine lv_aload_n hx hb dX9_gap_23 rfl (lv_at hl 0 rfl) ?_
      refine gt_SP_SP_marches hx hb hts hown hK hP lwd_39 dX9_gap_24 ?_
      refine xv hD hS hA (xV (As := []) (rest := []) hx hb hml hown hts hK hP hD hS hA NS_ok hN hAe hl.1 ⟨Nat.le_refl _, Nat.le_refl _⟩ 40 rfl rfl rfl (c_X1_follow l D cy hs hH hT sH sT v_tape_size v_band_walkers v_band_loads v_band_pieces v_rules_clauses v_reader_end v_reader_at v_reader_length v_reader_letter v_reader_fault v_draft_clauses v_paces_version v_packing_quicker v_packing_loads v_packing_looseCount v_marches_told v_marches_changeMinutes v_marches_marching v_marches_gone v_search_known v_search_countHere v_search_countThere v_search_cost v_search_most v_search_found f_bytes f_knee f_weight f_limps f_bheft f_owner f_food f_miles f_slope f_rsteps f_rkind f_ryields f_rholds f_rletters f_rstack f_dsteps f_dkind f_dyields f_dholds f_dletters f_dstack f_caps f_versions f_sharing f_pheft f_prow f_holder f_comes f_pcaps f_room f_loose f_reached f_mrow f_minutesOn f_mtired f_here f_there f_statesHere f_statesThere f_listed f_stired f_burdens f_pacesOn f_restedOn f_behindOn f_behindFor f_first f_second f_plans f_tiredOn tS H.size (by omega) (by omega) (by omega) (by omega) (by omega) hr_weight hr_limps hr_bheft hr_food hr_miles hr_mrow hr_mtired hr_tiredOn) (gi_V lwd_926 lwd_927 lwd_928 lwd_38 lwd_929) ⟨rfl, hd_X1_follow⟩ ⟨Nat.le_of_ble_eq_true rfl, Nat.le_of_ble_eq_true rfl⟩ rfl (Nat.le_of_ble_eq_true rfl) dX9_gap_27) (fun u_8 H locs hw hP hD hS => ?_)
      obtain ⟨zmarches_gone_10, zrletters_11, zrstack_12, zminutesOn_13, zmtired_14, ztiredOn_15⟩ := u_8
      try dsimp only at hw hP hD
      obtain ⟨p_16, p_17, p_18⟩ := hw
      refine lv_iload_n hx hb dX9_gap_30 rfl (lv_at hl 1 rfl) ?_
      refine lv_aload_n hx hb dX9_gap_31 rfl (lv_at hl 0 rfl) ?_
      refine gt_SP_SP_marches hx hb hts hown hK hP lwd_39 dX9_gap_32 ?_
      refine gt_SP_marches_gone hx hb hts hown hK hP lwd_925 dX9_gap_35 ?_
      refine lv_icmp_lt (tgt := 44) hx hb dX9_gap_38 (by decide) (fun c_19 => ?_) (fun c_19 => ?_)
      · have gc_19 : i.toInt < zmarches_gone_10.toInt := i_lt (rfl : i.toInt = i.toInt) (rfl : zmarches_gone_10.toInt = zmarches_gone_10.toInt) c_19
        refine lv_ldc hx hb hown (hts _ lwd_778) dX9_gap_44 ?_
        refine lv_istore_n (lv' := [(2, .int 1000000000), (0, .ref (hs 0)), (1, .int i)]) hx hb dX9_gap_46 rfl hl (by decide) rfl (fun ls hl => ?_)
        refine lv_iconst (v := 0) hx hb dX9_gap_47 (by decide) ?_
        refine lv_istore_n (lv' := [(3, .int 0), (2, .int 1000000000), (0, .ref (hs 0)), (1, .int i)]) hx hb dX9_gap_48 rfl hl (by decide) rfl (fun ls hl => ?_)
        refine lv_aload_n hx hb dX9_gap_49 rfl (lv_at hl 2 rfl) ?_
        refine gt_SP_SP_marches hx hb hts hown hK hP lwd_39 dX9_gap_50 ?_
        refine gt_SP_marches_row hx hb hts hown hK hP lwd_910 dX9_gap_53 ?_
        refine lv_iload_n hx hb dX9_gap_56 rfl (lv_at hl 3 rfl) ?_
        refine al_mrow hx hb hK hP hr_mrow (i_in (rfl : i.toInt = i.toInt) (by omega) (by omega)) dX9_gap_57 (fun n_20 en_20 bn_20 => ?_)
        refine lv_bipush (v := 6) hx hb dX9_gap_58 (by decide) ?_
        refine lv_irem hx hb dX9_gap_60 (by decide) ?_
        refine lv_topi (fun n_21 en_21 => ?_)
        have tn_21 : n_21.toInt = n_20.toInt % 6 := i_rem en_21 (rfl : n_20.toInt = n_20.toInt) (by decide : (6 : Int32).toInt = 6) (by omega) (by omega)
        refine lv_istore (lv' := [(4, .int n_21), (3, .int 0), (2, .int 1000000000), (0, .ref (hs 0)), (1, .int i)]) hx hb dX9_gap_61 hl (by decide) rfl (fun ls hl => ?_)
        refine lv_iconst (v := 0) hx hb dX9_gap_63 (by decide) ?_
        refine lv_istore (lv' := [(5, .int 0), (4, .int n_21), (3, .int 0), (2, .int 1000000000), (0, .ref (hs 0)), (1, .int i)]) hx hb dX9_gap_64 hl (by decide) rfl (fun ls hl => ?_)
        have L66_32 : ∀ (n : Nat) (f_27 : Nat → Int32) (f_28 : Nat → Int32) (l_29 : Int32) (l_30 : Int32) (l_31 : Int32), (0 ≤ l_31.toInt ∧ l_31.toInt ≤ 6) → 7 - l_31.toInt < n → ∀ (H : Heap) (locs : List Loc) (ls : Array Slot), va_P D vwCl (wSP cy hs hH hT sH sT v_tape_size v_band_walkers v_band_loads v_band_pieces v_rules_clauses v_reader_end v_reader_at v_reader_length v_reader_letter v_reader_fault v_draft_clauses v_paces_version v_packing_quicker v_packing_loads v_packing_looseCount v_marches_told v_marches_changeMinutes v_marches_marching zmarches_gone_10 v_search_known v_search_countHere v_search_countThere v_search_cost v_search_most v_search_found f_bytes f_knee f_weight f_limps f_bheft f_owner f_food f_miles f_slope f_rsteps f_rkind f_ryields f_rholds f_27 f_28 f_dsteps f_dkind f_dyields f_dholds f_dletters f_dstack f_caps f_versions f_sharing f_pheft f_prow f_holder f_comes f_pcaps f_room f_loose f_reached f_mrow zminutesOn_13 zmtired_14 f_here f_there f_statesHere f_statesThere f_listed f_stired f_burdens f_pacesOn f_restedOn f_behindOn f_behindFor f_first f_second f_plans ztiredOn_15) H → va_D A (wSP cy hs hH hT sH sT v_tape_size v_band_walkers v_band_loads v_band_pieces v_rules_clauses v_reader_end v_reader_at v_reader_length v_reader_letter v_reader_fault v_draft_clauses v_paces_version v_packing_quicker v_packing_loads v_packing_looseCount v_marches_told v_marches_changeMinutes v_marches_marching zmarches_gone_10 v_search_known v_search_countHere v_search_countThere v_search_cost v_search_most v_search_found f_bytes f_knee f_weight f_limps f_bheft f_owner f_food f_miles f_slope f_rsteps f_rkind f_ryields f_rholds f_27 f_28 f_dsteps f_dkind f_dyields f_dholds f_dletters f_dstack f_caps f_versions f_sharing f_pheft f_prow f_holder f_comes f_pcaps f_room f_loose f_reached f_mrow zminutesOn_13 zmtired_14 f_here f_there f_statesHere f_statesThere f_listed f_stired f_burdens f_pacesOn f_restedOn f_behindOn f_behindFor f_first f_second f_plans ztiredOn_15) → va_S A s.heap H locs → lv_has ls 9 [(5, .int l_31), (4, .int n_21), (3, .int l_30), (2, .int l_29), (0, .ref (hs 0)), (1, .int i)] → W p l e (gRm 6) s m args below meth c H locs 0 0 Q (F0 m 66 ls []) := by
          intro n
          induction n with
          | zero => intro f_27 f_28 l_29 l_30 l_31 hL66_32_0 hm; exact absurd hm (by omega)
          | succ n ih66_32 =>
            intro f_27 f_28 l_29 l_30 l_31 hL66_32_0 hmL66_32 H locs ls hP hD hS hl
            refine lv_iload hx hb dX9_gap_66 (lv_at hl 0 rfl) ?_
            refine lv_aload_n hx hb dX9_gap_68 rfl (lv_at hl 4 rfl) ?_
            refine gt_SP_SP_band hx hb hts hown hK hP lwd_19 dX9_gap_69 ?_
            refine gt_SP_band_walkers hx hb hts hown hK hP lwd_206 dX9_gap_72 ?_
            refine lv_icmp_ge (tgt := 150) hx hb dX9_gap_75 (by decide) (fun c_33 => ?_) (fun c_33 => ?_)
            · have gc_33 : v_band_walkers.toInt ≤ l_31.toInt := i_le (rfl : v_band_walkers.toInt = v_band_walkers.toInt) (rfl : l_31.toInt = l_31.toInt) c_33
              refine lv_iload_n hx hb dX9_gap_150 rfl (lv_at hl 2 rfl) ?_
              refine lv_iload_n hx hb dX9_gap_151 rfl (lv_at hl 3 rfl) ?_
              refine lv_isub hx hb dX9_gap_152 ?_
              refine lv_topi (fun n_34 en_34 => ?_)
              exact hrt n_34 zmarches_gone_10 f_27 f_28 zminutesOn_13 zmtired_14 ztiredOn_15 ⟨(by omega), p_17, p_18⟩ hP hD hS rfl dX9_gap_153
            · have gc_33 : l_31.toInt < v_band_walkers.toInt := i_nle (rfl : v_band_walkers.toInt = v_band_walkers.toInt) (rfl : l_31.toInt = l_31.toInt) c_33
              refine lv_aload_n hx hb dX9_gap_78 rfl (lv_at hl 4 rfl) ?_
              refine gt_SP_SP_marches hx hb hts hown hK hP lwd_39 dX9_gap_79 ?_
              refine lv_iload hx hb dX9_gap_82 (lv_at hl 1 rfl) ?_
              refine lv_iload hx hb dX9_gap_84 (lv_at hl 0 rfl) ?_
              refine lv_iload_n hx hb dX9_gap_86 rfl (lv_at hl 5 rfl) ?_
              refine xi hD hS hA (xV (As := [.int n_21, .int l_31, .int i]) (rest := []) hx hb hml hown hts hK hP hD hS hA NS_ok hN hAe hl.1 ⟨Nat.le_refl _, Nat.le_refl _⟩ 40 rfl rfl rfl (c_X1_burden l D cy hs hH hT sH sT v_tape_size v_band_walkers v_band_loads v_band_pieces v_rules_clauses v_reader_end v_reader_at v_reader_length v_reader_letter v_reader_fault v_draft_clauses v_paces_version v_packing_quicker v_packing_loads v_packing_looseCount v_marches_told v_marches_changeMinutes v_marches_marching zmarches_gone_10 v_search_known v_search_countHere v_search_countThere v_search_cost v_search_most v_search_found f_bytes f_knee f_weight f_limps f_bheft f_owner f_food f_miles f_slope f_rsteps f_rkind f_ryields f_rholds f_27 f_28 f_dsteps f_dkind f_dyields f_dholds f_dletters f_dstack f_caps f_versions f_sharing f_pheft f_prow f_holder f_comes f_pcaps f_room f_loose f_reached f_mrow zminutesOn_13 zmtired_14 f_here f_there f_statesHere f_statesThere f_listed f_stired f_burdens f_pacesOn f_restedOn f_behindOn f_behindFor f_first f_second f_plans ztiredOn_15 tS H.size n_21 l_31 i (by omega) hr_bheft hr_food (by omega) (by omega)) (gi_V lwd_1029 lwd_947 lwd_948 lwd_38 lwd_949) ⟨rfl, hd_X1_burden⟩ ⟨Nat.le_of_ble_eq_true rfl, Nat.le_of_ble_eq_true rfl⟩ rfl (Nat.le_of_ble_eq_true rfl) dX9_gap_87) (fun r_36 u_35 H locs hw hP hD hS => ?_)
              try dsimp only at hw hP hD
              clear hw
              refine lv_istore (lv' := [(6, .int r_36), (5, .int l_31), (4, .int n_21), (3, .int l_30), (2, .int l_29), (0, .ref (hs 0)), (1, .int i)]) hx hb dX9_gap_90 hl (by decide) rfl (fun ls hl => ?_)
              refine lv_aload_n hx hb dX9_gap_92 rfl (lv_at hl 5 rfl) ?_
              refine gt_SP_SP_paces hx hb hts hown hK hP lwd_31 dX9_gap_93 ?_
              refine lv_iload hx hb dX9_gap_96 (lv_at hl 1 rfl) ?_
              refine lv_iload hx hb dX9_gap_98 (lv_at hl 0 rfl) ?_
              refine lv_aload_n hx hb dX9_gap_100 rfl (lv_at hl 5 rfl) ?_
              refine gt_SP_SP_marches hx hb hts hown hK hP lwd_39 dX9_gap_101 ?_
              refine gt_SP_marches_tiredOn hx hb hts hown hK hP lwd_1028 dX9_gap_104 ?_
              refine lv_iload_n hx hb dX9_gap_107 rfl (lv_at hl 6 rfl) ?_
              refine aq_tiredOn (i := i) hx hb hK hP (by first | omega | decide) dX9_gap_108 ?_
              refine lv_iload hx hb dX9_gap_109 (lv_at hl 1 rfl) ?_
              refine ar_tiredOn (i := i) hx hb hK hP p_18 (by first | omega | decide) (i_in (rfl : l_31.toInt = l_31.toInt) (by omega) (by omega)) dX9_gap_111 (fun n_37 en_37 bn_37 => ?_)
              refine lv_iload_n hx hb dX9_gap_112 rfl (lv_at hl 6 rfl) ?_
              refine xi hD hS hA (xV (As := [.int l_31, .int r_36, .int n_37, .int i]) (rest := []) hx hb hml hown hts hK hP hD hS hA NS_ok hN hAe hl.1 ⟨Nat.le_refl _, Nat.le_refl _⟩ 27 rfl rfl rfl (c_X3_paceOf l D cy hs hH hT sH sT v_tape_size v_band_walkers v_band_loads v_band_pieces v_rules_clauses v_reader_end v_reader_at v_reader_length v_reader_letter v_reader_fault v_draft_clauses v_paces_version v_packing_quicker v_packing_loads v_packing_looseCount v_marches_told v_marches_changeMinutes v_marches_marching zmarches_gone_10 v_search_known v_search_countHere v_search_countThere v_search_cost v_search_most v_search_found f_bytes f_knee f_weight f_limps f_bheft f_owner f_food f_miles f_slope f_rsteps f_rkind f_ryields f_rholds f_27 f_28 f_dsteps f_dkind f_dyields f_dholds f_dletters f_dstack f_caps f_versions f_sharing f_pheft f_prow f_holder f_comes f_pcaps f_room f_loose f_reached f_mrow zminutesOn_13 zmtired_14 f_here f_there f_statesHere f_statesThere f_listed f_stired f_burdens f_pacesOn f_restedOn f_behindOn f_behindFor f_first f_second f_plans ztiredOn_15 tS H.size l_31 r_36 n_37 i (by omega) (by omega) hr_weight hr_limps hr_miles (by omega) (by omega)) (gi_V lwd_509 lwd_510 lwd_511 lwd_30 lwd_512) ⟨rfl, hd_X3_paceOf⟩ ⟨Nat.le_of_ble_eq_true rfl, Nat.le_of_ble_eq_true rfl⟩ rfl (Nat.le_of_ble_eq_true rfl) dX9_gap_113) (fun r_39 u_38 H locs hw hP hD hS => ?_)
              obtain ⟨zrletters_40, zrstack_41⟩ := u_38
              try dsimp only at hw hP hD
              have p_42 := hw
              clear hw
              refine lv_istore (lv' := [(7, .int r_39), (6, .int r_36), (5, .int l_31), (4, .int n_21), (3, .int l_30), (2, .int l_29), (0, .ref (hs 0)), (1, .int i)]) hx hb dX9_gap_116 hl (by decide) rfl (fun ls hl => ?_)
              refine lv_aload_n hx hb dX9_gap_118 rfl (lv_at hl 6 rfl) ?_
              refine gt_SP_SP_band hx hb hts hown hK hP lwd_19 dX9_gap_119 ?_
              refine lv_iload_n hx hb dX9_gap_122 rfl (lv_at hl 7 rfl) ?_
              refine lv_iload hx hb dX9_gap_123 (lv_at hl 0 rfl) ?_
              refine xi hD hS hA (xV (As := [.int i, .int r_39]) (rest := []) hx hb hml hown hts hK hP hD hS hA NS_ok hN hAe hl.1 ⟨Nat.le_refl _, Nat.le_refl _⟩ 3 rfl rfl rfl (c_X0_minutes l D cy hs hH hT sH sT v_tape_size v_band_walkers v_band_loads v_band_pieces v_rules_clauses v_reader_end v_reader_at v_reader_length v_reader_letter v_reader_fault v_draft_clauses v_paces_version v_packing_quicker v_packing_loads v_packing_looseCount v_marches_told v_marches_changeMinutes v_marches_marching zmarches_gone_10 v_search_known v_search_countHere v_search_countThere v_search_cost v_search_most v_search_found f_bytes f_knee f_weight f_limps f_bheft f_owner f_food f_miles f_slope f_rsteps f_rkind f_ryields f_rholds zrletters_40 zrstack_41 f_dsteps f_dkind f_dyields f_dholds f_dletters f_dstack f_caps f_versions f_sharing f_pheft f_prow f_holder f_comes f_pcaps f_room f_loose f_reached f_mrow zminutesOn_13 zmtired_14 f_here f_there f_statesHere f_statesThere f_listed f_stired f_burdens f_pacesOn f_restedOn f_behindOn f_behindFor f_first f_second f_plans ztiredOn_15 tS H.size i r_39 hr_miles (by omega)) (gi_V lwd_634 lwd_635 lwd_636 lwd_18 lwd_637) ⟨rfl, hd_X0_minutes⟩ ⟨Nat.le_of_ble_eq_true rfl, Nat.le_of_ble_eq_true rfl⟩ rfl (Nat.le_of_ble_eq_true rfl) dX9_gap_125) (fun r_44 u_43 H locs hw hP hD hS => ?_)
              try dsimp only at hw hP hD
              clear hw
              refine lv_istore (lv' := [(8, .int r_44), (7, .int r_39), (6, .int r_36), (5, .int l_31), (4, .int n_21), (3, .int l_30), (2, .int l_29), (0, .ref (hs 0)), (1, .int i)]) hx hb dX9_gap_128 hl (by decide) rfl (fun ls hl => ?_)
              refine lv_iload_n hx hb dX9_gap_130 rfl (lv_at hl 6 rfl) ?_
              refine lv_iload hx hb dX9_gap_131 (lv_at hl 0 rfl) ?_
              refine va_mmin hx hb (by rw [hml]; exact hl.1.symm) hown (hts _ lwd_815) (hts _ lwd_528) (hts _ lwd_529) (hts _ lwd_530) (Nat.le_of_ble_eq_true rfl) (Nat.le_of_ble_eq_true rfl) (Nat.zero_le _) (Nat.zero_le _) dX9_gap_133 ?_
              refine lv_topi (fun n_45 en_45 => ?_)
              have tn_45 := i_min en_45 (rfl : l_29.toInt = l_29.toInt) (rfl : r_44.toInt = r_44.toInt)
              refine lv_istore_n (lv' := [(2, .int n_45), (8, .int r_44), (7, .int r_39), (6, .int r_36), (5, .int l_31), (4, .int n_21), (3, .int l_30), (0, .ref (hs 0)), (1, .int i)]) hx hb dX9_gap_136 rfl hl (by decide) rfl (fun ls hl => ?_)
              refine lv_iload_n hx hb dX9_gap_137 rfl (lv_at hl 6 rfl) ?_
              refine lv_iload hx hb dX9_gap_138 (lv_at hl 1 rfl) ?_
              refine va_mmax hx hb (by rw [hml]; exact hl.1.symm) hown (hts _ lwd_816) (hts _ lwd_532) (hts _ lwd_529) (hts _ lwd_533) (Nat.le_of_ble_eq_true rfl) (Nat.le_of_ble_eq_true rfl) (Nat.zero_le _) (Nat.zero_le _) dX9_gap_140 ?_
              refine lv_topi (fun n_46 en_46 => ?_)
              have tn_46 := i_max en_46 (rfl : l_30.toInt = l_30.toInt) (rfl : r_44.toInt = r_44.toInt)
              refine lv_istore_n (lv' := [(3, .int n_46), (2, .int n_45), (8, .int r_44), (7, .int r_39), (6, .int r_36), (5, .int l_31), (4, .int n_21), (0, .ref (hs 0)), (1, .int i)]) hx hb dX9_gap_143 rfl hl (by decide) rfl (fun ls hl => ?_)
              obtain ⟨n_47, en_47⟩ : ∃ y : Int32, y = l_31 + 1 := ⟨_, rfl⟩
              have tn_47 : n_47.toInt = l_31.toInt + 1 := i_add en_47 (rfl : l_31.toInt = l_31.toInt) (by decide : (1 : Int32).toInt = 1) (by omega) (by omega)
              refine lv_iinc (v := n_47) (lv' := [(5, .int n_47), (3, .int n_46), (2, .int n_45), (8, .int r_44), (7, .int r_39), (6, .int r_36), (4, .int n_21), (0, .ref (hs 0)), (1, .int i)]) hx hb dX9_gap_144 hl (k := 5) rfl (by rw [en_47]; rfl) (by decide) rfl (fun ls hl => ?_)
              refine lv_goto (tgt := 66) hx hb dX9_gap_147 (by decide) ?_
              exact ih66_32 zrletters_40 zrstack_41 n_45 n_46 n_47 (by omega) (by omega) _ _ _ hP hD hS (lv_sub hl [0, 6, 1, 2, 7, 8] rfl)
        have k_48 : (1000000000 : Int32).toInt = 1000000000 := by decide
        have k_49 : (0 : Int32).toInt = 0 := by decide
        have k_50 : (0 : Int32).toInt = 0 := by decide
        exact L66_32 8589934592 zrletters_11 zrstack_12 1000000000 0 0 (by omega) (by omega) _ _ _ hP hD hS (lv_sub hl [0, 1, 2, 3, 4, 5] rfl)
      · have gc_19 : zmarches_gone_10.toInt ≤ i.toInt := i_nlt (rfl : i.toInt = i.toInt) (rfl : zmarches_gone_10.toInt = zmarches_gone_10.toInt) c_19
        refine lv_bipush (v := (-2)) hx hb dX9_gap_41 (by decide) ?_
        have k_51 : ((-2) : Int32).toInt = (-2) := by decide
        exact hrt (-2) zmarches_gone_10 zrletters_11 zrstack_12 zminutesOn_13 zmtired_14 ztiredOn_15 ⟨(by omega), p_17, p_18⟩ hP hD hS rfl dX9_gap_43
    · have gc_7 : r_4.toInt = 0 := i_eq (rfl : r_4.toInt = r_4.toInt) (by decide : (0 : Int32).toInt = 0) c_7
      refine lv_iconst (v := (-1)) hx hb dX9_gap_21 (by decide) ?_
      have k_52 : ((-1) : Int32).toInt = (-1) := by decide
      exact hrt (-1) v_marches_gone f_rletters f_rstack f_minutesOn f_mtired f_tiredOn ⟨(by omega), hr_mtired, hr_tiredOn⟩ hP hD hS rfl dX9_gap_22
set_option maxHeartbeats 16000000 in
set_option maxRecDepth 100000 in
theorem c_X9_best (l : Launch) (D : va_G) (cy : Nat → ClassId) (hs : Nat → Nat) (hH hT sH sT : Nat) (v_tape_size v_band_walkers v_band_loads v_band_pieces v_rules_clauses v_reader_end v_reader_at v_reader_length v_reader_letter v_reader_fault v_draft_clauses v_paces_version v_packing_quicker v_packing_loads v_packing_looseCount v_marches_told v_marches_changeMinutes v_marches_marching v_marches_gone v_search_known v_search_countHere v_search_countThere v_search_cost v_search_most : Int32) (v_search_found : Int64) (f_bytes f_knee f_weight f_limps f_bheft f_owner f_food f_miles f_slope f_rsteps f_rkind f_ryields f_rholds f_rletters f_rstack f_dsteps f_dkind f_dyields f_dholds f_dletters f_dstack f_caps f_versions f_sharing f_pheft f_prow f_holder f_comes f_pcaps f_room f_loose f_reached f_mrow f_minutesOn f_mtired : Nat → Int32) (f_here f_there : Nat → Int64) (f_statesHere f_statesThere f_listed f_stired f_burdens f_pacesOn f_restedOn f_behindOn f_behindFor f_first f_second : Nat → Int32) (f_plans f_tiredOn : Nat → Nat → Int32) (tS : Nat) (sz : Nat) (what : Int32) (hb_v_band_walkers : 0 ≤ v_band_walkers.toInt ∧ v_band_walkers.toInt ≤ 6) (hb_v_band_loads : 0 ≤ v_band_loads.toInt ∧ v_band_loads.toInt ≤ 9) (hb_v_band_pieces : 0 ≤ v_band_pieces.toInt ∧ v_band_pieces.toInt ≤ 10) (hb_v_rules_clauses : 0 ≤ v_rules_clauses.toInt ∧ v_rules_clauses.toInt ≤ 14) (hb_v_search_known : 0 ≤ v_search_known.toInt ∧ v_search_known.toInt ≤ 1) (hb_v_search_countHere : 0 ≤ v_search_countHere.toInt ∧ v_search_countHere.toInt ≤ 1296) (hb_v_search_countThere : 0 ≤ v_search_countThere.toInt ∧ v_search_countThere.toInt ≤ 1296) (hb_v_search_most : -1 ≤ v_search_most.toInt ∧ v_search_most.toInt ≤ 3) (hr_weight : rg (0) 250 f_weight) (hr_limps : rg (0) 1 f_limps) (hr_bheft : rg (0) 120 f_bheft) (hr_food : rg (0) 20 f_food) (hr_miles : rg (0) 20 f_miles) (hr_statesHere : rg (0) 1295 f_statesHere) (hr_statesThere : rg (0) 1295 f_statesThere) (hr_listed : rg (0) 1 f_listed) (hr_stired : rg (0) 5 f_stired) (hr_pacesOn : rg (-1) 60 f_pacesOn) (hr_restedOn : rg (-1) 5 f_restedOn) (hr_behindOn : rg (0) 5 f_behindOn) (hZ : ∀ b : Nat, b < 1296 → (f_listed b).toInt = 0) : gMi l yX9_best cX9_best 3 .int 7 [.ref (hs 0), .int what] D cy (wSP cy hs hH hT sH sT v_tape_size v_band_walkers v_band_loads v_band_pieces v_rules_clauses v_reader_end v_reader_at v_reader_length v_reader_letter v_reader_fault v_draft_clauses v_paces_version v_packing_quicker v_packing_loads v_packing_looseCount v_marches_told v_marches_changeMinutes v_marches_marching v_marches_gone v_search_known v_search_countHere v_search_countThere v_search_cost v_search_most v_search_found f_bytes f_knee f_weight f_limps f_bheft f_owner f_food f_miles f_slope f_rsteps f_rkind f_ryields f_rholds f_rletters f_rstack f_dsteps f_dkind f_dyields f_dholds f_dletters f_dstack f_caps f_versions f_sharing f_pheft f_prow f_holder f_comes f_pcaps f_room f_loose f_reached f_mrow f_minutesOn f_mtired f_here f_there f_statesHere f_statesThere f_listed f_stired f_burdens f_pacesOn f_restedOn f_behindOn f_behindFor f_first f_second f_plans f_tiredOn) (NS tS) sz (fun (r : Int32) (u : Int32 × Int32 × Int32 × Int32 × Int32 × Int64 × (Nat → Int32) × (Nat → Int32) × (Nat → Int64) × (Nat → Int64) × (Nat → Int32) × (Nat → Int32) × (Nat → Int32) × (Nat → Int32) × (Nat → Int32) × (Nat → Int32) × (Nat → Int32) × (Nat → Int32) × (Nat → Int32) × Nat × Nat × Nat × Nat) => (∀ b : Nat, b < 1296 → ((u.2.2.2.2.2.2.2.2.2.2.2.2.1) b).toInt = 0) ∧ (0 ≤ (u.1).toInt ∧ (u.1).toInt ≤ 1) ∧ (0 ≤ (u.2.1).toInt ∧ (u.2.1).toInt ≤ 1296) ∧ (0 ≤ (u.2.2.1).toInt ∧ (u.2.2.1).toInt ≤ 1296) ∧ (-1 ≤ (u.2.2.2.2.1).toInt ∧ (u.2.2.2.2.1).toInt ≤ 3) ∧ (rg (0) 1295 (u.2.2.2.2.2.2.2.2.2.2.1)) ∧ (rg (0) 1295 (u.2.2.2.2.2.2.2.2.2.2.2.1)) ∧ (rg (0) 1 (u.2.2.2.2.2.2.2.2.2.2.2.2.1)) ∧ (rg (0) 5 (u.2.2.2.2.2.2.2.2.2.2.2.2.2.1)) ∧ (rg (-1) 60 (u.2.2.2.2.2.2.2.2.2.2.2.2.2.2.2.1)) ∧ (rg (-1) 5 (u.2.2.2.2.2.2.2.2.2.2.2.2.2.2.2.2.1)) ∧ (rg (0) 5 (u.2.2.2.2.2.2.2.2.2.2.2.2.2.2.2.2.2.1))) (fun u => wSP cy hs (u.2.2.2.2.2.2.2.2.2.2.2.2.2.2.2.2.2.2.2.1) (u.2.2.2.2.2.2.2.2.2.2.2.2.2.2.2.2.2.2.2.2.1) (u.2.2.2.2.2.2.2.2.2.2.2.2.2.2.2.2.2.2.2.2.2.1) (u.2.2.2.2.2.2.2.2.2.2.2.2.2.2.2.2.2.2.2.2.2.2) v_tape_size v_band_walkers v_band_loads v_band_pieces v_rules_clauses v_reader_end v_reader_at v_reader_length v_reader_letter v_reader_fault v_draft_clauses v_paces_version v_packing_quicker v_packing_loads v_packing_looseCount v_marches_told v_marches_changeMinutes v_marches_marching v_marches_gone (u.1) (u.2.1) (u.2.2.1) (u.2.2.2.1) (u.2.2.2.2.1) (u.2.2.2.2.2.1) f_bytes f_knee f_weight f_limps f_bheft f_owner f_food f_miles f_slope f_rsteps f_rkind f_ryields f_rholds (u.2.2.2.2.2.2.1) (u.2.2.2.2.2.2.2.1) f_dsteps f_dkind f_dyields f_dholds f_dletters f_dstack f_caps f_versions f_sharing f_pheft f_prow f_holder f_comes f_pcaps f_room f_loose f_reached f_mrow f_minutesOn f_mtired (u.2.2.2.2.2.2.2.2.1) (u.2.2.2.2.2.2.2.2.2.1) (u.2.2.2.2.2.2.2.2.2.2.1) (u.2.2.2.2.2.2.2.2.2.2.2.1) (u.2.2.2.2.2.2.2.2.2.2.2.2.1) (u.2.2.2.2.2.2.2.2.2.2.2.2.2.1) (u.2.2.2.2.2.2.2.2.2.2.2.2.2.2.1) (u.2.2.2.2.2.2.2.2.2.2.2.2.2.2.2.1) (u.2.2.2.2.2.2.2.2.2.2.2.2.2.2.2.2.1) (u.2.2.2.2.2.2.2.2.2.2.2.2.2.2.2.2.2.1) (u.2.2.2.2.2.2.2.2.2.2.2.2.2.2.2.2.2.2.1) f_first f_second f_plans f_tiredOn) := by
  refine gMi_in (by decide) (Nat.le_of_ble_eq_true rfl) ?_
  intro p e s m args below meth c A ls Q hx hb hml hts hown hsz hP hK hD hN hAe hA hS hl hret
  subst hsz
  have hl : lv_has ls 3 [(0, .ref (hs 0)), (1, .int what)] := hl
  have hrt := fun (r : Int32) (v_search_known' : Int32) (v_search_countHere' : Int32) (v_search_countThere' : Int32) (v_search_cost' : Int32) (v_search_most' : Int32) (v_search_found' : Int64) (f_rletters' : Nat → Int32) (f_rstack' : Nat → Int32) (f_here' : Nat → Int64) (f_there' : Nat → Int64) (f_statesHere' : Nat → Int32) (f_statesThere' : Nat → Int32) (f_listed' : Nat → Int32) (f_stired' : Nat → Int32) (f_burdens' : Nat → Int32) (f_pacesOn' : Nat → Int32) (f_restedOn' : Nat → Int32) (f_behindOn' : Nat → Int32) (f_behindFor' : Nat → Int32) (hH' : Nat) (hT' : Nat) (sH' : Nat) (sT' : Nat) (hp : (∀ b : Nat, b < 1296 → (f_listed' b).toInt = 0) ∧ (0 ≤ v_search_known'.toInt ∧ v_search_known'.toInt ≤ 1) ∧ (0 ≤ v_search_countHere'.toInt ∧ v_search_countHere'.toInt ≤ 1296) ∧ (0 ≤ v_search_countThere'.toInt ∧ v_search_countThere'.toInt ≤ 1296) ∧ (-1 ≤ v_search_most'.toInt ∧ v_search_most'.toInt ≤ 3) ∧ (rg (0) 1295 f_statesHere') ∧ (rg (0) 1295 f_statesThere') ∧ (rg (0) 1 f_listed') ∧ (rg (0) 5 f_stired') ∧ (rg (-1) 60 f_pacesOn') ∧ (rg (-1) 5 f_restedOn') ∧ (rg (0) 5 f_behindOn')) {H : Heap} {locs : List Loc} {pc : Nat} {ls : Array Slot} => hret r (v_search_known', v_search_countHere', v_search_countThere', v_search_cost', v_search_most', v_search_found', f_rletters', f_rstack', f_here', f_there', f_statesHere', f_statesThere', f_listed', f_stired', f_burdens', f_pacesOn', f_restedOn', f_behindOn', f_behindFor', hH', hT', sH', sT') (H := H) (locs := locs) (pc := pc) (ls := ls) hp
  clear hret
  skip
  refine lv_iload_n hx hb dX9_best_0 rfl (lv_at hl 1 rfl) ?_
  refine lv_iconst (v := (-1)) hx hb dX9_best_1 (by decide) ?_
  refine lv_icmp_eq (tgt := 16) hx hb dX9_best_2 (by decide) (fun c_1 => ?_) (fun c_1 => ?_)
  · have gc_1 : what.toInt = (-1) := i_eq (rfl : what.toInt = what.toInt) (by decide : ((-1) : Int32).toInt = (-1)) c_1
    refine lv_iconst (v := 1) hx hb dX9_best_16 (by decide) ?_
    refine lv_goto (tgt := 21) hx hb dX9_best_17 (by decide) ?_
    refine lv_istore_n (lv' := [(2, .int 1), (0, .ref (hs 0)), (1, .int what)]) hx hb dX9_best_21 rfl hl (by decide) rfl (fun ls hl => ?_)
    refine lv_iload_n hx hb dX9_best_22 rfl (lv_at hl 0 rfl) ?_
    refine lv_if_eq (tgt := 46) hx hb dX9_best_23 (by decide) (fun c_2 => ?_) (fun c_2 => ?_)
    · exact absurd c_2 (by decide)
    · skip
      refine lv_aload_n hx hb dX9_best_26 rfl (lv_at hl 1 rfl) ?_
      refine gt_SP_SP_band hx hb hts hown hK hP lwd_19 dX9_best_27 ?_
      refine gt_SP_band_walkers hx hb hts hown hK hP lwd_206 dX9_best_30 ?_
      refine lv_if_eq (tgt := 46) hx hb dX9_best_33 (by decide) (fun c_3 => ?_) (fun c_3 => ?_)
      · have gc_3 : v_band_walkers.toInt = 0 := i_eq (rfl : v_band_walkers.toInt = v_band_walkers.toInt) (by decide : (0 : Int32).toInt = 0) c_3
        refine lv_iconst (v := (-1)) hx hb dX9_best_46 (by decide) ?_
        have k_4 : ((-1) : Int32).toInt = (-1) := by decide
        exact hrt (-1) v_search_known v_search_countHere v_search_countThere v_search_cost v_search_most v_search_found f_rletters f_rstack f_here f_there f_statesHere f_statesThere f_listed f_stired f_burdens f_pacesOn f_restedOn f_behindOn f_behindFor hH hT sH sT ⟨hZ, (by omega), (by omega), (by omega), (by omega), hr_statesHere, hr_statesThere, hr_listed, hr_stired, hr_pacesOn, hr_restedOn, hr_behindOn⟩ hP hD hS rfl dX9_best_47
      · have gc_3 : v_band_walkers.toInt ≠ 0 := i_ne (rfl : v_band_walkers.toInt = v_band_walkers.toInt) (by decide : (0 : Int32).toInt = 0) c_3
        refine lv_aload_n hx hb dX9_best_36 rfl (lv_at hl 1 rfl) ?_
        refine gt_SP_SP_band hx hb hts hown hK hP lwd_19 dX9_best_37 ?_
        refine gt_SP_band_pieces hx hb hts hown hK hP lwd_258 dX9_best_40 ?_
        refine lv_if_ne (tgt := 48) hx hb dX9_best_43 (by decide) (fun c_5 => ?_) (fun c_5 => ?_)
        · have gc_5 : v_band_pieces.toInt ≠ 0 := i_ne (rfl : v_band_pieces.toInt = v_band_pieces.toInt) (by decide : (0 : Int32).toInt = 0) c_5
          refine lv_aload_n hx hb dX9_best_48 rfl (lv_at hl 1 rfl) ?_
          refine gt_SP_SP_band hx hb hts hown hK hP lwd_19 dX9_best_49 ?_
          refine gt_SP_band_walkers hx hb hts hown hK hP lwd_206 dX9_best_52 ?_
          refine lv_iconst (v := 4) hx hb dX9_best_55 (by decide) ?_
          refine lv_icmp_le (tgt := 62) hx hb dX9_best_56 (by decide) (fun c_6 => ?_) (fun c_6 => ?_)
          · have gc_6 : v_band_walkers.toInt ≤ 4 := i_le (rfl : v_band_walkers.toInt = v_band_walkers.toInt) (by decide : (4 : Int32).toInt = 4) c_6
            refine lv_aload_n hx hb dX9_best_62 rfl (lv_at hl 1 rfl) ?_
            refine gt_SP_SP_search hx hb hts hown hK hP lwd_43 dX9_best_63 ?_
            refine lv_aload_n hx hb dX9_best_66 rfl (lv_at hl 1 rfl) ?_
            refine gt_SP_SP_marches hx hb hts hown hK hP lwd_39 dX9_best_67 ?_
            refine gt_SP_marches_changeMinutes hx hb hts hown hK hP lwd_279 dX9_best_70 ?_
            refine lv_iconst (v := (-1)) hx hb dX9_best_73 (by decide) ?_
            have k_7 : ((-1) : Int32).toInt = (-1) := by decide
            refine xv hD hS hA (xV (As := [.int v_marches_changeMinutes, .int (-1)]) (rest := []) hx hb hml hown hts hK hP hD hS hA NS_ok hN hAe hl.1 ⟨Nat.le_refl _, Nat.le_refl _⟩ 62 rfl rfl rfl (c_X7_solve l D cy hs hH hT sH sT v_tape_size v_band_walkers v_band_loads v_band_pieces v_rules_clauses v_reader_end v_reader_at v_reader_length v_reader_letter v_reader_fault v_draft_clauses v_paces_version v_packing_quicker v_packing_loads v_packing_looseCount v_marches_told v_marches_changeMinutes v_marches_marching v_marches_gone v_search_known v_search_countHere v_search_countThere v_search_cost v_search_most v_search_found f_bytes f_knee f_weight f_limps f_bheft f_owner f_food f_miles f_slope f_rsteps f_rkind f_ryields f_rholds f_rletters f_rstack f_dsteps f_dkind f_dyields f_dholds f_dletters f_dstack f_caps f_versions f_sharing f_pheft f_prow f_holder f_comes f_pcaps f_room f_loose f_reached f_mrow f_minutesOn f_mtired f_here f_there f_statesHere f_statesThere f_listed f_stired f_burdens f_pacesOn f_restedOn f_behindOn f_behindFor f_first f_second f_plans f_tiredOn tS s.heap.size v_marches_changeMinutes (-1) (by omega) (by omega) (by omega) (by omega) (by omega) (by omega) (by omega) (by omega) hr_weight hr_limps hr_bheft hr_food hr_miles hr_statesHere hr_statesThere hr_listed hr_stired hr_pacesOn hr_restedOn hr_behindOn (by omega) (by omega) hZ) (gi_V lwd_1038 lwd_1039 lwd_1040 lwd_42 lwd_1041) ⟨rfl, hd_X7_solve⟩ ⟨Nat.le_of_ble_eq_true rfl, Nat.le_of_ble_eq_true rfl⟩ rfl (Nat.le_of_ble_eq_true rfl) dX9_best_74) (fun u_8 H locs hw hP hD hS => ?_)
            obtain ⟨zsearch_known_10, zsearch_countHere_11, zsearch_countThere_12, zsearch_cost_13, zsearch_most_14, zsearch_found_15, zrletters_16, zrstack_17, zhere_18, zthere_19, zstatesHere_20, zstatesThere_21, zlisted_22, zstired_23, zburdens_24, zpacesOn_25, zrestedOn_26, zbehindOn_27, zbehindFor_28, zhH_29, zhT_30, zsH_31, zsT_32⟩ := u_8
            try dsimp only at hw hP hD
            obtain ⟨p_33, p_34, p_35, p_36, p_37, p_38, p_39, p_40, p_41, p_42, p_43, p_44⟩ := hw
            refine lv_aload_n hx hb dX9_best_77 rfl (lv_at hl 1 rfl) ?_
            refine gt_SP_SP_search hx hb hts hown hK hP lwd_43 dX9_best_78 ?_
            refine xi hD hS hA (xV (As := []) (rest := []) hx hb hml hown hts hK hP hD hS hA NS_ok hN hAe hl.1 ⟨Nat.le_refl _, Nat.le_refl _⟩ 62 rfl rfl rfl (c_X7_minutes l D cy hs zhH_29 zhT_30 zsH_31 zsT_32 v_tape_size v_band_walkers v_band_loads v_band_pieces v_rules_clauses v_reader_end v_reader_at v_reader_length v_reader_letter v_reader_fault v_draft_clauses v_paces_version v_packing_quicker v_packing_loads v_packing_looseCount v_marches_told v_marches_changeMinutes v_marches_marching v_marches_gone zsearch_known_10 zsearch_countHere_11 zsearch_countThere_12 zsearch_cost_13 zsearch_most_14 zsearch_found_15 f_bytes f_knee f_weight f_limps f_bheft f_owner f_food f_miles f_slope f_rsteps f_rkind f_ryields f_rholds zrletters_16 zrstack_17 f_dsteps f_dkind f_dyields f_dholds f_dletters f_dstack f_caps f_versions f_sharing f_pheft f_prow f_holder f_comes f_pcaps f_room f_loose f_reached f_mrow f_minutesOn f_mtired zhere_18 zthere_19 zstatesHere_20 zstatesThere_21 zlisted_22 zstired_23 zburdens_24 zpacesOn_25 zrestedOn_26 zbehindOn_27 zbehindFor_28 f_first f_second f_plans f_tiredOn tS H.size) (gi_V lwd_1091 lwd_1092 lwd_1093 lwd_42 lwd_1094) ⟨rfl, hd_X7_minutes⟩ ⟨Nat.le_of_ble_eq_true rfl, Nat.le_of_ble_eq_true rfl⟩ rfl (Nat.le_of_ble_eq_true rfl) dX9_best_81) (fun r_46 u_45 H locs hw hP hD hS => ?_)
            try dsimp only at hw hP hD
            clear hw
            refine lv_ldc hx hb hown (hts _ lwd_778) dX9_best_84 ?_
            refine lv_icmp_ne (tgt := 92) hx hb dX9_best_86 (by decide) (fun c_47 => ?_) (fun c_47 => ?_)
            · have gc_47 : r_46.toInt ≠ 1000000000 := i_ne (rfl : r_46.toInt = r_46.toInt) (by decide : (1000000000 : Int32).toInt = 1000000000) c_47
              refine lv_iload_n hx hb dX9_best_92 rfl (lv_at hl 2 rfl) ?_
              refine lv_iconst (v := (-1)) hx hb dX9_best_93 (by decide) ?_
              refine lv_icmp_ne (tgt := 107) hx hb dX9_best_94 (by decide) (fun c_48 => ?_) (fun c_48 => ?_)
              · have gc_48 : what.toInt ≠ (-1) := i_ne (rfl : what.toInt = what.toInt) (by decide : ((-1) : Int32).toInt = (-1)) c_48
                exact absurd gc_48 (by omega)
              · have gc_48 : what.toInt = (-1) := i_eq (rfl : what.toInt = what.toInt) (by decide : ((-1) : Int32).toInt = (-1)) c_48
                refine lv_aload_n hx hb dX9_best_97 rfl (lv_at hl 1 rfl) ?_
                refine gt_SP_SP_search hx hb hts hown hK hP lwd_43 dX9_best_98 ?_
                refine xi hD hS hA (xV (As := []) (rest := []) hx hb hml hown hts hK hP hD hS hA NS_ok hN hAe hl.1 ⟨Nat.le_refl _, Nat.le_refl _⟩ 62 rfl rfl rfl (c_X7_minutes l D cy hs zhH_29 zhT_30 zsH_31 zsT_32 v_tape_size v_band_walkers v_band_loads v_band_pieces v_rules_clauses v_reader_end v_reader_at v_reader_length v_reader_letter v_reader_fault v_draft_clauses v_paces_version v_packing_quicker v_packing_loads v_packing_looseCount v_marches_told v_marches_changeMinutes v_marches_marching v_marches_gone zsearch_known_10 zsearch_countHere_11 zsearch_countThere_12 zsearch_cost_13 zsearch_most_14 zsearch_found_15 f_bytes f_knee f_weight f_limps f_bheft f_owner f_food f_miles f_slope f_rsteps f_rkind f_ryields f_rholds zrletters_16 zrstack_17 f_dsteps f_dkind f_dyields f_dholds f_dletters f_dstack f_caps f_versions f_sharing f_pheft f_prow f_holder f_comes f_pcaps f_room f_loose f_reached f_mrow f_minutesOn f_mtired zhere_18 zthere_19 zstatesHere_20 zstatesThere_21 zlisted_22 zstired_23 zburdens_24 zpacesOn_25 zrestedOn_26 zbehindOn_27 zbehindFor_28 f_first f_second f_plans f_tiredOn tS H.size) (gi_V lwd_1091 lwd_1092 lwd_1093 lwd_42 lwd_1094) ⟨rfl, hd_X7_minutes⟩ ⟨Nat.le_of_ble_eq_true rfl, Nat.le_of_ble_eq_true rfl⟩ rfl (Nat.le_of_ble_eq_true rfl) dX9_best_101) (fun r_50 u_49 H locs hw hP hD hS => ?_)
                try dsimp only at hw hP hD
                clear hw
                refine lv_goto (tgt := 115) hx hb dX9_best_104 (by decide) ?_
                exact hrt r_50 zsearch_known_10 zsearch_countHere_11 zsearch_countThere_12 zsearch_cost_13 zsearch_most_14 zsearch_found_15 zrletters_16 zrstack_17 zhere_18 zthere_19 zstatesHere_20 zstatesThere_21 zlisted_22 zstired_23 zburdens_24 zpacesOn_25 zrestedOn_26 zbehindOn_27 zbehindFor_28 zhH_29 zhT_30 zsH_31 zsT_32 ⟨p_33, (by omega), (by omega), (by omega), (by omega), p_38, p_39, p_40, p_41, p_42, p_43, p_44⟩ hP hD hS rfl dX9_best_115
            · have gc_47 : r_46.toInt = 1000000000 := i_eq (rfl : r_46.toInt = r_46.toInt) (by decide : (1000000000 : Int32).toInt = 1000000000) c_47
              refine lv_bipush (v := (-2)) hx hb dX9_best_89 (by decide) ?_
              have k_51 : ((-2) : Int32).toInt = (-2) := by decide
              exact hrt (-2) zsearch_known_10 zsearch_countHere_11 zsearch_countThere_12 zsearch_cost_13 zsearch_most_14 zsearch_found_15 zrletters_16 zrstack_17 zhere_18 zthere_19 zstatesHere_20 zstatesThere_21 zlisted_22 zstired_23 zburdens_24 zpacesOn_25 zrestedOn_26 zbehindOn_27 zbehindFor_28 zhH_29 zhT_30 zsH_31 zsT_32 ⟨p_33, (by omega), (by omega), (by omega), (by omega), p_38, p_39, p_40, p_41, p_42, p_43, p_44⟩ hP hD hS rfl dX9_best_91
          · have gc_6 : 4 < v_band_walkers.toInt := i_nle (rfl : v_band_walkers.toInt = v_band_walkers.toInt) (by decide : (4 : Int32).toInt = 4) c_6
            refine lv_bipush (v := (-2)) hx hb dX9_best_59 (by decide) ?_
            have k_52 : ((-2) : Int32).toInt = (-2) := by decide
            exact hrt (-2) v_search_known v_search_countHere v_search_countThere v_search_cost v_search_most v_search_found f_rletters f_rstack f_here f_there f_statesHere f_statesThere f_listed f_stired f_burdens f_pacesOn f_restedOn f_behindOn f_behindFor hH hT sH sT ⟨hZ, (by omega), (by omega), (by omega), (by omega), hr_statesHere, hr_statesThere, hr_listed, hr_stired, hr_pacesOn, hr_restedOn, hr_behindOn⟩ hP hD hS rfl dX9_best_61
        · have gc_5 : v_band_pieces.toInt = 0 := i_eq (rfl : v_band_pieces.toInt = v_band_pieces.toInt) (by decide : (0 : Int32).toInt = 0) c_5
          refine lv_iconst (v := (-1)) hx hb dX9_best_46 (by decide) ?_
          have k_53 : ((-1) : Int32).toInt = (-1) := by decide
          exact hrt (-1) v_search_known v_search_countHere v_search_countThere v_search_cost v_search_most v_search_found f_rletters f_rstack f_here f_there f_statesHere f_statesThere f_listed f_stired f_burdens f_pacesOn f_restedOn f_behindOn f_behindFor hH hT sH sT ⟨hZ, (by omega), (by omega), (by omega), (by omega), hr_statesHere, hr_statesThere, hr_listed, hr_stired, hr_pacesOn, hr_restedOn, hr_behindOn⟩ hP hD hS rfl dX9_best_47
  · have gc_1 : what.toInt ≠ (-1) := i_ne (rfl : what.toInt = what.toInt) (by decide : ((-1) : Int32).toInt = (-1)) c_1
    refine lv_aload_n hx hb dX9_best_5 rfl (lv_at hl 0 rfl) ?_
    refine gt_SP_SP_band hx hb hts hown hK hP lwd_19 dX9_best_6 ?_
    refine lv_iload_n hx hb dX9_best_9 rfl (lv_at hl 1 rfl) ?_
    refine xi hD hS hA (xV (As := [.int what]) (rest := []) hx hb hml hown hts hK hP hD hS hA NS_ok hN hAe hl.1 ⟨Nat.le_refl _, Nat.le_refl _⟩ 3 rfl rfl rfl (c_X0_hasPiece l D cy hs hH hT sH sT v_tape_size v_band_walkers v_band_loads v_band_pieces v_rules_clauses v_reader_end v_reader_at v_reader_length v_reader_letter v_reader_fault v_draft_clauses v_paces_version v_packing_quicker v_packing_loads v_packing_looseCount v_marches_told v_marches_changeMinutes v_marches_marching v_marches_gone v_search_known v_search_countHere v_search_countThere v_search_cost v_search_most v_search_found f_bytes f_knee f_weight f_limps f_bheft f_owner f_food f_miles f_slope f_rsteps f_rkind f_ryields f_rholds f_rletters f_rstack f_dsteps f_dkind f_dyields f_dholds f_dletters f_dstack f_caps f_versions f_sharing f_pheft f_prow f_holder f_comes f_pcaps f_room f_loose f_reached f_mrow f_minutesOn f_mtired f_here f_there f_statesHere f_statesThere f_listed f_stired f_burdens f_pacesOn f_restedOn f_behindOn f_behindFor f_first f_second f_plans f_tiredOn tS s.heap.size what (by omega)) (gi_V lwd_504 lwd_505 lwd_506 lwd_18 lwd_507) ⟨rfl, hd_X0_hasPiece⟩ ⟨Nat.le_of_ble_eq_true rfl, Nat.le_of_ble_eq_true rfl⟩ rfl (Nat.le_of_ble_eq_true rfl) dX9_best_10) (fun r_55 u_54 H locs hw hP hD hS => ?_)
    try dsimp only at hw hP hD
    obtain ⟨p_56, p_57⟩ := hw
    refine lv_if_eq (tgt := 20) hx hb dX9_best_13 (by decide) (fun c_58 => ?_) (fun c_58 => ?_)
    · have gc_58 : r_55.toInt = 0 := i_eq (rfl : r_55.toInt = r_55.toInt) (by decide : (0 : Int32).toInt = 0) c_58
      refine lv_iconst (v := 0) hx hb dX9_best_20 (by decide) ?_
      refine lv_istore_n (lv' := [(2, .int 0), (0, .ref (hs 0)), (1, .int what)]) hx hb dX9_best_21 rfl hl (by decide) rfl (fun ls hl => ?_)
      refine lv_iload_n hx hb dX9_best_22 rfl (lv_at hl 0 rfl) ?_
      refine lv_if_eq (tgt := 46) hx hb dX9_best_23 (by decide) (fun c_59 => ?_) (fun c_59 => ?_)
      · skip
        refine lv_iconst (v := (-1)) hx hb dX9_best_46 (by decide) ?_
        have k_60 : ((-1) : Int32).toInt = (-1) := by decide
        exact hrt (-1) v_search_known v_search_countHere v_search_countThere v_search_cost v_search_most v_search_found f_rletters f_rstack f_here f_there f_statesHere f_statesThere f_listed f_stired f_burdens f_pacesOn f_restedOn f_behindOn f_behindFor hH hT sH sT ⟨hZ, (by omega), (by omega), (by omega), (by omega), hr_statesHere, hr_statesThere, hr_listed, hr_stired, hr_pacesOn, hr_restedOn, hr_behindOn⟩ hP hD hS rfl dX9_best_47
      · exact absurd c_59 (by decide)
    · have gc_58 : r_55.toInt ≠ 0 := i_ne (rfl : r_55.toInt = r_55.toInt) (by decide : (0 : Int32).toInt = 0) c_58
      refine lv_iconst (v := 1) hx hb dX9_best_16 (by decide) ?_
      refine lv_goto (tgt := 21) hx hb dX9_best_17 (by decide) ?_
      refine lv_istore_n (lv' := [(2, .int 1), (0, .ref (hs 0)), (1, .int what)]) hx hb dX9_best_21 rfl hl (by decide) rfl (fun ls hl => ?_)
      refine lv_iload_n hx hb dX9_best_22 rfl (lv_at hl 0 rfl) ?_
      refine lv_if_eq (tgt := 46) hx hb dX9_best_23 (by decide) (fun c_61 => ?_) (fun c_61 => ?_)
      · exact absurd c_61 (by decide)
      · skip
        refine lv_aload_n hx hb dX9_best_26 rfl (lv_at hl 1 rfl) ?_
        refine gt_SP_SP_band hx hb hts hown hK hP lwd_19 dX9_best_27 ?_
        refine gt_SP_band_walkers hx hb hts hown hK hP lwd_206 dX9_best_30 ?_
        refine lv_if_eq (tgt := 46) hx hb dX9_best_33 (by decide) (fun c_62 => ?_) (fun c_62 => ?_)
        · have gc_62 : v_band_walkers.toInt = 0 := i_eq (rfl : v_band_walkers.toInt = v_band_walkers.toInt) (by decide : (0 : Int32).toInt = 0) c_62
          refine lv_iconst (v := (-1)) hx hb dX9_best_46 (by decide) ?_
          have k_63 : ((-1) : Int32).toInt = (-1) := by decide
          exact hrt (-1) v_search_known v_search_countHere v_search_countThere v_search_cost v_search_most v_search_found f_rletters f_rstack f_here f_there f_statesHere f_statesThere f_listed f_stired f_burdens f_pacesOn f_restedOn f_behindOn f_behindFor hH hT sH sT ⟨hZ, (by omega), (by omega), (by omega), (by omega), hr_statesHere, hr_statesThere, hr_listed, hr_stired, hr_pacesOn, hr_restedOn, hr_behindOn⟩ hP hD hS rfl dX9_best_47
        · have gc_62 : v_band_walkers.toInt ≠ 0 := i_ne (rfl : v_band_walkers.toInt = v_band_walkers.toInt) (by decide : (0 : Int32).toInt = 0) c_62
          refine lv_aload_n hx hb dX9_best_36 rfl (lv_at hl 1 rfl) ?_
          refine gt_SP_SP_band hx hb hts hown hK hP lwd_19 dX9_best_37 ?_
          refine gt_SP_band_pieces hx hb hts hown hK hP lwd_258 dX9_best_40 ?_
          refine lv_if_ne (tgt := 48) hx hb dX9_best_43 (by decide) (fun c_64 => ?_) (fun c_64 => ?_)
          · have gc_64 : v_band_pieces.toInt ≠ 0 := i_ne (rfl : v_band_pieces.toInt = v_band_pieces.toInt) (by decide : (0 : Int32).toInt = 0) c_64
            refine lv_aload_n hx hb dX9_best_48 rfl (lv_at hl 1 rfl) ?_
            refine gt_SP_SP_band hx hb hts hown hK hP lwd_19 dX9_best_49 ?_
            refine gt_SP_band_walkers hx hb hts hown hK hP lwd_206 dX9_best_52 ?_
            refine lv_iconst (v := 4) hx hb dX9_best_55 (by decide) ?_
            refine lv_icmp_le (tgt := 62) hx hb dX9_best_56 (by decide) (fun c_65 => ?_) (fun c_65 => ?_)
            · have gc_65 : v_band_walkers.toInt ≤ 4 := i_le (rfl : v_band_walkers.toInt = v_band_walkers.toInt) (by decide : (4 : Int32).toInt = 4) c_65
              refine lv_aload_n hx hb dX9_best_62 rfl (lv_at hl 1 rfl) ?_
              refine gt_SP_SP_search hx hb hts hown hK hP lwd_43 dX9_best_63 ?_
              refine lv_aload_n hx hb dX9_best_66 rfl (lv_at hl 1 rfl) ?_
              refine gt_SP_SP_marches hx hb hts hown hK hP lwd_39 dX9_best_67 ?_
              refine gt_SP_marches_changeMinutes hx hb hts hown hK hP lwd_279 dX9_best_70 ?_
              refine lv_iconst (v := (-1)) hx hb dX9_best_73 (by decide) ?_
              have k_66 : ((-1) : Int32).toInt = (-1) := by decide
              refine xv hD hS hA (xV (As := [.int v_marches_changeMinutes, .int (-1)]) (rest := []) hx hb hml hown hts hK hP hD hS hA NS_ok hN hAe hl.1 ⟨Nat.le_refl _, Nat.le_refl _⟩ 62 rfl rfl rfl (c_X7_solve l D cy hs hH hT sH sT v_tape_size v_band_walkers v_band_loads v_band_pieces v_rules_clauses v_reader_end v_reader_at v_reader_length v_reader_letter v_reader_fault v_draft_clauses v_paces_version v_packing_quicker v_packing_loads v_packing_looseCount v_marches_told v_marches_changeMinutes v_marches_marching v_marches_gone v_search_known v_search_countHere v_search_countThere v_search_cost v_search_most v_search_found f_bytes f_knee f_weight f_limps f_bheft f_owner f_food f_miles f_slope f_rsteps f_rkind f_ryields f_rholds f_rletters f_rstack f_dsteps f_dkind f_dyields f_dholds f_dletters f_dstack f_caps f_versions f_sharing f_pheft f_prow f_holder f_comes f_pcaps f_room f_loose f_reached f_mrow f_minutesOn f_mtired f_here f_there f_statesHere f_statesThere f_listed f_stired f_burdens f_pacesOn f_restedOn f_behindOn f_behindFor f_first f_second f_plans f_tiredOn tS H.size v_marches_changeMinutes (-1) (by omega) (by omega) (by omega) (by omega) (by omega) (by omega) (by omega) (by omega) hr_weight hr_limps hr_bheft hr_food hr_miles hr_statesHere hr_statesThere hr_listed hr_stired hr_pacesOn hr_restedOn hr_behindOn (by omega) (by omega) hZ) (gi_V lwd_1038 lwd_1039 lwd_1040 lwd_42 lwd_1041) ⟨rfl, hd_X7_solve⟩ ⟨Nat.le_of_ble_eq_true rfl, Nat.le_of_ble_eq_true rfl⟩ rfl (Nat.le_of_ble_eq_true rfl) dX9_best_74) (fun u_67 H locs hw hP hD hS => ?_)
              obtain ⟨zsearch_known_69, zsearch_countHere_70, zsearch_countThere_71, zsearch_cost_72, zsearch_most_73, zsearch_found_74, zrletters_75, zrstack_76, zhere_77, zthere_78, zstatesHere_79, zstatesThere_80, zlisted_81, zstired_82, zburdens_83, zpacesOn_84, zrestedOn_85, zbehindOn_86, zbehindFor_87, zhH_88, zhT_89, zsH_90, zsT_91⟩ := u_67
              try dsimp only at hw hP hD
              obtain ⟨p_92, p_93, p_94, p_95, p_96, p_97, p_98, p_99, p_100, p_101, p_102, p_103⟩ := hw
              refine lv_aload_n hx hb dX9_best_77 rfl (lv_at hl 1 rfl) ?_
              refine gt_SP_SP_search hx hb hts hown hK hP lwd_43 dX9_best_78 ?_
              refine xi hD hS hA (xV (As := []) (rest := []) hx hb hml hown hts hK hP hD hS hA NS_ok hN hAe hl.1 ⟨Nat.le_refl _, Nat.le_refl _⟩ 62 rfl rfl rfl (c_X7_minutes l D cy hs zhH_88 zhT_89 zsH_90 zsT_91 v_tape_size v_band_walkers v_band_loads v_band_pieces v_rules_clauses v_reader_end v_reader_at v_reader_length v_reader_letter v_reader_fault v_draft_clauses v_paces_version v_packing_quicker v_packing_loads v_packing_looseCount v_marches_told v_marches_changeMinutes v_marches_marching v_marches_gone zsearch_known_69 zsearch_countHere_70 zsearch_countThere_71 zsearch_cost_72 zsearch_most_73 zsearch_found_74 f_bytes f_knee f_weight f_limps f_bheft f_owner f_food f_miles f_slope f_rsteps f_rkind f_ryields f_rholds zrletters_75 zrstack_76 f_dsteps f_dkind f_dyields f_dholds f_dletters f_dstack f_caps f_versions f_sharing f_pheft f_prow f_holder f_comes f_pcaps f_room f_loose f_reached f_mrow f_minutesOn f_mtired zhere_77 zthere_78 zstatesHere_79 zstatesThere_80 zlisted_81 zstired_82 zburdens_83 zpacesOn_84 zrestedOn_85 zbehindOn_86 zbehindFor_87 f_first f_second f_plans f_tiredOn tS H.size) (gi_V lwd_1091 lwd_1092 lwd_1093 lwd_42 lwd_1094) ⟨rfl, hd_X7_minutes⟩ ⟨Nat.le_of_ble_eq_true rfl, Nat.le_of_ble_eq_true rfl⟩ rfl (Nat.le_of_ble_eq_true rfl) dX9_best_81) (fun r_105 u_104 H locs hw hP hD hS => ?_)
              try dsimp only at hw hP hD
              clear hw
              refine lv_ldc hx hb hown (hts _ lwd_778) dX9_best_84 ?_
              refine lv_icmp_ne (tgt := 92) hx hb dX9_best_86 (by decide) (fun c_106 => ?_) (fun c_106 => ?_)
              · have gc_106 : r_105.toInt ≠ 1000000000 := i_ne (rfl : r_105.toInt = r_105.toInt) (by decide : (1000000000 : Int32).toInt = 1000000000) c_106
                refine lv_iload_n hx hb dX9_best_92 rfl (lv_at hl 2 rfl) ?_
                refine lv_iconst (v := (-1)) hx hb dX9_best_93 (by decide) ?_
                refine lv_icmp_ne (tgt := 107) hx hb dX9_best_94 (by decide) (fun c_107 => ?_) (fun c_107 => ?_)
                · have gc_107 : what.toInt ≠ (-1) := i_ne (rfl : what.toInt = what.toInt) (by decide : ((-1) : Int32).toInt = (-1)) c_107
                  refine lv_aload_n hx hb dX9_best_107 rfl (lv_at hl 1 rfl) ?_
                  refine gt_SP_SP_search hx hb hts hown hK hP lwd_43 dX9_best_108 ?_
                  refine lv_iload_n hx hb dX9_best_111 rfl (lv_at hl 2 rfl) ?_
                  refine xi hD hS hA (xV (As := [.int what]) (rest := []) hx hb hml hown hts hK hP hD hS hA NS_ok hN hAe hl.1 ⟨Nat.le_refl _, Nat.le_refl _⟩ 62 rfl rfl rfl (c_X7_signAt l D cy hs zhH_88 zhT_89 zsH_90 zsT_91 v_tape_size v_band_walkers v_band_loads v_band_pieces v_rules_clauses v_reader_end v_reader_at v_reader_length v_reader_letter v_reader_fault v_draft_clauses v_paces_version v_packing_quicker v_packing_loads v_packing_looseCount v_marches_told v_marches_changeMinutes v_marches_marching v_marches_gone zsearch_known_69 zsearch_countHere_70 zsearch_countThere_71 zsearch_cost_72 zsearch_most_73 zsearch_found_74 f_bytes f_knee f_weight f_limps f_bheft f_owner f_food f_miles f_slope f_rsteps f_rkind f_ryields f_rholds zrletters_75 zrstack_76 f_dsteps f_dkind f_dyields f_dholds f_dletters f_dstack f_caps f_versions f_sharing f_pheft f_prow f_holder f_comes f_pcaps f_room f_loose f_reached f_mrow f_minutesOn f_mtired zhere_77 zthere_78 zstatesHere_79 zstatesThere_80 zlisted_81 zstired_82 zburdens_83 zpacesOn_84 zrestedOn_85 zbehindOn_86 zbehindFor_87 f_first f_second f_plans f_tiredOn tS H.size what (by omega)) (gi_V lwd_1096 lwd_1097 lwd_1098 lwd_42 lwd_1099) ⟨rfl, hd_X7_signAt⟩ ⟨Nat.le_of_ble_eq_true rfl, Nat.le_of_ble_eq_true rfl⟩ rfl (Nat.le_of_ble_eq_true rfl) dX9_best_112) (fun r_109 u_108 H locs hw hP hD hS => ?_)
                  try dsimp only at hw hP hD
                  clear hw
                  exact hrt r_109 zsearch_known_69 zsearch_countHere_70 zsearch_countThere_71 zsearch_cost_72 zsearch_most_73 zsearch_found_74 zrletters_75 zrstack_76 zhere_77 zthere_78 zstatesHere_79 zstatesThere_80 zlisted_81 zstired_82 zburdens_83 zpacesOn_84 zrestedOn_85 zbehindOn_86 zbehindFor_87 zhH_88 zhT_89 zsH_90 zsT_91 ⟨p_92, (by omega), (by omega), (by omega), (by omega), p_97, p_98, p_99, p_100, p_101, p_102, p_103⟩ hP hD hS rfl dX9_best_115
                · have gc_107 : what.toInt = (-1) := i_eq (rfl : what.toInt = what.toInt) (by decide : ((-1) : Int32).toInt = (-1)) c_107
                  exact absurd gc_107 (by omega)
              · have gc_106 : r_105.toInt = 1000000000 := i_eq (rfl : r_105.toInt = r_105.toInt) (by decide : (1000000000 : Int32).toInt = 1000000000) c_106
                refine lv_bipush (v := (-2)) hx hb dX9_best_89 (by decide) ?_
                have k_110 : ((-2) : Int32).toInt = (-2) := by decide
                exact hrt (-2) zsearch_known_69 zsearch_countHere_70 zsearch_countThere_71 zsearch_cost_72 zsearch_most_73 zsearch_found_74 zrletters_75 zrstack_76 zhere_77 zthere_78 zstatesHere_79 zstatesThere_80 zlisted_81 zstired_82 zburdens_83 zpacesOn_84 zrestedOn_85 zbehindOn_86 zbehindFor_87 zhH_88 zhT_89 zsH_90 zsT_91 ⟨p_92, (by omega), (by omega), (by omega), (by omega), p_97, p_98, p_99, p_100, p_101, p_102, p_103⟩ hP hD hS rfl dX9_best_91
            · have gc_65 : 4 < v_band_walkers.toInt := i_nle (rfl : v_band_walkers.toInt = v_band_walkers.toInt) (by decide : (4 : Int32).toInt = 4) c_65
              refine lv_bipush (v := (-2)) hx hb dX9_best_59 (by decide) ?_
              have k_111 : ((-2) : Int32).toInt = (-2) := by decide
              exact hrt (-2) v_search_known v_search_countHere v_search_countThere v_search_cost v_search_most v_search_found f_rletters f_rstack f_here f_there f_statesHere f_statesThere f_listed f_stired f_burdens f_pacesOn f_restedOn f_behindOn f_behindFor hH hT sH sT ⟨hZ, (by omega), (by omega), (by omega), (by omega), hr_statesHere, hr_statesThere, hr_listed, hr_stired, hr_pacesOn, hr_restedOn, hr_behindOn⟩ hP hD hS rfl dX9_best_61
          · have gc_64 : v_band_pieces.toInt = 0 := i_eq (rfl : v_band_pieces.toInt = v_band_pieces.toInt) (by decide : (0 : Int32).toInt = 0) c_64
            refine lv_iconst (v := (-1)) hx hb dX9_best_46 (by decide) ?_
            have k_112 : ((-1) : Int32).toInt = (-1) := by decide
            exact hrt (-1) v_search_known v_search_countHere v_search_countThere v_search_cost v_search_most v_search_found f_rletters f_rstack f_here f_there f_statesHere f_statesThere f_listed f_stired f_burdens f_pacesOn f_restedOn f_behindOn f_behindFor hH hT sH sT ⟨hZ, (by omega), (by omega), (by omega), (by omega), hr_statesHere, hr_statesThere, hr_listed, hr_stired, hr_pacesOn, hr_restedOn, hr_behindOn⟩ hP hD hS rfl dX9_best_47
set_option maxHeartbeats 16000000 in
set_option maxRecDepth 100000 in
theorem c_X9_often (l : Launch) (D : va_G) (cy : Nat → ClassId) (hs : Nat → Nat) (hH hT sH sT : Nat) (v_tape_size v_band_walkers v_band_loads v_band_pieces v_rules_clauses v_reader_end v_reader_at v_reader_length v_reader_letter v_reader_fault v_draft_clauses v_paces_version v_packing_quicker v_packing_loads v_packing_looseCount v_marches_told v_marches_changeMinutes v_marches_marching v_marches_gone v_search_known v_search_countHere v_search_countThere v_search_cost v_search_most : Int32) (v_search_found : Int64) (f_bytes f_knee f_weight f_limps f_bheft f_owner f_food f_miles f_slope f_rsteps f_rkind f_ryields f_rholds f_rletters f_rstack f_dsteps f_dkind f_dyields f_dholds f_dletters f_dstack f_caps f_versions f_sharing f_pheft f_prow f_holder f_comes f_pcaps f_room f_loose f_reached f_mrow f_minutesOn f_mtired : Nat → Int32) (f_here f_there : Nat → Int64) (f_statesHere f_statesThere f_listed f_stired f_burdens f_pacesOn f_restedOn f_behindOn f_behindFor f_first f_second : Nat → Int32) (f_plans f_tiredOn : Nat → Nat → Int32) (tS : Nat) (sz : Nat) (n1 : Int32) (hb_v_band_walkers : 0 ≤ v_band_walkers.toInt ∧ v_band_walkers.toInt ≤ 6) (hb_v_band_loads : 0 ≤ v_band_loads.toInt ∧ v_band_loads.toInt ≤ 9) (hb_v_band_pieces : 0 ≤ v_band_pieces.toInt ∧ v_band_pieces.toInt ≤ 10) (hb_v_rules_clauses : 0 ≤ v_rules_clauses.toInt ∧ v_rules_clauses.toInt ≤ 14) (hb_v_search_known : 0 ≤ v_search_known.toInt ∧ v_search_known.toInt ≤ 1) (hb_v_search_countHere : 0 ≤ v_search_countHere.toInt ∧ v_search_countHere.toInt ≤ 1296) (hb_v_search_countThere : 0 ≤ v_search_countThere.toInt ∧ v_search_countThere.toInt ≤ 1296) (hb_v_search_most : -1 ≤ v_search_most.toInt ∧ v_search_most.toInt ≤ 3) (hr_weight : rg (0) 250 f_weight) (hr_limps : rg (0) 1 f_limps) (hr_bheft : rg (0) 120 f_bheft) (hr_food : rg (0) 20 f_food) (hr_miles : rg (0) 20 f_miles) (hr_statesHere : rg (0) 1295 f_statesHere) (hr_statesThere : rg (0) 1295 f_statesThere) (hr_listed : rg (0) 1 f_listed) (hr_stired : rg (0) 5 f_stired) (hr_pacesOn : rg (-1) 60 f_pacesOn) (hr_restedOn : rg (-1) 5 f_restedOn) (hr_behindOn : rg (0) 5 f_behindOn) (hZ : ∀ b : Nat, b < 1296 → (f_listed b).toInt = 0) : gMi l yX9_often cX9_often 2 .int 7 [.ref (hs 0), .int n1] D cy (wSP cy hs hH hT sH sT v_tape_size v_band_walkers v_band_loads v_band_pieces v_rules_clauses v_reader_end v_reader_at v_reader_length v_reader_letter v_reader_fault v_draft_clauses v_paces_version v_packing_quicker v_packing_loads v_packing_looseCount v_marches_told v_marches_changeMinutes v_marches_marching v_marches_gone v_search_known v_search_countHere v_search_countThere v_search_cost v_search_most v_search_found f_bytes f_knee f_weight f_limps f_bheft f_owner f_food f_miles f_slope f_rsteps f_rkind f_ryields f_rholds f_rletters f_rstack f_dsteps f_dkind f_dyields f_dholds f_dletters f_dstack f_caps f_versions f_sharing f_pheft f_prow f_holder f_comes f_pcaps f_room f_loose f_reached f_mrow f_minutesOn f_mtired f_here f_there f_statesHere f_statesThere f_listed f_stired f_burdens f_pacesOn f_restedOn f_behindOn f_behindFor f_first f_second f_plans f_tiredOn) (NS tS) sz (fun (r : Int32) (u : Int32 × Int32 × Int32 × Int32 × Int32 × Int64 × (Nat → Int32) × (Nat → Int32) × (Nat → Int64) × (Nat → Int64) × (Nat → Int32) × (Nat → Int32) × (Nat → Int32) × (Nat → Int32) × (Nat → Int32) × (Nat → Int32) × (Nat → Int32) × (Nat → Int32) × (Nat → Int32) × Nat × Nat × Nat × Nat) => (∀ b : Nat, b < 1296 → ((u.2.2.2.2.2.2.2.2.2.2.2.2.1) b).toInt = 0) ∧ (0 ≤ (u.1).toInt ∧ (u.1).toInt ≤ 1) ∧ (0 ≤ (u.2.1).toInt ∧ (u.2.1).toInt ≤ 1296) ∧ (0 ≤ (u.2.2.1).toInt ∧ (u.2.2.1).toInt ≤ 1296) ∧ (-1 ≤ (u.2.2.2.2.1).toInt ∧ (u.2.2.2.2.1).toInt ≤ 3) ∧ (rg (0) 1295 (u.2.2.2.2.2.2.2.2.2.2.1)) ∧ (rg (0) 1295 (u.2.2.2.2.2.2.2.2.2.2.2.1)) ∧ (rg (0) 1 (u.2.2.2.2.2.2.2.2.2.2.2.2.1)) ∧ (rg (0) 5 (u.2.2.2.2.2.2.2.2.2.2.2.2.2.1)) ∧ (rg (-1) 60 (u.2.2.2.2.2.2.2.2.2.2.2.2.2.2.2.1)) ∧ (rg (-1) 5 (u.2.2.2.2.2.2.2.2.2.2.2.2.2.2.2.2.1)) ∧ (rg (0) 5 (u.2.2.2.2.2.2.2.2.2.2.2.2.2.2.2.2.2.1))) (fun u => wSP cy hs (u.2.2.2.2.2.2.2.2.2.2.2.2.2.2.2.2.2.2.2.1) (u.2.2.2.2.2.2.2.2.2.2.2.2.2.2.2.2.2.2.2.2.1) (u.2.2.2.2.2.2.2.2.2.2.2.2.2.2.2.2.2.2.2.2.2.1) (u.2.2.2.2.2.2.2.2.2.2.2.2.2.2.2.2.2.2.2.2.2.2) v_tape_size v_band_walkers v_band_loads v_band_pieces v_rules_clauses v_reader_end v_reader_at v_reader_length v_reader_letter v_reader_fault v_draft_clauses v_paces_version v_packing_quicker v_packing_loads v_packing_looseCount v_marches_told v_marches_changeMinutes v_marches_marching v_marches_gone (u.1) (u.2.1) (u.2.2.1) (u.2.2.2.1) (u.2.2.2.2.1) (u.2.2.2.2.2.1) f_bytes f_knee f_weight f_limps f_bheft f_owner f_food f_miles f_slope f_rsteps f_rkind f_ryields f_rholds (u.2.2.2.2.2.2.1) (u.2.2.2.2.2.2.2.1) f_dsteps f_dkind f_dyields f_dholds f_dletters f_dstack f_caps f_versions f_sharing f_pheft f_prow f_holder f_comes f_pcaps f_room f_loose f_reached f_mrow f_minutesOn f_mtired (u.2.2.2.2.2.2.2.2.1) (u.2.2.2.2.2.2.2.2.2.1) (u.2.2.2.2.2.2.2.2.2.2.1) (u.2.2.2.2.2.2.2.2.2.2.2.1) (u.2.2.2.2.2.2.2.2.2.2.2.2.1) (u.2.2.2.2.2.2.2.2.2.2.2.2.2.1) (u.2.2.2.2.2.2.2.2.2.2.2.2.2.2.1) (u.2.2.2.2.2.2.2.2.2.2.2.2.2.2.2.1) (u.2.2.2.2.2.2.2.2.2.2.2.2.2.2.2.2.1) (u.2.2.2.2.2.2.2.2.2.2.2.2.2.2.2.2.2.1) (u.2.2.2.2.2.2.2.2.2.2.2.2.2.2.2.2.2.2.1) f_first f_second f_plans f_tiredOn) := by
  refine gMi_in (by decide) (Nat.le_of_ble_eq_true rfl) ?_
  intro p e s m args below meth c A ls Q hx hb hml hts hown hsz hP hK hD hN hAe hA hS hl hret
  subst hsz
  have hl : lv_has ls 2 [(0, .ref (hs 0)), (1, .int n1)] := hl
  have hrt := fun (r : Int32) (v_search_known' : Int32) (v_search_countHere' : Int32) (v_search_countThere' : Int32) (v_search_cost' : Int32) (v_search_most' : Int32) (v_search_found' : Int64) (f_rletters' : Nat → Int32) (f_rstack' : Nat → Int32) (f_here' : Nat → Int64) (f_there' : Nat → Int64) (f_statesHere' : Nat → Int32) (f_statesThere' : Nat → Int32) (f_listed' : Nat → Int32) (f_stired' : Nat → Int32) (f_burdens' : Nat → Int32) (f_pacesOn' : Nat → Int32) (f_restedOn' : Nat → Int32) (f_behindOn' : Nat → Int32) (f_behindFor' : Nat → Int32) (hH' : Nat) (hT' : Nat) (sH' : Nat) (sT' : Nat) (hp : (∀ b : Nat, b < 1296 → (f_listed' b).toInt = 0) ∧ (0 ≤ v_search_known'.toInt ∧ v_search_known'.toInt ≤ 1) ∧ (0 ≤ v_search_countHere'.toInt ∧ v_search_countHere'.toInt ≤ 1296) ∧ (0 ≤ v_search_countThere'.toInt ∧ v_search_countThere'.toInt ≤ 1296) ∧ (-1 ≤ v_search_most'.toInt ∧ v_search_most'.toInt ≤ 3) ∧ (rg (0) 1295 f_statesHere') ∧ (rg (0) 1295 f_statesThere') ∧ (rg (0) 1 f_listed') ∧ (rg (0) 5 f_stired') ∧ (rg (-1) 60 f_pacesOn') ∧ (rg (-1) 5 f_restedOn') ∧ (rg (0) 5 f_behindOn')) {H : Heap} {locs : List Loc} {pc : Nat} {ls : Array Slot} => hret r (v_search_known', v_search_countHere', v_search_countThere', v_search_cost', v_search_most', v_search_found', f_rletters', f_rstack', f_here', f_there', f_statesHere', f_statesThere', f_listed', f_stired', f_burdens', f_pacesOn', f_restedOn', f_behindOn', f_behindFor', hH', hT', sH', sT') (H := H) (locs := locs) (pc := pc) (ls := ls) hp
  clear hret
  skip
  refine lv_iload_n hx hb dX9_often_0 rfl (lv_at hl 1 rfl) ?_
  refine lv_if_lt (tgt := 29) hx hb dX9_often_1 (by decide) (fun c_1 => ?_) (fun c_1 => ?_)
  · have gc_1 : n1.toInt < 0 := i_lt (rfl : n1.toInt = n1.toInt) (by decide : (0 : Int32).toInt = 0) c_1
    refine lv_iconst (v := (-1)) hx hb dX9_often_29 (by decide) ?_
    have k_2 : ((-1) : Int32).toInt = (-1) := by decide
    exact hrt (-1) v_search_known v_search_countHere v_search_countThere v_search_cost v_search_most v_search_found f_rletters f_rstack f_here f_there f_statesHere f_statesThere f_listed f_stired f_burdens f_pacesOn f_restedOn f_behindOn f_behindFor hH hT sH sT ⟨hZ, (by omega), (by omega), (by omega), (by omega), hr_statesHere, hr_statesThere, hr_listed, hr_stired, hr_pacesOn, hr_restedOn, hr_behindOn⟩ hP hD hS rfl dX9_often_30
  · have gc_1 : 0 ≤ n1.toInt := i_nlt (rfl : n1.toInt = n1.toInt) (by decide : (0 : Int32).toInt = 0) c_1
    refine lv_iload_n hx hb dX9_often_4 rfl (lv_at hl 1 rfl) ?_
    refine lv_iconst (v := 3) hx hb dX9_often_5 (by decide) ?_
    refine lv_icmp_gt (tgt := 29) hx hb dX9_often_6 (by decide) (fun c_3 => ?_) (fun c_3 => ?_)
    · have gc_3 : 3 < n1.toInt := i_lt (by decide : (3 : Int32).toInt = 3) (rfl : n1.toInt = n1.toInt) c_3
      refine lv_iconst (v := (-1)) hx hb dX9_often_29 (by decide) ?_
      have k_4 : ((-1) : Int32).toInt = (-1) := by decide
      exact hrt (-1) v_search_known v_search_countHere v_search_countThere v_search_cost v_search_most v_search_found f_rletters f_rstack f_here f_there f_statesHere f_statesThere f_listed f_stired f_burdens f_pacesOn f_restedOn f_behindOn f_behindFor hH hT sH sT ⟨hZ, (by omega), (by omega), (by omega), (by omega), hr_statesHere, hr_statesThere, hr_listed, hr_stired, hr_pacesOn, hr_restedOn, hr_behindOn⟩ hP hD hS rfl dX9_often_30
    · have gc_3 : n1.toInt ≤ 3 := i_nlt (by decide : (3 : Int32).toInt = 3) (rfl : n1.toInt = n1.toInt) c_3
      refine lv_aload_n hx hb dX9_often_9 rfl (lv_at hl 0 rfl) ?_
      refine gt_SP_SP_band hx hb hts hown hK hP lwd_19 dX9_often_10 ?_
      refine gt_SP_band_walkers hx hb hts hown hK hP lwd_206 dX9_often_13 ?_
      refine lv_if_eq (tgt := 29) hx hb dX9_often_16 (by decide) (fun c_5 => ?_) (fun c_5 => ?_)
      · have gc_5 : v_band_walkers.toInt = 0 := i_eq (rfl : v_band_walkers.toInt = v_band_walkers.toInt) (by decide : (0 : Int32).toInt = 0) c_5
        refine lv_iconst (v := (-1)) hx hb dX9_often_29 (by decide) ?_
        have k_6 : ((-1) : Int32).toInt = (-1) := by decide
        exact hrt (-1) v_search_known v_search_countHere v_search_countThere v_search_cost v_search_most v_search_found f_rletters f_rstack f_here f_there f_statesHere f_statesThere f_listed f_stired f_burdens f_pacesOn f_restedOn f_behindOn f_behindFor hH hT sH sT ⟨hZ, (by omega), (by omega), (by omega), (by omega), hr_statesHere, hr_statesThere, hr_listed, hr_stired, hr_pacesOn, hr_restedOn, hr_behindOn⟩ hP hD hS rfl dX9_often_30
      · have gc_5 : v_band_walkers.toInt ≠ 0 := i_ne (rfl : v_band_walkers.toInt = v_band_walkers.toInt) (by decide : (0 : Int32).toInt = 0) c_5
        refine lv_aload_n hx hb dX9_often_19 rfl (lv_at hl 0 rfl) ?_
        refine gt_SP_SP_band hx hb hts hown hK hP lwd_19 dX9_often_20 ?_
        refine gt_SP_band_pieces hx hb hts hown hK hP lwd_258 dX9_often_23 ?_
        refine lv_if_ne (tgt := 31) hx hb dX9_often_26 (by decide) (fun c_7 => ?_) (fun c_7 => ?_)
        · have gc_7 : v_band_pieces.toInt ≠ 0 := i_ne (rfl : v_band_pieces.toInt = v_band_pieces.toInt) (by decide : (0 : Int32).toInt = 0) c_7
          refine lv_aload_n hx hb dX9_often_31 rfl (lv_at hl 0 rfl) ?_
          refine gt_SP_SP_band hx hb hts hown hK hP lwd_19 dX9_often_32 ?_
          refine gt_SP_band_walkers hx hb hts hown hK hP lwd_206 dX9_often_35 ?_
          refine lv_iconst (v := 4) hx hb dX9_often_38 (by decide) ?_
          refine lv_icmp_le (tgt := 45) hx hb dX9_often_39 (by decide) (fun c_8 => ?_) (fun c_8 => ?_)
          · have gc_8 : v_band_walkers.toInt ≤ 4 := i_le (rfl : v_band_walkers.toInt = v_band_walkers.toInt) (by decide : (4 : Int32).toInt = 4) c_8
            refine lv_aload_n hx hb dX9_often_45 rfl (lv_at hl 0 rfl) ?_
            refine gt_SP_SP_search hx hb hts hown hK hP lwd_43 dX9_often_46 ?_
            refine lv_aload_n hx hb dX9_often_49 rfl (lv_at hl 0 rfl) ?_
            refine gt_SP_SP_marches hx hb hts hown hK hP lwd_39 dX9_often_50 ?_
            refine gt_SP_marches_changeMinutes hx hb hts hown hK hP lwd_279 dX9_often_53 ?_
            refine lv_iload_n hx hb dX9_often_56 rfl (lv_at hl 1 rfl) ?_
            refine xv hD hS hA (xV (As := [.int v_marches_changeMinutes, .int n1]) (rest := []) hx hb hml hown hts hK hP hD hS hA NS_ok hN hAe hl.1 ⟨Nat.le_refl _, Nat.le_refl _⟩ 62 rfl rfl rfl (c_X7_solve l D cy hs hH hT sH sT v_tape_size v_band_walkers v_band_loads v_band_pieces v_rules_clauses v_reader_end v_reader_at v_reader_length v_reader_letter v_reader_fault v_draft_clauses v_paces_version v_packing_quicker v_packing_loads v_packing_looseCount v_marches_told v_marches_changeMinutes v_marches_marching v_marches_gone v_search_known v_search_countHere v_search_countThere v_search_cost v_search_most v_search_found f_bytes f_knee f_weight f_limps f_bheft f_owner f_food f_miles f_slope f_rsteps f_rkind f_ryields f_rholds f_rletters f_rstack f_dsteps f_dkind f_dyields f_dholds f_dletters f_dstack f_caps f_versions f_sharing f_pheft f_prow f_holder f_comes f_pcaps f_room f_loose f_reached f_mrow f_minutesOn f_mtired f_here f_there f_statesHere f_statesThere f_listed f_stired f_burdens f_pacesOn f_restedOn f_behindOn f_behindFor f_first f_second f_plans f_tiredOn tS s.heap.size v_marches_changeMinutes n1 (by omega) (by omega) (by omega) (by omega) (by omega) (by omega) (by omega) (by omega) hr_weight hr_limps hr_bheft hr_food hr_miles hr_statesHere hr_statesThere hr_listed hr_stired hr_pacesOn hr_restedOn hr_behindOn (by omega) (by omega) hZ) (gi_V lwd_1038 lwd_1039 lwd_1040 lwd_42 lwd_1041) ⟨rfl, hd_X7_solve⟩ ⟨Nat.le_of_ble_eq_true rfl, Nat.le_of_ble_eq_true rfl⟩ rfl (Nat.le_of_ble_eq_true rfl) dX9_often_57) (fun u_9 H locs hw hP hD hS => ?_)
            obtain ⟨zsearch_known_11, zsearch_countHere_12, zsearch_countThere_13, zsearch_cost_14, zsearch_most_15, zsearch_found_16, zrletters_17, zrstack_18, zhere_19, zthere_20, zstatesHere_21, zstatesThere_22, zlisted_23, zstired_24, zburdens_25, zpacesOn_26, zrestedOn_27, zbehindOn_28, zbehindFor_29, zhH_30, zhT_31, zsH_32, zsT_33⟩ := u_9
            try dsimp only at hw hP hD
            obtain ⟨p_34, p_35, p_36, p_37, p_38, p_39, p_40, p_41, p_42, p_43, p_44, p_45⟩ := hw
            refine lv_aload_n hx hb dX9_often_60 rfl (lv_at hl 0 rfl) ?_
            refine gt_SP_SP_search hx hb hts hown hK hP lwd_43 dX9_often_61 ?_
            refine xi hD hS hA (xV (As := []) (rest := []) hx hb hml hown hts hK hP hD hS hA NS_ok hN hAe hl.1 ⟨Nat.le_refl _, Nat.le_refl _⟩ 62 rfl rfl rfl (c_X7_minutes l D cy hs zhH_30 zhT_31 zsH_32 zsT_33 v_tape_size v_band_walkers v_band_loads v_band_pieces v_rules_clauses v_reader_end v_reader_at v_reader_length v_reader_letter v_reader_fault v_draft_clauses v_paces_version v_packing_quicker v_packing_loads v_packing_looseCount v_marches_told v_marches_changeMinutes v_marches_marching v_marches_gone zsearch_known_11 zsearch_countHere_12 zsearch_countThere_13 zsearch_cost_14 zsearch_most_15 zsearch_found_16 f_bytes f_knee f_weight f_limps f_bheft f_owner f_food f_miles f_slope f_rsteps f_rkind f_ryields f_rholds zrletters_17 zrstack_18 f_dsteps f_dkind f_dyields f_dholds f_dletters f_dstack f_caps f_versions f_sharing f_pheft f_prow f_holder f_comes f_pcaps f_room f_loose f_reached f_mrow f_minutesOn f_mtired zhere_19 zthere_20 zstatesHere_21 zstatesThere_22 zlisted_23 zstired_24 zburdens_25 zpacesOn_26 zrestedOn_27 zbehindOn_28 zbehindFor_29 f_first f_second f_plans f_tiredOn tS H.size) (gi_V lwd_1091 lwd_1092 lwd_1093 lwd_42 lwd_1094) ⟨rfl, hd_X7_minutes⟩ ⟨Nat.le_of_ble_eq_true rfl, Nat.le_of_ble_eq_true rfl⟩ rfl (Nat.le_of_ble_eq_true rfl) dX9_often_64) (fun r_47 u_46 H locs hw hP hD hS => ?_)
            try dsimp only at hw hP hD
            clear hw
            refine lv_ldc hx hb hown (hts _ lwd_778) dX9_often_67 ?_
            refine lv_icmp_ne (tgt := 77) hx hb dX9_often_69 (by decide) (fun c_48 => ?_) (fun c_48 => ?_)
            · have gc_48 : r_47.toInt ≠ 1000000000 := i_ne (rfl : r_47.toInt = r_47.toInt) (by decide : (1000000000 : Int32).toInt = 1000000000) c_48
              refine lv_aload_n hx hb dX9_often_77 rfl (lv_at hl 0 rfl) ?_
              refine gt_SP_SP_search hx hb hts hown hK hP lwd_43 dX9_often_78 ?_
              refine xi hD hS hA (xV (As := []) (rest := []) hx hb hml hown hts hK hP hD hS hA NS_ok hN hAe hl.1 ⟨Nat.le_refl _, Nat.le_refl _⟩ 62 rfl rfl rfl (c_X7_minutes l D cy hs zhH_30 zhT_31 zsH_32 zsT_33 v_tape_size v_band_walkers v_band_loads v_band_pieces v_rules_clauses v_reader_end v_reader_at v_reader_length v_reader_letter v_reader_fault v_draft_clauses v_paces_version v_packing_quicker v_packing_loads v_packing_looseCount v_marches_told v_marches_changeMinutes v_marches_marching v_marches_gone zsearch_known_11 zsearch_countHere_12 zsearch_countThere_13 zsearch_cost_14 zsearch_most_15 zsearch_found_16 f_bytes f_knee f_weight f_limps f_bheft f_owner f_food f_miles f_slope f_rsteps f_rkind f_ryields f_rholds zrletters_17 zrstack_18 f_dsteps f_dkind f_dyields f_dholds f_dletters f_dstack f_caps f_versions f_sharing f_pheft f_prow f_holder f_comes f_pcaps f_room f_loose f_reached f_mrow f_minutesOn f_mtired zhere_19 zthere_20 zstatesHere_21 zstatesThere_22 zlisted_23 zstired_24 zburdens_25 zpacesOn_26 zrestedOn_27 zbehindOn_28 zbehindFor_29 f_first f_second f_plans f_tiredOn tS H.size) (gi_V lwd_1091 lwd_1092 lwd_1093 lwd_42 lwd_1094) ⟨rfl, hd_X7_minutes⟩ ⟨Nat.le_of_ble_eq_true rfl, Nat.le_of_ble_eq_true rfl⟩ rfl (Nat.le_of_ble_eq_true rfl) dX9_often_81) (fun r_50 u_49 H locs hw hP hD hS => ?_)
              try dsimp only at hw hP hD
              clear hw
              exact hrt r_50 zsearch_known_11 zsearch_countHere_12 zsearch_countThere_13 zsearch_cost_14 zsearch_most_15 zsearch_found_16 zrletters_17 zrstack_18 zhere_19 zthere_20 zstatesHere_21 zstatesThere_22 zlisted_23 zstired_24 zburdens_25 zpacesOn_26 zrestedOn_27 zbehindOn_28 zbehindFor_29 zhH_30 zhT_31 zsH_32 zsT_33 ⟨p_34, (by omega), (by omega), (by omega), (by omega), p_39, p_40, p_41, p_42, p_43, p_44, p_45⟩ hP hD hS rfl dX9_often_84
            · have gc_48 : r_47.toInt = 1000000000 := i_eq (rfl : r_47.toInt = r_47.toInt) (by decide : (1000000000 : Int32).toInt = 1000000000) c_48
              refine lv_bipush (v := (-2)) hx hb dX9_often_72 (by decide) ?_
              refine lv_goto (tgt := 84) hx hb dX9_often_74 (by decide) ?_
              have k_51 : ((-2) : Int32).toInt = (-2) := by decide
              exact hrt (-2) zsearch_known_11 zsearch_countHere_12 zsearch_countThere_13 zsearch_cost_14 zsearch_most_15 zsearch_found_16 zrletters_17 zrstack_18 zhere_19 zthere_20 zstatesHere_21 zstatesThere_22 zlisted_23 zstired_24 zburdens_25 zpacesOn_26 zrestedOn_27 zbehindOn_28 zbehindFor_29 zhH_30 zhT_31 zsH_32 zsT_33 ⟨p_34, (by omega), (by omega), (by omega), (by omega), p_39, p_40, p_41, p_42, p_43, p_44, p_45⟩ hP hD hS rfl dX9_often_84
          · have gc_8 : 4 < v_band_walkers.toInt := i_nle (rfl : v_band_walkers.toInt = v_band_walkers.toInt) (by decide : (4 : Int32).toInt = 4) c_8
            refine lv_bipush (v := (-2)) hx hb dX9_often_42 (by decide) ?_
            have k_52 : ((-2) : Int32).toInt = (-2) := by decide
            exact hrt (-2) v_search_known v_search_countHere v_search_countThere v_search_cost v_search_most v_search_found f_rletters f_rstack f_here f_there f_statesHere f_statesThere f_listed f_stired f_burdens f_pacesOn f_restedOn f_behindOn f_behindFor hH hT sH sT ⟨hZ, (by omega), (by omega), (by omega), (by omega), hr_statesHere, hr_statesThere, hr_listed, hr_stired, hr_pacesOn, hr_restedOn, hr_behindOn⟩ hP hD hS rfl dX9_often_44
        · have gc_7 : v_band_pieces.toInt = 0 := i_eq (rfl : v_band_pieces.toInt = v_band_pieces.toInt) (by decide : (0 : Int32).toInt = 0) c_7
          refine lv_iconst (v := (-1)) hx hb dX9_often_29 (by decide) ?_
          have k_53 : ((-1) : Int32).toInt = (-1) := by decide
          exact hrt (-1) v_search_known v_search_countHere v_search_countThere v_search_cost v_search_most v_search_found f_rletters f_rstack f_here f_there f_statesHere f_statesThere f_listed f_stired f_burdens f_pacesOn f_restedOn f_behindOn f_behindFor hH hT sH sT ⟨hZ, (by omega), (by omega), (by omega), (by omega), hr_statesHere, hr_statesThere, hr_listed, hr_stired, hr_pacesOn, hr_restedOn, hr_behindOn⟩ hP hD hS rfl dX9_often_30
set_option maxHeartbeats 16000000 in
set_option maxRecDepth 100000 in
theorem c_X9_edge (l : Launch) (D : va_G) (cy : Nat → ClassId) (hs : Nat → Nat) (hH hT sH sT : Nat) (v_tape_size v_band_walkers v_band_loads v_band_pieces v_rules_clauses v_reader_end v_reader_at v_reader_length v_reader_letter v_reader_fault v_draft_clauses v_paces_version v_packing_quicker v_packing_loads v_packing_looseCount v_marches_told v_marches_changeMinutes v_marches_marching v_marches_gone v_search_known v_search_countHere v_search_countThere v_search_cost v_search_most : Int32) (v_search_found : Int64) (f_bytes f_knee f_weight f_limps f_bheft f_owner f_food f_miles f_slope f_rsteps f_rkind f_ryields f_rholds f_rletters f_rstack f_dsteps f_dkind f_dyields f_dholds f_dletters f_dstack f_caps f_versions f_sharing f_pheft f_prow f_holder f_comes f_pcaps f_room f_loose f_reached f_mrow f_minutesOn f_mtired : Nat → Int32) (f_here f_there : Nat → Int64) (f_statesHere f_statesThere f_listed f_stired f_burdens f_pacesOn f_restedOn f_behindOn f_behindFor f_first f_second : Nat → Int32) (f_plans f_tiredOn : Nat → Nat → Int32) (tS : Nat) (sz : Nat) (hb_v_band_walkers : 0 ≤ v_band_walkers.toInt ∧ v_band_walkers.toInt ≤ 6) (hb_v_band_loads : 0 ≤ v_band_loads.toInt ∧ v_band_loads.toInt ≤ 9) (hb_v_band_pieces : 0 ≤ v_band_pieces.toInt ∧ v_band_pieces.toInt ≤ 10) (hb_v_rules_clauses : 0 ≤ v_rules_clauses.toInt ∧ v_rules_clauses.toInt ≤ 14) (hb_v_search_known : 0 ≤ v_search_known.toInt ∧ v_search_known.toInt ≤ 1) (hb_v_search_countHere : 0 ≤ v_search_countHere.toInt ∧ v_search_countHere.toInt ≤ 1296) (hb_v_search_countThere : 0 ≤ v_search_countThere.toInt ∧ v_search_countThere.toInt ≤ 1296) (hb_v_search_most : -1 ≤ v_search_most.toInt ∧ v_search_most.toInt ≤ 3) (hr_weight : rg (0) 250 f_weight) (hr_limps : rg (0) 1 f_limps) (hr_bheft : rg (0) 120 f_bheft) (hr_food : rg (0) 20 f_food) (hr_miles : rg (0) 20 f_miles) (hr_statesHere : rg (0) 1295 f_statesHere) (hr_statesThere : rg (0) 1295 f_statesThere) (hr_listed : rg (0) 1 f_listed) (hr_stired : rg (0) 5 f_stired) (hr_pacesOn : rg (-1) 60 f_pacesOn) (hr_restedOn : rg (-1) 5 f_restedOn) (hr_behindOn : rg (0) 5 f_behindOn) (hZ : ∀ b : Nat, b < 1296 → (f_listed b).toInt = 0) : gMi l yX9_edge cX9_edge 6 .int 7 [.ref (hs 0)] D cy (wSP cy hs hH hT sH sT v_tape_size v_band_walkers v_band_loads v_band_pieces v_rules_clauses v_reader_end v_reader_at v_reader_length v_reader_letter v_reader_fault v_draft_clauses v_paces_version v_packing_quicker v_packing_loads v_packing_looseCount v_marches_told v_marches_changeMinutes v_marches_marching v_marches_gone v_search_known v_search_countHere v_search_countThere v_search_cost v_search_most v_search_found f_bytes f_knee f_weight f_limps f_bheft f_owner f_food f_miles f_slope f_rsteps f_rkind f_ryields f_rholds f_rletters f_rstack f_dsteps f_dkind f_dyields f_dholds f_dletters f_dstack f_caps f_versions f_sharing f_pheft f_prow f_holder f_comes f_pcaps f_room f_loose f_reached f_mrow f_minutesOn f_mtired f_here f_there f_statesHere f_statesThere f_listed f_stired f_burdens f_pacesOn f_restedOn f_behindOn f_behindFor f_first f_second f_plans f_tiredOn) (NS tS) sz (fun (r : Int32) (u : Int32 × Int32 × Int32 × Int32 × Int32 × Int64 × (Nat → Int32) × (Nat → Int32) × (Nat → Int64) × (Nat → Int64) × (Nat → Int32) × (Nat → Int32) × (Nat → Int32) × (Nat → Int32) × (Nat → Int32) × (Nat → Int32) × (Nat → Int32) × (Nat → Int32) × (Nat → Int32) × Nat × Nat × Nat × Nat) => (∀ b : Nat, b < 1296 → ((u.2.2.2.2.2.2.2.2.2.2.2.2.1) b).toInt = 0) ∧ (0 ≤ (u.1).toInt ∧ (u.1).toInt ≤ 1) ∧ (0 ≤ (u.2.1).toInt ∧ (u.2.1).toInt ≤ 1296) ∧ (0 ≤ (u.2.2.1).toInt ∧ (u.2.2.1).toInt ≤ 1296) ∧ (-1 ≤ (u.2.2.2.2.1).toInt ∧ (u.2.2.2.2.1).toInt ≤ 3) ∧ (rg (0) 1295 (u.2.2.2.2.2.2.2.2.2.2.1)) ∧ (rg (0) 1295 (u.2.2.2.2.2.2.2.2.2.2.2.1)) ∧ (rg (0) 1 (u.2.2.2.2.2.2.2.2.2.2.2.2.1)) ∧ (rg (0) 5 (u.2.2.2.2.2.2.2.2.2.2.2.2.2.1)) ∧ (rg (-1) 60 (u.2.2.2.2.2.2.2.2.2.2.2.2.2.2.2.1)) ∧ (rg (-1) 5 (u.2.2.2.2.2.2.2.2.2.2.2.2.2.2.2.2.1)) ∧ (rg (0) 5 (u.2.2.2.2.2.2.2.2.2.2.2.2.2.2.2.2.2.1))) (fun u => wSP cy hs (u.2.2.2.2.2.2.2.2.2.2.2.2.2.2.2.2.2.2.2.1) (u.2.2.2.2.2.2.2.2.2.2.2.2.2.2.2.2.2.2.2.2.1) (u.2.2.2.2.2.2.2.2.2.2.2.2.2.2.2.2.2.2.2.2.2.1) (u.2.2.2.2.2.2.2.2.2.2.2.2.2.2.2.2.2.2.2.2.2.2) v_tape_size v_band_walkers v_band_loads v_band_pieces v_rules_clauses v_reader_end v_reader_at v_reader_length v_reader_letter v_reader_fault v_draft_clauses v_paces_version v_packing_quicker v_packing_loads v_packing_looseCount v_marches_told v_marches_changeMinutes v_marches_marching v_marches_gone (u.1) (u.2.1) (u.2.2.1) (u.2.2.2.1) (u.2.2.2.2.1) (u.2.2.2.2.2.1) f_bytes f_knee f_weight f_limps f_bheft f_owner f_food f_miles f_slope f_rsteps f_rkind f_ryields f_rholds (u.2.2.2.2.2.2.1) (u.2.2.2.2.2.2.2.1) f_dsteps f_dkind f_dyields f_dholds f_dletters f_dstack f_caps f_versions f_sharing f_pheft f_prow f_holder f_comes f_pcaps f_room f_loose f_reached f_mrow f_minutesOn f_mtired (u.2.2.2.2.2.2.2.2.1) (u.2.2.2.2.2.2.2.2.2.1) (u.2.2.2.2.2.2.2.2.2.2.1) (u.2.2.2.2.2.2.2.2.2.2.2.1) (u.2.2.2.2.2.2.2.2.2.2.2.2.1) (u.2.2.2.2.2.2.2.2.2.2.2.2.2.1) (u.2.2.2.2.2.2.2.2.2.2.2.2.2.2.1) (u.2.2.2.2.2.2.2.2.2.2.2.2.2.2.2.1) (u.2.2.2.2.2.2.2.2.2.2.2.2.2.2.2.2.1) (u.2.2.2.2.2.2.2.2.2.2.2.2.2.2.2.2.2.1) (u.2.2.2.2.2.2.2.2.2.2.2.2.2.2.2.2.2.2.1) f_first f_second f_plans f_tiredOn) := by
  refine gMi_in (by decide) (Nat.le_of_ble_eq_true rfl) ?_
  intro p e s m args below meth c A ls Q hx hb hml hts hown hsz hP hK hD hN hAe hA hS hl hret
  subst hsz
  have hl : lv_has ls 6 [(0, .ref (hs 0))] := hl
  have hrt := fun (r : Int32) (v_search_known' : Int32) (v_search_countHere' : Int32) (v_search_countThere' : Int32) (v_search_cost' : Int32) (v_search_most' : Int32) (v_search_found' : Int64) (f_rletters' : Nat → Int32) (f_rstack' : Nat → Int32) (f_here' : Nat → Int64) (f_there' : Nat → Int64) (f_statesHere' : Nat → Int32) (f_statesThere' : Nat → Int32) (f_listed' : Nat → Int32) (f_stired' : Nat → Int32) (f_burdens' : Nat → Int32) (f_pacesOn' : Nat → Int32) (f_restedOn' : Nat → Int32) (f_behindOn' : Nat → Int32) (f_behindFor' : Nat → Int32) (hH' : Nat) (hT' : Nat) (sH' : Nat) (sT' : Nat) (hp : (∀ b : Nat, b < 1296 → (f_listed' b).toInt = 0) ∧ (0 ≤ v_search_known'.toInt ∧ v_search_known'.toInt ≤ 1) ∧ (0 ≤ v_search_countHere'.toInt ∧ v_search_countHere'.toInt ≤ 1296) ∧ (0 ≤ v_search_countThere'.toInt ∧ v_search_countThere'.toInt ≤ 1296) ∧ (-1 ≤ v_search_most'.toInt ∧ v_search_most'.toInt ≤ 3) ∧ (rg (0) 1295 f_statesHere') ∧ (rg (0) 1295 f_statesThere') ∧ (rg (0) 1 f_listed') ∧ (rg (0) 5 f_stired') ∧ (rg (-1) 60 f_pacesOn') ∧ (rg (-1) 5 f_restedOn') ∧ (rg (0) 5 f_behindOn')) {H : Heap} {locs : List Loc} {pc : Nat} {ls : Array Slot} => hret r (v_search_known', v_search_countHere', v_search_countThere', v_search_cost', v_search_most', v_search_found', f_rletters', f_rstack', f_here', f_there', f_statesHere', f_statesThere', f_listed', f_stired', f_burdens', f_pacesOn', f_restedOn', f_behindOn', f_behindFor', hH', hT', sH', sT') (H := H) (locs := locs) (pc := pc) (ls := ls) hp
  clear hret
  skip
  refine lv_aload_n hx hb dX9_edge_0 rfl (lv_at hl 0 rfl) ?_
  refine gt_SP_SP_band hx hb hts hown hK hP lwd_19 dX9_edge_1 ?_
  refine gt_SP_band_walkers hx hb hts hown hK hP lwd_206 dX9_edge_4 ?_
  refine lv_if_eq (tgt := 20) hx hb dX9_edge_7 (by decide) (fun c_1 => ?_) (fun c_1 => ?_)
  · have gc_1 : v_band_walkers.toInt = 0 := i_eq (rfl : v_band_walkers.toInt = v_band_walkers.toInt) (by decide : (0 : Int32).toInt = 0) c_1
    refine lv_iconst (v := (-1)) hx hb dX9_edge_20 (by decide) ?_
    have k_2 : ((-1) : Int32).toInt = (-1) := by decide
    exact hrt (-1) v_search_known v_search_countHere v_search_countThere v_search_cost v_search_most v_search_found f_rletters f_rstack f_here f_there f_statesHere f_statesThere f_listed f_stired f_burdens f_pacesOn f_restedOn f_behindOn f_behindFor hH hT sH sT ⟨hZ, (by omega), (by omega), (by omega), (by omega), hr_statesHere, hr_statesThere, hr_listed, hr_stired, hr_pacesOn, hr_restedOn, hr_behindOn⟩ hP hD hS rfl dX9_edge_21
  · have gc_1 : v_band_walkers.toInt ≠ 0 := i_ne (rfl : v_band_walkers.toInt = v_band_walkers.toInt) (by decide : (0 : Int32).toInt = 0) c_1
    refine lv_aload_n hx hb dX9_edge_10 rfl (lv_at hl 0 rfl) ?_
    refine gt_SP_SP_band hx hb hts hown hK hP lwd_19 dX9_edge_11 ?_
    refine gt_SP_band_pieces hx hb hts hown hK hP lwd_258 dX9_edge_14 ?_
    refine lv_if_ne (tgt := 22) hx hb dX9_edge_17 (by decide) (fun c_3 => ?_) (fun c_3 => ?_)
    · have gc_3 : v_band_pieces.toInt ≠ 0 := i_ne (rfl : v_band_pieces.toInt = v_band_pieces.toInt) (by decide : (0 : Int32).toInt = 0) c_3
      refine lv_aload_n hx hb dX9_edge_22 rfl (lv_at hl 0 rfl) ?_
      refine gt_SP_SP_band hx hb hts hown hK hP lwd_19 dX9_edge_23 ?_
      refine gt_SP_band_walkers hx hb hts hown hK hP lwd_206 dX9_edge_26 ?_
      refine lv_iconst (v := 4) hx hb dX9_edge_29 (by decide) ?_
      refine lv_icmp_le (tgt := 36) hx hb dX9_edge_30 (by decide) (fun c_4 => ?_) (fun c_4 => ?_)
      · have gc_4 : v_band_walkers.toInt ≤ 4 := i_le (rfl : v_band_walkers.toInt = v_band_walkers.toInt) (by decide : (4 : Int32).toInt = 4) c_4
        refine lv_aload_n hx hb dX9_edge_36 rfl (lv_at hl 0 rfl) ?_
        refine gt_SP_SP_search hx hb hts hown hK hP lwd_43 dX9_edge_37 ?_
        refine lv_iconst (v := 0) hx hb dX9_edge_40 (by decide) ?_
        refine lv_iconst (v := 0) hx hb dX9_edge_41 (by decide) ?_
        have k_5 : (0 : Int32).toInt = 0 := by decide
        refine xv hD hS hA (xV (As := [.int 0, .int 0]) (rest := []) hx hb hml hown hts hK hP hD hS hA NS_ok hN hAe hl.1 ⟨Nat.le_refl _, Nat.le_refl _⟩ 62 rfl rfl rfl (c_X7_solve l D cy hs hH hT sH sT v_tape_size v_band_walkers v_band_loads v_band_pieces v_rules_clauses v_reader_end v_reader_at v_reader_length v_reader_letter v_reader_fault v_draft_clauses v_paces_version v_packing_quicker v_packing_loads v_packing_looseCount v_marches_told v_marches_changeMinutes v_marches_marching v_marches_gone v_search_known v_search_countHere v_search_countThere v_search_cost v_search_most v_search_found f_bytes f_knee f_weight f_limps f_bheft f_owner f_food f_miles f_slope f_rsteps f_rkind f_ryields f_rholds f_rletters f_rstack f_dsteps f_dkind f_dyields f_dholds f_dletters f_dstack f_caps f_versions f_sharing f_pheft f_prow f_holder f_comes f_pcaps f_room f_loose f_reached f_mrow f_minutesOn f_mtired f_here f_there f_statesHere f_statesThere f_listed f_stired f_burdens f_pacesOn f_restedOn f_behindOn f_behindFor f_first f_second f_plans f_tiredOn tS s.heap.size 0 0 (by omega) (by omega) (by omega) (by omega) (by omega) (by omega) (by omega) (by omega) hr_weight hr_limps hr_bheft hr_food hr_miles hr_statesHere hr_statesThere hr_listed hr_stired hr_pacesOn hr_restedOn hr_behindOn (by omega) (by omega) hZ) (gi_V lwd_1038 lwd_1039 lwd_1040 lwd_42 lwd_1041) ⟨rfl, hd_X7_solve⟩ ⟨Nat.le_of_ble_eq_true rfl, Nat.le_of_ble_eq_true rfl⟩ rfl (Nat.le_of_ble_eq_true rfl) dX9_edge_42) (fun u_6 H locs hw hP hD hS => ?_)
        obtain ⟨zsearch_known_8, zsearch_countHere_9, zsearch_countThere_10, zsearch_cost_11, zsearch_most_12, zsearch_found_13, zrletters_14, zrstack_15, zhere_16, zthere_17, zstatesHere_18, zstatesThere_19, zlisted_20, zstired_21, zburdens_22, zpacesOn_23, zrestedOn_24, zbehindOn_25, zbehindFor_26, zhH_27, zhT_28, zsH_29, zsT_30⟩ := u_6
        try dsimp only at hw hP hD
        obtain ⟨p_31, p_32, p_33, p_34, p_35, p_36, p_37, p_38, p_39, p_40, p_41, p_42⟩ := hw
        refine lv_aload_n hx hb dX9_edge_45 rfl (lv_at hl 0 rfl) ?_
        refine gt_SP_SP_search hx hb hts hown hK hP lwd_43 dX9_edge_46 ?_
        refine xi hD hS hA (xV (As := []) (rest := []) hx hb hml hown hts hK hP hD hS hA NS_ok hN hAe hl.1 ⟨Nat.le_refl _, Nat.le_refl _⟩ 62 rfl rfl rfl (c_X7_minutes l D cy hs zhH_27 zhT_28 zsH_29 zsT_30 v_tape_size v_band_walkers v_band_loads v_band_pieces v_rules_clauses v_reader_end v_reader_at v_reader_length v_reader_letter v_reader_fault v_draft_clauses v_paces_version v_packing_quicker v_packing_loads v_packing_looseCount v_marches_told v_marches_changeMinutes v_marches_marching v_marches_gone zsearch_known_8 zsearch_countHere_9 zsearch_countThere_10 zsearch_cost_11 zsearch_most_12 zsearch_found_13 f_bytes f_knee f_weight f_limps f_bheft f_owner f_food f_miles f_slope f_rsteps f_rkind f_ryields f_rholds zrletters_14 zrstack_15 f_dsteps f_dkind f_dyields f_dholds f_dletters f_dstack f_caps f_versions f_sharing f_pheft f_prow f_holder f_comes f_pcaps f_room f_loose f_reached f_mrow f_minutesOn f_mtired zhere_16 zthere_17 zstatesHere_18 zstatesThere_19 zlisted_20 zstired_21 zburdens_22 zpacesOn_23 zrestedOn_24 zbehindOn_25 zbehindFor_26 f_first f_second f_plans f_tiredOn tS H.size) (gi_V lwd_1091 lwd_1092 lwd_1093 lwd_42 lwd_1094) ⟨rfl, hd_X7_minutes⟩ ⟨Nat.le_of_ble_eq_true rfl, Nat.le_of_ble_eq_true rfl⟩ rfl (Nat.le_of_ble_eq_true rfl) dX9_edge_49) (fun r_44 u_43 H locs hw hP hD hS => ?_)
        try dsimp only at hw hP hD
        clear hw
        refine lv_istore_n (lv' := [(1, .int r_44), (0, .ref (hs 0))]) hx hb dX9_edge_52 rfl hl (by decide) rfl (fun ls hl => ?_)
        refine lv_iconst (v := 0) hx hb dX9_edge_53 (by decide) ?_
        refine lv_istore_n (lv' := [(2, .int 0), (1, .int r_44), (0, .ref (hs 0))]) hx hb dX9_edge_54 rfl hl (by decide) rfl (fun ls hl => ?_)
        refine lv_iconst (v := 0) hx hb dX9_edge_55 (by decide) ?_
        refine lv_istore_n (lv' := [(3, .int 0), (2, .int 0), (1, .int r_44), (0, .ref (hs 0))]) hx hb dX9_edge_56 rfl hl (by decide) rfl (fun ls hl => ?_)
        have L57_95 : ∀ (n : Nat) (f_70 : Nat → Int32) (f_71 : Nat → Int32) (f_72 : Nat → Int32) (f_73 : Nat → Int64) (f_74 : Nat → Int32) (f_75 : Nat → Int32) (f_76 : Nat → Int32) (f_77 : Nat → Int32) (f_78 : Nat → Int32) (f_79 : Nat → Int32) (f_80 : Nat → Int32) (f_81 : Nat → Int32) (f_82 : Nat → Int64) (l_83 : Int32) (l_84 : Int32) (q_85 : Nat) (q_86 : Nat) (q_87 : Nat) (q_88 : Nat) (w_89 : Int32) (w_90 : Int32) (w_91 : Int32) (w_92 : Int64) (w_93 : Int32) (w_94 : Int32), (rg (0) 5 f_71) → (rg (0) 1 f_74) → (rg (-1) 60 f_75) → (rg (-1) 5 f_76) → (rg (0) 1295 f_79) → (rg (0) 1295 f_80) → (rg (0) 5 f_81) → (0 ≤ l_84.toInt ∧ l_84.toInt ≤ 122) → (0 ≤ w_90.toInt ∧ w_90.toInt ≤ 1296) → (0 ≤ w_91.toInt ∧ w_91.toInt ≤ 1296) → (0 ≤ w_93.toInt ∧ w_93.toInt ≤ 1) → (-1 ≤ w_94.toInt ∧ w_94.toInt ≤ 3) → (∀ b : Nat, b < 1296 → (f_74 b).toInt = 0) → 123 - l_84.toInt < n → ∀ (H : Heap) (locs : List Loc) (ls : Array Slot), va_P D vwCl (wSP cy hs q_85 q_86 q_87 q_88 v_tape_size v_band_walkers v_band_loads v_band_pieces v_rules_clauses v_reader_end v_reader_at v_reader_length v_reader_letter v_reader_fault v_draft_clauses v_paces_version v_packing_quicker v_packing_loads v_packing_looseCount v_marches_told v_marches_changeMinutes v_marches_marching v_marches_gone w_93 w_90 w_91 w_89 w_94 w_92 f_bytes f_knee f_weight f_limps f_bheft f_owner f_food f_miles f_slope f_rsteps f_rkind f_ryields f_rholds f_77 f_78 f_dsteps f_dkind f_dyields f_dholds f_dletters f_dstack f_caps f_versions f_sharing f_pheft f_prow f_holder f_comes f_pcaps f_room f_loose f_reached f_mrow f_minutesOn f_mtired f_73 f_82 f_79 f_80 f_74 f_81 f_72 f_75 f_76 f_71 f_70 f_first f_second f_plans f_tiredOn) H → va_D A (wSP cy hs q_85 q_86 q_87 q_88 v_tape_size v_band_walkers v_band_loads v_band_pieces v_rules_clauses v_reader_end v_reader_at v_reader_length v_reader_letter v_reader_fault v_draft_clauses v_paces_version v_packing_quicker v_packing_loads v_packing_looseCount v_marches_told v_marches_changeMinutes v_marches_marching v_marches_gone w_93 w_90 w_91 w_89 w_94 w_92 f_bytes f_knee f_weight f_limps f_bheft f_owner f_food f_miles f_slope f_rsteps f_rkind f_ryields f_rholds f_77 f_78 f_dsteps f_dkind f_dyields f_dholds f_dletters f_dstack f_caps f_versions f_sharing f_pheft f_prow f_holder f_comes f_pcaps f_room f_loose f_reached f_mrow f_minutesOn f_mtired f_73 f_82 f_79 f_80 f_74 f_81 f_72 f_75 f_76 f_71 f_70 f_first f_second f_plans f_tiredOn) → va_S A s.heap H locs → lv_has ls 6 [(3, .int l_84), (2, .int l_83), (1, .int r_44), (0, .ref (hs 0))] → W p l e (gRm 7) s m args below meth c H locs 0 0 Q (F0 m 57 ls []) := by
          intro n
          induction n with
          | zero => intro f_70 f_71 f_72 f_73 f_74 f_75 f_76 f_77 f_78 f_79 f_80 f_81 f_82 l_83 l_84 q_85 q_86 q_87 q_88 w_89 w_90 w_91 w_92 w_93 w_94 hL57_95_0 hL57_95_1 hL57_95_2 hL57_95_3 hL57_95_4 hL57_95_5 hL57_95_6 hL57_95_7 hL57_95_8 hL57_95_9 hL57_95_10 hL57_95_11 hL57_95_12 hm; exact absurd hm (by omega)
          | succ n ih57_95 =>
            intro f_70 f_71 f_72 f_73 f_74 f_75 f_76 f_77 f_78 f_79 f_80 f_81 f_82 l_83 l_84 q_85 q_86 q_87 q_88 w_89 w_90 w_91 w_92 w_93 w_94 hL57_95_0 hL57_95_1 hL57_95_2 hL57_95_3 hL57_95_4 hL57_95_5 hL57_95_6 hL57_95_7 hL57_95_8 hL57_95_9 hL57_95_10 hL57_95_11 hL57_95_12 hmL57_95 H locs ls hP hD hS hl
            refine lv_iload_n hx hb dX9_edge_57 rfl (lv_at hl 0 rfl) ?_
            refine lv_bipush (v := 121) hx hb dX9_edge_58 (by decide) ?_
            refine lv_icmp_gt (tgt := 135) hx hb dX9_edge_60 (by decide) (fun c_96 => ?_) (fun c_96 => ?_)
            · have gc_96 : 121 < l_84.toInt := i_lt (by decide : (121 : Int32).toInt = 121) (rfl : l_84.toInt = l_84.toInt) c_96
              skip
              refine lv_bipush (v := (-2)) hx hb dX9_edge_135 (by decide) ?_
              have k_97 : ((-2) : Int32).toInt = (-2) := by decide
              exact hrt (-2) w_93 w_90 w_91 w_89 w_94 w_92 f_77 f_78 f_73 f_82 f_79 f_80 f_74 f_81 f_72 f_75 f_76 f_71 f_70 q_85 q_86 q_87 q_88 ⟨hL57_95_12, (by omega), (by omega), (by omega), (by omega), hL57_95_4, hL57_95_5, hL57_95_1, hL57_95_6, hL57_95_2, hL57_95_3, hL57_95_0⟩ hP hD hS rfl dX9_edge_137
            · have gc_96 : l_84.toInt ≤ 121 := i_nlt (by decide : (121 : Int32).toInt = 121) (rfl : l_84.toInt = l_84.toInt) c_96
              skip
              refine lv_iload_n hx hb dX9_edge_63 rfl (lv_at hl 2 rfl) ?_
              refine lv_ldc hx hb hown (hts _ lwd_778) dX9_edge_64 ?_
              refine lv_icmp_ge (tgt := 135) hx hb dX9_edge_66 (by decide) (fun c_98 => ?_) (fun c_98 => ?_)
              · have gc_98 : 1000000000 ≤ r_44.toInt := i_le (by decide : (1000000000 : Int32).toInt = 1000000000) (rfl : r_44.toInt = r_44.toInt) c_98
                skip
                refine lv_bipush (v := (-2)) hx hb dX9_edge_135 (by decide) ?_
                have k_99 : ((-2) : Int32).toInt = (-2) := by decide
                exact hrt (-2) w_93 w_90 w_91 w_89 w_94 w_92 f_77 f_78 f_73 f_82 f_79 f_80 f_74 f_81 f_72 f_75 f_76 f_71 f_70 q_85 q_86 q_87 q_88 ⟨hL57_95_12, (by omega), (by omega), (by omega), (by omega), hL57_95_4, hL57_95_5, hL57_95_1, hL57_95_6, hL57_95_2, hL57_95_3, hL57_95_0⟩ hP hD hS rfl dX9_edge_137
              · have gc_98 : r_44.toInt < 1000000000 := i_nle (by decide : (1000000000 : Int32).toInt = 1000000000) (rfl : r_44.toInt = r_44.toInt) c_98
                refine lv_iload_n hx hb dX9_edge_69 rfl (lv_at hl 1 rfl) ?_
                refine lv_bipush (v := 120) hx hb dX9_edge_70 (by decide) ?_
                refine lv_icmp_gt (tgt := 135) hx hb dX9_edge_72 (by decide) (fun c_100 => ?_) (fun c_100 => ?_)
                · have gc_100 : 120 < l_83.toInt := i_lt (by decide : (120 : Int32).toInt = 120) (rfl : l_83.toInt = l_83.toInt) c_100
                  skip
                  refine lv_bipush (v := (-2)) hx hb dX9_edge_135 (by decide) ?_
                  have k_101 : ((-2) : Int32).toInt = (-2) := by decide
                  exact hrt (-2) w_93 w_90 w_91 w_89 w_94 w_92 f_77 f_78 f_73 f_82 f_79 f_80 f_74 f_81 f_72 f_75 f_76 f_71 f_70 q_85 q_86 q_87 q_88 ⟨hL57_95_12, (by omega), (by omega), (by omega), (by omega), hL57_95_4, hL57_95_5, hL57_95_1, hL57_95_6, hL57_95_2, hL57_95_3, hL57_95_0⟩ hP hD hS rfl dX9_edge_137
                · have gc_100 : l_83.toInt ≤ 120 := i_nlt (by decide : (120 : Int32).toInt = 120) (rfl : l_83.toInt = l_83.toInt) c_100
                  refine lv_aload_n hx hb dX9_edge_75 rfl (lv_at hl 3 rfl) ?_
                  refine gt_SP_SP_search hx hb hts hown hK hP lwd_43 dX9_edge_76 ?_
                  refine lv_iload_n hx hb dX9_edge_79 rfl (lv_at hl 1 rfl) ?_
                  refine lv_iconst (v := (-1)) hx hb dX9_edge_80 (by decide) ?_
                  have k_102 : ((-1) : Int32).toInt = (-1) := by decide
                  refine xv hD hS hA (xV (As := [.int l_83, .int (-1)]) (rest := []) hx hb hml hown hts hK hP hD hS hA NS_ok hN hAe hl.1 ⟨Nat.le_refl _, Nat.le_refl _⟩ 62 rfl rfl rfl (c_X7_solve l D cy hs q_85 q_86 q_87 q_88 v_tape_size v_band_walkers v_band_loads v_band_pieces v_rules_clauses v_reader_end v_reader_at v_reader_length v_reader_letter v_reader_fault v_draft_clauses v_paces_version v_packing_quicker v_packing_loads v_packing_looseCount v_marches_told v_marches_changeMinutes v_marches_marching v_marches_gone w_93 w_90 w_91 w_89 w_94 w_92 f_bytes f_knee f_weight f_limps f_bheft f_owner f_food f_miles f_slope f_rsteps f_rkind f_ryields f_rholds f_77 f_78 f_dsteps f_dkind f_dyields f_dholds f_dletters f_dstack f_caps f_versions f_sharing f_pheft f_prow f_holder f_comes f_pcaps f_room f_loose f_reached f_mrow f_minutesOn f_mtired f_73 f_82 f_79 f_80 f_74 f_81 f_72 f_75 f_76 f_71 f_70 f_first f_second f_plans f_tiredOn tS H.size l_83 (-1) (by omega) (by omega) (by omega) (by omega) (by omega) (by omega) (by omega) (by omega) hr_weight hr_limps hr_bheft hr_food hr_miles hL57_95_4 hL57_95_5 hL57_95_1 hL57_95_6 hL57_95_2 hL57_95_3 hL57_95_0 (by omega) (by omega) hL57_95_12) (gi_V lwd_1038 lwd_1039 lwd_1040 lwd_42 lwd_1041) ⟨rfl, hd_X7_solve⟩ ⟨Nat.le_of_ble_eq_true rfl, Nat.le_of_ble_eq_true rfl⟩ rfl (Nat.le_of_ble_eq_true rfl) dX9_edge_81) (fun u_103 H locs hw hP hD hS => ?_)
                  obtain ⟨zsearch_known_105, zsearch_countHere_106, zsearch_countThere_107, zsearch_cost_108, zsearch_most_109, zsearch_found_110, zrletters_111, zrstack_112, zhere_113, zthere_114, zstatesHere_115, zstatesThere_116, zlisted_117, zstired_118, zburdens_119, zpacesOn_120, zrestedOn_121, zbehindOn_122, zbehindFor_123, zhH_124, zhT_125, zsH_126, zsT_127⟩ := u_103
                  try dsimp only at hw hP hD
                  obtain ⟨p_128, p_129, p_130, p_131, p_132, p_133, p_134, p_135, p_136, p_137, p_138, p_139⟩ := hw
                  refine lv_iload_n hx hb dX9_edge_84 rfl (lv_at hl 2 rfl) ?_
                  refine lv_aload_n hx hb dX9_edge_85 rfl (lv_at hl 3 rfl) ?_
                  refine gt_SP_SP_search hx hb hts hown hK hP lwd_43 dX9_edge_86 ?_
                  refine xi hD hS hA (xV (As := []) (rest := [.int r_44]) hx hb hml hown hts hK hP hD hS hA NS_ok hN hAe hl.1 ⟨Nat.le_refl _, Nat.le_refl _⟩ 62 rfl rfl rfl (c_X7_minutes l D cy hs zhH_124 zhT_125 zsH_126 zsT_127 v_tape_size v_band_walkers v_band_loads v_band_pieces v_rules_clauses v_reader_end v_reader_at v_reader_length v_reader_letter v_reader_fault v_draft_clauses v_paces_version v_packing_quicker v_packing_loads v_packing_looseCount v_marches_told v_marches_changeMinutes v_marches_marching v_marches_gone zsearch_known_105 zsearch_countHere_106 zsearch_countThere_107 zsearch_cost_108 zsearch_most_109 zsearch_found_110 f_bytes f_knee f_weight f_limps f_bheft f_owner f_food f_miles f_slope f_rsteps f_rkind f_ryields f_rholds zrletters_111 zrstack_112 f_dsteps f_dkind f_dyields f_dholds f_dletters f_dstack f_caps f_versions f_sharing f_pheft f_prow f_holder f_comes f_pcaps f_room f_loose f_reached f_mrow f_minutesOn f_mtired zhere_113 zthere_114 zstatesHere_115 zstatesThere_116 zlisted_117 zstired_118 zburdens_119 zpacesOn_120 zrestedOn_121 zbehindOn_122 zbehindFor_123 f_first f_second f_plans f_tiredOn tS H.size) (gi_V lwd_1091 lwd_1092 lwd_1093 lwd_42 lwd_1094) ⟨rfl, hd_X7_minutes⟩ ⟨Nat.le_of_ble_eq_true rfl, Nat.le_of_ble_eq_true rfl⟩ rfl (Nat.le_of_ble_eq_true rfl) dX9_edge_89) (fun r_141 u_140 H locs hw hP hD hS => ?_)
                  try dsimp only at hw hP hD
                  clear hw
                  refine lv_isub hx hb dX9_edge_92 ?_
                  refine lv_topi (fun n_142 en_142 => ?_)
                  refine lv_istore (lv' := [(4, .int n_142), (3, .int l_84), (2, .int l_83), (1, .int r_44), (0, .ref (hs 0))]) hx hb dX9_edge_93 hl (by decide) rfl (fun ls hl => ?_)
                  refine lv_aload_n hx hb dX9_edge_95 rfl (lv_at hl 4 rfl) ?_
                  refine gt_SP_SP_search hx hb hts hown hK hP lwd_43 dX9_edge_96 ?_
                  refine xi hD hS hA (xV (As := []) (rest := []) hx hb hml hown hts hK hP hD hS hA NS_ok hN hAe hl.1 ⟨Nat.le_refl _, Nat.le_refl _⟩ 62 rfl rfl rfl (c_X7_changes l D cy hs zhH_124 zhT_125 zsH_126 zsT_127 v_tape_size v_band_walkers v_band_loads v_band_pieces v_rules_clauses v_reader_end v_reader_at v_reader_length v_reader_letter v_reader_fault v_draft_clauses v_paces_version v_packing_quicker v_packing_loads v_packing_looseCount v_marches_told v_marches_changeMinutes v_marches_marching v_marches_gone zsearch_known_105 zsearch_countHere_106 zsearch_countThere_107 zsearch_cost_108 zsearch_most_109 zsearch_found_110 f_bytes f_knee f_weight f_limps f_bheft f_owner f_food f_miles f_slope f_rsteps f_rkind f_ryields f_rholds zrletters_111 zrstack_112 f_dsteps f_dkind f_dyields f_dholds f_dletters f_dstack f_caps f_versions f_sharing f_pheft f_prow f_holder f_comes f_pcaps f_room f_loose f_reached f_mrow f_minutesOn f_mtired zhere_113 zthere_114 zstatesHere_115 zstatesThere_116 zlisted_117 zstired_118 zburdens_119 zpacesOn_120 zrestedOn_121 zbehindOn_122 zbehindFor_123 f_first f_second f_plans f_tiredOn tS H.size (by omega)) (gi_V lwd_1154 lwd_1155 lwd_1156 lwd_42 lwd_1157) ⟨rfl, hd_X7_changes⟩ ⟨Nat.le_of_ble_eq_true rfl, Nat.le_of_ble_eq_true rfl⟩ rfl (Nat.le_of_ble_eq_true rfl) dX9_edge_99) (fun r_144 u_143 H locs hw hP hD hS => ?_)
                  try dsimp only at hw hP hD
                  clear hw
                  refine lv_istore (lv' := [(5, .int r_144), (4, .int n_142), (3, .int l_84), (2, .int l_83), (1, .int r_44), (0, .ref (hs 0))]) hx hb dX9_edge_102 hl (by decide) rfl (fun ls hl => ?_)
                  refine lv_iload hx hb dX9_edge_104 (lv_at hl 1 rfl) ?_
                  refine lv_if_le (tgt := 114) hx hb dX9_edge_106 (by decide) (fun c_145 => ?_) (fun c_145 => ?_)
                  · have gc_145 : n_142.toInt ≤ 0 := i_le (rfl : n_142.toInt = n_142.toInt) (by decide : (0 : Int32).toInt = 0) c_145
                    refine lv_iload_n hx hb dX9_edge_114 rfl (lv_at hl 3 rfl) ?_
                    exact hrt l_83 zsearch_known_105 zsearch_countHere_106 zsearch_countThere_107 zsearch_cost_108 zsearch_most_109 zsearch_found_110 zrletters_111 zrstack_112 zhere_113 zthere_114 zstatesHere_115 zstatesThere_116 zlisted_117 zstired_118 zburdens_119 zpacesOn_120 zrestedOn_121 zbehindOn_122 zbehindFor_123 zhH_124 zhT_125 zsH_126 zsT_127 ⟨p_128, (by omega), (by omega), (by omega), (by omega), p_133, p_134, p_135, p_136, p_137, p_138, p_139⟩ hP hD hS rfl dX9_edge_115
                  · have gc_145 : 0 < n_142.toInt := i_nle (rfl : n_142.toInt = n_142.toInt) (by decide : (0 : Int32).toInt = 0) c_145
                    refine lv_iload hx hb dX9_edge_109 (lv_at hl 0 rfl) ?_
                    refine lv_if_gt (tgt := 116) hx hb dX9_edge_111 (by decide) (fun c_146 => ?_) (fun c_146 => ?_)
                    · have gc_146 : 0 < r_144.toInt := i_lt (by decide : (0 : Int32).toInt = 0) (rfl : r_144.toInt = r_144.toInt) c_146
                      refine lv_iload_n hx hb dX9_edge_116 rfl (lv_at hl 3 rfl) ?_
                      refine lv_iload hx hb dX9_edge_117 (lv_at hl 1 rfl) ?_
                      refine lv_iload hx hb dX9_edge_119 (lv_at hl 0 rfl) ?_
                      refine lv_iadd hx hb dX9_edge_121 ?_
                      refine lv_topi (fun n_147 en_147 => ?_)
                      refine lv_iconst (v := 1) hx hb dX9_edge_122 (by decide) ?_
                      refine lv_isub hx hb dX9_edge_123 ?_
                      refine lv_topi (fun n_148 en_148 => ?_)
                      refine lv_iload hx hb dX9_edge_124 (lv_at hl 0 rfl) ?_
                      refine lv_idiv hx hb dX9_edge_126 (i_nz (rfl : r_144.toInt = r_144.toInt) (by omega)) ?_
                      refine lv_topi (fun n_149 en_149 => ?_)
                      refine lv_iadd hx hb dX9_edge_127 ?_
                      refine lv_topi (fun n_150 en_150 => ?_)
                      refine lv_istore_n (lv' := [(2, .int n_150), (5, .int r_144), (4, .int n_142), (3, .int l_84), (1, .int r_44), (0, .ref (hs 0))]) hx hb dX9_edge_128 rfl hl (by decide) rfl (fun ls hl => ?_)
                      obtain ⟨n_151, en_151⟩ : ∃ y : Int32, y = l_84 + 1 := ⟨_, rfl⟩
                      have tn_151 : n_151.toInt = l_84.toInt + 1 := i_add en_151 (rfl : l_84.toInt = l_84.toInt) (by decide : (1 : Int32).toInt = 1) (by omega) (by omega)
                      refine lv_iinc (v := n_151) (lv' := [(3, .int n_151), (2, .int n_150), (5, .int r_144), (4, .int n_142), (1, .int r_44), (0, .ref (hs 0))]) hx hb dX9_edge_129 hl (k := 3) rfl (by rw [en_151]; rfl) (by decide) rfl (fun ls hl => ?_)
                      refine lv_goto (tgt := 57) hx hb dX9_edge_132 (by decide) ?_
                      exact ih57_95 zbehindFor_123 zbehindOn_122 zburdens_119 zhere_113 zlisted_117 zpacesOn_120 zrestedOn_121 zrletters_111 zrstack_112 zstatesHere_115 zstatesThere_116 zstired_118 zthere_114 n_150 n_151 zhH_124 zhT_125 zsH_126 zsT_127 zsearch_cost_108 zsearch_countHere_106 zsearch_countThere_107 zsearch_found_110 zsearch_known_105 zsearch_most_109 p_139 p_135 p_137 p_138 p_133 p_134 p_136 (by omega) (by omega) (by omega) (by omega) (by omega) p_128 (by omega) _ _ _ hP hD hS (lv_sub hl [0, 1, 4, 5] rfl)
                    · have gc_146 : r_144.toInt ≤ 0 := i_nlt (by decide : (0 : Int32).toInt = 0) (rfl : r_144.toInt = r_144.toInt) c_146
                      refine lv_iload_n hx hb dX9_edge_114 rfl (lv_at hl 3 rfl) ?_
                      exact hrt l_83 zsearch_known_105 zsearch_countHere_106 zsearch_countThere_107 zsearch_cost_108 zsearch_most_109 zsearch_found_110 zrletters_111 zrstack_112 zhere_113 zthere_114 zstatesHere_115 zstatesThere_116 zlisted_117 zstired_118 zburdens_119 zpacesOn_120 zrestedOn_121 zbehindOn_122 zbehindFor_123 zhH_124 zhT_125 zsH_126 zsT_127 ⟨p_128, (by omega), (by omega), (by omega), (by omega), p_133, p_134, p_135, p_136, p_137, p_138, p_139⟩ hP hD hS rfl dX9_edge_115
        have k_152 : (0 : Int32).toInt = 0 := by decide
        have k_153 : (0 : Int32).toInt = 0 := by decide
        exact L57_95 8589934592 zbehindFor_26 zbehindOn_25 zburdens_22 zhere_16 zlisted_20 zpacesOn_23 zrestedOn_24 zrletters_14 zrstack_15 zstatesHere_18 zstatesThere_19 zstired_21 zthere_17 0 0 zhH_27 zhT_28 zsH_29 zsT_30 zsearch_cost_11 zsearch_countHere_9 zsearch_countThere_10 zsearch_found_13 zsearch_known_8 zsearch_most_12 p_42 p_38 p_40 p_41 p_36 p_37 p_39 (by omega) (by omega) (by omega) (by omega) (by omega) p_31 (by omega) _ _ _ hP hD hS (lv_sub hl [0, 1, 2, 3] rfl)
      · have gc_4 : 4 < v_band_walkers.toInt := i_nle (rfl : v_band_walkers.toInt = v_band_walkers.toInt) (by decide : (4 : Int32).toInt = 4) c_4
        refine lv_bipush (v := (-2)) hx hb dX9_edge_33 (by decide) ?_
        have k_154 : ((-2) : Int32).toInt = (-2) := by decide
        exact hrt (-2) v_search_known v_search_countHere v_search_countThere v_search_cost v_search_most v_search_found f_rletters f_rstack f_here f_there f_statesHere f_statesThere f_listed f_stired f_burdens f_pacesOn f_restedOn f_behindOn f_behindFor hH hT sH sT ⟨hZ, (by omega), (by omega), (by omega), (by omega), hr_statesHere, hr_statesThere, hr_listed, hr_stired, hr_pacesOn, hr_restedOn, hr_behindOn⟩ hP hD hS rfl dX9_edge_35
    · have gc_3 : v_band_pieces.toInt = 0 := i_eq (rfl : v_band_pieces.toInt = v_band_pieces.toInt) (by decide : (0 : Int32).toInt = 0) c_3
      refine lv_iconst (v := (-1)) hx hb dX9_edge_20 (by decide) ?_
      have k_155 : ((-1) : Int32).toInt = (-1) := by decide
      exact hrt (-1) v_search_known v_search_countHere v_search_countThere v_search_cost v_search_most v_search_found f_rletters f_rstack f_here f_there f_statesHere f_statesThere f_listed f_stired f_burdens f_pacesOn f_restedOn f_behindOn f_behindFor hH hT sH sT ⟨hZ, (by omega), (by omega), (by omega), (by omega), hr_statesHere, hr_statesThere, hr_listed, hr_stired, hr_pacesOn, hr_restedOn, hr_behindOn⟩ hP hD hS rfl dX9_edge_21
set_option maxHeartbeats 16000000 in
set_option maxRecDepth 100000 in
theorem c_X9_bands (l : Launch) (D : va_G) (cy : Nat → ClassId) (hs : Nat → Nat) (hH hT sH sT : Nat) (v_tape_size v_band_walkers v_band_loads v_band_pieces v_rules_clauses v_reader_end v_reader_at v_reader_length v_reader_letter v_reader_fault v_draft_clauses v_paces_version v_packing_quicker v_packing_loads v_packing_looseCount v_marches_told v_marches_changeMinutes v_marches_marching v_marches_gone v_search_known v_search_countHere v_search_countThere v_search_cost v_search_most : Int32) (v_search_found : Int64) (f_bytes f_knee f_weight f_limps f_bheft f_owner f_food f_miles f_slope f_rsteps f_rkind f_ryields f_rholds f_rletters f_rstack f_dsteps f_dkind f_dyields f_dholds f_dletters f_dstack f_caps f_versions f_sharing f_pheft f_prow f_holder f_comes f_pcaps f_room f_loose f_reached f_mrow f_minutesOn f_mtired : Nat → Int32) (f_here f_there : Nat → Int64) (f_statesHere f_statesThere f_listed f_stired f_burdens f_pacesOn f_restedOn f_behindOn f_behindFor f_first f_second : Nat → Int32) (f_plans f_tiredOn : Nat → Nat → Int32) (tS : Nat) (sz : Nat) (a1 : Int32) (b1 : Int32) (what : Int32) (hb_v_band_walkers : 0 ≤ v_band_walkers.toInt ∧ v_band_walkers.toInt ≤ 6) (hb_v_band_pieces : 0 ≤ v_band_pieces.toInt ∧ v_band_pieces.toInt ≤ 10) (hb_v_rules_clauses : 0 ≤ v_rules_clauses.toInt ∧ v_rules_clauses.toInt ≤ 14) (hr_weight : rg (0) 250 f_weight) (hr_limps : rg (0) 1 f_limps) (hr_miles : rg (0) 20 f_miles) (hr_first : rg (0) 60 f_first) (hr_second : rg (0) 60 f_second) : gMi l yX9_bands cX9_bands 7 .int 5 [.ref (hs 0), .int a1, .int b1, .int what] D cy (wSP cy hs hH hT sH sT v_tape_size v_band_walkers v_band_loads v_band_pieces v_rules_clauses v_reader_end v_reader_at v_reader_length v_reader_letter v_reader_fault v_draft_clauses v_paces_version v_packing_quicker v_packing_loads v_packing_looseCount v_marches_told v_marches_changeMinutes v_marches_marching v_marches_gone v_search_known v_search_countHere v_search_countThere v_search_cost v_search_most v_search_found f_bytes f_knee f_weight f_limps f_bheft f_owner f_food f_miles f_slope f_rsteps f_rkind f_ryields f_rholds f_rletters f_rstack f_dsteps f_dkind f_dyields f_dholds f_dletters f_dstack f_caps f_versions f_sharing f_pheft f_prow f_holder f_comes f_pcaps f_room f_loose f_reached f_mrow f_minutesOn f_mtired f_here f_there f_statesHere f_statesThere f_listed f_stired f_burdens f_pacesOn f_restedOn f_behindOn f_behindFor f_first f_second f_plans f_tiredOn) (NS tS) sz (fun (r : Int32) (u : (Nat → Int32) × (Nat → Int32) × (Nat → Int32) × (Nat → Int32)) => (rg (0) 60 (u.2.2.1)) ∧ (rg (0) 60 (u.2.2.2))) (fun u => wSP cy hs hH hT sH sT v_tape_size v_band_walkers v_band_loads v_band_pieces v_rules_clauses v_reader_end v_reader_at v_reader_length v_reader_letter v_reader_fault v_draft_clauses v_paces_version v_packing_quicker v_packing_loads v_packing_looseCount v_marches_told v_marches_changeMinutes v_marches_marching v_marches_gone v_search_known v_search_countHere v_search_countThere v_search_cost v_search_most v_search_found f_bytes f_knee f_weight f_limps f_bheft f_owner f_food f_miles f_slope f_rsteps f_rkind f_ryields f_rholds (u.1) (u.2.1) f_dsteps f_dkind f_dyields f_dholds f_dletters f_dstack f_caps f_versions f_sharing f_pheft f_prow f_holder f_comes f_pcaps f_room f_loose f_reached f_mrow f_minutesOn f_mtired f_here f_there f_statesHere f_statesThere f_listed f_stired f_burdens f_pacesOn f_restedOn f_behindOn f_behindFor (u.2.2.1) (u.2.2.2) f_plans f_tiredOn) := by
  refine gMi_in (by decide) (Nat.le_of_ble_eq_true rfl) ?_
  intro p e s m args below meth c A ls Q hx hb hml hts hown hsz hP hK hD hN hAe hA hS hl hret
  subst hsz
  have hl : lv_has ls 7 [(0, .ref (hs 0)), (1, .int a1), (2, .int b1), (3, .int what)] := hl
  have hrt := fun (r : Int32) (f_rletters' : Nat → Int32) (f_rstack' : Nat → Int32) (f_first' : Nat → Int32) (f_second' : Nat → Int32) (hp : (rg (0) 60 f_first') ∧ (rg (0) 60 f_second')) {H : Heap} {locs : List Loc} {pc : Nat} {ls : Array Slot} => hret r (f_rletters', f_rstack', f_first', f_second') (H := H) (locs := locs) (pc := pc) (ls := ls) hp
  clear hret
  refine lv_iconst (v := 1) hx hb dX9_bands_0 (by decide) ?_
  refine lv_aload_n hx hb dX9_bands_1 rfl (lv_at hl 0 rfl) ?_
  refine gt_SP_SP_band hx hb hts hown hK hP lwd_19 dX9_bands_2 ?_
  refine gt_SP_band_walkers hx hb hts hown hK hP lwd_206 dX9_bands_5 ?_
  refine lv_ishl hx hb dX9_bands_8 ?_
  refine lv_topi (fun n_1 en_1 => ?_)
  have bn_1 := (i_sh1 en_1 (rfl : v_band_walkers.toInt = v_band_walkers.toInt) (by omega)).2
  refine lv_istore (lv' := [(4, .int n_1), (0, .ref (hs 0)), (1, .int a1), (2, .int b1), (3, .int what)]) hx hb dX9_bands_9 hl (by decide) rfl (fun ls hl => ?_)
  refine lv_iload_n hx hb dX9_bands_11 rfl (lv_at hl 2 rfl) ?_
  refine lv_if_le (tgt := 41) hx hb dX9_bands_12 (by decide) (fun c_2 => ?_) (fun c_2 => ?_)
  · have gc_2 : a1.toInt ≤ 0 := i_le (rfl : a1.toInt = a1.toInt) (by decide : (0 : Int32).toInt = 0) c_2
    refine lv_iconst (v := 0) hx hb dX9_bands_41 (by decide) ?_
    refine lv_istore (lv' := [(5, .int 0), (4, .int n_1), (0, .ref (hs 0)), (1, .int a1), (2, .int b1), (3, .int what)]) hx hb dX9_bands_42 hl (by decide) rfl (fun ls hl => ?_)
    refine lv_iload hx hb dX9_bands_44 (lv_at hl 0 rfl) ?_
    refine lv_if_eq (tgt := 68) hx hb dX9_bands_46 (by decide) (fun c_3 => ?_) (fun c_3 => ?_)
    · skip
      refine lv_iconst (v := (-1)) hx hb dX9_bands_68 (by decide) ?_
      have k_4 : ((-1) : Int32).toInt = (-1) := by decide
      exact hrt (-1) f_rletters f_rstack f_first f_second ⟨hr_first, hr_second⟩ hP hD hS rfl dX9_bands_69
    · exact absurd c_3 (by decide)
  · have gc_2 : 0 < a1.toInt := i_nle (rfl : a1.toInt = a1.toInt) (by decide : (0 : Int32).toInt = 0) c_2
    refine lv_iload_n hx hb dX9_bands_15 rfl (lv_at hl 2 rfl) ?_
    refine lv_iload hx hb dX9_bands_16 (lv_at hl 0 rfl) ?_
    refine lv_icmp_ge (tgt := 41) hx hb dX9_bands_18 (by decide) (fun c_5 => ?_) (fun c_5 => ?_)
    · have gc_5 : n_1.toInt ≤ a1.toInt := i_le (rfl : n_1.toInt = n_1.toInt) (rfl : a1.toInt = a1.toInt) c_5
      refine lv_iconst (v := 0) hx hb dX9_bands_41 (by decide) ?_
      refine lv_istore (lv' := [(5, .int 0), (4, .int n_1), (0, .ref (hs 0)), (1, .int a1), (2, .int b1), (3, .int what)]) hx hb dX9_bands_42 hl (by decide) rfl (fun ls hl => ?_)
      refine lv_iload hx hb dX9_bands_44 (lv_at hl 0 rfl) ?_
      refine lv_if_eq (tgt := 68) hx hb dX9_bands_46 (by decide) (fun c_6 => ?_) (fun c_6 => ?_)
      · skip
        refine lv_iconst (v := (-1)) hx hb dX9_bands_68 (by decide) ?_
        have k_7 : ((-1) : Int32).toInt = (-1) := by decide
        exact hrt (-1) f_rletters f_rstack f_first f_second ⟨hr_first, hr_second⟩ hP hD hS rfl dX9_bands_69
      · exact absurd c_6 (by decide)
    · have gc_5 : a1.toInt < n_1.toInt := i_nle (rfl : n_1.toInt = n_1.toInt) (rfl : a1.toInt = a1.toInt) c_5
      refine lv_iload_n hx hb dX9_bands_21 rfl (lv_at hl 3 rfl) ?_
      refine lv_if_le (tgt := 41) hx hb dX9_bands_22 (by decide) (fun c_8 => ?_) (fun c_8 => ?_)
      · have gc_8 : b1.toInt ≤ 0 := i_le (rfl : b1.toInt = b1.toInt) (by decide : (0 : Int32).toInt = 0) c_8
        refine lv_iconst (v := 0) hx hb dX9_bands_41 (by decide) ?_
        refine lv_istore (lv' := [(5, .int 0), (4, .int n_1), (0, .ref (hs 0)), (1, .int a1), (2, .int b1), (3, .int what)]) hx hb dX9_bands_42 hl (by decide) rfl (fun ls hl => ?_)
        refine lv_iload hx hb dX9_bands_44 (lv_at hl 0 rfl) ?_
        refine lv_if_eq (tgt := 68) hx hb dX9_bands_46 (by decide) (fun c_9 => ?_) (fun c_9 => ?_)
        · skip
          refine lv_iconst (v := (-1)) hx hb dX9_bands_68 (by decide) ?_
          have k_10 : ((-1) : Int32).toInt = (-1) := by decide
          exact hrt (-1) f_rletters f_rstack f_first f_second ⟨hr_first, hr_second⟩ hP hD hS rfl dX9_bands_69
        · exact absurd c_9 (by decide)
      · have gc_8 : 0 < b1.toInt := i_nle (rfl : b1.toInt = b1.toInt) (by decide : (0 : Int32).toInt = 0) c_8
        refine lv_iload_n hx hb dX9_bands_25 rfl (lv_at hl 3 rfl) ?_
        refine lv_iload hx hb dX9_bands_26 (lv_at hl 0 rfl) ?_
        refine lv_icmp_ge (tgt := 41) hx hb dX9_bands_28 (by decide) (fun c_11 => ?_) (fun c_11 => ?_)
        · have gc_11 : n_1.toInt ≤ b1.toInt := i_le (rfl : n_1.toInt = n_1.toInt) (rfl : b1.toInt = b1.toInt) c_11
          refine lv_iconst (v := 0) hx hb dX9_bands_41 (by decide) ?_
          refine lv_istore (lv' := [(5, .int 0), (4, .int n_1), (0, .ref (hs 0)), (1, .int a1), (2, .int b1), (3, .int what)]) hx hb dX9_bands_42 hl (by decide) rfl (fun ls hl => ?_)
          refine lv_iload hx hb dX9_bands_44 (lv_at hl 0 rfl) ?_
          refine lv_if_eq (tgt := 68) hx hb dX9_bands_46 (by decide) (fun c_12 => ?_) (fun c_12 => ?_)
          · skip
            refine lv_iconst (v := (-1)) hx hb dX9_bands_68 (by decide) ?_
            have k_13 : ((-1) : Int32).toInt = (-1) := by decide
            exact hrt (-1) f_rletters f_rstack f_first f_second ⟨hr_first, hr_second⟩ hP hD hS rfl dX9_bands_69
          · exact absurd c_12 (by decide)
        · have gc_11 : b1.toInt < n_1.toInt := i_nle (rfl : n_1.toInt = n_1.toInt) (rfl : b1.toInt = b1.toInt) c_11
          refine lv_iload_n hx hb dX9_bands_31 rfl (lv_at hl 2 rfl) ?_
          refine lv_iload_n hx hb dX9_bands_32 rfl (lv_at hl 3 rfl) ?_
          refine lv_iand hx hb dX9_bands_33 ?_
          refine lv_topi (fun n_14 en_14 => ?_)
          have bn_14 := i_andl en_14 (show 0 ≤ a1.toInt by omega)
          refine lv_if_ne (tgt := 41) hx hb dX9_bands_34 (by decide) (fun c_15 => ?_) (fun c_15 => ?_)
          · have gc_15 : n_14.toInt ≠ 0 := i_ne (rfl : n_14.toInt = n_14.toInt) (by decide : (0 : Int32).toInt = 0) c_15
            refine lv_iconst (v := 0) hx hb dX9_bands_41 (by decide) ?_
            refine lv_istore (lv' := [(5, .int 0), (4, .int n_1), (0, .ref (hs 0)), (1, .int a1), (2, .int b1), (3, .int what)]) hx hb dX9_bands_42 hl (by decide) rfl (fun ls hl => ?_)
            refine lv_iload hx hb dX9_bands_44 (lv_at hl 0 rfl) ?_
            refine lv_if_eq (tgt := 68) hx hb dX9_bands_46 (by decide) (fun c_16 => ?_) (fun c_16 => ?_)
            · skip
              refine lv_iconst (v := (-1)) hx hb dX9_bands_68 (by decide) ?_
              have k_17 : ((-1) : Int32).toInt = (-1) := by decide
              exact hrt (-1) f_rletters f_rstack f_first f_second ⟨hr_first, hr_second⟩ hP hD hS rfl dX9_bands_69
            · exact absurd c_16 (by decide)
          · have gc_15 : n_14.toInt = 0 := i_eq (rfl : n_14.toInt = n_14.toInt) (by decide : (0 : Int32).toInt = 0) c_15
            refine lv_iconst (v := 1) hx hb dX9_bands_37 (by decide) ?_
            refine lv_goto (tgt := 42) hx hb dX9_bands_38 (by decide) ?_
            refine lv_istore (lv' := [(5, .int 1), (4, .int n_1), (0, .ref (hs 0)), (1, .int a1), (2, .int b1), (3, .int what)]) hx hb dX9_bands_42 hl (by decide) rfl (fun ls hl => ?_)
            refine lv_iload hx hb dX9_bands_44 (lv_at hl 0 rfl) ?_
            refine lv_if_eq (tgt := 68) hx hb dX9_bands_46 (by decide) (fun c_18 => ?_) (fun c_18 => ?_)
            · exact absurd c_18 (by decide)
            · skip
              refine lv_iload_n hx hb dX9_bands_49 rfl (lv_at hl 5 rfl) ?_
              refine lv_if_lt (tgt := 68) hx hb dX9_bands_50 (by decide) (fun c_19 => ?_) (fun c_19 => ?_)
              · have gc_19 : what.toInt < 0 := i_lt (rfl : what.toInt = what.toInt) (by decide : (0 : Int32).toInt = 0) c_19
                refine lv_iconst (v := (-1)) hx hb dX9_bands_68 (by decide) ?_
                have k_20 : ((-1) : Int32).toInt = (-1) := by decide
                exact hrt (-1) f_rletters f_rstack f_first f_second ⟨hr_first, hr_second⟩ hP hD hS rfl dX9_bands_69
              · have gc_19 : 0 ≤ what.toInt := i_nlt (rfl : what.toInt = what.toInt) (by decide : (0 : Int32).toInt = 0) c_19
                refine lv_iload_n hx hb dX9_bands_53 rfl (lv_at hl 5 rfl) ?_
                refine lv_iconst (v := 1) hx hb dX9_bands_54 (by decide) ?_
                refine lv_icmp_gt (tgt := 68) hx hb dX9_bands_55 (by decide) (fun c_21 => ?_) (fun c_21 => ?_)
                · have gc_21 : 1 < what.toInt := i_lt (by decide : (1 : Int32).toInt = 1) (rfl : what.toInt = what.toInt) c_21
                  refine lv_iconst (v := (-1)) hx hb dX9_bands_68 (by decide) ?_
                  have k_22 : ((-1) : Int32).toInt = (-1) := by decide
                  exact hrt (-1) f_rletters f_rstack f_first f_second ⟨hr_first, hr_second⟩ hP hD hS rfl dX9_bands_69
                · have gc_21 : what.toInt ≤ 1 := i_nlt (by decide : (1 : Int32).toInt = 1) (rfl : what.toInt = what.toInt) c_21
                  refine lv_aload_n hx hb dX9_bands_58 rfl (lv_at hl 2 rfl) ?_
                  refine gt_SP_SP_band hx hb hts hown hK hP lwd_19 dX9_bands_59 ?_
                  refine gt_SP_band_pieces hx hb hts hown hK hP lwd_258 dX9_bands_62 ?_
                  refine lv_if_ne (tgt := 70) hx hb dX9_bands_65 (by decide) (fun c_23 => ?_) (fun c_23 => ?_)
                  · have gc_23 : v_band_pieces.toInt ≠ 0 := i_ne (rfl : v_band_pieces.toInt = v_band_pieces.toInt) (by decide : (0 : Int32).toInt = 0) c_23
                    refine lv_aload_n hx hb dX9_bands_70 rfl (lv_at hl 2 rfl) ?_
                    refine gt_SP_SP_meeting hx hb hts hown hK hP lwd_47 dX9_bands_71 ?_
                    refine lv_iload_n hx hb dX9_bands_74 rfl (lv_at hl 3 rfl) ?_
                    refine lv_iload_n hx hb dX9_bands_75 rfl (lv_at hl 4 rfl) ?_
                    refine xi hD hS hA (xV (As := [.int a1, .int b1]) (rest := []) hx hb hml hown hts hK hP hD hS hA NS_ok hN hAe hl.1 ⟨Nat.le_refl _, Nat.le_refl _⟩ 74 rfl rfl rfl (c_X2_prepare l D cy hs hH hT sH sT v_tape_size v_band_walkers v_band_loads v_band_pieces v_rules_clauses v_reader_end v_reader_at v_reader_length v_reader_letter v_reader_fault v_draft_clauses v_paces_version v_packing_quicker v_packing_loads v_packing_looseCount v_marches_told v_marches_changeMinutes v_marches_marching v_marches_gone v_search_known v_search_countHere v_search_countThere v_search_cost v_search_most v_search_found f_bytes f_knee f_weight f_limps f_bheft f_owner f_food f_miles f_slope f_rsteps f_rkind f_ryields f_rholds f_rletters f_rstack f_dsteps f_dkind f_dyields f_dholds f_dletters f_dstack f_caps f_versions f_sharing f_pheft f_prow f_holder f_comes f_pcaps f_room f_loose f_reached f_mrow f_minutesOn f_mtired f_here f_there f_statesHere f_statesThere f_listed f_stired f_burdens f_pacesOn f_restedOn f_behindOn f_behindFor f_first f_second f_plans f_tiredOn tS s.heap.size a1 b1 (by omega) (by omega) (by omega) hr_weight hr_limps hr_miles hr_first hr_second) (gi_V lwd_1167 lwd_1168 lwd_1169 lwd_46 lwd_1170) ⟨rfl, hd_X2_prepare⟩ ⟨Nat.le_of_ble_eq_true rfl, Nat.le_of_ble_eq_true rfl⟩ rfl (Nat.le_of_ble_eq_true rfl) dX9_bands_76) (fun r_25 u_24 H locs hw hP hD hS => ?_)
                    obtain ⟨zrletters_26, zrstack_27, zfirst_28, zsecond_29⟩ := u_24
                    try dsimp only at hw hP hD
                    obtain ⟨p_30, p_31, p_32⟩ := hw
                    refine lv_if_ne (tgt := 85) hx hb dX9_bands_79 (by decide) (fun c_33 => ?_) (fun c_33 => ?_)
                    · have gc_33 : r_25.toInt ≠ 0 := i_ne (rfl : r_25.toInt = r_25.toInt) (by decide : (0 : Int32).toInt = 0) c_33
                      refine lv_aload_n hx hb dX9_bands_85 rfl (lv_at hl 2 rfl) ?_
                      refine gt_SP_SP_meeting hx hb hts hown hK hP lwd_47 dX9_bands_86 ?_
                      refine xi hD hS hA (xV (As := []) (rest := []) hx hb hml hown hts hK hP hD hS hA NS_ok hN hAe hl.1 ⟨Nat.le_refl _, Nat.le_refl _⟩ 74 rfl rfl rfl (c_X2_minute l D cy hs hH hT sH sT v_tape_size v_band_walkers v_band_loads v_band_pieces v_rules_clauses v_reader_end v_reader_at v_reader_length v_reader_letter v_reader_fault v_draft_clauses v_paces_version v_packing_quicker v_packing_loads v_packing_looseCount v_marches_told v_marches_changeMinutes v_marches_marching v_marches_gone v_search_known v_search_countHere v_search_countThere v_search_cost v_search_most v_search_found f_bytes f_knee f_weight f_limps f_bheft f_owner f_food f_miles f_slope f_rsteps f_rkind f_ryields f_rholds zrletters_26 zrstack_27 f_dsteps f_dkind f_dyields f_dholds f_dletters f_dstack f_caps f_versions f_sharing f_pheft f_prow f_holder f_comes f_pcaps f_room f_loose f_reached f_mrow f_minutesOn f_mtired f_here f_there f_statesHere f_statesThere f_listed f_stired f_burdens f_pacesOn f_restedOn f_behindOn f_behindFor zfirst_28 zsecond_29 f_plans f_tiredOn tS H.size (by omega) hr_miles p_31 p_32) (gi_V lwd_1179 lwd_1180 lwd_1181 lwd_46 lwd_1182) ⟨rfl, hd_X2_minute⟩ ⟨Nat.le_of_ble_eq_true rfl, Nat.le_of_ble_eq_true rfl⟩ rfl (Nat.le_of_ble_eq_true rfl) dX9_bands_89) (fun r_35 u_34 H locs hw hP hD hS => ?_)
                      try dsimp only at hw hP hD
                      clear hw
                      refine lv_istore (lv' := [(6, .int r_35), (5, .int 1), (4, .int n_1), (0, .ref (hs 0)), (1, .int a1), (2, .int b1), (3, .int what)]) hx hb dX9_bands_92 hl (by decide) rfl (fun ls hl => ?_)
                      refine lv_iload_n hx hb dX9_bands_94 rfl (lv_at hl 6 rfl) ?_
                      refine lv_if_ne (tgt := 103) hx hb dX9_bands_95 (by decide) (fun c_36 => ?_) (fun c_36 => ?_)
                      · have gc_36 : what.toInt ≠ 0 := i_ne (rfl : what.toInt = what.toInt) (by decide : (0 : Int32).toInt = 0) c_36
                        refine lv_aload_n hx hb dX9_bands_103 rfl (lv_at hl 3 rfl) ?_
                        refine gt_SP_SP_meeting hx hb hts hown hK hP lwd_47 dX9_bands_104 ?_
                        refine lv_iload hx hb dX9_bands_107 (lv_at hl 0 rfl) ?_
                        refine xi hD hS hA (xV (As := [.int r_35]) (rest := []) hx hb hml hown hts hK hP hD hS hA NS_ok hN hAe hl.1 ⟨Nat.le_refl _, Nat.le_refl _⟩ 74 rfl rfl rfl (c_X2_goneByFirst l D cy hs hH hT sH sT v_tape_size v_band_walkers v_band_loads v_band_pieces v_rules_clauses v_reader_end v_reader_at v_reader_length v_reader_letter v_reader_fault v_draft_clauses v_paces_version v_packing_quicker v_packing_loads v_packing_looseCount v_marches_told v_marches_changeMinutes v_marches_marching v_marches_gone v_search_known v_search_countHere v_search_countThere v_search_cost v_search_most v_search_found f_bytes f_knee f_weight f_limps f_bheft f_owner f_food f_miles f_slope f_rsteps f_rkind f_ryields f_rholds zrletters_26 zrstack_27 f_dsteps f_dkind f_dyields f_dholds f_dletters f_dstack f_caps f_versions f_sharing f_pheft f_prow f_holder f_comes f_pcaps f_room f_loose f_reached f_mrow f_minutesOn f_mtired f_here f_there f_statesHere f_statesThere f_listed f_stired f_burdens f_pacesOn f_restedOn f_behindOn f_behindFor zfirst_28 zsecond_29 f_plans f_tiredOn tS H.size r_35 (by omega) hr_miles p_31) (gi_V lwd_1197 lwd_1186 lwd_1187 lwd_46 lwd_1188) ⟨rfl, hd_X2_goneByFirst⟩ ⟨Nat.le_of_ble_eq_true rfl, Nat.le_of_ble_eq_true rfl⟩ rfl (Nat.le_of_ble_eq_true rfl) dX9_bands_109) (fun r_38 u_37 H locs hw hP hD hS => ?_)
                        try dsimp only at hw hP hD
                        clear hw
                        exact hrt r_38 zrletters_26 zrstack_27 zfirst_28 zsecond_29 ⟨p_31, p_32⟩ hP hD hS rfl dX9_bands_112
                      · have gc_36 : what.toInt = 0 := i_eq (rfl : what.toInt = what.toInt) (by decide : (0 : Int32).toInt = 0) c_36
                        refine lv_iload hx hb dX9_bands_98 (lv_at hl 0 rfl) ?_
                        refine lv_goto (tgt := 112) hx hb dX9_bands_100 (by decide) ?_
                        exact hrt r_35 zrletters_26 zrstack_27 zfirst_28 zsecond_29 ⟨p_31, p_32⟩ hP hD hS rfl dX9_bands_112
                    · have gc_33 : r_25.toInt = 0 := i_eq (rfl : r_25.toInt = r_25.toInt) (by decide : (0 : Int32).toInt = 0) c_33
                      refine lv_bipush (v := (-2)) hx hb dX9_bands_82 (by decide) ?_
                      have k_39 : ((-2) : Int32).toInt = (-2) := by decide
                      exact hrt (-2) zrletters_26 zrstack_27 zfirst_28 zsecond_29 ⟨p_31, p_32⟩ hP hD hS rfl dX9_bands_84
                  · have gc_23 : v_band_pieces.toInt = 0 := i_eq (rfl : v_band_pieces.toInt = v_band_pieces.toInt) (by decide : (0 : Int32).toInt = 0) c_23
                    refine lv_iconst (v := (-1)) hx hb dX9_bands_68 (by decide) ?_
                    have k_40 : ((-1) : Int32).toInt = (-1) := by decide
                    exact hrt (-1) f_rletters f_rstack f_first f_second ⟨hr_first, hr_second⟩ hP hD hS rfl dX9_bands_69
set_option maxHeartbeats 16000000 in
set_option maxRecDepth 100000 in
theorem c_X9_kettle (l : Launch) (D : va_G) (cy : Nat → ClassId) (hs : Nat → Nat) (hH hT sH sT : Nat) (v_tape_size v_band_walkers v_band_loads v_band_pieces v_rules_clauses v_reader_end v_reader_at v_reader_length v_reader_letter v_reader_fault v_draft_clauses v_paces_version v_packing_quicker v_packing_loads v_packing_looseCount v_marches_told v_marches_changeMinutes v_marches_marching v_marches_gone v_search_known v_search_countHere v_search_countThere v_search_cost v_search_most : Int32) (v_search_found : Int64) (f_bytes f_knee f_weight f_limps f_bheft f_owner f_food f_miles f_slope f_rsteps f_rkind f_ryields f_rholds f_rletters f_rstack f_dsteps f_dkind f_dyields f_dholds f_dletters f_dstack f_caps f_versions f_sharing f_pheft f_prow f_holder f_comes f_pcaps f_room f_loose f_reached f_mrow f_minutesOn f_mtired : Nat → Int32) (f_here f_there : Nat → Int64) (f_statesHere f_statesThere f_listed f_stired f_burdens f_pacesOn f_restedOn f_behindOn f_behindFor f_first f_second : Nat → Int32) (f_plans f_tiredOn : Nat → Nat → Int32) (tS : Nat) (sz : Nat) (x : Int32) (hb_v_band_walkers : 0 ≤ v_band_walkers.toInt ∧ v_band_walkers.toInt ≤ 6) (hb_v_band_loads : 0 ≤ v_band_loads.toInt ∧ v_band_loads.toInt ≤ 9) (hb_v_band_pieces : 0 ≤ v_band_pieces.toInt ∧ v_band_pieces.toInt ≤ 10) (hb_v_rules_clauses : 0 ≤ v_rules_clauses.toInt ∧ v_rules_clauses.toInt ≤ 14) (hb_v_marches_marching : 0 ≤ v_marches_marching.toInt ∧ v_marches_marching.toInt ≤ 1) (hb_v_marches_gone : 0 ≤ v_marches_gone.toInt ∧ v_marches_gone.toInt ≤ 10) (hr_weight : rg (0) 250 f_weight) (hr_limps : rg (0) 1 f_limps) (hr_bheft : rg (0) 120 f_bheft) (hr_food : rg (0) 20 f_food) (hr_miles : rg (0) 20 f_miles) (hr_mrow : rg (0) 17 f_mrow) (hr_mtired : rg (0) 5 f_mtired) (hr_tiredOn : rg2 (0) 5 f_tiredOn) : gMi l yX9_kettle cX9_kettle 6 .int 6 [.ref (hs 0), .int x] D cy (wSP cy hs hH hT sH sT v_tape_size v_band_walkers v_band_loads v_band_pieces v_rules_clauses v_reader_end v_reader_at v_reader_length v_reader_letter v_reader_fault v_draft_clauses v_paces_version v_packing_quicker v_packing_loads v_packing_looseCount v_marches_told v_marches_changeMinutes v_marches_marching v_marches_gone v_search_known v_search_countHere v_search_countThere v_search_cost v_search_most v_search_found f_bytes f_knee f_weight f_limps f_bheft f_owner f_food f_miles f_slope f_rsteps f_rkind f_ryields f_rholds f_rletters f_rstack f_dsteps f_dkind f_dyields f_dholds f_dletters f_dstack f_caps f_versions f_sharing f_pheft f_prow f_holder f_comes f_pcaps f_room f_loose f_reached f_mrow f_minutesOn f_mtired f_here f_there f_statesHere f_statesThere f_listed f_stired f_burdens f_pacesOn f_restedOn f_behindOn f_behindFor f_first f_second f_plans f_tiredOn) (NS tS) sz (fun (r : Int32) (u : Int32 × (Nat → Int32) × (Nat → Int32) × (Nat → Int32) × (Nat → Int32) × (Nat → Nat → Int32)) => (0 ≤ (u.1).toInt ∧ (u.1).toInt ≤ 10) ∧ (rg (0) 5 (u.2.2.2.2.1)) ∧ (rg2 (0) 5 (u.2.2.2.2.2))) (fun u => wSP cy hs hH hT sH sT v_tape_size v_band_walkers v_band_loads v_band_pieces v_rules_clauses v_reader_end v_reader_at v_reader_length v_reader_letter v_reader_fault v_draft_clauses v_paces_version v_packing_quicker v_packing_loads v_packing_looseCount v_marches_told v_marches_changeMinutes v_marches_marching (u.1) v_search_known v_search_countHere v_search_countThere v_search_cost v_search_most v_search_found f_bytes f_knee f_weight f_limps f_bheft f_owner f_food f_miles f_slope f_rsteps f_rkind f_ryields f_rholds (u.2.1) (u.2.2.1) f_dsteps f_dkind f_dyields f_dholds f_dletters f_dstack f_caps f_versions f_sharing f_pheft f_prow f_holder f_comes f_pcaps f_room f_loose f_reached f_mrow (u.2.2.2.1) (u.2.2.2.2.1) f_here f_there f_statesHere f_statesThere f_listed f_stired f_burdens f_pacesOn f_restedOn f_behindOn f_behindFor f_first f_second f_plans (u.2.2.2.2.2)) := by
  refine gMi_in (by decide) (Nat.le_of_ble_eq_true rfl) ?_
  intro p e s m args below meth c A ls Q hx hb hml hts hown hsz hP hK hD hN hAe hA hS hl hret
  subst hsz
  have hl : lv_has ls 6 [(0, .ref (hs 0)), (1, .int x)] := hl
  have hrt := fun (r : Int32) (v_marches_gone' : Int32) (f_rletters' : Nat → Int32) (f_rstack' : Nat → Int32) (f_minutesOn' : Nat → Int32) (f_mtired' : Nat → Int32) (f_tiredOn' : Nat → Nat → Int32) (hp : (0 ≤ v_marches_gone'.toInt ∧ v_marches_gone'.toInt ≤ 10) ∧ (rg (0) 5 f_mtired') ∧ (rg2 (0) 5 f_tiredOn')) {H : Heap} {locs : List Loc} {pc : Nat} {ls : Array Slot} => hret r (v_marches_gone', f_rletters', f_rstack', f_minutesOn', f_mtired', f_tiredOn') (H := H) (locs := locs) (pc := pc) (ls := ls) hp
  clear hret
  refine lv_aload_n hx hb dX9_kettle_0 rfl (lv_at hl 0 rfl) ?_
  refine gt_SP_SP_band hx hb hts hown hK hP lwd_19 dX9_kettle_1 ?_
  refine lv_iload_n hx hb dX9_kettle_4 rfl (lv_at hl 1 rfl) ?_
  refine xi hD hS hA (xV (As := [.int x]) (rest := []) hx hb hml hown hts hK hP hD hS hA NS_ok hN hAe hl.1 ⟨Nat.le_refl _, Nat.le_refl _⟩ 3 rfl rfl rfl (c_X0_hasLoad l D cy hs hH hT sH sT v_tape_size v_band_walkers v_band_loads v_band_pieces v_rules_clauses v_reader_end v_reader_at v_reader_length v_reader_letter v_reader_fault v_draft_clauses v_paces_version v_packing_quicker v_packing_loads v_packing_looseCount v_marches_told v_marches_changeMinutes v_marches_marching v_marches_gone v_search_known v_search_countHere v_search_countThere v_search_cost v_search_most v_search_found f_bytes f_knee f_weight f_limps f_bheft f_owner f_food f_miles f_slope f_rsteps f_rkind f_ryields f_rholds f_rletters f_rstack f_dsteps f_dkind f_dyields f_dholds f_dletters f_dstack f_caps f_versions f_sharing f_pheft f_prow f_holder f_comes f_pcaps f_room f_loose f_reached f_mrow f_minutesOn f_mtired f_here f_there f_statesHere f_statesThere f_listed f_stired f_burdens f_pacesOn f_restedOn f_behindOn f_behindFor f_first f_second f_plans f_tiredOn tS s.heap.size x (by omega)) (gi_V lwd_677 lwd_678 lwd_679 lwd_18 lwd_680) ⟨rfl, hd_X0_hasLoad⟩ ⟨Nat.le_of_ble_eq_true rfl, Nat.le_of_ble_eq_true rfl⟩ rfl (Nat.le_of_ble_eq_true rfl) dX9_kettle_5) (fun r_2 u_1 H locs hw hP hD hS => ?_)
  try dsimp only at hw hP hD
  obtain ⟨p_3, p_4⟩ := hw
  refine lv_if_eq (tgt := 21) hx hb dX9_kettle_8 (by decide) (fun c_5 => ?_) (fun c_5 => ?_)
  · have gc_5 : r_2.toInt = 0 := i_eq (rfl : r_2.toInt = r_2.toInt) (by decide : (0 : Int32).toInt = 0) c_5
    refine lv_iconst (v := (-1)) hx hb dX9_kettle_21 (by decide) ?_
    have k_6 : ((-1) : Int32).toInt = (-1) := by decide
    exact hrt (-1) v_marches_gone f_rletters f_rstack f_minutesOn f_mtired f_tiredOn ⟨(by omega), hr_mtired, hr_tiredOn⟩ hP hD hS rfl dX9_kettle_22
  · have gc_5 : r_2.toInt ≠ 0 := i_ne (rfl : r_2.toInt = r_2.toInt) (by decide : (0 : Int32).toInt = 0) c_5
    refine lv_aload_n hx hb dX9_kettle_11 rfl (lv_at hl 0 rfl) ?_
    refine gt_SP_SP_marches hx hb hts hown hK hP lwd_39 dX9_kettle_12 ?_
    refine gt_SP_marches_marching hx hb hts hown hK hP lwd_210 dX9_kettle_15 ?_
    refine lv_if_ne (tgt := 23) hx hb dX9_kettle_18 (by decide) (fun c_7 => ?_) (fun c_7 => ?_)
    · have gc_7 : v_marches_marching.toInt ≠ 0 := i_ne (rfl : v_marches_marching.toInt = v_marches_marching.toInt) (by decide : (0 : Int32).toInt = 0) c_7
      refine lv_aload_n hx hb dX9_kettle_23 rfl (lv_at hl 0 rfl) ?_
      refine gt_SP_SP_marches hx hb hts hown hK hP lwd_39 dX9_kettle_24 ?_
      refine xv hD hS hA (xV (As := []) (rest := []) hx hb hml hown hts hK hP hD hS hA NS_ok hN hAe hl.1 ⟨Nat.le_refl _, Nat.le_refl _⟩ 40 rfl rfl rfl (c_X1_follow l D cy hs hH hT sH sT v_tape_size v_band_walkers v_band_loads v_band_pieces v_rules_clauses v_reader_end v_reader_at v_reader_length v_reader_letter v_reader_fault v_draft_clauses v_paces_version v_packing_quicker v_packing_loads v_packing_looseCount v_marches_told v_marches_changeMinutes v_marches_marching v_marches_gone v_search_known v_search_countHere v_search_countThere v_search_cost v_search_most v_search_found f_bytes f_knee f_weight f_limps f_bheft f_owner f_food f_miles f_slope f_rsteps f_rkind f_ryields f_rholds f_rletters f_rstack f_dsteps f_dkind f_dyields f_dholds f_dletters f_dstack f_caps f_versions f_sharing f_pheft f_prow f_holder f_comes f_pcaps f_room f_loose f_reached f_mrow f_minutesOn f_mtired f_here f_there f_statesHere f_statesThere f_listed f_stired f_burdens f_pacesOn f_restedOn f_behindOn f_behindFor f_first f_second f_plans f_tiredOn tS H.size (by omega) (by omega) (by omega) (by omega) (by omega) hr_weight hr_limps hr_bheft hr_food hr_miles hr_mrow hr_mtired hr_tiredOn) (gi_V lwd_926 lwd_927 lwd_928 lwd_38 lwd_929) ⟨rfl, hd_X1_follow⟩ ⟨Nat.le_of_ble_eq_true rfl, Nat.le_of_ble_eq_true rfl⟩ rfl (Nat.le_of_ble_eq_true rfl) dX9_kettle_27) (fun u_8 H locs hw hP hD hS => ?_)
      obtain ⟨zmarches_gone_10, zrletters_11, zrstack_12, zminutesOn_13, zmtired_14, ztiredOn_15⟩ := u_8
      try dsimp only at hw hP hD
      obtain ⟨p_16, p_17, p_18⟩ := hw
      refine lv_iconst (v := 0) hx hb dX9_kettle_30 (by decide) ?_
      refine lv_istore_n (lv' := [(2, .int 0), (0, .ref (hs 0)), (1, .int x)]) hx hb dX9_kettle_31 rfl hl (by decide) rfl (fun ls hl => ?_)
      refine lv_bipush (v := (-2)) hx hb dX9_kettle_32 (by decide) ?_
      refine lv_istore_n (lv' := [(3, .int (-2)), (2, .int 0), (0, .ref (hs 0)), (1, .int x)]) hx hb dX9_kettle_34 rfl hl (by decide) rfl (fun ls hl => ?_)
      refine lv_iconst (v := 0) hx hb dX9_kettle_35 (by decide) ?_
      refine lv_istore (lv' := [(4, .int 0), (3, .int (-2)), (2, .int 0), (0, .ref (hs 0)), (1, .int x)]) hx hb dX9_kettle_36 hl (by decide) rfl (fun ls hl => ?_)
      have L38_25 : ∀ (n : Nat) (l_22 : Int32) (l_23 : Int32) (l_24 : Int32), (0 ≤ l_24.toInt ∧ l_24.toInt ≤ 6) → 7 - l_24.toInt < n → ∀ (H : Heap) (locs : List Loc) (ls : Array Slot), va_P D vwCl (wSP cy hs hH hT sH sT v_tape_size v_band_walkers v_band_loads v_band_pieces v_rules_clauses v_reader_end v_reader_at v_reader_length v_reader_letter v_reader_fault v_draft_clauses v_paces_version v_packing_quicker v_packing_loads v_packing_looseCount v_marches_told v_marches_changeMinutes v_marches_marching zmarches_gone_10 v_search_known v_search_countHere v_search_countThere v_search_cost v_search_most v_search_found f_bytes f_knee f_weight f_limps f_bheft f_owner f_food f_miles f_slope f_rsteps f_rkind f_ryields f_rholds zrletters_11 zrstack_12 f_dsteps f_dkind f_dyields f_dholds f_dletters f_dstack f_caps f_versions f_sharing f_pheft f_prow f_holder f_comes f_pcaps f_room f_loose f_reached f_mrow zminutesOn_13 zmtired_14 f_here f_there f_statesHere f_statesThere f_listed f_stired f_burdens f_pacesOn f_restedOn f_behindOn f_behindFor f_first f_second f_plans ztiredOn_15) H → va_D A (wSP cy hs hH hT sH sT v_tape_size v_band_walkers v_band_loads v_band_pieces v_rules_clauses v_reader_end v_reader_at v_reader_length v_reader_letter v_reader_fault v_draft_clauses v_paces_version v_packing_quicker v_packing_loads v_packing_looseCount v_marches_told v_marches_changeMinutes v_marches_marching zmarches_gone_10 v_search_known v_search_countHere v_search_countThere v_search_cost v_search_most v_search_found f_bytes f_knee f_weight f_limps f_bheft f_owner f_food f_miles f_slope f_rsteps f_rkind f_ryields f_rholds zrletters_11 zrstack_12 f_dsteps f_dkind f_dyields f_dholds f_dletters f_dstack f_caps f_versions f_sharing f_pheft f_prow f_holder f_comes f_pcaps f_room f_loose f_reached f_mrow zminutesOn_13 zmtired_14 f_here f_there f_statesHere f_statesThere f_listed f_stired f_burdens f_pacesOn f_restedOn f_behindOn f_behindFor f_first f_second f_plans ztiredOn_15) → va_S A s.heap H locs → lv_has ls 6 [(4, .int l_24), (3, .int l_23), (2, .int l_22), (0, .ref (hs 0)), (1, .int x)] → W p l e (gRm 6) s m args below meth c H locs 0 0 Q (F0 m 38 ls []) := by
        intro n
        induction n with
        | zero => intro l_22 l_23 l_24 hL38_25_0 hm; exact absurd hm (by omega)
        | succ n ih38_25 =>
          intro l_22 l_23 l_24 hL38_25_0 hmL38_25 H locs ls hP hD hS hl
          refine lv_iload hx hb dX9_kettle_38 (lv_at hl 0 rfl) ?_
          refine lv_aload_n hx hb dX9_kettle_40 rfl (lv_at hl 3 rfl) ?_
          refine gt_SP_SP_band hx hb hts hown hK hP lwd_19 dX9_kettle_41 ?_
          refine gt_SP_band_walkers hx hb hts hown hK hP lwd_206 dX9_kettle_44 ?_
          refine lv_icmp_ge (tgt := 80) hx hb dX9_kettle_47 (by decide) (fun c_26 => ?_) (fun c_26 => ?_)
          · have gc_26 : v_band_walkers.toInt ≤ l_24.toInt := i_le (rfl : v_band_walkers.toInt = v_band_walkers.toInt) (rfl : l_24.toInt = l_24.toInt) c_26
            refine lv_iload_n hx hb dX9_kettle_80 rfl (lv_at hl 1 rfl) ?_
            exact hrt l_23 zmarches_gone_10 zrletters_11 zrstack_12 zminutesOn_13 zmtired_14 ztiredOn_15 ⟨(by omega), p_17, p_18⟩ hP hD hS rfl dX9_kettle_81
          · have gc_26 : l_24.toInt < v_band_walkers.toInt := i_nle (rfl : v_band_walkers.toInt = v_band_walkers.toInt) (rfl : l_24.toInt = l_24.toInt) c_26
            refine lv_aload_n hx hb dX9_kettle_50 rfl (lv_at hl 3 rfl) ?_
            refine gt_SP_SP_marches hx hb hts hown hK hP lwd_39 dX9_kettle_51 ?_
            refine lv_iload_n hx hb dX9_kettle_54 rfl (lv_at hl 4 rfl) ?_
            refine lv_iload hx hb dX9_kettle_55 (lv_at hl 0 rfl) ?_
            refine xi hD hS hA (xV (As := [.int x, .int l_24]) (rest := []) hx hb hml hown hts hK hP hD hS hA NS_ok hN hAe hl.1 ⟨Nat.le_refl _, Nat.le_refl _⟩ 40 rfl rfl rfl (c_X1_milesWith l D cy hs hH hT sH sT v_tape_size v_band_walkers v_band_loads v_band_pieces v_rules_clauses v_reader_end v_reader_at v_reader_length v_reader_letter v_reader_fault v_draft_clauses v_paces_version v_packing_quicker v_packing_loads v_packing_looseCount v_marches_told v_marches_changeMinutes v_marches_marching zmarches_gone_10 v_search_known v_search_countHere v_search_countThere v_search_cost v_search_most v_search_found f_bytes f_knee f_weight f_limps f_bheft f_owner f_food f_miles f_slope f_rsteps f_rkind f_ryields f_rholds zrletters_11 zrstack_12 f_dsteps f_dkind f_dyields f_dholds f_dletters f_dstack f_caps f_versions f_sharing f_pheft f_prow f_holder f_comes f_pcaps f_room f_loose f_reached f_mrow zminutesOn_13 zmtired_14 f_here f_there f_statesHere f_statesThere f_listed f_stired f_burdens f_pacesOn f_restedOn f_behindOn f_behindFor f_first f_second f_plans ztiredOn_15 tS H.size x l_24 (by omega) hr_miles hr_mrow (by omega)) (gi_V lwd_1214 lwd_1215 lwd_1216 lwd_38 lwd_1217) ⟨rfl, hd_X1_milesWith⟩ ⟨Nat.le_of_ble_eq_true rfl, Nat.le_of_ble_eq_true rfl⟩ rfl (Nat.le_of_ble_eq_true rfl) dX9_kettle_57) (fun r_28 u_27 H locs hw hP hD hS => ?_)
            try dsimp only at hw hP hD
            clear hw
            refine lv_istore (lv' := [(5, .int r_28), (4, .int l_24), (3, .int l_23), (2, .int l_22), (0, .ref (hs 0)), (1, .int x)]) hx hb dX9_kettle_60 hl (by decide) rfl (fun ls hl => ?_)
            refine lv_iload hx hb dX9_kettle_62 (lv_at hl 0 rfl) ?_
            refine lv_iload_n hx hb dX9_kettle_64 rfl (lv_at hl 3 rfl) ?_
            refine lv_icmp_le (tgt := 74) hx hb dX9_kettle_65 (by decide) (fun c_29 => ?_) (fun c_29 => ?_)
            · have gc_29 : r_28.toInt ≤ l_22.toInt := i_le (rfl : r_28.toInt = r_28.toInt) (rfl : l_22.toInt = l_22.toInt) c_29
              obtain ⟨n_30, en_30⟩ : ∃ y : Int32, y = l_24 + 1 := ⟨_, rfl⟩
              have tn_30 : n_30.toInt = l_24.toInt + 1 := i_add en_30 (rfl : l_24.toInt = l_24.toInt) (by decide : (1 : Int32).toInt = 1) (by omega) (by omega)
              refine lv_iinc (v := n_30) (lv' := [(4, .int n_30), (5, .int r_28), (3, .int l_23), (2, .int l_22), (0, .ref (hs 0)), (1, .int x)]) hx hb dX9_kettle_74 hl (k := 1) rfl (by rw [en_30]; rfl) (by decide) rfl (fun ls hl => ?_)
              refine lv_goto (tgt := 38) hx hb dX9_kettle_77 (by decide) ?_
              exact ih38_25 l_22 l_23 n_30 (by omega) (by omega) _ _ _ hP hD hS (lv_sub hl [0, 2, 3, 4, 5] rfl)
            · have gc_29 : l_22.toInt < r_28.toInt := i_nle (rfl : r_28.toInt = r_28.toInt) (rfl : l_22.toInt = l_22.toInt) c_29
              refine lv_iload hx hb dX9_kettle_68 (lv_at hl 0 rfl) ?_
              refine lv_istore_n (lv' := [(2, .int r_28), (5, .int r_28), (4, .int l_24), (3, .int l_23), (0, .ref (hs 0)), (1, .int x)]) hx hb dX9_kettle_70 rfl hl (by decide) rfl (fun ls hl => ?_)
              refine lv_iload hx hb dX9_kettle_71 (lv_at hl 2 rfl) ?_
              refine lv_istore_n (lv' := [(3, .int l_24), (2, .int r_28), (5, .int r_28), (4, .int l_24), (0, .ref (hs 0)), (1, .int x)]) hx hb dX9_kettle_73 rfl hl (by decide) rfl (fun ls hl => ?_)
              obtain ⟨n_31, en_31⟩ : ∃ y : Int32, y = l_24 + 1 := ⟨_, rfl⟩
              have tn_31 : n_31.toInt = l_24.toInt + 1 := i_add en_31 (rfl : l_24.toInt = l_24.toInt) (by decide : (1 : Int32).toInt = 1) (by omega) (by omega)
              refine lv_iinc (v := n_31) (lv' := [(4, .int n_31), (3, .int l_24), (2, .int r_28), (5, .int r_28), (0, .ref (hs 0)), (1, .int x)]) hx hb dX9_kettle_74 hl (k := 3) rfl (by rw [en_31]; rfl) (by decide) rfl (fun ls hl => ?_)
              refine lv_goto (tgt := 38) hx hb dX9_kettle_77 (by decide) ?_
              exact ih38_25 r_28 l_24 n_31 (by omega) (by omega) _ _ _ hP hD hS (lv_sub hl [0, 1, 2, 4, 5] rfl)
      have k_32 : (0 : Int32).toInt = 0 := by decide
      have k_33 : ((-2) : Int32).toInt = (-2) := by decide
      have k_34 : (0 : Int32).toInt = 0 := by decide
      exact L38_25 8589934592 0 (-2) 0 (by omega) (by omega) _ _ _ hP hD hS (lv_sub hl [0, 1, 2, 3, 4] rfl)
    · have gc_7 : v_marches_marching.toInt = 0 := i_eq (rfl : v_marches_marching.toInt = v_marches_marching.toInt) (by decide : (0 : Int32).toInt = 0) c_7
      refine lv_iconst (v := (-1)) hx hb dX9_kettle_21 (by decide) ?_
      have k_35 : ((-1) : Int32).toInt = (-1) := by decide
      exact hrt (-1) v_marches_gone f_rletters f_rstack f_minutesOn f_mtired f_tiredOn ⟨(by omega), hr_mtired, hr_tiredOn⟩ hP hD hS rfl dX9_kettle_22
set_option maxHeartbeats 16000000 in
set_option maxRecDepth 100000 in
theorem c_X9_check (l : Launch) (D : va_G) (cy : Nat → ClassId) (hs : Nat → Nat) (hH hT sH sT : Nat) (v_tape_size v_band_walkers v_band_loads v_band_pieces v_rules_clauses v_reader_end v_reader_at v_reader_length v_reader_letter v_reader_fault v_draft_clauses v_paces_version v_packing_quicker v_packing_loads v_packing_looseCount v_marches_told v_marches_changeMinutes v_marches_marching v_marches_gone v_search_known v_search_countHere v_search_countThere v_search_cost v_search_most : Int32) (v_search_found : Int64) (f_bytes f_knee f_weight f_limps f_bheft f_owner f_food f_miles f_slope f_rsteps f_rkind f_ryields f_rholds f_rletters f_rstack f_dsteps f_dkind f_dyields f_dholds f_dletters f_dstack f_caps f_versions f_sharing f_pheft f_prow f_holder f_comes f_pcaps f_room f_loose f_reached f_mrow f_minutesOn f_mtired : Nat → Int32) (f_here f_there : Nat → Int64) (f_statesHere f_statesThere f_listed f_stired f_burdens f_pacesOn f_restedOn f_behindOn f_behindFor f_first f_second : Nat → Int32) (f_plans f_tiredOn : Nat → Nat → Int32) (tS : Nat) (sz : Nat) (n1 : Int32) (hb_v_tape_size : 0 ≤ v_tape_size.toInt ∧ v_tape_size.toInt ≤ 220) (hb_v_band_walkers : 0 ≤ v_band_walkers.toInt ∧ v_band_walkers.toInt ≤ 6) (hb_v_band_loads : 0 ≤ v_band_loads.toInt ∧ v_band_loads.toInt ≤ 9) (hb_v_band_pieces : 0 ≤ v_band_pieces.toInt ∧ v_band_pieces.toInt ≤ 10) (hb_v_rules_clauses : 0 ≤ v_rules_clauses.toInt ∧ v_rules_clauses.toInt ≤ 14) (hb_v_marches_marching : 0 ≤ v_marches_marching.toInt ∧ v_marches_marching.toInt ≤ 1) (hb_v_marches_gone : 0 ≤ v_marches_gone.toInt ∧ v_marches_gone.toInt ≤ 10) (hr_bytes : rg (0) 255 f_bytes) (hr_weight : rg (0) 250 f_weight) (hr_limps : rg (0) 1 f_limps) (hr_bheft : rg (0) 120 f_bheft) (hr_food : rg (0) 20 f_food) (hr_miles : rg (0) 20 f_miles) (hr_mrow : rg (0) 17 f_mrow) (hr_mtired : rg (0) 5 f_mtired) (hr_tiredOn : rg2 (0) 5 f_tiredOn) : gMi l yX9_check cX9_check 5 .int 6 [.ref (hs 0), .int n1] D cy (wSP cy hs hH hT sH sT v_tape_size v_band_walkers v_band_loads v_band_pieces v_rules_clauses v_reader_end v_reader_at v_reader_length v_reader_letter v_reader_fault v_draft_clauses v_paces_version v_packing_quicker v_packing_loads v_packing_looseCount v_marches_told v_marches_changeMinutes v_marches_marching v_marches_gone v_search_known v_search_countHere v_search_countThere v_search_cost v_search_most v_search_found f_bytes f_knee f_weight f_limps f_bheft f_owner f_food f_miles f_slope f_rsteps f_rkind f_ryields f_rholds f_rletters f_rstack f_dsteps f_dkind f_dyields f_dholds f_dletters f_dstack f_caps f_versions f_sharing f_pheft f_prow f_holder f_comes f_pcaps f_room f_loose f_reached f_mrow f_minutesOn f_mtired f_here f_there f_statesHere f_statesThere f_listed f_stired f_burdens f_pacesOn f_restedOn f_behindOn f_behindFor f_first f_second f_plans f_tiredOn) (NS tS) sz (fun (r : Int32) (u : Int32 × Int32 × (Nat → Int32) × (Nat → Int32) × (Nat → Int32) × (Nat → Int32) × (Nat → Nat → Int32)) => (0 ≤ (u.1).toInt ∧ (u.1).toInt ≤ 220) ∧ (0 ≤ (u.2.1).toInt ∧ (u.2.1).toInt ≤ 10) ∧ (rg (0) 5 (u.2.2.2.2.2.1)) ∧ (rg2 (0) 5 (u.2.2.2.2.2.2))) (fun u => wSP cy hs hH hT sH sT (u.1) v_band_walkers v_band_loads v_band_pieces v_rules_clauses v_reader_end v_reader_at v_reader_length v_reader_letter v_reader_fault v_draft_clauses v_paces_version v_packing_quicker v_packing_loads v_packing_looseCount v_marches_told v_marches_changeMinutes v_marches_marching (u.2.1) v_search_known v_search_countHere v_search_countThere v_search_cost v_search_most v_search_found f_bytes f_knee f_weight f_limps f_bheft f_owner f_food f_miles f_slope f_rsteps f_rkind f_ryields f_rholds (u.2.2.1) (u.2.2.2.1) f_dsteps f_dkind f_dyields f_dholds f_dletters f_dstack f_caps f_versions f_sharing f_pheft f_prow f_holder f_comes f_pcaps f_room f_loose f_reached f_mrow (u.2.2.2.2.1) (u.2.2.2.2.2.1) f_here f_there f_statesHere f_statesThere f_listed f_stired f_burdens f_pacesOn f_restedOn f_behindOn f_behindFor f_first f_second f_plans (u.2.2.2.2.2.2)) := by
  refine gMi_in (by decide) (Nat.le_of_ble_eq_true rfl) ?_
  intro p e s m args below meth c A ls Q hx hb hml hts hown hsz hP hK hD hN hAe hA hS hl hret
  subst hsz
  have hl : lv_has ls 5 [(0, .ref (hs 0)), (1, .int n1)] := hl
  have hrt := fun (r : Int32) (v_tape_size' : Int32) (v_marches_gone' : Int32) (f_rletters' : Nat → Int32) (f_rstack' : Nat → Int32) (f_minutesOn' : Nat → Int32) (f_mtired' : Nat → Int32) (f_tiredOn' : Nat → Nat → Int32) (hp : (0 ≤ v_tape_size'.toInt ∧ v_tape_size'.toInt ≤ 220) ∧ (0 ≤ v_marches_gone'.toInt ∧ v_marches_gone'.toInt ≤ 10) ∧ (rg (0) 5 f_mtired') ∧ (rg2 (0) 5 f_tiredOn')) {H : Heap} {locs : List Loc} {pc : Nat} {ls : Array Slot} => hret r (v_tape_size', v_marches_gone', f_rletters', f_rstack', f_minutesOn', f_mtired', f_tiredOn') (H := H) (locs := locs) (pc := pc) (ls := ls) hp
  clear hret
  refine lv_aload_n hx hb dX9_check_0 rfl (lv_at hl 0 rfl) ?_
  refine gt_SP_SP_marches hx hb hts hown hK hP lwd_39 dX9_check_1 ?_
  refine gt_SP_marches_marching hx hb hts hown hK hP lwd_210 dX9_check_4 ?_
  refine lv_if_eq (tgt := 27) hx hb dX9_check_7 (by decide) (fun c_1 => ?_) (fun c_1 => ?_)
  · have gc_1 : v_marches_marching.toInt = 0 := i_eq (rfl : v_marches_marching.toInt = v_marches_marching.toInt) (by decide : (0 : Int32).toInt = 0) c_1
    refine lv_bipush (v := (-2)) hx hb dX9_check_27 (by decide) ?_
    have k_2 : ((-2) : Int32).toInt = (-2) := by decide
    exact hrt (-2) v_tape_size v_marches_gone f_rletters f_rstack f_minutesOn f_mtired f_tiredOn ⟨(by omega), (by omega), hr_mtired, hr_tiredOn⟩ hP hD hS rfl dX9_check_29
  · have gc_1 : v_marches_marching.toInt ≠ 0 := i_ne (rfl : v_marches_marching.toInt = v_marches_marching.toInt) (by decide : (0 : Int32).toInt = 0) c_1
    refine lv_iload_n hx hb dX9_check_10 rfl (lv_at hl 1 rfl) ?_
    refine lv_if_lt (tgt := 27) hx hb dX9_check_11 (by decide) (fun c_3 => ?_) (fun c_3 => ?_)
    · have gc_3 : n1.toInt < 0 := i_lt (rfl : n1.toInt = n1.toInt) (by decide : (0 : Int32).toInt = 0) c_3
      refine lv_bipush (v := (-2)) hx hb dX9_check_27 (by decide) ?_
      have k_4 : ((-2) : Int32).toInt = (-2) := by decide
      exact hrt (-2) v_tape_size v_marches_gone f_rletters f_rstack f_minutesOn f_mtired f_tiredOn ⟨(by omega), (by omega), hr_mtired, hr_tiredOn⟩ hP hD hS rfl dX9_check_29
    · have gc_3 : 0 ≤ n1.toInt := i_nlt (rfl : n1.toInt = n1.toInt) (by decide : (0 : Int32).toInt = 0) c_3
      refine lv_iload_n hx hb dX9_check_14 rfl (lv_at hl 1 rfl) ?_
      refine lv_aload_n hx hb dX9_check_15 rfl (lv_at hl 0 rfl) ?_
      refine gt_SP_SP_tape hx hb hts hown hK hP lwd_15 dX9_check_16 ?_
      refine gt_SP_tape_size hx hb hts hown hK hP lwd_288 dX9_check_19 ?_
      refine lv_iconst (v := 4) hx hb dX9_check_22 (by decide) ?_
      refine lv_idiv hx hb dX9_check_23 (by decide) ?_
      refine lv_topi (fun n_5 en_5 => ?_)
      have tn_5 : n_5.toInt = v_tape_size.toInt / 4 := i_div en_5 (rfl : v_tape_size.toInt = v_tape_size.toInt) (by decide : (4 : Int32).toInt = 4) (by omega) (by omega)
      refine lv_icmp_le (tgt := 30) hx hb dX9_check_24 (by decide) (fun c_6 => ?_) (fun c_6 => ?_)
      · have gc_6 : n1.toInt ≤ v_tape_size.toInt / 4 := i_le (rfl : n1.toInt = n1.toInt) tn_5 c_6
        refine lv_aload_n hx hb dX9_check_30 rfl (lv_at hl 0 rfl) ?_
        refine gt_SP_SP_marches hx hb hts hown hK hP lwd_39 dX9_check_31 ?_
        refine xv hD hS hA (xV (As := []) (rest := []) hx hb hml hown hts hK hP hD hS hA NS_ok hN hAe hl.1 ⟨Nat.le_refl _, Nat.le_refl _⟩ 40 rfl rfl rfl (c_X1_follow l D cy hs hH hT sH sT v_tape_size v_band_walkers v_band_loads v_band_pieces v_rules_clauses v_reader_end v_reader_at v_reader_length v_reader_letter v_reader_fault v_draft_clauses v_paces_version v_packing_quicker v_packing_loads v_packing_looseCount v_marches_told v_marches_changeMinutes v_marches_marching v_marches_gone v_search_known v_search_countHere v_search_countThere v_search_cost v_search_most v_search_found f_bytes f_knee f_weight f_limps f_bheft f_owner f_food f_miles f_slope f_rsteps f_rkind f_ryields f_rholds f_rletters f_rstack f_dsteps f_dkind f_dyields f_dholds f_dletters f_dstack f_caps f_versions f_sharing f_pheft f_prow f_holder f_comes f_pcaps f_room f_loose f_reached f_mrow f_minutesOn f_mtired f_here f_there f_statesHere f_statesThere f_listed f_stired f_burdens f_pacesOn f_restedOn f_behindOn f_behindFor f_first f_second f_plans f_tiredOn tS s.heap.size (by omega) (by omega) (by omega) (by omega) (by omega) hr_weight hr_limps hr_bheft hr_food hr_miles hr_mrow hr_mtired hr_tiredOn) (gi_V lwd_926 lwd_927 lwd_928 lwd_38 lwd_929) ⟨rfl, hd_X1_follow⟩ ⟨Nat.le_of_ble_eq_true rfl, Nat.le_of_ble_eq_true rfl⟩ rfl (Nat.le_of_ble_eq_true rfl) dX9_check_34) (fun u_7 H locs hw hP hD hS => ?_)
        obtain ⟨zmarches_gone_9, zrletters_10, zrstack_11, zminutesOn_12, zmtired_13, ztiredOn_14⟩ := u_7
        try dsimp only at hw hP hD
        obtain ⟨p_15, p_16, p_17⟩ := hw
        refine lv_iload_n hx hb dX9_check_37 rfl (lv_at hl 1 rfl) ?_
        refine lv_aload_n hx hb dX9_check_38 rfl (lv_at hl 0 rfl) ?_
        refine gt_SP_SP_marches hx hb hts hown hK hP lwd_39 dX9_check_39 ?_
        refine gt_SP_marches_gone hx hb hts hown hK hP lwd_925 dX9_check_42 ?_
        refine va_mmin hx hb (by rw [hml]; exact hl.1.symm) hown (hts _ lwd_815) (hts _ lwd_528) (hts _ lwd_529) (hts _ lwd_530) (Nat.le_of_ble_eq_true rfl) (Nat.le_of_ble_eq_true rfl) (Nat.zero_le _) (Nat.zero_le _) dX9_check_45 ?_
        refine lv_topi (fun n_18 en_18 => ?_)
        have tn_18 := i_min en_18 (rfl : n1.toInt = n1.toInt) (rfl : zmarches_gone_9.toInt = zmarches_gone_9.toInt)
        refine lv_istore_n (lv' := [(2, .int n_18), (0, .ref (hs 0)), (1, .int n1)]) hx hb dX9_check_48 rfl hl (by decide) rfl (fun ls hl => ?_)
        refine lv_iload_n hx hb dX9_check_49 rfl (lv_at hl 2 rfl) ?_
        refine lv_aload_n hx hb dX9_check_50 rfl (lv_at hl 1 rfl) ?_
        refine gt_SP_SP_marches hx hb hts hown hK hP lwd_39 dX9_check_51 ?_
        refine gt_SP_marches_gone hx hb hts hown hK hP lwd_925 dX9_check_54 ?_
        refine lv_icmp_ne (tgt := 64) hx hb dX9_check_57 (by decide) (fun c_19 => ?_) (fun c_19 => ?_)
        · have gc_19 : n1.toInt ≠ zmarches_gone_9.toInt := i_ne (rfl : n1.toInt = n1.toInt) (rfl : zmarches_gone_9.toInt = zmarches_gone_9.toInt) c_19
          refine lv_iload_n hx hb dX9_check_64 rfl (lv_at hl 0 rfl) ?_
          refine lv_istore_n (lv' := [(3, .int n_18), (2, .int n_18), (0, .ref (hs 0)), (1, .int n1)]) hx hb dX9_check_65 rfl hl (by decide) rfl (fun ls hl => ?_)
          refine lv_iload_n hx hb dX9_check_66 rfl (lv_at hl 1 rfl) ?_
          refine lv_iconst (v := 1) hx hb dX9_check_67 (by decide) ?_
          refine lv_isub hx hb dX9_check_68 ?_
          refine lv_topi (fun n_20 en_20 => ?_)
          have tn_20 : n_20.toInt = n_18.toInt - 1 := i_sub en_20 (rfl : n_18.toInt = n_18.toInt) (by decide : (1 : Int32).toInt = 1) (by omega) (by omega)
          refine lv_istore (lv' := [(4, .int n_20), (3, .int n_18), (2, .int n_18), (0, .ref (hs 0)), (1, .int n1)]) hx hb dX9_check_69 hl (by decide) rfl (fun ls hl => ?_)
          have L71_25 : ∀ (n : Nat) (l_23 : Int32) (l_24 : Int32), (-1000 ≤ l_24.toInt ∧ l_24.toInt ≤ 9) → l_24.toInt + 1001 < n → ∀ (H : Heap) (locs : List Loc) (ls : Array Slot), va_P D vwCl (wSP cy hs hH hT sH sT v_tape_size v_band_walkers v_band_loads v_band_pieces v_rules_clauses v_reader_end v_reader_at v_reader_length v_reader_letter v_reader_fault v_draft_clauses v_paces_version v_packing_quicker v_packing_loads v_packing_looseCount v_marches_told v_marches_changeMinutes v_marches_marching zmarches_gone_9 v_search_known v_search_countHere v_search_countThere v_search_cost v_search_most v_search_found f_bytes f_knee f_weight f_limps f_bheft f_owner f_food f_miles f_slope f_rsteps f_rkind f_ryields f_rholds zrletters_10 zrstack_11 f_dsteps f_dkind f_dyields f_dholds f_dletters f_dstack f_caps f_versions f_sharing f_pheft f_prow f_holder f_comes f_pcaps f_room f_loose f_reached f_mrow zminutesOn_12 zmtired_13 f_here f_there f_statesHere f_statesThere f_listed f_stired f_burdens f_pacesOn f_restedOn f_behindOn f_behindFor f_first f_second f_plans ztiredOn_14) H → va_D A (wSP cy hs hH hT sH sT v_tape_size v_band_walkers v_band_loads v_band_pieces v_rules_clauses v_reader_end v_reader_at v_reader_length v_reader_letter v_reader_fault v_draft_clauses v_paces_version v_packing_quicker v_packing_loads v_packing_looseCount v_marches_told v_marches_changeMinutes v_marches_marching zmarches_gone_9 v_search_known v_search_countHere v_search_countThere v_search_cost v_search_most v_search_found f_bytes f_knee f_weight f_limps f_bheft f_owner f_food f_miles f_slope f_rsteps f_rkind f_ryields f_rholds zrletters_10 zrstack_11 f_dsteps f_dkind f_dyields f_dholds f_dletters f_dstack f_caps f_versions f_sharing f_pheft f_prow f_holder f_comes f_pcaps f_room f_loose f_reached f_mrow zminutesOn_12 zmtired_13 f_here f_there f_statesHere f_statesThere f_listed f_stired f_burdens f_pacesOn f_restedOn f_behindOn f_behindFor f_first f_second f_plans ztiredOn_14) → va_S A s.heap H locs → lv_has ls 5 [(4, .int l_24), (3, .int l_23), (2, .int n_18), (0, .ref (hs 0)), (1, .int n1)] → W p l e (gRm 6) s m args below meth c H locs 0 0 Q (F0 m 71 ls []) := by
            intro n
            induction n with
            | zero => intro l_23 l_24 hL71_25_0 hm; exact absurd hm (by omega)
            | succ n ih71_25 =>
              intro l_23 l_24 hL71_25_0 hmL71_25 H locs ls hP hD hS hl
              refine lv_iload hx hb dX9_check_71 (lv_at hl 0 rfl) ?_
              refine lv_if_lt (tgt := 107) hx hb dX9_check_73 (by decide) (fun c_26 => ?_) (fun c_26 => ?_)
              · have gc_26 : l_24.toInt < 0 := i_lt (rfl : l_24.toInt = l_24.toInt) (by decide : (0 : Int32).toInt = 0) c_26
                refine lv_aload_n hx hb dX9_check_107 rfl (lv_at hl 3 rfl) ?_
                refine gt_SP_SP_tape hx hb hts hown hK hP lwd_15 dX9_check_108 ?_
                refine lv_iconst (v := 0) hx hb dX9_check_111 (by decide) ?_
                refine pt_SP_tape_size (x := 0) hx hb hts hown hK hP hD hS lwd_288 dX9_check_112 (fun H locs hP hD hS => ?_)
                refine lv_iload_n hx hb dX9_check_115 rfl (lv_at hl 1 rfl) ?_
                have k_27 : (0 : Int32).toInt = 0 := by decide
                exact hrt l_23 0 zmarches_gone_9 zrletters_10 zrstack_11 zminutesOn_12 zmtired_13 ztiredOn_14 ⟨(by omega), (by omega), p_16, p_17⟩ hP hD hS rfl dX9_check_116
              · have gc_26 : 0 ≤ l_24.toInt := i_nlt (rfl : l_24.toInt = l_24.toInt) (by decide : (0 : Int32).toInt = 0) c_26
                refine lv_aload_n hx hb dX9_check_76 rfl (lv_at hl 3 rfl) ?_
                refine gt_SP_SP_tape hx hb hts hown hK hP lwd_15 dX9_check_77 ?_
                refine lv_iload hx hb dX9_check_80 (lv_at hl 0 rfl) ?_
                refine xi hD hS hA (xV (As := [.int l_24]) (rest := []) hx hb hml hown hts hK hP hD hS hA NS_ok hN hAe hl.1 ⟨Nat.le_refl _, Nat.le_refl _⟩ 1 rfl rfl rfl (c_X8_number l D cy hs hH hT sH sT v_tape_size v_band_walkers v_band_loads v_band_pieces v_rules_clauses v_reader_end v_reader_at v_reader_length v_reader_letter v_reader_fault v_draft_clauses v_paces_version v_packing_quicker v_packing_loads v_packing_looseCount v_marches_told v_marches_changeMinutes v_marches_marching zmarches_gone_9 v_search_known v_search_countHere v_search_countThere v_search_cost v_search_most v_search_found f_bytes f_knee f_weight f_limps f_bheft f_owner f_food f_miles f_slope f_rsteps f_rkind f_ryields f_rholds zrletters_10 zrstack_11 f_dsteps f_dkind f_dyields f_dholds f_dletters f_dstack f_caps f_versions f_sharing f_pheft f_prow f_holder f_comes f_pcaps f_room f_loose f_reached f_mrow zminutesOn_12 zmtired_13 f_here f_there f_statesHere f_statesThere f_listed f_stired f_burdens f_pacesOn f_restedOn f_behindOn f_behindFor f_first f_second f_plans ztiredOn_14 tS H.size l_24 hr_bytes (by omega)) (gi_V lwd_1228 lwd_1229 lwd_1230 lwd_14 lwd_1231) ⟨rfl, hd_X8_number⟩ ⟨Nat.le_of_ble_eq_true rfl, Nat.le_of_ble_eq_true rfl⟩ rfl (Nat.le_of_ble_eq_true rfl) dX9_check_82) (fun r_29 u_28 H locs hw hP hD hS => ?_)
                try dsimp only at hw hP hD
                clear hw
                refine lv_aload_n hx hb dX9_check_85 rfl (lv_at hl 3 rfl) ?_
                refine gt_SP_SP_marches hx hb hts hown hK hP lwd_39 dX9_check_86 ?_
                refine gt_SP_marches_minutesOn hx hb hts hown hK hP lwd_1227 dX9_check_89 ?_
                refine lv_iload hx hb dX9_check_92 (lv_at hl 0 rfl) ?_
                refine al_minutesOn hx hb hK hP (i_in (rfl : l_24.toInt = l_24.toInt) (by omega) (by omega)) dX9_check_94 (fun n_30 en_30 => ?_)
                refine lv_icmp_eq (tgt := 101) hx hb dX9_check_95 (by decide) (fun c_31 => ?_) (fun c_31 => ?_)
                · have gc_31 : r_29.toInt = n_30.toInt := i_eq (rfl : r_29.toInt = r_29.toInt) (rfl : n_30.toInt = n_30.toInt) c_31
                  obtain ⟨n_32, en_32⟩ : ∃ y : Int32, y = l_24 + (-1) := ⟨_, rfl⟩
                  have tn_32 : n_32.toInt = l_24.toInt + (-1) := i_add en_32 (rfl : l_24.toInt = l_24.toInt) (by decide : ((-1) : Int32).toInt = (-1)) (by omega) (by omega)
                  refine lv_iinc (v := n_32) (lv' := [(4, .int n_32), (3, .int l_23), (2, .int n_18), (0, .ref (hs 0)), (1, .int n1)]) hx hb dX9_check_101 hl (k := 0) rfl (by rw [en_32]; rfl) (by decide) rfl (fun ls hl => ?_)
                  refine lv_goto (tgt := 71) hx hb dX9_check_104 (by decide) ?_
                  exact ih71_25 l_23 n_32 (by omega) (by omega) _ _ _ hP hD hS (lv_sub hl [0, 1, 2, 3, 4] rfl)
                · have gc_31 : r_29.toInt ≠ n_30.toInt := i_ne (rfl : r_29.toInt = r_29.toInt) (rfl : n_30.toInt = n_30.toInt) c_31
                  refine lv_iload hx hb dX9_check_98 (lv_at hl 0 rfl) ?_
                  refine lv_istore_n (lv' := [(3, .int l_24), (4, .int l_24), (2, .int n_18), (0, .ref (hs 0)), (1, .int n1)]) hx hb dX9_check_100 rfl hl (by decide) rfl (fun ls hl => ?_)
                  obtain ⟨n_33, en_33⟩ : ∃ y : Int32, y = l_24 + (-1) := ⟨_, rfl⟩
                  have tn_33 : n_33.toInt = l_24.toInt + (-1) := i_add en_33 (rfl : l_24.toInt = l_24.toInt) (by decide : ((-1) : Int32).toInt = (-1)) (by omega) (by omega)
                  refine lv_iinc (v := n_33) (lv' := [(4, .int n_33), (3, .int l_24), (2, .int n_18), (0, .ref (hs 0)), (1, .int n1)]) hx hb dX9_check_101 hl (k := 1) rfl (by rw [en_33]; rfl) (by decide) rfl (fun ls hl => ?_)
                  refine lv_goto (tgt := 71) hx hb dX9_check_104 (by decide) ?_
                  exact ih71_25 l_24 n_33 (by omega) (by omega) _ _ _ hP hD hS (lv_sub hl [0, 1, 2, 3, 4] rfl)
          exact L71_25 8589934592 n_18 n_20 (by omega) (by omega) _ _ _ hP hD hS (lv_sub hl [0, 1, 2, 3, 4] rfl)
        · have gc_19 : n1.toInt = zmarches_gone_9.toInt := i_eq (rfl : n1.toInt = n1.toInt) (rfl : zmarches_gone_9.toInt = zmarches_gone_9.toInt) c_19
          refine lv_iconst (v := (-1)) hx hb dX9_check_60 (by decide) ?_
          refine lv_goto (tgt := 65) hx hb dX9_check_61 (by decide) ?_
          refine lv_istore_n (lv' := [(3, .int (-1)), (2, .int n_18), (0, .ref (hs 0)), (1, .int n1)]) hx hb dX9_check_65 rfl hl (by decide) rfl (fun ls hl => ?_)
          refine lv_iload_n hx hb dX9_check_66 rfl (lv_at hl 1 rfl) ?_
          refine lv_iconst (v := 1) hx hb dX9_check_67 (by decide) ?_
          refine lv_isub hx hb dX9_check_68 ?_
          refine lv_topi (fun n_34 en_34 => ?_)
          have tn_34 : n_34.toInt = n_18.toInt - 1 := i_sub en_34 (rfl : n_18.toInt = n_18.toInt) (by decide : (1 : Int32).toInt = 1) (by omega) (by omega)
          refine lv_istore (lv' := [(4, .int n_34), (3, .int (-1)), (2, .int n_18), (0, .ref (hs 0)), (1, .int n1)]) hx hb dX9_check_69 hl (by decide) rfl (fun ls hl => ?_)
          have L71_39 : ∀ (n : Nat) (l_37 : Int32) (l_38 : Int32), (-1000 ≤ l_38.toInt ∧ l_38.toInt ≤ 9) → l_38.toInt + 1001 < n → ∀ (H : Heap) (locs : List Loc) (ls : Array Slot), va_P D vwCl (wSP cy hs hH hT sH sT v_tape_size v_band_walkers v_band_loads v_band_pieces v_rules_clauses v_reader_end v_reader_at v_reader_length v_reader_letter v_reader_fault v_draft_clauses v_paces_version v_packing_quicker v_packing_loads v_packing_looseCount v_marches_told v_marches_changeMinutes v_marches_marching zmarches_gone_9 v_search_known v_search_countHere v_search_countThere v_search_cost v_search_most v_search_found f_bytes f_knee f_weight f_limps f_bheft f_owner f_food f_miles f_slope f_rsteps f_rkind f_ryields f_rholds zrletters_10 zrstack_11 f_dsteps f_dkind f_dyields f_dholds f_dletters f_dstack f_caps f_versions f_sharing f_pheft f_prow f_holder f_comes f_pcaps f_room f_loose f_reached f_mrow zminutesOn_12 zmtired_13 f_here f_there f_statesHere f_statesThere f_listed f_stired f_burdens f_pacesOn f_restedOn f_behindOn f_behindFor f_first f_second f_plans ztiredOn_14) H → va_D A (wSP cy hs hH hT sH sT v_tape_size v_band_walkers v_band_loads v_band_pieces v_rules_clauses v_reader_end v_reader_at v_reader_length v_reader_letter v_reader_fault v_draft_clauses v_paces_version v_packing_quicker v_packing_loads v_packing_looseCount v_marches_told v_marches_changeMinutes v_marches_marching zmarches_gone_9 v_search_known v_search_countHere v_search_countThere v_search_cost v_search_most v_search_found f_bytes f_knee f_weight f_limps f_bheft f_owner f_food f_miles f_slope f_rsteps f_rkind f_ryields f_rholds zrletters_10 zrstack_11 f_dsteps f_dkind f_dyields f_dholds f_dletters f_dstack f_caps f_versions f_sharing f_pheft f_prow f_holder f_comes f_pcaps f_room f_loose f_reached f_mrow zminutesOn_12 zmtired_13 f_here f_there f_statesHere f_statesThere f_listed f_stired f_burdens f_pacesOn f_restedOn f_behindOn f_behindFor f_first f_second f_plans ztiredOn_14) → va_S A s.heap H locs → lv_has ls 5 [(4, .int l_38), (3, .int l_37), (2, .int n_18), (0, .ref (hs 0)), (1, .int n1)] → W p l e (gRm 6) s m args below meth c H locs 0 0 Q (F0 m 71 ls []) := by
            intro n
            induction n with
            | zero => intro l_37 l_38 hL71_39_0 hm; exact absurd hm (by omega)
            | succ n ih71_39 =>
              intro l_37 l_38 hL71_39_0 hmL71_39 H locs ls hP hD hS hl
              refine lv_iload hx hb dX9_check_71 (lv_at hl 0 rfl) ?_
              refine lv_if_lt (tgt := 107) hx hb dX9_check_73 (by decide) (fun c_40 => ?_) (fun c_40 => ?_)
              · have gc_40 : l_38.toInt < 0 := i_lt (rfl : l_38.toInt = l_38.toInt) (by decide : (0 : Int32).toInt = 0) c_40
                refine lv_aload_n hx hb dX9_check_107 rfl (lv_at hl 3 rfl) ?_
                refine gt_SP_SP_tape hx hb hts hown hK hP lwd_15 dX9_check_108 ?_
                refine lv_iconst (v := 0) hx hb dX9_check_111 (by decide) ?_
                refine pt_SP_tape_size (x := 0) hx hb hts hown hK hP hD hS lwd_288 dX9_check_112 (fun H locs hP hD hS => ?_)
                refine lv_iload_n hx hb dX9_check_115 rfl (lv_at hl 1 rfl) ?_
                have k_41 : (0 : Int32).toInt = 0 := by decide
                exact hrt l_37 0 zmarches_gone_9 zrletters_10 zrstack_11 zminutesOn_12 zmtired_13 ztiredOn_14 ⟨(by omega), (by omega), p_16, p_17⟩ hP hD hS rfl dX9_check_116
              · have gc_40 : 0 ≤ l_38.toInt := i_nlt (rfl : l_38.toInt = l_38.toInt) (by decide : (0 : Int32).toInt = 0) c_40
                refine lv_aload_n hx hb dX9_check_76 rfl (lv_at hl 3 rfl) ?_
                refine gt_SP_SP_tape hx hb hts hown hK hP lwd_15 dX9_check_77 ?_
                refine lv_iload hx hb dX9_check_80 (lv_at hl 0 rfl) ?_
                refine xi hD hS hA (xV (As := [.int l_38]) (rest := []) hx hb hml hown hts hK hP hD hS hA NS_ok hN hAe hl.1 ⟨Nat.le_refl _, Nat.le_refl _⟩ 1 rfl rfl rfl (c_X8_number l D cy hs hH hT sH sT v_tape_size v_band_walkers v_band_loads v_band_pieces v_rules_clauses v_reader_end v_reader_at v_reader_length v_reader_letter v_reader_fault v_draft_clauses v_paces_version v_packing_quicker v_packing_loads v_packing_looseCount v_marches_told v_marches_changeMinutes v_marches_marching zmarches_gone_9 v_search_known v_search_countHere v_search_countThere v_search_cost v_search_most v_search_found f_bytes f_knee f_weight f_limps f_bheft f_owner f_food f_miles f_slope f_rsteps f_rkind f_ryields f_rholds zrletters_10 zrstack_11 f_dsteps f_dkind f_dyields f_dholds f_dletters f_dstack f_caps f_versions f_sharing f_pheft f_prow f_holder f_comes f_pcaps f_room f_loose f_reached f_mrow zminutesOn_12 zmtired_13 f_here f_there f_statesHere f_statesThere f_listed f_stired f_burdens f_pacesOn f_restedOn f_behindOn f_behindFor f_first f_second f_plans ztiredOn_14 tS H.size l_38 hr_bytes (by omega)) (gi_V lwd_1228 lwd_1229 lwd_1230 lwd_14 lwd_1231) ⟨rfl, hd_X8_number⟩ ⟨Nat.le_of_ble_eq_true rfl, Nat.le_of_ble_eq_true rfl⟩ rfl (Nat.le_of_ble_eq_true rfl) dX9_check_82) (fun r_43 u_42 H locs hw hP hD hS => ?_)
                try dsimp only at hw hP hD
                clear hw
                refine lv_aload_n hx hb dX9_check_85 rfl (lv_at hl 3 rfl) ?_
                refine gt_SP_SP_marches hx hb hts hown hK hP lwd_39 dX9_check_86 ?_
                refine gt_SP_marches_minutesOn hx hb hts hown hK hP lwd_1227 dX9_check_89 ?_
                refine lv_iload hx hb dX9_check_92 (lv_at hl 0 rfl) ?_
                refine al_minutesOn hx hb hK hP (i_in (rfl : l_38.toInt = l_38.toInt) (by omega) (by omega)) dX9_check_94 (fun n_44 en_44 => ?_)
                refine lv_icmp_eq (tgt := 101) hx hb dX9_check_95 (by decide) (fun c_45 => ?_) (fun c_45 => ?_)
                · have gc_45 : r_43.toInt = n_44.toInt := i_eq (rfl : r_43.toInt = r_43.toInt) (rfl : n_44.toInt = n_44.toInt) c_45
                  obtain ⟨n_46, en_46⟩ : ∃ y : Int32, y = l_38 + (-1) := ⟨_, rfl⟩
                  have tn_46 : n_46.toInt = l_38.toInt + (-1) := i_add en_46 (rfl : l_38.toInt = l_38.toInt) (by decide : ((-1) : Int32).toInt = (-1)) (by omega) (by omega)
                  refine lv_iinc (v := n_46) (lv' := [(4, .int n_46), (3, .int l_37), (2, .int n_18), (0, .ref (hs 0)), (1, .int n1)]) hx hb dX9_check_101 hl (k := 0) rfl (by rw [en_46]; rfl) (by decide) rfl (fun ls hl => ?_)
                  refine lv_goto (tgt := 71) hx hb dX9_check_104 (by decide) ?_
                  exact ih71_39 l_37 n_46 (by omega) (by omega) _ _ _ hP hD hS (lv_sub hl [0, 1, 2, 3, 4] rfl)
                · have gc_45 : r_43.toInt ≠ n_44.toInt := i_ne (rfl : r_43.toInt = r_43.toInt) (rfl : n_44.toInt = n_44.toInt) c_45
                  refine lv_iload hx hb dX9_check_98 (lv_at hl 0 rfl) ?_
                  refine lv_istore_n (lv' := [(3, .int l_38), (4, .int l_38), (2, .int n_18), (0, .ref (hs 0)), (1, .int n1)]) hx hb dX9_check_100 rfl hl (by decide) rfl (fun ls hl => ?_)
                  obtain ⟨n_47, en_47⟩ : ∃ y : Int32, y = l_38 + (-1) := ⟨_, rfl⟩
                  have tn_47 : n_47.toInt = l_38.toInt + (-1) := i_add en_47 (rfl : l_38.toInt = l_38.toInt) (by decide : ((-1) : Int32).toInt = (-1)) (by omega) (by omega)
                  refine lv_iinc (v := n_47) (lv' := [(4, .int n_47), (3, .int l_38), (2, .int n_18), (0, .ref (hs 0)), (1, .int n1)]) hx hb dX9_check_101 hl (k := 1) rfl (by rw [en_47]; rfl) (by decide) rfl (fun ls hl => ?_)
                  refine lv_goto (tgt := 71) hx hb dX9_check_104 (by decide) ?_
                  exact ih71_39 l_38 n_47 (by omega) (by omega) _ _ _ hP hD hS (lv_sub hl [0, 1, 2, 3, 4] rfl)
          have k_48 : ((-1) : Int32).toInt = (-1) := by decide
          exact L71_39 8589934592 (-1) n_34 (by omega) (by omega) _ _ _ hP hD hS (lv_sub hl [0, 1, 2, 3, 4] rfl)
      · have gc_6 : v_tape_size.toInt / 4 < n1.toInt := i_nle (rfl : n1.toInt = n1.toInt) tn_5 c_6
        refine lv_bipush (v := (-2)) hx hb dX9_check_27 (by decide) ?_
        have k_49 : ((-2) : Int32).toInt = (-2) := by decide
        exact hrt (-2) v_tape_size v_marches_gone f_rletters f_rstack f_minutesOn f_mtired f_tiredOn ⟨(by omega), (by omega), hr_mtired, hr_tiredOn⟩ hP hD hS rfl dX9_check_29
set_option maxHeartbeats 16000000 in
set_option maxRecDepth 100000 in
theorem c_X9_count (l : Launch) (D : va_G) (cy : Nat → ClassId) (hs : Nat → Nat) (hH hT sH sT : Nat) (v_tape_size v_band_walkers v_band_loads v_band_pieces v_rules_clauses v_reader_end v_reader_at v_reader_length v_reader_letter v_reader_fault v_draft_clauses v_paces_version v_packing_quicker v_packing_loads v_packing_looseCount v_marches_told v_marches_changeMinutes v_marches_marching v_marches_gone v_search_known v_search_countHere v_search_countThere v_search_cost v_search_most : Int32) (v_search_found : Int64) (f_bytes f_knee f_weight f_limps f_bheft f_owner f_food f_miles f_slope f_rsteps f_rkind f_ryields f_rholds f_rletters f_rstack f_dsteps f_dkind f_dyields f_dholds f_dletters f_dstack f_caps f_versions f_sharing f_pheft f_prow f_holder f_comes f_pcaps f_room f_loose f_reached f_mrow f_minutesOn f_mtired : Nat → Int32) (f_here f_there : Nat → Int64) (f_statesHere f_statesThere f_listed f_stired f_burdens f_pacesOn f_restedOn f_behindOn f_behindFor f_first f_second : Nat → Int32) (f_plans f_tiredOn : Nat → Nat → Int32) (tS : Nat) (sz : Nat) (what : Int32) (hb_v_tape_size : 0 ≤ v_tape_size.toInt ∧ v_tape_size.toInt ≤ 220) (hb_v_band_walkers : 0 ≤ v_band_walkers.toInt ∧ v_band_walkers.toInt ≤ 6) (hb_v_band_loads : 0 ≤ v_band_loads.toInt ∧ v_band_loads.toInt ≤ 9) (hb_v_band_pieces : 0 ≤ v_band_pieces.toInt ∧ v_band_pieces.toInt ≤ 10) (hb_v_rules_clauses : 0 ≤ v_rules_clauses.toInt ∧ v_rules_clauses.toInt ≤ 14) (hb_v_marches_marching : 0 ≤ v_marches_marching.toInt ∧ v_marches_marching.toInt ≤ 1) (hr_bheft : rg (0) 120 f_bheft) (hr_food : rg (0) 20 f_food) : gMi l yX9_count cX9_count 2 .int 3 [.ref (hs 0), .int what] D cy (wSP cy hs hH hT sH sT v_tape_size v_band_walkers v_band_loads v_band_pieces v_rules_clauses v_reader_end v_reader_at v_reader_length v_reader_letter v_reader_fault v_draft_clauses v_paces_version v_packing_quicker v_packing_loads v_packing_looseCount v_marches_told v_marches_changeMinutes v_marches_marching v_marches_gone v_search_known v_search_countHere v_search_countThere v_search_cost v_search_most v_search_found f_bytes f_knee f_weight f_limps f_bheft f_owner f_food f_miles f_slope f_rsteps f_rkind f_ryields f_rholds f_rletters f_rstack f_dsteps f_dkind f_dyields f_dholds f_dletters f_dstack f_caps f_versions f_sharing f_pheft f_prow f_holder f_comes f_pcaps f_room f_loose f_reached f_mrow f_minutesOn f_mtired f_here f_there f_statesHere f_statesThere f_listed f_stired f_burdens f_pacesOn f_restedOn f_behindOn f_behindFor f_first f_second f_plans f_tiredOn) (NS tS) sz (fun (r : Int32) (u : Unit) => True) (fun u => wSP cy hs hH hT sH sT v_tape_size v_band_walkers v_band_loads v_band_pieces v_rules_clauses v_reader_end v_reader_at v_reader_length v_reader_letter v_reader_fault v_draft_clauses v_paces_version v_packing_quicker v_packing_loads v_packing_looseCount v_marches_told v_marches_changeMinutes v_marches_marching v_marches_gone v_search_known v_search_countHere v_search_countThere v_search_cost v_search_most v_search_found f_bytes f_knee f_weight f_limps f_bheft f_owner f_food f_miles f_slope f_rsteps f_rkind f_ryields f_rholds f_rletters f_rstack f_dsteps f_dkind f_dyields f_dholds f_dletters f_dstack f_caps f_versions f_sharing f_pheft f_prow f_holder f_comes f_pcaps f_room f_loose f_reached f_mrow f_minutesOn f_mtired f_here f_there f_statesHere f_statesThere f_listed f_stired f_burdens f_pacesOn f_restedOn f_behindOn f_behindFor f_first f_second f_plans f_tiredOn) := by
  refine gMi_in (by decide) (Nat.le_of_ble_eq_true rfl) ?_
  intro p e s m args below meth c A ls Q hx hb hml hts hown hsz hP hK hD hN hAe hA hS hl hret
  subst hsz
  have hl : lv_has ls 2 [(0, .ref (hs 0)), (1, .int what)] := hl
  have hrt := fun (r : Int32)   {H : Heap} {locs : List Loc} {pc : Nat} {ls : Array Slot} => hret r () (H := H) (locs := locs) (pc := pc) (ls := ls) trivial
  clear hret
  refine lv_iload_n hx hb dX9_count_0 rfl (lv_at hl 1 rfl) ?_
  refine lv_bipush (v := 10) hx hb dX9_count_1 (by decide) ?_
  refine lv_icmp_lt (tgt := 32) hx hb dX9_count_3 (by decide) (fun c_1 => ?_) (fun c_1 => ?_)
  · have gc_1 : what.toInt < 10 := i_lt (rfl : what.toInt = what.toInt) (by decide : (10 : Int32).toInt = 10) c_1
    refine lv_iload_n hx hb dX9_count_32 rfl (lv_at hl 1 rfl) ?_
    rcases (show what.toInt < 0 ∨ 7 < what.toInt ∨ what.toInt = 0 ∨ what.toInt = 1 ∨ what.toInt = 2 ∨ what.toInt = 3 ∨ what.toInt = 4 ∨ what.toInt = 5 ∨ what.toInt = 6 ∨ what.toInt = 7 by omega) with c_2 | c_2 | c_2 | c_2 | c_2 | c_2 | c_2 | c_2 | c_2 | c_2
    · refine lv_tableOut (tgt := 152) hx hb dX9_count_33 (Or.inl c_2) (by decide) ?_
      refine lv_iconst (v := (-1)) hx hb dX9_count_152 (by decide) ?_
      have k_3 : ((-1) : Int32).toInt = (-1) := by decide
      exact hrt (-1)   hP hD hS rfl dX9_count_153
    · refine lv_tableOut (tgt := 152) hx hb dX9_count_33 (Or.inr c_2) (by decide) ?_
      refine lv_iconst (v := (-1)) hx hb dX9_count_152 (by decide) ?_
      have k_4 : ((-1) : Int32).toInt = (-1) := by decide
      exact hrt (-1)   hP hD hS rfl dX9_count_153
    · refine lv_tableIn (tgt := 80) (off := 47) hx hb dX9_count_33 (by omega) (by omega) (by rw [c_2]; rfl) (by decide) ?_
      refine lv_aload_n hx hb dX9_count_80 rfl (lv_at hl 0 rfl) ?_
      refine gt_SP_SP_band hx hb hts hown hK hP lwd_19 dX9_count_81 ?_
      refine gt_SP_band_walkers hx hb hts hown hK hP lwd_206 dX9_count_84 ?_
      exact hrt v_band_walkers   hP hD hS rfl dX9_count_87
    · refine lv_tableIn (tgt := 88) (off := 55) hx hb dX9_count_33 (by omega) (by omega) (by rw [c_2]; rfl) (by decide) ?_
      refine lv_aload_n hx hb dX9_count_88 rfl (lv_at hl 0 rfl) ?_
      refine gt_SP_SP_band hx hb hts hown hK hP lwd_19 dX9_count_89 ?_
      refine gt_SP_band_loads hx hb hts hown hK hP lwd_233 dX9_count_92 ?_
      exact hrt v_band_loads   hP hD hS rfl dX9_count_95
    · refine lv_tableIn (tgt := 96) (off := 63) hx hb dX9_count_33 (by omega) (by omega) (by rw [c_2]; rfl) (by decide) ?_
      refine lv_aload_n hx hb dX9_count_96 rfl (lv_at hl 0 rfl) ?_
      refine gt_SP_SP_band hx hb hts hown hK hP lwd_19 dX9_count_97 ?_
      refine gt_SP_band_pieces hx hb hts hown hK hP lwd_258 dX9_count_100 ?_
      exact hrt v_band_pieces   hP hD hS rfl dX9_count_103
    · refine lv_tableIn (tgt := 104) (off := 71) hx hb dX9_count_33 (by omega) (by omega) (by rw [c_2]; rfl) (by decide) ?_
      refine lv_aload_n hx hb dX9_count_104 rfl (lv_at hl 0 rfl) ?_
      refine gt_SP_SP_rules hx hb hts hown hK hP lwd_23 dX9_count_105 ?_
      refine gt_SP_rules_clauses hx hb hts hown hK hP lwd_308 dX9_count_108 ?_
      exact hrt v_rules_clauses   hP hD hS rfl dX9_count_111
    · refine lv_tableIn (tgt := 112) (off := 79) hx hb dX9_count_33 (by omega) (by omega) (by rw [c_2]; rfl) (by decide) ?_
      refine lv_aload_n hx hb dX9_count_112 rfl (lv_at hl 0 rfl) ?_
      refine gt_SP_SP_tape hx hb hts hown hK hP lwd_15 dX9_count_113 ?_
      refine gt_SP_tape_size hx hb hts hown hK hP lwd_288 dX9_count_116 ?_
      exact hrt v_tape_size   hP hD hS rfl dX9_count_119
    · refine lv_tableIn (tgt := 120) (off := 87) hx hb dX9_count_33 (by omega) (by omega) (by rw [c_2]; rfl) (by decide) ?_
      refine lv_aload_n hx hb dX9_count_120 rfl (lv_at hl 0 rfl) ?_
      refine gt_SP_SP_marches hx hb hts hown hK hP lwd_39 dX9_count_121 ?_
      refine gt_SP_marches_changeMinutes hx hb hts hown hK hP lwd_279 dX9_count_124 ?_
      exact hrt v_marches_changeMinutes   hP hD hS rfl dX9_count_127
    · refine lv_tableIn (tgt := 128) (off := 95) hx hb dX9_count_33 (by omega) (by omega) (by rw [c_2]; rfl) (by decide) ?_
      refine lv_aload_n hx hb dX9_count_128 rfl (lv_at hl 0 rfl) ?_
      refine gt_SP_SP_marches hx hb hts hown hK hP lwd_39 dX9_count_129 ?_
      refine gt_SP_marches_told hx hb hts hown hK hP lwd_237 dX9_count_132 ?_
      exact hrt v_marches_told   hP hD hS rfl dX9_count_135
    · refine lv_tableIn (tgt := 136) (off := 103) hx hb dX9_count_33 (by omega) (by omega) (by rw [c_2]; rfl) (by decide) ?_
      refine lv_aload_n hx hb dX9_count_136 rfl (lv_at hl 0 rfl) ?_
      refine gt_SP_SP_marches hx hb hts hown hK hP lwd_39 dX9_count_137 ?_
      refine gt_SP_marches_marching hx hb hts hown hK hP lwd_210 dX9_count_140 ?_
      refine lv_if_eq (tgt := 150) hx hb dX9_count_143 (by decide) (fun c_5 => ?_) (fun c_5 => ?_)
      · have gc_5 : v_marches_marching.toInt = 0 := i_eq (rfl : v_marches_marching.toInt = v_marches_marching.toInt) (by decide : (0 : Int32).toInt = 0) c_5
        refine lv_iconst (v := 0) hx hb dX9_count_150 (by decide) ?_
        have k_6 : (0 : Int32).toInt = 0 := by decide
        exact hrt 0   hP hD hS rfl dX9_count_151
      · have gc_5 : v_marches_marching.toInt ≠ 0 := i_ne (rfl : v_marches_marching.toInt = v_marches_marching.toInt) (by decide : (0 : Int32).toInt = 0) c_5
        refine lv_iconst (v := 1) hx hb dX9_count_146 (by decide) ?_
        refine lv_goto (tgt := 151) hx hb dX9_count_147 (by decide) ?_
        have k_7 : (1 : Int32).toInt = 1 := by decide
        exact hrt 1   hP hD hS rfl dX9_count_151
  · have gc_1 : 10 ≤ what.toInt := i_nlt (rfl : what.toInt = what.toInt) (by decide : (10 : Int32).toInt = 10) c_1
    refine lv_aload_n hx hb dX9_count_6 rfl (lv_at hl 0 rfl) ?_
    refine gt_SP_SP_band hx hb hts hown hK hP lwd_19 dX9_count_7 ?_
    refine lv_iload_n hx hb dX9_count_10 rfl (lv_at hl 1 rfl) ?_
    refine lv_bipush (v := 10) hx hb dX9_count_11 (by decide) ?_
    refine lv_isub hx hb dX9_count_13 ?_
    have hb_8 := And.intro (i_bot what) (i_top what)
    refine lv_topi (fun n_9 en_9 => ?_)
    have tn_9 : n_9.toInt = what.toInt - 10 := i_sub en_9 (rfl : what.toInt = what.toInt) (by decide : (10 : Int32).toInt = 10) (by omega) (by omega)
    refine xi hD hS hA (xV (As := [.int n_9]) (rest := []) hx hb hml hown hts hK hP hD hS hA NS_ok hN hAe hl.1 ⟨Nat.le_refl _, Nat.le_refl _⟩ 3 rfl rfl rfl (c_X0_hasPiece l D cy hs hH hT sH sT v_tape_size v_band_walkers v_band_loads v_band_pieces v_rules_clauses v_reader_end v_reader_at v_reader_length v_reader_letter v_reader_fault v_draft_clauses v_paces_version v_packing_quicker v_packing_loads v_packing_looseCount v_marches_told v_marches_changeMinutes v_marches_marching v_marches_gone v_search_known v_search_countHere v_search_countThere v_search_cost v_search_most v_search_found f_bytes f_knee f_weight f_limps f_bheft f_owner f_food f_miles f_slope f_rsteps f_rkind f_ryields f_rholds f_rletters f_rstack f_dsteps f_dkind f_dyields f_dholds f_dletters f_dstack f_caps f_versions f_sharing f_pheft f_prow f_holder f_comes f_pcaps f_room f_loose f_reached f_mrow f_minutesOn f_mtired f_here f_there f_statesHere f_statesThere f_listed f_stired f_burdens f_pacesOn f_restedOn f_behindOn f_behindFor f_first f_second f_plans f_tiredOn tS s.heap.size n_9 (by omega)) (gi_V lwd_504 lwd_505 lwd_506 lwd_18 lwd_507) ⟨rfl, hd_X0_hasPiece⟩ ⟨Nat.le_of_ble_eq_true rfl, Nat.le_of_ble_eq_true rfl⟩ rfl (Nat.le_of_ble_eq_true rfl) dX9_count_14) (fun r_11 u_10 H locs hw hP hD hS => ?_)
    try dsimp only at hw hP hD
    obtain ⟨p_12, p_13⟩ := hw
    refine lv_if_eq (tgt := 32) hx hb dX9_count_17 (by decide) (fun c_14 => ?_) (fun c_14 => ?_)
    · have gc_14 : r_11.toInt = 0 := i_eq (rfl : r_11.toInt = r_11.toInt) (by decide : (0 : Int32).toInt = 0) c_14
      refine lv_iload_n hx hb dX9_count_32 rfl (lv_at hl 1 rfl) ?_
      rcases (show what.toInt < 0 ∨ 7 < what.toInt ∨ what.toInt = 0 ∨ what.toInt = 1 ∨ what.toInt = 2 ∨ what.toInt = 3 ∨ what.toInt = 4 ∨ what.toInt = 5 ∨ what.toInt = 6 ∨ what.toInt = 7 by omega) with c_15 | c_15 | c_15 | c_15 | c_15 | c_15 | c_15 | c_15 | c_15 | c_15
      · refine lv_tableOut (tgt := 152) hx hb dX9_count_33 (Or.inl c_15) (by decide) ?_
        refine lv_iconst (v := (-1)) hx hb dX9_count_152 (by decide) ?_
        have k_16 : ((-1) : Int32).toInt = (-1) := by decide
        exact hrt (-1)   hP hD hS rfl dX9_count_153
      · refine lv_tableOut (tgt := 152) hx hb dX9_count_33 (Or.inr c_15) (by decide) ?_
        refine lv_iconst (v := (-1)) hx hb dX9_count_152 (by decide) ?_
        have k_17 : ((-1) : Int32).toInt = (-1) := by decide
        exact hrt (-1)   hP hD hS rfl dX9_count_153
      · refine lv_tableIn (tgt := 80) (off := 47) hx hb dX9_count_33 (by omega) (by omega) (by rw [c_15]; rfl) (by decide) ?_
        refine lv_aload_n hx hb dX9_count_80 rfl (lv_at hl 0 rfl) ?_
        refine gt_SP_SP_band hx hb hts hown hK hP lwd_19 dX9_count_81 ?_
        refine gt_SP_band_walkers hx hb hts hown hK hP lwd_206 dX9_count_84 ?_
        exact hrt v_band_walkers   hP hD hS rfl dX9_count_87
      · refine lv_tableIn (tgt := 88) (off := 55) hx hb dX9_count_33 (by omega) (by omega) (by rw [c_15]; rfl) (by decide) ?_
        refine lv_aload_n hx hb dX9_count_88 rfl (lv_at hl 0 rfl) ?_
        refine gt_SP_SP_band hx hb hts hown hK hP lwd_19 dX9_count_89 ?_
        refine gt_SP_band_loads hx hb hts hown hK hP lwd_233 dX9_count_92 ?_
        exact hrt v_band_loads   hP hD hS rfl dX9_count_95
      · refine lv_tableIn (tgt := 96) (off := 63) hx hb dX9_count_33 (by omega) (by omega) (by rw [c_15]; rfl) (by decide) ?_
        refine lv_aload_n hx hb dX9_count_96 rfl (lv_at hl 0 rfl) ?_
        refine gt_SP_SP_band hx hb hts hown hK hP lwd_19 dX9_count_97 ?_
        refine gt_SP_band_pieces hx hb hts hown hK hP lwd_258 dX9_count_100 ?_
        exact hrt v_band_pieces   hP hD hS rfl dX9_count_103
      · refine lv_tableIn (tgt := 104) (off := 71) hx hb dX9_count_33 (by omega) (by omega) (by rw [c_15]; rfl) (by decide) ?_
        refine lv_aload_n hx hb dX9_count_104 rfl (lv_at hl 0 rfl) ?_
        refine gt_SP_SP_rules hx hb hts hown hK hP lwd_23 dX9_count_105 ?_
        refine gt_SP_rules_clauses hx hb hts hown hK hP lwd_308 dX9_count_108 ?_
        exact hrt v_rules_clauses   hP hD hS rfl dX9_count_111
      · refine lv_tableIn (tgt := 112) (off := 79) hx hb dX9_count_33 (by omega) (by omega) (by rw [c_15]; rfl) (by decide) ?_
        refine lv_aload_n hx hb dX9_count_112 rfl (lv_at hl 0 rfl) ?_
        refine gt_SP_SP_tape hx hb hts hown hK hP lwd_15 dX9_count_113 ?_
        refine gt_SP_tape_size hx hb hts hown hK hP lwd_288 dX9_count_116 ?_
        exact hrt v_tape_size   hP hD hS rfl dX9_count_119
      · refine lv_tableIn (tgt := 120) (off := 87) hx hb dX9_count_33 (by omega) (by omega) (by rw [c_15]; rfl) (by decide) ?_
        refine lv_aload_n hx hb dX9_count_120 rfl (lv_at hl 0 rfl) ?_
        refine gt_SP_SP_marches hx hb hts hown hK hP lwd_39 dX9_count_121 ?_
        refine gt_SP_marches_changeMinutes hx hb hts hown hK hP lwd_279 dX9_count_124 ?_
        exact hrt v_marches_changeMinutes   hP hD hS rfl dX9_count_127
      · refine lv_tableIn (tgt := 128) (off := 95) hx hb dX9_count_33 (by omega) (by omega) (by rw [c_15]; rfl) (by decide) ?_
        refine lv_aload_n hx hb dX9_count_128 rfl (lv_at hl 0 rfl) ?_
        refine gt_SP_SP_marches hx hb hts hown hK hP lwd_39 dX9_count_129 ?_
        refine gt_SP_marches_told hx hb hts hown hK hP lwd_237 dX9_count_132 ?_
        exact hrt v_marches_told   hP hD hS rfl dX9_count_135
      · refine lv_tableIn (tgt := 136) (off := 103) hx hb dX9_count_33 (by omega) (by omega) (by rw [c_15]; rfl) (by decide) ?_
        refine lv_aload_n hx hb dX9_count_136 rfl (lv_at hl 0 rfl) ?_
        refine gt_SP_SP_marches hx hb hts hown hK hP lwd_39 dX9_count_137 ?_
        refine gt_SP_marches_marching hx hb hts hown hK hP lwd_210 dX9_count_140 ?_
        refine lv_if_eq (tgt := 150) hx hb dX9_count_143 (by decide) (fun c_18 => ?_) (fun c_18 => ?_)
        · have gc_18 : v_marches_marching.toInt = 0 := i_eq (rfl : v_marches_marching.toInt = v_marches_marching.toInt) (by decide : (0 : Int32).toInt = 0) c_18
          refine lv_iconst (v := 0) hx hb dX9_count_150 (by decide) ?_
          have k_19 : (0 : Int32).toInt = 0 := by decide
          exact hrt 0   hP hD hS rfl dX9_count_151
        · have gc_18 : v_marches_marching.toInt ≠ 0 := i_ne (rfl : v_marches_marching.toInt = v_marches_marching.toInt) (by decide : (0 : Int32).toInt = 0) c_18
          refine lv_iconst (v := 1) hx hb dX9_count_146 (by decide) ?_
          refine lv_goto (tgt := 151) hx hb dX9_count_147 (by decide) ?_
          have k_20 : (1 : Int32).toInt = 1 := by decide
          exact hrt 1   hP hD hS rfl dX9_count_151
    · have gc_14 : r_11.toInt ≠ 0 := i_ne (rfl : r_11.toInt = r_11.toInt) (by decide : (0 : Int32).toInt = 0) c_14
      refine lv_aload_n hx hb dX9_count_20 rfl (lv_at hl 0 rfl) ?_
      refine gt_SP_SP_band hx hb hts hown hK hP lwd_19 dX9_count_21 ?_
      refine lv_iload_n hx hb dX9_count_24 rfl (lv_at hl 1 rfl) ?_
      refine lv_bipush (v := 10) hx hb dX9_count_25 (by decide) ?_
      refine lv_isub hx hb dX9_count_27 ?_
      refine lv_topi (fun n_21 en_21 => ?_)
      have tn_21 : n_21.toInt = what.toInt - 10 := i_sub en_21 (rfl : what.toInt = what.toInt) (by decide : (10 : Int32).toInt = 10) (by omega) (by omega)
      refine xi hD hS hA (xV (As := [.int n_21]) (rest := []) hx hb hml hown hts hK hP hD hS hA NS_ok hN hAe hl.1 ⟨Nat.le_refl _, Nat.le_refl _⟩ 3 rfl rfl rfl (c_X0_allHeftAt l D cy hs hH hT sH sT v_tape_size v_band_walkers v_band_loads v_band_pieces v_rules_clauses v_reader_end v_reader_at v_reader_length v_reader_letter v_reader_fault v_draft_clauses v_paces_version v_packing_quicker v_packing_loads v_packing_looseCount v_marches_told v_marches_changeMinutes v_marches_marching v_marches_gone v_search_known v_search_countHere v_search_countThere v_search_cost v_search_most v_search_found f_bytes f_knee f_weight f_limps f_bheft f_owner f_food f_miles f_slope f_rsteps f_rkind f_ryields f_rholds f_rletters f_rstack f_dsteps f_dkind f_dyields f_dholds f_dletters f_dstack f_caps f_versions f_sharing f_pheft f_prow f_holder f_comes f_pcaps f_room f_loose f_reached f_mrow f_minutesOn f_mtired f_here f_there f_statesHere f_statesThere f_listed f_stired f_burdens f_pacesOn f_restedOn f_behindOn f_behindFor f_first f_second f_plans f_tiredOn tS H.size n_21 (by omega) hr_bheft hr_food (by omega)) (gi_V lwd_840 lwd_841 lwd_842 lwd_18 lwd_843) ⟨rfl, hd_X0_allHeftAt⟩ ⟨Nat.le_of_ble_eq_true rfl, Nat.le_of_ble_eq_true rfl⟩ rfl (Nat.le_of_ble_eq_true rfl) dX9_count_28) (fun r_23 u_22 H locs hw hP hD hS => ?_)
      try dsimp only at hw hP hD
      clear hw
      exact hrt r_23   hP hD hS rfl dX9_count_31
